/-! what the reference keeps: read through R.1 alone; each part says where it looks -/
def agr (L : Nat → Nat → Bool) (R R' : xo_H) : Prop := ∀ m c, L m.1 c = true → R'.1 m c = R.1 m c
theorem agr_rfl {L : Nat → Nat → Bool} {R : xo_H} : agr L R R := fun _ _ _ => rfl
theorem agr_tr {L : Nat → Nat → Bool} {R R' R'' : xo_H} (h : agr L R R') (h' : agr L R' R'') : agr L R R'' := fun m c hl => (h' m c hl).trans (h m c hl)
theorem agr_set {L : Nat → Nat → Bool} {R : xo_H} {n : xo_N} {f : Nat} {v : Int32} (hl : L n.1 f = false) : agr L R (xo_sE R n f v) := fun m c hm => by
  rw [se_E1, if_neg]
  intro z
  rw [z.1, z.2, hl] at hm
  cases hm
theorem agr_to {L : Nat → Nat → Bool} {R R0 : xo_H} {n : xo_N} {f : Nat} {v : Int32} (h : agr L R R0) (hl : L n.1 f = false) : agr L R (xo_sE R0 n f v) := agr_tr h (agr_set hl)
theorem agr_hE {L : Nat → Nat → Bool} {R : xo_H} {k s a b : Int32} (h1 : L 50 47 = false) (h2 : ∀ c, (L 93 c || L 94 c || L 95 c) = false) : agr L R (hE R k s a b) := by
  unfold hE ev_R
  have z := h2 ((R.1 (50, 0) 47).toNatClampNeg % 64)
  simp only [Bool.or_eq_false_iff] at z
  exact agr_to (agr_to (agr_to (agr_set z.1.1) z.1.2) z.2) h1
/-- equal but for the events -/
def lEv (a c : Nat) : Bool := !(a == 93 || a == 94 || a == 95 || (a == 50 && c == 47))
theorem ev_hE {R : xo_H} {k s a b : Int32} : agr lEv R (hE R k s a b) := agr_hE rfl fun _ => rfl
theorem agr_le {L L' : Nat → Nat → Bool} {R R' : xo_H} (h : agr L R R') (hl : ∀ a c, L' a c = true → L a c = true) : agr L' R R' := fun m c hm => h m c (hl _ _ hm)
def jN (R : xo_H) : Nat := (R.1 (50, 0) 43).toNatClampNeg
def jF (R : xo_H) : Nat := (R.1 (50, 0) 42).toNatClampNeg
def jK (R : xo_H) (i : Nat) : Int32 := R.1 (90, 0) ((jF R + i) % 64)
def jW (R : xo_H) (i : Nat) : Int32 := R.1 (91, 0) ((jF R + i) % 64)
def has (R : xo_H) (k : Int32) (w : Nat) : Prop := ∃ i, i < jN R ∧ jK R i = k ∧ jW R i = nI w
def jv (g t p : Nat) (k w : Int32) : Prop := (k = 1 ∧ ∃ r, r < g ∧ w = nI r) ∨ (k = 2 ∧ ∃ r, r < g ∧ w = nI r) ∨ (k = 6 ∧ ∃ r, r < p ∧ w = nI r) ∨ ((k = 3 ∨ k = 4 ∨ k = 5) ∧ ∃ r, r < t ∧ w = nI r)
def slot (k w : Int32) : Nat := if k = 1 then w.toNatClampNeg else if k = 2 then 6 + w.toNatClampNeg else if k = 6 then 14 + w.toNatClampNeg else 12 + w.toNatClampNeg
def iS (R : xo_H) : Prop := ∀ r, R.1 (51, 0) r = 0 ∨ R.1 (51, 0) r = 1 ∨ R.1 (51, 0) r = 2
def iB (R : xo_H) : Prop := ∀ r, rB01 (R.1 (56, 0) r) ∧ rB01 (R.1 (57, 0) r)
def iE (R : xo_H) : Prop := ∀ r, ¬ R.1 (51, 0) r = 0 → R.1 (60, 0) r = 0 ∧ R.1 (62, 0) r = 0
def iQ (R : xo_H) : Prop := ∀ r, ¬ R.1 (60, 0) r = 0 → R.1 (62, 0) r = 0
def iH (g p : Nat) (R : xo_H) : Prop := ∀ r, r < g → (R.1 (58, 0) r = 0 → ∀ j m, R.1 (62, 0) r = nI m → m ≤ 8 → j < m → 0 < R.1 (61, 0) (8 * r + j)) ∧ (R.1 (58, 0) r = 1 → R.1 (62, 0) r = 0 ∨ (R.1 (62, 0) r = 1 ∧ ∃ k, k < p ∧ R.1 (88, 0) k = 0 ∧ R.1 (85, 0) k = nI r ∧ R.1 (61, 0) (8 * r) = -2 - nI k)) ∧ (R.1 (58, 0) r = 2 → R.1 (62, 0) r = 0 ∨ (R.1 (62, 0) r = 1 ∧ R.1 (61, 0) (8 * r) = -10))
def iN (q : Nat) (R : xo_H) : Prop := ∀ r, ∃ n, n ≤ q ∧ R.1 (63, 0) r = nI n
def iP (g : Nat) (R : xo_H) : Prop := ∀ r, r < g → (¬ R.1 (65, 0) r = -1 → ¬ R.1 (62, 0) r = 0 → R.1 (67, 0) r = 1) ∧ (R.1 (65, 0) r = -1 → R.1 (67, 0) r = 0 ∧ R.1 (68, 0) r = 0)
def iT1 (st mn dg : Int32) : Prop := sm_st st ∧ (dg = 0 ∨ dg = 3 ∨ dg = 4 ∨ dg = 5) ∧ (dg = 3 → ¬ mn = 0) ∧ (dg = 5 → st = 2)
def iT (R : xo_H) : Prop := ∀ w, iT1 (R.1 (70, 0) w) (R.1 (76, 0) w) (R.1 (79, 0) w)
def iX (g t p : Nat) (R : xo_H) : Prop := (∀ k, k < p → R.1 (88, 0) k = 0 → ∀ i w, R.1 (85, 0) k = nI i → R.1 (86, 0) k = nI w → i < g → w < t → ¬ R.1 (62, 0) i = 0 → ¬ R.1 (76, 0) w = 16) ∧ ∀ k k', k < p → k' < p → ¬ k = k' → R.1 (88, 0) k = 0 → R.1 (88, 0) k' = 0 → ¬ R.1 (86, 0) k = R.1 (86, 0) k'
def J1 (g t p : Nat) (R : xo_H) : Prop := (∀ i, i < jN R → jv g t p (jK R i) (jW R i)) ∧ ∀ i j, i < j → j < jN R → ¬ slot (jK R i) (jW R i) = slot (jK R j) (jW R j)
def JP (g : Nat) (R : xo_H) : Prop := ∀ r, r < g → (has R 1 r ↔ R.1 (64, 0) r = 1) ∧ rB01 (R.1 (64, 0) r) ∧ (R.1 (64, 0) r = 1 → R.1 (56, 0) r = 1)
def JD (g : Nat) (R : xo_H) : Prop := ∀ r, r < g → has R 2 r → ¬ R.1 (65, 0) r = -1 ∧ R.1 (67, 0) r = 1 ∧ R.1 (62, 0) r = 0
def JS (t : Nat) (R : xo_H) : Prop := ∀ w, w < t → rB01 (R.1 (84, 0) w) ∧ (R.1 (84, 0) w = 1 → ¬ R.1 (79, 0) w = 0) ∧ ∀ k : Int32, (k = 3 ∨ k = 4 ∨ k = 5) → (has R k w ↔ R.1 (84, 0) w = 1 ∧ R.1 (79, 0) w = k)
def JM (p : Nat) (R : xo_H) : Prop := ∀ k, k < p → rB01 (R.1 (89, 0) k) ∧ (has R 6 k ↔ R.1 (89, 0) k = 1)
def frG : List Nat := [51, 52, 55, 56, 57, 58, 60, 62, 63, 64, 67, 68, 69]
def frT : List Nat := [70, 71, 76, 77, 78, 79, 80, 81, 82, 83, 84]
def FR (g t p : Nat) (R : xo_H) : Prop := (∀ a ∈ frG, ∀ i, g ≤ i → R.1 (a, 0) i = 0) ∧ (∀ a ∈ frT, ∀ i, t ≤ i → R.1 (a, 0) i = 0) ∧ ∀ a ∈ [88, 89], ∀ i, p ≤ i → R.1 (a, 0) i = 0
def lI_F (a _c : Nat) : Bool := a == 51 || a == 52
def lI_S (a _c : Nat) : Bool := a == 51
def lI_B (a _c : Nat) : Bool := a == 56 || a == 57
def lI_E (a _c : Nat) : Bool := a == 51 || a == 60 || a == 62
def lI_Q (a _c : Nat) : Bool := a == 60 || a == 62
def lI_H (a _c : Nat) : Bool := a == 58 || a == 61 || a == 62 || a == 85 || a == 88
def lI_N (a _c : Nat) : Bool := a == 63
def lI_P (a _c : Nat) : Bool := a == 62 || a == 65 || a == 67 || a == 68
def lI_T (a _c : Nat) : Bool := a == 70 || a == 76 || a == 79
def lI_X (a _c : Nat) : Bool := a == 62 || a == 76 || a == 85 || a == 86 || a == 88
def lJ (a c : Nat) : Bool := a == 90 || a == 91 || (a == 50 && (c == 42 || c == 43))
def lJ_P (a c : Nat) : Bool := lJ a c || a == 64 || a == 56
def lJ_D (a c : Nat) : Bool := lJ a c || a == 62 || a == 65 || a == 67
def lJ_S (a c : Nat) : Bool := lJ a c || a == 79 || a == 84
def lJ_M (a c : Nat) : Bool := lJ a c || a == 89
def lFR (a _c : Nat) : Bool := frG.contains a || frT.contains a || a == 88 || a == 89
section KV
variable {R R' : xo_H} {g t p q : Nat}
theorem ka_F (h : agr lI_F R R') (z : iF R) : iF R' := fun r => by
  rw [h (51, 0) r rfl, h (52, 0) r rfl]; exact z r
theorem ka_S (h : agr lI_S R R') (z : iS R) : iS R' := fun r => by
  rw [h (51, 0) r rfl]; exact z r
theorem ka_B (h : agr lI_B R R') (z : iB R) : iB R' := fun r => by
  rw [h (56, 0) r rfl, h (57, 0) r rfl]; exact z r
theorem ka_E (h : agr lI_E R R') (z : iE R) : iE R' := fun r => by
  rw [h (51, 0) r rfl, h (60, 0) r rfl, h (62, 0) r rfl]; exact z r
theorem ka_Q (h : agr lI_Q R R') (z : iQ R) : iQ R' := fun r => by
  rw [h (60, 0) r rfl, h (62, 0) r rfl]; exact z r
theorem ka_H (h : agr lI_H R R') (z : iH g p R) : iH g p R' := fun r hr => by
  have e61 : ∀ c, R'.1 (61, 0) c = R.1 (61, 0) c := fun c => h (61, 0) c rfl
  have e85 : ∀ c, R'.1 (85, 0) c = R.1 (85, 0) c := fun c => h (85, 0) c rfl
  have e88 : ∀ c, R'.1 (88, 0) c = R.1 (88, 0) c := fun c => h (88, 0) c rfl
  rw [h (58, 0) r rfl, h (62, 0) r rfl]
  simp only [e61, e85, e88]
  exact z r hr
theorem ka_N (h : agr lI_N R R') (z : iN q R) : iN q R' := fun r => by
  rw [h (63, 0) r rfl]; exact z r
theorem ka_P (h : agr lI_P R R') (z : iP g R) : iP g R' := fun r hr => by
  rw [h (62, 0) r rfl, h (65, 0) r rfl, h (67, 0) r rfl, h (68, 0) r rfl]; exact z r hr
theorem ka_T (h : agr lI_T R R') (z : iT R) : iT R' := fun w => by
  rw [h (70, 0) w rfl, h (76, 0) w rfl, h (79, 0) w rfl]; exact z w
theorem ka_X (h : agr lI_X R R') (z : iX g t p R) : iX g t p R' := by
  have e62 : ∀ c, R'.1 (62, 0) c = R.1 (62, 0) c := fun c => h (62, 0) c rfl
  have e76 : ∀ c, R'.1 (76, 0) c = R.1 (76, 0) c := fun c => h (76, 0) c rfl
  have e85 : ∀ c, R'.1 (85, 0) c = R.1 (85, 0) c := fun c => h (85, 0) c rfl
  have e86 : ∀ c, R'.1 (86, 0) c = R.1 (86, 0) c := fun c => h (86, 0) c rfl
  have e88 : ∀ c, R'.1 (88, 0) c = R.1 (88, 0) c := fun c => h (88, 0) c rfl
  unfold iX
  simp only [e62, e76, e85, e86, e88]
  exact z
theorem ka_j (h : agr lJ R R') : jN R' = jN R ∧ (∀ i, jK R' i = jK R i) ∧ ∀ i, jW R' i = jW R i := by
  have e1 : jN R' = jN R := by unfold jN; rw [h (50, 0) 43 rfl]
  have e2 : jF R' = jF R := by unfold jF; rw [h (50, 0) 42 rfl]
  refine ⟨e1, fun i => ?_, fun i => ?_⟩
  · unfold jK; rw [e2]; exact h (90, 0) _ rfl
  · unfold jW; rw [e2]; exact h (91, 0) _ rfl
theorem ka_has (h : agr lJ R R') (k : Int32) (w : Nat) : has R' k w ↔ has R k w := by
  obtain ⟨e1, e2, e3⟩ := ka_j h
  unfold has
  simp only [e1, e2, e3]
theorem ka_J1 (h : agr lJ R R') (z : J1 g t p R) : J1 g t p R' := by
  obtain ⟨e1, e2, e3⟩ := ka_j h
  unfold J1
  simp only [e1, e2, e3]
  exact z
theorem ka_JP (h : agr lJ_P R R') (z : JP g R) : JP g R' := fun r hr => by
  rw [ka_has (agr_le h fun a c e => by unfold lJ_P; rw [e]; rfl), h (64, 0) r rfl, h (56, 0) r rfl]; exact z r hr
theorem ka_JD (h : agr lJ_D R R') (z : JD g R) : JD g R' := fun r hr => by
  rw [ka_has (agr_le h fun a c e => by unfold lJ_D; rw [e]; rfl), h (62, 0) r rfl, h (65, 0) r rfl, h (67, 0) r rfl]; exact z r hr
theorem ka_JS (h : agr lJ_S R R') (z : JS t R) : JS t R' := fun w hw => by
  have e : ∀ k, (has R' k w ↔ has R k w) := fun k => ka_has (agr_le h fun a c e => by unfold lJ_S; rw [e]; rfl) k w
  rw [h (79, 0) w rfl, h (84, 0) w rfl]
  simp only [e]
  exact z w hw
theorem ka_JM (h : agr lJ_M R R') (z : JM p R) : JM p R' := fun k hk => by
  rw [ka_has (agr_le h fun a c e => by unfold lJ_M; rw [e]; rfl), h (89, 0) k rfl]; exact z k hk
theorem ka_FR (h : agr lFR R R') (z : FR g t p R) : FR g t p R' := by
  refine ⟨fun a ha i hi => ?_, fun a ha i hi => ?_, fun a ha i hi => ?_⟩
  · rw [h (a, 0) i (by show lFR a i = true; unfold lFR; simp [ha])]; exact z.1 a ha i hi
  · rw [h (a, 0) i (by show lFR a i = true; unfold lFR; simp [ha])]; exact z.2.1 a ha i hi
  · rw [h (a, 0) i (by show lFR a i = true; unfold lFR; simp at ha; rcases ha with e | e <;> simp [e])]; exact z.2.2 a ha i hi
end KV
def Inv (g t p q : Nat) (R : xo_H) : Prop := iF R ∧ iS R ∧ iB R ∧ iE R ∧ iQ R ∧ iH g p R ∧ iN q R ∧ iP g R ∧ iT R ∧ iX g t p R ∧ J1 g t p R ∧ JP g R ∧ JD g R ∧ JS t R ∧ JM p R ∧ FR g t p R
/-- everything that the invariant reads stays -/
def lI (a c : Nat) : Bool := !(a == 93 || a == 94 || a == 95 || (a == 50 && c == 47) || a == 92 || a == 59 || a == 53 || a == 54 || a == 72 || a == 73 || a == 74 || a == 75 || a == 66 || a == 87)
theorem lI_le {L : Nat → Nat → Bool} (h : ∀ a c, lI a c = false → L a c = false) : ∀ a c, L a c = true → lI a c = true := fun a c e => by
  cases e' : lI a c
  · rw [h a c e'] at e; cases e
  · rfl
theorem lI_f {a c : Nat} (h : lI a c = false) : a = 93 ∨ a = 94 ∨ a = 95 ∨ (a = 50 ∧ c = 47) ∨ a = 92 ∨ a = 59 ∨ a = 53 ∨ a = 54 ∨ a = 72 ∨ a = 73 ∨ a = 74 ∨ a = 75 ∨ a = 66 ∨ a = 87 := by
  unfold lI at h
  simp only [Bool.not_eq_false', Bool.or_eq_true, Bool.and_eq_true, beq_iff_eq] at h
  omega
theorem lI_all {L : Nat → Nat → Bool} (h : ∀ c, L 93 c = false ∧ L 94 c = false ∧ L 95 c = false ∧ L 92 c = false ∧ L 59 c = false ∧ L 53 c = false ∧ L 54 c = false ∧ L 72 c = false ∧ L 73 c = false ∧ L 74 c = false ∧ L 75 c = false ∧ L 66 c = false ∧ L 87 c = false) (h5 : L 50 47 = false) : ∀ a c, L a c = true → lI a c = true := lI_le fun a c e => by
  obtain ⟨h1, h2, h3, h4, h6, h7, h8, h9, h10, h11, h12, h13, h14⟩ := h c
  rcases lI_f e with z | z | z | z | z | z | z | z | z | z | z | z | z | z
  · rw [z]; exact h1
  · rw [z]; exact h2
  · rw [z]; exact h3
  · rw [z.1, z.2]; exact h5
  · rw [z]; exact h4
  · rw [z]; exact h6
  · rw [z]; exact h7
  · rw [z]; exact h8
  · rw [z]; exact h9
  · rw [z]; exact h10
  · rw [z]; exact h11
  · rw [z]; exact h12
  · rw [z]; exact h13
  · rw [z]; exact h14
theorem ka_Inv {g t p q : Nat} {R R' : xo_H} (h : agr lI R R') (z : Inv g t p q R) : Inv g t p q R' := by
  have k : ∀ {L : Nat → Nat → Bool}, (∀ c, L 93 c = false ∧ L 94 c = false ∧ L 95 c = false ∧ L 92 c = false ∧ L 59 c = false ∧ L 53 c = false ∧ L 54 c = false ∧ L 72 c = false ∧ L 73 c = false ∧ L 74 c = false ∧ L 75 c = false ∧ L 66 c = false ∧ L 87 c = false) → L 50 47 = false → agr L R R' := fun a b => agr_le h (lI_all a b)
  obtain ⟨z1, z2, z3, z4, z5, z6, z7, z8, z9, z10, z11, z12, z13, z14, z15, z16⟩ := z
  have f : ∀ c : Nat, (false = false ∧ false = false ∧ false = false ∧ false = false ∧ false = false ∧ false = false ∧ false = false ∧ false = false ∧ false = false ∧ false = false ∧ false = false ∧ false = false ∧ false = false) := fun _ => ⟨rfl, rfl, rfl, rfl, rfl, rfl, rfl, rfl, rfl, rfl, rfl, rfl, rfl⟩
  exact ⟨ka_F (k f rfl) z1, ka_S (k f rfl) z2, ka_B (k f rfl) z3, ka_E (k f rfl) z4, ka_Q (k f rfl) z5, ka_H (k f rfl) z6, ka_N (k f rfl) z7, ka_P (k f rfl) z8, ka_T (k f rfl) z9, ka_X (k f rfl) z10, ka_J1 (k f rfl) z11, ka_JP (k f rfl) z12, ka_JD (k f rfl) z13, ka_JS (k f rfl) z14, ka_JM (k f rfl) z15, ka_FR (k f rfl) z16⟩
theorem ev_Inv {g t p q : Nat} {R R' : xo_H} (h : agr lEv R R') (z : Inv g t p q R) : Inv g t p q R' := ka_Inv (agr_le h (fun a c e => by
  cases e' : lEv a c
  · unfold lEv at e'
    simp only [Bool.not_eq_false', Bool.or_eq_true, Bool.and_eq_true, beq_iff_eq] at e'
    unfold lI at e
    simp only [Bool.not_eq_true', Bool.or_eq_false_iff, Bool.and_eq_false_iff, beq_eq_false_iff_ne] at e
    omega
  · rfl)) z
theorem Inv_hE {g t p q : Nat} {R : xo_H} {k s a b : Int32} (z : Inv g t p q R) : Inv g t p q (hE R k s a b) := ev_Inv ev_hE z
