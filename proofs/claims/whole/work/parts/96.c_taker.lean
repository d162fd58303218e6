section TK
variable {b g t p q : Nat} {C R : xo_H} {mk bv : Int32}
def tkC (C : xo_H) (t : Nat) (mk bv : Int32) : xo_H := xo_sE (xo_sP (xo_sP (xo_sP (xo_sE (xo_sE (xo_sE (xo_sP (nRow (nQ (xo_sN C (30, t)) (31, t) (32, t) (33, t) mk bv) (34, t) (35, t)) (30, t) 3 (some (34, t))) (30, t) 4 0) (30, t) 7 0) (30, t) 0 (nI t)) (30, t) 1 (some (31, t))) (30, t) 2 (some (1, 0))) (13, 0) t (some (30, t))) (0, 0) 6 (nI (t + 1))
def tkR (R : xo_H) (t : Nat) (mk bv : Int32) : xo_H := xo_sE (xo_sE (xo_sE R (72, 0) t mk) (73, 0) t bv) (50, 0) 20 (nI (t + 1))
theorem tkC_1 {m : xo_N} {f : Nat} (hm : ¬ (30 ≤ m.1 ∧ m.1 ≤ 35 ∧ m.2 = t)) (h0 : ¬ (m = (0, 0) ∧ f = 6)) : (tkC C t mk bv).1 m f = C.1 m f := by
  have e20 : ¬ m = (30, t) := fun e => hm (by rw [e]; simp)
  have e21 : ¬ m = (31, t) := fun e => hm (by rw [e]; simp)
  have e22 : ¬ m = (32, t) := fun e => hm (by rw [e]; simp)
  have e23 : ¬ m = (33, t) := fun e => hm (by rw [e]; simp)
  have e24 : ¬ m = (34, t) := fun e => hm (by rw [e]; simp)
  have e25 : ¬ m = (35, t) := fun e => hm (by rw [e]; simp)
  simp only [tkC, nQ, se_E1, se_P1, nRow_1, sN_1, e20, e21, e22, e23, e24, e25, h0, false_and, if_false]
theorem tkC_2 {m : xo_N} {f : Nat} (hm : ¬ (30 ≤ m.1 ∧ m.1 ≤ 35 ∧ m.2 = t)) (h0 : ¬ (m = (13, 0) ∧ f = t)) : (tkC C t mk bv).2.1 m f = C.2.1 m f := by
  have e20 : ¬ m = (30, t) := fun e => hm (by rw [e]; simp)
  have e21 : ¬ m = (31, t) := fun e => hm (by rw [e]; simp)
  have e22 : ¬ m = (32, t) := fun e => hm (by rw [e]; simp)
  have e23 : ¬ m = (33, t) := fun e => hm (by rw [e]; simp)
  have e24 : ¬ m = (34, t) := fun e => hm (by rw [e]; simp)
  have e25 : ¬ m = (35, t) := fun e => hm (by rw [e]; simp)
  simp only [tkC, nQ, se_E2, se_P2, nRow_2, sN_2, e20, e21, e22, e23, e24, e25, h0, false_and, if_false]
theorem tkC_3 {m : xo_N} (hm : ¬ (30 ≤ m.1 ∧ m.1 ≤ 35 ∧ m.2 = t)) : (tkC C t mk bv).2.2 m = C.2.2 m := by
  have e20 : ¬ m = (30, t) := fun e => hm (by rw [e]; simp)
  have e21 : ¬ m = (31, t) := fun e => hm (by rw [e]; simp)
  have e22 : ¬ m = (32, t) := fun e => hm (by rw [e]; simp)
  have e23 : ¬ m = (33, t) := fun e => hm (by rw [e]; simp)
  have e24 : ¬ m = (34, t) := fun e => hm (by rw [e]; simp)
  have e25 : ¬ m = (35, t) := fun e => hm (by rw [e]; simp)
  simp only [tkC, nQ, se_E2, se_P3, nRow_3, sN_3, e20, e21, e22, e23, e24, e25, if_false]
theorem tkC_n : (tkC C t mk bv).1 (0, 0) 6 = nI (t + 1) ∧ (tkC C t mk bv).1 (30, t) 0 = nI t ∧ (∀ f, ¬ f = 0 → (tkC C t mk bv).1 (30, t) f = 0) ∧ (tkC C t mk bv).1 (31, t) 1 = mk ∧ (tkC C t mk bv).1 (31, t) 2 = bv ∧ (tkC C t mk bv).1 (31, t) 3 = mk ∧ ∀ a f, 32 ≤ a → a ≤ 35 → (tkC C t mk bv).1 (a, t) f = 0 := by
  refine ⟨?_, ?_, fun f hf => ?_, ?_, ?_, ?_, fun a f h1 h2 => ?_⟩
  · simp [tkC, nQ, se_E1, se_P1, nRow_1, sN_1]
  · simp [tkC, nQ, se_E1, se_P1, nRow_1, sN_1]
  · simp [tkC, nQ, se_E1, se_P1, nRow_1, sN_1, hf]
  · simp [tkC, nQ, se_E1, se_P1, nRow_1, sN_1]
  · simp [tkC, nQ, se_E1, se_P1, nRow_1, sN_1]
  · simp [tkC, nQ, se_E1, se_P1, nRow_1, sN_1]
  · have : a = 32 ∨ a = 33 ∨ a = 34 ∨ a = 35 := by omega
    rcases this with e | e | e | e <;> subst e <;> simp [tkC, nQ, se_E1, se_P1, nRow_1, sN_1]
theorem tkC_p : (tkC C t mk bv).2.1 (13, 0) t = some (30, t) ∧ (tkC C t mk bv).2.1 (30, t) 1 = some (31, t) ∧ (tkC C t mk bv).2.1 (30, t) 2 = some (1, 0) ∧ (tkC C t mk bv).2.1 (30, t) 3 = some (34, t) ∧ (tkC C t mk bv).2.1 (31, t) 0 = some (32, t) ∧ (tkC C t mk bv).2.1 (32, t) 0 = some (33, t) ∧ (tkC C t mk bv).2.1 (34, t) 0 = some (35, t) := by
  refine ⟨?_, ?_, ?_, ?_, ?_, ?_, ?_⟩ <;> simp [tkC, nQ, se_E2, se_P2, nRow_2, sN_2]
theorem tkR_1 {a f : Nat} (h : ¬ (a = 50 ∧ f = 20)) (h1 : ¬ ((a = 72 ∨ a = 73) ∧ f = t)) : (tkR R t mk bv).1 (a, 0) f = R.1 (a, 0) f := by
  unfold tkR
  rw [se_nf (by simp; omega), se_nf (by simp; omega), se_nf (by simp; omega)]
theorem tkR_n : (tkR R t mk bv).1 (50, 0) 20 = nI (t + 1) ∧ (tkR R t mk bv).1 (72, 0) t = mk ∧ (tkR R t mk bv).1 (73, 0) t = bv := by
  refine ⟨?_, ?_, ?_⟩ <;> simp [tkR, se_E1]
theorem tkR_a {L : Nat → Nat → Bool} (h0 : L 50 20 = false) (h1 : L 72 t = false) (h2 : L 73 t = false) : agr L R (tkR R t mk bv) := agr_to (agr_to (agr_set h1) h2) h0
theorem tk_S (h : sm_S C R) (hF : ∀ a ∈ frT, R.1 (a, 0) t = 0) : sm_S (tkC C t mk bv) (tkR R t mk bv) := by
  obtain ⟨-, -, n3, n4, n5, -, -⟩ := tkC_n (C := C) (t := t) (mk := mk) (bv := bv)
  obtain ⟨-, m2, m3⟩ := tkR_n (R := R) (t := t) (mk := mk) (bv := bv)
  intro e he i
  by_cases c : i = t
  · subst c
    have hz : ∀ f a, ¬ f = 0 → a ∈ frT → (tkC C i mk bv).1 (30, i) f = (tkR R i mk bv).1 (a, 0) i := fun f a hf ha => by
      rw [n3 f hf, tkR_1, hF a ha]
      · rintro ⟨z, -⟩; subst z; revert ha; decide
      · rintro ⟨z, -⟩
        rcases z with z | z <;> subst z <;> revert ha <;> decide
    simp only [sm_T, List.mem_cons, List.not_mem_nil, or_false] at he
    have keep : ∀ a f r, ¬ (30 ≤ a ∧ a ≤ 35) → ¬ a = 0 → (a, f, r) ∈ sm_T → ¬ (r = 50 ∨ r = 72 ∨ r = 73) → (tkC C i mk bv).1 (a, i) f = (tkR R i mk bv).1 (r, 0) i := fun a f r ha h0 hm hr => by
      rw [tkC_1 (fun z => ha ⟨z.1, z.2.1⟩) (fun z => h0 (congrArg Prod.fst z.1)), tkR_1 (fun z => hr (Or.inl z.1)) (fun z => hr (Or.inr z.1))]
      exact h _ hm i
    rcases he with e1 | e1 | e1 | e1 | e1 | e1 | e1 | e1 | e1 | e1 | e1 | e1 | e1 | e1 | e1 | e1 | e1 | e1 | e1 | e1 | e1 | e1 | e1 <;> subst e1
    · exact keep _ _ _ (by decide) (by decide) (by decide) (by decide)
    · exact keep _ _ _ (by decide) (by decide) (by decide) (by decide)
    · exact keep _ _ _ (by decide) (by decide) (by decide) (by decide)
    · exact keep _ _ _ (by decide) (by decide) (by decide) (by decide)
    · exact keep _ _ _ (by decide) (by decide) (by decide) (by decide)
    · exact keep _ _ _ (by decide) (by decide) (by decide) (by decide)
    · exact keep _ _ _ (by decide) (by decide) (by decide) (by decide)
    · exact keep _ _ _ (by decide) (by decide) (by decide) (by decide)
    · exact keep _ _ _ (by decide) (by decide) (by decide) (by decide)
    · exact keep _ _ _ (by decide) (by decide) (by decide) (by decide)
    · exact keep _ _ _ (by decide) (by decide) (by decide) (by decide)
    · exact hz 4 70 (by decide) (by decide)
    · exact hz 5 71 (by decide) (by decide)
    · exact hz 6 77 (by decide) (by decide)
    · exact hz 7 79 (by decide) (by decide)
    · exact hz 8 81 (by decide) (by decide)
    · exact hz 9 80 (by decide) (by decide)
    · exact hz 10 82 (by decide) (by decide)
    · exact hz 11 78 (by decide) (by decide)
    · exact hz 12 83 (by decide) (by decide)
    · exact n4.trans m2.symm
    · exact n5.trans m3.symm
    all_goals exact keep _ _ _ (by decide) (by decide) (by decide) (by decide)
  · have hm : ∀ e ∈ sm_T, ¬ e.1 = 0 ∧ ¬ e.2.2 = 50 := by decide
    rw [tkC_1 (fun z => c z.2.2) (fun z => (hm e he).1 (congrArg Prod.fst z.1)), tkR_1 (fun z => (hm e he).2 z.1) (fun z => c z.2)]
    exact h e he i
theorem tk_W {en : Int32 → Int32} {a cap bs : Nat} {F F' : Nat → Int32} {cnt : Int32} {j : Nat} (h : sm_W en C (a, j) cap F bs cnt) (hj : ¬ j = t ∨ a < 29 ∨ 35 < a) (ha : 0 < a) (hF : ∀ k, k < cap → F' (bs + k) = F (bs + k)) : sm_W en (tkC C t mk bv) (a, j) cap F' bs cnt := by
  refine sm_W_keep h (funext fun f => tkC_1 ?_ ?_) (funext fun f => tkC_1 ?_ ?_) hF rfl
  · intro z
    dsimp only at z
    omega
  · intro z
    have := congrArg Prod.fst z.1
    dsimp only at this
    omega
  · intro z
    dsimp only at z
    omega
  · intro z
    have := congrArg Prod.fst z.1
    dsimp only at this
    omega
theorem tk_sm (h : SI b g t p q C R) (ht : t < 2) : sm b g (t + 1) p (tkC C t mk bv) (tkR R t mk bv) := by
  have hle := sm_le h.1
  obtain ⟨v1, v2, v3, v4⟩ := sm_vl h.1
  have hF : ∀ a ∈ frT, R.1 (a, 0) t = 0 := fun a ha => (Inv_FR h.2).2.1 a ha t (by omega)
  obtain ⟨n1, n2, n3, n4, n5, n6, n7⟩ := tkC_n (C := C) (t := t) (mk := mk) (bv := bv)
  obtain ⟨p1, p2, p3, p4, p5, p6, p7⟩ := tkC_p (C := C) (t := t) (mk := mk) (bv := bv)
  obtain ⟨m1, m2, m3⟩ := tkR_n (R := R) (t := t) (mk := mk) (bv := bv)
  have rk : ∀ a f, ¬ (a = 50 ∧ f = 20) → ¬ (a = 72 ∨ a = 73) → (tkR R t mk bv).1 (a, 0) f = R.1 (a, 0) f := fun a f h1 h2 => tkR_1 h1 (fun z => h2 z.1)
  have rj : ∀ a f, ¬ a = 50 → ¬ f = t → (tkR R t mk bv).1 (a, 0) f = R.1 (a, 0) f := fun a f h1 h2 => tkR_1 (fun z => h1 z.1) (fun z => h2 z.2)
  have ck : ∀ a j f, ¬ a = 0 → (¬ (30 ≤ a ∧ a ≤ 35) ∨ ¬ j = t) → (tkC C t mk bv).1 (a, j) f = C.1 (a, j) f := fun a j f h0 h1 => tkC_1 (fun z => h1.elim (fun y => y ⟨z.1, z.2.1⟩) fun y => y z.2.2) (fun z => h0 (congrArg Prod.fst z.1))
  have cq : ∀ a j f, ¬ a = 13 → (¬ (30 ≤ a ∧ a ≤ 35) ∨ ¬ j = t) → (tkC C t mk bv).2.1 (a, j) f = C.2.1 (a, j) f := fun a j f h0 h1 => tkC_2 (fun z => h1.elim (fun y => y ⟨z.1, z.2.1⟩) fun y => y z.2.2) (fun z => h0 (congrArg Prod.fst z.1))
  obtain ⟨h1, h2, h3, h4, h5, h6, h7⟩ := h.1
  have er : ∀ a, 51 ≤ a → a < 72 → ∀ k, (tkR R t mk bv).1 (a, 0) k = R.1 (a, 0) k := fun a _ _ k => rk a k (by omega) (by omega)
  have er' : ∀ a, 74 ≤ a → a ≤ 95 → ∀ k, (tkR R t mk bv).1 (a, 0) k = R.1 (a, 0) k := fun a _ _ k => rk a k (by omega) (by omega)
  refine ⟨tk_S h1 hF, fun j => ?_, fun j => ?_, fun j => ?_, ?_, ?_, ?_⟩
  · rw [er 60 (by omega) (by omega), er 53 (by omega) (by omega), er 54 (by omega) (by omega)]
    refine ⟨tk_W (h2 j).1 (Or.inr (Or.inl (by omega))) (by omega) (fun k _ => er 59 (by omega) (by omega) _), ?_⟩
    rw [ck 21 j 3 (by decide) (Or.inl (by decide))]
    simp only [er 59 (by omega) (by omega)]
    exact (h2 j).2
  · rw [er 62 (by omega) (by omega)]
    exact tk_W (h3 j) (Or.inr (Or.inl (by omega))) (by omega) (fun k _ => er 61 (by omega) (by omega) _)
  · rw [er' 76 (by omega) (by omega)]
    by_cases c : j = t
    · subst c
      have z0 : R.1 (76, 0) j = 0 := hF 76 (by decide)
      refine ⟨W_new (n7 32 2 (by omega) (by omega)) (n7 32 1 (by omega) (by omega)) z0 (by omega), W_new (n7 34 2 (by omega) (by omega)) (n7 34 1 (by omega) (by omega)) z0 (by omega), ?_⟩
      rw [z0, n6, m2]
      rfl
    · obtain ⟨y1, y2, y3⟩ := h4 j
      rw [rj 72 j (by decide) c, rj 73 j (by decide) c]
      refine ⟨tk_W y1 (Or.inl c) (by omega) (fun k _ => er' 74 (by omega) (by omega) _), tk_W y2 (Or.inl c) (by omega) (fun k _ => er' 75 (by omega) (by omega) _), ?_⟩
      rw [ck 31 j 3 (by decide) (Or.inr c), y3]
      simp only [er' 74 (by omega) (by omega)]
  · obtain ⟨e, y1, y2, y3, y4⟩ := h5
    refine ⟨e, y1, ?_, ?_, fun j => ?_⟩
    · rw [ck 1 0 3 (by decide) (Or.inl (by decide))]; exact y2
    · rw [rk 50 47 (by decide) (by decide)]; exact y3
    · rw [ck 2 0 j (by decide) (Or.inl (by decide)), ck 3 0 j (by decide) (Or.inl (by decide)), ck 4 0 j (by decide) (Or.inl (by decide)), er' 93 (by omega) (by omega), er' 94 (by omega) (by omega), er' 95 (by omega) (by omega)]
      exact y4 j
  · obtain ⟨n, f, hd, a1, a2, a3, a4, a5, a6, a7, a8, a9⟩ := h6
    have c6 : ∀ a f, 1 ≤ a → a ≤ 11 → (tkC C t mk bv).1 (a, 0) f = C.1 (a, 0) f := fun a f h1 h2 => ck a 0 f (by omega) (Or.inl (by omega))
    refine ⟨n, f, hd, a1, a2, a3, ?_, ?_, ?_, ?_, ?_, fun k hk => ?_⟩
    · rw [rk 50 43 (by decide) (by decide)]; exact a4
    · rw [rk 50 42 (by decide) (by decide)]; exact a5
    · rw [c6 6 2 (by omega) (by omega), c6 6 1 (by omega) (by omega)]; exact a6
    · rw [c6 8 2 (by omega) (by omega), c6 8 1 (by omega) (by omega)]; exact a7
    · rw [c6 10 2 (by omega) (by omega), c6 10 1 (by omega) (by omega)]; exact a8
    · rw [c6 7 _ (by omega) (by omega), c6 9 _ (by omega) (by omega), c6 11 _ (by omega) (by omega), er' 90 (by omega) (by omega), er' 91 (by omega) (by omega), er' 92 (by omega) (by omega)]
      exact a9 k hk
  · obtain ⟨⟨a1, a2, a3, a4, -⟩, b1, b2, b3, b4, b5, b6, b7, b8, b9, b10, b11⟩ := h7
    have r58 := er 58 (by omega) (by omega)
    have r65 := er 65 (by omega) (by omega)
    have r66 := er 66 (by omega) (by omega)
    have r83 := er' 83 (by omega) (by omega)
    have r85 := er' 85 (by omega) (by omega)
    have r86 := er' 86 (by omega) (by omega)
    have r87 := er' 87 (by omega) (by omega)
    have r88 := er' 88 (by omega) (by omega)
    have c20 : ∀ a j f, 20 ≤ a → a ≤ 25 → (tkC C t mk bv).2.1 (a, j) f = C.2.1 (a, j) f := fun a j f h1 h2 => cq a j f (by omega) (Or.inl (by omega))
    have c40 : ∀ a j f, 40 ≤ a → (tkC C t mk bv).2.1 (a, j) f = C.2.1 (a, j) f := fun a j f h1 => cq a j f (by omega) (Or.inl (by omega))
    refine ⟨⟨a1, a2, by omega, a4, fun a i ha ha' hi => ?_, fun a i ha ha' hi => ?_, fun i hi => ?_, fun a i ha hi => ?_⟩, ⟨?_, n1, ?_⟩, ⟨?_, m1, ?_⟩, ?_, ?_, ?_, fun i hi => ?_, fun i hi => ?_, fun i hi => ?_, fun i hi => ?_, fun i hi => ?_, fun k hk => ?_⟩
    · rw [tkC_3 (fun z => by have := z.1; dsimp only at this; omega)]; exact v1 a i ha ha' hi
    · rw [tkC_3 (fun z => by have := z.2.2; dsimp only at this; omega)]; exact v2 a i ha ha' (by omega)
    · rw [tkC_3 (fun z => by have := z.2.1; dsimp only at this; omega)]; exact v3 i hi
    · rw [tkC_3 (fun z => by have := z.2.1; dsimp only at this; omega)]
      rw [r65] at hi
      exact v4 a i ha hi
    · rw [tkC_1 (by simp) (by simp)]; exact b1.1
    · rw [tkC_1 (by simp) (by simp)]; exact b1.2.2
    · rw [rk 50 0 (by decide) (by decide)]; exact b2.1
    · rw [rk 50 36 (by decide) (by decide)]; exact b2.2.2
    · rw [cq 0 0 0 (by decide) (Or.inl (by decide)), cq 0 0 1 (by decide) (Or.inl (by decide)), cq 0 0 2 (by decide) (Or.inl (by decide)), cq 0 0 3 (by decide) (Or.inl (by decide)), cq 0 0 4 (by decide) (Or.inl (by decide))]; exact b3
    · rw [cq 1 0 0 (by decide) (Or.inl (by decide)), cq 1 0 1 (by decide) (Or.inl (by decide)), cq 1 0 2 (by decide) (Or.inl (by decide))]; exact b4
    · rw [cq 5 0 0 (by decide) (Or.inl (by decide)), cq 5 0 1 (by decide) (Or.inl (by decide)), cq 5 0 2 (by decide) (Or.inl (by decide)), cq 6 0 0 (by decide) (Or.inl (by decide)), cq 8 0 0 (by decide) (Or.inl (by decide)), cq 10 0 0 (by decide) (Or.inl (by decide))]; exact b5
    · rw [cq 12 0 i (by decide) (Or.inl (by decide)), ck 20 i 0 (by decide) (Or.inl (by decide)), c20 20 i 1 (by omega) (by omega), c20 20 i 2 (by omega) (by omega), c20 20 i 3 (by omega) (by omega), c20 21 i 0 (by omega) (by omega), c20 22 i 0 (by omega) (by omega), c20 24 i 0 (by omega) (by omega)]
      exact b6 i hi
    · rw [c20 20 i 11 (by omega) (by omega)]
      simp only [r65, r66]
      exact b7 i hi
    · rw [c20 20 i 12 (by omega) (by omega), c40 41 i 0 (by omega), c40 41 i 1 (by omega), c40 42 i 0 (by omega), c40 42 i 1 (by omega)]
      simp only [r65, r66, r58]
      exact b8 i hi
    · rw [c20 20 i 13 (by omega) (by omega)]
      simp only [r65, r58, r85, r88]
      exact b9 i hi
    · by_cases c : i = t
      · subst c
        exact ⟨p1, n2, p2, p3, p4, p5, p6, p7⟩
      · rw [tkC_2 (by simp) (by simp [c]), ck 30 i 0 (by decide) (Or.inr c), cq 30 i 1 (by decide) (Or.inr c), cq 30 i 2 (by decide) (Or.inr c), cq 30 i 3 (by decide) (Or.inr c), cq 31 i 0 (by decide) (Or.inr c), cq 32 i 0 (by decide) (Or.inr c), cq 34 i 0 (by decide) (Or.inr c)]
        exact b10 i (by omega)
    · obtain ⟨y1, y2, i, w, y3, y4, y5, y6, y7, y8, y9, y10, y11, y12⟩ := b11 k hk
      rw [cq 14 0 k (by decide) (Or.inl (by decide)), ck 40 k 0 (by decide) (Or.inl (by decide)), r85, r86, c40 40 k 1 (by omega), c40 40 k 2 (by omega), ck 40 k 3 (by decide) (Or.inl (by decide)), ck 40 k 4 (by decide) (Or.inl (by decide)), ck 40 k 5 (by decide) (Or.inl (by decide)), r87, r88]
      refine ⟨y1, y2, i, w, y3, by omega, y5, y6, y7, y8, y9, y10, y11, ?_⟩
      rw [r58, r83, c20 20 i 13 (by omega) (by omega)]
      exact y12
theorem nh_3 (z : Inv g t p q R) (hg : t ≤ 2) (k : Int32) (hk : k = 3 ∨ k = 4 ∨ k = 5) {r : Nat} (hr : ¬ r < t) (hr6 : r < 10) : ¬ has R k r := fun ⟨i, i1, i2, i3⟩ => by
  have jv0 := (Inv_J1 z).1 i i1
  rw [i2, i3] at jv0
  rcases jv0 with ⟨e, -⟩ | ⟨e, -⟩ | ⟨e, -⟩ | ⟨-, j, hj, e⟩
  · rcases hk with y | y | y <;> rw [y] at e <;> exact absurd e (by decide)
  · rcases hk with y | y | y <;> rw [y] at e <;> exact absurd e (by decide)
  · rcases hk with y | y | y <;> rw [y] at e <;> exact absurd e (by decide)
  · have := sm_nIinj e (by omega) (by omega)
    omega
theorem tk_Inv (z : Inv g t p q R) (ht : t < 2) : Inv g (t + 1) p q (tkR R t mk bv) := by
  have hF : ∀ a ∈ frT, R.1 (a, 0) t = 0 := fun a ha => (Inv_FR z).2.1 a ha t (by omega)
  have n3 : ∀ k : Int32, k = 3 ∨ k = 4 ∨ k = 5 → ¬ has R k t := fun k hk => nh_3 z (by omega) k hk (by omega) (by omega)
  obtain ⟨z1, z2, z3, z4, z5, z6, z7, z8, z9, z10, z11, z12, z13, z14, z15, z16⟩ := z
  have ag : ∀ {L : Nat → Nat → Bool}, L 50 20 = false → L 72 t = false → L 73 t = false → agr L R (tkR R t mk bv) := fun a b c => tkR_a a b c
  refine ⟨ka_F (ag rfl rfl rfl) z1, ka_S (ag rfl rfl rfl) z2, ka_B (ag rfl rfl rfl) z3, ka_E (ag rfl rfl rfl) z4, ka_Q (ag rfl rfl rfl) z5, ka_H (ag rfl rfl rfl) z6, ka_N (ag rfl rfl rfl) z7, ka_P (ag rfl rfl rfl) z8, ka_T (ag rfl rfl rfl) z9, ?_, ?_, ka_JP (ag rfl rfl rfl) z12, ka_JD (ag rfl rfl rfl) z13, ?_, ka_JM (ag rfl rfl rfl) z15, ?_⟩
  · refine ka_X (R := R) (ag rfl rfl rfl) ⟨fun k hk h88 i w h85 h86 hi hw h62 => ?_, z10.2⟩
    by_cases c : w = t
    · subst c
      rw [hF 76 (by decide)]
      decide
    · exact z10.1 k hk h88 i w h85 h86 hi (by omega) h62
  · exact ka_J1 (R := R) (ag rfl rfl rfl) ⟨fun i hi => jv_up (z11.1 i hi) (Nat.le_refl _) (by omega) (Nat.le_refl _), z11.2⟩
  · refine ka_JS (R := R) (ag rfl rfl rfl) fun w hw => ?_
    by_cases c : w = t
    · subst c
      rw [hF 84 (by decide)]
      exact ⟨Or.inl rfl, fun e => absurd e (by decide), fun k hk => ⟨fun e => absurd e (n3 k hk), fun e => absurd e.1 (by decide)⟩⟩
    · exact z14 w (by omega)
  · exact ka_FR (R := R) (ag rfl rfl rfl) ⟨z16.1, fun a ha i hi => z16.2.1 a ha i (by omega), z16.2.2⟩
theorem taker_R {x y : Int32} (h : SI b g t p q C R) (hy : y = 0 ∨ y = 1) : CRes b q (fc_K_taker (0, 0) x y C) (fc_M_taker (50, 0) x y R) := by
  have hle := sm_le h.1
  have hp := sm_MP h.1
  obtain ⟨⟨-, e6, -⟩, ⟨-, r0, -⟩, -, e3, -⟩ := sm_p h.1
  unfold fc_K_taker fc_M_taker
  rcases mark_C x C with ⟨c, d, e⟩ | ⟨c, e⟩
  · rw [e, Option.bind_some, if_neg c, if_neg d]
    dsimp only
    rw [if_neg z10, se_gf (kd_0 0), e6, se_gf (kd_50 0), r0]
    by_cases c2 : t = 2
    · subst c2
      rw [if_neg (by decide), if_pos (by decide)]
      exact res_of h (by omega) rfl rfl
    · have ht2 : t < 2 := by omega
      have l2 : nI t < (2 : Int32) := nI_lt (b := 2) (by omega) (by omega)
      have n2 : ¬ nI t = (2 : Int32) := fun z => c2 (sm_nIinj (b := 2) z (by omega) (by omega))
      have s1 : SI b g (t + 1) p q (tkC C t x y) (tkR R t x y) := ⟨tk_sm h ht2, tk_Inv h.2 ht2⟩
      obtain ⟨C2, R2, d1, d2, d3⟩ := wake_SI s1
      obtain ⟨-, ⟨-, r1, -⟩, -⟩ := sm_p d3.1
      have hl := (sm_vl h.1).2.1
      have l0 := hl 30 t (by omega) (by omega) (Nat.le_refl _)
      have l1 := hl 31 t (by omega) (by omega) (Nat.le_refl _)
      have l22 := hl 32 t (by omega) (by omega) (Nat.le_refl _)
      have l3 := hl 33 t (by omega) (by omega) (Nat.le_refl _)
      have l4 := hl 34 t (by omega) (by omega) (Nat.le_refl _)
      have l5 := hl 35 t (by omega) (by omega) (Nat.le_refl _)
      have h0 := (sm_K0 h.1).1
      refine res_of d3 (by omega) (a := nI t) ?_ ?_
      · have f6 : (xo_sN C (30, t)).1 (0, 0) 6 = nI t := by rw [sN_1, if_neg (by simp)]; exact e6
        have c1 : fc_C_init (31, t) x y (xo_sN (xo_sN C (30, t)) (31, t)) = some (nQ (xo_sN C (30, t)) (31, t) (32, t) (33, t) x y) := ci_C (a := 31) (kd_31 t) (kd_32 t) (kd_33 t) (by rw [sN_3, if_neg (by simp)]; exact l22) (by rw [sN_3, if_neg (by simp)]; exact l3) hy
        have q0 : (nQ (xo_sN C (30, t)) (31, t) (32, t) (33, t) x y).2.1 (0, 0) 0 = some (1, 0) := by
          simp [nQ, nRow, xo_sE, xo_sP, xo_sN, h0]
        have q34 : (nQ (xo_sN C (30, t)) (31, t) (32, t) (33, t) x y).2.2 (34, t) = false := by
          simp [nQ, nRow, xo_sE, xo_sP, xo_sN, l4]
        have q35 : (nQ (xo_sN C (30, t)) (31, t) (32, t) (33, t) x y).2.2 (35, t) = false := by
          simp [nQ, nRow, xo_sE, xo_sP, xo_sN, l5]
        rw [if_pos l2, nI_clamp (by omega), se_nw l0 (kd_30 t), f6, nI_clamp (by omega), se_gf (kd_0 0), f6, se_nw (by rw [sN_3, if_neg (by simp)]; exact l1) (kd_31 t), c1, Option.bind_some, se_gp (kd_0 0), q0]
        generalize hX : nQ (xo_sN C (30, t)) (31, t) (32, t) (33, t) x y = X at q34 q35
        have g1 : fc_T_init (30, t) (nI t) (some (31, t)) (some (1, 0)) X = some (xo_sP (xo_sP (xo_sE (xo_sE (xo_sE (xo_sP (nRow X (34, t) (35, t)) (30, t) 3 (some (34, t))) (30, t) 4 0) (30, t) 7 0) (30, t) 0 (nI t)) (30, t) 1 (some (31, t))) (30, t) 2 (some (1, 0))) := by
          have rr : fc_R_init (34, t) 16 (xo_sN X (34, t)) = some (nRow X (34, t) (35, t)) := ri_C (a := 34) (N := 16) (kd_34 t) (kd_35 t) rfl (by decide) q35
          unfold fc_T_init
          dsimp only
          rw [se_nw q34 (kd_34 t)]
          show ((fc_R_init (34, t) 16 (xo_sN X (34, t))).bind _) = _
          rw [rr, Option.bind_some, se_pp (kd_30 t), se_pf (kd_30 t), se_pf (kd_30 t), se_pf (kd_30 t), se_pp (kd_30 t), se_pp (kd_30 t)]
        rw [g1, Option.bind_some, se_gp (kd_0 0), se_gf (kd_0 0)]
        have w2 : (xo_sP (xo_sP (xo_sE (xo_sE (xo_sE (xo_sP (nRow X (34, t) (35, t)) (30, t) 3 (some (34, t))) (30, t) 4 0) (30, t) 7 0) (30, t) 0 (nI t)) (30, t) 1 (some (31, t))) (30, t) 2 (some (1, 0))).2.1 (0, 0) 3 = some (13, 0) := by
          rw [← hX]
          simp [nQ, nRow, xo_sE, xo_sP, xo_sN, e3]
        have w5 : (xo_sP (xo_sP (xo_sE (xo_sE (xo_sE (xo_sP (nRow X (34, t) (35, t)) (30, t) 3 (some (34, t))) (30, t) 4 0) (30, t) 7 0) (30, t) 0 (nI t)) (30, t) 1 (some (31, t))) (30, t) 2 (some (1, 0))).1 (0, 0) 6 = nI t := by
          rw [← hX]
          simp [nQ, nRow, xo_sE, xo_sP, xo_sN, e6]
        rw [w2, w5, se_aq (kd_13 0) ht2 (by decide) (kd_30 t), se_gf (kd_0 0)]
        have w6 : (xo_sP (xo_sP (xo_sP (xo_sE (xo_sE (xo_sE (xo_sP (nRow X (34, t) (35, t)) (30, t) 3 (some (34, t))) (30, t) 4 0) (30, t) 7 0) (30, t) 0 (nI t)) (30, t) 1 (some (31, t))) (30, t) 2 (some (1, 0))) (13, 0) t (some (30, t))).1 (0, 0) 6 = nI t := w5
        have d1' : fc_K_awaitPumps (0, 0) (xo_sE (xo_sP (xo_sP (xo_sP (xo_sE (xo_sE (xo_sE (xo_sP (nRow X (34, t) (35, t)) (30, t) 3 (some (34, t))) (30, t) 4 0) (30, t) 7 0) (30, t) 0 (nI t)) (30, t) 1 (some (31, t))) (30, t) 2 (some (1, 0))) (13, 0) t (some (30, t))) (0, 0) 6 (nI (t + 1))) = some C2 := by
          rw [← hX]
          exact d1
        rw [w6, se_pf (kd_0 0), nI_1, se_cl (kd_0 0), d1', Option.bind_some, se_gf (kd_30 t), (sm_ptrT d3.1 (i := t) (by omega)).2.1]
      · have f1 : (xo_sE R (72, 0) t x).1 (50, 0) 20 = nI t := by rw [se_ne (by simp)]; exact r0
        have f2 : (xo_sE (xo_sE R (72, 0) t x) (73, 0) t y).1 (50, 0) 20 = nI t := by rw [se_ne (by simp)]; exact f1
        have d2' : fc_M_wake (50, 0) (xo_sE (xo_sE (xo_sE R (72, 0) t x) (73, 0) t y) (50, 0) 20 (nI (t + 1))) = some R2 := d2
        have ep : nI (t + 1) - 1 = nI t := nI_pred t
        rw [if_neg n2, mp_23 hp, se_gf (kd_50 0), r0, mq_72 ht2, mp_24 (by exact hp), se_gf (kd_50 0), f1, mq_73 ht2 hy, se_gf (kd_50 0), f2, nI_1, se_pf (kd_50 0), se_cl (kd_50 0), d2', Option.bind_some, se_gf (kd_50 0), r1, ep]
  · rw [e, Option.bind_some]
    dsimp only
    rw [if_pos rfl]
    rcases c with c | c
    · rw [if_pos c]
      exact res_of h (by omega) rfl rfl
    · refine res_of h (by omega) rfl ?_
      by_cases d : x < 0
      · rw [if_pos d]
      · rw [if_neg d, if_pos c]
end TK
