/-! what the work at a taker w changes, and the invariant -/
def kT (a c : Nat) : Bool := !(a == 93 || a == 94 || a == 95 || (a == 50 && c == 47) || a == 70 || a == 71 || a == 74 || a == 75 || a == 76 || a == 77 || a == 78 || a == 79 || a == 80 || a == 81 || a == 82)
def tl : List Nat := [70, 71, 76, 77, 78, 79, 80, 81, 82]
def TA (w : Nat) (R R' : xo_H) : Prop := agr kT R R' ∧ ∀ a ∈ tl, ∀ i, ¬ i = w → R'.1 (a, 0) i = R.1 (a, 0) i
def T9 (w : Nat) (R : xo_H) : Prop := iT1 (R.1 (70, 0) w) (R.1 (76, 0) w) (R.1 (79, 0) w)
def TS (md : Prop) (w : Nat) (R R' : xo_H) : Prop := TA w R R' ∧ T9 w R' ∧ (md → ¬ R.1 (76, 0) w = 16 → ¬ R'.1 (76, 0) w = 16) ∧ (R'.1 (79, 0) w = R.1 (79, 0) w ∨ ¬ R.1 (84, 0) w = 1)
theorem kT_ev {R R' : xo_H} (h : agr lEv R R') : agr kT R R' := agr_le h fun a c e => by
  unfold kT at e
  unfold lEv
  simp only [Bool.not_eq_true', Bool.or_eq_false_iff, Bool.and_eq_false_iff, beq_eq_false_iff_ne] at e ⊢
  omega
theorem tl_ev {a : Nat} (h : a ∈ tl) (c : Nat) : lEv a c = true := by
  simp only [tl, List.mem_cons, List.not_mem_nil, or_false] at h
  rcases h with h | h | h | h | h | h | h | h | h <;> subst h <;> rfl
theorem tl_kT {a : Nat} (h : a ∈ tl) (c : Nat) : kT a c = false := by
  simp only [tl, List.mem_cons, List.not_mem_nil, or_false] at h
  rcases h with h | h | h | h | h | h | h | h | h <;> subst h <;> rfl
section TS
variable {w : Nat} {R R' R'' : xo_H} {md : Prop}
theorem TA_rfl : TA w R R := ⟨agr_rfl, fun _ _ _ _ => rfl⟩
theorem TA_tr (h : TA w R R') (h' : TA w R' R'') : TA w R R'' := ⟨agr_tr h.1 h'.1, fun a ha i hi => (h'.2 a ha i hi).trans (h.2 a ha i hi)⟩
theorem TA_ev (h : agr lEv R R') : TA w R R' := ⟨kT_ev h, fun a ha i _ => h (a, 0) i (tl_ev ha i)⟩
theorem TA_hE {k s a b : Int32} : TA w R (hE R k s a b) := TA_ev ev_hE
theorem TA_set {a : Nat} {v : Int32} (ha : a ∈ tl) : TA w R (xo_sE R (a, 0) w v) := ⟨agr_set (tl_kT ha w), fun b _ i hi => by rw [se_nf (by simp [hi])]⟩
theorem TA_to {a : Nat} {v : Int32} (h : TA w R R') (ha : a ∈ tl) : TA w R (xo_sE R' (a, 0) w v) := TA_tr h (TA_set ha)
theorem TA_load {a i : Nat} {v : Int32} (ha : a = 74 ∨ a = 75) : TA w R (xo_sE R (a, 0) i v) := by
  refine ⟨agr_set (by rcases ha with e | e <;> subst e <;> rfl), fun b hb j hj => ?_⟩
  rw [se_ne]
  intro e
  have : b = a := congrArg Prod.fst e
  subst this
  rcases ha with e | e <;> subst e <;> revert hb <;> decide
theorem TA_sh {a lo n : Nat} (ha : a = 74 ∨ a = 75) : TA w R (sh_R R a lo n) := by
  refine ⟨agr_sh (by rcases ha with e | e <;> subst e <;> exact fun _ => rfl), fun b hb j hj => ?_⟩
  rw [sh_ne]
  intro e
  have : b = a := congrArg Prod.fst e
  subst this
  rcases ha with e | e <;> subst e <;> revert hb <;> decide
theorem TS_tr (h : TS md w R R') (h' : TS md w R' R'') : TS md w R R'' := by
  obtain ⟨a1, a2, a3, a4⟩ := h
  obtain ⟨b1, b2, b3, b4⟩ := h'
  refine ⟨TA_tr a1 b1, b2, fun m e => b3 m (a3 m e), ?_⟩
  rw [a1.1 (84, 0) w rfl] at b4
  rcases b4 with b4 | b4
  · rcases a4 with a4 | a4
    · exact Or.inl (b4.trans a4)
    · exact Or.inr a4
  · exact Or.inr b4
theorem TS_o (h : TA w R R') (h1 : R'.1 (70, 0) w = R.1 (70, 0) w) (h2 : R'.1 (76, 0) w = R.1 (76, 0) w) (h3 : R'.1 (79, 0) w = R.1 (79, 0) w) (h9 : T9 w R) : TS md w R R' := by
  refine ⟨h, ?_, fun _ e => by rw [h2]; exact e, Or.inl h3⟩
  unfold T9
  rw [h1, h2, h3]
  exact h9
theorem TS_hE {k s a b : Int32} (h9 : T9 w R) : TS md w R (hE R k s a b) := TS_o TA_hE (by rw [hE_ne rfl]) (by rw [hE_ne rfl]) (by rw [hE_ne rfl]) h9
theorem TS_set {a : Nat} {v : Int32} (ha : a ∈ tl) (h : (a == 70 || a == 76 || a == 79) = false) (h9 : T9 w R) : TS md w R (xo_sE R (a, 0) w v) := by
  simp only [Bool.or_eq_false_iff, beq_eq_false_iff_ne, ne_eq] at h
  refine TS_o (TA_set ha) ?_ ?_ ?_ h9
  · rw [se_ne]; intro e; exact h.1.1 (congrArg Prod.fst e).symm
  · rw [se_ne]; intro e; exact h.1.2 (congrArg Prod.fst e).symm
  · rw [se_ne]; intro e; exact h.2 (congrArg Prod.fst e).symm
theorem TA_rLose : TA w R (rLose R w) := by
  unfold rLose
  split
  · exact TA_rfl
  · exact TA_tr (TA_set (by decide)) TA_hE
theorem rLose_v : (rLose R w).1 (70, 0) = R.1 (70, 0) ∧ (rLose R w).1 (76, 0) = R.1 (76, 0) ∧ (rLose R w).1 (79, 0) = R.1 (79, 0) := by
  unfold rLose
  split
  · exact ⟨rfl, rfl, rfl⟩
  · rw [hE_ne rfl, hE_ne rfl, hE_ne rfl, se_ne (by simp), se_ne (by simp), se_ne (by simp)]
    exact ⟨rfl, rfl, rfl⟩
theorem rB118_v : TA w R (rB118 R w) ∧ (rB118 R w).1 (70, 0) = R.1 (70, 0) ∧ (rB118 R w).1 (76, 0) = R.1 (76, 0) ∧ (rB118 R w).1 (79, 0) = R.1 (79, 0) := by
  unfold rB118
  split
  · exact ⟨TA_rfl, rfl, rfl, rfl⟩
  · exact ⟨TA_rLose, rLose_v⟩
theorem rBT_v : TA w R (rBT R w) ∧ (rBT R w).1 (70, 0) = R.1 (70, 0) ∧ (rBT R w).1 (76, 0) w = 0 ∧ ((rBT R w).1 (79, 0) w = R.1 (79, 0) w ∨ (rBT R w).1 (79, 0) w = 5) := by
  unfold rBT
  split
  · obtain ⟨a1, a2, a3, a4⟩ := rB118_v (w := w) (R := xo_sE R (76, 0) w 0)
    rw [a2, a3, a4]
    refine ⟨TA_tr (TA_set (by decide)) a1, se_ne (by simp), xo_sE_eq _ _ _ _, Or.inl ?_⟩
    rw [se_ne (by simp)]
  · split
    · generalize hY : hE (xo_sE (xo_sE (xo_sE R (76, 0) w 0) (80, 0) w 0) (79, 0) w 5) 5 (nI w) (R.1 (81, 0) w) 0 = Y
      obtain ⟨a1, a2, a3, a4⟩ := rB118_v (w := w) (R := Y)
      rw [a2, a3, a4]
      refine ⟨TA_tr ?_ a1, ?_, ?_, Or.inr ?_⟩
      · rw [← hY]; exact TA_tr (TA_to (TA_to (TA_set (by decide)) (by decide)) (by decide)) TA_hE
      · rw [← hY, hE_ne rfl, se_ne (by simp), se_ne (by simp), se_ne (by simp)]
      · rw [← hY, hE_ne rfl, se_ne (by simp), se_ne (by simp)]; exact xo_sE_eq _ _ _ _
      · rw [← hY, hE_ne rfl]; exact xo_sE_eq _ _ _ _
    · generalize hY : hE (xo_sE (xo_sE R (76, 0) w 0) (80, 0) w 0) 14 (nI w) (R.1 (71, 0) w) 0 = Y
      obtain ⟨a1, a2, a3, a4⟩ := rB118_v (w := w) (R := Y)
      rw [a2, a3, a4]
      refine ⟨TA_tr ?_ a1, ?_, ?_, Or.inl ?_⟩
      · rw [← hY]; exact TA_tr (TA_to (TA_set (by decide)) (by decide)) TA_hE
      · rw [← hY, hE_ne rfl, se_ne (by simp), se_ne (by simp)]
      · rw [← hY, hE_ne rfl, se_ne (by simp)]; exact xo_sE_eq _ _ _ _
      · rw [← hY, hE_ne rfl, se_ne (by simp), se_ne (by simp)]
theorem rBL_v : ∀ (d k : Nat) (R : xo_H), TA w R (rBL w d k R) ∧ (rBL w d k R).1 (70, 0) = R.1 (70, 0) ∧ (rBL w d k R).1 (76, 0) w = 0 ∧ ((rBL w d k R).1 (79, 0) w = R.1 (79, 0) w ∨ (rBL w d k R).1 (79, 0) w = 5)
  | 0, k, R => by rw [rBL]; exact rBT_v
  | d + 1, k, R => by
    rw [rBL]
    obtain ⟨a1, a2, a3, a4⟩ := rBL_v d (k + 1) (hE R 10 (nI w) (R.1 (75, 0) (16 * w + k)) (R.1 (71, 0) w))
    rw [hE_ne rfl] at a2 a4
    exact ⟨TA_tr TA_hE a1, a2, a3, a4⟩
theorem TS_breaks (h : R.1 (79, 0) w = 0) (h84 : ¬ R.1 (84, 0) w = 1) : TS md w R (rBreaks R w) := by
  obtain ⟨a1, a2, a3, a4⟩ := rBL_v (w := w) (R.1 (76, 0) w).toNatClampNeg 0 (xo_sE R (70, 0) w 2)
  rw [se_ne (m := (79, 0)) (by simp), h] at a4
  unfold rBreaks
  refine ⟨TA_tr (TA_set (by decide)) a1, ?_, fun _ _ => by rw [a3]; decide, Or.inr h84⟩
  unfold T9
  rw [a2, a3, xo_sE_eq]
  refine ⟨Or.inr (Or.inr (Or.inl rfl)), ?_, ?_, fun _ => rfl⟩
  · rcases a4 with e | e
    · exact Or.inl e
    · exact Or.inr (Or.inr (Or.inr e))
  · intro e
    rcases a4 with e' | e' <;> rw [e'] at e <;> exact absurd e (by decide)
theorem TS_start (h9 : T9 w R) (h84 : R.1 (79, 0) w = 0 → ¬ R.1 (84, 0) w = 1) : TS md w R (rStart R w) := by
  unfold rStart
  by_cases c : R.1 (79, 0) w = 0
  · rw [if_pos c]
    by_cases d : R.1 (70, 0) w = 0
    · rw [if_pos d]
      by_cases e : 0 < R.1 (76, 0) w
      · rw [if_pos e]
        refine ⟨TA_tr (TA_set (by decide)) TA_hE, ?_, fun _ z => ?_, Or.inr (h84 c)⟩
        · unfold T9
          rw [hE_ne rfl, hE_ne rfl, hE_ne rfl, se_ne (m := (70, 0)) (by simp), se_ne (m := (76, 0)) (by simp), xo_sE_eq]
          refine ⟨h9.1, Or.inr (Or.inl rfl), fun _ z => ?_, fun z => absurd z (by decide)⟩
          rw [z] at e
          exact absurd e (by decide)
        · rw [hE_ne rfl, se_ne (by simp)]; exact z
      · rw [if_neg e]
        by_cases f : R.1 (78, 0) w = 0
        · rw [if_pos f]; exact TS_o TA_rfl rfl rfl rfl h9
        · rw [if_neg f]
          refine ⟨TA_tr (TA_to (TA_set (by decide)) (by decide)) TA_hE, ?_, fun _ z => ?_, Or.inr (h84 c)⟩
          · unfold T9
            rw [hE_ne rfl, hE_ne rfl, hE_ne rfl, xo_sE_eq, se_ne (m := (70, 0)) (by simp), se_ne (m := (76, 0)) (by simp), se_ne (m := (70, 0)) (by simp), se_ne (m := (76, 0)) (by simp)]
            exact ⟨h9.1, Or.inr (Or.inr (Or.inl rfl)), fun z => absurd z (by decide), fun z => absurd z (by decide)⟩
          · rw [hE_ne rfl, se_ne (by simp), se_ne (by simp)]; exact z
    · rw [if_neg d]; exact TS_o TA_rfl rfl rfl rfl h9
  · rw [if_neg c]; exact TS_o TA_rfl rfl rfl rfl h9
theorem TS_goes (h9 : T9 w R) (h84 : R.1 (79, 0) w = 0 → ¬ R.1 (84, 0) w = 1) : TS md w R (rGoesOn R w) := by
  unfold rGoesOn
  split
  next c => exact TS_breaks c.1 (h84 c.1)
  next => exact TS_start h9 h84
theorem TS_sf {x : Int32} (h9 : T9 w R) (h5 : ¬ R.1 (79, 0) w = 5) (h84 : R.1 (79, 0) w = 0 → ¬ R.1 (84, 0) w = 1) : TS md w R (rStartFailing R w x) := by
  have hta : TA w R (xo_sE (xo_sE R (70, 0) w 1) (71, 0) w x) := TA_to (TA_set (by decide)) (by decide)
  have e79 : (xo_sE (xo_sE R (70, 0) w 1) (71, 0) w x).1 (79, 0) w = R.1 (79, 0) w := by rw [se_ne (by simp), se_ne (by simp)]
  have e76 : (xo_sE (xo_sE R (70, 0) w 1) (71, 0) w x).1 (76, 0) w = R.1 (76, 0) w := by rw [se_ne (by simp), se_ne (by simp)]
  have e70 : (xo_sE (xo_sE R (70, 0) w 1) (71, 0) w x).1 (70, 0) w = 1 := by rw [se_ne (by simp)]; exact xo_sE_eq _ _ _ _
  have s1 : TS md w R (xo_sE (xo_sE R (70, 0) w 1) (71, 0) w x) := by
    refine ⟨hta, ?_, fun _ z => by rw [e76]; exact z, Or.inl e79⟩
    unfold T9
    rw [e70, e76, e79]
    exact ⟨Or.inr (Or.inl rfl), h9.2.1, h9.2.2.1, fun z => absurd z h5⟩
  unfold rStartFailing
  split
  · exact s1
  next c =>
    have d0 : R.1 (79, 0) w = 0 := by
      rcases h9.2.1 with e | e | e | e
      · exact e
      · exact absurd (Or.inl e) c
      · exact absurd (Or.inr e) c
      · exact absurd e h5
    refine TS_tr s1 (TS_breaks (e79.trans d0) ?_)
    rw [hta.1 (84, 0) w rfl]
    exact h84 d0
theorem TS_fob {x : Int32} (h9 : T9 w R) (h0 : R.1 (79, 0) w = 0) (h84 : ¬ R.1 (84, 0) w = 1) : TS md w R (rFob R w x) := by
  unfold rFob
  split
  · exact TS_sf h9 (by rw [h0]; decide) fun _ => h84
  · exact TS_breaks h0 h84
theorem TS_abort {x : Int32} (h9 : T9 w R) (h84 : R.1 (79, 0) w = 0 → ¬ R.1 (84, 0) w = 1) : TS md w R (rAbort R w x) := by
  have key : ∀ v, TS md w R (xo_sE (xo_sE (xo_sE R (80, 0) w 1) (81, 0) w x) (82, 0) w v) := fun v =>
    TS_o (TA_to (TA_to (TA_set (by decide)) (by decide)) (by decide)) (by rw [se_ne (by simp), se_ne (by simp), se_ne (by simp)]) (by rw [se_ne (by simp), se_ne (by simp), se_ne (by simp)]) (by rw [se_ne (by simp), se_ne (by simp), se_ne (by simp)]) h9
  have e79 : ∀ v, (xo_sE (xo_sE (xo_sE R (80, 0) w 1) (81, 0) w x) (82, 0) w v).1 (79, 0) w = R.1 (79, 0) w := fun v => by rw [se_ne (by simp), se_ne (by simp), se_ne (by simp)]
  unfold rAbort
  by_cases c : 1 < R.1 (70, 0) w
  · rw [if_pos c]; exact TS_hE h9
  · rw [if_neg c]
    by_cases d : R.1 (80, 0) w = 0
    · rw [if_pos d]
      by_cases e : R.1 (70, 0) w = 1
      · rw [if_pos e]; exact key 1
      · rw [if_neg e]
        refine TS_tr (key 0) (TS_sf (key 0).2.1 ?_ ?_)
        · rw [e79]
          intro z
          have := h9.2.2.2 z
          rw [this] at c
          exact absurd (by decide) c
        · rw [e79, (key 0).1.1 (84, 0) w rfl]; exact h84
    · rw [if_neg d]; exact TS_o TA_rfl rfl rfl rfl h9
theorem TS_shut (h9 : T9 w R) (h84 : R.1 (79, 0) w = 0 → ¬ R.1 (84, 0) w = 1) : TS md w R (rShut R w) := by
  unfold rShut
  split
  · have s1 : TS md w R (xo_sE R (78, 0) w 1) := TS_set (by decide) rfl h9
    refine TS_tr s1 (TS_goes s1.2.1 ?_)
    rw [se_ne (by simp), se_ne (by simp)]
    exact h84
  · exact TS_o TA_rfl rfl rfl rfl h9
end TS
