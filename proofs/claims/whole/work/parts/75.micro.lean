theorem se_at {R : xo_H} {a r i : Nat} {v : Int32} : (xo_sE R (a, 0) r v).1 (a, 0) i = if i = r then v else R.1 (a, 0) i := by rw [se_E1]; simp
theorem FR_G {R : xo_H} {g t p a r : Nat} {v : Int32} (z : FR g t p R) (ha : a ∈ frG) (h : r < g ∨ v = 0) : FR g t p (xo_sE R (a, 0) r v) := by
  have d2 : ∀ b ∈ frT, ¬ b = a := by
    intro b hb e
    subst e
    revert ha hb
    simp only [frG, frT, List.mem_cons, List.not_mem_nil, or_false]
    omega
  have d3 : ∀ b ∈ [88, 89], ¬ b = a := by
    intro b hb e
    subst e
    revert ha hb
    simp only [frG, List.mem_cons, List.not_mem_nil, or_false]
    omega
  refine ⟨fun b hb i hi => ?_, fun b hb i hi => ?_, fun b hb i hi => ?_⟩
  · by_cases c : b = a
    · subst c
      rw [se_at]
      split
      next e =>
        rcases h with h | h
        · omega
        · exact h
      next => exact z.1 b hb i hi
    · rw [se_ne (by simp [c])]; exact z.1 b hb i hi
  · rw [se_ne (by simp [d2 b hb])]; exact z.2.1 b hb i hi
  · rw [se_ne (by simp [d3 b hb])]; exact z.2.2 b hb i hi
theorem FR_T {R : xo_H} {g t p a r : Nat} {v : Int32} (z : FR g t p R) (ha : a ∈ frT) (h : r < t ∨ v = 0) : FR g t p (xo_sE R (a, 0) r v) := by
  have d2 : ∀ b ∈ frG, ¬ b = a := by
    intro b hb e
    subst e
    revert ha hb
    simp only [frG, frT, List.mem_cons, List.not_mem_nil, or_false]
    omega
  have d3 : ∀ b ∈ [88, 89], ¬ b = a := by
    intro b hb e
    subst e
    revert ha hb
    simp only [frT, List.mem_cons, List.not_mem_nil, or_false]
    omega
  refine ⟨fun b hb i hi => ?_, fun b hb i hi => ?_, fun b hb i hi => ?_⟩
  · rw [se_ne (by simp [d2 b hb])]; exact z.1 b hb i hi
  · by_cases c : b = a
    · subst c
      rw [se_at]
      split
      next e =>
        rcases h with h | h
        · omega
        · exact h
      next => exact z.2.1 b hb i hi
    · rw [se_ne (by simp [c])]; exact z.2.1 b hb i hi
  · rw [se_ne (by simp [d3 b hb])]; exact z.2.2 b hb i hi
theorem FR_P {R : xo_H} {g t p a r : Nat} {v : Int32} (z : FR g t p R) (ha : a ∈ [88, 89]) (h : r < p ∨ v = 0) : FR g t p (xo_sE R (a, 0) r v) := by
  have d2 : ∀ b ∈ frG, ¬ b = a := by
    intro b hb e
    subst e
    revert ha hb
    simp only [frG, List.mem_cons, List.not_mem_nil, or_false]
    omega
  have d3 : ∀ b ∈ frT, ¬ b = a := by
    intro b hb e
    subst e
    revert ha hb
    simp only [frT, List.mem_cons, List.not_mem_nil, or_false]
    omega
  refine ⟨fun b hb i hi => ?_, fun b hb i hi => ?_, fun b hb i hi => ?_⟩
  · rw [se_ne (by simp [d2 b hb])]; exact z.1 b hb i hi
  · rw [se_ne (by simp [d3 b hb])]; exact z.2.1 b hb i hi
  · by_cases c : b = a
    · subst c
      rw [se_at]
      split
      next e =>
        rcases h with h | h
        · omega
        · exact h
      next => exact z.2.2 b hb i hi
    · rw [se_ne (by simp [c])]; exact z.2.2 b hb i hi
section MI
variable {R : xo_H} {g t p q r : Nat} {v : Int32}
theorem m62z (z : Inv g t p q R) : Inv g t p q (xo_sE R (62, 0) r 0) := by
  obtain ⟨z1, z2, z3, z4, z5, z6, z7, z8, z9, z10, z11, z12, z13, z14, z15, z16⟩ := z
  refine ⟨ka_F (agr_set rfl) z1, ka_S (agr_set rfl) z2, ka_B (agr_set rfl) z3, fun i hi => ?_, fun i hi => ?_, fun i hi => ?_, ka_N (agr_set rfl) z7, fun i hi => ?_, ka_T (agr_set rfl) z9, ?_, ka_J1 (agr_set rfl) z11, ka_JP (agr_set rfl) z12, fun i hi hh => ?_, ka_JS (agr_set rfl) z14, ka_JM (agr_set rfl) z15, FR_G z16 (by decide) (Or.inr rfl)⟩
  · rw [se_ne (by simp)] at hi ⊢
    rw [se_at]
    refine ⟨(z4 i hi).1, ?_⟩
    split
    · rfl
    · exact (z4 i hi).2
  · rw [se_ne (by simp)] at hi
    rw [se_at]
    split
    · rfl
    · exact z5 i hi
  · have e61 : (xo_sE R (62, 0) r 0).1 (61, 0) = R.1 (61, 0) := se_ne (by simp)
    have e85 : (xo_sE R (62, 0) r 0).1 (85, 0) = R.1 (85, 0) := se_ne (by simp)
    have e88 : (xo_sE R (62, 0) r 0).1 (88, 0) = R.1 (88, 0) := se_ne (by simp)
    have e58 : (xo_sE R (62, 0) r 0).1 (58, 0) = R.1 (58, 0) := se_ne (by simp)
    rw [e61, e85, e88, e58, se_at]
    by_cases c : i = r
    · rw [if_pos c]
      refine ⟨fun _ j m hm h8 hj => ?_, fun _ => Or.inl rfl, fun _ => Or.inl rfl⟩
      have : 0 = m := sm_nIinj hm (by omega) (by omega)
      omega
    · rw [if_neg c]
      exact z6 i hi
  · have e65 : (xo_sE R (62, 0) r 0).1 (65, 0) = R.1 (65, 0) := se_ne (by simp)
    have e67 : (xo_sE R (62, 0) r 0).1 (67, 0) = R.1 (67, 0) := se_ne (by simp)
    have e68 : (xo_sE R (62, 0) r 0).1 (68, 0) = R.1 (68, 0) := se_ne (by simp)
    rw [e65, e67, e68, se_at]
    refine ⟨fun h1 h2 => ?_, (z8 i hi).2⟩
    by_cases c : i = r
    · rw [if_pos c] at h2; exact absurd rfl h2
    · rw [if_neg c] at h2; exact (z8 i hi).1 h1 h2
  · have e76 : (xo_sE R (62, 0) r 0).1 (76, 0) = R.1 (76, 0) := se_ne (by simp)
    have e85 : (xo_sE R (62, 0) r 0).1 (85, 0) = R.1 (85, 0) := se_ne (by simp)
    have e86 : (xo_sE R (62, 0) r 0).1 (86, 0) = R.1 (86, 0) := se_ne (by simp)
    have e88 : (xo_sE R (62, 0) r 0).1 (88, 0) = R.1 (88, 0) := se_ne (by simp)
    unfold iX
    rw [e76, e85, e86, e88]
    refine ⟨fun k hk h0 i w h1 h2 h3 h4 h5 => ?_, z10.2⟩
    rw [se_at] at h5
    by_cases c : i = r
    · rw [if_pos c] at h5; exact absurd rfl h5
    · rw [if_neg c] at h5; exact z10.1 k hk h0 i w h1 h2 h3 h4 h5
  · rw [ka_has (agr_set rfl)] at hh
    obtain ⟨a1, a2, a3⟩ := z13 i hi hh
    rw [se_ne (m := (65, 0)) (by simp), se_ne (m := (67, 0)) (by simp), se_at]
    refine ⟨a1, a2, ?_⟩
    split
    · rfl
    · exact a3
theorem m51c (z : Inv g t p q R) (hr : r < g) (h1 : R.1 (60, 0) r = 0) (h2 : R.1 (62, 0) r = 0) (h3 : ¬ R.1 (51, 0) r = 2) : Inv g t p q (xo_sE R (51, 0) r 1) := by
  obtain ⟨z1, z2, z3, z4, z5, z6, z7, z8, z9, z10, z11, z12, z13, z14, z15, z16⟩ := z
  refine ⟨fun i hi => ?_, fun i => ?_, ka_B (agr_set rfl) z3, fun i hi => ?_, ka_Q (agr_set rfl) z5, ka_H (agr_set rfl) z6, ka_N (agr_set rfl) z7, ka_P (agr_set rfl) z8, ka_T (agr_set rfl) z9, ka_X (agr_set rfl) z10, ka_J1 (agr_set rfl) z11, ka_JP (agr_set rfl) z12, ka_JD (agr_set rfl) z13, ka_JS (agr_set rfl) z14, ka_JM (agr_set rfl) z15, FR_G z16 (by decide) (Or.inl hr)⟩
  · rw [se_at] at hi
    rw [se_ne (by simp)]
    by_cases c : i = r
    · subst c; exact z1 i h3
    · rw [if_neg c] at hi; exact z1 i hi
  · rw [se_at]
    split
    · exact Or.inr (Or.inl rfl)
    · exact z2 i
  · rw [se_at] at hi
    rw [se_ne (m := (60, 0)) (by simp), se_ne (m := (62, 0)) (by simp)]
    by_cases c : i = r
    · subst c; exact ⟨h1, h2⟩
    · rw [if_neg c] at hi; exact z4 i hi
theorem m51f (z : Inv g t p q R) (hr : r < g) (h1 : R.1 (60, 0) r = 0) (h2 : R.1 (62, 0) r = 0) : Inv g t p q (xo_sE (xo_sE R (51, 0) r 2) (52, 0) r v) := by
  obtain ⟨z1, z2, z3, z4, z5, z6, z7, z8, z9, z10, z11, z12, z13, z14, z15, z16⟩ := z
  refine ⟨fun i hi => ?_, fun i => ?_, ka_B (agr_to (agr_set rfl) rfl) z3, fun i hi => ?_, ka_Q (agr_to (agr_set rfl) rfl) z5, ka_H (agr_to (agr_set rfl) rfl) z6, ka_N (agr_to (agr_set rfl) rfl) z7, ka_P (agr_to (agr_set rfl) rfl) z8, ka_T (agr_to (agr_set rfl) rfl) z9, ka_X (agr_to (agr_set rfl) rfl) z10, ka_J1 (agr_to (agr_set rfl) rfl) z11, ka_JP (agr_to (agr_set rfl) rfl) z12, ka_JD (agr_to (agr_set rfl) rfl) z13, ka_JS (agr_to (agr_set rfl) rfl) z14, ka_JM (agr_to (agr_set rfl) rfl) z15, FR_G (FR_G z16 (by decide) (Or.inl hr)) (by decide) (Or.inl hr)⟩
  · rw [se_ne (by simp), se_at] at hi
    rw [se_at, se_ne (m := (52, 0)) (by simp)]
    by_cases c : i = r
    · rw [if_pos c] at hi; exact absurd rfl hi
    · rw [if_neg c] at hi ⊢; exact z1 i hi
  · rw [se_ne (by simp), se_at]
    split
    · exact Or.inr (Or.inr rfl)
    · exact z2 i
  · rw [se_ne (by simp), se_at] at hi
    rw [se_ne (m := (60, 0)) (by simp), se_ne (m := (62, 0)) (by simp), se_ne (m := (60, 0)) (by simp), se_ne (m := (62, 0)) (by simp)]
    by_cases c : i = r
    · subst c; exact ⟨h1, h2⟩
    · rw [if_neg c] at hi; exact z4 i hi
theorem m55 (z : Inv g t p q R) (hr : r < g) : Inv g t p q (xo_sE R (55, 0) r v) := by
  obtain ⟨z1, z2, z3, z4, z5, z6, z7, z8, z9, z10, z11, z12, z13, z14, z15, z16⟩ := z
  exact ⟨ka_F (agr_set rfl) z1, ka_S (agr_set rfl) z2, ka_B (agr_set rfl) z3, ka_E (agr_set rfl) z4, ka_Q (agr_set rfl) z5, ka_H (agr_set rfl) z6, ka_N (agr_set rfl) z7, ka_P (agr_set rfl) z8, ka_T (agr_set rfl) z9, ka_X (agr_set rfl) z10, ka_J1 (agr_set rfl) z11, ka_JP (agr_set rfl) z12, ka_JD (agr_set rfl) z13, ka_JS (agr_set rfl) z14, ka_JM (agr_set rfl) z15, FR_G z16 (by decide) (Or.inl hr)⟩
theorem m69 (z : Inv g t p q R) (hr : r < g) : Inv g t p q (xo_sE R (69, 0) r v) := by
  obtain ⟨z1, z2, z3, z4, z5, z6, z7, z8, z9, z10, z11, z12, z13, z14, z15, z16⟩ := z
  exact ⟨ka_F (agr_set rfl) z1, ka_S (agr_set rfl) z2, ka_B (agr_set rfl) z3, ka_E (agr_set rfl) z4, ka_Q (agr_set rfl) z5, ka_H (agr_set rfl) z6, ka_N (agr_set rfl) z7, ka_P (agr_set rfl) z8, ka_T (agr_set rfl) z9, ka_X (agr_set rfl) z10, ka_J1 (agr_set rfl) z11, ka_JP (agr_set rfl) z12, ka_JD (agr_set rfl) z13, ka_JS (agr_set rfl) z14, ka_JM (agr_set rfl) z15, FR_G z16 (by decide) (Or.inl hr)⟩
theorem m56 (z : Inv g t p q R) (hr : r < g) (hv : v = 1 ∨ (v = 0 ∧ ¬ R.1 (64, 0) r = 1)) : Inv g t p q (xo_sE R (56, 0) r v) := by
  obtain ⟨z1, z2, z3, z4, z5, z6, z7, z8, z9, z10, z11, z12, z13, z14, z15, z16⟩ := z
  refine ⟨ka_F (agr_set rfl) z1, ka_S (agr_set rfl) z2, fun i => ?_, ka_E (agr_set rfl) z4, ka_Q (agr_set rfl) z5, ka_H (agr_set rfl) z6, ka_N (agr_set rfl) z7, ka_P (agr_set rfl) z8, ka_T (agr_set rfl) z9, ka_X (agr_set rfl) z10, ka_J1 (agr_set rfl) z11, fun i hi => ?_, ka_JD (agr_set rfl) z13, ka_JS (agr_set rfl) z14, ka_JM (agr_set rfl) z15, FR_G z16 (by decide) (Or.inl hr)⟩
  · rw [se_at, se_ne (m := (57, 0)) (by simp)]
    refine ⟨?_, (z3 i).2⟩
    split
    · rcases hv with e | e
      · exact Or.inr e
      · exact Or.inl e.1
    · exact (z3 i).1
  · obtain ⟨a1, a2, a3⟩ := z12 i hi
    rw [ka_has (agr_set rfl), se_at, se_ne (m := (64, 0)) (by simp)]
    refine ⟨a1, a2, fun h => ?_⟩
    split
    next e =>
      rcases hv with d | d
      · exact d
      · rw [e] at h; exact absurd h d.2
    next => exact a3 h
theorem m57 (z : Inv g t p q R) (hr : r < g) (hv : rB01 v) : Inv g t p q (xo_sE R (57, 0) r v) := by
  obtain ⟨z1, z2, z3, z4, z5, z6, z7, z8, z9, z10, z11, z12, z13, z14, z15, z16⟩ := z
  refine ⟨ka_F (agr_set rfl) z1, ka_S (agr_set rfl) z2, fun i => ?_, ka_E (agr_set rfl) z4, ka_Q (agr_set rfl) z5, ka_H (agr_set rfl) z6, ka_N (agr_set rfl) z7, ka_P (agr_set rfl) z8, ka_T (agr_set rfl) z9, ka_X (agr_set rfl) z10, ka_J1 (agr_set rfl) z11, ka_JP (agr_set rfl) z12, ka_JD (agr_set rfl) z13, ka_JS (agr_set rfl) z14, ka_JM (agr_set rfl) z15, FR_G z16 (by decide) (Or.inl hr)⟩
  rw [se_at, se_ne (m := (56, 0)) (by simp)]
  refine ⟨(z3 i).1, ?_⟩
  split
  · exact hv
  · exact (z3 i).2
theorem m60 (z : Inv g t p q R) (h : v = 0 ∨ (r < g ∧ R.1 (51, 0) r = 0 ∧ R.1 (62, 0) r = 0)) : Inv g t p q (xo_sE R (60, 0) r v) := by
  obtain ⟨z1, z2, z3, z4, z5, z6, z7, z8, z9, z10, z11, z12, z13, z14, z15, z16⟩ := z
  refine ⟨ka_F (agr_set rfl) z1, ka_S (agr_set rfl) z2, ka_B (agr_set rfl) z3, fun i hi => ?_, fun i hi => ?_, ka_H (agr_set rfl) z6, ka_N (agr_set rfl) z7, ka_P (agr_set rfl) z8, ka_T (agr_set rfl) z9, ka_X (agr_set rfl) z10, ka_J1 (agr_set rfl) z11, ka_JP (agr_set rfl) z12, ka_JD (agr_set rfl) z13, ka_JS (agr_set rfl) z14, ka_JM (agr_set rfl) z15, FR_G z16 (by decide) (h.elim Or.inr fun e => Or.inl e.1)⟩
  · rw [se_ne (by simp)] at hi
    rw [se_at, se_ne (m := (62, 0)) (by simp)]
    refine ⟨?_, (z4 i hi).2⟩
    split
    next e =>
      rcases h with d | d
      · exact d
      · rw [e] at hi; exact absurd d.2.1 hi
    next => exact (z4 i hi).1
  · rw [se_at] at hi
    rw [se_ne (by simp)]
    by_cases c : i = r
    · rw [if_pos c] at hi
      rcases h with d | d
      · exact absurd d hi
      · rw [c]; exact d.2.2
    · rw [if_neg c] at hi
      exact z5 i hi
theorem m63 {n : Nat} (z : Inv g t p q R) (hr : r < g) (hn : n ≤ q) : Inv g t p (q + 1) (xo_sE R (63, 0) r (nI (n + 1))) := by
  obtain ⟨z1, z2, z3, z4, z5, z6, z7, z8, z9, z10, z11, z12, z13, z14, z15, z16⟩ := z
  refine ⟨ka_F (agr_set rfl) z1, ka_S (agr_set rfl) z2, ka_B (agr_set rfl) z3, ka_E (agr_set rfl) z4, ka_Q (agr_set rfl) z5, ka_H (agr_set rfl) z6, fun i => ?_, ka_P (agr_set rfl) z8, ka_T (agr_set rfl) z9, ka_X (agr_set rfl) z10, ka_J1 (agr_set rfl) z11, ka_JP (agr_set rfl) z12, ka_JD (agr_set rfl) z13, ka_JS (agr_set rfl) z14, ka_JM (agr_set rfl) z15, FR_G z16 (by decide) (Or.inl hr)⟩
  rw [se_at]
  split
  · exact ⟨n + 1, by omega, rfl⟩
  · obtain ⟨m, m1, m2⟩ := z7 i
    exact ⟨m, by omega, m2⟩
theorem Inv_more {q' : Nat} (z : Inv g t p q R) (h : q ≤ q') : Inv g t p q' R := by
  obtain ⟨z1, z2, z3, z4, z5, z6, z7, z8, z9⟩ := z
  exact ⟨z1, z2, z3, z4, z5, z6, fun i => by
    obtain ⟨m, m1, m2⟩ := z7 i
    exact ⟨m, by omega, m2⟩, z8, z9⟩
theorem m67 (z : Inv g t p q R) (hr : r < g) (h : (v = 1 ∧ ¬ R.1 (65, 0) r = -1) ∨ (v = 0 ∧ R.1 (62, 0) r = 0 ∧ ¬ has R 2 r)) : Inv g t p q (xo_sE R (67, 0) r v) := by
  obtain ⟨z1, z2, z3, z4, z5, z6, z7, z8, z9, z10, z11, z12, z13, z14, z15, z16⟩ := z
  refine ⟨ka_F (agr_set rfl) z1, ka_S (agr_set rfl) z2, ka_B (agr_set rfl) z3, ka_E (agr_set rfl) z4, ka_Q (agr_set rfl) z5, ka_H (agr_set rfl) z6, ka_N (agr_set rfl) z7, fun i hi => ?_, ka_T (agr_set rfl) z9, ka_X (agr_set rfl) z10, ka_J1 (agr_set rfl) z11, ka_JP (agr_set rfl) z12, fun i hi hh => ?_, ka_JS (agr_set rfl) z14, ka_JM (agr_set rfl) z15, FR_G z16 (by decide) (Or.inl hr)⟩
  · rw [se_at, se_ne (m := (65, 0)) (by simp), se_ne (m := (62, 0)) (by simp), se_ne (m := (68, 0)) (by simp)]
    refine ⟨fun h1 h2 => ?_, fun h1 => ⟨?_, ((z8 i hi).2 h1).2⟩⟩
    · split
      next e =>
        rcases h with d | d
        · exact d.1
        · rw [e] at h2; exact absurd d.2.1 h2
      next => exact (z8 i hi).1 h1 h2
    · split
      next e =>
        rcases h with d | d
        · rw [e] at h1; exact absurd h1 d.2
        · exact d.1
      next => exact ((z8 i hi).2 h1).1
  · rw [ka_has (agr_set rfl)] at hh
    obtain ⟨a1, a2, a3⟩ := z13 i hi hh
    rw [se_at, se_ne (m := (65, 0)) (by simp), se_ne (m := (62, 0)) (by simp)]
    refine ⟨a1, ?_, a3⟩
    split
    next e =>
      rcases h with d | d
      · exact d.1
      · rw [e] at hh; exact absurd hh d.2.2
    next => exact a2
theorem m68 (z : Inv g t p q R) (hr : r < g) (h : ¬ R.1 (65, 0) r = -1) : Inv g t p q (xo_sE R (68, 0) r v) := by
  obtain ⟨z1, z2, z3, z4, z5, z6, z7, z8, z9, z10, z11, z12, z13, z14, z15, z16⟩ := z
  refine ⟨ka_F (agr_set rfl) z1, ka_S (agr_set rfl) z2, ka_B (agr_set rfl) z3, ka_E (agr_set rfl) z4, ka_Q (agr_set rfl) z5, ka_H (agr_set rfl) z6, ka_N (agr_set rfl) z7, fun i hi => ?_, ka_T (agr_set rfl) z9, ka_X (agr_set rfl) z10, ka_J1 (agr_set rfl) z11, ka_JP (agr_set rfl) z12, ka_JD (agr_set rfl) z13, ka_JS (agr_set rfl) z14, ka_JM (agr_set rfl) z15, FR_G z16 (by decide) (Or.inl hr)⟩
  rw [se_at, se_ne (m := (65, 0)) (by simp), se_ne (m := (62, 0)) (by simp), se_ne (m := (67, 0)) (by simp)]
  refine ⟨(z8 i hi).1, fun h1 => ⟨((z8 i hi).2 h1).1, ?_⟩⟩
  split
  next e => rw [e] at h1; exact absurd h1 h
  next => exact ((z8 i hi).2 h1).2
end MI
