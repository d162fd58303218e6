section TB
variable {b g t p w : Nat} {C R : xo_H}
theorem he_C (h : sm b g t p C R) (hw : w < t) : fc_T_hasError (30, w) C = some (if R.1 (70, 0) w = 1 ∨ R.1 (70, 0) w = 2 then 1 else 0, C) := by
  have q4 := sm_get h 30 4 70 w (by decide)
  unfold fc_T_hasError
  simp only [se_gf (kd_30 w), q4, se_gb0, se_gb1]
  by_cases c1 : R.1 (70, 0) w = 1
  · rw [if_pos c1, if_pos (Or.inl c1)]
  rw [if_neg c1]
  by_cases c2 : R.1 (70, 0) w = 2
  · rw [if_pos c2, if_pos (Or.inr c2)]
  rw [if_neg c2, if_neg (fun z => z.elim c1 c2)]
theorem is_C (h : sm b g t p C R) (hw : w < t) : fc_T_isShutOrToBe (30, w) C = some (if ¬ R.1 (78, 0) w = 0 ∨ R.1 (79, 0) w = 4 ∨ R.1 (70, 0) w = 3 then 1 else 0, C) := by
  have q4 := sm_get h 30 4 70 w (by decide)
  have q7 := sm_get h 30 7 79 w (by decide)
  have q11 := sm_get h 30 11 78 w (by decide)
  unfold fc_T_isShutOrToBe
  simp only [se_gf (kd_30 w), q4, q7, q11, se_gb0, se_gb1]
  by_cases d : R.1 (78, 0) w = 0
  · rw [if_pos d]
    by_cases d2 : R.1 (79, 0) w = 4
    · rw [if_pos d2, if_pos (Or.inr (Or.inl d2))]
    rw [if_neg d2]
    by_cases d3 : R.1 (70, 0) w = 3
    · rw [if_pos d3, if_pos (Or.inr (Or.inr d3))]
    rw [if_neg d3, if_neg (fun z => z.elim (fun y => y d) (fun y => y.elim d2 d3))]
  · rw [if_neg d, if_pos (Or.inl d)]
def fk_w2 (w : Nat) (x1 : Int32) (H2 : xo_H) : Option (Int32 × xo_H) := xo_cl 7 (some (30, w)) (fun n29 => fc_T_hasError n29 H2) fun r3 =>
  if r3.1 = 0 then (xo_cl 7 (some (30, w)) (fun n21 => fc_T_isShutOrToBe n21 r3.2) fun r4 =>
  if r4.1 = 0 then (xo_gp 7 1 r4.2 (some (30, w)) fun o5 =>
  xo_cl 4 o5 (fun n14 => fc_C_add n14 x1 r4.2) fun H6 =>
  xo_gp 7 3 H6 (some (30, w)) fun o7 =>
  xo_gf 7 6 H6 (some (30, w)) fun v8 =>
  xo_cl 3 o7 (fun n13 => fc_R_add n13 v8 H6) fun H9 =>
  xo_cl 7 (some (30, w)) (fun n12 => fc_T_startNext n12 H9) fun H10 =>
  xo_gf 7 6 H10 (some (30, w)) fun v11 =>
  some (v11, H10))
  else (xo_gp 7 2 r4.2 (some (30, w)) fun o15 =>
  xo_gf 7 0 r4.2 (some (30, w)) fun v16 =>
  xo_gf 7 6 r4.2 (some (30, w)) fun v17 =>
  xo_cl 1 o15 (fun n20 => fc_L_note n20 (10 : Int32) v16 v17 (100 : Int32) r4.2) fun H18 =>
  xo_gf 7 6 H18 (some (30, w)) fun v19 =>
  some (v19, H18)))
  else (xo_gp 7 2 r3.2 (some (30, w)) fun o22 =>
  xo_gf 7 0 r3.2 (some (30, w)) fun v23 =>
  xo_gf 7 6 r3.2 (some (30, w)) fun v24 =>
  xo_gf 7 5 r3.2 (some (30, w)) fun v25 =>
  xo_cl 1 o22 (fun n28 => fc_L_note n28 (10 : Int32) v23 v24 v25 r3.2) fun H26 =>
  xo_gf 7 6 H26 (some (30, w)) fun v27 =>
  some (v27, H26))
theorem w2_both {v u : Int32} (h : sm b g t p C R) (hb : b + 20 < 2 ^ 30) (hw : w < t) (hs : sm_st (R.1 (70, 0) w)) (hu : R.1 (77, 0) w = u) {n : Nat} (hn : R.1 (76, 0) w = nI n) (h16 : n < 16) : ∃ C', fk_w2 w v C = some (u, C') ∧ fr_w2 w v u R = some (u, rW2 R w v u) ∧ sm (b + 1) g t p C' (rW2 R w v u) := by
  have hw2 : w < 2 := by have := sm_le h; omega
  have hp := sm_MP h
  obtain ⟨e, e1, e2⟩ := sm_ev h
  obtain ⟨-, p0, p1, p2, p3, -⟩ := sm_ptrT h hw
  have q6 := sm_get h 30 6 77 w (by decide)
  have q5 := sm_get h 30 5 71 w (by decide)
  rw [hu] at q6
  obtain ⟨A1, A2, a1, a2, a3, a4, a5⟩ := ua_sm (v := v) (u := u) h hw hn h16
  obtain ⟨B1, s1, s2, s3⟩ := sn_both a5 (by omega) hw
  have hg : R.1 (70, 0) w = 0 → fc_M_goesOn (50, 0) (nI w) (ua_R R w n v u) = some (rStart (ua_R R w n v u) w) := fun z => s2 fun y => by
    rw [ua_ne (m := (70, 0)) (by simp) (by simp) (by simp), z] at y
    exact absurd y.2 (by decide)
  have hr := w2_R (v := v) (u := u) hp hw2 hn h16 e2 (by omega) hs hg
  unfold fk_w2
  simp only [se_cl (kd_30 w), he_C h hw, Option.bind_some]
  by_cases c : R.1 (70, 0) w = 1 ∨ R.1 (70, 0) w = 2
  · obtain ⟨E1, n1, n2, n3⟩ := hE_both h (by omega) 10 (nI w) u (R.1 (71, 0) w)
    have g6 := sm_get n3 30 6 77 w (by decide)
    rw [hE_ne rfl, hu] at g6
    have er : rW2 R w v u = hE R 10 (nI w) u (R.1 (71, 0) w) := by unfold rW2; rw [if_pos c]
    refine ⟨E1, ?_, hr, by rw [er]; exact n3⟩
    rw [if_pos c, if_neg (by decide)]
    simp only [se_gp (kd_30 w), se_gf (kd_30 w), p2, p0, q6, q5, se_cl (kd_1 0), n1, Option.bind_some, g6]
  · rw [if_neg c, if_pos rfl]
    simp only [is_C h hw, Option.bind_some]
    by_cases d : ¬ R.1 (78, 0) w = 0 ∨ R.1 (79, 0) w = 4 ∨ R.1 (70, 0) w = 3
    · obtain ⟨E1, n1, n2, n3⟩ := hE_both h (by omega) 10 (nI w) u 100
      have g6 := sm_get n3 30 6 77 w (by decide)
      rw [hE_ne rfl, hu] at g6
      have er : rW2 R w v u = hE R 10 (nI w) u 100 := by unfold rW2; rw [if_neg c, if_pos d]
      refine ⟨E1, ?_, hr, by rw [er]; exact n3⟩
      rw [if_pos d, if_neg (by decide)]
      simp only [se_gp (kd_30 w), se_gf (kd_30 w), p2, p0, q6, se_cl (kd_1 0), n1, Option.bind_some, g6]
    · have g6 := sm_get s3 30 6 77 w (by decide)
      rw [rStart_ne rfl (by simp) (by simp), ua_ne (by simp) (by simp) (by simp), hu] at g6
      have er : rW2 R w v u = rStart (ua_R R w n v u) w := by unfold rW2; rw [if_neg c, if_neg d, hn, nI_clamp (by omega)]
      refine ⟨B1, ?_, hr, by rw [er]; exact s3⟩
      rw [if_neg d, if_pos rfl]
      simp only [se_gp (kd_30 w), se_gf (kd_30 w), p1, se_cl (kd_31 w), a1, Option.bind_some, a2, p3, a3, q6, se_cl (kd_34 w), a4, s1, g6]
theorem wr_both {v : Int32} (h : sm b g t p C R) (hb : b + 20 < 2 ^ 30) (hw : w < t) (hs : sm_st (R.1 (70, 0) w)) {n : Nat} (hn : R.1 (76, 0) w = nI n) (h16 : n < 16) : ∃ C', fc_T_accept (30, w) v C = some (R.1 (77, 0) w + 1, C') ∧ fc_M_writeTo (50, 0) (nI w) v R = some (R.1 (77, 0) w + 1, rWrite R w v) ∧ sm (b + 1) g t p C' (rWrite R w v) := by
  have hw2 : w < 2 := by have := sm_le h; omega
  have hp := sm_MP h
  have q6 := sm_get h 30 6 77 w (by decide)
  generalize hu : R.1 (77, 0) w + 1 = u
  have h1 := sm_set h 30 6 77 w u (by decide) rfl rfl
  obtain ⟨C', x1, x2, x3⟩ := w2_both (v := v) (u := u) h1 hb hw (by rw [se_ne (by simp)]; exact hs) (xo_sE_eq _ _ _ _) (n := n) (by rw [se_ne (by simp)]; exact hn) h16
  refine ⟨C', ?_, ?_, ?_⟩
  · unfold fc_T_accept
    simp only [se_gf (kd_30 w), se_pf (kd_30 w), q6, hu]
    exact x1
  · unfold fc_M_writeTo
    rw [mp_28 hp]
    simp only [ml_77 hw2, mq_77 hw2, hu]
    rw [mp_28 (by exact hp)]
    simp only [ml_77 hw2]
    rw [xo_sE_eq]
    unfold rWrite
    rw [hu]
    exact x2
  · unfold rWrite
    rw [hu]
    exact x3
end TB
