def rStart (R : xo_H) (w : Nat) : xo_H := if R.1 (79, 0) w = 0 then (if R.1 (70, 0) w = 0 then (if 0 < R.1 (76, 0) w then hE (xo_sE R (79, 0) w 3) 3 (nI w) (R.1 (74, 0) (16 * w)) 0 else if R.1 (78, 0) w = 0 then R else hE (xo_sE (xo_sE R (78, 0) w 0) (79, 0) w 4) 4 (nI w) 0 0) else R) else R
def rGoesOn (R : xo_H) (w : Nat) : xo_H := if R.1 (79, 0) w = 0 ∧ R.1 (70, 0) w = 1 then rBreaks R w else rStart R w
def rStartFailing (R : xo_H) (w : Nat) (x : Int32) : xo_H := if R.1 (79, 0) w = 3 ∨ R.1 (79, 0) w = 4 then xo_sE (xo_sE R (70, 0) w 1) (71, 0) w x else rBreaks (xo_sE (xo_sE R (70, 0) w 1) (71, 0) w x) w
section TB
variable {b g t p w : Nat} {C R : xo_H}
theorem sn_both (h : sm b g t p C R) (hb : b < 2 ^ 30) (hw : w < t) : ∃ C', fc_T_startNext (30, w) C = some C' ∧ (¬ (R.1 (79, 0) w = 0 ∧ R.1 (70, 0) w = 1) → fc_M_goesOn (50, 0) (nI w) R = some (rStart R w)) ∧ sm (b + 1) g t p C' (rStart R w) := by
  have hw2 : w < 2 := by have := sm_le h; omega
  have hp := sm_MP h
  obtain ⟨-, p0, p1, p2, p3, p4, p5, p6⟩ := sm_ptrT h hw
  have q7 := sm_get h 30 7 79 w (by decide)
  have q4 := sm_get h 30 4 70 w (by decide)
  have q11 := sm_get h 30 11 78 w (by decide)
  unfold fc_T_startNext fc_M_goesOn fb_M_goesOn_72 rStart
  simp only [se_gf (kd_30 w), se_gp (kd_30 w), se_pf (kd_30 w), se_pz0 (kd_30 w), se_pz1 (kd_30 w), se_cl (kd_30 w), se_cl (kd_1 0), se_cl (kd_31 w), se_cl (kd_34 w), se_cl (kd_32 w), se_gp (kd_31 w), se_gf (kd_34 w), se_gf (kd_50 0), se_pf (kd_50 0), se_cl (kd_50 0), q7, q4, p1, mp_21 hp, mp_30 hp, mp_27 hp, mp_29 hp, ml_70 hw2, ml_79 hw2, ml_76 hw2, ml_78 hw2]
  by_cases c1 : R.1 (79, 0) w = 0
  · by_cases c2 : R.1 (70, 0) w = 0
    · have n1 : ¬ (0 : Int32) = 1 := by decide
      simp only [c1, c2, if_true, n1, if_false]
      obtain ⟨⟨n, hd, a1, a2, a3, a4, a5, a6⟩, -, -⟩ := h.2.2.2.1 w
      rw [cr_count (kd_31 w) (kd_32 w) p4]
      simp only [Option.bind_some, a3, a5]
      by_cases c3 : 0 < nI n
      · simp only [c3, if_true]
        have hn : 0 < n := by
          rcases Nat.eq_zero_or_pos n with z | z
          · subst z; rw [nI_0] at c3; exact absurd c3 (by decide)
          · exact z
        have h1 := sm_set h 30 7 79 w 3 (by decide) rfl rfl
        obtain ⟨-, p0', p1', p2', p3', p4', p5', p6'⟩ := sm_ptrT h1 hw
        have hat := sm_at (C := xo_sE C (30, w) 7 3) (n := n) (h := hd) (k := 0) (kd_32 w) (kd_33 w) p5' (by rw [se_ne (by simp)]; exact a3) (by rw [se_ne (by simp)]; exact a4) a2 hn (by decide) a1
        rw [nI_0] at hat
        have e33 : (xo_sE C (30, w) 7 3).1 ((32, w).1 + 1, (32, w).2) ((hd + 0) % 16) = R.1 (74, 0) (16 * w) := by
          rw [se_ne (by simp)]; exact a6 0 hn
        rw [e33] at hat
        obtain ⟨C', n1, n2, n3⟩ := hE_both h1 hb 3 (nI w) (R.1 (74, 0) (16 * w)) 0
        refine ⟨C', ?_, fun _ => ?_, n3⟩
        · simp only [se_gp (kd_31 w), p1', p4', p2', p0', se_cl (kd_32 w), hat, Option.bind_some, se_cl (kd_1 0), n1]
        · simp only [mq_79 hw2]
          rw [mp_25 (by exact hp), ix_16, ml_74 (by omega), se_ne (m := (74, 0)) (by simp)]
          rw [n2]; rfl
      · simp only [c3, if_false]
        simp only [q11]
        by_cases c4 : R.1 (78, 0) w = 0
        · simp only [c4, if_true]
          exact ⟨C, rfl, fun _ => trivial, sm_more h (by omega)⟩
        · simp only [c4, if_false]
          have h1 := sm_set h 30 11 78 w 0 (by decide) rfl rfl
          have h2 := sm_set h1 30 7 79 w 4 (by decide) rfl rfl
          obtain ⟨-, p0', p1', p2', p3', p4', p5', p6'⟩ := sm_ptrT h2 hw
          obtain ⟨C', n1, n2, n3⟩ := hE_both h2 hb 4 (nI w) 0 0
          refine ⟨C', ?_, fun _ => ?_, n3⟩
          · simp only [p2', p0', se_cl (kd_1 0), n1, Option.bind_some]
          · simp only [mq0_78 hw2]
            rw [mp_30 (by exact hp)]
            simp only [mq_79 hw2]
            rw [n2]; rfl
    · simp only [c1, c2, if_true, if_false]
      refine ⟨C, rfl, fun z => ?_, sm_more h (by omega)⟩
      have c3 : ¬ R.1 (70, 0) w = 1 := fun y => z ⟨trivial, y⟩
      simp only [c3, if_false]
  · simp only [c1, if_false]
    exact ⟨C, rfl, fun _ => trivial, sm_more h (by omega)⟩
theorem go_both (h : sm b g t p C R) (hb : b + 20 < 2 ^ 30) (hw : w < t) : ∃ C', fc_T_goOn (30, w) C = some C' ∧ fc_M_goesOn (50, 0) (nI w) R = some (rGoesOn R w) ∧ sm (b + 18) g t p C' (rGoesOn R w) := by
  have hw2 : w < 2 := by have := sm_le h; omega
  have hp := sm_MP h
  have q7 := sm_get h 30 7 79 w (by decide)
  have q4 := sm_get h 30 4 70 w (by decide)
  obtain ⟨C1, s1, s2, s3⟩ := sn_both h (by omega) hw
  obtain ⟨C2, b1, b2, b3⟩ := brk_both h hb hw
  unfold fc_T_goOn fb_T_goOn_22 rGoesOn
  simp only [se_gf (kd_30 w), se_gp (kd_30 w), se_pf (kd_30 w), se_pz0 (kd_30 w), se_pz1 (kd_30 w), se_cl (kd_30 w), se_cl (kd_1 0), se_cl (kd_31 w), se_cl (kd_34 w), se_cl (kd_32 w), se_gp (kd_31 w), se_gf (kd_34 w), q7, q4, s1, b1, Option.bind_some]
  by_cases c1 : R.1 (79, 0) w = 0
  · by_cases c2 : R.1 (70, 0) w = 1
    · simp only [c1, c2, if_true, and_self]
      refine ⟨C2, rfl, ?_, b3⟩
      unfold fc_M_goesOn
      simp only [se_gf (kd_50 0), se_pf (kd_50 0), se_cl (kd_50 0), mp_21 hp, mp_30 hp, ml_70 hw2, ml_79 hw2, c1, c2, if_true, b2, Option.bind_some]
    · simp only [c1, c2, if_true, if_false, and_false]
      exact ⟨C1, rfl, s2 fun z => c2 z.2, sm_more s3 (by omega)⟩
  · simp only [c1, if_false, false_and]
    exact ⟨C1, rfl, s2 fun z => c1 z.1, sm_more s3 (by omega)⟩
theorem sf_both {x : Int32} (h : sm b g t p C R) (hb : b + 20 < 2 ^ 30) (hw : w < t) (hd : R.1 (79, 0) w = 0 ∨ R.1 (79, 0) w = 3 ∨ R.1 (79, 0) w = 4) : ∃ C', fc_T_startFailing (30, w) x C = some C' ∧ fc_M_startFailing (50, 0) (nI w) x R = some (rStartFailing R w x) ∧ sm (b + 18) g t p C' (rStartFailing R w x) := by
  have hw2 : w < 2 := by have := sm_le h; omega
  have hp := sm_MP h
  have h1 := sm_set h 30 4 70 w 1 (by decide) rfl rfl
  have h2 := sm_set h1 30 5 71 w x (by decide) rfl rfl
  have q7 := sm_get h2 30 7 79 w (by decide)
  rw [se_ne (m := (79, 0)) (by simp), se_ne (m := (79, 0)) (by simp)] at q7
  obtain ⟨C2, b1, b2, b3⟩ := brk_both h2 hb hw
  unfold fc_T_startFailing fc_M_startFailing rStartFailing
  simp only [se_gf (kd_30 w), se_gp (kd_30 w), se_pf (kd_30 w), se_pz0 (kd_30 w), se_pz1 (kd_30 w), se_cl (kd_30 w), se_cl (kd_1 0), se_cl (kd_31 w), se_cl (kd_34 w), se_cl (kd_32 w), se_gp (kd_31 w), se_gf (kd_34 w), q7, b1, Option.bind_some, mp_21 hp, mq_70 hw2]
  rw [mp_22 (by exact hp)]
  simp only [mq_71 hw2]
  rw [mp_30 (by exact hp)]
  simp only [ml_79 hw2]
  rw [se_ne (m := (79, 0)) (by simp), se_ne (m := (79, 0)) (by simp), mp_30 (by exact hp)]
  simp only [ml_79 hw2]
  rw [se_ne (m := (79, 0)) (by simp), se_ne (m := (79, 0)) (by simp)]
  simp only [se_gf (kd_50 0), se_pf (kd_50 0), se_cl (kd_50 0), b2, Option.bind_some]
  rcases hd with c | c | c
  · have e1 : ¬ (0 : Int32) = 3 := by decide
    have e2 : ¬ (0 : Int32) = 4 := by decide
    simp only [c, if_true, e1, e2, if_false, or_self]
    exact ⟨C2, rfl, trivial, b3⟩
  · have e1 : ¬ (3 : Int32) = 0 := by decide
    simp only [c, e1, if_false, if_true, true_or]
    exact ⟨_, rfl, trivial, sm_more h2 (by omega)⟩
  · have e1 : ¬ (4 : Int32) = 0 := by decide
    have e2 : ¬ (4 : Int32) = 3 := by decide
    simp only [c, e1, e2, if_false, if_true, or_true]
    exact ⟨_, rfl, trivial, sm_more h2 (by omega)⟩
end TB
