theorem se_over {H : xo_H} {n m : xo_N} {f g : Nat} {u v x : Int32} (h : ¬ n = m) : xo_sE (xo_sE (xo_sE H n f u) m g x) n f v = xo_sE (xo_sE H m g x) n f v := by
  refine Prod.ext (funext fun a => funext fun c => ?_) rfl
  simp only [se_E1]
  by_cases e1 : a = n ∧ c = f
  · simp [e1]
  · simp only [if_neg e1]
def rFob (R : xo_H) (w : Nat) (x : Int32) : xo_H := if R.1 (70, 0) w = 0 then rStartFailing R w x else rBreaks R w
def rAbort (R : xo_H) (w : Nat) (x : Int32) : xo_H := if 1 < R.1 (70, 0) w then hE R 13 (nI w) 0 0 else if R.1 (80, 0) w = 0 then (if R.1 (70, 0) w = 1 then xo_sE (xo_sE (xo_sE R (80, 0) w 1) (81, 0) w x) (82, 0) w 1 else rStartFailing (xo_sE (xo_sE (xo_sE R (80, 0) w 1) (81, 0) w x) (82, 0) w 0) w x) else R
def rShut (R : xo_H) (w : Nat) : xo_H := if R.1 (70, 0) w < 2 ∧ R.1 (78, 0) w = 0 ∧ ¬ R.1 (79, 0) w = 4 then rGoesOn (xo_sE R (78, 0) w 1) w else R
def rW2 (R : xo_H) (w : Nat) (v u : Int32) : xo_H := if R.1 (70, 0) w = 1 ∨ R.1 (70, 0) w = 2 then hE R 10 (nI w) u (R.1 (71, 0) w) else if ¬ R.1 (78, 0) w = 0 ∨ R.1 (79, 0) w = 4 ∨ R.1 (70, 0) w = 3 then hE R 10 (nI w) u 100 else rStart (ua_R R w (R.1 (76, 0) w).toNatClampNeg v u) w
def rWrite (R : xo_H) (w : Nat) (v : Int32) : xo_H := rW2 (xo_sE R (77, 0) w (R.1 (77, 0) w + 1)) w v (R.1 (77, 0) w + 1)
/-- a taker's stage -/
def sm_st (x : Int32) : Prop := x = 0 ∨ x = 1 ∨ x = 2 ∨ x = 3
section TB
variable {b g t p w : Nat} {C R : xo_H}
theorem fob_both {x : Int32} (h : sm b g t p C R) (hb : b + 20 < 2 ^ 30) (hw : w < t) (hd : R.1 (79, 0) w = 0) : ∃ C', fc_T_failOrBreak (30, w) x C = some C' ∧ fc_M_failsOrBreaks (50, 0) (nI w) x R = some (rFob R w x) ∧ sm (b + 18) g t p C' (rFob R w x) := by
  have hw2 : w < 2 := by have := sm_le h; omega
  have hp := sm_MP h
  have q4 := sm_get h 30 4 70 w (by decide)
  unfold fc_T_failOrBreak fb_T_failOrBreak_12 fc_M_failsOrBreaks rFob
  simp only [se_gf (kd_30 w), se_gp (kd_30 w), se_pf (kd_30 w), se_pz0 (kd_30 w), se_pz1 (kd_30 w), se_cl (kd_30 w), se_cl (kd_1 0), se_cl (kd_31 w), se_cl (kd_34 w), se_cl (kd_32 w), se_gp (kd_31 w), se_gf (kd_34 w), se_gf (kd_50 0), se_pf (kd_50 0), se_cl (kd_50 0), q4, mp_21 hp, ml_70 hw2]
  by_cases c : R.1 (70, 0) w = 0
  · simp only [c, if_true]
    obtain ⟨C1, s1, s2, s3⟩ := sf_both (x := x) h hb hw (Or.inl hd)
    have h1 := sm_set h 30 5 71 w x (by decide) rfl rfl
    obtain ⟨C2, b1, b2, b3⟩ := brk_both h1 hb hw
    have e : rStartFailing R w x = rBreaks (xo_sE R (71, 0) w x) w := by
      have e1 : ¬ (0 : Int32) = 3 := by decide
      have e2 : ¬ (0 : Int32) = 4 := by decide
      unfold rStartFailing
      rw [hd, if_neg (by simp [e1, e2])]
      unfold rBreaks
      rw [se_over (by simp), se_ne (m := (76, 0)) (by simp), se_ne (m := (76, 0)) (by simp), se_ne (m := (76, 0)) (by simp)]
    rw [b1, s2]
    rw [e]
    exact ⟨C2, rfl, rfl, b3⟩
  · simp only [c, if_false]
    obtain ⟨C2, b1, b2, b3⟩ := brk_both h hb hw
    rw [b1, b2]
    exact ⟨C2, rfl, rfl, b3⟩
theorem abt_both {x : Int32} (h : sm b g t p C R) (hb : b + 20 < 2 ^ 30) (hw : w < t) (hs : sm_st (R.1 (70, 0) w)) (hd : R.1 (70, 0) w = 0 → R.1 (79, 0) w = 0 ∨ R.1 (79, 0) w = 3 ∨ R.1 (79, 0) w = 4) : ∃ C', fc_T_abortWith (30, w) x C = some C' ∧ fc_M_abortTaker (50, 0) (nI w) x R = some (rAbort R w x) ∧ sm (b + 18) g t p C' (rAbort R w x) := by
  have hw2 : w < 2 := by have := sm_le h; omega
  have hp := sm_MP h
  have q4 := sm_get h 30 4 70 w (by decide)
  have q9 := sm_get h 30 9 80 w (by decide)
  obtain ⟨-, p0, -, p2, -⟩ := sm_ptrT h hw
  obtain ⟨N1, n1, n2, n3⟩ := hE_both h (by omega) 13 (nI w) 0 0
  have h1 := sm_set h 30 9 80 w 1 (by decide) rfl rfl
  have h2 := sm_set h1 30 8 81 w x (by decide) rfl rfl
  have r4 := sm_get h2 30 4 70 w (by decide)
  rw [se_ne (m := (70, 0)) (by simp), se_ne (m := (70, 0)) (by simp)] at r4
  unfold fc_T_abortWith fb_T_abortWith_16 fb_T_abortWith_64 fc_M_abortTaker fb_M_abortTaker_65 rAbort
  simp only [se_gf (kd_30 w), se_gp (kd_30 w), se_pf (kd_30 w), se_pz0 (kd_30 w), se_pz1 (kd_30 w), se_cl (kd_30 w), se_cl (kd_1 0), se_cl (kd_31 w), se_cl (kd_34 w), se_cl (kd_32 w), se_gp (kd_31 w), se_gf (kd_34 w), se_gf (kd_50 0), se_pf (kd_50 0), se_cl (kd_50 0), q4, q9, r4, p2, p0, n1, n2, Option.bind_some, mp_21 hp, mp_31 hp, ml_70 hw2, ml_80 hw2, mq1_80 hw2, se_cl (kd_1 0)]
  by_cases c9 : R.1 (80, 0) w = 0
  · rcases hs with c | c | c | c
    · have e1 : ¬ (0 : Int32) = 3 := by decide
      have e2 : ¬ (0 : Int32) = 2 := by decide
      have e3 : ¬ (0 : Int32) = 1 := by decide
      have e4 : ¬ (1 : Int32) < 0 := by decide
      have h3 := sm_set h2 30 10 82 w 0 (by decide) rfl rfl
      obtain ⟨C1, s1, s2, s3⟩ := sf_both (x := x) h3 hb hw (by rw [se_ne (m := (79, 0)) (by simp), se_ne (m := (79, 0)) (by simp), se_ne (m := (79, 0)) (by simp)]; exact hd c)
      simp only [c, c9, e1, e2, e3, e4, if_true, if_false]
      refine ⟨C1, ?_, ?_, s3⟩
      · rw [xo_sE_eq, if_pos rfl, s1]; rfl
      · rw [mp_32 (by exact hp)]
        simp only [mq_81 hw2]
        rw [mp_33 (by exact hp), mp_21 (by exact hp)]
        simp only [ml_70 hw2]
        rw [se_ne (m := (70, 0)) (by simp), se_ne (m := (70, 0)) (by simp), c, if_neg e3]
        simp only [mq0_82 hw2]
        rw [mp_21 (by exact hp)]
        simp only [ml_70 hw2]
        rw [se_ne (m := (70, 0)) (by simp), se_ne (m := (70, 0)) (by simp), se_ne (m := (70, 0)) (by simp), c, if_pos rfl, s2]
        rfl
    · have e1 : ¬ (1 : Int32) = 3 := by decide
      have e2 : ¬ (1 : Int32) = 2 := by decide
      have e4 : ¬ (1 : Int32) < 1 := by decide
      have e5 : ¬ (1 : Int32) = 0 := by decide
      have h3 := sm_set h2 30 10 82 w 1 (by decide) rfl rfl
      simp only [c, c9, e1, e2, e4, if_true, if_false]
      refine ⟨_, ?_, ?_, sm_more h3 (by omega)⟩
      · rw [xo_sE_eq, if_neg e5]
      · rw [mp_32 (by exact hp)]
        simp only [mq_81 hw2]
        rw [mp_33 (by exact hp), mp_21 (by exact hp)]
        simp only [ml_70 hw2]
        rw [se_ne (m := (70, 0)) (by simp), se_ne (m := (70, 0)) (by simp), c, if_pos rfl]
        simp only [mq1_82 hw2]
        rw [mp_21 (by exact hp)]
        simp only [ml_70 hw2]
        rw [se_ne (m := (70, 0)) (by simp), se_ne (m := (70, 0)) (by simp), se_ne (m := (70, 0)) (by simp), c, if_neg e5]
    · have e1 : ¬ (2 : Int32) = 3 := by decide
      have e4 : (1 : Int32) < 2 := by decide
      simp only [c, e1, e4, if_true, if_false]
      exact ⟨N1, rfl, trivial, sm_more n3 (by omega)⟩
    · have e4 : (1 : Int32) < 3 := by decide
      simp only [c, e4, if_true]
      exact ⟨N1, rfl, trivial, sm_more n3 (by omega)⟩
  · rcases hs with c | c | c | c
    · have e1 : ¬ (0 : Int32) = 3 := by decide
      have e2 : ¬ (0 : Int32) = 2 := by decide
      have e4 : ¬ (1 : Int32) < 0 := by decide
      simp only [c, c9, e1, e2, e4, if_false]
      exact ⟨C, rfl, trivial, sm_more h (by omega)⟩
    · have e1 : ¬ (1 : Int32) = 3 := by decide
      have e2 : ¬ (1 : Int32) = 2 := by decide
      have e4 : ¬ (1 : Int32) < 1 := by decide
      simp only [c, c9, e1, e2, e4, if_false]
      exact ⟨C, rfl, trivial, sm_more h (by omega)⟩
    · have e1 : ¬ (2 : Int32) = 3 := by decide
      have e4 : (1 : Int32) < 2 := by decide
      simp only [c, e1, e4, if_true, if_false]
      exact ⟨N1, rfl, trivial, sm_more n3 (by omega)⟩
    · have e4 : (1 : Int32) < 3 := by decide
      simp only [c, e4, if_true]
      exact ⟨N1, rfl, trivial, sm_more n3 (by omega)⟩
theorem shut_both (h : sm b g t p C R) (hb : b + 20 < 2 ^ 30) (hw : w < t) (hs : sm_st (R.1 (70, 0) w)) : ∃ C', fc_T_shutDown (30, w) C = some C' ∧ fc_M_shutDown (50, 0) (nI w) R = some (rShut R w) ∧ sm (b + 18) g t p C' (rShut R w) := by
  have hw2 : w < 2 := by have := sm_le h; omega
  have hp := sm_MP h
  have q4 := sm_get h 30 4 70 w (by decide)
  have q7 := sm_get h 30 7 79 w (by decide)
  have q11 := sm_get h 30 11 78 w (by decide)
  have h1 := sm_set h 30 11 78 w 1 (by decide) rfl rfl
  obtain ⟨C1, s1, s2, s3⟩ := go_both h1 hb hw
  have z10 : ¬ (1 : Int32) = 0 := by decide
  unfold fc_T_shutDown fc_T_canShutDown fc_T_isShutOrToBe fc_M_shutDown rShut
  simp only [se_gf (kd_30 w), se_gp (kd_30 w), se_pf (kd_30 w), se_pz0 (kd_30 w), se_pz1 (kd_30 w), se_cl (kd_30 w), se_cl (kd_1 0), se_cl (kd_31 w), se_cl (kd_34 w), se_cl (kd_32 w), se_gp (kd_31 w), se_gf (kd_34 w), se_gf (kd_50 0), se_pf (kd_50 0), se_cl (kd_50 0), q4, q7, q11, mp_21 hp, mp_29 hp, mp_30 hp, ml_70 hw2, ml_78 hw2, ml_79 hw2, mq1_78 hw2, se_gb0, se_gb1, s1, s2, Option.bind_some]
  by_cases c1 : R.1 (78, 0) w = 0
  · by_cases c2 : R.1 (79, 0) w = 4
    · have : ¬ (R.1 (70, 0) w < 2 ∧ R.1 (78, 0) w = 0 ∧ ¬ R.1 (79, 0) w = 4) := fun z => z.2.2 c2
      simp only [c1, c2, if_true, this, if_false, Option.bind_some, z10, not_true_eq_false, and_false]
      refine ⟨C, ?_, ?_, sm_more h (by omega)⟩
      · split <;> rfl
      · split <;> rfl
    · rcases hs with c | c | c | c
      · have e1 : ¬ (0 : Int32) = 2 := by decide
        have e2 : ¬ (0 : Int32) = 3 := by decide
        have e3 : (0 : Int32) < 2 := by decide
        simp only [c, c1, c2, e1, e2, e3, if_true, if_false, Option.bind_some, z10, not_false_eq_true, and_self, s1]
        exact ⟨C1, rfl, trivial, s3⟩
      · have e1 : ¬ (1 : Int32) = 2 := by decide
        have e2 : ¬ (1 : Int32) = 3 := by decide
        have e3 : (1 : Int32) < 2 := by decide
        simp only [c, c1, c2, e1, e2, e3, if_true, if_false, Option.bind_some, z10, not_false_eq_true, and_self, s1]
        exact ⟨C1, rfl, trivial, s3⟩
      · have e3 : ¬ (2 : Int32) < 2 := by decide
        simp only [c, e3, if_true, if_false, Option.bind_some, false_and]
        exact ⟨C, rfl, trivial, sm_more h (by omega)⟩
      · have e1 : ¬ (3 : Int32) = 2 := by decide
        have e3 : ¬ (3 : Int32) < 2 := by decide
        simp only [c, c1, c2, e1, e3, if_true, if_false, Option.bind_some, z10, false_and]
        exact ⟨C, rfl, trivial, sm_more h (by omega)⟩
  · simp only [c1, if_false, Option.bind_some, z10, false_and, and_false]
    refine ⟨C, ?_, ?_, sm_more h (by omega)⟩
    · split <;> simp [z10]
    · split <;> rfl
end TB
