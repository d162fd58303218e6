/-! events as a function of the reference's heap -/
def hE (R : xo_H) (k s a b : Int32) : xo_H := ev_R R (R.1 (50, 0) 47).toNatClampNeg k s a b
theorem hE_2 (R : xo_H) (k s a b : Int32) : (hE R k s a b).2 = R.2 := rfl
theorem hE_ne {R : xo_H} {k s a b : Int32} {m : xo_N} (h : (m.1 == 50 || m.1 == 93 || m.1 == 94 || m.1 == 95) = false) : (hE R k s a b).1 m = R.1 m := by
  simp only [Bool.or_eq_false_iff, beq_eq_false_iff_ne, ne_eq] at h
  unfold hE ev_R
  rw [se_ne, se_ne, se_ne, se_ne]
  · intro z; rw [z] at h; exact h.1.1.2 rfl
  · intro z; rw [z] at h; exact h.1.2 rfl
  · intro z; rw [z] at h; exact h.2 rfl
  · intro z; rw [z] at h; exact h.1.1.1 rfl
theorem hE_50 {R : xo_H} {k s a b : Int32} {f : Nat} (h : ¬ f = 47) : (hE R k s a b).1 (50, 0) f = R.1 (50, 0) f := by
  unfold hE ev_R
  rw [se_nf (by simp [h]), se_nf (by simp), se_nf (by simp), se_nf (by simp)]
theorem hE_both {b g t p : Nat} {C R : xo_H} (h : sm b g t p C R) (hb : b < 2 ^ 30) (k s a c : Int32) : ∃ C', fc_L_note (1, 0) k s a c C = some C' ∧ fc_M_happen (50, 0) k s a c R = some (hE R k s a c) ∧ sm (b + 1) g t p C' (hE R k s a c) := by
  have h0 := h
  obtain ⟨-, -, -, -, ⟨e, h5, h6, h7, -⟩, -, hP⟩ := h0
  obtain ⟨⟨hp, -⟩, -, -, -, ⟨l0, l1, l2⟩, -⟩ := hP
  have e1 : (R.1 (50, 0) 47).toNatClampNeg = e := by rw [h7, nI_clamp (by omega)]
  unfold hE
  rw [e1]
  exact ⟨_, ev_note l0 l1 l2 h6 (by omega), ev_happen hp h7 (by omega), ev_sm h h6 h7 h5⟩
theorem ix_16 (w : Nat) : (16 : Int32) * nI w = nI (16 * w) := pk_mul 16 w
theorem ix_8 (w : Nat) : (8 : Int32) * nI w = nI (8 * w) := pk_mul 8 w
/-- a taker's end is lost -/
def rLose (R : xo_H) (w : Nat) : xo_H := if R.1 (78, 0) w = 0 then R else hE (xo_sE R (78, 0) w 0) 12 (nI w) (R.1 (71, 0) w) 0
section TB
variable {b g t p w : Nat} {C R : xo_H}
theorem lose_C (h : sm b g t p C R) (hb : b < 2 ^ 30) (hw : w < t) : ∃ C', fc_T_loseEnd (30, w) C = some C' ∧ sm (b + 1) g t p C' (rLose R w) := by
  have q11 := sm_get h 30 11 78 w (by decide)
  obtain ⟨-, p0, -, p2, -⟩ := sm_ptrT h hw
  unfold fc_T_loseEnd rLose
  simp only [se_gf (kd_30 w), se_gp (kd_30 w), se_pf (kd_30 w), se_pz0 (kd_30 w), se_pz1 (kd_30 w), se_cl (kd_30 w), se_cl (kd_1 0), se_cl (kd_31 w), se_cl (kd_34 w), se_cl (kd_32 w), se_gp (kd_31 w), se_gf (kd_34 w), q11]
  by_cases c : R.1 (78, 0) w = 0
  · rw [if_pos c, if_pos c]
    exact ⟨C, rfl, sm_more h (by omega)⟩
  · rw [if_neg c, if_neg c]
    have h1 := sm_set h 30 11 78 w 0 (by decide) rfl rfl
    have q5 := sm_get h1 30 5 71 w (by decide)
    obtain ⟨C', n1, n2, n3⟩ := hE_both h1 hb 12 (nI w) (R.1 (71, 0) w) 0
    refine ⟨C', ?_, n3⟩
    simp only [se_E2, p2, q5, se_cl (kd_1 0), se_E1, Prod.mk.injEq, Nat.reduceEqDiff, false_and, and_false, if_false, p0]
    rw [n1]
    rfl
theorem lose_R (hp : R.2.1 = MP) (hw2 : w < 2) {e : Nat} (he : R.1 (50, 0) 47 = nI e) (hb : e < 2 ^ 30) : (xo_gp 9 29 R (some (50, 0)) fun o3 => xo_al 1 R o3 (nI w) fun v4 => if v4 = 0 then (some R) else (xo_gp 9 29 R (some (50, 0)) fun o5 => xo_az R o5 (nI w) (0 : Int32) fun H6 => xo_gp 9 22 H6 (some (50, 0)) fun o7 => xo_al 0 H6 o7 (nI w) fun v8 => xo_cl 9 (some (50, 0)) (fun n10 => fc_M_happen n10 (12 : Int32) (nI w) v8 (0 : Int32) H6) fun H9 => some H9)) = some (rLose R w) := by
  simp only [mp_29 hp, ml_78 hw2, mq0_78 hw2]
  unfold rLose
  by_cases c : R.1 (78, 0) w = 0
  · rw [if_pos c, if_pos c]
  · rw [if_neg c, if_neg c, mp_22 (by exact hp)]
    simp only [ml_71 hw2, se_gf (kd_50 0), se_pf (kd_50 0), se_cl (kd_50 0)]
    rw [ev_happen (e := e) (by exact hp) (by rw [se_ne (by simp)]; exact he) hb]
    simp only [Option.bind_some]
    unfold hE
    rw [se_ne (m := (50, 0)) (by simp), he, nI_clamp (by omega), se_ne (m := (71, 0)) (by simp)]
end TB
