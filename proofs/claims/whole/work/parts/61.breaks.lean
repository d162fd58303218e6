def rB118 (R : xo_H) (w : Nat) : xo_H := if R.1 (79, 0) w = 5 then R else rLose R w
def rBT (R : xo_H) (w : Nat) : xo_H := rB118 (if R.1 (80, 0) w = 0 then xo_sE R (76, 0) w 0 else if R.1 (82, 0) w = 0 then hE (xo_sE (xo_sE (xo_sE R (76, 0) w 0) (80, 0) w 0) (79, 0) w 5) 5 (nI w) (R.1 (81, 0) w) 0 else hE (xo_sE (xo_sE R (76, 0) w 0) (80, 0) w 0) 14 (nI w) (R.1 (71, 0) w) 0) w
def rBL (w : Nat) : Nat → Nat → xo_H → xo_H
  | 0, _, R => rBT R w
  | d + 1, k, R => rBL w d (k + 1) (hE R 10 (nI w) (R.1 (75, 0) (16 * w + k)) (R.1 (71, 0) w))
def rBreaks (R : xo_H) (w : Nat) : xo_H := rBL w (R.1 (76, 0) w).toNatClampNeg 0 (xo_sE R (70, 0) w 2)
theorem sm_ev {b g t p : Nat} {C R : xo_H} (h : sm b g t p C R) : ∃ e, e ≤ b ∧ R.1 (50, 0) 47 = nI e := by
  obtain ⟨-, -, -, -, ⟨e, h5, h6, h7, -⟩, -⟩ := h
  exact ⟨e, h5, h7⟩
section TB
variable {b g t p w : Nat} {C R : xo_H}
theorem b118_both (h : sm b g t p C R) (hb : b < 2 ^ 30) (hw : w < t) : ∃ C', fb_T_breakDown_74 (30, w) C = some C' ∧ fb_M_breaks_118 (50, 0) (nI w) R = some (rB118 R w) ∧ sm (b + 1) g t p C' (rB118 R w) := by
  have q7 := sm_get h 30 7 79 w (by decide)
  have hw2 : w < 2 := by have := sm_le h; omega
  have hp := sm_MP h
  obtain ⟨e, e1, e2⟩ := sm_ev h
  unfold fb_T_breakDown_74 fb_M_breaks_118 rB118
  simp only [se_gf (kd_30 w), se_gp (kd_30 w), se_pf (kd_30 w), se_pz0 (kd_30 w), se_pz1 (kd_30 w), se_cl (kd_30 w), se_cl (kd_1 0), se_cl (kd_31 w), se_cl (kd_34 w), se_cl (kd_32 w), se_gp (kd_31 w), se_gf (kd_34 w), q7, mp_30 hp, ml_79 hw2]
  by_cases c : R.1 (79, 0) w = 5
  · simp only [c, if_true]
    exact ⟨C, rfl, trivial, sm_more h (by omega)⟩
  · simp only [c, if_false]
    obtain ⟨C', l1, l2⟩ := lose_C h hb hw
    rw [l1]
    exact ⟨C', rfl, lose_R hp hw2 e2 (by omega), l2⟩
theorem bt_both (h : sm b g t p C R) (hb : b + 2 < 2 ^ 30) (hw : w < t) : ∃ C', (xo_gp 7 3 C (some (30, w)) fun o3 => xo_cl 3 o3 (fun n11 => fc_R_clear n11 C) fun H4 => xo_gp 7 1 H4 (some (30, w)) fun o5 => xo_cl 4 o5 (fun n10 => fc_C_clear n10 H4) fun H6 => xo_gf 7 9 H6 (some (30, w)) fun v7 => if v7 = 0 then (fb_T_breakDown_74 (30, w) H6) else (xo_cl 7 (some (30, w)) (fun n9 => fc_T_startAbort n9 H6) fun H8 => fb_T_breakDown_74 (30, w) H8)) = some C' ∧
    (xo_gp 9 27 R (some (50, 0)) fun o3 => xo_as R o3 (nI w) (0 : Int32) fun H4 => xo_gp 9 31 H4 (some (50, 0)) fun o5 => xo_al 1 H4 o5 (nI w) fun v6 => if v6 = 0 then (fb_M_breaks_118 (50, 0) (nI w) H4) else (xo_gp 9 31 H4 (some (50, 0)) fun o7 => xo_az H4 o7 (nI w) (0 : Int32) fun H8 => xo_gp 9 33 H8 (some (50, 0)) fun o9 => xo_al 1 H8 o9 (nI w) fun v10 => if v10 = 0 then (xo_gp 9 30 H8 (some (50, 0)) fun o11 => xo_as H8 o11 (nI w) (5 : Int32) fun H12 => xo_gp 9 32 H12 (some (50, 0)) fun o13 => xo_al 0 H12 o13 (nI w) fun v14 => xo_cl 9 (some (50, 0)) (fun n16 => fc_M_happen n16 (5 : Int32) (nI w) v14 (0 : Int32) H12) fun H15 => fb_M_breaks_118 (50, 0) (nI w) H15) else (xo_gp 9 22 H8 (some (50, 0)) fun o17 => xo_al 0 H8 o17 (nI w) fun v18 => xo_cl 9 (some (50, 0)) (fun n20 => fc_M_happen n20 (14 : Int32) (nI w) v18 (0 : Int32) H8) fun H19 => fb_M_breaks_118 (50, 0) (nI w) H19))) = some (rBT R w) ∧ sm (b + 2) g t p C' (rBT R w) := by
  have hw2 : w < 2 := by have := sm_le h; omega
  have hp := sm_MP h
  obtain ⟨-, p0, p1, p2, p3, p4, p5, p6⟩ := sm_ptrT h hw
  obtain ⟨C1, C2, u1, u2, u3, u4, u5⟩ := uc_sm h hw
  have q9 := sm_get u5 30 9 80 w (by decide)
  simp only [se_gf (kd_30 w), se_gp (kd_30 w), se_pf (kd_30 w), se_pz0 (kd_30 w), se_pz1 (kd_30 w), se_cl (kd_30 w), se_cl (kd_1 0), se_cl (kd_31 w), se_cl (kd_34 w), se_cl (kd_32 w), se_gp (kd_31 w), se_gf (kd_34 w), p3, u1, Option.bind_some, u2, p1, u4, q9, mp_27 hp, mq_76 hw2]
  rw [mp_31 (by exact hp)]
  simp only [ml_80 hw2]
  rw [se_ne (m := (80, 0)) (by simp)]
  unfold rBT
  by_cases c : R.1 (80, 0) w = 0
  · simp only [c, if_true]
    obtain ⟨C', x1, x2, x3⟩ := b118_both u5 (by omega) hw
    exact ⟨C', x1, x2, sm_more x3 (by omega)⟩
  · simp only [c, if_false]
    have h3 := sm_set u5 30 9 80 w 0 (by decide) rfl rfl
    have q10 := sm_get h3 30 10 82 w (by decide)
    rw [se_ne (m := (82, 0)) (by simp), se_ne (m := (82, 0)) (by simp)] at q10
    obtain ⟨-, p0', p1', p2', -⟩ := sm_ptrT h3 hw
    unfold fc_T_startAbort
    rw [mp_31 (by exact hp)]
    simp only [mq0_80 hw2]
    rw [mp_33 (by exact hp)]
    simp only [ml_82 hw2, se_gf (kd_30 w), se_gp (kd_30 w), se_pf (kd_30 w), se_pz0 (kd_30 w), se_pz1 (kd_30 w), se_cl (kd_30 w), se_cl (kd_1 0), se_cl (kd_31 w), se_cl (kd_34 w), se_cl (kd_32 w), se_gp (kd_31 w), se_gf (kd_34 w)]
    rw [q10, se_ne (m := (82, 0)) (by simp), se_ne (m := (82, 0)) (by simp)]
    by_cases d : R.1 (82, 0) w = 0
    · simp only [d, if_true]
      have h4 := sm_set h3 30 7 79 w 5 (by decide) rfl rfl
      have q8 := sm_get h4 30 8 81 w (by decide)
      rw [se_ne (m := (81, 0)) (by simp), se_ne (m := (81, 0)) (by simp), se_ne (m := (81, 0)) (by simp)] at q8
      obtain ⟨-, p0'', -, p2'', -⟩ := sm_ptrT h4 hw
      obtain ⟨C', n1, n2, n3⟩ := hE_both h4 (by omega) 5 (nI w) (R.1 (81, 0) w) 0
      rw [mp_30 (by exact hp)]
      simp only [mq_79 hw2]
      rw [mp_32 (by exact hp)]
      simp only [ml_81 hw2, se_gf (kd_50 0), se_pf (kd_50 0), se_cl (kd_50 0)]
      rw [se_ne (m := (81, 0)) (by simp), se_ne (m := (81, 0)) (by simp), se_ne (m := (81, 0)) (by simp), n2, q8, p0'', p2'']
      simp only [se_cl (kd_1 0), n1, Option.bind_some]
      obtain ⟨C'', x1, x2, x3⟩ := b118_both n3 (by omega) hw
      exact ⟨C'', x1, x2, x3⟩
    · simp only [d, if_false]
      have q5 := sm_get h3 30 5 71 w (by decide)
      rw [se_ne (m := (71, 0)) (by simp), se_ne (m := (71, 0)) (by simp)] at q5
      obtain ⟨C', n1, n2, n3⟩ := hE_both h3 (by omega) 14 (nI w) (R.1 (71, 0) w) 0
      rw [mp_22 (by exact hp)]
      simp only [ml_71 hw2, se_gf (kd_50 0), se_pf (kd_50 0), se_cl (kd_50 0)]
      rw [se_ne (m := (71, 0)) (by simp), se_ne (m := (71, 0)) (by simp), n2, q5, p0', p2']
      simp only [se_cl (kd_1 0), n1, Option.bind_some]
      obtain ⟨C'', x1, x2, x3⟩ := b118_both n3 (by omega) hw
      exact ⟨C'', x1, x2, x3⟩
theorem bl_both (hw : w < t) : ∀ (d k b : Nat) (C R : xo_H) (fu fv : Nat), sm b g t p C R → b + d + 2 < 2 ^ 30 → R.1 (76, 0) w = nI (k + d) → k + d ≤ 16 → d < fu → d < fv → ∃ C', fb_T_breakDown_7 fu (30, w) (nI k) C = some C' ∧ fb_M_breaks_9 fv (50, 0) (nI w) (nI k) R = some (rBL w d k R) ∧ sm (b + d + 2) g t p C' (rBL w d k R)
  | 0, k, b, C, R, fu + 1, fv + 1, h, hb, hm, hk, _, _ => by
    have hw2 : w < 2 := by have := sm_le h; omega
    have hp := sm_MP h
    obtain ⟨-, p0, p1, p2, p3, p4, p5, p6⟩ := sm_ptrT h hw
    obtain ⟨n, hn16, hn1, hn2, hn3⟩ := sm_un h w
    have hkn : n = k + 0 := sm_nIinj (hn1.symm.trans hm) (by omega) (by omega)
    rw [fb_T_breakDown_7, fb_M_breaks_9]
    simp only [se_gf (kd_30 w), se_gp (kd_30 w), se_pf (kd_30 w), se_pz0 (kd_30 w), se_pz1 (kd_30 w), se_cl (kd_30 w), se_cl (kd_1 0), se_cl (kd_31 w), se_cl (kd_34 w), se_cl (kd_32 w), se_gp (kd_31 w), se_gf (kd_34 w), p3, hn3, mp_27 hp, ml_76 hw2, hm]
    rw [hkn, if_neg (nI_nlt (by omega) (by omega)), if_neg (nI_nlt (by omega) (by omega))]
    obtain ⟨C', x1, x2, x3⟩ := bt_both h (by omega) hw
    simp only [se_gf (kd_30 w), se_gp (kd_30 w), se_pf (kd_30 w), se_pz0 (kd_30 w), se_pz1 (kd_30 w), se_cl (kd_30 w), se_cl (kd_1 0), se_cl (kd_31 w), se_cl (kd_34 w), se_cl (kd_32 w), se_gp (kd_31 w), se_gf (kd_34 w), p3, mp_27 hp] at x1 x2
    exact ⟨C', x1, x2, sm_more x3 (by omega)⟩
  | d + 1, k, b, C, R, fu + 1, fv + 1, h, hb, hm, hk, h1, h2 => by
    have hw2 : w < 2 := by have := sm_le h; omega
    have hp := sm_MP h
    obtain ⟨-, p0, p1, p2, p3, p4, p5, p6⟩ := sm_ptrT h hw
    have q5 := sm_get h 30 5 71 w (by decide)
    obtain ⟨-, ⟨n, hd, a1, a2, a3, a4, a5, a6⟩, -⟩ := h.2.2.2.1 w
    have hkn : n = k + (d + 1) := sm_nIinj (a5.symm.trans hm) (by omega) (by omega)
    subst hkn
    rw [fb_T_breakDown_7, fb_M_breaks_9]
    simp only [se_gf (kd_30 w), se_gp (kd_30 w), se_pf (kd_30 w), se_pz0 (kd_30 w), se_pz1 (kd_30 w), se_cl (kd_30 w), se_cl (kd_1 0), se_cl (kd_31 w), se_cl (kd_34 w), se_cl (kd_32 w), se_gp (kd_31 w), se_gf (kd_34 w), p3, a3, mp_27 hp, ml_76 hw2, hm, p2, p0]
    rw [if_pos (nI_lt (by omega) (by omega)), if_pos (nI_lt (by omega) (by omega)), sm_at (kd_34 w) (kd_35 w) p6 a3 a4 a2 (by omega) (by decide) (by omega)]
    have e35 : C.1 ((34, w).1 + 1, (34, w).2) ((hd + k) % 16) = R.1 (75, 0) (16 * w + k) := a6 k (by omega)
    rw [e35]
    simp only [Option.bind_some, se_gf (kd_30 w), q5, mp_26 hp, ix_16, nI_add]
    rw [ml_75 (by omega), mp_22 hp]
    simp only [ml_71 hw2, se_gf (kd_50 0), se_pf (kd_50 0), se_cl (kd_50 0), se_cl (kd_1 0)]
    obtain ⟨C', n1, n2, n3⟩ := hE_both h (by omega) 10 (nI w) (R.1 (75, 0) (16 * w + k)) (R.1 (71, 0) w)
    rw [n1, n2]
    simp only [Option.bind_some, nI_1]
    obtain ⟨C'', x1, x2, x3⟩ := bl_both hw d (k + 1) (b + 1) C' _ fu fv n3 (by omega) (by rw [hE_ne rfl, hm]; congr 1; omega) (by omega) (by omega) (by omega)
    exact ⟨C'', x1, x2, sm_more x3 (by omega)⟩
theorem brk_both (h : sm b g t p C R) (hb : b + 20 < 2 ^ 30) (hw : w < t) : ∃ C', fc_T_breakDown (30, w) C = some C' ∧ fc_M_breaks (50, 0) (nI w) R = some (rBreaks R w) ∧ sm (b + 18) g t p C' (rBreaks R w) := by
  have hw2 : w < 2 := by have := sm_le h; omega
  have hp := sm_MP h
  obtain ⟨n, hn16, hn1, -⟩ := sm_un h w
  unfold fc_T_breakDown fc_M_breaks rBreaks
  simp only [se_gf (kd_30 w), se_gp (kd_30 w), se_pf (kd_30 w), se_pz0 (kd_30 w), se_pz1 (kd_30 w), se_cl (kd_30 w), se_cl (kd_1 0), se_cl (kd_31 w), se_cl (kd_34 w), se_cl (kd_32 w), se_gp (kd_31 w), se_gf (kd_34 w), mp_21 hp, mq_70 hw2]
  have h1 := sm_set h 30 4 70 w 2 (by decide) rfl rfl
  rw [hn1, nI_clamp (by omega)]
  obtain ⟨C', x1, x2, x3⟩ := bl_both hw n 0 b _ _ 1000 1000 h1 (by omega) (by rw [se_ne (by simp), hn1, Nat.zero_add]) (by omega) (by omega) (by omega)
  exact ⟨C', x1, x2, sm_more x3 (by omega)⟩
end TB
