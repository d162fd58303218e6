theorem sh_com {X : xo_H} {tg lo k f : Nat} {n : xo_N} {v : Int32} (h : ¬ n = (tg, 0)) : sh_R (xo_sE X n f v) tg lo k = xo_sE (sh_R X tg lo k) n f v := by
  refine Prod.ext (funext fun m => funext fun c => ?_) rfl
  simp only [sh_1, se_E1]
  by_cases e1 : m = n
  · subst e1
    have : ¬ (m = (tg, 0) ∧ lo ≤ c ∧ c < lo + k) := fun z => h z.1
    simp only [if_neg this]
  · have n1 : ∀ c, ¬ (m = n ∧ c = f) := fun c z => e1 z.1
    simp only [if_neg (n1 _)]
def sh2 (R : xo_H) (lo k : Nat) : xo_H := sh_R (sh_R R 74 lo k) 75 lo k
theorem sh2_step (R : xo_H) (lo k : Nat) : xo_sE (xo_sE (sh2 R lo k) (74, 0) (lo + k) ((sh2 R lo k).1 (74, 0) (lo + k + 1))) (75, 0) (lo + k) ((xo_sE (sh2 R lo k) (74, 0) (lo + k) ((sh2 R lo k).1 (74, 0) (lo + k + 1))).1 (75, 0) (lo + k + 1)) = sh2 R lo (k + 1) := by
  have e1 : xo_sE (sh2 R lo k) (74, 0) (lo + k) ((sh2 R lo k).1 (74, 0) (lo + k + 1)) = sh_R (sh_R R 74 lo (k + 1)) 75 lo k := by
    unfold sh2
    rw [sh_ne (m := (74, 0)) (by simp), ← sh_com (by simp), sh_step]
  rw [e1, sh_step]
  rfl
def rAfter (R : xo_H) (w : Nat) (x u : Int32) : xo_H := if x = -1 then rGoesOn (hE R 9 (nI w) u 0) w else rFob (hE R 10 (nI w) u x) w x
def rWritten (R : xo_H) (w : Nat) (x : Int32) : xo_H := rAfter (ut_R (xo_sE R (79, 0) w 0) w ((R.1 (76, 0) w).toNatClampNeg - 1)) w x (R.1 (75, 0) (16 * w))
def rEndAbort (R : xo_H) (w : Nat) (x : Int32) : xo_H := if R.1 (80, 0) w = 0 then R else hE (xo_sE R (80, 0) w 0) (if x = -1 then 13 else 14) (nI w) (if x = -1 then 0 else x) 0
def rShutDone (R : xo_H) (w : Nat) (x : Int32) : xo_H := if x = -1 then xo_sE (rEndAbort (hE (xo_sE R (79, 0) w 0) 11 (nI w) 0 0) w x) (70, 0) w 3 else rFob (rEndAbort (hE (xo_sE R (79, 0) w 0) 12 (nI w) x 0) w x) w x
def rAbortDone (R : xo_H) (w : Nat) (x : Int32) : xo_H := rLose (hE (xo_sE R (79, 0) w 0) (if x = -1 then 13 else 14) (nI w) (if x = -1 then 0 else x) 0) w
section TB
variable {b g t p w : Nat} {C R : xo_H}
theorem af_both {x u : Int32} (h : sm b g t p C R) (hb : b + 30 < 2 ^ 30) (hw : w < t) (hd : R.1 (79, 0) w = 0) : ∃ C', (if x = (-1 : Int32) then (xo_gp 7 2 C (some (30, w)) fun o11 => xo_gf 7 0 C (some (30, w)) fun v12 => xo_cl 1 o11 (fun n16 => fc_L_note n16 (9 : Int32) v12 u (0 : Int32) C) fun H13 => xo_cl 7 (some (30, w)) (fun n15 => fc_T_goOn n15 H13) fun H14 => some H14) else (xo_gp 7 2 C (some (30, w)) fun o5 => xo_gf 7 0 C (some (30, w)) fun v6 => xo_cl 1 o5 (fun n10 => fc_L_note n10 (10 : Int32) v6 u x C) fun H7 => xo_cl 7 (some (30, w)) (fun n9 => fc_T_failOrBreak n9 x H7) fun H8 => some H8)) = some C' ∧
    (if x = (-1 : Int32) then (xo_cl 9 (some (50, 0)) (fun n10 => fc_M_happen n10 (9 : Int32) (nI w) u (0 : Int32) R) fun H7 => xo_cl 9 (some (50, 0)) (fun n9 => fc_M_goesOn n9 (nI w) H7) fun H8 => some H8) else (xo_cl 9 (some (50, 0)) (fun n6 => fc_M_happen n6 (10 : Int32) (nI w) u x R) fun H3 => xo_cl 9 (some (50, 0)) (fun n5 => fc_M_failsOrBreaks n5 (nI w) x H3) fun H4 => some H4)) = some (rAfter R w x u) ∧ sm (b + 19) g t p C' (rAfter R w x u) := by
  obtain ⟨-, p0, -, p2, -⟩ := sm_ptrT h hw
  unfold rAfter
  simp only [se_gp (kd_30 w), se_gf (kd_30 w), p0, p2, se_cl (kd_1 0), se_cl (kd_30 w), se_gf (kd_50 0), se_pf (kd_50 0), se_cl (kd_50 0)]
  by_cases c : x = -1
  · simp only [if_pos c]
    obtain ⟨E1, n1, n2, n3⟩ := hE_both h (by omega) 9 (nI w) u 0
    obtain ⟨G1, g1, g2, g3⟩ := go_both n3 (by omega) hw
    rw [n1, n2]
    simp only [Option.bind_some, g1, g2]
    exact ⟨G1, rfl, trivial, sm_more g3 (by omega)⟩
  · simp only [if_neg c]
    obtain ⟨E1, n1, n2, n3⟩ := hE_both h (by omega) 10 (nI w) u x
    obtain ⟨G1, g1, g2, g3⟩ := fob_both (x := x) n3 (by omega) hw (by rw [hE_ne rfl]; exact hd)
    rw [n1, n2]
    simp only [Option.bind_some, g1, g2]
    exact ⟨G1, rfl, trivial, sm_more g3 (by omega)⟩
theorem wl_R {R0 : xo_H} {x u : Int32} (hp : R0.2.1 = MP) (hw2 : w < 2) {n : Nat} (hn : R0.1 (76, 0) w = nI n) (h16 : n < 16) {r : Option xo_H} (hr : (if x = (-1 : Int32) then (xo_cl 9 (some (50, 0)) (fun n10 => fc_M_happen n10 (9 : Int32) (nI w) u (0 : Int32) (sh2 R0 (16 * w) n)) fun H7 => xo_cl 9 (some (50, 0)) (fun n9 => fc_M_goesOn n9 (nI w) H7) fun H8 => some H8) else (xo_cl 9 (some (50, 0)) (fun n6 => fc_M_happen n6 (10 : Int32) (nI w) u x (sh2 R0 (16 * w) n)) fun H3 => xo_cl 9 (some (50, 0)) (fun n5 => fc_M_failsOrBreaks n5 (nI w) x H3) fun H4 => some H4)) = r) : ∀ (d k fu : Nat), k + d = n → d < fu → fb_M_written_33 fu (50, 0) (nI w) x u (nI (16 * w + k)) (sh2 R0 (16 * w) k) = r
  | 0, k, fu + 1, hk, _ => by
    have hkn : k = n := by omega
    subst hkn
    have hm : (sh2 R0 (16 * w) k).1 (76, 0) w = nI k := by unfold sh2; rw [sh_ne (by simp), sh_ne (by simp)]; exact hn
    rw [fb_M_written_33, mp_27 (by exact hp)]
    simp only [ml_76 hw2, hm, ix_16, nI_add]
    rw [if_neg (nI_nlt (by omega) (by omega))]
    exact hr
  | d + 1, k, fu + 1, hk, hf => by
    have hm : (sh2 R0 (16 * w) k).1 (76, 0) w = nI n := by unfold sh2; rw [sh_ne (by simp), sh_ne (by simp)]; exact hn
    rw [fb_M_written_33, mp_27 (by exact hp)]
    simp only [ml_76 hw2, hm, ix_16, nI_add]
    rw [if_pos (nI_lt (by omega) (by omega)), mp_25 (by exact hp), mp_25 (by exact hp), nI_1, ml_74 (by omega), mq_74 (by omega), mp_26 (by exact hp), mp_26 (by exact hp), ml_75 (by omega), mq_75 (by omega), sh2_step, show 16 * w + k + 1 = 16 * w + (k + 1) by omega]
    exact wl_R hp hw2 hn h16 hr d (k + 1) fu (by omega) (by omega)
theorem wn_both {x : Int32} (h : sm b g t p C R) (hb : b + 30 < 2 ^ 30) (hw : w < t) {n : Nat} (hn : R.1 (76, 0) w = nI (n + 1)) (h16 : n < 16) : ∃ C', fc_T_written (30, w) x (xo_sE C (30, w) 7 0) = some C' ∧ fc_M_written (50, 0) (nI w) x R = some (rWritten R w x) ∧ sm (b + 19) g t p C' (rWritten R w x) := by
  have hw2 : w < 2 := by have := sm_le h; omega
  have hp := sm_MP h
  have h1 := sm_set h 30 7 79 w 0 (by decide) rfl rfl
  have hn1 : (xo_sE R (79, 0) w 0).1 (76, 0) w = nI (n + 1) := by rw [se_ne (by simp)]; exact hn
  obtain ⟨-, p0, p1, p2, p3, -⟩ := sm_ptrT h1 hw
  obtain ⟨v, C1, C2, t1, t2, t3, t4, t5⟩ := ut_sm h1 hw hn1 h16
  rw [se_ne (m := (75, 0)) (by simp)] at t4
  have hd : (ut_R (xo_sE R (79, 0) w 0) w n).1 (79, 0) w = 0 := by
    unfold ut_R
    rw [sh_ne (by simp), sh_ne (by simp), se_nf (by simp), xo_sE_eq]
  obtain ⟨C', x1, x2, x3⟩ := af_both (x := x) (u := R.1 (75, 0) (16 * w)) t5 hb hw hd
  have er : rWritten R w x = rAfter (ut_R (xo_sE R (79, 0) w 0) w n) w x (R.1 (75, 0) (16 * w)) := by
    unfold rWritten
    rw [hn, nI_clamp (by omega)]
    rfl
  rw [er]
  refine ⟨C', ?_, ?_, x3⟩
  · unfold fc_T_written
    simp only [se_gp (kd_30 w), p1, se_cl (kd_31 w), t1, Option.bind_some, t2, p3, se_cl (kd_34 w), t4]
    simp only [se_gp (kd_30 w)] at x1
    exact x1
  · unfold fc_M_written
    rw [mp_30 hp]
    simp only [mq_79 hw2]
    rw [mp_26 (by exact hp), ix_16, ml_75 (by omega), mp_27 (by exact hp)]
    simp only [ml_76 hw2, mq_76 hw2]
    rw [hn1, nI_pred, se_ne (m := (75, 0)) (by simp)]
    have z := wl_R (R0 := xo_sE (xo_sE R (79, 0) w 0) (76, 0) w (nI n)) (w := w) (x := x) (u := R.1 (75, 0) (16 * w)) (n := n) (by exact hp) hw2 (xo_sE_eq _ _ _ _) h16 x2 n 0 1000 (by omega) (by omega)
    unfold sh2 at z
    rw [sh_0, sh_0] at z
    exact z
theorem na_both {x : Int32} (h : sm b g t p C R) (hb : b < 2 ^ 30) (hw : w < t) : ∃ C', fc_T_noteAborted (30, w) x C = some C' ∧ fc_M_happen (50, 0) (if x = -1 then 13 else 14) (nI w) (if x = -1 then 0 else x) 0 R = some (hE R (if x = -1 then 13 else 14) (nI w) (if x = -1 then 0 else x) 0) ∧ sm (b + 1) g t p C' (hE R (if x = -1 then 13 else 14) (nI w) (if x = -1 then 0 else x) 0) := by
  obtain ⟨-, p0, -, p2, -⟩ := sm_ptrT h hw
  unfold fc_T_noteAborted
  simp only [se_gp (kd_30 w), se_gf (kd_30 w), p0, p2, se_cl (kd_1 0)]
  by_cases c : x = -1
  · simp only [if_pos c]
    obtain ⟨E1, n1, n2, n3⟩ := hE_both h hb 13 (nI w) 0 0
    rw [n1]
    exact ⟨E1, rfl, n2, n3⟩
  · simp only [if_neg c]
    obtain ⟨E1, n1, n2, n3⟩ := hE_both h hb 14 (nI w) x 0
    rw [n1]
    exact ⟨E1, rfl, n2, n3⟩
theorem ea_C {x : Int32} (h : sm b g t p C R) (hb : b < 2 ^ 30) (hw : w < t) : ∃ C', fc_T_endAbort (30, w) x C = some C' ∧ sm (b + 1) g t p C' (rEndAbort R w x) := by
  have q9 := sm_get h 30 9 80 w (by decide)
  have h1 := sm_set h 30 9 80 w 0 (by decide) rfl rfl
  unfold fc_T_endAbort rEndAbort
  simp only [se_gf (kd_30 w), se_pz0 (kd_30 w), se_cl (kd_30 w), q9]
  by_cases c : R.1 (80, 0) w = 0
  · simp only [if_pos c]
    exact ⟨C, rfl, sm_more h (by omega)⟩
  · simp only [if_neg c]
    obtain ⟨E1, n1, n2, n3⟩ := na_both (x := x) h1 hb hw
    rw [n1]
    exact ⟨E1, rfl, n3⟩
theorem sd_both {x : Int32} (h : sm b g t p C R) (hb : b + 30 < 2 ^ 30) (hw : w < t) : ∃ C', fc_T_wasShut (30, w) x (xo_sE C (30, w) 7 0) = some C' ∧ fc_M_shutDone (50, 0) (nI w) x R = some (rShutDone R w x) ∧ sm (b + 20) g t p C' (rShutDone R w x) := by
  have hw2 : w < 2 := by have := sm_le h; omega
  have hp := sm_MP h
  have h1 := sm_set h 30 7 79 w 0 (by decide) rfl rfl
  obtain ⟨-, p0, p1, p2, p3, -⟩ := sm_ptrT h1 hw
  unfold fc_T_wasShut fc_M_shutDone fb_M_shutDone_46 fb_M_shutDone_90 rShutDone
  rw [mp_30 hp]
  simp only [mq_79 hw2, se_gp (kd_30 w), se_gf (kd_30 w), p0, p2, se_cl (kd_1 0), se_cl (kd_30 w), se_gf (kd_50 0), se_pf (kd_50 0), se_cl (kd_50 0)]
  by_cases c : x = -1
  · simp only [if_pos c]
    obtain ⟨E1, n1, n2, n3⟩ := hE_both h1 (by omega) 11 (nI w) 0 0
    obtain ⟨F1, f1, f3⟩ := ea_C (x := x) n3 (by omega) hw
    rw [n1, n2]
    simp only [Option.bind_some, f1, se_pf (kd_30 w)]
    have g := sm_set f3 30 4 70 w 3 (by decide) rfl rfl
    refine ⟨_, rfl, ?_, sm_more g (by omega)⟩
    rw [mp_31 (by exact hp)]
    simp only [ml_80 hw2]
    unfold rEndAbort
    by_cases d : (hE (xo_sE R (79, 0) w 0) 11 (nI w) 0 0).1 (80, 0) w = 0
    · simp only [if_pos d]
      rw [mp_21 (by exact hp)]
      simp only [mq_70 hw2]
    · simp only [if_neg d, if_pos c]
      rw [mp_31 (by exact hp)]
      simp only [mq0_80 hw2]
      have k1 := sm_set n3 30 9 80 w 0 (by decide) rfl rfl
      obtain ⟨K1, _, k2, _⟩ := hE_both k1 (by omega) 13 (nI w) 0 0
      rw [k2]
      simp only [Option.bind_some]
      rw [mp_21 (by exact hp)]
      simp only [mq_70 hw2]
  · simp only [if_neg c]
    obtain ⟨E1, n1, n2, n3⟩ := hE_both h1 (by omega) 12 (nI w) x 0
    obtain ⟨F1, f1, f3⟩ := ea_C (x := x) n3 (by omega) hw
    have hd : (rEndAbort (hE (xo_sE R (79, 0) w 0) 12 (nI w) x 0) w x).1 (79, 0) w = 0 := by
      unfold rEndAbort
      by_cases d : (hE (xo_sE R (79, 0) w 0) 12 (nI w) x 0).1 (80, 0) w = 0
      · rw [if_pos d, hE_ne rfl, xo_sE_eq]
      · rw [if_neg d, hE_ne rfl, se_nf (by simp), hE_ne rfl, xo_sE_eq]
    obtain ⟨G1, g1, g2, g3⟩ := fob_both (x := x) f3 (by omega) hw hd
    rw [n1, n2]
    simp only [Option.bind_some, f1, g1]
    refine ⟨G1, rfl, ?_, sm_more g3 (by omega)⟩
    rw [mp_31 (by exact hp)]
    simp only [ml_80 hw2]
    unfold rEndAbort at g2 ⊢
    by_cases d : (hE (xo_sE R (79, 0) w 0) 12 (nI w) x 0).1 (80, 0) w = 0
    · simp only [if_pos d] at g2 ⊢
      rw [g2]; rfl
    · simp only [if_neg d, if_neg c] at g2 ⊢
      rw [mp_31 (by exact hp)]
      simp only [mq0_80 hw2]
      have k1 := sm_set n3 30 9 80 w 0 (by decide) rfl rfl
      obtain ⟨K1, _, k2, _⟩ := hE_both k1 (by omega) 14 (nI w) x 0
      rw [k2]
      simp only [Option.bind_some, g2]
theorem ad_both {x : Int32} (h : sm b g t p C R) (hb : b + 30 < 2 ^ 30) (hw : w < t) : ∃ C', fc_T_wasAborted (30, w) x (xo_sE C (30, w) 7 0) = some C' ∧ fc_M_abortDone (50, 0) (nI w) x R = some (rAbortDone R w x) ∧ sm (b + 2) g t p C' (rAbortDone R w x) := by
  have hw2 : w < 2 := by have := sm_le h; omega
  have hp := sm_MP h
  have h1 := sm_set h 30 7 79 w 0 (by decide) rfl rfl
  obtain ⟨E1, n1, n2, n3⟩ := na_both (x := x) h1 (by omega) hw
  obtain ⟨F1, f1, f3⟩ := lose_C n3 (by omega) hw
  obtain ⟨e, e1, e2⟩ := sm_ev n3
  have lr := lose_R (R := hE (xo_sE R (79, 0) w 0) (if x = -1 then 13 else 14) (nI w) (if x = -1 then 0 else x) 0) (w := w) (by exact hp) hw2 e2 (by omega)
  unfold fc_T_wasAborted fc_M_abortDone fb_M_abortDone_20 fb_M_abortDone_31 rAbortDone
  rw [mp_30 hp]
  simp only [mq_79 hw2, se_cl (kd_30 w), n1, Option.bind_some, f1, se_gf (kd_50 0), se_pf (kd_50 0), se_cl (kd_50 0)]
  refine ⟨F1, rfl, ?_, f3⟩
  by_cases c : x = -1
  · simp only [if_pos c] at n2 lr ⊢
    rw [n2]
    simp only [Option.bind_some]
    simp only [se_gf (kd_50 0), se_pf (kd_50 0), se_cl (kd_50 0)] at lr
    exact lr
  · simp only [if_neg c] at n2 lr ⊢
    rw [n2]
    simp only [Option.bind_some]
    simp only [se_gf (kd_50 0), se_pf (kd_50 0), se_cl (kd_50 0)] at lr
    exact lr
end TB
