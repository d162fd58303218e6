section CA
variable {b g t p q r : Nat} {C R : xo_H}
theorem sm_K0 (h : sm b g t p C R) : C.2.1 (0, 0) 0 = some (1, 0) ∧ C.2.1 (0, 0) 1 = some (5, 0) := ⟨h.2.2.2.2.2.2.2.2.2.1.1, h.2.2.2.2.2.2.2.2.2.1.2.1⟩
theorem ib_R (hp : R.2.1 = MP) (hr : r < 6) : fc_M_isBranch (50, 0) (nI r) R = some (if R.1 (66, 0) r < 0 then 0 else 1, R) := by
  unfold fc_M_isBranch
  rw [mp_16 hp]
  simp only [ml_66 hr, se_gb0, se_gb1]
  split <;> rfl
theorem gu_C (h : sm b g t p C R) {f : Nat} (hr : r < g) (hpt : ¬ R.1 (65, 0) r = -1) (hf : R.1 (65, 0) r = nI f) (hf6 : f < 6) : fc_A_isGivenUp (41, r) C = some (if ¬ R.1 (69, 0) f = 0 ∧ ¬ R.1 (69, 0) (f + 1) = 0 then 1 else 0, C) := by
  have hle := sm_le h
  obtain ⟨f', f1, f2, f3, f4, f5, f6, f7, f8, -⟩ := sm_part h hr hpt
  have ff : f' = f := sm_nIinj (f2.symm.trans hf) (by omega) (by omega)
  subst ff
  have q0 := sm_get h 20 10 69 f' (by decide)
  have q1 := sm_get h 20 10 69 (f' + 1) (by decide)
  have e0 : (0 : Int32) = nI 0 := rfl
  unfold fc_A_isGivenUp
  simp only [se_gp (kd_41 r), f6, se_ln (kd_42 r) (by decide)]
  rw [fb_A_isGivenUp_10, if_pos (by decide), e0, se_ap (kd_42 r) (by decide) (by decide), f7]
  simp only [se_gf (kd_20 f'), q0]
  by_cases c : R.1 (69, 0) f' = 0
  · rw [← e0, if_pos c, if_neg (fun z => z.1 c), se_gb0]
  · rw [← e0, if_neg c, e0, nI_1, fb_A_isGivenUp_10, if_pos (by decide), se_ap (kd_42 r) (by decide) (by decide), f8]
    simp only [se_gf (kd_20 (f' + 1)), q1]
    by_cases d : R.1 (69, 0) (f' + 1) = 0
    · rw [← e0, if_pos d, if_neg (fun z => z.2 d), se_gb0]
    · rw [← e0, if_neg d, if_pos ⟨c, d⟩, nI_1, fb_A_isGivenUp_10, if_neg (by decide), se_gb1]
theorem cr_SI {er : Int32} (h : SI b g t p q C R) (hb : b + 100 < 2 ^ 30) (hr : r < g) (hs : R.1 (51, 0) r = 0) : ∃ C1 C2 C3 R', fc_C_clear (21, r) C = some C1 ∧ fc_K_closeGiver (0, 0) (some (20, r)) C1 = some C2 ∧ fc_L_note (1, 0) 2 (nI r) er 0 C2 = some C3 ∧ fc_M_cancelRoot (50, 0) (nI r) er R = some R' ∧ SI (b + 25) g t p q C3 R' ∧ agr kG R R' ∧ sm (b + 24) g t p C2 (rClose (xo_sE R (60, 0) r 0) r) := by
  have hp := sm_MP h.1
  have hle := sm_le h.1
  have hr6 : r < 6 := by omega
  obtain ⟨C1, a1, a2⟩ := qc_sm h.1 hr
  have s1 : SI b g t p q C1 (xo_sE R (60, 0) r 0) := ⟨a2, m60 h.2 (Or.inl rfl)⟩
  obtain ⟨C2, b1, b2, b3⟩ := cl_SI s1 (by omega) hr (xo_sE_eq _ _ _ _) (by rw [se_ne (by simp), hs]; decide)
  obtain ⟨C3, c1, c2, c3⟩ := hE_both b3.1 (by omega) 2 (nI r) er 0
  refine ⟨C1, C2, C3, _, a1, b1, c1, ?_, ⟨c3, Inv_hE b3.2⟩, agr_tr (agr_tr (agr_set rfl) rClose_kG) (kG_ev ev_hE), b3.1⟩
  unfold fc_M_cancelRoot
  rw [mp_1 hp]
  simp only [ml_51 hr6]
  rw [if_pos hs, mp_10 hp]
  simp only [mq_60 hr6, se_gf (kd_50 0), se_pf (kd_50 0), se_cl (kd_50 0), b2, c2, Option.bind_some]
/-- the end of a branch's cancelling: the root, if both branches are given up -/
def fk_cn (k : Nat) (er : Int32) (r8 : Int32 × xo_H) : Option xo_H := if r8.1 = 0 then (some r8.2)
  else (xo_gf 5 4 r8.2 (some (20, k)) fun v9 =>
  if v9 = 0 then (xo_gp 5 1 r8.2 (some (20, k)) fun o10 =>
  xo_cl 4 o10 (fun n18 => fc_C_clear n18 r8.2) fun H11 =>
  xo_cl 0 (some (0, 0)) (fun n17 => fc_K_closeGiver n17 (some (20, k)) H11) fun H12 =>
  xo_gp 0 0 H12 (some (0, 0)) fun o13 =>
  xo_gf 5 0 H12 (some (20, k)) fun v14 =>
  xo_cl 1 o13 (fun n16 => fc_L_note n16 (2 : Int32) v14 er (0 : Int32) H12) fun H15 =>
  some H15)
  else (some r8.2))
def fr_cn (r : Nat) (er : Int32) (H8 : xo_H) : Option xo_H := xo_gp 9 16 H8 (some (50, 0)) fun o9 =>
  xo_al 0 H8 o9 (nI r) fun v10 =>
  xo_gp 9 19 H8 (some (50, 0)) fun o11 =>
  xo_gp 9 15 H8 (some (50, 0)) fun o12 =>
  xo_al 0 H8 o12 v10 fun v13 =>
  xo_al 1 H8 o11 v13 fun v14 =>
  if v14 = 0 then (some H8)
  else (xo_gp 9 19 H8 (some (50, 0)) fun o15 =>
  xo_gp 9 15 H8 (some (50, 0)) fun o16 =>
  xo_al 0 H8 o16 v10 fun v17 =>
  xo_al 1 H8 o15 (v17 + (1 : Int32)) fun v18 =>
  if v18 = 0 then (some H8)
  else (xo_cl 9 (some (50, 0)) (fun n20 => fc_M_cancelRoot n20 v10 er H8) fun H19 =>
  some H19))
theorem cn_tail {er : Int32} {k : Nat} {D Y : xo_H} (s3 : SI b g t p q D Y) (hb : b + 100 < 2 ^ 30) (hr : r < g) (o1 : k < g) (o2 : Y.1 (66, 0) r = nI k) (hk65 : ¬ Y.1 (65, 0) k = -1) : ∃ r8 C' R', fc_A_isGivenUp (41, k) D = some r8 ∧ fk_cn k er r8 = some C' ∧ fr_cn r er Y = some R' ∧ SI (b + 25) g t p q C' R' ∧ agr kG Y R' := by
  have hp3 := sm_MP s3.1
  have hle := sm_le s3.1
  have hr6 : r < 6 := by omega
  have hk6 : k < 6 := by omega
  have z10 : ¬ (1 : Int32) = 0 := by decide
  obtain ⟨f', f1, f2, f3, f4, f5, f6, f7, f8, f9, f10⟩ := sm_part s3.1 o1 hk65
  have hf6 : f' + 1 < 6 := by omega
  have gc := gu_C s3.1 o1 (f := f') hk65 f2 (by omega)
  unfold fk_cn fr_cn
  rw [mp_16 hp3]
  simp only [ml_66 hr6, o2]
  rw [mp_19 hp3, mp_15 hp3]
  simp only [ml_65 hk6, f2, ml_69 (show f' < 6 by omega)]
  refine ⟨(if ¬ Y.1 (69, 0) f' = 0 ∧ ¬ Y.1 (69, 0) (f' + 1) = 0 then 1 else 0, D), ?_⟩
  rw [gc]
  by_cases d1 : Y.1 (69, 0) f' = 0
  · have gv : (if ¬ Y.1 (69, 0) f' = 0 ∧ ¬ Y.1 (69, 0) (f' + 1) = 0 then (1 : Int32) else 0) = 0 := if_neg (fun z => z.1 d1)
    refine ⟨D, Y, rfl, ?_, ?_, SI_more s3 (by omega), agr_rfl⟩
    · simp only [gv, if_true]
    · rw [if_pos d1]
  · rw [if_neg d1, mp_19 hp3, mp_15 hp3]
    simp only [ml_65 hk6, f2, nI_1, ml_69 hf6]
    by_cases d2 : Y.1 (69, 0) (f' + 1) = 0
    · have gv : (if ¬ Y.1 (69, 0) f' = 0 ∧ ¬ Y.1 (69, 0) (f' + 1) = 0 then (1 : Int32) else 0) = 0 := if_neg (fun z => z.2 d2)
      refine ⟨D, Y, trivial, ?_, ?_, SI_more s3 (by omega), agr_rfl⟩
      · simp only [gv, if_true]
      · rw [if_pos d2]
    · have gv : (if ¬ Y.1 (69, 0) f' = 0 ∧ ¬ Y.1 (69, 0) (f' + 1) = 0 then (1 : Int32) else 0) = 1 := if_pos ⟨d1, d2⟩
      have q4k := sm_get s3.1 20 4 51 k (by decide)
      rw [if_neg d2]
      simp only [gv, z10, if_false, se_gf (kd_20 k), q4k, se_gf (kd_50 0), se_pf (kd_50 0), se_cl (kd_50 0)]
      by_cases e : Y.1 (51, 0) k = 0
      · obtain ⟨D1, D2, D3, R', g1, g2, g3, g4, g5, g6, g7⟩ := cr_SI (er := er) s3 (by omega) o1 e
        obtain ⟨-, -, y1, -⟩ := sm_ptr s3.1 o1
        obtain ⟨-, x0, -⟩ := sm_ptr g7 o1
        refine ⟨D3, R', trivial, ?_, by rw [g4]; rfl, SI_more g5 (by omega), g6⟩
        rw [if_pos e]
        simp only [se_gp (kd_20 k), y1, se_cl (kd_21 k), g1, Option.bind_some, se_cl (kd_0 0), g2, se_gp (kd_0 0), (sm_K0 g7).1, x0, se_cl (kd_1 0), g3]
      · rw [if_neg e]
        refine ⟨D, Y, trivial, rfl, ?_, SI_more s3 (by omega), agr_rfl⟩
        unfold fc_M_cancelRoot
        rw [mp_1 hp3]
        simp only [ml_51 hk6, if_neg e, Option.bind_some]
/-- of a root -/
theorem cn_root {er : Int32} (h : SI b g t p q C R) (hb : b + 200 < 2 ^ 30) (hr : r < g) (o1 : R.1 (66, 0) r = -1) : ∃ C' R', fc_K_cancelGiver (0, 0) (some (20, r)) er C = some C' ∧ fc_M_cancelGiver (50, 0) (nI r) er R = some R' ∧ SI (b + 60) g t p q C' R' ∧ agr kG R R' := by
  have hp := sm_MP h.1
  have hle := sm_le h.1
  have hr6 : r < 6 := by omega
  have q4 := sm_get h.1 20 4 51 r (by decide)
  obtain ⟨-, p0, p1, p2, p3, p4, p5, p6⟩ := sm_ptr h.1 hr
  unfold fc_K_cancelGiver fc_M_cancelGiver
  simp only [se_gf (kd_20 r), q4, se_gf (kd_50 0), se_pf (kd_50 0), se_cl (kd_50 0), ib_R hp hr6, Option.bind_some]
  rw [if_pos (show R.1 (66, 0) r < 0 by rw [o1]; decide), if_pos rfl]
  by_cases c : R.1 (51, 0) r = 0
  · obtain ⟨C1, C2, C3, R', a1, a2, a3, a4, a5, a6, a7⟩ := cr_SI (er := er) h (by omega) hr c
    refine ⟨C3, R', ?_, by rw [a4]; rfl, SI_more a5 (by omega), a6⟩
    obtain ⟨-, x0, -⟩ := sm_ptr a7 hr
    have o2' : C2.2.1 (20, r) 11 = none := by
      rcases sm_orig a7 hr with ⟨y1, y2⟩ | ⟨k, y1, y2, -⟩
      · exact y2
      · rw [rClose_kG (66, 0) r rfl, se_ne (by simp), o1] at y2
        exact absurd y2 (nI_m1 (by omega))
    rw [if_pos c]
    simp only [se_gp (kd_20 r), se_gf (kd_20 r), p1, se_cl (kd_21 r), a1, Option.bind_some, se_cl (kd_0 0), a2, o2', if_true, se_gp (kd_0 0), (sm_K0 a7).1, x0, se_cl (kd_1 0), a3]
  · rw [if_neg c]
    refine ⟨C, R, rfl, ?_, SI_more h (by omega), agr_rfl⟩
    unfold fc_M_cancelRoot
    rw [mp_1 hp]
    simp only [ml_51 hr6, if_neg c, Option.bind_some]
/-- of a branch -/
theorem cn_branch {er : Int32} {k : Nat} (h : SI b g t p q C R) (hb : b + 200 < 2 ^ 30) (hr : r < g) (o1 : k < g) (o2 : R.1 (66, 0) r = nI k) (o5 : R.1 (65, 0) r = -1) (hk65 : ¬ R.1 (65, 0) k = -1) : ∃ C' R', fc_K_cancelGiver (0, 0) (some (20, r)) er C = some C' ∧ fc_M_cancelGiver (50, 0) (nI r) er R = some R' ∧ SI (b + 60) g t p q C' R' ∧ agr kG R R' := by
  have hp := sm_MP h.1
  have hle := sm_le h.1
  have hr6 : r < 6 := by omega
  have hk6 : k < 6 := by omega
  have z10 : ¬ (1 : Int32) = 0 := by decide
  have q4 := sm_get h.1 20 4 51 r (by decide)
  obtain ⟨-, p0, p1, p2, p3, p4, p5, p6⟩ := sm_ptr h.1 hr
  have key : fc_K_cancelGiver (0, 0) (some (20, r)) er C = if R.1 (51, 0) r = 0 then (xo_gp 5 1 C (some (20, r)) fun o2 =>
    xo_cl 4 o2 (fun n25 => fc_C_clear n25 C) fun H3 =>
    xo_cl 0 (some (0, 0)) (fun n24 => fc_K_closeGiver n24 (some (20, r)) H3) fun H4 =>
    xo_gp 5 11 H4 (some (20, r)) fun o5 =>
    if o5 = none then (xo_gp 0 0 H4 (some (0, 0)) fun o20 =>
    xo_gf 5 0 H4 (some (20, r)) fun v21 =>
    xo_cl 1 o20 (fun n23 => fc_L_note n23 (2 : Int32) v21 er (0 : Int32) H4) fun H22 =>
    some H22)
    else (xo_pz 5 10 H4 (some (20, r)) (1 : Int32) fun H6 =>
    xo_gp 6 0 H6 o5 fun o7 =>
    xo_cl 6 o5 (fun n19 => fc_A_isGivenUp n19 H6) fun r8 =>
    if r8.1 = 0 then (some r8.2)
    else (xo_gf 5 4 r8.2 o7 fun v9 =>
    if v9 = 0 then (xo_gp 5 1 r8.2 o7 fun o10 =>
    xo_cl 4 o10 (fun n18 => fc_C_clear n18 r8.2) fun H11 =>
    xo_cl 0 (some (0, 0)) (fun n17 => fc_K_closeGiver n17 o7 H11) fun H12 =>
    xo_gp 0 0 H12 (some (0, 0)) fun o13 =>
    xo_gf 5 0 H12 o7 fun v14 =>
    xo_cl 1 o13 (fun n16 => fc_L_note n16 (2 : Int32) v14 er (0 : Int32) H12) fun H15 =>
    some H15)
    else (some r8.2)))) else some C := by
    unfold fc_K_cancelGiver
    simp only [se_gf (kd_20 r), q4]
  have keyR : fc_M_cancelGiver (50, 0) (nI r) er R = if R.1 (51, 0) r = 0 then (xo_gp 9 10 R (some (50, 0)) fun o4 =>
    xo_as R o4 (nI r) (0 : Int32) fun H5 =>
    xo_cl 9 (some (50, 0)) (fun n21 => fc_M_closePlain n21 (nI r) H5) fun H6 =>
    xo_gp 9 19 H6 (some (50, 0)) fun o7 =>
    xo_az H6 o7 (nI r) (1 : Int32) fun H8 => fr_cn r er H8) else some R := by
    unfold fc_M_cancelGiver fr_cn
    simp only [se_gf (kd_50 0), se_pf (kd_50 0), se_cl (kd_50 0), ib_R hp hr6, Option.bind_some]
    rw [if_neg (show ¬ R.1 (66, 0) r < 0 by rw [o2]; exact nI_nneg (by omega)), if_neg z10, mp_1 hp]
    simp only [ml_51 hr6]
  rw [key, keyR]
  by_cases c : R.1 (51, 0) r = 0
  · obtain ⟨C1, a1, a2⟩ := qc_sm h.1 hr
    have s1 : SI b g t p q C1 (xo_sE R (60, 0) r 0) := ⟨a2, m60 h.2 (Or.inl rfl)⟩
    have hs1 : ¬ (xo_sE R (60, 0) r 0).1 (51, 0) r = 2 := by rw [se_ne (by simp), c]; decide
    obtain ⟨C2, b1, b2, b3⟩ := cl_SI s1 (by omega) hr (xo_sE_eq _ _ _ _) hs1
    have er1 : rClose (xo_sE R (60, 0) r 0) r = rCP (xo_sE R (60, 0) r 0) r := by
      unfold rClose
      rw [if_neg fun z => z.1 (by rw [se_ne (by simp)]; exact o5)]
    rw [er1] at b3
    obtain ⟨-, -, x2, -⟩ := cp_both s1.1 (by omega) hr (s1.2.1 r hs1)
    have s3 : SI (b + 24) g t p q (xo_sE C2 (20, r) 10 1) (xo_sE (rCP (xo_sE R (60, 0) r 0) r) (69, 0) r 1) := ⟨sm_set b3.1 20 10 69 r 1 (by decide) rfl rfl, m69 b3.2 hr⟩
    have k3 : agr kG R (xo_sE (rCP (xo_sE R (60, 0) r 0) r) (69, 0) r 1) := agr_to (agr_tr (agr_set rfl) rCP_kG) rfl
    have o3' : C2.2.1 (20, r) 11 = some (41, k) := by
      rcases sm_orig b3.1 hr with ⟨y1, y2⟩ | ⟨k', y1, y2, y3, -⟩
      · rw [rCP_kG (66, 0) r rfl, se_ne (by simp), o2] at y1
        exact absurd y1.symm (nI_m1 (by omega))
      · rw [rCP_kG (66, 0) r rfl, se_ne (by simp), o2] at y2
        rw [y3, ← sm_nIinj y2 (by omega) (by omega)]
    have hk65' : ¬ (xo_sE (rCP (xo_sE R (60, 0) r 0) r) (69, 0) r 1).1 (65, 0) k = -1 := by rw [k3 (65, 0) k rfl]; exact hk65
    obtain ⟨r8, C', R', t1, t2, t3, t4, t5⟩ := cn_tail (er := er) (r := r) s3 (by omega) hr o1 (by rw [k3 (66, 0) r rfl]; exact o2) hk65'
    obtain ⟨f', f1, f2, f3, f4, f5, -⟩ := sm_part s3.1 o1 hk65'
    refine ⟨C', R', ?_, ?_, SI_more t4 (by omega), agr_tr k3 t5⟩
    · rw [if_pos c]
      simp only [se_gp (kd_20 r), p1, se_cl (kd_21 r), a1, Option.bind_some, se_cl (kd_0 0), b1, o3', se_pz1 (kd_20 r), se_gp (kd_41 k), se_cl (kd_41 k), f5, t1]
      rw [if_neg (by simp)]
      unfold fk_cn at t2
      simp only [se_cl (kd_0 0)] at t2
      exact t2
    · rw [if_pos c, mp_10 hp, mq_60 hr6, se_cl (kd_50 0), x2, Option.bind_some, mp_19 (sm_MP b3.1), mq1_69 hr6]
      exact t3
  · rw [if_neg c, if_neg c]
    exact ⟨C, R, rfl, rfl, SI_more h (by omega), agr_rfl⟩
theorem cn_SI {er : Int32} (h : SI b g t p q C R) (hb : b + 200 < 2 ^ 30) (hr : r < g) : ∃ C' R', fc_K_cancelGiver (0, 0) (some (20, r)) er C = some C' ∧ fc_M_cancelGiver (50, 0) (nI r) er R = some R' ∧ SI (b + 60) g t p q C' R' ∧ agr kG R R' := by
  have hle := sm_le h.1
  rcases sm_orig h.1 hr with ⟨o1, o2⟩ | ⟨k, o1, o2, o3, o4, o5, f, o6, o7⟩
  · exact cn_root h hb hr o1
  · exact cn_branch h hb hr o1 o2 o5 (by rw [o6]; intro e; exact nI_m1 (show f < 2 ^ 31 by omega) e.symm)
end CA
