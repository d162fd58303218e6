section JB
variable {b g t p q r : Nat} {C R : xo_H} {x ch : Int32}
/-- the job PULLED -/
theorem pj_SI (h : sm b g t p C R) (z : Inv g t p q (xo_sE R (64, 0) r 0)) (hb : b + 400 < 2 ^ 30) (hr : r < g) : ∃ C' R', fc_K_doPulled (0, 0) (some (20, r)) x C = some C' ∧ fc_M_pulledJob (50, 0) (nI r) x R = some R' ∧ SI (b + 30) g t p q C' R' := by
  have hle := sm_le h
  have hp := sm_MP h
  have hr6 : r < 6 := by omega
  have s0 : sm b g t p C (xo_sE R (64, 0) r 0) := sm_own h rfl
  have s1 : SI b g t p q (xo_sE C (20, r) 8 0) (xo_sE (xo_sE R (64, 0) r 0) (56, 0) r 0) := ⟨sm_set s0 20 8 56 r 0 (by decide) rfl rfl, m56 z hr (Or.inr ⟨rfl, by rw [xo_sE_eq]; decide⟩)⟩
  have hp1 := sm_MP s1.1
  have q9 := sm_get s1.1 20 9 57 r (by decide)
  unfold fc_K_doPulled fc_M_pulledJob
  rw [if_neg (by simp), se_pz0 (kd_20 r), mp_14 hp, mq0_64 hr6, mp_6 (by exact hp), mq0_56 hr6]
  by_cases c : x = -1
  · rw [if_pos c, if_pos c, se_gf (kd_20 r), q9, mp_7 hp1, ml_57 hr6]
    by_cases d : (xo_sE (xo_sE R (64, 0) r 0) (56, 0) r 0).1 (57, 0) r = 0
    · rw [if_pos d, if_pos d]
      exact ⟨_, _, rfl, rfl, SI_more s1 (by omega)⟩
    · rw [if_neg d, if_neg d, se_pz0 (kd_20 r), mp_7 hp1, mq0_57 hr6]
      have s2 : SI b g t p q (xo_sE (xo_sE C (20, r) 8 0) (20, r) 9 0) (xo_sE (xo_sE (xo_sE R (64, 0) r 0) (56, 0) r 0) (57, 0) r 0) := ⟨sm_set s1.1 20 9 57 r 0 (by decide) rfl rfl, m57 s1.2 hr (Or.inl rfl)⟩
      obtain ⟨C', R', a1, a2, a3, -⟩ := pull_SI s2 (by omega) hr
      rw [se_cl (kd_0 0), a1, se_cl (kd_50 0), a2]
      exact ⟨C', R', rfl, rfl, a3⟩
  · rw [if_neg c, if_neg c]
    obtain ⟨C', a1, a2, a3⟩ := fg_SI (er := x) s1 (by omega) hr
    rw [se_cl (kd_0 0), a1, se_cl (kd_50 0), a2]
    exact ⟨C', _, rfl, rfl, SI_more a3 (by omega)⟩
/-- one branch of a parted chunk -/
theorem pd_step {f i fu fv : Nat} (h : SI b g t p q C R) (hb : b + 400 < 2 ^ 30) (hr : r < g) (hi : i < 2) (hfg : f + 1 < g) (hf : R.1 (65, 0) r = nI f) (h67 : R.1 (67, 0) r = 1) : ∃ C' R', fb_K_doParted_36 (fu + 1) (0, 0) ch (some (41, r)) (some (42, r)) (nI 2) (nI i) C = fb_K_doParted_36 fu (0, 0) ch (some (41, r)) (some (42, r)) (nI 2) (nI (i + 1)) C' ∧ fb_M_partedJob_14 (fv + 1) (50, 0) (nI r) ch (nI (f + i)) R = fb_M_partedJob_14 fv (50, 0) (nI r) ch (nI (f + i + 1)) R' ∧ SI (b + 40) g t p q C' R' ∧ agr kQ R R' ∧ lK r R R' := by
  have hle := sm_le h.1
  have hp := sm_MP h.1
  have hr6 : r < 6 := by omega
  have hpt : ¬ R.1 (65, 0) r = -1 := by rw [hf]; exact fun z => nI_m1 (by omega) z.symm
  obtain ⟨f', hfg', hf', -, -, -, -, a2, a3, o0, o1⟩ := sm_part h.1 hr hpt
  have ef : f' = f := sm_nIinj (hf'.symm.trans hf) (by omega) (by omega)
  subst ef
  have hc : C.2.1 (42, r) i = some (20, f' + i) ∧ R.1 (66, 0) (f' + i) = nI r := by
    have : i = 0 ∨ i = 1 := by omega
    rcases this with e | e
    · subst e; exact ⟨a2, o0⟩
    · subst e; exact ⟨a3, o1⟩
  have hcg : f' + i < g := by omega
  have hlt : f' + i < f' + 2 := by omega
  generalize f' + i = c at hc hcg hlt ⊢
  obtain ⟨hc1, hc2⟩ := hc
  have hc6 : c < 6 := by omega
  have z10 : ¬ (1 : Int32) = 0 := by decide
  have e2 : nI f' + (2 : Int32) = nI (f' + 2) := nI_add f' 2
  have orc : R.1 (65, 0) c = -1 ∧ ¬ r = c := by
    rcases sm_orig h.1 hcg with ⟨e, -⟩ | ⟨k, k1, k2, k3, k4, k5, -⟩
    · rw [hc2] at e; exact absurd e.symm (nI_m1 (by omega))
    · have : k = r := sm_nIinj (k2.symm.trans hc2) (by omega) (by omega)
      subst this
      refine ⟨k5, fun e => ?_⟩
      subst e
      rw [k4] at hc2
      exact nI_m1 (by omega) hc2
  obtain ⟨-, p0, p1, p2, p3, p4, p5, p6⟩ := sm_ptr h.1 hcg
  obtain ⟨n, n16, n1, n2⟩ := sm_qn h.1 c
  have q10 := sm_get h.1 20 10 69 c (by decide)
  rw [fb_K_doParted_36, fb_M_partedJob_14, mp_15 hp, ml_65 hr6, hf, e2, if_pos (nI_lt hi (by omega)), if_pos (nI_lt (by omega) (by omega)), se_ap (kd_42 r) hi (by decide), hc1, mp_1 hp, ml_51 hc6, se_cl (kd_20 c), ig_C h.1, Option.bind_some, nI_1, nI_1]
  have same : ∃ C' R', fb_K_doParted_36 fu (0, 0) ch (some (41, r)) (some (42, r)) (nI 2) (nI (i + 1)) C = fb_K_doParted_36 fu (0, 0) ch (some (41, r)) (some (42, r)) (nI 2) (nI (i + 1)) C' ∧ fb_M_partedJob_14 fv (50, 0) (nI r) ch (nI (c + 1)) R = fb_M_partedJob_14 fv (50, 0) (nI r) ch (nI (c + 1)) R' ∧ SI (b + 40) g t p q C' R' ∧ agr kQ R R' ∧ lK r R R' := ⟨C, R, rfl, rfl, SI_more h (by omega), agr_rfl, lK_rfl⟩
  by_cases c1 : R.1 (51, 0) c = 0
  · rw [if_pos c1, mp_5 hp, ml_55 hc6]
    by_cases c2 : R.1 (55, 0) c = 0
    · have cc : R.1 (51, 0) c = 0 ∧ R.1 (55, 0) c = 0 := ⟨c1, c2⟩
      rw [if_pos cc, if_pos c2, if_neg z10, mp_19 hp, ml_69 hc6, se_gf (kd_20 c)]
      dsimp only
      rw [q10]
      by_cases c3 : R.1 (69, 0) c = 0
      · rw [if_pos c3, if_pos c3, mp_10 hp, ml_60 hc6, se_gp (kd_20 c), p1, se_cl (kd_21 c), cr_count (kd_21 c) (kd_22 c) p4, Option.bind_some]
        dsimp only
        rw [n2, n1]
        by_cases c4 : n = 16
        · subst c4
          rw [if_neg (by decide), if_pos (by decide)]
          have h62 : R.1 (62, 0) c = 0 := Inv_Q h.2 c (by rw [n1]; decide)
          obtain ⟨C', x1, x2, x3⟩ := fpo_both (er := 101) h.1 (by omega) hcg (fun j m hm h8 hj => by
            rw [h62] at hm
            have : 0 = m := sm_nIinj hm (by omega) (by omega)
            omega)
          rw [se_cl (kd_20 c), x1, Option.bind_some, se_cl (kd_50 0), x2, Option.bind_some]
          refine ⟨C', _, rfl, rfl, SI_more ⟨x3, rFPo_Inv h.2 hcg⟩ (by omega), kQ_G rFPo_kG, ?_, ?_, ka_has rFPo_lJ 2 r⟩
          · rw [rFPo_ne rfl (by simp) (by simp) (by simp) (by simp)]
          · unfold rFPo
            split
            · first
              | rfl
              | exact rFP_62 orc.2
            · first
              | rfl
              | exact rFP_62 orc.2
        · have l16 : nI n < (16 : Int32) := nI_lt (b := 16) (by omega) (by omega)
          have n16' : ¬ nI n = (16 : Int32) := fun z => c4 (sm_nIinj (b := 16) z (by omega) (by omega))
          rw [if_pos l16, if_neg n16']
          obtain ⟨C', R', x1, x2, x3, x4, x5⟩ := ti_SI (ch := ch) h hb hcg c1 (Or.inr (by rw [n1]; exact n16'))
          rw [se_cl (kd_0 0), x1, Option.bind_some, se_cl (kd_50 0), x2, Option.bind_some]
          exact ⟨C', R', rfl, rfl, x3, x4, x5 orc.1 r hr orc.2 hc2 h67⟩
      · rw [if_neg c3, if_neg c3]
        exact same
    · have nn : ¬ (R.1 (51, 0) c = 0 ∧ R.1 (55, 0) c = 0) := fun z => c2 z.2
      rw [if_neg nn, if_neg c2, if_pos rfl]
      exact same
  · have nn : ¬ (R.1 (51, 0) c = 0 ∧ R.1 (55, 0) c = 0) := fun z => c1 z.1
    rw [if_neg nn, if_neg c1, if_pos rfl]
    exact same
/-- the job PARTED -/
theorem pd_SI (h : SI b g t p q C R) (hb : b + 1000 < 2 ^ 30) (hr : r < g) (h65 : ¬ R.1 (65, 0) r = -1) (h67 : R.1 (67, 0) r = 1) (h62 : R.1 (62, 0) r = 0) (nh : ¬ has R 2 r) : ∃ C' R', fc_K_doParted (0, 0) (some (20, r)) ch C = some C' ∧ fc_M_partedJob (50, 0) (nI r) ch R = some R' ∧ SI (b + 100) g t p q C' R' := by
  have hle := sm_le h.1
  have hp := sm_MP h.1
  have hr6 : r < 6 := by omega
  obtain ⟨f, hfg, hf, -, p12, -, a1, -⟩ := sm_part h.1 hr h65
  have s0 : SI b g t p q (xo_sE C (41, r) 3 0) (xo_sE R (68, 0) r 0) := ⟨sm_set h.1 41 3 68 r 0 (by decide) rfl rfl, m68 h.2 hr h65⟩
  have l0 : lK r R (xo_sE R (68, 0) r 0) := lK_agr (agr_set rfl)
  have hf0 : (xo_sE R (68, 0) r 0).1 (65, 0) r = nI f := by rw [se_ne (by simp)]; exact hf
  obtain ⟨C1, R1, b1, b2, b3, b4, b5⟩ := pd_step (i := 0) (fu := 999) (fv := 999) (ch := ch) s0 (by omega) hr (by omega) hfg hf0 (l0.1.trans h67)
  have hf1 : R1.1 (65, 0) r = nI f := (b4 (65, 0) r rfl).trans hf0
  have l1 := lK_tr l0 b5
  obtain ⟨C2, R2, d1, d2, d3, d4, d5⟩ := pd_step (i := 1) (fu := 998) (fv := 998) (ch := ch) b3 (by omega) hr (by omega) hfg hf1 (l1.1.trans h67)
  have hf2 : R2.1 (65, 0) r = nI f := (d4 (65, 0) r rfl).trans hf1
  have l2 := lK_tr l1 d5
  have hp2 := sm_MP d3.1
  have s3 : SI (b + 40 + 40) g t p q (xo_sE C2 (41, r) 2 0) (xo_sE R2 (67, 0) r 0) := ⟨sm_set d3.1 41 2 67 r 0 (by decide) rfl rfl, m67 d3.2 hr (Or.inr ⟨rfl, l2.2.1.trans h62, fun z => nh (l2.2.2.mp z)⟩)⟩
  have hp3 := sm_MP s3.1
  have q3 := sm_get s3.1 41 3 68 r (by decide)
  have e2 : nI f + (2 : Int32) = nI (f + 2) := nI_add f 2
  have K0 : fc_K_doParted (0, 0) (some (20, r)) ch C = fb_K_doParted_36 998 (0, 0) ch (some (41, r)) (some (42, r)) (nI 2) (nI 2) C2 := by
    unfold fc_K_doParted
    rw [if_neg (by simp), se_gp (kd_20 r), p12, if_neg (by simp), se_gp (kd_20 r), p12, se_pz0 (kd_41 r), se_gp (kd_41 r)]
    have a1' : (xo_sE C (41, r) 3 0).2.1 (41, r) 1 = some (42, r) := a1
    rw [a1', se_ln (kd_42 r) (by decide)]
    exact b1.trans d1
  have M0 : fc_M_partedJob (50, 0) (nI r) ch R = fb_M_partedJob_14 998 (50, 0) (nI r) ch (nI (f + 2)) R2 := by
    unfold fc_M_partedJob
    rw [mp_18 hp, mq0_68 hr6, mp_15 (by exact hp), ml_65 hr6, hf0]
    exact b2.trans d2
  rw [K0, M0, fb_K_doParted_36, fb_M_partedJob_14, if_neg (nI_nlt (by omega) (by omega)), mp_15 hp2, ml_65 hr6, hf2, e2, if_neg (nI_nlt (by omega) (by omega)), se_pz0 (kd_41 r), se_gf (kd_41 r), q3, mp_17 hp2, mq0_67 hr6, mp_18 hp3, ml_68 hr6]
  by_cases c : (xo_sE R2 (67, 0) r 0).1 (68, 0) r = 0
  · rw [if_pos c, if_pos c]
    exact ⟨_, _, rfl, rfl, SI_more s3 (by omega)⟩
  · rw [if_neg c, if_neg c]
    obtain ⟨v, C3, C4, R4, f1, f2, f3, f4, f5, -⟩ := ro_SI s3 (by omega) hr (by rw [se_ne (by simp), hf2]; exact fun z => nI_m1 (by omega) z.symm) (xo_sE_eq _ _ _ _)
    rw [se_cl (kd_0 0), f1, Option.bind_some, se_cl (kd_50 0), f4, Option.bind_some]
    dsimp only
    by_cases e : v = 0
    · rw [if_pos e, se_cl (kd_0 0), f2 e]
      exact ⟨_, _, rfl, rfl, SI_more f5 (by omega)⟩
    · rw [if_neg e, ← f3 e]
      exact ⟨_, _, rfl, rfl, SI_more f5 (by omega)⟩
/-- the jobs of a taker -/
theorem ds_SI {w : Nat} {k : Int32} (h : SI b g t p q C R) (hb : b + 100 < 2 ^ 30) (hw : w < t) (h84 : ¬ R.1 (84, 0) w = 1) (h79 : R.1 (79, 0) w = k) (hk : k = 3 ∨ k = 4 ∨ k = 5) : ∃ C' R', fc_K_doSettled (0, 0) (some (30, w)) k x C = some C' ∧ (k = 3 → fc_M_written (50, 0) (nI w) x R = some R') ∧ (k = 4 → fc_M_shutDone (50, 0) (nI w) x R = some R') ∧ (k = 5 → fc_M_abortDone (50, 0) (nI w) x R = some R') ∧ SI (b + 20) g t p q C' R' := by
  unfold fc_K_doSettled
  rw [if_neg (by simp), se_pf (kd_30 w)]
  rcases hk with e | e | e
  · subst e
    obtain ⟨C', a1, a2, a3⟩ := wn_SI (x := x) h (by omega) hw h84 h79
    rw [if_pos rfl, se_cl (kd_30 w), a1]
    exact ⟨C', _, rfl, fun _ => a2, fun z => absurd z (by decide), fun z => absurd z (by decide), SI_more a3 (by omega)⟩
  · subst e
    obtain ⟨C', a1, a2, a3⟩ := sd_SI (x := x) h (by omega) hw h84
    rw [if_neg (by decide), if_pos rfl, se_cl (kd_30 w), a1]
    exact ⟨C', _, rfl, fun z => absurd z (by decide), fun _ => a2, fun z => absurd z (by decide), SI_more a3 (by omega)⟩
  · subst e
    obtain ⟨C', a1, a2, a3⟩ := ad_SI (x := x) h (by omega) hw h84
    rw [if_neg (by decide), if_neg (by decide), se_cl (kd_30 w), a1]
    exact ⟨C', _, rfl, fun z => absurd z (by decide), fun z => absurd z (by decide), fun _ => a2, SI_more a3 (by omega)⟩
end JB
