section GB
variable {b g t p r : Nat} {C R : xo_H}
theorem nI_nneg {f : Nat} (h : f < 2 ^ 31) : ¬ nI f < 0 := nI_pos h
/-- failGiver = failRoot -/
theorem fg_both {er : Int32} (h : sm b g t p C R) (hb : b + 60 < 2 ^ 30) (hR : iR g R) (hr : r < g) : ∃ C', fc_K_failGiver (0, 0) (some (20, r)) er C = some C' ∧ fc_M_failRoot (50, 0) (nI r) er R = some (rFail R r er) ∧ sm (b + 24) g t p C' (rFail R r er) := by
  have hp := sm_MP h
  have hle := sm_le h
  have hr6 : r < 6 := by omega
  have z10 : ¬ (1 : Int32) = 0 := by decide
  have q4 := sm_get h 20 4 51 r (by decide)
  obtain ⟨-, p0, p1, p2, p3, p4, p5, p6⟩ := sm_ptr h hr
  obtain ⟨m, m8, m1, m2⟩ := sm_an h r
  unfold fc_K_failGiver fc_M_failRoot
  rw [mp_1 hp]
  simp only [ml_51 hr6, se_gf (kd_20 r), q4]
  by_cases c : R.1 (51, 0) r = 0
  · rw [if_pos c, if_pos c]
    simp only [se_gp (kd_20 r)]
    by_cases d : R.1 (65, 0) r = -1
    · rw [sm_nopart h hr d, if_pos rfl]
      obtain ⟨C', x1, x2, x3⟩ := fp_both (er := er) h (by omega) hr c
      have er1 : rFail R r er = rFP R r er := by unfold rFail; rw [if_pos c, if_pos d]
      rw [er1]
      refine ⟨C', ?_, ?_, sm_more x3 (by omega)⟩
      · unfold fb_K_failGiver_32
        simp only [se_cl (kd_20 r), x1, Option.bind_some, if_true]
      · unfold fb_M_failRoot_14
        simp only [se_gf (kd_50 0), se_pf (kd_50 0), se_cl (kd_50 0), x2 ((hR r hr).1 d), Option.bind_some, z10, if_false]
        rw [mp_15 (sm_MP x3)]
        simp only [ml_65 hr6]
        rw [rFP_ne rfl (by simp) (by simp) (by simp) (by simp), d, if_pos (by decide)]
    · obtain ⟨f, f1, f2, f3, f4, f5, f6, f7, f8, f9, f10⟩ := sm_part h hr d
      rw [f4, if_neg (by simp), p3]
      simp only [se_gf (kd_24 r), m2]
      have key : ∀ R0 C0 : xo_H, sm b g t p C0 R0 → (∀ q j, R0.1 (61, 0) q = R.1 (61, 0) q ∧ R0.1 (62, 0) j = R.1 (62, 0) j ∧ R0.1 (65, 0) j = R.1 (65, 0) j ∧ R0.1 (66, 0) j = R.1 (66, 0) j ∧ R0.1 (51, 0) j = R.1 (51, 0) j) → fc_M_failPlain (50, 0) (nI r) er R = some (rFP R0 r er) → rFail R r er = rFPo (rFPo (rFP R0 r er) f er) (f + 1) er → ∃ C', fb_K_failGiver_32 (0, 0) (some (20, r)) er (some (41, r)) C0 = some C' ∧ fb_M_failRoot_14 (50, 0) (nI r) er 1 R = some (rFail R r er) ∧ sm (b + 24) g t p C' (rFail R r er) := by
        intro R0 C0 h0 e0 x2 x4
        obtain ⟨C1, x1, -, x3⟩ := fp_both (er := er) h0 (by omega) hr ((e0 0 r).2.2.2.2.trans c)
        have n65 : (rFP R0 r er).1 (65, 0) = R0.1 (65, 0) := rFP_ne rfl (by simp) (by simp) (by simp) (by simp)
        have e65 : ∀ j, (rFP R0 r er).1 (65, 0) j = R.1 (65, 0) j := fun j => by rw [n65]; exact (e0 0 j).2.2.1
        have hz : ∀ c, c < g → (rFP R0 r er).1 (65, 0) c = -1 → ∀ j m, (rFP R0 r er).1 (62, 0) c = nI m → m ≤ 8 → j < m → ¬ (rFP R0 r er).1 (61, 0) (8 * c + j) = -10 := by
          intro c hc h1 j m hm h8 hj
          rw [e65] at h1
          have hcr : ¬ c = r := fun e => d (e ▸ h1)
          rw [rFP_62 hcr, (e0 0 c).2.1] at hm
          rw [rFP_ne (m := (61, 0)) rfl (by simp) (by simp) (by simp) (by simp), (e0 _ 0).1]
          exact (hR c hc).1 h1 j m hm h8 hj
        have b0 : ∀ c, c < g → R.1 (66, 0) c = nI r → R.1 (65, 0) c = -1 := by
          intro c hc h1
          rcases sm_orig h hc with z | ⟨q, -, -, -, -, z, -⟩
          · rw [z.1] at h1; exact absurd h1 (nI_m1 (by omega))
          · exact z
        obtain ⟨C2, y1, y2, y3, y4⟩ := fb_C (er := er) (f := f) x3 (by omega) hr (by rw [e65]; exact d) (by rw [e65]; exact f2) f1 hz (by rw [e65]; exact b0 f (by omega) f9) (by rw [e65]; exact b0 (f + 1) (by omega) f10)
        rw [x4]
        refine ⟨C2, ?_, ?_, sm_more y4 (by omega)⟩
        · unfold fb_K_failGiver_32
          simp only [se_cl (kd_20 r), x1, Option.bind_some, se_cl (kd_0 0), y1]
          rfl
        · unfold fb_M_failRoot_14
          simp only [se_gf (kd_50 0), se_pf (kd_50 0), se_cl (kd_50 0), x2, Option.bind_some, z10, if_false]
          rw [mp_15 (sm_MP x3)]
          simp only [ml_65 hr6, e65, f2]
          have hp3 : (rFPo (rFP R0 r er) f er).2.1 = MP := by
            have : (rFPo (rFP R0 r er) f er).2 = (rFP R0 r er).2 := by
              unfold rFPo
              split
              · unfold rFP; rw [rAL_2]; rfl
              · rfl
            rw [this]; exact sm_MP x3
          rw [if_neg (nI_nneg (by omega)), mp_15 (sm_MP x3)]
          simp only [ml_65 hr6, e65, f2, y2, Option.bind_some]
          rw [mp_15 hp3]
          simp only [ml_65 hr6]
          rw [rFPo_ne rfl (by simp) (by simp) (by simp) (by simp), e65, f2, nI_1]
          simp only [y3, Option.bind_some]
      have fcl : (R.1 (65, 0) r).toNatClampNeg = f := by rw [f2, nI_clamp (by omega)]
      rcases (hR r hr).2 d with w0 | ⟨w1, w2⟩
      · have hm0 : nI m = 0 := m1.symm.trans w0
        rw [hm0, if_neg (by decide)]
        refine key R C h (fun _ _ => ⟨rfl, rfl, rfl, rfl, rfl⟩) ?_ ?_
        · obtain ⟨-, -, x2, -⟩ := fp_both (er := er) h (by omega) hr c
          refine x2 fun j k hk h8 hj => ?_
          rw [w0] at hk
          have : k = 0 := sm_nIinj hk.symm (by omega) (by omega)
          omega
        · unfold rFail
          rw [if_pos c, if_neg d, if_pos w0, fcl]
      · have hm1 : nI m = 1 := m1.symm.trans w1
        rw [hm1, if_pos (by decide)]
        simp only [se_pz0 (kd_41 r)]
        refine key _ _ (sm_set h 41 2 67 r 0 (by decide) rfl rfl) (fun _ _ => ?_) (fp10_R hp hr6 c w1 w2) ?_
        · rw [se_ne (by simp), se_ne (by simp), se_ne (by simp), se_ne (by simp), se_ne (by simp)]
          exact ⟨rfl, rfl, rfl, rfl, rfl⟩
        · unfold rFail
          rw [if_pos c, if_neg d, if_neg (by rw [w1]; decide), fcl]
  · rw [if_neg c, if_neg c]
    have er1 : rFail R r er = R := by unfold rFail; rw [if_neg c]
    rw [er1]
    refine ⟨C, rfl, ?_, sm_more h (by omega)⟩
    have fp0 : fc_M_failPlain (50, 0) (nI r) er R = some R := by
      unfold fc_M_failPlain
      rw [mp_1 hp]
      simp only [ml_51 hr6, if_neg c]
    unfold fb_M_failRoot_14
    simp only [se_gf (kd_50 0), se_pf (kd_50 0), se_cl (kd_50 0), fp0, Option.bind_some, if_true]
end GB
