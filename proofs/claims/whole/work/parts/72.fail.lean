def rFPo (R : xo_H) (c : Nat) (er : Int32) : xo_H := if R.1 (51, 0) c = 0 then rFP R c er else R
theorem rFP_ne {R : xo_H} {r : Nat} {er : Int32} {m : xo_N} (h : (m.1 == 50 || m.1 == 93 || m.1 == 94 || m.1 == 95) = false) (h1 : ¬ m = (62, 0)) (h2 : ¬ m = (51, 0)) (h3 : ¬ m = (60, 0)) (h4 : ¬ m = (52, 0)) : (rFP R r er).1 m = R.1 m := by
  unfold rFP
  rw [rAL_ne h h1, se_ne h4, se_ne h2, se_ne h3]
theorem rFPo_ne {R : xo_H} {r : Nat} {er : Int32} {m : xo_N} (h : (m.1 == 50 || m.1 == 93 || m.1 == 94 || m.1 == 95) = false) (h1 : ¬ m = (62, 0)) (h2 : ¬ m = (51, 0)) (h3 : ¬ m = (60, 0)) (h4 : ¬ m = (52, 0)) : (rFPo R r er).1 m = R.1 m := by
  unfold rFPo
  split
  · exact rFP_ne h h1 h2 h3 h4
  · rfl
theorem rAL_62 {kd er : Int32} {r q : Nat} (hq : ¬ q = r) : ∀ (d k : Nat) (R : xo_H), (rAL kd er r d k R).1 (62, 0) q = R.1 (62, 0) q
  | 0, k, R => by rw [rAL, se_nf (by simp [hq])]
  | d + 1, k, R => by
    rw [rAL, rAL_62 hq d (k + 1)]
    split
    · rw [hE_ne rfl]
    · rfl
theorem rFP_62 {R : xo_H} {r q : Nat} {er : Int32} (hq : ¬ q = r) : (rFP R r er).1 (62, 0) q = R.1 (62, 0) q := by
  unfold rFP
  rw [rAL_62 hq, se_ne (by simp), se_ne (by simp), se_ne (by simp)]
def rFail (R : xo_H) (r : Nat) (er : Int32) : xo_H := if R.1 (51, 0) r = 0 then (if R.1 (65, 0) r = -1 then rFP R r er else rFPo (rFPo (rFP (if R.1 (62, 0) r = 0 then R else xo_sE R (67, 0) r 0) r er) (R.1 (65, 0) r).toNatClampNeg er) ((R.1 (65, 0) r).toNatClampNeg + 1) er) else R
section GB
variable {b g t p r : Nat} {C R : xo_H}
/-- failWith and failPlain, of any giver that isn't parted -/
theorem fpo_both {er : Int32} (h : sm b g t p C R) (hb : b + 10 < 2 ^ 30) (hr : r < g) (hz : ∀ j m, R.1 (62, 0) r = nI m → m ≤ 8 → j < m → ¬ R.1 (61, 0) (8 * r + j) = -10) : ∃ C', fc_G_failWith (20, r) er C = some C' ∧ fc_M_failPlain (50, 0) (nI r) er R = some (rFPo R r er) ∧ sm (b + 8) g t p C' (rFPo R r er) := by
  have hp := sm_MP h
  have hr6 : r < 6 := by have := sm_le h; omega
  unfold rFPo
  by_cases c : R.1 (51, 0) r = 0
  · obtain ⟨C', x1, x2, x3⟩ := fp_both (er := er) h hb hr c
    rw [if_pos c]
    exact ⟨C', x1, x2 hz, x3⟩
  · rw [if_neg c]
    have q4 := sm_get h 20 4 51 r (by decide)
    refine ⟨C, ?_, ?_, sm_more h (by omega)⟩
    · unfold fc_G_failWith
      simp only [se_gf (kd_20 r), q4, if_neg c]
    · unfold fc_M_failPlain
      rw [mp_1 hp]
      simp only [ml_51 hr6, if_neg c]
theorem fp10_R {er : Int32} (hp : R.2.1 = MP) (hr : r < 6) (ho : R.1 (51, 0) r = 0) (w1 : R.1 (62, 0) r = 1) (w2 : R.1 (61, 0) (8 * r) = -10) : fc_M_failPlain (50, 0) (nI r) er R = some (rFP (xo_sE R (67, 0) r 0) r er) := by
  unfold fc_M_failPlain
  rw [mp_1 hp]
  simp only [ml_51 hr]
  rw [if_pos ho, mp_10 hp]
  simp only [mq_60 hr]
  rw [mp_1 (by exact hp)]
  simp only [mq_51 hr]
  rw [mp_2 (by exact hp)]
  simp only [mq_52 hr]
  have e0 : (0 : Int32) = nI 0 := rfl
  rw [fb_M_failPlain_33, mp_12 (by exact hp)]
  simp only [ml_62 hr]
  rw [se_ne (m := (62, 0)) (by simp), se_ne (m := (62, 0)) (by simp), se_ne (m := (62, 0)) (by simp), w1, if_pos (by decide), mp_11 (by exact hp), ix_8, e0, nI_add, ml_61 (by omega), se_ne (m := (61, 0)) (by simp), se_ne (m := (61, 0)) (by simp), se_ne (m := (61, 0)) (by simp), Nat.add_zero, w2, if_neg (by decide), if_pos rfl, mp_17 (by exact hp), ← e0]
  simp only [mq0_67 hr]
  rw [fb_M_failPlain_33, mp_12 (by exact hp)]
  simp only [ml_62 hr]
  rw [se_ne (m := (62, 0)) (by simp), se_ne (m := (62, 0)) (by simp), se_ne (m := (62, 0)) (by simp), se_ne (m := (62, 0)) (by simp), w1, if_neg (by decide), mp_12 (by exact hp)]
  simp only [mq_62 hr]
  unfold rFP
  rw [se_ne (m := (62, 0)) (by simp), w1, show (1 : Int32).toNatClampNeg = 1 from by decide, rAL, rAL, se_ne (m := (61, 0)) (by simp), se_ne (m := (61, 0)) (by simp), se_ne (m := (61, 0)) (by simp), se_ne (m := (61, 0)) (by simp), Nat.add_zero, w2, if_neg (by decide)]
  rw [se_com (n := (52, 0)) (m := (67, 0)) (by simp), se_com (n := (51, 0)) (m := (67, 0)) (by simp), se_com (n := (60, 0)) (m := (67, 0)) (by simp)]
theorem fb_C {er : Int32} {f : Nat} (h : sm b g t p C R) (hb : b + 30 < 2 ^ 30) (hr : r < g) (hpt : ¬ R.1 (65, 0) r = -1) (hf : R.1 (65, 0) r = nI f) (hfg : f + 1 < g) (hz : ∀ c, c < g → R.1 (65, 0) c = -1 → ∀ j m, R.1 (62, 0) c = nI m → m ≤ 8 → j < m → ¬ R.1 (61, 0) (8 * c + j) = -10) (h0 : R.1 (65, 0) f = -1) (h1 : R.1 (65, 0) (f + 1) = -1) : ∃ C', fc_K_failBranches (0, 0) (some (41, r)) er C = some C' ∧ fc_M_failPlain (50, 0) (nI f) er R = some (rFPo R f er) ∧ fc_M_failPlain (50, 0) (nI (f + 1)) er (rFPo R f er) = some (rFPo (rFPo R f er) (f + 1) er) ∧ sm (b + 16) g t p C' (rFPo (rFPo R f er) (f + 1) er) := by
  have hle := sm_le h
  obtain ⟨f', f1, f2, f3, f4, f5, f6, f7, f8, f9, f10⟩ := sm_part h hr hpt
  have ff : f' = f := sm_nIinj (f2.symm.trans hf) (by omega) (by omega)
  subst ff
  obtain ⟨C1, a1, a2, a3⟩ := fpo_both (er := er) h (by omega) (show f' < g by omega) (hz f' (by omega) h0)
  have pt1 : ¬ (rFPo R f' er).1 (65, 0) r = -1 := by rw [rFPo_ne rfl (by simp) (by simp) (by simp) (by simp)]; exact hpt
  obtain ⟨f'', g1, g2, g3, g4, g5, g6, g7, g8, g9, g10⟩ := sm_part a3 hr pt1
  rw [rFPo_ne rfl (by simp) (by simp) (by simp) (by simp)] at g2
  have ff : f'' = f' := sm_nIinj (g2.symm.trans hf) (by omega) (by omega)
  subst ff
  have hz1 : ∀ j m, (rFPo R f'' er).1 (62, 0) (f'' + 1) = nI m → m ≤ 8 → j < m → ¬ (rFPo R f'' er).1 (61, 0) (8 * (f'' + 1) + j) = -10 := by
    intro j m hm h8 hj
    rw [rFPo_ne (m := (61, 0)) rfl (by simp) (by simp) (by simp) (by simp)]
    refine hz (f'' + 1) hfg h1 j m ?_ h8 hj
    unfold rFPo at hm
    split at hm
    · rw [rFP_62 (by omega)] at hm; exact hm
    · exact hm
  obtain ⟨C2, b1, b2, b3⟩ := fpo_both (er := er) a3 (by omega) hfg hz1
  refine ⟨C2, ?_, a2, b2, sm_more b3 (by omega)⟩
  unfold fc_K_failBranches
  simp only [se_gp (kd_41 r), f6, se_ln (kd_42 r) (by decide)]
  have e0 : (0 : Int32) = nI 0 := rfl
  have s1 : fb_K_failBranches_12 (998 + 1 + 1) er (some (42, r)) (nI 2) (nI 0) C = some C2 := by
    rw [fb_K_failBranches_12, if_pos (nI_lt (by omega) (by omega)), se_ap (kd_42 r) (by decide) (by decide), f7]
    simp only [se_cl (kd_20 f''), a1, Option.bind_some, nI_1]
    rw [fb_K_failBranches_12, if_pos (nI_lt (by omega) (by omega)), se_ap (kd_42 r) (by decide) (by decide), g8]
    simp only [se_cl (kd_20 (f'' + 1)), b1, Option.bind_some, nI_1]
    rw [fb_K_failBranches_12, if_neg (nI_nlt (by omega) (by omega))]
  exact s1
end GB
