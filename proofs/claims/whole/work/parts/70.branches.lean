/-- a giver that hasn't failed has no error -/
def iF (R : xo_H) : Prop := ∀ r, ¬ R.1 (51, 0) r = 2 → R.1 (52, 0) r = 0
theorem nI_m1 {f : Nat} (h : f < 2 ^ 31) : ¬ (-1 : Int32) = nI f := by
  intro e
  have e1 := congrArg Int32.toInt e
  rw [nI_toInt h] at e1
  have e2 : (-1 : Int32).toInt = -1 := by decide
  rw [e2] at e1
  omega
section GB
variable {b g t p r : Nat} {C R : xo_H}
theorem sm_part (h : sm b g t p C R) (hr : r < g) (hp : ¬ R.1 (65, 0) r = -1) : ∃ f, f + 1 < g ∧ R.1 (65, 0) r = nI f ∧ R.1 (58, 0) r = 2 ∧ C.2.1 (20, r) 12 = some (41, r) ∧ C.2.1 (41, r) 0 = some (20, r) ∧ C.2.1 (41, r) 1 = some (42, r) ∧ C.2.1 (42, r) 0 = some (20, f) ∧ C.2.1 (42, r) 1 = some (20, f + 1) ∧ R.1 (66, 0) f = nI r ∧ R.1 (66, 0) (f + 1) = nI r := by
  rcases h.2.2.2.2.2.2.2.2.2.2.2.2.2.2.1 r hr with z | ⟨z1, z2, z3, z4, f, z5, z6, z7, z8, z9, z10⟩
  · exact absurd z.1 hp
  · exact ⟨f, z5, z6, z1, z2, z3, z4, z7, z8, z9, z10⟩
theorem sm_nopart (h : sm b g t p C R) (hr : r < g) (hp : R.1 (65, 0) r = -1) : C.2.1 (20, r) 12 = none := by
  rcases h.2.2.2.2.2.2.2.2.2.2.2.2.2.2.1 r hr with z | ⟨z1, z2, z3, z4, f, z5, z6, z7⟩
  · exact z.2
  · rw [hp] at z6
    exact absurd z6 (nI_m1 (by have := sm_le h; omega))
theorem sm_orig (h : sm b g t p C R) (hr : r < g) : (R.1 (66, 0) r = -1 ∧ C.2.1 (20, r) 11 = none) ∨ ∃ q, q < g ∧ R.1 (66, 0) r = nI q ∧ C.2.1 (20, r) 11 = some (41, q) ∧ R.1 (66, 0) q = -1 ∧ R.1 (65, 0) r = -1 ∧ ∃ f, R.1 (65, 0) q = nI f ∧ (r = f ∨ r = f + 1) := h.2.2.2.2.2.2.2.2.2.2.2.2.2.1 r hr
end GB
def eb1 (R : xo_H) (c : Nat) : xo_H := if R.1 (51, 0) c = 0 ∧ R.1 (55, 0) c = 0 then (if R.1 (60, 0) c = 0 then rCP (xo_sE R (55, 0) c 1) c else xo_sE R (55, 0) c 1) else R
def rEB (R : xo_H) (f : Nat) : xo_H := eb1 (eb1 R f) (f + 1)
theorem rCP_ne {R : xo_H} {r : Nat} {m : xo_N} (h : (m.1 == 50 || m.1 == 93 || m.1 == 94 || m.1 == 95) = false) (h1 : ¬ m = (62, 0)) (h2 : ¬ m = (51, 0)) : (rCP R r).1 m = R.1 m := by
  unfold rCP
  rw [rAL_ne h h1, se_ne h2]
theorem rCP_2 {R : xo_H} {r : Nat} : (rCP R r).2 = R.2 := by unfold rCP; rw [rAL_2]; rfl
theorem eb1_ne {R : xo_H} {c : Nat} {m : xo_N} (h : (m.1 == 50 || m.1 == 93 || m.1 == 94 || m.1 == 95) = false) (h1 : ¬ m = (62, 0)) (h2 : ¬ m = (51, 0)) (h3 : ¬ m = (55, 0)) : (eb1 R c).1 m = R.1 m := by
  unfold eb1
  by_cases c1 : R.1 (51, 0) c = 0 ∧ R.1 (55, 0) c = 0
  · rw [if_pos c1]
    by_cases c2 : R.1 (60, 0) c = 0
    · rw [if_pos c2, rCP_ne h h1 h2, se_ne h3]
    · rw [if_neg c2, se_ne h3]
  · rw [if_neg c1]
theorem rCP_51 {R : xo_H} {r : Nat} : (rCP R r).1 (51, 0) = (xo_sE R (51, 0) r 1).1 (51, 0) := by
  unfold rCP
  rw [rAL_ne rfl (by simp)]
theorem eb1_iF {R : xo_H} {c : Nat} (h : iF R) : iF (eb1 R c) := by
  intro q hq
  rw [eb1_ne rfl (by simp) (by simp) (by simp)]
  unfold eb1 at hq
  by_cases c1 : R.1 (51, 0) c = 0 ∧ R.1 (55, 0) c = 0
  · rw [if_pos c1] at hq
    by_cases c2 : R.1 (60, 0) c = 0
    · rw [if_pos c2, rCP_51] at hq
      by_cases e : q = c
      · subst e; exact h q (by rw [c1.1]; decide)
      · rw [se_nf (by simp [e]), se_ne (by simp)] at hq
        exact h q hq
    · rw [if_neg c2, se_ne (by simp)] at hq
      exact h q hq
  · rw [if_neg c1] at hq
    exact h q hq
section GB
variable {b g t p r : Nat} {C R : xo_H}
theorem eb_step {f i fu fv : Nat} (h : sm b g t p C R) (hb : b + 10 < 2 ^ 30) (hF : iF R) (hr : r < g) (hi : i < 2) (hfg : f + 1 < g) (hf : R.1 (65, 0) r = nI f) (hc : C.2.1 (42, r) i = some (20, f + i)) : ∃ C', fb_K_endBranches_16 (fu + 1) (some (42, r)) (nI 2) (nI i) C = fb_K_endBranches_16 fu (some (42, r)) (nI 2) (nI (i + 1)) C' ∧ fb_M_endBranches_7 (fv + 1) (50, 0) (nI r) (nI (f + i)) R = fb_M_endBranches_7 fv (50, 0) (nI r) (nI (f + i + 1)) (eb1 R (f + i)) ∧ sm (b + 8) g t p C' (eb1 R (f + i)) := by
  have hp := sm_MP h
  have hle := sm_le h
  have hr6 : r < 6 := by omega
  have hcg : f + i < g := by omega
  generalize hcc : f + i = c at hc hcg ⊢
  have hc6 : c < 6 := by omega
  have z10 : ¬ (1 : Int32) = 0 := by decide
  have e2 : nI f + (2 : Int32) = nI (f + 2) := nI_add f 2
  rw [fb_K_endBranches_16, fb_M_endBranches_7, mp_15 hp]
  simp only [ml_65 hr6, hf, e2]
  rw [if_pos (nI_lt (by omega) (by omega)), if_pos (nI_lt (by omega) (by omega)), se_ap (kd_42 r) hi (by decide), hc, mp_1 hp]
  simp only [ml_51 hc6, se_cl (kd_20 c), ig_C h, Option.bind_some, nI_1]
  unfold eb1
  by_cases c1 : R.1 (51, 0) c = 0
  · rw [if_pos c1, mp_5 hp]
    simp only [ml_55 hc6]
    by_cases c2 : R.1 (55, 0) c = 0
    · have cc : R.1 (51, 0) c = 0 ∧ R.1 (55, 0) c = 0 := ⟨c1, c2⟩
      simp only [if_pos cc, if_pos c2]
      rw [if_neg z10, mp_5 hp]
      simp only [mq1_55 hc6, se_pz1 (kd_20 c)]
      rw [mp_10 (by exact hp)]
      simp only [ml_60 hc6]
      rw [se_ne (m := (60, 0)) (by simp)]
      have h1 := sm_set h 20 7 55 c 1 (by decide) rfl rfl
      obtain ⟨-, p0, p1, p2, p3, p4, p5, p6⟩ := sm_ptr h1 hcg
      obtain ⟨n, n16, n1, n2⟩ := sm_qn h1 c
      rw [se_ne (m := (60, 0)) (by simp)] at n1
      simp only [se_gp (kd_20 c), p1, se_cl (kd_21 c), cr_count (kd_21 c) (kd_22 c) p4, Option.bind_some, n2, n1]
      by_cases c3 : nI n = 0
      · simp only [if_pos c3]
        obtain ⟨C', x1, x2, x3⟩ := cp_both h1 hb hcg (by rw [se_ne (by simp)]; exact hF c (by rw [c1]; decide))
        simp only [se_pf (kd_20 c), se_cl (kd_20 c), x1, Option.bind_some, se_gf (kd_50 0), se_pf (kd_50 0), se_cl (kd_50 0), x2]
        exact ⟨C', rfl, trivial, x3⟩
      · simp only [if_neg c3]
        exact ⟨_, rfl, trivial, sm_more h1 (by omega)⟩
    · have nn : ¬ (R.1 (51, 0) c = 0 ∧ R.1 (55, 0) c = 0) := fun z => c2 z.2
      simp only [if_neg nn, if_neg c2, if_true]
      exact ⟨C, rfl, trivial, sm_more h (by omega)⟩
  · have nn : ¬ (R.1 (51, 0) c = 0 ∧ R.1 (55, 0) c = 0) := fun z => c1 z.1
    simp only [if_neg nn, if_neg c1, if_true]
    exact ⟨C, rfl, trivial, sm_more h (by omega)⟩
theorem eb_both (h : sm b g t p C R) (hb : b + 30 < 2 ^ 30) (hF : iF R) (hr : r < g) (hpt : ¬ R.1 (65, 0) r = -1) : ∃ f C', R.1 (65, 0) r = nI f ∧ f + 1 < g ∧ fc_K_endBranches (0, 0) (some (41, r)) C = some C' ∧ fc_M_endBranches (50, 0) (nI r) (xo_sE R (67, 0) r 0) = some (rEB (xo_sE R (67, 0) r 0) f) ∧ sm (b + 16) g t p C' (rEB (xo_sE R (67, 0) r 0) f) := by
  have hp := sm_MP h
  have hle := sm_le h
  have hr6 : r < 6 := by omega
  have h1 := sm_set h 41 2 67 r 0 (by decide) rfl rfl
  have hF1 : iF (xo_sE R (67, 0) r 0) := fun q hq => by
    rw [se_ne (by simp)] at hq ⊢
    exact hF q hq
  obtain ⟨f, f1, f2, f3, f4, f5, f6, f7, f8, f9, f10⟩ := sm_part h1 hr (by rw [se_ne (by simp)]; exact hpt)
  obtain ⟨C1, a1, a2, a3⟩ := eb_step (fu := 998 + 1) (fv := 998 + 1) h1 (by omega) hF1 hr (i := 0) (by omega) f1 f2 f7
  have pt1 : ¬ (eb1 (xo_sE R (67, 0) r 0) f).1 (65, 0) r = -1 := by
    rw [eb1_ne rfl (by simp) (by simp) (by simp), se_ne (by simp)]
    exact hpt
  have f2' : (eb1 (xo_sE R (67, 0) r 0) f).1 (65, 0) r = nI f := by
    rw [eb1_ne rfl (by simp) (by simp) (by simp)]
    exact f2
  obtain ⟨f', g1, g2, g3, g4, g5, g6, g7, g8, g9, g10⟩ := sm_part a3 hr pt1
  have ff : f' = f := sm_nIinj (g2.symm.trans f2') (by omega) (by omega)
  subst ff
  obtain ⟨C2, b1, b2, b3⟩ := eb_step (fu := 998) (fv := 998) a3 (by omega) (eb1_iF hF1) hr (i := 1) (by omega) g1 g2 g8
  refine ⟨f', C2, ?_, f1, ?_, ?_, sm_more b3 (by omega)⟩
  · rw [se_ne (by simp)] at f2; exact f2
  · unfold fc_K_endBranches
    simp only [se_pz0 (kd_41 r), se_gp (kd_41 r), f6, se_ln (kd_42 r) (by decide)]
    have e0 : (0 : Int32) = nI 0 := rfl
    rw [e0]
    have a1' : fb_K_endBranches_16 1000 (some (42, r)) (nI 2) (nI 0) (xo_sE C (41, r) 2 0) = _ := a1
    rw [← e0] at a1' ⊢
    rw [a1']
    rw [b1, fb_K_endBranches_16, if_neg (by decide)]
  · unfold fc_M_endBranches
    rw [mp_15 (by exact hp)]
    simp only [ml_65 hr6, f2]
    have a2' : fb_M_endBranches_7 1000 (50, 0) (nI r) (nI f') (xo_sE R (67, 0) r 0) = _ := a2
    rw [a2', b2]
    have hq : (eb1 (eb1 (xo_sE R (67, 0) r 0) (f' + 0)) (f' + 1)).1 (65, 0) r = nI f' := by
      rw [eb1_ne rfl (by simp) (by simp) (by simp), eb1_ne rfl (by simp) (by simp) (by simp)]
      exact f2
    have hp2 : (eb1 (eb1 (xo_sE R (67, 0) r 0) (f' + 0)) (f' + 1)).2.1 = MP := sm_MP b3
    rw [fb_M_endBranches_7, mp_15 hp2]
    simp only [ml_65 hr6, hq]
    have e2 : nI f' + (2 : Int32) = nI (f' + 2) := nI_add f' 2
    rw [e2, if_neg (nI_nlt (by omega) (by omega))]
    rfl
end GB
