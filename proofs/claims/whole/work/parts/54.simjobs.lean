/-- three rows of the class change together; the rest stays: the parts but the jobs' -/
theorem jb_rest {b g t p : Nat} {C R : xo_H} (h : sm b g t p C R) {n : xo_N} {f : Nat} {v : Int32} (hc : (lc_S n.1 f || lc_Q n.1 f || lc_A n.1 f || lc_U n.1 f || lc_L n.1 f || lc_P n.1 f) = false) (hJ : sm_J (xo_sE C n f v) R) : sm b g t p (xo_sE C n f v) R := by
  simp only [Bool.or_eq_false_iff] at hc
  obtain ⟨h1, h2, h3, h4, h5, h6, h7⟩ := h
  exact ⟨kc_S h1 hc.1.1.1.1.1, kc_Q h2 hc.1.1.1.1.2, kc_A h3 hc.1.1.1.2, kc_U h4 hc.1.1.2, kc_L h5 hc.1.2, hJ, kc_P h7 hc.2⟩
def jb_R (R : xo_H) (f n : Nat) (k w x : Int32) : xo_H := xo_sE (xo_sE (xo_sE (xo_sE R (90, 0) ((f + n) % 64) k) (91, 0) ((f + n) % 64) w) (92, 0) ((f + n) % 64) x) (50, 0) 43 (nI (n + 1))
theorem jb_job {R : xo_H} {f n : Nat} {k w x : Int32} (hp : R.2.1 = MP) (hf : R.1 (50, 0) 42 = nI f) (hn : R.1 (50, 0) 43 = nI n) (h1 : f < 64) (h2 : n < 64) : fc_M_job (50, 0) k w x R = some (jb_R R f n k w x) := by
  unfold fc_M_job
  have hlt : (f + n) % 64 < 64 := Nat.mod_lt _ (by decide)
  have e64 : (64 : Int32) = nI 64 := rfl
  simp only [se_gf (kd_50 0), hf, hn, nI_add]
  rw [e64, se_rm (by omega) (by decide) (by decide), mp_44 hp, mq_90 hlt, mp_45 (by exact hp), mq_91 hlt, mp_46 (by exact hp), mq_92 hlt]
  simp only [se_pf (kd_50 0), se_E1, Prod.mk.injEq, hn, nI_1]
  simp [jb_R, hn, nI_1]
theorem jb_add {b g t p n : Nat} {C R : xo_H} (h : sm b g t p C R) (hn : R.1 (50, 0) 43 = nI n) (h16 : n < 16) (k w x : Int32) : ∃ f C', f < 64 ∧ R.1 (50, 0) 42 = nI f ∧ fc_J_add (5, 0) k w x C = some C' ∧ fc_M_job (50, 0) k w x R = some (jb_R R f n k w x) ∧ sm b g t p C' (jb_R R f n k w x) := by
  obtain ⟨h1, h2, h3, h4, h5, h6, h7⟩ := h
  obtain ⟨n', f, hd, a1, a2, a3, a4, a5, ⟨b1, b2⟩, ⟨b3, b4⟩, ⟨b5, b6⟩, a6⟩ := h6
  have hnn : n' = n := by
    have := a4.symm.trans hn
    exact (nI_eq (by omega) (by omega)).mp this
  subst hnn
  have hP := h7
  obtain ⟨⟨hp, -⟩, -, -, ⟨-, -, -⟩, -, ⟨j0, j1, j2, r6, r8, r10⟩, -⟩ := hP
  have hm : (hd + n') % 16 < 16 := Nat.mod_lt _ (by decide)
  refine ⟨f, xo_sE (xo_sE (xo_sE (xo_sE (xo_sE (xo_sE C (7, 0) ((hd + n') % 16) k) (6, 0) 2 (nI (n' + 1))) (9, 0) ((hd + n') % 16) w) (8, 0) 2 (nI (n' + 1))) (11, 0) ((hd + n') % 16) x) (10, 0) 2 (nI (n' + 1)), a2, a5, ?_, jb_job hp a5 a4 a2 (by omega), ?_⟩
  · unfold fc_J_add
    simp only [se_gp (kd_5 0), j0, se_cl (kd_6 0)]
    rw [sm_add (cap := 16) (kd_6 0) (kd_7 0) r6 b1 b2 h16 a3 (by decide)]
    simp only [Option.bind_some, se_E2, j1, se_cl (kd_8 0)]
    rw [sm_add (cap := 16) (kd_8 0) (kd_9 0) (by simp only [se_E2]; exact r8) (by simp [se_E1]; exact b3) (by simp [se_E1]; exact b4) h16 a3 (by decide)]
    simp only [Option.bind_some, se_E2, j2, se_cl (kd_10 0)]
    rw [sm_add (cap := 16) (kd_10 0) (kd_11 0) (by simp only [se_E2]; exact r10) (by simp [se_E1]; exact b5) (by simp [se_E1]; exact b6) h16 a3 (by decide)]
    rfl
  · unfold jb_R
    refine ⟨?_, ?_, ?_, ?_, ?_, ?_, ?_⟩
    · exact kc_S (kc_S (kc_S (kc_S (kc_S (kc_S (kr_S (kr_S (kr_S (kr_S h1 rfl) rfl) rfl) rfl) rfl) rfl) rfl) rfl) rfl) rfl
    · exact kc_Q (kc_Q (kc_Q (kc_Q (kc_Q (kc_Q (kr_Q (kr_Q (kr_Q (kr_Q h2 rfl) rfl) rfl) rfl) rfl) rfl) rfl) rfl) rfl) rfl
    · exact kc_A (kc_A (kc_A (kc_A (kc_A (kc_A (kr_A (kr_A (kr_A (kr_A h3 rfl) rfl) rfl) rfl) rfl) rfl) rfl) rfl) rfl) rfl
    · exact kc_U (kc_U (kc_U (kc_U (kc_U (kc_U (kr_U (kr_U (kr_U (kr_U h4 rfl) rfl) rfl) rfl) rfl) rfl) rfl) rfl) rfl) rfl
    · exact kc_L (kc_L (kc_L (kc_L (kc_L (kc_L (kr_L (kr_L (kr_L (kr_L h5 rfl) rfl) rfl) rfl) rfl) rfl) rfl) rfl) rfl) rfl
    · refine ⟨n' + 1, f, hd, by omega, a2, a3, by simp [se_E1], by simp [se_E1, a5], ⟨by simp [se_E1], by simp [se_E1, b2]⟩, ⟨by simp [se_E1], by simp [se_E1, b4]⟩, ⟨by simp [se_E1], by simp [se_E1, b6]⟩, fun i hi => ?_⟩
      simp only [se_E1, Prod.mk.injEq]
      by_cases c : i = n'
      · subst c; simp
      · have hi' : i < n' := by omega
        have m1 : ¬ (hd + i) % 16 = (hd + n') % 16 := sm_modne a3 h16 hi'
        have m2 : ¬ (f + i) % 64 = (f + n') % 64 := sm_modne a2 (by omega) hi'
        simp [m1, m2, a6 i hi']
    · exact kc_P (kc_P (kc_P (kc_P (kc_P (kc_P (kr_P (kr_P (kr_P (kr_P h7 rfl) rfl) rfl) rfl) rfl) rfl) rfl) rfl) rfl) rfl
/-- the first job is taken out of the three rows -/
def jp_R (R : xo_H) (f n : Nat) : xo_H := xo_sE (xo_sE R (50, 0) 42 (nI ((f + 1) % 64))) (50, 0) 43 (nI n)
theorem jb_pop {b g t p n f : Nat} {C R : xo_H} (h : sm b g t p C R) (hn : R.1 (50, 0) 43 = nI (n + 1)) (hn16 : n < 16) (hf : R.1 (50, 0) 42 = nI f) (hf64 : f < 64) : ∃ C1 C2 C3, fc_R_takeFirst (6, 0) C = some (R.1 (90, 0) f, C1) ∧ fc_R_takeFirst (8, 0) C1 = some (R.1 (91, 0) f, C2) ∧ fc_R_takeFirst (10, 0) C2 = some (R.1 (92, 0) f, C3) ∧ C1.2 = C.2 ∧ C2.2 = C.2 ∧ sm b g t p C3 (jp_R R f n) := by
  obtain ⟨h1, h2, h3, h4, h5, h6, h7⟩ := h
  obtain ⟨n', f', hd, a1, a2, a3, a4, a5, ⟨b1, b2⟩, ⟨b3, b4⟩, ⟨b5, b6⟩, a6⟩ := h6
  have hnn : n' = n + 1 := (nI_eq (by omega) (by omega)).mp (a4.symm.trans hn)
  have hff : f' = f := (nI_eq (by omega) (by omega)).mp (a5.symm.trans hf)
  subst hnn
  subst hff
  have hP := h7
  obtain ⟨⟨hp, -⟩, -, -, ⟨-, -, -⟩, -, ⟨j0, j1, j2, r6, r8, r10⟩, -⟩ := hP
  have z := a6 0 (by omega)
  simp only [Nat.add_zero, Nat.mod_eq_of_lt a3, Nat.mod_eq_of_lt a2] at z
  have t1 : fc_R_takeFirst (6, 0) C = some (R.1 (90, 0) f', xo_sE (xo_sE C (6, 0) 1 (nI ((hd + 1) % 16))) (6, 0) 2 (nI n)) := by
    rw [sm_take (cap := 16) (kd_6 0) (kd_7 0) r6 b1 b2 a3 (by decide) (by omega)]
    simp only [z.1]
  have t2 : fc_R_takeFirst (8, 0) (xo_sE (xo_sE C (6, 0) 1 (nI ((hd + 1) % 16))) (6, 0) 2 (nI n)) = some (R.1 (91, 0) f', xo_sE (xo_sE (xo_sE (xo_sE C (6, 0) 1 (nI ((hd + 1) % 16))) (6, 0) 2 (nI n)) (8, 0) 1 (nI ((hd + 1) % 16))) (8, 0) 2 (nI n)) := by
    rw [sm_take (cap := 16) (n := n) (h := hd) (kd_8 0) (kd_9 0) (by simp only [se_E2]; exact r8) (by simp [se_E1]; exact b3) (by simp [se_E1]; exact b4) a3 (by decide) (by omega)]
    simp [se_E1, z.2.1]
  have t3 : fc_R_takeFirst (10, 0) (xo_sE (xo_sE (xo_sE (xo_sE C (6, 0) 1 (nI ((hd + 1) % 16))) (6, 0) 2 (nI n)) (8, 0) 1 (nI ((hd + 1) % 16))) (8, 0) 2 (nI n)) = some (R.1 (92, 0) f', xo_sE (xo_sE (xo_sE (xo_sE (xo_sE (xo_sE C (6, 0) 1 (nI ((hd + 1) % 16))) (6, 0) 2 (nI n)) (8, 0) 1 (nI ((hd + 1) % 16))) (8, 0) 2 (nI n)) (10, 0) 1 (nI ((hd + 1) % 16))) (10, 0) 2 (nI n)) := by
    rw [sm_take (cap := 16) (n := n) (h := hd) (kd_10 0) (kd_11 0) (by simp only [se_E2]; exact r10) (by simp [se_E1]; exact b5) (by simp [se_E1]; exact b6) a3 (by decide) (by omega)]
    simp [se_E1, z.2.2]
  refine ⟨_, _, _, t1, t2, t3, rfl, rfl, ?_, ?_, ?_, ?_, ?_, ?_, ?_⟩
  · exact kc_S (kc_S (kc_S (kc_S (kc_S (kc_S (kr_S (kr_S h1 rfl) rfl) rfl) rfl) rfl) rfl) rfl) rfl
  · exact kc_Q (kc_Q (kc_Q (kc_Q (kc_Q (kc_Q (kr_Q (kr_Q h2 rfl) rfl) rfl) rfl) rfl) rfl) rfl) rfl
  · exact kc_A (kc_A (kc_A (kc_A (kc_A (kc_A (kr_A (kr_A h3 rfl) rfl) rfl) rfl) rfl) rfl) rfl) rfl
  · exact kc_U (kc_U (kc_U (kc_U (kc_U (kc_U (kr_U (kr_U h4 rfl) rfl) rfl) rfl) rfl) rfl) rfl) rfl
  · exact kc_L (kc_L (kc_L (kc_L (kc_L (kc_L (kr_L (kr_L h5 rfl) rfl) rfl) rfl) rfl) rfl) rfl) rfl
  · unfold jp_R
    refine ⟨n, (f' + 1) % 64, (hd + 1) % 16, by omega, Nat.mod_lt _ (by decide), Nat.mod_lt _ (by decide), by simp [se_E1], by simp [se_E1], ⟨by simp [se_E1], by simp [se_E1]⟩, ⟨by simp [se_E1], by simp [se_E1]⟩, ⟨by simp [se_E1], by simp [se_E1]⟩, fun i hi => ?_⟩
    have y := a6 (i + 1) (by omega)
    rw [show hd + (i + 1) = hd + 1 + i by omega, show f' + (i + 1) = f' + 1 + i by omega] at y
    rw [Nat.mod_add_mod, Nat.mod_add_mod]
    simp only [se_E1, Prod.mk.injEq]
    simp [y]
  · exact kc_P (kc_P (kc_P (kc_P (kc_P (kc_P (kr_P (kr_P h7 rfl) rfl) rfl) rfl) rfl) rfl) rfl) rfl
