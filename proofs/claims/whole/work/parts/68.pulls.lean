def rPl (R : xo_H) (r : Nat) : xo_H := if rNeed R r then rPulls R r else R
def rPb (R : xo_H) (r : Nat) : Int32 := if rNeed R r ∧ R.1 (56, 0) r = 0 then 1 else 0
theorem rPl_y {R : xo_H} {r : Nat} (h : rNeed R r) : rPl R r = rPulls R r := by unfold rPl; rw [if_pos h]
theorem rPl_n {R : xo_H} {r : Nat} (h : ¬ rNeed R r) : rPl R r = R := by unfold rPl; rw [if_neg h]
theorem rPb_y {R : xo_H} {r : Nat} (h : rNeed R r) : rPb R r = if R.1 (56, 0) r = 0 then 1 else 0 := by
  unfold rPb
  by_cases c : R.1 (56, 0) r = 0
  · rw [if_pos c, if_pos ⟨h, c⟩]
  · rw [if_neg c, if_neg fun z => c z.2]
theorem rPb_n {R : xo_H} {r : Nat} (h : ¬ rNeed R r) : rPb R r = 0 := by unfold rPb; rw [if_neg fun z => h z.1]
section GB
variable {b g t p r : Nat} {C R : xo_H}
theorem nI_pos_iff {n : Nat} (h : n < 2 ^ 31) : 0 < nI n ↔ ¬ nI n = 0 := by
  constructor
  · intro h1 h2
    rw [h2] at h1
    exact absurd h1 (by decide)
  · intro h1
    have : n ≠ 0 := fun e => h1 (by rw [e, nI_0])
    have z := nI_lt (a := 0) (b := n) (by omega) h
    rw [nI_0] at z
    exact z
theorem pl37_R (hp : R.2.1 = MP) (hr : r < 6) (h7 : rB01 (R.1 (57, 0) r)) (h6 : rB01 (R.1 (56, 0) r)) : fb_M_pulls_37 (50, 0) (nI r) R = some (if R.1 (56, 0) r = 0 then 1 else 0, rPulls R r) := by
  unfold fb_M_pulls_37 fb_M_pulls_65 fb_M_pulls_80 rPulls
  have z10 : ¬ (1 : Int32) = 0 := by decide
  rw [mp_7 hp, mp_7 hp]
  simp only [ml_57 hr]
  rcases h7 with a | a <;> rcases h6 with c | c
  · rw [a, if_pos rfl, mp_6 hp]
    simp only [ml_56 hr, c, if_true, mq0_57 hr]
    rw [se_id a, mp_6 hp]
    simp only [ml_56 hr, c, if_true]
    rw [mp_6 hp]
    simp only [mq1_56 hr, se_gb1]
  · rw [a, if_pos rfl, mp_6 hp]
    simp only [ml_56 hr, c, z10, if_false, mq1_57 hr]
    rw [mp_6 (by exact hp)]
    simp only [ml_56 hr]
    rw [se_nf (m := (56, 0)) (by simp), c, if_neg z10, mp_6 (by exact hp)]
    simp only [mq1_56 hr, se_gb0]
    rw [se_id (H := xo_sE R (57, 0) r 1) (by rw [se_nf (by simp)]; exact c)]
  · rw [a, if_neg z10]
    simp only [mq1_57 hr]
    rw [se_id a, mp_6 hp]
    simp only [ml_56 hr, c, if_true]
    rw [mp_6 hp]
    simp only [mq1_56 hr, se_gb1]
  · rw [a, if_neg z10]
    simp only [mq1_57 hr]
    rw [se_id a, mp_6 hp]
    simp only [ml_56 hr, c, z10, if_false]
    rw [mp_6 hp]
    simp only [mq1_56 hr, se_gb0]
    rw [se_id c]
theorem pl_R (hp : R.2.1 = MP) (hr : r < 6) (h7 : rB01 (R.1 (57, 0) r)) (h6 : rB01 (R.1 (56, 0) r)) {n : Nat} (hn : R.1 (60, 0) r = nI n) (h16 : n ≤ 16) : fc_M_pulls (50, 0) (nI r) R = some (rPb R r, rPl R r) := by
  have p37 := pl37_R hp hr h7 h6
  unfold fc_M_pulls
  rw [mp_1 hp]
  simp only [ml_51 hr]
  by_cases c1 : R.1 (51, 0) r = 0
  · rw [if_pos c1, mp_5 hp]
    simp only [ml_55 hr]
    by_cases c2 : R.1 (55, 0) r = 0
    · rw [if_pos c2, mp_12 hp]
      simp only [ml_62 hr, se_gf (kd_50 0), se_pf (kd_50 0), se_cl (kd_50 0), room_R hp hr hn h16, Option.bind_some, se_gb0]
      by_cases c3 : R.1 (62, 0) r = 0
      · rw [if_pos c3]
        by_cases c4 : 0 < rRoom R r
        · have hN : rNeed R r := ⟨c1, c2, Or.inr c4⟩
          rw [if_pos c4, p37, rPl_y hN, rPb_y hN]
        · have hN : ¬ rNeed R r := fun z => z.2.2.elim (fun y => y c3) c4
          rw [if_neg c4, rPl_n hN, rPb_n hN]
      · have hN : rNeed R r := ⟨c1, c2, Or.inl c3⟩
        rw [if_neg c3, p37, rPl_y hN, rPb_y hN]
    · have hN : ¬ rNeed R r := fun z => c2 z.2.1
      rw [if_neg c2, rPl_n hN, rPb_n hN, se_gb0]
  · have hN : ¬ rNeed R r := fun z => c1 z.1
    rw [if_neg c1, rPl_n hN, rPb_n hN, se_gb0]
theorem ig_C (h : sm b g t p C R) : fc_G_isGoing (20, r) C = some (if R.1 (51, 0) r = 0 ∧ R.1 (55, 0) r = 0 then 1 else 0, C) := by
  have q4 := sm_get h 20 4 51 r (by decide)
  have q7 := sm_get h 20 7 55 r (by decide)
  unfold fc_G_isGoing
  simp only [se_gf (kd_20 r), q4, q7, se_gb0, se_gb1]
  by_cases c1 : R.1 (51, 0) r = 0
  · by_cases c2 : R.1 (55, 0) r = 0
    · rw [if_pos c1, if_pos c2, if_pos ⟨c1, c2⟩]
    · rw [if_pos c1, if_neg c2, if_neg (fun z => c2 z.2)]
  · rw [if_neg c1, if_neg (fun z => c1 z.1)]
theorem pl32_C (h : sm b g t p C R) (hr : r < g) : ∃ C', fb_G_startsPulling_32 (20, r) 1 C = some (if R.1 (56, 0) r = 0 then 1 else 0, C') ∧ sm b g t p C' (rPulls R r) := by
  have q8 := sm_get h 20 8 56 r (by decide)
  have z10 : ¬ (1 : Int32) = 0 := by decide
  unfold fb_G_startsPulling_32 fb_G_startsPulling_51 rPulls
  simp only [se_gf (kd_20 r), se_pz1 (kd_20 r), q8, se_gb0, se_gb1, z10, if_false]
  by_cases c : R.1 (56, 0) r = 0
  · rw [if_pos c, if_pos c, if_pos c]
    exact ⟨_, rfl, sm_set h 20 8 56 r 1 (by decide) rfl rfl⟩
  · rw [if_neg c, if_neg c, if_neg c]
    exact ⟨_, rfl, sm_set h 20 9 57 r 1 (by decide) rfl rfl⟩
theorem pl_both (h : sm b g t p C R) (hr : r < g) (h7 : rB01 (R.1 (57, 0) r)) (h6 : rB01 (R.1 (56, 0) r)) : ∃ C', fc_G_startsPulling (20, r) C = some (rPb R r, C') ∧ fc_M_pulls (50, 0) (nI r) R = some (rPb R r, rPl R r) ∧ sm b g t p C' (rPl R r) := by
  have hr6 : r < 6 := by have := sm_le h; omega
  have hp := sm_MP h
  obtain ⟨n, n16, n1, n2⟩ := sm_qn h r
  obtain ⟨m, m8, m1, m2⟩ := sm_an h r
  obtain ⟨-, p0, p1, p2, p3, p4, p5, p6⟩ := sm_ptr h hr
  have hroom : C.1 (21, r) 3 = rRoom R r := (h.2.1 r).2
  have hR := pl_R hp hr6 h7 h6 n1 n16
  obtain ⟨C', x1, x2⟩ := pl32_C h hr
  have z10 : ¬ (1 : Int32) = 0 := by decide
  have no : ∀ H : xo_H, fb_G_startsPulling_32 (20, r) 0 H = some (0, H) := fun H => by
    unfold fb_G_startsPulling_32 fb_G_startsPulling_51
    simp only [if_true, se_gb0]
  unfold fc_G_startsPulling
  simp only [se_cl (kd_20 r), ig_C h, Option.bind_some]
  by_cases c : R.1 (51, 0) r = 0 ∧ R.1 (55, 0) r = 0
  · rw [if_pos c, if_neg z10]
    simp only [se_gp (kd_20 r), p3, se_gf (kd_24 r), m2, p1, se_gf (kd_21 r), hroom]
    by_cases c3 : R.1 (62, 0) r = 0
    · have c3' : ¬ 0 < nI m := fun z => (nI_pos_iff (by omega)).mp z (m1.symm.trans c3)
      rw [if_neg c3']
      by_cases c4 : 0 < rRoom R r
      · have hN : rNeed R r := ⟨c.1, c.2, Or.inr c4⟩
        rw [if_pos c4, x1]
        rw [rPl_y hN, rPb_y hN] at hR ⊢
        exact ⟨C', rfl, hR, x2⟩
      · have hN : ¬ rNeed R r := fun z => z.2.2.elim (fun y => y c3) c4
        rw [if_neg c4, no]
        rw [rPl_n hN, rPb_n hN] at hR ⊢
        exact ⟨C, rfl, hR, h⟩
    · have c3' : 0 < nI m := (nI_pos_iff (by omega)).mpr fun z => c3 (m1.trans z)
      have hN : rNeed R r := ⟨c.1, c.2, Or.inl c3⟩
      rw [if_pos c3', x1]
      rw [rPl_y hN, rPb_y hN] at hR ⊢
      exact ⟨C', rfl, hR, x2⟩
  · have hN : ¬ rNeed R r := fun z => c ⟨z.1, z.2.1⟩
    rw [if_neg c, if_pos rfl, no]
    rw [rPl_n hN, rPb_n hN] at hR ⊢
    exact ⟨C, rfl, hR, h⟩
end GB
