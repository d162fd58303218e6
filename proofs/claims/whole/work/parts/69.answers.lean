/-- what waits is answered: events of the kind for reads, then none waits -/
def rAL (kd er : Int32) (r : Nat) : Nat → Nat → xo_H → xo_H
  | 0, _, R => xo_sE R (62, 0) r 0
  | d + 1, k, R => rAL kd er r d (k + 1) (if 0 < R.1 (61, 0) (8 * r + k) then hE R kd (nI r) (R.1 (61, 0) (8 * r + k)) er else R)
def rCP (R : xo_H) (r : Nat) : xo_H := rAL 7 0 r (R.1 (62, 0) r).toNatClampNeg 0 (xo_sE R (51, 0) r 1)
def rFP (R : xo_H) (r : Nat) (er : Int32) : xo_H := rAL 8 er r (R.1 (62, 0) r).toNatClampNeg 0 (xo_sE (xo_sE (xo_sE R (60, 0) r 0) (51, 0) r 2) (52, 0) r er)
theorem rAL_ne {kd er : Int32} {r : Nat} {m : xo_N} (h : (m.1 == 50 || m.1 == 93 || m.1 == 94 || m.1 == 95) = false) (h1 : ¬ m = (62, 0)) : ∀ (d k : Nat) (R : xo_H), (rAL kd er r d k R).1 m = R.1 m
  | 0, k, R => by rw [rAL, se_ne h1]
  | d + 1, k, R => by
    rw [rAL, rAL_ne h h1 d (k + 1)]
    split
    · rw [hE_ne h]
    · rfl
theorem rAL_2 {kd er : Int32} {r : Nat} : ∀ (d k : Nat) (R : xo_H), (rAL kd er r d k R).2 = R.2
  | 0, k, R => rfl
  | d + 1, k, R => by
    rw [rAL, rAL_2 d (k + 1)]
    split <;> rfl
theorem sm_en0 {w : Int32} : sm_en w = 0 ↔ ¬ 0 < w := by
  unfold sm_en
  constructor
  · intro h1 h2
    rw [if_pos h2] at h1
    rw [h1] at h2
    exact absurd h2 (by decide)
  · intro h1
    rw [if_neg h1]
theorem sm_en1 {w : Int32} (h : 0 < w) : sm_en w = w := by unfold sm_en; rw [if_pos h]
section GB
variable {g t p r : Nat}
theorem al_C {kd er : Int32} (hr : r < g) : ∀ (d k b : Nat) (C R : xo_H) (fu : Nat), sm b g t p C R → b + d < 2 ^ 30 → R.1 (62, 0) r = nI (k + d) → k + d ≤ 8 → d < fu → R.1 (52, 0) r = er → ∃ C', fb_G_answerAll_18 fu (20, r) kd (nI k) C = some C' ∧ sm (b + d) g t p C' (rAL kd er r d k R)
  | 0, k, b, C, R, fu + 1, h, hb, hm, hk, _, he => by
    obtain ⟨-, p0, p1, p2, p3, p4, p5, p6⟩ := sm_ptr h hr
    obtain ⟨m, m8, m1, m2⟩ := sm_an h r
    have hmk : m = k + 0 := sm_nIinj (m1.symm.trans hm) (by omega) (by omega)
    obtain ⟨C', c1, c2⟩ := ac_sm (i := r) h
    rw [fb_G_answerAll_18, rAL]
    simp only [se_gp (kd_20 r), p3, se_gf (kd_24 r), m2, se_cl (kd_24 r), c1, Option.bind_some]
    rw [hmk, if_neg (nI_nlt (by omega) (by omega))]
    exact ⟨C', rfl, c2⟩
  | d + 1, k, b, C, R, fu + 1, h, hb, hm, hk, hf, he => by
    obtain ⟨-, p0, p1, p2, p3, p4, p5, p6⟩ := sm_ptr h hr
    obtain ⟨n, hd, a1, a2, a3, a4, a5, a6⟩ := h.2.2.1 r
    have hnk : n = k + (d + 1) := sm_nIinj (a5.symm.trans hm) (by omega) (by omega)
    subst hnk
    have q5 := sm_get h 20 5 52 r (by decide)
    rw [he] at q5
    have e25 : C.1 ((24, r).1 + 1, (24, r).2) ((hd + k) % 8) = sm_en (R.1 (61, 0) (8 * r + k)) := a6 k (by omega)
    rw [fb_G_answerAll_18, rAL]
    simp only [se_gp (kd_20 r), se_gf (kd_20 r), p3, se_gf (kd_24 r), a3, se_cl (kd_24 r), p2, p0, q5, se_cl (kd_1 0)]
    rw [if_pos (nI_lt (by omega) (by omega)), sm_at (kd_24 r) (kd_25 r) p6 a3 a4 a2 (by omega) (by decide) (by omega), e25]
    simp only [Option.bind_some, nI_1]
    by_cases c : 0 < R.1 (61, 0) (8 * r + k)
    · rw [if_neg fun z => sm_en0.mp z c, if_pos c, sm_en1 c]
      obtain ⟨E1, n1, n2, n3⟩ := hE_both h (by omega) kd (nI r) (R.1 (61, 0) (8 * r + k)) er
      rw [p2, p0, q5]
      simp only [se_cl (kd_1 0), n1, Option.bind_some]
      obtain ⟨C', x1, x2⟩ := al_C (kd := kd) (er := er) hr d (k + 1) (b + 1) E1 _ fu n3 (by omega) (by rw [hE_ne rfl, hm]; congr 1; omega) (by omega) (by omega) (by rw [hE_ne rfl]; exact he)
      exact ⟨C', x1, sm_more x2 (by omega)⟩
    · rw [if_pos (sm_en0.mpr c), if_neg c]
      obtain ⟨C', x1, x2⟩ := al_C (kd := kd) (er := er) hr d (k + 1) b C R fu h (by omega) (by rw [hm]; congr 1; omega) (by omega) (by omega) he
      exact ⟨C', x1, sm_more x2 (by omega)⟩
theorem cl_R (hr : r < 6) : ∀ (d k b : Nat) (C R : xo_H) (fu : Nat), sm b g t p C R → b + d < 2 ^ 30 → R.1 (62, 0) r = nI (k + d) → k + d ≤ 8 → d < fu → fb_M_closePlain_9 fu (50, 0) (nI r) (nI k) R = some (rAL 7 0 r d k R)
  | 0, k, b, C, R, fu + 1, h, hb, hm, hk, _ => by
    have hp := sm_MP h
    rw [fb_M_closePlain_9, rAL, mp_12 hp]
    simp only [ml_62 hr, hm]
    rw [if_neg (nI_nlt (by omega) (by omega)), mp_12 hp]
    simp only [mq_62 hr]
  | d + 1, k, b, C, R, fu + 1, h, hb, hm, hk, hf => by
    have hp := sm_MP h
    rw [fb_M_closePlain_9, rAL, mp_12 hp]
    simp only [ml_62 hr, hm]
    rw [if_pos (nI_lt (by omega) (by omega)), mp_11 hp, ix_8, nI_add, ml_61 (by omega), nI_1]
    by_cases c : 0 < R.1 (61, 0) (8 * r + k)
    · rw [if_pos c, if_pos c]
      obtain ⟨E1, n1, n2, n3⟩ := hE_both h (by omega) 7 (nI r) (R.1 (61, 0) (8 * r + k)) 0
      simp only [se_gf (kd_50 0), se_pf (kd_50 0), se_cl (kd_50 0), n2, Option.bind_some]
      exact cl_R hr d (k + 1) (b + 1) E1 _ fu n3 (by omega) (by rw [hE_ne rfl, hm]; congr 1; omega) (by omega) (by omega)
    · rw [if_neg c, if_neg c]
      exact cl_R hr d (k + 1) b C R fu h (by omega) (by rw [hm]; congr 1; omega) (by omega) (by omega)
theorem fl_R {er : Int32} (hr : r < 6) : ∀ (d k b : Nat) (C R : xo_H) (fu : Nat), sm b g t p C R → b + d < 2 ^ 30 → R.1 (62, 0) r = nI (k + d) → k + d ≤ 8 → d < fu → (∀ j, j < k + d → ¬ R.1 (61, 0) (8 * r + j) = -10) → fb_M_failPlain_33 fu (50, 0) (nI r) er (nI k) R = some (rAL 8 er r d k R)
  | 0, k, b, C, R, fu + 1, h, hb, hm, hk, _, _ => by
    have hp := sm_MP h
    rw [fb_M_failPlain_33, rAL, mp_12 hp]
    simp only [ml_62 hr, hm]
    rw [if_neg (nI_nlt (by omega) (by omega)), mp_12 hp]
    simp only [mq_62 hr]
  | d + 1, k, b, C, R, fu + 1, h, hb, hm, hk, hf, hz => by
    have hp := sm_MP h
    rw [fb_M_failPlain_33, rAL, mp_12 hp]
    simp only [ml_62 hr, hm]
    rw [if_pos (nI_lt (by omega) (by omega)), mp_11 hp, ix_8, nI_add, ml_61 (by omega), nI_1]
    by_cases c : 0 < R.1 (61, 0) (8 * r + k)
    · rw [if_pos c, if_pos c]
      obtain ⟨E1, n1, n2, n3⟩ := hE_both h (by omega) 8 (nI r) (R.1 (61, 0) (8 * r + k)) er
      simp only [se_gf (kd_50 0), se_pf (kd_50 0), se_cl (kd_50 0), n2, Option.bind_some]
      exact fl_R hr d (k + 1) (b + 1) E1 _ fu n3 (by omega) (by rw [hE_ne rfl, hm]; congr 1; omega) (by omega) (by omega) (fun j hj => by rw [hE_ne rfl]; exact hz j (by omega))
    · rw [if_neg c, if_neg c, if_neg (hz k (by omega))]
      exact fl_R hr d (k + 1) b C R fu h (by omega) (by rw [hm]; congr 1; omega) (by omega) (by omega) (fun j hj => hz j (by omega))
theorem cp_both {b : Nat} {C R : xo_H} (h : sm b g t p C R) (hb : b + 10 < 2 ^ 30) (hr : r < g) (he : R.1 (52, 0) r = 0) : ∃ C', fc_G_answerAll (20, r) (xo_sE C (20, r) 4 1) = some C' ∧ fc_M_closePlain (50, 0) (nI r) R = some (rCP R r) ∧ sm (b + 8) g t p C' (rCP R r) := by
  have hr6 : r < 6 := by have := sm_le h; omega
  have hp := sm_MP h
  have h1 := sm_set h 20 4 51 r 1 (by decide) rfl rfl
  obtain ⟨m, m8, m1, m2⟩ := sm_an h r
  have m1' : (xo_sE R (51, 0) r 1).1 (62, 0) r = nI (0 + m) := by rw [se_ne (by simp), Nat.zero_add]; exact m1
  obtain ⟨C', x1, x2⟩ := al_C (kd := 7) (er := 0) hr m 0 b _ _ 1000 h1 (by omega) m1' (by omega) (by omega) (by rw [se_ne (by simp)]; exact he)
  have y := cl_R hr6 m 0 b _ _ 1000 h1 (by omega) m1' (by omega) (by omega)
  have er : rCP R r = rAL 7 0 r m 0 (xo_sE R (51, 0) r 1) := by unfold rCP; rw [m1, nI_clamp (by omega)]
  rw [er]
  refine ⟨C', ?_, ?_, sm_more x2 (by omega)⟩
  · unfold fc_G_answerAll
    simp only [se_gf (kd_20 r), xo_sE_eq]
    rw [if_neg (by decide)]
    exact x1
  · unfold fc_M_closePlain
    rw [mp_1 hp]
    simp only [mq_51 hr6]
    exact y
/-- failWith and failPlain, of an open giver whose requests are reads' or a pipe's -/
theorem fp_both {b : Nat} {C R : xo_H} {er : Int32} (h : sm b g t p C R) (hb : b + 10 < 2 ^ 30) (hr : r < g) (ho : R.1 (51, 0) r = 0) : ∃ C', fc_G_failWith (20, r) er C = some C' ∧ ((∀ j m, R.1 (62, 0) r = nI m → m ≤ 8 → j < m → ¬ R.1 (61, 0) (8 * r + j) = -10) → fc_M_failPlain (50, 0) (nI r) er R = some (rFP R r er)) ∧ sm (b + 8) g t p C' (rFP R r er) := by
  have hr6 : r < 6 := by have := sm_le h; omega
  have hp := sm_MP h
  have q4 := sm_get h 20 4 51 r (by decide)
  obtain ⟨-, p0, p1, p2, p3, p4, p5, p6⟩ := sm_ptr h hr
  obtain ⟨C1, c1, c2⟩ := qc_sm h hr
  have h2 := sm_set c2 20 4 51 r 2 (by decide) rfl rfl
  have h3 := sm_set h2 20 5 52 r er (by decide) rfl rfl
  obtain ⟨m, m8, m1, m2⟩ := sm_an h r
  have m1' : (xo_sE (xo_sE (xo_sE R (60, 0) r 0) (51, 0) r 2) (52, 0) r er).1 (62, 0) r = nI (0 + m) := by rw [se_ne (by simp), se_ne (by simp), se_ne (by simp), Nat.zero_add]; exact m1
  obtain ⟨C', x1, x2⟩ := al_C (kd := 8) (er := er) hr m 0 b _ _ 1000 h3 (by omega) m1' (by omega) (by omega) (xo_sE_eq _ _ _ _)
  have e1 : rFP R r er = rAL 8 er r m 0 (xo_sE (xo_sE (xo_sE R (60, 0) r 0) (51, 0) r 2) (52, 0) r er) := by unfold rFP; rw [m1, nI_clamp (by omega)]
  rw [e1]
  refine ⟨C', ?_, fun hz => ?_, sm_more x2 (by omega)⟩
  · unfold fc_G_failWith fc_G_answerAll
    simp only [se_gf (kd_20 r), q4, ho, if_true, se_gp (kd_20 r), p1, se_cl (kd_21 r), c1, Option.bind_some, se_pf (kd_20 r), se_cl (kd_20 r)]
    have e4 : (xo_sE (xo_sE C1 (20, r) 4 2) (20, r) 5 er).1 (20, r) 4 = 2 := by rw [se_nf (by simp), xo_sE_eq]
    rw [e4, if_pos rfl]
    unfold fb_G_answerAll_15
    rw [show (0 : Int32) = nI 0 from rfl, x1]
    rfl
  · unfold fc_M_failPlain
    rw [mp_1 hp]
    simp only [ml_51 hr6]
    rw [if_pos ho, mp_10 hp]
    simp only [mq_60 hr6]
    rw [mp_1 (by exact hp)]
    simp only [mq_51 hr6]
    rw [mp_2 (by exact hp)]
    simp only [mq_52 hr6]
    exact fl_R hr6 m 0 b _ _ 1000 h3 (by omega) m1' (by omega) (by omega) (fun j hj => by
      rw [se_ne (by simp), se_ne (by simp), se_ne (by simp)]
      exact hz j m m1 m8 (by omega))
end GB
