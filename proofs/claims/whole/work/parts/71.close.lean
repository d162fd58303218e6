/-- whose requests wait at a giver: of a parting's its own alone -/
def iR (g : Nat) (R : xo_H) : Prop := ∀ r, r < g → (R.1 (65, 0) r = -1 → ∀ j m, R.1 (62, 0) r = nI m → m ≤ 8 → j < m → ¬ R.1 (61, 0) (8 * r + j) = -10) ∧ (¬ R.1 (65, 0) r = -1 → R.1 (62, 0) r = 0 ∨ (R.1 (62, 0) r = 1 ∧ R.1 (61, 0) (8 * r) = -10))
theorem rCP_iF {R : xo_H} {r : Nat} (h : iF R) (hs : ¬ R.1 (51, 0) r = 2) : iF (rCP R r) := by
  intro q hq
  rw [rCP_ne rfl (by simp) (by simp)]
  rw [rCP_51] at hq
  by_cases e : q = r
  · subst e; exact h q hs
  · rw [se_nf (by simp [e])] at hq
    exact h q hq
def rClose (R : xo_H) (r : Nat) : xo_H := if ¬ R.1 (65, 0) r = -1 ∧ ¬ R.1 (62, 0) r = 0 then rEB (xo_sE (rCP R r) (67, 0) r 0) (R.1 (65, 0) r).toNatClampNeg else rCP R r
section GB
variable {b g t p r : Nat} {C R : xo_H}
theorem close0_R (hp : R.2.1 = MP) (hr : r < 6) (hc : fc_M_closePlain (50, 0) (nI r) R = some (rCP R r)) (hn : ¬ (0 < R.1 (62, 0) r ∧ R.1 (61, 0) (8 * r) = -10)) : fc_M_close (50, 0) (nI r) R = some (rCP R r) := by
  have k : fb_M_close_28 (50, 0) (nI r) 0 R = some (rCP R r) := by
    unfold fb_M_close_28 fb_M_close_48
    rw [mp_12 hp, if_pos rfl, mp_12 hp]
    simp only [ml_62 hr, mq_62 hr]
    rw [se_id rfl]
    simp only [se_gf (kd_50 0), se_pf (kd_50 0), se_cl (kd_50 0), hc, Option.bind_some, if_true]
  unfold fc_M_close
  rw [mp_12 hp]
  simp only [ml_62 hr]
  by_cases c : 0 < R.1 (62, 0) r
  · rw [if_pos c, mp_11 hp, ix_8, ml_61 (by omega), if_neg fun z => hn ⟨c, z⟩]
    exact k
  · rw [if_neg c]
    exact k
theorem cg_both (h : sm b g t p C R) (hb : b + 60 < 2 ^ 30) (hF : iF R) (hR : iR g R) (hr : r < g) (hs : ¬ R.1 (51, 0) r = 2) : ∃ C', fc_K_closeGiver (0, 0) (some (20, r)) C = some C' ∧ fc_M_close (50, 0) (nI r) R = some (rClose R r) ∧ sm (b + 24) g t p C' (rClose R r) := by
  have hp := sm_MP h
  have hle := sm_le h
  have hr6 : r < 6 := by omega
  have z10 : ¬ (1 : Int32) = 0 := by decide
  obtain ⟨C1, a1, a2, a3⟩ := cp_both h (by omega) hr (hF r hs)
  obtain ⟨-, p0, p1, p2, p3, p4, p5, p6⟩ := sm_ptr h hr
  obtain ⟨m, m8, m1, m2⟩ := sm_an h r
  have k0 : fb_K_closeGiver_22 (0, 0) (some (20, r)) 0 C = some C1 := by
    unfold fb_K_closeGiver_22
    simp only [se_pf (kd_20 r), se_cl (kd_20 r), a1, Option.bind_some, if_true]
  unfold fc_K_closeGiver
  simp only [se_gp (kd_20 r)]
  by_cases c : R.1 (65, 0) r = -1
  · rw [sm_nopart h hr c, if_pos rfl, k0]
    have er : rClose R r = rCP R r := by unfold rClose; rw [if_neg fun z => z.1 c]
    rw [er]
    refine ⟨C1, rfl, close0_R hp hr6 a2 fun z => ?_, sm_more a3 (by omega)⟩
    have hm : 0 < m := by
      rcases Nat.eq_zero_or_pos m with y | y
      · subst y; rw [m1, nI_0] at z; exact absurd z.1 (by decide)
      · exact y
    exact (hR r hr).1 c 0 m m1 m8 hm z.2
  · obtain ⟨f, f1, f2, f3, f4, f5, f6, f7, f8, f9, f10⟩ := sm_part h hr c
    rw [f4, if_neg (by simp), p3]
    simp only [se_gf (kd_24 r), m2]
    rcases (hR r hr).2 c with w0 | ⟨w1, w2⟩
    · have hm0 : nI m = 0 := m1.symm.trans w0
      rw [hm0, if_neg (by decide), k0]
      have er : rClose R r = rCP R r := by unfold rClose; rw [if_neg fun z => z.2 w0]
      rw [er]
      exact ⟨C1, rfl, close0_R hp hr6 a2 (fun z => by rw [w0] at z; exact absurd z.1 (by decide)), sm_more a3 (by omega)⟩
    · have hm1 : nI m = 1 := m1.symm.trans w1
      rw [hm1, if_pos (by decide)]
      have pt1 : ¬ (rCP R r).1 (65, 0) r = -1 := by rw [rCP_ne rfl (by simp) (by simp)]; exact c
      obtain ⟨f', C2, e1, e2, e3, e4, e5⟩ := eb_both a3 (by omega) (rCP_iF hF hs) hr pt1
      rw [rCP_ne rfl (by simp) (by simp)] at e1
      obtain ⟨f'', g1, g2, g3, g4, -⟩ := sm_part a3 hr pt1
      have er : rClose R r = rEB (xo_sE (rCP R r) (67, 0) r 0) f' := by
        unfold rClose
        rw [if_pos ⟨c, by rw [w1]; decide⟩, e1, nI_clamp (by omega)]
      rw [er]
      refine ⟨C2, ?_, ?_, sm_more e5 (by omega)⟩
      · unfold fb_K_closeGiver_22
        simp only [se_pf (kd_20 r), se_cl (kd_20 r), a1, Option.bind_some, z10, if_false, se_gp (kd_20 r), g4, se_cl (kd_0 0), e3]
      · unfold fc_M_close fb_M_close_28 fb_M_close_48
        rw [mp_12 hp]
        simp only [ml_62 hr6]
        rw [w1, if_pos (by decide), mp_11 hp, ix_8, ml_61 (by omega), w2, if_pos rfl, mp_12 hp, if_neg z10]
        simp only [mq_62 hr6, se_gf (kd_50 0), se_pf (kd_50 0), se_cl (kd_50 0)]
        have hcp : fc_M_closePlain (50, 0) (nI r) (xo_sE R (62, 0) r 0) = some (rCP R r) := by
          unfold fc_M_closePlain
          rw [mp_1 (by exact hp)]
          simp only [mq_51 hr6]
          rw [fb_M_closePlain_9, mp_12 (by exact hp)]
          simp only [ml_62 hr6]
          rw [se_ne (m := (62, 0)) (by simp), xo_sE_eq, if_neg (by decide), mp_12 (by exact hp)]
          simp only [mq_62 hr6]
          unfold rCP
          rw [w1, show (1 : Int32).toNatClampNeg = 1 from by decide, rAL, rAL, se_ne (m := (61, 0)) (by simp), Nat.add_zero, w2, if_neg (by decide), se_over (by simp)]
        rw [hcp]
        simp only [Option.bind_some, z10, if_false]
        have hp1 : (rCP R r).2.1 = MP := sm_MP a3
        rw [mp_17 hp1]
        simp only [mq0_67 hr6, e4, Option.bind_some]
end GB
