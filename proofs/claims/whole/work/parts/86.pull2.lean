/-- what stays at the parted giver k while it is read for -/
def lK (k : Nat) (R R' : xo_H) : Prop := R'.1 (67, 0) k = R.1 (67, 0) k ∧ R'.1 (62, 0) k = R.1 (62, 0) k ∧ (has R' 2 k ↔ has R 2 k)
theorem lK_rfl {k : Nat} {R : xo_H} : lK k R R := ⟨rfl, rfl, Iff.rfl⟩
theorem lK_tr {k : Nat} {R R' R'' : xo_H} (h : lK k R R') (h' : lK k R' R'') : lK k R R'' := ⟨h'.1.trans h.1, h'.2.1.trans h.2.1, h'.2.2.trans h.2.2⟩
def llK (a c : Nat) : Bool := lJ a c || a == 62 || a == 67
theorem lK_agr {k : Nat} {R R' : xo_H} (h : agr llK R R') : lK k R R' := ⟨h (67, 0) k rfl, h (62, 0) k rfl, ka_has (agr_le h fun a c e => by unfold llK; rw [e]; rfl) 2 k⟩
section PU
variable {b g t p q k r : Nat} {C R : xo_H}
/-- the end of a branch's pull: its PULLED job -/
theorem pu_60 (h : SI b g t p q C R) (hr : r < g) (h64 : ¬ R.1 (64, 0) r = 1) (h56 : R.1 (56, 0) r = 1) : ∃ C' R', fb_K_pullIfNeeded_60 (0, 0) (some (20, r)) C = some C' ∧ fb_M_pull_55 (50, 0) (nI r) R = some R' ∧ SI b g t p q C' R' ∧ agr kG R R' ∧ ∀ k, lK k R R' := by
  have hle := sm_le h.1
  have hr6 : r < 6 := by omega
  obtain ⟨-, p0, -⟩ := sm_ptr h.1 hr
  obtain ⟨f, n, C', a1, a2, a3, a4, a5, a6, a7⟩ := ja_1 (x := -1) h hr h64 h56
  have hp' : (jb_R R f n 1 (nI r) (-1)).2.1 = MP := by exact (sm_MP h.1 : R.2.1 = MP)
  obtain ⟨n', f0, hd, c1, c2, c3, c4, c5, -⟩ := h.1.2.2.2.2.2.1
  refine ⟨C', _, ?_, ?_, a7, agr_tr (agr_set rfl) (jb_agr fun _ => rfl), fun k => ⟨?_, ?_, ?_⟩⟩
  · unfold fb_K_pullIfNeeded_60
    rw [se_gp (kd_0 0), (sm_K0 h.1).2, se_gf (kd_20 r), p0, se_cl (kd_5 0), a3]
    rfl
  · unfold fb_M_pull_55
    rw [se_cl (kd_50 0), a4, Option.bind_some, mp_14 hp', mq1_64 hr6, a6]
  · rw [jb_agr (L := fun a _ => a == 67) (fun _ => rfl) (67, 0) k rfl, se_ne (by simp)]
  · rw [jb_agr (L := fun a _ => a == 62) (fun _ => rfl) (62, 0) k rfl, se_ne (by simp)]
  · have j1 := a4
    have e : jb_R R f n 1 (nI r) (-1) = jb_R R f0 n' 1 (nI r) (-1) := by
      have := jb_job (k := 1) (w := nI r) (x := -1) (sm_MP h.1) c5 c4 c2 (by omega)
      rw [a4] at this
      exact Option.some.inj this
    rw [← a6, ka_has (agr_set rfl), e, jb_has c5 c4 c2 (by omega)]
    exact ⟨fun z => z.elim id fun z => absurd z.1 (by decide), Or.inl⟩
theorem pull_SI (h : SI b g t p q C R) (hb : b + 300 < 2 ^ 30) (hr : r < g) : ∃ C' R', fc_K_pullIfNeeded (0, 0) (some (20, r)) C = some C' ∧ fc_M_pull (50, 0) (nI r) R = some R' ∧ SI (b + 30) g t p q C' R' ∧ agr kG R R' ∧ (∀ k, k < g → R.1 (66, 0) r = nI k → R.1 (67, 0) k = 1 → lK k R R') ∧ (R.1 (62, 0) r = 0 → R'.1 (62, 0) r = 0) := by
  have hp := sm_MP h.1
  have hle := sm_le h.1
  have hr6 : r < 6 := by omega
  have z10 : ¬ (1 : Int32) = 0 := by decide
  obtain ⟨C1, x1, x2, x3, x4, x5⟩ := pr_SI h (by omega) hr
  have pM : fc_M_pulls (50, 0) (nI r) R = some (rPb R r, rPl R r) := by
    obtain ⟨n, n16, n1, n2⟩ := sm_qn h.1 r
    exact pl_R hp hr6 (h.2.2.2.1 r).2 (h.2.2.2.1 r).1 n1 n16
  have z1 := rPl_Inv h.2 hr
  have s1 : SI b g t p q C1 (rPl R r) := ⟨x2, z1⟩
  rcases sm_orig h.1 hr with ⟨o1, o2⟩ | ⟨k, o1, o2, o3, o4, o5, f, o6, o7⟩
  · have M : fc_M_pull (50, 0) (nI r) R = some (rPR R r) := by
      unfold fc_M_pull
      rw [se_cl (kd_50 0), ib_R hp hr6, Option.bind_some, if_pos (show R.1 (66, 0) r < 0 by rw [o1]; decide), if_pos rfl, se_cl (kd_50 0), x3]
      rfl
    have no : ∀ k, k < g → R.1 (66, 0) r = nI k → R.1 (67, 0) k = 1 → lK k R (rPR R r) := fun k hk e _ => by
      rw [o1] at e
      exact absurd e (nI_m1 (by omega))
    have kk : agr kG R (rPR R r) := rPR_agr rfl rfl rfl fun _ => rfl
    by_cases c : rPb R r = 0
    · refine ⟨C1, _, ?_, M, ⟨sm_more (by rw [x4 c]; exact x2) (by omega), rPR_Inv h.2 hr⟩, kk, no, fun e => by rw [rPR_agr (L := fun a _ => a == 62) rfl rfl rfl (fun _ => rfl) (62, 0) r rfl]; exact e⟩
      unfold fc_K_pullIfNeeded
      rw [se_cl (kd_20 r), x1, Option.bind_some]
      simp only [c, if_true]
    · obtain ⟨C2, y1, y2⟩ := x5 c
      obtain ⟨-, p0, -⟩ := sm_ptr x2 hr
      have o2' : C1.2.1 (20, r) 11 = none := by
        rcases sm_orig x2 hr with ⟨y1, y2⟩ | ⟨k, y1, y2, -⟩
        · exact y2
        · rw [rPl_agr (L := kG) rfl rfl (66, 0) r rfl, o1] at y2
          exact absurd y2 (nI_m1 (by omega))
      refine ⟨C2, _, ?_, M, ⟨sm_more y2 (by omega), rPR_Inv h.2 hr⟩, kk, no, fun e => by rw [rPR_agr (L := fun a _ => a == 62) rfl rfl rfl (fun _ => rfl) (62, 0) r rfl]; exact e⟩
      unfold fc_K_pullIfNeeded
      rw [se_cl (kd_20 r), x1, Option.bind_some]
      simp only [c, if_false]
      rw [se_gp (kd_20 r), o2', if_pos rfl, se_gp (kd_0 0), (sm_K0 x2).1, se_gf (kd_20 r), p0, se_cl (kd_1 0), y1]
      rfl
  · have hk6 : k < 6 := by omega
    have hkr : ¬ r = k := fun e => by
      rw [← e, o2] at o4
      exact nI_m1 (show k < 2 ^ 31 by omega) o4.symm
    have k1 : agr kG R (rPl R r) := rPl_agr rfl rfl
    have l1 : ∀ k, lK k R (rPl R r) := fun k => lK_agr (rPl_agr rfl rfl)
    have o6' : ¬ R.1 (65, 0) k = -1 := by rw [o6]; intro e; exact nI_m1 (show f < 2 ^ 31 by omega) e.symm
    have ku : ∀ k', k' < g → R.1 (66, 0) r = nI k' → k' = k := fun k' h1 h2 => sm_nIinj (h2.symm.trans o2) (by omega) (by omega)
    have M0 : fc_M_pull (50, 0) (nI r) R = if rPb R r = 0 then some (rPl R r) else (xo_gp 9 16 (rPl R r) (some (50, 0)) fun o3 => xo_al 0 (rPl R r) o3 (nI r) fun v4 => xo_gp 9 17 (rPl R r) (some (50, 0)) fun o5 => xo_al 1 (rPl R r) o5 v4 fun v6 => if v6 = 0 then (xo_cl 9 (some (50, 0)) (fun n8 => fc_M_readOn n8 v4 (rPl R r)) fun H7 => fb_M_pull_55 (50, 0) (nI r) H7) else (xo_gp 9 18 (rPl R r) (some (50, 0)) fun o9 => xo_az (rPl R r) o9 v4 (1 : Int32) fun H10 => fb_M_pull_55 (50, 0) (nI r) H10)) := by
      unfold fc_M_pull
      rw [se_cl (kd_50 0), ib_R hp hr6, Option.bind_some, if_neg (show ¬ R.1 (66, 0) r < 0 by rw [o2]; exact nI_nneg (by omega)), if_neg z10, se_cl (kd_50 0), pM, Option.bind_some]
    by_cases c : rPb R r = 0
    · refine ⟨C1, _, ?_, by rw [M0, if_pos c], SI_more s1 (by omega), k1, fun k' _ _ _ => l1 k', fun e => (l1 r).2.1.trans e⟩
      unfold fc_K_pullIfNeeded
      rw [se_cl (kd_20 r), x1, Option.bind_some]
      simp only [c, if_true]
    · obtain ⟨c1, c2, c3⟩ := rPb_1 c
      have h64 : ¬ R.1 (64, 0) r = 1 := fun e => by
        have := (h.2.2.2.2.2.2.2.2.2.2.2.2.1 r hr).2.2 e
        rw [c2] at this
        exact absurd this (by decide)
      have o3' : C1.2.1 (20, r) 11 = some (41, k) := by
        rcases sm_orig x2 hr with ⟨y1, y2⟩ | ⟨k', y1, y2, y3, -⟩
        · rw [k1 (66, 0) r rfl, o2] at y1
          exact absurd y1.symm (nI_m1 (by omega))
        · rw [k1 (66, 0) r rfl, o2] at y2
          rw [y3, ← sm_nIinj y2 (by omega) (by omega)]
      have e67 : (rPl R r).1 (67, 0) k = R.1 (67, 0) k := rPl_agr (L := fun a _ => a == 67) rfl rfl (67, 0) k rfl
      have q2 := sm_get x2 41 2 67 k (by decide)
      have hp1 := sm_MP x2
      have K0 : fc_K_pullIfNeeded (0, 0) (some (20, r)) C = if R.1 (67, 0) k = 0 then (xo_cl 0 (some (0, 0)) (fun n7 => fc_K_askRoot n7 (some (41, k)) C1) fun r4 => if r4.1 = 0 then (xo_cl 0 (some (0, 0)) (fun n6 => fc_K_endBranches n6 (some (41, k)) r4.2) fun H5 => fb_K_pullIfNeeded_60 (0, 0) (some (20, r)) H5) else (fb_K_pullIfNeeded_60 (0, 0) (some (20, r)) r4.2)) else fb_K_pullIfNeeded_60 (0, 0) (some (20, r)) (xo_sE C1 (41, k) 3 1) := by
        unfold fc_K_pullIfNeeded
        rw [se_cl (kd_20 r), x1, Option.bind_some]
        simp only [c, if_false]
        rw [se_gp (kd_20 r), o3', if_neg (by simp), se_gf (kd_41 k), q2, e67, se_pz1 (kd_41 k)]
      have M1 : fc_M_pull (50, 0) (nI r) R = if R.1 (67, 0) k = 0 then (xo_cl 9 (some (50, 0)) (fun n8 => fc_M_readOn n8 (nI k) (rPl R r)) fun H7 => fb_M_pull_55 (50, 0) (nI r) H7) else fb_M_pull_55 (50, 0) (nI r) (xo_sE (rPl R r) (68, 0) k 1) := by
        rw [M0, if_neg c, mp_16 hp1]
        simp only [ml_66 hr6]
        rw [k1 (66, 0) r rfl, o2, mp_17 hp1]
        simp only [ml_67 hk6]
        rw [e67, mp_18 hp1, mq1_68 hk6]
      rw [K0, M1]
      have j64 : ¬ (rPl R r).1 (64, 0) r = 1 := by rw [rPl_agr (L := fun a _ => a == 64) rfl rfl (64, 0) r rfl]; exact h64
      have j65 : ¬ (rPl R r).1 (65, 0) k = -1 := by rw [k1 (65, 0) k rfl]; exact o6'
      by_cases d : R.1 (67, 0) k = 0
      · obtain ⟨v, D1, D2, R2, a1, a2, a3, a4, a5, a6, a7⟩ := ro_SI s1 (by omega) o1 j65 (e67.trans d)
        obtain ⟨C', R', b1, b2, b3, b4, b5⟩ := pu_60 a5 hr (by rw [a6 (64, 0) r rfl]; exact j64) (by rw [(a7 r hkr).1]; exact c3)
        refine ⟨C', R', ?_, ?_, SI_more b3 (by omega), agr_tr k1 (agr_tr (kR_kG a6) b4), fun k' h1 h2 h3 => ?_, fun e => (b5 r).2.1.trans ((a7 r hkr).2 ((l1 r).2.1.trans e))⟩
        · rw [if_pos d, se_cl (kd_0 0), a1, Option.bind_some]
          by_cases e : v = 0
          · simp only [e, if_true]
            rw [se_cl (kd_0 0), a2 e, Option.bind_some, b1]
          · simp only [e, if_false]
            rw [← a3 e, b1]
        · rw [if_pos d, se_cl (kd_50 0), a4, Option.bind_some, b2]
        · rw [ku k' h1 h2, d] at h3
          exact absurd h3 (by decide)
      · have s2 : SI b g t p q (xo_sE C1 (41, k) 3 1) (xo_sE (rPl R r) (68, 0) k 1) := ⟨sm_set x2 41 3 68 k 1 (by decide) rfl rfl, m68 z1 o1 j65⟩
        obtain ⟨C', R', b1, b2, b3, b4, b5⟩ := pu_60 s2 hr (by rw [se_ne (by simp)]; exact j64) (by rw [se_ne (by simp)]; exact c3)
        refine ⟨C', R', ?_, ?_, SI_more b3 (by omega), agr_tr k1 (agr_tr (agr_set rfl) b4), fun k' h1 h2 h3 => ?_, fun e => (b5 r).2.1.trans (by rw [se_ne (by simp)]; exact (l1 r).2.1.trans e)⟩
        · rw [if_neg d, b1]
        · rw [if_neg d, b2]
        · exact lK_tr (l1 k') (lK_tr (lK_agr (agr_set rfl)) (b5 k'))
end PU
