theorem se_dd {H : xo_H} {n : xo_N} {f : Nat} {u v : Int32} : xo_sE (xo_sE H n f u) n f v = xo_sE H n f v := by
  refine Prod.ext (funext fun a => funext fun c => ?_) rfl
  simp only [se_E1]
  split <;> rfl
section PU
variable {b g t p q k r : Nat} {C R : xo_H}
theorem ro_SI (h : SI b g t p q C R) (hb : b + 200 < 2 ^ 30) (hk : k < g) (h65 : ¬ R.1 (65, 0) k = -1) (h67 : R.1 (67, 0) k = 0) : ∃ v C1 C2 R', fc_K_askRoot (0, 0) (some (41, k)) C = some (v, C1) ∧ (v = 0 → fc_K_endBranches (0, 0) (some (41, k)) C1 = some C2) ∧ (¬ v = 0 → C2 = C1) ∧ fc_M_readOn (50, 0) (nI k) R = some R' ∧ SI (b + 20) g t p q C2 R' ∧ agr kR R R' ∧ ∀ j, ¬ j = k → R'.1 (56, 0) j = R.1 (56, 0) j ∧ (R.1 (62, 0) j = 0 → R'.1 (62, 0) j = 0) := by
  have hp := sm_MP h.1
  have hle := sm_le h.1
  have hk6 : k < 6 := by omega
  have z10 : ¬ (1 : Int32) = 0 := by decide
  have q4 := sm_get h.1 20 4 51 k (by decide)
  obtain ⟨f, f1, f2, f3, f4, f5, f6, -⟩ := sm_part h.1 hk h65
  have h62 : R.1 (62, 0) k = 0 := by
    by_cases c : R.1 (62, 0) k = 0
    · exact c
    · have := (h.2.2.2.2.2.2.2.2.1 k hk).1 h65 c
      rw [h67] at this
      exact absurd this (by decide)
  have nh : ¬ has R 2 k := fun e => by
    have := (h.2.2.2.2.2.2.2.2.2.2.2.2.2.1 k hk e).2.1
    rw [h67] at this
    exact absurd this (by decide)
  have cls : ∀ s : Int32, (if R.1 (51, 0) k = 0 then (1 : Int32) else 0) = s → fc_K_askRoot (0, 0) (some (41, k)) C = fb_K_askRoot_18 (0, 0) (some (41, k)) (some (20, k)) (some (41, k)) s C := fun s e => by
    unfold fc_K_askRoot
    rw [se_gp (kd_41 k), f5, se_gf (kd_20 k), q4, ← e]
    split <;> rfl
  have ref : fc_M_readOn (50, 0) (nI k) R = (xo_gp 9 1 (xo_sE R (67, 0) k 1) (some (50, 0)) fun o3 => xo_al 0 (xo_sE R (67, 0) k 1) o3 (nI k) fun v4 => if v4 = (1 : Int32) then (xo_gp 9 17 (xo_sE R (67, 0) k 1) (some (50, 0)) fun o28 => xo_az (xo_sE R (67, 0) k 1) o28 (nI k) (0 : Int32) fun H29 => xo_cl 9 (some (50, 0)) (fun n31 => fc_M_endBranches n31 (nI k) H29) fun H30 => some H30)
    else (xo_gp 9 1 (xo_sE R (67, 0) k 1) (some (50, 0)) fun o5 => xo_al 0 (xo_sE R (67, 0) k 1) o5 (nI k) fun v6 => if v6 = (2 : Int32) then (xo_gp 9 17 (xo_sE R (67, 0) k 1) (some (50, 0)) fun o26 => xo_az (xo_sE R (67, 0) k 1) o26 (nI k) (0 : Int32) fun H27 => some H27)
    else (xo_gp 9 10 (xo_sE R (67, 0) k 1) (some (50, 0)) fun o7 => xo_al 0 (xo_sE R (67, 0) k 1) o7 (nI k) fun v8 => if 0 < v8 then (xo_cl 9 (some (50, 0)) (fun n25 => fc_M_takeChunk n25 (nI k) (xo_sE R (67, 0) k 1)) fun r18 => xo_gp 9 5 r18.2 (some (50, 0)) fun o19 => xo_al 1 r18.2 o19 (nI k) fun v20 => if v20 = 0 then (fb_M_readOn_93 (50, 0) (nI k) r18.1 r18.2) else (xo_gp 9 10 r18.2 (some (50, 0)) fun o21 => xo_al 0 r18.2 o21 (nI k) fun v22 => if v22 = 0 then (xo_cl 9 (some (50, 0)) (fun n24 => fc_M_close n24 (nI k) r18.2) fun H23 => fb_M_readOn_98 (50, 0) (nI k) r18.1 H23) else (fb_M_readOn_93 (50, 0) (nI k) r18.1 r18.2)))
    else (xo_gp 9 11 (xo_sE R (67, 0) k 1) (some (50, 0)) fun o9 => xo_gp 9 12 (xo_sE R (67, 0) k 1) (some (50, 0)) fun o10 => xo_al 0 (xo_sE R (67, 0) k 1) o10 (nI k) fun v11 => xo_as (xo_sE R (67, 0) k 1) o9 (((8 : Int32) * (nI k)) + v11) (-10 : Int32) fun H12 => xo_gp 9 12 H12 (some (50, 0)) fun o13 => xo_al 0 H12 o13 (nI k) fun v14 => xo_as H12 o13 (nI k) (v14 + (1 : Int32)) fun H15 => xo_cl 9 (some (50, 0)) (fun n17 => fc_M_pullRoot n17 (nI k) H15) fun H16 => some H16)))) := by
    unfold fc_M_readOn
    rw [mp_17 hp, mq1_67 hk6]
  have hpX : (xo_sE R (67, 0) k 1).2.1 = MP := hp
  rcases h.2.2.1 k with s | s | s
  · have cl := cls 1 (if_pos s)
    have s1 : SI b g t p q (xo_sE C (41, k) 2 1) (xo_sE R (67, 0) k 1) := ⟨sm_set h.1 41 2 67 k 1 (by decide) rfl rfl, m67 h.2 hk (Or.inl ⟨rfl, h65⟩)⟩
    obtain ⟨n, n16, n1, n2⟩ := sm_qn s1.1 k
    obtain ⟨-, p0, p1, p2, p3, p4, p5, p6⟩ := sm_ptr s1.1 hk
    have x65 : ¬ (xo_sE R (67, 0) k 1).1 (65, 0) k = -1 := by rw [se_ne (by simp)]; exact h65
    have x62 : (xo_sE R (67, 0) k 1).1 (62, 0) k = 0 := by rw [se_ne (by simp)]; exact h62
    have x51 : (xo_sE R (67, 0) k 1).1 (51, 0) k = 0 := by rw [se_ne (by simp)]; exact s
    have xh : ¬ has (xo_sE R (67, 0) k 1) 2 k := by rw [ka_has (agr_set rfl)]; exact nh
    have x67 : (xo_sE R (67, 0) k 1).1 (67, 0) k = 1 := xo_sE_eq _ _ _ _
    have c18 : fc_K_askRoot (0, 0) (some (41, k)) C = if 0 < nI n then fb_K_askRoot_57 (0, 0) (some (20, k)) 1 (xo_sE C (41, k) 2 1) else fb_K_askRoot_57 (0, 0) (some (20, k)) 0 (xo_sE C (41, k) 2 1) := by
      rw [cl]
      unfold fb_K_askRoot_18
      rw [se_pz1 (kd_41 k), se_gf (kd_41 k), xo_sE_eq, if_neg z10, se_gp (kd_20 k), p1, se_cl (kd_21 k), cr_count (kd_21 k) (kd_22 k) p4, Option.bind_some]
      show (if 0 < (xo_sE C (41, k) 2 1).1 (22, k) 2 then _ else _) = _
      rw [n2]
    rw [c18, ref, mp_1 hpX]
    simp only [ml_51 hk6, x51]
    rw [if_neg (show ¬ (0 : Int32) = 1 by decide), mp_1 hpX]
    simp only [ml_51 hk6, x51]
    rw [if_neg (show ¬ (0 : Int32) = 2 by decide), mp_10 hpX]
    simp only [ml_60 hk6, n1]
    have kk : agr kR R (xo_sE R (67, 0) k 1) := agr_set rfl
    have k56 : ∀ j, (xo_sE R (67, 0) k 1).1 (56, 0) j = R.1 (56, 0) j := fun j => by rw [se_ne (by simp)]
    cases n with
    | zero =>
      obtain ⟨C', R', a1, a2, a3, a4, a5⟩ := ar_empty s1 (by omega) hk x65 x67 x62 xh x51 n1
      rw [if_neg (by decide), if_neg (by decide)]
      exact ⟨1, C', C', R', a1, fun e => absurd e z10, fun _ => rfl, a2, SI_more a3 (by omega), agr_tr kk a4, fun j hj => ⟨(a5 j hj).1.trans (k56 j), fun e => (a5 j hj).2 (by rw [se_ne (by simp)]; exact e)⟩⟩
    | succ m =>
      obtain ⟨C', R', a1, a2, a3, a4, a5⟩ := ar_chunk s1 (by omega) hk x65 x67 x62 xh x51 n1 (by omega)
      have pos : 0 < nI (m + 1) := (nI_pos_iff (by omega)).mpr (by rw [nI_n0 (by omega)]; omega)
      rw [if_pos pos, if_pos pos]
      exact ⟨1, C', C', R', a1, fun e => absurd e z10, fun _ => rfl, a2, SI_more a3 (by omega), agr_tr kk a4, fun j hj => ⟨(a5 j hj).1.trans (k56 j), fun e => (a5 j hj).2 (by rw [se_ne (by simp)]; exact e)⟩⟩
  · have cl := cls 0 (if_neg (by rw [s]; decide))
    have e0 : xo_sE R (67, 0) k 0 = R := se_id h67
    have h1 : sm b g t p (xo_sE C (41, k) 2 0) R := by
      have := sm_set h.1 41 2 67 k 0 (by decide) rfl rfl
      rw [e0] at this
      exact this
    obtain ⟨f', C2, g1, g2, g3, g4, g5⟩ := eb_both h1 (by omega) h.2.1 hk h65
    rw [e0] at g4 g5
    have q4' := sm_get h1 20 4 51 k (by decide)
    refine ⟨0, xo_sE C (41, k) 2 0, C2, rEB R f', ?_, fun _ => g3, fun e => absurd rfl e, ?_, ⟨sm_more g5 (by omega), rEB_Inv h.2 g2⟩, rEB_kR, fun j _ => ⟨rEB_56 (56, 0) j rfl, rEB_62⟩⟩
    · rw [cl]
      unfold fb_K_askRoot_18
      rw [se_pz0 (kd_41 k), se_gf (kd_41 k), xo_sE_eq, if_pos rfl, se_gf (kd_20 k), q4', s, if_neg (by decide), se_gb0]
    · rw [ref, mp_1 hpX]
      simp only [ml_51 hk6]
      rw [se_ne (m := (51, 0)) (by simp), s, if_pos rfl, mp_17 hpX, mq0_67 hk6, se_dd, e0, se_cl (kd_50 0), g4]
      rfl
  · have cl := cls 0 (if_neg (by rw [s]; decide))
    have e0 : xo_sE R (67, 0) k 0 = R := se_id h67
    have h1 : sm b g t p (xo_sE C (41, k) 2 0) R := by
      have := sm_set h.1 41 2 67 k 0 (by decide) rfl rfl
      rw [e0] at this
      exact this
    have q4' := sm_get h1 20 4 51 k (by decide)
    refine ⟨1, xo_sE C (41, k) 2 0, xo_sE C (41, k) 2 0, R, ?_, fun e => absurd e z10, fun _ => rfl, ?_, ⟨sm_more h1 (by omega), h.2⟩, agr_rfl, fun j _ => ⟨rfl, id⟩⟩
    · rw [cl]
      unfold fb_K_askRoot_18
      rw [se_pz0 (kd_41 k), se_gf (kd_41 k), xo_sE_eq, if_pos rfl, se_gf (kd_20 k), q4', s, if_pos rfl, se_gb1]
    · rw [ref, mp_1 hpX]
      simp only [ml_51 hk6]
      rw [se_ne (m := (51, 0)) (by simp), s, if_neg (by decide), mp_1 hpX]
      simp only [ml_51 hk6]
      rw [se_ne (m := (51, 0)) (by simp), s, if_pos rfl, mp_17 hpX, mq0_67 hk6, se_dd, e0]
end PU
