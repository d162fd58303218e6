section PO
variable {b g t p q : Nat} {C R : xo_H} {x y : Int32}
theorem giverState_R (h : SI b g t p q C R) : CRes b q (fc_K_giverState (0, 0) x C) (fc_M_giverState (50, 0) x R) := by
  have hle := sm_le h.1
  have hp := sm_MP h.1
  unfold fc_K_giverState fc_M_giverState
  by_cases hx : ∃ i, i < g ∧ x = nI i
  · obtain ⟨i, hi, e⟩ := hx
    subst e
    have hi6 : i < 6 := by omega
    have q4 := sm_get h.1 20 4 51 i (by decide)
    have q7 := sm_get h.1 20 7 55 i (by decide)
    have q8 := sm_get h.1 20 8 56 i (by decide)
    have q9 := sm_get h.1 20 9 57 i (by decide)
    have k54 : ∀ s0 s1 : Int32, fb_K_giverState_54 (some (20, i)) s0 s1 C = some (s0 + s1 + (if R.1 (57, 0) i = 0 then 0 else 16), C) := fun s0 s1 => by
      unfold fb_K_giverState_54
      rw [se_gf (kd_20 i), q9]
      split <;> rfl
    have k38 : ∀ s0 s1 : Int32, fb_K_giverState_38 (some (20, i)) s0 s1 C = some (s0 + s1 + (if R.1 (56, 0) i = 0 then 0 else 8) + (if R.1 (57, 0) i = 0 then 0 else 16), C) := fun s0 s1 => by
      unfold fb_K_giverState_38
      rw [se_gf (kd_20 i), q8, k54, k54]
      split <;> rfl
    have r62 : ∀ s0 s1 : Int32, fb_M_giverState_62 (50, 0) (nI i) s0 s1 R = some (s0 + s1 + 32 * R.1 (58, 0) i, R) := fun s0 s1 => by
      unfold fb_M_giverState_62
      rw [mp_8 hp, ml_58 hi6]
    have r46 : ∀ s0 s1 : Int32, fb_M_giverState_46 (50, 0) (nI i) s0 s1 R = some (s0 + s1 + (if R.1 (57, 0) i = 0 then 0 else 16) + 32 * R.1 (58, 0) i, R) := fun s0 s1 => by
      unfold fb_M_giverState_46
      rw [mp_7 hp, ml_57 hi6, r62, r62]
      split <;> rfl
    have r30 : ∀ s0 s1 : Int32, fb_M_giverState_30 (50, 0) (nI i) s0 s1 R = some (s0 + s1 + (if R.1 (56, 0) i = 0 then 0 else 8) + (if R.1 (57, 0) i = 0 then 0 else 16) + 32 * R.1 (58, 0) i, R) := fun s0 s1 => by
      unfold fb_M_giverState_30
      rw [mp_6 hp, ml_56 hi6, r46, r46]
      split <;> rfl
    rw [se_cl (kd_0 0), ga_C h.1 hi, Option.bind_some, se_cl (kd_50 0), ng_0 h.1 hi, Option.bind_some]
    dsimp only
    rw [if_neg (by simp), se_gf (kd_20 i), q4, se_cl (kd_20 i), hb_C h.1 hi, Option.bind_some, if_pos rfl, mp_1 hp, ml_51 hi6, mp_5 hp, ml_55 hi6]
    dsimp only
    rw [se_gf (kd_20 i), q7, k38, k38, r30, r30]
    generalize (if R.1 (56, 0) i = 0 then (0 : Int32) else 8) = u8
    generalize (if R.1 (57, 0) i = 0 then (0 : Int32) else 16) = u16
    have sw : ∀ s a u v w : Int32, s + w + a + u + v = s + a + u + v + w := fun s a u v w => by ac_rfl
    by_cases c : R.1 (55, 0) i = 0
    · rw [if_pos c, if_pos c, sw]
      exact res_of h (by omega) rfl rfl
    · rw [if_neg c, if_neg c, sw]
      exact res_of h (by omega) rfl rfl
  · obtain ⟨r1, r2⟩ := no_g h.1 hx
    rw [se_cl (kd_0 0), r1, Option.bind_some, se_cl (kd_50 0), r2, Option.bind_some]
    dsimp only
    rw [if_pos rfl, if_neg (by decide)]
    exact res_of h (by omega) rfl rfl
theorem giverRoom_R (h : SI b g t p q C R) : CRes b q (fc_K_giverRoom (0, 0) x C) (fc_M_giverRoom (50, 0) x R) := by
  have hle := sm_le h.1
  have hp := sm_MP h.1
  unfold fc_K_giverRoom fc_M_giverRoom
  by_cases hx : ∃ i, i < g ∧ x = nI i
  · obtain ⟨i, hi, e⟩ := hx
    subst e
    have hi6 : i < 6 := by omega
    have q4 := sm_get h.1 20 4 51 i (by decide)
    obtain ⟨-, p0, p1, -⟩ := sm_ptr h.1 hi
    obtain ⟨n, n16, n1, -⟩ := sm_qn h.1 i
    have er : C.1 (21, i) 3 = rRoom R i := (h.1.2.1 i).2
    rw [se_cl (kd_0 0), ga_C h.1 hi, Option.bind_some, se_cl (kd_50 0), ng_0 h.1 hi, Option.bind_some]
    dsimp only
    rw [if_neg (by simp), se_gf (kd_20 i), q4, if_pos rfl, mp_1 hp, ml_51 hi6]
    by_cases c : R.1 (51, 0) i = 0
    · rw [if_pos c, if_pos c, se_gp (kd_20 i), p1, se_gf (kd_21 i), er, se_cl (kd_50 0), room_R hp hi6 n1 n16, Option.bind_some]
      exact res_of h (by omega) rfl rfl
    · rw [if_neg c, if_neg c]
      exact res_of h (by omega) rfl rfl
  · obtain ⟨r1, r2⟩ := no_g h.1 hx
    rw [se_cl (kd_0 0), r1, Option.bind_some, se_cl (kd_50 0), r2, Option.bind_some]
    dsimp only
    rw [if_pos rfl, if_neg (by decide)]
    exact res_of h (by omega) rfl rfl
theorem giverQueue_R (h : SI b g t p q C R) : CRes b q (fc_K_giverQueue (0, 0) x C) (fc_M_giverQueue (50, 0) x R) := by
  have hle := sm_le h.1
  have hp := sm_MP h.1
  unfold fc_K_giverQueue fc_M_giverQueue
  by_cases hx : ∃ i, i < g ∧ x = nI i
  · obtain ⟨i, hi, e⟩ := hx
    subst e
    have hi6 : i < 6 := by omega
    obtain ⟨-, p0, p1, p2, p3, p4, -⟩ := sm_ptr h.1 hi
    obtain ⟨n, n16, n1, n2⟩ := sm_qn h.1 i
    obtain ⟨m, m8, m1, m2⟩ := sm_an h.1 i
    rw [se_cl (kd_0 0), ga_C h.1 hi, Option.bind_some, se_cl (kd_50 0), ng_0 h.1 hi, Option.bind_some]
    dsimp only
    rw [if_neg (by simp), se_gp (kd_20 i), p1, se_cl (kd_21 i), cr_count (kd_21 i) (kd_22 i) p4, Option.bind_some, if_pos rfl, mp_10 hp, ml_60 hi6, mp_12 hp, ml_62 hi6, n1, m1]
    dsimp only
    rw [se_gp (kd_20 i), p3, se_gf (kd_24 i), n2, m2]
    exact res_of h (by omega) rfl rfl
  · obtain ⟨r1, r2⟩ := no_g h.1 hx
    rw [se_cl (kd_0 0), r1, Option.bind_some, se_cl (kd_50 0), r2, Option.bind_some]
    dsimp only
    rw [if_pos rfl, if_neg (by decide)]
    exact res_of h (by omega) rfl rfl
theorem takerState_R (h : SI b g t p q C R) : CRes b q (fc_K_takerState (0, 0) x C) (fc_M_takerState (50, 0) x R) := by
  have hle := sm_le h.1
  have hp := sm_MP h.1
  unfold fc_K_takerState fc_M_takerState
  by_cases hx : ∃ i, i < t ∧ x = nI i
  · obtain ⟨w, hw, e⟩ := hx
    subst e
    have hw2 : w < 2 := by omega
    have q4 := sm_get h.1 30 4 70 w (by decide)
    have q7 := sm_get h.1 30 7 79 w (by decide)
    have q9 := sm_get h.1 30 9 80 w (by decide)
    have q11 := sm_get h.1 30 11 78 w (by decide)
    have q12 := sm_get h.1 30 12 83 w (by decide)
    have k97 : ∀ s0 s1 : Int32, fb_K_takerState_97 (some (30, w)) s0 s1 C = some (s0 + s1 + (if R.1 (83, 0) w = 0 then 0 else 128), C) := fun s0 s1 => by
      unfold fb_K_takerState_97
      rw [se_gf (kd_30 w), q12]
      split <;> rfl
    have k81 : ∀ s0 s1 : Int32, fb_K_takerState_81 (some (30, w)) s0 s1 C = some (s0 + s1 + (if R.1 (80, 0) w = 0 then 0 else 64) + (if R.1 (83, 0) w = 0 then 0 else 128), C) := fun s0 s1 => by
      unfold fb_K_takerState_81
      rw [se_gf (kd_30 w), q9, k97, k97]
      split <;> rfl
    have k64 : ∀ s0 s1 : Int32, fb_K_takerState_64 (some (30, w)) s0 s1 C = some (s0 + s1 + (if R.1 (79, 0) w = 5 then 32 else 0) + (if R.1 (80, 0) w = 0 then 0 else 64) + (if R.1 (83, 0) w = 0 then 0 else 128), C) := fun s0 s1 => by
      unfold fb_K_takerState_64
      rw [se_gf (kd_30 w), q7, k81, k81]
      split <;> rfl
    have k47 : ∀ s0 s1 : Int32, fb_K_takerState_47 (some (30, w)) s0 s1 C = some (s0 + s1 + (if R.1 (79, 0) w = 4 then 16 else 0) + (if R.1 (79, 0) w = 5 then 32 else 0) + (if R.1 (80, 0) w = 0 then 0 else 64) + (if R.1 (83, 0) w = 0 then 0 else 128), C) := fun s0 s1 => by
      unfold fb_K_takerState_47
      rw [se_gf (kd_30 w), q7, k64, k64]
      split <;> rfl
    have k30 : ∀ s0 s1 : Int32, fb_K_takerState_30 (some (30, w)) s0 s1 C = some (s0 + s1 + (if R.1 (79, 0) w = 3 then 8 else 0) + (if R.1 (79, 0) w = 4 then 16 else 0) + (if R.1 (79, 0) w = 5 then 32 else 0) + (if R.1 (80, 0) w = 0 then 0 else 64) + (if R.1 (83, 0) w = 0 then 0 else 128), C) := fun s0 s1 => by
      unfold fb_K_takerState_30
      rw [se_gf (kd_30 w), q7, k47, k47]
      split <;> rfl
    have r95 : ∀ s0 s1 : Int32, fb_M_takerState_95 (50, 0) (nI w) s0 s1 R = some (s0 + s1 + (if R.1 (83, 0) w = 0 then 0 else 128), R) := fun s0 s1 => by
      unfold fb_M_takerState_95
      rw [mp_34 hp, ml_83 hw2]
      split <;> rfl
    have r77 : ∀ x2 s0 s1 : Int32, fb_M_takerState_77 (50, 0) (nI w) x2 s0 s1 R = some (s0 + s1 + x2 + (if R.1 (80, 0) w = 0 then 0 else 64) + (if R.1 (83, 0) w = 0 then 0 else 128), R) := fun x2 s0 s1 => by
      unfold fb_M_takerState_77
      rw [mp_31 hp, ml_80 hw2, r95, r95]
      split <;> rfl
    have r56 : ∀ s0 : Int32, fb_M_takerState_56 (50, 0) (nI w) s0 R = some (R.1 (70, 0) w + (if R.1 (78, 0) w = 0 then 0 else 4) + s0 + (if R.1 (80, 0) w = 0 then 0 else 64) + (if R.1 (83, 0) w = 0 then 0 else 128), R) := fun s0 => by
      unfold fb_M_takerState_56
      rw [mp_21 hp, ml_70 hw2, mp_29 hp, ml_78 hw2, r77, r77]
      split <;> rfl
    have kt : ∀ {v : Int32}, (if R.1 (78, 0) w = 0 then fb_K_takerState_30 (some (30, w)) v (0 : Int32) C else fb_K_takerState_30 (some (30, w)) v (4 : Int32) C) = some (v + (if R.1 (78, 0) w = 0 then 0 else 4) + (if R.1 (79, 0) w = 3 then 8 else 0) + (if R.1 (79, 0) w = 4 then 16 else 0) + (if R.1 (79, 0) w = 5 then 32 else 0) + (if R.1 (80, 0) w = 0 then 0 else 64) + (if R.1 (83, 0) w = 0 then 0 else 128), C) := fun {v} => by
      rw [k30, k30]
      split <;> rfl
    rw [se_cl (kd_0 0), tk_C h.1 hw, Option.bind_some, se_cl (kd_50 0), nt_0 h.1 hw, Option.bind_some]
    dsimp only
    rw [if_neg (by simp), se_gf (kd_30 w), q4, se_gf (kd_30 w), q11, kt, if_pos rfl, mp_30 hp, ml_79 hw2, mp_30 hp, ml_79 hw2, mp_30 hp, ml_79 hw2]
    have key : (if R.1 (79, 0) w = (3 : Int32) then fb_M_takerState_56 (50, 0) (nI w) (8 : Int32) R else if R.1 (79, 0) w = (4 : Int32) then fb_M_takerState_56 (50, 0) (nI w) (16 : Int32) R else if R.1 (79, 0) w = (5 : Int32) then fb_M_takerState_56 (50, 0) (nI w) (32 : Int32) R else fb_M_takerState_56 (50, 0) (nI w) (0 : Int32) R) = fb_M_takerState_56 (50, 0) (nI w) ((if R.1 (79, 0) w = 3 then (8 : Int32) else 0) + (if R.1 (79, 0) w = 4 then (16 : Int32) else 0) + (if R.1 (79, 0) w = 5 then (32 : Int32) else 0)) R := by
      by_cases c3 : R.1 (79, 0) w = 3
      · simp only [c3, if_true, show ¬ (3 : Int32) = 4 by decide, show ¬ (3 : Int32) = 5 by decide, if_false]
        rfl
      · by_cases c4 : R.1 (79, 0) w = 4
        · simp only [c4, if_true, show ¬ (4 : Int32) = 3 by decide, show ¬ (4 : Int32) = 5 by decide, if_false]
          rfl
        · by_cases c5 : R.1 (79, 0) w = 5
          · simp only [c5, if_true, show ¬ (5 : Int32) = 3 by decide, show ¬ (5 : Int32) = 4 by decide, if_false]
            rfl
          · simp only [c3, c4, c5, if_false]
            rfl
    rw [key, r56]
    generalize (if R.1 (80, 0) w = 0 then (0 : Int32) else 64) = u64
    generalize (if R.1 (83, 0) w = 0 then (0 : Int32) else 128) = u128
    generalize (if R.1 (78, 0) w = 0 then (0 : Int32) else 4) = u4
    generalize (if R.1 (79, 0) w = 3 then (8 : Int32) else 0) = a3
    generalize (if R.1 (79, 0) w = 4 then (16 : Int32) else 0) = a4
    generalize (if R.1 (79, 0) w = 5 then (32 : Int32) else 0) = a5
    have sw : R.1 (70, 0) w + u4 + a3 + a4 + a5 + u64 + u128 = R.1 (70, 0) w + u4 + (a3 + a4 + a5) + u64 + u128 := by ac_rfl
    rw [sw]
    exact res_of h (by omega) rfl rfl
  · obtain ⟨r1, r2⟩ := no_t h.1 hx
    rw [se_cl (kd_0 0), r1, Option.bind_some, se_cl (kd_50 0), r2, Option.bind_some]
    dsimp only
    rw [if_pos rfl, if_neg (by decide)]
    exact res_of h (by omega) rfl rfl
theorem takerRoom_R (h : SI b g t p q C R) : CRes b q (fc_K_takerRoom (0, 0) x C) (fc_M_takerRoom (50, 0) x R) := by
  have hle := sm_le h.1
  have hp := sm_MP h.1
  unfold fc_K_takerRoom fc_M_takerRoom
  by_cases hx : ∃ i, i < t ∧ x = nI i
  · obtain ⟨w, hw, e⟩ := hx
    subst e
    have hw2 : w < 2 := by omega
    have q4 := sm_get h.1 30 4 70 w (by decide)
    obtain ⟨-, t0, t1, -⟩ := sm_ptrT h.1 hw
    obtain ⟨n, n16, n1, -⟩ := sm_un h.1 w
    have er : C.1 (31, w) 3 = rSpace R w := (h.1.2.2.2.1 w).2.2
    rw [se_cl (kd_0 0), tk_C h.1 hw, Option.bind_some, se_cl (kd_50 0), nt_0 h.1 hw, Option.bind_some]
    dsimp only
    rw [if_neg (by simp), se_gf (kd_30 w), q4, if_pos rfl, mp_21 hp, ml_70 hw2]
    by_cases c : R.1 (70, 0) w = 0
    · rw [if_pos c, if_pos c, se_gp (kd_30 w), t1, se_gf (kd_31 w), er, se_cl (kd_50 0), space_R hp hw2 n1 n16, Option.bind_some]
      exact res_of h (by omega) rfl rfl
    · rw [if_neg c, if_neg c]
      exact res_of h (by omega) rfl rfl
  · obtain ⟨r1, r2⟩ := no_t h.1 hx
    rw [se_cl (kd_0 0), r1, Option.bind_some, se_cl (kd_50 0), r2, Option.bind_some]
    dsimp only
    rw [if_pos rfl, if_neg (by decide)]
    exact res_of h (by omega) rfl rfl
theorem takerQueue_R (h : SI b g t p q C R) : CRes b q (fc_K_takerQueue (0, 0) x C) (fc_M_takerQueue (50, 0) x R) := by
  have hle := sm_le h.1
  have hp := sm_MP h.1
  unfold fc_K_takerQueue fc_M_takerQueue
  by_cases hx : ∃ i, i < t ∧ x = nI i
  · obtain ⟨w, hw, e⟩ := hx
    subst e
    have hw2 : w < 2 := by omega
    obtain ⟨-, t0, t1, t2, t3, t4, -⟩ := sm_ptrT h.1 hw
    obtain ⟨n, n16, n1, n2, -⟩ := sm_un h.1 w
    rw [se_cl (kd_0 0), tk_C h.1 hw, Option.bind_some, se_cl (kd_50 0), nt_0 h.1 hw, Option.bind_some]
    dsimp only
    rw [if_neg (by simp), se_gp (kd_30 w), t1, se_cl (kd_31 w), cr_count (kd_31 w) (kd_32 w) t4, Option.bind_some, if_pos rfl, mp_27 hp, ml_76 hw2, n1, n2]
    exact res_of h (by omega) rfl rfl
  · obtain ⟨r1, r2⟩ := no_t h.1 hx
    rw [se_cl (kd_0 0), r1, Option.bind_some, se_cl (kd_50 0), r2, Option.bind_some]
    dsimp only
    rw [if_pos rfl, if_neg (by decide)]
    exact res_of h (by omega) rfl rfl
theorem error_R (h : SI b g t p q C R) : CRes b q (fc_K_error (0, 0) x y C) (fc_M_error (50, 0) x y R) := by
  have hle := sm_le h.1
  have hp := sm_MP h.1
  unfold fc_K_error fc_M_error
  by_cases ct : x = 0
  · rw [if_pos ct, if_pos ct]
    unfold fc_K_giverError
    by_cases hx : ∃ i, i < g ∧ y = nI i
    · obtain ⟨i, hi, e⟩ := hx
      subst e
      have hi6 : i < 6 := by omega
      have q4 := sm_get h.1 20 4 51 i (by decide)
      have q5 := sm_get h.1 20 5 52 i (by decide)
      rw [se_cl (kd_0 0), ga_C h.1 hi, Option.bind_some, se_cl (kd_50 0), ng_0 h.1 hi, Option.bind_some]
      dsimp only
      rw [if_neg (by simp), se_gf (kd_20 i), q4, if_pos rfl, mp_1 hp, ml_51 hi6]
      by_cases c : R.1 (51, 0) i = 2
      · rw [if_pos c, if_pos c, se_gf (kd_20 i), q5, Option.bind_some, mp_2 hp, ml_52 hi6]
        exact res_of h (by omega) rfl rfl
      · rw [if_neg c, if_neg c, Option.bind_some]
        exact res_of h (by omega) rfl rfl
    · obtain ⟨r1, r2⟩ := no_g h.1 hx
      rw [se_cl (kd_0 0), r1, Option.bind_some, se_cl (kd_50 0), r2, Option.bind_some]
      dsimp only
      rw [if_pos rfl, if_neg (by decide), Option.bind_some]
      exact res_of h (by omega) rfl rfl
  · rw [if_neg ct, if_neg ct]
    unfold fc_K_takerError
    by_cases hx : ∃ i, i < t ∧ y = nI i
    · obtain ⟨w, hw, e⟩ := hx
      subst e
      have hw2 : w < 2 := by omega
      have q5 := sm_get h.1 30 5 71 w (by decide)
      rw [se_cl (kd_0 0), tk_C h.1 hw, Option.bind_some, se_cl (kd_50 0), nt_0 h.1 hw, Option.bind_some]
      dsimp only
      have e36 : fb_M_error_36 (50, 0) (nI w) R = some (R.1 (71, 0) w, R) := by
        unfold fb_M_error_36
        rw [mp_22 hp, ml_71 hw2]
      have M0 : (if R.1 (70, 0) w = (1 : Int32) then fb_M_error_36 (50, 0) (nI w) R else if R.1 (70, 0) w = (2 : Int32) then fb_M_error_36 (50, 0) (nI w) R else some ((-1 : Int32), R)) = some (if R.1 (70, 0) w = 1 ∨ R.1 (70, 0) w = 2 then R.1 (71, 0) w else -1, R) := by
        rw [e36]
        by_cases d1 : R.1 (70, 0) w = 1
        · rw [if_pos d1, if_pos (Or.inl d1)]
        · rw [if_neg d1]
          by_cases d2 : R.1 (70, 0) w = 2
          · rw [if_pos d2, if_pos (Or.inr d2)]
          · rw [if_neg d2, if_neg (fun z => z.elim d1 d2)]
      rw [if_neg (by simp), se_cl (kd_30 w), he_C h.1 hw, Option.bind_some, if_pos rfl, mp_21 hp, ml_70 hw2, mp_21 hp, ml_70 hw2, M0]
      by_cases d : R.1 (70, 0) w = 1 ∨ R.1 (70, 0) w = 2
      · have ge : (if R.1 (70, 0) w = 1 ∨ R.1 (70, 0) w = 2 then (1 : Int32) else 0) = 1 := if_pos d
        rw [ge, if_neg z10, se_gf (kd_30 w)]
        dsimp only
        rw [q5, Option.bind_some, if_pos d]
        exact res_of h (by omega) rfl rfl
      · have ge : (if R.1 (70, 0) w = 1 ∨ R.1 (70, 0) w = 2 then (1 : Int32) else 0) = 0 := if_neg d
        rw [ge, if_pos rfl, Option.bind_some, if_neg d]
        exact res_of h (by omega) rfl rfl
    · obtain ⟨r1, r2⟩ := no_t h.1 hx
      rw [se_cl (kd_0 0), r1, Option.bind_some, se_cl (kd_50 0), r2, Option.bind_some]
      dsimp only
      rw [if_pos rfl, if_neg (by decide), Option.bind_some]
      exact res_of h (by omega) rfl rfl
theorem events_R (h : SI b g t p q C R) : CRes b q (fc_K_events (0, 0) C) (fc_M_events (50, 0) R) := by
  obtain ⟨e, e1, e2, e3, -⟩ := h.1.2.2.2.2.1
  unfold fc_K_events fc_M_events
  rw [se_gp (kd_0 0), (sm_K0 h.1).1, se_gf (kd_1 0), e2, se_gf (kd_50 0), e3]
  exact res_of h (by omega) rfl rfl
theorem y2 {y : Int32} (h0 : ¬ y < 0) (h2 : ¬ 2 < y) (n0 : ¬ y = 0) (n1 : ¬ y = 1) : y = 2 := by
  apply Int32.toInt_inj.mp
  have e0 : ¬ y.toInt = (0 : Int32).toInt := fun z => n0 (Int32.toInt_inj.mp z)
  have e1 : ¬ y.toInt = (1 : Int32).toInt := fun z => n1 (Int32.toInt_inj.mp z)
  rw [Int32.lt_iff_toInt_lt] at h0 h2
  have c0 : (0 : Int32).toInt = 0 := by decide
  have c1 : (1 : Int32).toInt = 1 := by decide
  have c2 : (2 : Int32).toInt = 2 := by decide
  rw [c0] at h0 e0
  rw [c1] at e1
  rw [c2] at h2 ⊢
  omega
theorem event_R (h : SI b g t p q C R) (hb : b < 2 ^ 30) : CRes b q (fc_K_event (0, 0) x y C) (fc_M_event (50, 0) x y R) := by
  have hp := sm_MP h.1
  obtain ⟨e, e1, e2, e3, e4⟩ := h.1.2.2.2.2.1
  obtain ⟨-, -, -, -, ⟨l0, l1, l2⟩, -⟩ := h.1.2.2.2.2.2.2
  have K0 : ∀ {o : Option (Int32 × xo_H)}, fc_L_tell (1, 0) x y C = o → fc_K_event (0, 0) x y C = o := fun {o} z => by
    unfold fc_K_event
    rw [se_gp (kd_0 0), (sm_K0 h.1).1, se_cl (kd_1 0), z]
    cases o with
    | none => rfl
    | some v => rfl
  unfold fc_M_event
  rw [K0 rfl]
  unfold fc_L_tell
  by_cases c : x < 0
  · rw [if_pos c, if_pos c]
    exact res_of h (by omega) rfl rfl
  · rw [if_neg c, if_neg c, se_gf (kd_1 0), e2, se_gf (kd_1 0), e2, se_gf (kd_50 0), e3, se_gf (kd_50 0), e3]
    by_cases d : x < nI e
    · rw [if_pos d, if_pos d]
      by_cases d2 : x < nI e - 64
      · rw [if_pos d2, if_pos d2]
        exact res_of h (by omega) rfl rfl
      · rw [if_neg d2, if_neg d2]
        obtain ⟨j, hj, ej⟩ : ∃ j, j < e ∧ x = nI j := by
          rcases pk_ix x (n := e) (by omega) with z | z | z
          · exact absurd z c
          · exact absurd d (Int32.not_lt.mpr z)
          · exact z
        subst ej
        have hm : nI j &&& (63 : Int32) = nI (j % 64) := pk_andN (by omega) 6 (by decide)
        have hlt : j % 64 < 64 := Nat.mod_lt _ (by decide)
        have e64 : (64 : Int32) = nI 64 := rfl
        obtain ⟨v0, v1, v2⟩ := e4 (j % 64)
        have m0 : ∀ {α : Type} {K : Int32 → Option α}, xo_rm (nI j) (64 : Int32) K = K (nI (j % 64)) := fun {α K} => by
          rw [e64, se_rm (by omega) (by decide) (by decide)]
        rw [hm, se_gp (kd_1 0), l0, se_al (kd_2 0) hlt (by decide), v0, se_gp (kd_1 0), l1, se_al (kd_3 0) hlt (by decide), v1, se_gp (kd_1 0), l2, se_al (kd_4 0) hlt (by decide), v2, mp_48 hp, m0, ml_93 hlt, mp_49 hp, m0, ml_94 hlt, mp_50 hp, m0, ml_95 hlt]
        by_cases n0 : y = 0
        · rw [if_pos n0, if_neg (by rw [n0]; decide), if_neg (by rw [n0]; decide), if_pos n0]
          exact res_of h (by omega) rfl rfl
        · rw [if_neg n0, if_neg n0]
          by_cases n1 : y = 1
          · rw [if_pos n1, if_neg (by rw [n1]; decide), if_neg (by rw [n1]; decide), if_pos n1]
            exact res_of h (by omega) rfl rfl
          · rw [if_neg n1, if_neg n1]
            by_cases f0 : y < 0
            · rw [if_neg (fun z => absurd f0 (by rw [z]; decide)), if_pos f0]
              exact res_of h (by omega) rfl rfl
            · rw [if_neg f0]
              by_cases f2 : (2 : Int32) < y
              · rw [if_neg (fun z => absurd f2 (by rw [z]; decide)), if_pos f2]
                exact res_of h (by omega) rfl rfl
              · rw [if_neg f2, if_pos (y2 f0 f2 n0 n1)]
                exact res_of h (by omega) rfl rfl
    · rw [if_neg d, if_neg d]
      exact res_of h (by omega) rfl rfl
end PO
