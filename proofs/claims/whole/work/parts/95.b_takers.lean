section PT
variable {b g t p q : Nat} {C R : xo_H} {x y : Int32}
theorem no_pipe (h : sm b g t p C R) {w : Nat} (hw : w < t) (h83 : R.1 (83, 0) w = 0) : ∀ k i, k < p → R.1 (88, 0) k = 0 → R.1 (85, 0) k = nI i → R.1 (86, 0) k = nI w → i < g → R.1 (62, 0) i = 0 := fun k i hk h88 _ h86 _ => by
  have hle := sm_le h
  obtain ⟨-, -, i', w', i1, w1, -, e86, -, -, -, -, -, nn⟩ := sm_pipe h hk
  have : w' = w := sm_nIinj (e86.symm.trans h86) (by omega) (by omega)
  subst this
  have z := (nn h88).2.1
  rw [h83] at z
  exact absurd z (by decide)
theorem write_R (h : SI b g t p q C R) (hb : b + 3000 < 2 ^ 30) : CRes b q (fc_K_write (0, 0) x y C) (fc_M_write (50, 0) x y R) := by
  have hle := sm_le h.1
  have hp := sm_MP h.1
  unfold fc_K_write fc_M_write
  by_cases hx : ∃ i, i < t ∧ x = nI i
  · obtain ⟨w, hw, e⟩ := hx
    subst e
    have hw2 : w < 2 := by omega
    obtain ⟨-, t0, t1, t2, t3, t4, t5, t6⟩ := sm_ptrT h.1 hw
    obtain ⟨m, m16, m1, m2, -⟩ := sm_un h.1 w
    have q12 := sm_get h.1 30 12 83 w (by decide)
    rw [se_cl (kd_0 0), tk_C h.1 hw, Option.bind_some, se_cl (kd_50 0), nt_0 h.1 hw, Option.bind_some]
    dsimp only
    rw [if_neg (by simp), se_gf (kd_30 w), q12, if_pos rfl, mp_34 hp, ml_83 hw2]
    by_cases c1 : R.1 (83, 0) w = 0
    · rw [if_pos c1, if_pos c1, se_gp (kd_30 w), t1, se_cl (kd_31 w), cr_count (kd_31 w) (kd_32 w) t4, Option.bind_some, mp_27 hp, ml_76 hw2, m1]
      dsimp only
      rw [m2]
      by_cases c2 : m = 16
      · subst c2
        rw [if_neg (by decide), if_pos (by decide)]
        exact res_of h (by omega) rfl rfl
      · have l16 : nI m < (16 : Int32) := nI_lt (b := 16) (by omega) (by omega)
        have n16 : ¬ nI m = (16 : Int32) := fun z => c2 (sm_nIinj (b := 16) z (by omega) (by omega))
        obtain ⟨C1, a1, a2, a3, -⟩ := wr_SI (v := y) h (by omega) hw (by rw [m1]; exact n16) (no_pipe h.1 hw c1)
        obtain ⟨C2, R2, b1, b2, b3⟩ := wake_SI a3
        rw [if_pos l16, if_neg n16, se_cl (kd_30 w), a1, Option.bind_some, se_cl (kd_50 0), a2, Option.bind_some]
        dsimp only
        rw [se_cl (kd_0 0), b1, Option.bind_some, se_cl (kd_50 0), b2, Option.bind_some]
        exact res_of b3 (by omega) rfl rfl
    · rw [if_neg c1, if_neg c1]
      exact res_of h (by omega) rfl rfl
  · obtain ⟨r1, r2⟩ := no_t h.1 hx
    rw [se_cl (kd_0 0), r1, Option.bind_some, se_cl (kd_50 0), r2, Option.bind_some]
    dsimp only
    rw [if_pos rfl, if_neg (by decide)]
    exact res_of h (by omega) rfl rfl
theorem shut_R (h : SI b g t p q C R) (hb : b + 3000 < 2 ^ 30) : CRes b q (fc_K_shut (0, 0) x C) (fc_M_shut (50, 0) x R) := by
  have hle := sm_le h.1
  have hp := sm_MP h.1
  unfold fc_K_shut fc_M_shut
  by_cases hx : ∃ i, i < t ∧ x = nI i
  · obtain ⟨w, hw, e⟩ := hx
    subst e
    have hw2 : w < 2 := by omega
    have q12 := sm_get h.1 30 12 83 w (by decide)
    have q4 := sm_get h.1 30 4 70 w (by decide)
    have hst : sm_st (R.1 (70, 0) w) := (Inv_T h.2 w).1
    rw [se_cl (kd_0 0), tk_C h.1 hw, Option.bind_some, se_cl (kd_50 0), nt_0 h.1 hw, Option.bind_some]
    dsimp only
    rw [if_neg (by simp), se_gf (kd_30 w), q12, if_pos rfl, mp_34 hp, ml_83 hw2]
    by_cases c1 : R.1 (83, 0) w = 0
    · have M0 : (if (1 : Int32) < R.1 (70, 0) w then some ((0 : Int32), R) else if R.1 (78, 0) w = 0 then (if R.1 (79, 0) w = (4 : Int32) then some ((0 : Int32), R) else (xo_cl 9 (some (50, 0)) (fun n13 => fc_M_shutDown n13 (nI w) R) fun H10 => xo_cl 9 (some (50, 0)) (fun n12 => fc_M_wake n12 H10) fun H11 => xo_gb (1 : Int32) (some ((1 : Int32), H11)))) else some ((0 : Int32), R)) = if R.1 (70, 0) w = 2 ∨ (¬ R.1 (78, 0) w = 0 ∨ R.1 (79, 0) w = 4 ∨ R.1 (70, 0) w = 3) then some ((0 : Int32), R) else (xo_cl 9 (some (50, 0)) (fun n13 => fc_M_shutDown n13 (nI w) R) fun H10 => xo_cl 9 (some (50, 0)) (fun n12 => fc_M_wake n12 H10) fun H11 => xo_gb (1 : Int32) (some ((1 : Int32), H11))) := by
        by_cases d1 : (1 : Int32) < R.1 (70, 0) w
        · rw [if_pos d1, if_pos]
          rcases hst with z | z | z | z
          · rw [z] at d1; exact absurd d1 (by decide)
          · rw [z] at d1; exact absurd d1 (by decide)
          · exact Or.inl z
          · exact Or.inr (Or.inr (Or.inr z))
        · rw [if_neg d1]
          have n2 : ¬ R.1 (70, 0) w = 2 := fun z => d1 (by rw [z]; decide)
          have n3 : ¬ R.1 (70, 0) w = 3 := fun z => d1 (by rw [z]; decide)
          by_cases d2 : R.1 (78, 0) w = 0
          · rw [if_pos d2]
            by_cases d3 : R.1 (79, 0) w = 4
            · rw [if_pos d3, if_pos (Or.inr (Or.inr (Or.inl d3)))]
            · rw [if_neg d3, if_neg]
              rintro (z | z | z | z)
              · exact n2 z
              · exact z d2
              · exact d3 z
              · exact n3 z
          · rw [if_neg d2, if_pos (Or.inr (Or.inl d2))]
      rw [if_pos c1, if_pos c1, mp_21 hp, ml_70 hw2, mp_29 hp, ml_78 hw2, mp_30 hp, ml_79 hw2, se_gb0, M0, se_cl (kd_30 w)]
      have cs : fc_T_canShutDown (30, w) C = some (if R.1 (70, 0) w = 2 ∨ (¬ R.1 (78, 0) w = 0 ∨ R.1 (79, 0) w = 4 ∨ R.1 (70, 0) w = 3) then 0 else 1, C) := by
        unfold fc_T_canShutDown
        rw [se_gf (kd_30 w), q4]
        by_cases d1 : R.1 (70, 0) w = 2
        · rw [if_pos d1, if_pos (Or.inl d1), se_gb0]
        · rw [if_neg d1, se_cl (kd_30 w), is_C h.1 hw, Option.bind_some]
          by_cases d2 : ¬ R.1 (78, 0) w = 0 ∨ R.1 (79, 0) w = 4 ∨ R.1 (70, 0) w = 3
          · have ge : (if ¬ R.1 (78, 0) w = 0 ∨ R.1 (79, 0) w = 4 ∨ R.1 (70, 0) w = 3 then (1 : Int32) else 0) = 1 := if_pos d2
            rw [ge, if_neg z10, if_pos (Or.inr d2), se_gb0]
          · have ge : (if ¬ R.1 (78, 0) w = 0 ∨ R.1 (79, 0) w = 4 ∨ R.1 (70, 0) w = 3 then (1 : Int32) else 0) = 0 := if_neg d2
            rw [ge, if_pos rfl, if_neg (fun z => z.elim d1 d2), se_gb1]
      rw [cs, Option.bind_some]
      by_cases d : R.1 (70, 0) w = 2 ∨ (¬ R.1 (78, 0) w = 0 ∨ R.1 (79, 0) w = 4 ∨ R.1 (70, 0) w = 3)
      · have ge : (if R.1 (70, 0) w = 2 ∨ (¬ R.1 (78, 0) w = 0 ∨ R.1 (79, 0) w = 4 ∨ R.1 (70, 0) w = 3) then (0 : Int32) else 1) = 0 := if_pos d
        rw [ge, if_pos rfl, if_pos d, se_gb0]
        exact res_of h (by omega) rfl rfl
      · have ge : (if R.1 (70, 0) w = 2 ∨ (¬ R.1 (78, 0) w = 0 ∨ R.1 (79, 0) w = 4 ∨ R.1 (70, 0) w = 3) then (0 : Int32) else 1) = 1 := if_neg d
        obtain ⟨C1, a1, a2, a3, -⟩ := shut_SI h (by omega) hw
        obtain ⟨C2, R2, b1, b2, b3⟩ := wake_SI a3
        rw [ge, if_neg z10, if_neg d, se_cl (kd_30 w), a1, Option.bind_some, se_cl (kd_0 0), b1, Option.bind_some, se_gb1, se_cl (kd_50 0), a2, Option.bind_some, se_cl (kd_50 0), b2, Option.bind_some, se_gb1]
        exact res_of b3 (by omega) rfl rfl
    · rw [if_neg c1, if_neg c1, se_gb0, se_gb0]
      exact res_of h (by omega) rfl rfl
  · obtain ⟨r1, r2⟩ := no_t h.1 hx
    rw [se_cl (kd_0 0), r1, Option.bind_some, se_cl (kd_50 0), r2, Option.bind_some]
    dsimp only
    rw [if_pos rfl, if_neg (by decide), se_gb0, se_gb0]
    exact res_of h (by omega) rfl rfl
theorem abort_R (h : SI b g t p q C R) (hb : b + 3000 < 2 ^ 30) : CRes b q (fc_K_abort (0, 0) x y C) (fc_M_abort (50, 0) x y R) := by
  have hle := sm_le h.1
  have hp := sm_MP h.1
  unfold fc_K_abort fc_M_abort
  by_cases hx : ∃ i, i < t ∧ x = nI i
  · obtain ⟨w, hw, e⟩ := hx
    subst e
    have hw2 : w < 2 := by omega
    have q12 := sm_get h.1 30 12 83 w (by decide)
    have q9 := sm_get h.1 30 9 80 w (by decide)
    have q7 := sm_get h.1 30 7 79 w (by decide)
    rw [se_cl (kd_0 0), tk_C h.1 hw, Option.bind_some, se_cl (kd_50 0), nt_0 h.1 hw, Option.bind_some]
    dsimp only
    rw [if_neg (by simp), se_gf (kd_30 w), q12, if_pos rfl, mp_34 hp, ml_83 hw2]
    by_cases c1 : R.1 (83, 0) w = 0
    · rw [if_pos c1, if_pos c1, mp_31 hp, ml_80 hw2, mp_30 hp, ml_79 hw2, se_cl (kd_50 0)]
      rcases er_0 y C R with ⟨z1, z2⟩ | ⟨z1, z2⟩
      · rw [z1, z2, Option.bind_some, Option.bind_some]
        dsimp only
        rw [if_neg (by decide), se_gf (kd_30 w), q9]
        by_cases c2 : R.1 (80, 0) w = 0
        · rw [if_pos c2, if_pos c2, se_gf (kd_30 w), q7]
          by_cases c3 : R.1 (79, 0) w = 5
          · rw [if_pos c3, if_pos c3, se_gb0, se_gb0]
            exact res_of h (by omega) rfl rfl
          · obtain ⟨C1, a1, a2, a3, -⟩ := abt_SI (x := y) h (by omega) hw
            obtain ⟨C2, R2, b1, b2, b3⟩ := wake_SI a3
            rw [if_neg c3, if_neg c3, if_pos rfl, se_cl (kd_30 w), a1, Option.bind_some, se_cl (kd_0 0), b1, Option.bind_some, se_gb1, se_cl (kd_50 0), a2, Option.bind_some, se_cl (kd_50 0), b2, Option.bind_some, se_gb1]
            exact res_of b3 (by omega) rfl rfl
        · rw [if_neg c2, if_neg c2, se_gb0, se_gb0]
          exact res_of h (by omega) rfl rfl
      · rw [z1, z2, Option.bind_some, Option.bind_some]
        dsimp only
        rw [if_pos rfl, se_gb0]
        have M0 : (if R.1 (80, 0) w = 0 then (if R.1 (79, 0) w = (5 : Int32) then xo_gb (0 : Int32) (some ((0 : Int32), R)) else (if (1 : Int32) = 0 then (xo_cl 9 (some (50, 0)) (fun n12 => fc_M_abortTaker n12 (nI w) y R) fun H9 => xo_cl 9 (some (50, 0)) (fun n11 => fc_M_wake n11 H9) fun H10 => xo_gb (1 : Int32) (some ((1 : Int32), H10))) else xo_gb (0 : Int32) (some ((0 : Int32), R)))) else xo_gb (0 : Int32) (some ((0 : Int32), R))) = some (0, R) := by
          rw [if_neg z10, se_gb0]
          split
          · split <;> rfl
          · rfl
        refine res_of h (by omega) rfl ?_
        exact M0
    · rw [if_neg c1, if_neg c1, se_gb0, se_gb0]
      exact res_of h (by omega) rfl rfl
  · obtain ⟨r1, r2⟩ := no_t h.1 hx
    rw [se_cl (kd_0 0), r1, Option.bind_some, se_cl (kd_50 0), r2, Option.bind_some]
    dsimp only
    rw [if_pos rfl, if_neg (by decide), se_gb0, se_gb0]
    exact res_of h (by omega) rfl rfl
theorem spoil_R (h : SI b g t p q C R) (hb : b + 3000 < 2 ^ 30) : CRes b q (fc_K_spoil (0, 0) x y C) (fc_M_spoil (50, 0) x y R) := by
  have hle := sm_le h.1
  have hp := sm_MP h.1
  unfold fc_K_spoil fc_M_spoil
  by_cases hx : ∃ i, i < t ∧ x = nI i
  · obtain ⟨w, hw, e⟩ := hx
    subst e
    have hw2 : w < 2 := by omega
    have q4 := sm_get h.1 30 4 70 w (by decide)
    rw [se_cl (kd_0 0), tk_C h.1 hw, Option.bind_some, se_cl (kd_50 0), nt_0 h.1 hw, Option.bind_some]
    dsimp only
    rw [if_neg (by simp), se_gf (kd_30 w), q4, if_pos rfl, mp_21 hp, ml_70 hw2]
    by_cases c1 : R.1 (70, 0) w = 0
    · rw [if_pos c1, if_pos c1, se_cl (kd_50 0)]
      rcases er_0 y C R with ⟨z1, z2⟩ | ⟨z1, z2⟩
      · rw [z1, z2, Option.bind_some, Option.bind_some]
        dsimp only
        obtain ⟨C1, a1, a2, a3⟩ := sf_SI (x := y) h (by omega) hw c1
        obtain ⟨C2, R2, b1, b2, b3⟩ := wake_SI a3
        rw [if_neg (by decide), if_pos rfl, se_cl (kd_30 w), a1, Option.bind_some, se_cl (kd_0 0), b1, Option.bind_some, se_gb1, se_cl (kd_50 0), a2, Option.bind_some, se_cl (kd_50 0), b2, Option.bind_some, se_gb1]
        exact res_of b3 (by omega) rfl rfl
      · rw [z1, z2, Option.bind_some, Option.bind_some]
        dsimp only
        rw [if_pos rfl, if_neg (by decide), se_gb0, se_gb0]
        exact res_of h (by omega) rfl rfl
    · rw [if_neg c1, if_neg c1, se_gb0, se_gb0]
      exact res_of h (by omega) rfl rfl
  · obtain ⟨r1, r2⟩ := no_t h.1 hx
    rw [se_cl (kd_0 0), r1, Option.bind_some, se_cl (kd_50 0), r2, Option.bind_some]
    dsimp only
    rw [if_pos rfl, if_neg (by decide), se_gb0, se_gb0]
    exact res_of h (by omega) rfl rfl
theorem settle_R (h : SI b g t p q C R) : CRes b q (fc_K_settle (0, 0) x y C) (fc_M_settle (50, 0) x y R) := by
  have hle := sm_le h.1
  have hp := sm_MP h.1
  unfold fc_K_settle fc_M_settle
  by_cases hx : ∃ i, i < t ∧ x = nI i
  · obtain ⟨w, hw, e⟩ := hx
    subst e
    have hw2 : w < 2 := by omega
    have q7 := sm_get h.1 30 7 79 w (by decide)
    rw [se_cl (kd_0 0), tk_C h.1 hw, Option.bind_some, se_cl (kd_50 0), nt_0 h.1 hw, Option.bind_some]
    dsimp only
    rw [if_neg (by simp), se_gf (kd_30 w), q7, if_pos rfl, mp_30 hp, ml_79 hw2]
    by_cases c1 : R.1 (79, 0) w = 0
    · rw [if_pos c1, if_pos c1, se_gb0, se_gb0]
      exact res_of h (by omega) rfl rfl
    · have hk : R.1 (79, 0) w = 3 ∨ R.1 (79, 0) w = 4 ∨ R.1 (79, 0) w = 5 := (Inv_T h.2 w).2.1.resolve_left c1
      obtain ⟨j1, j2, j3⟩ := Inv_JS h.2 w hw
      have hj := j3 (R.1 (79, 0) w) hk
      rw [if_neg c1, if_neg c1, mp_35 hp, ml_84 hw2, se_cl (kd_50 0)]
      rcases er_1 y C R with ⟨z1, z2⟩ | ⟨z1, z2⟩
      · rw [z1, z2, Option.bind_some, Option.bind_some]
        dsimp only
        rw [if_neg (by decide), if_pos rfl, se_gp (kd_0 0), (sm_K0 h.1).2, se_gf (kd_30 w), q7, se_cl (kd_5 0)]
        by_cases c2 : R.1 (84, 0) w = 0
        · have n84 : ¬ R.1 (84, 0) w = 1 := by rw [c2]; decide
          obtain ⟨f, n, C1, -, -, a1, a2, a3⟩ := ja_3 (x := y) h hw n84 hk
          obtain ⟨C2, R2, b1, b2, b3⟩ := wake_SI a3
          rw [(has_C h.1).2 (fun z => n84 (hj.mp z).1), Option.bind_some, if_pos c2]
          dsimp only
          have hp8 : (xo_sE R (84, 0) w 1).2.1 = MP := hp
          rw [if_pos rfl, se_gp (kd_0 0), (sm_K0 h.1).2, se_gf (kd_30 w), q7, se_cl (kd_5 0), a1, Option.bind_some, se_cl (kd_0 0), b1, Option.bind_some, se_gb1, mp_35 hp, mq1_84 hw2, mp_30 hp8, ml_79 hw2, se_ne (m := (79, 0)) (by simp), se_cl (kd_50 0), a2, Option.bind_some, se_cl (kd_50 0), b2, Option.bind_some, se_gb1]
          exact res_of b3 (by omega) rfl rfl
        · have h84 : R.1 (84, 0) w = 1 := j1.resolve_left c2
          rw [(has_C h.1).1 (hj.mpr ⟨h84, rfl⟩), Option.bind_some, if_neg c2, se_gb0]
          dsimp only
          rw [if_neg (by decide), se_gb0]
          exact res_of h (by omega) rfl rfl
      · rw [z1, z2, Option.bind_some, Option.bind_some]
        dsimp only
        rw [if_pos rfl, se_gb0, if_neg z10, se_gb0]
        refine res_of h (by omega) rfl ?_
        split <;> rfl
  · obtain ⟨r1, r2⟩ := no_t h.1 hx
    rw [se_cl (kd_0 0), r1, Option.bind_some, se_cl (kd_50 0), r2, Option.bind_some]
    dsimp only
    rw [if_pos rfl, if_neg (by decide), se_gb0, se_gb0]
    exact res_of h (by omega) rfl rfl
theorem step_R (h : SI b g t p q C R) (hb : b + 3000 < 2 ^ 30) : CRes b q (fc_K_step (0, 0) C) (fc_M_step (50, 0) R) := by
  obtain ⟨v, C', R', a1, a2, a3⟩ := step_SI h (by omega)
  exact res_of a3 (by omega) a1 a2
theorem run_R (h : SI b g t p q C R) (hb : b + 30000 < 2 ^ 30) : CRes b q (fc_K_run (0, 0) C) (fc_M_run (50, 0) R) := by
  obtain ⟨v, C', R', a1, a2, a3⟩ := run_SI 200 0 b 1000 1000 C R h (by omega) (by omega) (by omega) (by omega)
  exact res_of a3 (by omega) a1 a2
theorem jobs_R (h : SI b g t p q C R) : CRes b q (fc_K_jobs (0, 0) C) (fc_M_jobs (50, 0) R) := by
  obtain ⟨n, n16, n1, n2⟩ := jc_C h.1
  refine res_of h (by omega) (a := nI n) ?_ ?_
  · unfold fc_K_jobs
    rw [se_gp (kd_0 0), (sm_K0 h.1).2, se_cl (kd_5 0), n2, Option.bind_some]
  · unfold fc_M_jobs
    rw [se_gf (kd_50 0), n1]
end PT
