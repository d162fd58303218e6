section ST
variable {b g t p q : Nat} {C R : xo_H}
theorem ga_C (h : sm b g t p C R) {i : Nat} (hi : i < g) : fc_K_giverAt (0, 0) (nI i) C = some (some (20, i), C) := by
  have hle := sm_le h
  obtain ⟨⟨e5, -, -⟩, -, e2, -, -⟩ := sm_p h
  obtain ⟨e, -⟩ := sm_ptr h hi
  unfold fc_K_giverAt
  rw [if_neg (nI_pos (by omega)), se_gf (kd_0 0), e5, if_pos (nI_lt (by omega) (by omega)), se_gp (kd_0 0), e2, se_ap (kd_12 0) (by omega) (by decide), e]
theorem tk_C (h : sm b g t p C R) {i : Nat} (hi : i < t) : fc_K_takerAt (0, 0) (nI i) C = some (some (30, i), C) := by
  have hle := sm_le h
  obtain ⟨⟨-, e6, -⟩, -, -, e3, -⟩ := sm_p h
  obtain ⟨e, -⟩ := sm_ptrT h hi
  unfold fc_K_takerAt
  rw [if_neg (nI_pos (by omega)), se_gf (kd_0 0), e6, if_pos (nI_lt (by omega) (by omega)), se_gp (kd_0 0), e3, se_ap (kd_13 0) (by omega) (by decide), e]
theorem st_tail {v x : Int32} (h : SI b g t p q C R) (hx : x = 0 ∨ x = 1) : ∃ C' R', fb_K_doFirstJob_103 (0, 0) v x C = some (v, C') ∧ fb_M_step_157 (50, 0) v x R = some (v, R') ∧ SI b g t p q C' R' := by
  unfold fb_K_doFirstJob_103 fb_M_step_157
  rcases hx with e | e
  · rw [if_pos e, if_pos e]
    exact ⟨C, R, rfl, rfl, h⟩
  · subst e
    obtain ⟨C', R', a1, a2, a3⟩ := wake_SI h
    rw [if_neg (by decide), if_neg (by decide), se_cl (kd_0 0), a1, Option.bind_some, se_cl (kd_50 0), a2, Option.bind_some]
    exact ⟨C', R', rfl, rfl, a3⟩
/-- one job -/
theorem st_SI {n : Nat} (h : SI b g t p q C R) (hb : b + 2000 < 2 ^ 30) (hn : R.1 (50, 0) 43 = nI (n + 1)) (hn16 : n < 16) : ∃ v C' R', fc_K_doFirstJob (0, 0) C = some (v, C') ∧ fc_M_step (50, 0) R = some (v, R') ∧ SI (b + 100) g t p q C' R' := by
  have hle := sm_le h.1
  have hp := sm_MP h.1
  obtain ⟨m, f, hd, -, hf64, -, -, hf, -⟩ := h.1.2.2.2.2.2.1
  obtain ⟨-, -, -, -, -, ⟨j0, j1, j2, -⟩, -⟩ := h.1.2.2.2.2.2.2
  obtain ⟨C1, C2, C3, a1, a2, a3, a4, a5, a6⟩ := jb_pop h.1 hn hn16 hf hf64
  have hjf : jF R = f := by unfold jF; rw [hf, nI_clamp (by omega)]
  have k0 : jK R 0 = R.1 (90, 0) f := by unfold jK; rw [hjf, show (f + 0) % 64 = f by omega]
  have w0 : jW R 0 = R.1 (91, 0) f := by unfold jW; rw [hjf, show (f + 0) % 64 = f by omega]
  have hjn : jN R = n + 1 := by unfold jN; rw [hn, nI_clamp (by omega)]
  have jv0 := (Inv_J1 h.2).1 0 (by omega)
  have ak : ∀ m c, (m : xo_N).1 = 50 ∨ (jp_R R f n).1 m c = R.1 m c := fun m c => by
    by_cases e : m.1 = 50
    · exact Or.inl e
    · refine Or.inr ?_
      unfold jp_R
      rw [se_ne (fun z => e (congrArg Prod.fst z)), se_ne (fun z => e (congrArg Prod.fst z))]
  have rk : ∀ a c, ¬ a = 50 → (jp_R R f n).1 (a, 0) c = R.1 (a, 0) c := fun a c ha => (ak (a, 0) c).resolve_left ha
  generalize hv : R.1 (90, 0) f = v at a1 k0
  generalize hw : R.1 (91, 0) f = u at a2 w0
  generalize hx : R.1 (92, 0) f = x at a3
  rw [k0, w0] at jv0
  have c10 : C1.2.1 (0, 0) 1 = some (5, 0) := by rw [a4]; exact (sm_K0 h.1).2
  have c11 : C1.2.1 (5, 0) 1 = some (8, 0) := by rw [a4]; exact j1
  have c20 : C2.2.1 (0, 0) 1 = some (5, 0) := by rw [a5]; exact (sm_K0 h.1).2
  have c21 : C2.2.1 (5, 0) 2 = some (10, 0) := by rw [a5]; exact j2
  have K0 : fc_K_doFirstJob (0, 0) C = if v = (1 : Int32) then (xo_cl 0 (some (0, 0)) (fun n25 => fc_K_giverAt n25 u C3) fun r22 => xo_cl 0 (some (0, 0)) (fun n24 => fc_K_doPulled n24 r22.1 x r22.2) fun H23 => fb_K_doFirstJob_103 (0, 0) v (1 : Int32) H23) else (if v = (2 : Int32) then (xo_cl 0 (some (0, 0)) (fun n21 => fc_K_giverAt n21 u C3) fun r18 => xo_cl 0 (some (0, 0)) (fun n20 => fc_K_doParted n20 r18.1 x r18.2) fun H19 => fb_K_doFirstJob_103 (0, 0) v (1 : Int32) H19) else (if v = (6 : Int32) then (xo_cl 0 (some (0, 0)) (fun n17 => fc_K_pipeAt n17 u C3) fun r14 => xo_cl 0 (some (0, 0)) (fun n16 => fc_K_doPump n16 r14.1 r14.2) fun r15 => fb_K_doFirstJob_103 (0, 0) v r15.1 r15.2) else (xo_cl 0 (some (0, 0)) (fun n13 => fc_K_takerAt n13 u C3) fun r10 => xo_cl 0 (some (0, 0)) (fun n12 => fc_K_doSettled n12 r10.1 v x r10.2) fun H11 => fb_K_doFirstJob_103 (0, 0) v (1 : Int32) H11))) := by
    unfold fc_K_doFirstJob
    rw [se_gp (kd_0 0), (sm_K0 h.1).2, se_gp (kd_5 0), j0, se_cl (kd_6 0), a1, Option.bind_some]
    dsimp only
    rw [se_gp (kd_0 0), c10, se_gp (kd_5 0), c11, se_cl (kd_8 0), a2, Option.bind_some]
    dsimp only
    rw [se_gp (kd_0 0), c20, se_gp (kd_5 0), c21, se_cl (kd_10 0), a3, Option.bind_some]
  have M0 : fc_M_step (50, 0) R = if v = (1 : Int32) then (xo_cl 9 (some (50, 0)) (fun n31 => fc_M_pulledJob n31 u x (jp_R R f n)) fun H30 => fb_M_step_157 (50, 0) v (1 : Int32) H30) else (if v = (2 : Int32) then (xo_cl 9 (some (50, 0)) (fun n29 => fc_M_partedJob n29 u x (jp_R R f n)) fun H28 => fb_M_step_157 (50, 0) v (1 : Int32) H28) else (if v = (6 : Int32) then (xo_gp 9 41 (jp_R R f n) (some (50, 0)) fun o24 => xo_az (jp_R R f n) o24 u (0 : Int32) fun H25 => xo_cl 9 (some (50, 0)) (fun n27 => fc_M_pump n27 u H25) fun r26 => fb_M_step_157 (50, 0) v r26.1 r26.2) else (xo_gp 9 35 (jp_R R f n) (some (50, 0)) fun o16 => xo_az (jp_R R f n) o16 u (0 : Int32) fun H17 => if v = (3 : Int32) then (xo_cl 9 (some (50, 0)) (fun n23 => fc_M_written n23 u x H17) fun H22 => fb_M_step_157 (50, 0) v (1 : Int32) H22) else (if v = (4 : Int32) then (xo_cl 9 (some (50, 0)) (fun n21 => fc_M_shutDone n21 u x H17) fun H20 => fb_M_step_157 (50, 0) v (1 : Int32) H20) else (xo_cl 9 (some (50, 0)) (fun n19 => fc_M_abortDone n19 u x H17) fun H18 => fb_M_step_157 (50, 0) v (1 : Int32) H18))))) := by
    have e64 : (64 : Int32) = nI 64 := rfl
    have ep : nI (n + 1) - 1 = nI n := nI_pred n
    unfold fc_M_step
    rw [se_gf (kd_50 0), hn, if_neg (nI_ne0 (by omega) (by omega)), mp_44 hp, se_gf (kd_50 0), hf, ml_90 hf64, hv, mp_45 hp, se_gf (kd_50 0), hf, ml_91 hf64, hw, mp_46 hp, se_gf (kd_50 0), hf, ml_92 hf64, hx, se_gf (kd_50 0), hf, nI_1, e64, se_rm (by omega) (by decide) (by decide), se_pf (kd_50 0), se_gf (kd_50 0), se_nf (by simp), hn, se_pf (kd_50 0), ep]
    rfl
  have hpj : (jp_R R f n).2.1 = MP := hp
  rw [K0, M0]
  rcases jv0 with ⟨e, r, hr, e'⟩ | ⟨e, r, hr, e'⟩ | ⟨e, r, hr, e'⟩ | ⟨e, r, hr, e'⟩
  · subst e e'
    obtain ⟨C4, R4, b1, b2, b3⟩ := pj_SI (x := x) a6 (jp_1 hle.1 hf hn hf64 (by omega) h.2 hr k0 w0) (by omega) hr
    obtain ⟨C5, R5, d1, d2, d3⟩ := st_tail (v := 1) b3 (Or.inr rfl)
    refine ⟨1, C5, R5, ?_, ?_, SI_more d3 (by omega)⟩
    · rw [if_pos rfl, se_cl (kd_0 0), ga_C a6 hr, Option.bind_some]
      dsimp only
      rw [se_cl (kd_0 0), b1, Option.bind_some]
      exact d1
    · rw [if_pos rfl, se_cl (kd_50 0), b2, Option.bind_some]
      exact d2
  · subst e e'
    obtain ⟨y1, y2⟩ := jp_2 hf hn hf64 (by omega) h.2 k0 w0
    obtain ⟨z1, z2, z3⟩ := Inv_JD h.2 r hr ⟨0, by omega, k0, w0⟩
    obtain ⟨C4, R4, b1, b2, b3⟩ := pd_SI (ch := x) ⟨a6, y1⟩ (by omega) hr (by rw [rk 65 r (by decide)]; exact z1) ((rk 67 r (by decide)).trans z2) ((rk 62 r (by decide)).trans z3) y2
    obtain ⟨C5, R5, d1, d2, d3⟩ := st_tail (v := 2) b3 (Or.inr rfl)
    refine ⟨2, C5, R5, ?_, ?_, SI_more d3 (by omega)⟩
    · rw [if_neg (by decide), if_pos rfl, se_cl (kd_0 0), ga_C a6 hr, Option.bind_some]
      dsimp only
      rw [se_cl (kd_0 0), b1, Option.bind_some]
      exact d1
    · rw [if_neg (by decide), if_pos rfl, se_cl (kd_50 0), b2, Option.bind_some]
      exact d2
  · subst e e'
    have s4 : SI b g t p q C3 (xo_sE (jp_R R f n) (89, 0) r 0) := ⟨sm_own a6 rfl, jp_6 hle.2.2 hf hn hf64 (by omega) h.2 hr k0 w0⟩
    obtain ⟨vv, C4, R4, hvv, b1, b2, b3⟩ := pm_SI s4 (by omega) hr
    obtain ⟨C5, R5, d1, d2, d3⟩ := st_tail (v := 6) b3 hvv
    refine ⟨6, C5, R5, ?_, ?_, d3⟩
    · rw [if_neg (by decide), if_neg (by decide), if_pos rfl, se_cl (kd_0 0), pa_C a6 hr, Option.bind_some]
      dsimp only
      rw [se_cl (kd_0 0), b1, Option.bind_some]
      exact d1
    · rw [if_neg (by decide), if_neg (by decide), if_pos rfl, mp_41 hpj, mq0_89 (by omega), se_cl (kd_50 0), b2, Option.bind_some]
      exact d2
  · subst e'
    obtain ⟨y1, y2⟩ := jp_3 hle.2.1 hf hn hf64 (by omega) h.2 hr (by rw [k0]; exact e) w0
    rw [k0] at y2
    have s4 : SI b g t p q C3 (xo_sE (jp_R R f n) (84, 0) r 0) := ⟨sm_own a6 rfl, y1⟩
    obtain ⟨C4, R4, b1, b2, b3, b4, b5⟩ := ds_SI (x := x) (k := v) s4 (by omega) hr (by rw [xo_sE_eq]; decide) (by rw [se_ne (by simp), rk 79 r (by decide)]; exact y2) e
    obtain ⟨C5, R5, d1, d2, d3⟩ := st_tail (v := v) b5 (Or.inr rfl)
    have n1 : ¬ v = 1 := by rcases e with z | z | z <;> rw [z] <;> decide
    have n2 : ¬ v = 2 := by rcases e with z | z | z <;> rw [z] <;> decide
    have n6 : ¬ v = 6 := by rcases e with z | z | z <;> rw [z] <;> decide
    refine ⟨v, C5, R5, ?_, ?_, SI_more d3 (by omega)⟩
    · rw [if_neg n1, if_neg n2, if_neg n6, se_cl (kd_0 0), tk_C a6 hr, Option.bind_some]
      dsimp only
      rw [se_cl (kd_0 0), b1, Option.bind_some]
      exact d1
    · rw [if_neg n1, if_neg n2, if_neg n6, mp_35 hpj, mq0_84 (by omega)]
      rcases e with z | z | z
      · rw [if_pos z, se_cl (kd_50 0), b2 z, Option.bind_some]
        exact d2
      · rw [if_neg (by rw [z]; decide), if_pos z, se_cl (kd_50 0), b3 z, Option.bind_some]
        exact d2
      · rw [if_neg (by rw [z]; decide), if_neg (by rw [z]; decide), se_cl (kd_50 0), b4 z, Option.bind_some]
        exact d2
theorem jc_C (h : sm b g t p C R) : ∃ n, n ≤ 16 ∧ R.1 (50, 0) 43 = nI n ∧ fc_J_count (5, 0) C = some (nI n, C) := by
  obtain ⟨n, f, hd, a1, a2, a3, a4, a5, ⟨b1, b2⟩, -⟩ := h.2.2.2.2.2.1
  obtain ⟨-, -, -, -, -, ⟨j0, -⟩, -⟩ := h.2.2.2.2.2.2
  refine ⟨n, a1, a4, ?_⟩
  unfold fc_J_count
  rw [se_gp (kd_5 0), j0, se_gf (kd_6 0), b1]
theorem step_SI (h : SI b g t p q C R) (hb : b + 2000 < 2 ^ 30) : ∃ v C' R', fc_K_step (0, 0) C = some (v, C') ∧ fc_M_step (50, 0) R = some (v, R') ∧ SI (b + 100) g t p q C' R' := by
  obtain ⟨n, n16, n1, n2⟩ := jc_C h.1
  have K0 : fc_K_step (0, 0) C = if nI n = 0 then some ((0 : Int32), C) else (xo_cl 0 (some (0, 0)) (fun n4 => fc_K_doFirstJob n4 C) fun r3 => some (r3.1, r3.2)) := by
    unfold fc_K_step
    rw [se_gp (kd_0 0), (sm_K0 h.1).2, se_cl (kd_5 0), n2, Option.bind_some]
  rw [K0]
  cases n with
  | zero =>
    rw [if_pos (by decide)]
    refine ⟨0, C, R, rfl, ?_, SI_more h (by omega)⟩
    unfold fc_M_step
    rw [se_gf (kd_50 0), n1, if_pos (by decide)]
  | succ m =>
    rw [if_neg (nI_ne0 (by omega) (by omega))]
    obtain ⟨v, C', R', a1, a2, a3⟩ := st_SI h hb n1 (by omega)
    refine ⟨v, C', R', ?_, a2, a3⟩
    rw [se_cl (kd_0 0), a1, Option.bind_some]
theorem run_SI : ∀ (d i b fu fv : Nat) (C R : xo_H), SI b g t p q C R → i + d = 200 → d < fu → d < fv → b + 100 * d + 2000 < 2 ^ 30 → ∃ v C' R', fb_K_run_2 fu (0, 0) (nI i) C = some (v, C') ∧ fb_M_run_2 fv (50, 0) (nI i) R = some (v, R') ∧ SI (b + 100 * d) g t p q C' R'
  | d, i, b, fu + 1, fv + 1, C, R, h, hi, hf, hf', hb => by
    have e200 : (200 : Int32) = nI 200 := rfl
    rw [fb_K_run_2, fb_M_run_2, e200]
    cases d with
    | zero =>
      rw [if_neg (nI_nlt (by omega) (by omega)), if_neg (nI_nlt (by omega) (by omega))]
      exact ⟨_, C, R, rfl, rfl, h⟩
    | succ d =>
      obtain ⟨n, n16, n1, n2⟩ := jc_C h.1
      rw [if_pos (nI_lt (by omega) (by omega)), if_pos (nI_lt (by omega) (by omega)), se_gp (kd_0 0), (sm_K0 h.1).2, se_cl (kd_5 0), n2, Option.bind_some, se_gf (kd_50 0), n1]
      dsimp only
      cases n with
      | zero =>
        rw [if_neg (by decide), if_neg (by decide)]
        exact ⟨_, C, R, rfl, rfl, SI_more h (by omega)⟩
      | succ m =>
        have pos : 0 < nI (m + 1) := (nI_pos_iff (by omega)).mpr (by rw [nI_n0 (by omega)]; omega)
        rw [if_pos pos, if_pos pos]
        obtain ⟨v, C', R', a1, a2, a3⟩ := st_SI h (by omega) n1 (by omega)
        rw [se_cl (kd_0 0), a1, Option.bind_some, se_cl (kd_50 0), a2, Option.bind_some, nI_1]
        obtain ⟨v', C2, R2, b1, b2, b3⟩ := run_SI d (i + 1) (b + 100) fu fv C' R' a3 (by omega) (by omega) (by omega) (by omega)
        exact ⟨v', C2, R2, b1, b2, SI_more b3 (by omega)⟩
end ST
