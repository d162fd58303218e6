section WK
variable {b g t p q : Nat} {C R : xo_H}
theorem sm_p (h : sm b g t p C R) : (C.1 (0, 0) 5 = nI g ∧ C.1 (0, 0) 6 = nI t ∧ C.1 (0, 0) 7 = nI p) ∧ (R.1 (50, 0) 0 = nI g ∧ R.1 (50, 0) 20 = nI t ∧ R.1 (50, 0) 36 = nI p) ∧ C.2.1 (0, 0) 2 = some (12, 0) ∧ C.2.1 (0, 0) 3 = some (13, 0) ∧ C.2.1 (0, 0) 4 = some (14, 0) := by
  obtain ⟨-, a1, a2, ⟨-, -, a3, a4, a5⟩, -⟩ := h.2.2.2.2.2.2
  exact ⟨a1, a2, a3, a4, a5⟩
theorem ho_C (h : sm b g t p C R) {k w : Int32} : ∀ (d i fu : Nat), i + d = jN R → d < fu → ((∃ j, i ≤ j ∧ j < jN R ∧ jK R j = k ∧ jW R j = w) → fb_J_holds_2 fu (5, 0) k w (nI i) C = some (1, C)) ∧ ((∀ j, i ≤ j → j < jN R → ¬ (jK R j = k ∧ jW R j = w)) → fb_J_holds_2 fu (5, 0) k w (nI i) C = some (0, C))
  | d, i, fu + 1, hi, hf => by
    obtain ⟨n, f, hd, a1, a2, a3, a4, a5, ⟨b1, b2⟩, ⟨b3, b4⟩, ⟨b5, b6⟩, a6⟩ := h.2.2.2.2.2.1
    have hn : jN R = n := by unfold jN; rw [a4, nI_clamp (by omega)]
    have hjf : jF R = f := by unfold jF; rw [a5, nI_clamp (by omega)]
    obtain ⟨-, -, -, -, -, ⟨j0, j1, j2, r6, r8, r10⟩, -⟩ := h.2.2.2.2.2.2
    rw [hn] at hi ⊢
    rw [fb_J_holds_2, se_gp (kd_5 0), j0, se_gf (kd_6 0), b1]
    cases d with
    | zero =>
      rw [if_neg (nI_nlt (by omega) (by omega)), se_gb0]
      exact ⟨fun ⟨j, h1, h2, _⟩ => by omega, fun _ => rfl⟩
    | succ d =>
      have ih := ho_C h (k := k) (w := w) d (i + 1) fu (by omega) (by omega)
      rw [hn] at ih
      obtain ⟨e1, e2, e3⟩ := a6 i (by omega)
      have k1 : C.1 (7, 0) ((hd + i) % 16) = jK R i := by unfold jK; rw [hjf]; exact e1
      have k2 : C.1 (9, 0) ((hd + i) % 16) = jW R i := by unfold jW; rw [hjf]; exact e2
      rw [if_pos (nI_lt (by omega) (by omega)), se_gp (kd_5 0), j0, se_cl (kd_6 0), sm_at (kd_6 0) (kd_7 0) r6 b1 b2 a3 (by omega) (by decide) a1, Option.bind_some]
      show ((∃ j, i ≤ j ∧ j < n ∧ jK R j = k ∧ jW R j = w) → (if C.1 (7, 0) ((hd + i) % 16) = k then (xo_gp 2 1 C (some (5, 0)) fun o5 => xo_cl 3 o5 (fun n7 => fc_R_at n7 (nI i) C) fun r6 => if r6.1 = w then (xo_gb (1 : Int32) (some ((1 : Int32), r6.2))) else (fb_J_holds_2 fu (5, 0) k w (nI i + (1 : Int32)) r6.2)) else (fb_J_holds_2 fu (5, 0) k w (nI i + (1 : Int32)) C)) = _) ∧ (_ → (if C.1 (7, 0) ((hd + i) % 16) = k then (xo_gp 2 1 C (some (5, 0)) fun o5 => xo_cl 3 o5 (fun n7 => fc_R_at n7 (nI i) C) fun r6 => if r6.1 = w then (xo_gb (1 : Int32) (some ((1 : Int32), r6.2))) else (fb_J_holds_2 fu (5, 0) k w (nI i + (1 : Int32)) r6.2)) else (fb_J_holds_2 fu (5, 0) k w (nI i + (1 : Int32)) C)) = _)
      rw [k1, se_gp (kd_5 0), j1, se_cl (kd_8 0), sm_at (kd_8 0) (kd_9 0) r8 b3 b4 a3 (by omega) (by decide) a1, Option.bind_some]
      show ((∃ j, i ≤ j ∧ j < n ∧ jK R j = k ∧ jW R j = w) → (if jK R i = k then (if C.1 (9, 0) ((hd + i) % 16) = w then (xo_gb (1 : Int32) (some ((1 : Int32), C))) else (fb_J_holds_2 fu (5, 0) k w (nI i + (1 : Int32)) C)) else (fb_J_holds_2 fu (5, 0) k w (nI i + (1 : Int32)) C)) = _) ∧ (_ → (if jK R i = k then (if C.1 (9, 0) ((hd + i) % 16) = w then (xo_gb (1 : Int32) (some ((1 : Int32), C))) else (fb_J_holds_2 fu (5, 0) k w (nI i + (1 : Int32)) C)) else (fb_J_holds_2 fu (5, 0) k w (nI i + (1 : Int32)) C)) = _)
      rw [k2, nI_1, se_gb1]
      by_cases c : jK R i = k ∧ jW R i = w
      · rw [if_pos c.1, if_pos c.2]
        exact ⟨fun _ => rfl, fun z => absurd c (z i (by omega) (by omega))⟩
      · have e : (if jK R i = k then (if jW R i = w then some ((1 : Int32), C) else fb_J_holds_2 fu (5, 0) k w (nI (i + 1)) C) else fb_J_holds_2 fu (5, 0) k w (nI (i + 1)) C) = fb_J_holds_2 fu (5, 0) k w (nI (i + 1)) C := by
          by_cases c1 : jK R i = k
          · rw [if_pos c1, if_neg fun z => c ⟨c1, z⟩]
          · rw [if_neg c1]
        rw [e]
        refine ⟨fun ⟨j, z1, z2, z3, z4⟩ => ih.1 ⟨j, ?_, z2, z3, z4⟩, fun z => ih.2 fun j y1 y2 => z j (by omega) y2⟩
        rcases Nat.lt_or_ge i j with y | y
        · exact y
        · have : j = i := by omega
          subst this
          exact absurd ⟨z3, z4⟩ c
theorem has_C (h : sm b g t p C R) {k : Int32} {w : Nat} : (has R k w → fc_J_holds (5, 0) k (nI w) C = some (1, C)) ∧ (¬ has R k w → fc_J_holds (5, 0) k (nI w) C = some (0, C)) := by
  have hj : jN R ≤ 16 := by
    obtain ⟨n, f, hd, a1, a2, a3, a4, -⟩ := h.2.2.2.2.2.1
    unfold jN
    rw [a4, nI_clamp (by omega)]
    exact a1
  obtain ⟨x, y⟩ := ho_C h (k := k) (w := nI w) (jN R) 0 1000 (by omega) (by omega)
  unfold fc_J_holds
  refine ⟨fun ⟨i, i1, i2, i3⟩ => x ⟨i, by omega, i1, i2, i3⟩, fun z => y fun j _ j1 j2 => z ⟨j, j1, j2.1, j2.2⟩⟩
theorem pa_C (h : sm b g t p C R) {i : Nat} (hi : i < p) : fc_K_pipeAt (0, 0) (nI i) C = some (some (40, i), C) := by
  have hle := sm_le h
  obtain ⟨⟨-, -, e7⟩, -, -, -, e4⟩ := sm_p h
  obtain ⟨e, -⟩ := sm_pipe h hi
  unfold fc_K_pipeAt
  rw [if_neg (nI_pos (by omega)), se_gf (kd_0 0), e7, if_pos (nI_lt (by omega) (by omega)), se_gp (kd_0 0), e4, se_ap (kd_14 0) (by omega) (by decide), e]
theorem wk_SI : ∀ (d i fu fv : Nat) (C R : xo_H), SI b g t p q C R → i + d = p → d < fu → d < fv → ∃ C' R', fb_K_awaitPumps_2 fu (0, 0) (nI i) C = some C' ∧ fb_M_wake_2 fv (50, 0) (nI i) R = some R' ∧ SI b g t p q C' R'
  | d, i, fu + 1, fv + 1, C, R, h, hi, hf, hf' => by
    have hle := sm_le h.1
    have hp := sm_MP h.1
    obtain ⟨⟨-, -, e7⟩, ⟨-, -, e36⟩, -⟩ := sm_p h.1
    rw [fb_K_awaitPumps_2, fb_M_wake_2, se_gf (kd_0 0), e7, se_gf (kd_50 0), e36]
    cases d with
    | zero =>
      rw [if_neg (nI_nlt (by omega) (by omega)), if_neg (nI_nlt (by omega) (by omega))]
      exact ⟨C, R, rfl, rfl, h⟩
    | succ d =>
      have hip : i < p := by omega
      have hi2 : i < 2 := by omega
      have q6 := sm_get h.1 40 6 88 i (by decide)
      have ih := wk_SI d (i + 1) fu fv
      rw [if_pos (nI_lt (by omega) (by omega)), if_pos (nI_lt (by omega) (by omega)), se_cl (kd_0 0), pa_C h.1 hip, Option.bind_some, mp_40 hp, ml_88 hi2]
      show ∃ C' R', (if (some (40, i) : Option xo_N) = none then fb_K_awaitPumps_2 fu (0, 0) (nI i + (1 : Int32)) C else (xo_gf 8 6 C (some (40, i)) fun v3 => if v3 = 0 then (xo_gp 0 1 C (some (0, 0)) fun o4 => xo_cl 2 o4 (fun n9 => fc_J_holds n9 (6 : Int32) (nI i) C) fun r5 => if r5.1 = 0 then (xo_gp 0 1 r5.2 (some (0, 0)) fun o6 => xo_cl 2 o6 (fun n8 => fc_J_add n8 (6 : Int32) (nI i) (0 : Int32) r5.2) fun H7 => fb_K_awaitPumps_2 fu (0, 0) (nI i + (1 : Int32)) H7) else (fb_K_awaitPumps_2 fu (0, 0) (nI i + (1 : Int32)) r5.2)) else (fb_K_awaitPumps_2 fu (0, 0) (nI i + (1 : Int32)) C))) = some C' ∧ _
      rw [if_neg (by simp), se_gf (kd_40 i), q6, nI_1]
      by_cases c : R.1 (88, 0) i = 0
      · rw [if_pos c, if_pos c, se_gp (kd_0 0), (sm_K0 h.1).2, se_cl (kd_5 0), mp_41 hp, ml_89 hi2]
        by_cases d' : has R 6 i
        · have e : R.1 (89, 0) i = 1 := (Inv_JM h.2 i hip).2.mp d'
          have n1 : ¬ (1 : Int32) = 0 := by decide
          rw [(has_C h.1).1 d', Option.bind_some, e, if_neg n1, if_neg n1]
          exact ih C R h (by omega) (by omega) (by omega)
        · have n1 : ¬ R.1 (89, 0) i = 1 := fun z => d' ((Inv_JM h.2 i hip).2.mpr z)
          have e : R.1 (89, 0) i = 0 := by
            rcases (Inv_JM h.2 i hip).1 with z | z
            · exact z
            · exact absurd z n1
          obtain ⟨f, n, C', j1, j2, j3, j4, j5⟩ := ja_6 (x := 0) h hip n1
          rw [(has_C h.1).2 d', Option.bind_some, e, if_pos rfl, mp_41 hp, mq1_89 hi2, se_cl (kd_50 0), j4, Option.bind_some]
          simp only [if_true]
          rw [se_gp (kd_0 0), (sm_K0 h.1).2, se_cl (kd_5 0), j3, Option.bind_some]
          exact ih C' _ j5 (by omega) (by omega) (by omega)
      · rw [if_neg c, if_neg c]
        exact ih C R h (by omega) (by omega) (by omega)
theorem wake_SI (h : SI b g t p q C R) : ∃ C' R', fc_K_awaitPumps (0, 0) C = some C' ∧ fc_M_wake (50, 0) R = some R' ∧ SI b g t p q C' R' := by
  have hle := sm_le h.1
  unfold fc_K_awaitPumps fc_M_wake
  exact wk_SI p 0 1000 1000 C R h (by omega) (by omega) (by omega)
end WK
