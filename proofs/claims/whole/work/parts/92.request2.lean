section RQ
variable {b g t p q r : Nat} {C R : xo_H} {who : Int32}
/-- a chunk is there -/
theorem rq_chunk {n : Nat} (h : SI b g t p q C R) (hb : b + 500 < 2 ^ 30) (hr : r < g) (hs : R.1 (51, 0) r = 0) (h60 : R.1 (60, 0) r = nI (n + 1)) (h16 : n < 16) (hP : rqP g t p r who R) : ∃ C1 C2 C3 C' R', fc_C_takeFirst (21, r) C = some (R.1 (59, 0) (16 * r), C1) ∧ fc_G_closeIfDrained (20, r) C1 = some C2 ∧ fc_K_pullIfNeeded (0, 0) (some (20, r)) C2 = some C3 ∧ fc_K_answerChunk (0, 0) (some (20, r)) (sm_en who) (R.1 (59, 0) (16 * r)) C3 = some C' ∧ (xo_gp 9 5 (qt_R R r n) (some (50, 0)) fun o17 => xo_al 1 (qt_R R r n) o17 (nI r) fun v18 => if v18 = 0 then (fb_M_request_98 (50, 0) (nI r) who (R.1 (59, 0) (16 * r)) (qt_R R r n)) else (xo_gp 9 10 (qt_R R r n) (some (50, 0)) fun o19 => xo_al 0 (qt_R R r n) o19 (nI r) fun v20 => if v20 = 0 then (xo_cl 9 (some (50, 0)) (fun n22 => fc_M_close n22 (nI r) (qt_R R r n)) fun H21 => fb_M_request_103 (50, 0) (nI r) who (R.1 (59, 0) (16 * r)) H21) else (fb_M_request_98 (50, 0) (nI r) who (R.1 (59, 0) (16 * r)) (qt_R R r n)))) = some R' ∧ SI (b + 40) g t p q C' R' ∧ agr kQ R R' := by
  have hp := sm_MP h.1
  have hle := sm_le h.1
  have hr6 : r < 6 := by omega
  have h62 : R.1 (62, 0) r = 0 := Inv_Q h.2 r (by rw [h60, nI_n0 (by omega)]; omega)
  obtain ⟨C1, a1, a2⟩ := qt_sm h.1 hr h60 h16
  generalize hch : R.1 (59, 0) (16 * r) = ch at a1
  have s1 : SI b g t p q C1 (qt_R R r n) := ⟨a2, qt_Inv h.2 hr hs h62⟩
  have k1 : agr kG R (qt_R R r n) := qt_agr (fun _ => rfl) rfl
  have e62 : (qt_R R r n).1 (62, 0) r = 0 := by rw [qt_agr (L := fun a _ => a == 62) (fun _ => rfl) rfl (62, 0) r rfl]; exact h62
  have e51 : (qt_R R r n).1 (51, 0) r = 0 := by rw [qt_agr (L := fun a _ => a == 51) (fun _ => rfl) rfl (51, 0) r rfl]; exact hs
  have hpq := sm_MP s1.1
  generalize hY : qt_R R r n = Y at s1 k1 e62 e51 hpq a2
  have e51' : ¬ Y.1 (51, 0) r = 2 := by rw [e51]; decide
  obtain ⟨C2, c1, c2⟩ := cdr_C s1.1 hr
  have s2 : SI b g t p q C2 (rCD Y r) := ⟨c2, rCD_Inv s1.2 hr e62 e51'⟩
  have k2 : agr kG R (rCD Y r) := agr_tr k1 (rCD_agr rfl)
  have z62 : (rCD Y r).1 (62, 0) r = 0 := by rw [rCD_agr (L := fun a _ => a == 62) rfl (62, 0) r rfl]; exact e62
  obtain ⟨C3, R3, d1, d2, d3, d4, -, d6⟩ := pull_SI s2 (by omega) hr
  obtain ⟨C4, R4, f1, f2, f3, f4⟩ := rq_an (ch := ch) (R0 := R) d3 (by omega) hr hP (agr_tr k2 d4) (d6 z62)
  by_cases cc : ¬ Y.1 (55, 0) r = 0 ∧ Y.1 (60, 0) r = 0
  · have e : rCD Y r = xo_sE Y (51, 0) r 1 := by unfold rCD; rw [if_pos cc]
    have hN : ¬ (rCD Y r).1 (51, 0) r = 0 := by rw [e, xo_sE_eq]; decide
    obtain ⟨n1, n2, n3⟩ := rPR_no hN
    obtain ⟨D, x1, x2, x3, x4, x5⟩ := pr_SI s2 (by omega) hr
    rw [n2] at x2
    have hpull : fc_K_pullIfNeeded (0, 0) (some (20, r)) C2 = some D := by
      unfold fc_K_pullIfNeeded
      rw [se_cl (kd_20 r), x1, Option.bind_some]
      simp only [n1, if_true]
    obtain ⟨C5, R5, g1, g2, g3, g4⟩ := rq_an (ch := ch) (R0 := R) (C := D) (R := rCD Y r) ⟨x2, s2.2⟩ (by omega) hr hP k2 z62
    refine ⟨C1, C2, D, C5, R5, a1, c1, hpull, g1, ?_, SI_more g3 (by omega), g4⟩
    rw [mp_5 hpq, ml_55 hr6, if_neg cc.1, mp_10 hpq, ml_60 hr6, if_pos cc.2, se_cl (kd_50 0), cdr_R s1 (by omega) hr cc.2 e62 e51', Option.bind_some]
    unfold fb_M_request_103
    rw [se_cl (kd_50 0), ← e, g2]
    rfl
  · have e : rCD Y r = Y := by unfold rCD; rw [if_neg cc]
    refine ⟨C1, C2, C3, C4, R4, a1, c1, d1, f1, ?_, SI_more f3 (by omega), f4⟩
    have r98 : fb_M_request_98 (50, 0) (nI r) who ch Y = some R4 := by
      unfold fb_M_request_98 fb_M_request_103
      rw [e] at d2
      rw [se_cl (kd_50 0), d2, Option.bind_some, se_cl (kd_50 0), f2]
      rfl
    rw [mp_5 hpq, ml_55 hr6]
    by_cases c : Y.1 (55, 0) r = 0
    · rw [if_pos c]; exact r98
    · rw [if_neg c, mp_10 hpq, ml_60 hr6, if_neg fun z => cc ⟨c, z⟩]; exact r98
theorem rq_SI (h : SI b g t p q C R) (hb : b + 500 < 2 ^ 30) (hr : r < g) (hP : rqP g t p r who R) : ∃ C' R', fc_K_request (0, 0) (some (20, r)) (sm_en who) C = some C' ∧ fc_M_request (50, 0) (nI r) who R = some R' ∧ SI (b + 40) g t p q C' R' ∧ agr kQ R R' := by
  have hp := sm_MP h.1
  have hle := sm_le h.1
  have hr6 : r < 6 := by omega
  obtain ⟨-, p0, p1, p2, p3, p4, p5, p6⟩ := sm_ptr h.1 hr
  by_cases hs : R.1 (51, 0) r = 0
  · obtain ⟨n, n16, n1, n2⟩ := sm_qn h.1 r
    have K0 : fc_K_request (0, 0) (some (20, r)) (sm_en who) C = if 0 < nI n then (xo_cl 4 (some (21, r)) (fun n19 => fc_C_takeFirst n19 C) fun r12 => xo_cl 5 (some (20, r)) (fun n18 => fc_G_closeIfDrained n18 r12.2) fun H13 => xo_cl 0 (some (0, 0)) (fun n17 => fc_K_pullIfNeeded n17 (some (20, r)) H13) fun H14 => xo_cl 0 (some (0, 0)) (fun n16 => fc_K_answerChunk n16 (some (20, r)) (sm_en who) r12.1 H14) fun H15 => some H15) else (xo_cl 3 (some (24, r)) (fun n10 => fc_R_add n10 (sm_en who) C) fun H4 => xo_gf 5 4 H4 (some (20, r)) fun v5 => if v5 = 0 then (xo_cl 0 (some (0, 0)) (fun n9 => fc_K_pullIfNeeded n9 (some (20, r)) H4) fun H8 => some H8) else (xo_cl 5 (some (20, r)) (fun n7 => fc_G_answerAll n7 H4) fun H6 => some H6)) := by
      unfold fc_K_request
      rw [se_gp (kd_20 r), p1, se_cl (kd_21 r), cr_count (kd_21 r) (kd_22 r) p4, Option.bind_some]
      show (if 0 < C.1 (22, r) 2 then (xo_gp 5 1 C (some (20, r)) _) else (xo_gp 5 3 C (some (20, r)) _)) = _
      rw [n2, se_gp (kd_20 r), p1, se_gp (kd_20 r), p3]
    have M0 : fc_M_request (50, 0) (nI r) who R = if 0 < nI n then (xo_cl 9 (some (50, 0)) (fun n23 => fc_M_takeChunk n23 (nI r) R) fun r16 => xo_gp 9 5 r16.2 (some (50, 0)) fun o17 => xo_al 1 r16.2 o17 (nI r) fun v18 => if v18 = 0 then (fb_M_request_98 (50, 0) (nI r) who r16.1 r16.2) else (xo_gp 9 10 r16.2 (some (50, 0)) fun o19 => xo_al 0 r16.2 o19 (nI r) fun v20 => if v20 = 0 then (xo_cl 9 (some (50, 0)) (fun n22 => fc_M_close n22 (nI r) r16.2) fun H21 => fb_M_request_103 (50, 0) (nI r) who r16.1 H21) else (fb_M_request_98 (50, 0) (nI r) who r16.1 r16.2))) else (xo_gp 9 11 R (some (50, 0)) fun o7 => xo_gp 9 12 R (some (50, 0)) fun o8 => xo_al 0 R o8 (nI r) fun v9 => xo_as R o7 (((8 : Int32) * (nI r)) + v9) who fun H10 => xo_gp 9 12 H10 (some (50, 0)) fun o11 => xo_al 0 H10 o11 (nI r) fun v12 => xo_as H10 o11 (nI r) (v12 + (1 : Int32)) fun H13 => xo_cl 9 (some (50, 0)) (fun n15 => fc_M_pull n15 (nI r) H13) fun H14 => some H14) := by
      unfold fc_M_request
      rw [mp_1 hp, ml_51 hr6, hs, if_neg (by decide), mp_1 hp, ml_51 hr6, hs, if_neg (by decide), mp_10 hp, ml_60 hr6, n1]
    rw [K0, M0]
    cases n with
    | zero =>
      rw [if_neg (by decide), if_neg (by decide)]
      obtain ⟨C1, m, C', R', m8, m1, a1, a2, a3, a4, a5, a6⟩ := rq_wait h (by omega) hr hs n1 hP
      refine ⟨C', R', ?_, ?_, SI_more a5 (by omega), a6⟩
      · rw [se_cl (kd_24 r), a1, Option.bind_some, se_gf (kd_20 r), a2, if_pos rfl, se_cl (kd_0 0), a3]
        rfl
      · rw [mp_11 hp, mp_12 hp, ml_62 hr6, m1, ix_8, nI_add, mq_61 (by omega), mp_12 (by exact hp), ml_62 hr6, mq_62 hr6, se_ne (m := (62, 0)) (by simp), m1, nI_1, se_cl (kd_50 0)]
        have a4' : fc_M_pull (50, 0) (nI r) (xo_sE (xo_sE R (61, 0) (8 * r + m) who) (62, 0) r (nI (m + 1))) = some R' := a4
        rw [a4']
        rfl
    | succ m =>
      have pos : 0 < nI (m + 1) := (nI_pos_iff (by omega)).mpr (by rw [nI_n0 (by omega)]; omega)
      rw [if_pos pos, if_pos pos]
      obtain ⟨C1, C2, C3, C', R', a1, a2, a3, a4, a5, a6, a7⟩ := rq_chunk h hb hr hs n1 (by omega) hP
      refine ⟨C', R', ?_, ?_, a6, a7⟩
      · rw [se_cl (kd_21 r), a1, Option.bind_some, se_cl (kd_20 r), a2, Option.bind_some, se_cl (kd_0 0), a3, Option.bind_some, se_cl (kd_0 0), a4]
        rfl
      · rw [se_cl (kd_50 0), tc_R hp hr6 n1 (by omega), Option.bind_some]
        exact a5
  · obtain ⟨C', a1, a2, a3⟩ := rq_shut (who := who) h (by omega) hr hs
    refine ⟨C', _, a1, a2, SI_more a3 (by omega), ?_⟩
    split
    · exact kQ_A (kA_ev ev_hE)
    · exact agr_rfl
end RQ
