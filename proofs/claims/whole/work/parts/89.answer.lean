section PJ
variable {g t p q : Nat} {R : xo_H}
theorem Inv_E (z : Inv g t p q R) : iE R := z.2.2.2.1
theorem Inv_Q (z : Inv g t p q R) : iQ R := z.2.2.2.2.1
theorem Inv_H (z : Inv g t p q R) : iH g p R := z.2.2.2.2.2.1
theorem Inv_N (z : Inv g t p q R) : iN q R := z.2.2.2.2.2.2.1
theorem Inv_P (z : Inv g t p q R) : iP g R := z.2.2.2.2.2.2.2.1
theorem Inv_T (z : Inv g t p q R) : iT R := z.2.2.2.2.2.2.2.2.1
theorem Inv_X (z : Inv g t p q R) : iX g t p R := z.2.2.2.2.2.2.2.2.2.1
theorem Inv_J1 (z : Inv g t p q R) : J1 g t p R := z.2.2.2.2.2.2.2.2.2.2.1
theorem Inv_JP (z : Inv g t p q R) : JP g R := z.2.2.2.2.2.2.2.2.2.2.2.1
theorem Inv_JD (z : Inv g t p q R) : JD g R := z.2.2.2.2.2.2.2.2.2.2.2.2.1
theorem Inv_JS (z : Inv g t p q R) : JS t R := z.2.2.2.2.2.2.2.2.2.2.2.2.2.1
theorem Inv_JM (z : Inv g t p q R) : JM p R := z.2.2.2.2.2.2.2.2.2.2.2.2.2.2.1
theorem Inv_FR (z : Inv g t p q R) : FR g t p R := z.2.2.2.2.2.2.2.2.2.2.2.2.2.2.2
theorem Inv_84 {w : Nat} (z : Inv g t p q R) (hw : w < t) (h : R.1 (79, 0) w = 0) : ¬ R.1 (84, 0) w = 1 := fun e => (Inv_JS z w hw).2.1 e h
end PJ
section TO
variable {b g t p q w : Nat} {C R : xo_H} {x : Int32}
theorem abt_SI (h : SI b g t p q C R) (hb : b + 20 < 2 ^ 30) (hw : w < t) : ∃ C', fc_T_abortWith (30, w) x C = some C' ∧ fc_M_abortTaker (50, 0) (nI w) x R = some (rAbort R w x) ∧ SI (b + 18) g t p q C' (rAbort R w x) ∧ TA w R (rAbort R w x) := by
  have hle := sm_le h.1
  have h9 := Inv_T h.2 w
  obtain ⟨C', a1, a2, a3⟩ := abt_both (x := x) h.1 hb hw h9.1 (fun e => by
    rcases h9.2.1 with d | d | d | d
    · exact Or.inl d
    · exact Or.inr (Or.inl d)
    · exact Or.inr (Or.inr d)
    · have := h9.2.2.2 d
      rw [e] at this
      exact absurd this (by decide))
  have s : TS True w R (rAbort R w x) := TS_abort h9 (Inv_84 h.2 hw)
  exact ⟨C', a1, a2, ⟨a3, TS_Inv h.2 hw s (Or.inl trivial) hle.2.1⟩, s.1⟩
theorem shut_SI (h : SI b g t p q C R) (hb : b + 20 < 2 ^ 30) (hw : w < t) : ∃ C', fc_T_shutDown (30, w) C = some C' ∧ fc_M_shutDown (50, 0) (nI w) R = some (rShut R w) ∧ SI (b + 18) g t p q C' (rShut R w) ∧ TA w R (rShut R w) := by
  have hle := sm_le h.1
  have h9 := Inv_T h.2 w
  obtain ⟨C', a1, a2, a3⟩ := shut_both h.1 hb hw h9.1
  have s : TS True w R (rShut R w) := TS_shut h9 (Inv_84 h.2 hw)
  exact ⟨C', a1, a2, ⟨a3, TS_Inv h.2 hw s (Or.inl trivial) hle.2.1⟩, s.1⟩
theorem sf_SI (h : SI b g t p q C R) (hb : b + 20 < 2 ^ 30) (hw : w < t) (h0 : R.1 (70, 0) w = 0) : ∃ C', fc_T_startFailing (30, w) x C = some C' ∧ fc_M_startFailing (50, 0) (nI w) x R = some (rStartFailing R w x) ∧ SI (b + 18) g t p q C' (rStartFailing R w x) := by
  have hle := sm_le h.1
  have h9 := Inv_T h.2 w
  have n5 : ¬ R.1 (79, 0) w = 5 := fun e => by
    have := h9.2.2.2 e
    rw [h0] at this
    exact absurd this (by decide)
  obtain ⟨C', a1, a2, a3⟩ := sf_both (x := x) h.1 hb hw (by
    rcases h9.2.1 with d | d | d | d
    · exact Or.inl d
    · exact Or.inr (Or.inl d)
    · exact Or.inr (Or.inr d)
    · exact absurd d n5)
  have s : TS True w R (rStartFailing R w x) := TS_sf h9 n5 (Inv_84 h.2 hw)
  exact ⟨C', a1, a2, a3, TS_Inv h.2 hw s (Or.inl trivial) hle.2.1⟩
theorem wr_SI {v : Int32} (h : SI b g t p q C R) (hb : b + 20 < 2 ^ 30) (hw : w < t) (h16 : ¬ R.1 (76, 0) w = 16) (hd : ∀ k i, k < p → R.1 (88, 0) k = 0 → R.1 (85, 0) k = nI i → R.1 (86, 0) k = nI w → i < g → R.1 (62, 0) i = 0) : ∃ C', fc_T_accept (30, w) v C = some (R.1 (77, 0) w + 1, C') ∧ fc_M_writeTo (50, 0) (nI w) v R = some (R.1 (77, 0) w + 1, rWrite R w v) ∧ SI (b + 1) g t p q C' (rWrite R w v) ∧ TA w R (rWrite R w v) := by
  have hle := sm_le h.1
  have h9 := Inv_T h.2 w
  obtain ⟨n, n16, n1, -⟩ := sm_un h.1 w
  have hn : n < 16 := by
    rcases Nat.lt_or_ge n 16 with e | e
    · exact e
    · have : n = 16 := by omega
      subst this
      exact absurd n1 h16
  obtain ⟨C', a1, a2, a3⟩ := wr_both (v := v) h.1 hb hw h9.1 n1 hn
  have s : TS False w R (rWrite R w v) := TS_write id h9 n1 hn (Inv_84 h.2 hw)
  exact ⟨C', a1, a2, ⟨a3, TS_Inv h.2 hw s (Or.inr hd) hle.2.1⟩, s.1⟩
theorem wn_SI (h : SI b g t p q C R) (hb : b + 30 < 2 ^ 30) (hw : w < t) (h84 : ¬ R.1 (84, 0) w = 1) (h3 : R.1 (79, 0) w = 3) : ∃ C', fc_T_written (30, w) x (xo_sE C (30, w) 7 0) = some C' ∧ fc_M_written (50, 0) (nI w) x R = some (rWritten R w x) ∧ SI (b + 19) g t p q C' (rWritten R w x) := by
  have hle := sm_le h.1
  have h9 := Inv_T h.2 w
  obtain ⟨n, n16, n1, -⟩ := sm_un h.1 w
  have hn0 := h9.2.2.1 h3
  rw [n1, nI_n0 (by omega)] at hn0
  obtain ⟨m, hm⟩ : ∃ m, n = m + 1 := ⟨n - 1, by omega⟩
  subst hm
  obtain ⟨C', a1, a2, a3⟩ := wn_both (x := x) h.1 hb hw n1 (by omega)
  have s : TS True w R (rWritten R w x) := TS_written h9 n1 (by omega) h84
  exact ⟨C', a1, a2, a3, TS_Inv h.2 hw s (Or.inl trivial) hle.2.1⟩
theorem sd_SI (h : SI b g t p q C R) (hb : b + 30 < 2 ^ 30) (hw : w < t) (h84 : ¬ R.1 (84, 0) w = 1) : ∃ C', fc_T_wasShut (30, w) x (xo_sE C (30, w) 7 0) = some C' ∧ fc_M_shutDone (50, 0) (nI w) x R = some (rShutDone R w x) ∧ SI (b + 20) g t p q C' (rShutDone R w x) := by
  have hle := sm_le h.1
  have h9 := Inv_T h.2 w
  obtain ⟨C', a1, a2, a3⟩ := sd_both (x := x) h.1 hb hw
  have s : TS True w R (rShutDone R w x) := TS_shutDone h9 h84
  exact ⟨C', a1, a2, a3, TS_Inv h.2 hw s (Or.inl trivial) hle.2.1⟩
theorem ad_SI (h : SI b g t p q C R) (hb : b + 30 < 2 ^ 30) (hw : w < t) (h84 : ¬ R.1 (84, 0) w = 1) : ∃ C', fc_T_wasAborted (30, w) x (xo_sE C (30, w) 7 0) = some C' ∧ fc_M_abortDone (50, 0) (nI w) x R = some (rAbortDone R w x) ∧ SI (b + 2) g t p q C' (rAbortDone R w x) := by
  have hle := sm_le h.1
  have h9 := Inv_T h.2 w
  obtain ⟨C', a1, a2, a3⟩ := ad_both (x := x) h.1 hb hw
  have s : TS True w R (rAbortDone R w x) := TS_abortDone h9 h84
  exact ⟨C', a1, a2, a3, TS_Inv h.2 hw s (Or.inl trivial) hle.2.1⟩
end TO
/-- what an answer to a request leaves -/
def kA (a _c : Nat) : Bool := (Nat.ble 51 a && Nat.ble a 69) || (Nat.ble 83 a && Nat.ble a 89)
theorem kA_ev {R R' : xo_H} (h : agr lEv R R') : agr kA R R' := agr_le h fun a c e => by
  unfold kA at e
  unfold lEv
  simp only [Bool.or_eq_true, Bool.and_eq_true, Nat.ble_eq] at e
  simp only [Bool.not_eq_true', Bool.or_eq_false_iff, Bool.and_eq_false_iff, beq_eq_false_iff_ne]
  omega
theorem kA_T {w : Nat} {R R' : xo_H} (h : TA w R R') : agr kA R R' := agr_le h.1 fun a c e => by
  unfold kA at e
  unfold kT
  simp only [Bool.or_eq_true, Bool.and_eq_true, Nat.ble_eq] at e
  simp only [Bool.not_eq_true', Bool.or_eq_false_iff, Bool.and_eq_false_iff, beq_eq_false_iff_ne]
  omega
theorem lJ_T {w : Nat} {R R' : xo_H} (h : TA w R R') : agr lJ R R' := agr_le h.1 fun a c e => by
  unfold lJ at e
  unfold kT
  simp only [Bool.or_eq_true, Bool.and_eq_true, beq_iff_eq] at e
  simp only [Bool.not_eq_true', Bool.or_eq_false_iff, Bool.and_eq_false_iff, beq_eq_false_iff_ne]
  omega
theorem lK_T {w k : Nat} {R R' : xo_H} (h : TA w R R') : lK k R R' := ⟨kA_T h (67, 0) k rfl, kA_T h (62, 0) k rfl, ka_has (lJ_T h) 2 k⟩
section AN
variable {b g t p q r : Nat} {C R : xo_H} {ch : Int32}
theorem sm_pipe (h : sm b g t p C R) {k : Nat} (hk : k < p) : C.2.1 (14, 0) k = some (40, k) ∧ C.1 (40, k) 0 = nI k ∧ ∃ i w, i < g ∧ w < t ∧ R.1 (85, 0) k = nI i ∧ R.1 (86, 0) k = nI w ∧ C.2.1 (40, k) 1 = some (20, i) ∧ C.2.1 (40, k) 2 = some (30, w) ∧ (C.1 (40, k) 3 = 0 ↔ R.1 (87, 0) k &&& 1 = 0) ∧ (C.1 (40, k) 4 = 0 ↔ R.1 (87, 0) k &&& 2 = 0) ∧ (C.1 (40, k) 5 = 0 ↔ R.1 (87, 0) k &&& 4 = 0) ∧ (R.1 (88, 0) k = 0 → R.1 (58, 0) i = 1 ∧ R.1 (83, 0) w = 1 ∧ C.2.1 (20, i) 13 = some (40, k)) := h.2.2.2.2.2.2.2.2.2.2.2.2.2.2.2.2.2 k hk
theorem sm_held (h : sm b g t p C R) (hr : r < g) : (R.1 (58, 0) r ≠ 1 ∧ C.2.1 (20, r) 13 = none ∧ (R.1 (58, 0) r = 0 ∨ R.1 (58, 0) r = 2 ∧ R.1 (65, 0) r ≠ -1)) ∨ (R.1 (58, 0) r = 1 ∧ R.1 (65, 0) r = -1 ∧ ∃ k, k < p ∧ C.2.1 (20, r) 13 = some (40, k) ∧ R.1 (85, 0) k = nI r ∧ R.1 (88, 0) k = 0) := h.2.2.2.2.2.2.2.2.2.2.2.2.2.2.2.1 r hr
theorem an_read {who : Int32} (h : SI b g t p q C R) (hb : b + 20 < 2 ^ 30) (hr : r < g) (hw : 0 < who) : ∃ C' R', fc_K_answerChunk (0, 0) (some (20, r)) (sm_en who) ch C = some C' ∧ fc_M_answer (50, 0) (nI r) who ch R = some R' ∧ SI (b + 1) g t p q C' R' ∧ agr kA R R' ∧ ∀ k, lK k R R' := by
  obtain ⟨-, p0, -⟩ := sm_ptr h.1 hr
  obtain ⟨C', a1, a2, a3⟩ := hE_both h.1 (by omega) 6 (nI r) who ch
  have hw0 : ¬ who = 0 := fun e => by rw [e] at hw; exact absurd hw (by decide)
  refine ⟨C', _, ?_, ?_, ⟨a3, Inv_hE h.2⟩, kA_ev ev_hE, fun k => lK_agr (agr_hE rfl fun _ => rfl)⟩
  · unfold fc_K_answerChunk
    rw [sm_en1 hw, if_neg hw0, se_gp (kd_0 0), (sm_K0 h.1).1, se_gf (kd_20 r), p0, se_cl (kd_1 0), a1]
    rfl
  · unfold fc_M_answer
    rw [if_pos hw, se_cl (kd_50 0), a2]
    rfl
theorem an_part (h : SI b g t p q C R) (hr : r < g) (h65 : ¬ R.1 (65, 0) r = -1) (h67 : R.1 (67, 0) r = 1) (h62 : R.1 (62, 0) r = 0) (nh : ¬ has R 2 r) : ∃ C' R', fc_K_answerChunk (0, 0) (some (20, r)) (sm_en (-10)) ch C = some C' ∧ fc_M_answer (50, 0) (nI r) (-10) ch R = some R' ∧ SI (b + 1) g t p q C' R' ∧ agr kA R R' := by
  obtain ⟨-, p0, -⟩ := sm_ptr h.1 hr
  obtain ⟨f, n, C', a1, a2, a3, a4, a5⟩ := ja_2 (x := ch) h hr nh h65 h67 h62
  obtain ⟨f', -, -, -, f4, -⟩ := sm_part h.1 hr h65
  refine ⟨C', _, ?_, ?_, SI_more a5 (by omega), jb_agr fun _ => rfl⟩
  · unfold fc_K_answerChunk
    rw [if_pos (by decide), se_gp (kd_20 r), f4, if_neg (by simp), se_gp (kd_0 0), (sm_K0 h.1).2, se_gf (kd_20 r), p0, se_cl (kd_5 0), a3]
    rfl
  · unfold fc_M_answer
    rw [if_neg (by decide), if_pos rfl, se_cl (kd_50 0), a4]
    rfl
theorem an_pipe {k w : Nat} (h : SI b g t p q C R) (hb : b + 20 < 2 ^ 30) (hr : r < g) (hk : k < p) (h88 : R.1 (88, 0) k = 0) (h85 : R.1 (85, 0) k = nI r) (h86 : R.1 (86, 0) k = nI w) (hw : w < t) (h62 : R.1 (62, 0) r = 0) (h76 : ¬ R.1 (76, 0) w = 16) : ∃ C' R', fc_K_answerChunk (0, 0) (some (20, r)) (sm_en (-2 - nI k)) ch C = some C' ∧ fc_M_answer (50, 0) (nI r) (-2 - nI k) ch R = some R' ∧ SI (b + 1) g t p q C' R' ∧ agr kA R R' ∧ ∀ k, lK k R R' := by
  have hle := sm_le h.1
  have hp := sm_MP h.1
  have hk2 : k < 2 := by omega
  obtain ⟨-, -, i', w', i1, w1, e85, e86, c1, c2, -, -, -, c3⟩ := sm_pipe h.1 hk
  have : i' = r := sm_nIinj (e85.symm.trans h85) (by omega) (by omega)
  subst this
  have : w' = w := sm_nIinj (e86.symm.trans h86) (by omega) (by omega)
  subst this
  obtain ⟨e58, -, e13⟩ := c3 h88
  have e65 : R.1 (65, 0) i' = -1 := by
    rcases sm_held h.1 hr with ⟨e, -⟩ | ⟨-, e, -⟩
    · exact absurd e58 e
    · exact e
  obtain ⟨C', a1, a2, a3, a4⟩ := wr_SI (v := ch) h hb hw h76 (fun k' i hk' b1 b2 b3 hi => by
    by_cases e : k' = k
    · subst e
      have : i = i' := sm_nIinj (b2.symm.trans h85) (by omega) (by omega)
      rw [this]; exact h62
    · exact absurd (b3.trans h86.symm) ((Inv_X h.2).2 k' k hk' hk e b1 h88))
  have kc : (-2 : Int32) - (-2 - nI k) = nI k ∧ ¬ 0 < (-2 : Int32) - nI k ∧ ¬ (-2 : Int32) - nI k = -10 ∧ sm_en (-2 - nI k) = 0 := by
    have : k = 0 ∨ k = 1 := by omega
    rcases this with e | e <;> subst e <;> decide
  refine ⟨C', _, ?_, ?_, a3, kA_T a4, fun k => lK_T a4⟩
  · unfold fc_K_answerChunk
    rw [kc.2.2.2, if_pos rfl, se_gp (kd_20 i'), sm_nopart h.1 hr e65, if_pos rfl, se_gp (kd_20 i'), e13, if_neg (by simp), se_gp (kd_20 i'), e13, se_gp (kd_40 k), c2, se_cl (kd_30 w'), a1]
    rfl
  · unfold fc_M_answer
    rw [if_neg kc.2.1, if_neg kc.2.2.1, mp_38 hp, kc.1, ml_86 hk2, h86, se_cl (kd_50 0), a2]
    rfl
end AN
