/-- what taking in, and a request, leave -/
def kQ (a _c : Nat) : Bool := a == 53 || a == 54 || a == 58 || a == 63 || a == 65 || a == 66 || (Nat.ble 83 a && Nat.ble a 89)
theorem kQ_A {R R' : xo_H} (h : agr kA R R') : agr kQ R R' := agr_le h fun a c e => by
  unfold kQ at e
  unfold kA
  simp only [Bool.or_eq_true, Bool.and_eq_true, beq_iff_eq, Nat.ble_eq] at e ⊢
  omega
theorem kQ_G {R R' : xo_H} (h : agr kG R R') : agr kQ R R' := agr_le h fun a c e => by
  unfold kQ at e
  unfold kG
  simp only [Bool.or_eq_true, Bool.and_eq_true, beq_iff_eq, Nat.ble_eq] at e ⊢
  omega
section TI
variable {b g t p q r : Nat} {C R : xo_H} {ch : Int32}
theorem at_agr {L : Nat → Nat → Bool} {n : Nat} (h1 : ∀ c, L 61 c = false) (h2 : L 62 r = false) : agr L R (at_R R r n) := by
  unfold at_R
  exact agr_tr (agr_set h2) (agr_sh h1)
/-- the first request is answered -/
theorem ta_SI {n : Nat} (h : SI b g t p q C R) (hb : b + 20 < 2 ^ 30) (hr : r < g) (hn : R.1 (62, 0) r = nI (n + 1)) (h8 : n < 8) : ∃ C1 C' R', fc_R_takeFirst (24, r) C = some (sm_en (R.1 (61, 0) (8 * r)), C1) ∧ fc_K_answerChunk (0, 0) (some (20, r)) (sm_en (R.1 (61, 0) (8 * r))) ch C1 = some C' ∧ fc_M_answer (50, 0) (nI r) (R.1 (61, 0) (8 * r)) ch (at_R R r n) = some R' ∧ SI (b + 1) g t p q C' R' ∧ agr kQ R R' ∧ (R.1 (65, 0) r = -1 → ∀ k, ¬ k = r → lK k R R') := by
  have hle := sm_le h.1
  obtain ⟨C1, a1, a2⟩ := at_sm h.1 hr hn h8
  have s1 : SI b g t p q C1 (at_R R r n) := ⟨a2, m_take h.2 hr hn h8⟩
  have k1 : agr kQ R (at_R R r n) := at_agr (fun _ => rfl) rfl
  have kJ : agr lJ R (at_R R r n) := at_agr (fun _ => rfl) rfl
  have l1 : ∀ k, ¬ k = r → lK k R (at_R R r n) := fun k hk => by
    refine ⟨at_agr (L := fun a _ => a == 67) (fun _ => rfl) rfl (67, 0) k rfl, ?_, ka_has kJ 2 k⟩
    unfold at_R
    rw [sh_ne (by simp), se_nf (by simp [hk])]
  have e62 : (at_R R r n).1 (62, 0) r = nI n := by
    unfold at_R
    rw [sh_ne (by simp)]
    exact xo_sE_eq _ _ _ _
  have hn0 : ¬ R.1 (62, 0) r = 0 := by rw [hn, nI_n0 (by omega)]; omega
  have one : R.1 (62, 0) r = 1 → (at_R R r n).1 (62, 0) r = 0 := fun e => by
    have : n + 1 = 1 := sm_nIinj (hn.symm.trans e) (by omega) (by omega)
    rw [e62, nI_n0 (by omega)]; omega
  obtain ⟨H0, H1, H2⟩ := Inv_H h.2 r hr
  rcases sm_held h.1 hr with ⟨-, -, e | ⟨e, e'⟩⟩ | ⟨e, e', -⟩
  · have hw : 0 < R.1 (61, 0) (8 * r) := H0 e 0 (n + 1) hn (by omega) (by omega)
    obtain ⟨C', R', b1, b2, b3, b4, b5⟩ := an_read (ch := ch) s1 hb hr hw
    exact ⟨C1, C', R', a1, b1, b2, b3, agr_tr k1 (kQ_A b4), fun _ k hk => lK_tr (l1 k hk) (b5 k)⟩
  · rcases H2 e with z | ⟨z1, z2⟩
    · exact absurd z hn0
    · rw [z2]
      obtain ⟨C', R', b1, b2, b3, b4⟩ := an_part (ch := ch) s1 hr (by rw [k1 (65, 0) r rfl]; exact e') (by rw [at_agr (L := fun a _ => a == 67) (fun _ => rfl) rfl (67, 0) r rfl]; exact (Inv_P h.2 r hr).1 e' hn0) (one z1) (by
        rw [ka_has kJ]
        exact fun z => hn0 (Inv_JD h.2 r hr z).2.2)
      rw [z2] at a1
      exact ⟨C1, C', R', a1, b1, b2, b3, agr_tr k1 (kQ_A b4), fun z => absurd z e'⟩
  · rcases H1 e with z | ⟨z1, k, z2, z3, z4, z5⟩
    · exact absurd z hn0
    · rw [z5]
      obtain ⟨-, -, i', w, i1, w1, e85, e86, -⟩ := sm_pipe h.1 z2
      obtain ⟨C', R', b1, b2, b3, b4, b5⟩ := an_pipe (ch := ch) (k := k) (w := w) s1 hb hr z2 (by rw [k1 (88, 0) k rfl]; exact z3) (by rw [k1 (85, 0) k rfl]; exact z4) (by rw [k1 (86, 0) k rfl]; exact e86) w1 (one z1) (by
        rw [at_agr (L := fun a _ => a == 76) (fun _ => rfl) rfl (76, 0) w rfl]
        exact (Inv_X h.2).1 k z2 z3 r w z4 e86 hr w1 hn0)
      rw [z5] at a1
      exact ⟨C1, C', R', a1, b1, b2, b3, agr_tr k1 (kQ_A b4), fun _ k' hk => lK_tr (l1 k' hk) (b5 k')⟩
theorem ti_SI (h : SI b g t p q C R) (hb : b + 400 < 2 ^ 30) (hr : r < g) (h51 : R.1 (51, 0) r = 0) (hf : ¬ R.1 (62, 0) r = 0 ∨ ¬ R.1 (60, 0) r = 16) : ∃ C' R', fc_K_takeIn (0, 0) (some (20, r)) ch C = some C' ∧ fc_M_takeIn (50, 0) (nI r) ch R = some R' ∧ SI (b + 40) g t p q C' R' ∧ agr kQ R R' ∧ (R.1 (65, 0) r = -1 → ∀ k, k < g → ¬ k = r → R.1 (66, 0) r = nI k → R.1 (67, 0) k = 1 → lK k R R') := by
  have hle := sm_le h.1
  have hp := sm_MP h.1
  have hr6 : r < 6 := by omega
  obtain ⟨-, p0, p1, p2, p3, p4, p5, p6⟩ := sm_ptr h.1 hr
  obtain ⟨n, n8, n1, n2⟩ := sm_an h.1 r
  have K0 : fc_K_takeIn (0, 0) (some (20, r)) ch C = if 0 < nI n then (xo_cl 3 (some (24, r)) (fun n10 => fc_R_takeFirst n10 C) fun r7 => xo_cl 0 (some (0, 0)) (fun n9 => fc_K_answerChunk n9 (some (20, r)) r7.1 ch r7.2) fun H8 => fb_K_takeIn_34 (0, 0) (some (20, r)) H8) else (xo_cl 4 (some (21, r)) (fun n5 => fc_C_add n5 ch C) fun H4 => fb_K_takeIn_34 (0, 0) (some (20, r)) H4) := by
    unfold fc_K_takeIn
    rw [se_gp (kd_20 r), p3, se_gf (kd_24 r), n2, se_gp (kd_20 r), p3, se_gp (kd_20 r), p1]
  have M0 : fc_M_takeIn (50, 0) (nI r) ch R = if 0 < nI n then (xo_cl 9 (some (50, 0)) (fun n13 => fc_M_takeRequest n13 (nI r) R) fun r10 => xo_cl 9 (some (50, 0)) (fun n12 => fc_M_answer n12 (nI r) r10.1 ch r10.2) fun H11 => fb_M_takeIn_50 (50, 0) (nI r) H11) else (xo_gp 9 9 R (some (50, 0)) fun o3 => xo_gp 9 10 R (some (50, 0)) fun o4 => xo_al 0 R o4 (nI r) fun v5 => xo_as R o3 (((16 : Int32) * (nI r)) + v5) ch fun H6 => xo_gp 9 10 H6 (some (50, 0)) fun o7 => xo_al 0 H6 o7 (nI r) fun v8 => xo_as H6 o7 (nI r) (v8 + (1 : Int32)) fun H9 => fb_M_takeIn_50 (50, 0) (nI r) H9) := by
    unfold fc_M_takeIn
    rw [mp_12 hp, ml_62 hr6, n1]
  have pl : ∀ {C1 R1 : xo_H}, SI (b + 1) g t p q C1 R1 → agr kQ R R1 → ∃ C' R', fb_K_takeIn_34 (0, 0) (some (20, r)) C1 = some C' ∧ fb_M_takeIn_50 (50, 0) (nI r) R1 = some R' ∧ SI (b + 40) g t p q C' R' ∧ agr kQ R R' ∧ ∀ k, k < g → R.1 (66, 0) r = nI k → R1.1 (67, 0) k = 1 → lK k R1 R' := fun {C1 R1} s k1 => by
    obtain ⟨C', R', a1, a2, a3, a4, a5, -⟩ := pull_SI s (by omega) hr
    refine ⟨C', R', ?_, ?_, SI_more a3 (by omega), agr_tr k1 (kQ_G a4), fun k hk e1 e2 => a5 k hk (by rw [k1 (66, 0) r rfl]; exact e1) e2⟩
    · unfold fb_K_takeIn_34
      rw [se_cl (kd_0 0), a1]
      rfl
    · unfold fb_M_takeIn_50
      rw [se_cl (kd_50 0), a2]
      rfl
  rw [K0, M0]
  cases n with
  | zero =>
    rw [if_neg (by decide), if_neg (by decide)]
    obtain ⟨m, m16, m1, m2⟩ := sm_qn h.1 r
    have hm : m < 16 := by
      rcases Nat.lt_or_ge m 16 with e | e
      · exact e
      · have : m = 16 := by omega
        subst this
        rcases hf with z | z
        · exact absurd n1 z
        · exact absurd m1 z
    obtain ⟨C1, a1, a2⟩ := qa_sm (v := ch) h.1 hr m1 hm
    have s1 : SI (b + 1) g t p q C1 (qa_R R r m ch) := ⟨sm_more a2 (by omega), qa_Inv h.2 hr h51 n1⟩
    obtain ⟨C', R', b1, b2, b3, b4, b5⟩ := pl s1 (qa_agr (fun _ => rfl) rfl)
    have e67 : ∀ k, (qa_R R r m ch).1 (67, 0) k = R.1 (67, 0) k := fun k => qa_agr (L := fun a _ => a == 67) (fun _ => rfl) rfl (67, 0) k rfl
    refine ⟨C', R', ?_, ?_, b3, b4, fun _ k hk _ e1 e2 => lK_tr (lK_agr (qa_agr (fun _ => rfl) rfl)) (b5 k hk e1 (by rw [e67]; exact e2))⟩
    · rw [se_cl (kd_21 r), a1, Option.bind_some, b1]
    · rw [mp_9 hp, mp_10 hp, ml_60 hr6, m1, ix_16, nI_add, mq_59 (by omega), mp_10 (by exact hp), ml_60 hr6, mq_60 hr6, se_ne (m := (60, 0)) (by simp), m1, nI_1]
      exact b2
  | succ m =>
    have pos : 0 < nI (m + 1) := (nI_pos_iff (by omega)).mpr (by rw [nI_n0 (by omega)]; omega)
    rw [if_pos pos, if_pos pos]
    obtain ⟨C1, C2, R2, a1, a2, a3, a4, a5, a6⟩ := ta_SI (ch := ch) h (by omega) hr n1 (by omega)
    obtain ⟨C', R', b1, b2, b3, b4, b5⟩ := pl a4 a5
    refine ⟨C', R', ?_, ?_, b3, b4, fun e k hk hkr e1 e2 => ?_⟩
    · rw [se_cl (kd_24 r), a1, Option.bind_some, se_cl (kd_0 0), a2, Option.bind_some, b1]
    · rw [se_cl (kd_50 0), tr_R hp hr6 n1 (by omega), Option.bind_some, se_cl (kd_50 0), a3, Option.bind_some, b2]
    · have l := a6 e k hkr
      exact lK_tr l (b5 k hk e1 (l.1.trans e2))
end TI
