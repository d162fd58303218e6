theorem hE_set {R : xo_H} {n : xo_N} {f : Nat} {v k s a b : Int32} (h : (n.1 == 50 || n.1 == 93 || n.1 == 94 || n.1 == 95) = false) : hE (xo_sE R n f v) k s a b = xo_sE (hE R k s a b) n f v := by
  simp only [Bool.or_eq_false_iff, beq_eq_false_iff_ne, ne_eq] at h
  have h50 : ¬ (50, 0) = n := fun e => h.1.1.1 (by rw [← e])
  have h93 : ¬ (93, 0) = n := fun e => h.1.1.2 (by rw [← e])
  have h94 : ¬ (94, 0) = n := fun e => h.1.2 (by rw [← e])
  have h95 : ¬ (95, 0) = n := fun e => h.2 (by rw [← e])
  unfold hE ev_R
  rw [se_ne (m := (50, 0)) h50, se_com (m := n) h50, se_com (m := n) h95, se_com (m := n) h94, se_com (m := n) h93]
section RQ
variable {b g t p q r : Nat} {C R : xo_H} {who : Int32}
/-- places behind what waits don't matter -/
theorem gb_sm {Y : xo_H} {v : Int32} (h : sm b g t p C (xo_sE Y (61, 0) (8 * r) v)) (h0 : Y.1 (62, 0) r = 0) : sm b g t p C Y := by
  have e : xo_sE (xo_sE Y (61, 0) (8 * r) v) (61, 0) (8 * r) (Y.1 (61, 0) (8 * r)) = Y := by
    rw [se_dd]; exact se_id rfl
  have h62 : (xo_sE Y (61, 0) (8 * r) v).1 (62, 0) r = 0 := by rw [se_ne (by simp)]; exact h0
  rw [← e]
  generalize xo_sE Y (61, 0) (8 * r) v = Z at h h62
  obtain ⟨h1, h2, h3, h4, h5, h6, h7⟩ := h
  refine ⟨kr_S h1 rfl, kr_Q h2 rfl, fun i => ?_, kr_U h4 rfl, kr_L h5 rfl, kr_J h6 rfl, kr_P h7 rfl⟩
  by_cases c : i = r
  · subst c
    obtain ⟨n, hd, a1, a2, a3, a4, a5, a6⟩ := h3 i
    rw [se_ne (m := (62, 0)) (by simp)]
    have hn : n = 0 := (nI_n0 (by omega)).mp (a5.symm.trans h62)
    subst hn
    exact ⟨0, hd, a1, a2, a3, a4, a5, fun k hk => by omega⟩
  · refine sm_W_keep (h3 i) rfl rfl (fun k hk => ?_) ?_
    · rw [se_nf (by simp; omega)]
    · rw [se_ne (by simp)]
/-- a request at a giver that isn't open -/
theorem rq_shut (h : SI b g t p q C R) (hb : b + 20 < 2 ^ 30) (hr : r < g) (hs : ¬ R.1 (51, 0) r = 0) : ∃ C', fc_K_request (0, 0) (some (20, r)) (sm_en who) C = some C' ∧ fc_M_request (50, 0) (nI r) who R = some (if 0 < who then hE R (if R.1 (51, 0) r = 2 then 8 else 7) (nI r) who (R.1 (52, 0) r) else R) ∧ SI (b + 1) g t p q C' (if 0 < who then hE R (if R.1 (51, 0) r = 2 then 8 else 7) (nI r) who (R.1 (52, 0) r) else R) := by
  have hle := sm_le h.1
  have hp := sm_MP h.1
  have hr6 : r < 6 := by omega
  obtain ⟨-, p0, p1, p2, p3, p4, p5, p6⟩ := sm_ptr h.1 hr
  obtain ⟨e60, e62⟩ := Inv_E h.2 r hs
  obtain ⟨n, n16, n1, n2⟩ := sm_qn h.1 r
  have hn : n = 0 := (nI_n0 (by omega)).mp (n1.symm.trans e60)
  subst hn
  obtain ⟨C1, a1, a2⟩ := aa_sm (n := 0) (v := sm_en who) (v' := who) h.1 hr e62 (by omega) rfl
  have x51 : (aa_R R r 0 who).1 (51, 0) r = R.1 (51, 0) r := by unfold aa_R; rw [se_ne (by simp), se_ne (by simp)]
  have x52 : (aa_R R r 0 who).1 (52, 0) r = R.1 (52, 0) r := by unfold aa_R; rw [se_ne (by simp), se_ne (by simp)]
  have x62 : (aa_R R r 0 who).1 (62, 0) r = nI (0 + 1) := by unfold aa_R; exact xo_sE_eq _ _ _ _
  have x61 : (aa_R R r 0 who).1 (61, 0) (8 * r + 0) = who := by unfold aa_R; rw [se_ne (by simp)]; exact xo_sE_eq _ _ _ _
  have q4 := sm_get a2 20 4 51 r (by decide)
  rw [x51] at q4
  obtain ⟨-, y0, -, -, y3, -⟩ := sm_ptr a2 hr
  generalize hkd : (if R.1 (51, 0) r = 2 then (8 : Int32) else 7) = kd
  obtain ⟨C', b1, b2⟩ := al_C (kd := kd) (er := R.1 (52, 0) r) hr 1 0 b C1 _ 1000 a2 (by omega) x62 (by omega) (by omega) x52
  have hA : fc_G_answerAll (20, r) C1 = some C' := by
    unfold fc_G_answerAll fb_G_answerAll_15
    rw [se_gf (kd_20 r), q4]
    have b1' : fb_G_answerAll_18 1000 (20, r) kd 0 C1 = some C' := b1
    by_cases c : R.1 (51, 0) r = 2
    · rw [if_pos c] at hkd ⊢
      rw [hkd, b1']
    · rw [if_neg c] at hkd ⊢
      rw [hkd, b1']
  have hW : fc_K_request (0, 0) (some (20, r)) (sm_en who) C = some C' := by
    unfold fc_K_request
    rw [se_gp (kd_20 r), p1, se_cl (kd_21 r), cr_count (kd_21 r) (kd_22 r) p4, Option.bind_some]
    show (if 0 < C.1 (22, r) 2 then _ else _) = _
    rw [n2, if_neg (by decide), se_gp (kd_20 r), p3, se_cl (kd_24 r), a1, Option.bind_some, se_gf (kd_20 r), q4, if_neg hs, se_cl (kd_20 r), hA]
    rfl
  obtain ⟨D, d1, d2, d3⟩ := hE_both h.1 (by omega) kd (nI r) who (R.1 (52, 0) r)
  have hM : fc_M_request (50, 0) (nI r) who R = some (if 0 < who then hE R kd (nI r) who (R.1 (52, 0) r) else R) := by
    unfold fc_M_request
    rw [mp_1 hp, ml_51 hr6]
    rcases h.2.2.1 r with s | s | s
    · exact absurd s hs
    · have e52 : R.1 (52, 0) r = 0 := h.2.1 r (by rw [s]; decide)
      have ek : kd = 7 := by rw [← hkd, s]; decide
      rw [s, if_pos rfl]
      by_cases c : 0 < who
      · rw [if_pos c, if_pos c, se_cl (kd_50 0), ← ek]
        rw [e52] at d2 ⊢
        rw [d2]
        rfl
      · rw [if_neg c, if_neg c]
    · have ek : kd = 8 := by rw [← hkd, s]; decide
      rw [s, if_neg (by decide), mp_1 hp, ml_51 hr6, s, if_pos rfl]
      by_cases c : 0 < who
      · rw [if_pos c, if_pos c, mp_2 hp, ml_52 hr6, se_cl (kd_50 0), ← ek, d2]
        rfl
      · rw [if_neg c, if_neg c]
  refine ⟨C', hW, hM, ?_, ?_⟩
  · rw [rAL, rAL, x61] at b2
    by_cases c : 0 < who
    · rw [if_pos c] at b2 ⊢
      refine gb_sm (r := r) (v := who) ?_ (by rw [hE_ne rfl]; exact e62)
      have e : xo_sE (hE (aa_R R r 0 who) kd (nI r) who (R.1 (52, 0) r)) (62, 0) r 0 = xo_sE (hE R kd (nI r) who (R.1 (52, 0) r)) (61, 0) (8 * r) who := by
        unfold aa_R
        rw [hE_set rfl, hE_set rfl, se_dd, se_id]
        · rfl
        · rw [se_ne (by simp), hE_ne rfl]; exact e62
      rw [e] at b2
      exact b2
    · rw [if_neg c] at b2 ⊢
      refine gb_sm (r := r) (v := who) ?_ e62
      have e : xo_sE (aa_R R r 0 who) (62, 0) r 0 = xo_sE R (61, 0) (8 * r) who := by
        unfold aa_R
        rw [se_dd, se_id]
        · rfl
        · rw [se_ne (by simp)]; exact e62
      rw [e] at b2
      exact sm_more b2 (by omega)
  · split
    · exact Inv_hE h.2
    · exact h.2
/-- who may ask -/
def rqP (g t p r : Nat) (who : Int32) (R : xo_H) : Prop := (0 < who ∧ R.1 (58, 0) r = 0 ∧ ¬ R.1 (62, 0) r = 8) ∨ ∃ k w, k < p ∧ w < t ∧ R.1 (88, 0) k = 0 ∧ R.1 (85, 0) k = nI r ∧ R.1 (86, 0) k = nI w ∧ who = -2 - nI k ∧ R.1 (62, 0) r = 0 ∧ ¬ R.1 (76, 0) w = 16
/-- the answer at once -/
theorem rq_an {ch : Int32} {R0 : xo_H} (h : SI b g t p q C R) (hb : b + 20 < 2 ^ 30) (hr : r < g) (hP : rqP g t p r who R0) (k0 : agr kG R0 R) (h62 : R.1 (62, 0) r = 0) : ∃ C' R', fc_K_answerChunk (0, 0) (some (20, r)) (sm_en who) ch C = some C' ∧ fc_M_answer (50, 0) (nI r) who ch R = some R' ∧ SI (b + 1) g t p q C' R' ∧ agr kQ R0 R' := by
  rcases hP with ⟨w1, -, -⟩ | ⟨k, w, a1, a2, a3, a4, a5, a6, a7, a8⟩
  · obtain ⟨C', R', x1, x2, x3, x4, -⟩ := an_read (ch := ch) h hb hr w1
    exact ⟨C', R', x1, x2, x3, agr_tr (kQ_G k0) (kQ_A x4)⟩
  · obtain ⟨C', R', x1, x2, x3, x4, -⟩ := an_pipe (ch := ch) (k := k) (w := w) h hb hr a1 (by rw [k0 (88, 0) k rfl]; exact a3) (by rw [k0 (85, 0) k rfl]; exact a4) (by rw [k0 (86, 0) k rfl]; exact a5) a2 h62 (by rw [k0 (76, 0) w rfl]; exact a8)
    rw [a6]
    exact ⟨C', R', x1, x2, x3, agr_tr (kQ_G k0) (kQ_A x4)⟩
/-- a request that waits -/
theorem rq_wait (h : SI b g t p q C R) (hb : b + 400 < 2 ^ 30) (hr : r < g) (hs : R.1 (51, 0) r = 0) (h60 : R.1 (60, 0) r = 0) (hP : rqP g t p r who R) : ∃ C1 n C' R', n < 8 ∧ R.1 (62, 0) r = nI n ∧ fc_R_add (24, r) (sm_en who) C = some C1 ∧ C1.1 (20, r) 4 = 0 ∧ fc_K_pullIfNeeded (0, 0) (some (20, r)) C1 = some C' ∧ fc_M_pull (50, 0) (nI r) (aa_R R r n who) = some R' ∧ SI (b + 30) g t p q C' R' ∧ agr kQ R R' := by
  have hle := sm_le h.1
  obtain ⟨n, n8, n1, n2⟩ := sm_an h.1 r
  have hn : n < 8 := by
    rcases hP with ⟨-, -, e⟩ | ⟨k, w, a1, a2, a3, a4, a5, a6, a7, a8⟩
    · rcases Nat.lt_or_ge n 8 with d | d
      · exact d
      · have : n = 8 := by omega
        subst this
        exact absurd n1 e
    · have : n = 0 := (nI_n0 (by omega)).mp (n1.symm.trans a7)
      omega
  have h65 : R.1 (65, 0) r = -1 := by
    rcases hP with ⟨-, e, -⟩ | ⟨k, w, a1, a2, a3, a4, a5, a6, a7, a8⟩
    · by_cases c : R.1 (65, 0) r = -1
      · exact c
      · obtain ⟨f, -, -, f3, -⟩ := sm_part h.1 hr c
        rw [e] at f3
        exact absurd f3 (by decide)
    · obtain ⟨-, -, i, w', i1, -, e85, -, -, -, -, -, -, c3⟩ := sm_pipe h.1 a1
      have : i = r := sm_nIinj (e85.symm.trans a4) (by omega) (by omega)
      subst this
      rcases sm_held h.1 hr with ⟨e, -⟩ | ⟨-, e, -⟩
      · exact absurd (c3 a3).1 e
      · exact e
  obtain ⟨C1, a1, a2⟩ := aa_sm (v := sm_en who) (v' := who) h.1 hr n1 hn rfl
  have zI : Inv g t p q (aa_R R r n who) := by
    refine m_add h.2 hr hs h60 n1 hn (fun e => ?_) (fun e => ?_) (fun e => ?_) (fun k w hk b1 b2 b3 hw => ?_) (fun e => absurd h65 e) (fun e => (Inv_JD h.2 r hr e).1 h65)
    · rcases hP with ⟨d, -, -⟩ | ⟨k, w, a1, a2, a3, a4, -⟩
      · exact d
      · obtain ⟨-, -, i, w', i1, -, e85, -, -, -, -, -, -, c3⟩ := sm_pipe h.1 a1
        have : i = r := sm_nIinj (e85.symm.trans a4) (by omega) (by omega)
        subst this
        rw [(c3 a3).1] at e
        exact absurd e (by decide)
    · rcases hP with ⟨-, d, -⟩ | ⟨k, w, a1, a2, a3, a4, a5, a6, a7, a8⟩
      · rw [e] at d; exact absurd d (by decide)
      · exact ⟨(nI_n0 (by omega)).mp (n1.symm.trans a7), k, a1, a3, a4, a6⟩
    · rcases sm_held h.1 hr with ⟨-, -, d | ⟨-, d⟩⟩ | ⟨d, -⟩
      · rw [e] at d; exact absurd d (by decide)
      · exact absurd h65 d
      · rw [e] at d; exact absurd d (by decide)
    · obtain ⟨-, -, i, w', i1, -, e85, -, -, -, -, -, -, c3⟩ := sm_pipe h.1 hk
      have : i = r := sm_nIinj (e85.symm.trans b2) (by omega) (by omega)
      subst this
      obtain ⟨c4, -, c5⟩ := c3 b1
      rcases hP with ⟨-, d, -⟩ | ⟨k', v, a1, a2, a3, a4, a5, a6, a7, a8⟩
      · rw [c4] at d; exact absurd d (by decide)
      · obtain ⟨-, -, i', w'', i1', -, e85', -, -, -, -, -, -, c3'⟩ := sm_pipe h.1 a1
        have : i' = i := sm_nIinj (e85'.symm.trans a4) (by omega) (by omega)
        subst this
        have c6 := (c3' a3).2.2
        rw [c5] at c6
        have : k = k' := by simpa using c6
        subst this
        have : w = v := sm_nIinj (b3.symm.trans a5) (by omega) (by omega)
        subst this
        exact a8
  obtain ⟨C', R', b1, b2, b3, b4, -, -⟩ := pull_SI ⟨a2, zI⟩ (by omega) hr
  have q4 := sm_get a2 20 4 51 r (by decide)
  refine ⟨C1, n, C', R', hn, n1, a1, ?_, b1, b2, b3, agr_tr (R' := aa_R R r n who) ?_ (kQ_G b4)⟩
  · rw [q4]; unfold aa_R; rw [se_ne (by simp), se_ne (by simp)]; exact hs
  · unfold aa_R; exact agr_to (agr_set rfl) rfl
end RQ
