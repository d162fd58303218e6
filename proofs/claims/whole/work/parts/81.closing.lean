theorem agr_both {L : Nat → Nat → Bool} {R R' : xo_H} {n : xo_N} {f : Nat} {v : Int32} (h : agr L R R') : agr L (xo_sE R n f v) (xo_sE R' n f v) := fun m c hm => by
  rw [se_E1, se_E1]
  split
  · rfl
  · exact h m c hm
theorem rAL_ev {kd er : Int32} {r : Nat} : ∀ (d k : Nat) (X : xo_H), agr lEv (xo_sE X (62, 0) r 0) (rAL kd er r d k X)
  | 0, k, X => by rw [rAL]; exact agr_rfl
  | d + 1, k, X => by
    rw [rAL]
    refine agr_tr ?_ (rAL_ev d (k + 1) _)
    split
    · exact agr_both ev_hE
    · exact agr_rfl
/-- tags that no work at a giver changes -/
def kG (a _c : Nat) : Bool := a == 53 || a == 54 || a == 58 || a == 63 || a == 65 || a == 66 || (Nat.ble 70 a && Nat.ble a 89)
theorem kG_ev {R R' : xo_H} (h : agr lEv R R') : agr kG R R' := agr_le h fun a c e => by
  unfold kG at e
  unfold lEv
  simp only [Bool.or_eq_true, Bool.and_eq_true, beq_iff_eq, Nat.ble_eq] at e
  simp only [Bool.not_eq_true', Bool.or_eq_false_iff, Bool.and_eq_false_iff, beq_eq_false_iff_ne]
  omega
theorem lJ_ev {R R' : xo_H} (h : agr lEv R R') : agr lJ R R' := agr_le h fun a c e => by
  unfold lJ at e
  unfold lEv
  simp only [Bool.or_eq_true, Bool.and_eq_true, beq_iff_eq] at e
  simp only [Bool.not_eq_true', Bool.or_eq_false_iff, Bool.and_eq_false_iff, beq_eq_false_iff_ne]
  omega
section CL
variable {b g t p q r : Nat} {C R : xo_H}
theorem rCP_ev : agr lEv (xo_sE (xo_sE R (62, 0) r 0) (51, 0) r 1) (rCP R r) := by
  unfold rCP
  rw [se_com (by simp)]
  exact rAL_ev _ _ _
theorem rCP_Inv (z : Inv g t p q R) (hr : r < g) (h1 : R.1 (60, 0) r = 0) (h3 : ¬ R.1 (51, 0) r = 2) : Inv g t p q (rCP R r) := by
  refine ev_Inv rCP_ev (m51c (m62z z) hr ?_ ?_ ?_)
  · rw [se_ne (by simp)]; exact h1
  · exact xo_sE_eq _ _ _ _
  · rw [se_ne (by simp)]; exact h3
theorem eb1_Inv {c : Nat} (z : Inv g t p q R) (hc : c < g) : Inv g t p q (eb1 R c) := by
  unfold eb1
  by_cases c1 : R.1 (51, 0) c = 0 ∧ R.1 (55, 0) c = 0
  · rw [if_pos c1]
    by_cases c2 : R.1 (60, 0) c = 0
    · rw [if_pos c2]
      exact rCP_Inv (m55 z hc) hc (by rw [se_ne (by simp)]; exact c2) (by rw [se_ne (by simp), c1.1]; decide)
    · rw [if_neg c2]; exact m55 z hc
  · rw [if_neg c1]; exact z
theorem rEB_Inv {f : Nat} (z : Inv g t p q R) (hc : f + 1 < g) : Inv g t p q (rEB R f) := eb1_Inv (eb1_Inv z (by omega)) hc
theorem rCP_kG : agr kG R (rCP R r) := agr_tr (agr_to (agr_set rfl) rfl) (kG_ev rCP_ev)
theorem eb1_kG {c : Nat} : agr kG R (eb1 R c) := by
  unfold eb1
  split
  · split
    · exact agr_tr (agr_set rfl) rCP_kG
    · exact agr_set rfl
  · exact agr_rfl
theorem rEB_kG {f : Nat} : agr kG R (rEB R f) := agr_tr eb1_kG eb1_kG
theorem rCP_lJ : agr lJ R (rCP R r) := agr_tr (agr_to (agr_set rfl) rfl) (lJ_ev rCP_ev)
theorem eb1_lJ {c : Nat} : agr lJ R (eb1 R c) := by
  unfold eb1
  split
  · split
    · exact agr_tr (agr_set rfl) rCP_lJ
    · exact agr_set rfl
  · exact agr_rfl
theorem rEB_lJ {f : Nat} : agr lJ R (rEB R f) := agr_tr eb1_lJ eb1_lJ
theorem rClose_kG : agr kG R (rClose R r) := by
  unfold rClose
  split
  · exact agr_tr (agr_tr rCP_kG (agr_set rfl)) rEB_kG
  · exact rCP_kG
theorem rClose_lJ : agr lJ R (rClose R r) := by
  unfold rClose
  split
  · exact agr_tr (agr_tr rCP_lJ (agr_set rfl)) rEB_lJ
  · exact rCP_lJ
theorem iR_of (h : SI b g t p q C R) : iR g R := by
  obtain ⟨h, z⟩ := h
  have hle := sm_le h
  obtain ⟨z1, z2, z3, z4, z5, z6, z7, z8, z9, z10, z11, z12, z13, z14, z15, z16⟩ := z
  intro r hr
  refine ⟨fun c j m hm h8 hj => ?_, fun c => ?_⟩
  · rcases h.2.2.2.2.2.2.2.2.2.2.2.2.2.2.2.1 r hr with ⟨-, -, e | e⟩ | ⟨e, -⟩
    · have := (z6 r hr).1 e j m hm h8 hj
      intro e'
      rw [e'] at this
      exact absurd this (by decide)
    · exact absurd c e.2
    · rcases (z6 r hr).2.1 e with w0 | ⟨w1, k, k1, k2, k3, k4⟩
      · have : m = 0 := (nI_n0 (by omega)).mp (hm.symm.trans w0)
        omega
      · have : m = 1 := sm_nIinj (hm.symm.trans w1) (by omega) (by omega)
        have hj0 : j = 0 := by omega
        subst hj0
        rw [Nat.add_zero, k4]
        have : k = 0 ∨ k = 1 := by omega
        rcases this with e | e <;> subst e <;> decide
  · obtain ⟨f, -, -, e, -⟩ := sm_part h hr c
    exact (z6 r hr).2.2 e
theorem cl_SI (h : SI b g t p q C R) (hb : b + 60 < 2 ^ 30) (hr : r < g) (h0 : R.1 (60, 0) r = 0) (hs : ¬ R.1 (51, 0) r = 2) : ∃ C', fc_K_closeGiver (0, 0) (some (20, r)) C = some C' ∧ fc_M_close (50, 0) (nI r) R = some (rClose R r) ∧ SI (b + 24) g t p q C' (rClose R r) := by
  obtain ⟨C', x1, x2, x3⟩ := cg_both h.1 hb h.2.1 (iR_of h) hr hs
  refine ⟨C', x1, x2, x3, ?_⟩
  have z := rCP_Inv h.2 hr h0 hs
  unfold rClose
  split
  next c =>
    obtain ⟨f, f1, f2, -⟩ := sm_part h.1 hr c.1
    have hle := sm_le h.1
    rw [f2, nI_clamp (by omega)]
    refine rEB_Inv (m67 z hr (Or.inr ⟨rfl, ?_, ?_⟩)) f1
    · rw [rCP_ev (62, 0) r rfl, se_ne (by simp)]
      exact xo_sE_eq _ _ _ _
    · rw [ka_has rCP_lJ]
      intro e
      exact c.2 (h.2.2.2.2.2.2.2.2.2.2.2.2.2.1 r hr e).2.2
  next => exact z
/-! failing -/
theorem rFP_ev {er : Int32} : agr lEv (xo_sE (xo_sE (xo_sE (xo_sE R (62, 0) r 0) (60, 0) r 0) (51, 0) r 2) (52, 0) r er) (rFP R r er) := by
  unfold rFP
  rw [se_com (n := (62, 0)) (m := (60, 0)) (by simp), se_com (n := (62, 0)) (m := (51, 0)) (by simp), se_com (n := (62, 0)) (m := (52, 0)) (by simp)]
  exact rAL_ev _ _ _
theorem rFP_Inv {er : Int32} (z : Inv g t p q R) (hr : r < g) : Inv g t p q (rFP R r er) := by
  refine ev_Inv rFP_ev (m51f (m60 (m62z z) (Or.inl rfl)) hr ?_ ?_)
  · exact xo_sE_eq _ _ _ _
  · rw [se_ne (by simp)]; exact xo_sE_eq _ _ _ _
theorem rFP_kG {er : Int32} : agr kG R (rFP R r er) := agr_tr (agr_to (agr_to (agr_to (agr_set rfl) rfl) rfl) rfl) (kG_ev rFP_ev)
theorem rFP_lJ {er : Int32} : agr lJ R (rFP R r er) := agr_tr (agr_to (agr_to (agr_to (agr_set rfl) rfl) rfl) rfl) (lJ_ev rFP_ev)
theorem rFPo_Inv {er : Int32} (z : Inv g t p q R) (hr : r < g) : Inv g t p q (rFPo R r er) := by
  unfold rFPo
  split
  · exact rFP_Inv z hr
  · exact z
theorem rFPo_kG {er : Int32} : agr kG R (rFPo R r er) := by
  unfold rFPo
  split
  · exact rFP_kG
  · exact agr_rfl
theorem rFPo_lJ {er : Int32} : agr lJ R (rFPo R r er) := by
  unfold rFPo
  split
  · exact rFP_lJ
  · exact agr_rfl
theorem rFail_kG {er : Int32} : agr kG R (rFail R r er) := by
  unfold rFail
  split
  · split
    · exact rFP_kG
    · refine agr_tr (agr_tr (agr_tr ?_ rFP_kG) rFPo_kG) rFPo_kG
      split
      · exact agr_rfl
      · exact agr_set rfl
  · exact agr_rfl
theorem rFail_Inv {er : Int32} (h : SI b g t p q C R) (hr : r < g) : Inv g t p q (rFail R r er) := by
  have z := h.2
  unfold rFail
  split
  next c =>
    split
    next d => exact rFP_Inv z hr
    next d =>
      obtain ⟨f, f1, f2, -⟩ := sm_part h.1 hr d
      have hle := sm_le h.1
      rw [f2, nI_clamp (by omega)]
      refine rFPo_Inv (rFPo_Inv ?_ (by omega)) f1
      split
      · exact rFP_Inv z hr
      next e =>
        have z1 : Inv g t p q (xo_sE (xo_sE R (62, 0) r 0) (67, 0) r 0) := m67 (m62z z) hr (Or.inr ⟨rfl, xo_sE_eq _ _ _ _, by
          rw [ka_has (agr_set rfl)]
          intro e'
          exact e (h.2.2.2.2.2.2.2.2.2.2.2.2.2.1 r hr e').2.2⟩)
        have z2 : Inv g t p q (xo_sE (xo_sE (xo_sE (xo_sE (xo_sE R (62, 0) r 0) (67, 0) r 0) (60, 0) r 0) (51, 0) r 2) (52, 0) r er) := m51f (m60 z1 (Or.inl rfl)) hr (xo_sE_eq _ _ _ _) (by
          rw [se_ne (by simp), se_ne (by simp)]; exact xo_sE_eq _ _ _ _)
        refine ev_Inv ?_ z2
        rw [se_com (n := (62, 0)) (m := (67, 0)) (by simp)]
        exact rFP_ev
  next => exact z
theorem fg_SI {er : Int32} (h : SI b g t p q C R) (hb : b + 60 < 2 ^ 30) (hr : r < g) : ∃ C', fc_K_failGiver (0, 0) (some (20, r)) er C = some C' ∧ fc_M_failRoot (50, 0) (nI r) er R = some (rFail R r er) ∧ SI (b + 24) g t p q C' (rFail R r er) := by
  obtain ⟨C', x1, x2, x3⟩ := fg_both (er := er) h.1 hb (iR_of h) hr
  exact ⟨C', x1, x2, x3, rFail_Inv h hr⟩
end CL
