/-- a chunk is taken out -/
def qt_R (R : xo_H) (i n : Nat) : xo_H := sh_R (xo_sE R (60, 0) i (nI n)) 59 (16 * i) n
section KS
variable {C R : xo_H} {tg lo n b g t p : Nat}
theorem ks_S (h : sm_S C R) (hl : lr_S tg 0 = false) : sm_S C (sh_R R tg lo n) := by
  intro e he j
  rw [sh_ne]
  · exact h e he j
  · intro z
    have : lr_S tg 0 = true := List.any_eq_true.mpr ⟨e, he, beq_iff_eq.mpr (congrArg Prod.fst z)⟩
    rw [hl] at this; cases this
theorem ks_A (h : sm_A C R) (hl : lr_A tg 0 = false) : sm_A C (sh_R R tg lo n) := by
  simp only [lr_A, Bool.or_eq_false_iff, beq_eq_false_iff_ne, ne_eq] at hl
  intro i
  rw [sh_ne (by simp; omega), sh_ne (by simp; omega)]
  exact h i
theorem ks_Q (h : sm_Q C R) (hl : lr_Q tg 0 = false) : sm_Q C (sh_R R tg lo n) := by
  simp only [lr_Q, Bool.or_eq_false_iff, beq_eq_false_iff_ne, ne_eq] at hl
  intro i
  rw [sh_ne (by simp; omega), sh_ne (by simp; omega), sh_ne (by simp; omega), sh_ne (by simp; omega)]
  exact h i
theorem ks_U (h : sm_U C R) (hl : lr_U tg 0 = false) : sm_U C (sh_R R tg lo n) := by
  simp only [lr_U, Bool.or_eq_false_iff, beq_eq_false_iff_ne, ne_eq] at hl
  intro i
  rw [sh_ne (by simp; omega), sh_ne (by simp; omega), sh_ne (by simp; omega), sh_ne (by simp; omega), sh_ne (by simp; omega)]
  exact h i
theorem ks_L (h : sm_L b C R) (hl : tg < 90 ∧ 50 < tg) : sm_L b C (sh_R R tg lo n) := by
  unfold sm_L
  rw [sh_ne (m := (50, 0)) (by simp; omega), sh_ne (m := (93, 0)) (by simp; omega), sh_ne (m := (94, 0)) (by simp; omega), sh_ne (m := (95, 0)) (by simp; omega)]
  exact h
theorem ks_J (h : sm_J C R) (hl : tg < 90 ∧ 50 < tg) : sm_J C (sh_R R tg lo n) := by
  unfold sm_J
  rw [sh_ne (m := (50, 0)) (by simp; omega), sh_ne (m := (90, 0)) (by simp; omega), sh_ne (m := (91, 0)) (by simp; omega), sh_ne (m := (92, 0)) (by simp; omega)]
  exact h
theorem ks_P (h : sm_P g t p C R) (hl : lr_P tg 0 = false) (h5 : ¬ tg = 50) : sm_P g t p C (sh_R R tg lo n) := by
  simp only [lr_P, Bool.or_eq_false_iff, Bool.and_eq_false_iff, beq_eq_false_iff_ne, ne_eq] at hl
  have h50 : (sh_R R tg lo n).1 (50, 0) = R.1 (50, 0) := sh_ne (by simp; exact fun z => h5 z.symm)
  have e58 : (sh_R R tg lo n).1 (58, 0) = R.1 (58, 0) := sh_ne (by simp; omega)
  have e65 : (sh_R R tg lo n).1 (65, 0) = R.1 (65, 0) := sh_ne (by simp; omega)
  have e66 : (sh_R R tg lo n).1 (66, 0) = R.1 (66, 0) := sh_ne (by simp; omega)
  have e83 : (sh_R R tg lo n).1 (83, 0) = R.1 (83, 0) := sh_ne (by simp; omega)
  have e85 : (sh_R R tg lo n).1 (85, 0) = R.1 (85, 0) := sh_ne (by simp; omega)
  have e86 : (sh_R R tg lo n).1 (86, 0) = R.1 (86, 0) := sh_ne (by simp; omega)
  have e87 : (sh_R R tg lo n).1 (87, 0) = R.1 (87, 0) := sh_ne (by simp; omega)
  have e88 : (sh_R R tg lo n).1 (88, 0) = R.1 (88, 0) := sh_ne (by simp; omega)
  unfold sm_P sm_V at h ⊢
  simp only [sh_2, h50, e58, e65, e66, e83, e85, e86, e87, e88]
  exact h
end KS
theorem qt_sm {b g t p i n : Nat} {C R : xo_H} (h : sm b g t p C R) (hi : i < g) (hn : R.1 (60, 0) i = nI (n + 1)) (h16 : n < 16) : ∃ C', fc_C_takeFirst (21, i) C = some (R.1 (59, 0) (16 * i), C') ∧ sm b g t p C' (qt_R R i n) := by
  obtain ⟨-, -, -, -, -, p0, p1, -⟩ := sm_ptr h hi
  have hbv := sm_get h 21 2 54 i (by decide)
  obtain ⟨h1, h2, h3, h4, h5, h6, h7⟩ := h
  obtain ⟨⟨n', hd, a1, a2, a3, a4, a5, a6⟩, q⟩ := h2 i
  have := sm_nIinj (a5.symm.trans hn) (by omega) (by omega)
  subst this
  have z : C.1 (23, i) hd = R.1 (59, 0) (16 * i) := by
    have := a6 0 (by omega)
    simp only [Nat.add_zero, Nat.mod_eq_of_lt a2, id] at this
    exact this
  have tk := cr_take (kd_21 i) (kd_22 i) (kd_23 i) p0 p1 a3 a4 h16 a2 (by simp)
  rw [show ((22, i).1 + 1, (22, i).2) = (23, i) from rfl, z, hbv] at tk
  refine ⟨_, tk, ?_⟩
  unfold qt_R
  refine ⟨kc_S (kc_S (kc_S (ks_S (kr_S h1 rfl) rfl) rfl) rfl) rfl, fun j => ?_, kc_A (kc_A (kc_A (ks_A (kr_A h3 rfl) rfl) rfl) rfl) rfl, kc_U (kc_U (kc_U (ks_U (kr_U h4 rfl) rfl) rfl) rfl) rfl, kc_L (kc_L (kc_L (ks_L (kr_L h5 rfl) (by decide)) rfl) rfl) rfl, kc_J (kc_J (kc_J (ks_J (kr_J h6 rfl) (by decide)) rfl) rfl) rfl, kc_P (kc_P (kc_P (ks_P (kr_P h7 rfl) rfl (by decide)) rfl) rfl) rfl⟩
  by_cases c : j = i
  · subst c
    refine ⟨?_, ?_⟩
    · have w := sm_W_take (en := id) (C := C) (t := (22, j)) (cap := 16) (f := R.1 (59, 0)) (f' := (sh_R (xo_sE R (60, 0) j (nI n)) 59 (16 * j) n).1 (59, 0)) (b := 16 * j) (cnt := nI n) h16 a2 a6 (fun k hk => by rw [sh_1, if_pos (by simp; omega), se_nf (by simp)]) rfl
      refine sm_W_keep w (se_ne (by simp)) (se_ne (by simp)) (fun _ _ => rfl) ?_
      rw [sh_ne (by simp)]; simp [se_E1]
    · rw [sh_ne (m := (53, 0)) (by simp), sh_ne (m := (54, 0)) (by simp), sh_ne (m := (60, 0)) (by simp), se_ne (m := (53, 0)) (by simp), se_ne (m := (54, 0)) (by simp), se_E1, if_pos (by simp), se_E1, if_pos (by simp), nI_clamp (by omega), q, hn, nI_clamp (by omega)]
      exact (rs_tail fun k hk => by rw [sh_1, if_pos (by simp; omega), se_nf (by simp)]; rfl).symm
  · refine Q_keep h2 ?_ ?_ ?_ ?_ ?_ ?_ ?_
    · rw [se_ne (by simp), se_ne (by simp [c]), se_ne (by simp [c])]
    · rw [se_ne (by simp), se_ne (by simp), se_ne (by simp)]
    · rw [se_nf (by simp [c]), se_nf (by simp), se_nf (by simp)]
    · intro k hk
      rw [sh_1, if_neg (by simp; omega), se_nf (by simp)]
    · rw [sh_ne (by simp), se_nf (by simp [c])]
    · rw [sh_ne (by simp), se_nf (by simp)]
    · rw [sh_ne (by simp), se_nf (by simp)]
theorem qc_sm {b g t p i : Nat} {C R : xo_H} (h : sm b g t p C R) (hi : i < g) : ∃ C', fc_C_clear (21, i) C = some C' ∧ sm b g t p C' (xo_sE R (60, 0) i 0) := by
  obtain ⟨-, -, -, -, -, p0, p1, -⟩ := sm_ptr h hi
  have hmk := sm_get h 21 1 53 i (by decide)
  obtain ⟨h1, h2, h3, h4, h5, h6, h7⟩ := h
  refine ⟨_, cr_clear (kd_21 i) (kd_22 i) p0 (by simp), ?_⟩
  refine ⟨kc_S (kc_S (kr_S h1 rfl) rfl) rfl, fun j => ?_, kc_A (kc_A (kr_A h3 rfl) rfl) rfl, kc_U (kc_U (kr_U h4 rfl) rfl) rfl, kc_L (kc_L (kr_L h5 rfl) rfl) rfl, kc_J (kc_J (kr_J h6 rfl) rfl) rfl, kc_P (kc_P (kr_P h7 rfl) rfl) rfl⟩
  by_cases c : j = i
  · subst c
    refine ⟨?_, ?_⟩
    · exact sm_W_keep (sm_W_clear (cnt' := 0) (f' := R.1 (59, 0)) (h2 j).1 rfl) (se_ne (by simp)) (se_ne (by simp)) (fun _ _ => by rw [se_ne (by simp)]) (by simp [se_E1])
    · rw [se_ne (m := (53, 0)) (by simp), se_ne (m := (54, 0)) (by simp), se_E1, if_pos (by simp), se_E1, if_pos (by simp), hmk]
      rfl
  · refine Q_keep h2 ?_ ?_ ?_ ?_ ?_ ?_ ?_
    · rw [se_ne (by simp), se_ne (by simp [c])]
    · rw [se_ne (by simp), se_ne (by simp)]
    · rw [se_nf (by simp [c]), se_nf (by simp)]
    · intro k hk
      rw [se_nf (by simp)]
    · rw [se_nf (by simp [c])]
    · rw [se_nf (by simp)]
    · rw [se_nf (by simp)]
/-! requests -/
def aa_R (R : xo_H) (i n : Nat) (v : Int32) : xo_H := xo_sE (xo_sE R (61, 0) (8 * i + n) v) (62, 0) i (nI (n + 1))
theorem aa_sm {b g t p i n : Nat} {C R : xo_H} {v v' : Int32} (h : sm b g t p C R) (hi : i < g) (hn : R.1 (62, 0) i = nI n) (h8 : n < 8) (hv : v = sm_en v') : ∃ C', fc_R_add (24, i) v C = some C' ∧ sm b g t p C' (aa_R R i n v') := by
  obtain ⟨-, -, -, -, -, -, -, p2⟩ := sm_ptr h hi
  obtain ⟨h1, h2, h3, h4, h5, h6, h7⟩ := h
  obtain ⟨n', hd, a1, a2, a3, a4, a5, a6⟩ := h3 i
  have := sm_nIinj (a5.symm.trans hn) (by omega) (by omega)
  subst this
  refine ⟨_, sm_add (kd_24 i) (kd_25 i) p2 a3 a4 h8 a2 (by decide), ?_⟩
  unfold aa_R
  refine ⟨kc_S (kc_S (kr_S (kr_S h1 rfl) rfl) rfl) rfl, kc_Q (kc_Q (kr_Q (kr_Q h2 rfl) rfl) rfl) rfl, fun j => ?_, kc_U (kc_U (kr_U (kr_U h4 rfl) rfl) rfl) rfl, kc_L (kc_L (kr_L (kr_L h5 rfl) rfl) rfl) rfl, kc_J (kc_J (kr_J (kr_J h6 rfl) rfl) rfl) rfl, kc_P (kc_P (kr_P (kr_P h7 rfl) rfl) rfl) rfl⟩
  by_cases c : j = i
  · subst c
    exact sm_W_add (en := sm_en) (f := R.1 (61, 0)) (v' := v') h8 a2 a3 a4 a6 hv (by simp [se_E1]) (fun k hk => by simp [se_E1]; omega) (by simp [se_E1])
  · refine sm_W_keep (h3 j) ?_ ?_ ?_ ?_
    · rw [se_ne (by simp [c]), se_ne (by simp)]
    · rw [se_ne (by simp), se_ne (by simp [c])]
    · intro k hk
      rw [se_nf (by simp), se_nf (by simp; omega)]
    · rw [se_nf (by simp [c]), se_nf (by simp)]
def at_R (R : xo_H) (i n : Nat) : xo_H := sh_R (xo_sE R (62, 0) i (nI n)) 61 (8 * i) n
theorem at_sm {b g t p i n : Nat} {C R : xo_H} (h : sm b g t p C R) (hi : i < g) (hn : R.1 (62, 0) i = nI (n + 1)) (h8 : n < 8) : ∃ C', fc_R_takeFirst (24, i) C = some (sm_en (R.1 (61, 0) (8 * i)), C') ∧ sm b g t p C' (at_R R i n) := by
  obtain ⟨-, -, -, -, -, -, -, p2⟩ := sm_ptr h hi
  obtain ⟨h1, h2, h3, h4, h5, h6, h7⟩ := h
  obtain ⟨n', hd, a1, a2, a3, a4, a5, a6⟩ := h3 i
  have := sm_nIinj (a5.symm.trans hn) (by omega) (by omega)
  subst this
  have z : C.1 (25, i) hd = sm_en (R.1 (61, 0) (8 * i)) := by
    have := a6 0 (by omega)
    simp only [Nat.add_zero, Nat.mod_eq_of_lt a2] at this
    exact this
  have tk := sm_take (kd_24 i) (kd_25 i) p2 a3 a4 a2 (by decide) (by omega)
  rw [show ((24, i).1 + 1, (24, i).2) = (25, i) from rfl, z] at tk
  refine ⟨_, tk, ?_⟩
  unfold at_R
  refine ⟨kc_S (kc_S (ks_S (kr_S h1 rfl) rfl) rfl) rfl, kc_Q (kc_Q (ks_Q (kr_Q h2 rfl) rfl) rfl) rfl, fun j => ?_, kc_U (kc_U (ks_U (kr_U h4 rfl) rfl) rfl) rfl, kc_L (kc_L (ks_L (kr_L h5 rfl) (by decide)) rfl) rfl, kc_J (kc_J (ks_J (kr_J h6 rfl) (by decide)) rfl) rfl, kc_P (kc_P (ks_P (kr_P h7 rfl) rfl (by decide)) rfl) rfl⟩
  by_cases c : j = i
  · subst c
    exact sm_W_take (en := sm_en) (f := R.1 (61, 0)) h8 a2 a6 (fun k hk => by rw [sh_1, if_pos (by simp; omega), se_nf (by simp)]) (by rw [sh_ne (by simp)]; simp [se_E1])
  · refine sm_W_keep (h3 j) ?_ ?_ ?_ ?_
    · rw [se_ne (by simp [c]), se_ne (by simp [c])]
    · rw [se_ne (by simp), se_ne (by simp)]
    · intro k hk
      rw [sh_1, if_neg (by simp; omega), se_nf (by simp)]
    · rw [sh_ne (by simp), se_nf (by simp [c])]
theorem ac_sm {b g t p i : Nat} {C R : xo_H} (h : sm b g t p C R) : ∃ C', fc_R_clear (24, i) C = some C' ∧ sm b g t p C' (xo_sE R (62, 0) i 0) := by
  obtain ⟨h1, h2, h3, h4, h5, h6, h7⟩ := h
  refine ⟨_, sm_clear (kd_24 i), ?_⟩
  refine ⟨kc_S (kr_S h1 rfl) rfl, kc_Q (kr_Q h2 rfl) rfl, fun j => ?_, kc_U (kr_U h4 rfl) rfl, kc_L (kr_L h5 rfl) rfl, kc_J (kr_J h6 rfl) rfl, kc_P (kr_P h7 rfl) rfl⟩
  by_cases c : j = i
  · subst c
    exact sm_W_clear (h3 j) (by simp [se_E1])
  · refine sm_W_keep (h3 j) ?_ ?_ ?_ ?_
    · rw [se_ne (by simp [c])]
    · rw [se_ne (by simp)]
    · intro k hk
      rw [se_nf (by simp)]
    · rw [se_nf (by simp [c])]
