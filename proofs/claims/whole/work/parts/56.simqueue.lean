/-! a giver's queue: both sides -/
theorem sm_ptr {b g t p i : Nat} {C R : xo_H} (h : sm b g t p C R) (hi : i < g) : C.2.1 (12, 0) i = some (20, i) ∧ C.1 (20, i) 0 = nI i ∧ C.2.1 (20, i) 1 = some (21, i) ∧ C.2.1 (20, i) 2 = some (1, 0) ∧ C.2.1 (20, i) 3 = some (24, i) ∧ C.2.1 (21, i) 0 = some (22, i) ∧ C.2.1 (22, i) 0 = some (23, i) ∧ C.2.1 (24, i) 0 = some (25, i) := h.2.2.2.2.2.2.2.2.2.2.2.2.1 i hi
theorem sm_ptrT {b g t p i : Nat} {C R : xo_H} (h : sm b g t p C R) (hi : i < t) : C.2.1 (13, 0) i = some (30, i) ∧ C.1 (30, i) 0 = nI i ∧ C.2.1 (30, i) 1 = some (31, i) ∧ C.2.1 (30, i) 2 = some (1, 0) ∧ C.2.1 (30, i) 3 = some (34, i) ∧ C.2.1 (31, i) 0 = some (32, i) ∧ C.2.1 (32, i) 0 = some (33, i) ∧ C.2.1 (34, i) 0 = some (35, i) := h.2.2.2.2.2.2.2.2.2.2.2.2.2.2.2.2.1 i hi
theorem sm_MP {b g t p : Nat} {C R : xo_H} (h : sm b g t p C R) : R.2.1 = MP := h.2.2.2.2.2.2.1.1
theorem sm_le {b g t p : Nat} {C R : xo_H} (h : sm b g t p C R) : g ≤ 6 ∧ t ≤ 2 ∧ p ≤ 2 := ⟨h.2.2.2.2.2.2.1.2.1, h.2.2.2.2.2.2.1.2.2.1, h.2.2.2.2.2.2.1.2.2.2.1⟩
theorem sm_qn {b g t p : Nat} {C R : xo_H} (h : sm b g t p C R) (i : Nat) : ∃ n, n ≤ 16 ∧ R.1 (60, 0) i = nI n ∧ C.1 (22, i) 2 = nI n := by
  obtain ⟨⟨n, hd, a1, a2, a3, a4, a5, a6⟩, -⟩ := h.2.1 i
  exact ⟨n, a1, a5, a3⟩
theorem sm_an {b g t p : Nat} {C R : xo_H} (h : sm b g t p C R) (i : Nat) : ∃ n, n ≤ 8 ∧ R.1 (62, 0) i = nI n ∧ C.1 (24, i) 2 = nI n := by
  obtain ⟨n, hd, a1, a2, a3, a4, a5, a6⟩ := h.2.2.1 i
  exact ⟨n, a1, a5, a3⟩
theorem sm_un {b g t p : Nat} {C R : xo_H} (h : sm b g t p C R) (i : Nat) : ∃ n, n ≤ 16 ∧ R.1 (76, 0) i = nI n ∧ C.1 (32, i) 2 = nI n ∧ C.1 (34, i) 2 = nI n := by
  obtain ⟨⟨n, hd, a1, a2, a3, a4, a5, a6⟩, ⟨n', hd', a1', a2', a3', a4', a5', a6'⟩, -⟩ := h.2.2.2.1 i
  have : n' = n := (nI_eq (by omega) (by omega)).mp (a5'.symm.trans a5)
  subst this
  exact ⟨n', a1, a5, a3, a3'⟩
theorem sm_nIinj {a b : Nat} (h : nI a = nI b) (ha : a < 2 ^ 31) (hb : b < 2 ^ 31) : a = b := (nI_eq ha hb).mp h
theorem Q_keep {C C' R R' : xo_H} {j : Nat} (h : sm_Q C R) (c1 : C'.1 (22, j) = C.1 (22, j)) (c2 : C'.1 (23, j) = C.1 (23, j)) (c3 : C'.1 (21, j) 3 = C.1 (21, j) 3) (r1 : ∀ k, k < 16 → R'.1 (59, 0) (16 * j + k) = R.1 (59, 0) (16 * j + k)) (r2 : R'.1 (60, 0) j = R.1 (60, 0) j) (r3 : R'.1 (53, 0) j = R.1 (53, 0) j) (r4 : R'.1 (54, 0) j = R.1 (54, 0) j) :
    sm_W id C' (22, j) 16 (R'.1 (59, 0)) (16 * j) (R'.1 (60, 0) j) ∧ C'.1 (21, j) 3 = sm_rs (R'.1 (53, 0) j) (R'.1 (54, 0) j) (fun k => R'.1 (59, 0) (16 * j + k)) (R'.1 (60, 0) j).toNatClampNeg := by
  obtain ⟨w, q⟩ := h j
  refine ⟨sm_W_keep w c1 c2 r1 r2, ?_⟩
  obtain ⟨n, hd, a1, a2, a3, a4, a5, a6⟩ := w
  rw [c3, q, r3, r4, r2, a5, nI_clamp (by omega)]
  exact sm_rs_ext fun k hk => (r1 k (by omega)).symm
def qa_R (R : xo_H) (i n : Nat) (v : Int32) : xo_H := xo_sE (xo_sE R (59, 0) (16 * i + n) v) (60, 0) i (nI (n + 1))
theorem qa_sm {b g t p i n : Nat} {C R : xo_H} {v : Int32} (h : sm b g t p C R) (hi : i < g) (hn : R.1 (60, 0) i = nI n) (h16 : n < 16) : ∃ C', fc_C_add (21, i) v C = some C' ∧ sm b g t p C' (qa_R R i n v) := by
  obtain ⟨-, -, -, -, -, p0, p1, -⟩ := sm_ptr h hi
  have hbv := sm_get h 21 2 54 i (by decide)
  obtain ⟨h1, h2, h3, h4, h5, h6, h7⟩ := h
  obtain ⟨⟨n', hd, a1, a2, a3, a4, a5, a6⟩, q⟩ := h2 i
  have := sm_nIinj (a5.symm.trans hn) (by omega) (by omega)
  subst this
  refine ⟨_, cr_add (kd_21 i) (kd_22 i) (kd_23 i) p0 p1 a3 a4 h16 a2 (by simp) (by simp), ?_⟩
  unfold qa_R
  refine ⟨kc_S (kc_S (kc_S (kr_S (kr_S h1 rfl) rfl) rfl) rfl) rfl, fun j => ?_, kc_A (kc_A (kc_A (kr_A (kr_A h3 rfl) rfl) rfl) rfl) rfl, kc_U (kc_U (kc_U (kr_U (kr_U h4 rfl) rfl) rfl) rfl) rfl, kc_L (kc_L (kc_L (kr_L (kr_L h5 rfl) rfl) rfl) rfl) rfl, kc_J (kc_J (kc_J (kr_J (kr_J h6 rfl) rfl) rfl) rfl) rfl, kc_P (kc_P (kc_P (kr_P (kr_P h7 rfl) rfl) rfl) rfl) rfl⟩
  by_cases c : j = i
  · subst c
    refine ⟨?_, ?_⟩
    · have w := sm_W_add (en := id) (C := C) (t := (22, j)) (cap := 16) (f := R.1 (59, 0)) (f' := (xo_sE (xo_sE R (59, 0) (16 * j + n') v) (60, 0) j (nI (n' + 1))).1 (59, 0)) (b := 16 * j) (cnt := nI (n' + 1)) (v := v) (v' := v) h16 a2 a3 a4 a6 rfl (by simp [se_E1]) (fun k hk => by simp [se_E1]; omega) rfl
      refine sm_W_keep w (se_ne (by simp)) (se_ne (by simp)) (fun _ _ => rfl) (by simp [se_E1])
    · simp only [se_E1, Prod.mk.injEq]
      simp only [hbv, q, hn, nI_clamp (show n' < 2 ^ 31 by omega), nI_clamp (show n' + 1 < 2 ^ 31 by omega)]
      simp only [and_self, if_true, true_and, Nat.reduceEqDiff, false_and, if_false, nI_clamp (show n' + 1 < 2 ^ 31 by omega)]
      rw [sm_rs]
      congr 1
      · exact sm_rs_ext fun k hk => by rw [if_neg (by omega)]
      · simp [cr_sz]
  · refine Q_keep h2 ?_ ?_ ?_ ?_ ?_ ?_ ?_
    · rw [se_ne (by simp), se_ne (by simp [c]), se_ne (by simp)]
    · rw [se_ne (by simp), se_ne (by simp), se_ne (by simp [c])]
    · rw [se_nf (by simp [c]), se_nf (by simp), se_nf (by simp)]
    · intro k hk
      rw [se_nf (by simp), se_nf (by simp; omega)]
    · rw [se_nf (by simp [c]), se_nf (by simp)]
    · rw [se_nf (by simp), se_nf (by simp)]
    · rw [se_nf (by simp), se_nf (by simp)]
