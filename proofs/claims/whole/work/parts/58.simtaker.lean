/-! a taker's queue with the numbers of its writes: both sides -/
theorem U_keep {C C' R R' : xo_H} {j : Nat} (h : sm_U C R) (c1 : C'.1 (32, j) = C.1 (32, j)) (c2 : C'.1 (33, j) = C.1 (33, j)) (c3 : C'.1 (34, j) = C.1 (34, j)) (c4 : C'.1 (35, j) = C.1 (35, j)) (c5 : C'.1 (31, j) 3 = C.1 (31, j) 3) (r1 : ∀ k, k < 16 → R'.1 (74, 0) (16 * j + k) = R.1 (74, 0) (16 * j + k)) (r1' : ∀ k, k < 16 → R'.1 (75, 0) (16 * j + k) = R.1 (75, 0) (16 * j + k)) (r2 : R'.1 (76, 0) j = R.1 (76, 0) j) (r3 : R'.1 (72, 0) j = R.1 (72, 0) j) (r4 : R'.1 (73, 0) j = R.1 (73, 0) j) :
    sm_W id C' (32, j) 16 (R'.1 (74, 0)) (16 * j) (R'.1 (76, 0) j) ∧ sm_W id C' (34, j) 16 (R'.1 (75, 0)) (16 * j) (R'.1 (76, 0) j) ∧ C'.1 (31, j) 3 = sm_rs (R'.1 (72, 0) j) (R'.1 (73, 0) j) (fun k => R'.1 (74, 0) (16 * j + k)) (R'.1 (76, 0) j).toNatClampNeg := by
  obtain ⟨w, u, q⟩ := h j
  refine ⟨sm_W_keep w c1 c2 r1 r2, sm_W_keep u c3 c4 r1' r2, ?_⟩
  obtain ⟨n, hd, a1, a2, a3, a4, a5, a6⟩ := w
  rw [c5, q, r3, r4, r2, a5, nI_clamp (by omega)]
  exact sm_rs_ext fun k hk => (r1 k (by omega)).symm
def ua_R (R : xo_H) (i n : Nat) (v u : Int32) : xo_H := xo_sE (xo_sE (xo_sE R (74, 0) (16 * i + n) v) (75, 0) (16 * i + n) u) (76, 0) i (nI (n + 1))
theorem ua_sm {b g t p i n : Nat} {C R : xo_H} {v u : Int32} (h : sm b g t p C R) (hi : i < t) (hn : R.1 (76, 0) i = nI n) (h16 : n < 16) : ∃ C1 C2, fc_C_add (31, i) v C = some C1 ∧ C1.2 = C.2 ∧ C1.1 (30, i) = C.1 (30, i) ∧ fc_R_add (34, i) u C1 = some C2 ∧ sm b g t p C2 (ua_R R i n v u) := by
  obtain ⟨-, -, -, -, -, p0, p1, p2⟩ := sm_ptrT h hi
  have hbv := sm_get h 31 2 73 i (by decide)
  obtain ⟨h1, h2, h3, h4, h5, h6, h7⟩ := h
  obtain ⟨⟨n', hd, a1, a2, a3, a4, a5, a6⟩, ⟨n2, hd2, b1, b2, b3, b4, b5, b6⟩, q⟩ := h4 i
  have := sm_nIinj (a5.symm.trans hn) (by omega) (by omega)
  subst this
  have := sm_nIinj (b5.symm.trans hn) (by omega) (by omega)
  subst this
  refine ⟨_, _, cr_add (kd_31 i) (kd_32 i) (kd_33 i) p0 p1 a3 a4 h16 a2 (by simp) (by simp), rfl, ?_, sm_add (n := n2) (h := hd2) (kd_34 i) (kd_35 i) (by simp only [se_E2]; exact p2) (by rw [se_ne (by simp), se_ne (by simp), se_ne (by simp)]; exact b3) (by rw [se_ne (by simp), se_ne (by simp), se_ne (by simp)]; exact b4) h16 b2 (by decide), ?_⟩
  · rw [se_ne (by simp), se_ne (by simp), se_ne (by simp)]
  unfold ua_R
  refine ⟨kc_S (kc_S (kc_S (kc_S (kc_S (kr_S (kr_S (kr_S h1 rfl) rfl) rfl) rfl) rfl) rfl) rfl) rfl, kc_Q (kc_Q (kc_Q (kc_Q (kc_Q (kr_Q (kr_Q (kr_Q h2 rfl) rfl) rfl) rfl) rfl) rfl) rfl) rfl, kc_A (kc_A (kc_A (kc_A (kc_A (kr_A (kr_A (kr_A h3 rfl) rfl) rfl) rfl) rfl) rfl) rfl) rfl, fun j => ?_, kc_L (kc_L (kc_L (kc_L (kc_L (kr_L (kr_L (kr_L h5 rfl) rfl) rfl) rfl) rfl) rfl) rfl) rfl, kc_J (kc_J (kc_J (kc_J (kc_J (kr_J (kr_J (kr_J h6 rfl) rfl) rfl) rfl) rfl) rfl) rfl) rfl, kc_P (kc_P (kc_P (kc_P (kc_P (kr_P (kr_P (kr_P h7 rfl) rfl) rfl) rfl) rfl) rfl) rfl) rfl⟩
  by_cases c : j = i
  · subst c
    refine ⟨?_, ?_, ?_⟩
    · have w := sm_W_add (en := id) (C := C) (t := (32, j)) (cap := 16) (f := R.1 (74, 0)) (f' := (ua_R R j n2 v u).1 (74, 0)) (b := 16 * j) (cnt := nI (n2 + 1)) (v := v) (v' := v) h16 a2 a3 a4 a6 rfl (by unfold ua_R; simp [se_E1]) (fun k hk => by unfold ua_R; simp [se_E1]; omega) rfl
      refine sm_W_keep w ?_ ?_ (fun _ _ => rfl) (by simp [se_E1])
      · rw [se_ne (by simp), se_ne (by simp), se_ne (by simp)]
      · rw [se_ne (by simp), se_ne (by simp), se_ne (by simp)]
    · refine sm_W_add (en := id) (f := R.1 (75, 0)) (v' := u) h16 b2 ?_ ?_ ?_ rfl (by simp [se_E1]) (fun k hk => by simp [se_E1]; omega) (by simp [se_E1])
      · rw [se_ne (by simp), se_ne (by simp), se_ne (by simp)]; exact b3
      · rw [se_ne (by simp), se_ne (by simp), se_ne (by simp)]; exact b4
      · intro k hk
        rw [se_ne (by simp), se_ne (by simp), se_ne (by simp)]
        exact b6 k hk
    · rw [se_nf (m := (31, j)) (by simp), se_nf (m := (31, j)) (by simp), se_E1, if_pos (by simp), se_ne (m := (72, 0)) (by simp), se_ne (m := (72, 0)) (by simp), se_ne (m := (72, 0)) (by simp), se_ne (m := (73, 0)) (by simp), se_ne (m := (73, 0)) (by simp), se_ne (m := (73, 0)) (by simp), se_E1, if_pos (by simp), nI_clamp (by omega), hbv, q, hn, nI_clamp (by omega), sm_rs]
      congr 1
      · exact sm_rs_ext fun k hk => by rw [se_nf (by simp), se_nf (by simp), se_nf (by simp; omega)]
      · simp [cr_sz, se_E1]
  · refine U_keep h4 ?_ ?_ ?_ ?_ ?_ ?_ ?_ ?_ ?_ ?_
    · rw [se_ne (by simp), se_ne (by simp), se_ne (by simp), se_ne (by simp [c]), se_ne (by simp)]
    · rw [se_ne (by simp), se_ne (by simp), se_ne (by simp), se_ne (by simp), se_ne (by simp [c])]
    · rw [se_ne (by simp [c]), se_ne (by simp), se_ne (by simp), se_ne (by simp), se_ne (by simp)]
    · rw [se_ne (by simp), se_ne (by simp [c]), se_ne (by simp), se_ne (by simp), se_ne (by simp)]
    · rw [se_nf (by simp), se_nf (by simp), se_nf (by simp [c]), se_nf (by simp), se_nf (by simp)]
    · intro k hk
      rw [se_nf (by simp), se_nf (by simp), se_nf (by simp; omega)]
    · intro k hk
      rw [se_nf (by simp), se_nf (by simp; omega), se_nf (by simp)]
    · rw [se_nf (by simp [c]), se_nf (by simp), se_nf (by simp)]
    · rw [se_nf (by simp), se_nf (by simp), se_nf (by simp)]
    · rw [se_nf (by simp), se_nf (by simp), se_nf (by simp)]
def ut_R (R : xo_H) (i n : Nat) : xo_H := sh_R (sh_R (xo_sE R (76, 0) i (nI n)) 74 (16 * i) n) 75 (16 * i) n
theorem ut_sm {b g t p i n : Nat} {C R : xo_H} (h : sm b g t p C R) (hi : i < t) (hn : R.1 (76, 0) i = nI (n + 1)) (h16 : n < 16) : ∃ v C1 C2, fc_C_takeFirst (31, i) C = some (v, C1) ∧ C1.2 = C.2 ∧ C1.1 (30, i) = C.1 (30, i) ∧ fc_R_takeFirst (34, i) C1 = some (R.1 (75, 0) (16 * i), C2) ∧ sm b g t p C2 (ut_R R i n) := by
  obtain ⟨-, -, -, -, -, p0, p1, p2⟩ := sm_ptrT h hi
  have hbv := sm_get h 31 2 73 i (by decide)
  obtain ⟨h1, h2, h3, h4, h5, h6, h7⟩ := h
  obtain ⟨⟨n', hd, a1, a2, a3, a4, a5, a6⟩, ⟨n2, hd2, b1, b2, b3, b4, b5, b6⟩, q⟩ := h4 i
  have := sm_nIinj (a5.symm.trans hn) (by omega) (by omega)
  subst this
  have := sm_nIinj (b5.symm.trans hn) (by omega) (by omega)
  subst this
  have z : C.1 (33, i) hd = R.1 (74, 0) (16 * i) := by
    have := a6 0 (by omega)
    simp only [Nat.add_zero, Nat.mod_eq_of_lt a2, id] at this
    exact this
  have z2 : C.1 (35, i) hd2 = R.1 (75, 0) (16 * i) := by
    have := b6 0 (by omega)
    simp only [Nat.add_zero, Nat.mod_eq_of_lt b2, id] at this
    exact this
  have tk := cr_take (kd_31 i) (kd_32 i) (kd_33 i) p0 p1 a3 a4 h16 a2 (by simp)
  rw [show ((32, i).1 + 1, (32, i).2) = (33, i) from rfl, z, hbv] at tk
  have tk2 := sm_take (C := xo_sE (xo_sE (xo_sE C (32, i) 1 (nI ((hd + 1) % 16))) (32, i) 2 (nI n)) (31, i) 3 (C.1 (31, i) 3 + cr_sz (R.1 (73, 0) i) (R.1 (74, 0) (16 * i)))) (n := n) (h := hd2) (kd_34 i) (kd_35 i) (by simp only [se_E2]; exact p2) (by rw [se_ne (by simp), se_ne (by simp), se_ne (by simp)]; exact b3) (by rw [se_ne (by simp), se_ne (by simp), se_ne (by simp)]; exact b4) b2 (by decide) (by omega)
  rw [show ((34, i).1 + 1, (34, i).2) = (35, i) from rfl, se_ne (m := (35, i)) (by simp), se_ne (m := (35, i)) (by simp), se_ne (m := (35, i)) (by simp), z2] at tk2
  refine ⟨_, _, _, tk, rfl, ?_, tk2, ?_⟩
  · rw [se_ne (by simp), se_ne (by simp), se_ne (by simp)]
  unfold ut_R
  refine ⟨kc_S (kc_S (kc_S (kc_S (kc_S (ks_S (ks_S (kr_S h1 rfl) rfl) rfl) rfl) rfl) rfl) rfl) rfl, kc_Q (kc_Q (kc_Q (kc_Q (kc_Q (ks_Q (ks_Q (kr_Q h2 rfl) rfl) rfl) rfl) rfl) rfl) rfl) rfl, kc_A (kc_A (kc_A (kc_A (kc_A (ks_A (ks_A (kr_A h3 rfl) rfl) rfl) rfl) rfl) rfl) rfl) rfl, fun j => ?_, kc_L (kc_L (kc_L (kc_L (kc_L (ks_L (ks_L (kr_L h5 rfl) (by decide)) (by decide)) rfl) rfl) rfl) rfl) rfl, kc_J (kc_J (kc_J (kc_J (kc_J (ks_J (ks_J (kr_J h6 rfl) (by decide)) (by decide)) rfl) rfl) rfl) rfl) rfl, kc_P (kc_P (kc_P (kc_P (kc_P (ks_P (ks_P (kr_P h7 rfl) rfl (by decide)) rfl (by decide)) rfl) rfl) rfl) rfl) rfl⟩
  by_cases c : j = i
  · subst c
    refine ⟨?_, ?_, ?_⟩
    · have w := sm_W_take (en := id) (C := C) (t := (32, j)) (cap := 16) (f := R.1 (74, 0)) (f' := (ut_R R j n).1 (74, 0)) (b := 16 * j) (cnt := nI n) h16 a2 a6 (fun k hk => by unfold ut_R; rw [sh_ne (by simp), sh_1, if_pos (by simp; omega), se_nf (by simp)]) rfl
      refine sm_W_keep w ?_ ?_ (fun _ _ => rfl) ?_
      · rw [se_ne (by simp), se_ne (by simp), se_ne (by simp)]
      · rw [se_ne (by simp), se_ne (by simp), se_ne (by simp)]
      · rw [sh_ne (by simp), sh_ne (by simp)]; simp [se_E1]
    · refine sm_W_take (en := id) (f := R.1 (75, 0)) h16 b2 ?_ (fun k hk => by rw [sh_1, if_pos (by simp; omega), sh_ne (by simp), se_nf (by simp)]) (by rw [sh_ne (by simp), sh_ne (by simp)]; simp [se_E1])
      intro k hk
      rw [se_ne (by simp), se_ne (by simp), se_ne (by simp)]
      exact b6 k hk
    · rw [se_nf (m := (31, j)) (by simp), se_nf (m := (31, j)) (by simp), se_E1, if_pos (by simp), sh_ne (m := (72, 0)) (by simp), sh_ne (m := (72, 0)) (by simp), se_ne (m := (72, 0)) (by simp), sh_ne (m := (73, 0)) (by simp), sh_ne (m := (73, 0)) (by simp), se_ne (m := (73, 0)) (by simp), sh_ne (m := (76, 0)) (by simp), sh_ne (m := (76, 0)) (by simp), se_E1, if_pos (by simp), nI_clamp (by omega), q, hn, nI_clamp (by omega)]
      exact (rs_tail fun k hk => by rw [sh_ne (by simp), sh_1, if_pos (by simp; omega), se_nf (by simp)]; rfl).symm
  · refine U_keep h4 ?_ ?_ ?_ ?_ ?_ ?_ ?_ ?_ ?_ ?_
    · rw [se_ne (by simp), se_ne (by simp), se_ne (by simp), se_ne (by simp [c]), se_ne (by simp [c])]
    · rw [se_ne (by simp), se_ne (by simp), se_ne (by simp), se_ne (by simp), se_ne (by simp)]
    · rw [se_ne (by simp [c]), se_ne (by simp [c]), se_ne (by simp), se_ne (by simp), se_ne (by simp)]
    · rw [se_ne (by simp), se_ne (by simp), se_ne (by simp), se_ne (by simp), se_ne (by simp)]
    · rw [se_nf (by simp), se_nf (by simp), se_nf (by simp [c]), se_nf (by simp), se_nf (by simp)]
    · intro k hk
      rw [sh_ne (by simp), sh_1, if_neg (by simp; omega), se_nf (by simp)]
    · intro k hk
      rw [sh_1, if_neg (by simp; omega), sh_ne (by simp), se_nf (by simp)]
    · rw [sh_ne (by simp), sh_ne (by simp), se_nf (by simp [c])]
    · rw [sh_ne (by simp), sh_ne (by simp), se_nf (by simp)]
    · rw [sh_ne (by simp), sh_ne (by simp), se_nf (by simp)]
theorem uc_sm {b g t p i : Nat} {C R : xo_H} (h : sm b g t p C R) (hi : i < t) : ∃ C1 C2, fc_R_clear (34, i) C = some C1 ∧ C1.2 = C.2 ∧ C1.1 (30, i) = C.1 (30, i) ∧ fc_C_clear (31, i) C1 = some C2 ∧ sm b g t p C2 (xo_sE R (76, 0) i 0) := by
  obtain ⟨-, -, -, -, -, p0, p1, p2⟩ := sm_ptrT h hi
  have hmk := sm_get h 31 1 72 i (by decide)
  obtain ⟨h1, h2, h3, h4, h5, h6, h7⟩ := h
  have ck := cr_clear (C := xo_sE C (34, i) 2 0) (kd_31 i) (kd_32 i) (by simp only [se_E2]; exact p0) (by simp)
  rw [se_ne (m := (31, i)) (by simp)] at ck
  refine ⟨_, _, sm_clear (kd_34 i), rfl, se_ne (by simp), ck, ?_⟩
  refine ⟨kc_S (kc_S (kc_S (kr_S h1 rfl) rfl) rfl) rfl, kc_Q (kc_Q (kc_Q (kr_Q h2 rfl) rfl) rfl) rfl, kc_A (kc_A (kc_A (kr_A h3 rfl) rfl) rfl) rfl, fun j => ?_, kc_L (kc_L (kc_L (kr_L h5 rfl) rfl) rfl) rfl, kc_J (kc_J (kc_J (kr_J h6 rfl) rfl) rfl) rfl, kc_P (kc_P (kc_P (kr_P h7 rfl) rfl) rfl) rfl⟩
  by_cases c : j = i
  · subst c
    refine ⟨?_, ?_, ?_⟩
    · have w := sm_W_clear (cnt' := 0) (f' := R.1 (74, 0)) (h4 j).1 rfl
      refine sm_W_keep w ?_ ?_ (fun _ _ => by rw [se_ne (by simp)]) (by simp [se_E1])
      · rw [se_ne (by simp)]
        funext g
        simp only [se_E1, Prod.mk.injEq]
        simp
      · rw [se_ne (by simp), se_ne (by simp), se_ne (by simp), se_ne (by simp)]
    · have w := sm_W_clear (cnt' := 0) (f' := R.1 (75, 0)) (h4 j).2.1 rfl
      refine sm_W_keep w ?_ ?_ (fun _ _ => by rw [se_ne (by simp)]) (by simp [se_E1])
      · rw [se_ne (by simp), se_ne (by simp)]
      · rw [se_ne (by simp), se_ne (by simp)]
    · rw [se_ne (m := (72, 0)) (by simp), se_ne (m := (73, 0)) (by simp), se_E1, if_pos (by simp), se_E1, if_pos (by simp), hmk]
      rfl
  · refine U_keep h4 ?_ ?_ ?_ ?_ ?_ ?_ ?_ ?_ ?_ ?_
    · rw [se_ne (by simp), se_ne (by simp [c]), se_ne (by simp)]
    · rw [se_ne (by simp), se_ne (by simp), se_ne (by simp)]
    · rw [se_ne (by simp), se_ne (by simp), se_ne (by simp [c])]
    · rw [se_ne (by simp), se_ne (by simp), se_ne (by simp)]
    · rw [se_nf (by simp [c]), se_nf (by simp), se_nf (by simp)]
    · intro k hk
      rw [se_nf (by simp)]
    · intro k hk
      rw [se_nf (by simp)]
    · rw [se_nf (by simp [c])]
    · rw [se_nf (by simp)]
    · rw [se_nf (by simp)]
