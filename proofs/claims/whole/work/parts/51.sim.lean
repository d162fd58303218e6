/-! the relation of the class's named heap C and the reference's R -/
/-- the scalars that the two have in common: (class's tag, field, reference's tag) -/
def sm_T : List (Nat × Nat × Nat) := [(20, 4, 51), (20, 5, 52), (20, 6, 63), (20, 7, 55), (20, 8, 56), (20, 9, 57), (20, 10, 69), (21, 1, 53), (21, 2, 54), (41, 2, 67), (41, 3, 68), (30, 4, 70), (30, 5, 71), (30, 6, 77), (30, 7, 79), (30, 8, 81), (30, 9, 80), (30, 10, 82), (30, 11, 78), (30, 12, 83), (31, 1, 72), (31, 2, 73), (40, 6, 88)]
def sm_S (C R : xo_H) : Prop := ∀ e ∈ sm_T, ∀ i : Nat, C.1 (e.1, i) e.2.1 = R.1 (e.2.2, 0) i
theorem sm_T1 : ∀ e ∈ sm_T, ∀ e' ∈ sm_T, e.1 = e'.1 → e.2.1 = e'.2.1 → e = e' := by decide
theorem sm_T2 : ∀ e ∈ sm_T, ∀ e' ∈ sm_T, e.2.2 = e'.2.2 → e = e' := by decide
/-- a common scalar is set on both sides -/
theorem sm_S_set {C R : xo_H} (h : sm_S C R) (a f t i : Nat) (v : Int32) (he : (a, f, t) ∈ sm_T) : sm_S (xo_sE C (a, i) f v) (xo_sE R (t, 0) i v) := by
  intro e hm j
  rw [se_E1, se_E1]
  by_cases c : e = (a, f, t)
  · subst c
    by_cases d : j = i
    · subst d; simp
    · rw [if_neg (by simp [d]), if_neg (by simp [d])]; exact h _ hm j
  · rw [if_neg, if_neg]
    · exact h _ hm j
    · intro z
      have z1 : e.2.2 = t := congrArg Prod.fst z.1
      exact c (sm_T2 e hm _ he z1)
    · intro z
      have z1 : e.1 = a := congrArg Prod.fst z.1
      exact c (sm_T1 e hm _ he z1 z.2)
theorem sm_S_c {C R : xo_H} (h : sm_S C R) {n : xo_N} {f : Nat} {v : Int32} (hn : ∀ e ∈ sm_T, ¬ (e.1 = n.1 ∧ e.2.1 = f)) : sm_S (xo_sE C n f v) R := by
  intro e hm j
  rw [se_E1, if_neg]
  · exact h e hm j
  · intro z
    exact hn e hm ⟨congrArg Prod.fst z.1, z.2⟩
theorem sm_S_r {C R : xo_H} (h : sm_S C R) {n : xo_N} {f : Nat} {v : Int32} (hn : ∀ e ∈ sm_T, ¬ e.2.2 = n.1) : sm_S C (xo_sE R n f v) := by
  intro e hm j
  rw [se_E1, if_neg]
  · exact h e hm j
  · intro z
    exact hn e hm (congrArg Prod.fst z.1)
/-- a row of the class (a ring) and a stretch of the reference's array -/
def sm_W (en : Int32 → Int32) (C : xo_H) (t : xo_N) (cap : Nat) (f : Nat → Int32) (b : Nat) (cnt : Int32) : Prop :=
  ∃ n h, n ≤ cap ∧ h < cap ∧ C.1 t 2 = nI n ∧ C.1 t 1 = nI h ∧ cnt = nI n ∧ ∀ k, k < n → C.1 (t.1 + 1, t.2) ((h + k) % cap) = en (f (b + k))
theorem sm_W_keep {en : Int32 → Int32} {C C' : xo_H} {t : xo_N} {cap : Nat} {f f' : Nat → Int32} {b : Nat} {cnt cnt' : Int32} (h : sm_W en C t cap f b cnt) (h1 : C'.1 t = C.1 t) (h2 : C'.1 (t.1 + 1, t.2) = C.1 (t.1 + 1, t.2)) (h3 : ∀ k, k < cap → f' (b + k) = f (b + k)) (h4 : cnt' = cnt) : sm_W en C' t cap f' b cnt' := by
  obtain ⟨n, hd, a1, a2, a3, a4, a5, a6⟩ := h
  exact ⟨n, hd, a1, a2, by rw [h1]; exact a3, by rw [h1]; exact a4, by rw [h4]; exact a5, fun k hk => by rw [h2, h3 k (by omega)]; exact a6 k hk⟩
/-- Row.add where there is a place -/
theorem sm_add {C : xo_H} {t : xo_N} {cap n h : Nat} {v : Int32} (hk : xo_kd t = .inl 3) (hi : xo_kd (t.1 + 1, t.2) = .inr (0, cap)) (hp : C.2.1 t 0 = some (t.1 + 1, t.2)) (hn : C.1 t 2 = nI n) (hh : C.1 t 1 = nI h) (h1 : n < cap) (h2 : h < cap) (hc : cap < 65536) : fc_R_add t v C = some (xo_sE (xo_sE C (t.1 + 1, t.2) ((h + n) % cap) v) t 2 (nI (n + 1))) := by
  have hne : ¬ t = (t.1 + 1, t.2) := fun e => by have := congrArg Prod.fst e; simp at this
  unfold fc_R_add
  simp only [se_gf hk, se_gp hk, hp, se_ln hi (by decide), hn, hh]
  rw [if_pos (nI_lt h1 (by omega)), nI_add, se_rm (by omega) (by omega) (by omega), se_as hi (Nat.mod_lt _ (by omega)) (by omega)]
  simp only [se_pf hk, se_E1, hne, false_and, if_false, hn, nI_1]
theorem sm_full {C : xo_H} {t : xo_N} {cap n : Nat} {v : Int32} (hk : xo_kd t = .inl 3) (hi : xo_kd (t.1 + 1, t.2) = .inr (0, cap)) (hp : C.2.1 t 0 = some (t.1 + 1, t.2)) (hn : C.1 t 2 = nI n) (h1 : cap ≤ n) (hc : n < 65536) : fc_R_add t v C = some C := by
  unfold fc_R_add
  simp only [se_gf hk, se_gp hk, hp, se_ln hi (by decide), hn]
  rw [if_neg (nI_nlt h1 (by omega))]
theorem sm_take {C : xo_H} {t : xo_N} {cap n h : Nat} (hk : xo_kd t = .inl 3) (hi : xo_kd (t.1 + 1, t.2) = .inr (0, cap)) (hp : C.2.1 t 0 = some (t.1 + 1, t.2)) (hn : C.1 t 2 = nI (n + 1)) (hh : C.1 t 1 = nI h) (h2 : h < cap) (hc : cap < 65536) (hn2 : n < 65536) : fc_R_takeFirst t C = some (C.1 (t.1 + 1, t.2) h, xo_sE (xo_sE C t 1 (nI ((h + 1) % cap))) t 2 (nI n)) := by
  unfold fc_R_takeFirst
  simp only [se_gf hk, se_gp hk, hp, hn, hh, se_pf hk]
  rw [if_neg (nI_ne0 (by omega) (by omega)), se_al hi h2 (by omega)]
  simp only [se_ln hi (by decide), nI_1]
  rw [se_rm (by omega) (by omega) (by omega)]
  simp only [se_E1, hn]
  simp [nI_pred]
theorem sm_take0 {C : xo_H} {t : xo_N} (hk : xo_kd t = .inl 3) (hn : C.1 t 2 = 0) : fc_R_takeFirst t C = some (0, C) := by
  unfold fc_R_takeFirst
  simp only [se_gf hk, hn, if_true]
theorem sm_clear {C : xo_H} {t : xo_N} (hk : xo_kd t = .inl 3) : fc_R_clear t C = some (xo_sE C t 2 0) := by
  unfold fc_R_clear
  simp only [se_pf hk]
theorem sm_at {C : xo_H} {t : xo_N} {cap n h k : Nat} (hk : xo_kd t = .inl 3) (hi : xo_kd (t.1 + 1, t.2) = .inr (0, cap)) (hp : C.2.1 t 0 = some (t.1 + 1, t.2)) (hn : C.1 t 2 = nI n) (hh : C.1 t 1 = nI h) (h2 : h < cap) (hkn : k < n) (hc : cap < 65536) (hnc : n ≤ cap) : fc_R_at t (nI k) C = some (C.1 (t.1 + 1, t.2) ((h + k) % cap), C) := by
  unfold fc_R_at
  rw [if_neg (nI_pos (by omega))]
  simp only [se_gf hk, se_gp hk, hp, hn, hh, se_ln hi (by decide)]
  rw [if_pos (nI_lt hkn (by omega)), nI_add, se_rm (by omega) (by omega) (by omega), se_al hi (Nat.mod_lt _ (by omega)) (by omega)]
theorem sm_mod {cap h k : Nat} (hh : h < cap) (hk : k ≤ cap) : (h + k) % cap = if h + k < cap then h + k else h + k - cap := by
  split
  next c => exact Nat.mod_eq_of_lt c
  next c => rw [Nat.mod_eq_sub_mod (by omega), Nat.mod_eq_of_lt (by omega)]
theorem sm_modne {cap h n k : Nat} (hh : h < cap) (hn : n < cap) (hk : k < n) : ¬ (h + k) % cap = (h + n) % cap := by
  rw [sm_mod hh (by omega), sm_mod hh (by omega)]
  split <;> split <;> omega
theorem sm_W_add {en : Int32 → Int32} {C : xo_H} {t : xo_N} {cap : Nat} {f f' : Nat → Int32} {b n h : Nat} {cnt v v' : Int32} (h1 : n < cap) (h2 : h < cap) (hn : C.1 t 2 = nI n) (hh : C.1 t 1 = nI h) (hw : ∀ k, k < n → C.1 (t.1 + 1, t.2) ((h + k) % cap) = en (f (b + k))) (hv : v = en v') (f1 : f' (b + n) = v') (f2 : ∀ k, k < n → f' (b + k) = f (b + k)) (hc : cnt = nI (n + 1)) : sm_W en (xo_sE (xo_sE C (t.1 + 1, t.2) ((h + n) % cap) v) t 2 (nI (n + 1))) t cap f' b cnt := by
  have hne : ¬ t = (t.1 + 1, t.2) := fun e => by have := congrArg Prod.fst e; simp at this
  have hne' : ¬ (t.1 + 1, t.2) = t := fun e => hne e.symm
  refine ⟨n + 1, h, by omega, h2, by simp [se_E1], by simp [se_E1, hne, hh], hc, fun k hk => ?_⟩
  simp only [se_E1, hne', false_and, if_false, true_and]
  by_cases c : k = n
  · subst c; rw [if_pos rfl, f1]; exact hv
  · have hk' : k < n := by omega
    rw [if_neg (sm_modne h2 h1 hk'), f2 k hk']
    exact hw k hk'
theorem sm_W_take {en : Int32 → Int32} {C : xo_H} {t : xo_N} {cap : Nat} {f f' : Nat → Int32} {b n h : Nat} {cnt : Int32} (h1 : n < cap) (h2 : h < cap) (hw : ∀ k, k < n + 1 → C.1 (t.1 + 1, t.2) ((h + k) % cap) = en (f (b + k))) (f2 : ∀ k, k < n → f' (b + k) = f (b + k + 1)) (hc : cnt = nI n) : sm_W en (xo_sE (xo_sE C t 1 (nI ((h + 1) % cap))) t 2 (nI n)) t cap f' b cnt := by
  have hne : ¬ t = (t.1 + 1, t.2) := fun e => by have := congrArg Prod.fst e; simp at this
  have hne' : ¬ (t.1 + 1, t.2) = t := fun e => hne e.symm
  refine ⟨n, (h + 1) % cap, by omega, Nat.mod_lt _ (by omega), by simp [se_E1], by simp [se_E1], hc, fun k hk => ?_⟩
  simp only [se_E1, hne', false_and, if_false]
  rw [Nat.mod_add_mod, f2 k hk, show h + 1 + k = h + (k + 1) by omega, show b + k + 1 = b + (k + 1) by omega]
  exact hw (k + 1) (by omega)
theorem sm_W_clear {en : Int32 → Int32} {C : xo_H} {t : xo_N} {cap : Nat} {f f' : Nat → Int32} {b : Nat} {cnt cnt' : Int32} (h : sm_W en C t cap f b cnt) (hc : cnt' = 0) : sm_W en (xo_sE C t 2 0) t cap f' b cnt' := by
  obtain ⟨n, hd, a1, a2, a3, a4, a5, a6⟩ := h
  exact ⟨0, hd, by omega, a2, by simp [se_E1, nI_0], by simp [se_E1, a4], by rw [hc, nI_0], fun k hk => by omega⟩
