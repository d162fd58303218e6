theorem se_ne {H : xo_H} {n m : xo_N} {f : Nat} {v : Int32} (h : ¬ m = n) : (xo_sE H n f v).1 m = H.1 m := funext fun g => by rw [se_E1, if_neg fun z => h z.1]
theorem se_nf {H : xo_H} {n m : xo_N} {f g : Nat} {v : Int32} (h : ¬ (m = n ∧ g = f)) : (xo_sE H n f v).1 m g = H.1 m g := by rw [se_E1, if_neg h]
theorem sm_tag {n : xo_N} {a i : Nat} (h : ¬ n.1 = a) : ¬ (a, i) = n := fun e => h (congrArg Prod.fst e).symm
def sm_en (w : Int32) : Int32 := if 0 < w then w else 0
/-- what a row of chunks leaves of the mark -/
def sm_rs (m bv : Int32) (f : Nat → Int32) : Nat → Int32
  | 0 => m
  | k + 1 => sm_rs m bv f k - (if bv = 0 then 1 else f k &&& 7)
theorem sm_rs_ext {m bv : Int32} {f g : Nat → Int32} : ∀ {n : Nat}, (∀ k, k < n → f k = g k) → sm_rs m bv f n = sm_rs m bv g n
  | 0, _ => rfl
  | n + 1, h => by
    rw [sm_rs, sm_rs, sm_rs_ext (fun k hk => h k (by omega)), h n (by omega)]
def sm_Q (C R : xo_H) : Prop := ∀ i : Nat, sm_W id C (22, i) 16 (R.1 (59, 0)) (16 * i) (R.1 (60, 0) i) ∧ C.1 (21, i) 3 = sm_rs (R.1 (53, 0) i) (R.1 (54, 0) i) (fun k => R.1 (59, 0) (16 * i + k)) (R.1 (60, 0) i).toNatClampNeg
def sm_A (C R : xo_H) : Prop := ∀ i : Nat, sm_W sm_en C (24, i) 8 (R.1 (61, 0)) (8 * i) (R.1 (62, 0) i)
def sm_U (C R : xo_H) : Prop := ∀ i : Nat, sm_W id C (32, i) 16 (R.1 (74, 0)) (16 * i) (R.1 (76, 0) i) ∧ sm_W id C (34, i) 16 (R.1 (75, 0)) (16 * i) (R.1 (76, 0) i) ∧ C.1 (31, i) 3 = sm_rs (R.1 (72, 0) i) (R.1 (73, 0) i) (fun k => R.1 (74, 0) (16 * i + k)) (R.1 (76, 0) i).toNatClampNeg
def sm_L (b : Nat) (C R : xo_H) : Prop := ∃ e, e ≤ b ∧ C.1 (1, 0) 3 = nI e ∧ R.1 (50, 0) 47 = nI e ∧ ∀ j, C.1 (2, 0) j = R.1 (93, 0) j ∧ C.1 (3, 0) j = R.1 (94, 0) j ∧ C.1 (4, 0) j = R.1 (95, 0) j
def sm_J (C R : xo_H) : Prop := ∃ n f h, n ≤ 16 ∧ f < 64 ∧ h < 16 ∧ R.1 (50, 0) 43 = nI n ∧ R.1 (50, 0) 42 = nI f ∧ (C.1 (6, 0) 2 = nI n ∧ C.1 (6, 0) 1 = nI h) ∧ (C.1 (8, 0) 2 = nI n ∧ C.1 (8, 0) 1 = nI h) ∧ (C.1 (10, 0) 2 = nI n ∧ C.1 (10, 0) 1 = nI h) ∧ ∀ k, k < n → C.1 (7, 0) ((h + k) % 16) = R.1 (90, 0) ((f + k) % 64) ∧ C.1 (9, 0) ((h + k) % 16) = R.1 (91, 0) ((f + k) % 64) ∧ C.1 (11, 0) ((h + k) % 16) = R.1 (92, 0) ((f + k) % 64)
/-- names that are still free -/
def sm_V (g t p : Nat) (C R : xo_H) : Prop := (∀ a i, 20 ≤ a → a ≤ 25 → g ≤ i → C.2.2 (a, i) = false) ∧ (∀ a i, 30 ≤ a → a ≤ 35 → t ≤ i → C.2.2 (a, i) = false) ∧ (∀ i, p ≤ i → C.2.2 (40, i) = false) ∧ (∀ a i, a = 41 ∨ a = 42 → (i < g → R.1 (65, 0) i = -1) → C.2.2 (a, i) = false)
/-- counts, numbers, and pointers: the class's objects by their numbers -/
def sm_P (g t p : Nat) (C R : xo_H) : Prop :=
  (R.2.1 = MP ∧ g ≤ 6 ∧ t ≤ 2 ∧ p ≤ 2 ∧ sm_V g t p C R) ∧ (C.1 (0, 0) 5 = nI g ∧ C.1 (0, 0) 6 = nI t ∧ C.1 (0, 0) 7 = nI p) ∧ (R.1 (50, 0) 0 = nI g ∧ R.1 (50, 0) 20 = nI t ∧ R.1 (50, 0) 36 = nI p) ∧
  (C.2.1 (0, 0) 0 = some (1, 0) ∧ C.2.1 (0, 0) 1 = some (5, 0) ∧ C.2.1 (0, 0) 2 = some (12, 0) ∧ C.2.1 (0, 0) 3 = some (13, 0) ∧ C.2.1 (0, 0) 4 = some (14, 0)) ∧
  (C.2.1 (1, 0) 0 = some (2, 0) ∧ C.2.1 (1, 0) 1 = some (3, 0) ∧ C.2.1 (1, 0) 2 = some (4, 0)) ∧
  (C.2.1 (5, 0) 0 = some (6, 0) ∧ C.2.1 (5, 0) 1 = some (8, 0) ∧ C.2.1 (5, 0) 2 = some (10, 0) ∧ C.2.1 (6, 0) 0 = some (7, 0) ∧ C.2.1 (8, 0) 0 = some (9, 0) ∧ C.2.1 (10, 0) 0 = some (11, 0)) ∧
  (∀ i, i < g → C.2.1 (12, 0) i = some (20, i) ∧ C.1 (20, i) 0 = nI i ∧ C.2.1 (20, i) 1 = some (21, i) ∧ C.2.1 (20, i) 2 = some (1, 0) ∧ C.2.1 (20, i) 3 = some (24, i) ∧ C.2.1 (21, i) 0 = some (22, i) ∧ C.2.1 (22, i) 0 = some (23, i) ∧ C.2.1 (24, i) 0 = some (25, i)) ∧
  (∀ i, i < g → (R.1 (66, 0) i = -1 ∧ C.2.1 (20, i) 11 = none) ∨ ∃ r, r < g ∧ R.1 (66, 0) i = nI r ∧ C.2.1 (20, i) 11 = some (41, r) ∧ R.1 (66, 0) r = -1 ∧ R.1 (65, 0) i = -1 ∧ ∃ f, R.1 (65, 0) r = nI f ∧ (i = f ∨ i = f + 1)) ∧
  (∀ i, i < g → (R.1 (65, 0) i = -1 ∧ C.2.1 (20, i) 12 = none) ∨ (R.1 (58, 0) i = 2 ∧ C.2.1 (20, i) 12 = some (41, i) ∧ C.2.1 (41, i) 0 = some (20, i) ∧ C.2.1 (41, i) 1 = some (42, i) ∧ ∃ f, f + 1 < g ∧ R.1 (65, 0) i = nI f ∧ C.2.1 (42, i) 0 = some (20, f) ∧ C.2.1 (42, i) 1 = some (20, f + 1) ∧ R.1 (66, 0) f = nI i ∧ R.1 (66, 0) (f + 1) = nI i)) ∧
  (∀ i, i < g → (R.1 (58, 0) i ≠ 1 ∧ C.2.1 (20, i) 13 = none ∧ (R.1 (58, 0) i = 0 ∨ R.1 (58, 0) i = 2 ∧ R.1 (65, 0) i ≠ -1)) ∨ (R.1 (58, 0) i = 1 ∧ R.1 (65, 0) i = -1 ∧ ∃ k, k < p ∧ C.2.1 (20, i) 13 = some (40, k) ∧ R.1 (85, 0) k = nI i ∧ R.1 (88, 0) k = 0)) ∧
  (∀ i, i < t → C.2.1 (13, 0) i = some (30, i) ∧ C.1 (30, i) 0 = nI i ∧ C.2.1 (30, i) 1 = some (31, i) ∧ C.2.1 (30, i) 2 = some (1, 0) ∧ C.2.1 (30, i) 3 = some (34, i) ∧ C.2.1 (31, i) 0 = some (32, i) ∧ C.2.1 (32, i) 0 = some (33, i) ∧ C.2.1 (34, i) 0 = some (35, i)) ∧
  (∀ k, k < p → C.2.1 (14, 0) k = some (40, k) ∧ C.1 (40, k) 0 = nI k ∧ ∃ i w, i < g ∧ w < t ∧ R.1 (85, 0) k = nI i ∧ R.1 (86, 0) k = nI w ∧ C.2.1 (40, k) 1 = some (20, i) ∧ C.2.1 (40, k) 2 = some (30, w) ∧ (C.1 (40, k) 3 = 0 ↔ R.1 (87, 0) k &&& 1 = 0) ∧ (C.1 (40, k) 4 = 0 ↔ R.1 (87, 0) k &&& 2 = 0) ∧ (C.1 (40, k) 5 = 0 ↔ R.1 (87, 0) k &&& 4 = 0) ∧ (R.1 (88, 0) k = 0 → R.1 (58, 0) i = 1 ∧ R.1 (83, 0) w = 1 ∧ C.2.1 (20, i) 13 = some (40, k)))
/-! where each part looks: places that it doesn't read may change -/
def lc_S (a f : Nat) : Bool := sm_T.any fun e => e.1 == a && e.2.1 == f
def lr_S (a _f : Nat) : Bool := sm_T.any fun e => e.2.2 == a
def lc_Q (a f : Nat) : Bool := a == 22 || a == 23 || (a == 21 && f == 3)
def lr_Q (a _f : Nat) : Bool := a == 53 || a == 54 || a == 59 || a == 60
def lc_A (a _f : Nat) : Bool := a == 24 || a == 25
def lr_A (a _f : Nat) : Bool := a == 61 || a == 62
def lc_U (a f : Nat) : Bool := a == 32 || a == 33 || a == 34 || a == 35 || (a == 31 && f == 3)
def lr_U (a _f : Nat) : Bool := a == 72 || a == 73 || a == 74 || a == 75 || a == 76
def lc_L (a f : Nat) : Bool := (a == 1 && f == 3) || a == 2 || a == 3 || a == 4
def lr_L (a f : Nat) : Bool := (a == 50 && f == 47) || a == 93 || a == 94 || a == 95
def lc_J (a _f : Nat) : Bool := a == 6 || a == 7 || a == 8 || a == 9 || a == 10 || a == 11
def lr_J (a f : Nat) : Bool := (a == 50 && (f == 42 || f == 43)) || a == 90 || a == 91 || a == 92
def lc_P (a f : Nat) : Bool := a == 0 || (a == 20 && f == 0) || (a == 30 && f == 0) || (a == 40 && !(f == 6))
def lr_P (a f : Nat) : Bool := (a == 50 && (f == 0 || f == 20 || f == 36)) || a == 58 || a == 65 || a == 66 || a == 83 || a == 85 || a == 86 || a == 87 || a == 88
section SK
variable {C R : xo_H} {n : xo_N} {f : Nat} {v : Int32}
theorem kc_S (h : sm_S C R) (hl : lc_S n.1 f = false) : sm_S (xo_sE C n f v) R := sm_S_c h fun e he z => by
  have : lc_S n.1 f = true := List.any_eq_true.mpr ⟨e, he, by simp [z.1, z.2]⟩
  rw [hl] at this; cases this
theorem kr_S (h : sm_S C R) (hl : lr_S n.1 f = false) : sm_S C (xo_sE R n f v) := sm_S_r h fun e he z => by
  have : lr_S n.1 f = true := List.any_eq_true.mpr ⟨e, he, by simp [z]⟩
  rw [hl] at this; cases this
theorem kc_Q (h : sm_Q C R) (hl : lc_Q n.1 f = false) : sm_Q (xo_sE C n f v) R := by
  simp only [lc_Q, Bool.or_eq_false_iff, Bool.and_eq_false_iff, beq_eq_false_iff_ne, ne_eq] at hl
  intro i
  refine ⟨sm_W_keep (h i).1 (se_ne (sm_tag hl.1.1)) (se_ne (sm_tag hl.1.2)) (fun _ _ => rfl) rfl, ?_⟩
  rw [se_nf]
  · exact (h i).2
  · intro z
    rcases hl.2 with e | e
    · exact e (congrArg Prod.fst z.1).symm
    · exact e z.2.symm
theorem kr_Q (h : sm_Q C R) (hl : lr_Q n.1 f = false) : sm_Q C (xo_sE R n f v) := by
  simp only [lr_Q, Bool.or_eq_false_iff, beq_eq_false_iff_ne, ne_eq] at hl
  intro i
  rw [se_ne (sm_tag hl.1.1.1), se_ne (sm_tag hl.1.1.2), se_ne (sm_tag hl.1.2), se_ne (sm_tag hl.2)]
  exact h i
theorem kc_A (h : sm_A C R) (hl : lc_A n.1 f = false) : sm_A (xo_sE C n f v) R := by
  simp only [lc_A, Bool.or_eq_false_iff, beq_eq_false_iff_ne, ne_eq] at hl
  intro i
  exact sm_W_keep (h i) (se_ne (sm_tag hl.1)) (se_ne (sm_tag hl.2)) (fun _ _ => rfl) rfl
theorem kr_A (h : sm_A C R) (hl : lr_A n.1 f = false) : sm_A C (xo_sE R n f v) := by
  simp only [lr_A, Bool.or_eq_false_iff, beq_eq_false_iff_ne, ne_eq] at hl
  intro i
  rw [se_ne (sm_tag hl.1), se_ne (sm_tag hl.2)]
  exact h i
theorem kc_U (h : sm_U C R) (hl : lc_U n.1 f = false) : sm_U (xo_sE C n f v) R := by
  simp only [lc_U, Bool.or_eq_false_iff, Bool.and_eq_false_iff, beq_eq_false_iff_ne, ne_eq] at hl
  intro i
  refine ⟨sm_W_keep (h i).1 (se_ne (sm_tag hl.1.1.1.1)) (se_ne (sm_tag hl.1.1.1.2)) (fun _ _ => rfl) rfl, sm_W_keep (h i).2.1 (se_ne (sm_tag hl.1.1.2)) (se_ne (sm_tag hl.1.2)) (fun _ _ => rfl) rfl, ?_⟩
  rw [se_nf]
  · exact (h i).2.2
  · intro z
    rcases hl.2 with e | e
    · exact e (congrArg Prod.fst z.1).symm
    · exact e z.2.symm
theorem kr_U (h : sm_U C R) (hl : lr_U n.1 f = false) : sm_U C (xo_sE R n f v) := by
  simp only [lr_U, Bool.or_eq_false_iff, beq_eq_false_iff_ne, ne_eq] at hl
  intro i
  rw [se_ne (sm_tag hl.1.1.1.1), se_ne (sm_tag hl.1.1.1.2), se_ne (sm_tag hl.1.1.2), se_ne (sm_tag hl.1.2), se_ne (sm_tag hl.2)]
  exact h i
theorem sm_nf {m : xo_N} {g : Nat} {a : Nat} (h : ¬ n.1 = a ∨ ¬ f = g) (hm : m.1 = a) : ¬ (m = n ∧ g = f) := fun z => by
  rcases h with h | h
  · exact h (by rw [← z.1]; exact hm)
  · exact h z.2.symm
theorem kc_L {b : Nat} (h : sm_L b C R) (hl : lc_L n.1 f = false) : sm_L b (xo_sE C n f v) R := by
  simp only [lc_L, Bool.or_eq_false_iff, Bool.and_eq_false_iff, beq_eq_false_iff_ne, ne_eq] at hl
  obtain ⟨e, h1, h2, h3, h4⟩ := h
  refine ⟨e, h1, by rw [se_nf (sm_nf hl.1.1.1 rfl)]; exact h2, h3, fun j => ?_⟩
  rw [se_ne (sm_tag hl.1.1.2), se_ne (sm_tag hl.1.2), se_ne (sm_tag hl.2)]
  exact h4 j
theorem kr_L {b : Nat} (h : sm_L b C R) (hl : lr_L n.1 f = false) : sm_L b C (xo_sE R n f v) := by
  simp only [lr_L, Bool.or_eq_false_iff, Bool.and_eq_false_iff, beq_eq_false_iff_ne, ne_eq] at hl
  obtain ⟨e, h1, h2, h3, h4⟩ := h
  refine ⟨e, h1, h2, by rw [se_nf (sm_nf hl.1.1.1 rfl)]; exact h3, fun j => ?_⟩
  rw [se_ne (sm_tag hl.1.1.2), se_ne (sm_tag hl.1.2), se_ne (sm_tag hl.2)]
  exact h4 j
theorem kc_J (h : sm_J C R) (hl : lc_J n.1 f = false) : sm_J (xo_sE C n f v) R := by
  simp only [lc_J, Bool.or_eq_false_iff, beq_eq_false_iff_ne, ne_eq] at hl
  unfold sm_J
  rw [se_ne (sm_tag hl.1.1.1.1.1), se_ne (sm_tag hl.1.1.1.1.2), se_ne (sm_tag hl.1.1.1.2), se_ne (sm_tag hl.1.1.2), se_ne (sm_tag hl.1.2), se_ne (sm_tag hl.2)]
  exact h
theorem kr_J (h : sm_J C R) (hl : lr_J n.1 f = false) : sm_J C (xo_sE R n f v) := by
  simp only [lr_J, Bool.or_eq_false_iff, Bool.and_eq_false_iff, beq_eq_false_iff_ne, ne_eq] at hl
  unfold sm_J
  have h1 : ¬ n.1 = 50 ∨ ¬ f = 42 := hl.1.1.1.imp id And.left
  have h2 : ¬ n.1 = 50 ∨ ¬ f = 43 := hl.1.1.1.imp id And.right
  rw [se_nf (m := (50, 0)) (sm_nf h1 rfl), se_nf (m := (50, 0)) (sm_nf h2 rfl), se_ne (sm_tag hl.1.1.2), se_ne (sm_tag hl.1.2), se_ne (sm_tag hl.2)]
  exact h
end SK
