/-! jobs and the invariant -/
theorem pg : ∀ (N n : Nat) (f : Nat → Nat), (∀ i, i < n → f i < N) → (∀ i j, i < j → j < n → ¬ f i = f j) → n ≤ N
  | 0, n, f, h, _ => by
    rcases Nat.eq_zero_or_pos n with e | e
    · omega
    · have := h 0 e; omega
  | N + 1, n, f, h, h' => by
    by_cases c : ∃ i, i < n ∧ f i = N
    · obtain ⟨k, k1, k2⟩ := c
      have hd : ∀ i, i < n → ¬ i = k → ¬ f i = N := by
        intro i hi hk e
        rcases Nat.lt_or_ge i k with l | l
        · exact h' i k l k1 (e.trans k2.symm)
        · exact h' k i (by omega) hi (k2.trans e.symm)
      have z := pg N (n - 1) (fun i => if i < k then f i else f (i + 1)) (fun i hi => by
        show (if i < k then f i else f (i + 1)) < N
        split
        next l =>
          have a := h i (by omega)
          have b := hd i (by omega) (by omega)
          omega
        next l =>
          have a := h (i + 1) (by omega)
          have b := hd (i + 1) (by omega) (by omega)
          omega) (fun i j hij hj => by
        show ¬ (if i < k then f i else f (i + 1)) = (if j < k then f j else f (j + 1))
        by_cases a : i < k
        · rw [if_pos a]
          by_cases b : j < k
          · rw [if_pos b]; exact h' i j hij (by omega)
          · rw [if_neg b]; exact h' i (j + 1) (by omega) (by omega)
        · rw [if_neg a, if_neg (by omega)]
          exact h' (i + 1) (j + 1) (by omega) (by omega))
      omega
    · have z := pg N n f (fun i hi => by
        have a := h i hi
        have b : ¬ f i = N := fun e => c ⟨i, hi, e⟩
        omega) h'
      omega
theorem sl_lt {g t p : Nat} {k w : Int32} (hg : g ≤ 6) (ht : t ≤ 2) (hp : p ≤ 2) (h : jv g t p k w) : slot k w < 16 := by
  unfold slot
  rcases h with ⟨e, r, r1, r2⟩ | ⟨e, r, r1, r2⟩ | ⟨e, r, r1, r2⟩ | ⟨e, r, r1, r2⟩
  · rw [if_pos e, r2, nI_clamp (by omega)]; omega
  · rw [if_neg (by rw [e]; decide), if_pos e, r2, nI_clamp (by omega)]; omega
  · rw [if_neg (by rw [e]; decide), if_neg (by rw [e]; decide), if_pos e, r2, nI_clamp (by omega)]; omega
  · rw [if_neg (by rcases e with e | e | e <;> rw [e] <;> decide), if_neg (by rcases e with e | e | e <;> rw [e] <;> decide), if_neg (by rcases e with e | e | e <;> rw [e] <;> decide), r2, nI_clamp (by omega)]; omega
/-- the kinds of jobs by their slots -/
theorem sl_k {g t p : Nat} {k w : Int32} (hg : g ≤ 6) (ht : t ≤ 2) (hp : p ≤ 2) (h : jv g t p k w) : (k = 1 ∧ slot k w < 6 ∧ w = nI (slot k w)) ∨ (k = 2 ∧ 6 ≤ slot k w ∧ slot k w < 12 ∧ w = nI (slot k w - 6)) ∨ (k = 6 ∧ 14 ≤ slot k w ∧ w = nI (slot k w - 14)) ∨ ((k = 3 ∨ k = 4 ∨ k = 5) ∧ 12 ≤ slot k w ∧ slot k w < 14 ∧ w = nI (slot k w - 12)) := by
  rcases h with ⟨e, r, r1, r2⟩ | ⟨e, r, r1, r2⟩ | ⟨e, r, r1, r2⟩ | ⟨e, r, r1, r2⟩
  · have : slot k w = r := by unfold slot; rw [if_pos e, r2, nI_clamp (by omega)]
    rw [this]; exact Or.inl ⟨e, by omega, r2⟩
  · have : slot k w = 6 + r := by unfold slot; rw [if_neg (by rw [e]; decide), if_pos e, r2, nI_clamp (by omega)]
    rw [this, show 6 + r - 6 = r by omega]; exact Or.inr (Or.inl ⟨e, by omega, by omega, r2⟩)
  · have : slot k w = 14 + r := by unfold slot; rw [if_neg (by rw [e]; decide), if_neg (by rw [e]; decide), if_pos e, r2, nI_clamp (by omega)]
    rw [this, show 14 + r - 14 = r by omega]; exact Or.inr (Or.inr (Or.inl ⟨e, by omega, r2⟩))
  · have : slot k w = 12 + r := by unfold slot; rw [if_neg (by rcases e with e | e | e <;> rw [e] <;> decide), if_neg (by rcases e with e | e | e <;> rw [e] <;> decide), if_neg (by rcases e with e | e | e <;> rw [e] <;> decide), r2, nI_clamp (by omega)]
    rw [this, show 12 + r - 12 = r by omega]; exact Or.inr (Or.inr (Or.inr ⟨e, by omega, by omega, r2⟩))
section MJ
variable {R : xo_H} {g t p q f n : Nat}
theorem jb_j {k w x : Int32} (hf : R.1 (50, 0) 42 = nI f) (hn : R.1 (50, 0) 43 = nI n) (h1 : f < 64) (h2 : n < 64) : jN R = n ∧ jN (jb_R R f n k w x) = n + 1 ∧ (∀ i, i < n → jK (jb_R R f n k w x) i = jK R i ∧ jW (jb_R R f n k w x) i = jW R i) ∧ jK (jb_R R f n k w x) n = k ∧ jW (jb_R R f n k w x) n = w := by
  have a1 : jN R = n := by unfold jN; rw [hn, nI_clamp (by omega)]
  have a2 : jF R = f := by unfold jF; rw [hf, nI_clamp (by omega)]
  have b1 : jN (jb_R R f n k w x) = n + 1 := by
    unfold jN jb_R
    rw [xo_sE_eq, nI_clamp (by omega)]
  have b2 : jF (jb_R R f n k w x) = f := by
    unfold jF jb_R
    rw [se_nf (by simp), se_ne (by simp), se_ne (by simp), se_ne (by simp), hf, nI_clamp (by omega)]
  have e90 : ∀ c, (jb_R R f n k w x).1 (90, 0) c = if c = (f + n) % 64 then k else R.1 (90, 0) c := fun c => by
    unfold jb_R
    rw [se_ne (by simp), se_ne (by simp), se_ne (by simp), se_at]
  have e91 : ∀ c, (jb_R R f n k w x).1 (91, 0) c = if c = (f + n) % 64 then w else R.1 (91, 0) c := fun c => by
    unfold jb_R
    rw [se_ne (by simp), se_ne (by simp), se_at, se_ne (m := (91, 0)) (by simp)]
  refine ⟨a1, b1, fun i hi => ?_, ?_, ?_⟩
  · unfold jK jW
    rw [b2, a2, e90, e91, if_neg (sm_modne h1 h2 hi), if_neg (sm_modne h1 h2 hi)]
    exact ⟨rfl, rfl⟩
  · unfold jK
    rw [b2, e90, if_pos rfl]
  · unfold jW
    rw [b2, e91, if_pos rfl]
theorem jb_has {k x : Int32} {w : Nat} (hf : R.1 (50, 0) 42 = nI f) (hn : R.1 (50, 0) 43 = nI n) (h1 : f < 64) (h2 : n < 64) (k' : Int32) (w' : Nat) : has (jb_R R f n k (nI w) x) k' w' ↔ has R k' w' ∨ (k = k' ∧ nI w = nI w') := by
  obtain ⟨a1, a2, a3, a4, a5⟩ := jb_j (k := k) (w := nI w) (x := x) hf hn h1 h2
  unfold has
  rw [a1, a2]
  constructor
  · rintro ⟨i, i1, i2, i3⟩
    by_cases c : i = n
    · subst c
      rw [a4] at i2
      rw [a5] at i3
      exact Or.inr ⟨i2, i3⟩
    · obtain ⟨b1, b2⟩ := a3 i (by omega)
      rw [b1] at i2
      rw [b2] at i3
      exact Or.inl ⟨i, by omega, i2, i3⟩
  · rintro (⟨i, i1, i2, i3⟩ | ⟨i2, i3⟩)
    · obtain ⟨b1, b2⟩ := a3 i i1
      exact ⟨i, by omega, b1.trans i2, b2.trans i3⟩
    · exact ⟨n, by omega, a4.trans i2, a5.trans i3⟩
theorem jb_J1 {k w x : Int32} (z : J1 g t p R) (hf : R.1 (50, 0) 42 = nI f) (hn : R.1 (50, 0) 43 = nI n) (h1 : f < 64) (h2 : n < 64) (hv : jv g t p k w) (hs : ∀ i, i < n → ¬ slot (jK R i) (jW R i) = slot k w) : J1 g t p (jb_R R f n k w x) := by
  obtain ⟨a1, a2, a3, a4, a5⟩ := jb_j (k := k) (w := w) (x := x) hf hn h1 h2
  unfold J1 at z ⊢
  rw [a1] at z
  rw [a2]
  refine ⟨fun i hi => ?_, fun i j hij hj => ?_⟩
  · by_cases c : i = n
    · rw [c, a4, a5]; exact hv
    · obtain ⟨b1, b2⟩ := a3 i (by omega)
      rw [b1, b2]; exact z.1 i (by omega)
  · obtain ⟨b1, b2⟩ := a3 i (by omega)
    rw [b1, b2]
    by_cases c : j = n
    · rw [c, a4, a5]; exact hs i (by omega)
    · obtain ⟨c1, c2⟩ := a3 j (by omega)
      rw [c1, c2]; exact z.2 i j hij (by omega)
/-- a free slot leaves a place -/
theorem jb_room {k w : Int32} (hg : g ≤ 6) (ht : t ≤ 2) (hp : p ≤ 2) (z : J1 g t p R) (hn : jN R = n) (hv : jv g t p k w) (hs : ∀ i, i < n → ¬ slot (jK R i) (jW R i) = slot k w) : n < 16 := by
  unfold J1 at z
  rw [hn] at z
  have := pg 16 (n + 1) (fun i => if i < n then slot (jK R i) (jW R i) else slot k w) (fun i hi => by
    show (if i < n then slot (jK R i) (jW R i) else slot k w) < 16
    split
    next c => exact sl_lt hg ht hp (z.1 i c)
    next => exact sl_lt hg ht hp hv) (fun i j hij hj => by
    show ¬ (if i < n then slot (jK R i) (jW R i) else slot k w) = (if j < n then slot (jK R j) (jW R j) else slot k w)
    rw [if_pos (by omega)]
    by_cases c : j < n
    · rw [if_pos c]; exact z.2 i j hij c
    · rw [if_neg c]; exact hs i (by omega))
  omega
theorem jb_agr {L : Nat → Nat → Bool} {k w x : Int32} (h : ∀ c, (L 90 c || L 91 c || L 92 c || L 50 43) = false) : agr L R (jb_R R f n k w x) := by
  have z := h ((f + n) % 64)
  simp only [Bool.or_eq_false_iff] at z
  unfold jb_R
  exact agr_to (agr_to (agr_to (agr_set z.1.1.1) z.1.1.2) z.1.2) z.2
theorem jb_Inv {k x : Int32} {w : Nat} (hg : g ≤ 6) (ht : t ≤ 2) (hp : p ≤ 2) (z : Inv g t p q R) (hf : R.1 (50, 0) 42 = nI f) (hn : R.1 (50, 0) 43 = nI n) (h1 : f < 64) (h2 : n < 64) (hv : jv g t p k (nI w)) (hs : ∀ i, i < n → ¬ slot (jK R i) (jW R i) = slot k (nI w)) (j1 : JP g (jb_R R f n k (nI w) x)) (j2 : JD g (jb_R R f n k (nI w) x)) (j3 : JS t (jb_R R f n k (nI w) x)) (j4 : JM p (jb_R R f n k (nI w) x)) : Inv g t p q (jb_R R f n k (nI w) x) := by
  obtain ⟨z1, z2, z3, z4, z5, z6, z7, z8, z9, z10, z11, z12, z13, z14, z15, z16⟩ := z
  exact ⟨ka_F (jb_agr fun _ => rfl) z1, ka_S (jb_agr fun _ => rfl) z2, ka_B (jb_agr fun _ => rfl) z3, ka_E (jb_agr fun _ => rfl) z4, ka_Q (jb_agr fun _ => rfl) z5, ka_H (jb_agr fun _ => rfl) z6, ka_N (jb_agr fun _ => rfl) z7, ka_P (jb_agr fun _ => rfl) z8, ka_T (jb_agr fun _ => rfl) z9, ka_X (jb_agr fun _ => rfl) z10, jb_J1 z11 hf hn h1 h2 hv hs, j1, j2, j3, j4, ka_FR (jb_agr fun _ => rfl) z16⟩
/-! the first job is taken -/
theorem jp_j (hf : R.1 (50, 0) 42 = nI f) (hn : R.1 (50, 0) 43 = nI (n + 1)) (h1 : f < 64) (h2 : n < 64) : jN R = n + 1 ∧ jN (jp_R R f n) = n ∧ ∀ i, jK (jp_R R f n) i = jK R (i + 1) ∧ jW (jp_R R f n) i = jW R (i + 1) := by
  have a1 : jN R = n + 1 := by unfold jN; rw [hn, nI_clamp (by omega)]
  have a2 : jF R = f := by unfold jF; rw [hf, nI_clamp (by omega)]
  have b1 : jN (jp_R R f n) = n := by
    unfold jN jp_R
    rw [xo_sE_eq, nI_clamp (by omega)]
  have b2 : jF (jp_R R f n) = (f + 1) % 64 := by
    unfold jF jp_R
    rw [se_nf (by simp), xo_sE_eq, nI_clamp (by omega)]
  refine ⟨a1, b1, fun i => ?_⟩
  unfold jK jW
  rw [b2, a2, Nat.mod_add_mod, show f + 1 + i = f + (i + 1) by omega]
  unfold jp_R
  rw [se_ne (by simp), se_ne (by simp), se_ne (by simp), se_ne (by simp)]
  exact ⟨rfl, rfl⟩
theorem jp_has (hf : R.1 (50, 0) 42 = nI f) (hn : R.1 (50, 0) 43 = nI (n + 1)) (h1 : f < 64) (h2 : n < 64) (z : J1 g t p R) (k : Int32) (w : Nat) : (has (jp_R R f n) k w → has R k w) ∧ (has R k w → has (jp_R R f n) k w ∨ (jK R 0 = k ∧ jW R 0 = nI w)) ∧ (slot (jK R 0) (jW R 0) = slot k (nI w) → ¬ has (jp_R R f n) k w) := by
  obtain ⟨a1, a2, a3⟩ := jp_j hf hn h1 h2
  unfold has
  rw [a1, a2]
  refine ⟨?_, ?_, ?_⟩
  · rintro ⟨i, i1, i2, i3⟩
    rw [(a3 i).1] at i2
    rw [(a3 i).2] at i3
    exact ⟨i + 1, by omega, i2, i3⟩
  · rintro ⟨i, i1, i2, i3⟩
    cases i with
    | zero => exact Or.inr ⟨i2, i3⟩
    | succ i =>
      exact Or.inl ⟨i, by omega, (a3 i).1.trans i2, (a3 i).2.trans i3⟩
  · rintro hs ⟨i, i1, i2, i3⟩
    rw [(a3 i).1] at i2
    rw [(a3 i).2] at i3
    unfold J1 at z
    rw [a1] at z
    refine z.2 0 (i + 1) (by omega) (by omega) ?_
    rw [i2, i3]
    exact hs
theorem jp_J1 (hf : R.1 (50, 0) 42 = nI f) (hn : R.1 (50, 0) 43 = nI (n + 1)) (h1 : f < 64) (h2 : n < 64) (z : J1 g t p R) : J1 g t p (jp_R R f n) := by
  obtain ⟨a1, a2, a3⟩ := jp_j hf hn h1 h2
  unfold J1 at z ⊢
  rw [a1] at z
  rw [a2]
  refine ⟨fun i hi => ?_, fun i j hij hj => ?_⟩
  · rw [(a3 i).1, (a3 i).2]; exact z.1 (i + 1) (by omega)
  · rw [(a3 i).1, (a3 i).2, (a3 j).1, (a3 j).2]; exact z.2 (i + 1) (j + 1) (by omega) (by omega)
theorem jp_agr {L : Nat → Nat → Bool} (h1 : L 50 42 = false) (h2 : L 50 43 = false) : agr L R (jp_R R f n) := by
  unfold jp_R
  exact agr_to (agr_set h1) h2
end MJ
