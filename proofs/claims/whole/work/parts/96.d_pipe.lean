section PP
variable {b g t p q i w : Nat} {C R : xo_H} {x k1 k2 k4 : Int32}
def ppC (C : xo_H) (p i w : Nat) (k1 k2 k4 : Int32) : xo_H := xo_sE (xo_sP (xo_sE (xo_sP (xo_sE (xo_sE (xo_sE (xo_sP (xo_sP (xo_sE (xo_sN C (40, p)) (40, p) 0 (nI p)) (40, p) 1 (some (20, i))) (40, p) 2 (some (30, w))) (40, p) 3 k1) (40, p) 4 k2) (40, p) 5 k4) (14, 0) p (some (40, p))) (0, 0) 7 (nI (p + 1))) (20, i) 13 (some (40, p))) (30, w) 12 1
def ppR (R : xo_H) (p i w : Nat) (x : Int32) : xo_H := xo_sE (xo_sE (xo_sE (xo_sE (xo_sE (xo_sE R (85, 0) p (nI i)) (86, 0) p (nI w)) (87, 0) p x) (58, 0) i 1) (83, 0) w 1) (50, 0) 36 (nI (p + 1))
theorem ppC_1 {m : xo_N} {f : Nat} (h1 : ¬ m = (40, p)) (h2 : ¬ (m = (0, 0) ∧ f = 7)) (h3 : ¬ (m = (30, w) ∧ f = 12)) : (ppC C p i w k1 k2 k4).1 m f = C.1 m f := by
  simp only [ppC, se_E1, se_P1, sN_1, h1, h2, h3, false_and, if_false]
theorem ppC_2 {m : xo_N} {f : Nat} (h1 : ¬ m = (40, p)) (h2 : ¬ (m = (14, 0) ∧ f = p)) (h3 : ¬ (m = (20, i) ∧ f = 13)) : (ppC C p i w k1 k2 k4).2.1 m f = C.2.1 m f := by
  simp only [ppC, se_E2, se_P2, sN_2, h1, h2, h3, false_and, if_false]
theorem ppC_3 {m : xo_N} (h1 : ¬ m = (40, p)) : (ppC C p i w k1 k2 k4).2.2 m = C.2.2 m := by
  simp only [ppC, se_E2, se_P3, sN_3, h1, if_false]
theorem ppC_n : (ppC C p i w k1 k2 k4).1 (0, 0) 7 = nI (p + 1) ∧ (ppC C p i w k1 k2 k4).1 (40, p) 0 = nI p ∧ (ppC C p i w k1 k2 k4).1 (40, p) 3 = k1 ∧ (ppC C p i w k1 k2 k4).1 (40, p) 4 = k2 ∧ (ppC C p i w k1 k2 k4).1 (40, p) 5 = k4 ∧ (ppC C p i w k1 k2 k4).1 (40, p) 6 = 0 ∧ (ppC C p i w k1 k2 k4).1 (30, w) 12 = 1 := by
  refine ⟨?_, ?_, ?_, ?_, ?_, ?_, ?_⟩ <;> simp [ppC, se_E1, se_P1, sN_1]
theorem ppC_p : (ppC C p i w k1 k2 k4).2.1 (14, 0) p = some (40, p) ∧ (ppC C p i w k1 k2 k4).2.1 (40, p) 1 = some (20, i) ∧ (ppC C p i w k1 k2 k4).2.1 (40, p) 2 = some (30, w) ∧ (ppC C p i w k1 k2 k4).2.1 (20, i) 13 = some (40, p) := by
  refine ⟨?_, ?_, ?_, ?_⟩ <;> simp [ppC, se_E2, se_P2, sN_2]
theorem ppR_1 {a f : Nat} (h : ¬ (a = 85 ∨ a = 86 ∨ a = 87 ∨ a = 58 ∨ a = 83)) (h5 : ¬ (a = 50 ∧ f = 36)) : (ppR R p i w x).1 (a, 0) f = R.1 (a, 0) f := by
  unfold ppR
  rw [se_nf (by simp; omega), se_nf (by simp; omega), se_nf (by simp; omega), se_nf (by simp; omega), se_nf (by simp; omega), se_nf (by simp; omega)]
theorem ppR_n : (ppR R p i w x).1 (50, 0) 36 = nI (p + 1) ∧ (∀ j, (ppR R p i w x).1 (85, 0) j = if j = p then nI i else R.1 (85, 0) j) ∧ (∀ j, (ppR R p i w x).1 (86, 0) j = if j = p then nI w else R.1 (86, 0) j) ∧ (∀ j, (ppR R p i w x).1 (87, 0) j = if j = p then x else R.1 (87, 0) j) ∧ (∀ j, (ppR R p i w x).1 (58, 0) j = if j = i then 1 else R.1 (58, 0) j) ∧ (∀ j, (ppR R p i w x).1 (83, 0) j = if j = w then 1 else R.1 (83, 0) j) := by
  refine ⟨?_, fun j => ?_, fun j => ?_, fun j => ?_, fun j => ?_, fun j => ?_⟩ <;> simp [ppR, se_E1]
theorem ppR_a {L : Nat → Nat → Bool} (h0 : L 85 p = false) (h1 : L 86 p = false) (h2 : L 87 p = false) (h3 : L 58 i = false) (h4 : L 83 w = false) (h5 : L 50 36 = false) : agr L R (ppR R p i w x) := agr_to (agr_to (agr_to (agr_to (agr_to (agr_set h0) h1) h2) h3) h4) h5
theorem pp_sm (h : SI b g t p q C R) (hp2 : p < 2) (hi : i < g) (hw : w < t) (h58 : R.1 (58, 0) i = 0) (h83 : R.1 (83, 0) w = 0) (f1 : k1 = 0 ↔ x &&& 1 = 0) (f2 : k2 = 0 ↔ x &&& 2 = 0) (f4 : k4 = 0 ↔ x &&& 4 = 0) : sm b g t (p + 1) (ppC C p i w k1 k2 k4) (ppR R p i w x) := by
  have hle := sm_le h.1
  obtain ⟨v1, v2, v3, v4⟩ := sm_vl h.1
  have z88 : R.1 (88, 0) p = 0 := (Inv_FR h.2).2.2 88 (by decide) p (by omega)
  obtain ⟨n1, n2, n3, n4, n5, n6, n7⟩ := ppC_n (C := C) (p := p) (i := i) (w := w) (k1 := k1) (k2 := k2) (k4 := k4)
  obtain ⟨p1, p2, p3, p4⟩ := ppC_p (C := C) (p := p) (i := i) (w := w) (k1 := k1) (k2 := k2) (k4 := k4)
  obtain ⟨m1, r85, r86, r87, r58, r83⟩ := ppR_n (R := R) (p := p) (i := i) (w := w) (x := x)
  have rk : ∀ a f, ¬ (a = 85 ∨ a = 86 ∨ a = 87 ∨ a = 58 ∨ a = 83) → ¬ (a = 50 ∧ f = 36) → (ppR R p i w x).1 (a, 0) f = R.1 (a, 0) f := fun a f h1 h2 => ppR_1 h1 h2
  have ck : ∀ a j f, ¬ (a = 40 ∧ j = p) → ¬ a = 0 → ¬ (a = 30 ∧ f = 12 ∧ j = w) → (ppC C p i w k1 k2 k4).1 (a, j) f = C.1 (a, j) f := fun a j f h0 h1 h2 => ppC_1 (fun z => h0 ⟨congrArg Prod.fst z, congrArg Prod.snd z⟩) (fun z => h1 (congrArg Prod.fst z.1)) (fun z => h2 ⟨congrArg Prod.fst z.1, z.2, congrArg Prod.snd z.1⟩)
  have cq : ∀ a j f, ¬ (a = 40 ∧ j = p) → ¬ a = 14 → ¬ (a = 20 ∧ f = 13 ∧ j = i) → (ppC C p i w k1 k2 k4).2.1 (a, j) f = C.2.1 (a, j) f := fun a j f h0 h1 h2 => ppC_2 (fun z => h0 ⟨congrArg Prod.fst z, congrArg Prod.snd z⟩) (fun z => h1 (congrArg Prod.fst z.1)) (fun z => h2 ⟨congrArg Prod.fst z.1, z.2, congrArg Prod.snd z.1⟩)
  obtain ⟨h1, h2, h3, h4, h5, h6, h7⟩ := h.1
  have kw : ∀ {en : Int32 → Int32} {a cap bs : Nat} {F F' : Nat → Int32} {cnt : Int32} {j : Nat}, sm_W en C (a, j) cap F bs cnt → 0 < a → a < 29 ∨ (30 < a ∧ a < 39) → (∀ k, k < cap → F' (bs + k) = F (bs + k)) → sm_W en (ppC C p i w k1 k2 k4) (a, j) cap F' bs cnt := fun {en a cap bs F F' cnt j} hh h0 ha hF => by
    refine sm_W_keep hh (funext fun f => ck _ _ f ?_ ?_ ?_) (funext fun f => ck _ _ f ?_ ?_ ?_) hF rfl
    all_goals omega
  refine ⟨?_, fun j => ?_, fun j => ?_, fun j => ?_, ?_, ?_, ?_⟩
  · intro e he j
    simp only [sm_T, List.mem_cons, List.not_mem_nil, or_false] at he
    have keep : ∀ a f r, ¬ a = 40 → ¬ a = 0 → ¬ (a = 30 ∧ f = 12) → (a, f, r) ∈ sm_T → ¬ (r = 85 ∨ r = 86 ∨ r = 87 ∨ r = 58 ∨ r = 83) → ¬ r = 50 → (ppC C p i w k1 k2 k4).1 (a, j) f = (ppR R p i w x).1 (r, 0) j := fun a f r ha h0 h3 hm hr h5 => by
      rw [ck a j f (fun z => ha z.1) h0 (fun z => h3 ⟨z.1, z.2.1⟩), rk r j hr (fun z => h5 z.1)]
      exact h1 _ hm j
    rcases he with e1 | e1 | e1 | e1 | e1 | e1 | e1 | e1 | e1 | e1 | e1 | e1 | e1 | e1 | e1 | e1 | e1 | e1 | e1 | e1 | e1 | e1 | e1 <;> subst e1
    · exact keep _ _ _ (by decide) (by decide) (by decide) (by decide) (by decide) (by decide)
    · exact keep _ _ _ (by decide) (by decide) (by decide) (by decide) (by decide) (by decide)
    · exact keep _ _ _ (by decide) (by decide) (by decide) (by decide) (by decide) (by decide)
    · exact keep _ _ _ (by decide) (by decide) (by decide) (by decide) (by decide) (by decide)
    · exact keep _ _ _ (by decide) (by decide) (by decide) (by decide) (by decide) (by decide)
    · exact keep _ _ _ (by decide) (by decide) (by decide) (by decide) (by decide) (by decide)
    · exact keep _ _ _ (by decide) (by decide) (by decide) (by decide) (by decide) (by decide)
    · exact keep _ _ _ (by decide) (by decide) (by decide) (by decide) (by decide) (by decide)
    · exact keep _ _ _ (by decide) (by decide) (by decide) (by decide) (by decide) (by decide)
    · exact keep _ _ _ (by decide) (by decide) (by decide) (by decide) (by decide) (by decide)
    · exact keep _ _ _ (by decide) (by decide) (by decide) (by decide) (by decide) (by decide)
    · exact keep _ _ _ (by decide) (by decide) (by decide) (by decide) (by decide) (by decide)
    · exact keep _ _ _ (by decide) (by decide) (by decide) (by decide) (by decide) (by decide)
    · exact keep _ _ _ (by decide) (by decide) (by decide) (by decide) (by decide) (by decide)
    · exact keep _ _ _ (by decide) (by decide) (by decide) (by decide) (by decide) (by decide)
    · exact keep _ _ _ (by decide) (by decide) (by decide) (by decide) (by decide) (by decide)
    · exact keep _ _ _ (by decide) (by decide) (by decide) (by decide) (by decide) (by decide)
    · exact keep _ _ _ (by decide) (by decide) (by decide) (by decide) (by decide) (by decide)
    · exact keep _ _ _ (by decide) (by decide) (by decide) (by decide) (by decide) (by decide)
    · show (ppC C p i w k1 k2 k4).1 (30, j) 12 = (ppR R p i w x).1 (83, 0) j
      rw [r83]
      by_cases c : j = w
      · rw [if_pos c, c, n7]
      · rw [if_neg c, ck 30 j 12 (by simp) (by simp) (by simp [c])]
        exact h1 (30, 12, 83) (by decide) j
    · exact keep _ _ _ (by decide) (by decide) (by decide) (by decide) (by decide) (by decide)
    · exact keep _ _ _ (by decide) (by decide) (by decide) (by decide) (by decide) (by decide)
    · show (ppC C p i w k1 k2 k4).1 (40, j) 6 = (ppR R p i w x).1 (88, 0) j
      rw [rk 88 j (by simp) (by simp)]
      by_cases c : j = p
      · rw [c, n6, z88]
      · rw [ck 40 j 6 (by simp [c]) (by simp) (by simp)]
        exact h1 (40, 6, 88) (by decide) j
  · have er : ∀ a, 51 ≤ a → a ≤ 62 → ¬ a = 58 → ∀ k, (ppR R p i w x).1 (a, 0) k = R.1 (a, 0) k := fun a _ _ _ k => rk a k (by omega) (by omega)
    rw [er 60 (by omega) (by omega) (by omega), er 53 (by omega) (by omega) (by omega), er 54 (by omega) (by omega) (by omega)]
    refine ⟨kw (h2 j).1 (by omega) (by omega) (fun k _ => er 59 (by omega) (by omega) (by omega) _), ?_⟩
    rw [ck 21 j 3 (by simp) (by simp) (by simp)]
    simp only [er 59 (by omega) (by omega) (by omega)]
    exact (h2 j).2
  · rw [rk 62 j (by simp) (by simp)]
    exact kw (h3 j) (by omega) (by omega) (fun k _ => rk 61 _ (by simp) (by simp))
  · have er : ∀ a, 70 ≤ a → a ≤ 76 → ∀ k, (ppR R p i w x).1 (a, 0) k = R.1 (a, 0) k := fun a _ _ k => rk a k (by omega) (by omega)
    obtain ⟨y1, y2, y3⟩ := h4 j
    rw [er 76 (by omega) (by omega), er 72 (by omega) (by omega), er 73 (by omega) (by omega)]
    refine ⟨kw y1 (by omega) (by omega) (fun k _ => er 74 (by omega) (by omega) _), kw y2 (by omega) (by omega) (fun k _ => er 75 (by omega) (by omega) _), ?_⟩
    rw [ck 31 j 3 (by simp) (by simp) (by simp), y3]
    simp only [er 74 (by omega) (by omega)]
  · obtain ⟨e, y1, y2, y3, y4⟩ := h5
    refine ⟨e, y1, ?_, ?_, fun j => ?_⟩
    · rw [ck 1 0 3 (by simp) (by simp) (by simp)]; exact y2
    · rw [rk 50 47 (by simp) (by simp)]; exact y3
    · rw [ck 2 0 j (by simp) (by simp) (by simp), ck 3 0 j (by simp) (by simp) (by simp), ck 4 0 j (by simp) (by simp) (by simp), rk 93 j (by simp) (by simp), rk 94 j (by simp) (by simp), rk 95 j (by simp) (by simp)]
      exact y4 j
  · obtain ⟨n, f, hd, a1, a2, a3, a4, a5, a6, a7, a8, a9⟩ := h6
    have c6 : ∀ a f, 1 ≤ a → a ≤ 11 → (ppC C p i w k1 k2 k4).1 (a, 0) f = C.1 (a, 0) f := fun a f h1 h2 => ck a 0 f (by omega) (by omega) (by omega)
    refine ⟨n, f, hd, a1, a2, a3, ?_, ?_, ?_, ?_, ?_, fun k hk => ?_⟩
    · rw [rk 50 43 (by simp) (by simp)]; exact a4
    · rw [rk 50 42 (by simp) (by simp)]; exact a5
    · rw [c6 6 2 (by omega) (by omega), c6 6 1 (by omega) (by omega)]; exact a6
    · rw [c6 8 2 (by omega) (by omega), c6 8 1 (by omega) (by omega)]; exact a7
    · rw [c6 10 2 (by omega) (by omega), c6 10 1 (by omega) (by omega)]; exact a8
    · rw [c6 7 _ (by omega) (by omega), c6 9 _ (by omega) (by omega), c6 11 _ (by omega) (by omega), rk 90 _ (by simp) (by simp), rk 91 _ (by simp) (by simp), rk 92 _ (by simp) (by simp)]
      exact a9 k hk
  · obtain ⟨⟨a1, a2, a3, a4, -⟩, b1, b2, b3, b4, b5, b6, b7, b8, b9, b10, b11⟩ := h7
    have r65 : ∀ j, (ppR R p i w x).1 (65, 0) j = R.1 (65, 0) j := fun j => rk 65 j (by simp) (by simp)
    have r66 : ∀ j, (ppR R p i w x).1 (66, 0) j = R.1 (66, 0) j := fun j => rk 66 j (by simp) (by simp)
    have r88 : ∀ j, (ppR R p i w x).1 (88, 0) j = R.1 (88, 0) j := fun j => rk 88 j (by simp) (by simp)
    have h65 : R.1 (65, 0) i = -1 := by
      rcases b8 i hi with z | z
      · exact z.1
      · rw [h58] at z
        exact absurd z.1 (by decide)
    have c0 : ∀ a j f, ¬ a = 40 → ¬ a = 14 → ¬ a = 20 → (ppC C p i w k1 k2 k4).2.1 (a, j) f = C.2.1 (a, j) f := fun a j f h0 h1 h2 => cq a j f (fun z => h0 z.1) h1 (fun z => h2 z.1)
    have c20 : ∀ j f, ¬ f = 13 → (ppC C p i w k1 k2 k4).2.1 (20, j) f = C.2.1 (20, j) f := fun j f h0 => cq 20 j f (by simp) (by simp) (fun z => h0 z.2.1)
    refine ⟨⟨a1, a2, a3, by omega, fun a j ha ha' hj => ?_, fun a j ha ha' hj => ?_, fun j hj => ?_, fun a j ha hj => ?_⟩, ⟨?_, ?_, n1⟩, ⟨?_, ?_, m1⟩, ?_, ?_, ?_, fun j hj => ?_, fun j hj => ?_, fun j hj => ?_, fun j hj => ?_, fun j hj => ?_, fun k hk => ?_⟩
    · rw [ppC_3 (fun z => by have := congrArg Prod.fst z; dsimp only at this; omega)]; exact v1 a j ha ha' hj
    · rw [ppC_3 (fun z => by have := congrArg Prod.fst z; dsimp only at this; omega)]; exact v2 a j ha ha' hj
    · rw [ppC_3 (fun z => by have := congrArg Prod.snd z; dsimp only at this; omega)]; exact v3 j (by omega)
    · rw [ppC_3 (fun z => by have := congrArg Prod.fst z; dsimp only at this; omega)]
      rw [r65] at hj
      exact v4 a j ha hj
    · rw [ppC_1 (by simp) (by simp) (by simp)]; exact b1.1
    · rw [ppC_1 (by simp) (by simp) (by simp)]; exact b1.2.1
    · rw [rk 50 0 (by simp) (by simp)]; exact b2.1
    · rw [rk 50 20 (by simp) (by simp)]; exact b2.2.1
    · rw [c0 0 0 0 (by simp) (by simp) (by simp), c0 0 0 1 (by simp) (by simp) (by simp), c0 0 0 2 (by simp) (by simp) (by simp), c0 0 0 3 (by simp) (by simp) (by simp), c0 0 0 4 (by simp) (by simp) (by simp)]; exact b3
    · rw [c0 1 0 0 (by simp) (by simp) (by simp), c0 1 0 1 (by simp) (by simp) (by simp), c0 1 0 2 (by simp) (by simp) (by simp)]; exact b4
    · rw [c0 5 0 0 (by simp) (by simp) (by simp), c0 5 0 1 (by simp) (by simp) (by simp), c0 5 0 2 (by simp) (by simp) (by simp), c0 6 0 0 (by simp) (by simp) (by simp), c0 8 0 0 (by simp) (by simp) (by simp), c0 10 0 0 (by simp) (by simp) (by simp)]; exact b5
    · rw [c0 12 0 j (by simp) (by simp) (by simp), ck 20 j 0 (by simp) (by simp) (by simp), c20 j 1 (by simp), c20 j 2 (by simp), c20 j 3 (by simp), c0 21 j 0 (by simp) (by simp) (by simp), c0 22 j 0 (by simp) (by simp) (by simp), c0 24 j 0 (by simp) (by simp) (by simp)]
      exact b6 j hj
    · rw [c20 j 11 (by simp)]
      simp only [r65, r66]
      exact b7 j hj
    · rw [c20 j 12 (by simp), c0 41 j 0 (by simp) (by simp) (by simp), c0 41 j 1 (by simp) (by simp) (by simp), c0 42 j 0 (by simp) (by simp) (by simp), c0 42 j 1 (by simp) (by simp) (by simp), r58]
      simp only [r65, r66]
      rcases b8 j hj with z | ⟨z, z'⟩
      · exact Or.inl z
      · refine Or.inr ⟨?_, z'⟩
        rw [if_neg]
        · exact z
        · intro e
          subst e
          rw [h58] at z
          exact absurd z (by decide)
    · rw [r65, r58]
      by_cases c : j = i
      · subst c
        rw [if_pos rfl]
        refine Or.inr ⟨rfl, h65, p, by omega, p4, ?_, ?_⟩
        · rw [r85, if_pos rfl]
        · rw [r88]; exact z88
      · rw [if_neg c, cq 20 j 13 (by simp) (by simp) (by simp [c])]
        rcases b9 j hj with z | ⟨y1, y2, k, y3, y4, y5, y6⟩
        · exact Or.inl z
        · refine Or.inr ⟨y1, y2, k, by omega, y4, ?_, ?_⟩
          · rw [r85, if_neg (by omega)]; exact y5
          · rw [r88]; exact y6
    · rw [c0 13 0 j (by simp) (by simp) (by simp), ck 30 j 0 (by simp) (by simp) (by simp), c0 30 j 1 (by simp) (by simp) (by simp), c0 30 j 2 (by simp) (by simp) (by simp), c0 30 j 3 (by simp) (by simp) (by simp), c0 31 j 0 (by simp) (by simp) (by simp), c0 32 j 0 (by simp) (by simp) (by simp), c0 34 j 0 (by simp) (by simp) (by simp)]
      exact b10 j hj
    · by_cases c : k = p
      · subst c
        refine ⟨p1, n2, i, w, hi, hw, ?_, ?_, p2, p3, ?_, ?_, ?_, fun _ => ⟨?_, ?_, p4⟩⟩
        · rw [r85, if_pos rfl]
        · rw [r86, if_pos rfl]
        · rw [n3, r87, if_pos rfl]; exact f1
        · rw [n4, r87, if_pos rfl]; exact f2
        · rw [n5, r87, if_pos rfl]; exact f4
        · rw [r58, if_pos rfl]
        · rw [r83, if_pos rfl]
      · obtain ⟨y1, y2, i', w', y3, y4, y5, y6, y7, y8, y9, y10, y11, y12⟩ := b11 k (by omega)
        rw [ppC_2 (by simp) (by simp [c]) (by simp), ck 40 k 0 (by simp [c]) (by simp) (by simp), r85, r86, r87, if_neg c, if_neg c, if_neg c, cq 40 k 1 (by simp [c]) (by simp) (by simp), cq 40 k 2 (by simp [c]) (by simp) (by simp), ck 40 k 3 (by simp [c]) (by simp) (by simp), ck 40 k 4 (by simp [c]) (by simp) (by simp), ck 40 k 5 (by simp [c]) (by simp) (by simp), r88]
        refine ⟨y1, y2, i', w', y3, y4, y5, y6, y7, y8, y9, y10, y11, fun z => ?_⟩
        obtain ⟨o1, o2, o3⟩ := y12 z
        have ni : ¬ i' = i := fun e => by
          subst e
          rw [h58] at o1
          exact absurd o1 (by decide)
        have nw : ¬ w' = w := fun e => by
          subst e
          rw [h83] at o2
          exact absurd o2 (by decide)
        rw [r58, r83, if_neg ni, if_neg nw, cq 20 i' 13 (by simp) (by simp) (by simp [ni])]
        exact ⟨o1, o2, o3⟩
theorem nh_6 (z : Inv g t p q R) (hg : p ≤ 2) {r : Nat} (hr : ¬ r < p) (hr6 : r < 10) : ¬ has R 6 r := fun ⟨i, i1, i2, i3⟩ => by
  have jv0 := (Inv_J1 z).1 i i1
  rw [i2, i3] at jv0
  rcases jv0 with ⟨e, -⟩ | ⟨e, -⟩ | ⟨-, j, hj, e⟩ | ⟨e, -⟩
  · exact absurd e (by decide)
  · exact absurd e (by decide)
  · have := sm_nIinj e (by omega) (by omega)
    omega
  · rcases e with e | e | e <;> exact absurd e (by decide)
theorem pp_Inv (h : SI b g t p q C R) (hp2 : p < 2) (hi : i < g) (hw : w < t) (h83 : R.1 (83, 0) w = 0) (h62 : R.1 (62, 0) i = 0) : Inv g t (p + 1) q (ppR R p i w x) := by
  have hle := sm_le h.1
  have n6 : ¬ has R 6 p := nh_6 h.2 (by omega) (by omega) (by omega)
  have z89 : R.1 (89, 0) p = 0 := (Inv_FR h.2).2.2 89 (by decide) p (by omega)
  obtain ⟨m1, r85, r86, r87, r58, r83⟩ := ppR_n (R := R) (p := p) (i := i) (w := w) (x := x)
  have rk : ∀ a f, ¬ (a = 85 ∨ a = 86 ∨ a = 87 ∨ a = 58 ∨ a = 83) → ¬ (a = 50 ∧ f = 36) → (ppR R p i w x).1 (a, 0) f = R.1 (a, 0) f := fun a f h1 h2 => ppR_1 h1 h2
  have r88 : ∀ j, (ppR R p i w x).1 (88, 0) j = R.1 (88, 0) j := fun j => rk 88 j (by simp) (by simp)
  have r62 : ∀ j, (ppR R p i w x).1 (62, 0) j = R.1 (62, 0) j := fun j => rk 62 j (by simp) (by simp)
  have r61 : ∀ j, (ppR R p i w x).1 (61, 0) j = R.1 (61, 0) j := fun j => rk 61 j (by simp) (by simp)
  have r76 : ∀ j, (ppR R p i w x).1 (76, 0) j = R.1 (76, 0) j := fun j => rk 76 j (by simp) (by simp)
  have oth : ∀ k, k < p → R.1 (88, 0) k = 0 → ¬ R.1 (86, 0) k = nI w := fun k hk e e' => by
    obtain ⟨-, -, i', w', i1, w1, -, e86, -, -, -, -, -, nn⟩ := sm_pipe h.1 hk
    have : w' = w := sm_nIinj (e86.symm.trans e') (by omega) (by omega)
    subst this
    have z := (nn e).2.1
    rw [h83] at z
    exact absurd z (by decide)
  obtain ⟨z1, z2, z3, z4, z5, z6, z7, z8, z9, z10, z11, z12, z13, z14, z15, z16⟩ := h.2
  have ag : ∀ {L : Nat → Nat → Bool}, L 85 p = false → L 86 p = false → L 87 p = false → L 58 i = false → L 83 w = false → L 50 36 = false → agr L R (ppR R p i w x) := fun a b c d e f => ppR_a a b c d e f
  refine ⟨ka_F (ag rfl rfl rfl rfl rfl rfl) z1, ka_S (ag rfl rfl rfl rfl rfl rfl) z2, ka_B (ag rfl rfl rfl rfl rfl rfl) z3, ka_E (ag rfl rfl rfl rfl rfl rfl) z4, ka_Q (ag rfl rfl rfl rfl rfl rfl) z5, ?_, ka_N (ag rfl rfl rfl rfl rfl rfl) z7, ka_P (ag rfl rfl rfl rfl rfl rfl) z8, ka_T (ag rfl rfl rfl rfl rfl rfl) z9, ?_, ?_, ka_JP (ag rfl rfl rfl rfl rfl rfl) z12, ka_JD (ag rfl rfl rfl rfl rfl rfl) z13, ka_JS (ag rfl rfl rfl rfl rfl rfl) z14, ?_, ?_⟩
  · intro r hr
    rw [r58, r62]
    simp only [r61, r88]
    by_cases c : r = i
    · subst c
      rw [if_pos rfl]
      exact ⟨fun e => absurd e (by decide), fun _ => Or.inl h62, fun e => absurd e (by decide)⟩
    · rw [if_neg c]
      obtain ⟨y1, y2, y3⟩ := z6 r hr
      refine ⟨y1, fun e => ?_, y3⟩
      rcases y2 e with z | ⟨z, k, k1, k2, k3, k4⟩
      · exact Or.inl z
      · refine Or.inr ⟨z, k, by omega, k2, ?_, k4⟩
        rw [r85, if_neg (by omega)]
        exact k3
  · refine ⟨fun k hk h88 i' w' h85 h86 hi' hw' hn => ?_, fun k k' hk hk' hne e e' => ?_⟩
    · rw [r62] at hn
      rw [r88] at h88
      rw [r85] at h85
      rw [r86] at h86
      rw [r76]
      by_cases c : k = p
      · rw [if_pos c] at h85
        have : i = i' := sm_nIinj h85 (by omega) (by omega)
        subst this
        exact absurd h62 hn
      · rw [if_neg c] at h85 h86
        exact z10.1 k (by omega) h88 i' w' h85 h86 hi' hw' hn
    · rw [r88] at e e'
      rw [r86, r86]
      by_cases c : k = p
      · rw [if_pos c, if_neg (by omega)]
        exact fun z => oth k' (by omega) e' z.symm
      · by_cases c' : k' = p
        · rw [if_neg c, if_pos c']
          exact oth k (by omega) e
        · rw [if_neg c, if_neg c']
          exact z10.2 k k' (by omega) (by omega) hne e e'
  · exact ka_J1 (R := R) (ag rfl rfl rfl rfl rfl rfl) ⟨fun i hi => jv_up (z11.1 i hi) (Nat.le_refl _) (Nat.le_refl _) (by omega), z11.2⟩
  · refine ka_JM (R := R) (ag rfl rfl rfl rfl rfl rfl) fun k hk => ?_
    by_cases c : k = p
    · subst c
      rw [z89]
      exact ⟨Or.inl rfl, fun e => absurd e n6, fun e => absurd e (by decide)⟩
    · exact z15 k (by omega)
  · have f0 : FR g t (p + 1) R := ⟨z16.1, z16.2.1, fun a ha i hi => z16.2.2 a ha i (by omega)⟩
    have f1 : FR g t (p + 1) (xo_sE (xo_sE (xo_sE R (85, 0) p (nI i)) (86, 0) p (nI w)) (87, 0) p x) := ka_FR (agr_to (agr_to (agr_set rfl) rfl) rfl) f0
    exact ka_FR (agr_set rfl) (FR_T (FR_G f1 (by decide) (Or.inl hi)) (by decide) (Or.inl hw))
theorem pipe_R {x y z : Int32} (h : SI b g t p q C R) : CRes b q (fc_K_pipe (0, 0) x y z C) (fc_M_pipe (50, 0) x y z R) := by
  have hle := sm_le h.1
  have hp := sm_MP h.1
  obtain ⟨⟨-, -, e7⟩, ⟨-, -, r0⟩, -, -, e4⟩ := sm_p h.1
  unfold fc_K_pipe fc_M_pipe
  by_cases hx : ∃ i, i < g ∧ x = nI i
  · obtain ⟨i, hi, e⟩ := hx
    subst e
    have hi6 : i < 6 := by omega
    rw [se_cl (kd_0 0), ga_C h.1 hi, Option.bind_some, se_cl (kd_50 0), ng_0 h.1 hi, Option.bind_some]
    dsimp only
    rw [if_pos rfl]
    by_cases hy : ∃ w, w < t ∧ y = nI w
    · obtain ⟨w, hw, e⟩ := hy
      subst e
      have hw2 : w < 2 := by omega
      rw [se_cl (kd_0 0), tk_C h.1 hw, Option.bind_some, se_cl (kd_50 0), nt_0 h.1 hw, Option.bind_some]
      dsimp only
      rw [if_neg (by simp), if_neg (by simp), if_pos rfl]
      by_cases c1 : z < 0
      · rw [if_pos c1, if_pos c1]
        exact res_of h (by omega) rfl rfl
      · rw [if_neg c1, if_neg c1]
        by_cases c2 : (7 : Int32) < z
        · rw [if_pos c2, if_pos c2]
          exact res_of h (by omega) rfl rfl
        · obtain ⟨-, p0, p1, p2, p3, p4, p5, p6⟩ := sm_ptr h.1 hi
          obtain ⟨m, m8, m1, m2⟩ := sm_an h.1 i
          have q12 := sm_get h.1 30 12 83 w (by decide)
          rw [if_neg c2, if_neg c2, se_cl (kd_20 i), hb_C h.1 hi, Option.bind_some, mp_8 hp, ml_58 hi6]
          dsimp only
          by_cases c3 : R.1 (58, 0) i = 0
          · rw [if_pos c3, if_pos c3, se_gf (kd_30 w), q12, mp_34 hp, ml_83 hw2]
            by_cases c4 : R.1 (83, 0) w = 0
            · rw [if_pos c4, if_pos c4, se_gp (kd_20 i), p3, se_gf (kd_24 i), m2, mp_12 hp, ml_62 hi6, m1]
              by_cases c5 : 0 < nI m
              · rw [if_pos c5, if_pos c5]
                exact res_of h (by omega) rfl rfl
              · have h62 : R.1 (62, 0) i = 0 := by
                  rw [m1]
                  exact Decidable.of_not_not fun y => c5 ((nI_pos_iff (by omega)).mpr y)
                rw [if_neg c5, if_neg c5, se_gf (kd_0 0), e7, se_gf (kd_50 0), r0]
                by_cases c6 : p = 2
                · subst c6
                  rw [if_neg (by decide), if_pos (by decide)]
                  exact res_of h (by omega) rfl rfl
                · have hp2 : p < 2 := by omega
                  have l2 : nI p < (2 : Int32) := nI_lt (b := 2) (by omega) (by omega)
                  have n2 : ¬ nI p = (2 : Int32) := fun y => c6 (sm_nIinj (b := 2) y (by omega) (by omega))
                  have fl : ∀ u : Int32, ((if u = 0 then (0 : Int32) else 1) = 0 ↔ u = 0) := fun u => by
                    by_cases cu : u = 0
                    · rw [if_pos cu]; exact ⟨fun _ => cu, fun _ => rfl⟩
                    · rw [if_neg cu]; exact ⟨fun y => absurd y (by decide), fun y => absurd y cu⟩
                  have s1 : SI b g t (p + 1) q (ppC C p i w (if z &&& 1 = 0 then 0 else 1) (if z &&& 2 = 0 then 0 else 1) (if z &&& 4 = 0 then 0 else 1)) (ppR R p i w z) := ⟨pp_sm h hp2 hi hw c3 c4 (fl _) (fl _) (fl _), pp_Inv h hp2 hi hw c4 h62⟩
                  obtain ⟨C2, R2, d1, d2, d3⟩ := wake_SI s1
                  obtain ⟨-, ⟨-, -, r1⟩, -⟩ := sm_p d3.1
                  have l0 := (sm_vl h.1).2.2.1 p (Nat.le_refl _)
                  refine res_of d3 (by omega) (a := nI p) ?_ ?_
                  · have f7 : (xo_sN C (40, p)).1 (0, 0) 7 = nI p := by rw [sN_1, if_neg (by simp)]; exact e7
                    have pi : ∀ D, fc_P_init (40, p) (nI p) (some (20, i)) (some (30, w)) z D = some (xo_sE (xo_sE (xo_sE (xo_sP (xo_sP (xo_sE D (40, p) 0 (nI p)) (40, p) 1 (some (20, i))) (40, p) 2 (some (30, w))) (40, p) 3 (if z &&& 1 = 0 then 0 else 1)) (40, p) 4 (if z &&& 2 = 0 then 0 else 1)) (40, p) 5 (if z &&& 4 = 0 then 0 else 1)) := fun D => by
                      have b64 : ∀ (s : Int32) (D : xo_H), s = 0 ∨ s = 1 → fb_P_init_64 (40, p) s D = some (xo_sE D (40, p) 5 s) := fun s D hs => by
                        unfold fb_P_init_64
                        rw [se_pz (kd_40 p) hs]
                      have b48 : ∀ (s : Int32) (D : xo_H), s = 0 ∨ s = 1 → fb_P_init_48 (40, p) z s D = some (xo_sE (xo_sE D (40, p) 4 s) (40, p) 5 (if z &&& 4 = 0 then 0 else 1)) := fun s D hs => by
                        unfold fb_P_init_48
                        rw [se_pz (kd_40 p) hs, b64 0 _ (Or.inl rfl), b64 1 _ (Or.inr rfl)]
                        split <;> rfl
                      have b32 : ∀ (s : Int32) (D : xo_H), s = 0 ∨ s = 1 → fb_P_init_32 (40, p) z s D = some (xo_sE (xo_sE (xo_sE D (40, p) 3 s) (40, p) 4 (if z &&& 2 = 0 then 0 else 1)) (40, p) 5 (if z &&& 4 = 0 then 0 else 1)) := fun s D hs => by
                        unfold fb_P_init_32
                        rw [se_pz (kd_40 p) hs, b48 0 _ (Or.inl rfl), b48 1 _ (Or.inr rfl)]
                        generalize (if z &&& 4 = 0 then (0 : Int32) else 1) = u4
                        split <;> rfl
                      unfold fc_P_init
                      rw [se_pf (kd_40 p), se_pp (kd_40 p), se_pp (kd_40 p), b32 0 _ (Or.inl rfl), b32 1 _ (Or.inr rfl)]
                      generalize (if z &&& 4 = 0 then (0 : Int32) else 1) = u4
                      generalize (if z &&& 2 = 0 then (0 : Int32) else 1) = u2
                      split <;> rfl
                    rw [if_pos l2, nI_clamp (by omega), se_nw l0 (kd_40 p), se_gf (kd_0 0), f7, pi, Option.bind_some]
                    generalize (if z &&& 4 = 0 then (0 : Int32) else 1) = u4 at d1
                    generalize (if z &&& 2 = 0 then (0 : Int32) else 1) = u2 at d1
                    generalize (if z &&& 1 = 0 then (0 : Int32) else 1) = u1 at d1
                    have w4 : (xo_sE (xo_sE (xo_sE (xo_sP (xo_sP (xo_sE (xo_sN C (40, p)) (40, p) 0 (nI p)) (40, p) 1 (some (20, i))) (40, p) 2 (some (30, w))) (40, p) 3 u1) (40, p) 4 u2) (40, p) 5 u4).2.1 (0, 0) 4 = some (14, 0) := by
                      simp [xo_sE, xo_sP, xo_sN, e4]
                    have w7 : (xo_sE (xo_sE (xo_sE (xo_sP (xo_sP (xo_sE (xo_sN C (40, p)) (40, p) 0 (nI p)) (40, p) 1 (some (20, i))) (40, p) 2 (some (30, w))) (40, p) 3 u1) (40, p) 4 u2) (40, p) 5 u4).1 (0, 0) 7 = nI p := by
                      simp [xo_sE, xo_sP, xo_sN, e7]
                    rw [se_gp (kd_0 0), w4, se_gf (kd_0 0), w7, se_aq (kd_14 0) hp2 (by decide) (kd_40 p), se_gf (kd_0 0)]
                    have w8 : (xo_sP (xo_sE (xo_sE (xo_sE (xo_sP (xo_sP (xo_sE (xo_sN C (40, p)) (40, p) 0 (nI p)) (40, p) 1 (some (20, i))) (40, p) 2 (some (30, w))) (40, p) 3 u1) (40, p) 4 u2) (40, p) 5 u4) (14, 0) p (some (40, p))).1 (0, 0) 7 = nI p := w7
                    have d1' : fc_K_awaitPumps (0, 0) (xo_sE (xo_sP (xo_sE (xo_sP (xo_sE (xo_sE (xo_sE (xo_sP (xo_sP (xo_sE (xo_sN C (40, p)) (40, p) 0 (nI p)) (40, p) 1 (some (20, i))) (40, p) 2 (some (30, w))) (40, p) 3 u1) (40, p) 4 u2) (40, p) 5 u4) (14, 0) p (some (40, p))) (0, 0) 7 (nI (p + 1))) (20, i) 13 (some (40, p))) (30, w) 12 1) = some C2 := d1
                    rw [w8, nI_1, se_pf (kd_0 0), se_pp (kd_20 i), se_pz1 (kd_30 w), se_cl (kd_0 0), d1', Option.bind_some, se_gf (kd_40 p), (sm_pipe d3.1 (k := p) (by omega)).2.1]
                  · have g1 : (xo_sE R (85, 0) p (nI i)).1 (50, 0) 36 = nI p := by rw [se_ne (by simp)]; exact r0
                    have g2 : (xo_sE (xo_sE R (85, 0) p (nI i)) (86, 0) p (nI w)).1 (50, 0) 36 = nI p := by rw [se_ne (by simp)]; exact g1
                    have g3 : (xo_sE (xo_sE (xo_sE (xo_sE (xo_sE R (85, 0) p (nI i)) (86, 0) p (nI w)) (87, 0) p z) (58, 0) i 1) (83, 0) w 1).1 (50, 0) 36 = nI p := by rw [se_ne (by simp), se_ne (by simp), se_ne (by simp)]; exact g2
                    have d2' : fc_M_wake (50, 0) (xo_sE (xo_sE (xo_sE (xo_sE (xo_sE (xo_sE R (85, 0) p (nI i)) (86, 0) p (nI w)) (87, 0) p z) (58, 0) i 1) (83, 0) w 1) (50, 0) 36 (nI (p + 1))) = some R2 := d2
                    have ep : nI (p + 1) - 1 = nI p := nI_pred p
                    rw [if_neg n2, mp_37 hp, se_gf (kd_50 0), r0, mq_85 hp2, mp_38 (by exact hp), se_gf (kd_50 0), g1, mq_86 hp2, mp_39 (by exact hp), se_gf (kd_50 0), g2, mq_87 hp2, mp_8 (by exact hp), mq_58 hi6, mp_34 (by exact hp), mq1_83 hw2, se_gf (kd_50 0), g3, nI_1, se_pf (kd_50 0), se_cl (kd_50 0), d2', Option.bind_some, se_gf (kd_50 0), r1, ep]
            · rw [if_neg c4, if_neg c4]
              exact res_of h (by omega) rfl rfl
          · rw [if_neg c3, if_neg c3]
            exact res_of h (by omega) rfl rfl
    · obtain ⟨r1, r2⟩ := no_t h.1 hy
      rw [se_cl (kd_0 0), r1, Option.bind_some, se_cl (kd_50 0), r2, Option.bind_some]
      dsimp only
      rw [if_neg (by simp), if_pos rfl, if_neg (by decide)]
      exact res_of h (by omega) rfl rfl
  · obtain ⟨r1, r2⟩ := no_g h.1 hx
    rw [se_cl (kd_0 0), r1, Option.bind_some, se_cl (kd_50 0), r2, Option.bind_some]
    dsimp only
    rw [if_neg (by decide)]
    by_cases hy : ∃ w, w < t ∧ y = nI w
    · obtain ⟨w, hw, e⟩ := hy
      subst e
      rw [se_cl (kd_0 0), tk_C h.1 hw, Option.bind_some]
      dsimp only
      rw [if_pos rfl]
      exact res_of h (by omega) rfl rfl
    · rw [se_cl (kd_0 0), (no_t h.1 hy).1, Option.bind_some]
      dsimp only
      rw [if_pos rfl]
      exact res_of h (by omega) rfl rfl
end PP
