section AG
variable {b g t p q : Nat} {C R : xo_H} {mk bv : Int32}
theorem sm_vl (h : sm b g t p C R) : sm_V g t p C R := h.2.2.2.2.2.2.1.2.2.2.2
theorem ag_S (h : sm_S C R) (hF : ∀ a ∈ frG, R.1 (a, 0) g = 0) : sm_S (agC C g mk bv) (agR R g mk bv (-1)) := by
  obtain ⟨-, -, n3, n4, n5, -, -⟩ := agC_n (C := C) (g := g) (mk := mk) (bv := bv)
  obtain ⟨-, m2, m3, -, -⟩ := agR_n (R := R) (g := g) (mk := mk) (bv := bv) (pr := -1)
  intro e he i
  by_cases c : i = g
  · subst c
    have hz : ∀ f a, ¬ f = 0 → a ∈ frG → (agC C i mk bv).1 (20, i) f = (agR R i mk bv (-1)).1 (a, 0) i := fun f a hf ha => by
      rw [n3 f hf, agR_1, hF a ha]
      · rintro ⟨z, -⟩; subst z; revert ha; decide
      · rintro ⟨z, -⟩
        rcases z with z | z | z | z <;> subst z <;> revert ha <;> decide
    simp only [sm_T, List.mem_cons, List.not_mem_nil, or_false] at he
    have keep : ∀ a f r, ¬ (20 ≤ a ∧ a ≤ 25) → ¬ a = 0 → (a, f, r) ∈ sm_T → ¬ (r = 50 ∨ r = 53 ∨ r = 54 ∨ r = 65 ∨ r = 66) → (agC C i mk bv).1 (a, i) f = (agR R i mk bv (-1)).1 (r, 0) i := fun a f r ha h0 hm hr => by
      rw [agC_1 (fun z => ha ⟨z.1, z.2.1⟩) (fun z => h0 (congrArg Prod.fst z.1)), agR_1 (fun z => hr (Or.inl z.1)) (fun z => hr (Or.inr z.1))]
      exact h _ hm i
    rcases he with e1 | e1 | e1 | e1 | e1 | e1 | e1 | e1 | e1 | e1 | e1 | e1 | e1 | e1 | e1 | e1 | e1 | e1 | e1 | e1 | e1 | e1 | e1 <;> subst e1
    · exact hz 4 51 (by decide) (by decide)
    · exact hz 5 52 (by decide) (by decide)
    · exact hz 6 63 (by decide) (by decide)
    · exact hz 7 55 (by decide) (by decide)
    · exact hz 8 56 (by decide) (by decide)
    · exact hz 9 57 (by decide) (by decide)
    · exact hz 10 69 (by decide) (by decide)
    · exact n4.trans m2.symm
    · exact n5.trans m3.symm
    all_goals exact keep _ _ _ (by decide) (by decide) (by decide) (by decide)
  · have hm : ∀ e ∈ sm_T, ¬ e.1 = 0 ∧ ¬ e.2.2 = 50 := by decide
    rw [agC_1 (fun z => c z.2.2) (fun z => (hm e he).1 (congrArg Prod.fst z.1)), agR_1 (fun z => (hm e he).2 z.1) (fun z => c z.2)]
    exact h e he i
theorem ag_W {en : Int32 → Int32} {a cap bs : Nat} {F F' : Nat → Int32} {cnt : Int32} {j : Nat} (h : sm_W en C (a, j) cap F bs cnt) (hj : ¬ j = g ∨ a < 19 ∨ 25 < a) (ha : 0 < a) (hF : ∀ k, k < cap → F' (bs + k) = F (bs + k)) : sm_W en (agC C g mk bv) (a, j) cap F' bs cnt := by
  refine sm_W_keep h (funext fun f => agC_1 ?_ ?_) (funext fun f => agC_1 ?_ ?_) hF rfl
  · intro z
    dsimp only at z
    omega
  · intro z
    have := congrArg Prod.fst z.1
    dsimp only at this
    omega
  · intro z
    dsimp only at z
    omega
  · intro z
    have := congrArg Prod.fst z.1
    dsimp only at this
    omega
theorem W_new {en : Int32 → Int32} {D : xo_H} {n : xo_N} {cap bs : Nat} {F : Nat → Int32} {cnt : Int32} (h1 : D.1 n 2 = 0) (h2 : D.1 n 1 = 0) (hc : cnt = 0) (h0 : 0 < cap) : sm_W en D n cap F bs cnt := ⟨0, 0, by omega, h0, h1, h2, hc, fun k hk => by omega⟩
theorem ag_sm (h : SI b g t p q C R) (hg : g < 6) : sm b (g + 1) t p (agC C g mk bv) (agR R g mk bv (-1)) := by
  have hle := sm_le h.1
  obtain ⟨v1, v2, v3, v4⟩ := sm_vl h.1
  have hF : ∀ a ∈ frG, R.1 (a, 0) g = 0 := fun a ha => (Inv_FR h.2).1 a ha g (by omega)
  obtain ⟨n1, n2, n3, n4, n5, n6, n7⟩ := agC_n (C := C) (g := g) (mk := mk) (bv := bv)
  obtain ⟨p1, p2, p3, p4, p5, p6, p7, p11, p12, p13⟩ := agC_p (C := C) (g := g) (mk := mk) (bv := bv)
  obtain ⟨m1, m2, m3, m4, m5⟩ := agR_n (R := R) (g := g) (mk := mk) (bv := bv) (pr := -1)
  have rk : ∀ a f, ¬ (a = 50 ∧ f = 0) → ¬ (a = 53 ∨ a = 54 ∨ a = 65 ∨ a = 66) → (agR R g mk bv (-1)).1 (a, 0) f = R.1 (a, 0) f := fun a f h1 h2 => agR_1 h1 (fun z => h2 z.1)
  have rj : ∀ a f, ¬ a = 50 → ¬ f = g → (agR R g mk bv (-1)).1 (a, 0) f = R.1 (a, 0) f := fun a f h1 h2 => agR_1 (fun z => h1 z.1) (fun z => h2 z.2)
  have ck : ∀ a j f, ¬ a = 0 → (¬ (20 ≤ a ∧ a ≤ 25) ∨ ¬ j = g) → (agC C g mk bv).1 (a, j) f = C.1 (a, j) f := fun a j f h0 h1 => agC_1 (fun z => h1.elim (fun y => y ⟨z.1, z.2.1⟩) fun y => y z.2.2) (fun z => h0 (congrArg Prod.fst z.1))
  have cq : ∀ a j f, ¬ a = 12 → (¬ (20 ≤ a ∧ a ≤ 25) ∨ ¬ j = g) → (agC C g mk bv).2.1 (a, j) f = C.2.1 (a, j) f := fun a j f h0 h1 => agC_2 (fun z => h1.elim (fun y => y ⟨z.1, z.2.1⟩) fun y => y z.2.2) (fun z => h0 (congrArg Prod.fst z.1))
  obtain ⟨h1, h2, h3, h4, h5, h6, h7⟩ := h.1
  have e59 : ∀ k, (agR R g mk bv (-1)).1 (59, 0) k = R.1 (59, 0) k := fun k => rk 59 k (by omega) (by decide)
  have e61 : ∀ k, (agR R g mk bv (-1)).1 (61, 0) k = R.1 (61, 0) k := fun k => rk 61 k (by omega) (by decide)
  have e60 : ∀ k, (agR R g mk bv (-1)).1 (60, 0) k = R.1 (60, 0) k := fun k => rk 60 k (by omega) (by decide)
  have e62 : ∀ k, (agR R g mk bv (-1)).1 (62, 0) k = R.1 (62, 0) k := fun k => rk 62 k (by omega) (by decide)
  refine ⟨ag_S h1 hF, fun j => ?_, fun j => ?_, fun j => ?_, ?_, ?_, ?_⟩
  · rw [e60]
    by_cases c : j = g
    · subst c
      have z0 : R.1 (60, 0) j = 0 := hF 60 (by decide)
      refine ⟨W_new (n7 22 2 (by omega) (by omega)) (n7 22 1 (by omega) (by omega)) z0 (by omega), ?_⟩
      rw [z0, n6, m2]
      rfl
    · refine ⟨ag_W (h2 j).1 (Or.inl c) (by omega) (fun k _ => e59 _), ?_⟩
      rw [ck 21 j 3 (by decide) (Or.inr c), rj 53 j (by decide) c, rj 54 j (by decide) c]
      simp only [e59]
      exact (h2 j).2
  · rw [e62]
    by_cases c : j = g
    · subst c
      exact W_new (n7 24 2 (by omega) (by omega)) (n7 24 1 (by omega) (by omega)) (hF 62 (by decide)) (by omega)
    · exact ag_W (h3 j) (Or.inl c) (by omega) (fun k _ => e61 _)
  · have e72 : ∀ a, 70 ≤ a → a ≤ 89 → ∀ k, (agR R g mk bv (-1)).1 (a, 0) k = R.1 (a, 0) k := fun a ha ha' k => rk a k (by omega) (by omega)
    obtain ⟨y1, y2, y3⟩ := h4 j
    rw [e72 76 (by omega) (by omega), e72 72 (by omega) (by omega), e72 73 (by omega) (by omega)]
    refine ⟨ag_W y1 (Or.inr (Or.inr (by omega))) (by omega) (fun k _ => e72 74 (by omega) (by omega) _), ag_W y2 (Or.inr (Or.inr (by omega))) (by omega) (fun k _ => e72 75 (by omega) (by omega) _), ?_⟩
    rw [ck 31 j 3 (by decide) (Or.inl (by decide)), y3]
    simp only [e72 74 (by omega) (by omega)]
  · obtain ⟨e, y1, y2, y3, y4⟩ := h5
    refine ⟨e, y1, ?_, ?_, fun j => ?_⟩
    · rw [ck 1 0 3 (by decide) (Or.inl (by decide))]; exact y2
    · rw [rk 50 47 (by decide) (by decide)]; exact y3
    · rw [ck 2 0 j (by decide) (Or.inl (by decide)), ck 3 0 j (by decide) (Or.inl (by decide)), ck 4 0 j (by decide) (Or.inl (by decide)), rk 93 j (by omega) (by decide), rk 94 j (by omega) (by decide), rk 95 j (by omega) (by decide)]
      exact y4 j
  · obtain ⟨n, f, hd, a1, a2, a3, a4, a5, a6, a7, a8, a9⟩ := h6
    have c6 : ∀ a f, 1 ≤ a → a ≤ 11 → (agC C g mk bv).1 (a, 0) f = C.1 (a, 0) f := fun a f h1 h2 => ck a 0 f (by omega) (Or.inl (by omega))
    refine ⟨n, f, hd, a1, a2, a3, ?_, ?_, ?_, ?_, ?_, fun k hk => ?_⟩
    · rw [rk 50 43 (by decide) (by decide)]; exact a4
    · rw [rk 50 42 (by decide) (by decide)]; exact a5
    · rw [c6 6 2 (by omega) (by omega), c6 6 1 (by omega) (by omega)]; exact a6
    · rw [c6 8 2 (by omega) (by omega), c6 8 1 (by omega) (by omega)]; exact a7
    · rw [c6 10 2 (by omega) (by omega), c6 10 1 (by omega) (by omega)]; exact a8
    · rw [c6 7 _ (by omega) (by omega), c6 9 _ (by omega) (by omega), c6 11 _ (by omega) (by omega), rk 90 _ (by omega) (by decide), rk 91 _ (by omega) (by decide), rk 92 _ (by omega) (by decide)]
      exact a9 k hk
  · obtain ⟨⟨a1, a2, a3, a4, -⟩, b1, b2, b3, b4, b5, b6, b7, b8, b9, b10, b11⟩ := h7
    have r58 : ∀ k, (agR R g mk bv (-1)).1 (58, 0) k = R.1 (58, 0) k := fun k => rk 58 k (by omega) (by decide)
    have r85 : ∀ k, (agR R g mk bv (-1)).1 (85, 0) k = R.1 (85, 0) k := fun k => rk 85 k (by omega) (by decide)
    have r86 : ∀ k, (agR R g mk bv (-1)).1 (86, 0) k = R.1 (86, 0) k := fun k => rk 86 k (by omega) (by decide)
    have r87 : ∀ k, (agR R g mk bv (-1)).1 (87, 0) k = R.1 (87, 0) k := fun k => rk 87 k (by omega) (by decide)
    have r88 : ∀ k, (agR R g mk bv (-1)).1 (88, 0) k = R.1 (88, 0) k := fun k => rk 88 k (by omega) (by decide)
    have r83 : ∀ k, (agR R g mk bv (-1)).1 (83, 0) k = R.1 (83, 0) k := fun k => rk 83 k (by omega) (by decide)
    refine ⟨⟨a1, by omega, a3, a4, fun a i ha ha' hi => ?_, fun a i ha ha' hi => ?_, fun i hi => ?_, fun a i ha hi => ?_⟩, ⟨n1, ?_, ?_⟩, ⟨m1, ?_, ?_⟩, ?_, ?_, ?_, fun i hi => ?_, fun i hi => ?_, fun i hi => ?_, fun i hi => ?_, fun i hi => ?_, fun k hk => ?_⟩
    · rw [agC_3 (fun z => by have := z.2.2; dsimp only at this; omega)]; exact v1 a i ha ha' (by omega)
    · rw [agC_3 (fun z => by have := z.2.1; dsimp only at this; omega)]; exact v2 a i ha ha' hi
    · rw [agC_3 (fun z => by have := z.2.1; dsimp only at this; omega)]; exact v3 i hi
    · rw [agC_3 (fun z => by have := z.2.1; dsimp only at this; omega)]
      refine v4 a i ha fun z => ?_
      have := hi (by omega)
      rw [rj 65 i (by decide) (by omega)] at this
      exact this
    · rw [agC_1 (by simp) (by simp)]; exact b1.2.1
    · rw [agC_1 (by simp) (by simp)]; exact b1.2.2
    · rw [rk 50 20 (by decide) (by decide)]; exact b2.2.1
    · rw [rk 50 36 (by decide) (by decide)]; exact b2.2.2
    · rw [cq 0 0 0 (by decide) (Or.inl (by decide)), cq 0 0 1 (by decide) (Or.inl (by decide)), cq 0 0 2 (by decide) (Or.inl (by decide)), cq 0 0 3 (by decide) (Or.inl (by decide)), cq 0 0 4 (by decide) (Or.inl (by decide))]; exact b3
    · rw [cq 1 0 0 (by decide) (Or.inl (by decide)), cq 1 0 1 (by decide) (Or.inl (by decide)), cq 1 0 2 (by decide) (Or.inl (by decide))]; exact b4
    · rw [cq 5 0 0 (by decide) (Or.inl (by decide)), cq 5 0 1 (by decide) (Or.inl (by decide)), cq 5 0 2 (by decide) (Or.inl (by decide)), cq 6 0 0 (by decide) (Or.inl (by decide)), cq 8 0 0 (by decide) (Or.inl (by decide)), cq 10 0 0 (by decide) (Or.inl (by decide))]; exact b5
    · by_cases c : i = g
      · subst c
        exact ⟨p1, n2, p2, p3, p4, p5, p6, p7⟩
      · rw [agC_2 (by simp) (by simp [c]), ck 20 i 0 (by decide) (Or.inr c), cq 20 i 1 (by decide) (Or.inr c), cq 20 i 2 (by decide) (Or.inr c), cq 20 i 3 (by decide) (Or.inr c), cq 21 i 0 (by decide) (Or.inr c), cq 22 i 0 (by decide) (Or.inr c), cq 24 i 0 (by decide) (Or.inr c)]
        exact b6 i (by omega)
    · by_cases c : i = g
      · subst c
        exact Or.inl ⟨m5, p11⟩
      · rw [rj 66 i (by decide) c, rj 65 i (by decide) c, cq 20 i 11 (by decide) (Or.inr c)]
        rcases b7 i (by omega) with z | ⟨r, y1, y2, y3, y4, y5, y6⟩
        · exact Or.inl z
        · refine Or.inr ⟨r, by omega, y2, y3, ?_, y5, ?_⟩
          · rw [rj 66 r (by decide) (by omega)]; exact y4
          · rw [rj 65 r (by decide) (by omega)]; exact y6
    · by_cases c : i = g
      · subst c
        exact Or.inl ⟨m4, p12⟩
      · rw [rj 65 i (by decide) c, r58, cq 20 i 12 (by decide) (Or.inr c), cq 41 i 0 (by decide) (Or.inl (by decide)), cq 41 i 1 (by decide) (Or.inl (by decide)), cq 42 i 0 (by decide) (Or.inl (by decide)), cq 42 i 1 (by decide) (Or.inl (by decide))]
        rcases b8 i (by omega) with z | ⟨y1, y2, y3, y4, f, y5, y6, y7, y8, y9, y10⟩
        · exact Or.inl z
        · refine Or.inr ⟨y1, y2, y3, y4, f, by omega, y6, y7, y8, ?_, ?_⟩
          · rw [rj 66 f (by decide) (by omega)]; exact y9
          · rw [rj 66 (f + 1) (by decide) (by omega)]; exact y10
    · by_cases c : i = g
      · subst c
        refine Or.inl ⟨?_, p13, Or.inl ?_⟩
        · rw [r58, hF 58 (by decide)]; decide
        · rw [r58, hF 58 (by decide)]
      · rw [r58, rj 65 i (by decide) c, cq 20 i 13 (by decide) (Or.inr c)]
        simp only [r85, r88]
        exact b9 i (by omega)
    · rw [cq 13 0 i (by decide) (Or.inl (by decide)), ck 30 i 0 (by decide) (Or.inl (by decide)), cq 30 i 1 (by decide) (Or.inl (by decide)), cq 30 i 2 (by decide) (Or.inl (by decide)), cq 30 i 3 (by decide) (Or.inl (by decide)), cq 31 i 0 (by decide) (Or.inl (by decide)), cq 32 i 0 (by decide) (Or.inl (by decide)), cq 34 i 0 (by decide) (Or.inl (by decide))]
      exact b10 i hi
    · obtain ⟨y1, y2, i, w, y3, y4, y5, y6, y7, y8, y9, y10, y11, y12⟩ := b11 k hk
      rw [cq 14 0 k (by decide) (Or.inl (by decide)), ck 40 k 0 (by decide) (Or.inl (by decide)), r85, r86, cq 40 k 1 (by decide) (Or.inl (by decide)), cq 40 k 2 (by decide) (Or.inl (by decide)), ck 40 k 3 (by decide) (Or.inl (by decide)), ck 40 k 4 (by decide) (Or.inl (by decide)), ck 40 k 5 (by decide) (Or.inl (by decide)), r87, r88]
      refine ⟨y1, y2, i, w, by omega, y4, y5, y6, y7, y8, y9, y10, y11, ?_⟩
      rw [r58, r83, cq 20 i 13 (by decide) (Or.inr (by omega))]
      exact y12
theorem nh_1 (z : Inv g t p q R) (hg : g ≤ 6) (k : Int32) (hk : k = 1 ∨ k = 2) {r : Nat} (hr : ¬ r < g) (hr6 : r < 10) : ¬ has R k r := fun ⟨i, i1, i2, i3⟩ => by
  have jv0 := (Inv_J1 z).1 i i1
  rw [i2, i3] at jv0
  rcases jv0 with ⟨-, j, hj, e⟩ | ⟨-, j, hj, e⟩ | ⟨e, -⟩ | ⟨e, -⟩
  · have := sm_nIinj e (by omega) (by omega)
    omega
  · have := sm_nIinj e (by omega) (by omega)
    omega
  · rcases hk with y | y <;> rw [y] at e <;> exact absurd e (by decide)
  · rcases hk with y | y <;> rw [y] at e <;> rcases e with e | e | e <;> exact absurd e (by decide)
theorem jv_up {g' t' p' : Nat} {k w : Int32} (h : jv g t p k w) (h1 : g ≤ g') (h2 : t ≤ t') (h3 : p ≤ p') : jv g' t' p' k w := by
  rcases h with ⟨e, r, hr, e'⟩ | ⟨e, r, hr, e'⟩ | ⟨e, r, hr, e'⟩ | ⟨e, r, hr, e'⟩
  · exact Or.inl ⟨e, r, by omega, e'⟩
  · exact Or.inr (Or.inl ⟨e, r, by omega, e'⟩)
  · exact Or.inr (Or.inr (Or.inl ⟨e, r, by omega, e'⟩))
  · exact Or.inr (Or.inr (Or.inr ⟨e, r, by omega, e'⟩))
theorem ag_Inv (z : Inv g t p q R) (hg : g < 6) : Inv (g + 1) t p q (agR R g mk bv (-1)) := by
  have hF : ∀ a ∈ frG, R.1 (a, 0) g = 0 := fun a ha => (Inv_FR z).1 a ha g (by omega)
  have n1 : ¬ has R 1 g := nh_1 z (by omega) 1 (Or.inl rfl) (by omega) (by omega)
  have n2 : ¬ has R 2 g := nh_1 z (by omega) 2 (Or.inr rfl) (by omega) (by omega)
  obtain ⟨-, -, -, m4, -⟩ := agR_n (R := R) (g := g) (mk := mk) (bv := bv) (pr := -1)
  obtain ⟨z1, z2, z3, z4, z5, z6, z7, z8, z9, z10, z11, z12, z13, z14, z15, z16⟩ := z
  have ag : ∀ {L : Nat → Nat → Bool}, L 50 0 = false → L 53 g = false → L 54 g = false → L 65 g = false → L 66 g = false → agr L R (agR R g mk bv (-1)) := fun a b c d e => agR_a a b c d e
  have rk : ∀ a f, ¬ a = 50 → ¬ (a = 53 ∨ a = 54 ∨ a = 65 ∨ a = 66) → (agR R g mk bv (-1)).1 (a, 0) f = R.1 (a, 0) f := fun a f h1 h2 => agR_1 (fun z => h1 z.1) (fun z => h2 z.1)
  have r65 : ∀ f, ¬ f = g → (agR R g mk bv (-1)).1 (65, 0) f = R.1 (65, 0) f := fun f h2 => agR_1 (by simp) (fun z => h2 z.2)
  have e62 : ∀ f, (agR R g mk bv (-1)).1 (62, 0) f = R.1 (62, 0) f := fun f => rk 62 f (by decide) (by decide)
  have e67 : ∀ f, (agR R g mk bv (-1)).1 (67, 0) f = R.1 (67, 0) f := fun f => rk 67 f (by decide) (by decide)
  have e68 : ∀ f, (agR R g mk bv (-1)).1 (68, 0) f = R.1 (68, 0) f := fun f => rk 68 f (by decide) (by decide)
  have hh : ∀ k w, has (agR R g mk bv (-1)) k w ↔ has R k w := fun k w => ka_has (ag rfl rfl rfl rfl rfl) k w
  refine ⟨ka_F (ag rfl rfl rfl rfl rfl) z1, ka_S (ag rfl rfl rfl rfl rfl) z2, ka_B (ag rfl rfl rfl rfl rfl) z3, ka_E (ag rfl rfl rfl rfl rfl) z4, ka_Q (ag rfl rfl rfl rfl rfl) z5, ?_, ka_N (ag rfl rfl rfl rfl rfl) z7, ?_, ka_T (ag rfl rfl rfl rfl rfl) z9, ?_, ?_, ?_, ?_, ka_JS (ag rfl rfl rfl rfl rfl) z14, ka_JM (ag rfl rfl rfl rfl rfl) z15, ?_⟩
  · refine ka_H (R := R) (ag rfl rfl rfl rfl rfl) fun r hr => ?_
    by_cases c : r = g
    · subst c
      refine ⟨fun _ j m hm h8 hj => ?_, fun e => ?_, fun e => ?_⟩
      · rw [hF 62 (by decide)] at hm
        have : 0 = m := sm_nIinj hm (by omega) (by omega)
        omega
      · rw [hF 58 (by decide)] at e; exact absurd e (by decide)
      · rw [hF 58 (by decide)] at e; exact absurd e (by decide)
    · exact z6 r (by omega)
  · intro r hr
    rw [e62, e67, e68]
    by_cases c : r = g
    · subst c
      rw [m4]
      exact ⟨fun e => absurd rfl e, fun _ => ⟨hF 67 (by decide), hF 68 (by decide)⟩⟩
    · rw [r65 r c]
      exact z8 r (by omega)
  · refine ka_X (R := R) (ag rfl rfl rfl rfl rfl) ⟨fun k hk h88 i w h85 h86 hi hw h62 => ?_, z10.2⟩
    by_cases c : i = g
    · subst c
      exact absurd (hF 62 (by decide)) h62
    · exact z10.1 k hk h88 i w h85 h86 (by omega) hw h62
  · refine ka_J1 (R := R) (ag rfl rfl rfl rfl rfl) ⟨fun i hi => jv_up (z11.1 i hi) (by omega) (Nat.le_refl _) (Nat.le_refl _), z11.2⟩
  · refine ka_JP (R := R) (ag rfl rfl rfl rfl rfl) fun r hr => ?_
    by_cases c : r = g
    · subst c
      rw [hF 64 (by decide)]
      exact ⟨⟨fun e => absurd e n1, fun e => absurd e (by decide)⟩, Or.inl rfl, fun e => absurd e (by decide)⟩
    · exact z12 r (by omega)
  · intro r hr e
    rw [hh] at e
    rw [e62, e67]
    by_cases c : r = g
    · subst c
      exact absurd e n2
    · rw [r65 r c]
      exact z13 r (by omega) e
  · exact ka_FR (R := R) (ag rfl rfl rfl rfl rfl) ⟨fun a ha i hi => z16.1 a ha i (by omega), z16.2⟩
theorem ag_SI (h : SI b g t p q C R) (hg : g < 6) (hb : bv = 0 ∨ bv = 1) : fc_K_addGiver (0, 0) mk bv C = some (some (20, g), agC C g mk bv) ∧ (∀ pr, fc_M_addGiver (50, 0) mk bv pr R = some (nI g, agR R g mk bv pr)) ∧ SI b (g + 1) t p q (agC C g mk bv) (agR R g mk bv (-1)) := by
  obtain ⟨⟨e5, -, -⟩, ⟨r0, -, -⟩, e2, -, -⟩ := sm_p h.1
  exact ⟨ag_C e5 hg (sm_K0 h.1).1 e2 (fun a h1 h2 => (sm_vl h.1).1 a g h1 h2 (Nat.le_refl _)) hb, fun pr => ag_R r0 hg (sm_MP h.1) hb, ag_sm h hg, ag_Inv h.2 hg⟩
theorem bz_01 (x : Int32) : bz x = 0 ∨ bz x = 1 := by
  unfold bz
  split
  · exact Or.inl rfl
  · exact Or.inr rfl
theorem mark_C (x : Int32) (C : xo_H) : (¬ x < 0 ∧ ¬ 20 < x ∧ fc_K_isMark x C = some (1, C)) ∨ ((x < 0 ∨ 20 < x) ∧ fc_K_isMark x C = some (0, C)) := by
  unfold fc_K_isMark
  by_cases c : x < 0
  · rw [if_pos c, se_gb0]; exact Or.inr ⟨Or.inl c, rfl⟩
  · rw [if_neg c]
    by_cases d : (20 : Int32) < x
    · rw [if_pos d, se_gb0]; exact Or.inr ⟨Or.inr d, rfl⟩
    · rw [if_neg d, se_gb1]; exact Or.inl ⟨c, d, rfl⟩
theorem giver_R {x y : Int32} (h : SI b g t p q C R) (hb : b + 3000 < 2 ^ 30) (hy : y = 0 ∨ y = 1) : CRes b q (fc_K_giver (0, 0) x y C) (fc_M_giver (50, 0) x y R) := by
  have hle := sm_le h.1
  obtain ⟨⟨e5, -, -⟩, ⟨r0, -, -⟩, -⟩ := sm_p h.1
  unfold fc_K_giver fc_M_giver
  rcases mark_C x C with ⟨c, d, e⟩ | ⟨c, e⟩
  · rw [e, Option.bind_some, if_neg c, if_neg d]
    dsimp only
    rw [if_neg z10, se_gf (kd_0 0), e5, se_gf (kd_50 0), r0]
    by_cases c6 : g = 6
    · subst c6
      rw [if_neg (by decide), if_pos (by decide)]
      exact res_of h (by omega) rfl rfl
    · have l6 : nI g < (6 : Int32) := nI_lt (b := 6) (by omega) (by omega)
      have n6 : ¬ nI g = (6 : Int32) := fun z => c6 (sm_nIinj (b := 6) z (by omega) (by omega))
      obtain ⟨a1, a2, a3⟩ := ag_SI (mk := x) h (by omega) hy
      obtain ⟨C1, R1, b1, b2, b3, -⟩ := pull_SI (r := g) a3 (by omega) (by omega)
      obtain ⟨C2, R2, d1, d2, d3⟩ := wake_SI b3
      rw [if_pos l6, if_neg n6, se_cl (kd_0 0), a1, Option.bind_some, se_cl (kd_50 0), a2, Option.bind_some]
      dsimp only
      rw [se_cl (kd_0 0), b1, Option.bind_some, se_cl (kd_50 0), b2, Option.bind_some, se_cl (kd_0 0), d1, Option.bind_some, se_cl (kd_50 0), d2, Option.bind_some, se_gf (kd_20 g), (sm_ptr d3.1 (i := g) (by omega)).2.1]
      exact res_of d3 (by omega) rfl rfl
  · rw [e, Option.bind_some]
    dsimp only
    rw [if_pos rfl]
    rcases c with c | c
    · rw [if_pos c]
      exact res_of h (by omega) rfl rfl
    · refine res_of h (by omega) rfl ?_
      by_cases d : x < 0
      · rw [if_pos d]
      · rw [if_neg d, if_pos c]
end AG
