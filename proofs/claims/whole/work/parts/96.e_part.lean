section PA
variable {b g t p q r f : Nat} {C R : xo_H}
def ptC (C : xo_H) (r f : Nat) : xo_H := xo_sP (xo_sP (xo_sP (xo_sP (xo_sP (xo_sP (xo_sN (xo_sP (xo_sN C (41, r)) (41, r) 0 (some (20, r))) (42, r)) (42, r) 0 (some (20, f))) (42, r) 1 (some (20, f + 1))) (41, r) 1 (some (42, r))) (20, r) 12 (some (41, r))) (20, f) 11 (some (41, r))) (20, f + 1) 11 (some (41, r))
def ptR (R : xo_H) (r f : Nat) : xo_H := xo_sE (xo_sE (xo_sE (xo_sE R (58, 0) r 2) (66, 0) f (nI r)) (66, 0) (f + 1) (nI r)) (65, 0) r (nI f)
theorem ptC_1 (m : xo_N) (k : Nat) : (ptC C r f).1 m k = if m = (42, r) then 0 else if m = (41, r) then 0 else C.1 m k := rfl
theorem ptC_2 {m : xo_N} {k : Nat} (h1 : ¬ m = (41, r)) (h2 : ¬ m = (42, r)) (h3 : ¬ (m = (20, r) ∧ k = 12)) (h4 : ¬ (m = (20, f) ∧ k = 11)) (h5 : ¬ (m = (20, f + 1) ∧ k = 11)) : (ptC C r f).2.1 m k = C.2.1 m k := by
  simp only [ptC, se_P2, sN_2, h1, h2, h3, h4, h5, false_and, if_false]
theorem ptC_3 (m : xo_N) : (ptC C r f).2.2 m = if m = (42, r) then true else if m = (41, r) then true else C.2.2 m := rfl
theorem ptC_p : (ptC C r f).2.1 (41, r) 0 = some (20, r) ∧ (ptC C r f).2.1 (41, r) 1 = some (42, r) ∧ (ptC C r f).2.1 (42, r) 0 = some (20, f) ∧ (ptC C r f).2.1 (42, r) 1 = some (20, f + 1) ∧ (ptC C r f).2.1 (20, r) 12 = some (41, r) ∧ (ptC C r f).2.1 (20, f) 11 = some (41, r) ∧ (ptC C r f).2.1 (20, f + 1) 11 = some (41, r) := by
  refine ⟨?_, ?_, ?_, ?_, ?_, ?_, ?_⟩ <;> simp [ptC, se_P2, sN_2]
theorem ptR_1 {a k : Nat} (h : ¬ (a = 58 ∨ a = 65 ∨ a = 66)) : (ptR R r f).1 (a, 0) k = R.1 (a, 0) k := by
  unfold ptR
  rw [se_ne (by simp; omega), se_ne (by simp; omega), se_ne (by simp; omega), se_ne (by simp; omega)]
theorem ptR_n : (∀ j, (ptR R r f).1 (58, 0) j = if j = r then 2 else R.1 (58, 0) j) ∧ (∀ j, (ptR R r f).1 (65, 0) j = if j = r then nI f else R.1 (65, 0) j) ∧ (∀ j, (ptR R r f).1 (66, 0) j = if j = f + 1 then nI r else if j = f then nI r else R.1 (66, 0) j) := by
  refine ⟨fun j => ?_, fun j => ?_, fun j => ?_⟩ <;> simp [ptR, se_E1]
theorem ptR_a {L : Nat → Nat → Bool} (h0 : L 58 r = false) (h1 : L 66 f = false) (h2 : L 66 (f + 1) = false) (h3 : L 65 r = false) : agr L R (ptR R r f) := agr_to (agr_to (agr_to (agr_set h0) h1) h2) h3
theorem pt_sm (h : SI b g t p q C R) (hr : r < g) (hf : f + 1 < g) (nf : ¬ r = f) (nf1 : ¬ r = f + 1) (h58 : R.1 (58, 0) r = 0) (h65 : R.1 (65, 0) r = -1) (h66 : R.1 (66, 0) r = -1) (u65 : R.1 (65, 0) f = -1) (u65' : R.1 (65, 0) (f + 1) = -1) (u66 : R.1 (66, 0) f = -1) (u66' : R.1 (66, 0) (f + 1) = -1) : sm b g t p (ptC C r f) (ptR R r f) := by
  have hle := sm_le h.1
  obtain ⟨v1, v2, v3, v4⟩ := sm_vl h.1
  obtain ⟨z67, z68⟩ := (Inv_P h.2 r hr).2 h65
  obtain ⟨p1, p2, p3, p4, p5, p6, p7⟩ := ptC_p (C := C) (r := r) (f := f)
  obtain ⟨r58, r65, r66⟩ := ptR_n (R := R) (r := r) (f := f)
  have ck : ∀ a j k, ¬ a = 41 → ¬ a = 42 → (ptC C r f).1 (a, j) k = C.1 (a, j) k := fun a j k h1 h2 => by
    rw [ptC_1, if_neg (fun z => h2 (congrArg Prod.fst z)), if_neg (fun z => h1 (congrArg Prod.fst z))]
  have c0 : ∀ a j k, ¬ a = 41 → ¬ a = 42 → ¬ a = 20 → (ptC C r f).2.1 (a, j) k = C.2.1 (a, j) k := fun a j k h1 h2 h3 => ptC_2 (fun z => h1 (congrArg Prod.fst z)) (fun z => h2 (congrArg Prod.fst z)) (fun z => h3 (congrArg Prod.fst z.1)) (fun z => h3 (congrArg Prod.fst z.1)) (fun z => h3 (congrArg Prod.fst z.1))
  have c20 : ∀ j k, ¬ k = 11 → ¬ k = 12 → (ptC C r f).2.1 (20, j) k = C.2.1 (20, j) k := fun j k h1 h2 => ptC_2 (by simp) (by simp) (fun z => h2 z.2) (fun z => h1 z.2) (fun z => h1 z.2)
  obtain ⟨h1, h2, h3, h4, h5, h6, h7⟩ := h.1
  have kw : ∀ {en : Int32 → Int32} {a cap bs : Nat} {F F' : Nat → Int32} {cnt : Int32} {j : Nat}, sm_W en C (a, j) cap F bs cnt → a < 40 → (∀ k, k < cap → F' (bs + k) = F (bs + k)) → sm_W en (ptC C r f) (a, j) cap F' bs cnt := fun {en a cap bs F F' cnt j} hh ha hF => by
    refine sm_W_keep hh (funext fun k => ck _ _ k ?_ ?_) (funext fun k => ck _ _ k ?_ ?_) hF rfl
    all_goals omega
  have rk : ∀ a, ¬ (a = 58 ∨ a = 65 ∨ a = 66) → ∀ k, (ptR R r f).1 (a, 0) k = R.1 (a, 0) k := fun a ha k => ptR_1 ha
  refine ⟨?_, fun j => ?_, fun j => ?_, fun j => ?_, ?_, ?_, ?_⟩
  · intro e he j
    have hm : ∀ e ∈ sm_T, ¬ (e.2.2 = 58 ∨ e.2.2 = 65 ∨ e.2.2 = 66) ∧ ¬ e.1 = 42 ∧ (e.1 = 41 → e.2.2 = 67 ∨ e.2.2 = 68) := by decide
    obtain ⟨y1, y2, y3⟩ := hm e he
    rw [rk e.2.2 y1, ptC_1, if_neg (fun z => y2 (congrArg Prod.fst z))]
    by_cases c : (e.1, j) = (41, r)
    · rw [if_pos c]
      have cj : j = r := congrArg Prod.snd c
      rcases y3 (congrArg Prod.fst c) with z | z
      · rw [z, cj]; exact z67.symm
      · rw [z, cj]; exact z68.symm
    · rw [if_neg c]
      exact h1 e he j
  · rw [rk 60 (by simp), rk 53 (by simp), rk 54 (by simp)]
    refine ⟨kw (h2 j).1 (by omega) (fun k _ => rk 59 (by simp) _), ?_⟩
    rw [ck 21 j 3 (by simp) (by simp)]
    simp only [rk 59 (by simp)]
    exact (h2 j).2
  · rw [rk 62 (by simp)]
    exact kw (h3 j) (by omega) (fun k _ => rk 61 (by simp) _)
  · obtain ⟨y1, y2, y3⟩ := h4 j
    rw [rk 76 (by simp), rk 72 (by simp), rk 73 (by simp)]
    refine ⟨kw y1 (by omega) (fun k _ => rk 74 (by simp) _), kw y2 (by omega) (fun k _ => rk 75 (by simp) _), ?_⟩
    rw [ck 31 j 3 (by simp) (by simp), y3]
    simp only [rk 74 (by simp)]
  · obtain ⟨e, y1, y2, y3, y4⟩ := h5
    refine ⟨e, y1, ?_, ?_, fun j => ?_⟩
    · rw [ck 1 0 3 (by simp) (by simp)]; exact y2
    · rw [rk 50 (by simp)]; exact y3
    · rw [ck 2 0 j (by simp) (by simp), ck 3 0 j (by simp) (by simp), ck 4 0 j (by simp) (by simp), rk 93 (by simp), rk 94 (by simp), rk 95 (by simp)]
      exact y4 j
  · obtain ⟨n, ff, hd, a1, a2, a3, a4, a5, a6, a7, a8, a9⟩ := h6
    have c6 : ∀ a k, a ≤ 11 → (ptC C r f).1 (a, 0) k = C.1 (a, 0) k := fun a k h1 => ck a 0 k (by omega) (by omega)
    refine ⟨n, ff, hd, a1, a2, a3, ?_, ?_, ?_, ?_, ?_, fun k hk => ?_⟩
    · rw [rk 50 (by simp)]; exact a4
    · rw [rk 50 (by simp)]; exact a5
    · rw [c6 6 2 (by omega), c6 6 1 (by omega)]; exact a6
    · rw [c6 8 2 (by omega), c6 8 1 (by omega)]; exact a7
    · rw [c6 10 2 (by omega), c6 10 1 (by omega)]; exact a8
    · rw [c6 7 _ (by omega), c6 9 _ (by omega), c6 11 _ (by omega), rk 90 (by simp), rk 91 (by simp), rk 92 (by simp)]
      exact a9 k hk
  · obtain ⟨⟨a1, a2, a3, a4, -⟩, b1, b2, b3, b4, b5, b6, b7, b8, b9, b10, b11⟩ := h7
    have r50 := rk 50 (by simp)
    have r83 := rk 83 (by simp)
    have r85 := rk 85 (by simp)
    have r86 := rk 86 (by simp)
    have r87 := rk 87 (by simp)
    have r88 := rk 88 (by simp)
    have nm1 : ∀ k, k < 6 → ¬ nI k = -1 := fun k hk z => nI_m1 (by omega) z.symm
    refine ⟨⟨a1, a2, a3, a4, fun a j ha ha' hj => ?_, fun a j ha ha' hj => ?_, fun j hj => ?_, fun a j ha hj => ?_⟩, ?_, ?_, ?_, ?_, ?_, fun j hj => ?_, fun j hj => ?_, fun j hj => ?_, fun j hj => ?_, fun j hj => ?_, fun k hk => ?_⟩
    · rw [ptC_3, if_neg (fun z => by have := congrArg Prod.fst z; dsimp only at this; omega), if_neg (fun z => by have := congrArg Prod.fst z; dsimp only at this; omega)]; exact v1 a j ha ha' hj
    · rw [ptC_3, if_neg (fun z => by have := congrArg Prod.fst z; dsimp only at this; omega), if_neg (fun z => by have := congrArg Prod.fst z; dsimp only at this; omega)]; exact v2 a j ha ha' hj
    · rw [ptC_3, if_neg (by simp), if_neg (by simp)]; exact v3 j hj
    · have nr : ¬ j = r := fun e => by
        subst e
        have := hj hr
        rw [r65, if_pos rfl] at this
        exact nm1 f (by omega) this
      rw [r65, if_neg nr] at hj
      rw [ptC_3, if_neg (fun z => nr (congrArg Prod.snd z)), if_neg (fun z => nr (congrArg Prod.snd z))]
      exact v4 a j ha hj
    · rw [ck 0 0 5 (by simp) (by simp), ck 0 0 6 (by simp) (by simp), ck 0 0 7 (by simp) (by simp)]; exact b1
    · rw [r50, r50, r50]; exact b2
    · rw [c0 0 0 0 (by simp) (by simp) (by simp), c0 0 0 1 (by simp) (by simp) (by simp), c0 0 0 2 (by simp) (by simp) (by simp), c0 0 0 3 (by simp) (by simp) (by simp), c0 0 0 4 (by simp) (by simp) (by simp)]; exact b3
    · rw [c0 1 0 0 (by simp) (by simp) (by simp), c0 1 0 1 (by simp) (by simp) (by simp), c0 1 0 2 (by simp) (by simp) (by simp)]; exact b4
    · rw [c0 5 0 0 (by simp) (by simp) (by simp), c0 5 0 1 (by simp) (by simp) (by simp), c0 5 0 2 (by simp) (by simp) (by simp), c0 6 0 0 (by simp) (by simp) (by simp), c0 8 0 0 (by simp) (by simp) (by simp), c0 10 0 0 (by simp) (by simp) (by simp)]; exact b5
    · rw [c0 12 0 j (by simp) (by simp) (by simp), ck 20 j 0 (by simp) (by simp), c20 j 1 (by simp) (by simp), c20 j 2 (by simp) (by simp), c20 j 3 (by simp) (by simp), c0 21 j 0 (by simp) (by simp) (by simp), c0 22 j 0 (by simp) (by simp) (by simp), c0 24 j 0 (by simp) (by simp) (by simp)]
      exact b6 j hj
    · by_cases cf : j = f ∨ j = f + 1
      · have e66 : (ptR R r f).1 (66, 0) j = nI r := by
          rw [r66]
          rcases cf with e | e
          · rw [if_neg (by omega), if_pos e]
          · rw [if_pos e]
        have e11 : (ptC C r f).2.1 (20, j) 11 = some (41, r) := by
          rcases cf with e | e
          · rw [e]; exact p6
          · rw [e]; exact p7
        refine Or.inr ⟨r, hr, e66, e11, ?_, ?_, f, ?_, cf⟩
        · rw [r66, if_neg nf1, if_neg nf]; exact h66
        · rw [r65, if_neg (by omega)]
          rcases cf with e | e
          · rw [e]; exact u65
          · rw [e]; exact u65'
        · rw [r65, if_pos rfl]
      · have e66 : (ptR R r f).1 (66, 0) j = R.1 (66, 0) j := by rw [r66, if_neg (fun e => cf (Or.inr e)), if_neg (fun e => cf (Or.inl e))]
        have e11 : (ptC C r f).2.1 (20, j) 11 = C.2.1 (20, j) 11 := ptC_2 (by simp) (by simp) (by simp) (fun z => cf (Or.inl (congrArg Prod.snd z.1))) (fun z => cf (Or.inr (congrArg Prod.snd z.1)))
        rw [e66, e11]
        rcases b7 j hj with z | ⟨r0, y1, y2, y3, y4, y5, f0, y6, y7⟩
        · exact Or.inl z
        · have n0 : ¬ r0 = f := fun e => by
            subst e
            rw [u65] at y6
            exact nI_m1 (by omega) y6
          have n1 : ¬ r0 = f + 1 := fun e => by
            subst e
            rw [u65'] at y6
            exact nI_m1 (by omega) y6
          have n2 : ¬ r0 = r := fun e => by
            subst e
            rw [h65] at y6
            exact nI_m1 (by omega) y6
          have n3 : ¬ j = r := fun e => by
            subst e
            rw [h66] at y2
            exact nI_m1 (by omega) y2
          refine Or.inr ⟨r0, y1, y2, y3, ?_, ?_, f0, ?_, y7⟩
          · rw [r66, if_neg n1, if_neg n0]; exact y4
          · rw [r65, if_neg n3]; exact y5
          · rw [r65, if_neg n2]; exact y6
    · by_cases c : j = r
      · subst c
        refine Or.inr ⟨?_, p5, p1, p2, f, hf, ?_, p3, p4, ?_, ?_⟩
        · rw [r58, if_pos rfl]
        · rw [r65, if_pos rfl]
        · rw [r66, if_neg (by omega), if_pos rfl]
        · rw [r66, if_pos rfl]
      · have e12 : (ptC C r f).2.1 (20, j) 12 = C.2.1 (20, j) 12 := ptC_2 (by simp) (by simp) (fun z => c (congrArg Prod.snd z.1)) (by simp) (by simp)
        have e41 : ∀ a k, a = 41 ∨ a = 42 → (ptC C r f).2.1 (a, j) k = C.2.1 (a, j) k := fun a k ha => ptC_2 (fun z => c (congrArg Prod.snd z)) (fun z => c (congrArg Prod.snd z)) (fun z => by have := congrArg Prod.fst z.1; dsimp only at this; omega) (fun z => by have := congrArg Prod.fst z.1; dsimp only at this; omega) (fun z => by have := congrArg Prod.fst z.1; dsimp only at this; omega)
        rw [r65, r58, if_neg c, if_neg c, e12, e41 41 0 (Or.inl rfl), e41 41 1 (Or.inl rfl), e41 42 0 (Or.inr rfl), e41 42 1 (Or.inr rfl)]
        rcases b8 j hj with z | ⟨y1, y2, y3, y4, f0, y5, y6, y7, y8, y9, y10⟩
        · exact Or.inl z
        · have fr : ∀ m, R.1 (66, 0) m = nI j → ¬ m = f ∧ ¬ m = f + 1 := fun m hm => ⟨fun e => by
            subst e
            rw [u66] at hm
            exact nI_m1 (by omega) hm, fun e => by
            subst e
            rw [u66'] at hm
            exact nI_m1 (by omega) hm⟩
          refine Or.inr ⟨y1, y2, y3, y4, f0, y5, y6, y7, y8, ?_, ?_⟩
          · rw [r66, if_neg (fr f0 y9).2, if_neg (fr f0 y9).1]; exact y9
          · rw [r66, if_neg (fr (f0 + 1) y10).2, if_neg (fr (f0 + 1) y10).1]; exact y10
    · rw [c20 j 13 (by simp) (by simp), r58, r65]
      by_cases c : j = r
      · subst c
        rw [if_pos rfl, if_pos rfl]
        rcases b9 j hj with ⟨-, z, -⟩ | ⟨z, -⟩
        · exact Or.inl ⟨by decide, z, Or.inr ⟨rfl, nm1 f (by omega)⟩⟩
        · rw [h58] at z
          exact absurd z (by decide)
      · rw [if_neg c, if_neg c]
        simp only [r85, r88]
        exact b9 j hj
    · rw [c0 13 0 j (by simp) (by simp) (by simp), ck 30 j 0 (by simp) (by simp), c0 30 j 1 (by simp) (by simp) (by simp), c0 30 j 2 (by simp) (by simp) (by simp), c0 30 j 3 (by simp) (by simp) (by simp), c0 31 j 0 (by simp) (by simp) (by simp), c0 32 j 0 (by simp) (by simp) (by simp), c0 34 j 0 (by simp) (by simp) (by simp)]
      exact b10 j hj
    · obtain ⟨y1, y2, i', w', y3, y4, y5, y6, y7, y8, y9, y10, y11, y12⟩ := b11 k hk
      rw [c0 14 0 k (by simp) (by simp) (by simp), ck 40 k 0 (by simp) (by simp), r85, r86, c0 40 k 1 (by simp) (by simp) (by simp), c0 40 k 2 (by simp) (by simp) (by simp), ck 40 k 3 (by simp) (by simp), ck 40 k 4 (by simp) (by simp), ck 40 k 5 (by simp) (by simp), r87, r88]
      refine ⟨y1, y2, i', w', y3, y4, y5, y6, y7, y8, y9, y10, y11, fun z => ?_⟩
      obtain ⟨o1, o2, o3⟩ := y12 z
      have ni : ¬ i' = r := fun e => by
        subst e
        rw [h58] at o1
        exact absurd o1 (by decide)
      rw [r58, if_neg ni, r83, c20 i' 13 (by simp) (by simp)]
      exact ⟨o1, o2, o3⟩
theorem pt_Inv (z : Inv g t p q R) (hg : g ≤ 6) (hr : r < g) (hf : f + 1 < g) (h65 : R.1 (65, 0) r = -1) (h62 : R.1 (62, 0) r = 0) : Inv g t p q (ptR R r f) := by
  obtain ⟨r58, r65, r66⟩ := ptR_n (R := R) (r := r) (f := f)
  have rk : ∀ a, ¬ (a = 58 ∨ a = 65 ∨ a = 66) → ∀ k, (ptR R r f).1 (a, 0) k = R.1 (a, 0) k := fun a ha k => ptR_1 ha
  have hh : ∀ k w, has (ptR R r f) k w ↔ has R k w := fun k w => ka_has (ptR_a rfl rfl rfl rfl) k w
  obtain ⟨z1, z2, z3, z4, z5, z6, z7, z8, z9, z10, z11, z12, z13, z14, z15, z16⟩ := z
  have ag : ∀ {L : Nat → Nat → Bool}, L 58 r = false → L 66 f = false → L 66 (f + 1) = false → L 65 r = false → agr L R (ptR R r f) := fun a b c d => ptR_a a b c d
  refine ⟨ka_F (ag rfl rfl rfl rfl) z1, ka_S (ag rfl rfl rfl rfl) z2, ka_B (ag rfl rfl rfl rfl) z3, ka_E (ag rfl rfl rfl rfl) z4, ka_Q (ag rfl rfl rfl rfl) z5, ?_, ka_N (ag rfl rfl rfl rfl) z7, ?_, ka_T (ag rfl rfl rfl rfl) z9, ka_X (ag rfl rfl rfl rfl) z10, ka_J1 (ag rfl rfl rfl rfl) z11, ka_JP (ag rfl rfl rfl rfl) z12, ?_, ka_JS (ag rfl rfl rfl rfl) z14, ka_JM (ag rfl rfl rfl rfl) z15, ?_⟩
  · intro j hj
    rw [r58, rk 62 (by simp)]
    simp only [rk 61 (by simp), rk 85 (by simp), rk 88 (by simp)]
    by_cases c : j = r
    · subst c
      rw [if_pos rfl]
      exact ⟨fun e => absurd e (by decide), fun e => absurd e (by decide), fun _ => Or.inl h62⟩
    · rw [if_neg c]
      exact z6 j hj
  · intro j hj
    rw [rk 62 (by simp), rk 67 (by simp), rk 68 (by simp), r65]
    by_cases c : j = r
    · subst c
      rw [if_pos rfl]
      exact ⟨fun _ e => absurd h62 e, fun e => absurd e.symm (nI_m1 (by omega))⟩
    · rw [if_neg c]
      exact z8 j hj
  · intro j hj e
    rw [hh] at e
    rw [rk 62 (by simp), rk 67 (by simp), r65]
    by_cases c : j = r
    · subst c
      exact absurd h65 (z13 j hj e).1
    · rw [if_neg c]
      exact z13 j hj e
  · exact ka_FR (agr_to (agr_to (agr_set rfl) rfl) rfl) (FR_G z16 (by decide) (Or.inl hr))
theorem pt_R : xo_sE (agR (agR (xo_sE R (58, 0) r 2) g 0 0 (nI r)) (g + 1) 0 0 (nI r)) (65, 0) r (nI g) = ptR (agR (agR R g 0 0 (-1)) (g + 1) 0 0 (-1)) r g := by
  refine Prod.ext (funext fun m => funext fun k => ?_) rfl
  simp only [ptR, agR, se_E1]
  by_cases c50 : m = (50, 0)
  · subst c50; simp
  · by_cases c53 : m = (53, 0)
    · subst c53; simp
    · by_cases c54 : m = (54, 0)
      · subst c54; simp
      · by_cases c58 : m = (58, 0)
        · subst c58; simp
        · by_cases c65 : m = (65, 0)
          · subst c65; simp
          · by_cases c66 : m = (66, 0)
            · subst c66
              simp only [Prod.mk.injEq, true_and, false_and, if_false, show ¬ (66 : Nat) = 65 by decide, show ¬ (66 : Nat) = 58 by decide, show ¬ (66 : Nat) = 54 by decide, show ¬ (66 : Nat) = 53 by decide, show ¬ (66 : Nat) = 50 by decide]
              by_cases k1 : k = g + 1
              · simp [k1]
              · by_cases k0 : k = g
                · simp [k0]
                · simp [k1, k0]
            · simp only [c50, c53, c54, c58, c65, c66, false_and, if_false]
end PA
