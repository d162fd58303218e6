section FN
variable {b g t p q k i w : Nat} {C R : xo_H} {kd er : Int32}
/-- a pipe lets its giver and its taker go -/
def lgC (C : xo_H) (k i w : Nat) : xo_H := xo_sE (xo_sP (xo_sE C (40, k) 6 1) (20, i) 13 none) (30, w) 12 0
def lgR (R : xo_H) (k i w : Nat) : xo_H := xo_sE (xo_sE (xo_sE R (88, 0) k 1) (58, 0) i 0) (83, 0) w 0
theorem lg_P (h : sm_P g t p C R) (hk : k < p) (h88 : R.1 (88, 0) k = 0) (h85 : R.1 (85, 0) k = nI i) (h86 : R.1 (86, 0) k = nI w) (hi : i < g) (hw : w < t) (hX : ∀ k', k' < p → ¬ k' = k → R.1 (88, 0) k' = 0 → ¬ R.1 (86, 0) k' = nI w) : sm_P g t p (lgC C k i w) (lgR R k i w) := by
  have c1 : ∀ (m : xo_N), ¬ m.1 = 40 → ¬ m.1 = 30 → (lgC C k i w).1 m = C.1 m := fun m h1 h2 => by
    unfold lgC
    rw [se_ne (fun e => h2 (congrArg Prod.fst e))]
    show (xo_sE C (40, k) 6 1).1 m = _
    rw [se_ne (fun e => h1 (congrArg Prod.fst e))]
  have c40 : ∀ j f, ¬ f = 6 → (lgC C k i w).1 (40, j) f = C.1 (40, j) f := fun j f hf => by
    unfold lgC
    rw [se_ne (by simp)]
    show (xo_sE C (40, k) 6 1).1 (40, j) f = _
    rw [se_nf (by simp [hf])]
  have c30 : ∀ j f, ¬ f = 12 → (lgC C k i w).1 (30, j) f = C.1 (30, j) f := fun j f hf => by
    unfold lgC
    rw [se_nf (by simp [hf])]
    show (xo_sE C (40, k) 6 1).1 (30, j) f = _
    rw [se_nf (by simp)]
  have cp : ∀ (m : xo_N) f, ¬ (m = (20, i) ∧ f = 13) → (lgC C k i w).2.1 m f = C.2.1 m f := fun m f hf => by
    show (xo_sP (xo_sE C (40, k) 6 1) (20, i) 13 none).2.1 m f = _
    rw [se_P2, if_neg hf]
    rfl
  have cpi : (lgC C k i w).2.1 (20, i) 13 = none := by
    show (xo_sP (xo_sE C (40, k) 6 1) (20, i) 13 none).2.1 (20, i) 13 = _
    rw [se_P2, if_pos ⟨rfl, rfl⟩]
  have cv : (lgC C k i w).2.2 = C.2.2 := rfl
  have r1 : ∀ (m : xo_N), ¬ m = (88, 0) → ¬ m = (58, 0) → ¬ m = (83, 0) → (lgR R k i w).1 m = R.1 m := fun m h1 h2 h3 => by
    unfold lgR
    rw [se_ne h3, se_ne h2, se_ne h1]
  have r88 : ∀ j, (lgR R k i w).1 (88, 0) j = if j = k then 1 else R.1 (88, 0) j := fun j => by
    unfold lgR
    rw [se_ne (by simp), se_ne (by simp), se_at]
  have r58 : ∀ j, (lgR R k i w).1 (58, 0) j = if j = i then 0 else R.1 (58, 0) j := fun j => by
    unfold lgR
    rw [se_ne (by simp), se_at, se_ne (by simp)]
  have r83 : ∀ j, (lgR R k i w).1 (83, 0) j = if j = w then 0 else R.1 (83, 0) j := fun j => by
    unfold lgR
    rw [se_at, se_ne (by simp), se_ne (by simp)]
  have r2 : (lgR R k i w).2 = R.2 := rfl
  obtain ⟨⟨a1, a2, a3, a4, v1, v2, v3, v4⟩, b1, b2, b3, b4, b5, b6, b7, b8, b9, b10, b11⟩ := h
  obtain ⟨l1, l2, i', w', i1, w1, e85, e86, pp1, pp2, f1, f2, f3, hh⟩ := b11 k hk
  have ei : i' = i := sm_nIinj (e85.symm.trans h85) (by omega) (by omega)
  have ew : w' = w := sm_nIinj (e86.symm.trans h86) (by omega) (by omega)
  subst ei ew
  obtain ⟨g1, g2, g3⟩ := hh h88
  have r65 := r1 (65, 0) (by simp) (by simp) (by simp)
  have r66 := r1 (66, 0) (by simp) (by simp) (by simp)
  have r85 := r1 (85, 0) (by simp) (by simp) (by simp)
  have r86 := r1 (86, 0) (by simp) (by simp) (by simp)
  have r87 := r1 (87, 0) (by simp) (by simp) (by simp)
  have r50 := r1 (50, 0) (by simp) (by simp) (by simp)
  have q1 : ∀ a j f, ¬ a = 20 → (lgC C k i' w').2.1 (a, j) f = C.2.1 (a, j) f := fun a j f ha => cp (a, j) f fun e => ha (congrArg Prod.fst e.1)
  have q20 : ∀ j f, ¬ f = 13 → (lgC C k i' w').2.1 (20, j) f = C.2.1 (20, j) f := fun j f hf => cp (20, j) f fun e => hf e.2
  have q13 : ∀ j, ¬ j = i' → (lgC C k i' w').2.1 (20, j) 13 = C.2.1 (20, j) 13 := fun j hj => cp (20, j) 13 fun e => hj (congrArg Prod.snd e.1)
  refine ⟨⟨a1, a2, a3, a4, v1, v2, v3, fun a j ha hj => ?_⟩, ?_, ?_, ?_, ?_, ?_, fun j hj => ?_, fun j hj => ?_, fun j hj => ?_, fun j hj => ?_, fun j hj => ?_, fun j hj => ?_⟩
  · rw [r65] at hj
    exact v4 a j ha hj
  · rw [c1 (0, 0) (by simp) (by simp)]; exact b1
  · rw [r50]; exact b2
  · rw [q1 0 0 0 (by simp), q1 0 0 1 (by simp), q1 0 0 2 (by simp), q1 0 0 3 (by simp), q1 0 0 4 (by simp)]; exact b3
  · rw [q1 1 0 0 (by simp), q1 1 0 1 (by simp), q1 1 0 2 (by simp)]; exact b4
  · rw [q1 5 0 0 (by simp), q1 5 0 1 (by simp), q1 5 0 2 (by simp), q1 6 0 0 (by simp), q1 8 0 0 (by simp), q1 10 0 0 (by simp)]; exact b5
  · rw [q1 12 0 j (by simp), c1 (20, j) (by simp) (by simp), q20 j 1 (by simp), q20 j 2 (by simp), q20 j 3 (by simp), q1 21 j 0 (by simp), q1 22 j 0 (by simp), q1 24 j 0 (by simp)]; exact b6 j hj
  · rw [r66, r65, q20 j 11 (by simp)]; exact b7 j hj
  · rw [r66, r65, r58, q20 j 12 (by simp), q1 41 j 0 (by simp), q1 41 j 1 (by simp), q1 42 j 0 (by simp), q1 42 j 1 (by simp)]
    rcases b8 j hj with e | ⟨e, e'⟩
    · exact Or.inl e
    · refine Or.inr ⟨?_, e'⟩
      rw [if_neg]
      · exact e
      · intro z
        subst z
        rw [g1] at e
        exact absurd e (by decide)
  · rw [r65, r58, r85]
    by_cases c : j = i'
    · subst c
      rw [if_pos rfl, cpi]
      exact Or.inl ⟨by decide, rfl, Or.inl rfl⟩
    · rw [if_neg c, q13 j c]
      rcases b9 j hj with e | ⟨e1, e2, k', k1, k2, k3, k4⟩
      · exact Or.inl e
      · refine Or.inr ⟨e1, e2, k', k1, k2, k3, ?_⟩
        rw [r88, if_neg]
        · exact k4
        · intro z
          subst z
          exact c (sm_nIinj (k3.symm.trans h85) (by omega) (by omega))
  · rw [q1 13 0 j (by simp), c30 j 0 (by simp), q1 30 j 1 (by simp), q1 30 j 2 (by simp), q1 30 j 3 (by simp), q1 31 j 0 (by simp), q1 32 j 0 (by simp), q1 34 j 0 (by simp)]; exact b10 j hj
  · obtain ⟨m1, m2, x, y, x1, y1, n85, n86, pp3, pp4, n1, n2, n3, nn⟩ := b11 j hj
    rw [q1 14 0 j (by simp), c40 j 0 (by simp), r85, r86, r87, q1 40 j 1 (by simp), q1 40 j 2 (by simp), c40 j 3 (by simp), c40 j 4 (by simp), c40 j 5 (by simp)]
    refine ⟨m1, m2, x, y, x1, y1, n85, n86, pp3, pp4, n1, n2, n3, fun z => ?_⟩
    rw [r88] at z
    by_cases c : j = k
    · rw [if_pos c] at z; exact absurd z (by decide)
    · rw [if_neg c] at z
      obtain ⟨o1, o2, o3⟩ := nn z
      have nx : ¬ x = i' := fun e => by
        subst e
        rw [g3] at o3
        exact c (by injection o3 with o3; exact (congrArg Prod.snd o3).symm)
      have ny : ¬ y = w' := fun e => by
        subst e
        exact hX j hj c z n86
      rw [r58, r83, if_neg nx, if_neg ny, q13 x nx]
      exact ⟨o1, o2, o3⟩
theorem lg_sm (h : sm b g t p C R) (hk : k < p) (h88 : R.1 (88, 0) k = 0) (h85 : R.1 (85, 0) k = nI i) (h86 : R.1 (86, 0) k = nI w) (hi : i < g) (hw : w < t) (hX : ∀ k', k' < p → ¬ k' = k → R.1 (88, 0) k' = 0 → ¬ R.1 (86, 0) k' = nI w) : sm b g t p (lgC C k i w) (lgR R k i w) := by
  obtain ⟨h1, h2, h3, h4, h5, h6, h7⟩ := h
  refine ⟨?_, ?_, ?_, ?_, ?_, ?_, lg_P h7 hk h88 h85 h86 hi hw hX⟩
  · have s1 : sm_S (xo_sE C (40, k) 6 1) (xo_sE (xo_sE R (88, 0) k 1) (58, 0) i 0) := kr_S (sm_S_set h1 40 6 88 k 1 (by decide)) rfl
    have s2 : sm_S (xo_sP (xo_sE C (40, k) 6 1) (20, i) 13 none) (xo_sE (xo_sE R (88, 0) k 1) (58, 0) i 0) := s1
    exact sm_S_set s2 30 12 83 w 0 (by decide)
  · have s1 : sm_Q (xo_sE C (40, k) 6 1) (lgR R k i w) := kc_Q (kr_Q (kr_Q (kr_Q h2 rfl) rfl) rfl) rfl
    have s2 : sm_Q (xo_sP (xo_sE C (40, k) 6 1) (20, i) 13 none) (lgR R k i w) := s1
    exact kc_Q s2 rfl
  · have s1 : sm_A (xo_sE C (40, k) 6 1) (lgR R k i w) := kc_A (kr_A (kr_A (kr_A h3 rfl) rfl) rfl) rfl
    have s2 : sm_A (xo_sP (xo_sE C (40, k) 6 1) (20, i) 13 none) (lgR R k i w) := s1
    exact kc_A s2 rfl
  · have s1 : sm_U (xo_sE C (40, k) 6 1) (lgR R k i w) := kc_U (kr_U (kr_U (kr_U h4 rfl) rfl) rfl) rfl
    have s2 : sm_U (xo_sP (xo_sE C (40, k) 6 1) (20, i) 13 none) (lgR R k i w) := s1
    exact kc_U s2 rfl
  · have s1 : sm_L b (xo_sE C (40, k) 6 1) (lgR R k i w) := kc_L (kr_L (kr_L (kr_L h5 rfl) rfl) rfl) rfl
    have s2 : sm_L b (xo_sP (xo_sE C (40, k) 6 1) (20, i) 13 none) (lgR R k i w) := s1
    exact kc_L s2 rfl
  · have s1 : sm_J (xo_sE C (40, k) 6 1) (lgR R k i w) := kc_J (kr_J (kr_J (kr_J h6 rfl) rfl) rfl) rfl
    have s2 : sm_J (xo_sP (xo_sE C (40, k) 6 1) (20, i) 13 none) (lgR R k i w) := s1
    exact kc_J s2 rfl
theorem lg_Inv (z : Inv g t p q R) (hk : k < p) (h85 : R.1 (85, 0) k = nI i) (hi : i < g) (hg : g ≤ 6) (hw : w < t) (h62 : R.1 (62, 0) i = 0) : Inv g t p q (lgR R k i w) := by
  obtain ⟨z1, z2, z3, z4, z5, z6, z7, z8, z9, z10, z11, z12, z13, z14, z15, z16⟩ := z
  have r1 : ∀ (m : xo_N), ¬ m = (88, 0) → ¬ m = (58, 0) → ¬ m = (83, 0) → (lgR R k i w).1 m = R.1 m := fun m h1 h2 h3 => by
    unfold lgR
    rw [se_ne h3, se_ne h2, se_ne h1]
  have r88 : ∀ j, (lgR R k i w).1 (88, 0) j = if j = k then 1 else R.1 (88, 0) j := fun j => by
    unfold lgR
    rw [se_ne (by simp), se_ne (by simp), se_at]
  have r58 : ∀ j, (lgR R k i w).1 (58, 0) j = if j = i then 0 else R.1 (58, 0) j := fun j => by
    unfold lgR
    rw [se_ne (by simp), se_at, se_ne (by simp)]
  have r61 := r1 (61, 0) (by simp) (by simp) (by simp)
  have r62 := r1 (62, 0) (by simp) (by simp) (by simp)
  have r76 := r1 (76, 0) (by simp) (by simp) (by simp)
  have r85 := r1 (85, 0) (by simp) (by simp) (by simp)
  have r86 := r1 (86, 0) (by simp) (by simp) (by simp)
  have ag : ∀ {L : Nat → Nat → Bool}, L 88 k = false → L 58 i = false → L 83 w = false → agr L R (lgR R k i w) := fun a b c => agr_to (agr_to (agr_set a) b) c
  refine ⟨ka_F (ag rfl rfl rfl) z1, ka_S (ag rfl rfl rfl) z2, ka_B (ag rfl rfl rfl) z3, ka_E (ag rfl rfl rfl) z4, ka_Q (ag rfl rfl rfl) z5, fun j hj => ?_, ka_N (ag rfl rfl rfl) z7, ka_P (ag rfl rfl rfl) z8, ka_T (ag rfl rfl rfl) z9, ?_, ka_J1 (ag rfl rfl rfl) z11, ka_JP (ag rfl rfl rfl) z12, ka_JD (ag rfl rfl rfl) z13, ka_JS (ag rfl rfl rfl) z14, ka_JM (ag rfl rfl rfl) z15, FR_T (FR_G (FR_P z16 (by decide) (Or.inl hk)) (by decide) (Or.inl hi)) (by decide) (Or.inl hw)⟩
  · rw [r58, r61, r62, r85]
    by_cases c : j = i
    · subst c
      rw [if_pos rfl]
      refine ⟨fun _ n m hm h8 hn => ?_, fun e => absurd e (by decide), fun e => absurd e (by decide)⟩
      rw [h62] at hm
      have : 0 = m := sm_nIinj hm (by omega) (by omega)
      omega
    · rw [if_neg c]
      obtain ⟨y1, y2, y3⟩ := z6 j hj
      refine ⟨y1, fun e => ?_, y3⟩
      rcases y2 e with x | ⟨x1, k', x2, x3, x4, x5⟩
      · exact Or.inl x
      · refine Or.inr ⟨x1, k', x2, ?_, x4, x5⟩
        rw [r88, if_neg]
        · exact x3
        · intro e'
          subst e'
          exact c (sm_nIinj (x4.symm.trans h85) (by omega) (by omega))
  · unfold iX
    rw [r62, r76, r85, r86]
    have n88 : ∀ j, (lgR R k i w).1 (88, 0) j = 0 → R.1 (88, 0) j = 0 := fun j e => by
      rw [r88] at e
      by_cases c : j = k
      · rw [if_pos c] at e; exact absurd e (by decide)
      · rw [if_neg c] at e; exact e
    exact ⟨fun j hj e => z10.1 j hj (n88 j e), fun j j' h1 h2 h3 e1 e2 => z10.2 j j' h1 h2 h3 (n88 j e1) (n88 j' e2)⟩
/-- the end of a pipe -/
theorem fin_SI (h : SI b g t p q C R) (hb : b + 20 < 2 ^ 30) (hk : k < p) (h88 : R.1 (88, 0) k = 0) : ∃ C' R', fc_K_endPipe (0, 0) (some (40, k)) kd er C = some C' ∧ fc_M_finish (50, 0) (nI k) kd er R = some R' ∧ SI (b + 1) g t p q C' R' := by
  have hle := sm_le h.1
  have hp := sm_MP h.1
  have hk2 : k < 2 := by omega
  obtain ⟨l1, l2, i, w, hi, hw, h85, h86, pp1, pp2, -, -, -, hh⟩ := sm_pipe h.1 hk
  obtain ⟨g1, g2, g3⟩ := hh h88
  have hi6 : i < 6 := by omega
  have hw2 : w < 2 := by omega
  obtain ⟨-, p0, p1, p2, p3, p4, p5, p6⟩ := sm_ptr h.1 hi
  obtain ⟨C0, a1, a2⟩ := ac_sm (i := i) h.1
  rw [sm_clear (kd_24 i)] at a1
  have eC0 : xo_sE C (24, i) 2 0 = C0 := Option.some.inj a1
  subst eC0
  have s0 : SI b g t p q (xo_sE C (24, i) 2 0) (xo_sE R (62, 0) i 0) := ⟨a2, m62z h.2⟩
  have f85 : (xo_sE R (62, 0) i 0).1 (85, 0) k = nI i := by rw [se_ne (by simp)]; exact h85
  have f86 : (xo_sE R (62, 0) i 0).1 (86, 0) k = nI w := by rw [se_ne (by simp)]; exact h86
  have f88 : (xo_sE R (62, 0) i 0).1 (88, 0) k = 0 := by rw [se_ne (by simp)]; exact h88
  have s1 : SI b g t p q (lgC (xo_sE C (24, i) 2 0) k i w) (lgR (xo_sE R (62, 0) i 0) k i w) := ⟨lg_sm s0.1 hk f88 f85 f86 hi hw (fun k' hk' hne e e' => (Inv_X s0.2).2 k' k hk' hk hne e f88 (e'.trans f86.symm)), lg_Inv s0.2 hk f85 hi hle.1 hw (xo_sE_eq _ _ _ _)⟩
  obtain ⟨C', x1, x2, x3⟩ := hE_both s1.1 (by omega) kd (nI k) er 0
  refine ⟨C', _, ?_, ?_, ⟨x3, Inv_hE s1.2⟩⟩
  · have e1 : (xo_sE C (40, k) 6 1).2.1 (40, k) 1 = some (20, i) := pp1
    have e2 : (xo_sE C (40, k) 6 1).2.1 (20, i) 3 = some (24, i) := p3
    have e3 : (xo_sE (xo_sE C (40, k) 6 1) (24, i) 2 0).2.1 (40, k) 1 = some (20, i) := pp1
    have e4 : (xo_sP (xo_sE (xo_sE C (40, k) 6 1) (24, i) 2 0) (20, i) 13 none).2.1 (40, k) 2 = some (30, w) := by
      rw [se_P2, if_neg (by simp)]
      exact pp2
    have eL : fc_P_letGo (40, k) C = some (lgC (xo_sE C (24, i) 2 0) k i w) := by
      unfold fc_P_letGo lgC
      rw [se_pz1 (kd_40 k), se_gp (kd_40 k), e1, se_gp (kd_20 i), e2, se_cl (kd_24 i), sm_clear (kd_24 i), Option.bind_some, se_gp (kd_40 k), e3, se_pp (kd_20 i), se_gp (kd_40 k), e4, se_pz0 (kd_30 w), se_com (n := (40, k)) (m := (24, i)) (by simp)]
    unfold fc_K_endPipe
    rw [se_cl (kd_40 k), eL, Option.bind_some, se_gp (kd_0 0), (sm_K0 s1.1).1, se_gf (kd_40 k), (sm_pipe s1.1 hk).2.1, se_cl (kd_1 0), x1]
    rfl
  · have hp3 : (xo_sE (xo_sE (xo_sE R (88, 0) k 1) (58, 0) i 0) (83, 0) w 0).2.1 = MP := hp
    have r62 : (xo_sE (xo_sE (xo_sE R (88, 0) k 1) (58, 0) i 0) (83, 0) w 0).1 (62, 0) = R.1 (62, 0) := by rw [se_ne (by simp), se_ne (by simp), se_ne (by simp)]
    have r61 : (xo_sE (xo_sE (xo_sE R (88, 0) k 1) (58, 0) i 0) (83, 0) w 0).1 (61, 0) = R.1 (61, 0) := by rw [se_ne (by simp), se_ne (by simp), se_ne (by simp)]
    have eR : xo_sE (xo_sE (xo_sE (xo_sE R (88, 0) k 1) (58, 0) i 0) (83, 0) w 0) (62, 0) i 0 = lgR (xo_sE R (62, 0) i 0) k i w := by
      unfold lgR
      rw [se_com (n := (83, 0)) (by simp), se_com (n := (58, 0)) (by simp), se_com (n := (88, 0)) (by simp)]
    have endl : ∀ fu j, R.1 (62, 0) i = nI j → j < 10 → fb_M_finish_41 (fu + 1) (50, 0) (nI k) kd er (nI i) (0 : Int32) (nI j) (xo_sE (xo_sE (xo_sE R (88, 0) k 1) (58, 0) i 0) (83, 0) w 0) = some (hE (lgR (xo_sE R (62, 0) i 0) k i w) kd (nI k) er 0) := fun fu j ej hj => by
      rw [fb_M_finish_41, mp_12 hp3, ml_62 hi6, r62, ej, if_neg (nI_nlt (by omega) (by omega)), mp_12 hp3, mq_62 hi6, eR, se_cl (kd_50 0), x2]
      rfl
    unfold fc_M_finish
    rw [mp_37 hp, ml_85 hk2, h85, mp_40 hp, mq1_88 hk2, mp_8 (by exact hp), mq_58 hi6, mp_34 (by exact hp), mp_38 (by exact hp), ml_86 hk2, se_ne (m := (86, 0)) (by simp), se_ne (m := (86, 0)) (by simp), h86, mq0_83 hw2]
    rcases (Inv_H h.2 i hi).2.1 g1 with e | ⟨e, k', k1, k2, k3, k4⟩
    · exact endl 999 0 e (by omega)
    · obtain ⟨-, -, i', w', i1, -, e85, -, -, -, -, -, -, nn⟩ := sm_pipe h.1 k1
      have ei : i' = i := sm_nIinj (e85.symm.trans k3) (by omega) (by omega)
      subst ei
      have o3 := (nn k2).2.2
      rw [g3] at o3
      have ek : k = k' := by injection o3 with o3; exact congrArg Prod.snd o3
      subst ek
      have lt01 : (0 : Int32) < nI 1 := by decide
      have e' : R.1 (62, 0) i' = nI 1 := e
      have ix : (8 : Int32) * nI i' + 0 = nI (8 * i') := by rw [ix_8]; exact nI_add (8 * i') 0
      rw [fb_M_finish_41, mp_12 hp3, ml_62 hi6, r62, e', if_pos lt01, mp_11 hp3, ix, ml_61 (by omega), r61, k4, if_pos rfl]
      exact endl 998 1 e' (by omega)
end FN
