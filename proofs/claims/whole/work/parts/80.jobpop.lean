section JP
variable {g t p q f n : Nat} {R : xo_H}
theorem jp_eq (hf : R.1 (50, 0) 42 = nI f) (hn : R.1 (50, 0) 43 = nI (n + 1)) (h1 : f < 64) (h2 : n < 64) (z : J1 g t p R) {k : Int32} {w : Nat} (h : ¬ (jK R 0 = k ∧ jW R 0 = nI w)) : has (jp_R R f n) k w ↔ has R k w := by
  obtain ⟨a, b, -⟩ := jp_has hf hn h1 h2 z k w
  exact ⟨a, fun e => (b e).elim id fun e => absurd e h⟩
theorem jp_Inv (hf : R.1 (50, 0) 42 = nI f) (hn : R.1 (50, 0) 43 = nI (n + 1)) (h1 : f < 64) (h2 : n < 64) (z : Inv g t p q R) (j1 : JP g (jp_R R f n)) (j2 : JD g (jp_R R f n)) (j3 : JS t (jp_R R f n)) (j4 : JM p (jp_R R f n)) : Inv g t p q (jp_R R f n) := by
  obtain ⟨z1, z2, z3, z4, z5, z6, z7, z8, z9, z10, z11, z12, z13, z14, z15, z16⟩ := z
  exact ⟨ka_F (jp_agr rfl rfl) z1, ka_S (jp_agr rfl rfl) z2, ka_B (jp_agr rfl rfl) z3, ka_E (jp_agr rfl rfl) z4, ka_Q (jp_agr rfl rfl) z5, ka_H (jp_agr rfl rfl) z6, ka_N (jp_agr rfl rfl) z7, ka_P (jp_agr rfl rfl) z8, ka_T (jp_agr rfl rfl) z9, ka_X (jp_agr rfl rfl) z10, jp_J1 hf hn h1 h2 z11, j1, j2, j3, j4, ka_FR (jp_agr rfl rfl) z16⟩
/-- a PULLED job is taken, its mark cleared -/
theorem jp_1 {r : Nat} (hg : g ≤ 6) (hf : R.1 (50, 0) 42 = nI f) (hn : R.1 (50, 0) 43 = nI (n + 1)) (h1 : f < 64) (h2 : n < 64) (z : Inv g t p q R) (hr : r < g) (k0 : jK R 0 = 1) (w0 : jW R 0 = nI r) : Inv g t p q (xo_sE (jp_R R f n) (64, 0) r 0) := by
  obtain ⟨z1, z2, z3, z4, z5, z6, z7, z8, z9, z10, z11, z12, z13, z14, z15, z16⟩ := z
  have ag : ∀ {L : Nat → Nat → Bool}, L 64 r = false → L 50 42 = false → L 50 43 = false → agr L R (xo_sE (jp_R R f n) (64, 0) r 0) := fun e e1 e2 => agr_to (jp_agr e1 e2) e
  have e64 : ∀ i, (xo_sE (jp_R R f n) (64, 0) r 0).1 (64, 0) i = if i = r then 0 else R.1 (64, 0) i := fun i => by
    rw [se_at]
    split
    · rfl
    · exact jp_agr (L := fun a _ => a == 64) rfl rfl (64, 0) i rfl
  have hX : ∀ k w, has (xo_sE (jp_R R f n) (64, 0) r 0) k w ↔ has (jp_R R f n) k w := fun k w => ka_has (agr_set rfl) k w
  refine ⟨ka_F (ag rfl rfl rfl) z1, ka_S (ag rfl rfl rfl) z2, ka_B (ag rfl rfl rfl) z3, ka_E (ag rfl rfl rfl) z4, ka_Q (ag rfl rfl rfl) z5, ka_H (ag rfl rfl rfl) z6, ka_N (ag rfl rfl rfl) z7, ka_P (ag rfl rfl rfl) z8, ka_T (ag rfl rfl rfl) z9, ka_X (ag rfl rfl rfl) z10, ka_J1 (agr_set rfl) (jp_J1 hf hn h1 h2 z11), fun i hi => ?_, fun i hi hh => ?_, fun i hi => ?_, fun i hi => ?_, FR_G (ka_FR (jp_agr rfl rfl) z16) (by decide) (Or.inl hr)⟩
  · rw [hX, e64, ag (L := fun a _ => a == 56) rfl rfl rfl (56, 0) i rfl]
    by_cases c : i = r
    · subst c
      rw [if_pos rfl]
      have nh := (jp_has hf hn h1 h2 z11 1 i).2.2 (by rw [k0, w0])
      exact ⟨⟨fun e => absurd e nh, fun e => absurd e (by decide)⟩, Or.inl rfl, fun e => absurd e (by decide)⟩
    · rw [if_neg c, jp_eq hf hn h1 h2 z11 (fun e => c (sm_nIinj (w0.symm.trans e.2) (by omega) (by omega)).symm)]
      exact z12 i hi
  · rw [hX] at hh
    rw [ag (L := fun a _ => a == 65) rfl rfl rfl (65, 0) i rfl, ag (L := fun a _ => a == 67) rfl rfl rfl (67, 0) i rfl, ag (L := fun a _ => a == 62) rfl rfl rfl (62, 0) i rfl]
    exact z13 i hi ((jp_has hf hn h1 h2 z11 2 i).1 hh)
  · rw [ag (L := fun a _ => a == 84) rfl rfl rfl (84, 0) i rfl, ag (L := fun a _ => a == 79) rfl rfl rfl (79, 0) i rfl]
    refine ⟨(z14 i hi).1, (z14 i hi).2.1, fun k hk => ?_⟩
    rw [hX, jp_eq hf hn h1 h2 z11 (fun e => by rw [k0] at e; rcases hk with d | d | d <;> rw [d] at e <;> exact absurd e.1 (by decide))]
    exact (z14 i hi).2.2 k hk
  · rw [ag (L := fun a _ => a == 89) rfl rfl rfl (89, 0) i rfl, hX, jp_eq hf hn h1 h2 z11 (fun e => by rw [k0] at e; exact absurd e.1 (by decide))]
    exact z15 i hi
/-- a PARTED job is taken -/
theorem jp_2 {r : Nat} (hf : R.1 (50, 0) 42 = nI f) (hn : R.1 (50, 0) 43 = nI (n + 1)) (h1 : f < 64) (h2 : n < 64) (z : Inv g t p q R) (k0 : jK R 0 = 2) (w0 : jW R 0 = nI r) : Inv g t p q (jp_R R f n) ∧ ¬ has (jp_R R f n) 2 r := by
  have z0 := z
  obtain ⟨z1, z2, z3, z4, z5, z6, z7, z8, z9, z10, z11, z12, z13, z14, z15, z16⟩ := z
  have ag : ∀ {L : Nat → Nat → Bool}, L 50 42 = false → L 50 43 = false → agr L R (jp_R R f n) := fun e1 e2 => jp_agr e1 e2
  refine ⟨jp_Inv hf hn h1 h2 z0 (fun i hi => ?_) (fun i hi hh => ?_) (fun i hi => ?_) (fun i hi => ?_), (jp_has hf hn h1 h2 z11 2 r).2.2 (by rw [k0, w0])⟩
  · rw [jp_eq hf hn h1 h2 z11 (fun e => by rw [k0] at e; exact absurd e.1 (by decide)), ag (L := fun a _ => a == 64) rfl rfl (64, 0) i rfl, ag (L := fun a _ => a == 56) rfl rfl (56, 0) i rfl]
    exact z12 i hi
  · rw [ag (L := fun a _ => a == 65) rfl rfl (65, 0) i rfl, ag (L := fun a _ => a == 67) rfl rfl (67, 0) i rfl, ag (L := fun a _ => a == 62) rfl rfl (62, 0) i rfl]
    exact z13 i hi ((jp_has hf hn h1 h2 z11 2 i).1 hh)
  · rw [ag (L := fun a _ => a == 84) rfl rfl (84, 0) i rfl, ag (L := fun a _ => a == 79) rfl rfl (79, 0) i rfl]
    refine ⟨(z14 i hi).1, (z14 i hi).2.1, fun k hk => ?_⟩
    rw [jp_eq hf hn h1 h2 z11 (fun e => by rw [k0] at e; rcases hk with d | d | d <;> rw [d] at e <;> exact absurd e.1 (by decide))]
    exact (z14 i hi).2.2 k hk
  · rw [ag (L := fun a _ => a == 89) rfl rfl (89, 0) i rfl, jp_eq hf hn h1 h2 z11 (fun e => by rw [k0] at e; exact absurd e.1 (by decide))]
    exact z15 i hi
/-- a PUMP job is taken, its mark cleared -/
theorem jp_6 {r : Nat} (hp : p ≤ 2) (hf : R.1 (50, 0) 42 = nI f) (hn : R.1 (50, 0) 43 = nI (n + 1)) (h1 : f < 64) (h2 : n < 64) (z : Inv g t p q R) (hr : r < p) (k0 : jK R 0 = 6) (w0 : jW R 0 = nI r) : Inv g t p q (xo_sE (jp_R R f n) (89, 0) r 0) := by
  obtain ⟨z1, z2, z3, z4, z5, z6, z7, z8, z9, z10, z11, z12, z13, z14, z15, z16⟩ := z
  have ag : ∀ {L : Nat → Nat → Bool}, L 89 r = false → L 50 42 = false → L 50 43 = false → agr L R (xo_sE (jp_R R f n) (89, 0) r 0) := fun e e1 e2 => agr_to (jp_agr e1 e2) e
  have e89 : ∀ i, (xo_sE (jp_R R f n) (89, 0) r 0).1 (89, 0) i = if i = r then 0 else R.1 (89, 0) i := fun i => by
    rw [se_at]
    split
    · rfl
    · exact jp_agr (L := fun a _ => a == 89) rfl rfl (89, 0) i rfl
  have hX : ∀ k w, has (xo_sE (jp_R R f n) (89, 0) r 0) k w ↔ has (jp_R R f n) k w := fun k w => ka_has (agr_set rfl) k w
  refine ⟨ka_F (ag rfl rfl rfl) z1, ka_S (ag rfl rfl rfl) z2, ka_B (ag rfl rfl rfl) z3, ka_E (ag rfl rfl rfl) z4, ka_Q (ag rfl rfl rfl) z5, ka_H (ag rfl rfl rfl) z6, ka_N (ag rfl rfl rfl) z7, ka_P (ag rfl rfl rfl) z8, ka_T (ag rfl rfl rfl) z9, ka_X (ag rfl rfl rfl) z10, ka_J1 (agr_set rfl) (jp_J1 hf hn h1 h2 z11), fun i hi => ?_, fun i hi hh => ?_, fun i hi => ?_, fun i hi => ?_, FR_P (ka_FR (jp_agr rfl rfl) z16) (by decide) (Or.inl hr)⟩
  · rw [hX, jp_eq hf hn h1 h2 z11 (fun e => by rw [k0] at e; exact absurd e.1 (by decide)), ag (L := fun a _ => a == 64) rfl rfl rfl (64, 0) i rfl, ag (L := fun a _ => a == 56) rfl rfl rfl (56, 0) i rfl]
    exact z12 i hi
  · rw [hX] at hh
    rw [ag (L := fun a _ => a == 65) rfl rfl rfl (65, 0) i rfl, ag (L := fun a _ => a == 67) rfl rfl rfl (67, 0) i rfl, ag (L := fun a _ => a == 62) rfl rfl rfl (62, 0) i rfl]
    exact z13 i hi ((jp_has hf hn h1 h2 z11 2 i).1 hh)
  · rw [ag (L := fun a _ => a == 84) rfl rfl rfl (84, 0) i rfl, ag (L := fun a _ => a == 79) rfl rfl rfl (79, 0) i rfl]
    refine ⟨(z14 i hi).1, (z14 i hi).2.1, fun k hk => ?_⟩
    rw [hX, jp_eq hf hn h1 h2 z11 (fun e => by rw [k0] at e; rcases hk with d | d | d <;> rw [d] at e <;> exact absurd e.1 (by decide))]
    exact (z14 i hi).2.2 k hk
  · rw [hX, e89]
    by_cases c : i = r
    · subst c
      rw [if_pos rfl]
      have nh := (jp_has hf hn h1 h2 z11 6 i).2.2 (by rw [k0, w0])
      exact ⟨Or.inl rfl, fun e => absurd e nh, fun e => absurd e (by decide)⟩
    · rw [if_neg c, jp_eq hf hn h1 h2 z11 (fun e => c (sm_nIinj (w0.symm.trans e.2) (by omega) (by omega)).symm)]
      exact z15 i hi
/-- a job that settles is taken, its mark cleared -/
theorem jp_3 {r : Nat} (ht : t ≤ 2) (hf : R.1 (50, 0) 42 = nI f) (hn : R.1 (50, 0) 43 = nI (n + 1)) (h1 : f < 64) (h2 : n < 64) (z : Inv g t p q R) (hr : r < t) (k0 : jK R 0 = 3 ∨ jK R 0 = 4 ∨ jK R 0 = 5) (w0 : jW R 0 = nI r) : Inv g t p q (xo_sE (jp_R R f n) (84, 0) r 0) ∧ R.1 (79, 0) r = jK R 0 := by
  obtain ⟨z1, z2, z3, z4, z5, z6, z7, z8, z9, z10, z11, z12, z13, z14, z15, z16⟩ := z
  have ag : ∀ {L : Nat → Nat → Bool}, L 84 r = false → L 50 42 = false → L 50 43 = false → agr L R (xo_sE (jp_R R f n) (84, 0) r 0) := fun e e1 e2 => agr_to (jp_agr e1 e2) e
  have e84 : ∀ i, (xo_sE (jp_R R f n) (84, 0) r 0).1 (84, 0) i = if i = r then 0 else R.1 (84, 0) i := fun i => by
    rw [se_at]
    split
    · rfl
    · exact jp_agr (L := fun a _ => a == 84) rfl rfl (84, 0) i rfl
  have hX : ∀ k w, has (xo_sE (jp_R R f n) (84, 0) r 0) k w ↔ has (jp_R R f n) k w := fun k w => ka_has (agr_set rfl) k w
  have kn : ∀ k : Int32, (k = 1 ∨ k = 2 ∨ k = 6) → ¬ jK R 0 = k := by
    intro k e1 e2
    rcases k0 with e | e | e <;> rcases e1 with e1 | e1 | e1 <;> rw [e, e1] at e2 <;> exact absurd e2 (by decide)
  have h0 : has R (jK R 0) r := ⟨0, by rw [(jp_j hf hn h1 h2).1]; omega, rfl, w0⟩
  refine ⟨⟨ka_F (ag rfl rfl rfl) z1, ka_S (ag rfl rfl rfl) z2, ka_B (ag rfl rfl rfl) z3, ka_E (ag rfl rfl rfl) z4, ka_Q (ag rfl rfl rfl) z5, ka_H (ag rfl rfl rfl) z6, ka_N (ag rfl rfl rfl) z7, ka_P (ag rfl rfl rfl) z8, ka_T (ag rfl rfl rfl) z9, ka_X (ag rfl rfl rfl) z10, ka_J1 (agr_set rfl) (jp_J1 hf hn h1 h2 z11), fun i hi => ?_, fun i hi hh => ?_, fun i hi => ?_, fun i hi => ?_, FR_T (ka_FR (jp_agr rfl rfl) z16) (by decide) (Or.inl hr)⟩, (((z14 r hr).2.2 _ k0).mp h0).2⟩
  · rw [hX, jp_eq hf hn h1 h2 z11 (fun e => kn 1 (Or.inl rfl) e.1), ag (L := fun a _ => a == 64) rfl rfl rfl (64, 0) i rfl, ag (L := fun a _ => a == 56) rfl rfl rfl (56, 0) i rfl]
    exact z12 i hi
  · rw [hX] at hh
    rw [ag (L := fun a _ => a == 65) rfl rfl rfl (65, 0) i rfl, ag (L := fun a _ => a == 67) rfl rfl rfl (67, 0) i rfl, ag (L := fun a _ => a == 62) rfl rfl rfl (62, 0) i rfl]
    exact z13 i hi ((jp_has hf hn h1 h2 z11 2 i).1 hh)
  · rw [e84, ag (L := fun a _ => a == 79) rfl rfl rfl (79, 0) i rfl]
    by_cases c : i = r
    · subst c
      rw [if_pos rfl]
      refine ⟨Or.inl rfl, fun e => absurd e (by decide), fun k hk => ?_⟩
      rw [hX]
      have nh := (jp_has hf hn h1 h2 z11 k i).2.2 (by rw [w0, sl_3 (by omega) hk, sl_3 (by omega) k0])
      exact ⟨fun e => absurd e nh, fun e => absurd e.1 (by decide)⟩
    · rw [if_neg c]
      refine ⟨(z14 i hi).1, (z14 i hi).2.1, fun k hk => ?_⟩
      rw [hX, jp_eq hf hn h1 h2 z11 (fun e => c (sm_nIinj (w0.symm.trans e.2) (by omega) (by omega)).symm)]
      exact (z14 i hi).2.2 k hk
  · rw [ag (L := fun a _ => a == 89) rfl rfl rfl (89, 0) i rfl, hX, jp_eq hf hn h1 h2 z11 (fun e => kn 6 (Or.inr (Or.inr rfl)) e.1)]
    exact z15 i hi
end JP
