section JA
variable {b g t p q : Nat} {C R : xo_H}
/-- a PARTED job -/
theorem ja_2 {r : Nat} {x : Int32} (h : SI b g t p q C R) (hr : r < g) (nh : ¬ has R 2 r) (h65 : ¬ R.1 (65, 0) r = -1) (h67 : R.1 (67, 0) r = 1) (h62 : R.1 (62, 0) r = 0) : ∃ f n C', f < 64 ∧ n < 16 ∧ fc_J_add (5, 0) 2 (nI r) x C = some C' ∧ fc_M_job (50, 0) 2 (nI r) x R = some (jb_R R f n 2 (nI r) x) ∧ SI b g t p q C' (jb_R R f n 2 (nI r) x) := by
  obtain ⟨h, z⟩ := h
  have hle := sm_le h
  have z0 := z
  obtain ⟨z1, z2, z3, z4, z5, z6, z7, z8, z9, z10, z11, z12, z13, z14, z15, z16⟩ := z
  have hv : jv g t p 2 (nI r) := Or.inr (Or.inl ⟨rfl, r, hr, rfl⟩)
  have hs := sf_2 hle.1 hle.2.1 hle.2.2 z11 hr nh
  obtain ⟨f, n, C', a1, a2, a3, a4, a5, a6, a7, a8⟩ := ja_gen (x := x) h z11 hv hs
  rw [a5] at hs
  have hX : ∀ k w, has (jb_R R f n 2 (nI r) x) k w ↔ has R k w ∨ ((2 : Int32) = k ∧ nI r = nI w) := fun k w => jb_has a3 a4 a1 (by omega) k w
  have ag : ∀ {L : Nat → Nat → Bool}, (∀ c, (L 90 c || L 91 c || L 92 c || L 50 43) = false) → agr L R (jb_R R f n 2 (nI r) x) := fun e => jb_agr e
  refine ⟨f, n, C', a1, a2, a6, a7, a8, jb_Inv hle.1 hle.2.1 hle.2.2 z0 a3 a4 a1 (by omega) hv hs (fun i hi => ?_) (fun i hi hh => ?_) (fun i hi => ?_) (fun i hi => ?_)⟩
  · rw [hX, ag (L := fun a _ => a == 64) (fun _ => rfl) (64, 0) i rfl, ag (L := fun a _ => a == 56) (fun _ => rfl) (56, 0) i rfl]
    refine ⟨?_, (z12 i hi).2⟩
    rw [← (z12 i hi).1]
    exact ⟨fun e => e.elim id fun e => absurd e.1 (by decide), Or.inl⟩
  · rw [ag (L := fun a _ => a == 65) (fun _ => rfl) (65, 0) i rfl, ag (L := fun a _ => a == 67) (fun _ => rfl) (67, 0) i rfl, ag (L := fun a _ => a == 62) (fun _ => rfl) (62, 0) i rfl]
    rcases (hX 2 i).mp hh with e | e
    · exact z13 i hi e
    · have : r = i := sm_nIinj e.2 (by omega) (by omega)
      subst this
      exact ⟨h65, h67, h62⟩
  · rw [ag (L := fun a _ => a == 84) (fun _ => rfl) (84, 0) i rfl, ag (L := fun a _ => a == 79) (fun _ => rfl) (79, 0) i rfl]
    refine ⟨(z14 i hi).1, (z14 i hi).2.1, fun k hk => ?_⟩
    rw [hX, ← (z14 i hi).2.2 k hk]
    refine ⟨fun e => e.elim id fun e => ?_, Or.inl⟩
    rcases hk with d | d | d <;> rw [d] at e <;> exact absurd e.1 (by decide)
  · rw [ag (L := fun a _ => a == 89) (fun _ => rfl) (89, 0) i rfl]
    refine ⟨(z15 i hi).1, ?_⟩
    rw [hX, ← (z15 i hi).2]
    exact ⟨fun e => e.elim id fun e => absurd e.1 (by decide), Or.inl⟩
/-- a PUMP job, its mark set before -/
theorem ja_6 {r : Nat} {x : Int32} (h : SI b g t p q C R) (hr : r < p) (h89 : ¬ R.1 (89, 0) r = 1) : ∃ f n C', f < 64 ∧ n < 16 ∧ fc_J_add (5, 0) 6 (nI r) x C = some C' ∧ fc_M_job (50, 0) 6 (nI r) x (xo_sE R (89, 0) r 1) = some (jb_R (xo_sE R (89, 0) r 1) f n 6 (nI r) x) ∧ SI b g t p q C' (jb_R (xo_sE R (89, 0) r 1) f n 6 (nI r) x) := by
  obtain ⟨h, z⟩ := h
  have hle := sm_le h
  obtain ⟨z1, z2, z3, z4, z5, z6, z7, z8, z9, z10, z11, z12, z13, z14, z15, z16⟩ := z
  have nh : ¬ has R 6 r := fun e => h89 ((z15 r hr).2.mp e)
  have hv : jv g t p 6 (nI r) := Or.inr (Or.inr (Or.inl ⟨rfl, r, hr, rfl⟩))
  have hs := sf_6 hle.1 hle.2.1 hle.2.2 z11 hr nh
  have h' : sm b g t p C (xo_sE R (89, 0) r 1) := sm_own h rfl
  have ea : agr lJ R (xo_sE R (89, 0) r 1) := agr_set rfl
  obtain ⟨c1, c2, c3⟩ := ka_j ea
  have z11' : J1 g t p (xo_sE R (89, 0) r 1) := ka_J1 ea z11
  have hs' : ∀ i, i < jN (xo_sE R (89, 0) r 1) → ¬ slot (jK (xo_sE R (89, 0) r 1) i) (jW (xo_sE R (89, 0) r 1) i) = slot 6 (nI r) := fun i hi => by
    rw [c2, c3]; rw [c1] at hi; exact hs i hi
  obtain ⟨f, n, C', a1, a2, a3, a4, a5, a6, a7, a8⟩ := ja_gen (x := x) h' z11' hv hs'
  rw [a5] at hs'
  have hX : ∀ k w, has (jb_R (xo_sE R (89, 0) r 1) f n 6 (nI r) x) k w ↔ has R k w ∨ ((6 : Int32) = k ∧ nI r = nI w) := fun k w => by
    rw [jb_has a3 a4 a1 (by omega), ka_has ea]
  have ag : ∀ {L : Nat → Nat → Bool}, L 89 r = false → (∀ c, (L 90 c || L 91 c || L 92 c || L 50 43) = false) → agr L R (jb_R (xo_sE R (89, 0) r 1) f n 6 (nI r) x) := fun e e' => agr_tr (agr_set e) (jb_agr e')
  have e89 : ∀ i, (jb_R (xo_sE R (89, 0) r 1) f n 6 (nI r) x).1 (89, 0) i = if i = r then 1 else R.1 (89, 0) i := fun i => by
    rw [jb_agr (L := fun a _ => a == 89) (fun _ => rfl) (89, 0) i rfl, se_at]
  refine ⟨f, n, C', a1, a2, a6, a7, a8, ka_F (ag rfl fun _ => rfl) z1, ka_S (ag rfl fun _ => rfl) z2, ka_B (ag rfl fun _ => rfl) z3, ka_E (ag rfl fun _ => rfl) z4, ka_Q (ag rfl fun _ => rfl) z5, ka_H (ag rfl fun _ => rfl) z6, ka_N (ag rfl fun _ => rfl) z7, ka_P (ag rfl fun _ => rfl) z8, ka_T (ag rfl fun _ => rfl) z9, ka_X (ag rfl fun _ => rfl) z10, jb_J1 z11' a3 a4 a1 (by omega) hv hs', fun i hi => ?_, fun i hi hh => ?_, fun i hi => ?_, fun i hi => ?_, ka_FR (jb_agr fun _ => rfl) (FR_P z16 (by decide) (Or.inl hr))⟩
  · rw [hX, ag (L := fun a _ => a == 64) rfl (fun _ => rfl) (64, 0) i rfl, ag (L := fun a _ => a == 56) rfl (fun _ => rfl) (56, 0) i rfl]
    refine ⟨?_, (z12 i hi).2⟩
    rw [← (z12 i hi).1]
    exact ⟨fun e => e.elim id fun e => absurd e.1 (by decide), Or.inl⟩
  · rw [ag (L := fun a _ => a == 65) rfl (fun _ => rfl) (65, 0) i rfl, ag (L := fun a _ => a == 67) rfl (fun _ => rfl) (67, 0) i rfl, ag (L := fun a _ => a == 62) rfl (fun _ => rfl) (62, 0) i rfl]
    rcases (hX 2 i).mp hh with e | e
    · exact z13 i hi e
    · exact absurd e.1 (by decide)
  · rw [ag (L := fun a _ => a == 84) rfl (fun _ => rfl) (84, 0) i rfl, ag (L := fun a _ => a == 79) rfl (fun _ => rfl) (79, 0) i rfl]
    refine ⟨(z14 i hi).1, (z14 i hi).2.1, fun k hk => ?_⟩
    rw [hX, ← (z14 i hi).2.2 k hk]
    refine ⟨fun e => e.elim id fun e => ?_, Or.inl⟩
    rcases hk with d | d | d <;> rw [d] at e <;> exact absurd e.1 (by decide)
  · rw [hX, e89]
    by_cases c : i = r
    · subst c
      rw [if_pos rfl]
      exact ⟨Or.inr rfl, fun _ => rfl, fun _ => Or.inr ⟨rfl, rfl⟩⟩
    · rw [if_neg c]
      refine ⟨(z15 i hi).1, fun e => ?_, fun e => Or.inl ((z15 i hi).2.mpr e)⟩
      rcases e with e | e
      · exact (z15 i hi).2.mp e
      · exact absurd (sm_nIinj e.2 (by omega) (by omega)).symm c
/-- a job that settles what a taker does, its mark set before -/
theorem ja_3 {r : Nat} {x : Int32} (h : SI b g t p q C R) (hr : r < t) (h84 : ¬ R.1 (84, 0) r = 1) (hk : R.1 (79, 0) r = 3 ∨ R.1 (79, 0) r = 4 ∨ R.1 (79, 0) r = 5) : ∃ f n C', f < 64 ∧ n < 16 ∧ fc_J_add (5, 0) (R.1 (79, 0) r) (nI r) x C = some C' ∧ fc_M_job (50, 0) (R.1 (79, 0) r) (nI r) x (xo_sE R (84, 0) r 1) = some (jb_R (xo_sE R (84, 0) r 1) f n (R.1 (79, 0) r) (nI r) x) ∧ SI b g t p q C' (jb_R (xo_sE R (84, 0) r 1) f n (R.1 (79, 0) r) (nI r) x) := by
  obtain ⟨h, z⟩ := h
  have hle := sm_le h
  obtain ⟨z1, z2, z3, z4, z5, z6, z7, z8, z9, z10, z11, z12, z13, z14, z15, z16⟩ := z
  generalize hd : R.1 (79, 0) r = d at hk ⊢
  have nh : ∀ k, (k = 3 ∨ k = 4 ∨ k = 5) → ¬ has R k r := fun k hk e => h84 (((z14 r hr).2.2 k hk).mp e).1
  have hv : jv g t p d (nI r) := Or.inr (Or.inr (Or.inr ⟨hk, r, hr, rfl⟩))
  have hs := sf_3 hk hle.1 hle.2.1 hle.2.2 z11 hr nh
  have h' : sm b g t p C (xo_sE R (84, 0) r 1) := sm_own h rfl
  have ea : agr lJ R (xo_sE R (84, 0) r 1) := agr_set rfl
  obtain ⟨c1, c2, c3⟩ := ka_j ea
  have z11' : J1 g t p (xo_sE R (84, 0) r 1) := ka_J1 ea z11
  have hs' : ∀ i, i < jN (xo_sE R (84, 0) r 1) → ¬ slot (jK (xo_sE R (84, 0) r 1) i) (jW (xo_sE R (84, 0) r 1) i) = slot d (nI r) := fun i hi => by
    rw [c2, c3]; rw [c1] at hi; exact hs i hi
  obtain ⟨f, n, C', a1, a2, a3, a4, a5, a6, a7, a8⟩ := ja_gen (x := x) h' z11' hv hs'
  rw [a5] at hs'
  have hX : ∀ k w, has (jb_R (xo_sE R (84, 0) r 1) f n d (nI r) x) k w ↔ has R k w ∨ (d = k ∧ nI r = nI w) := fun k w => by
    rw [jb_has a3 a4 a1 (by omega), ka_has ea]
  have ag : ∀ {L : Nat → Nat → Bool}, L 84 r = false → (∀ c, (L 90 c || L 91 c || L 92 c || L 50 43) = false) → agr L R (jb_R (xo_sE R (84, 0) r 1) f n d (nI r) x) := fun e e' => agr_tr (agr_set e) (jb_agr e')
  have e84 : ∀ i, (jb_R (xo_sE R (84, 0) r 1) f n d (nI r) x).1 (84, 0) i = if i = r then 1 else R.1 (84, 0) i := fun i => by
    rw [jb_agr (L := fun a _ => a == 84) (fun _ => rfl) (84, 0) i rfl, se_at]
  have dn : ∀ k : Int32, (k = 1 ∨ k = 2 ∨ k = 6) → ¬ d = k := by
    intro k e1 e2
    rcases hk with e | e | e <;> rcases e1 with e1 | e1 | e1 <;> rw [e, e1] at e2 <;> exact absurd e2 (by decide)
  refine ⟨f, n, C', a1, a2, a6, a7, a8, ka_F (ag rfl fun _ => rfl) z1, ka_S (ag rfl fun _ => rfl) z2, ka_B (ag rfl fun _ => rfl) z3, ka_E (ag rfl fun _ => rfl) z4, ka_Q (ag rfl fun _ => rfl) z5, ka_H (ag rfl fun _ => rfl) z6, ka_N (ag rfl fun _ => rfl) z7, ka_P (ag rfl fun _ => rfl) z8, ka_T (ag rfl fun _ => rfl) z9, ka_X (ag rfl fun _ => rfl) z10, jb_J1 z11' a3 a4 a1 (by omega) hv hs', fun i hi => ?_, fun i hi hh => ?_, fun i hi => ?_, fun i hi => ?_, ka_FR (jb_agr fun _ => rfl) (FR_T z16 (by decide) (Or.inl hr))⟩
  · rw [hX, ag (L := fun a _ => a == 64) rfl (fun _ => rfl) (64, 0) i rfl, ag (L := fun a _ => a == 56) rfl (fun _ => rfl) (56, 0) i rfl]
    refine ⟨?_, (z12 i hi).2⟩
    rw [← (z12 i hi).1]
    exact ⟨fun e => e.elim id fun e => absurd e.1 (dn 1 (Or.inl rfl)), Or.inl⟩
  · rw [ag (L := fun a _ => a == 65) rfl (fun _ => rfl) (65, 0) i rfl, ag (L := fun a _ => a == 67) rfl (fun _ => rfl) (67, 0) i rfl, ag (L := fun a _ => a == 62) rfl (fun _ => rfl) (62, 0) i rfl]
    rcases (hX 2 i).mp hh with e | e
    · exact z13 i hi e
    · exact absurd e.1 (dn 2 (Or.inr (Or.inl rfl)))
  · rw [e84, ag (L := fun a _ => a == 79) rfl (fun _ => rfl) (79, 0) i rfl]
    by_cases c : i = r
    · subst c
      rw [if_pos rfl]
      refine ⟨Or.inr rfl, fun _ => ?_, fun k hk' => ?_⟩
      · rw [hd]; rcases hk with e | e | e <;> rw [e] <;> decide
      · rw [hX, hd]
        refine ⟨fun e => ⟨rfl, e.elim (fun e => absurd e (nh k hk')) (fun e => e.1)⟩, fun e => Or.inr ⟨e.2, rfl⟩⟩
    · rw [if_neg c]
      refine ⟨(z14 i hi).1, (z14 i hi).2.1, fun k hk' => ?_⟩
      rw [hX, ← (z14 i hi).2.2 k hk']
      refine ⟨fun e => e.elim id fun e => absurd (sm_nIinj e.2 (by omega) (by omega)).symm c, Or.inl⟩
  · rw [ag (L := fun a _ => a == 89) rfl (fun _ => rfl) (89, 0) i rfl]
    refine ⟨(z15 i hi).1, ?_⟩
    rw [hX, ← (z15 i hi).2]
    exact ⟨fun e => e.elim id fun e => absurd e.1 (dn 6 (Or.inr (Or.inr rfl))), Or.inl⟩
end JA
