def SI (b g t p q : Nat) (C R : xo_H) : Prop := sm b g t p C R ∧ Inv g t p q R
theorem SI_more {b b' g t p q : Nat} {C R : xo_H} (h : SI b g t p q C R) (hb : b ≤ b') : SI b' g t p q C R := ⟨sm_more h.1 hb, h.2⟩
theorem sl_1 {r : Nat} (h : r < 6) : slot 1 (nI r) = r := by unfold slot; rw [if_pos rfl, nI_clamp (by omega)]
theorem sl_2 {r : Nat} (h : r < 6) : slot 2 (nI r) = 6 + r := by unfold slot; rw [if_neg (by decide), if_pos rfl, nI_clamp (by omega)]
theorem sl_6 {r : Nat} (h : r < 6) : slot 6 (nI r) = 14 + r := by unfold slot; rw [if_neg (by decide), if_neg (by decide), if_pos rfl, nI_clamp (by omega)]
theorem sl_3 {r : Nat} {k : Int32} (h : r < 6) (e : k = 3 ∨ k = 4 ∨ k = 5) : slot k (nI r) = 12 + r := by
  unfold slot
  rw [if_neg (by rcases e with e | e | e <;> rw [e] <;> decide), if_neg (by rcases e with e | e | e <;> rw [e] <;> decide), if_neg (by rcases e with e | e | e <;> rw [e] <;> decide), nI_clamp (by omega)]
section JA
variable {b g t p q : Nat} {C R : xo_H}
theorem sf_1 {r : Nat} (hg : g ≤ 6) (ht : t ≤ 2) (hp : p ≤ 2) (z : J1 g t p R) (hr : r < g) (h : ¬ has R 1 r) : ∀ i, i < jN R → ¬ slot (jK R i) (jW R i) = slot 1 (nI r) := fun i hi e => by
  rw [sl_1 (by omega)] at e
  rcases sl_k hg ht hp (z.1 i hi) with ⟨a, b, c⟩ | ⟨a, b, c, d⟩ | ⟨a, b, c⟩ | ⟨a, b, c, d⟩
  · exact h ⟨i, hi, a, by rw [c, e]⟩
  · omega
  · omega
  · omega
theorem sf_2 {r : Nat} (hg : g ≤ 6) (ht : t ≤ 2) (hp : p ≤ 2) (z : J1 g t p R) (hr : r < g) (h : ¬ has R 2 r) : ∀ i, i < jN R → ¬ slot (jK R i) (jW R i) = slot 2 (nI r) := fun i hi e => by
  rw [sl_2 (by omega)] at e
  rcases sl_k hg ht hp (z.1 i hi) with ⟨a, b, c⟩ | ⟨a, b, c, d⟩ | ⟨a, b, c⟩ | ⟨a, b, c, d⟩
  · omega
  · exact h ⟨i, hi, a, by rw [d, e]; congr 1; omega⟩
  · omega
  · omega
theorem sf_6 {r : Nat} (hg : g ≤ 6) (ht : t ≤ 2) (hp : p ≤ 2) (z : J1 g t p R) (hr : r < p) (h : ¬ has R 6 r) : ∀ i, i < jN R → ¬ slot (jK R i) (jW R i) = slot 6 (nI r) := fun i hi e => by
  rw [sl_6 (by omega)] at e
  rcases sl_k hg ht hp (z.1 i hi) with ⟨a, b, c⟩ | ⟨a, b, c, d⟩ | ⟨a, b, c⟩ | ⟨a, b, c, d⟩
  · omega
  · omega
  · exact h ⟨i, hi, a, by rw [c, e]; congr 1; omega⟩
  · omega
theorem sf_3 {r : Nat} {k : Int32} (hk : k = 3 ∨ k = 4 ∨ k = 5) (hg : g ≤ 6) (ht : t ≤ 2) (hp : p ≤ 2) (z : J1 g t p R) (hr : r < t) (h : ∀ k, (k = 3 ∨ k = 4 ∨ k = 5) → ¬ has R k r) : ∀ i, i < jN R → ¬ slot (jK R i) (jW R i) = slot k (nI r) := fun i hi e => by
  rw [sl_3 (by omega) hk] at e
  rcases sl_k hg ht hp (z.1 i hi) with ⟨a, b, c⟩ | ⟨a, b, c, d⟩ | ⟨a, b, c⟩ | ⟨a, b, c, d⟩
  · omega
  · omega
  · omega
  · exact h (jK R i) a ⟨i, hi, rfl, by rw [d, e]; congr 1; omega⟩
theorem ja_gen {k x : Int32} {w : Nat} (h : sm b g t p C R) (z : J1 g t p R) (hv : jv g t p k (nI w)) (hs : ∀ i, i < jN R → ¬ slot (jK R i) (jW R i) = slot k (nI w)) : ∃ f n C', f < 64 ∧ n < 16 ∧ R.1 (50, 0) 42 = nI f ∧ R.1 (50, 0) 43 = nI n ∧ jN R = n ∧ fc_J_add (5, 0) k (nI w) x C = some C' ∧ fc_M_job (50, 0) k (nI w) x R = some (jb_R R f n k (nI w) x) ∧ sm b g t p C' (jb_R R f n k (nI w) x) := by
  have hle := sm_le h
  obtain ⟨n, f, hd, a1, a2, a3, a4, a5, -⟩ := h.2.2.2.2.2.1
  have hj : jN R = n := by unfold jN; rw [a4, nI_clamp (by omega)]
  rw [hj] at hs
  have h16 := jb_room hle.1 hle.2.1 hle.2.2 z hj hv hs
  obtain ⟨f', C', b1, b2, b3, b4, b5⟩ := jb_add h a4 h16 k (nI w) x
  exact ⟨f', n, C', b1, h16, b2, a4, hj, b3, b4, b5⟩
/-- a PULLED job, its mark set before -/
theorem ja_1 {r : Nat} {x : Int32} (h : SI b g t p q C R) (hr : r < g) (h64 : ¬ R.1 (64, 0) r = 1) (h56 : R.1 (56, 0) r = 1) : ∃ f n C', f < 64 ∧ n < 16 ∧ fc_J_add (5, 0) 1 (nI r) x C = some C' ∧ fc_M_job (50, 0) 1 (nI r) x R = some (jb_R R f n 1 (nI r) x) ∧ fc_M_job (50, 0) 1 (nI r) x (xo_sE R (64, 0) r 1) = some (jb_R (xo_sE R (64, 0) r 1) f n 1 (nI r) x) ∧ xo_sE (jb_R R f n 1 (nI r) x) (64, 0) r 1 = jb_R (xo_sE R (64, 0) r 1) f n 1 (nI r) x ∧ SI b g t p q C' (jb_R (xo_sE R (64, 0) r 1) f n 1 (nI r) x) := by
  obtain ⟨h, z⟩ := h
  have hle := sm_le h
  have z0 := z
  obtain ⟨z1, z2, z3, z4, z5, z6, z7, z8, z9, z10, z11, z12, z13, z14, z15, z16⟩ := z
  have nh : ¬ has R 1 r := fun e => h64 ((z12 r hr).1.mp e)
  have hv : jv g t p 1 (nI r) := Or.inl ⟨rfl, r, hr, rfl⟩
  have hs := sf_1 hle.1 hle.2.1 hle.2.2 z11 hr nh
  obtain ⟨f, n, C', a1, a2, a3, a4, a5, a6, a7, a8⟩ := ja_gen (x := x) h z11 hv hs
  have eq : xo_sE (jb_R R f n 1 (nI r) x) (64, 0) r 1 = jb_R (xo_sE R (64, 0) r 1) f n 1 (nI r) x := by
    unfold jb_R
    rw [se_com (m := (64, 0)) (by simp), se_com (m := (64, 0)) (by simp), se_com (m := (64, 0)) (by simp), se_com (m := (64, 0)) (by simp)]
  have s1 : sm b g t p C' (jb_R (xo_sE R (64, 0) r 1) f n 1 (nI r) x) := by
    rw [← eq]
    exact sm_own a8 rfl
  refine ⟨f, n, C', a1, a2, a6, a7, jb_job (by exact (sm_MP h : R.2.1 = MP)) (by rw [se_ne (by simp)]; exact a3) (by rw [se_ne (by simp)]; exact a4) a1 (by omega), eq, s1, ?_⟩
  have hX : ∀ k w, has (jb_R (xo_sE R (64, 0) r 1) f n 1 (nI r) x) k w ↔ has R k w ∨ ((1 : Int32) = k ∧ nI r = nI w) := fun k w => by
    rw [jb_has (by rw [se_ne (by simp)]; exact a3) (by rw [se_ne (by simp)]; exact a4) a1 (by omega), ka_has (agr_set rfl)]
  rw [a5] at hs
  have ag : ∀ {L : Nat → Nat → Bool}, L 64 r = false → (∀ c, (L 90 c || L 91 c || L 92 c || L 50 43) = false) → agr L R (jb_R (xo_sE R (64, 0) r 1) f n 1 (nI r) x) := fun e e' => agr_tr (agr_set e) (jb_agr e')
  have e64 : ∀ i, (jb_R (xo_sE R (64, 0) r 1) f n 1 (nI r) x).1 (64, 0) i = if i = r then 1 else R.1 (64, 0) i := fun i => by
    rw [← eq, se_at]
    split
    · rfl
    · exact (jb_agr (L := fun a _ => a == 64) fun _ => rfl) (64, 0) i rfl
  refine ⟨ka_F (ag rfl fun _ => rfl) z1, ka_S (ag rfl fun _ => rfl) z2, ka_B (ag rfl fun _ => rfl) z3, ka_E (ag rfl fun _ => rfl) z4, ka_Q (ag rfl fun _ => rfl) z5, ka_H (ag rfl fun _ => rfl) z6, ka_N (ag rfl fun _ => rfl) z7, ka_P (ag rfl fun _ => rfl) z8, ka_T (ag rfl fun _ => rfl) z9, ka_X (ag rfl fun _ => rfl) z10, ?_, fun i hi => ?_, fun i hi hh => ?_, fun i hi => ?_, fun i hi => ?_, ?_⟩
  · have k : J1 g t p (xo_sE R (64, 0) r 1) := ka_J1 (agr_set rfl) z11
    refine jb_J1 k (by rw [se_ne (by simp)]; exact a3) (by rw [se_ne (by simp)]; exact a4) a1 (by omega) hv fun i hi => ?_
    obtain ⟨-, c2, c3⟩ := ka_j (agr_set (L := lJ) (R := R) (n := (64, 0)) (f := r) (v := 1) rfl)
    rw [c2, c3]
    exact hs i hi
  · rw [hX, e64]
    have e56 : (jb_R (xo_sE R (64, 0) r 1) f n 1 (nI r) x).1 (56, 0) i = R.1 (56, 0) i := (ag (L := fun a _ => a == 56) rfl fun _ => rfl) (56, 0) i rfl
    rw [e56]
    by_cases c : i = r
    · subst c
      rw [if_pos rfl]
      exact ⟨⟨fun _ => rfl, fun _ => Or.inr ⟨rfl, rfl⟩⟩, Or.inr rfl, fun _ => h56⟩
    · rw [if_neg c]
      refine ⟨⟨fun e => ?_, fun e => Or.inl ((z12 i hi).1.mpr e)⟩, (z12 i hi).2⟩
      rcases e with e | e
      · exact (z12 i hi).1.mp e
      · exact absurd (sm_nIinj e.2 (by omega) (by omega)).symm c
  · have hh2 : has R 2 i := by
      rcases (hX 2 i).mp hh with e | e
      · exact e
      · exact absurd e.1 (by decide)
    rw [ag (L := fun a _ => a == 65) rfl (fun _ => rfl) (65, 0) i rfl, ag (L := fun a _ => a == 67) rfl (fun _ => rfl) (67, 0) i rfl, ag (L := fun a _ => a == 62) rfl (fun _ => rfl) (62, 0) i rfl]
    exact z13 i hi hh2
  · rw [ag (L := fun a _ => a == 84) rfl (fun _ => rfl) (84, 0) i rfl, ag (L := fun a _ => a == 79) rfl (fun _ => rfl) (79, 0) i rfl]
    refine ⟨(z14 i hi).1, (z14 i hi).2.1, fun k hk => ?_⟩
    rw [hX, ← (z14 i hi).2.2 k hk]
    refine ⟨fun e => e.elim id fun e => ?_, Or.inl⟩
    rcases hk with d | d | d <;> rw [d] at e <;> exact absurd e.1 (by decide)
  · rw [ag (L := fun a _ => a == 89) rfl (fun _ => rfl) (89, 0) i rfl]
    refine ⟨(z15 i hi).1, ?_⟩
    rw [hX, ← (z15 i hi).2]
    exact ⟨fun e => e.elim id fun e => absurd e.1 (by decide), Or.inl⟩
  · exact ka_FR (jb_agr fun _ => rfl) (FR_G z16 (by decide) (Or.inl hr))
end JA
