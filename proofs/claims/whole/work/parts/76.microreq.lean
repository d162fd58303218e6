section MI
variable {R : xo_H} {g t p q r n : Nat} {v : Int32}
theorem nI_n0 {n : Nat} (h : n < 2 ^ 31) : nI n = 0 ↔ n = 0 := by
  constructor
  · intro e; exact sm_nIinj (b := 0) e h (by omega)
  · intro e; rw [e]; rfl
/-- a request is added -/
theorem m_add (z : Inv g t p q R) (hr : r < g) (h1 : R.1 (51, 0) r = 0) (h2 : R.1 (60, 0) r = 0) (hn : R.1 (62, 0) r = nI n) (h8 : n < 8) (a0 : R.1 (58, 0) r = 0 → 0 < v) (a1 : R.1 (58, 0) r = 1 → n = 0 ∧ ∃ k, k < p ∧ R.1 (88, 0) k = 0 ∧ R.1 (85, 0) k = nI r ∧ v = -2 - nI k) (a2 : R.1 (58, 0) r = 2 → n = 0 ∧ v = -10) (a3 : ∀ k w, k < p → R.1 (88, 0) k = 0 → R.1 (85, 0) k = nI r → R.1 (86, 0) k = nI w → w < t → ¬ R.1 (76, 0) w = 16) (a4 : ¬ R.1 (65, 0) r = -1 → R.1 (67, 0) r = 1) (a5 : ¬ has R 2 r) : Inv g t p q (aa_R R r n v) := by
  obtain ⟨z1, z2, z3, z4, z5, z6, z7, z8, z9, z10, z11, z12, z13, z14, z15, z16⟩ := z
  unfold aa_R
  refine ⟨ka_F (agr_to (agr_set rfl) rfl) z1, ka_S (agr_to (agr_set rfl) rfl) z2, ka_B (agr_to (agr_set rfl) rfl) z3, fun i hi => ?_, fun i hi => ?_, fun i hi => ?_, ka_N (agr_to (agr_set rfl) rfl) z7, fun i hi => ?_, ka_T (agr_to (agr_set rfl) rfl) z9, ?_, ka_J1 (agr_to (agr_set rfl) rfl) z11, ka_JP (agr_to (agr_set rfl) rfl) z12, fun i hi hh => ?_, ka_JS (agr_to (agr_set rfl) rfl) z14, ka_JM (agr_to (agr_set rfl) rfl) z15, FR_G (ka_FR (agr_set rfl) z16) (by decide) (Or.inl hr)⟩
  · rw [se_ne (by simp), se_ne (by simp)] at hi
    rw [se_at, se_ne (m := (60, 0)) (by simp), se_ne (m := (60, 0)) (by simp), se_ne (m := (62, 0)) (by simp)]
    have c : ¬ i = r := fun e => hi (by rw [e]; exact h1)
    rw [if_neg c]
    exact z4 i hi
  · rw [se_ne (by simp), se_ne (by simp)] at hi
    rw [se_at, se_ne (m := (62, 0)) (by simp)]
    have c : ¬ i = r := fun e => hi (by rw [e]; exact h2)
    rw [if_neg c]
    exact z5 i hi
  · have e85 : (xo_sE (xo_sE R (61, 0) (8 * r + n) v) (62, 0) r (nI (n + 1))).1 (85, 0) = R.1 (85, 0) := by rw [se_ne (by simp), se_ne (by simp)]
    have e88 : (xo_sE (xo_sE R (61, 0) (8 * r + n) v) (62, 0) r (nI (n + 1))).1 (88, 0) = R.1 (88, 0) := by rw [se_ne (by simp), se_ne (by simp)]
    have e58 : (xo_sE (xo_sE R (61, 0) (8 * r + n) v) (62, 0) r (nI (n + 1))).1 (58, 0) = R.1 (58, 0) := by rw [se_ne (by simp), se_ne (by simp)]
    have e61 : ∀ c, (xo_sE (xo_sE R (61, 0) (8 * r + n) v) (62, 0) r (nI (n + 1))).1 (61, 0) c = if c = 8 * r + n then v else R.1 (61, 0) c := fun c => by rw [se_ne (by simp), se_at]
    have e62 : (xo_sE (xo_sE R (61, 0) (8 * r + n) v) (62, 0) r (nI (n + 1))).1 (62, 0) i = if i = r then nI (n + 1) else R.1 (62, 0) i := by rw [se_at, se_ne (m := (62, 0)) (by simp)]
    rw [e85, e88, e58, e62]
    simp only [e61]
    by_cases c : i = r
    · subst c
      rw [if_pos rfl]
      refine ⟨fun d j m hm h8' hj => ?_, fun d => ?_, fun d => ?_⟩
      · have : n + 1 = m := sm_nIinj hm (by omega) (by omega)
        by_cases e : 8 * i + j = 8 * i + n
        · rw [if_pos e]; exact a0 d
        · rw [if_neg e]; exact (z6 i hi).1 d j n hn (by omega) (by omega)
      · obtain ⟨b1, k, b2, b3, b4, b5⟩ := a1 d
        subst b1
        refine Or.inr ⟨rfl, k, b2, b3, b4, ?_⟩
        rw [if_pos (by omega)]
        exact b5
      · obtain ⟨b1, b2⟩ := a2 d
        subst b1
        refine Or.inr ⟨rfl, ?_⟩
        rw [if_pos (by omega)]
        exact b2
    · rw [if_neg c]
      refine ⟨fun d j m hm h8' hj => ?_, fun d => ?_, fun d => ?_⟩
      · rw [if_neg (by omega)]; exact (z6 i hi).1 d j m hm h8' hj
      · rw [if_neg (by omega)]; exact (z6 i hi).2.1 d
      · rw [if_neg (by omega)]; exact (z6 i hi).2.2 d
  · rw [se_at, se_ne (m := (65, 0)) (by simp), se_ne (m := (67, 0)) (by simp), se_ne (m := (68, 0)) (by simp), se_ne (m := (65, 0)) (by simp), se_ne (m := (67, 0)) (by simp), se_ne (m := (68, 0)) (by simp), se_ne (m := (62, 0)) (by simp)]
    refine ⟨fun b1 b2 => ?_, (z8 i hi).2⟩
    by_cases c : i = r
    · rw [c] at b1 ⊢; exact a4 b1
    · rw [if_neg c] at b2; exact (z8 i hi).1 b1 b2
  · have e76 : (xo_sE (xo_sE R (61, 0) (8 * r + n) v) (62, 0) r (nI (n + 1))).1 (76, 0) = R.1 (76, 0) := by rw [se_ne (by simp), se_ne (by simp)]
    have e85 : (xo_sE (xo_sE R (61, 0) (8 * r + n) v) (62, 0) r (nI (n + 1))).1 (85, 0) = R.1 (85, 0) := by rw [se_ne (by simp), se_ne (by simp)]
    have e86 : (xo_sE (xo_sE R (61, 0) (8 * r + n) v) (62, 0) r (nI (n + 1))).1 (86, 0) = R.1 (86, 0) := by rw [se_ne (by simp), se_ne (by simp)]
    have e88 : (xo_sE (xo_sE R (61, 0) (8 * r + n) v) (62, 0) r (nI (n + 1))).1 (88, 0) = R.1 (88, 0) := by rw [se_ne (by simp), se_ne (by simp)]
    unfold iX
    rw [e76, e85, e86, e88]
    refine ⟨fun k hk b0 i w b1 b2 b3 b4 b5 => ?_, z10.2⟩
    rw [se_at, se_ne (m := (62, 0)) (by simp)] at b5
    by_cases c : i = r
    · subst c; exact a3 k w hk b0 b1 b2 b4
    · rw [if_neg c] at b5; exact z10.1 k hk b0 i w b1 b2 b3 b4 b5
  · rw [ka_has (agr_to (agr_set rfl) rfl)] at hh
    have c : ¬ i = r := fun e => a5 (e ▸ hh)
    obtain ⟨b1, b2, b3⟩ := z13 i hi hh
    rw [se_at, se_ne (m := (65, 0)) (by simp), se_ne (m := (67, 0)) (by simp), se_ne (m := (65, 0)) (by simp), se_ne (m := (67, 0)) (by simp), se_ne (m := (62, 0)) (by simp), if_neg c]
    exact ⟨b1, b2, b3⟩
theorem agr_sh {L : Nat → Nat → Bool} {tg lo n : Nat} (h : ∀ c, L tg c = false) : agr L R (sh_R R tg lo n) := fun m c hm => by
  rw [sh_1, if_neg]
  intro z
  rw [z.1, h] at hm
  cases hm
/-- the first request is taken -/
theorem m_take (z : Inv g t p q R) (hr : r < g) (hn : R.1 (62, 0) r = nI (n + 1)) (h8 : n < 8) : Inv g t p q (at_R R r n) := by
  obtain ⟨z1, z2, z3, z4, z5, z6, z7, z8, z9, z10, z11, z12, z13, z14, z15, z16⟩ := z
  have hn0 : ¬ R.1 (62, 0) r = 0 := by rw [hn, nI_n0 (by omega)]; omega
  have ag : ∀ {L : Nat → Nat → Bool}, (∀ c, L 61 c = false) → L 62 r = false → agr L R (at_R R r n) := fun h h' => by
    unfold at_R
    exact agr_tr (agr_set h') (agr_sh h)
  have e62 : ∀ i, (at_R R r n).1 (62, 0) i = if i = r then nI n else R.1 (62, 0) i := fun i => by
    unfold at_R
    rw [sh_ne (by simp), se_at]
  have eo : ∀ a, ¬ a = 61 → ¬ a = 62 → (at_R R r n).1 (a, 0) = R.1 (a, 0) := fun a h h' => by
    unfold at_R
    rw [sh_ne (by simp [h]), se_ne (by simp [h'])]
  have e61 : ∀ c, (at_R R r n).1 (61, 0) c = if 8 * r ≤ c ∧ c < 8 * r + n then R.1 (61, 0) (c + 1) else R.1 (61, 0) c := fun c => by
    unfold at_R
    rw [sh_1]
    simp only [true_and, se_ne (m := (61, 0)) (n := (62, 0)) (H := R) (by simp)]
  refine ⟨ka_F (ag (fun _ => rfl) rfl) z1, ka_S (ag (fun _ => rfl) rfl) z2, ka_B (ag (fun _ => rfl) rfl) z3, fun i hi => ?_, fun i hi => ?_, fun i hi => ?_, ka_N (ag (fun _ => rfl) rfl) z7, fun i hi => ?_, ka_T (ag (fun _ => rfl) rfl) z9, ?_, ka_J1 (ag (fun _ => rfl) rfl) z11, ka_JP (ag (fun _ => rfl) rfl) z12, fun i hi hh => ?_, ka_JS (ag (fun _ => rfl) rfl) z14, ka_JM (ag (fun _ => rfl) rfl) z15, ?_⟩
  · rw [eo 51 (by decide) (by decide)] at hi
    rw [eo 60 (by decide) (by decide), e62]
    refine ⟨(z4 i hi).1, ?_⟩
    split
    next e => rw [e] at hi; exact absurd (z4 r hi).2 hn0
    next => exact (z4 i hi).2
  · rw [eo 60 (by decide) (by decide)] at hi
    rw [e62]
    split
    next e => rw [e] at hi; exact absurd (z5 r hi) hn0
    next => exact z5 i hi
  · rw [eo 58 (by decide) (by decide), eo 85 (by decide) (by decide), eo 88 (by decide) (by decide), e62]
    simp only [e61]
    by_cases c : i = r
    · subst c
      rw [if_pos rfl]
      refine ⟨fun d j m hm h8' hj => ?_, fun d => ?_, fun d => ?_⟩
      · have : n = m := sm_nIinj hm (by omega) (by omega)
        rw [if_pos (by omega), show 8 * i + j + 1 = 8 * i + (j + 1) by omega]
        exact (z6 i hi).1 d (j + 1) (n + 1) hn (by omega) (by omega)
      · rcases (z6 i hi).2.1 d with e | ⟨e, -⟩
        · exact absurd e hn0
        · have : n + 1 = 1 := sm_nIinj (hn.symm.trans e) (by omega) (by omega)
          exact Or.inl ((nI_n0 (by omega)).mpr (by omega))
      · rcases (z6 i hi).2.2 d with e | ⟨e, -⟩
        · exact absurd e hn0
        · have : n + 1 = 1 := sm_nIinj (hn.symm.trans e) (by omega) (by omega)
          exact Or.inl ((nI_n0 (by omega)).mpr (by omega))
    · rw [if_neg c]
      refine ⟨fun d j m hm h8' hj => ?_, fun d => ?_, fun d => ?_⟩
      · rw [if_neg (by omega)]; exact (z6 i hi).1 d j m hm h8' hj
      · rw [if_neg (by omega)]; exact (z6 i hi).2.1 d
      · rw [if_neg (by omega)]; exact (z6 i hi).2.2 d
  · rw [eo 65 (by decide) (by decide), eo 67 (by decide) (by decide), eo 68 (by decide) (by decide), e62]
    refine ⟨fun b1 b2 => ?_, (z8 i hi).2⟩
    by_cases c : i = r
    · rw [c] at b1 ⊢; exact (z8 r hr).1 b1 hn0
    · rw [if_neg c] at b2; exact (z8 i hi).1 b1 b2
  · unfold iX
    rw [eo 76 (by decide) (by decide), eo 85 (by decide) (by decide), eo 86 (by decide) (by decide), eo 88 (by decide) (by decide)]
    refine ⟨fun k hk b0 i w b1 b2 b3 b4 b5 => ?_, z10.2⟩
    rw [e62] at b5
    by_cases c : i = r
    · subst c; exact z10.1 k hk b0 i w b1 b2 b3 b4 hn0
    · rw [if_neg c] at b5; exact z10.1 k hk b0 i w b1 b2 b3 b4 b5
  · rw [ka_has (ag (fun _ => rfl) rfl)] at hh
    obtain ⟨b1, b2, b3⟩ := z13 i hi hh
    rw [eo 65 (by decide) (by decide), eo 67 (by decide) (by decide), e62]
    have c : ¬ i = r := fun e => hn0 (e ▸ b3)
    rw [if_neg c]
    exact ⟨b1, b2, b3⟩
  · unfold at_R
    exact ka_FR (agr_sh fun _ => rfl) (FR_G z16 (by decide) (Or.inl hr))
end MI
