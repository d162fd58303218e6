section TS
variable {w : Nat} {R : xo_H} {md : Prop}
theorem T9_0 (h : sm_st (R.1 (70, 0) w)) (h0 : R.1 (79, 0) w = 0) : T9 w R := by
  unfold T9
  rw [h0]
  exact ⟨h, Or.inl rfl, fun z => absurd z (by decide), fun z => absurd z (by decide)⟩
theorem ua_TA {n : Nat} {v u : Int32} : TA w R (ua_R R w n v u) := by
  unfold ua_R
  exact TA_to (TA_tr (TA_load (Or.inl rfl)) (TA_load (Or.inr rfl))) (by decide)
theorem TS_w2 {v u : Int32} {n : Nat} (hmd : ¬ md) (h9 : T9 w R) (hn : R.1 (76, 0) w = nI n) (h16 : n < 16) (h84 : R.1 (79, 0) w = 0 → ¬ R.1 (84, 0) w = 1) : TS md w R (rW2 R w v u) := by
  unfold rW2
  split
  · exact TS_hE h9
  · split
    · exact TS_hE h9
    · have e70 : (ua_R R w (R.1 (76, 0) w).toNatClampNeg v u).1 (70, 0) = R.1 (70, 0) := ua_ne (by simp) (by simp) (by simp)
      have e79 : (ua_R R w (R.1 (76, 0) w).toNatClampNeg v u).1 (79, 0) = R.1 (79, 0) := ua_ne (by simp) (by simp) (by simp)
      have e84 : (ua_R R w (R.1 (76, 0) w).toNatClampNeg v u).1 (84, 0) = R.1 (84, 0) := ua_ne (by simp) (by simp) (by simp)
      have e76 : (ua_R R w (R.1 (76, 0) w).toNatClampNeg v u).1 (76, 0) w = nI (n + 1) := by
        rw [hn, nI_clamp (by omega)]
        unfold ua_R
        exact xo_sE_eq _ _ _ _
      have s1 : TS md w R (ua_R R w (R.1 (76, 0) w).toNatClampNeg v u) := by
        refine ⟨ua_TA, ?_, fun m => absurd m hmd, Or.inl (by rw [e79])⟩
        unfold T9
        rw [e70, e76, e79]
        exact ⟨h9.1, h9.2.1, fun _ => by rw [nI_n0 (by omega)]; omega, h9.2.2.2⟩
      refine TS_tr s1 (TS_start s1.2.1 ?_)
      rw [e79, e84]
      exact h84
theorem TS_write {v : Int32} {n : Nat} (hmd : ¬ md) (h9 : T9 w R) (hn : R.1 (76, 0) w = nI n) (h16 : n < 16) (h84 : R.1 (79, 0) w = 0 → ¬ R.1 (84, 0) w = 1) : TS md w R (rWrite R w v) := by
  unfold rWrite
  have s1 : TS md w R (xo_sE R (77, 0) w (R.1 (77, 0) w + 1)) := TS_set (by decide) rfl h9
  refine TS_tr s1 (TS_w2 hmd s1.2.1 (by rw [se_ne (by simp)]; exact hn) h16 ?_)
  rw [se_ne (by simp), se_ne (by simp)]
  exact h84
theorem ut_TA {n : Nat} : TA w R (ut_R R w n) := by
  unfold ut_R
  exact TA_tr (TA_tr (TA_set (by decide)) (TA_sh (Or.inl rfl))) (TA_sh (Or.inr rfl))
theorem TS_after {x u : Int32} (h9 : T9 w R) (h0 : R.1 (79, 0) w = 0) (h84 : ¬ R.1 (84, 0) w = 1) : TS md w R (rAfter R w x u) := by
  unfold rAfter
  split
  · refine TS_tr (TS_hE h9) (TS_goes (TS_hE (md := md) h9).2.1 fun _ => ?_)
    rw [hE_ne rfl]; exact h84
  · refine TS_tr (TS_hE h9) (TS_fob (TS_hE (md := md) h9).2.1 ?_ ?_)
    · rw [hE_ne rfl]; exact h0
    · rw [hE_ne rfl]; exact h84
theorem TS_written {x : Int32} {n : Nat} (h9 : T9 w R) (hn : R.1 (76, 0) w = nI (n + 1)) (h16 : n < 16) (h84 : ¬ R.1 (84, 0) w = 1) : TS md w R (rWritten R w x) := by
  unfold rWritten
  rw [hn, nI_clamp (by omega), Nat.add_sub_cancel]
  have e : ∀ a, ¬ a = 74 → ¬ a = 75 → ¬ a = 76 → ¬ a = 79 → (ut_R (xo_sE R (79, 0) w 0) w n).1 (a, 0) = R.1 (a, 0) := fun a h1 h2 h3 h4 => by
    unfold ut_R
    rw [sh_ne (by simp [h2]), sh_ne (by simp [h1]), se_ne (by simp [h3]), se_ne (by simp [h4])]
  have e79 : (ut_R (xo_sE R (79, 0) w 0) w n).1 (79, 0) w = 0 := by
    unfold ut_R
    rw [sh_ne (by simp), sh_ne (by simp), se_ne (by simp)]
    exact xo_sE_eq _ _ _ _
  have e76 : (ut_R (xo_sE R (79, 0) w 0) w n).1 (76, 0) w = nI n := by
    unfold ut_R
    rw [sh_ne (by simp), sh_ne (by simp)]
    exact xo_sE_eq _ _ _ _
  have s1 : TS md w R (ut_R (xo_sE R (79, 0) w 0) w n) := by
    refine ⟨TA_tr (TA_set (by decide)) ut_TA, T9_0 ?_ e79, fun _ _ => ?_, Or.inr h84⟩
    · rw [e 70 (by decide) (by decide) (by decide) (by decide)]; exact h9.1
    · rw [e76]
      intro z
      have : n = 16 := sm_nIinj (b := 16) z (by omega) (by omega)
      omega
  exact TS_tr s1 (TS_after s1.2.1 e79 (by rw [e 84 (by decide) (by decide) (by decide) (by decide)]; exact h84))
theorem TS_clear (h9 : T9 w R) (h84 : ¬ R.1 (84, 0) w = 1) : TS md w R (xo_sE R (79, 0) w 0) := by
  refine ⟨TA_set (by decide), T9_0 (by rw [se_ne (by simp)]; exact h9.1) (xo_sE_eq _ _ _ _), fun _ z => ?_, Or.inr h84⟩
  rw [se_ne (by simp)]
  exact z
theorem TS_endAbort {x : Int32} (h9 : T9 w R) : TS md w R (rEndAbort R w x) ∧ (rEndAbort R w x).1 (79, 0) = R.1 (79, 0) ∧ (rEndAbort R w x).1 (84, 0) = R.1 (84, 0) := by
  unfold rEndAbort
  split
  · exact ⟨TS_o TA_rfl rfl rfl rfl h9, rfl, rfl⟩
  · have s1 : TS md w R (xo_sE R (80, 0) w 0) := TS_set (by decide) rfl h9
    rw [hE_ne rfl, hE_ne rfl, se_ne (by simp), se_ne (by simp)]
    exact ⟨TS_tr s1 (TS_hE s1.2.1), rfl, rfl⟩
theorem TS_shutDone {x : Int32} (h9 : T9 w R) (h84 : ¬ R.1 (84, 0) w = 1) : TS md w R (rShutDone R w x) := by
  have s1 : TS md w R (xo_sE R (79, 0) w 0) := TS_clear h9 h84
  have key : ∀ k s a c : Int32, TS md w R (rEndAbort (hE (xo_sE R (79, 0) w 0) k s a c) w x) ∧ (rEndAbort (hE (xo_sE R (79, 0) w 0) k s a c) w x).1 (79, 0) w = 0 ∧ ¬ (rEndAbort (hE (xo_sE R (79, 0) w 0) k s a c) w x).1 (84, 0) w = 1 := fun k s a c => by
    have s2 := TS_tr s1 (TS_hE (k := k) (s := s) (a := a) (b := c) s1.2.1)
    obtain ⟨b1, b2, b3⟩ := TS_endAbort (md := md) (x := x) s2.2.1
    refine ⟨TS_tr s2 b1, ?_, ?_⟩
    · rw [b2, hE_ne rfl]; exact xo_sE_eq _ _ _ _
    · rw [b3, hE_ne rfl, se_ne (by simp)]; exact h84
  unfold rShutDone
  split
  · obtain ⟨a1, a2, a3⟩ := key 11 (nI w) 0 0
    refine TS_tr a1 ⟨TA_set (by decide), ?_, fun _ z => by rw [se_ne (by simp)]; exact z, Or.inl (by rw [se_ne (by simp)])⟩
    refine T9_0 ?_ (by rw [se_ne (by simp)]; exact a2)
    rw [xo_sE_eq]
    exact Or.inr (Or.inr (Or.inr rfl))
  · obtain ⟨a1, a2, a3⟩ := key 12 (nI w) x 0
    exact TS_tr a1 (TS_fob a1.2.1 a2 a3)
theorem TS_abortDone {x : Int32} (h9 : T9 w R) (h84 : ¬ R.1 (84, 0) w = 1) : TS md w R (rAbortDone R w x) := by
  have s1 : TS md w R (xo_sE R (79, 0) w 0) := TS_clear h9 h84
  unfold rAbortDone
  generalize (if x = -1 then (13 : Int32) else 14) = k1
  generalize (if x = -1 then (0 : Int32) else x) = k2
  have s2 := TS_tr s1 (TS_hE (k := k1) (s := nI w) (a := k2) (b := 0) s1.2.1)
  obtain ⟨b1, b2, b3⟩ := rLose_v (w := w) (R := hE (xo_sE R (79, 0) w 0) k1 (nI w) k2 0)
  exact TS_tr s2 (TS_o TA_rLose (by rw [b1]) (by rw [b2]) (by rw [b3]) s2.2.1)
end TS
section TI
variable {g t p q w : Nat} {R R' : xo_H}
theorem TS_Inv {md : Prop} (z : Inv g t p q R) (hw : w < t) (h : TS md w R R') (hd : md ∨ ∀ k i, k < p → R.1 (88, 0) k = 0 → R.1 (85, 0) k = nI i → R.1 (86, 0) k = nI w → i < g → R.1 (62, 0) i = 0) (ht : t ≤ 2) : Inv g t p q R' := by
  obtain ⟨⟨a1, a2⟩, h9, h16, h79⟩ := h
  obtain ⟨z1, z2, z3, z4, z5, z6, z7, z8, z9, z10, z11, z12, z13, z14, z15, z16⟩ := z
  have ag : ∀ {L : Nat → Nat → Bool}, (∀ a c, kT a c = false → L a c = false) → agr L R R' := fun hl => agr_le a1 fun a c e => by
    cases e' : kT a c
    · rw [hl a c e'] at e; cases e
    · rfl
  have kf : ∀ {a c : Nat}, kT a c = false → a = 93 ∨ a = 94 ∨ a = 95 ∨ (a = 50 ∧ c = 47) ∨ a = 70 ∨ a = 71 ∨ a = 74 ∨ a = 75 ∨ a = 76 ∨ a = 77 ∨ a = 78 ∨ a = 79 ∨ a = 80 ∨ a = 81 ∨ a = 82 := fun {a c} e => by
    unfold kT at e
    simp only [Bool.not_eq_false', Bool.or_eq_true, Bool.and_eq_true, beq_iff_eq] at e
    omega
  have hL : ∀ {L : Nat → Nat → Bool}, (∀ c, L 93 c = false ∧ L 94 c = false ∧ L 95 c = false ∧ L 70 c = false ∧ L 71 c = false ∧ L 74 c = false ∧ L 75 c = false ∧ L 76 c = false ∧ L 77 c = false ∧ L 78 c = false ∧ L 79 c = false ∧ L 80 c = false ∧ L 81 c = false ∧ L 82 c = false) → L 50 47 = false → agr L R R' := fun {L} h h5 => ag fun a c e => by
    obtain ⟨h1, h2, h3, h4, h6, h7, h8, h9, h10, h11, h12, h13, h14, h15⟩ := h c
    rcases kf e with e | e | e | e | e | e | e | e | e | e | e | e | e | e | e
    · rw [e]; exact h1
    · rw [e]; exact h2
    · rw [e]; exact h3
    · rw [e.1, e.2]; exact h5
    · rw [e]; exact h4
    · rw [e]; exact h6
    · rw [e]; exact h7
    · rw [e]; exact h8
    · rw [e]; exact h9
    · rw [e]; exact h10
    · rw [e]; exact h11
    · rw [e]; exact h12
    · rw [e]; exact h13
    · rw [e]; exact h14
    · rw [e]; exact h15
  have ff : ∀ c : Nat, (false = false ∧ false = false ∧ false = false ∧ false = false ∧ false = false ∧ false = false ∧ false = false ∧ false = false ∧ false = false ∧ false = false ∧ false = false ∧ false = false ∧ false = false ∧ false = false) := fun _ => ⟨rfl, rfl, rfl, rfl, rfl, rfl, rfl, rfl, rfl, rfl, rfl, rfl, rfl, rfl⟩
  have kJ : agr lJ R R' := hL ff rfl
  refine ⟨ka_F (hL ff rfl) z1, ka_S (hL ff rfl) z2, ka_B (hL ff rfl) z3, ka_E (hL ff rfl) z4, ka_Q (hL ff rfl) z5, ka_H (hL ff rfl) z6, ka_N (hL ff rfl) z7, ka_P (hL ff rfl) z8, fun i => ?_, ⟨fun k hk b0 i j b1 b2 b3 b4 b5 => ?_, fun k k' hk hk' => ?_⟩, ka_J1 kJ z11, ka_JP (hL ff rfl) z12, ka_JD (hL ff rfl) z13, fun i hi => ?_, ka_JM (hL ff rfl) z15, ⟨fun a ha i hi => ?_, fun a ha i hi => ?_, fun a ha i hi => ?_⟩⟩
  · by_cases c : i = w
    · rw [c]; exact h9
    · rw [a2 70 (by decide) i c, a2 76 (by decide) i c, a2 79 (by decide) i c]; exact z9 i
  · rw [a1 (88, 0) k rfl] at b0
    rw [a1 (85, 0) k rfl] at b1
    rw [a1 (86, 0) k rfl] at b2
    rw [a1 (62, 0) i rfl] at b5
    by_cases c : j = w
    · subst c
      rcases hd with m | m
      · exact h16 m (z10.1 k hk b0 i j b1 b2 b3 b4 b5)
      · exact absurd (m k i hk b0 b1 b2 b3) b5
    · rw [a2 76 (by decide) j c]; exact z10.1 k hk b0 i j b1 b2 b3 b4 b5
  · rw [a1 (88, 0) k rfl, a1 (88, 0) k' rfl, a1 (86, 0) k rfl, a1 (86, 0) k' rfl]
    exact z10.2 k k' hk hk'
  · rw [a1 (84, 0) i rfl]
    by_cases c : i = w
    · subst c
      rcases h79 with e | e
      · rw [e]
        refine ⟨(z14 i hi).1, (z14 i hi).2.1, fun k hk => ?_⟩
        rw [ka_has kJ]; exact (z14 i hi).2.2 k hk
      · refine ⟨(z14 i hi).1, fun z => absurd z e, fun k hk => ?_⟩
        rw [ka_has kJ]
        exact ⟨fun z => absurd (((z14 i hi).2.2 k hk).mp z).1 e, fun z => absurd z.1 e⟩
    · rw [a2 79 (by decide) i c]
      refine ⟨(z14 i hi).1, (z14 i hi).2.1, fun k hk => ?_⟩
      rw [ka_has kJ]; exact (z14 i hi).2.2 k hk
  · have : kT a i = true := by
      simp only [frG, List.mem_cons, List.not_mem_nil, or_false] at ha
      rcases ha with e | e | e | e | e | e | e | e | e | e | e | e | e <;> subst e <;> rfl
    rw [a1 (a, 0) i this]; exact z16.1 a ha i hi
  · have hiw : ¬ i = w := by omega
    by_cases c : a ∈ tl
    · rw [a2 a c i hiw]; exact z16.2.1 a ha i hi
    · have : kT a i = true := by
        simp only [tl, List.mem_cons, List.not_mem_nil, or_false, not_or] at c
        simp only [frT, List.mem_cons, List.not_mem_nil, or_false] at ha
        have : a = 83 ∨ a = 84 := by omega
        rcases this with e | e <;> subst e <;> rfl
      rw [a1 (a, 0) i this]; exact z16.2.1 a ha i hi
  · have : kT a i = true := by
      simp only [List.mem_cons, List.not_mem_nil, or_false] at ha
      rcases ha with e | e <;> subst e <;> rfl
    rw [a1 (a, 0) i this]; exact z16.2.2 a ha i hi
end TI
