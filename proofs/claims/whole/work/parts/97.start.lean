/-! the start -/
def ZM (H : xo_H) : Prop := (∀ m f, H.1 m f = 0) ∧ ∀ m f, (¬ m = (50, 0) ∨ 50 < f) → H.2.1 m f = none
def GM (o : Option xo_H) : Prop := ∀ r, o = some r → ZM r
def ZK (H : xo_H) : Prop := (∀ m f, H.1 m f = 0) ∧ ∀ m : xo_N, 20 ≤ m.1 → H.2.2 m = false
def GK (o : Option xo_H) : Prop := ∀ r, o = some r → ZK r
section Z0
variable {H : xo_H} {n : xo_N} {t N k ci : Nat} {v : Int32} {w : Option xo_N} {K : xo_H → Option xo_H}
theorem zm_n (z : ZM H) : ZM (xo_sN H n) := by
  refine ⟨fun m f => ?_, fun m f h => ?_⟩
  · rw [sN_1]
    split
    · rfl
    · exact z.1 m f
  · rw [sN_2]
    split
    · rfl
    · exact z.2 m f h
theorem zm_na (z : ZM H) (g : ∀ H', ZM H' → GM (K H')) : GM (xo_na t H n N v K) := by
  intro r hr
  unfold xo_na at hr
  split at hr
  · cases hr
  · split at hr
    · exact g _ (zm_n z) r hr
    · cases hr
theorem zm_pp (z : ZM H) (hk : k ≤ 50) (g : ∀ H', ZM H' → GM (K H')) : GM (xo_pp 9 k H (some (50, 0)) w K) := by
  intro r hr
  rw [se_pp (kd_50 0)] at hr
  refine g (xo_sP H (50, 0) k w) ⟨fun m f => z.1 m f, fun m f h => ?_⟩ r hr
  rw [se_P2, if_neg]
  · exact z.2 m f h
  · intro e
    rcases h with h | h
    · exact h e.1
    · omega
theorem zk_n (z : ZK H) (hn : n.1 < 20) : ZK (xo_sN H n) := by
  refine ⟨fun m f => ?_, fun m h => ?_⟩
  · rw [sN_1]
    split
    · rfl
    · exact z.1 m f
  · rw [sN_3, if_neg]
    · exact z.2 m h
    · intro e
      rw [e] at h
      omega
theorem zk_na (z : ZK H) (hn : n.1 < 20) (g : ∀ H', ZK H' → GK (K H')) : GK (xo_na t H n N v K) := by
  intro r hr
  unfold xo_na at hr
  split at hr
  · cases hr
  · split at hr
    · exact g _ (zk_n z hn) r hr
    · cases hr
theorem zk_nw (z : ZK H) (hn : n.1 < 20) (g : ∀ H', ZK H' → GK (K H')) : GK (xo_nw ci H n K) := by
  intro r hr
  unfold xo_nw at hr
  split at hr
  · exact g _ (zk_n z hn) r hr
  · cases hr
theorem zk_pp {o : Option xo_N} (z : ZK H) (g : ∀ H', ZK H' → GK (K H')) : GK (xo_pp ci k H o w K) := by
  intro r hr
  unfold xo_pp at hr
  cases o with
  | none => cases hr
  | some m =>
    rw [Option.bind_some] at hr
    split at hr
    · exact g (xo_sP H m k w) ⟨z.1, z.2⟩ r hr
    · cases hr
theorem zk_b {o : Option xo_H} (h : GK o) (g : ∀ H', ZK H' → GK (K H')) : GK (o.bind K) := by
  intro r hr
  cases o with
  | none => cases hr
  | some m => exact g m (h m rfl) r hr
theorem zk_s (z : ZK H) : GK (some H) := fun r hr => by
  cases hr
  exact z
theorem zm_s (z : ZM H) : GM (some H) := fun r hr => by
  cases hr
  exact z
end Z0
theorem zm_0 : ZM (xo_sN xo_E0 (50, 0)) := zm_n ⟨fun _ _ => rfl, fun _ _ _ => rfl⟩
theorem zk_0 : ZK (xo_sN xo_E0 (0, 0)) := zk_n ⟨fun _ _ => rfl, fun _ _ => rfl⟩ (by decide)
set_option maxRecDepth 100000 in
theorem zm_i : GM (fc_M_init (50, 0) (xo_sN xo_E0 (50, 0))) := by
  unfold fc_M_init
  have z := zm_0
  repeat (first | refine zm_na (by assumption) fun _ _ => ?_ | refine zm_pp (by assumption) (by decide) fun _ _ => ?_)
  exact zm_s (by assumption)
theorem zk_R {a : Nat} {v : Int32} {H : xo_H} (z : ZK H) (ha : a < 18) : GK (fc_R_init (a, 0) v H) := by
  unfold fc_R_init
  refine zk_na z (by show a + 1 < 20; omega) fun _ z => ?_
  refine zk_pp z fun _ z => ?_
  exact zk_s z
set_option maxRecDepth 100000 in
theorem zk_i : GK (fc_K_init (0, 0) (xo_sN xo_E0 (0, 0))) := by
  unfold fc_K_init
  refine zk_nw zk_0 (by decide) fun _ z => ?_
  refine zk_b ?_ fun _ z => ?_
  · unfold fc_L_init
    refine zk_na z (by decide) fun _ z => ?_
    refine zk_pp z fun _ z => ?_
    refine zk_na z (by decide) fun _ z => ?_
    refine zk_pp z fun _ z => ?_
    refine zk_na z (by decide) fun _ z => ?_
    refine zk_pp z fun _ z => ?_
    exact zk_s z
  refine zk_pp z fun _ z => ?_
  refine zk_nw z (by decide) fun _ z => ?_
  refine zk_b ?_ fun _ z => ?_
  · unfold fc_J_init
    refine zk_nw z (by decide) fun _ z => ?_
    refine zk_b (zk_R z (by decide)) fun _ z => ?_
    refine zk_pp z fun _ z => ?_
    refine zk_nw z (by decide) fun _ z => ?_
    refine zk_b (zk_R z (by decide)) fun _ z => ?_
    refine zk_pp z fun _ z => ?_
    refine zk_nw z (by decide) fun _ z => ?_
    refine zk_b (zk_R z (by decide)) fun _ z => ?_
    refine zk_pp z fun _ z => ?_
    exact zk_s z
  refine zk_pp z fun _ z => ?_
  refine zk_na z (by decide) fun _ z => ?_
  refine zk_pp z fun _ z => ?_
  refine zk_na z (by decide) fun _ z => ?_
  refine zk_pp z fun _ z => ?_
  refine zk_na z (by decide) fun _ z => ?_
  refine zk_pp z fun _ z => ?_
  exact zk_s z
def K00 : xo_H := (fc_K_init (0, 0) (xo_sN xo_E0 (0, 0))).getD xo_E0
def M00 : xo_H := (fc_M_init (50, 0) (xo_sN xo_E0 (50, 0))).getD xo_E0
set_option maxRecDepth 100000 in
theorem k00_s : (fc_K_init (0, 0) (xo_sN xo_E0 (0, 0))).isSome = true := by decide +kernel
set_option maxRecDepth 100000 in
theorem m00_s : (fc_M_init (50, 0) (xo_sN xo_E0 (50, 0))).isSome = true := by decide +kernel
theorem k00 : fc_K_init (0, 0) (xo_sN xo_E0 (0, 0)) = some K00 := by
  unfold K00
  obtain ⟨r, hr⟩ := Option.isSome_iff_exists.mp k00_s
  rw [hr]
  rfl
theorem m00 : fc_M_init (50, 0) (xo_sN xo_E0 (50, 0)) = some M00 := by
  unfold M00
  obtain ⟨r, hr⟩ := Option.isSome_iff_exists.mp m00_s
  rw [hr]
  rfl
theorem k00_z : ZK K00 := zk_i K00 k00
theorem m00_z : ZM M00 := zm_i M00 m00
set_option maxRecDepth 100000 in
theorem m00_f : ∀ f, f < 51 → M00.2.1 (50, 0) f = MP (50, 0) f := by decide +kernel
set_option maxRecDepth 100000 in
theorem k00_p : (K00.2.1 (0, 0) 0 = some (1, 0) ∧ K00.2.1 (0, 0) 1 = some (5, 0) ∧ K00.2.1 (0, 0) 2 = some (12, 0) ∧ K00.2.1 (0, 0) 3 = some (13, 0) ∧ K00.2.1 (0, 0) 4 = some (14, 0)) ∧ (K00.2.1 (1, 0) 0 = some (2, 0) ∧ K00.2.1 (1, 0) 1 = some (3, 0) ∧ K00.2.1 (1, 0) 2 = some (4, 0)) ∧ (K00.2.1 (5, 0) 0 = some (6, 0) ∧ K00.2.1 (5, 0) 1 = some (8, 0) ∧ K00.2.1 (5, 0) 2 = some (10, 0) ∧ K00.2.1 (6, 0) 0 = some (7, 0) ∧ K00.2.1 (8, 0) 0 = some (9, 0) ∧ K00.2.1 (10, 0) 0 = some (11, 0)) := by decide +kernel
theorem MP_50 {f : Nat} (h : 50 < f) : MP (50, 0) f = none := by
  unfold MP
  rw [if_pos rfl]
  split <;> first | omega | rfl
theorem m00_MP : M00.2.1 = MP := by
  funext m f
  by_cases c : m = (50, 0)
  · subst c
    rcases Nat.lt_or_ge f 51 with h | h
    · exact m00_f f h
    · rw [m00_z.2 (50, 0) f (Or.inr (by omega)), MP_50 (by omega)]
  · rw [m00_z.2 m f (Or.inl c)]
    unfold MP
    rw [if_neg c]
theorem start_SI : SI 0 0 0 0 0 K00 M00 := by
  obtain ⟨c1, c2⟩ := k00_z
  have r1 := m00_z.1
  obtain ⟨p1, p2, p3⟩ := k00_p
  have e0 : (0 : Int32) = nI 0 := rfl
  have t0 : (0 : Int32).toNatClampNeg = 0 := by decide
  have nj : jN M00 = 0 := by unfold jN; rw [r1, t0]
  have nh : ∀ k w, ¬ has M00 k w := fun k w ⟨i, hi, _⟩ => by rw [nj] at hi; omega
  refine ⟨⟨fun e _ i => ?_, fun i => ⟨⟨0, 0, by omega, by omega, ?_, ?_, ?_, fun k hk => by omega⟩, ?_⟩, fun i => ⟨0, 0, by omega, by omega, ?_, ?_, ?_, fun k hk => by omega⟩, fun i => ⟨⟨0, 0, by omega, by omega, ?_, ?_, ?_, fun k hk => by omega⟩, ⟨0, 0, by omega, by omega, ?_, ?_, ?_, fun k hk => by omega⟩, ?_⟩, ⟨0, by omega, ?_, ?_, fun j => ?_⟩, ⟨0, 0, 0, by omega, by omega, by omega, ?_, ?_, ?_, ?_, ?_, fun k hk => by omega⟩, ⟨m00_MP, by omega, by omega, by omega, fun a i h1 _ _ => c2 _ (by show 20 ≤ a; omega), fun a i h1 _ _ => c2 _ (by show 20 ≤ a; omega), fun i _ => c2 _ (by show 20 ≤ 40; omega), fun a i h1 _ => c2 _ (by show 20 ≤ a; omega)⟩, ?_, ?_, p1, p2, p3, fun i hi => by omega, fun i hi => by omega, fun i hi => by omega, fun i hi => by omega, fun i hi => by omega, fun k hk => by omega⟩, fun r _ => r1 _ _, fun r => Or.inl (r1 _ _), fun r => ⟨Or.inl (r1 _ _), Or.inl (r1 _ _)⟩, fun r h => absurd (r1 _ _) h, fun r h => absurd (r1 _ _) h, fun r hr => by omega, fun r => ⟨0, by omega, r1 _ _⟩, fun r hr => by omega, fun w => ?_, ⟨fun k hk => by omega, fun k k' hk => by omega⟩, ⟨fun i hi => by omega, fun i j hi hj => by omega⟩, fun r hr => by omega, fun r hr => by omega, fun w hw => by omega, fun k hk => by omega, ⟨fun a _ i _ => r1 _ _, fun a _ i _ => r1 _ _, fun a _ i _ => r1 _ _⟩⟩
  · rw [c1, r1]
  · rw [c1]; rfl
  · rw [c1]; rfl
  · rw [r1]; rfl
  · rw [c1, r1, r1, r1, t0]; rfl
  · rw [c1]; rfl
  · rw [c1]; rfl
  · rw [r1]; rfl
  · rw [c1]; rfl
  · rw [c1]; rfl
  · rw [r1]; rfl
  · rw [c1]; rfl
  · rw [c1]; rfl
  · rw [r1]; rfl
  · rw [c1, r1, r1, r1, t0]; rfl
  · rw [c1]; rfl
  · rw [r1]; rfl
  · rw [c1, c1, c1, r1, r1, r1]; exact ⟨rfl, rfl, rfl⟩
  · rw [r1]; rfl
  · rw [r1]; rfl
  · rw [c1, c1]; exact ⟨rfl, rfl⟩
  · rw [c1, c1]; exact ⟨rfl, rfl⟩
  · rw [c1, c1]; exact ⟨rfl, rfl⟩
  · rw [c1, c1, c1]; exact ⟨rfl, rfl, rfl⟩
  · rw [r1, r1, r1]; exact ⟨rfl, rfl, rfl⟩
  · rw [r1, r1, r1]
    exact ⟨Or.inl rfl, Or.inl rfl, fun z => absurd z (by decide), fun z => absurd z (by decide)⟩
/-- the relation that the law's loop keeps -/
def SmR (q : Nat) (C R : xo_H) : Prop := ∃ g t p b, b ≤ q * 50000 ∧ SI b g t p q C R
theorem Sm_res {b q : Nat} {k m : Option (Int32 × xo_H)} (h : CRes b q k m) (hb : b ≤ q * 50000) : ∃ a C' R', k = some (a, C') ∧ m = some (a, R') ∧ SmR (q + 1) C' R' := by
  obtain ⟨a, C', R', g, t, p, h1, h2, h3⟩ := h
  exact ⟨a, C', R', h1, h2, g, t, p, b + 50000, by omega, h3⟩
theorem lz_all : lz_Sm SmR := by
  refine ⟨fun q k v1 v2 v3 C R hq hk h => ?_, fun q C R h => ?_, K00, M00, k00, m00, 0, 0, 0, 0, by omega, start_SI⟩
  · obtain ⟨g, t, p, b, hb, h⟩ := h
    have hb' : b + 30000 < 2 ^ 30 := by omega
    have b3 : b + 3000 < 2 ^ 30 := by omega
    refine Sm_res ?_ hb
    match k, hk with
    | 0, _ => exact giver_R h b3 (bz_01 v2)
    | 1, _ => exact taker_R h (bz_01 v2)
    | 2, _ => exact put_R h b3
    | 3, _ => exact end_R h b3
    | 4, _ => exact fail_R h b3
    | 5, _ => exact pulled_R h
    | 6, _ => exact read_R h b3 (by omega)
    | 7, _ => exact cancel_R h b3
    | 8, _ => exact write_R h b3
    | 9, _ => exact shut_R h b3
    | 10, _ => exact abort_R h b3
    | 11, _ => exact spoil_R h b3
    | 12, _ => exact settle_R h
    | 13, _ => exact pipe_R h
    | 14, _ => exact part_R h b3
    | 15, _ => exact step_R h b3
    | 16, _ => exact run_R h hb'
    | 17, _ => exact jobs_R h
    | 18, _ => exact giverState_R h
    | 19, _ => exact giverRoom_R h
    | 20, _ => exact giverQueue_R h
    | 21, _ => exact takerState_R h
    | 22, _ => exact takerRoom_R h
    | 23, _ => exact takerQueue_R h
    | 24, _ => exact error_R h
    | 25, _ => exact events_R h
    | 26, _ => exact event_R h (by omega)
    | n + 27, hn => exact absurd hn (by omega)
  · obtain ⟨g, t, p, b, hb, h⟩ := h
    have e : b ≤ (q + 1) * 50000 := Nat.le_trans hb (Nat.mul_le_mul_right 50000 (Nat.le_succ q))
    exact ⟨g, t, p, b, e, SI_q h⟩
