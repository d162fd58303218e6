/-- what reading on at a parted giver leaves -/
def kR (a _c : Nat) : Bool := a == 53 || a == 54 || a == 58 || a == 63 || a == 64 || a == 65 || a == 66 || a == 68 || a == 69 || (Nat.ble 70 a && Nat.ble a 89)
theorem kR_kG {R R' : xo_H} (h : agr kR R R') : agr kG R R' := agr_le h fun a c e => by
  unfold kG at e
  unfold kR
  simp only [Bool.or_eq_true, Bool.and_eq_true, beq_iff_eq, Nat.ble_eq] at e ⊢
  omega
theorem kR_ev {R R' : xo_H} (h : agr lEv R R') : agr kR R R' := agr_le h fun a c e => by
  unfold kR at e
  unfold lEv
  simp only [Bool.or_eq_true, Bool.and_eq_true, beq_iff_eq, Nat.ble_eq] at e
  simp only [Bool.not_eq_true', Bool.or_eq_false_iff, Bool.and_eq_false_iff, beq_eq_false_iff_ne]
  omega
section RO
variable {b g t p q k : Nat} {C R : xo_H}
theorem rCP_kR : agr kR R (rCP R k) := agr_tr (agr_to (agr_set rfl) rfl) (kR_ev rCP_ev)
theorem eb1_kR : agr kR R (eb1 R k) := by
  unfold eb1
  split
  · split
    · exact agr_tr (agr_set rfl) rCP_kR
    · exact agr_set rfl
  · exact agr_rfl
theorem rEB_kR : agr kR R (rEB R k) := agr_tr eb1_kR eb1_kR
theorem rCP_56 : agr (fun a _ => a == 56) R (rCP R k) := agr_tr (agr_to (agr_set rfl) rfl) (agr_le rCP_ev fun a c e => by
  simp only [beq_iff_eq] at e
  subst e
  rfl)
theorem eb1_56 : agr (fun a _ => a == 56) R (eb1 R k) := by
  unfold eb1
  split
  · split
    · exact agr_tr (agr_set rfl) rCP_56
    · exact agr_set rfl
  · exact agr_rfl
theorem rCP_62 {j : Nat} (h : R.1 (62, 0) j = 0) : (rCP R k).1 (62, 0) j = 0 := by
  rw [rCP_ev (62, 0) j rfl, se_ne (by simp), se_at]
  split
  · rfl
  · exact h
theorem eb1_62 {j : Nat} (h : R.1 (62, 0) j = 0) : (eb1 R k).1 (62, 0) j = 0 := by
  unfold eb1
  split
  · split
    · exact rCP_62 (by rw [se_ne (by simp)]; exact h)
    · rw [se_ne (by simp)]; exact h
  · exact h
theorem rEB_62 {j : Nat} (h : R.1 (62, 0) j = 0) : (rEB R k).1 (62, 0) j = 0 := eb1_62 (eb1_62 h)
theorem rEB_56 : agr (fun a _ => a == 56) R (rEB R k) := agr_tr eb1_56 eb1_56
theorem rPR_56 {j : Nat} (h : ¬ j = k) : (rPR R k).1 (56, 0) j = R.1 (56, 0) j := by
  have e : (rPl R k).1 (56, 0) j = R.1 (56, 0) j := by
    unfold rPl rPulls
    split
    · split
      · rw [se_nf (by simp [h])]
      · rw [se_ne (by simp)]
    · rfl
  unfold rPR
  split
  · exact e
  · rw [hE_ne rfl]; exact e
/-- the end of askRoot: startsPulling with its event -/
theorem ar_89 {x3 x4 : Int32} (h : SI b g t p q C R) (hb : b + 10 < 2 ^ 30) (hk : k < g) : ∃ C1, fb_K_askRoot_89 (0, 0) (some (20, k)) x3 x4 C = fb_K_askRoot_110 (0, 0) (some (20, k)) x3 x4 C1 ∧ fc_M_pullRoot (50, 0) (nI k) R = some (rPR R k) ∧ SI (b + 1) g t p q C1 (rPR R k) := by
  obtain ⟨C1, x1, x2, x3', x4', x5⟩ := pr_SI h hb hk
  have zI := rPR_Inv h.2 hk
  unfold fb_K_askRoot_89
  rw [se_cl (kd_20 k), x1, Option.bind_some]
  by_cases c : rPb R k = 0
  · refine ⟨C1, ?_, x3', sm_more (by rw [x4' c]; exact x2) (by omega), zI⟩
    simp only [c, if_true]
  · obtain ⟨C2, y1, y2⟩ := x5 c
    obtain ⟨-, p0, -⟩ := sm_ptr x2 hk
    refine ⟨C2, ?_, x3', y2, zI⟩
    simp only [c, if_false]
    rw [se_gp (kd_0 0), (sm_K0 x2).1, se_gf (kd_20 k), p0, se_cl (kd_1 0), y1, Option.bind_some]
/-- the giver is open, its queue empty -/
theorem ar_empty (h : SI b g t p q C R) (hb : b + 100 < 2 ^ 30) (hk : k < g) (h65 : ¬ R.1 (65, 0) k = -1) (h67 : R.1 (67, 0) k = 1) (h62 : R.1 (62, 0) k = 0) (nh : ¬ has R 2 k) (h51 : R.1 (51, 0) k = 0) (h60 : R.1 (60, 0) k = 0) : ∃ C' R', fb_K_askRoot_57 (0, 0) (some (20, k)) 0 C = some (1, C') ∧ (xo_gp 9 11 R (some (50, 0)) fun o9 => xo_gp 9 12 R (some (50, 0)) fun o10 => xo_al 0 R o10 (nI k) fun v11 => xo_as R o9 (((8 : Int32) * (nI k)) + v11) (-10 : Int32) fun H12 => xo_gp 9 12 H12 (some (50, 0)) fun o13 => xo_al 0 H12 o13 (nI k) fun v14 => xo_as H12 o13 (nI k) (v14 + (1 : Int32)) fun H15 => xo_cl 9 (some (50, 0)) (fun n17 => fc_M_pullRoot n17 (nI k) H15) fun H16 => some H16) = some R' ∧ SI (b + 1) g t p q C' R' ∧ agr kR R R' ∧ ∀ j, ¬ j = k → R'.1 (56, 0) j = R.1 (56, 0) j ∧ (R.1 (62, 0) j = 0 → R'.1 (62, 0) j = 0) := by
  have hp := sm_MP h.1
  have hle := sm_le h.1
  have hk6 : k < 6 := by omega
  obtain ⟨-, p0, p1, p2, p3, p4, p5, p6⟩ := sm_ptr h.1 hk
  obtain ⟨f, f1, f2, f3, -⟩ := sm_part h.1 hk h65
  have hn : R.1 (62, 0) k = nI 0 := h62
  obtain ⟨C1, a1, a2⟩ := aa_sm (v := 0) (v' := -10) h.1 hk hn (by omega) (by decide)
  have z1 : Inv g t p q (aa_R R k 0 (-10)) := m_add h.2 hk h51 h60 hn (by omega) (fun e => by rw [f3] at e; exact absurd e (by decide)) (fun e => by rw [f3] at e; exact absurd e (by decide)) (fun _ => ⟨rfl, rfl⟩) (fun i w hi e1 e2 e3 hw => by
    obtain ⟨-, -, i', w', i1, i2, i3, i4, i5, i6, i7, i8, i9, i10⟩ := h.1.2.2.2.2.2.2.2.2.2.2.2.2.2.2.2.2.2 i hi
    have : i' = k := sm_nIinj (i3.symm.trans e2) (by omega) (by omega)
    subst this
    have e58 := (i10 e1).1
    rw [f3] at e58
    exact absurd e58 (by decide)) (fun _ => h67) nh
  obtain ⟨C2, b1, b2, b3⟩ := ar_89 (x3 := 0) (x4 := 0) (k := k) ⟨a2, z1⟩ (by omega) hk
  refine ⟨C2, _, ?_, ?_, b3, ?_, fun j hj => ?_⟩
  · unfold fb_K_askRoot_57
    rw [if_pos rfl, se_gp (kd_20 k), p3, se_cl (kd_24 k), a1, Option.bind_some, b1]
    unfold fb_K_askRoot_110
    rw [if_pos rfl, se_gb1]
  · rw [mp_11 hp, mp_12 hp]
    simp only [ml_62 hk6, hn, ix_8, nI_add]
    rw [mq_61 (by omega), mp_12 (by exact hp)]
    simp only [ml_62 hk6, mq_62 hk6]
    rw [se_ne (m := (62, 0)) (by simp), hn, nI_1, se_cl (kd_50 0)]
    have b2' : fc_M_pullRoot (50, 0) (nI k) (xo_sE (xo_sE R (61, 0) (8 * k + 0) (-10)) (62, 0) k (nI (0 + 1))) = some (rPR (aa_R R k 0 (-10)) k) := b2
    rw [b2']
    rfl
  · refine agr_tr (R' := aa_R R k 0 (-10)) ?_ (rPR_agr rfl rfl rfl fun _ => rfl)
    unfold aa_R
    exact agr_to (agr_set rfl) rfl
  · refine ⟨?_, fun e => ?_⟩
    · rw [rPR_56 hj]
      unfold aa_R
      rw [se_ne (by simp), se_ne (by simp)]
    · rw [rPR_agr (L := fun a _ => a == 62) rfl rfl rfl (fun _ => rfl) (62, 0) j rfl]
      unfold aa_R
      rw [se_nf (by simp [hj]), se_ne (by simp)]
      exact e
/-- the giver is open, a chunk is there -/
theorem ar_chunk {n : Nat} (h : SI b g t p q C R) (hb : b + 100 < 2 ^ 30) (hk : k < g) (h65 : ¬ R.1 (65, 0) k = -1) (h67 : R.1 (67, 0) k = 1) (h62 : R.1 (62, 0) k = 0) (nh : ¬ has R 2 k) (h51 : R.1 (51, 0) k = 0) (h60 : R.1 (60, 0) k = nI (n + 1)) (h16 : n < 16) : ∃ C' R', fb_K_askRoot_57 (0, 0) (some (20, k)) 1 C = some (1, C') ∧ (xo_cl 9 (some (50, 0)) (fun n25 => fc_M_takeChunk n25 (nI k) R) fun r18 => xo_gp 9 5 r18.2 (some (50, 0)) fun o19 => xo_al 1 r18.2 o19 (nI k) fun v20 => if v20 = 0 then (fb_M_readOn_93 (50, 0) (nI k) r18.1 r18.2) else (xo_gp 9 10 r18.2 (some (50, 0)) fun o21 => xo_al 0 r18.2 o21 (nI k) fun v22 => if v22 = 0 then (xo_cl 9 (some (50, 0)) (fun n24 => fc_M_close n24 (nI k) r18.2) fun H23 => fb_M_readOn_98 (50, 0) (nI k) r18.1 H23) else (fb_M_readOn_93 (50, 0) (nI k) r18.1 r18.2))) = some R' ∧ SI (b + 1) g t p q C' R' ∧ agr kR R R' ∧ ∀ j, ¬ j = k → R'.1 (56, 0) j = R.1 (56, 0) j ∧ (R.1 (62, 0) j = 0 → R'.1 (62, 0) j = 0) := by
  have hp := sm_MP h.1
  have hle := sm_le h.1
  have hk6 : k < 6 := by omega
  have z10 : ¬ (1 : Int32) = 0 := by decide
  obtain ⟨-, p0, p1, p2, p3, p4, p5, p6⟩ := sm_ptr h.1 hk
  obtain ⟨C1, a1, a2⟩ := qt_sm h.1 hk h60 h16
  have tc := tc_R hp hk6 h60 h16
  generalize hch : R.1 (59, 0) (16 * k) = ch at a1 tc
  have s1 : SI b g t p q C1 (qt_R R k n) := ⟨a2, qt_Inv h.2 hk h51 h62⟩
  have k1 : agr kR R (qt_R R k n) := qt_agr (fun _ => rfl) rfl
  have kJ : agr lJ R (qt_R R k n) := qt_agr (fun _ => rfl) rfl
  have e62 : (qt_R R k n).1 (62, 0) k = 0 := by rw [qt_agr (L := fun a _ => a == 62) (fun _ => rfl) rfl (62, 0) k rfl]; exact h62
  have e67 : (qt_R R k n).1 (67, 0) k = 1 := by rw [qt_agr (L := fun a _ => a == 67) (fun _ => rfl) rfl (67, 0) k rfl]; exact h67
  have e51 : (qt_R R k n).1 (51, 0) k = 0 := by rw [qt_agr (L := fun a _ => a == 51) (fun _ => rfl) rfl (51, 0) k rfl]; exact h51
  have e56 : ∀ j, (qt_R R k n).1 (56, 0) j = R.1 (56, 0) j := fun j => qt_agr (L := fun a _ => a == 56) (fun _ => rfl) rfl (56, 0) j rfl
  have hpq := sm_MP s1.1
  generalize hY : qt_R R k n = Y at s1 k1 kJ e62 e67 e51 e56 tc hpq a2
  have e51' : ¬ Y.1 (51, 0) k = 2 := by rw [e51]; decide
  obtain ⟨C2, c1, c2⟩ := cdr_C s1.1 hk
  have s2 : SI b g t p q C2 (rCD Y k) := ⟨c2, rCD_Inv s1.2 hk e62 e51'⟩
  obtain ⟨C3, d1, d2, d3⟩ := ar_89 (x3 := 1) (x4 := ch) s2 (by omega) hk
  have kZ : ∀ {L : Nat → Nat → Bool}, L 51 k = false → L 56 k = false → L 57 k = false → L 50 47 = false → (∀ c, (L 93 c || L 94 c || L 95 c) = false) → agr L Y (rPR (rCD Y k) k) := fun i1 i2 i3 i4 i5 => agr_tr (rCD_agr i1) (rPR_agr i2 i3 i4 i5)
  have nh' : ¬ has (rPR (rCD Y k) k) 2 k := by
    rw [ka_has (kZ rfl rfl rfl rfl fun _ => rfl), ka_has kJ]; exact nh
  obtain ⟨f, m, C4, j1, j2, j3, j4, j5⟩ := ja_2 (x := ch) d3 hk nh' (by rw [kZ (L := kR) rfl rfl rfl rfl (fun _ => rfl) (65, 0) k rfl, k1 (65, 0) k rfl]; exact h65) (by rw [kZ (L := fun a _ => a == 67) rfl rfl rfl rfl (fun _ => rfl) (67, 0) k rfl]; exact e67) (by rw [kZ (L := fun a _ => a == 62) rfl rfl rfl rfl (fun _ => rfl) (62, 0) k rfl]; exact e62)
  have r98 : fb_M_readOn_98 (50, 0) (nI k) ch (rPR (rCD Y k) k) = some (jb_R (rPR (rCD Y k) k) f m 2 (nI k) ch) := by
    unfold fb_M_readOn_98
    rw [se_cl (kd_50 0), j4]
    rfl
  have r93 : rCD Y k = Y → fb_M_readOn_93 (50, 0) (nI k) ch Y = some (jb_R (rPR (rCD Y k) k) f m 2 (nI k) ch) := fun e => by
    unfold fb_M_readOn_93
    have d2' := d2
    rw [e] at d2'
    rw [se_cl (kd_50 0), d2', Option.bind_some]
    have r98' := r98
    rw [e] at r98'
    rw [r98', e]
  refine ⟨C4, _, ?_, ?_, SI_more j5 (by omega), ?_, fun j hj => ?_⟩
  · unfold fb_K_askRoot_57
    rw [if_neg z10, se_gp (kd_20 k), p1, se_cl (kd_21 k), a1, Option.bind_some, se_cl (kd_20 k), c1, Option.bind_some, d1]
    unfold fb_K_askRoot_110
    obtain ⟨-, x0, -⟩ := sm_ptr d3.1 hk
    rw [if_neg z10, se_gp (kd_0 0), (sm_K0 d3.1).2, se_gf (kd_20 k), x0, se_cl (kd_5 0), j3, Option.bind_some, se_gb1]
  · rw [se_cl (kd_50 0), tc, Option.bind_some]
    show (xo_gp 9 5 Y (some (50, 0)) fun o19 => xo_al 1 Y o19 (nI k) fun v20 => if v20 = 0 then (fb_M_readOn_93 (50, 0) (nI k) ch Y) else (xo_gp 9 10 Y (some (50, 0)) fun o21 => xo_al 0 Y o21 (nI k) fun v22 => if v22 = 0 then (xo_cl 9 (some (50, 0)) (fun n24 => fc_M_close n24 (nI k) Y) fun H23 => fb_M_readOn_98 (50, 0) (nI k) ch H23) else (fb_M_readOn_93 (50, 0) (nI k) ch Y))) = some (jb_R (rPR (rCD Y k) k) f m 2 (nI k) ch)
    rw [mp_5 hpq]
    simp only [ml_55 hk6]
    by_cases c : Y.1 (55, 0) k = 0
    · rw [if_pos c]
      refine r93 ?_
      unfold rCD
      rw [if_neg fun z => z.1 c]
    · rw [if_neg c, mp_10 hpq]
      simp only [ml_60 hk6]
      by_cases d : Y.1 (60, 0) k = 0
      · rw [if_pos d, se_cl (kd_50 0), cdr_R s1 (by omega) hk d e62 e51', Option.bind_some]
        have cc : ¬ Y.1 (55, 0) k = 0 ∧ Y.1 (60, 0) k = 0 := ⟨c, d⟩
        have e : rCD Y k = xo_sE Y (51, 0) k 1 := by unfold rCD; rw [if_pos cc]
        have en : rPR (rCD Y k) k = rCD Y k := (rPR_no (by rw [e, xo_sE_eq]; decide)).2.2
        rw [en, e] at r98
        rw [en, e]
        exact r98
      · rw [if_neg d]
        refine r93 ?_
        unfold rCD
        rw [if_neg fun z => d z.2]
  · exact agr_tr k1 (agr_tr (kZ rfl rfl rfl rfl fun _ => rfl) (jb_agr fun _ => rfl))
  · refine ⟨?_, fun e => ?_⟩
    · rw [jb_agr (L := fun a _ => a == 56) (fun _ => rfl) (56, 0) j rfl, rPR_56 hj, rCD_agr (L := fun a _ => a == 56) rfl (56, 0) j rfl]
      exact e56 j
    · rw [jb_agr (L := fun a _ => a == 62) (fun _ => rfl) (62, 0) j rfl, kZ (L := fun a _ => a == 62) rfl rfl rfl rfl (fun _ => rfl) (62, 0) j rfl, ← hY, qt_agr (L := fun a _ => a == 62) (fun _ => rfl) rfl (62, 0) j rfl]
      exact e
end RO
