/-- what a call leaves: one answer, and the relation -/
def CRes (b q : Nat) (k m : Option (Int32 × xo_H)) : Prop := ∃ a C' R' g t p, k = some (a, C') ∧ m = some (a, R') ∧ SI (b + 50000) g t p (q + 1) C' R'
theorem z10 : ¬ (1 : Int32) = 0 := by decide
section PC
variable {b g t p q : Nat} {C R : xo_H} {x y : Int32}
theorem SI_q (h : SI b g t p q C R) : SI b g t p (q + 1) C R := ⟨h.1, Inv_more h.2 (by omega)⟩
theorem res_of {b' : Nat} {a : Int32} {k m : Option (Int32 × xo_H)} (h : SI b' g t p q C R) (hb : b' ≤ b + 50000) (hk : k = some (a, C)) (hm : m = some (a, R)) : CRes b q k m := ⟨a, C, R, g, t, p, hk, hm, SI_q (SI_more h hb)⟩
theorem nx {n : Nat} {x : Int32} (hn : n < 2 ^ 31) (h : ¬ ∃ i, i < n ∧ x = nI i) (h0 : ¬ x < 0) : ¬ x < nI n := by
  rcases pk_ix x hn with e | e | e
  · exact absurd e h0
  · exact Int32.not_lt.mpr e
  · exact absurd e h
theorem no_g (h : sm b g t p C R) (hx : ¬ ∃ i, i < g ∧ x = nI i) : fc_K_giverAt (0, 0) x C = some (none, C) ∧ fc_M_noGiver (50, 0) x R = some (1, R) := by
  have hle := sm_le h
  obtain ⟨⟨e5, -, -⟩, ⟨r0, -, -⟩, -⟩ := sm_p h
  unfold fc_K_giverAt fc_M_noGiver
  by_cases c : x < 0
  · rw [if_pos c, if_pos c, se_gb1]; exact ⟨rfl, rfl⟩
  · rw [if_neg c, if_neg c, se_gf (kd_0 0), e5, se_gf (kd_50 0), r0, if_neg (nx (by omega) hx c), if_neg (nx (by omega) hx c), se_gb1]
    exact ⟨rfl, rfl⟩
theorem no_t (h : sm b g t p C R) (hx : ¬ ∃ i, i < t ∧ x = nI i) : fc_K_takerAt (0, 0) x C = some (none, C) ∧ fc_M_noTaker (50, 0) x R = some (1, R) := by
  have hle := sm_le h
  obtain ⟨⟨-, e6, -⟩, ⟨-, r0, -⟩, -⟩ := sm_p h
  unfold fc_K_takerAt fc_M_noTaker
  by_cases c : x < 0
  · rw [if_pos c, if_pos c, se_gb1]; exact ⟨rfl, rfl⟩
  · rw [if_neg c, if_neg c, se_gf (kd_0 0), e6, se_gf (kd_50 0), r0, if_neg (nx (by omega) hx c), if_neg (nx (by omega) hx c), se_gb1]
    exact ⟨rfl, rfl⟩
theorem ng_0 (h : sm b g t p C R) {i : Nat} (hi : i < g) : fc_M_noGiver (50, 0) (nI i) R = some (0, R) := by
  have hle := sm_le h
  obtain ⟨-, ⟨r0, -, -⟩, -⟩ := sm_p h
  unfold fc_M_noGiver
  rw [if_neg (nI_pos (by omega)), se_gf (kd_50 0), r0, if_pos (nI_lt hi (by omega)), se_gb0]
theorem nt_0 (h : sm b g t p C R) {i : Nat} (hi : i < t) : fc_M_noTaker (50, 0) (nI i) R = some (0, R) := by
  have hle := sm_le h
  obtain ⟨-, ⟨-, r0, -⟩, -⟩ := sm_p h
  unfold fc_M_noTaker
  rw [if_neg (nI_pos (by omega)), se_gf (kd_50 0), r0, if_pos (nI_lt hi (by omega)), se_gb0]
theorem rt_C (h : sm b g t p C R) {i : Nat} (hi : i < g) : (R.1 (66, 0) i = -1 ∧ fc_K_rootAt (0, 0) (nI i) C = some (some (20, i), C) ∧ fc_M_isBranch (50, 0) (nI i) R = some (0, R)) ∨ (fc_K_rootAt (0, 0) (nI i) C = some (none, C) ∧ fc_M_isBranch (50, 0) (nI i) R = some (1, R)) := by
  have hle := sm_le h
  unfold fc_K_rootAt
  rw [se_cl (kd_0 0), ga_C h hi, Option.bind_some, ib_R (sm_MP h) (by omega)]
  dsimp only
  rw [if_neg (by simp), se_gp (kd_20 i)]
  rcases sm_orig h hi with ⟨e, e'⟩ | ⟨k, k1, k2, k3, -⟩
  · rw [e', if_pos rfl, e, if_pos (by decide)]
    exact Or.inl ⟨rfl, rfl, rfl⟩
  · rw [k3, if_neg (by simp), k2, if_neg (nI_pos (by omega))]
    exact Or.inr ⟨rfl, rfl⟩
theorem no_r (h : sm b g t p C R) (hx : ¬ ∃ i, i < g ∧ x = nI i) : fc_K_rootAt (0, 0) x C = some (none, C) ∧ fc_M_noRoot (50, 0) x R = some (1, R) := by
  obtain ⟨a1, a2⟩ := no_g h hx
  unfold fc_K_rootAt fc_M_noRoot
  rw [se_cl (kd_0 0), a1, Option.bind_some, se_cl (kd_50 0), a2, Option.bind_some]
  dsimp only
  rw [if_pos rfl, if_neg (by decide), se_gb1]
  exact ⟨rfl, rfl⟩
theorem nr_b (h : sm b g t p C R) {i : Nat} (hi : i < g) (hb : fc_M_isBranch (50, 0) (nI i) R = some (1, R)) : fc_M_noRoot (50, 0) (nI i) R = some (1, R) := by
  unfold fc_M_noRoot
  rw [se_cl (kd_50 0), ng_0 h hi, Option.bind_some]
  dsimp only
  rw [if_pos rfl, se_cl (kd_50 0), hb, Option.bind_some]
  dsimp only
  rw [if_neg (by decide), se_gb1]
theorem nr_r (h : sm b g t p C R) {i : Nat} (hi : i < g) (hb : fc_M_isBranch (50, 0) (nI i) R = some (0, R)) : fc_M_noRoot (50, 0) (nI i) R = some (if R.1 (51, 0) i = 0 then 0 else 1, R) := by
  have hle := sm_le h
  unfold fc_M_noRoot
  rw [se_cl (kd_50 0), ng_0 h hi, Option.bind_some]
  dsimp only
  rw [if_pos rfl, se_cl (kd_50 0), hb, Option.bind_some]
  dsimp only
  rw [if_pos rfl, mp_1 (sm_MP h), ml_51 (by omega)]
  by_cases c : R.1 (51, 0) i = 0
  · rw [if_pos c, if_pos c, se_gb0]
  · rw [if_neg c, if_neg c, se_gb1]
theorem er_0 (x : Int32) (C R : xo_H) : (fc_K_isError x C = some (1, C) ∧ fc_M_badError (50, 0) x 0 R = some (0, R)) ∨ (fc_K_isError x C = some (0, C) ∧ fc_M_badError (50, 0) x 0 R = some (1, R)) := by
  unfold fc_K_isError fc_M_badError
  by_cases c : x < 0
  · rw [if_pos c, if_pos c, se_gb0, se_gb1]; exact Or.inr ⟨rfl, rfl⟩
  · rw [if_neg c, if_neg c]
    by_cases d : (99 : Int32) < x
    · rw [if_pos d, if_pos d, se_gb0, se_gb1]; exact Or.inr ⟨rfl, rfl⟩
    · rw [if_neg d, if_neg d, se_gb0, se_gb1]; exact Or.inl ⟨rfl, rfl⟩
theorem er_m {x : Int32} (h : ¬ x = -1) : x < -1 ↔ x < 0 := by
  have e : ¬ x.toInt = -1 := fun z => h (Int32.toInt_inj.mp z)
  rw [Int32.lt_iff_toInt_lt, Int32.lt_iff_toInt_lt]
  have e1 : (-1 : Int32).toInt = -1 := by decide
  have e0 : (0 : Int32).toInt = 0 := by decide
  rw [e1, e0]
  omega
theorem er_1 (x : Int32) (C R : xo_H) : (fc_K_isErrorOrNone x C = some (1, C) ∧ fc_M_badError (50, 0) x (-1) R = some (0, R)) ∨ (fc_K_isErrorOrNone x C = some (0, C) ∧ fc_M_badError (50, 0) x (-1) R = some (1, R)) := by
  unfold fc_K_isErrorOrNone
  by_cases e : x = -1
  · rw [if_pos e, se_gb1]
    subst e
    unfold fc_M_badError
    rw [if_neg (by decide), if_neg (by decide), se_gb0]
    exact Or.inl ⟨rfl, rfl⟩
  · rw [if_neg e]
    unfold fc_K_isError fc_M_badError
    have em := er_m e
    by_cases c : x < 0
    · rw [if_pos c, if_pos (em.mpr c), se_gb0, Option.bind_some, se_gb1]
      dsimp only
      rw [if_pos rfl, se_gb0]
      exact Or.inr ⟨rfl, rfl⟩
    · rw [if_neg c, if_neg (fun z => c (em.mp z))]
      by_cases d : (99 : Int32) < x
      · rw [if_pos d, if_pos d, se_gb0, Option.bind_some, se_gb1]
        dsimp only
        rw [if_pos rfl, se_gb0]
        exact Or.inr ⟨rfl, rfl⟩
      · rw [if_neg d, if_neg d, se_gb1, Option.bind_some, se_gb0]
        dsimp only
        rw [if_neg (by decide), se_gb1]
        exact Or.inl ⟨rfl, rfl⟩
theorem hb_C (h : sm b g t p C R) {i : Nat} (hi : i < g) : fc_G_heldBy (20, i) C = some (R.1 (58, 0) i, C) := by
  unfold fc_G_heldBy
  rw [se_gp (kd_20 i)]
  rcases sm_held h hi with ⟨e1, e2, e3⟩ | ⟨e1, e2, k, k1, k2, -⟩
  · rcases e3 with e | ⟨e, e'⟩
    · have : C.2.1 (20, i) 12 = none := by
        by_cases c : R.1 (65, 0) i = -1
        · exact sm_nopart h hi c
        · obtain ⟨f, -, -, z, -⟩ := sm_part h hi c
          rw [e] at z
          exact absurd z (by decide)
      rw [this, if_pos rfl, se_gp (kd_20 i), e2, if_pos rfl, e]
    · obtain ⟨f, -, -, -, z, -⟩ := sm_part h hi e'
      rw [z, if_neg (by simp), e]
  · rw [sm_nopart h hi e2, if_pos rfl, se_gp (kd_20 i), k2, if_neg (by simp), e1]
/-- a chunk is put -/
theorem put_R (h : SI b g t p q C R) (hb : b + 3000 < 2 ^ 30) : CRes b q (fc_K_put (0, 0) x y C) (fc_M_put (50, 0) x y R) := by
  have hle := sm_le h.1
  have hp := sm_MP h.1
  unfold fc_K_put fc_M_put
  by_cases hx : ∃ i, i < g ∧ x = nI i
  · obtain ⟨i, hi, e⟩ := hx
    subst e
    have hi6 : i < 6 := by omega
    rcases rt_C h.1 hi with ⟨-, r1, r2⟩ | ⟨r1, r2⟩
    · rw [se_cl (kd_0 0), r1, Option.bind_some, se_cl (kd_50 0), nr_r h.1 hi r2, Option.bind_some]
      dsimp only
      rw [if_neg (by simp), se_cl (kd_20 i), ig_C h.1, Option.bind_some]
      by_cases c1 : R.1 (51, 0) i = 0
      · have e1 : (if R.1 (51, 0) i = 0 then (0 : Int32) else 1) = 0 := if_pos c1
        rw [e1, if_pos rfl, mp_5 hp, ml_55 hi6]
        by_cases c2 : R.1 (55, 0) i = 0
        · have ge : (if R.1 (51, 0) i = 0 ∧ R.1 (55, 0) i = 0 then (1 : Int32) else 0) = 1 := if_pos ⟨c1, c2⟩
          obtain ⟨-, p0, p1, p2, p3, p4, p5, p6⟩ := sm_ptr h.1 hi
          obtain ⟨n, n16, n1, n2⟩ := sm_qn h.1 i
          obtain ⟨m, m8, m1, m2⟩ := sm_an h.1 i
          have go : (¬ R.1 (62, 0) i = 0 ∨ ¬ R.1 (60, 0) i = 16) → CRes b q (fb_K_put_43 (0, 0) y (some (20, i)) C) (fb_M_put_39 (50, 0) (nI i) y R) := fun z => by
            obtain ⟨C1, R1, a1, a2, a3, -⟩ := ti_SI (ch := y) h (by omega) hi c1 z
            obtain ⟨C2, R2, b1, b2, b3⟩ := wake_SI a3
            refine res_of b3 (by omega) (a := 1) ?_ ?_
            · unfold fb_K_put_43
              rw [se_cl (kd_0 0), a1, Option.bind_some, se_cl (kd_0 0), b1, Option.bind_some, se_gb1]
            · unfold fb_M_put_39
              rw [se_cl (kd_50 0), a2, Option.bind_some, se_cl (kd_50 0), b2, Option.bind_some, se_gb1]
          rw [ge, if_neg z10, if_pos c2, se_gp (kd_20 i)]
          dsimp only
          rw [p1, se_cl (kd_21 i), cr_count (kd_21 i) (kd_22 i) p4, Option.bind_some, mp_10 hp, ml_60 hi6, n1]
          dsimp only
          rw [n2]
          by_cases c3 : n = 16
          · subst c3
            rw [if_neg (by decide), if_pos (by decide), se_gp (kd_20 i), p3, se_gf (kd_24 i), m2, mp_12 hp, ml_62 hi6, m1]
            by_cases c4 : nI m = 0
            · rw [if_pos c4, if_pos c4, se_gb0, se_gb0]
              exact res_of h (by omega) rfl rfl
            · rw [if_neg c4, if_neg c4]
              exact go (Or.inl (by rw [m1]; exact c4))
          · have l16 : nI n < (16 : Int32) := nI_lt (b := 16) (by omega) (by omega)
            have n16' : ¬ nI n = (16 : Int32) := fun z => c3 (sm_nIinj (b := 16) z (by omega) (by omega))
            rw [if_pos l16, if_neg n16']
            exact go (Or.inr (by rw [n1]; exact n16'))
        · have ge : (if R.1 (51, 0) i = 0 ∧ R.1 (55, 0) i = 0 then (1 : Int32) else 0) = 0 := if_neg fun z => c2 z.2
          rw [ge, if_pos rfl, if_neg c2, se_gb0, se_gb0]
          exact res_of h (by omega) rfl rfl
      · have e1 : (if R.1 (51, 0) i = 0 then (0 : Int32) else 1) = 1 := if_neg c1
        have ge : (if R.1 (51, 0) i = 0 ∧ R.1 (55, 0) i = 0 then (1 : Int32) else 0) = 0 := if_neg fun z => c1 z.1
        rw [ge, if_pos rfl, e1, if_neg (by decide), se_gb0, se_gb0]
        exact res_of h (by omega) rfl rfl
    · rw [se_cl (kd_0 0), r1, Option.bind_some, se_cl (kd_50 0), nr_b h.1 hi r2, Option.bind_some]
      dsimp only
      rw [if_pos rfl, if_neg (by decide), se_gb0, se_gb0]
      exact res_of h (by omega) rfl rfl
  · obtain ⟨r1, r2⟩ := no_r h.1 hx
    rw [se_cl (kd_0 0), r1, Option.bind_some, se_cl (kd_50 0), r2, Option.bind_some]
    dsimp only
    rw [if_pos rfl, if_neg (by decide), se_gb0, se_gb0]
    exact res_of h (by omega) rfl rfl
theorem end_R (h : SI b g t p q C R) (hb : b + 3000 < 2 ^ 30) : CRes b q (fc_K_end (0, 0) x C) (fc_M_end (50, 0) x R) := by
  have hle := sm_le h.1
  have hp := sm_MP h.1
  unfold fc_K_end fc_M_end
  by_cases hx : ∃ i, i < g ∧ x = nI i
  · obtain ⟨i, hi, e⟩ := hx
    subst e
    have hi6 : i < 6 := by omega
    rcases rt_C h.1 hi with ⟨-, r1, r2⟩ | ⟨r1, r2⟩
    · rw [se_cl (kd_0 0), r1, Option.bind_some, se_cl (kd_50 0), nr_r h.1 hi r2, Option.bind_some]
      dsimp only
      rw [if_neg (by simp), se_cl (kd_20 i), ig_C h.1, Option.bind_some]
      by_cases c1 : R.1 (51, 0) i = 0
      · have e1 : (if R.1 (51, 0) i = 0 then (0 : Int32) else 1) = 0 := if_pos c1
        rw [e1, if_pos rfl, mp_5 hp, ml_55 hi6]
        by_cases c2 : R.1 (55, 0) i = 0
        · have ge : (if R.1 (51, 0) i = 0 ∧ R.1 (55, 0) i = 0 then (1 : Int32) else 0) = 1 := if_pos ⟨c1, c2⟩
          have s1 : SI b g t p q (xo_sE C (20, i) 7 1) (xo_sE R (55, 0) i 1) := ⟨sm_set h.1 20 7 55 i 1 (by decide) rfl rfl, m55 h.2 hi⟩
          have hp1 := sm_MP s1.1
          obtain ⟨-, p0, p1, p2, p3, p4, p5, p6⟩ := sm_ptr s1.1 hi
          obtain ⟨n, n16, n1, n2⟩ := sm_qn s1.1 i
          have go : ∀ {b' : Nat} {C1 R1 : xo_H}, SI b' g t p q C1 R1 → b' ≤ b + 50000 → fc_M_ends (50, 0) (nI i) R = some R1 → CRes b q (fb_K_end_39 (0, 0) C1) (xo_cl 9 (some (50, 0)) (fun n7 => fc_M_ends n7 (nI i) R) fun H4 => xo_cl 9 (some (50, 0)) (fun n6 => fc_M_wake n6 H4) fun H5 => xo_gb (1 : Int32) (some ((1 : Int32), H5))) := fun {b' C1 R1} s hb' er => by
            obtain ⟨C2, R2, b1, b2, b3⟩ := wake_SI s
            refine res_of b3 hb' (a := 1) ?_ ?_
            · unfold fb_K_end_39
              rw [se_cl (kd_0 0), b1, Option.bind_some, se_gb1]
            · rw [se_cl (kd_50 0), er, Option.bind_some, se_cl (kd_50 0), b2, Option.bind_some, se_gb1]
          have M0 : fc_M_ends (50, 0) (nI i) R = if nI n = 0 then (xo_cl 9 (some (50, 0)) (fun n6 => fc_M_close n6 (nI i) (xo_sE R (55, 0) i 1)) fun H5 => some H5) else some (xo_sE R (55, 0) i 1) := by
            unfold fc_M_ends
            rw [mp_5 hp, mq1_55 hi6, mp_10 hp1, ml_60 hi6, n1]
          rw [ge, if_neg z10, if_pos c2, se_pz1 (kd_20 i)]
          dsimp only
          rw [se_gp (kd_20 i), p1, se_cl (kd_21 i), cr_count (kd_21 i) (kd_22 i) p4, Option.bind_some]
          dsimp only
          rw [n2]
          by_cases c3 : nI n = 0
          · obtain ⟨C1, a1, a2, a3⟩ := cl_SI s1 (by omega) hi (n1.trans c3) (by rw [se_ne (by simp), c1]; decide)
            rw [if_pos c3, se_cl (kd_0 0), a1, Option.bind_some]
            refine go a3 (by omega) ?_
            rw [M0, if_pos c3, se_cl (kd_50 0), a2, Option.bind_some]
          · rw [if_neg c3]
            refine go s1 (by omega) ?_
            rw [M0, if_neg c3]
        · have ge : (if R.1 (51, 0) i = 0 ∧ R.1 (55, 0) i = 0 then (1 : Int32) else 0) = 0 := if_neg fun z => c2 z.2
          rw [ge, if_pos rfl, if_neg c2, se_gb0, se_gb0]
          exact res_of h (by omega) rfl rfl
      · have e1 : (if R.1 (51, 0) i = 0 then (0 : Int32) else 1) = 1 := if_neg c1
        have ge : (if R.1 (51, 0) i = 0 ∧ R.1 (55, 0) i = 0 then (1 : Int32) else 0) = 0 := if_neg fun z => c1 z.1
        rw [ge, if_pos rfl, e1, if_neg (by decide), se_gb0, se_gb0]
        exact res_of h (by omega) rfl rfl
    · rw [se_cl (kd_0 0), r1, Option.bind_some, se_cl (kd_50 0), nr_b h.1 hi r2, Option.bind_some]
      dsimp only
      rw [if_pos rfl, if_neg (by decide), se_gb0, se_gb0]
      exact res_of h (by omega) rfl rfl
  · obtain ⟨r1, r2⟩ := no_r h.1 hx
    rw [se_cl (kd_0 0), r1, Option.bind_some, se_cl (kd_50 0), r2, Option.bind_some]
    dsimp only
    rw [if_pos rfl, if_neg (by decide), se_gb0, se_gb0]
    exact res_of h (by omega) rfl rfl
theorem fail_R (h : SI b g t p q C R) (hb : b + 3000 < 2 ^ 30) : CRes b q (fc_K_fail (0, 0) x y C) (fc_M_fail (50, 0) x y R) := by
  have hle := sm_le h.1
  have hp := sm_MP h.1
  unfold fc_K_fail fc_M_fail
  by_cases hx : ∃ i, i < g ∧ x = nI i
  · obtain ⟨i, hi, e⟩ := hx
    subst e
    have hi6 : i < 6 := by omega
    have q4 := sm_get h.1 20 4 51 i (by decide)
    rcases rt_C h.1 hi with ⟨-, r1, r2⟩ | ⟨r1, r2⟩
    · rw [se_cl (kd_0 0), r1, Option.bind_some, se_cl (kd_50 0), nr_r h.1 hi r2, Option.bind_some]
      dsimp only
      rw [if_neg (by simp), se_gf (kd_20 i), q4]
      by_cases c1 : R.1 (51, 0) i = 0
      · have e1 : (if R.1 (51, 0) i = 0 then (0 : Int32) else 1) = 0 := if_pos c1
        rw [if_pos c1, e1, if_pos rfl, se_cl (kd_50 0)]
        rcases er_0 y C R with ⟨z1, z2⟩ | ⟨z1, z2⟩
        · rw [z1, z2, Option.bind_some, Option.bind_some]
          dsimp only
          obtain ⟨C1, a1, a2, a3⟩ := fg_SI (er := y) h (by omega) hi
          obtain ⟨C2, R2, b1, b2, b3⟩ := wake_SI a3
          rw [if_neg (by decide), if_pos rfl, se_cl (kd_0 0), a1, Option.bind_some, se_cl (kd_0 0), b1, Option.bind_some, se_gb1, se_cl (kd_50 0), a2, Option.bind_some, se_cl (kd_50 0), b2, Option.bind_some, se_gb1]
          exact res_of b3 (by omega) rfl rfl
        · rw [z1, z2, Option.bind_some, Option.bind_some]
          dsimp only
          rw [if_pos rfl, if_neg (by decide), se_gb0, se_gb0]
          exact res_of h (by omega) rfl rfl
      · have e1 : (if R.1 (51, 0) i = 0 then (0 : Int32) else 1) = 1 := if_neg c1
        rw [if_neg c1, e1, if_neg (by decide), se_gb0, se_gb0]
        exact res_of h (by omega) rfl rfl
    · rw [se_cl (kd_0 0), r1, Option.bind_some, se_cl (kd_50 0), nr_b h.1 hi r2, Option.bind_some]
      dsimp only
      rw [if_pos rfl, if_neg (by decide), se_gb0, se_gb0]
      exact res_of h (by omega) rfl rfl
  · obtain ⟨r1, r2⟩ := no_r h.1 hx
    rw [se_cl (kd_0 0), r1, Option.bind_some, se_cl (kd_50 0), r2, Option.bind_some]
    dsimp only
    rw [if_pos rfl, if_neg (by decide), se_gb0, se_gb0]
    exact res_of h (by omega) rfl rfl
theorem pulled_R (h : SI b g t p q C R) : CRes b q (fc_K_pulled (0, 0) x y C) (fc_M_pulled (50, 0) x y R) := by
  have hle := sm_le h.1
  have hp := sm_MP h.1
  unfold fc_K_pulled fc_M_pulled
  by_cases hx : ∃ i, i < g ∧ x = nI i
  · obtain ⟨i, hi, e⟩ := hx
    subst e
    have hi6 : i < 6 := by omega
    have q8 := sm_get h.1 20 8 56 i (by decide)
    rw [se_cl (kd_50 0), ng_0 h.1 hi, Option.bind_some]
    dsimp only
    rw [if_pos rfl]
    rcases rt_C h.1 hi with ⟨-, r1, r2⟩ | ⟨r1, r2⟩
    · rw [se_cl (kd_0 0), r1, Option.bind_some, se_cl (kd_50 0), r2, Option.bind_some]
      dsimp only
      rw [if_neg (by simp), se_gf (kd_20 i), q8, if_pos rfl, mp_6 hp, ml_56 hi6]
      by_cases c1 : R.1 (56, 0) i = 0
      · rw [if_pos c1, if_pos c1, se_gb0, se_gb0]
        exact res_of h (by omega) rfl rfl
      · have h56 : R.1 (56, 0) i = 1 := (h.2.2.2.1 i).1.resolve_left c1
        rw [if_neg c1, if_neg c1, se_gp (kd_0 0), (sm_K0 h.1).2, se_cl (kd_5 0), mp_14 hp, ml_64 hi6]
        obtain ⟨j1, j2, j3⟩ := Inv_JP h.2 i hi
        by_cases c2 : R.1 (64, 0) i = 0
        · have n64 : ¬ R.1 (64, 0) i = 1 := by rw [c2]; decide
          rw [(has_C h.1).2 (fun z => n64 (j1.mp z)), Option.bind_some, if_pos c2, se_cl (kd_50 0)]
          dsimp only
          rw [if_pos rfl]
          rcases er_1 y C R with ⟨z1, z2⟩ | ⟨z1, z2⟩
          · rw [z1, z2, Option.bind_some, Option.bind_some]
            dsimp only
            obtain ⟨f, n, C1, -, -, a1, -, a2, -, a3⟩ := ja_1 (x := y) h hi n64 h56
            obtain ⟨C2, R2, b1, b2, b3⟩ := wake_SI a3
            rw [if_neg (by decide), if_pos rfl, se_gp (kd_0 0), (sm_K0 h.1).2, se_cl (kd_5 0), a1, Option.bind_some, se_cl (kd_0 0), b1, Option.bind_some, se_gb1, mp_14 hp, mq1_64 hi6, se_cl (kd_50 0), a2, Option.bind_some, se_cl (kd_50 0), b2, Option.bind_some, se_gb1]
            exact res_of b3 (by omega) rfl rfl
          · rw [z1, z2, Option.bind_some, Option.bind_some]
            dsimp only
            rw [if_pos rfl, if_neg (by decide), se_gb0, se_gb0]
            exact res_of h (by omega) rfl rfl
        · have h64 : R.1 (64, 0) i = 1 := j2.resolve_left c2
          rw [(has_C h.1).1 (j1.mpr h64), Option.bind_some, if_neg c2, se_gb0]
          dsimp only
          rw [if_neg (by decide), se_gb0]
          exact res_of h (by omega) rfl rfl
    · rw [se_cl (kd_0 0), r1, Option.bind_some, se_cl (kd_50 0), r2, Option.bind_some]
      dsimp only
      rw [if_pos rfl, if_neg (by decide), se_gb0, se_gb0]
      exact res_of h (by omega) rfl rfl
  · obtain ⟨r1, -⟩ := no_r h.1 hx
    obtain ⟨-, r2⟩ := no_g h.1 hx
    rw [se_cl (kd_0 0), r1, Option.bind_some, se_cl (kd_50 0), r2, Option.bind_some]
    dsimp only
    rw [if_pos rfl, if_neg (by decide), se_gb0, se_gb0]
    exact res_of h (by omega) rfl rfl
theorem read_R (h : SI b g t p q C R) (hb : b + 3000 < 2 ^ 30) (hq : q < 2 ^ 30) : CRes b q (fc_K_read (0, 0) x C) (fc_M_read (50, 0) x R) := by
  have hle := sm_le h.1
  have hp := sm_MP h.1
  unfold fc_K_read fc_M_read
  by_cases hx : ∃ i, i < g ∧ x = nI i
  · obtain ⟨i, hi, e⟩ := hx
    subst e
    have hi6 : i < 6 := by omega
    obtain ⟨-, p0, p1, p2, p3, p4, p5, p6⟩ := sm_ptr h.1 hi
    obtain ⟨m, m8, m1, m2⟩ := sm_an h.1 i
    have q6 := sm_get h.1 20 6 63 i (by decide)
    rw [se_cl (kd_0 0), ga_C h.1 hi, Option.bind_some, se_cl (kd_50 0), ng_0 h.1 hi, Option.bind_some]
    dsimp only
    rw [if_neg (by simp), se_cl (kd_20 i), hb_C h.1 hi, Option.bind_some, if_pos rfl, mp_8 hp, ml_58 hi6]
    dsimp only
    by_cases c1 : R.1 (58, 0) i = 0
    · rw [if_pos c1, if_pos c1, se_gp (kd_20 i), p3, se_gf (kd_24 i), m2, mp_12 hp, ml_62 hi6, m1]
      by_cases c2 : m = 8
      · subst c2
        rw [if_neg (by decide), if_pos (by decide)]
        exact res_of h (by omega) rfl rfl
      · have l8 : nI m < (8 : Int32) := nI_lt (b := 8) (by omega) (by omega)
        have n8 : ¬ nI m = (8 : Int32) := fun z => c2 (sm_nIinj (b := 8) z (by omega) (by omega))
        obtain ⟨n, nq, n1⟩ := Inv_N h.2 i
        have s1 : SI b g t p (q + 1) (xo_sE C (20, i) 6 (nI (n + 1))) (xo_sE R (63, 0) i (nI (n + 1))) := ⟨sm_set h.1 20 6 63 i (nI (n + 1)) (by decide) rfl rfl, m63 h.2 hi nq⟩
        have pos : 0 < nI (n + 1) := (nI_pos_iff (by omega)).mpr (nI_ne0 (by omega) (by omega))
        obtain ⟨C1, R1, a1, a2, a3, -⟩ := rq_SI (who := nI (n + 1)) s1 (by omega) hi (Or.inl ⟨pos, by rw [se_ne (by simp)]; exact c1, by rw [se_ne (by simp), m1]; exact n8⟩)
        rw [sm_en1 pos] at a1
        obtain ⟨C2, R2, b1, b2, b3⟩ := wake_SI a3
        rw [if_pos l8, if_neg n8, se_gf (kd_20 i), q6, n1, nI_1, se_pf (kd_20 i), se_gf (kd_20 i), xo_sE_eq, se_cl (kd_0 0), a1, Option.bind_some, se_cl (kd_0 0), b1, Option.bind_some, mp_13 hp, ml_63 hi6, n1, nI_1, mq_63 hi6, mp_13 (by exact hp), ml_63 hi6, xo_sE_eq, se_cl (kd_50 0), a2, Option.bind_some, se_cl (kd_50 0), b2, Option.bind_some]
        exact ⟨_, C2, R2, g, t, p, rfl, rfl, SI_more b3 (by omega)⟩
    · rw [if_neg c1, if_neg c1]
      exact res_of h (by omega) rfl rfl
  · obtain ⟨r1, r2⟩ := no_g h.1 hx
    rw [se_cl (kd_0 0), r1, Option.bind_some, se_cl (kd_50 0), r2, Option.bind_some]
    dsimp only
    rw [if_pos rfl, if_neg (by decide)]
    exact res_of h (by omega) rfl rfl
theorem cancel_R (h : SI b g t p q C R) (hb : b + 3000 < 2 ^ 30) : CRes b q (fc_K_cancel (0, 0) x y C) (fc_M_cancel (50, 0) x y R) := by
  have hle := sm_le h.1
  have hp := sm_MP h.1
  unfold fc_K_cancel fc_M_cancel
  by_cases hx : ∃ i, i < g ∧ x = nI i
  · obtain ⟨i, hi, e⟩ := hx
    subst e
    have hi6 : i < 6 := by omega
    rw [se_cl (kd_0 0), ga_C h.1 hi, Option.bind_some, se_cl (kd_50 0), ng_0 h.1 hi, Option.bind_some]
    dsimp only
    rw [if_neg (by simp), se_cl (kd_20 i), hb_C h.1 hi, Option.bind_some, if_pos rfl, mp_8 hp, ml_58 hi6]
    dsimp only
    by_cases c1 : R.1 (58, 0) i = 0
    · rw [if_pos c1, if_pos c1, se_cl (kd_50 0)]
      rcases er_0 y C R with ⟨z1, z2⟩ | ⟨z1, z2⟩
      · rw [z1, z2, Option.bind_some, Option.bind_some]
        dsimp only
        obtain ⟨C1, R1, a1, a2, a3, -⟩ := cn_SI (er := y) h (by omega) hi
        obtain ⟨C2, R2, b1, b2, b3⟩ := wake_SI a3
        rw [if_neg (by decide), if_pos rfl, se_cl (kd_0 0), a1, Option.bind_some, se_cl (kd_0 0), b1, Option.bind_some, se_gb1, se_cl (kd_50 0), a2, Option.bind_some, se_cl (kd_50 0), b2, Option.bind_some, se_gb1]
        exact res_of b3 (by omega) rfl rfl
      · rw [z1, z2, Option.bind_some, Option.bind_some]
        dsimp only
        rw [if_pos rfl, if_neg (by decide), se_gb0, se_gb0]
        exact res_of h (by omega) rfl rfl
    · rw [if_neg c1, if_neg c1, se_gb0, se_gb0]
      exact res_of h (by omega) rfl rfl
  · obtain ⟨r1, r2⟩ := no_g h.1 hx
    rw [se_cl (kd_0 0), r1, Option.bind_some, se_cl (kd_50 0), r2, Option.bind_some]
    dsimp only
    rw [if_pos rfl, if_neg (by decide), se_gb0, se_gb0]
    exact res_of h (by omega) rfl rfl
end PC
