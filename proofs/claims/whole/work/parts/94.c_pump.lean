section PM
variable {b g t p q k i w : Nat} {C R : xo_H}
theorem as_R (h : SI b g t p q C R) (hk : k < p) (h88 : R.1 (88, 0) k = 0) (hi : i < g) (h85 : R.1 (85, 0) k = nI i) : fc_M_asks (50, 0) (nI k) R = some (if R.1 (62, 0) i = 0 then 0 else 1, R) := by
  have hle := sm_le h.1
  have hp := sm_MP h.1
  have hk2 : k < 2 := by omega
  have hi6 : i < 6 := by omega
  obtain ⟨-, -, i0, w0, i1, -, e85, -, -, -, -, -, -, nn⟩ := sm_pipe h.1 hk
  have ei : i0 = i := sm_nIinj (e85.symm.trans h85) (by omega) (by omega)
  subst ei
  obtain ⟨g1, -, g3⟩ := nn h88
  unfold fc_M_asks
  rcases (Inv_H h.2 i0 hi).2.1 g1 with e | ⟨e, k', k1, k2, k3, k4⟩
  · rw [fb_M_asks_4, mp_12 hp, mp_37 hp, ml_85 hk2, h85, ml_62 hi6, e, if_neg (by decide), se_gb0, if_pos rfl]
  · obtain ⟨-, -, i', w', i1', -, e85', -, -, -, -, -, -, nn'⟩ := sm_pipe h.1 k1
    have ei : i' = i0 := sm_nIinj (e85'.symm.trans k3) (by omega) (by omega)
    subst ei
    have o3 := (nn' k2).2.2
    rw [g3] at o3
    have ek : k = k' := by injection o3 with o3; exact congrArg Prod.snd o3
    subst ek
    have ix : (8 : Int32) * nI i' + 0 = nI (8 * i') := by rw [ix_8]; exact nI_add (8 * i') 0
    rw [fb_M_asks_4, mp_12 hp, mp_37 hp, ml_85 hk2, h85, ml_62 hi6, e, if_pos (by decide), if_pos rfl, mp_11 hp, mp_37 hp, ml_85 hk2, h85, ix, ml_61 (by omega), k4, if_pos rfl, fb_M_asks_4, mp_12 hp, mp_37 hp, ml_85 hk2, h85, ml_62 hi6, e, if_neg (by decide), se_gb1, if_neg (by decide)]
theorem mw_C (h : SI b g t p q C R) (hk : k < p) (hi : i < g) (hw : w < t) (pp1 : C.2.1 (40, k) 1 = some (20, i)) (pp2 : C.2.1 (40, k) 2 = some (30, w)) : fc_P_mustWait (40, k) C = some (if R.1 (62, 0) i = 0 ∧ 0 < rSpace R w ∧ ¬ R.1 (76, 0) w = 16 then 0 else 1, C) := by
  have hle := sm_le h.1
  obtain ⟨-, p0, p1, p2, p3, p4, p5, p6⟩ := sm_ptr h.1 hi
  obtain ⟨-, t0, t1, t2, t3, t4, t5, t6⟩ := sm_ptrT h.1 hw
  obtain ⟨n, n8, n1, n2⟩ := sm_an h.1 i
  obtain ⟨m, m16, m1, m2, -⟩ := sm_un h.1 w
  have er : C.1 (31, w) 3 = rSpace R w := (h.1.2.2.2.1 w).2.2
  unfold fc_P_mustWait
  rw [se_gp (kd_40 k), pp1, se_gp (kd_20 i), p3, se_gf (kd_24 i), n2, n1]
  by_cases c : n = 0
  · subst c
    rw [if_neg (by decide), se_gp (kd_40 k), pp2, se_gp (kd_30 w), t1, se_gf (kd_31 w), er]
    by_cases d : 0 < rSpace R w
    · rw [if_pos d, se_gp (kd_40 k), pp2, se_gp (kd_30 w), t1, se_cl (kd_31 w), cr_count (kd_31 w) (kd_32 w) t4, Option.bind_some]
      dsimp only
      rw [m2, m1]
      by_cases e : m = 16
      · subst e
        rw [if_neg (by decide), se_gb1, if_neg (fun z => z.2.2 rfl)]
      · have l16 : nI m < (16 : Int32) := nI_lt (b := 16) (by omega) (by omega)
        have n16' : ¬ nI m = (16 : Int32) := fun z => e (sm_nIinj (b := 16) z (by omega) (by omega))
        rw [if_pos l16, se_gb0, if_pos ⟨rfl, d, n16'⟩]
    · rw [if_neg d, se_gb1, if_neg (fun z => d z.2.1)]
  · have pos : 0 < nI n := (nI_pos_iff (by omega)).mpr (by rw [nI_n0 (by omega)]; exact c)
    rw [if_pos pos, se_gb1, if_neg (fun z => c ((nI_n0 (by omega)).mp z.1))]
theorem en_k (hk : k < 2) : sm_en (-2 - nI k) = 0 := by
  have : k = 0 ∨ k = 1 := by omega
  rcases this with e | e
  · subst e; decide
  · subst e; decide
/-- the job PUMP -/
theorem pm_SI (h : SI b g t p q C R) (hb : b + 1000 < 2 ^ 30) (hk : k < p) : ∃ v C' R', (v = 0 ∨ v = 1) ∧ fc_K_doPump (0, 0) (some (40, k)) C = some (v, C') ∧ fc_M_pump (50, 0) (nI k) R = some (v, R') ∧ SI (b + 100) g t p q C' R' := by
  have hle := sm_le h.1
  have hp := sm_MP h.1
  have hk2 : k < 2 := by omega
  obtain ⟨l1, l2, i, w, hi, hw, h85, h86, pp1, pp2, f1, f2, f3, hh⟩ := sm_pipe h.1 hk
  have hi6 : i < 6 := by omega
  have hw2 : w < 2 := by omega
  have q6 := sm_get h.1 40 6 88 k (by decide)
  have q4 := sm_get h.1 20 4 51 i (by decide)
  have q5 := sm_get h.1 20 5 52 i (by decide)
  have q7 := sm_get h.1 30 5 71 w (by decide)
  by_cases c88 : R.1 (88, 0) k = 0
  · obtain ⟨g1, g2, g3⟩ := hh c88
    have endA : ∀ {b' : Nat} {C1 R1 : xo_H}, SI b' g t p q C1 R1 → b' ≤ b + 60 → R1.1 (88, 0) k = 0 → R1.1 (52, 0) i = R.1 (52, 0) i → ∃ C' R', fb_K_doPump_46 (0, 0) (some (40, k)) (some (20, i)) C1 = some (1, C') ∧ fb_M_pump_61 (50, 0) (nI k) (R.1 (52, 0) i) R1 = some (1, R') ∧ SI (b + 100) g t p q C' R' := fun {b' C1 R1} s hb' e e' => by
      obtain ⟨C', R', x1, x2, x3⟩ := fin_SI (kd := 16) (er := R.1 (52, 0) i) s (by omega) hk e
      refine ⟨C', R', ?_, ?_, SI_more x3 (by omega)⟩
      · unfold fb_K_doPump_46
        rw [se_gf (kd_20 i), sm_get s.1 20 5 52 i (by decide), e', se_cl (kd_0 0), x1, Option.bind_some, se_gb1]
      · unfold fb_M_pump_61
        rw [se_cl (kd_50 0), x2, Option.bind_some, se_gb1]
    have endB : ∀ {b' : Nat} {C1 R1 : xo_H}, SI b' g t p q C1 R1 → b' ≤ b + 60 → R1.1 (88, 0) k = 0 → R1.1 (71, 0) w = R.1 (71, 0) w → ∃ C' R', fb_K_doPump_83 (0, 0) (some (40, k)) (some (30, w)) C1 = some (1, C') ∧ fb_M_pump_119 (50, 0) (nI k) (R.1 (71, 0) w) R1 = some (1, R') ∧ SI (b + 100) g t p q C' R' := fun {b' C1 R1} s hb' e e' => by
      obtain ⟨C', R', x1, x2, x3⟩ := fin_SI (kd := 16) (er := R.1 (71, 0) w) s (by omega) hk e
      refine ⟨C', R', ?_, ?_, SI_more x3 (by omega)⟩
      · unfold fb_K_doPump_83
        rw [se_gf (kd_30 w), sm_get s.1 30 5 71 w (by decide), e', se_cl (kd_0 0), x1, Option.bind_some, se_gb1]
      · unfold fb_M_pump_119
        rw [se_cl (kd_50 0), x2, Option.bind_some, se_gb1]
    have endC : ∀ {b' : Nat} {C1 R1 : xo_H}, SI b' g t p q C1 R1 → b' ≤ b + 60 → R1.1 (88, 0) k = 0 → ∃ C' R', fb_K_doPump_128 (0, 0) (some (40, k)) C1 = some (1, C') ∧ fb_M_pump_168 (50, 0) (nI k) R1 = some (1, R') ∧ SI (b + 100) g t p q C' R' := fun {b' C1 R1} s hb' e => by
      obtain ⟨C', R', x1, x2, x3⟩ := fin_SI (kd := 15) (er := 0) s (by omega) hk e
      refine ⟨C', R', ?_, ?_, SI_more x3 (by omega)⟩
      · unfold fb_K_doPump_128
        rw [se_cl (kd_0 0), x1, Option.bind_some, se_gb1]
      · unfold fb_M_pump_168
        rw [se_cl (kd_50 0), x2, Option.bind_some, se_gb1]
    have endD : ∀ {b' : Nat} {C1 R1 : xo_H}, SI b' g t p q C1 R1 → b' ≤ b + 60 → R1.1 (88, 0) k = 0 → ∃ C' R', fb_K_doPump_160 (0, 0) (some (40, k)) C1 = some (1, C') ∧ fb_M_pump_226 (50, 0) (nI k) R1 = some (1, R') ∧ SI (b + 100) g t p q C' R' := fun {b' C1 R1} s hb' e => by
      obtain ⟨C', R', x1, x2, x3⟩ := fin_SI (kd := 16) (er := 100) s (by omega) hk e
      refine ⟨C', R', ?_, ?_, SI_more x3 (by omega)⟩
      · unfold fb_K_doPump_160
        rw [se_cl (kd_0 0), x1, Option.bind_some, se_gb1]
      · unfold fb_M_pump_226
        rw [se_cl (kd_50 0), x2, Option.bind_some, se_gb1]
    by_cases c51 : R.1 (51, 0) i = 2
    · by_cases cA : R.1 (87, 0) k &&& 2 = 0
      · obtain ⟨C1, a1, a2, a3, a4⟩ := abt_SI (x := R.1 (52, 0) i) h (by omega) hw
        obtain ⟨C', R', y1, y2, y3⟩ := endA a3 (by omega) ((a4.1 (88, 0) k rfl).trans c88) (a4.1 (52, 0) i rfl)
        refine ⟨1, C', R', Or.inr rfl, ?_, ?_, y3⟩
        · unfold fc_K_doPump
          rw [if_neg (by simp), se_gf (kd_40 k), q6, if_pos c88, se_gp (kd_40 k), pp1, se_gp (kd_40 k), pp2, se_gf (kd_20 i), q4, if_pos c51, se_gf (kd_40 k), if_pos (f2.mpr cA), se_gf (kd_20 i), q5, se_cl (kd_30 w), a1, Option.bind_some]
          exact y1
        · unfold fc_M_pump
          rw [mp_40 hp, ml_88 hk2, if_pos c88, mp_37 hp, ml_85 hk2, h85, mp_38 hp, ml_86 hk2, h86, mp_1 hp, ml_51 hi6, if_pos c51, mp_2 hp, ml_52 hi6, mp_39 hp, ml_87 hk2, if_pos cA, se_cl (kd_50 0), a2, Option.bind_some]
          exact y2
      · obtain ⟨C', R', y1, y2, y3⟩ := endA h (by omega) c88 rfl
        refine ⟨1, C', R', Or.inr rfl, ?_, ?_, y3⟩
        · unfold fc_K_doPump
          rw [if_neg (by simp), se_gf (kd_40 k), q6, if_pos c88, se_gp (kd_40 k), pp1, se_gp (kd_40 k), pp2, se_gf (kd_20 i), q4, if_pos c51, se_gf (kd_40 k), if_neg (fun z => cA (f2.mp z))]
          exact y1
        · unfold fc_M_pump
          rw [mp_40 hp, ml_88 hk2, if_pos c88, mp_37 hp, ml_85 hk2, h85, mp_38 hp, ml_86 hk2, h86, mp_1 hp, ml_51 hi6, if_pos c51, mp_2 hp, ml_52 hi6, mp_39 hp, ml_87 hk2, if_neg cA]
          exact y2
    · have MP0 : ∀ {o : Option (Int32 × xo_H)}, (if R.1 (70, 0) w = (1 : Int32) then (fb_M_pump_93 (50, 0) (nI k) (nI i) (nI w) R) else if R.1 (70, 0) w = (2 : Int32) then (fb_M_pump_93 (50, 0) (nI k) (nI i) (nI w) R) else o) = (if R.1 (70, 0) w = 1 ∨ R.1 (70, 0) w = 2 then fb_M_pump_93 (50, 0) (nI k) (nI i) (nI w) R else o) := fun {o} => by
        by_cases d1 : R.1 (70, 0) w = 1
        · rw [if_pos d1, if_pos (Or.inl d1)]
        · rw [if_neg d1]
          by_cases d2 : R.1 (70, 0) w = 2
          · rw [if_pos d2, if_pos (Or.inr d2)]
          · rw [if_neg d2, if_neg (fun z => z.elim d1 d2)]
      by_cases c70 : R.1 (70, 0) w = 1 ∨ R.1 (70, 0) w = 2
      · have ge : (if R.1 (70, 0) w = 1 ∨ R.1 (70, 0) w = 2 then (1 : Int32) else 0) = 1 := if_pos c70
        have n10 : ¬ (1 : Int32) = 0 := by decide
        by_cases cA : R.1 (87, 0) k &&& 4 = 0
        · obtain ⟨C1, R1, a1, a2, a3, a4⟩ := cn_SI (er := R.1 (71, 0) w) h (by omega) hi
          obtain ⟨C', R', y1, y2, y3⟩ := endB a3 (by omega) ((a4 (88, 0) k rfl).trans c88) (a4 (71, 0) w rfl)
          refine ⟨1, C', R', Or.inr rfl, ?_, ?_, y3⟩
          · unfold fc_K_doPump
            rw [if_neg (by simp), se_gf (kd_40 k), q6, if_pos c88, se_gp (kd_40 k), pp1, se_gp (kd_40 k), pp2, se_gf (kd_20 i), q4, if_neg c51, se_cl (kd_30 w), he_C h.1 hw, ge, Option.bind_some, if_neg n10, se_gf (kd_40 k)]
            dsimp only
            rw [if_pos (f3.mpr cA), se_gf (kd_30 w), q7, se_cl (kd_0 0), a1, Option.bind_some]
            exact y1
          · unfold fc_M_pump
            rw [mp_40 hp, ml_88 hk2, if_pos c88, mp_37 hp, ml_85 hk2, h85, mp_38 hp, ml_86 hk2, h86, mp_1 hp, ml_51 hi6, if_neg c51, mp_21 hp, ml_70 hw2, mp_21 hp, ml_70 hw2, MP0, if_pos c70]
            unfold fb_M_pump_93
            rw [mp_22 hp, ml_71 hw2, mp_39 hp, ml_87 hk2, if_pos cA, se_cl (kd_50 0), a2, Option.bind_some]
            exact y2
        · obtain ⟨C', R', y1, y2, y3⟩ := endB h (by omega) c88 rfl
          refine ⟨1, C', R', Or.inr rfl, ?_, ?_, y3⟩
          · unfold fc_K_doPump
            rw [if_neg (by simp), se_gf (kd_40 k), q6, if_pos c88, se_gp (kd_40 k), pp1, se_gp (kd_40 k), pp2, se_gf (kd_20 i), q4, if_neg c51, se_cl (kd_30 w), he_C h.1 hw, ge, Option.bind_some, if_neg n10, se_gf (kd_40 k)]
            dsimp only
            rw [if_neg (fun z => cA (f3.mp z))]
            exact y1
          · unfold fc_M_pump
            rw [mp_40 hp, ml_88 hk2, if_pos c88, mp_37 hp, ml_85 hk2, h85, mp_38 hp, ml_86 hk2, h86, mp_1 hp, ml_51 hi6, if_neg c51, mp_21 hp, ml_70 hw2, mp_21 hp, ml_70 hw2, MP0, if_pos c70]
            unfold fb_M_pump_93
            rw [mp_22 hp, ml_71 hw2, mp_39 hp, ml_87 hk2, if_neg cA]
            exact y2
      · have ge : (if R.1 (70, 0) w = 1 ∨ R.1 (70, 0) w = 2 then (1 : Int32) else 0) = 0 := if_neg c70
        obtain ⟨-, t0, t1, t2, t3, t4, t5, t6⟩ := sm_ptrT h.1 hw
        obtain ⟨m, m16, m1, m2, -⟩ := sm_un h.1 w
        by_cases c1 : R.1 (51, 0) i = 1
        · by_cases cq : 0 < nI m
          · refine ⟨0, C, R, Or.inl rfl, ?_, ?_, SI_more h (by omega)⟩
            · unfold fc_K_doPump
              rw [if_neg (by simp), se_gf (kd_40 k), q6, if_pos c88, se_gp (kd_40 k), pp1, se_gp (kd_40 k), pp2, se_gf (kd_20 i), q4, if_neg c51, se_cl (kd_30 w), he_C h.1 hw, ge, Option.bind_some, if_pos rfl, se_gf (kd_20 i)]
              dsimp only
              rw [q4, if_pos c1, se_gp (kd_30 w), t1, se_cl (kd_31 w), cr_count (kd_31 w) (kd_32 w) t4, Option.bind_some]
              dsimp only
              rw [m2, if_pos cq, se_gb0]
            · unfold fc_M_pump
              rw [mp_40 hp, ml_88 hk2, if_pos c88, mp_37 hp, ml_85 hk2, h85, mp_38 hp, ml_86 hk2, h86, mp_1 hp, ml_51 hi6, if_neg c51, mp_21 hp, ml_70 hw2, mp_21 hp, ml_70 hw2, MP0, if_neg c70, mp_1 hp, ml_51 hi6, if_pos c1, mp_27 hp, ml_76 hw2, m1, if_pos cq, se_gb0]
          · by_cases cA : R.1 (87, 0) k &&& 1 = 0
            · obtain ⟨C1, a1, a2, a3, a4⟩ := shut_SI h (by omega) hw
              obtain ⟨C', R', y1, y2, y3⟩ := endC a3 (by omega) ((a4.1 (88, 0) k rfl).trans c88)
              refine ⟨1, C', R', Or.inr rfl, ?_, ?_, y3⟩
              · unfold fc_K_doPump
                rw [if_neg (by simp), se_gf (kd_40 k), q6, if_pos c88, se_gp (kd_40 k), pp1, se_gp (kd_40 k), pp2, se_gf (kd_20 i), q4, if_neg c51, se_cl (kd_30 w), he_C h.1 hw, ge, Option.bind_some, if_pos rfl, se_gf (kd_20 i)]
                dsimp only
                rw [q4, if_pos c1, se_gp (kd_30 w), t1, se_cl (kd_31 w), cr_count (kd_31 w) (kd_32 w) t4, Option.bind_some]
                dsimp only
                rw [m2, if_neg cq, se_gf (kd_40 k), if_pos (f1.mpr cA), se_cl (kd_30 w), a1, Option.bind_some]
                exact y1
              · unfold fc_M_pump
                rw [mp_40 hp, ml_88 hk2, if_pos c88, mp_37 hp, ml_85 hk2, h85, mp_38 hp, ml_86 hk2, h86, mp_1 hp, ml_51 hi6, if_neg c51, mp_21 hp, ml_70 hw2, mp_21 hp, ml_70 hw2, MP0, if_neg c70, mp_1 hp, ml_51 hi6, if_pos c1, mp_27 hp, ml_76 hw2, m1, if_neg cq, mp_39 hp, ml_87 hk2, if_pos cA, se_cl (kd_50 0), a2, Option.bind_some]
                exact y2
            · obtain ⟨C', R', y1, y2, y3⟩ := endC h (by omega) c88
              refine ⟨1, C', R', Or.inr rfl, ?_, ?_, y3⟩
              · unfold fc_K_doPump
                rw [if_neg (by simp), se_gf (kd_40 k), q6, if_pos c88, se_gp (kd_40 k), pp1, se_gp (kd_40 k), pp2, se_gf (kd_20 i), q4, if_neg c51, se_cl (kd_30 w), he_C h.1 hw, ge, Option.bind_some, if_pos rfl, se_gf (kd_20 i)]
                dsimp only
                rw [q4, if_pos c1, se_gp (kd_30 w), t1, se_cl (kd_31 w), cr_count (kd_31 w) (kd_32 w) t4, Option.bind_some]
                dsimp only
                rw [m2, if_neg cq, se_gf (kd_40 k), if_neg (fun z => cA (f1.mp z))]
                exact y1
              · unfold fc_M_pump
                rw [mp_40 hp, ml_88 hk2, if_pos c88, mp_37 hp, ml_85 hk2, h85, mp_38 hp, ml_86 hk2, h86, mp_1 hp, ml_51 hi6, if_neg c51, mp_21 hp, ml_70 hw2, mp_21 hp, ml_70 hw2, MP0, if_neg c70, mp_1 hp, ml_51 hi6, if_pos c1, mp_27 hp, ml_76 hw2, m1, if_neg cq, mp_39 hp, ml_87 hk2, if_neg cA]
                exact y2
        · have MP1 : ∀ {o : Option (Int32 × xo_H)}, (if R.1 (78, 0) w = 0 then (if R.1 (79, 0) w = (4 : Int32) then (fb_M_pump_208 (50, 0) (nI k) (nI i) R) else if R.1 (70, 0) w = (3 : Int32) then (fb_M_pump_208 (50, 0) (nI k) (nI i) R) else o) else (fb_M_pump_208 (50, 0) (nI k) (nI i) R)) = (if ¬ R.1 (78, 0) w = 0 ∨ R.1 (79, 0) w = 4 ∨ R.1 (70, 0) w = 3 then fb_M_pump_208 (50, 0) (nI k) (nI i) R else o) := fun {o} => by
            by_cases d1 : R.1 (78, 0) w = 0
            · rw [if_pos d1]
              by_cases d2 : R.1 (79, 0) w = 4
              · rw [if_pos d2, if_pos (Or.inr (Or.inl d2))]
              · rw [if_neg d2]
                by_cases d3 : R.1 (70, 0) w = 3
                · rw [if_pos d3, if_pos (Or.inr (Or.inr d3))]
                · rw [if_neg d3, if_neg (fun z => z.elim (fun y => y d1) fun y => y.elim d2 d3)]
            · rw [if_neg d1, if_pos (Or.inl d1)]
          by_cases cs : ¬ R.1 (78, 0) w = 0 ∨ R.1 (79, 0) w = 4 ∨ R.1 (70, 0) w = 3
          · have gs : (if ¬ R.1 (78, 0) w = 0 ∨ R.1 (79, 0) w = 4 ∨ R.1 (70, 0) w = 3 then (1 : Int32) else 0) = 1 := if_pos cs
            have n10 : ¬ (1 : Int32) = 0 := by decide
            by_cases cA : R.1 (87, 0) k &&& 4 = 0
            · obtain ⟨C1, R1, a1, a2, a3, a4⟩ := cn_SI (er := 100) h (by omega) hi
              obtain ⟨C', R', y1, y2, y3⟩ := endD a3 (by omega) ((a4 (88, 0) k rfl).trans c88)
              refine ⟨1, C', R', Or.inr rfl, ?_, ?_, y3⟩
              · unfold fc_K_doPump
                rw [if_neg (by simp), se_gf (kd_40 k), q6, if_pos c88, se_gp (kd_40 k), pp1, se_gp (kd_40 k), pp2, se_gf (kd_20 i), q4, if_neg c51, se_cl (kd_30 w), he_C h.1 hw, ge, Option.bind_some, if_pos rfl, se_gf (kd_20 i)]
                dsimp only
                rw [q4, if_neg c1, se_cl (kd_30 w), is_C h.1 hw, gs, Option.bind_some, if_neg n10, se_gf (kd_40 k)]
                dsimp only
                rw [if_pos (f3.mpr cA), se_cl (kd_0 0), a1, Option.bind_some]
                exact y1
              · unfold fc_M_pump
                rw [mp_40 hp, ml_88 hk2, if_pos c88, mp_37 hp, ml_85 hk2, h85, mp_38 hp, ml_86 hk2, h86, mp_1 hp, ml_51 hi6, if_neg c51, mp_21 hp, ml_70 hw2, mp_21 hp, ml_70 hw2, MP0, if_neg c70, mp_1 hp, ml_51 hi6, if_neg c1, mp_29 hp, ml_78 hw2, mp_30 hp, ml_79 hw2, mp_21 hp, ml_70 hw2, MP1, if_pos cs]
                unfold fb_M_pump_208
                rw [mp_39 hp, ml_87 hk2, if_pos cA, se_cl (kd_50 0), a2, Option.bind_some]
                exact y2
            · obtain ⟨C', R', y1, y2, y3⟩ := endD h (by omega) c88
              refine ⟨1, C', R', Or.inr rfl, ?_, ?_, y3⟩
              · unfold fc_K_doPump
                rw [if_neg (by simp), se_gf (kd_40 k), q6, if_pos c88, se_gp (kd_40 k), pp1, se_gp (kd_40 k), pp2, se_gf (kd_20 i), q4, if_neg c51, se_cl (kd_30 w), he_C h.1 hw, ge, Option.bind_some, if_pos rfl, se_gf (kd_20 i)]
                dsimp only
                rw [q4, if_neg c1, se_cl (kd_30 w), is_C h.1 hw, gs, Option.bind_some, if_neg n10, se_gf (kd_40 k)]
                dsimp only
                rw [if_neg (fun z => cA (f3.mp z))]
                exact y1
              · unfold fc_M_pump
                rw [mp_40 hp, ml_88 hk2, if_pos c88, mp_37 hp, ml_85 hk2, h85, mp_38 hp, ml_86 hk2, h86, mp_1 hp, ml_51 hi6, if_neg c51, mp_21 hp, ml_70 hw2, mp_21 hp, ml_70 hw2, MP0, if_neg c70, mp_1 hp, ml_51 hi6, if_neg c1, mp_29 hp, ml_78 hw2, mp_30 hp, ml_79 hw2, mp_21 hp, ml_70 hw2, MP1, if_pos cs]
                unfold fb_M_pump_208
                rw [mp_39 hp, ml_87 hk2, if_neg cA]
                exact y2
          · have gs : (if ¬ R.1 (78, 0) w = 0 ∨ R.1 (79, 0) w = 4 ∨ R.1 (70, 0) w = 3 then (1 : Int32) else 0) = 0 := if_neg cs
            have n10 : ¬ (1 : Int32) = 0 := by decide
            have pre : fc_K_doPump (0, 0) (some (40, k)) C = xo_cl 8 (some (40, k)) (fun n11 => fc_P_mustWait n11 C) fun r8 => if r8.1 = 0 then (xo_cl 0 (some (0, 0)) (fun n10 => fc_K_request n10 (some (20, i)) (0 : Int32) r8.2) fun H9 => xo_gb (1 : Int32) (some ((1 : Int32), H9))) else (xo_gb (0 : Int32) (some ((0 : Int32), r8.2))) := by
              unfold fc_K_doPump
              rw [if_neg (by simp), se_gf (kd_40 k), q6, if_pos c88, se_gp (kd_40 k), pp1, se_gp (kd_40 k), pp2, se_gf (kd_20 i), q4, if_neg c51, se_cl (kd_30 w), he_C h.1 hw, ge, Option.bind_some, if_pos rfl, se_gf (kd_20 i)]
              dsimp only
              rw [q4, if_neg c1, se_cl (kd_30 w), is_C h.1 hw, gs, Option.bind_some, if_pos rfl]
            have preM : fc_M_pump (50, 0) (nI k) R = xo_cl 9 (some (50, 0)) (fun n28 => fc_M_asks n28 (nI k) R) fun r21 => if r21.1 = 0 then (xo_cl 9 (some (50, 0)) (fun n27 => fc_M_space n27 (nI w) r21.2) fun r22 => if 0 < r22.1 then (xo_gp 9 27 r22.2 (some (50, 0)) fun o23 => xo_al 0 r22.2 o23 (nI w) fun v24 => if v24 = (16 : Int32) then (xo_gb (0 : Int32) (some ((0 : Int32), r22.2))) else (xo_cl 9 (some (50, 0)) (fun n26 => fc_M_request n26 (nI i) ((-2 : Int32) - (nI k)) r22.2) fun H25 => xo_gb (1 : Int32) (some ((1 : Int32), H25)))) else (xo_gb (0 : Int32) (some ((0 : Int32), r22.2)))) else (xo_gb (0 : Int32) (some ((0 : Int32), r21.2))) := by
              unfold fc_M_pump
              rw [mp_40 hp, ml_88 hk2, if_pos c88, mp_37 hp, ml_85 hk2, h85, mp_38 hp, ml_86 hk2, h86, mp_1 hp, ml_51 hi6, if_neg c51, mp_21 hp, ml_70 hw2, mp_21 hp, ml_70 hw2, MP0, if_neg c70, mp_1 hp, ml_51 hi6, if_neg c1, mp_29 hp, ml_78 hw2, mp_30 hp, ml_79 hw2, mp_21 hp, ml_70 hw2, MP1, if_neg cs]
            rw [pre, preM, se_cl (kd_40 k), mw_C h hk hi hw pp1 pp2, se_cl (kd_50 0), as_R h hk c88 hi h85, Option.bind_some, Option.bind_some]
            have gm : ∀ {v : Int32}, (R.1 (62, 0) i = 0 ∧ 0 < rSpace R w ∧ ¬ R.1 (76, 0) w = 16 → v = 0) → (¬ (R.1 (62, 0) i = 0 ∧ 0 < rSpace R w ∧ ¬ R.1 (76, 0) w = 16) → v = 1) → (if R.1 (62, 0) i = 0 ∧ 0 < rSpace R w ∧ ¬ R.1 (76, 0) w = 16 then (0 : Int32) else 1) = v := fun {v} z1 z2 => by
              by_cases y : R.1 (62, 0) i = 0 ∧ 0 < rSpace R w ∧ ¬ R.1 (76, 0) w = 16
              · rw [if_pos y, z1 y]
              · rw [if_neg y, z2 y]
            by_cases d1 : R.1 (62, 0) i = 0
            · have ga : (if R.1 (62, 0) i = 0 then (0 : Int32) else 1) = 0 := if_pos d1
              by_cases d2 : 0 < rSpace R w
              · by_cases d3 : R.1 (76, 0) w = 16
                · rw [gm (v := 1) (fun z => absurd d3 z.2.2) (fun _ => rfl), ga]
                  refine ⟨0, C, R, Or.inl rfl, ?_, ?_, SI_more h (by omega)⟩
                  · rw [if_neg n10, se_gb0]
                  · rw [if_pos rfl, se_cl (kd_50 0), space_R hp hw2 m1 m16, Option.bind_some]
                    dsimp only
                    rw [if_pos d2, mp_27 hp, ml_76 hw2, if_pos d3, se_gb0]
                · obtain ⟨C', R', x1, x2, x3, -⟩ := rq_SI (who := -2 - nI k) h (by omega) hi (Or.inr ⟨k, w, hk, hw, c88, h85, h86, rfl, d1, d3⟩)
                  rw [en_k hk2] at x1
                  rw [gm (v := 0) (fun _ => rfl) (fun z => absurd ⟨d1, d2, d3⟩ z), ga]
                  refine ⟨1, C', R', Or.inr rfl, ?_, ?_, SI_more x3 (by omega)⟩
                  · rw [if_pos rfl, se_cl (kd_0 0), x1, Option.bind_some, se_gb1]
                  · rw [if_pos rfl, se_cl (kd_50 0), space_R hp hw2 m1 m16, Option.bind_some]
                    dsimp only
                    rw [if_pos d2, mp_27 hp, ml_76 hw2, if_neg d3, se_cl (kd_50 0), x2, Option.bind_some, se_gb1]
              · rw [gm (v := 1) (fun z => absurd z.2.1 d2) (fun _ => rfl), ga]
                refine ⟨0, C, R, Or.inl rfl, ?_, ?_, SI_more h (by omega)⟩
                · rw [if_neg n10, se_gb0]
                · rw [if_pos rfl, se_cl (kd_50 0), space_R hp hw2 m1 m16, Option.bind_some]
                  dsimp only
                  rw [if_neg d2, se_gb0]
            · have ga : (if R.1 (62, 0) i = 0 then (0 : Int32) else 1) = 1 := if_neg d1
              rw [gm (v := 1) (fun z => absurd z.1 d1) (fun _ => rfl), ga]
              refine ⟨0, C, R, Or.inl rfl, ?_, ?_, SI_more h (by omega)⟩
              · rw [if_neg n10, se_gb0]
              · rw [if_neg n10, se_gb0]
  · refine ⟨0, C, R, Or.inl rfl, ?_, ?_, SI_more h (by omega)⟩
    · unfold fc_K_doPump
      rw [if_neg (by simp), se_gf (kd_40 k), q6, if_neg c88, se_gb0]
    · unfold fc_M_pump
      rw [mp_40 hp, ml_88 hk2, if_neg c88, se_gb0]
end PM
