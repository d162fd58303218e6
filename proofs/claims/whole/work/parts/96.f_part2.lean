section PB
variable {b g t p q r : Nat} {C R : xo_H} {x : Int32}
theorem ai_C {f : Nat} (l : C.2.2 (42, r) = false) : fc_A_init (41, r) (some (20, r)) (some (20, f)) (some (20, f + 1)) (xo_sN C (41, r)) = some (xo_sP (xo_sP (xo_sP (xo_sN (xo_sP (xo_sN C (41, r)) (41, r) 0 (some (20, r))) (42, r)) (42, r) 0 (some (20, f))) (42, r) 1 (some (20, f + 1))) (41, r) 1 (some (42, r))) := by
  have l' : (xo_sP (xo_sN C (41, r)) (41, r) 0 (some (20, r))).2.2 (42, r) = false := by
    rw [se_P3, sN_3, if_neg (by simp)]
    exact l
  have e0 : (0 : Int32) = nI 0 := rfl
  have e1 : (1 : Int32) = nI 1 := rfl
  unfold fc_A_init
  rw [se_pp (kd_41 r)]
  show xo_na 2 (xo_sP (xo_sN C (41, r)) (41, r) 0 (some (20, r))) (42, r) 2 (2 : Int32) _ = _
  rw [se_na (v := 2) l' (kd_42 r) rfl (by decide)]
  show xo_aq 2 5 (xo_sN (xo_sP (xo_sN C (41, r)) (41, r) 0 (some (20, r))) (42, r)) (some (42, r)) (0 : Int32) (some (20, f)) _ = _
  rw [e0, se_aq (kd_42 r) (by decide) (by decide) (kd_20 f)]
  show xo_aq 2 5 _ (some (42, r)) (1 : Int32) (some (20, f + 1)) _ = _
  rw [e1, se_aq (kd_42 r) (by decide) (by decide) (kd_20 (f + 1)), se_pp (kd_41 r)]
theorem part_R (h : SI b g t p q C R) (hb : b + 3000 < 2 ^ 30) : CRes b q (fc_K_part (0, 0) x C) (fc_M_part (50, 0) x R) := by
  have hle := sm_le h.1
  have hp := sm_MP h.1
  obtain ⟨⟨e5, -, -⟩, ⟨r0, -, -⟩, -⟩ := sm_p h.1
  unfold fc_K_part fc_M_part
  by_cases hx : ∃ i, i < g ∧ x = nI i
  · obtain ⟨r, hr, e⟩ := hx
    subst e
    have hr6 : r < 6 := by omega
    obtain ⟨-, p0, p1, p2, p3, -⟩ := sm_ptr h.1 hr
    obtain ⟨m, m8, m1, m2⟩ := sm_an h.1 r
    rw [se_cl (kd_0 0), ga_C h.1 hr, Option.bind_some, se_cl (kd_50 0), ng_0 h.1 hr, Option.bind_some]
    dsimp only
    rw [if_neg (by simp), se_cl (kd_20 r), hb_C h.1 hr, Option.bind_some, if_pos rfl, mp_8 hp, ml_58 hr6]
    dsimp only
    by_cases c1 : R.1 (58, 0) r = 0
    · rw [if_pos c1, if_pos c1, se_gp (kd_20 r), se_cl (kd_50 0), ib_R hp hr6, Option.bind_some]
      rcases sm_orig h.1 hr with ⟨o1, o2⟩ | ⟨k, k1, k2, k3, -⟩
      · have ge : (if R.1 (66, 0) r < 0 then (0 : Int32) else 1) = 0 := by rw [o1]; rfl
        rw [o2, if_pos rfl, ge, if_pos rfl, se_gp (kd_20 r), p3, se_gf (kd_24 r), m2, mp_12 hp, ml_62 hr6, m1]
        by_cases c2 : 0 < nI m
        · rw [if_pos c2, if_pos c2]
          exact res_of h (by omega) rfl rfl
        · rw [if_neg c2, if_neg c2, se_gf (kd_0 0), e5, se_gf (kd_50 0), r0]
          by_cases c3 : (4 : Int32) < nI g
          · rw [if_pos c3, if_pos c3]
            exact res_of h (by omega) rfl rfl
          · have hg4 : g ≤ 4 := by
              rcases Nat.lt_or_ge 4 g with z | z
              · exact absurd (nI_lt (a := 4) z (by omega)) c3
              · exact z
            have h62 : R.1 (62, 0) r = 0 := by
              rw [m1]
              exact Decidable.of_not_not fun y => c2 ((nI_pos_iff (by omega)).mpr y)
            have h65 : R.1 (65, 0) r = -1 := Decidable.of_not_not fun y => by
              obtain ⟨f, -, -, z, -⟩ := sm_part h.1 hr y
              rw [c1] at z
              exact absurd z (by decide)
            obtain ⟨a1, -, s1⟩ := ag_SI (mk := 0) (bv := 0) h (by omega) (Or.inl rfl)
            obtain ⟨a2, -, s2⟩ := ag_SI (mk := 0) (bv := 0) s1 (by omega) (Or.inl rfl)
            have kR : ∀ a, ¬ a = 50 → (agR (agR R g 0 0 (-1)) (g + 1) 0 0 (-1)).1 (a, 0) r = R.1 (a, 0) r := fun a ha => by
              rw [agR_1 (fun z => ha z.1) (fun z => by omega), agR_1 (fun z => ha z.1) (fun z => by omega)]
            have v65 : (agR (agR R g 0 0 (-1)) (g + 1) 0 0 (-1)).1 (65, 0) g = -1 := by
              rw [agR_1 (by simp) (fun z => by omega)]
              exact (agR_n (R := R) (g := g) (mk := 0) (bv := 0) (pr := -1)).2.2.2.1
            have v66 : (agR (agR R g 0 0 (-1)) (g + 1) 0 0 (-1)).1 (66, 0) g = -1 := by
              rw [agR_1 (by simp) (fun z => by omega)]
              exact (agR_n (R := R) (g := g) (mk := 0) (bv := 0) (pr := -1)).2.2.2.2
            have v65' : (agR (agR R g 0 0 (-1)) (g + 1) 0 0 (-1)).1 (65, 0) (g + 1) = -1 := (agR_n (R := agR R g 0 0 (-1)) (g := g + 1) (mk := 0) (bv := 0) (pr := -1)).2.2.2.1
            have v66' : (agR (agR R g 0 0 (-1)) (g + 1) 0 0 (-1)).1 (66, 0) (g + 1) = -1 := (agR_n (R := agR R g 0 0 (-1)) (g := g + 1) (mk := 0) (bv := 0) (pr := -1)).2.2.2.2
            have k58 := (kR 58 (by decide)).trans c1
            have k65 := (kR 65 (by decide)).trans h65
            have k66 := (kR 66 (by decide)).trans o1
            have k62 := (kR 62 (by decide)).trans h62
            have k67 := ((Inv_P s2.2 r (by omega)).2 k65).1
            have M1 : fc_M_addGiver (50, 0) 0 0 (nI r) (xo_sE R (58, 0) r 2) = some (nI g, agR (xo_sE R (58, 0) r 2) g 0 0 (nI r)) := ag_R (by rw [se_ne (by simp)]; exact r0) (by omega) hp (Or.inl rfl)
            have M2 : fc_M_addGiver (50, 0) 0 0 (nI r) (agR (xo_sE R (58, 0) r 2) g 0 0 (nI r)) = some (nI (g + 1), agR (agR (xo_sE R (58, 0) r 2) g 0 0 (nI r)) (g + 1) 0 0 (nI r)) := ag_R (agR_n (R := xo_sE R (58, 0) r 2) (g := g) (mk := 0) (bv := 0) (pr := nI r)).1 (by omega) hp (Or.inl rfl)
            have hpA : (agR (agR (xo_sE R (58, 0) r 2) g 0 0 (nI r)) (g + 1) 0 0 (nI r)).2.1 = MP := hp
            have L41 := (sm_vl s2.1).2.2.2 41 r (Or.inl rfl) (fun _ => k65)
            have L42 := (sm_vl s2.1).2.2.2 42 r (Or.inr rfl) (fun _ => k65)
            generalize hC2 : agC (agC C g 0 0) (g + 1) 0 0 = C2 at a2 s2 L41 L42
            have eR := pt_R (R := R) (r := r) (g := g)
            generalize hR2 : agR (agR R g 0 0 (-1)) (g + 1) 0 0 (-1) = R2 at s2 k58 k65 k66 k62 k67 v65 v66 v65' v66' eR
            have s3 : SI b (g + 1 + 1) t p q (ptC C2 r g) (ptR R2 r g) := ⟨pt_sm s2 (by omega) (by omega) (by omega) (by omega) k58 k65 k66 v65 v65' v66 v66', pt_Inv s2.2 (by omega) (by omega) (by omega) k65 k62⟩
            have hp3 := sm_MP s3.1
            obtain ⟨r58, r65, r66⟩ := ptR_n (R := R2) (r := r) (f := g)
            have w65 : (ptR R2 r g).1 (65, 0) r = nI g := by rw [r65, if_pos rfl]
            have n65 : ¬ (ptR R2 r g).1 (65, 0) r = -1 := by rw [w65]; exact fun z => nI_m1 (by omega) z.symm
            have w67 : (ptR R2 r g).1 (67, 0) r = 0 := by rw [ptR_1 (by simp)]; exact k67
            have q4 := sm_get s3.1 20 4 51 r (by decide)
            have q5 := sm_get s3.1 20 5 52 r (by decide)
            have go : ∀ {b' : Nat} {D Y : xo_H}, SI b' (g + 1 + 1) t p q D Y → b' ≤ b + 50000 → CRes b q (fb_K_part_132 (0, 0) (some (20, g)) D) (fb_M_part_130 (50, 0) (nI g) Y) := fun {b' D Y} s hb' => by
              obtain ⟨D2, Y2, d1, d2, d3⟩ := wake_SI s
              refine res_of d3 hb' (a := nI g) ?_ ?_
              · unfold fb_K_part_132
                rw [se_cl (kd_0 0), d1, Option.bind_some, se_gf (kd_20 g), (sm_ptr d3.1 (i := g) (by omega)).2.1]
              · unfold fb_M_part_130
                rw [se_cl (kd_50 0), d2, Option.bind_some]
            rw [if_neg c3, if_neg c3, se_cl (kd_0 0), a1, Option.bind_some]
            dsimp only
            rw [se_cl (kd_0 0), a2, Option.bind_some, nI_clamp (by omega)]
            dsimp only
            rw [se_nw L41 (kd_41 r), ai_C L42, Option.bind_some, se_pp (kd_20 r), se_pp (kd_20 g), se_pp (kd_20 (g + 1)), mp_8 hp, mq_58 hr6, se_cl (kd_50 0), M1, Option.bind_some]
            dsimp only
            rw [se_cl (kd_50 0), M2, Option.bind_some]
            dsimp only
            rw [mp_15 hpA, mq_65 hr6, eR, mp_1 hp3, ml_51 hr6, mp_1 hp3, ml_51 hr6]
            show CRes b q (xo_gf 5 4 (ptC C2 r g) (some (20, r)) fun v15 => if v15 = (1 : Int32) then (xo_cl 0 (some (0, 0)) (fun n21 => fc_K_endBranches n21 (some (41, r)) (ptC C2 r g)) fun H20 => fb_K_part_132 (0, 0) (some (20, g)) H20) else (xo_gf 5 4 (ptC C2 r g) (some (20, r)) fun v16 => if v16 = (2 : Int32) then (xo_gf 5 5 (ptC C2 r g) (some (20, r)) fun v17 => xo_cl 0 (some (0, 0)) (fun n19 => fc_K_failBranches n19 (some (41, r)) v17 (ptC C2 r g)) fun H18 => fb_K_part_132 (0, 0) (some (20, g)) H18) else (fb_K_part_132 (0, 0) (some (20, g)) (ptC C2 r g)))) _
            rw [se_gf (kd_20 r), q4, se_gf (kd_20 r), q4]
            by_cases c4 : (ptR R2 r g).1 (51, 0) r = 1
            · obtain ⟨f', D, f1, f2, f3, f4, f5⟩ := eb_both s3.1 (by omega) s3.2.1 (show r < g + 1 + 1 by omega) n65
              rw [se_id w67] at f4 f5
              rw [if_pos c4, if_pos c4, se_cl (kd_0 0), f3, Option.bind_some, se_cl (kd_50 0), f4, Option.bind_some]
              exact go ⟨f5, rEB_Inv s3.2 f2⟩ (by omega)
            · rw [if_neg c4, if_neg c4]
              by_cases c5 : (ptR R2 r g).1 (51, 0) r = 2
              · have u0 : (ptR R2 r g).1 (65, 0) g = -1 := by rw [r65, if_neg (by omega)]; exact v65
                have u1 : (ptR R2 r g).1 (65, 0) (g + 1) = -1 := by rw [r65, if_neg (by omega)]; exact v65'
                obtain ⟨D, f1, f2, f3, f4⟩ := fb_C (er := (ptR R2 r g).1 (52, 0) r) s3.1 (by omega) (show r < g + 1 + 1 by omega) n65 w65 (by omega) (fun c hc => (iR_of s3 c hc).1) u0 u1
                have hp4 : (rFPo (ptR R2 r g) g ((ptR R2 r g).1 (52, 0) r)).2.1 = MP := by
                  obtain ⟨_, -, -, s⟩ := fpo_both (er := (ptR R2 r g).1 (52, 0) r) s3.1 (by omega) (show g < g + 1 + 1 by omega) ((iR_of s3 g (by omega)).1 u0)
                  exact sm_MP s
                have e52 : (rFPo (ptR R2 r g) g ((ptR R2 r g).1 (52, 0) r)).1 (52, 0) r = (ptR R2 r g).1 (52, 0) r := by
                  unfold rFPo
                  split
                  · rw [rFP_ev (52, 0) r rfl, se_nf (by simp; omega), se_ne (by simp), se_ne (by simp), se_ne (by simp)]
                  · rfl
                rw [if_pos c5, if_pos c5, se_gf (kd_20 r), q5, se_cl (kd_0 0), f1, Option.bind_some, mp_2 hp3, ml_52 hr6, se_cl (kd_50 0), f2, Option.bind_some, mp_2 hp4, ml_52 hr6, e52, se_cl (kd_50 0), f3, Option.bind_some]
                exact go ⟨f4, rFPo_Inv (rFPo_Inv s3.2 (by omega)) (by omega)⟩ (by omega)
              · rw [if_neg c5, if_neg c5]
                exact go s3 (by omega)
      · have ge : (if R.1 (66, 0) r < 0 then (0 : Int32) else 1) = 1 := by rw [k2, if_neg (nI_pos (by omega))]
        rw [k3, if_neg (by simp), ge, if_neg z10]
        exact res_of h (by omega) rfl rfl
    · rw [if_neg c1, if_neg c1]
      exact res_of h (by omega) rfl rfl
  · obtain ⟨r1, r2⟩ := no_g h.1 hx
    rw [se_cl (kd_0 0), r1, Option.bind_some, se_cl (kd_50 0), r2, Option.bind_some]
    dsimp only
    rw [if_pos rfl, if_neg (by decide)]
    exact res_of h (by omega) rfl rfl
end PB
