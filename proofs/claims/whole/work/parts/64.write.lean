section TB
variable {b g t p w : Nat} {C R : xo_H}
theorem rS_eq (hs : R.1 (70, 0) w = 0) : rGoesOn R w = rStart R w := by
  unfold rGoesOn
  rw [if_neg (by rw [hs]; exact fun z => absurd z.2 (by decide))]
theorem rStart_ne {m : xo_N} (h : (m.1 == 50 || m.1 == 93 || m.1 == 94 || m.1 == 95) = false) (h1 : ¬ m = (79, 0)) (h2 : ¬ m = (78, 0)) : (rStart R w).1 m = R.1 m := by
  unfold rStart
  by_cases c1 : R.1 (79, 0) w = 0
  · rw [if_pos c1]
    by_cases c2 : R.1 (70, 0) w = 0
    · rw [if_pos c2]
      by_cases c3 : 0 < R.1 (76, 0) w
      · rw [if_pos c3, hE_ne h, se_ne h1]
      · rw [if_neg c3]
        by_cases c4 : R.1 (78, 0) w = 0
        · rw [if_pos c4]
        · rw [if_neg c4, hE_ne h, se_ne h1, se_ne h2]
    · rw [if_neg c2]
  · rw [if_neg c1]
theorem ua_ne {i n : Nat} {v u : Int32} {m : xo_N} (h1 : ¬ m = (74, 0)) (h2 : ¬ m = (75, 0)) (h3 : ¬ m = (76, 0)) : (ua_R R i n v u).1 m = R.1 m := by
  unfold ua_R
  rw [se_ne h3, se_ne h2, se_ne h1]
/-- writeTo behind the counting of the write -/
def fr_w2 (w : Nat) (x2 v5 : Int32) (H3 : xo_H) : Option (Int32 × xo_H) := xo_gp 9 21 H3 (some (50, 0)) fun o6 =>
  xo_al 0 H3 o6 (nI w) fun v7 =>
  if v7 = (1 : Int32) then (fb_M_writeTo_37 (50, 0) (nI w) v5 H3)
  else (xo_gp 9 21 H3 (some (50, 0)) fun o8 =>
  xo_al 0 H3 o8 (nI w) fun v9 =>
  if v9 = (2 : Int32) then (fb_M_writeTo_37 (50, 0) (nI w) v5 H3)
  else (xo_gp 9 29 H3 (some (50, 0)) fun o10 =>
  xo_al 1 H3 o10 (nI w) fun v11 =>
  if v11 = 0 then (xo_gp 9 30 H3 (some (50, 0)) fun o12 =>
  xo_al 0 H3 o12 (nI w) fun v13 =>
  if v13 = (4 : Int32) then (fb_M_writeTo_83 (50, 0) (nI w) v5 H3)
  else (xo_gp 9 21 H3 (some (50, 0)) fun o14 =>
  xo_al 0 H3 o14 (nI w) fun v15 =>
  if v15 = (3 : Int32) then (fb_M_writeTo_83 (50, 0) (nI w) v5 H3)
  else (xo_gp 9 25 H3 (some (50, 0)) fun o16 =>
  xo_gp 9 27 H3 (some (50, 0)) fun o17 =>
  xo_al 0 H3 o17 (nI w) fun v18 =>
  xo_as H3 o16 (((16 : Int32) * (nI w)) + v18) x2 fun H19 =>
  xo_gp 9 26 H19 (some (50, 0)) fun o20 =>
  xo_gp 9 27 H19 (some (50, 0)) fun o21 =>
  xo_al 0 H19 o21 (nI w) fun v22 =>
  xo_as H19 o20 (((16 : Int32) * (nI w)) + v22) v5 fun H23 =>
  xo_gp 9 27 H23 (some (50, 0)) fun o24 =>
  xo_al 0 H23 o24 (nI w) fun v25 =>
  xo_as H23 o24 (nI w) (v25 + (1 : Int32)) fun H26 =>
  xo_cl 9 (some (50, 0)) (fun n28 => fc_M_goesOn n28 (nI w) H26) fun H27 =>
  some (v5, H27))))
  else (fb_M_writeTo_83 (50, 0) (nI w) v5 H3)))
/-- the reference's side -/
theorem w2_R {v u : Int32} (hp : R.2.1 = MP) (hw2 : w < 2) {n e : Nat} (hn : R.1 (76, 0) w = nI n) (h16 : n < 16) (he : R.1 (50, 0) 47 = nI e) (hb : e < 2 ^ 30) (hs : sm_st (R.1 (70, 0) w)) (hg : R.1 (70, 0) w = 0 → fc_M_goesOn (50, 0) (nI w) (ua_R R w n v u) = some (rStart (ua_R R w n v u) w)) : fr_w2 w v u R = some (u, rW2 R w v u) := by
  have hE1 : ∀ a c, fc_M_happen (50, 0) 10 (nI w) a c R = some (hE R 10 (nI w) a c) := fun a c => by
    rw [ev_happen hp he hb]; unfold hE; rw [he, nI_clamp (by omega)]
  unfold fr_w2 fb_M_writeTo_37 fb_M_writeTo_83 rW2
  simp only [se_gf (kd_50 0), se_pf (kd_50 0), se_cl (kd_50 0), mp_21 hp, mp_22 hp, mp_29 hp, mp_30 hp, ml_70 hw2, ml_71 hw2, ml_78 hw2, ml_79 hw2, hE1, Option.bind_some]
  by_cases c1 : R.1 (70, 0) w = 1
  · rw [if_pos c1, if_pos (Or.inl c1)]
  rw [if_neg c1]
  by_cases c2 : R.1 (70, 0) w = 2
  · rw [if_pos c2, if_pos (Or.inr c2)]
  rw [if_neg c2, if_neg (show ¬ (R.1 (70, 0) w = 1 ∨ R.1 (70, 0) w = 2) from fun z => z.elim c1 c2)]
  by_cases d : R.1 (78, 0) w = 0
  · rw [if_pos d]
    by_cases d2 : R.1 (79, 0) w = 4
    · rw [if_pos d2, if_pos (Or.inr (Or.inl d2))]
    rw [if_neg d2]
    by_cases d3 : R.1 (70, 0) w = 3
    · rw [if_pos d3, if_pos (Or.inr (Or.inr d3))]
    rw [if_neg d3, if_neg (show ¬ (¬ R.1 (78, 0) w = 0 ∨ R.1 (79, 0) w = 4 ∨ R.1 (70, 0) w = 3) from fun z => z.elim (fun y => y d) (fun y => y.elim d2 d3))]
    have d0 : R.1 (70, 0) w = 0 := by
      rcases hs with y | y | y | y
      · exact y
      · exact absurd y c1
      · exact absurd y c2
      · exact absurd y d3
    rw [mp_25 hp, mp_27 hp]
    simp only [ml_76 hw2]
    rw [hn, ix_16, nI_add, mq_74 (by omega), mp_26 (by exact hp), mp_27 (by exact hp)]
    simp only [ml_76 hw2]
    rw [se_nf (m := (76, 0)) (by simp), hn, nI_add, mq_75 (by omega), mp_27 (by exact hp)]
    simp only [ml_76 hw2, mq_76 hw2]
    rw [se_nf (m := (76, 0)) (by simp), se_nf (m := (76, 0)) (by simp), hn, nI_1]
    have hg' := hg d0
    unfold ua_R at hg' ⊢
    rw [hg', nI_clamp (by omega)]
    rfl
  · rw [if_neg d, if_pos (Or.inl d)]
end TB
