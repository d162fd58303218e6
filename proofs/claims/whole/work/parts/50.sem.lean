/-! the combinators where their guards hold -/
section SE
variable {α β : Type} {ci k t : Nat} {H : xo_H} {n q : xo_N} {v i : Int32} {w : Option xo_N}
theorem se_gf {K : Int32 → Option α} (h : xo_kd n = .inl ci) : xo_gf ci k H (some n) K = K (H.1 n k) := by simp [xo_gf, h]
theorem se_gp {K : Option xo_N → Option α} (h : xo_kd n = .inl ci) : xo_gp ci k H (some n) K = K (H.2.1 n k) := by simp [xo_gp, h]
theorem se_pf {K : xo_H → Option α} (h : xo_kd n = .inl ci) : xo_pf ci k H (some n) v K = K (xo_sE H n k v) := by simp [xo_pf, h]
theorem se_pz0 {K : xo_H → Option α} (h : xo_kd n = .inl ci) : xo_pz ci k H (some n) 0 K = K (xo_sE H n k 0) := by simp [xo_pz, h]
theorem se_pz1 {K : xo_H → Option α} (h : xo_kd n = .inl ci) : xo_pz ci k H (some n) 1 K = K (xo_sE H n k 1) := by simp [xo_pz, h]
theorem se_pz {K : xo_H → Option α} (h : xo_kd n = .inl ci) (hv : v = 0 ∨ v = 1) : xo_pz ci k H (some n) v K = K (xo_sE H n k v) := by simp [xo_pz, h, hv]
theorem se_pp {K : xo_H → Option α} (h : xo_kd n = .inl ci) : xo_pp ci k H (some n) w K = K (xo_sP H n k w) := by simp [xo_pp, h]
theorem se_cl {f : xo_N → Option β} {K : β → Option α} (h : xo_kd n = .inl ci) : xo_cl ci (some n) f K = (f n).bind K := by simp [xo_cl, h]
theorem se_gb0 {k : Option α} : xo_gb 0 k = k := by simp [xo_gb]
theorem se_gb1 {k : Option α} : xo_gb 1 k = k := by simp [xo_gb]
theorem se_gb {k : Option α} (hv : v = 0 ∨ v = 1) : xo_gb v k = k := by simp [xo_gb, hv]
theorem se_in {N : Nat} {j : Nat} (h : xo_kd n = .inr (t, N)) (hj : j < N) (hN : N < 2 ^ 31) : xo_in t n (nI j) = true := by
  simp only [xo_in, h]
  have : ¬ (nI j < 0 ∨ N ≤ (nI j).toNatClampNeg) := nI_in hj hN
  simp [this]
theorem se_al {K : Int32 → Option α} {N : Nat} {j : Nat} (h : xo_kd n = .inr (t, N)) (hj : j < N) (hN : N < 2 ^ 31) : xo_al t H (some n) (nI j) K = K (H.1 n j) := by
  simp only [xo_al, Option.bind_some, se_in h hj hN, if_true, nI_clamp (show j < 2 ^ 31 by omega)]
theorem se_ap {K : Option xo_N → Option α} {N : Nat} {j : Nat} (h : xo_kd n = .inr (t, N)) (hj : j < N) (hN : N < 2 ^ 31) : xo_ap t H (some n) (nI j) K = K (H.2.1 n j) := by
  simp only [xo_ap, Option.bind_some, se_in h hj hN, if_true, nI_clamp (show j < 2 ^ 31 by omega)]
theorem se_as {K : xo_H → Option α} {N : Nat} {j : Nat} (h : xo_kd n = .inr (0, N)) (hj : j < N) (hN : N < 2 ^ 31) : xo_as H (some n) (nI j) v K = K (xo_sE H n j v) := by
  simp only [xo_as, Option.bind_some, se_in h hj hN, if_true, nI_clamp (show j < 2 ^ 31 by omega)]
theorem se_az {K : xo_H → Option α} {N : Nat} {j : Nat} (h : xo_kd n = .inr (1, N)) (hj : j < N) (hN : N < 2 ^ 31) (hv : v = 0 ∨ v = 1) : xo_az H (some n) (nI j) v K = K (xo_sE H n j v) := by
  simp only [xo_az, Option.bind_some, se_in h hj hN, hv, and_self, if_true, nI_clamp (show j < 2 ^ 31 by omega)]
theorem se_aq {K : xo_H → Option α} {N : Nat} {j : Nat} (h : xo_kd n = .inr (t, N)) (hj : j < N) (hN : N < 2 ^ 31) (hq : xo_kd q = .inl ci) : xo_aq t ci H (some n) (nI j) (some q) K = K (xo_sP H n j (some q)) := by
  simp only [xo_aq, Option.bind_some, se_in h hj hN, hq, and_self, if_true, nI_clamp (show j < 2 ^ 31 by omega)]
theorem se_ln {K : Int32 → Option α} {N : Nat} (h : xo_kd n = .inr (t, N)) (ht : t < 5) : xo_ln (some n) K = K (nI N) := by
  simp only [xo_ln, Option.bind_some, h, ht, if_true]; rfl
theorem se_rm {K : Int32 → Option α} {a d : Nat} (ha : a < 2 ^ 31) (h0 : 0 < d) (hd : d < 2 ^ 31) : xo_rm (nI a) (nI d) K = K (nI (a % d)) := by
  simp only [xo_rm, if_neg (nI_ne0 h0 hd), pk_rem ha h0 hd]
theorem se_E1 (f : Nat) (m : xo_N) (g : Nat) : (xo_sE H n f v).1 m g = if m = n ∧ g = f then v else H.1 m g := rfl
theorem se_E2 (f : Nat) : (xo_sE H n f v).2 = H.2 := rfl
theorem se_P1 (f : Nat) : (xo_sP H n f w).1 = H.1 := rfl
theorem se_P2 (f : Nat) (m : xo_N) (g : Nat) : (xo_sP H n f w).2.1 m g = if m = n ∧ g = f then w else H.2.1 m g := rfl
theorem se_P3 (f : Nat) : (xo_sP H n f w).2.2 = H.2.2 := rfl
end SE
theorem kd_0 (i : Nat) : xo_kd (0, i) = .inl 0 := rfl
theorem kd_1 (i : Nat) : xo_kd (1, i) = .inl 1 := rfl
theorem kd_2 (i : Nat) : xo_kd (2, i) = .inr (0, 64) := rfl
theorem kd_3 (i : Nat) : xo_kd (3, i) = .inr (0, 64) := rfl
theorem kd_4 (i : Nat) : xo_kd (4, i) = .inr (0, 64) := rfl
theorem kd_5 (i : Nat) : xo_kd (5, i) = .inl 2 := rfl
theorem kd_6 (i : Nat) : xo_kd (6, i) = .inl 3 := rfl
theorem kd_7 (i : Nat) : xo_kd (7, i) = .inr (0, 16) := rfl
theorem kd_8 (i : Nat) : xo_kd (8, i) = .inl 3 := rfl
theorem kd_9 (i : Nat) : xo_kd (9, i) = .inr (0, 16) := rfl
theorem kd_10 (i : Nat) : xo_kd (10, i) = .inl 3 := rfl
theorem kd_11 (i : Nat) : xo_kd (11, i) = .inr (0, 16) := rfl
theorem kd_12 (i : Nat) : xo_kd (12, i) = .inr (2, 6) := rfl
theorem kd_13 (i : Nat) : xo_kd (13, i) = .inr (3, 2) := rfl
theorem kd_14 (i : Nat) : xo_kd (14, i) = .inr (4, 2) := rfl
theorem kd_20 (i : Nat) : xo_kd (20, i) = .inl 5 := rfl
theorem kd_21 (i : Nat) : xo_kd (21, i) = .inl 4 := rfl
theorem kd_22 (i : Nat) : xo_kd (22, i) = .inl 3 := rfl
theorem kd_23 (i : Nat) : xo_kd (23, i) = .inr (0, 16) := rfl
theorem kd_24 (i : Nat) : xo_kd (24, i) = .inl 3 := rfl
theorem kd_25 (i : Nat) : xo_kd (25, i) = .inr (0, 8) := rfl
theorem kd_30 (i : Nat) : xo_kd (30, i) = .inl 7 := rfl
theorem kd_31 (i : Nat) : xo_kd (31, i) = .inl 4 := rfl
theorem kd_32 (i : Nat) : xo_kd (32, i) = .inl 3 := rfl
theorem kd_33 (i : Nat) : xo_kd (33, i) = .inr (0, 16) := rfl
theorem kd_34 (i : Nat) : xo_kd (34, i) = .inl 3 := rfl
theorem kd_35 (i : Nat) : xo_kd (35, i) = .inr (0, 16) := rfl
theorem kd_40 (i : Nat) : xo_kd (40, i) = .inl 8 := rfl
theorem kd_41 (i : Nat) : xo_kd (41, i) = .inl 6 := rfl
theorem kd_42 (i : Nat) : xo_kd (42, i) = .inr (2, 2) := rfl
theorem kd_50 (i : Nat) : xo_kd (50, i) = .inl 9 := rfl
theorem kd_51 (i : Nat) : xo_kd (51, i) = .inr (0, 6) := rfl
theorem kd_52 (i : Nat) : xo_kd (52, i) = .inr (0, 6) := rfl
theorem kd_53 (i : Nat) : xo_kd (53, i) = .inr (0, 6) := rfl
theorem kd_54 (i : Nat) : xo_kd (54, i) = .inr (1, 6) := rfl
theorem kd_55 (i : Nat) : xo_kd (55, i) = .inr (1, 6) := rfl
theorem kd_56 (i : Nat) : xo_kd (56, i) = .inr (1, 6) := rfl
theorem kd_57 (i : Nat) : xo_kd (57, i) = .inr (1, 6) := rfl
theorem kd_58 (i : Nat) : xo_kd (58, i) = .inr (0, 6) := rfl
theorem kd_59 (i : Nat) : xo_kd (59, i) = .inr (0, 96) := rfl
theorem kd_60 (i : Nat) : xo_kd (60, i) = .inr (0, 6) := rfl
theorem kd_61 (i : Nat) : xo_kd (61, i) = .inr (0, 48) := rfl
theorem kd_62 (i : Nat) : xo_kd (62, i) = .inr (0, 6) := rfl
theorem kd_63 (i : Nat) : xo_kd (63, i) = .inr (0, 6) := rfl
theorem kd_64 (i : Nat) : xo_kd (64, i) = .inr (1, 6) := rfl
theorem kd_65 (i : Nat) : xo_kd (65, i) = .inr (0, 6) := rfl
theorem kd_66 (i : Nat) : xo_kd (66, i) = .inr (0, 6) := rfl
theorem kd_67 (i : Nat) : xo_kd (67, i) = .inr (1, 6) := rfl
theorem kd_68 (i : Nat) : xo_kd (68, i) = .inr (1, 6) := rfl
theorem kd_69 (i : Nat) : xo_kd (69, i) = .inr (1, 6) := rfl
theorem kd_70 (i : Nat) : xo_kd (70, i) = .inr (0, 2) := rfl
theorem kd_71 (i : Nat) : xo_kd (71, i) = .inr (0, 2) := rfl
theorem kd_72 (i : Nat) : xo_kd (72, i) = .inr (0, 2) := rfl
theorem kd_73 (i : Nat) : xo_kd (73, i) = .inr (1, 2) := rfl
theorem kd_74 (i : Nat) : xo_kd (74, i) = .inr (0, 32) := rfl
theorem kd_75 (i : Nat) : xo_kd (75, i) = .inr (0, 32) := rfl
theorem kd_76 (i : Nat) : xo_kd (76, i) = .inr (0, 2) := rfl
theorem kd_77 (i : Nat) : xo_kd (77, i) = .inr (0, 2) := rfl
theorem kd_78 (i : Nat) : xo_kd (78, i) = .inr (1, 2) := rfl
theorem kd_79 (i : Nat) : xo_kd (79, i) = .inr (0, 2) := rfl
theorem kd_80 (i : Nat) : xo_kd (80, i) = .inr (1, 2) := rfl
theorem kd_81 (i : Nat) : xo_kd (81, i) = .inr (0, 2) := rfl
theorem kd_82 (i : Nat) : xo_kd (82, i) = .inr (1, 2) := rfl
theorem kd_83 (i : Nat) : xo_kd (83, i) = .inr (1, 2) := rfl
theorem kd_84 (i : Nat) : xo_kd (84, i) = .inr (1, 2) := rfl
theorem kd_85 (i : Nat) : xo_kd (85, i) = .inr (0, 2) := rfl
theorem kd_86 (i : Nat) : xo_kd (86, i) = .inr (0, 2) := rfl
theorem kd_87 (i : Nat) : xo_kd (87, i) = .inr (0, 2) := rfl
theorem kd_88 (i : Nat) : xo_kd (88, i) = .inr (1, 2) := rfl
theorem kd_89 (i : Nat) : xo_kd (89, i) = .inr (1, 2) := rfl
theorem kd_90 (i : Nat) : xo_kd (90, i) = .inr (0, 64) := rfl
theorem kd_91 (i : Nat) : xo_kd (91, i) = .inr (0, 64) := rfl
theorem kd_92 (i : Nat) : xo_kd (92, i) = .inr (0, 64) := rfl
theorem kd_93 (i : Nat) : xo_kd (93, i) = .inr (0, 64) := rfl
theorem kd_94 (i : Nat) : xo_kd (94, i) = .inr (0, 64) := rfl
theorem kd_95 (i : Nat) : xo_kd (95, i) = .inr (0, 64) := rfl
/-- the reference's own pointers -/
def MP (n : xo_N) (f : Nat) : Option xo_N := if n = (50, 0) then (match f with
  | 1 => some (51, 0)
  | 2 => some (52, 0)
  | 3 => some (53, 0)
  | 4 => some (54, 0)
  | 5 => some (55, 0)
  | 6 => some (56, 0)
  | 7 => some (57, 0)
  | 8 => some (58, 0)
  | 9 => some (59, 0)
  | 10 => some (60, 0)
  | 11 => some (61, 0)
  | 12 => some (62, 0)
  | 13 => some (63, 0)
  | 14 => some (64, 0)
  | 15 => some (65, 0)
  | 16 => some (66, 0)
  | 17 => some (67, 0)
  | 18 => some (68, 0)
  | 19 => some (69, 0)
  | 21 => some (70, 0)
  | 22 => some (71, 0)
  | 23 => some (72, 0)
  | 24 => some (73, 0)
  | 25 => some (74, 0)
  | 26 => some (75, 0)
  | 27 => some (76, 0)
  | 28 => some (77, 0)
  | 29 => some (78, 0)
  | 30 => some (79, 0)
  | 31 => some (80, 0)
  | 32 => some (81, 0)
  | 33 => some (82, 0)
  | 34 => some (83, 0)
  | 35 => some (84, 0)
  | 37 => some (85, 0)
  | 38 => some (86, 0)
  | 39 => some (87, 0)
  | 40 => some (88, 0)
  | 41 => some (89, 0)
  | 44 => some (90, 0)
  | 45 => some (91, 0)
  | 46 => some (92, 0)
  | 48 => some (93, 0)
  | 49 => some (94, 0)
  | 50 => some (95, 0)
  | _ => none) else none
section SM
variable {α : Type} {R : xo_H} {v : Int32} {r : Nat}
theorem mp_1 {K : Option xo_N → Option α} (hp : R.2.1 = MP) : xo_gp 9 1 R (some (50, 0)) K = K (some (51, 0)) := by rw [se_gp (kd_50 0), hp]; rfl
theorem ml_51 {K : Int32 → Option α} (hr : r < 6) : xo_al 0 R (some (51, 0)) (nI r) K = K (R.1 (51, 0) r) := se_al (kd_51 0) hr (by decide)
theorem mq_51 {K : xo_H → Option α} (hr : r < 6) : xo_as R (some (51, 0)) (nI r) v K = K (xo_sE R (51, 0) r v) := se_as (kd_51 0) hr (by decide)
theorem mp_2 {K : Option xo_N → Option α} (hp : R.2.1 = MP) : xo_gp 9 2 R (some (50, 0)) K = K (some (52, 0)) := by rw [se_gp (kd_50 0), hp]; rfl
theorem ml_52 {K : Int32 → Option α} (hr : r < 6) : xo_al 0 R (some (52, 0)) (nI r) K = K (R.1 (52, 0) r) := se_al (kd_52 0) hr (by decide)
theorem mq_52 {K : xo_H → Option α} (hr : r < 6) : xo_as R (some (52, 0)) (nI r) v K = K (xo_sE R (52, 0) r v) := se_as (kd_52 0) hr (by decide)
theorem mp_3 {K : Option xo_N → Option α} (hp : R.2.1 = MP) : xo_gp 9 3 R (some (50, 0)) K = K (some (53, 0)) := by rw [se_gp (kd_50 0), hp]; rfl
theorem ml_53 {K : Int32 → Option α} (hr : r < 6) : xo_al 0 R (some (53, 0)) (nI r) K = K (R.1 (53, 0) r) := se_al (kd_53 0) hr (by decide)
theorem mq_53 {K : xo_H → Option α} (hr : r < 6) : xo_as R (some (53, 0)) (nI r) v K = K (xo_sE R (53, 0) r v) := se_as (kd_53 0) hr (by decide)
theorem mp_4 {K : Option xo_N → Option α} (hp : R.2.1 = MP) : xo_gp 9 4 R (some (50, 0)) K = K (some (54, 0)) := by rw [se_gp (kd_50 0), hp]; rfl
theorem ml_54 {K : Int32 → Option α} (hr : r < 6) : xo_al 1 R (some (54, 0)) (nI r) K = K (R.1 (54, 0) r) := se_al (kd_54 0) hr (by decide)
theorem mq_54 {K : xo_H → Option α} (hr : r < 6) (hv : v = 0 ∨ v = 1) : xo_az R (some (54, 0)) (nI r) v K = K (xo_sE R (54, 0) r v) := se_az (kd_54 0) hr (by decide) hv
theorem mq0_54 {K : xo_H → Option α} (hr : r < 6) : xo_az R (some (54, 0)) (nI r) 0 K = K (xo_sE R (54, 0) r 0) := se_az (kd_54 0) hr (by decide) (by decide)
theorem mq1_54 {K : xo_H → Option α} (hr : r < 6) : xo_az R (some (54, 0)) (nI r) 1 K = K (xo_sE R (54, 0) r 1) := se_az (kd_54 0) hr (by decide) (by decide)
theorem mp_5 {K : Option xo_N → Option α} (hp : R.2.1 = MP) : xo_gp 9 5 R (some (50, 0)) K = K (some (55, 0)) := by rw [se_gp (kd_50 0), hp]; rfl
theorem ml_55 {K : Int32 → Option α} (hr : r < 6) : xo_al 1 R (some (55, 0)) (nI r) K = K (R.1 (55, 0) r) := se_al (kd_55 0) hr (by decide)
theorem mq_55 {K : xo_H → Option α} (hr : r < 6) (hv : v = 0 ∨ v = 1) : xo_az R (some (55, 0)) (nI r) v K = K (xo_sE R (55, 0) r v) := se_az (kd_55 0) hr (by decide) hv
theorem mq0_55 {K : xo_H → Option α} (hr : r < 6) : xo_az R (some (55, 0)) (nI r) 0 K = K (xo_sE R (55, 0) r 0) := se_az (kd_55 0) hr (by decide) (by decide)
theorem mq1_55 {K : xo_H → Option α} (hr : r < 6) : xo_az R (some (55, 0)) (nI r) 1 K = K (xo_sE R (55, 0) r 1) := se_az (kd_55 0) hr (by decide) (by decide)
theorem mp_6 {K : Option xo_N → Option α} (hp : R.2.1 = MP) : xo_gp 9 6 R (some (50, 0)) K = K (some (56, 0)) := by rw [se_gp (kd_50 0), hp]; rfl
theorem ml_56 {K : Int32 → Option α} (hr : r < 6) : xo_al 1 R (some (56, 0)) (nI r) K = K (R.1 (56, 0) r) := se_al (kd_56 0) hr (by decide)
theorem mq_56 {K : xo_H → Option α} (hr : r < 6) (hv : v = 0 ∨ v = 1) : xo_az R (some (56, 0)) (nI r) v K = K (xo_sE R (56, 0) r v) := se_az (kd_56 0) hr (by decide) hv
theorem mq0_56 {K : xo_H → Option α} (hr : r < 6) : xo_az R (some (56, 0)) (nI r) 0 K = K (xo_sE R (56, 0) r 0) := se_az (kd_56 0) hr (by decide) (by decide)
theorem mq1_56 {K : xo_H → Option α} (hr : r < 6) : xo_az R (some (56, 0)) (nI r) 1 K = K (xo_sE R (56, 0) r 1) := se_az (kd_56 0) hr (by decide) (by decide)
theorem mp_7 {K : Option xo_N → Option α} (hp : R.2.1 = MP) : xo_gp 9 7 R (some (50, 0)) K = K (some (57, 0)) := by rw [se_gp (kd_50 0), hp]; rfl
theorem ml_57 {K : Int32 → Option α} (hr : r < 6) : xo_al 1 R (some (57, 0)) (nI r) K = K (R.1 (57, 0) r) := se_al (kd_57 0) hr (by decide)
theorem mq_57 {K : xo_H → Option α} (hr : r < 6) (hv : v = 0 ∨ v = 1) : xo_az R (some (57, 0)) (nI r) v K = K (xo_sE R (57, 0) r v) := se_az (kd_57 0) hr (by decide) hv
theorem mq0_57 {K : xo_H → Option α} (hr : r < 6) : xo_az R (some (57, 0)) (nI r) 0 K = K (xo_sE R (57, 0) r 0) := se_az (kd_57 0) hr (by decide) (by decide)
theorem mq1_57 {K : xo_H → Option α} (hr : r < 6) : xo_az R (some (57, 0)) (nI r) 1 K = K (xo_sE R (57, 0) r 1) := se_az (kd_57 0) hr (by decide) (by decide)
theorem mp_8 {K : Option xo_N → Option α} (hp : R.2.1 = MP) : xo_gp 9 8 R (some (50, 0)) K = K (some (58, 0)) := by rw [se_gp (kd_50 0), hp]; rfl
theorem ml_58 {K : Int32 → Option α} (hr : r < 6) : xo_al 0 R (some (58, 0)) (nI r) K = K (R.1 (58, 0) r) := se_al (kd_58 0) hr (by decide)
theorem mq_58 {K : xo_H → Option α} (hr : r < 6) : xo_as R (some (58, 0)) (nI r) v K = K (xo_sE R (58, 0) r v) := se_as (kd_58 0) hr (by decide)
theorem mp_9 {K : Option xo_N → Option α} (hp : R.2.1 = MP) : xo_gp 9 9 R (some (50, 0)) K = K (some (59, 0)) := by rw [se_gp (kd_50 0), hp]; rfl
theorem ml_59 {K : Int32 → Option α} (hr : r < 96) : xo_al 0 R (some (59, 0)) (nI r) K = K (R.1 (59, 0) r) := se_al (kd_59 0) hr (by decide)
theorem mq_59 {K : xo_H → Option α} (hr : r < 96) : xo_as R (some (59, 0)) (nI r) v K = K (xo_sE R (59, 0) r v) := se_as (kd_59 0) hr (by decide)
theorem mp_10 {K : Option xo_N → Option α} (hp : R.2.1 = MP) : xo_gp 9 10 R (some (50, 0)) K = K (some (60, 0)) := by rw [se_gp (kd_50 0), hp]; rfl
theorem ml_60 {K : Int32 → Option α} (hr : r < 6) : xo_al 0 R (some (60, 0)) (nI r) K = K (R.1 (60, 0) r) := se_al (kd_60 0) hr (by decide)
theorem mq_60 {K : xo_H → Option α} (hr : r < 6) : xo_as R (some (60, 0)) (nI r) v K = K (xo_sE R (60, 0) r v) := se_as (kd_60 0) hr (by decide)
theorem mp_11 {K : Option xo_N → Option α} (hp : R.2.1 = MP) : xo_gp 9 11 R (some (50, 0)) K = K (some (61, 0)) := by rw [se_gp (kd_50 0), hp]; rfl
theorem ml_61 {K : Int32 → Option α} (hr : r < 48) : xo_al 0 R (some (61, 0)) (nI r) K = K (R.1 (61, 0) r) := se_al (kd_61 0) hr (by decide)
theorem mq_61 {K : xo_H → Option α} (hr : r < 48) : xo_as R (some (61, 0)) (nI r) v K = K (xo_sE R (61, 0) r v) := se_as (kd_61 0) hr (by decide)
theorem mp_12 {K : Option xo_N → Option α} (hp : R.2.1 = MP) : xo_gp 9 12 R (some (50, 0)) K = K (some (62, 0)) := by rw [se_gp (kd_50 0), hp]; rfl
theorem ml_62 {K : Int32 → Option α} (hr : r < 6) : xo_al 0 R (some (62, 0)) (nI r) K = K (R.1 (62, 0) r) := se_al (kd_62 0) hr (by decide)
theorem mq_62 {K : xo_H → Option α} (hr : r < 6) : xo_as R (some (62, 0)) (nI r) v K = K (xo_sE R (62, 0) r v) := se_as (kd_62 0) hr (by decide)
theorem mp_13 {K : Option xo_N → Option α} (hp : R.2.1 = MP) : xo_gp 9 13 R (some (50, 0)) K = K (some (63, 0)) := by rw [se_gp (kd_50 0), hp]; rfl
theorem ml_63 {K : Int32 → Option α} (hr : r < 6) : xo_al 0 R (some (63, 0)) (nI r) K = K (R.1 (63, 0) r) := se_al (kd_63 0) hr (by decide)
theorem mq_63 {K : xo_H → Option α} (hr : r < 6) : xo_as R (some (63, 0)) (nI r) v K = K (xo_sE R (63, 0) r v) := se_as (kd_63 0) hr (by decide)
theorem mp_14 {K : Option xo_N → Option α} (hp : R.2.1 = MP) : xo_gp 9 14 R (some (50, 0)) K = K (some (64, 0)) := by rw [se_gp (kd_50 0), hp]; rfl
theorem ml_64 {K : Int32 → Option α} (hr : r < 6) : xo_al 1 R (some (64, 0)) (nI r) K = K (R.1 (64, 0) r) := se_al (kd_64 0) hr (by decide)
theorem mq_64 {K : xo_H → Option α} (hr : r < 6) (hv : v = 0 ∨ v = 1) : xo_az R (some (64, 0)) (nI r) v K = K (xo_sE R (64, 0) r v) := se_az (kd_64 0) hr (by decide) hv
theorem mq0_64 {K : xo_H → Option α} (hr : r < 6) : xo_az R (some (64, 0)) (nI r) 0 K = K (xo_sE R (64, 0) r 0) := se_az (kd_64 0) hr (by decide) (by decide)
theorem mq1_64 {K : xo_H → Option α} (hr : r < 6) : xo_az R (some (64, 0)) (nI r) 1 K = K (xo_sE R (64, 0) r 1) := se_az (kd_64 0) hr (by decide) (by decide)
theorem mp_15 {K : Option xo_N → Option α} (hp : R.2.1 = MP) : xo_gp 9 15 R (some (50, 0)) K = K (some (65, 0)) := by rw [se_gp (kd_50 0), hp]; rfl
theorem ml_65 {K : Int32 → Option α} (hr : r < 6) : xo_al 0 R (some (65, 0)) (nI r) K = K (R.1 (65, 0) r) := se_al (kd_65 0) hr (by decide)
theorem mq_65 {K : xo_H → Option α} (hr : r < 6) : xo_as R (some (65, 0)) (nI r) v K = K (xo_sE R (65, 0) r v) := se_as (kd_65 0) hr (by decide)
theorem mp_16 {K : Option xo_N → Option α} (hp : R.2.1 = MP) : xo_gp 9 16 R (some (50, 0)) K = K (some (66, 0)) := by rw [se_gp (kd_50 0), hp]; rfl
theorem ml_66 {K : Int32 → Option α} (hr : r < 6) : xo_al 0 R (some (66, 0)) (nI r) K = K (R.1 (66, 0) r) := se_al (kd_66 0) hr (by decide)
theorem mq_66 {K : xo_H → Option α} (hr : r < 6) : xo_as R (some (66, 0)) (nI r) v K = K (xo_sE R (66, 0) r v) := se_as (kd_66 0) hr (by decide)
theorem mp_17 {K : Option xo_N → Option α} (hp : R.2.1 = MP) : xo_gp 9 17 R (some (50, 0)) K = K (some (67, 0)) := by rw [se_gp (kd_50 0), hp]; rfl
theorem ml_67 {K : Int32 → Option α} (hr : r < 6) : xo_al 1 R (some (67, 0)) (nI r) K = K (R.1 (67, 0) r) := se_al (kd_67 0) hr (by decide)
theorem mq_67 {K : xo_H → Option α} (hr : r < 6) (hv : v = 0 ∨ v = 1) : xo_az R (some (67, 0)) (nI r) v K = K (xo_sE R (67, 0) r v) := se_az (kd_67 0) hr (by decide) hv
theorem mq0_67 {K : xo_H → Option α} (hr : r < 6) : xo_az R (some (67, 0)) (nI r) 0 K = K (xo_sE R (67, 0) r 0) := se_az (kd_67 0) hr (by decide) (by decide)
theorem mq1_67 {K : xo_H → Option α} (hr : r < 6) : xo_az R (some (67, 0)) (nI r) 1 K = K (xo_sE R (67, 0) r 1) := se_az (kd_67 0) hr (by decide) (by decide)
theorem mp_18 {K : Option xo_N → Option α} (hp : R.2.1 = MP) : xo_gp 9 18 R (some (50, 0)) K = K (some (68, 0)) := by rw [se_gp (kd_50 0), hp]; rfl
theorem ml_68 {K : Int32 → Option α} (hr : r < 6) : xo_al 1 R (some (68, 0)) (nI r) K = K (R.1 (68, 0) r) := se_al (kd_68 0) hr (by decide)
theorem mq_68 {K : xo_H → Option α} (hr : r < 6) (hv : v = 0 ∨ v = 1) : xo_az R (some (68, 0)) (nI r) v K = K (xo_sE R (68, 0) r v) := se_az (kd_68 0) hr (by decide) hv
theorem mq0_68 {K : xo_H → Option α} (hr : r < 6) : xo_az R (some (68, 0)) (nI r) 0 K = K (xo_sE R (68, 0) r 0) := se_az (kd_68 0) hr (by decide) (by decide)
theorem mq1_68 {K : xo_H → Option α} (hr : r < 6) : xo_az R (some (68, 0)) (nI r) 1 K = K (xo_sE R (68, 0) r 1) := se_az (kd_68 0) hr (by decide) (by decide)
theorem mp_19 {K : Option xo_N → Option α} (hp : R.2.1 = MP) : xo_gp 9 19 R (some (50, 0)) K = K (some (69, 0)) := by rw [se_gp (kd_50 0), hp]; rfl
theorem ml_69 {K : Int32 → Option α} (hr : r < 6) : xo_al 1 R (some (69, 0)) (nI r) K = K (R.1 (69, 0) r) := se_al (kd_69 0) hr (by decide)
theorem mq_69 {K : xo_H → Option α} (hr : r < 6) (hv : v = 0 ∨ v = 1) : xo_az R (some (69, 0)) (nI r) v K = K (xo_sE R (69, 0) r v) := se_az (kd_69 0) hr (by decide) hv
theorem mq0_69 {K : xo_H → Option α} (hr : r < 6) : xo_az R (some (69, 0)) (nI r) 0 K = K (xo_sE R (69, 0) r 0) := se_az (kd_69 0) hr (by decide) (by decide)
theorem mq1_69 {K : xo_H → Option α} (hr : r < 6) : xo_az R (some (69, 0)) (nI r) 1 K = K (xo_sE R (69, 0) r 1) := se_az (kd_69 0) hr (by decide) (by decide)
theorem mp_21 {K : Option xo_N → Option α} (hp : R.2.1 = MP) : xo_gp 9 21 R (some (50, 0)) K = K (some (70, 0)) := by rw [se_gp (kd_50 0), hp]; rfl
theorem ml_70 {K : Int32 → Option α} (hr : r < 2) : xo_al 0 R (some (70, 0)) (nI r) K = K (R.1 (70, 0) r) := se_al (kd_70 0) hr (by decide)
theorem mq_70 {K : xo_H → Option α} (hr : r < 2) : xo_as R (some (70, 0)) (nI r) v K = K (xo_sE R (70, 0) r v) := se_as (kd_70 0) hr (by decide)
theorem mp_22 {K : Option xo_N → Option α} (hp : R.2.1 = MP) : xo_gp 9 22 R (some (50, 0)) K = K (some (71, 0)) := by rw [se_gp (kd_50 0), hp]; rfl
theorem ml_71 {K : Int32 → Option α} (hr : r < 2) : xo_al 0 R (some (71, 0)) (nI r) K = K (R.1 (71, 0) r) := se_al (kd_71 0) hr (by decide)
theorem mq_71 {K : xo_H → Option α} (hr : r < 2) : xo_as R (some (71, 0)) (nI r) v K = K (xo_sE R (71, 0) r v) := se_as (kd_71 0) hr (by decide)
theorem mp_23 {K : Option xo_N → Option α} (hp : R.2.1 = MP) : xo_gp 9 23 R (some (50, 0)) K = K (some (72, 0)) := by rw [se_gp (kd_50 0), hp]; rfl
theorem ml_72 {K : Int32 → Option α} (hr : r < 2) : xo_al 0 R (some (72, 0)) (nI r) K = K (R.1 (72, 0) r) := se_al (kd_72 0) hr (by decide)
theorem mq_72 {K : xo_H → Option α} (hr : r < 2) : xo_as R (some (72, 0)) (nI r) v K = K (xo_sE R (72, 0) r v) := se_as (kd_72 0) hr (by decide)
theorem mp_24 {K : Option xo_N → Option α} (hp : R.2.1 = MP) : xo_gp 9 24 R (some (50, 0)) K = K (some (73, 0)) := by rw [se_gp (kd_50 0), hp]; rfl
theorem ml_73 {K : Int32 → Option α} (hr : r < 2) : xo_al 1 R (some (73, 0)) (nI r) K = K (R.1 (73, 0) r) := se_al (kd_73 0) hr (by decide)
theorem mq_73 {K : xo_H → Option α} (hr : r < 2) (hv : v = 0 ∨ v = 1) : xo_az R (some (73, 0)) (nI r) v K = K (xo_sE R (73, 0) r v) := se_az (kd_73 0) hr (by decide) hv
theorem mq0_73 {K : xo_H → Option α} (hr : r < 2) : xo_az R (some (73, 0)) (nI r) 0 K = K (xo_sE R (73, 0) r 0) := se_az (kd_73 0) hr (by decide) (by decide)
theorem mq1_73 {K : xo_H → Option α} (hr : r < 2) : xo_az R (some (73, 0)) (nI r) 1 K = K (xo_sE R (73, 0) r 1) := se_az (kd_73 0) hr (by decide) (by decide)
theorem mp_25 {K : Option xo_N → Option α} (hp : R.2.1 = MP) : xo_gp 9 25 R (some (50, 0)) K = K (some (74, 0)) := by rw [se_gp (kd_50 0), hp]; rfl
theorem ml_74 {K : Int32 → Option α} (hr : r < 32) : xo_al 0 R (some (74, 0)) (nI r) K = K (R.1 (74, 0) r) := se_al (kd_74 0) hr (by decide)
theorem mq_74 {K : xo_H → Option α} (hr : r < 32) : xo_as R (some (74, 0)) (nI r) v K = K (xo_sE R (74, 0) r v) := se_as (kd_74 0) hr (by decide)
theorem mp_26 {K : Option xo_N → Option α} (hp : R.2.1 = MP) : xo_gp 9 26 R (some (50, 0)) K = K (some (75, 0)) := by rw [se_gp (kd_50 0), hp]; rfl
theorem ml_75 {K : Int32 → Option α} (hr : r < 32) : xo_al 0 R (some (75, 0)) (nI r) K = K (R.1 (75, 0) r) := se_al (kd_75 0) hr (by decide)
theorem mq_75 {K : xo_H → Option α} (hr : r < 32) : xo_as R (some (75, 0)) (nI r) v K = K (xo_sE R (75, 0) r v) := se_as (kd_75 0) hr (by decide)
theorem mp_27 {K : Option xo_N → Option α} (hp : R.2.1 = MP) : xo_gp 9 27 R (some (50, 0)) K = K (some (76, 0)) := by rw [se_gp (kd_50 0), hp]; rfl
theorem ml_76 {K : Int32 → Option α} (hr : r < 2) : xo_al 0 R (some (76, 0)) (nI r) K = K (R.1 (76, 0) r) := se_al (kd_76 0) hr (by decide)
theorem mq_76 {K : xo_H → Option α} (hr : r < 2) : xo_as R (some (76, 0)) (nI r) v K = K (xo_sE R (76, 0) r v) := se_as (kd_76 0) hr (by decide)
theorem mp_28 {K : Option xo_N → Option α} (hp : R.2.1 = MP) : xo_gp 9 28 R (some (50, 0)) K = K (some (77, 0)) := by rw [se_gp (kd_50 0), hp]; rfl
theorem ml_77 {K : Int32 → Option α} (hr : r < 2) : xo_al 0 R (some (77, 0)) (nI r) K = K (R.1 (77, 0) r) := se_al (kd_77 0) hr (by decide)
theorem mq_77 {K : xo_H → Option α} (hr : r < 2) : xo_as R (some (77, 0)) (nI r) v K = K (xo_sE R (77, 0) r v) := se_as (kd_77 0) hr (by decide)
theorem mp_29 {K : Option xo_N → Option α} (hp : R.2.1 = MP) : xo_gp 9 29 R (some (50, 0)) K = K (some (78, 0)) := by rw [se_gp (kd_50 0), hp]; rfl
theorem ml_78 {K : Int32 → Option α} (hr : r < 2) : xo_al 1 R (some (78, 0)) (nI r) K = K (R.1 (78, 0) r) := se_al (kd_78 0) hr (by decide)
theorem mq_78 {K : xo_H → Option α} (hr : r < 2) (hv : v = 0 ∨ v = 1) : xo_az R (some (78, 0)) (nI r) v K = K (xo_sE R (78, 0) r v) := se_az (kd_78 0) hr (by decide) hv
theorem mq0_78 {K : xo_H → Option α} (hr : r < 2) : xo_az R (some (78, 0)) (nI r) 0 K = K (xo_sE R (78, 0) r 0) := se_az (kd_78 0) hr (by decide) (by decide)
theorem mq1_78 {K : xo_H → Option α} (hr : r < 2) : xo_az R (some (78, 0)) (nI r) 1 K = K (xo_sE R (78, 0) r 1) := se_az (kd_78 0) hr (by decide) (by decide)
theorem mp_30 {K : Option xo_N → Option α} (hp : R.2.1 = MP) : xo_gp 9 30 R (some (50, 0)) K = K (some (79, 0)) := by rw [se_gp (kd_50 0), hp]; rfl
theorem ml_79 {K : Int32 → Option α} (hr : r < 2) : xo_al 0 R (some (79, 0)) (nI r) K = K (R.1 (79, 0) r) := se_al (kd_79 0) hr (by decide)
theorem mq_79 {K : xo_H → Option α} (hr : r < 2) : xo_as R (some (79, 0)) (nI r) v K = K (xo_sE R (79, 0) r v) := se_as (kd_79 0) hr (by decide)
theorem mp_31 {K : Option xo_N → Option α} (hp : R.2.1 = MP) : xo_gp 9 31 R (some (50, 0)) K = K (some (80, 0)) := by rw [se_gp (kd_50 0), hp]; rfl
theorem ml_80 {K : Int32 → Option α} (hr : r < 2) : xo_al 1 R (some (80, 0)) (nI r) K = K (R.1 (80, 0) r) := se_al (kd_80 0) hr (by decide)
theorem mq_80 {K : xo_H → Option α} (hr : r < 2) (hv : v = 0 ∨ v = 1) : xo_az R (some (80, 0)) (nI r) v K = K (xo_sE R (80, 0) r v) := se_az (kd_80 0) hr (by decide) hv
theorem mq0_80 {K : xo_H → Option α} (hr : r < 2) : xo_az R (some (80, 0)) (nI r) 0 K = K (xo_sE R (80, 0) r 0) := se_az (kd_80 0) hr (by decide) (by decide)
theorem mq1_80 {K : xo_H → Option α} (hr : r < 2) : xo_az R (some (80, 0)) (nI r) 1 K = K (xo_sE R (80, 0) r 1) := se_az (kd_80 0) hr (by decide) (by decide)
theorem mp_32 {K : Option xo_N → Option α} (hp : R.2.1 = MP) : xo_gp 9 32 R (some (50, 0)) K = K (some (81, 0)) := by rw [se_gp (kd_50 0), hp]; rfl
theorem ml_81 {K : Int32 → Option α} (hr : r < 2) : xo_al 0 R (some (81, 0)) (nI r) K = K (R.1 (81, 0) r) := se_al (kd_81 0) hr (by decide)
theorem mq_81 {K : xo_H → Option α} (hr : r < 2) : xo_as R (some (81, 0)) (nI r) v K = K (xo_sE R (81, 0) r v) := se_as (kd_81 0) hr (by decide)
theorem mp_33 {K : Option xo_N → Option α} (hp : R.2.1 = MP) : xo_gp 9 33 R (some (50, 0)) K = K (some (82, 0)) := by rw [se_gp (kd_50 0), hp]; rfl
theorem ml_82 {K : Int32 → Option α} (hr : r < 2) : xo_al 1 R (some (82, 0)) (nI r) K = K (R.1 (82, 0) r) := se_al (kd_82 0) hr (by decide)
theorem mq_82 {K : xo_H → Option α} (hr : r < 2) (hv : v = 0 ∨ v = 1) : xo_az R (some (82, 0)) (nI r) v K = K (xo_sE R (82, 0) r v) := se_az (kd_82 0) hr (by decide) hv
theorem mq0_82 {K : xo_H → Option α} (hr : r < 2) : xo_az R (some (82, 0)) (nI r) 0 K = K (xo_sE R (82, 0) r 0) := se_az (kd_82 0) hr (by decide) (by decide)
theorem mq1_82 {K : xo_H → Option α} (hr : r < 2) : xo_az R (some (82, 0)) (nI r) 1 K = K (xo_sE R (82, 0) r 1) := se_az (kd_82 0) hr (by decide) (by decide)
theorem mp_34 {K : Option xo_N → Option α} (hp : R.2.1 = MP) : xo_gp 9 34 R (some (50, 0)) K = K (some (83, 0)) := by rw [se_gp (kd_50 0), hp]; rfl
theorem ml_83 {K : Int32 → Option α} (hr : r < 2) : xo_al 1 R (some (83, 0)) (nI r) K = K (R.1 (83, 0) r) := se_al (kd_83 0) hr (by decide)
theorem mq_83 {K : xo_H → Option α} (hr : r < 2) (hv : v = 0 ∨ v = 1) : xo_az R (some (83, 0)) (nI r) v K = K (xo_sE R (83, 0) r v) := se_az (kd_83 0) hr (by decide) hv
theorem mq0_83 {K : xo_H → Option α} (hr : r < 2) : xo_az R (some (83, 0)) (nI r) 0 K = K (xo_sE R (83, 0) r 0) := se_az (kd_83 0) hr (by decide) (by decide)
theorem mq1_83 {K : xo_H → Option α} (hr : r < 2) : xo_az R (some (83, 0)) (nI r) 1 K = K (xo_sE R (83, 0) r 1) := se_az (kd_83 0) hr (by decide) (by decide)
theorem mp_35 {K : Option xo_N → Option α} (hp : R.2.1 = MP) : xo_gp 9 35 R (some (50, 0)) K = K (some (84, 0)) := by rw [se_gp (kd_50 0), hp]; rfl
theorem ml_84 {K : Int32 → Option α} (hr : r < 2) : xo_al 1 R (some (84, 0)) (nI r) K = K (R.1 (84, 0) r) := se_al (kd_84 0) hr (by decide)
theorem mq_84 {K : xo_H → Option α} (hr : r < 2) (hv : v = 0 ∨ v = 1) : xo_az R (some (84, 0)) (nI r) v K = K (xo_sE R (84, 0) r v) := se_az (kd_84 0) hr (by decide) hv
theorem mq0_84 {K : xo_H → Option α} (hr : r < 2) : xo_az R (some (84, 0)) (nI r) 0 K = K (xo_sE R (84, 0) r 0) := se_az (kd_84 0) hr (by decide) (by decide)
theorem mq1_84 {K : xo_H → Option α} (hr : r < 2) : xo_az R (some (84, 0)) (nI r) 1 K = K (xo_sE R (84, 0) r 1) := se_az (kd_84 0) hr (by decide) (by decide)
theorem mp_37 {K : Option xo_N → Option α} (hp : R.2.1 = MP) : xo_gp 9 37 R (some (50, 0)) K = K (some (85, 0)) := by rw [se_gp (kd_50 0), hp]; rfl
theorem ml_85 {K : Int32 → Option α} (hr : r < 2) : xo_al 0 R (some (85, 0)) (nI r) K = K (R.1 (85, 0) r) := se_al (kd_85 0) hr (by decide)
theorem mq_85 {K : xo_H → Option α} (hr : r < 2) : xo_as R (some (85, 0)) (nI r) v K = K (xo_sE R (85, 0) r v) := se_as (kd_85 0) hr (by decide)
theorem mp_38 {K : Option xo_N → Option α} (hp : R.2.1 = MP) : xo_gp 9 38 R (some (50, 0)) K = K (some (86, 0)) := by rw [se_gp (kd_50 0), hp]; rfl
theorem ml_86 {K : Int32 → Option α} (hr : r < 2) : xo_al 0 R (some (86, 0)) (nI r) K = K (R.1 (86, 0) r) := se_al (kd_86 0) hr (by decide)
theorem mq_86 {K : xo_H → Option α} (hr : r < 2) : xo_as R (some (86, 0)) (nI r) v K = K (xo_sE R (86, 0) r v) := se_as (kd_86 0) hr (by decide)
theorem mp_39 {K : Option xo_N → Option α} (hp : R.2.1 = MP) : xo_gp 9 39 R (some (50, 0)) K = K (some (87, 0)) := by rw [se_gp (kd_50 0), hp]; rfl
theorem ml_87 {K : Int32 → Option α} (hr : r < 2) : xo_al 0 R (some (87, 0)) (nI r) K = K (R.1 (87, 0) r) := se_al (kd_87 0) hr (by decide)
theorem mq_87 {K : xo_H → Option α} (hr : r < 2) : xo_as R (some (87, 0)) (nI r) v K = K (xo_sE R (87, 0) r v) := se_as (kd_87 0) hr (by decide)
theorem mp_40 {K : Option xo_N → Option α} (hp : R.2.1 = MP) : xo_gp 9 40 R (some (50, 0)) K = K (some (88, 0)) := by rw [se_gp (kd_50 0), hp]; rfl
theorem ml_88 {K : Int32 → Option α} (hr : r < 2) : xo_al 1 R (some (88, 0)) (nI r) K = K (R.1 (88, 0) r) := se_al (kd_88 0) hr (by decide)
theorem mq_88 {K : xo_H → Option α} (hr : r < 2) (hv : v = 0 ∨ v = 1) : xo_az R (some (88, 0)) (nI r) v K = K (xo_sE R (88, 0) r v) := se_az (kd_88 0) hr (by decide) hv
theorem mq0_88 {K : xo_H → Option α} (hr : r < 2) : xo_az R (some (88, 0)) (nI r) 0 K = K (xo_sE R (88, 0) r 0) := se_az (kd_88 0) hr (by decide) (by decide)
theorem mq1_88 {K : xo_H → Option α} (hr : r < 2) : xo_az R (some (88, 0)) (nI r) 1 K = K (xo_sE R (88, 0) r 1) := se_az (kd_88 0) hr (by decide) (by decide)
theorem mp_41 {K : Option xo_N → Option α} (hp : R.2.1 = MP) : xo_gp 9 41 R (some (50, 0)) K = K (some (89, 0)) := by rw [se_gp (kd_50 0), hp]; rfl
theorem ml_89 {K : Int32 → Option α} (hr : r < 2) : xo_al 1 R (some (89, 0)) (nI r) K = K (R.1 (89, 0) r) := se_al (kd_89 0) hr (by decide)
theorem mq_89 {K : xo_H → Option α} (hr : r < 2) (hv : v = 0 ∨ v = 1) : xo_az R (some (89, 0)) (nI r) v K = K (xo_sE R (89, 0) r v) := se_az (kd_89 0) hr (by decide) hv
theorem mq0_89 {K : xo_H → Option α} (hr : r < 2) : xo_az R (some (89, 0)) (nI r) 0 K = K (xo_sE R (89, 0) r 0) := se_az (kd_89 0) hr (by decide) (by decide)
theorem mq1_89 {K : xo_H → Option α} (hr : r < 2) : xo_az R (some (89, 0)) (nI r) 1 K = K (xo_sE R (89, 0) r 1) := se_az (kd_89 0) hr (by decide) (by decide)
theorem mp_44 {K : Option xo_N → Option α} (hp : R.2.1 = MP) : xo_gp 9 44 R (some (50, 0)) K = K (some (90, 0)) := by rw [se_gp (kd_50 0), hp]; rfl
theorem ml_90 {K : Int32 → Option α} (hr : r < 64) : xo_al 0 R (some (90, 0)) (nI r) K = K (R.1 (90, 0) r) := se_al (kd_90 0) hr (by decide)
theorem mq_90 {K : xo_H → Option α} (hr : r < 64) : xo_as R (some (90, 0)) (nI r) v K = K (xo_sE R (90, 0) r v) := se_as (kd_90 0) hr (by decide)
theorem mp_45 {K : Option xo_N → Option α} (hp : R.2.1 = MP) : xo_gp 9 45 R (some (50, 0)) K = K (some (91, 0)) := by rw [se_gp (kd_50 0), hp]; rfl
theorem ml_91 {K : Int32 → Option α} (hr : r < 64) : xo_al 0 R (some (91, 0)) (nI r) K = K (R.1 (91, 0) r) := se_al (kd_91 0) hr (by decide)
theorem mq_91 {K : xo_H → Option α} (hr : r < 64) : xo_as R (some (91, 0)) (nI r) v K = K (xo_sE R (91, 0) r v) := se_as (kd_91 0) hr (by decide)
theorem mp_46 {K : Option xo_N → Option α} (hp : R.2.1 = MP) : xo_gp 9 46 R (some (50, 0)) K = K (some (92, 0)) := by rw [se_gp (kd_50 0), hp]; rfl
theorem ml_92 {K : Int32 → Option α} (hr : r < 64) : xo_al 0 R (some (92, 0)) (nI r) K = K (R.1 (92, 0) r) := se_al (kd_92 0) hr (by decide)
theorem mq_92 {K : xo_H → Option α} (hr : r < 64) : xo_as R (some (92, 0)) (nI r) v K = K (xo_sE R (92, 0) r v) := se_as (kd_92 0) hr (by decide)
theorem mp_48 {K : Option xo_N → Option α} (hp : R.2.1 = MP) : xo_gp 9 48 R (some (50, 0)) K = K (some (93, 0)) := by rw [se_gp (kd_50 0), hp]; rfl
theorem ml_93 {K : Int32 → Option α} (hr : r < 64) : xo_al 0 R (some (93, 0)) (nI r) K = K (R.1 (93, 0) r) := se_al (kd_93 0) hr (by decide)
theorem mq_93 {K : xo_H → Option α} (hr : r < 64) : xo_as R (some (93, 0)) (nI r) v K = K (xo_sE R (93, 0) r v) := se_as (kd_93 0) hr (by decide)
theorem mp_49 {K : Option xo_N → Option α} (hp : R.2.1 = MP) : xo_gp 9 49 R (some (50, 0)) K = K (some (94, 0)) := by rw [se_gp (kd_50 0), hp]; rfl
theorem ml_94 {K : Int32 → Option α} (hr : r < 64) : xo_al 0 R (some (94, 0)) (nI r) K = K (R.1 (94, 0) r) := se_al (kd_94 0) hr (by decide)
theorem mq_94 {K : xo_H → Option α} (hr : r < 64) : xo_as R (some (94, 0)) (nI r) v K = K (xo_sE R (94, 0) r v) := se_as (kd_94 0) hr (by decide)
theorem mp_50 {K : Option xo_N → Option α} (hp : R.2.1 = MP) : xo_gp 9 50 R (some (50, 0)) K = K (some (95, 0)) := by rw [se_gp (kd_50 0), hp]; rfl
theorem ml_95 {K : Int32 → Option α} (hr : r < 64) : xo_al 0 R (some (95, 0)) (nI r) K = K (R.1 (95, 0) r) := se_al (kd_95 0) hr (by decide)
theorem mq_95 {K : xo_H → Option α} (hr : r < 64) : xo_as R (some (95, 0)) (nI r) v K = K (xo_sE R (95, 0) r v) := se_as (kd_95 0) hr (by decide)
end SM
