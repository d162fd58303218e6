section NW
variable {α : Type} {H : xo_H} {n m : xo_N} {ci t N : Nat} {v : Int32}
theorem sN_1 (f : Nat) : (xo_sN H n).1 m f = if m = n then 0 else H.1 m f := rfl
theorem sN_2 (f : Nat) : (xo_sN H n).2.1 m f = if m = n then none else H.2.1 m f := rfl
theorem sN_3 : (xo_sN H n).2.2 m = if m = n then true else H.2.2 m := rfl
theorem se_nw {K : xo_H → Option α} (hl : H.2.2 n = false) (hk : xo_kd n = .inl ci) : xo_nw ci H n K = K (xo_sN H n) := by
  unfold xo_nw
  rw [if_pos ⟨hl, hk⟩]
theorem se_na {K : xo_H → Option α} {N0 : Nat} (hl : H.2.2 n = false) (hk : xo_kd n = .inr (t, N)) (hv : v = nI N) (hN : N ≤ N0) : xo_na t H n N0 v K = K (xo_sN H n) := by
  unfold xo_na
  rw [hk]
  show (if H.2.2 n = false ∧ t = t ∧ v = Int32.ofNat N ∧ N ≤ N0 then K (xo_sN H n) else none) = _
  rw [if_pos ⟨hl, rfl, hv, hN⟩]
/-- a new row -/
def nRow (H : xo_H) (r s : xo_N) : xo_H := xo_sP (xo_sN (xo_sN H r) s) r 0 (some s)
theorem nRow_1 (f : Nat) {r s : xo_N} : (nRow H r s).1 m f = if m = s then 0 else if m = r then 0 else H.1 m f := rfl
theorem nRow_2 (f : Nat) {r s : xo_N} : (nRow H r s).2.1 m f = if m = r ∧ f = 0 then some s else if m = s then none else if m = r then none else H.2.1 m f := rfl
theorem nRow_3 {r s : xo_N} : (nRow H r s).2.2 m = if m = s then true else if m = r then true else H.2.2 m := rfl
theorem ri_C {a i : Nat} (hk : xo_kd (a, i) = .inl 3) (hs : xo_kd (a + 1, i) = .inr (0, N)) (hv : v = nI N) (hN : N ≤ 16) (hl : H.2.2 (a + 1, i) = false) : fc_R_init (a, i) v (xo_sN H (a, i)) = some (nRow H (a, i) (a + 1, i)) := by
  unfold fc_R_init nRow
  dsimp only
  rw [se_na (by rw [sN_3, if_neg (by simp)]; exact hl) hs hv hN, se_pp hk]
/-- a new row of chunks -/
def nQ (H : xo_H) (c r s : xo_N) (mk bv : Int32) : xo_H := xo_sE (xo_sE (xo_sE (xo_sP (nRow (xo_sN H c) r s) c 0 (some r)) c 1 mk) c 2 bv) c 3 mk
theorem ci_C {a i : Nat} {mk bv : Int32} (hc : xo_kd (a, i) = .inl 4) (hr : xo_kd (a + 1, i) = .inl 3) (hs : xo_kd (a + 1 + 1, i) = .inr (0, 16)) (l1 : H.2.2 (a + 1, i) = false) (l2 : H.2.2 (a + 1 + 1, i) = false) (hb : bv = 0 ∨ bv = 1) : fc_C_init (a, i) mk bv (xo_sN H (a, i)) = some (nQ H (a, i) (a + 1, i) (a + 1 + 1, i) mk bv) := by
  unfold fc_C_init nQ
  dsimp only
  rw [se_nw (by rw [sN_3, if_neg (by simp)]; exact l1) hr, ri_C (v := 16) hr hs rfl (by decide) (by rw [sN_3, if_neg (by simp; omega)]; exact l2), Option.bind_some, se_pp hc, se_pf hc, se_pz hc hb, se_pf hc]
end NW
section AG
variable {b g t p q : Nat} {C R : xo_H} {mk bv : Int32}
def agC (C : xo_H) (g : Nat) (mk bv : Int32) : xo_H := xo_sE (xo_sP (xo_sP (xo_sP (xo_sE (xo_sE (xo_sP (nRow (nQ (xo_sN C (20, g)) (21, g) (22, g) (23, g) mk bv) (24, g) (25, g)) (20, g) 3 (some (24, g))) (20, g) 4 0) (20, g) 0 (nI g)) (20, g) 1 (some (21, g))) (20, g) 2 (some (1, 0))) (12, 0) g (some (20, g))) (0, 0) 5 (nI (g + 1))
def agR (R : xo_H) (g : Nat) (mk bv pr : Int32) : xo_H := xo_sE (xo_sE (xo_sE (xo_sE (xo_sE R (50, 0) 0 (nI (g + 1))) (53, 0) g mk) (54, 0) g bv) (65, 0) g (-1)) (66, 0) g pr
theorem ag_C (h5 : C.1 (0, 0) 5 = nI g) (hg : g < 6) (h0 : C.2.1 (0, 0) 0 = some (1, 0)) (h2 : C.2.1 (0, 0) 2 = some (12, 0)) (hl : ∀ a, 20 ≤ a → a ≤ 25 → C.2.2 (a, g) = false) (hb : bv = 0 ∨ bv = 1) : fc_K_addGiver (0, 0) mk bv C = some (some (20, g), agC C g mk bv) := by
  have l0 := hl 20 (by omega) (by omega)
  have l1 := hl 21 (by omega) (by omega)
  have l2 := hl 22 (by omega) (by omega)
  have l3 := hl 23 (by omega) (by omega)
  have l4 := hl 24 (by omega) (by omega)
  have l5 := hl 25 (by omega) (by omega)
  have e5 : (C.1 (0, 0) 5).toNatClampNeg = g := by rw [h5, nI_clamp (by omega)]
  have f5 : (xo_sN C (20, g)).1 (0, 0) 5 = nI g := by rw [sN_1, if_neg (by simp)]; exact h5
  have e5' : ((xo_sN C (20, g)).1 (0, 0) 5).toNatClampNeg = g := by rw [f5, nI_clamp (by omega)]
  have c1 : fc_C_init (21, g) mk bv (xo_sN (xo_sN C (20, g)) (21, g)) = some (nQ (xo_sN C (20, g)) (21, g) (22, g) (23, g) mk bv) := ci_C (a := 21) (kd_21 g) (kd_22 g) (kd_23 g) (by rw [sN_3, if_neg (by simp)]; exact l2) (by rw [sN_3, if_neg (by simp)]; exact l3) hb
  have q0 : (nQ (xo_sN C (20, g)) (21, g) (22, g) (23, g) mk bv).2.1 (0, 0) 0 = some (1, 0) := by
    simp [nQ, nRow, xo_sE, xo_sP, xo_sN, h0]
  have q24 : (nQ (xo_sN C (20, g)) (21, g) (22, g) (23, g) mk bv).2.2 (24, g) = false := by
    simp [nQ, nRow, xo_sE, xo_sP, xo_sN, l4]
  have q25 : (nQ (xo_sN C (20, g)) (21, g) (22, g) (23, g) mk bv).2.2 (25, g) = false := by
    simp [nQ, nRow, xo_sE, xo_sP, xo_sN, l5]
  unfold fc_K_addGiver
  rw [e5, se_nw l0 (kd_20 g), e5', se_gf (kd_0 0), f5, se_nw (by rw [sN_3, if_neg (by simp)]; exact l1) (kd_21 g), c1, Option.bind_some, se_gp (kd_0 0), q0]
  generalize hX : nQ (xo_sN C (20, g)) (21, g) (22, g) (23, g) mk bv = X at q24 q25
  have g1 : fc_G_init (20, g) (nI g) (some (21, g)) (some (1, 0)) X = some (xo_sP (xo_sP (xo_sE (xo_sE (xo_sP (nRow X (24, g) (25, g)) (20, g) 3 (some (24, g))) (20, g) 4 0) (20, g) 0 (nI g)) (20, g) 1 (some (21, g))) (20, g) 2 (some (1, 0))) := by
    have rr : fc_R_init (24, g) 8 (xo_sN X (24, g)) = some (nRow X (24, g) (25, g)) := ri_C (a := 24) (N := 8) (kd_24 g) (kd_25 g) rfl (by decide) q25
    unfold fc_G_init
    dsimp only
    rw [se_nw q24 (kd_24 g)]
    show ((fc_R_init (24, g) 8 (xo_sN X (24, g))).bind _) = _
    rw [rr, Option.bind_some, se_pp (kd_20 g), se_pf (kd_20 g), se_pf (kd_20 g), se_pp (kd_20 g), se_pp (kd_20 g)]
  rw [g1, Option.bind_some, se_gp (kd_0 0), se_gf (kd_0 0)]
  have w2 : (xo_sP (xo_sP (xo_sE (xo_sE (xo_sP (nRow X (24, g) (25, g)) (20, g) 3 (some (24, g))) (20, g) 4 0) (20, g) 0 (nI g)) (20, g) 1 (some (21, g))) (20, g) 2 (some (1, 0))).2.1 (0, 0) 2 = some (12, 0) := by
    rw [← hX]
    simp [nQ, nRow, xo_sE, xo_sP, xo_sN, h2]
  have w5 : (xo_sP (xo_sP (xo_sE (xo_sE (xo_sP (nRow X (24, g) (25, g)) (20, g) 3 (some (24, g))) (20, g) 4 0) (20, g) 0 (nI g)) (20, g) 1 (some (21, g))) (20, g) 2 (some (1, 0))).1 (0, 0) 5 = nI g := by
    rw [← hX]
    simp [nQ, nRow, xo_sE, xo_sP, xo_sN, h5]
  rw [w2, w5, se_aq (kd_12 0) hg (by decide) (kd_20 g), se_gf (kd_0 0)]
  have w6 : (xo_sP (xo_sP (xo_sP (xo_sE (xo_sE (xo_sP (nRow X (24, g) (25, g)) (20, g) 3 (some (24, g))) (20, g) 4 0) (20, g) 0 (nI g)) (20, g) 1 (some (21, g))) (20, g) 2 (some (1, 0))) (12, 0) g (some (20, g))).1 (0, 0) 5 = nI g := w5
  rw [w6, se_pf (kd_0 0), nI_1, ← hX]
  rfl
/-- what stays, and what is new -/
theorem agC_1 {m : xo_N} {f : Nat} (hm : ¬ (20 ≤ m.1 ∧ m.1 ≤ 25 ∧ m.2 = g)) (h0 : ¬ (m = (0, 0) ∧ f = 5)) : (agC C g mk bv).1 m f = C.1 m f := by
  have e20 : ¬ m = (20, g) := fun e => hm (by rw [e]; simp)
  have e21 : ¬ m = (21, g) := fun e => hm (by rw [e]; simp)
  have e22 : ¬ m = (22, g) := fun e => hm (by rw [e]; simp)
  have e23 : ¬ m = (23, g) := fun e => hm (by rw [e]; simp)
  have e24 : ¬ m = (24, g) := fun e => hm (by rw [e]; simp)
  have e25 : ¬ m = (25, g) := fun e => hm (by rw [e]; simp)
  simp only [agC, nQ, se_E1, se_P1, nRow_1, sN_1, e20, e21, e22, e23, e24, e25, h0, false_and, if_false]
theorem agC_2 {m : xo_N} {f : Nat} (hm : ¬ (20 ≤ m.1 ∧ m.1 ≤ 25 ∧ m.2 = g)) (h0 : ¬ (m = (12, 0) ∧ f = g)) : (agC C g mk bv).2.1 m f = C.2.1 m f := by
  have e20 : ¬ m = (20, g) := fun e => hm (by rw [e]; simp)
  have e21 : ¬ m = (21, g) := fun e => hm (by rw [e]; simp)
  have e22 : ¬ m = (22, g) := fun e => hm (by rw [e]; simp)
  have e23 : ¬ m = (23, g) := fun e => hm (by rw [e]; simp)
  have e24 : ¬ m = (24, g) := fun e => hm (by rw [e]; simp)
  have e25 : ¬ m = (25, g) := fun e => hm (by rw [e]; simp)
  simp only [agC, nQ, se_E2, se_P2, nRow_2, sN_2, e20, e21, e22, e23, e24, e25, h0, false_and, if_false]
theorem agC_3 {m : xo_N} (hm : ¬ (20 ≤ m.1 ∧ m.1 ≤ 25 ∧ m.2 = g)) : (agC C g mk bv).2.2 m = C.2.2 m := by
  have e20 : ¬ m = (20, g) := fun e => hm (by rw [e]; simp)
  have e21 : ¬ m = (21, g) := fun e => hm (by rw [e]; simp)
  have e22 : ¬ m = (22, g) := fun e => hm (by rw [e]; simp)
  have e23 : ¬ m = (23, g) := fun e => hm (by rw [e]; simp)
  have e24 : ¬ m = (24, g) := fun e => hm (by rw [e]; simp)
  have e25 : ¬ m = (25, g) := fun e => hm (by rw [e]; simp)
  simp only [agC, nQ, se_E2, se_P3, nRow_3, sN_3, e20, e21, e22, e23, e24, e25, if_false]
theorem agC_n : (agC C g mk bv).1 (0, 0) 5 = nI (g + 1) ∧ (agC C g mk bv).1 (20, g) 0 = nI g ∧ (∀ f, ¬ f = 0 → (agC C g mk bv).1 (20, g) f = 0) ∧ (agC C g mk bv).1 (21, g) 1 = mk ∧ (agC C g mk bv).1 (21, g) 2 = bv ∧ (agC C g mk bv).1 (21, g) 3 = mk ∧ ∀ a f, 22 ≤ a → a ≤ 25 → (agC C g mk bv).1 (a, g) f = 0 := by
  refine ⟨?_, ?_, fun f hf => ?_, ?_, ?_, ?_, fun a f h1 h2 => ?_⟩
  · simp [agC, nQ, se_E1, se_P1, nRow_1, sN_1]
  · simp [agC, nQ, se_E1, se_P1, nRow_1, sN_1]
  · simp [agC, nQ, se_E1, se_P1, nRow_1, sN_1, hf]
  · simp [agC, nQ, se_E1, se_P1, nRow_1, sN_1]
  · simp [agC, nQ, se_E1, se_P1, nRow_1, sN_1]
  · simp [agC, nQ, se_E1, se_P1, nRow_1, sN_1]
  · have : a = 22 ∨ a = 23 ∨ a = 24 ∨ a = 25 := by omega
    rcases this with e | e | e | e <;> subst e <;> simp [agC, nQ, se_E1, se_P1, nRow_1, sN_1]
theorem agC_p : (agC C g mk bv).2.1 (12, 0) g = some (20, g) ∧ (agC C g mk bv).2.1 (20, g) 1 = some (21, g) ∧ (agC C g mk bv).2.1 (20, g) 2 = some (1, 0) ∧ (agC C g mk bv).2.1 (20, g) 3 = some (24, g) ∧ (agC C g mk bv).2.1 (21, g) 0 = some (22, g) ∧ (agC C g mk bv).2.1 (22, g) 0 = some (23, g) ∧ (agC C g mk bv).2.1 (24, g) 0 = some (25, g) ∧ (agC C g mk bv).2.1 (20, g) 11 = none ∧ (agC C g mk bv).2.1 (20, g) 12 = none ∧ (agC C g mk bv).2.1 (20, g) 13 = none := by
  refine ⟨?_, ?_, ?_, ?_, ?_, ?_, ?_, ?_, ?_, ?_⟩ <;> simp [agC, nQ, se_E2, se_P2, nRow_2, sN_2]
theorem ag_R {pr : Int32} (h : R.1 (50, 0) 0 = nI g) (hg : g < 6) (hp : R.2.1 = MP) (hb : bv = 0 ∨ bv = 1) : fc_M_addGiver (50, 0) mk bv pr R = some (nI g, agR R g mk bv pr) := by
  unfold fc_M_addGiver agR
  rw [se_gf (kd_50 0), h, se_gf (kd_50 0), h, nI_1, se_pf (kd_50 0), mp_3 (by exact hp), mq_53 hg, mp_4 (by exact hp), mq_54 hg hb, mp_15 (by exact hp), mq_65 hg, mp_16 (by exact hp), mq_66 hg]
theorem agR_1 {pr : Int32} {a f : Nat} (h : ¬ (a = 50 ∧ f = 0)) (h1 : ¬ ((a = 53 ∨ a = 54 ∨ a = 65 ∨ a = 66) ∧ f = g)) : (agR R g mk bv pr).1 (a, 0) f = R.1 (a, 0) f := by
  unfold agR
  rw [se_nf (by simp; omega), se_nf (by simp; omega), se_nf (by simp; omega), se_nf (by simp; omega), se_nf (by simp; omega)]
theorem agR_n {pr : Int32} : (agR R g mk bv pr).1 (50, 0) 0 = nI (g + 1) ∧ (agR R g mk bv pr).1 (53, 0) g = mk ∧ (agR R g mk bv pr).1 (54, 0) g = bv ∧ (agR R g mk bv pr).1 (65, 0) g = -1 ∧ (agR R g mk bv pr).1 (66, 0) g = pr := by
  refine ⟨?_, ?_, ?_, ?_, ?_⟩ <;> simp [agR, se_E1]
theorem agR_a {pr : Int32} {L : Nat → Nat → Bool} (h0 : L 50 0 = false) (h1 : L 53 g = false) (h2 : L 54 g = false) (h3 : L 65 g = false) (h4 : L 66 g = false) : agr L R (agR R g mk bv pr) := agr_to (agr_to (agr_to (agr_to (agr_set h0) h1) h2) h3) h4
end AG
