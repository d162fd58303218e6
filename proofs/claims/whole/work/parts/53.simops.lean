section SP
variable {C R : xo_H} {n : xo_N} {f g t p : Nat} {v : Int32}
theorem kc_P (h : sm_P g t p C R) (hl : lc_P n.1 f = false) : sm_P g t p (xo_sE C n f v) R := by
  simp only [lc_P, Bool.or_eq_false_iff, Bool.and_eq_false_iff, beq_eq_false_iff_ne, ne_eq, Bool.not_eq_false', beq_iff_eq] at hl
  have e0 : (xo_sE C n f v).1 (0, 0) = C.1 (0, 0) := se_ne (sm_tag hl.1.1.1)
  have e20 : ∀ i, (xo_sE C n f v).1 (20, i) 0 = C.1 (20, i) 0 := fun i => se_nf (sm_nf hl.1.1.2 rfl)
  have e30 : ∀ i, (xo_sE C n f v).1 (30, i) 0 = C.1 (30, i) 0 := fun i => se_nf (sm_nf hl.1.2 rfl)
  have e40 : ∀ k, ¬ k = 6 → ∀ i, (xo_sE C n f v).1 (40, i) k = C.1 (40, i) k := fun k hk i => se_nf (sm_nf (hl.2.imp id fun z y => hk (y.symm.trans z)) rfl)
  have a0 := e40 0 (by decide)
  have a3 := e40 3 (by decide)
  have a4 := e40 4 (by decide)
  have a5 := e40 5 (by decide)
  unfold sm_P sm_V at h ⊢
  simp only [se_E2, e0, e20, e30, a0, a3, a4, a5]
  exact h
theorem kr_P (h : sm_P g t p C R) (hl : lr_P n.1 f = false) : sm_P g t p C (xo_sE R n f v) := by
  simp only [lr_P, Bool.or_eq_false_iff, Bool.and_eq_false_iff, beq_eq_false_iff_ne, ne_eq] at hl
  have h0 : (xo_sE R n f v).1 (50, 0) 0 = R.1 (50, 0) 0 := se_nf (sm_nf (a := 50) (hl.1.1.1.1.1.1.1.1.imp id fun z => z.1.1) rfl)
  have h20 : (xo_sE R n f v).1 (50, 0) 20 = R.1 (50, 0) 20 := se_nf (sm_nf (a := 50) (hl.1.1.1.1.1.1.1.1.imp id fun z => z.1.2) rfl)
  have h36 : (xo_sE R n f v).1 (50, 0) 36 = R.1 (50, 0) 36 := se_nf (sm_nf (a := 50) (hl.1.1.1.1.1.1.1.1.imp id fun z => z.2) rfl)
  have e58 : (xo_sE R n f v).1 (58, 0) = R.1 (58, 0) := se_ne (sm_tag hl.1.1.1.1.1.1.1.2)
  have e65 : (xo_sE R n f v).1 (65, 0) = R.1 (65, 0) := se_ne (sm_tag hl.1.1.1.1.1.1.2)
  have e66 : (xo_sE R n f v).1 (66, 0) = R.1 (66, 0) := se_ne (sm_tag hl.1.1.1.1.1.2)
  have e83 : (xo_sE R n f v).1 (83, 0) = R.1 (83, 0) := se_ne (sm_tag hl.1.1.1.1.2)
  have e85 : (xo_sE R n f v).1 (85, 0) = R.1 (85, 0) := se_ne (sm_tag hl.1.1.1.2)
  have e86 : (xo_sE R n f v).1 (86, 0) = R.1 (86, 0) := se_ne (sm_tag hl.1.1.2)
  have e87 : (xo_sE R n f v).1 (87, 0) = R.1 (87, 0) := se_ne (sm_tag hl.1.2)
  have e88 : (xo_sE R n f v).1 (88, 0) = R.1 (88, 0) := se_ne (sm_tag hl.2)
  unfold sm_P sm_V at h ⊢
  simp only [se_E2, h0, h20, h36, e58, e65, e66, e83, e85, e86, e87, e88]
  exact h
end SP
/-- the whole relation -/
def sm (b g t p : Nat) (C R : xo_H) : Prop := sm_S C R ∧ sm_Q C R ∧ sm_A C R ∧ sm_U C R ∧ sm_L b C R ∧ sm_J C R ∧ sm_P g t p C R
theorem sm_get {b g t p : Nat} {C R : xo_H} (h : sm b g t p C R) (a f r i : Nat) (he : (a, f, r) ∈ sm_T) : C.1 (a, i) f = R.1 (r, 0) i := h.1 _ he i
theorem sm_more {b b' g t p : Nat} {C R : xo_H} (h : sm b g t p C R) (hb : b ≤ b') : sm b' g t p C R := by
  obtain ⟨h1, h2, h3, h4, ⟨e, h5, h5'⟩, h6⟩ := h
  exact ⟨h1, h2, h3, h4, ⟨e, by omega, h5'⟩, h6⟩
/-- a common scalar that no other part reads -/
theorem sm_set {b g t p : Nat} {C R : xo_H} (h : sm b g t p C R) (a f r i : Nat) (v : Int32) (he : (a, f, r) ∈ sm_T) (hc : (lc_Q a f || lc_A a f || lc_U a f || lc_L a f || lc_J a f || lc_P a f) = false) (hr : (lr_Q r i || lr_A r i || lr_U r i || lr_L r i || lr_J r i || lr_P r i) = false) : sm b g t p (xo_sE C (a, i) f v) (xo_sE R (r, 0) i v) := by
  simp only [Bool.or_eq_false_iff] at hc hr
  obtain ⟨h1, h2, h3, h4, h5, h6, h7⟩ := h
  exact ⟨sm_S_set h1 a f r i v he, kc_Q (kr_Q h2 hr.1.1.1.1.1) hc.1.1.1.1.1, kc_A (kr_A h3 hr.1.1.1.1.2) hc.1.1.1.1.2, kc_U (kr_U h4 hr.1.1.1.2) hc.1.1.1.2, kc_L (kr_L h5 hr.1.1.2) hc.1.1.2, kc_J (kr_J h6 hr.1.2) hc.1.2, kc_P (kr_P h7 hr.2) hc.2⟩
/-- a place of the reference's own -/
theorem sm_own {b g t p : Nat} {C R : xo_H} (h : sm b g t p C R) {n : xo_N} {f : Nat} {v : Int32} (hr : (lr_S n.1 f || lr_Q n.1 f || lr_A n.1 f || lr_U n.1 f || lr_L n.1 f || lr_J n.1 f || lr_P n.1 f) = false) : sm b g t p C (xo_sE R n f v) := by
  simp only [Bool.or_eq_false_iff] at hr
  obtain ⟨h1, h2, h3, h4, h5, h6, h7⟩ := h
  exact ⟨kr_S h1 hr.1.1.1.1.1.1, kr_Q h2 hr.1.1.1.1.1.2, kr_A h3 hr.1.1.1.1.2, kr_U h4 hr.1.1.1.2, kr_L h5 hr.1.1.2, kr_J h6 hr.1.2, kr_P h7 hr.2⟩
/-! an event on both sides -/
def ev_C (C : xo_H) (e : Nat) (k s a b : Int32) : xo_H := xo_sE (xo_sE (xo_sE (xo_sE C (2, 0) (e % 64) (k + 32 * s)) (3, 0) (e % 64) a) (4, 0) (e % 64) b) (1, 0) 3 (nI (e + 1))
def ev_R (R : xo_H) (e : Nat) (k s a b : Int32) : xo_H := xo_sE (xo_sE (xo_sE (xo_sE R (93, 0) (e % 64) (k + 32 * s)) (94, 0) (e % 64) a) (95, 0) (e % 64) b) (50, 0) 47 (nI (e + 1))
theorem ev_note {C : xo_H} {e : Nat} {k s a b : Int32} (h0 : C.2.1 (1, 0) 0 = some (2, 0)) (h1 : C.2.1 (1, 0) 1 = some (3, 0)) (h2 : C.2.1 (1, 0) 2 = some (4, 0)) (he : C.1 (1, 0) 3 = nI e) (hb : e < 2 ^ 30) : fc_L_note (1, 0) k s a b C = some (ev_C C e k s a b) := by
  unfold fc_L_note
  have hm : nI e &&& (63 : Int32) = nI (e % 64) := pk_andN (by omega) 6 (by decide)
  have hlt : e % 64 < 64 := Nat.mod_lt _ (by decide)
  simp only [se_gf (kd_1 0), se_gp (kd_1 0), h0, he, hm]
  rw [se_as (kd_2 0) hlt (by decide)]
  simp only [se_E2, h1]
  rw [se_as (kd_3 0) hlt (by decide)]
  simp only [se_E2, h2]
  rw [se_as (kd_4 0) hlt (by decide)]
  simp only [se_pf (kd_1 0), se_E1, Prod.mk.injEq, he, nI_1]
  simp [ev_C, he, nI_1]
theorem ev_happen {R : xo_H} {e : Nat} {k s a b : Int32} (hp : R.2.1 = MP) (he : R.1 (50, 0) 47 = nI e) (hb : e < 2 ^ 30) : fc_M_happen (50, 0) k s a b R = some (ev_R R e k s a b) := by
  unfold fc_M_happen
  have hlt : e % 64 < 64 := Nat.mod_lt _ (by decide)
  have e64 : (64 : Int32) = nI 64 := rfl
  simp only [se_gf (kd_50 0), he]
  rw [e64, se_rm (by omega) (by decide) (by decide), mp_48 hp, mq_93 hlt, mp_49 (by exact hp), mq_94 hlt, mp_50 (by exact hp), mq_95 hlt]
  simp only [se_pf (kd_50 0), se_E1, Prod.mk.injEq, he, nI_1]
  simp [ev_R, he, nI_1]
theorem ev_sm {b g t p e : Nat} {C R : xo_H} {k s a c : Int32} (h : sm b g t p C R) (hc : C.1 (1, 0) 3 = nI e) (hr : R.1 (50, 0) 47 = nI e) (he : e ≤ b) : sm (b + 1) g t p (ev_C C e k s a c) (ev_R R e k s a c) := by
  obtain ⟨h1, h2, h3, h4, ⟨e', h5, h6, h7, h8⟩, h9, h10⟩ := h
  unfold ev_C ev_R
  refine ⟨kc_S (kr_S (kc_S (kr_S (kc_S (kr_S (kc_S (kr_S h1 rfl) rfl) rfl) rfl) rfl) rfl) rfl) rfl, ?_, ?_, ?_, ?_, ?_, ?_⟩
  · exact kc_Q (kc_Q (kc_Q (kc_Q (kr_Q (kr_Q (kr_Q (kr_Q h2 rfl) rfl) rfl) rfl) rfl) rfl) rfl) rfl
  · exact kc_A (kc_A (kc_A (kc_A (kr_A (kr_A (kr_A (kr_A h3 rfl) rfl) rfl) rfl) rfl) rfl) rfl) rfl
  · exact kc_U (kc_U (kc_U (kc_U (kr_U (kr_U (kr_U (kr_U h4 rfl) rfl) rfl) rfl) rfl) rfl) rfl) rfl
  · refine ⟨e + 1, by omega, by simp [se_E1], by simp [se_E1], fun j => ?_⟩
    simp only [se_E1, Prod.mk.injEq]
    obtain ⟨i1, i2, i3⟩ := h8 j
    simp [i1, i2, i3]
  · exact kc_J (kc_J (kc_J (kc_J (kr_J (kr_J (kr_J (kr_J h9 rfl) rfl) rfl) rfl) rfl) rfl) rfl) rfl
  · exact kc_P (kc_P (kc_P (kc_P (kr_P (kr_P (kr_P (kr_P h10 rfl) rfl) rfl) rfl) rfl) rfl) rfl) rfl
/-- both programs tell the same event -/
theorem ev_both {b g t p : Nat} {C R : xo_H} (h : sm b g t p C R) (hb : b < 2 ^ 30) (k s a c : Int32) : ∃ e, e ≤ b ∧ fc_L_note (1, 0) k s a c C = some (ev_C C e k s a c) ∧ fc_M_happen (50, 0) k s a c R = some (ev_R R e k s a c) ∧ sm (b + 1) g t p (ev_C C e k s a c) (ev_R R e k s a c) := by
  have h0 := h
  obtain ⟨-, -, -, -, ⟨e, h5, h6, h7, -⟩, -, hP⟩ := h0
  obtain ⟨⟨hp, -⟩, -, -, -, ⟨l0, l1, l2⟩, -⟩ := hP
  exact ⟨e, h5, ev_note l0 l1 l2 h6 (by omega), ev_happen hp h7 (by omega), ev_sm h h6 h7 h5⟩
