section PR
variable {b g t p q r : Nat} {C R : xo_H}
theorem rPl_Inv (z : Inv g t p q R) (hr : r < g) : Inv g t p q (rPl R r) := by
  unfold rPl rPulls
  split
  · split
    · exact m56 z hr (Or.inl rfl)
    · exact m57 z hr (Or.inr rfl)
  · exact z
theorem rPl_agr {L : Nat → Nat → Bool} (h1 : L 56 r = false) (h2 : L 57 r = false) : agr L R (rPl R r) := by
  unfold rPl rPulls
  split
  · split
    · exact agr_set h1
    · exact agr_set h2
  · exact agr_rfl
theorem rPb_1 (h : ¬ rPb R r = 0) : rPb R r = 1 ∧ R.1 (56, 0) r = 0 ∧ (rPl R r).1 (56, 0) r = 1 := by
  unfold rPb at h ⊢
  by_cases c : rNeed R r ∧ R.1 (56, 0) r = 0
  · rw [if_pos c, rPl_y c.1]
    unfold rPulls
    rw [if_pos c.2]
    exact ⟨rfl, c.2, xo_sE_eq _ _ _ _⟩
  · rw [if_neg c] at h
    exact absurd rfl h
def rPR (R : xo_H) (r : Nat) : xo_H := if rPb R r = 0 then rPl R r else hE (rPl R r) 1 (nI r) 0 0
theorem rPR_agr {L : Nat → Nat → Bool} (h1 : L 56 r = false) (h2 : L 57 r = false) (h3 : L 50 47 = false) (h4 : ∀ c, (L 93 c || L 94 c || L 95 c) = false) : agr L R (rPR R r) := by
  unfold rPR
  split
  · exact rPl_agr h1 h2
  · exact agr_tr (rPl_agr h1 h2) (agr_hE h3 h4)
theorem rPR_Inv (z : Inv g t p q R) (hr : r < g) : Inv g t p q (rPR R r) := by
  unfold rPR
  split
  · exact rPl_Inv z hr
  · exact Inv_hE (rPl_Inv z hr)
/-- startsPulling, and the event; pullRoot -/
theorem pr_SI (h : SI b g t p q C R) (hb : b + 10 < 2 ^ 30) (hr : r < g) : ∃ C1, fc_G_startsPulling (20, r) C = some (rPb R r, C1) ∧ sm b g t p C1 (rPl R r) ∧ fc_M_pullRoot (50, 0) (nI r) R = some (rPR R r) ∧ (rPb R r = 0 → rPR R r = rPl R r) ∧ (¬ rPb R r = 0 → ∃ C2, fc_L_note (1, 0) 1 (nI r) 0 0 C1 = some C2 ∧ sm (b + 1) g t p C2 (rPR R r)) := by
  obtain ⟨C1, x1, x2, x3⟩ := pl_both h.1 hr (h.2.2.2.1 r).2 (h.2.2.2.1 r).1
  obtain ⟨C2, y1, y2, y3⟩ := hE_both x3 (by omega) 1 (nI r) 0 0
  have e0 : rPb R r = 0 → rPR R r = rPl R r := fun c => by unfold rPR; rw [if_pos c]
  have e1 : ¬ rPb R r = 0 → rPR R r = hE (rPl R r) 1 (nI r) 0 0 := fun c => by unfold rPR; rw [if_neg c]
  refine ⟨C1, x1, x3, ?_, e0, fun c => ⟨C2, y1, by rw [e1 c]; exact y3⟩⟩
  unfold fc_M_pullRoot
  rw [se_cl (kd_50 0), x2, Option.bind_some]
  by_cases c : rPb R r = 0
  · rw [if_pos c, e0 c]
  · rw [if_neg c, e1 c, se_cl (kd_50 0), y2]
    rfl
/-- after a chunk was taken out: closed, if it was the last one of an ending giver -/
def rCD (R : xo_H) (r : Nat) : xo_H := if ¬ R.1 (55, 0) r = 0 ∧ R.1 (60, 0) r = 0 then xo_sE R (51, 0) r 1 else R
theorem cdr_C (h : sm b g t p C R) (hr : r < g) : ∃ C', fc_G_closeIfDrained (20, r) C = some C' ∧ sm b g t p C' (rCD R r) := by
  have q7 := sm_get h 20 7 55 r (by decide)
  obtain ⟨-, p0, p1, p2, p3, p4, p5, p6⟩ := sm_ptr h hr
  obtain ⟨n, n16, n1, n2⟩ := sm_qn h r
  unfold fc_G_closeIfDrained rCD
  simp only [se_gf (kd_20 r), q7]
  by_cases c : R.1 (55, 0) r = 0
  · rw [if_pos c, if_neg (fun z => z.1 c)]
    exact ⟨C, rfl, h⟩
  · rw [if_neg c]
    simp only [se_gp (kd_20 r), p1, se_cl (kd_21 r), cr_count (kd_21 r) (kd_22 r) p4, Option.bind_some, n2]
    by_cases d : R.1 (60, 0) r = 0
    · have d' : nI n = 0 := n1.symm.trans d
      have cc : ¬ R.1 (55, 0) r = 0 ∧ R.1 (60, 0) r = 0 := ⟨c, d⟩
      rw [if_pos d', if_pos cc]
      simp only [se_pf (kd_20 r)]
      exact ⟨_, rfl, sm_set h 20 4 51 r 1 (by decide) rfl rfl⟩
    · have d' : ¬ nI n = 0 := fun e => d (n1.trans e)
      rw [if_neg d', if_neg (fun z => d z.2)]
      exact ⟨C, rfl, h⟩
theorem cdr_R (h : SI b g t p q C R) (hb : b + 60 < 2 ^ 30) (hr : r < g) (h1 : R.1 (60, 0) r = 0) (h2 : R.1 (62, 0) r = 0) (h3 : ¬ R.1 (51, 0) r = 2) : fc_M_close (50, 0) (nI r) R = some (xo_sE R (51, 0) r 1) := by
  obtain ⟨-, -, x2, -⟩ := cl_SI h hb hr h1 h3
  rw [x2]
  unfold rClose rCP
  rw [if_neg (fun z => z.2 h2), h2, show (0 : Int32).toNatClampNeg = 0 from by decide, rAL, se_id (H := xo_sE R (51, 0) r 1) (by rw [se_ne (by simp)]; exact h2)]
theorem rCD_Inv (z : Inv g t p q R) (hr : r < g) (h2 : R.1 (62, 0) r = 0) (h3 : ¬ R.1 (51, 0) r = 2) : Inv g t p q (rCD R r) := by
  unfold rCD
  split
  next c => exact m51c z hr c.2 h2 h3
  next => exact z
theorem rCD_agr {L : Nat → Nat → Bool} (h1 : L 51 r = false) : agr L R (rCD R r) := by
  unfold rCD
  split
  · exact agr_set h1
  · exact agr_rfl
theorem qt_agr {L : Nat → Nat → Bool} {n : Nat} (h1 : ∀ c, L 59 c = false) (h2 : L 60 r = false) : agr L R (qt_R R r n) := by
  unfold qt_R
  exact agr_tr (agr_set h2) (agr_sh h1)
theorem qt_60 {n : Nat} : (qt_R R r n).1 (60, 0) r = nI n := by
  unfold qt_R
  rw [sh_ne (by simp)]
  exact xo_sE_eq _ _ _ _
theorem qt_Inv {n : Nat} (z : Inv g t p q R) (hr : r < g) (h1 : R.1 (51, 0) r = 0) (h2 : R.1 (62, 0) r = 0) : Inv g t p q (qt_R R r n) := by
  unfold qt_R
  exact ka_Inv (agr_sh fun _ => rfl) (m60 z (Or.inr ⟨hr, h1, h2⟩))
theorem qa_Inv {n : Nat} {v : Int32} (z : Inv g t p q R) (hr : r < g) (h1 : R.1 (51, 0) r = 0) (h2 : R.1 (62, 0) r = 0) : Inv g t p q (qa_R R r n v) := by
  unfold qa_R
  exact m60 (ka_Inv (agr_set rfl) z) (Or.inr ⟨hr, by rw [se_ne (by simp)]; exact h1, by rw [se_ne (by simp)]; exact h2⟩)
theorem qa_agr {L : Nat → Nat → Bool} {n : Nat} {v : Int32} (h1 : ∀ c, L 59 c = false) (h2 : L 60 r = false) : agr L R (qa_R R r n v) := by
  unfold qa_R
  exact agr_to (agr_set (h1 _)) h2
/-- a giver that isn't open starts no pull -/
theorem rPR_no (h : ¬ R.1 (51, 0) r = 0) : rPb R r = 0 ∧ rPl R r = R ∧ rPR R r = R := by
  have hN : ¬ rNeed R r := fun z => h z.1
  have e1 := rPb_n hN
  have e2 := rPl_n hN
  refine ⟨e1, e2, ?_⟩
  unfold rPR
  rw [if_pos e1, e2]
end PR
