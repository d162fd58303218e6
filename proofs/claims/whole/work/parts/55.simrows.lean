/-! the class's rows of chunks: closed forms -/
def cr_sz (bv v : Int32) : Int32 := if bv = 0 then 1 else v &&& 7
section CR
variable {C : xo_H} {c r : xo_N} {n h : Nat} {v : Int32}
theorem cr_size (hk : xo_kd c = .inl 4) : fc_C_sizeOf c v C = some (cr_sz (C.1 c 2) v, C) := by
  unfold fc_C_sizeOf cr_sz
  simp only [se_gf hk]
  split <;> rfl
theorem cr_count (hk : xo_kd c = .inl 4) (hr : xo_kd r = .inl 3) (hp : C.2.1 c 0 = some r) : fc_C_count c C = some (C.1 r 2, C) := by
  unfold fc_C_count
  simp only [se_gp hk, hp, se_gf hr]
theorem cr_add (hk : xo_kd c = .inl 4) (hr : xo_kd r = .inl 3) (hs : xo_kd (r.1 + 1, r.2) = .inr (0, 16)) (hp : C.2.1 c 0 = some r) (hq : C.2.1 r 0 = some (r.1 + 1, r.2)) (hn : C.1 r 2 = nI n) (hh : C.1 r 1 = nI h) (h1 : n < 16) (h2 : h < 16) (d1 : ¬ c = r) (d2 : ¬ c = (r.1 + 1, r.2)) :
    fc_C_add c v C = some (xo_sE (xo_sE (xo_sE C (r.1 + 1, r.2) ((h + n) % 16) v) r 2 (nI (n + 1))) c 3 (C.1 c 3 - cr_sz (C.1 c 2) v)) := by
  unfold fc_C_add
  simp only [se_gp hk, hp, se_cl hr]
  rw [sm_add hr hs hq hn hh h1 h2 (by decide)]
  simp only [Option.bind_some, se_gf hk, se_cl hk, cr_size hk, se_pf hk]
  simp only [se_E1, d1, d2, false_and, if_false]
theorem cr_take (hk : xo_kd c = .inl 4) (hr : xo_kd r = .inl 3) (hs : xo_kd (r.1 + 1, r.2) = .inr (0, 16)) (hp : C.2.1 c 0 = some r) (hq : C.2.1 r 0 = some (r.1 + 1, r.2)) (hn : C.1 r 2 = nI (n + 1)) (hh : C.1 r 1 = nI h) (h1 : n < 16) (h2 : h < 16) (d1 : ¬ c = r) :
    fc_C_takeFirst c C = some (C.1 (r.1 + 1, r.2) h, xo_sE (xo_sE (xo_sE C r 1 (nI ((h + 1) % 16))) r 2 (nI n)) c 3 (C.1 c 3 + cr_sz (C.1 c 2) (C.1 (r.1 + 1, r.2) h))) := by
  unfold fc_C_takeFirst
  simp only [se_gp hk, hp, se_cl hr]
  rw [sm_take hr hs hq hn hh h2 (by decide) (by omega)]
  simp only [Option.bind_some, se_gf hk, se_cl hk, cr_size hk, se_pf hk]
  simp only [se_E1, d1, false_and, if_false]
theorem cr_clear (hk : xo_kd c = .inl 4) (hr : xo_kd r = .inl 3) (hp : C.2.1 c 0 = some r) (d1 : ¬ c = r) : fc_C_clear c C = some (xo_sE (xo_sE C r 2 0) c 3 (C.1 c 1)) := by
  unfold fc_C_clear
  simp only [se_gp hk, hp, se_cl hr]
  rw [sm_clear hr]
  simp only [Option.bind_some, se_gf hk, se_pf hk]
  simp only [se_E1, d1, false_and, if_false]
end CR
/-! sums -/
theorem rs_comm (m a b : Int32) : m - a - b = m - b - a := by
  rw [Int32.sub_sub, Int32.sub_sub, Int32.add_comm]
theorem rs_cancel (m a b : Int32) : m - a - b + a = m - b := by
  rw [rs_comm, Int32.sub_add_cancel]
theorem rs_tail {m bv : Int32} {f g : Nat → Int32} : ∀ {n : Nat}, (∀ k, k < n → g k = f (k + 1)) → sm_rs m bv g n = sm_rs m bv f (n + 1) + cr_sz bv (f 0)
  | 0, _ => by
    rw [sm_rs, sm_rs, sm_rs]
    unfold cr_sz
    rw [Int32.sub_add_cancel]
  | n + 1, h => by
    rw [sm_rs, rs_tail (fun k hk => h k (by omega)), h n (by omega)]
    show _ = sm_rs m bv f (n + 1) - (if bv = 0 then 1 else f (n + 1) &&& 7) + cr_sz bv (f 0)
    rw [Int32.sub_eq_add_neg, Int32.sub_eq_add_neg, Int32.add_assoc, Int32.add_comm (cr_sz bv (f 0)), ← Int32.add_assoc]
/-- a stretch of an array moves down by one -/
def sh_R (R : xo_H) (tg lo n : Nat) : xo_H := (fun m g => if m = (tg, 0) ∧ lo ≤ g ∧ g < lo + n then R.1 m (g + 1) else R.1 m g, R.2)
theorem sh_1 (R : xo_H) (tg lo n : Nat) (m : xo_N) (g : Nat) : (sh_R R tg lo n).1 m g = if m = (tg, 0) ∧ lo ≤ g ∧ g < lo + n then R.1 m (g + 1) else R.1 m g := rfl
theorem sh_2 (R : xo_H) (tg lo n : Nat) : (sh_R R tg lo n).2 = R.2 := rfl
theorem sh_ne {R : xo_H} {tg lo n : Nat} {m : xo_N} (h : ¬ m = (tg, 0)) : (sh_R R tg lo n).1 m = R.1 m := funext fun g => by rw [sh_1, if_neg fun z => h z.1]
theorem sh_0 (R : xo_H) (tg lo : Nat) : sh_R R tg lo 0 = R := by
  refine Prod.ext (funext fun m => funext fun g => ?_) rfl
  rw [sh_1, if_neg (by omega)]
/-- one more step of the moving -/
theorem sh_step (R : xo_H) (tg lo n : Nat) : xo_sE (sh_R R tg lo n) (tg, 0) (lo + n) ((sh_R R tg lo n).1 (tg, 0) (lo + n + 1)) = sh_R R tg lo (n + 1) := by
  refine Prod.ext (funext fun m => funext fun g => ?_) rfl
  rw [se_E1, sh_1, sh_1, sh_1]
  by_cases c : m = (tg, 0)
  · subst c
    by_cases d : g = lo + n
    · subst d
      simp
      intro _ z
      omega
    · simp only [true_and, d, if_false]
      by_cases e1 : lo ≤ g ∧ g < lo + n
      · rw [if_pos e1, if_pos (by omega)]
      · rw [if_neg e1, if_neg (by omega)]
  · simp [c]
