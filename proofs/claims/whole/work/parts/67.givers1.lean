theorem se_com {H : xo_H} {n m : xo_N} {f g : Nat} {u v : Int32} (h : ¬ n = m) : xo_sE (xo_sE H n f u) m g v = xo_sE (xo_sE H m g v) n f u := by
  refine Prod.ext (funext fun a => funext fun c => ?_) rfl
  simp only [se_E1]
  by_cases e1 : a = n
  · subst e1
    simp [h]
  · simp [e1]
theorem se_id {H : xo_H} {n : xo_N} {f : Nat} {v : Int32} (h : H.1 n f = v) : xo_sE H n f v = H := by
  refine Prod.ext (funext fun a => funext fun c => ?_) rfl
  rw [se_E1]
  split
  next z => rw [z.1, z.2, h]
  next => rfl
/-- the room that a giver's queue leaves -/
def rRoom (R : xo_H) (r : Nat) : Int32 := sm_rs (R.1 (53, 0) r) (R.1 (54, 0) r) (fun k => R.1 (59, 0) (16 * r + k)) (R.1 (60, 0) r).toNatClampNeg
def rSpace (R : xo_H) (w : Nat) : Int32 := sm_rs (R.1 (72, 0) w) (R.1 (73, 0) w) (fun k => R.1 (74, 0) (16 * w + k)) (R.1 (76, 0) w).toNatClampNeg
section GB
variable {b g t p r : Nat} {C R : xo_H}
theorem sz_R {v bv : Int32} : fc_M_sizeOf (50, 0) v bv R = some (if bv = 0 then 1 else v &&& 7, R) := by
  unfold fc_M_sizeOf
  split <;> rfl
theorem rm_R (hp : R.2.1 = MP) (hr : r < 6) {n : Nat} (hn : R.1 (60, 0) r = nI n) (h16 : n ≤ 16) : ∀ (d k fu : Nat), k + d = n → d < fu → fb_M_room_9 fu (50, 0) (nI r) (sm_rs (R.1 (53, 0) r) (R.1 (54, 0) r) (fun k => R.1 (59, 0) (16 * r + k)) k) (nI k) R = some (rRoom R r, R)
  | 0, k, fu + 1, hk, _ => by
    rw [fb_M_room_9, mp_10 hp]
    simp only [ml_60 hr, hn]
    rw [if_neg (nI_nlt (by omega) (by omega))]
    unfold rRoom
    rw [hn, nI_clamp (by omega), show k = n by omega]
  | d + 1, k, fu + 1, hk, hf => by
    rw [fb_M_room_9, mp_10 hp]
    simp only [ml_60 hr, hn]
    rw [if_pos (nI_lt (by omega) (by omega)), mp_9 hp, ix_16, nI_add, ml_59 (by omega), mp_4 hp]
    simp only [ml_54 hr, se_gf (kd_50 0), se_pf (kd_50 0), se_cl (kd_50 0), sz_R, Option.bind_some, nI_1]
    exact rm_R hp hr hn h16 d (k + 1) fu (by omega) (by omega)
theorem room_R (hp : R.2.1 = MP) (hr : r < 6) {n : Nat} (hn : R.1 (60, 0) r = nI n) (h16 : n ≤ 16) : fc_M_room (50, 0) (nI r) R = some (rRoom R r, R) := by
  unfold fc_M_room
  rw [mp_3 hp]
  simp only [ml_53 hr]
  exact rm_R hp hr hn h16 n 0 1000 (by omega) (by omega)
theorem sp_R {w : Nat} (hp : R.2.1 = MP) (hw : w < 2) {n : Nat} (hn : R.1 (76, 0) w = nI n) (h16 : n ≤ 16) : ∀ (d k fu : Nat), k + d = n → d < fu → fb_M_space_9 fu (50, 0) (nI w) (sm_rs (R.1 (72, 0) w) (R.1 (73, 0) w) (fun k => R.1 (74, 0) (16 * w + k)) k) (nI k) R = some (rSpace R w, R)
  | 0, k, fu + 1, hk, _ => by
    rw [fb_M_space_9, mp_27 hp]
    simp only [ml_76 hw, hn]
    rw [if_neg (nI_nlt (by omega) (by omega))]
    unfold rSpace
    rw [hn, nI_clamp (by omega), show k = n by omega]
  | d + 1, k, fu + 1, hk, hf => by
    rw [fb_M_space_9, mp_27 hp]
    simp only [ml_76 hw, hn]
    rw [if_pos (nI_lt (by omega) (by omega)), mp_25 hp, ix_16, nI_add, ml_74 (by omega), mp_24 hp]
    simp only [ml_73 hw, se_gf (kd_50 0), se_pf (kd_50 0), se_cl (kd_50 0), sz_R, Option.bind_some, nI_1]
    exact sp_R hp hw hn h16 d (k + 1) fu (by omega) (by omega)
theorem space_R {w : Nat} (hp : R.2.1 = MP) (hw : w < 2) {n : Nat} (hn : R.1 (76, 0) w = nI n) (h16 : n ≤ 16) : fc_M_space (50, 0) (nI w) R = some (rSpace R w, R) := by
  unfold fc_M_space
  rw [mp_23 hp]
  simp only [ml_72 hw]
  exact sp_R hp hw hn h16 n 0 1000 (by omega) (by omega)
theorem tcl_R {R0 : xo_H} {u : Int32} (hp : R0.2.1 = MP) (hr : r < 6) {n : Nat} (hn : R0.1 (60, 0) r = nI n) (h16 : n < 16) : ∀ (d k fu : Nat), k + d = n → d < fu → fb_M_takeChunk_25 fu (50, 0) (nI r) u (nI (16 * r + k)) (sh_R R0 59 (16 * r) k) = some (u, sh_R R0 59 (16 * r) n)
  | 0, k, fu + 1, hk, _ => by
    have hm : (sh_R R0 59 (16 * r) k).1 (60, 0) r = nI n := by rw [sh_ne (by simp)]; exact hn
    rw [fb_M_takeChunk_25, mp_10 (by exact hp)]
    simp only [ml_60 hr, hm, ix_16, nI_add]
    rw [if_neg (nI_nlt (by omega) (by omega)), show k = n by omega]
  | d + 1, k, fu + 1, hk, hf => by
    have hm : (sh_R R0 59 (16 * r) k).1 (60, 0) r = nI n := by rw [sh_ne (by simp)]; exact hn
    rw [fb_M_takeChunk_25, mp_10 (by exact hp)]
    simp only [ml_60 hr, hm, ix_16, nI_add]
    rw [if_pos (nI_lt (by omega) (by omega)), mp_9 (by exact hp), mp_9 (by exact hp), nI_1, ml_59 (by omega), mq_59 (by omega), sh_step, show 16 * r + k + 1 = 16 * r + (k + 1) by omega]
    exact tcl_R hp hr hn h16 d (k + 1) fu (by omega) (by omega)
theorem tc_R (hp : R.2.1 = MP) (hr : r < 6) {n : Nat} (hn : R.1 (60, 0) r = nI (n + 1)) (h16 : n < 16) : fc_M_takeChunk (50, 0) (nI r) R = some (R.1 (59, 0) (16 * r), qt_R R r n) := by
  unfold fc_M_takeChunk
  rw [mp_9 hp, ix_16, ml_59 (by omega), mp_10 hp]
  simp only [ml_60 hr, mq_60 hr]
  rw [hn, nI_pred]
  have z := tcl_R (R0 := xo_sE R (60, 0) r (nI n)) (r := r) (u := R.1 (59, 0) (16 * r)) (by exact hp) hr (xo_sE_eq _ _ _ _) h16 n 0 1000 (by omega) (by omega)
  rw [sh_0] at z
  exact z
theorem trl_R {R0 : xo_H} {u : Int32} (hp : R0.2.1 = MP) (hr : r < 6) {n : Nat} (hn : R0.1 (62, 0) r = nI n) (h8 : n < 8) : ∀ (d k fu : Nat), k + d = n → d < fu → fb_M_takeRequest_25 fu (50, 0) (nI r) u (nI (8 * r + k)) (sh_R R0 61 (8 * r) k) = some (u, sh_R R0 61 (8 * r) n)
  | 0, k, fu + 1, hk, _ => by
    have hm : (sh_R R0 61 (8 * r) k).1 (62, 0) r = nI n := by rw [sh_ne (by simp)]; exact hn
    rw [fb_M_takeRequest_25, mp_12 (by exact hp)]
    simp only [ml_62 hr, hm, ix_8, nI_add]
    rw [if_neg (nI_nlt (by omega) (by omega)), show k = n by omega]
  | d + 1, k, fu + 1, hk, hf => by
    have hm : (sh_R R0 61 (8 * r) k).1 (62, 0) r = nI n := by rw [sh_ne (by simp)]; exact hn
    rw [fb_M_takeRequest_25, mp_12 (by exact hp)]
    simp only [ml_62 hr, hm, ix_8, nI_add]
    rw [if_pos (nI_lt (by omega) (by omega)), mp_11 (by exact hp), mp_11 (by exact hp), nI_1, ml_61 (by omega), mq_61 (by omega), sh_step, show 8 * r + k + 1 = 8 * r + (k + 1) by omega]
    exact trl_R hp hr hn h8 d (k + 1) fu (by omega) (by omega)
theorem tr_R (hp : R.2.1 = MP) (hr : r < 6) {n : Nat} (hn : R.1 (62, 0) r = nI (n + 1)) (h8 : n < 8) : fc_M_takeRequest (50, 0) (nI r) R = some (R.1 (61, 0) (8 * r), at_R R r n) := by
  unfold fc_M_takeRequest
  rw [mp_11 hp, ix_8, ml_61 (by omega), mp_12 hp]
  simp only [ml_62 hr, mq_62 hr]
  rw [hn, nI_pred]
  have z := trl_R (R0 := xo_sE R (62, 0) r (nI n)) (r := r) (u := R.1 (61, 0) (8 * r)) (by exact hp) hr (xo_sE_eq _ _ _ _) h8 n 0 1000 (by omega) (by omega)
  rw [sh_0] at z
  exact z
end GB
/-- whether a pull is needed -/
abbrev rNeed (R : xo_H) (r : Nat) : Prop := R.1 (51, 0) r = 0 ∧ R.1 (55, 0) r = 0 ∧ (¬ R.1 (62, 0) r = 0 ∨ 0 < rRoom R r)
abbrev rB01 (x : Int32) : Prop := x = 0 ∨ x = 1
/-- 'pulls' that begin, that are kept in mind -/
def rPulls (R : xo_H) (r : Nat) : xo_H := if R.1 (56, 0) r = 0 then xo_sE R (56, 0) r 1 else xo_sE R (57, 0) r 1
