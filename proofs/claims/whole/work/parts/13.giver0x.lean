def fc_G_init (t : xo_N) (x1 : Int32) (x2 : Option xo_N) (x3 : Option xo_N) (H : xo_H) : Option (xo_H) :=
  xo_nw 3 H (t.1 + 4, t.2) fun H1 =>
  (fc_R_init (t.1 + 4, t.2) (8 : Int32) H1).bind fun H3 =>
  xo_pp 5 3 H3 (some t) (some (t.1 + 4, t.2)) fun H4 =>
  xo_pf 5 4 H4 (some t) (0 : Int32) fun H5 =>
  xo_pf 5 0 H5 (some t) x1 fun H6 =>
  xo_pp 5 1 H6 (some t) x2 fun H7 =>
  xo_pp 5 2 H7 (some t) x3 fun H8 =>
  some H8

set_option maxRecDepth 100000 in
set_option maxHeartbeats 4000000 in
theorem kb_G_init (t : xo_N) (x1 : Int32) (x2 : Option xo_N) (x3 : Option xo_N) (H : xo_H) (r : xo_H) : xo_X mt_G_init 2 19 xo_jv r 0 [(0, .inr (some t)), (1, .inl x1), (2, .inr x2), (3, .inr x3)] [] H (fc_G_init t x1 x2 x3 H) := by
  unfold fc_G_init
  refine xo_aload_n (pc' := 1) dd_G_init_0 rfl 0 rfl rfl ?_
  refine xo_oinit (pc' := 4) dd_G_init_1 wo_G_3 wo_inst wo_code (by decide) (Nat.le_of_ble_eq_true rfl) rfl ?_
  refine xo_aload_n (pc' := 5) dd_G_init_4 rfl 0 rfl rfl ?_
  refine xo_new (pc' := 8) dd_G_init_5 co_G_9 rfl rfl rfl fun H1 => ?_
  refine xo_dup (pc' := 9) dd_G_init_8 rfl ?_
  refine xo_bipush (pc' := 11) (v := (8 : Int32)) dd_G_init_9 (by decide) rfl ?_
  refine xo_callIv (as := [.inl (8 : Int32)]) (n := (t.1 + 4, t.2)) (st := [.inr (some (t.1 + 4, t.2)), .inr (some t)]) (pc' := 14) dd_G_init_11 cv_R_init ml_G_11 rfl ⟨by decide, by decide⟩ rfl rfl rfl (Nat.le_of_ble_eq_true rfl) rfl (fun q h => kc_R_init (t.1 + 4, t.2) (8 : Int32) H1 q h) fun H3 => ?_
  refine xo_putPF (pc' := 17) dd_G_init_14 fF_G_14 rfl (by decide) (by decide +kernel : parseFieldDescriptor "LFlowKernel$Row;" = some (.object "FlowKernel$Row")) (Or.inl ⟨_, rfl⟩) rfl fun H4 => ?_
  refine xo_aload_n (pc' := 18) dd_G_init_17 rfl 0 rfl rfl ?_
  refine xo_iconst (pc' := 19) (v := (0 : Int32)) dd_G_init_18 (by decide) rfl ?_
  refine xo_putI (pc' := 22) dd_G_init_19 ff_G_20 rfl fun H5 => ?_
  refine xo_aload_n (pc' := 23) dd_G_init_22 rfl 0 rfl rfl ?_
  refine xo_iload_n (pc' := 24) dd_G_init_23 rfl 1 rfl rfl ?_
  refine xo_putIF (pc' := 27) dd_G_init_24 fF_G_24 rfl rfl fun H6 => ?_
  refine xo_aload_n (pc' := 28) dd_G_init_27 rfl 0 rfl rfl ?_
  refine xo_aload_n (pc' := 29) dd_G_init_28 rfl 2 rfl rfl ?_
  refine xo_putPF (pc' := 32) dd_G_init_29 fF_G_27 rfl (by decide) (by decide +kernel : parseFieldDescriptor "LFlowKernel$ChunkRow;" = some (.object "FlowKernel$ChunkRow")) (Or.inl ⟨_, rfl⟩) rfl fun H7 => ?_
  refine xo_aload_n (pc' := 33) dd_G_init_32 rfl 0 rfl rfl ?_
  refine xo_aload_n (pc' := 34) dd_G_init_33 rfl 3 rfl rfl ?_
  refine xo_putPF (pc' := 37) dd_G_init_34 fF_G_31 rfl (by decide) (by decide +kernel : parseFieldDescriptor "LFlowKernel$EventLog;" = some (.object "FlowKernel$EventLog")) (Or.inl ⟨_, rfl⟩) rfl fun H8 => ?_
  exact xo_vret dd_G_init_37 rfl
set_option maxRecDepth 100000 in
set_option maxHeartbeats 4000000 in
theorem kc_G_init (t : xo_N) (x1 : Int32) (x2 : Option xo_N) (x3 : Option xo_N) (H : xo_H) (r : xo_H) (hk : fc_G_init t x1 x2 x3 H = some r) : xo_M mt_G_init [.inr (some t), .inl x1, .inr x2, .inr x3] H (xo_jv r) :=
  xo_entry hk (by decide +kernel) (Nat.le_of_ble_eq_true rfl) (kb_G_init t x1 x2 x3 H r)
def fc_G_isGoing (t : xo_N) (H : xo_H) : Option (Int32 × xo_H) :=
  xo_gf 5 4 H (some t) fun v1 =>
  if v1 = 0 then (xo_gf 5 7 H (some t) fun v2 =>
  if v2 = 0 then (xo_gb (1 : Int32) (some ((1 : Int32), H)))
  else (xo_gb (0 : Int32) (some ((0 : Int32), H))))
  else (xo_gb (0 : Int32) (some ((0 : Int32), H)))

set_option maxRecDepth 100000 in
set_option maxHeartbeats 4000000 in
theorem kb_G_isGoing (t : xo_N) (H : xo_H) (r : Int32 × xo_H) : xo_X mt_G_isGoing 0 0 xo_ji r 0 [(0, .inr (some t))] [] H (fc_G_isGoing t H) := by
  unfold fc_G_isGoing
  refine xo_aload_n (pc' := 1) dd_G_isGoing_0 rfl 0 rfl rfl ?_
  refine xo_getI (pc' := 4) dd_G_isGoing_1 ff_G_20 (by decide) rfl fun v1 => ?_
  refine xo_if_ne (pc' := 7) (tgt := 18) dd_G_isGoing_4 rfl rfl ?_ ?_
  · refine xo_iconst (pc' := 19) (v := (0 : Int32)) dd_G_isGoing_18 (by decide) rfl ?_
    exact xo_zret dd_G_isGoing_19 rfl
  · refine xo_aload_n (pc' := 8) dd_G_isGoing_7 rfl 0 rfl rfl ?_
    refine xo_getI (pc' := 11) dd_G_isGoing_8 ff_G_35 (by decide) rfl fun v2 => ?_
    refine xo_if_ne (pc' := 14) (tgt := 18) dd_G_isGoing_11 rfl rfl ?_ ?_
    · refine xo_iconst (pc' := 19) (v := (0 : Int32)) dd_G_isGoing_18 (by decide) rfl ?_
      exact xo_zret dd_G_isGoing_19 rfl
    · refine xo_iconst (pc' := 15) (v := (1 : Int32)) dd_G_isGoing_14 (by decide) rfl ?_
      refine xo_goto (pc' := 19) dd_G_isGoing_15 rfl ?_
      exact xo_zret dd_G_isGoing_19 rfl
set_option maxRecDepth 100000 in
set_option maxHeartbeats 4000000 in
theorem kc_G_isGoing (t : xo_N) (H : xo_H) (r : Int32 × xo_H) (hk : fc_G_isGoing t H = some r) : xo_M mt_G_isGoing [.inr (some t)] H (xo_ji r) :=
  xo_entry hk (by decide +kernel) (Nat.le_of_ble_eq_true rfl) (kb_G_isGoing t H r)
def fb_G_startsPulling_51 (t : xo_N) (x1 : Int32) (H : xo_H) : Option (Int32 × xo_H) :=
  if x1 = 0 then (xo_gb x1 (some (x1, H)))
  else (xo_pz 5 8 H (some t) (1 : Int32) fun H1 =>
  xo_gb x1 (some (x1, H1)))

def fb_G_startsPulling_32 (t : xo_N) (s0 : Int32) (H : xo_H) : Option (Int32 × xo_H) :=
  if s0 = 0 then (fb_G_startsPulling_51 t s0 H)
  else (xo_gf 5 8 H (some t) fun v1 =>
  if v1 = 0 then (fb_G_startsPulling_51 t s0 H)
  else (xo_pz 5 9 H (some t) (1 : Int32) fun H2 =>
  xo_gb (0 : Int32) (some ((0 : Int32), H2))))

def fc_G_startsPulling (t : xo_N) (H : xo_H) : Option (Int32 × xo_H) :=
  xo_cl 5 (some t) (fun n6 => fc_G_isGoing n6 H) fun r1 =>
  if r1.1 = 0 then (fb_G_startsPulling_32 t (0 : Int32) r1.2)
  else (xo_gp 5 3 r1.2 (some t) fun o2 =>
  xo_gf 3 2 r1.2 o2 fun v3 =>
  if 0 < v3 then (fb_G_startsPulling_32 t (1 : Int32) r1.2)
  else (xo_gp 5 1 r1.2 (some t) fun o4 =>
  xo_gf 4 3 r1.2 o4 fun v5 =>
  if 0 < v5 then (fb_G_startsPulling_32 t (1 : Int32) r1.2)
  else (fb_G_startsPulling_32 t (0 : Int32) r1.2)))

set_option maxRecDepth 100000 in
set_option maxHeartbeats 4000000 in
theorem kb_G_startsPulling_51 (t : xo_N) (x1 : Int32) (H : xo_H) (r : Int32 × xo_H) : xo_X mt_G_startsPulling 0 0 xo_ji r 51 [(0, .inr (some t)), (1, .inl x1)] [] H (fb_G_startsPulling_51 t x1 H) := by
  unfold fb_G_startsPulling_51
  refine xo_iload_n (pc' := 52) dd_G_startsPulling_51 rfl 1 rfl rfl ?_
  refine xo_if_eq (pc' := 55) (tgt := 60) dd_G_startsPulling_52 rfl rfl ?_ ?_
  · refine xo_iload_n (pc' := 61) dd_G_startsPulling_60 rfl 1 rfl rfl ?_
    exact xo_zret dd_G_startsPulling_61 rfl
  · refine xo_aload_n (pc' := 56) dd_G_startsPulling_55 rfl 0 rfl rfl ?_
    refine xo_iconst (pc' := 57) (v := (1 : Int32)) dd_G_startsPulling_56 (by decide) rfl ?_
    refine xo_putZ (pc' := 60) dd_G_startsPulling_57 ff_G_59 rfl fun H1 => ?_
    refine xo_iload_n (pc' := 61) dd_G_startsPulling_60 rfl 1 rfl rfl ?_
    exact xo_zret dd_G_startsPulling_61 rfl
set_option maxRecDepth 100000 in
set_option maxHeartbeats 4000000 in
theorem kb_G_startsPulling_32 (t : xo_N) (s0 : Int32) (H : xo_H) (r : Int32 × xo_H) : xo_X mt_G_startsPulling 0 0 xo_ji r 32 [(0, .inr (some t))] [.inl s0] H (fb_G_startsPulling_32 t s0 H) := by
  unfold fb_G_startsPulling_32
  refine xo_istore_n (pc' := 33) dd_G_startsPulling_32 rfl (by decide) rfl rfl ?_
  refine xo_iload_n (pc' := 34) dd_G_startsPulling_33 rfl 0 rfl rfl ?_
  refine xo_if_eq (pc' := 37) (tgt := 51) dd_G_startsPulling_34 rfl rfl ?_ ?_
  · refine xo_sub [1, 0] rfl ?_
    exact kb_G_startsPulling_51 t s0 H r
  · refine xo_aload_n (pc' := 38) dd_G_startsPulling_37 rfl 1 rfl rfl ?_
    refine xo_getI (pc' := 41) dd_G_startsPulling_38 ff_G_59 (by decide) rfl fun v1 => ?_
    refine xo_if_eq (pc' := 44) (tgt := 51) dd_G_startsPulling_41 rfl rfl ?_ ?_
    · refine xo_sub [1, 0] rfl ?_
      exact kb_G_startsPulling_51 t s0 H r
    · refine xo_aload_n (pc' := 45) dd_G_startsPulling_44 rfl 1 rfl rfl ?_
      refine xo_iconst (pc' := 46) (v := (1 : Int32)) dd_G_startsPulling_45 (by decide) rfl ?_
      refine xo_putZ (pc' := 49) dd_G_startsPulling_46 ff_G_62 rfl fun H2 => ?_
      refine xo_iconst (pc' := 50) (v := (0 : Int32)) dd_G_startsPulling_49 (by decide) rfl ?_
      exact xo_zret dd_G_startsPulling_50 rfl
set_option maxRecDepth 100000 in
set_option maxHeartbeats 4000000 in
theorem kb_G_startsPulling (t : xo_N) (H : xo_H) (r : Int32 × xo_H) : xo_X mt_G_startsPulling 0 0 xo_ji r 0 [(0, .inr (some t))] [] H (fc_G_startsPulling t H) := by
  unfold fc_G_startsPulling
  refine xo_aload_n (pc' := 1) dd_G_startsPulling_0 rfl 0 rfl rfl ?_
  refine xo_callVi (as := []) (o := (some t)) (st := []) (pc' := 4) dd_G_startsPulling_1 cv_G_isGoing ml_G_47 rfl rfl ⟨by decide, by decide⟩ rfl rfl rfl (Nat.le_of_ble_eq_true rfl) rfl (fun n q h => kc_G_isGoing n H q h) fun r1 => ?_
  refine xo_if_eq (pc' := 7) (tgt := 31) dd_G_startsPulling_4 rfl rfl ?_ ?_
  · refine xo_iconst (pc' := 32) (v := (0 : Int32)) dd_G_startsPulling_31 (by decide) rfl ?_
    exact kb_G_startsPulling_32 t (0 : Int32) r1.2 r
  · refine xo_aload_n (pc' := 8) dd_G_startsPulling_7 rfl 0 rfl rfl ?_
    refine xo_getP (pc' := 11) dd_G_startsPulling_8 ff_G_14 (by decide) rfl fun o2 => ?_
    refine xo_getI (pc' := 14) dd_G_startsPulling_11 ff_G_51 (by decide) rfl fun v3 => ?_
    refine xo_if_gt (pc' := 17) (tgt := 27) dd_G_startsPulling_14 rfl rfl ?_ ?_
    · refine xo_iconst (pc' := 28) (v := (1 : Int32)) dd_G_startsPulling_27 (by decide) rfl ?_
      refine xo_goto (pc' := 32) dd_G_startsPulling_28 rfl ?_
      exact kb_G_startsPulling_32 t (1 : Int32) r1.2 r
    · refine xo_aload_n (pc' := 18) dd_G_startsPulling_17 rfl 0 rfl rfl ?_
      refine xo_getP (pc' := 21) dd_G_startsPulling_18 ff_G_27 (by decide) rfl fun o4 => ?_
      refine xo_getI (pc' := 24) dd_G_startsPulling_21 ff_G_54 (by decide) rfl fun v5 => ?_
      refine xo_if_le (pc' := 27) (tgt := 31) dd_G_startsPulling_24 rfl rfl ?_ ?_
      · refine xo_iconst (pc' := 32) (v := (0 : Int32)) dd_G_startsPulling_31 (by decide) rfl ?_
        exact kb_G_startsPulling_32 t (0 : Int32) r1.2 r
      · refine xo_iconst (pc' := 28) (v := (1 : Int32)) dd_G_startsPulling_27 (by decide) rfl ?_
        refine xo_goto (pc' := 32) dd_G_startsPulling_28 rfl ?_
        exact kb_G_startsPulling_32 t (1 : Int32) r1.2 r
set_option maxRecDepth 100000 in
set_option maxHeartbeats 4000000 in
theorem kc_G_startsPulling (t : xo_N) (H : xo_H) (r : Int32 × xo_H) (hk : fc_G_startsPulling t H = some r) : xo_M mt_G_startsPulling [.inr (some t)] H (xo_ji r) :=
  xo_entry hk (by decide +kernel) (Nat.le_of_ble_eq_true rfl) (kb_G_startsPulling t H r)
def fc_G_closeIfDrained (t : xo_N) (H : xo_H) : Option (xo_H) :=
  xo_gf 5 7 H (some t) fun v1 =>
  if v1 = 0 then (some H)
  else (xo_gp 5 1 H (some t) fun o2 =>
  xo_cl 4 o2 (fun n5 => fc_C_count n5 H) fun r3 =>
  if r3.1 = 0 then (xo_pf 5 4 r3.2 (some t) (1 : Int32) fun H4 =>
  some H4)
  else (some r3.2))

set_option maxRecDepth 100000 in
set_option maxHeartbeats 4000000 in
theorem kb_G_closeIfDrained (t : xo_N) (H : xo_H) (r : xo_H) : xo_X mt_G_closeIfDrained 0 0 xo_jv r 0 [(0, .inr (some t))] [] H (fc_G_closeIfDrained t H) := by
  unfold fc_G_closeIfDrained
  refine xo_aload_n (pc' := 1) dd_G_closeIfDrained_0 rfl 0 rfl rfl ?_
  refine xo_getI (pc' := 4) dd_G_closeIfDrained_1 ff_G_35 (by decide) rfl fun v1 => ?_
  refine xo_if_eq (pc' := 7) (tgt := 22) dd_G_closeIfDrained_4 rfl rfl ?_ ?_
  · exact xo_vret dd_G_closeIfDrained_22 rfl
  · refine xo_aload_n (pc' := 8) dd_G_closeIfDrained_7 rfl 0 rfl rfl ?_
    refine xo_getP (pc' := 11) dd_G_closeIfDrained_8 ff_G_27 (by decide) rfl fun o2 => ?_
    refine xo_callVi (as := []) (o := o2) (st := []) (pc' := 14) dd_G_closeIfDrained_11 cv_C_count ml_G_65 rfl rfl ⟨by decide, by decide⟩ rfl rfl rfl (Nat.le_of_ble_eq_true rfl) rfl (fun n q h => kc_C_count n H q h) fun r3 => ?_
    refine xo_if_ne (pc' := 17) (tgt := 22) dd_G_closeIfDrained_14 rfl rfl ?_ ?_
    · exact xo_vret dd_G_closeIfDrained_22 rfl
    · refine xo_aload_n (pc' := 18) dd_G_closeIfDrained_17 rfl 0 rfl rfl ?_
      refine xo_iconst (pc' := 19) (v := (1 : Int32)) dd_G_closeIfDrained_18 (by decide) rfl ?_
      refine xo_putI (pc' := 22) dd_G_closeIfDrained_19 ff_G_20 rfl fun H4 => ?_
      exact xo_vret dd_G_closeIfDrained_22 rfl
set_option maxRecDepth 100000 in
set_option maxHeartbeats 4000000 in
theorem kc_G_closeIfDrained (t : xo_N) (H : xo_H) (r : xo_H) (hk : fc_G_closeIfDrained t H = some r) : xo_M mt_G_closeIfDrained [.inr (some t)] H (xo_jv r) :=
  xo_entry hk (by decide +kernel) (Nat.le_of_ble_eq_true rfl) (kb_G_closeIfDrained t H r)
def fb_G_answerAll_18 : Nat → xo_N → Int32 → Int32 → xo_H → Option (xo_H)
  | 0, _, _, _, _ => none
  | fu + 1, t, x1, x2, H =>
  xo_gp 5 3 H (some t) fun o1 =>
  xo_gf 3 2 H o1 fun v2 =>
  if x2 < v2 then (xo_gp 5 3 H (some t) fun o6 =>
  xo_cl 3 o6 (fun n13 => fc_R_at n13 x2 H) fun r7 =>
  if r7.1 = 0 then (fb_G_answerAll_18 fu t x1 (x2 + (1 : Int32)) r7.2)
  else (xo_gp 5 2 r7.2 (some t) fun o8 =>
  xo_gf 5 0 r7.2 (some t) fun v9 =>
  xo_gf 5 5 r7.2 (some t) fun v10 =>
  xo_cl 1 o8 (fun n12 => fc_L_note n12 x1 v9 r7.1 v10 r7.2) fun H11 =>
  fb_G_answerAll_18 fu t x1 (x2 + (1 : Int32)) H11))
  else (xo_gp 5 3 H (some t) fun o3 =>
  xo_cl 3 o3 (fun n5 => fc_R_clear n5 H) fun H4 =>
  some H4)

def fb_G_answerAll_15 (t : xo_N) (s0 : Int32) (H : xo_H) : Option (xo_H) :=
  fb_G_answerAll_18 1000 t s0 (0 : Int32) H

def fc_G_answerAll (t : xo_N) (H : xo_H) : Option (xo_H) :=
  xo_gf 5 4 H (some t) fun v1 =>
  if v1 = (2 : Int32) then (fb_G_answerAll_15 t (8 : Int32) H)
  else (fb_G_answerAll_15 t (7 : Int32) H)

set_option maxRecDepth 100000 in
set_option maxHeartbeats 4000000 in
theorem kb_G_answerAll_18 : ∀ (fu : Nat) (t : xo_N) (x1 : Int32) (x2 : Int32) (H : xo_H) (r : xo_H), xo_X mt_G_answerAll 0 0 xo_jv r 18 [(0, .inr (some t)), (1, .inl x1), (2, .inl x2)] [] H (fb_G_answerAll_18 fu t x1 x2 H) := by
  intro fu
  induction fu with
  | zero => intros; exact xo_no
  | succ fu ih =>
    intro t x1 x2 H r
    rw [fb_G_answerAll_18]
    refine xo_iload_n (pc' := 19) dd_G_answerAll_18 rfl 2 rfl rfl ?_
    refine xo_aload_n (pc' := 20) dd_G_answerAll_19 rfl 0 rfl rfl ?_
    refine xo_getP (pc' := 23) dd_G_answerAll_20 ff_G_14 (by decide) rfl fun o1 => ?_
    refine xo_getI (pc' := 26) dd_G_answerAll_23 ff_G_51 (by decide) rfl fun v2 => ?_
    refine xo_icmp_ge (pc' := 29) (tgt := 65) dd_G_answerAll_26 rfl rfl ?_ ?_
    · refine xo_aload_n (pc' := 66) dd_G_answerAll_65 rfl 0 rfl rfl ?_
      refine xo_getP (pc' := 69) dd_G_answerAll_66 ff_G_14 (by decide) rfl fun o3 => ?_
      refine xo_callVv (as := []) (o := o3) (st := []) (pc' := 72) dd_G_answerAll_69 cv_R_clear ml_G_87 rfl rfl ⟨by decide, by decide⟩ rfl rfl rfl (Nat.le_of_ble_eq_true rfl) rfl (fun n q h => kc_R_clear n H q h) fun H4 => ?_
      exact xo_vret dd_G_answerAll_72 rfl
    · refine xo_aload_n (pc' := 30) dd_G_answerAll_29 rfl 0 rfl rfl ?_
      refine xo_getP (pc' := 33) dd_G_answerAll_30 ff_G_14 (by decide) rfl fun o6 => ?_
      refine xo_iload_n (pc' := 34) dd_G_answerAll_33 rfl 2 rfl rfl ?_
      refine xo_callVi (as := [.inl x2]) (o := o6) (st := []) (pc' := 37) dd_G_answerAll_34 cv_R_at ml_G_77 rfl rfl ⟨by decide, by decide⟩ rfl rfl rfl (Nat.le_of_ble_eq_true rfl) rfl (fun n q h => kc_R_at n x2 H q h) fun r7 => ?_
      refine xo_istore_n (pc' := 38) dd_G_answerAll_37 rfl (by decide) rfl rfl ?_
      refine xo_iload_n (pc' := 39) dd_G_answerAll_38 rfl 0 rfl rfl ?_
      refine xo_if_eq (pc' := 42) (tgt := 59) dd_G_answerAll_39 rfl rfl ?_ ?_
      · refine xo_iinc (pc' := 62) dd_G_answerAll_59 3 rfl (xo_ii (m := (1 : Int32)) (by decide)) (by decide) rfl rfl ?_
        refine xo_goto (pc' := 18) dd_G_answerAll_62 rfl ?_
        refine xo_sub [2, 3, 0] rfl ?_
        exact ih t x1 (x2 + (1 : Int32)) r7.2 r
      · refine xo_aload_n (pc' := 43) dd_G_answerAll_42 rfl 1 rfl rfl ?_
        refine xo_getP (pc' := 46) dd_G_answerAll_43 ff_G_31 (by decide) rfl fun o8 => ?_
        refine xo_iload_n (pc' := 47) dd_G_answerAll_46 rfl 2 rfl rfl ?_
        refine xo_aload_n (pc' := 48) dd_G_answerAll_47 rfl 1 rfl rfl ?_
        refine xo_getI (pc' := 51) dd_G_answerAll_48 ff_G_24 (by decide) rfl fun v9 => ?_
        refine xo_iload_n (pc' := 52) dd_G_answerAll_51 rfl 0 rfl rfl ?_
        refine xo_aload_n (pc' := 53) dd_G_answerAll_52 rfl 1 rfl rfl ?_
        refine xo_getI (pc' := 56) dd_G_answerAll_53 ff_G_71 (by decide) rfl fun v10 => ?_
        refine xo_callVv (as := [.inl x1, .inl v9, .inl r7.1, .inl v10]) (o := o8) (st := []) (pc' := 59) dd_G_answerAll_56 cv_L_note ml_G_81 rfl rfl ⟨by decide, by decide⟩ rfl rfl rfl (Nat.le_of_ble_eq_true rfl) rfl (fun n q h => kc_L_note n x1 v9 r7.1 v10 r7.2 q h) fun H11 => ?_
        refine xo_iinc (pc' := 62) dd_G_answerAll_59 3 rfl (xo_ii (m := (1 : Int32)) (by decide)) (by decide) rfl rfl ?_
        refine xo_goto (pc' := 18) dd_G_answerAll_62 rfl ?_
        refine xo_sub [2, 3, 0] rfl ?_
        exact ih t x1 (x2 + (1 : Int32)) H11 r
set_option maxRecDepth 100000 in
set_option maxHeartbeats 4000000 in
theorem kb_G_answerAll_15 (t : xo_N) (s0 : Int32) (H : xo_H) (r : xo_H) : xo_X mt_G_answerAll 0 0 xo_jv r 15 [(0, .inr (some t))] [.inl s0] H (fb_G_answerAll_15 t s0 H) := by
  unfold fb_G_answerAll_15
  refine xo_istore_n (pc' := 16) dd_G_answerAll_15 rfl (by decide) rfl rfl ?_
  refine xo_iconst (pc' := 17) (v := (0 : Int32)) dd_G_answerAll_16 (by decide) rfl ?_
  refine xo_istore_n (pc' := 18) dd_G_answerAll_17 rfl (by decide) rfl rfl ?_
  refine xo_sub [2, 1, 0] rfl ?_
  exact kb_G_answerAll_18 1000 t s0 (0 : Int32) H r
set_option maxRecDepth 100000 in
set_option maxHeartbeats 4000000 in
theorem kb_G_answerAll (t : xo_N) (H : xo_H) (r : xo_H) : xo_X mt_G_answerAll 0 0 xo_jv r 0 [(0, .inr (some t))] [] H (fc_G_answerAll t H) := by
  unfold fc_G_answerAll
  refine xo_aload_n (pc' := 1) dd_G_answerAll_0 rfl 0 rfl rfl ?_
  refine xo_getI (pc' := 4) dd_G_answerAll_1 ff_G_20 (by decide) rfl fun v1 => ?_
  refine xo_iconst (pc' := 5) (v := (2 : Int32)) dd_G_answerAll_4 (by decide) rfl ?_
  refine xo_icmp_ne (pc' := 8) (tgt := 13) dd_G_answerAll_5 rfl rfl ?_ ?_
  · refine xo_bipush (pc' := 15) (v := (7 : Int32)) dd_G_answerAll_13 (by decide) rfl ?_
    exact kb_G_answerAll_15 t (7 : Int32) H r
  · refine xo_bipush (pc' := 10) (v := (8 : Int32)) dd_G_answerAll_8 (by decide) rfl ?_
    refine xo_goto (pc' := 15) dd_G_answerAll_10 rfl ?_
    exact kb_G_answerAll_15 t (8 : Int32) H r
set_option maxRecDepth 100000 in
set_option maxHeartbeats 4000000 in
theorem kc_G_answerAll (t : xo_N) (H : xo_H) (r : xo_H) (hk : fc_G_answerAll t H = some r) : xo_M mt_G_answerAll [.inr (some t)] H (xo_jv r) :=
  xo_entry hk (by decide +kernel) (Nat.le_of_ble_eq_true rfl) (kb_G_answerAll t H r)
def fc_G_failWith (t : xo_N) (x1 : Int32) (H : xo_H) : Option (xo_H) :=
  xo_gf 5 4 H (some t) fun v1 =>
  if v1 = 0 then (xo_gp 5 1 H (some t) fun o2 =>
  xo_cl 4 o2 (fun n8 => fc_C_clear n8 H) fun H3 =>
  xo_pf 5 4 H3 (some t) (2 : Int32) fun H4 =>
  xo_pf 5 5 H4 (some t) x1 fun H5 =>
  xo_cl 5 (some t) (fun n7 => fc_G_answerAll n7 H5) fun H6 =>
  some H6)
  else (some H)

set_option maxRecDepth 100000 in
set_option maxHeartbeats 4000000 in
theorem kb_G_failWith (t : xo_N) (x1 : Int32) (H : xo_H) (r : xo_H) : xo_X mt_G_failWith 0 0 xo_jv r 0 [(0, .inr (some t)), (1, .inl x1)] [] H (fc_G_failWith t x1 H) := by
  unfold fc_G_failWith
  refine xo_aload_n (pc' := 1) dd_G_failWith_0 rfl 0 rfl rfl ?_
  refine xo_getI (pc' := 4) dd_G_failWith_1 ff_G_20 (by decide) rfl fun v1 => ?_
  refine xo_if_eq (pc' := 7) (tgt := 8) dd_G_failWith_4 rfl rfl ?_ ?_
  · refine xo_aload_n (pc' := 9) dd_G_failWith_8 rfl 0 rfl rfl ?_
    refine xo_getP (pc' := 12) dd_G_failWith_9 ff_G_27 (by decide) rfl fun o2 => ?_
    refine xo_callVv (as := []) (o := o2) (st := []) (pc' := 15) dd_G_failWith_12 cv_C_clear ml_G_68 rfl rfl ⟨by decide, by decide⟩ rfl rfl rfl (Nat.le_of_ble_eq_true rfl) rfl (fun n q h => kc_C_clear n H q h) fun H3 => ?_
    refine xo_aload_n (pc' := 16) dd_G_failWith_15 rfl 0 rfl rfl ?_
    refine xo_iconst (pc' := 17) (v := (2 : Int32)) dd_G_failWith_16 (by decide) rfl ?_
    refine xo_putI (pc' := 20) dd_G_failWith_17 ff_G_20 rfl fun H4 => ?_
    refine xo_aload_n (pc' := 21) dd_G_failWith_20 rfl 0 rfl rfl ?_
    refine xo_iload_n (pc' := 22) dd_G_failWith_21 rfl 1 rfl rfl ?_
    refine xo_putI (pc' := 25) dd_G_failWith_22 ff_G_71 rfl fun H5 => ?_
    refine xo_aload_n (pc' := 26) dd_G_failWith_25 rfl 0 rfl rfl ?_
    refine xo_callVv (as := []) (o := (some t)) (st := []) (pc' := 29) dd_G_failWith_26 cv_G_answerAll ml_G_74 rfl rfl ⟨by decide, by decide⟩ rfl rfl rfl (Nat.le_of_ble_eq_true rfl) rfl (fun n q h => kc_G_answerAll n H5 q h) fun H6 => ?_
    exact xo_vret dd_G_failWith_29 rfl
  · exact xo_vret dd_G_failWith_7 rfl
set_option maxRecDepth 100000 in
set_option maxHeartbeats 4000000 in
theorem kc_G_failWith (t : xo_N) (x1 : Int32) (H : xo_H) (r : xo_H) (hk : fc_G_failWith t x1 H = some r) : xo_M mt_G_failWith [.inr (some t), .inl x1] H (xo_jv r) :=
  xo_entry hk (by decide +kernel) (Nat.le_of_ble_eq_true rfl) (kb_G_failWith t x1 H r)
def fc_G_heldBy (t : xo_N) (H : xo_H) : Option (Int32 × xo_H) :=
  xo_gp 5 12 H (some t) fun o1 =>
  if o1 = none then (xo_gp 5 13 H (some t) fun o2 =>
  if o2 = none then (some ((0 : Int32), H))
  else (some ((1 : Int32), H)))
  else (some ((2 : Int32), H))

set_option maxRecDepth 100000 in
set_option maxHeartbeats 4000000 in
theorem kb_G_heldBy (t : xo_N) (H : xo_H) (r : Int32 × xo_H) : xo_X mt_G_heldBy 0 0 xo_ji r 0 [(0, .inr (some t))] [] H (fc_G_heldBy t H) := by
  unfold fc_G_heldBy
  refine xo_aload_n (pc' := 1) dd_G_heldBy_0 rfl 0 rfl rfl ?_
  refine xo_getP (pc' := 4) dd_G_heldBy_1 ff_G_39 (by decide) rfl fun o1 => ?_
  refine xo_ifnull (pc' := 7) (tgt := 9) dd_G_heldBy_4 rfl rfl ?_ ?_
  · refine xo_aload_n (pc' := 10) dd_G_heldBy_9 rfl 0 rfl rfl ?_
    refine xo_getP (pc' := 13) dd_G_heldBy_10 ff_G_43 (by decide) rfl fun o2 => ?_
    refine xo_ifnull (pc' := 16) (tgt := 20) dd_G_heldBy_13 rfl rfl ?_ ?_
    · refine xo_iconst (pc' := 21) (v := (0 : Int32)) dd_G_heldBy_20 (by decide) rfl ?_
      exact xo_iret dd_G_heldBy_21 rfl
    · refine xo_iconst (pc' := 17) (v := (1 : Int32)) dd_G_heldBy_16 (by decide) rfl ?_
      refine xo_goto (pc' := 21) dd_G_heldBy_17 rfl ?_
      exact xo_iret dd_G_heldBy_21 rfl
  · refine xo_iconst (pc' := 8) (v := (2 : Int32)) dd_G_heldBy_7 (by decide) rfl ?_
    exact xo_iret dd_G_heldBy_8 rfl
set_option maxRecDepth 100000 in
set_option maxHeartbeats 4000000 in
theorem kc_G_heldBy (t : xo_N) (H : xo_H) (r : Int32 × xo_H) (hk : fc_G_heldBy t H = some r) : xo_M mt_G_heldBy [.inr (some t)] H (xo_ji r) :=
  xo_entry hk (by decide +kernel) (Nat.le_of_ble_eq_true rfl) (kb_G_heldBy t H r)
def fb_A_isGivenUp_10 : Nat → Option xo_N → Int32 → Int32 → xo_H → Option (Int32 × xo_H)
  | 0, _, _, _, _ => none
  | fu + 1, x1, x2, x3, H =>
  if x3 < x2 then (xo_ap 2 H x1 x3 fun o1 =>
  xo_gf 5 10 H o1 fun v2 =>
  if v2 = 0 then (xo_gb (0 : Int32) (some ((0 : Int32), H)))
  else (fb_A_isGivenUp_10 fu x1 x2 (x3 + (1 : Int32)) H))
  else (xo_gb (1 : Int32) (some ((1 : Int32), H)))

def fc_A_isGivenUp (t : xo_N) (H : xo_H) : Option (Int32 × xo_H) :=
  xo_gp 6 1 H (some t) fun o1 =>
  xo_ln o1 fun v2 =>
  fb_A_isGivenUp_10 1000 o1 v2 (0 : Int32) H

set_option maxRecDepth 100000 in
set_option maxHeartbeats 4000000 in
theorem kb_A_isGivenUp_10 : ∀ (fu : Nat) (x1 : Option xo_N) (x2 : Int32) (x3 : Int32) (H : xo_H) (r : Int32 × xo_H), xo_X mt_A_isGivenUp 0 0 xo_ji r 10 [(1, .inr x1), (2, .inl x2), (3, .inl x3)] [] H (fb_A_isGivenUp_10 fu x1 x2 x3 H) := by
  intro fu
  induction fu with
  | zero => intros; exact xo_no
  | succ fu ih =>
    intro x1 x2 x3 H r
    rw [fb_A_isGivenUp_10]
    refine xo_iload_n (pc' := 11) dd_A_isGivenUp_10 rfl 2 rfl rfl ?_
    refine xo_iload_n (pc' := 12) dd_A_isGivenUp_11 rfl 1 rfl rfl ?_
    refine xo_icmp_ge (pc' := 15) (tgt := 36) dd_A_isGivenUp_12 rfl rfl ?_ ?_
    · refine xo_iconst (pc' := 37) (v := (1 : Int32)) dd_A_isGivenUp_36 (by decide) rfl ?_
      exact xo_zret dd_A_isGivenUp_37 rfl
    · refine xo_aload_n (pc' := 16) dd_A_isGivenUp_15 rfl 0 rfl rfl ?_
      refine xo_iload_n (pc' := 17) dd_A_isGivenUp_16 rfl 2 rfl rfl ?_
      refine xo_aald (pc' := 18) dd_A_isGivenUp_17 (by decide) rfl fun o1 => ?_
      refine xo_astore (pc' := 20) dd_A_isGivenUp_18 (by decide) rfl rfl ?_
      refine xo_aload (pc' := 22) dd_A_isGivenUp_20 0 rfl rfl ?_
      refine xo_getI (pc' := 25) dd_A_isGivenUp_22 ff_A_19 (by decide) rfl fun v2 => ?_
      refine xo_if_ne (pc' := 28) (tgt := 30) dd_A_isGivenUp_25 rfl rfl ?_ ?_
      · refine xo_iinc (pc' := 33) dd_A_isGivenUp_30 3 rfl (xo_ii (m := (1 : Int32)) (by decide)) (by decide) rfl rfl ?_
        refine xo_goto (pc' := 10) dd_A_isGivenUp_33 rfl ?_
        refine xo_sub [2, 3, 0] rfl ?_
        exact ih x1 x2 (x3 + (1 : Int32)) H r
      · refine xo_iconst (pc' := 29) (v := (0 : Int32)) dd_A_isGivenUp_28 (by decide) rfl ?_
        exact xo_zret dd_A_isGivenUp_29 rfl
set_option maxRecDepth 100000 in
set_option maxHeartbeats 4000000 in
theorem kb_A_isGivenUp (t : xo_N) (H : xo_H) (r : Int32 × xo_H) : xo_X mt_A_isGivenUp 0 0 xo_ji r 0 [(0, .inr (some t))] [] H (fc_A_isGivenUp t H) := by
  unfold fc_A_isGivenUp
  refine xo_aload_n (pc' := 1) dd_A_isGivenUp_0 rfl 0 rfl rfl ?_
  refine xo_getP (pc' := 4) dd_A_isGivenUp_1 ff_A_15 (by decide) rfl fun o1 => ?_
  refine xo_astore_n (pc' := 5) dd_A_isGivenUp_4 rfl (by decide) rfl rfl ?_
  refine xo_aload_n (pc' := 6) dd_A_isGivenUp_5 rfl 0 rfl rfl ?_
  refine xo_alen (pc' := 7) dd_A_isGivenUp_6 rfl fun v2 => ?_
  refine xo_istore_n (pc' := 8) dd_A_isGivenUp_7 rfl (by decide) rfl rfl ?_
  refine xo_iconst (pc' := 9) (v := (0 : Int32)) dd_A_isGivenUp_8 (by decide) rfl ?_
  refine xo_istore_n (pc' := 10) dd_A_isGivenUp_9 rfl (by decide) rfl rfl ?_
  refine xo_sub [2, 1, 0] rfl ?_
  exact kb_A_isGivenUp_10 1000 o1 v2 (0 : Int32) H r
set_option maxRecDepth 100000 in
set_option maxHeartbeats 4000000 in
theorem kc_A_isGivenUp (t : xo_N) (H : xo_H) (r : Int32 × xo_H) (hk : fc_A_isGivenUp t H = some r) : xo_M mt_A_isGivenUp [.inr (some t)] H (xo_ji r) :=
  xo_entry hk (by decide +kernel) (Nat.le_of_ble_eq_true rfl) (kb_A_isGivenUp t H r)
def fb_P_init_64 (t : xo_N) (s1 : Int32) (H : xo_H) : Option (xo_H) :=
  xo_pz 8 5 H (some t) s1 fun H1 =>
  some H1

def fb_P_init_48 (t : xo_N) (x4 : Int32) (s1 : Int32) (H : xo_H) : Option (xo_H) :=
  xo_pz 8 4 H (some t) s1 fun H1 =>
  if (x4 &&& (4 : Int32)) = 0 then (fb_P_init_64 t (0 : Int32) H1)
  else (fb_P_init_64 t (1 : Int32) H1)

def fb_P_init_32 (t : xo_N) (x4 : Int32) (s1 : Int32) (H : xo_H) : Option (xo_H) :=
  xo_pz 8 3 H (some t) s1 fun H1 =>
  if (x4 &&& (2 : Int32)) = 0 then (fb_P_init_48 t x4 (0 : Int32) H1)
  else (fb_P_init_48 t x4 (1 : Int32) H1)

def fc_P_init (t : xo_N) (x1 : Int32) (x2 : Option xo_N) (x3 : Option xo_N) (x4 : Int32) (H : xo_H) : Option (xo_H) :=
  xo_pf 8 0 H (some t) x1 fun H1 =>
  xo_pp 8 1 H1 (some t) x2 fun H2 =>
  xo_pp 8 2 H2 (some t) x3 fun H3 =>
  if (x4 &&& (1 : Int32)) = 0 then (fb_P_init_32 t x4 (0 : Int32) H3)
  else (fb_P_init_32 t x4 (1 : Int32) H3)

set_option maxRecDepth 100000 in
set_option maxHeartbeats 4000000 in
theorem kb_P_init_64 (t : xo_N) (s1 : Int32) (H : xo_H) (r : xo_H) : xo_X mt_P_init 0 0 xo_jv r 64 [] [.inl s1, .inr (some t)] H (fb_P_init_64 t s1 H) := by
  unfold fb_P_init_64
  refine xo_putZF (pc' := 67) dd_P_init_64 fF_P_30 rfl rfl fun H1 => ?_
  exact xo_vret dd_P_init_67 rfl
set_option maxRecDepth 100000 in
set_option maxHeartbeats 4000000 in
theorem kb_P_init_48 (t : xo_N) (x4 : Int32) (s1 : Int32) (H : xo_H) (r : xo_H) : xo_X mt_P_init 0 0 xo_jv r 48 [(0, .inr (some t)), (4, .inl x4)] [.inl s1, .inr (some t)] H (fb_P_init_48 t x4 s1 H) := by
  unfold fb_P_init_48
  refine xo_putZF (pc' := 51) dd_P_init_48 fF_P_27 rfl rfl fun H1 => ?_
  refine xo_aload_n (pc' := 52) dd_P_init_51 rfl 0 rfl rfl ?_
  refine xo_iload (pc' := 54) dd_P_init_52 1 rfl rfl ?_
  refine xo_iconst (pc' := 55) (v := (4 : Int32)) dd_P_init_54 (by decide) rfl ?_
  refine xo_iand (pc' := 56) dd_P_init_55 rfl ?_
  refine xo_if_eq (pc' := 59) (tgt := 63) dd_P_init_56 rfl rfl ?_ ?_
  · refine xo_iconst (pc' := 64) (v := (0 : Int32)) dd_P_init_63 (by decide) rfl ?_
    refine xo_sub [] rfl ?_
    exact kb_P_init_64 t (0 : Int32) H1 r
  · refine xo_iconst (pc' := 60) (v := (1 : Int32)) dd_P_init_59 (by decide) rfl ?_
    refine xo_goto (pc' := 64) dd_P_init_60 rfl ?_
    refine xo_sub [] rfl ?_
    exact kb_P_init_64 t (1 : Int32) H1 r
set_option maxRecDepth 100000 in
set_option maxHeartbeats 4000000 in
theorem kb_P_init_32 (t : xo_N) (x4 : Int32) (s1 : Int32) (H : xo_H) (r : xo_H) : xo_X mt_P_init 0 0 xo_jv r 32 [(0, .inr (some t)), (4, .inl x4)] [.inl s1, .inr (some t)] H (fb_P_init_32 t x4 s1 H) := by
  unfold fb_P_init_32
  refine xo_putZF (pc' := 35) dd_P_init_32 fF_P_23 rfl rfl fun H1 => ?_
  refine xo_aload_n (pc' := 36) dd_P_init_35 rfl 0 rfl rfl ?_
  refine xo_iload (pc' := 38) dd_P_init_36 1 rfl rfl ?_
  refine xo_iconst (pc' := 39) (v := (2 : Int32)) dd_P_init_38 (by decide) rfl ?_
  refine xo_iand (pc' := 40) dd_P_init_39 rfl ?_
  refine xo_if_eq (pc' := 43) (tgt := 47) dd_P_init_40 rfl rfl ?_ ?_
  · refine xo_iconst (pc' := 48) (v := (0 : Int32)) dd_P_init_47 (by decide) rfl ?_
    exact kb_P_init_48 t x4 (0 : Int32) H1 r
  · refine xo_iconst (pc' := 44) (v := (1 : Int32)) dd_P_init_43 (by decide) rfl ?_
    refine xo_goto (pc' := 48) dd_P_init_44 rfl ?_
    exact kb_P_init_48 t x4 (1 : Int32) H1 r
set_option maxRecDepth 100000 in
set_option maxHeartbeats 4000000 in
theorem kb_P_init (t : xo_N) (x1 : Int32) (x2 : Option xo_N) (x3 : Option xo_N) (x4 : Int32) (H : xo_H) (r : xo_H) : xo_X mt_P_init 0 0 xo_jv r 0 [(0, .inr (some t)), (1, .inl x1), (2, .inr x2), (3, .inr x3), (4, .inl x4)] [] H (fc_P_init t x1 x2 x3 x4 H) := by
  unfold fc_P_init
  refine xo_aload_n (pc' := 1) dd_P_init_0 rfl 0 rfl rfl ?_
  refine xo_oinit (pc' := 4) dd_P_init_1 wo_P_3 wo_inst wo_code (by decide) (Nat.le_of_ble_eq_true rfl) rfl ?_
  refine xo_aload_n (pc' := 5) dd_P_init_4 rfl 0 rfl rfl ?_
  refine xo_iload_n (pc' := 6) dd_P_init_5 rfl 1 rfl rfl ?_
  refine xo_putIF (pc' := 9) dd_P_init_6 fF_P_9 rfl rfl fun H1 => ?_
  refine xo_aload_n (pc' := 10) dd_P_init_9 rfl 0 rfl rfl ?_
  refine xo_aload_n (pc' := 11) dd_P_init_10 rfl 2 rfl rfl ?_
  refine xo_putPF (pc' := 14) dd_P_init_11 fF_P_15 rfl (by decide) (by decide +kernel : parseFieldDescriptor "LFlowKernel$Giver;" = some (.object "FlowKernel$Giver")) (Or.inl ⟨_, rfl⟩) rfl fun H2 => ?_
  refine xo_aload_n (pc' := 15) dd_P_init_14 rfl 0 rfl rfl ?_
  refine xo_aload_n (pc' := 16) dd_P_init_15 rfl 3 rfl rfl ?_
  refine xo_putPF (pc' := 19) dd_P_init_16 fF_P_19 rfl (by decide) (by decide +kernel : parseFieldDescriptor "LFlowKernel$Taker;" = some (.object "FlowKernel$Taker")) (Or.inl ⟨_, rfl⟩) rfl fun H3 => ?_
  refine xo_aload_n (pc' := 20) dd_P_init_19 rfl 0 rfl rfl ?_
  refine xo_iload (pc' := 22) dd_P_init_20 4 rfl rfl ?_
  refine xo_iconst (pc' := 23) (v := (1 : Int32)) dd_P_init_22 (by decide) rfl ?_
  refine xo_iand (pc' := 24) dd_P_init_23 rfl ?_
  refine xo_if_eq (pc' := 27) (tgt := 31) dd_P_init_24 rfl rfl ?_ ?_
  · refine xo_iconst (pc' := 32) (v := (0 : Int32)) dd_P_init_31 (by decide) rfl ?_
    refine xo_sub [0, 4] rfl ?_
    exact kb_P_init_32 t x4 (0 : Int32) H3 r
  · refine xo_iconst (pc' := 28) (v := (1 : Int32)) dd_P_init_27 (by decide) rfl ?_
    refine xo_goto (pc' := 32) dd_P_init_28 rfl ?_
    refine xo_sub [0, 4] rfl ?_
    exact kb_P_init_32 t x4 (1 : Int32) H3 r
set_option maxRecDepth 100000 in
set_option maxHeartbeats 4000000 in
theorem kc_P_init (t : xo_N) (x1 : Int32) (x2 : Option xo_N) (x3 : Option xo_N) (x4 : Int32) (H : xo_H) (r : xo_H) (hk : fc_P_init t x1 x2 x3 x4 H = some r) : xo_M mt_P_init [.inr (some t), .inl x1, .inr x2, .inr x3, .inl x4] H (xo_jv r) :=
  xo_entry hk (by decide +kernel) (Nat.le_of_ble_eq_true rfl) (kb_P_init t x1 x2 x3 x4 H r)
def fc_A_init (t : xo_N) (x1 : Option xo_N) (x2 : Option xo_N) (x3 : Option xo_N) (H : xo_H) : Option (xo_H) :=
  xo_pp 6 0 H (some t) x1 fun H1 =>
  xo_na 2 H1 (t.1 + 1, t.2) 2 (2 : Int32) fun H2 =>
  xo_aq 2 5 H2 (some (t.1 + 1, t.2)) (0 : Int32) x2 fun H4 =>
  xo_aq 2 5 H4 (some (t.1 + 1, t.2)) (1 : Int32) x3 fun H5 =>
  xo_pp 6 1 H5 (some t) (some (t.1 + 1, t.2)) fun H6 =>
  some H6

set_option maxRecDepth 100000 in
set_option maxHeartbeats 4000000 in
theorem kb_A_init (t : xo_N) (x1 : Option xo_N) (x2 : Option xo_N) (x3 : Option xo_N) (H : xo_H) (r : xo_H) : xo_X mt_A_init 1 2 xo_jv r 0 [(0, .inr (some t)), (1, .inr x1), (2, .inr x2), (3, .inr x3)] [] H (fc_A_init t x1 x2 x3 H) := by
  unfold fc_A_init
  refine xo_aload_n (pc' := 1) dd_A_init_0 rfl 0 rfl rfl ?_
  refine xo_oinit (pc' := 4) dd_A_init_1 wo_A_1 wo_inst wo_code (by decide) (Nat.le_of_ble_eq_true rfl) rfl ?_
  refine xo_aload_n (pc' := 5) dd_A_init_4 rfl 0 rfl rfl ?_
  refine xo_aload_n (pc' := 6) dd_A_init_5 rfl 1 rfl rfl ?_
  refine xo_putPF (pc' := 9) dd_A_init_6 fF_A_7 rfl (by decide) (by decide +kernel : parseFieldDescriptor "LFlowKernel$Giver;" = some (.object "FlowKernel$Giver")) (Or.inl ⟨_, rfl⟩) rfl fun H1 => ?_
  refine xo_aload_n (pc' := 10) dd_A_init_9 rfl 0 rfl rfl ?_
  refine xo_iconst (pc' := 11) (v := (2 : Int32)) dd_A_init_10 (by decide) rfl ?_
  refine xo_anew (pc' := 14) dd_A_init_11 (by decide) wl_A_13 (by decide) rfl rfl rfl fun H2 => ?_
  refine xo_dup (pc' := 15) dd_A_init_14 rfl ?_
  refine xo_iconst (pc' := 16) (v := (0 : Int32)) dd_A_init_15 (by decide) rfl ?_
  refine xo_aload_n (pc' := 17) dd_A_init_16 rfl 2 rfl rfl ?_
  refine xo_aast (pc' := 18) dd_A_init_17 (by decide) rfl rfl rfl fun H4 => ?_
  refine xo_dup (pc' := 19) dd_A_init_18 rfl ?_
  refine xo_iconst (pc' := 20) (v := (1 : Int32)) dd_A_init_19 (by decide) rfl ?_
  refine xo_aload_n (pc' := 21) dd_A_init_20 rfl 3 rfl rfl ?_
  refine xo_aast (pc' := 22) dd_A_init_21 (by decide) rfl rfl rfl fun H5 => ?_
  refine xo_putPF (pc' := 25) dd_A_init_22 fF_A_15 rfl (by decide) (by decide +kernel : parseFieldDescriptor "[LFlowKernel$Giver;" = some (.array (.object "FlowKernel$Giver"))) (Or.inr ⟨_, rfl⟩) rfl fun H6 => ?_
  exact xo_vret dd_A_init_25 rfl
set_option maxRecDepth 100000 in
set_option maxHeartbeats 4000000 in
theorem kc_A_init (t : xo_N) (x1 : Option xo_N) (x2 : Option xo_N) (x3 : Option xo_N) (H : xo_H) (r : xo_H) (hk : fc_A_init t x1 x2 x3 H = some r) : xo_M mt_A_init [.inr (some t), .inr x1, .inr x2, .inr x3] H (xo_jv r) :=
  xo_entry hk (by decide +kernel) (Nat.le_of_ble_eq_true rfl) (kb_A_init t x1 x2 x3 H r)
def fc_P_letGo (t : xo_N) (H : xo_H) : Option (xo_H) :=
  xo_pz 8 6 H (some t) (1 : Int32) fun H1 =>
  xo_gp 8 1 H1 (some t) fun o2 =>
  xo_gp 5 3 H1 o2 fun o3 =>
  xo_cl 3 o3 (fun n9 => fc_R_clear n9 H1) fun H4 =>
  xo_gp 8 1 H4 (some t) fun o5 =>
  xo_pp 5 13 H4 o5 none fun H6 =>
  xo_gp 8 2 H6 (some t) fun o7 =>
  xo_pz 7 12 H6 o7 (0 : Int32) fun H8 =>
  some H8

set_option maxRecDepth 100000 in
set_option maxHeartbeats 4000000 in
theorem kb_P_letGo (t : xo_N) (H : xo_H) (r : xo_H) : xo_X mt_P_letGo 0 0 xo_jv r 0 [(0, .inr (some t))] [] H (fc_P_letGo t H) := by
  unfold fc_P_letGo
  refine xo_aload_n (pc' := 1) dd_P_letGo_0 rfl 0 rfl rfl ?_
  refine xo_iconst (pc' := 2) (v := (1 : Int32)) dd_P_letGo_1 (by decide) rfl ?_
  refine xo_putZ (pc' := 5) dd_P_letGo_2 ff_P_58 rfl fun H1 => ?_
  refine xo_aload_n (pc' := 6) dd_P_letGo_5 rfl 0 rfl rfl ?_
  refine xo_getP (pc' := 9) dd_P_letGo_6 ff_P_15 (by decide) rfl fun o2 => ?_
  refine xo_getP (pc' := 12) dd_P_letGo_9 ff_P_33 (by decide) rfl fun o3 => ?_
  refine xo_callVv (as := []) (o := o3) (st := []) (pc' := 15) dd_P_letGo_12 cv_R_clear ml_P_61 rfl rfl ⟨by decide, by decide⟩ rfl rfl rfl (Nat.le_of_ble_eq_true rfl) rfl (fun n q h => kc_R_clear n H1 q h) fun H4 => ?_
  refine xo_aload_n (pc' := 16) dd_P_letGo_15 rfl 0 rfl rfl ?_
  refine xo_getP (pc' := 19) dd_P_letGo_16 ff_P_15 (by decide) rfl fun o5 => ?_
  refine xo_null (pc' := 20) dd_P_letGo_19 rfl ?_
  refine xo_putP (pc' := 23) dd_P_letGo_20 ff_P_64 (by decide) (by decide +kernel : parseFieldDescriptor "LFlowKernel$Pipe;" = some (.object "FlowKernel$Pipe")) (Or.inl ⟨_, rfl⟩) rfl fun H6 => ?_
  refine xo_aload_n (pc' := 24) dd_P_letGo_23 rfl 0 rfl rfl ?_
  refine xo_getP (pc' := 27) dd_P_letGo_24 ff_P_19 (by decide) rfl fun o7 => ?_
  refine xo_iconst (pc' := 28) (v := (0 : Int32)) dd_P_letGo_27 (by decide) rfl ?_
  refine xo_putZ (pc' := 31) dd_P_letGo_28 ff_P_68 rfl fun H8 => ?_
  exact xo_vret dd_P_letGo_31 rfl
set_option maxRecDepth 100000 in
set_option maxHeartbeats 4000000 in
theorem kc_P_letGo (t : xo_N) (H : xo_H) (r : xo_H) (hk : fc_P_letGo t H = some r) : xo_M mt_P_letGo [.inr (some t)] H (xo_jv r) :=
  xo_entry hk (by decide +kernel) (Nat.le_of_ble_eq_true rfl) (kb_P_letGo t H r)
def fc_P_mustWait (t : xo_N) (H : xo_H) : Option (Int32 × xo_H) :=
  xo_gp 8 1 H (some t) fun o1 =>
  xo_gp 5 3 H o1 fun o2 =>
  xo_gf 3 2 H o2 fun v3 =>
  if 0 < v3 then (xo_gb (1 : Int32) (some ((1 : Int32), H)))
  else (xo_gp 8 2 H (some t) fun o4 =>
  xo_gp 7 1 H o4 fun o5 =>
  xo_gf 4 3 H o5 fun v6 =>
  if 0 < v6 then (xo_gp 8 2 H (some t) fun o7 =>
  xo_gp 7 1 H o7 fun o8 =>
  xo_cl 4 o8 (fun n10 => fc_C_count n10 H) fun r9 =>
  if r9.1 < (16 : Int32) then (xo_gb (0 : Int32) (some ((0 : Int32), r9.2)))
  else (xo_gb (1 : Int32) (some ((1 : Int32), r9.2))))
  else (xo_gb (1 : Int32) (some ((1 : Int32), H))))

set_option maxRecDepth 100000 in
set_option maxHeartbeats 4000000 in
theorem kb_P_mustWait (t : xo_N) (H : xo_H) (r : Int32 × xo_H) : xo_X mt_P_mustWait 0 0 xo_ji r 0 [(0, .inr (some t))] [] H (fc_P_mustWait t H) := by
  unfold fc_P_mustWait
  refine xo_aload_n (pc' := 1) dd_P_mustWait_0 rfl 0 rfl rfl ?_
  refine xo_getP (pc' := 4) dd_P_mustWait_1 ff_P_15 (by decide) rfl fun o1 => ?_
  refine xo_getP (pc' := 7) dd_P_mustWait_4 ff_P_33 (by decide) rfl fun o2 => ?_
  refine xo_getI (pc' := 10) dd_P_mustWait_7 ff_P_39 (by decide) rfl fun v3 => ?_
  refine xo_if_gt (pc' := 13) (tgt := 41) dd_P_mustWait_10 rfl rfl ?_ ?_
  · refine xo_iconst (pc' := 42) (v := (1 : Int32)) dd_P_mustWait_41 (by decide) rfl ?_
    refine xo_goto (pc' := 46) dd_P_mustWait_42 rfl ?_
    exact xo_zret dd_P_mustWait_46 rfl
  · refine xo_aload_n (pc' := 14) dd_P_mustWait_13 rfl 0 rfl rfl ?_
    refine xo_getP (pc' := 17) dd_P_mustWait_14 ff_P_19 (by decide) rfl fun o4 => ?_
    refine xo_getP (pc' := 20) dd_P_mustWait_17 ff_P_44 (by decide) rfl fun o5 => ?_
    refine xo_getI (pc' := 23) dd_P_mustWait_20 ff_P_50 (by decide) rfl fun v6 => ?_
    refine xo_if_le (pc' := 26) (tgt := 41) dd_P_mustWait_23 rfl rfl ?_ ?_
    · refine xo_iconst (pc' := 42) (v := (1 : Int32)) dd_P_mustWait_41 (by decide) rfl ?_
      refine xo_goto (pc' := 46) dd_P_mustWait_42 rfl ?_
      exact xo_zret dd_P_mustWait_46 rfl
    · refine xo_aload_n (pc' := 27) dd_P_mustWait_26 rfl 0 rfl rfl ?_
      refine xo_getP (pc' := 30) dd_P_mustWait_27 ff_P_19 (by decide) rfl fun o7 => ?_
      refine xo_getP (pc' := 33) dd_P_mustWait_30 ff_P_44 (by decide) rfl fun o8 => ?_
      refine xo_callVi (as := []) (o := o8) (st := []) (pc' := 36) dd_P_mustWait_33 cv_C_count ml_P_55 rfl rfl ⟨by decide, by decide⟩ rfl rfl rfl (Nat.le_of_ble_eq_true rfl) rfl (fun n q h => kc_C_count n H q h) fun r9 => ?_
      refine xo_bipush (pc' := 38) (v := (16 : Int32)) dd_P_mustWait_36 (by decide) rfl ?_
      refine xo_icmp_lt (pc' := 41) (tgt := 45) dd_P_mustWait_38 rfl rfl ?_ ?_
      · refine xo_iconst (pc' := 46) (v := (0 : Int32)) dd_P_mustWait_45 (by decide) rfl ?_
        exact xo_zret dd_P_mustWait_46 rfl
      · refine xo_iconst (pc' := 42) (v := (1 : Int32)) dd_P_mustWait_41 (by decide) rfl ?_
        refine xo_goto (pc' := 46) dd_P_mustWait_42 rfl ?_
        exact xo_zret dd_P_mustWait_46 rfl
set_option maxRecDepth 100000 in
set_option maxHeartbeats 4000000 in
theorem kc_P_mustWait (t : xo_N) (H : xo_H) (r : Int32 × xo_H) (hk : fc_P_mustWait t H = some r) : xo_M mt_P_mustWait [.inr (some t)] H (xo_ji r) :=
  xo_entry hk (by decide +kernel) (Nat.le_of_ble_eq_true rfl) (kb_P_mustWait t H r)
