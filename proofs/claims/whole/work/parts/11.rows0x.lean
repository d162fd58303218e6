def fc_L_init (t : xo_N) (H : xo_H) : Option (xo_H) :=
  xo_na 0 H (t.1 + 1, t.2) 64 (64 : Int32) fun H1 =>
  xo_pp 1 0 H1 (some t) (some (t.1 + 1, t.2)) fun H3 =>
  xo_na 0 H3 (t.1 + 2, t.2) 64 (64 : Int32) fun H4 =>
  xo_pp 1 1 H4 (some t) (some (t.1 + 2, t.2)) fun H6 =>
  xo_na 0 H6 (t.1 + 3, t.2) 64 (64 : Int32) fun H7 =>
  xo_pp 1 2 H7 (some t) (some (t.1 + 3, t.2)) fun H9 =>
  some H9

set_option maxRecDepth 100000 in
set_option maxHeartbeats 4000000 in
theorem kb_L_init (t : xo_N) (H : xo_H) (r : xo_H) : xo_X mt_L_init 3 192 xo_jv r 0 [(0, .inr (some t))] [] H (fc_L_init t H) := by
  unfold fc_L_init
  refine xo_aload_n (pc' := 1) dd_L_init_0 rfl 0 rfl rfl ?_
  refine xo_oinit (pc' := 4) dd_L_init_1 wo_L_3 wo_inst wo_code (by decide) (Nat.le_of_ble_eq_true rfl) rfl ?_
  refine xo_aload_n (pc' := 5) dd_L_init_4 rfl 0 rfl rfl ?_
  refine xo_bipush (pc' := 7) (v := (64 : Int32)) dd_L_init_5 (by decide) rfl ?_
  refine xo_newa (pc' := 9) dd_L_init_7 rfl (by decide) wa_0 (by decide) rfl rfl rfl fun H1 => ?_
  refine xo_putPF (pc' := 12) dd_L_init_9 fF_L_9 rfl (by decide) (by decide +kernel : parseFieldDescriptor "[I" = some (.array .int)) (Or.inr ⟨_, rfl⟩) rfl fun H3 => ?_
  refine xo_aload_n (pc' := 13) dd_L_init_12 rfl 0 rfl rfl ?_
  refine xo_bipush (pc' := 15) (v := (64 : Int32)) dd_L_init_13 (by decide) rfl ?_
  refine xo_newa (pc' := 17) dd_L_init_15 rfl (by decide) wa_0 (by decide) rfl rfl rfl fun H4 => ?_
  refine xo_putPF (pc' := 20) dd_L_init_17 fF_L_15 rfl (by decide) (by decide +kernel : parseFieldDescriptor "[I" = some (.array .int)) (Or.inr ⟨_, rfl⟩) rfl fun H6 => ?_
  refine xo_aload_n (pc' := 21) dd_L_init_20 rfl 0 rfl rfl ?_
  refine xo_bipush (pc' := 23) (v := (64 : Int32)) dd_L_init_21 (by decide) rfl ?_
  refine xo_newa (pc' := 25) dd_L_init_23 rfl (by decide) wa_0 (by decide) rfl rfl rfl fun H7 => ?_
  refine xo_putPF (pc' := 28) dd_L_init_25 fF_L_18 rfl (by decide) (by decide +kernel : parseFieldDescriptor "[I" = some (.array .int)) (Or.inr ⟨_, rfl⟩) rfl fun H9 => ?_
  exact xo_vret dd_L_init_28 rfl
set_option maxRecDepth 100000 in
set_option maxHeartbeats 4000000 in
theorem kc_L_init (t : xo_N) (H : xo_H) (r : xo_H) (hk : fc_L_init t H = some r) : xo_M mt_L_init [.inr (some t)] H (xo_jv r) :=
  xo_entry hk (by decide +kernel) (Nat.le_of_ble_eq_true rfl) (kb_L_init t H r)
def fc_R_init (t : xo_N) (x1 : Int32) (H : xo_H) : Option (xo_H) :=
  xo_na 0 H (t.1 + 1, t.2) 16 x1 fun H1 =>
  xo_pp 3 0 H1 (some t) (some (t.1 + 1, t.2)) fun H3 =>
  some H3

set_option maxRecDepth 100000 in
set_option maxHeartbeats 4000000 in
theorem kb_R_init (t : xo_N) (x1 : Int32) (H : xo_H) (r : xo_H) : xo_X mt_R_init 1 16 xo_jv r 0 [(0, .inr (some t)), (1, .inl x1)] [] H (fc_R_init t x1 H) := by
  unfold fc_R_init
  refine xo_aload_n (pc' := 1) dd_R_init_0 rfl 0 rfl rfl ?_
  refine xo_oinit (pc' := 4) dd_R_init_1 wo_R_1 wo_inst wo_code (by decide) (Nat.le_of_ble_eq_true rfl) rfl ?_
  refine xo_aload_n (pc' := 5) dd_R_init_4 rfl 0 rfl rfl ?_
  refine xo_iload_n (pc' := 6) dd_R_init_5 rfl 1 rfl rfl ?_
  refine xo_newa (pc' := 8) dd_R_init_6 rfl (by decide) wa_0 (by decide) rfl rfl rfl fun H1 => ?_
  refine xo_putPF (pc' := 11) dd_R_init_8 fF_R_7 rfl (by decide) (by decide +kernel : parseFieldDescriptor "[I" = some (.array .int)) (Or.inr ⟨_, rfl⟩) rfl fun H3 => ?_
  exact xo_vret dd_R_init_11 rfl
set_option maxRecDepth 100000 in
set_option maxHeartbeats 4000000 in
theorem kc_R_init (t : xo_N) (x1 : Int32) (H : xo_H) (r : xo_H) (hk : fc_R_init t x1 H = some r) : xo_M mt_R_init [.inr (some t), .inl x1] H (xo_jv r) :=
  xo_entry hk (by decide +kernel) (Nat.le_of_ble_eq_true rfl) (kb_R_init t x1 H r)
def fc_J_init (t : xo_N) (H : xo_H) : Option (xo_H) :=
  xo_nw 3 H (t.1 + 1, t.2) fun H1 =>
  (fc_R_init (t.1 + 1, t.2) (16 : Int32) H1).bind fun H3 =>
  xo_pp 2 0 H3 (some t) (some (t.1 + 1, t.2)) fun H4 =>
  xo_nw 3 H4 (t.1 + 3, t.2) fun H5 =>
  (fc_R_init (t.1 + 3, t.2) (16 : Int32) H5).bind fun H7 =>
  xo_pp 2 1 H7 (some t) (some (t.1 + 3, t.2)) fun H8 =>
  xo_nw 3 H8 (t.1 + 5, t.2) fun H9 =>
  (fc_R_init (t.1 + 5, t.2) (16 : Int32) H9).bind fun H11 =>
  xo_pp 2 2 H11 (some t) (some (t.1 + 5, t.2)) fun H12 =>
  some H12

set_option maxRecDepth 100000 in
set_option maxHeartbeats 4000000 in
theorem kb_J_init (t : xo_N) (H : xo_H) (r : xo_H) : xo_X mt_J_init 6 57 xo_jv r 0 [(0, .inr (some t))] [] H (fc_J_init t H) := by
  unfold fc_J_init
  refine xo_aload_n (pc' := 1) dd_J_init_0 rfl 0 rfl rfl ?_
  refine xo_oinit (pc' := 4) dd_J_init_1 wo_J_3 wo_inst wo_code (by decide) (Nat.le_of_ble_eq_true rfl) rfl ?_
  refine xo_aload_n (pc' := 5) dd_J_init_4 rfl 0 rfl rfl ?_
  refine xo_new (pc' := 8) dd_J_init_5 co_J_9 rfl rfl rfl fun H1 => ?_
  refine xo_dup (pc' := 9) dd_J_init_8 rfl ?_
  refine xo_bipush (pc' := 11) (v := (16 : Int32)) dd_J_init_9 (by decide) rfl ?_
  refine xo_callIv (as := [.inl (16 : Int32)]) (n := (t.1 + 1, t.2)) (st := [.inr (some (t.1 + 1, t.2)), .inr (some t)]) (pc' := 14) dd_J_init_11 cv_R_init ml_J_11 rfl ⟨by decide, by decide⟩ rfl rfl rfl (Nat.le_of_ble_eq_true rfl) rfl (fun q h => kc_R_init (t.1 + 1, t.2) (16 : Int32) H1 q h) fun H3 => ?_
  refine xo_putPF (pc' := 17) dd_J_init_14 fF_J_14 rfl (by decide) (by decide +kernel : parseFieldDescriptor "LFlowKernel$Row;" = some (.object "FlowKernel$Row")) (Or.inl ⟨_, rfl⟩) rfl fun H4 => ?_
  refine xo_aload_n (pc' := 18) dd_J_init_17 rfl 0 rfl rfl ?_
  refine xo_new (pc' := 21) dd_J_init_18 co_J_9 rfl rfl rfl fun H5 => ?_
  refine xo_dup (pc' := 22) dd_J_init_21 rfl ?_
  refine xo_bipush (pc' := 24) (v := (16 : Int32)) dd_J_init_22 (by decide) rfl ?_
  refine xo_callIv (as := [.inl (16 : Int32)]) (n := (t.1 + 3, t.2)) (st := [.inr (some (t.1 + 3, t.2)), .inr (some t)]) (pc' := 27) dd_J_init_24 cv_R_init ml_J_11 rfl ⟨by decide, by decide⟩ rfl rfl rfl (Nat.le_of_ble_eq_true rfl) rfl (fun q h => kc_R_init (t.1 + 3, t.2) (16 : Int32) H5 q h) fun H7 => ?_
  refine xo_putPF (pc' := 30) dd_J_init_27 fF_J_20 rfl (by decide) (by decide +kernel : parseFieldDescriptor "LFlowKernel$Row;" = some (.object "FlowKernel$Row")) (Or.inl ⟨_, rfl⟩) rfl fun H8 => ?_
  refine xo_aload_n (pc' := 31) dd_J_init_30 rfl 0 rfl rfl ?_
  refine xo_new (pc' := 34) dd_J_init_31 co_J_9 rfl rfl rfl fun H9 => ?_
  refine xo_dup (pc' := 35) dd_J_init_34 rfl ?_
  refine xo_bipush (pc' := 37) (v := (16 : Int32)) dd_J_init_35 (by decide) rfl ?_
  refine xo_callIv (as := [.inl (16 : Int32)]) (n := (t.1 + 5, t.2)) (st := [.inr (some (t.1 + 5, t.2)), .inr (some t)]) (pc' := 40) dd_J_init_37 cv_R_init ml_J_11 rfl ⟨by decide, by decide⟩ rfl rfl rfl (Nat.le_of_ble_eq_true rfl) rfl (fun q h => kc_R_init (t.1 + 5, t.2) (16 : Int32) H9 q h) fun H11 => ?_
  refine xo_putPF (pc' := 43) dd_J_init_40 fF_J_23 rfl (by decide) (by decide +kernel : parseFieldDescriptor "LFlowKernel$Row;" = some (.object "FlowKernel$Row")) (Or.inl ⟨_, rfl⟩) rfl fun H12 => ?_
  exact xo_vret dd_J_init_43 rfl
set_option maxRecDepth 100000 in
set_option maxHeartbeats 4000000 in
theorem kc_J_init (t : xo_N) (H : xo_H) (r : xo_H) (hk : fc_J_init t H = some r) : xo_M mt_J_init [.inr (some t)] H (xo_jv r) :=
  xo_entry hk (by decide +kernel) (Nat.le_of_ble_eq_true rfl) (kb_J_init t H r)
def fc_C_init (t : xo_N) (x1 : Int32) (x2 : Int32) (H : xo_H) : Option (xo_H) :=
  xo_nw 3 H (t.1 + 1, t.2) fun H1 =>
  (fc_R_init (t.1 + 1, t.2) (16 : Int32) H1).bind fun H3 =>
  xo_pp 4 0 H3 (some t) (some (t.1 + 1, t.2)) fun H4 =>
  xo_pf 4 1 H4 (some t) x1 fun H5 =>
  xo_pz 4 2 H5 (some t) x2 fun H6 =>
  xo_pf 4 3 H6 (some t) x1 fun H7 =>
  some H7

set_option maxRecDepth 100000 in
set_option maxHeartbeats 4000000 in
theorem kb_C_init (t : xo_N) (x1 : Int32) (x2 : Int32) (H : xo_H) (r : xo_H) : xo_X mt_C_init 2 19 xo_jv r 0 [(0, .inr (some t)), (1, .inl x1), (2, .inl x2)] [] H (fc_C_init t x1 x2 H) := by
  unfold fc_C_init
  refine xo_aload_n (pc' := 1) dd_C_init_0 rfl 0 rfl rfl ?_
  refine xo_oinit (pc' := 4) dd_C_init_1 wo_C_3 wo_inst wo_code (by decide) (Nat.le_of_ble_eq_true rfl) rfl ?_
  refine xo_aload_n (pc' := 5) dd_C_init_4 rfl 0 rfl rfl ?_
  refine xo_new (pc' := 8) dd_C_init_5 co_C_9 rfl rfl rfl fun H1 => ?_
  refine xo_dup (pc' := 9) dd_C_init_8 rfl ?_
  refine xo_bipush (pc' := 11) (v := (16 : Int32)) dd_C_init_9 (by decide) rfl ?_
  refine xo_callIv (as := [.inl (16 : Int32)]) (n := (t.1 + 1, t.2)) (st := [.inr (some (t.1 + 1, t.2)), .inr (some t)]) (pc' := 14) dd_C_init_11 cv_R_init ml_C_11 rfl ⟨by decide, by decide⟩ rfl rfl rfl (Nat.le_of_ble_eq_true rfl) rfl (fun q h => kc_R_init (t.1 + 1, t.2) (16 : Int32) H1 q h) fun H3 => ?_
  refine xo_putPF (pc' := 17) dd_C_init_14 fF_C_14 rfl (by decide) (by decide +kernel : parseFieldDescriptor "LFlowKernel$Row;" = some (.object "FlowKernel$Row")) (Or.inl ⟨_, rfl⟩) rfl fun H4 => ?_
  refine xo_aload_n (pc' := 18) dd_C_init_17 rfl 0 rfl rfl ?_
  refine xo_iload_n (pc' := 19) dd_C_init_18 rfl 1 rfl rfl ?_
  refine xo_putIF (pc' := 22) dd_C_init_19 fF_C_20 rfl rfl fun H5 => ?_
  refine xo_aload_n (pc' := 23) dd_C_init_22 rfl 0 rfl rfl ?_
  refine xo_iload_n (pc' := 24) dd_C_init_23 rfl 2 rfl rfl ?_
  refine xo_putZF (pc' := 27) dd_C_init_24 fF_C_24 rfl rfl fun H6 => ?_
  refine xo_aload_n (pc' := 28) dd_C_init_27 rfl 0 rfl rfl ?_
  refine xo_iload_n (pc' := 29) dd_C_init_28 rfl 1 rfl rfl ?_
  refine xo_putI (pc' := 32) dd_C_init_29 ff_C_28 rfl fun H7 => ?_
  exact xo_vret dd_C_init_32 rfl
set_option maxRecDepth 100000 in
set_option maxHeartbeats 4000000 in
theorem kc_C_init (t : xo_N) (x1 : Int32) (x2 : Int32) (H : xo_H) (r : xo_H) (hk : fc_C_init t x1 x2 H = some r) : xo_M mt_C_init [.inr (some t), .inl x1, .inl x2] H (xo_jv r) :=
  xo_entry hk (by decide +kernel) (Nat.le_of_ble_eq_true rfl) (kb_C_init t x1 x2 H r)
def fc_L_note (t : xo_N) (x1 : Int32) (x2 : Int32) (x3 : Int32) (x4 : Int32) (H : xo_H) : Option (xo_H) :=
  xo_gf 1 3 H (some t) fun v1 =>
  xo_gp 1 0 H (some t) fun o2 =>
  xo_as H o2 (v1 &&& (63 : Int32)) (x1 + ((32 : Int32) * x2)) fun H3 =>
  xo_gp 1 1 H3 (some t) fun o4 =>
  xo_as H3 o4 (v1 &&& (63 : Int32)) x3 fun H5 =>
  xo_gp 1 2 H5 (some t) fun o6 =>
  xo_as H5 o6 (v1 &&& (63 : Int32)) x4 fun H7 =>
  xo_gf 1 3 H7 (some t) fun v8 =>
  xo_pf 1 3 H7 (some t) (v8 + (1 : Int32)) fun H9 =>
  some H9

set_option maxRecDepth 100000 in
set_option maxHeartbeats 4000000 in
theorem kb_L_note (t : xo_N) (x1 : Int32) (x2 : Int32) (x3 : Int32) (x4 : Int32) (H : xo_H) (r : xo_H) : xo_X mt_L_note 0 0 xo_jv r 0 [(0, .inr (some t)), (1, .inl x1), (2, .inl x2), (3, .inl x3), (4, .inl x4)] [] H (fc_L_note t x1 x2 x3 x4 H) := by
  unfold fc_L_note
  refine xo_aload_n (pc' := 1) dd_L_note_0 rfl 0 rfl rfl ?_
  refine xo_getI (pc' := 4) dd_L_note_1 ff_L_21 (by decide) rfl fun v1 => ?_
  refine xo_bipush (pc' := 6) (v := (63 : Int32)) dd_L_note_4 (by decide) rfl ?_
  refine xo_iand (pc' := 7) dd_L_note_6 rfl ?_
  refine xo_istore (pc' := 9) dd_L_note_7 (by decide) rfl rfl ?_
  refine xo_aload_n (pc' := 10) dd_L_note_9 rfl 1 rfl rfl ?_
  refine xo_getP (pc' := 13) dd_L_note_10 ff_L_9 (by decide) rfl fun o2 => ?_
  refine xo_iload (pc' := 15) dd_L_note_13 0 rfl rfl ?_
  refine xo_iload_n (pc' := 16) dd_L_note_15 rfl 2 rfl rfl ?_
  refine xo_bipush (pc' := 18) (v := (32 : Int32)) dd_L_note_16 (by decide) rfl ?_
  refine xo_iload_n (pc' := 19) dd_L_note_18 rfl 3 rfl rfl ?_
  refine xo_imul (pc' := 20) dd_L_note_19 rfl ?_
  refine xo_iadd (pc' := 21) dd_L_note_20 rfl ?_
  refine xo_iast (pc' := 22) dd_L_note_21 rfl fun H3 => ?_
  refine xo_aload_n (pc' := 23) dd_L_note_22 rfl 1 rfl rfl ?_
  refine xo_getP (pc' := 26) dd_L_note_23 ff_L_15 (by decide) rfl fun o4 => ?_
  refine xo_iload (pc' := 28) dd_L_note_26 0 rfl rfl ?_
  refine xo_iload_n (pc' := 29) dd_L_note_28 rfl 4 rfl rfl ?_
  refine xo_iast (pc' := 30) dd_L_note_29 rfl fun H5 => ?_
  refine xo_aload_n (pc' := 31) dd_L_note_30 rfl 1 rfl rfl ?_
  refine xo_getP (pc' := 34) dd_L_note_31 ff_L_18 (by decide) rfl fun o6 => ?_
  refine xo_iload (pc' := 36) dd_L_note_34 0 rfl rfl ?_
  refine xo_iload (pc' := 38) dd_L_note_36 5 rfl rfl ?_
  refine xo_iast (pc' := 39) dd_L_note_38 rfl fun H7 => ?_
  refine xo_aload_n (pc' := 40) dd_L_note_39 rfl 1 rfl rfl ?_
  refine xo_dup (pc' := 41) dd_L_note_40 rfl ?_
  refine xo_getI (pc' := 44) dd_L_note_41 ff_L_21 (by decide) rfl fun v8 => ?_
  refine xo_iconst (pc' := 45) (v := (1 : Int32)) dd_L_note_44 (by decide) rfl ?_
  refine xo_iadd (pc' := 46) dd_L_note_45 rfl ?_
  refine xo_putI (pc' := 49) dd_L_note_46 ff_L_21 rfl fun H9 => ?_
  exact xo_vret dd_L_note_49 rfl
set_option maxRecDepth 100000 in
set_option maxHeartbeats 4000000 in
theorem kc_L_note (t : xo_N) (x1 : Int32) (x2 : Int32) (x3 : Int32) (x4 : Int32) (H : xo_H) (r : xo_H) (hk : fc_L_note t x1 x2 x3 x4 H = some r) : xo_M mt_L_note [.inr (some t), .inl x1, .inl x2, .inl x3, .inl x4] H (xo_jv r) :=
  xo_entry hk (by decide +kernel) (Nat.le_of_ble_eq_true rfl) (kb_L_note t x1 x2 x3 x4 H r)
def fc_C_count (t : xo_N) (H : xo_H) : Option (Int32 × xo_H) :=
  xo_gp 4 0 H (some t) fun o1 =>
  xo_gf 3 2 H o1 fun v2 =>
  some (v2, H)

set_option maxRecDepth 100000 in
set_option maxHeartbeats 4000000 in
theorem kb_C_count (t : xo_N) (H : xo_H) (r : Int32 × xo_H) : xo_X mt_C_count 0 0 xo_ji r 0 [(0, .inr (some t))] [] H (fc_C_count t H) := by
  unfold fc_C_count
  refine xo_aload_n (pc' := 1) dd_C_count_0 rfl 0 rfl rfl ?_
  refine xo_getP (pc' := 4) dd_C_count_1 ff_C_14 (by decide) rfl fun o1 => ?_
  refine xo_getI (pc' := 7) dd_C_count_4 ff_C_31 (by decide) rfl fun v2 => ?_
  exact xo_iret dd_C_count_7 rfl
set_option maxRecDepth 100000 in
set_option maxHeartbeats 4000000 in
theorem kc_C_count (t : xo_N) (H : xo_H) (r : Int32 × xo_H) (hk : fc_C_count t H = some r) : xo_M mt_C_count [.inr (some t)] H (xo_ji r) :=
  xo_entry hk (by decide +kernel) (Nat.le_of_ble_eq_true rfl) (kb_C_count t H r)
def fc_R_takeFirst (t : xo_N) (H : xo_H) : Option (Int32 × xo_H) :=
  xo_gf 3 2 H (some t) fun v1 =>
  if v1 = 0 then (some ((0 : Int32), H))
  else (xo_gp 3 0 H (some t) fun o2 =>
  xo_gf 3 1 H (some t) fun v3 =>
  xo_al 0 H o2 v3 fun v4 =>
  xo_gf 3 1 H (some t) fun v5 =>
  xo_gp 3 0 H (some t) fun o6 =>
  xo_ln o6 fun v7 =>
  xo_rm (v5 + (1 : Int32)) v7 fun v8 =>
  xo_pf 3 1 H (some t) v8 fun H9 =>
  xo_gf 3 2 H9 (some t) fun v10 =>
  xo_pf 3 2 H9 (some t) (v10 - (1 : Int32)) fun H11 =>
  some (v4, H11))

set_option maxRecDepth 100000 in
set_option maxHeartbeats 4000000 in
theorem kb_R_takeFirst (t : xo_N) (H : xo_H) (r : Int32 × xo_H) : xo_X mt_R_takeFirst 0 0 xo_ji r 0 [(0, .inr (some t))] [] H (fc_R_takeFirst t H) := by
  unfold fc_R_takeFirst
  refine xo_aload_n (pc' := 1) dd_R_takeFirst_0 rfl 0 rfl rfl ?_
  refine xo_getI (pc' := 4) dd_R_takeFirst_1 ff_R_13 (by decide) rfl fun v1 => ?_
  refine xo_if_ne (pc' := 7) (tgt := 9) dd_R_takeFirst_4 rfl rfl ?_ ?_
  · refine xo_aload_n (pc' := 10) dd_R_takeFirst_9 rfl 0 rfl rfl ?_
    refine xo_getP (pc' := 13) dd_R_takeFirst_10 ff_R_7 (by decide) rfl fun o2 => ?_
    refine xo_aload_n (pc' := 14) dd_R_takeFirst_13 rfl 0 rfl rfl ?_
    refine xo_getI (pc' := 17) dd_R_takeFirst_14 ff_R_17 (by decide) rfl fun v3 => ?_
    refine xo_iald (pc' := 18) dd_R_takeFirst_17 rfl fun v4 => ?_
    refine xo_istore_n (pc' := 19) dd_R_takeFirst_18 rfl (by decide) rfl rfl ?_
    refine xo_aload_n (pc' := 20) dd_R_takeFirst_19 rfl 1 rfl rfl ?_
    refine xo_aload_n (pc' := 21) dd_R_takeFirst_20 rfl 1 rfl rfl ?_
    refine xo_getI (pc' := 24) dd_R_takeFirst_21 ff_R_17 (by decide) rfl fun v5 => ?_
    refine xo_iconst (pc' := 25) (v := (1 : Int32)) dd_R_takeFirst_24 (by decide) rfl ?_
    refine xo_iadd (pc' := 26) dd_R_takeFirst_25 rfl ?_
    refine xo_aload_n (pc' := 27) dd_R_takeFirst_26 rfl 1 rfl rfl ?_
    refine xo_getP (pc' := 30) dd_R_takeFirst_27 ff_R_7 (by decide) rfl fun o6 => ?_
    refine xo_alen (pc' := 31) dd_R_takeFirst_30 rfl fun v7 => ?_
    refine xo_irem (pc' := 32) dd_R_takeFirst_31 rfl fun v8 => ?_
    refine xo_putI (pc' := 35) dd_R_takeFirst_32 ff_R_17 rfl fun H9 => ?_
    refine xo_aload_n (pc' := 36) dd_R_takeFirst_35 rfl 1 rfl rfl ?_
    refine xo_dup (pc' := 37) dd_R_takeFirst_36 rfl ?_
    refine xo_getI (pc' := 40) dd_R_takeFirst_37 ff_R_13 (by decide) rfl fun v10 => ?_
    refine xo_iconst (pc' := 41) (v := (1 : Int32)) dd_R_takeFirst_40 (by decide) rfl ?_
    refine xo_isub (pc' := 42) dd_R_takeFirst_41 rfl ?_
    refine xo_putI (pc' := 45) dd_R_takeFirst_42 ff_R_13 rfl fun H11 => ?_
    refine xo_iload_n (pc' := 46) dd_R_takeFirst_45 rfl 0 rfl rfl ?_
    exact xo_iret dd_R_takeFirst_46 rfl
  · refine xo_iconst (pc' := 8) (v := (0 : Int32)) dd_R_takeFirst_7 (by decide) rfl ?_
    exact xo_iret dd_R_takeFirst_8 rfl
set_option maxRecDepth 100000 in
set_option maxHeartbeats 4000000 in
theorem kc_R_takeFirst (t : xo_N) (H : xo_H) (r : Int32 × xo_H) (hk : fc_R_takeFirst t H = some r) : xo_M mt_R_takeFirst [.inr (some t)] H (xo_ji r) :=
  xo_entry hk (by decide +kernel) (Nat.le_of_ble_eq_true rfl) (kb_R_takeFirst t H r)
def fc_C_sizeOf (t : xo_N) (x1 : Int32) (H : xo_H) : Option (Int32 × xo_H) :=
  xo_gf 4 2 H (some t) fun v1 =>
  if v1 = 0 then (some ((1 : Int32), H))
  else (some ((x1 &&& (7 : Int32)), H))

set_option maxRecDepth 100000 in
set_option maxHeartbeats 4000000 in
theorem kb_C_sizeOf (t : xo_N) (x1 : Int32) (H : xo_H) (r : Int32 × xo_H) : xo_X mt_C_sizeOf 0 0 xo_ji r 0 [(0, .inr (some t)), (1, .inl x1)] [] H (fc_C_sizeOf t x1 H) := by
  unfold fc_C_sizeOf
  refine xo_aload_n (pc' := 1) dd_C_sizeOf_0 rfl 0 rfl rfl ?_
  refine xo_getI (pc' := 4) dd_C_sizeOf_1 ff_C_24 (by decide) rfl fun v1 => ?_
  refine xo_if_eq (pc' := 7) (tgt := 14) dd_C_sizeOf_4 rfl rfl ?_ ?_
  · refine xo_iconst (pc' := 15) (v := (1 : Int32)) dd_C_sizeOf_14 (by decide) rfl ?_
    exact xo_iret dd_C_sizeOf_15 rfl
  · refine xo_iload_n (pc' := 8) dd_C_sizeOf_7 rfl 1 rfl rfl ?_
    refine xo_bipush (pc' := 10) (v := (7 : Int32)) dd_C_sizeOf_8 (by decide) rfl ?_
    refine xo_iand (pc' := 11) dd_C_sizeOf_10 rfl ?_
    refine xo_goto (pc' := 15) dd_C_sizeOf_11 rfl ?_
    exact xo_iret dd_C_sizeOf_15 rfl
set_option maxRecDepth 100000 in
set_option maxHeartbeats 4000000 in
theorem kc_C_sizeOf (t : xo_N) (x1 : Int32) (H : xo_H) (r : Int32 × xo_H) (hk : fc_C_sizeOf t x1 H = some r) : xo_M mt_C_sizeOf [.inr (some t), .inl x1] H (xo_ji r) :=
  xo_entry hk (by decide +kernel) (Nat.le_of_ble_eq_true rfl) (kb_C_sizeOf t x1 H r)
def fc_C_takeFirst (t : xo_N) (H : xo_H) : Option (Int32 × xo_H) :=
  xo_gp 4 0 H (some t) fun o1 =>
  xo_cl 3 o1 (fun n7 => fc_R_takeFirst n7 H) fun r2 =>
  xo_gf 4 3 r2.2 (some t) fun v3 =>
  xo_cl 4 (some t) (fun n6 => fc_C_sizeOf n6 r2.1 r2.2) fun r4 =>
  xo_pf 4 3 r4.2 (some t) (v3 + r4.1) fun H5 =>
  some (r2.1, H5)

set_option maxRecDepth 100000 in
set_option maxHeartbeats 4000000 in
theorem kb_C_takeFirst (t : xo_N) (H : xo_H) (r : Int32 × xo_H) : xo_X mt_C_takeFirst 0 0 xo_ji r 0 [(0, .inr (some t))] [] H (fc_C_takeFirst t H) := by
  unfold fc_C_takeFirst
  refine xo_aload_n (pc' := 1) dd_C_takeFirst_0 rfl 0 rfl rfl ?_
  refine xo_getP (pc' := 4) dd_C_takeFirst_1 ff_C_14 (by decide) rfl fun o1 => ?_
  refine xo_callVi (as := []) (o := o1) (st := []) (pc' := 7) dd_C_takeFirst_4 cv_R_takeFirst ml_C_41 rfl rfl ⟨by decide, by decide⟩ rfl rfl rfl (Nat.le_of_ble_eq_true rfl) rfl (fun n q h => kc_R_takeFirst n H q h) fun r2 => ?_
  refine xo_istore_n (pc' := 8) dd_C_takeFirst_7 rfl (by decide) rfl rfl ?_
  refine xo_aload_n (pc' := 9) dd_C_takeFirst_8 rfl 1 rfl rfl ?_
  refine xo_dup (pc' := 10) dd_C_takeFirst_9 rfl ?_
  refine xo_getI (pc' := 13) dd_C_takeFirst_10 ff_C_28 (by decide) rfl fun v3 => ?_
  refine xo_aload_n (pc' := 14) dd_C_takeFirst_13 rfl 1 rfl rfl ?_
  refine xo_iload_n (pc' := 15) dd_C_takeFirst_14 rfl 0 rfl rfl ?_
  refine xo_callVi (as := [.inl r2.1]) (o := (some t)) (st := [.inl v3, .inr (some t)]) (pc' := 18) dd_C_takeFirst_15 cv_C_sizeOf ml_C_37 rfl rfl ⟨by decide, by decide⟩ rfl rfl rfl (Nat.le_of_ble_eq_true rfl) rfl (fun n q h => kc_C_sizeOf n r2.1 r2.2 q h) fun r4 => ?_
  refine xo_iadd (pc' := 19) dd_C_takeFirst_18 rfl ?_
  refine xo_putI (pc' := 22) dd_C_takeFirst_19 ff_C_28 rfl fun H5 => ?_
  refine xo_iload_n (pc' := 23) dd_C_takeFirst_22 rfl 0 rfl rfl ?_
  exact xo_iret dd_C_takeFirst_23 rfl
set_option maxRecDepth 100000 in
set_option maxHeartbeats 4000000 in
theorem kc_C_takeFirst (t : xo_N) (H : xo_H) (r : Int32 × xo_H) (hk : fc_C_takeFirst t H = some r) : xo_M mt_C_takeFirst [.inr (some t)] H (xo_ji r) :=
  xo_entry hk (by decide +kernel) (Nat.le_of_ble_eq_true rfl) (kb_C_takeFirst t H r)
def fc_R_add (t : xo_N) (x1 : Int32) (H : xo_H) : Option (xo_H) :=
  xo_gf 3 2 H (some t) fun v1 =>
  xo_gp 3 0 H (some t) fun o2 =>
  xo_ln o2 fun v3 =>
  if v1 < v3 then (xo_gp 3 0 H (some t) fun o4 =>
  xo_gf 3 1 H (some t) fun v5 =>
  xo_gf 3 2 H (some t) fun v6 =>
  xo_gp 3 0 H (some t) fun o7 =>
  xo_ln o7 fun v8 =>
  xo_rm (v5 + v6) v8 fun v9 =>
  xo_as H o4 v9 x1 fun H10 =>
  xo_gf 3 2 H10 (some t) fun v11 =>
  xo_pf 3 2 H10 (some t) (v11 + (1 : Int32)) fun H12 =>
  some H12)
  else (some H)

set_option maxRecDepth 100000 in
set_option maxHeartbeats 4000000 in
theorem kb_R_add (t : xo_N) (x1 : Int32) (H : xo_H) (r : xo_H) : xo_X mt_R_add 0 0 xo_jv r 0 [(0, .inr (some t)), (1, .inl x1)] [] H (fc_R_add t x1 H) := by
  unfold fc_R_add
  refine xo_aload_n (pc' := 1) dd_R_add_0 rfl 0 rfl rfl ?_
  refine xo_getI (pc' := 4) dd_R_add_1 ff_R_13 (by decide) rfl fun v1 => ?_
  refine xo_aload_n (pc' := 5) dd_R_add_4 rfl 0 rfl rfl ?_
  refine xo_getP (pc' := 8) dd_R_add_5 ff_R_7 (by decide) rfl fun o2 => ?_
  refine xo_alen (pc' := 9) dd_R_add_8 rfl fun v3 => ?_
  refine xo_icmp_ge (pc' := 12) (tgt := 43) dd_R_add_9 rfl rfl ?_ ?_
  · exact xo_vret dd_R_add_43 rfl
  · refine xo_aload_n (pc' := 13) dd_R_add_12 rfl 0 rfl rfl ?_
    refine xo_getP (pc' := 16) dd_R_add_13 ff_R_7 (by decide) rfl fun o4 => ?_
    refine xo_aload_n (pc' := 17) dd_R_add_16 rfl 0 rfl rfl ?_
    refine xo_getI (pc' := 20) dd_R_add_17 ff_R_17 (by decide) rfl fun v5 => ?_
    refine xo_aload_n (pc' := 21) dd_R_add_20 rfl 0 rfl rfl ?_
    refine xo_getI (pc' := 24) dd_R_add_21 ff_R_13 (by decide) rfl fun v6 => ?_
    refine xo_iadd (pc' := 25) dd_R_add_24 rfl ?_
    refine xo_aload_n (pc' := 26) dd_R_add_25 rfl 0 rfl rfl ?_
    refine xo_getP (pc' := 29) dd_R_add_26 ff_R_7 (by decide) rfl fun o7 => ?_
    refine xo_alen (pc' := 30) dd_R_add_29 rfl fun v8 => ?_
    refine xo_irem (pc' := 31) dd_R_add_30 rfl fun v9 => ?_
    refine xo_iload_n (pc' := 32) dd_R_add_31 rfl 1 rfl rfl ?_
    refine xo_iast (pc' := 33) dd_R_add_32 rfl fun H10 => ?_
    refine xo_aload_n (pc' := 34) dd_R_add_33 rfl 0 rfl rfl ?_
    refine xo_dup (pc' := 35) dd_R_add_34 rfl ?_
    refine xo_getI (pc' := 38) dd_R_add_35 ff_R_13 (by decide) rfl fun v11 => ?_
    refine xo_iconst (pc' := 39) (v := (1 : Int32)) dd_R_add_38 (by decide) rfl ?_
    refine xo_iadd (pc' := 40) dd_R_add_39 rfl ?_
    refine xo_putI (pc' := 43) dd_R_add_40 ff_R_13 rfl fun H12 => ?_
    exact xo_vret dd_R_add_43 rfl
set_option maxRecDepth 100000 in
set_option maxHeartbeats 4000000 in
theorem kc_R_add (t : xo_N) (x1 : Int32) (H : xo_H) (r : xo_H) (hk : fc_R_add t x1 H = some r) : xo_M mt_R_add [.inr (some t), .inl x1] H (xo_jv r) :=
  xo_entry hk (by decide +kernel) (Nat.le_of_ble_eq_true rfl) (kb_R_add t x1 H r)
def fc_J_add (t : xo_N) (x1 : Int32) (x2 : Int32) (x3 : Int32) (H : xo_H) : Option (xo_H) :=
  xo_gp 2 0 H (some t) fun o1 =>
  xo_cl 3 o1 (fun n9 => fc_R_add n9 x1 H) fun H2 =>
  xo_gp 2 1 H2 (some t) fun o3 =>
  xo_cl 3 o3 (fun n8 => fc_R_add n8 x2 H2) fun H4 =>
  xo_gp 2 2 H4 (some t) fun o5 =>
  xo_cl 3 o5 (fun n7 => fc_R_add n7 x3 H4) fun H6 =>
  some H6

set_option maxRecDepth 100000 in
set_option maxHeartbeats 4000000 in
theorem kb_J_add (t : xo_N) (x1 : Int32) (x2 : Int32) (x3 : Int32) (H : xo_H) (r : xo_H) : xo_X mt_J_add 0 0 xo_jv r 0 [(0, .inr (some t)), (1, .inl x1), (2, .inl x2), (3, .inl x3)] [] H (fc_J_add t x1 x2 x3 H) := by
  unfold fc_J_add
  refine xo_aload_n (pc' := 1) dd_J_add_0 rfl 0 rfl rfl ?_
  refine xo_getP (pc' := 4) dd_J_add_1 ff_J_14 (by decide) rfl fun o1 => ?_
  refine xo_iload_n (pc' := 5) dd_J_add_4 rfl 1 rfl rfl ?_
  refine xo_callVv (as := [.inl x1]) (o := o1) (st := []) (pc' := 8) dd_J_add_5 cv_R_add ml_J_30 rfl rfl ⟨by decide, by decide⟩ rfl rfl rfl (Nat.le_of_ble_eq_true rfl) rfl (fun n q h => kc_R_add n x1 H q h) fun H2 => ?_
  refine xo_aload_n (pc' := 9) dd_J_add_8 rfl 0 rfl rfl ?_
  refine xo_getP (pc' := 12) dd_J_add_9 ff_J_20 (by decide) rfl fun o3 => ?_
  refine xo_iload_n (pc' := 13) dd_J_add_12 rfl 2 rfl rfl ?_
  refine xo_callVv (as := [.inl x2]) (o := o3) (st := []) (pc' := 16) dd_J_add_13 cv_R_add ml_J_30 rfl rfl ⟨by decide, by decide⟩ rfl rfl rfl (Nat.le_of_ble_eq_true rfl) rfl (fun n q h => kc_R_add n x2 H2 q h) fun H4 => ?_
  refine xo_aload_n (pc' := 17) dd_J_add_16 rfl 0 rfl rfl ?_
  refine xo_getP (pc' := 20) dd_J_add_17 ff_J_23 (by decide) rfl fun o5 => ?_
  refine xo_iload_n (pc' := 21) dd_J_add_20 rfl 3 rfl rfl ?_
  refine xo_callVv (as := [.inl x3]) (o := o5) (st := []) (pc' := 24) dd_J_add_21 cv_R_add ml_J_30 rfl rfl ⟨by decide, by decide⟩ rfl rfl rfl (Nat.le_of_ble_eq_true rfl) rfl (fun n q h => kc_R_add n x3 H4 q h) fun H6 => ?_
  exact xo_vret dd_J_add_24 rfl
set_option maxRecDepth 100000 in
set_option maxHeartbeats 4000000 in
theorem kc_J_add (t : xo_N) (x1 : Int32) (x2 : Int32) (x3 : Int32) (H : xo_H) (r : xo_H) (hk : fc_J_add t x1 x2 x3 H = some r) : xo_M mt_J_add [.inr (some t), .inl x1, .inl x2, .inl x3] H (xo_jv r) :=
  xo_entry hk (by decide +kernel) (Nat.le_of_ble_eq_true rfl) (kb_J_add t x1 x2 x3 H r)
def fc_R_at (t : xo_N) (x1 : Int32) (H : xo_H) : Option (Int32 × xo_H) :=
  if x1 < 0 then (some ((0 : Int32), H))
  else (xo_gf 3 2 H (some t) fun v1 =>
  if x1 < v1 then (xo_gp 3 0 H (some t) fun o2 =>
  xo_gf 3 1 H (some t) fun v3 =>
  xo_gp 3 0 H (some t) fun o4 =>
  xo_ln o4 fun v5 =>
  xo_rm (v3 + x1) v5 fun v6 =>
  xo_al 0 H o2 v6 fun v7 =>
  some (v7, H))
  else (some ((0 : Int32), H)))

set_option maxRecDepth 100000 in
set_option maxHeartbeats 4000000 in
theorem kb_R_at (t : xo_N) (x1 : Int32) (H : xo_H) (r : Int32 × xo_H) : xo_X mt_R_at 0 0 xo_ji r 0 [(0, .inr (some t)), (1, .inl x1)] [] H (fc_R_at t x1 H) := by
  unfold fc_R_at
  refine xo_iload_n (pc' := 1) dd_R_at_0 rfl 1 rfl rfl ?_
  refine xo_if_lt (pc' := 4) (tgt := 32) dd_R_at_1 rfl rfl ?_ ?_
  · refine xo_iconst (pc' := 33) (v := (0 : Int32)) dd_R_at_32 (by decide) rfl ?_
    exact xo_iret dd_R_at_33 rfl
  · refine xo_iload_n (pc' := 5) dd_R_at_4 rfl 1 rfl rfl ?_
    refine xo_aload_n (pc' := 6) dd_R_at_5 rfl 0 rfl rfl ?_
    refine xo_getI (pc' := 9) dd_R_at_6 ff_R_13 (by decide) rfl fun v1 => ?_
    refine xo_icmp_ge (pc' := 12) (tgt := 32) dd_R_at_9 rfl rfl ?_ ?_
    · refine xo_iconst (pc' := 33) (v := (0 : Int32)) dd_R_at_32 (by decide) rfl ?_
      exact xo_iret dd_R_at_33 rfl
    · refine xo_aload_n (pc' := 13) dd_R_at_12 rfl 0 rfl rfl ?_
      refine xo_getP (pc' := 16) dd_R_at_13 ff_R_7 (by decide) rfl fun o2 => ?_
      refine xo_aload_n (pc' := 17) dd_R_at_16 rfl 0 rfl rfl ?_
      refine xo_getI (pc' := 20) dd_R_at_17 ff_R_17 (by decide) rfl fun v3 => ?_
      refine xo_iload_n (pc' := 21) dd_R_at_20 rfl 1 rfl rfl ?_
      refine xo_iadd (pc' := 22) dd_R_at_21 rfl ?_
      refine xo_aload_n (pc' := 23) dd_R_at_22 rfl 0 rfl rfl ?_
      refine xo_getP (pc' := 26) dd_R_at_23 ff_R_7 (by decide) rfl fun o4 => ?_
      refine xo_alen (pc' := 27) dd_R_at_26 rfl fun v5 => ?_
      refine xo_irem (pc' := 28) dd_R_at_27 rfl fun v6 => ?_
      refine xo_iald (pc' := 29) dd_R_at_28 rfl fun v7 => ?_
      refine xo_goto (pc' := 33) dd_R_at_29 rfl ?_
      exact xo_iret dd_R_at_33 rfl
set_option maxRecDepth 100000 in
set_option maxHeartbeats 4000000 in
theorem kc_R_at (t : xo_N) (x1 : Int32) (H : xo_H) (r : Int32 × xo_H) (hk : fc_R_at t x1 H = some r) : xo_M mt_R_at [.inr (some t), .inl x1] H (xo_ji r) :=
  xo_entry hk (by decide +kernel) (Nat.le_of_ble_eq_true rfl) (kb_R_at t x1 H r)
def fc_R_clear (t : xo_N) (H : xo_H) : Option (xo_H) :=
  xo_pf 3 2 H (some t) (0 : Int32) fun H1 =>
  some H1

set_option maxRecDepth 100000 in
set_option maxHeartbeats 4000000 in
theorem kb_R_clear (t : xo_N) (H : xo_H) (r : xo_H) : xo_X mt_R_clear 0 0 xo_jv r 0 [(0, .inr (some t))] [] H (fc_R_clear t H) := by
  unfold fc_R_clear
  refine xo_aload_n (pc' := 1) dd_R_clear_0 rfl 0 rfl rfl ?_
  refine xo_iconst (pc' := 2) (v := (0 : Int32)) dd_R_clear_1 (by decide) rfl ?_
  refine xo_putI (pc' := 5) dd_R_clear_2 ff_R_13 rfl fun H1 => ?_
  exact xo_vret dd_R_clear_5 rfl
set_option maxRecDepth 100000 in
set_option maxHeartbeats 4000000 in
theorem kc_R_clear (t : xo_N) (H : xo_H) (r : xo_H) (hk : fc_R_clear t H = some r) : xo_M mt_R_clear [.inr (some t)] H (xo_jv r) :=
  xo_entry hk (by decide +kernel) (Nat.le_of_ble_eq_true rfl) (kb_R_clear t H r)
def fb_J_holds_2 : Nat → xo_N → Int32 → Int32 → Int32 → xo_H → Option (Int32 × xo_H)
  | 0, _, _, _, _, _ => none
  | fu + 1, t, x1, x2, x3, H =>
  xo_gp 2 0 H (some t) fun o1 =>
  xo_gf 3 2 H o1 fun v2 =>
  if x3 < v2 then (xo_gp 2 0 H (some t) fun o3 =>
  xo_cl 3 o3 (fun n8 => fc_R_at n8 x3 H) fun r4 =>
  if r4.1 = x1 then (xo_gp 2 1 r4.2 (some t) fun o5 =>
  xo_cl 3 o5 (fun n7 => fc_R_at n7 x3 r4.2) fun r6 =>
  if r6.1 = x2 then (xo_gb (1 : Int32) (some ((1 : Int32), r6.2)))
  else (fb_J_holds_2 fu t x1 x2 (x3 + (1 : Int32)) r6.2))
  else (fb_J_holds_2 fu t x1 x2 (x3 + (1 : Int32)) r4.2))
  else (xo_gb (0 : Int32) (some ((0 : Int32), H)))

def fc_J_holds (t : xo_N) (x1 : Int32) (x2 : Int32) (H : xo_H) : Option (Int32 × xo_H) :=
  fb_J_holds_2 1000 t x1 x2 (0 : Int32) H

set_option maxRecDepth 100000 in
set_option maxHeartbeats 4000000 in
theorem kb_J_holds_2 : ∀ (fu : Nat) (t : xo_N) (x1 : Int32) (x2 : Int32) (x3 : Int32) (H : xo_H) (r : Int32 × xo_H), xo_X mt_J_holds 0 0 xo_ji r 2 [(0, .inr (some t)), (1, .inl x1), (2, .inl x2), (3, .inl x3)] [] H (fb_J_holds_2 fu t x1 x2 x3 H) := by
  intro fu
  induction fu with
  | zero => intros; exact xo_no
  | succ fu ih =>
    intro t x1 x2 x3 H r
    rw [fb_J_holds_2]
    refine xo_iload_n (pc' := 3) dd_J_holds_2 rfl 3 rfl rfl ?_
    refine xo_aload_n (pc' := 4) dd_J_holds_3 rfl 0 rfl rfl ?_
    refine xo_getP (pc' := 7) dd_J_holds_4 ff_J_14 (by decide) rfl fun o1 => ?_
    refine xo_getI (pc' := 10) dd_J_holds_7 ff_J_26 (by decide) rfl fun v2 => ?_
    refine xo_icmp_ge (pc' := 13) (tgt := 45) dd_J_holds_10 rfl rfl ?_ ?_
    · refine xo_iconst (pc' := 46) (v := (0 : Int32)) dd_J_holds_45 (by decide) rfl ?_
      exact xo_zret dd_J_holds_46 rfl
    · refine xo_aload_n (pc' := 14) dd_J_holds_13 rfl 0 rfl rfl ?_
      refine xo_getP (pc' := 17) dd_J_holds_14 ff_J_14 (by decide) rfl fun o3 => ?_
      refine xo_iload_n (pc' := 18) dd_J_holds_17 rfl 3 rfl rfl ?_
      refine xo_callVi (as := [.inl x3]) (o := o3) (st := []) (pc' := 21) dd_J_holds_18 cv_R_at ml_J_33 rfl rfl ⟨by decide, by decide⟩ rfl rfl rfl (Nat.le_of_ble_eq_true rfl) rfl (fun n q h => kc_R_at n x3 H q h) fun r4 => ?_
      refine xo_iload_n (pc' := 22) dd_J_holds_21 rfl 1 rfl rfl ?_
      refine xo_icmp_ne (pc' := 25) (tgt := 39) dd_J_holds_22 rfl rfl ?_ ?_
      · refine xo_iinc (pc' := 42) dd_J_holds_39 3 rfl (xo_ii (m := (1 : Int32)) (by decide)) (by decide) rfl rfl ?_
        refine xo_goto (pc' := 2) dd_J_holds_42 rfl ?_
        refine xo_sub [1, 2, 3, 0] rfl ?_
        exact ih t x1 x2 (x3 + (1 : Int32)) r4.2 r
      · refine xo_aload_n (pc' := 26) dd_J_holds_25 rfl 0 rfl rfl ?_
        refine xo_getP (pc' := 29) dd_J_holds_26 ff_J_20 (by decide) rfl fun o5 => ?_
        refine xo_iload_n (pc' := 30) dd_J_holds_29 rfl 3 rfl rfl ?_
        refine xo_callVi (as := [.inl x3]) (o := o5) (st := []) (pc' := 33) dd_J_holds_30 cv_R_at ml_J_33 rfl rfl ⟨by decide, by decide⟩ rfl rfl rfl (Nat.le_of_ble_eq_true rfl) rfl (fun n q h => kc_R_at n x3 r4.2 q h) fun r6 => ?_
        refine xo_iload_n (pc' := 34) dd_J_holds_33 rfl 2 rfl rfl ?_
        refine xo_icmp_ne (pc' := 37) (tgt := 39) dd_J_holds_34 rfl rfl ?_ ?_
        · refine xo_iinc (pc' := 42) dd_J_holds_39 3 rfl (xo_ii (m := (1 : Int32)) (by decide)) (by decide) rfl rfl ?_
          refine xo_goto (pc' := 2) dd_J_holds_42 rfl ?_
          refine xo_sub [1, 2, 3, 0] rfl ?_
          exact ih t x1 x2 (x3 + (1 : Int32)) r6.2 r
        · refine xo_iconst (pc' := 38) (v := (1 : Int32)) dd_J_holds_37 (by decide) rfl ?_
          exact xo_zret dd_J_holds_38 rfl
set_option maxRecDepth 100000 in
set_option maxHeartbeats 4000000 in
theorem kb_J_holds (t : xo_N) (x1 : Int32) (x2 : Int32) (H : xo_H) (r : Int32 × xo_H) : xo_X mt_J_holds 0 0 xo_ji r 0 [(0, .inr (some t)), (1, .inl x1), (2, .inl x2)] [] H (fc_J_holds t x1 x2 H) := by
  unfold fc_J_holds
  refine xo_iconst (pc' := 1) (v := (0 : Int32)) dd_J_holds_0 (by decide) rfl ?_
  refine xo_istore_n (pc' := 2) dd_J_holds_1 rfl (by decide) rfl rfl ?_
  refine xo_sub [1, 2, 3, 0] rfl ?_
  exact kb_J_holds_2 1000 t x1 x2 (0 : Int32) H r
set_option maxRecDepth 100000 in
set_option maxHeartbeats 4000000 in
theorem kc_J_holds (t : xo_N) (x1 : Int32) (x2 : Int32) (H : xo_H) (r : Int32 × xo_H) (hk : fc_J_holds t x1 x2 H = some r) : xo_M mt_J_holds [.inr (some t), .inl x1, .inl x2] H (xo_ji r) :=
  xo_entry hk (by decide +kernel) (Nat.le_of_ble_eq_true rfl) (kb_J_holds t x1 x2 H r)
def fc_C_add (t : xo_N) (x1 : Int32) (H : xo_H) : Option (xo_H) :=
  xo_gp 4 0 H (some t) fun o1 =>
  xo_cl 3 o1 (fun n7 => fc_R_add n7 x1 H) fun H2 =>
  xo_gf 4 3 H2 (some t) fun v3 =>
  xo_cl 4 (some t) (fun n6 => fc_C_sizeOf n6 x1 H2) fun r4 =>
  xo_pf 4 3 r4.2 (some t) (v3 - r4.1) fun H5 =>
  some H5

set_option maxRecDepth 100000 in
set_option maxHeartbeats 4000000 in
theorem kb_C_add (t : xo_N) (x1 : Int32) (H : xo_H) (r : xo_H) : xo_X mt_C_add 0 0 xo_jv r 0 [(0, .inr (some t)), (1, .inl x1)] [] H (fc_C_add t x1 H) := by
  unfold fc_C_add
  refine xo_aload_n (pc' := 1) dd_C_add_0 rfl 0 rfl rfl ?_
  refine xo_getP (pc' := 4) dd_C_add_1 ff_C_14 (by decide) rfl fun o1 => ?_
  refine xo_iload_n (pc' := 5) dd_C_add_4 rfl 1 rfl rfl ?_
  refine xo_callVv (as := [.inl x1]) (o := o1) (st := []) (pc' := 8) dd_C_add_5 cv_R_add ml_C_34 rfl rfl ⟨by decide, by decide⟩ rfl rfl rfl (Nat.le_of_ble_eq_true rfl) rfl (fun n q h => kc_R_add n x1 H q h) fun H2 => ?_
  refine xo_aload_n (pc' := 9) dd_C_add_8 rfl 0 rfl rfl ?_
  refine xo_dup (pc' := 10) dd_C_add_9 rfl ?_
  refine xo_getI (pc' := 13) dd_C_add_10 ff_C_28 (by decide) rfl fun v3 => ?_
  refine xo_aload_n (pc' := 14) dd_C_add_13 rfl 0 rfl rfl ?_
  refine xo_iload_n (pc' := 15) dd_C_add_14 rfl 1 rfl rfl ?_
  refine xo_callVi (as := [.inl x1]) (o := (some t)) (st := [.inl v3, .inr (some t)]) (pc' := 18) dd_C_add_15 cv_C_sizeOf ml_C_37 rfl rfl ⟨by decide, by decide⟩ rfl rfl rfl (Nat.le_of_ble_eq_true rfl) rfl (fun n q h => kc_C_sizeOf n x1 H2 q h) fun r4 => ?_
  refine xo_isub (pc' := 19) dd_C_add_18 rfl ?_
  refine xo_putI (pc' := 22) dd_C_add_19 ff_C_28 rfl fun H5 => ?_
  exact xo_vret dd_C_add_22 rfl
set_option maxRecDepth 100000 in
set_option maxHeartbeats 4000000 in
theorem kc_C_add (t : xo_N) (x1 : Int32) (H : xo_H) (r : xo_H) (hk : fc_C_add t x1 H = some r) : xo_M mt_C_add [.inr (some t), .inl x1] H (xo_jv r) :=
  xo_entry hk (by decide +kernel) (Nat.le_of_ble_eq_true rfl) (kb_C_add t x1 H r)
def fc_C_clear (t : xo_N) (H : xo_H) : Option (xo_H) :=
  xo_gp 4 0 H (some t) fun o1 =>
  xo_cl 3 o1 (fun n5 => fc_R_clear n5 H) fun H2 =>
  xo_gf 4 1 H2 (some t) fun v3 =>
  xo_pf 4 3 H2 (some t) v3 fun H4 =>
  some H4

set_option maxRecDepth 100000 in
set_option maxHeartbeats 4000000 in
theorem kb_C_clear (t : xo_N) (H : xo_H) (r : xo_H) : xo_X mt_C_clear 0 0 xo_jv r 0 [(0, .inr (some t))] [] H (fc_C_clear t H) := by
  unfold fc_C_clear
  refine xo_aload_n (pc' := 1) dd_C_clear_0 rfl 0 rfl rfl ?_
  refine xo_getP (pc' := 4) dd_C_clear_1 ff_C_14 (by decide) rfl fun o1 => ?_
  refine xo_callVv (as := []) (o := o1) (st := []) (pc' := 7) dd_C_clear_4 cv_R_clear ml_C_45 rfl rfl ⟨by decide, by decide⟩ rfl rfl rfl (Nat.le_of_ble_eq_true rfl) rfl (fun n q h => kc_R_clear n H q h) fun H2 => ?_
  refine xo_aload_n (pc' := 8) dd_C_clear_7 rfl 0 rfl rfl ?_
  refine xo_aload_n (pc' := 9) dd_C_clear_8 rfl 0 rfl rfl ?_
  refine xo_getI (pc' := 12) dd_C_clear_9 ff_C_20 (by decide) rfl fun v3 => ?_
  refine xo_putI (pc' := 15) dd_C_clear_12 ff_C_28 rfl fun H4 => ?_
  exact xo_vret dd_C_clear_15 rfl
set_option maxRecDepth 100000 in
set_option maxHeartbeats 4000000 in
theorem kc_C_clear (t : xo_N) (H : xo_H) (r : xo_H) (hk : fc_C_clear t H = some r) : xo_M mt_C_clear [.inr (some t)] H (xo_jv r) :=
  xo_entry hk (by decide +kernel) (Nat.le_of_ble_eq_true rfl) (kb_C_clear t H r)
def fc_J_count (t : xo_N) (H : xo_H) : Option (Int32 × xo_H) :=
  xo_gp 2 0 H (some t) fun o1 =>
  xo_gf 3 2 H o1 fun v2 =>
  some (v2, H)

set_option maxRecDepth 100000 in
set_option maxHeartbeats 4000000 in
theorem kb_J_count (t : xo_N) (H : xo_H) (r : Int32 × xo_H) : xo_X mt_J_count 0 0 xo_ji r 0 [(0, .inr (some t))] [] H (fc_J_count t H) := by
  unfold fc_J_count
  refine xo_aload_n (pc' := 1) dd_J_count_0 rfl 0 rfl rfl ?_
  refine xo_getP (pc' := 4) dd_J_count_1 ff_J_14 (by decide) rfl fun o1 => ?_
  refine xo_getI (pc' := 7) dd_J_count_4 ff_J_26 (by decide) rfl fun v2 => ?_
  exact xo_iret dd_J_count_7 rfl
set_option maxRecDepth 100000 in
set_option maxHeartbeats 4000000 in
theorem kc_J_count (t : xo_N) (H : xo_H) (r : Int32 × xo_H) (hk : fc_J_count t H = some r) : xo_M mt_J_count [.inr (some t)] H (xo_ji r) :=
  xo_entry hk (by decide +kernel) (Nat.le_of_ble_eq_true rfl) (kb_J_count t H r)
def fc_L_tell (t : xo_N) (x1 : Int32) (x2 : Int32) (H : xo_H) : Option (Int32 × xo_H) :=
  if x1 < 0 then (some ((0 : Int32), H))
  else (xo_gf 1 3 H (some t) fun v1 =>
  if x1 < v1 then (xo_gf 1 3 H (some t) fun v2 =>
  if x1 < (v2 - (64 : Int32)) then (some ((0 : Int32), H))
  else (if x2 = 0 then (xo_gp 1 0 H (some t) fun o3 =>
  xo_al 0 H o3 (x1 &&& (63 : Int32)) fun v4 =>
  some (v4, H))
  else if x2 = 1 then (xo_gp 1 1 H (some t) fun o5 =>
  xo_al 0 H o5 (x1 &&& (63 : Int32)) fun v6 =>
  some (v6, H))
  else if x2 = 2 then (xo_gp 1 2 H (some t) fun o7 =>
  xo_al 0 H o7 (x1 &&& (63 : Int32)) fun v8 =>
  some (v8, H))
  else (some ((0 : Int32), H))))
  else (some ((0 : Int32), H)))

set_option maxRecDepth 100000 in
set_option maxHeartbeats 4000000 in
theorem kb_L_tell (t : xo_N) (x1 : Int32) (x2 : Int32) (H : xo_H) (r : Int32 × xo_H) : xo_X mt_L_tell 0 0 xo_ji r 0 [(0, .inr (some t)), (1, .inl x1), (2, .inl x2)] [] H (fc_L_tell t x1 x2 H) := by
  unfold fc_L_tell
  refine xo_iload_n (pc' := 1) dd_L_tell_0 rfl 1 rfl rfl ?_
  refine xo_if_lt (pc' := 4) (tgt := 23) dd_L_tell_1 rfl rfl ?_ ?_
  · refine xo_iconst (pc' := 24) (v := (0 : Int32)) dd_L_tell_23 (by decide) rfl ?_
    exact xo_iret dd_L_tell_24 rfl
  · refine xo_iload_n (pc' := 5) dd_L_tell_4 rfl 1 rfl rfl ?_
    refine xo_aload_n (pc' := 6) dd_L_tell_5 rfl 0 rfl rfl ?_
    refine xo_getI (pc' := 9) dd_L_tell_6 ff_L_21 (by decide) rfl fun v1 => ?_
    refine xo_icmp_ge (pc' := 12) (tgt := 23) dd_L_tell_9 rfl rfl ?_ ?_
    · refine xo_iconst (pc' := 24) (v := (0 : Int32)) dd_L_tell_23 (by decide) rfl ?_
      exact xo_iret dd_L_tell_24 rfl
    · refine xo_iload_n (pc' := 13) dd_L_tell_12 rfl 1 rfl rfl ?_
      refine xo_aload_n (pc' := 14) dd_L_tell_13 rfl 0 rfl rfl ?_
      refine xo_getI (pc' := 17) dd_L_tell_14 ff_L_21 (by decide) rfl fun v2 => ?_
      refine xo_bipush (pc' := 19) (v := (64 : Int32)) dd_L_tell_17 (by decide) rfl ?_
      refine xo_isub (pc' := 20) dd_L_tell_19 rfl ?_
      refine xo_icmp_ge (pc' := 23) (tgt := 25) dd_L_tell_20 rfl rfl ?_ ?_
      · refine xo_iload_n (pc' := 26) dd_L_tell_25 rfl 1 rfl rfl ?_
        refine xo_bipush (pc' := 28) (v := (63 : Int32)) dd_L_tell_26 (by decide) rfl ?_
        refine xo_iand (pc' := 29) dd_L_tell_28 rfl ?_
        refine xo_istore_n (pc' := 30) dd_L_tell_29 rfl (by decide) rfl rfl ?_
        refine xo_iload_n (pc' := 31) dd_L_tell_30 rfl 3 rfl rfl ?_
        refine xo_tsw (t0 := 56) (t1 := 63) (t2 := 70) (d0 := 77) dd_L_tell_31 rfl rfl rfl rfl rfl rfl rfl ?_ ?_ ?_ ?_
        · refine xo_aload_n (pc' := 57) dd_L_tell_56 rfl 1 rfl rfl ?_
          refine xo_getP (pc' := 60) dd_L_tell_57 ff_L_9 (by decide) rfl fun o3 => ?_
          refine xo_iload_n (pc' := 61) dd_L_tell_60 rfl 0 rfl rfl ?_
          refine xo_iald (pc' := 62) dd_L_tell_61 rfl fun v4 => ?_
          exact xo_iret dd_L_tell_62 rfl
        · refine xo_aload_n (pc' := 64) dd_L_tell_63 rfl 1 rfl rfl ?_
          refine xo_getP (pc' := 67) dd_L_tell_64 ff_L_15 (by decide) rfl fun o5 => ?_
          refine xo_iload_n (pc' := 68) dd_L_tell_67 rfl 0 rfl rfl ?_
          refine xo_iald (pc' := 69) dd_L_tell_68 rfl fun v6 => ?_
          exact xo_iret dd_L_tell_69 rfl
        · refine xo_aload_n (pc' := 71) dd_L_tell_70 rfl 1 rfl rfl ?_
          refine xo_getP (pc' := 74) dd_L_tell_71 ff_L_18 (by decide) rfl fun o7 => ?_
          refine xo_iload_n (pc' := 75) dd_L_tell_74 rfl 0 rfl rfl ?_
          refine xo_iald (pc' := 76) dd_L_tell_75 rfl fun v8 => ?_
          exact xo_iret dd_L_tell_76 rfl
        · refine xo_iconst (pc' := 78) (v := (0 : Int32)) dd_L_tell_77 (by decide) rfl ?_
          exact xo_iret dd_L_tell_78 rfl
      · refine xo_iconst (pc' := 24) (v := (0 : Int32)) dd_L_tell_23 (by decide) rfl ?_
        exact xo_iret dd_L_tell_24 rfl
set_option maxRecDepth 100000 in
set_option maxHeartbeats 4000000 in
theorem kc_L_tell (t : xo_N) (x1 : Int32) (x2 : Int32) (H : xo_H) (r : Int32 × xo_H) (hk : fc_L_tell t x1 x2 H = some r) : xo_M mt_L_tell [.inr (some t), .inl x1, .inl x2] H (xo_ji r) :=
  xo_entry hk (by decide +kernel) (Nat.le_of_ble_eq_true rfl) (kb_L_tell t x1 x2 H r)
