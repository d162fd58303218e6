def fc_T_init (t : xo_N) (x1 : Int32) (x2 : Option xo_N) (x3 : Option xo_N) (H : xo_H) : Option (xo_H) :=
  xo_nw 3 H (t.1 + 4, t.2) fun H1 =>
  (fc_R_init (t.1 + 4, t.2) (16 : Int32) H1).bind fun H3 =>
  xo_pp 7 3 H3 (some t) (some (t.1 + 4, t.2)) fun H4 =>
  xo_pf 7 4 H4 (some t) (0 : Int32) fun H5 =>
  xo_pf 7 7 H5 (some t) (0 : Int32) fun H6 =>
  xo_pf 7 0 H6 (some t) x1 fun H7 =>
  xo_pp 7 1 H7 (some t) x2 fun H8 =>
  xo_pp 7 2 H8 (some t) x3 fun H9 =>
  some H9

set_option maxRecDepth 100000 in
set_option maxHeartbeats 4000000 in
theorem kb_T_init (t : xo_N) (x1 : Int32) (x2 : Option xo_N) (x3 : Option xo_N) (H : xo_H) (r : xo_H) : xo_X mt_T_init 2 19 xo_jv r 0 [(0, .inr (some t)), (1, .inl x1), (2, .inr x2), (3, .inr x3)] [] H (fc_T_init t x1 x2 x3 H) := by
  unfold fc_T_init
  refine xo_aload_n (pc' := 1) dd_T_init_0 rfl 0 rfl rfl ?_
  refine xo_oinit (pc' := 4) dd_T_init_1 wo_T_3 wo_inst wo_code (by decide) (Nat.le_of_ble_eq_true rfl) rfl ?_
  refine xo_aload_n (pc' := 5) dd_T_init_4 rfl 0 rfl rfl ?_
  refine xo_new (pc' := 8) dd_T_init_5 co_T_9 rfl rfl rfl fun H1 => ?_
  refine xo_dup (pc' := 9) dd_T_init_8 rfl ?_
  refine xo_bipush (pc' := 11) (v := (16 : Int32)) dd_T_init_9 (by decide) rfl ?_
  refine xo_callIv (as := [.inl (16 : Int32)]) (n := (t.1 + 4, t.2)) (st := [.inr (some (t.1 + 4, t.2)), .inr (some t)]) (pc' := 14) dd_T_init_11 cv_R_init ml_T_11 rfl ⟨by decide, by decide⟩ rfl rfl rfl (Nat.le_of_ble_eq_true rfl) rfl (fun q h => kc_R_init (t.1 + 4, t.2) (16 : Int32) H1 q h) fun H3 => ?_
  refine xo_putPF (pc' := 17) dd_T_init_14 fF_T_14 rfl (by decide) (by decide +kernel : parseFieldDescriptor "LFlowKernel$Row;" = some (.object "FlowKernel$Row")) (Or.inl ⟨_, rfl⟩) rfl fun H4 => ?_
  refine xo_aload_n (pc' := 18) dd_T_init_17 rfl 0 rfl rfl ?_
  refine xo_iconst (pc' := 19) (v := (0 : Int32)) dd_T_init_18 (by decide) rfl ?_
  refine xo_putI (pc' := 22) dd_T_init_19 ff_T_20 rfl fun H5 => ?_
  refine xo_aload_n (pc' := 23) dd_T_init_22 rfl 0 rfl rfl ?_
  refine xo_iconst (pc' := 24) (v := (0 : Int32)) dd_T_init_23 (by decide) rfl ?_
  refine xo_putI (pc' := 27) dd_T_init_24 ff_T_24 rfl fun H6 => ?_
  refine xo_aload_n (pc' := 28) dd_T_init_27 rfl 0 rfl rfl ?_
  refine xo_iload_n (pc' := 29) dd_T_init_28 rfl 1 rfl rfl ?_
  refine xo_putIF (pc' := 32) dd_T_init_29 fF_T_27 rfl rfl fun H7 => ?_
  refine xo_aload_n (pc' := 33) dd_T_init_32 rfl 0 rfl rfl ?_
  refine xo_aload_n (pc' := 34) dd_T_init_33 rfl 2 rfl rfl ?_
  refine xo_putPF (pc' := 37) dd_T_init_34 fF_T_30 rfl (by decide) (by decide +kernel : parseFieldDescriptor "LFlowKernel$ChunkRow;" = some (.object "FlowKernel$ChunkRow")) (Or.inl ⟨_, rfl⟩) rfl fun H8 => ?_
  refine xo_aload_n (pc' := 38) dd_T_init_37 rfl 0 rfl rfl ?_
  refine xo_aload_n (pc' := 39) dd_T_init_38 rfl 3 rfl rfl ?_
  refine xo_putPF (pc' := 42) dd_T_init_39 fF_T_34 rfl (by decide) (by decide +kernel : parseFieldDescriptor "LFlowKernel$EventLog;" = some (.object "FlowKernel$EventLog")) (Or.inl ⟨_, rfl⟩) rfl fun H9 => ?_
  exact xo_vret dd_T_init_42 rfl
set_option maxRecDepth 100000 in
set_option maxHeartbeats 4000000 in
theorem kc_T_init (t : xo_N) (x1 : Int32) (x2 : Option xo_N) (x3 : Option xo_N) (H : xo_H) (r : xo_H) (hk : fc_T_init t x1 x2 x3 H = some r) : xo_M mt_T_init [.inr (some t), .inl x1, .inr x2, .inr x3] H (xo_jv r) :=
  xo_entry hk (by decide +kernel) (Nat.le_of_ble_eq_true rfl) (kb_T_init t x1 x2 x3 H r)
def fc_T_hasError (t : xo_N) (H : xo_H) : Option (Int32 × xo_H) :=
  xo_gf 7 4 H (some t) fun v1 =>
  if v1 = (1 : Int32) then (xo_gb (1 : Int32) (some ((1 : Int32), H)))
  else (xo_gf 7 4 H (some t) fun v2 =>
  if v2 = (2 : Int32) then (xo_gb (1 : Int32) (some ((1 : Int32), H)))
  else (xo_gb (0 : Int32) (some ((0 : Int32), H))))

set_option maxRecDepth 100000 in
set_option maxHeartbeats 4000000 in
theorem kb_T_hasError (t : xo_N) (H : xo_H) (r : Int32 × xo_H) : xo_X mt_T_hasError 0 0 xo_ji r 0 [(0, .inr (some t))] [] H (fc_T_hasError t H) := by
  unfold fc_T_hasError
  refine xo_aload_n (pc' := 1) dd_T_hasError_0 rfl 0 rfl rfl ?_
  refine xo_getI (pc' := 4) dd_T_hasError_1 ff_T_20 (by decide) rfl fun v1 => ?_
  refine xo_iconst (pc' := 5) (v := (1 : Int32)) dd_T_hasError_4 (by decide) rfl ?_
  refine xo_icmp_eq (pc' := 8) (tgt := 16) dd_T_hasError_5 rfl rfl ?_ ?_
  · refine xo_iconst (pc' := 17) (v := (1 : Int32)) dd_T_hasError_16 (by decide) rfl ?_
    refine xo_goto (pc' := 21) dd_T_hasError_17 rfl ?_
    exact xo_zret dd_T_hasError_21 rfl
  · refine xo_aload_n (pc' := 9) dd_T_hasError_8 rfl 0 rfl rfl ?_
    refine xo_getI (pc' := 12) dd_T_hasError_9 ff_T_20 (by decide) rfl fun v2 => ?_
    refine xo_iconst (pc' := 13) (v := (2 : Int32)) dd_T_hasError_12 (by decide) rfl ?_
    refine xo_icmp_ne (pc' := 16) (tgt := 20) dd_T_hasError_13 rfl rfl ?_ ?_
    · refine xo_iconst (pc' := 21) (v := (0 : Int32)) dd_T_hasError_20 (by decide) rfl ?_
      exact xo_zret dd_T_hasError_21 rfl
    · refine xo_iconst (pc' := 17) (v := (1 : Int32)) dd_T_hasError_16 (by decide) rfl ?_
      refine xo_goto (pc' := 21) dd_T_hasError_17 rfl ?_
      exact xo_zret dd_T_hasError_21 rfl
set_option maxRecDepth 100000 in
set_option maxHeartbeats 4000000 in
theorem kc_T_hasError (t : xo_N) (H : xo_H) (r : Int32 × xo_H) (hk : fc_T_hasError t H = some r) : xo_M mt_T_hasError [.inr (some t)] H (xo_ji r) :=
  xo_entry hk (by decide +kernel) (Nat.le_of_ble_eq_true rfl) (kb_T_hasError t H r)
def fc_T_isShutOrToBe (t : xo_N) (H : xo_H) : Option (Int32 × xo_H) :=
  xo_gf 7 11 H (some t) fun v1 =>
  if v1 = 0 then (xo_gf 7 7 H (some t) fun v2 =>
  if v2 = (4 : Int32) then (xo_gb (1 : Int32) (some ((1 : Int32), H)))
  else (xo_gf 7 4 H (some t) fun v3 =>
  if v3 = (3 : Int32) then (xo_gb (1 : Int32) (some ((1 : Int32), H)))
  else (xo_gb (0 : Int32) (some ((0 : Int32), H)))))
  else (xo_gb (1 : Int32) (some ((1 : Int32), H)))

set_option maxRecDepth 100000 in
set_option maxHeartbeats 4000000 in
theorem kb_T_isShutOrToBe (t : xo_N) (H : xo_H) (r : Int32 × xo_H) : xo_X mt_T_isShutOrToBe 0 0 xo_ji r 0 [(0, .inr (some t))] [] H (fc_T_isShutOrToBe t H) := by
  unfold fc_T_isShutOrToBe
  refine xo_aload_n (pc' := 1) dd_T_isShutOrToBe_0 rfl 0 rfl rfl ?_
  refine xo_getI (pc' := 4) dd_T_isShutOrToBe_1 ff_T_38 (by decide) rfl fun v1 => ?_
  refine xo_if_ne (pc' := 7) (tgt := 23) dd_T_isShutOrToBe_4 rfl rfl ?_ ?_
  · refine xo_iconst (pc' := 24) (v := (1 : Int32)) dd_T_isShutOrToBe_23 (by decide) rfl ?_
    refine xo_goto (pc' := 28) dd_T_isShutOrToBe_24 rfl ?_
    exact xo_zret dd_T_isShutOrToBe_28 rfl
  · refine xo_aload_n (pc' := 8) dd_T_isShutOrToBe_7 rfl 0 rfl rfl ?_
    refine xo_getI (pc' := 11) dd_T_isShutOrToBe_8 ff_T_24 (by decide) rfl fun v2 => ?_
    refine xo_iconst (pc' := 12) (v := (4 : Int32)) dd_T_isShutOrToBe_11 (by decide) rfl ?_
    refine xo_icmp_eq (pc' := 15) (tgt := 23) dd_T_isShutOrToBe_12 rfl rfl ?_ ?_
    · refine xo_iconst (pc' := 24) (v := (1 : Int32)) dd_T_isShutOrToBe_23 (by decide) rfl ?_
      refine xo_goto (pc' := 28) dd_T_isShutOrToBe_24 rfl ?_
      exact xo_zret dd_T_isShutOrToBe_28 rfl
    · refine xo_aload_n (pc' := 16) dd_T_isShutOrToBe_15 rfl 0 rfl rfl ?_
      refine xo_getI (pc' := 19) dd_T_isShutOrToBe_16 ff_T_20 (by decide) rfl fun v3 => ?_
      refine xo_iconst (pc' := 20) (v := (3 : Int32)) dd_T_isShutOrToBe_19 (by decide) rfl ?_
      refine xo_icmp_ne (pc' := 23) (tgt := 27) dd_T_isShutOrToBe_20 rfl rfl ?_ ?_
      · refine xo_iconst (pc' := 28) (v := (0 : Int32)) dd_T_isShutOrToBe_27 (by decide) rfl ?_
        exact xo_zret dd_T_isShutOrToBe_28 rfl
      · refine xo_iconst (pc' := 24) (v := (1 : Int32)) dd_T_isShutOrToBe_23 (by decide) rfl ?_
        refine xo_goto (pc' := 28) dd_T_isShutOrToBe_24 rfl ?_
        exact xo_zret dd_T_isShutOrToBe_28 rfl
set_option maxRecDepth 100000 in
set_option maxHeartbeats 4000000 in
theorem kc_T_isShutOrToBe (t : xo_N) (H : xo_H) (r : Int32 × xo_H) (hk : fc_T_isShutOrToBe t H = some r) : xo_M mt_T_isShutOrToBe [.inr (some t)] H (xo_ji r) :=
  xo_entry hk (by decide +kernel) (Nat.le_of_ble_eq_true rfl) (kb_T_isShutOrToBe t H r)
def fc_T_startNext (t : xo_N) (H : xo_H) : Option (xo_H) :=
  xo_gf 7 7 H (some t) fun v1 =>
  if v1 = 0 then (xo_gf 7 4 H (some t) fun v2 =>
  if v2 = 0 then (xo_gp 7 1 H (some t) fun o3 =>
  xo_cl 4 o3 (fun n21 => fc_C_count n21 H) fun r4 =>
  if 0 < r4.1 then (xo_pf 7 7 r4.2 (some t) (3 : Int32) fun H12 =>
  xo_gp 7 2 H12 (some t) fun o13 =>
  xo_gf 7 0 H12 (some t) fun v14 =>
  xo_gp 7 1 H12 (some t) fun o15 =>
  xo_gp 4 0 H12 o15 fun o16 =>
  xo_cl 3 o16 (fun n20 => fc_R_at n20 (0 : Int32) H12) fun r17 =>
  xo_cl 1 o13 (fun n19 => fc_L_note n19 (3 : Int32) v14 r17.1 (0 : Int32) r17.2) fun H18 =>
  some H18)
  else (xo_gf 7 11 r4.2 (some t) fun v5 =>
  if v5 = 0 then (some r4.2)
  else (xo_pz 7 11 r4.2 (some t) (0 : Int32) fun H6 =>
  xo_pf 7 7 H6 (some t) (4 : Int32) fun H7 =>
  xo_gp 7 2 H7 (some t) fun o8 =>
  xo_gf 7 0 H7 (some t) fun v9 =>
  xo_cl 1 o8 (fun n11 => fc_L_note n11 (4 : Int32) v9 (0 : Int32) (0 : Int32) H7) fun H10 =>
  some H10)))
  else (some H))
  else (some H)

set_option maxRecDepth 100000 in
set_option maxHeartbeats 4000000 in
theorem kb_T_startNext (t : xo_N) (H : xo_H) (r : xo_H) : xo_X mt_T_startNext 0 0 xo_jv r 0 [(0, .inr (some t))] [] H (fc_T_startNext t H) := by
  unfold fc_T_startNext
  refine xo_aload_n (pc' := 1) dd_T_startNext_0 rfl 0 rfl rfl ?_
  refine xo_getI (pc' := 4) dd_T_startNext_1 ff_T_24 (by decide) rfl fun v1 => ?_
  refine xo_if_ne (pc' := 7) (tgt := 14) dd_T_startNext_4 rfl rfl ?_ ?_
  · exact xo_vret dd_T_startNext_14 rfl
  · refine xo_aload_n (pc' := 8) dd_T_startNext_7 rfl 0 rfl rfl ?_
    refine xo_getI (pc' := 11) dd_T_startNext_8 ff_T_20 (by decide) rfl fun v2 => ?_
    refine xo_if_eq (pc' := 14) (tgt := 15) dd_T_startNext_11 rfl rfl ?_ ?_
    · refine xo_aload_n (pc' := 16) dd_T_startNext_15 rfl 0 rfl rfl ?_
      refine xo_getP (pc' := 19) dd_T_startNext_16 ff_T_30 (by decide) rfl fun o3 => ?_
      refine xo_callVi (as := []) (o := o3) (st := []) (pc' := 22) dd_T_startNext_19 cv_C_count ml_T_108 rfl rfl ⟨by decide, by decide⟩ rfl rfl rfl (Nat.le_of_ble_eq_true rfl) rfl (fun n q h => kc_C_count n H q h) fun r4 => ?_
      refine xo_if_le (pc' := 25) (tgt := 57) dd_T_startNext_22 rfl rfl ?_ ?_
      · refine xo_aload_n (pc' := 58) dd_T_startNext_57 rfl 0 rfl rfl ?_
        refine xo_getI (pc' := 61) dd_T_startNext_58 ff_T_38 (by decide) rfl fun v5 => ?_
        refine xo_if_eq (pc' := 64) (tgt := 88) dd_T_startNext_61 rfl rfl ?_ ?_
        · exact xo_vret dd_T_startNext_88 rfl
        · refine xo_aload_n (pc' := 65) dd_T_startNext_64 rfl 0 rfl rfl ?_
          refine xo_iconst (pc' := 66) (v := (0 : Int32)) dd_T_startNext_65 (by decide) rfl ?_
          refine xo_putZ (pc' := 69) dd_T_startNext_66 ff_T_38 rfl fun H6 => ?_
          refine xo_aload_n (pc' := 70) dd_T_startNext_69 rfl 0 rfl rfl ?_
          refine xo_iconst (pc' := 71) (v := (4 : Int32)) dd_T_startNext_70 (by decide) rfl ?_
          refine xo_putI (pc' := 74) dd_T_startNext_71 ff_T_24 rfl fun H7 => ?_
          refine xo_aload_n (pc' := 75) dd_T_startNext_74 rfl 0 rfl rfl ?_
          refine xo_getP (pc' := 78) dd_T_startNext_75 ff_T_34 (by decide) rfl fun o8 => ?_
          refine xo_iconst (pc' := 79) (v := (4 : Int32)) dd_T_startNext_78 (by decide) rfl ?_
          refine xo_aload_n (pc' := 80) dd_T_startNext_79 rfl 0 rfl rfl ?_
          refine xo_getI (pc' := 83) dd_T_startNext_80 ff_T_27 (by decide) rfl fun v9 => ?_
          refine xo_iconst (pc' := 84) (v := (0 : Int32)) dd_T_startNext_83 (by decide) rfl ?_
          refine xo_iconst (pc' := 85) (v := (0 : Int32)) dd_T_startNext_84 (by decide) rfl ?_
          refine xo_callVv (as := [.inl (4 : Int32), .inl v9, .inl (0 : Int32), .inl (0 : Int32)]) (o := o8) (st := []) (pc' := 88) dd_T_startNext_85 cv_L_note ml_T_55 rfl rfl ⟨by decide, by decide⟩ rfl rfl rfl (Nat.le_of_ble_eq_true rfl) rfl (fun n q h => kc_L_note n (4 : Int32) v9 (0 : Int32) (0 : Int32) H7 q h) fun H10 => ?_
          exact xo_vret dd_T_startNext_88 rfl
      · refine xo_aload_n (pc' := 26) dd_T_startNext_25 rfl 0 rfl rfl ?_
        refine xo_iconst (pc' := 27) (v := (3 : Int32)) dd_T_startNext_26 (by decide) rfl ?_
        refine xo_putI (pc' := 30) dd_T_startNext_27 ff_T_24 rfl fun H12 => ?_
        refine xo_aload_n (pc' := 31) dd_T_startNext_30 rfl 0 rfl rfl ?_
        refine xo_getP (pc' := 34) dd_T_startNext_31 ff_T_34 (by decide) rfl fun o13 => ?_
        refine xo_iconst (pc' := 35) (v := (3 : Int32)) dd_T_startNext_34 (by decide) rfl ?_
        refine xo_aload_n (pc' := 36) dd_T_startNext_35 rfl 0 rfl rfl ?_
        refine xo_getI (pc' := 39) dd_T_startNext_36 ff_T_27 (by decide) rfl fun v14 => ?_
        refine xo_aload_n (pc' := 40) dd_T_startNext_39 rfl 0 rfl rfl ?_
        refine xo_getP (pc' := 43) dd_T_startNext_40 ff_T_30 (by decide) rfl fun o15 => ?_
        refine xo_getP (pc' := 46) dd_T_startNext_43 ff_T_111 (by decide) rfl fun o16 => ?_
        refine xo_iconst (pc' := 47) (v := (0 : Int32)) dd_T_startNext_46 (by decide) rfl ?_
        refine xo_callVi (as := [.inl (0 : Int32)]) (o := o16) (st := [.inl v14, .inl (3 : Int32), .inr o13]) (pc' := 50) dd_T_startNext_47 cv_R_at ml_T_114 rfl rfl ⟨by decide, by decide⟩ rfl rfl rfl (Nat.le_of_ble_eq_true rfl) rfl (fun n q h => kc_R_at n (0 : Int32) H12 q h) fun r17 => ?_
        refine xo_iconst (pc' := 51) (v := (0 : Int32)) dd_T_startNext_50 (by decide) rfl ?_
        refine xo_callVv (as := [.inl (3 : Int32), .inl v14, .inl r17.1, .inl (0 : Int32)]) (o := o13) (st := []) (pc' := 54) dd_T_startNext_51 cv_L_note ml_T_55 rfl rfl ⟨by decide, by decide⟩ rfl rfl rfl (Nat.le_of_ble_eq_true rfl) rfl (fun n q h => kc_L_note n (3 : Int32) v14 r17.1 (0 : Int32) r17.2 q h) fun H18 => ?_
        refine xo_goto (pc' := 88) dd_T_startNext_54 rfl ?_
        exact xo_vret dd_T_startNext_88 rfl
    · exact xo_vret dd_T_startNext_14 rfl
set_option maxRecDepth 100000 in
set_option maxHeartbeats 4000000 in
theorem kc_T_startNext (t : xo_N) (H : xo_H) (r : xo_H) (hk : fc_T_startNext t H = some r) : xo_M mt_T_startNext [.inr (some t)] H (xo_jv r) :=
  xo_entry hk (by decide +kernel) (Nat.le_of_ble_eq_true rfl) (kb_T_startNext t H r)
def fc_T_accept (t : xo_N) (x1 : Int32) (H : xo_H) : Option (Int32 × xo_H) :=
  xo_gf 7 6 H (some t) fun v1 =>
  xo_pf 7 6 H (some t) (v1 + (1 : Int32)) fun H2 =>
  xo_cl 7 (some t) (fun n29 => fc_T_hasError n29 H2) fun r3 =>
  if r3.1 = 0 then (xo_cl 7 (some t) (fun n21 => fc_T_isShutOrToBe n21 r3.2) fun r4 =>
  if r4.1 = 0 then (xo_gp 7 1 r4.2 (some t) fun o5 =>
  xo_cl 4 o5 (fun n14 => fc_C_add n14 x1 r4.2) fun H6 =>
  xo_gp 7 3 H6 (some t) fun o7 =>
  xo_gf 7 6 H6 (some t) fun v8 =>
  xo_cl 3 o7 (fun n13 => fc_R_add n13 v8 H6) fun H9 =>
  xo_cl 7 (some t) (fun n12 => fc_T_startNext n12 H9) fun H10 =>
  xo_gf 7 6 H10 (some t) fun v11 =>
  some (v11, H10))
  else (xo_gp 7 2 r4.2 (some t) fun o15 =>
  xo_gf 7 0 r4.2 (some t) fun v16 =>
  xo_gf 7 6 r4.2 (some t) fun v17 =>
  xo_cl 1 o15 (fun n20 => fc_L_note n20 (10 : Int32) v16 v17 (100 : Int32) r4.2) fun H18 =>
  xo_gf 7 6 H18 (some t) fun v19 =>
  some (v19, H18)))
  else (xo_gp 7 2 r3.2 (some t) fun o22 =>
  xo_gf 7 0 r3.2 (some t) fun v23 =>
  xo_gf 7 6 r3.2 (some t) fun v24 =>
  xo_gf 7 5 r3.2 (some t) fun v25 =>
  xo_cl 1 o22 (fun n28 => fc_L_note n28 (10 : Int32) v23 v24 v25 r3.2) fun H26 =>
  xo_gf 7 6 H26 (some t) fun v27 =>
  some (v27, H26))

set_option maxRecDepth 100000 in
set_option maxHeartbeats 4000000 in
theorem kb_T_accept (t : xo_N) (x1 : Int32) (H : xo_H) (r : Int32 × xo_H) : xo_X mt_T_accept 0 0 xo_ji r 0 [(0, .inr (some t)), (1, .inl x1)] [] H (fc_T_accept t x1 H) := by
  unfold fc_T_accept
  refine xo_aload_n (pc' := 1) dd_T_accept_0 rfl 0 rfl rfl ?_
  refine xo_dup (pc' := 2) dd_T_accept_1 rfl ?_
  refine xo_getI (pc' := 5) dd_T_accept_2 ff_T_46 (by decide) rfl fun v1 => ?_
  refine xo_iconst (pc' := 6) (v := (1 : Int32)) dd_T_accept_5 (by decide) rfl ?_
  refine xo_iadd (pc' := 7) dd_T_accept_6 rfl ?_
  refine xo_putI (pc' := 10) dd_T_accept_7 ff_T_46 rfl fun H2 => ?_
  refine xo_aload_n (pc' := 11) dd_T_accept_10 rfl 0 rfl rfl ?_
  refine xo_callVi (as := []) (o := (some t)) (st := []) (pc' := 14) dd_T_accept_11 cv_T_hasError ml_T_49 rfl rfl ⟨by decide, by decide⟩ rfl rfl rfl (Nat.le_of_ble_eq_true rfl) rfl (fun n q h => kc_T_hasError n H2 q h) fun r3 => ?_
  refine xo_if_eq (pc' := 17) (tgt := 41) dd_T_accept_14 rfl rfl ?_ ?_
  · refine xo_aload_n (pc' := 42) dd_T_accept_41 rfl 0 rfl rfl ?_
    refine xo_callVi (as := []) (o := (some t)) (st := []) (pc' := 45) dd_T_accept_42 cv_T_isShutOrToBe ml_T_42 rfl rfl ⟨by decide, by decide⟩ rfl rfl rfl (Nat.le_of_ble_eq_true rfl) rfl (fun n q h => kc_T_isShutOrToBe n r3.2 q h) fun r4 => ?_
    refine xo_if_eq (pc' := 48) (tgt := 70) dd_T_accept_45 rfl rfl ?_ ?_
    · refine xo_aload_n (pc' := 71) dd_T_accept_70 rfl 0 rfl rfl ?_
      refine xo_getP (pc' := 74) dd_T_accept_71 ff_T_30 (by decide) rfl fun o5 => ?_
      refine xo_iload_n (pc' := 75) dd_T_accept_74 rfl 1 rfl rfl ?_
      refine xo_callVv (as := [.inl x1]) (o := o5) (st := []) (pc' := 78) dd_T_accept_75 cv_C_add ml_T_61 rfl rfl ⟨by decide, by decide⟩ rfl rfl rfl (Nat.le_of_ble_eq_true rfl) rfl (fun n q h => kc_C_add n x1 r4.2 q h) fun H6 => ?_
      refine xo_aload_n (pc' := 79) dd_T_accept_78 rfl 0 rfl rfl ?_
      refine xo_getP (pc' := 82) dd_T_accept_79 ff_T_14 (by decide) rfl fun o7 => ?_
      refine xo_aload_n (pc' := 83) dd_T_accept_82 rfl 0 rfl rfl ?_
      refine xo_getI (pc' := 86) dd_T_accept_83 ff_T_46 (by decide) rfl fun v8 => ?_
      refine xo_callVv (as := [.inl v8]) (o := o7) (st := []) (pc' := 89) dd_T_accept_86 cv_R_add ml_T_66 rfl rfl ⟨by decide, by decide⟩ rfl rfl rfl (Nat.le_of_ble_eq_true rfl) rfl (fun n q h => kc_R_add n v8 H6 q h) fun H9 => ?_
      refine xo_aload_n (pc' := 90) dd_T_accept_89 rfl 0 rfl rfl ?_
      refine xo_callVv (as := []) (o := (some t)) (st := []) (pc' := 93) dd_T_accept_90 cv_T_startNext ml_T_67 rfl rfl ⟨by decide, by decide⟩ rfl rfl rfl (Nat.le_of_ble_eq_true rfl) rfl (fun n q h => kc_T_startNext n H9 q h) fun H10 => ?_
      refine xo_aload_n (pc' := 94) dd_T_accept_93 rfl 0 rfl rfl ?_
      refine xo_getI (pc' := 97) dd_T_accept_94 ff_T_46 (by decide) rfl fun v11 => ?_
      exact xo_iret dd_T_accept_97 rfl
    · refine xo_aload_n (pc' := 49) dd_T_accept_48 rfl 0 rfl rfl ?_
      refine xo_getP (pc' := 52) dd_T_accept_49 ff_T_34 (by decide) rfl fun o15 => ?_
      refine xo_bipush (pc' := 54) (v := (10 : Int32)) dd_T_accept_52 (by decide) rfl ?_
      refine xo_aload_n (pc' := 55) dd_T_accept_54 rfl 0 rfl rfl ?_
      refine xo_getI (pc' := 58) dd_T_accept_55 ff_T_27 (by decide) rfl fun v16 => ?_
      refine xo_aload_n (pc' := 59) dd_T_accept_58 rfl 0 rfl rfl ?_
      refine xo_getI (pc' := 62) dd_T_accept_59 ff_T_46 (by decide) rfl fun v17 => ?_
      refine xo_bipush (pc' := 64) (v := (100 : Int32)) dd_T_accept_62 (by decide) rfl ?_
      refine xo_callVv (as := [.inl (10 : Int32), .inl v16, .inl v17, .inl (100 : Int32)]) (o := o15) (st := []) (pc' := 67) dd_T_accept_64 cv_L_note ml_T_55 rfl rfl ⟨by decide, by decide⟩ rfl rfl rfl (Nat.le_of_ble_eq_true rfl) rfl (fun n q h => kc_L_note n (10 : Int32) v16 v17 (100 : Int32) r4.2 q h) fun H18 => ?_
      refine xo_goto (pc' := 93) dd_T_accept_67 rfl ?_
      refine xo_aload_n (pc' := 94) dd_T_accept_93 rfl 0 rfl rfl ?_
      refine xo_getI (pc' := 97) dd_T_accept_94 ff_T_46 (by decide) rfl fun v19 => ?_
      exact xo_iret dd_T_accept_97 rfl
  · refine xo_aload_n (pc' := 18) dd_T_accept_17 rfl 0 rfl rfl ?_
    refine xo_getP (pc' := 21) dd_T_accept_18 ff_T_34 (by decide) rfl fun o22 => ?_
    refine xo_bipush (pc' := 23) (v := (10 : Int32)) dd_T_accept_21 (by decide) rfl ?_
    refine xo_aload_n (pc' := 24) dd_T_accept_23 rfl 0 rfl rfl ?_
    refine xo_getI (pc' := 27) dd_T_accept_24 ff_T_27 (by decide) rfl fun v23 => ?_
    refine xo_aload_n (pc' := 28) dd_T_accept_27 rfl 0 rfl rfl ?_
    refine xo_getI (pc' := 31) dd_T_accept_28 ff_T_46 (by decide) rfl fun v24 => ?_
    refine xo_aload_n (pc' := 32) dd_T_accept_31 rfl 0 rfl rfl ?_
    refine xo_getI (pc' := 35) dd_T_accept_32 ff_T_52 (by decide) rfl fun v25 => ?_
    refine xo_callVv (as := [.inl (10 : Int32), .inl v23, .inl v24, .inl v25]) (o := o22) (st := []) (pc' := 38) dd_T_accept_35 cv_L_note ml_T_55 rfl rfl ⟨by decide, by decide⟩ rfl rfl rfl (Nat.le_of_ble_eq_true rfl) rfl (fun n q h => kc_L_note n (10 : Int32) v23 v24 v25 r3.2 q h) fun H26 => ?_
    refine xo_goto (pc' := 93) dd_T_accept_38 rfl ?_
    refine xo_aload_n (pc' := 94) dd_T_accept_93 rfl 0 rfl rfl ?_
    refine xo_getI (pc' := 97) dd_T_accept_94 ff_T_46 (by decide) rfl fun v27 => ?_
    exact xo_iret dd_T_accept_97 rfl
set_option maxRecDepth 100000 in
set_option maxHeartbeats 4000000 in
theorem kc_T_accept (t : xo_N) (x1 : Int32) (H : xo_H) (r : Int32 × xo_H) (hk : fc_T_accept t x1 H = some r) : xo_M mt_T_accept [.inr (some t), .inl x1] H (xo_ji r) :=
  xo_entry hk (by decide +kernel) (Nat.le_of_ble_eq_true rfl) (kb_T_accept t x1 H r)
def fc_T_canShutDown (t : xo_N) (H : xo_H) : Option (Int32 × xo_H) :=
  xo_gf 7 4 H (some t) fun v1 =>
  if v1 = (2 : Int32) then (xo_gb (0 : Int32) (some ((0 : Int32), H)))
  else (xo_cl 7 (some t) (fun n3 => fc_T_isShutOrToBe n3 H) fun r2 =>
  if r2.1 = 0 then (xo_gb (1 : Int32) (some ((1 : Int32), r2.2)))
  else (xo_gb (0 : Int32) (some ((0 : Int32), r2.2))))

set_option maxRecDepth 100000 in
set_option maxHeartbeats 4000000 in
theorem kb_T_canShutDown (t : xo_N) (H : xo_H) (r : Int32 × xo_H) : xo_X mt_T_canShutDown 0 0 xo_ji r 0 [(0, .inr (some t))] [] H (fc_T_canShutDown t H) := by
  unfold fc_T_canShutDown
  refine xo_aload_n (pc' := 1) dd_T_canShutDown_0 rfl 0 rfl rfl ?_
  refine xo_getI (pc' := 4) dd_T_canShutDown_1 ff_T_20 (by decide) rfl fun v1 => ?_
  refine xo_iconst (pc' := 5) (v := (2 : Int32)) dd_T_canShutDown_4 (by decide) rfl ?_
  refine xo_icmp_eq (pc' := 8) (tgt := 19) dd_T_canShutDown_5 rfl rfl ?_ ?_
  · refine xo_iconst (pc' := 20) (v := (0 : Int32)) dd_T_canShutDown_19 (by decide) rfl ?_
    exact xo_zret dd_T_canShutDown_20 rfl
  · refine xo_aload_n (pc' := 9) dd_T_canShutDown_8 rfl 0 rfl rfl ?_
    refine xo_callVi (as := []) (o := (some t)) (st := []) (pc' := 12) dd_T_canShutDown_9 cv_T_isShutOrToBe ml_T_42 rfl rfl ⟨by decide, by decide⟩ rfl rfl rfl (Nat.le_of_ble_eq_true rfl) rfl (fun n q h => kc_T_isShutOrToBe n H q h) fun r2 => ?_
    refine xo_if_ne (pc' := 15) (tgt := 19) dd_T_canShutDown_12 rfl rfl ?_ ?_
    · refine xo_iconst (pc' := 20) (v := (0 : Int32)) dd_T_canShutDown_19 (by decide) rfl ?_
      exact xo_zret dd_T_canShutDown_20 rfl
    · refine xo_iconst (pc' := 16) (v := (1 : Int32)) dd_T_canShutDown_15 (by decide) rfl ?_
      refine xo_goto (pc' := 20) dd_T_canShutDown_16 rfl ?_
      exact xo_zret dd_T_canShutDown_20 rfl
set_option maxRecDepth 100000 in
set_option maxHeartbeats 4000000 in
theorem kc_T_canShutDown (t : xo_N) (H : xo_H) (r : Int32 × xo_H) (hk : fc_T_canShutDown t H = some r) : xo_M mt_T_canShutDown [.inr (some t)] H (xo_ji r) :=
  xo_entry hk (by decide +kernel) (Nat.le_of_ble_eq_true rfl) (kb_T_canShutDown t H r)
def fc_T_startAbort (t : xo_N) (H : xo_H) : Option (xo_H) :=
  xo_pz 7 9 H (some t) (0 : Int32) fun H1 =>
  xo_gf 7 10 H1 (some t) fun v2 =>
  if v2 = 0 then (xo_pf 7 7 H1 (some t) (5 : Int32) fun H3 =>
  xo_gp 7 2 H3 (some t) fun o4 =>
  xo_gf 7 0 H3 (some t) fun v5 =>
  xo_gf 7 8 H3 (some t) fun v6 =>
  xo_cl 1 o4 (fun n8 => fc_L_note n8 (5 : Int32) v5 v6 (0 : Int32) H3) fun H7 =>
  some H7)
  else (xo_gp 7 2 H1 (some t) fun o9 =>
  xo_gf 7 0 H1 (some t) fun v10 =>
  xo_gf 7 5 H1 (some t) fun v11 =>
  xo_cl 1 o9 (fun n13 => fc_L_note n13 (14 : Int32) v10 v11 (0 : Int32) H1) fun H12 =>
  some H12)

set_option maxRecDepth 100000 in
set_option maxHeartbeats 4000000 in
theorem kb_T_startAbort (t : xo_N) (H : xo_H) (r : xo_H) : xo_X mt_T_startAbort 0 0 xo_jv r 0 [(0, .inr (some t))] [] H (fc_T_startAbort t H) := by
  unfold fc_T_startAbort
  refine xo_aload_n (pc' := 1) dd_T_startAbort_0 rfl 0 rfl rfl ?_
  refine xo_iconst (pc' := 2) (v := (0 : Int32)) dd_T_startAbort_1 (by decide) rfl ?_
  refine xo_putZ (pc' := 5) dd_T_startAbort_2 ff_T_76 rfl fun H1 => ?_
  refine xo_aload_n (pc' := 6) dd_T_startAbort_5 rfl 0 rfl rfl ?_
  refine xo_getI (pc' := 9) dd_T_startAbort_6 ff_T_82 (by decide) rfl fun v2 => ?_
  refine xo_if_eq (pc' := 12) (tgt := 33) dd_T_startAbort_9 rfl rfl ?_ ?_
  · refine xo_aload_n (pc' := 34) dd_T_startAbort_33 rfl 0 rfl rfl ?_
    refine xo_iconst (pc' := 35) (v := (5 : Int32)) dd_T_startAbort_34 (by decide) rfl ?_
    refine xo_putI (pc' := 38) dd_T_startAbort_35 ff_T_24 rfl fun H3 => ?_
    refine xo_aload_n (pc' := 39) dd_T_startAbort_38 rfl 0 rfl rfl ?_
    refine xo_getP (pc' := 42) dd_T_startAbort_39 ff_T_34 (by decide) rfl fun o4 => ?_
    refine xo_iconst (pc' := 43) (v := (5 : Int32)) dd_T_startAbort_42 (by decide) rfl ?_
    refine xo_aload_n (pc' := 44) dd_T_startAbort_43 rfl 0 rfl rfl ?_
    refine xo_getI (pc' := 47) dd_T_startAbort_44 ff_T_27 (by decide) rfl fun v5 => ?_
    refine xo_aload_n (pc' := 48) dd_T_startAbort_47 rfl 0 rfl rfl ?_
    refine xo_getI (pc' := 51) dd_T_startAbort_48 ff_T_79 (by decide) rfl fun v6 => ?_
    refine xo_iconst (pc' := 52) (v := (0 : Int32)) dd_T_startAbort_51 (by decide) rfl ?_
    refine xo_callVv (as := [.inl (5 : Int32), .inl v5, .inl v6, .inl (0 : Int32)]) (o := o4) (st := []) (pc' := 55) dd_T_startAbort_52 cv_L_note ml_T_55 rfl rfl ⟨by decide, by decide⟩ rfl rfl rfl (Nat.le_of_ble_eq_true rfl) rfl (fun n q h => kc_L_note n (5 : Int32) v5 v6 (0 : Int32) H3 q h) fun H7 => ?_
    exact xo_vret dd_T_startAbort_55 rfl
  · refine xo_aload_n (pc' := 13) dd_T_startAbort_12 rfl 0 rfl rfl ?_
    refine xo_getP (pc' := 16) dd_T_startAbort_13 ff_T_34 (by decide) rfl fun o9 => ?_
    refine xo_bipush (pc' := 18) (v := (14 : Int32)) dd_T_startAbort_16 (by decide) rfl ?_
    refine xo_aload_n (pc' := 19) dd_T_startAbort_18 rfl 0 rfl rfl ?_
    refine xo_getI (pc' := 22) dd_T_startAbort_19 ff_T_27 (by decide) rfl fun v10 => ?_
    refine xo_aload_n (pc' := 23) dd_T_startAbort_22 rfl 0 rfl rfl ?_
    refine xo_getI (pc' := 26) dd_T_startAbort_23 ff_T_52 (by decide) rfl fun v11 => ?_
    refine xo_iconst (pc' := 27) (v := (0 : Int32)) dd_T_startAbort_26 (by decide) rfl ?_
    refine xo_callVv (as := [.inl (14 : Int32), .inl v10, .inl v11, .inl (0 : Int32)]) (o := o9) (st := []) (pc' := 30) dd_T_startAbort_27 cv_L_note ml_T_55 rfl rfl ⟨by decide, by decide⟩ rfl rfl rfl (Nat.le_of_ble_eq_true rfl) rfl (fun n q h => kc_L_note n (14 : Int32) v10 v11 (0 : Int32) H1 q h) fun H12 => ?_
    refine xo_goto (pc' := 55) dd_T_startAbort_30 rfl ?_
    exact xo_vret dd_T_startAbort_55 rfl
set_option maxRecDepth 100000 in
set_option maxHeartbeats 4000000 in
theorem kc_T_startAbort (t : xo_N) (H : xo_H) (r : xo_H) (hk : fc_T_startAbort t H = some r) : xo_M mt_T_startAbort [.inr (some t)] H (xo_jv r) :=
  xo_entry hk (by decide +kernel) (Nat.le_of_ble_eq_true rfl) (kb_T_startAbort t H r)
def fc_T_loseEnd (t : xo_N) (H : xo_H) : Option (xo_H) :=
  xo_gf 7 11 H (some t) fun v1 =>
  if v1 = 0 then (some H)
  else (xo_pz 7 11 H (some t) (0 : Int32) fun H2 =>
  xo_gp 7 2 H2 (some t) fun o3 =>
  xo_gf 7 0 H2 (some t) fun v4 =>
  xo_gf 7 5 H2 (some t) fun v5 =>
  xo_cl 1 o3 (fun n7 => fc_L_note n7 (12 : Int32) v4 v5 (0 : Int32) H2) fun H6 =>
  some H6)

set_option maxRecDepth 100000 in
set_option maxHeartbeats 4000000 in
theorem kb_T_loseEnd (t : xo_N) (H : xo_H) (r : xo_H) : xo_X mt_T_loseEnd 0 0 xo_jv r 0 [(0, .inr (some t))] [] H (fc_T_loseEnd t H) := by
  unfold fc_T_loseEnd
  refine xo_aload_n (pc' := 1) dd_T_loseEnd_0 rfl 0 rfl rfl ?_
  refine xo_getI (pc' := 4) dd_T_loseEnd_1 ff_T_38 (by decide) rfl fun v1 => ?_
  refine xo_if_eq (pc' := 7) (tgt := 30) dd_T_loseEnd_4 rfl rfl ?_ ?_
  · exact xo_vret dd_T_loseEnd_30 rfl
  · refine xo_aload_n (pc' := 8) dd_T_loseEnd_7 rfl 0 rfl rfl ?_
    refine xo_iconst (pc' := 9) (v := (0 : Int32)) dd_T_loseEnd_8 (by decide) rfl ?_
    refine xo_putZ (pc' := 12) dd_T_loseEnd_9 ff_T_38 rfl fun H2 => ?_
    refine xo_aload_n (pc' := 13) dd_T_loseEnd_12 rfl 0 rfl rfl ?_
    refine xo_getP (pc' := 16) dd_T_loseEnd_13 ff_T_34 (by decide) rfl fun o3 => ?_
    refine xo_bipush (pc' := 18) (v := (12 : Int32)) dd_T_loseEnd_16 (by decide) rfl ?_
    refine xo_aload_n (pc' := 19) dd_T_loseEnd_18 rfl 0 rfl rfl ?_
    refine xo_getI (pc' := 22) dd_T_loseEnd_19 ff_T_27 (by decide) rfl fun v4 => ?_
    refine xo_aload_n (pc' := 23) dd_T_loseEnd_22 rfl 0 rfl rfl ?_
    refine xo_getI (pc' := 26) dd_T_loseEnd_23 ff_T_52 (by decide) rfl fun v5 => ?_
    refine xo_iconst (pc' := 27) (v := (0 : Int32)) dd_T_loseEnd_26 (by decide) rfl ?_
    refine xo_callVv (as := [.inl (12 : Int32), .inl v4, .inl v5, .inl (0 : Int32)]) (o := o3) (st := []) (pc' := 30) dd_T_loseEnd_27 cv_L_note ml_T_55 rfl rfl ⟨by decide, by decide⟩ rfl rfl rfl (Nat.le_of_ble_eq_true rfl) rfl (fun n q h => kc_L_note n (12 : Int32) v4 v5 (0 : Int32) H2 q h) fun H6 => ?_
    exact xo_vret dd_T_loseEnd_30 rfl
set_option maxRecDepth 100000 in
set_option maxHeartbeats 4000000 in
theorem kc_T_loseEnd (t : xo_N) (H : xo_H) (r : xo_H) (hk : fc_T_loseEnd t H = some r) : xo_M mt_T_loseEnd [.inr (some t)] H (xo_jv r) :=
  xo_entry hk (by decide +kernel) (Nat.le_of_ble_eq_true rfl) (kb_T_loseEnd t H r)
def fb_T_breakDown_74 (t : xo_N) (H : xo_H) : Option (xo_H) :=
  xo_gf 7 7 H (some t) fun v1 =>
  if v1 = (5 : Int32) then (some H)
  else (xo_cl 7 (some t) (fun n3 => fc_T_loseEnd n3 H) fun H2 =>
  some H2)

def fb_T_breakDown_7 : Nat → xo_N → Int32 → xo_H → Option (xo_H)
  | 0, _, _, _ => none
  | fu + 1, t, x1, H =>
  xo_gp 7 3 H (some t) fun o1 =>
  xo_gf 3 2 H o1 fun v2 =>
  if x1 < v2 then (xo_gp 7 2 H (some t) fun o12 =>
  xo_gf 7 0 H (some t) fun v13 =>
  xo_gp 7 3 H (some t) fun o14 =>
  xo_cl 3 o14 (fun n19 => fc_R_at n19 x1 H) fun r15 =>
  xo_gf 7 5 r15.2 (some t) fun v16 =>
  xo_cl 1 o12 (fun n18 => fc_L_note n18 (10 : Int32) v13 r15.1 v16 r15.2) fun H17 =>
  fb_T_breakDown_7 fu t (x1 + (1 : Int32)) H17)
  else (xo_gp 7 3 H (some t) fun o3 =>
  xo_cl 3 o3 (fun n11 => fc_R_clear n11 H) fun H4 =>
  xo_gp 7 1 H4 (some t) fun o5 =>
  xo_cl 4 o5 (fun n10 => fc_C_clear n10 H4) fun H6 =>
  xo_gf 7 9 H6 (some t) fun v7 =>
  if v7 = 0 then (fb_T_breakDown_74 t H6)
  else (xo_cl 7 (some t) (fun n9 => fc_T_startAbort n9 H6) fun H8 =>
  fb_T_breakDown_74 t H8))

def fc_T_breakDown (t : xo_N) (H : xo_H) : Option (xo_H) :=
  xo_pf 7 4 H (some t) (2 : Int32) fun H1 =>
  fb_T_breakDown_7 1000 t (0 : Int32) H1

set_option maxRecDepth 100000 in
set_option maxHeartbeats 4000000 in
theorem kb_T_breakDown_74 (t : xo_N) (H : xo_H) (r : xo_H) : xo_X mt_T_breakDown 0 0 xo_jv r 74 [(0, .inr (some t))] [] H (fb_T_breakDown_74 t H) := by
  unfold fb_T_breakDown_74
  refine xo_aload_n (pc' := 75) dd_T_breakDown_74 rfl 0 rfl rfl ?_
  refine xo_getI (pc' := 78) dd_T_breakDown_75 ff_T_24 (by decide) rfl fun v1 => ?_
  refine xo_iconst (pc' := 79) (v := (5 : Int32)) dd_T_breakDown_78 (by decide) rfl ?_
  refine xo_icmp_eq (pc' := 82) (tgt := 86) dd_T_breakDown_79 rfl rfl ?_ ?_
  · exact xo_vret dd_T_breakDown_86 rfl
  · refine xo_aload_n (pc' := 83) dd_T_breakDown_82 rfl 0 rfl rfl ?_
    refine xo_callVv (as := []) (o := (some t)) (st := []) (pc' := 86) dd_T_breakDown_83 cv_T_loseEnd ml_T_105 rfl rfl ⟨by decide, by decide⟩ rfl rfl rfl (Nat.le_of_ble_eq_true rfl) rfl (fun n q h => kc_T_loseEnd n H q h) fun H2 => ?_
    exact xo_vret dd_T_breakDown_86 rfl
set_option maxRecDepth 100000 in
set_option maxHeartbeats 4000000 in
theorem kb_T_breakDown_7 : ∀ (fu : Nat) (t : xo_N) (x1 : Int32) (H : xo_H) (r : xo_H), xo_X mt_T_breakDown 0 0 xo_jv r 7 [(0, .inr (some t)), (1, .inl x1)] [] H (fb_T_breakDown_7 fu t x1 H) := by
  intro fu
  induction fu with
  | zero => intros; exact xo_no
  | succ fu ih =>
    intro t x1 H r
    rw [fb_T_breakDown_7]
    refine xo_iload_n (pc' := 8) dd_T_breakDown_7 rfl 1 rfl rfl ?_
    refine xo_aload_n (pc' := 9) dd_T_breakDown_8 rfl 0 rfl rfl ?_
    refine xo_getP (pc' := 12) dd_T_breakDown_9 ff_T_14 (by decide) rfl fun o1 => ?_
    refine xo_getI (pc' := 15) dd_T_breakDown_12 ff_T_118 (by decide) rfl fun v2 => ?_
    refine xo_icmp_ge (pc' := 18) (tgt := 49) dd_T_breakDown_15 rfl rfl ?_ ?_
    · refine xo_aload_n (pc' := 50) dd_T_breakDown_49 rfl 0 rfl rfl ?_
      refine xo_getP (pc' := 53) dd_T_breakDown_50 ff_T_14 (by decide) rfl fun o3 => ?_
      refine xo_callVv (as := []) (o := o3) (st := []) (pc' := 56) dd_T_breakDown_53 cv_R_clear ml_T_120 rfl rfl ⟨by decide, by decide⟩ rfl rfl rfl (Nat.le_of_ble_eq_true rfl) rfl (fun n q h => kc_R_clear n H q h) fun H4 => ?_
      refine xo_aload_n (pc' := 57) dd_T_breakDown_56 rfl 0 rfl rfl ?_
      refine xo_getP (pc' := 60) dd_T_breakDown_57 ff_T_30 (by decide) rfl fun o5 => ?_
      refine xo_callVv (as := []) (o := o5) (st := []) (pc' := 63) dd_T_breakDown_60 cv_C_clear ml_T_123 rfl rfl ⟨by decide, by decide⟩ rfl rfl rfl (Nat.le_of_ble_eq_true rfl) rfl (fun n q h => kc_C_clear n H4 q h) fun H6 => ?_
      refine xo_aload_n (pc' := 64) dd_T_breakDown_63 rfl 0 rfl rfl ?_
      refine xo_getI (pc' := 67) dd_T_breakDown_64 ff_T_76 (by decide) rfl fun v7 => ?_
      refine xo_if_eq (pc' := 70) (tgt := 74) dd_T_breakDown_67 rfl rfl ?_ ?_
      · refine xo_sub [0] rfl ?_
        exact kb_T_breakDown_74 t H6 r
      · refine xo_aload_n (pc' := 71) dd_T_breakDown_70 rfl 0 rfl rfl ?_
        refine xo_callVv (as := []) (o := (some t)) (st := []) (pc' := 74) dd_T_breakDown_71 cv_T_startAbort ml_T_124 rfl rfl ⟨by decide, by decide⟩ rfl rfl rfl (Nat.le_of_ble_eq_true rfl) rfl (fun n q h => kc_T_startAbort n H6 q h) fun H8 => ?_
        refine xo_sub [0] rfl ?_
        exact kb_T_breakDown_74 t H8 r
    · refine xo_aload_n (pc' := 19) dd_T_breakDown_18 rfl 0 rfl rfl ?_
      refine xo_getP (pc' := 22) dd_T_breakDown_19 ff_T_34 (by decide) rfl fun o12 => ?_
      refine xo_bipush (pc' := 24) (v := (10 : Int32)) dd_T_breakDown_22 (by decide) rfl ?_
      refine xo_aload_n (pc' := 25) dd_T_breakDown_24 rfl 0 rfl rfl ?_
      refine xo_getI (pc' := 28) dd_T_breakDown_25 ff_T_27 (by decide) rfl fun v13 => ?_
      refine xo_aload_n (pc' := 29) dd_T_breakDown_28 rfl 0 rfl rfl ?_
      refine xo_getP (pc' := 32) dd_T_breakDown_29 ff_T_14 (by decide) rfl fun o14 => ?_
      refine xo_iload_n (pc' := 33) dd_T_breakDown_32 rfl 1 rfl rfl ?_
      refine xo_callVi (as := [.inl x1]) (o := o14) (st := [.inl v13, .inl (10 : Int32), .inr o12]) (pc' := 36) dd_T_breakDown_33 cv_R_at ml_T_114 rfl rfl ⟨by decide, by decide⟩ rfl rfl rfl (Nat.le_of_ble_eq_true rfl) rfl (fun n q h => kc_R_at n x1 H q h) fun r15 => ?_
      refine xo_aload_n (pc' := 37) dd_T_breakDown_36 rfl 0 rfl rfl ?_
      refine xo_getI (pc' := 40) dd_T_breakDown_37 ff_T_52 (by decide) rfl fun v16 => ?_
      refine xo_callVv (as := [.inl (10 : Int32), .inl v13, .inl r15.1, .inl v16]) (o := o12) (st := []) (pc' := 43) dd_T_breakDown_40 cv_L_note ml_T_55 rfl rfl ⟨by decide, by decide⟩ rfl rfl rfl (Nat.le_of_ble_eq_true rfl) rfl (fun n q h => kc_L_note n (10 : Int32) v13 r15.1 v16 r15.2 q h) fun H17 => ?_
      refine xo_iinc (pc' := 46) dd_T_breakDown_43 1 rfl (xo_ii (m := (1 : Int32)) (by decide)) (by decide) rfl rfl ?_
      refine xo_goto (pc' := 7) dd_T_breakDown_46 rfl ?_
      refine xo_sub [1, 0] rfl ?_
      exact ih t (x1 + (1 : Int32)) H17 r
set_option maxRecDepth 100000 in
set_option maxHeartbeats 4000000 in
theorem kb_T_breakDown (t : xo_N) (H : xo_H) (r : xo_H) : xo_X mt_T_breakDown 0 0 xo_jv r 0 [(0, .inr (some t))] [] H (fc_T_breakDown t H) := by
  unfold fc_T_breakDown
  refine xo_aload_n (pc' := 1) dd_T_breakDown_0 rfl 0 rfl rfl ?_
  refine xo_iconst (pc' := 2) (v := (2 : Int32)) dd_T_breakDown_1 (by decide) rfl ?_
  refine xo_putI (pc' := 5) dd_T_breakDown_2 ff_T_20 rfl fun H1 => ?_
  refine xo_iconst (pc' := 6) (v := (0 : Int32)) dd_T_breakDown_5 (by decide) rfl ?_
  refine xo_istore_n (pc' := 7) dd_T_breakDown_6 rfl (by decide) rfl rfl ?_
  refine xo_sub [1, 0] rfl ?_
  exact kb_T_breakDown_7 1000 t (0 : Int32) H1 r
set_option maxRecDepth 100000 in
set_option maxHeartbeats 4000000 in
theorem kc_T_breakDown (t : xo_N) (H : xo_H) (r : xo_H) (hk : fc_T_breakDown t H = some r) : xo_M mt_T_breakDown [.inr (some t)] H (xo_jv r) :=
  xo_entry hk (by decide +kernel) (Nat.le_of_ble_eq_true rfl) (kb_T_breakDown t H r)
def fb_T_goOn_22 (t : xo_N) (H : xo_H) : Option (xo_H) :=
  xo_cl 7 (some t) (fun n2 => fc_T_startNext n2 H) fun H1 =>
  some H1

def fc_T_goOn (t : xo_N) (H : xo_H) : Option (xo_H) :=
  xo_gf 7 7 H (some t) fun v1 =>
  if v1 = 0 then (xo_gf 7 4 H (some t) fun v2 =>
  if v2 = (1 : Int32) then (xo_cl 7 (some t) (fun n4 => fc_T_breakDown n4 H) fun H3 =>
  some H3)
  else (fb_T_goOn_22 t H))
  else (fb_T_goOn_22 t H)

set_option maxRecDepth 100000 in
set_option maxHeartbeats 4000000 in
theorem kb_T_goOn_22 (t : xo_N) (H : xo_H) (r : xo_H) : xo_X mt_T_goOn 0 0 xo_jv r 22 [(0, .inr (some t))] [] H (fb_T_goOn_22 t H) := by
  unfold fb_T_goOn_22
  refine xo_aload_n (pc' := 23) dd_T_goOn_22 rfl 0 rfl rfl ?_
  refine xo_callVv (as := []) (o := (some t)) (st := []) (pc' := 26) dd_T_goOn_23 cv_T_startNext ml_T_67 rfl rfl ⟨by decide, by decide⟩ rfl rfl rfl (Nat.le_of_ble_eq_true rfl) rfl (fun n q h => kc_T_startNext n H q h) fun H1 => ?_
  exact xo_vret dd_T_goOn_26 rfl
set_option maxRecDepth 100000 in
set_option maxHeartbeats 4000000 in
theorem kb_T_goOn (t : xo_N) (H : xo_H) (r : xo_H) : xo_X mt_T_goOn 0 0 xo_jv r 0 [(0, .inr (some t))] [] H (fc_T_goOn t H) := by
  unfold fc_T_goOn
  refine xo_aload_n (pc' := 1) dd_T_goOn_0 rfl 0 rfl rfl ?_
  refine xo_getI (pc' := 4) dd_T_goOn_1 ff_T_24 (by decide) rfl fun v1 => ?_
  refine xo_if_ne (pc' := 7) (tgt := 22) dd_T_goOn_4 rfl rfl ?_ ?_
  · exact kb_T_goOn_22 t H r
  · refine xo_aload_n (pc' := 8) dd_T_goOn_7 rfl 0 rfl rfl ?_
    refine xo_getI (pc' := 11) dd_T_goOn_8 ff_T_20 (by decide) rfl fun v2 => ?_
    refine xo_iconst (pc' := 12) (v := (1 : Int32)) dd_T_goOn_11 (by decide) rfl ?_
    refine xo_icmp_ne (pc' := 15) (tgt := 22) dd_T_goOn_12 rfl rfl ?_ ?_
    · exact kb_T_goOn_22 t H r
    · refine xo_aload_n (pc' := 16) dd_T_goOn_15 rfl 0 rfl rfl ?_
      refine xo_callVv (as := []) (o := (some t)) (st := []) (pc' := 19) dd_T_goOn_16 cv_T_breakDown ml_T_88 rfl rfl ⟨by decide, by decide⟩ rfl rfl rfl (Nat.le_of_ble_eq_true rfl) rfl (fun n q h => kc_T_breakDown n H q h) fun H3 => ?_
      refine xo_goto (pc' := 26) dd_T_goOn_19 rfl ?_
      exact xo_vret dd_T_goOn_26 rfl
set_option maxRecDepth 100000 in
set_option maxHeartbeats 4000000 in
theorem kc_T_goOn (t : xo_N) (H : xo_H) (r : xo_H) (hk : fc_T_goOn t H = some r) : xo_M mt_T_goOn [.inr (some t)] H (xo_jv r) :=
  xo_entry hk (by decide +kernel) (Nat.le_of_ble_eq_true rfl) (kb_T_goOn t H r)
def fc_T_shutDown (t : xo_N) (H : xo_H) : Option (xo_H) :=
  xo_cl 7 (some t) (fun n5 => fc_T_canShutDown n5 H) fun r1 =>
  if r1.1 = 0 then (some r1.2)
  else (xo_pz 7 11 r1.2 (some t) (1 : Int32) fun H2 =>
  xo_cl 7 (some t) (fun n4 => fc_T_goOn n4 H2) fun H3 =>
  some H3)

set_option maxRecDepth 100000 in
set_option maxHeartbeats 4000000 in
theorem kb_T_shutDown (t : xo_N) (H : xo_H) (r : xo_H) : xo_X mt_T_shutDown 0 0 xo_jv r 0 [(0, .inr (some t))] [] H (fc_T_shutDown t H) := by
  unfold fc_T_shutDown
  refine xo_aload_n (pc' := 1) dd_T_shutDown_0 rfl 0 rfl rfl ?_
  refine xo_callVi (as := []) (o := (some t)) (st := []) (pc' := 4) dd_T_shutDown_1 cv_T_canShutDown ml_T_70 rfl rfl ⟨by decide, by decide⟩ rfl rfl rfl (Nat.le_of_ble_eq_true rfl) rfl (fun n q h => kc_T_canShutDown n H q h) fun r1 => ?_
  refine xo_if_eq (pc' := 7) (tgt := 16) dd_T_shutDown_4 rfl rfl ?_ ?_
  · exact xo_vret dd_T_shutDown_16 rfl
  · refine xo_aload_n (pc' := 8) dd_T_shutDown_7 rfl 0 rfl rfl ?_
    refine xo_iconst (pc' := 9) (v := (1 : Int32)) dd_T_shutDown_8 (by decide) rfl ?_
    refine xo_putZ (pc' := 12) dd_T_shutDown_9 ff_T_38 rfl fun H2 => ?_
    refine xo_aload_n (pc' := 13) dd_T_shutDown_12 rfl 0 rfl rfl ?_
    refine xo_callVv (as := []) (o := (some t)) (st := []) (pc' := 16) dd_T_shutDown_13 cv_T_goOn ml_T_73 rfl rfl ⟨by decide, by decide⟩ rfl rfl rfl (Nat.le_of_ble_eq_true rfl) rfl (fun n q h => kc_T_goOn n H2 q h) fun H3 => ?_
    exact xo_vret dd_T_shutDown_16 rfl
set_option maxRecDepth 100000 in
set_option maxHeartbeats 4000000 in
theorem kc_T_shutDown (t : xo_N) (H : xo_H) (r : xo_H) (hk : fc_T_shutDown t H = some r) : xo_M mt_T_shutDown [.inr (some t)] H (xo_jv r) :=
  xo_entry hk (by decide +kernel) (Nat.le_of_ble_eq_true rfl) (kb_T_shutDown t H r)
def fc_T_startFailing (t : xo_N) (x1 : Int32) (H : xo_H) : Option (xo_H) :=
  xo_pf 7 4 H (some t) (1 : Int32) fun H1 =>
  xo_pf 7 5 H1 (some t) x1 fun H2 =>
  xo_gf 7 7 H2 (some t) fun v3 =>
  if v3 = 0 then (xo_cl 7 (some t) (fun n5 => fc_T_breakDown n5 H2) fun H4 =>
  some H4)
  else (some H2)

set_option maxRecDepth 100000 in
set_option maxHeartbeats 4000000 in
theorem kb_T_startFailing (t : xo_N) (x1 : Int32) (H : xo_H) (r : xo_H) : xo_X mt_T_startFailing 0 0 xo_jv r 0 [(0, .inr (some t)), (1, .inl x1)] [] H (fc_T_startFailing t x1 H) := by
  unfold fc_T_startFailing
  refine xo_aload_n (pc' := 1) dd_T_startFailing_0 rfl 0 rfl rfl ?_
  refine xo_iconst (pc' := 2) (v := (1 : Int32)) dd_T_startFailing_1 (by decide) rfl ?_
  refine xo_putI (pc' := 5) dd_T_startFailing_2 ff_T_20 rfl fun H1 => ?_
  refine xo_aload_n (pc' := 6) dd_T_startFailing_5 rfl 0 rfl rfl ?_
  refine xo_iload_n (pc' := 7) dd_T_startFailing_6 rfl 1 rfl rfl ?_
  refine xo_putI (pc' := 10) dd_T_startFailing_7 ff_T_52 rfl fun H2 => ?_
  refine xo_aload_n (pc' := 11) dd_T_startFailing_10 rfl 0 rfl rfl ?_
  refine xo_getI (pc' := 14) dd_T_startFailing_11 ff_T_24 (by decide) rfl fun v3 => ?_
  refine xo_if_ne (pc' := 17) (tgt := 21) dd_T_startFailing_14 rfl rfl ?_ ?_
  · exact xo_vret dd_T_startFailing_21 rfl
  · refine xo_aload_n (pc' := 18) dd_T_startFailing_17 rfl 0 rfl rfl ?_
    refine xo_callVv (as := []) (o := (some t)) (st := []) (pc' := 21) dd_T_startFailing_18 cv_T_breakDown ml_T_88 rfl rfl ⟨by decide, by decide⟩ rfl rfl rfl (Nat.le_of_ble_eq_true rfl) rfl (fun n q h => kc_T_breakDown n H2 q h) fun H4 => ?_
    exact xo_vret dd_T_startFailing_21 rfl
set_option maxRecDepth 100000 in
set_option maxHeartbeats 4000000 in
theorem kc_T_startFailing (t : xo_N) (x1 : Int32) (H : xo_H) (r : xo_H) (hk : fc_T_startFailing t x1 H = some r) : xo_M mt_T_startFailing [.inr (some t), .inl x1] H (xo_jv r) :=
  xo_entry hk (by decide +kernel) (Nat.le_of_ble_eq_true rfl) (kb_T_startFailing t x1 H r)
def fb_T_abortWith_64 (t : xo_N) (x1 : Int32) (s1 : Int32) (H : xo_H) : Option (xo_H) :=
  xo_pz 7 10 H (some t) s1 fun H1 =>
  xo_gf 7 10 H1 (some t) fun v2 =>
  if v2 = 0 then (xo_cl 7 (some t) (fun n4 => fc_T_startFailing n4 x1 H1) fun H3 =>
  some H3)
  else (some H1)

def fb_T_abortWith_16 (t : xo_N) (H : xo_H) : Option (xo_H) :=
  xo_gp 7 2 H (some t) fun o1 =>
  xo_gf 7 0 H (some t) fun v2 =>
  xo_cl 1 o1 (fun n4 => fc_L_note n4 (13 : Int32) v2 (0 : Int32) (0 : Int32) H) fun H3 =>
  some H3

def fc_T_abortWith (t : xo_N) (x1 : Int32) (H : xo_H) : Option (xo_H) :=
  xo_gf 7 4 H (some t) fun v1 =>
  if v1 = (3 : Int32) then (fb_T_abortWith_16 t H)
  else (xo_gf 7 4 H (some t) fun v2 =>
  if v2 = (2 : Int32) then (fb_T_abortWith_16 t H)
  else (xo_gf 7 9 H (some t) fun v3 =>
  if v3 = 0 then (xo_pz 7 9 H (some t) (1 : Int32) fun H4 =>
  xo_pf 7 8 H4 (some t) x1 fun H5 =>
  xo_gf 7 4 H5 (some t) fun v6 =>
  if v6 = (1 : Int32) then (fb_T_abortWith_64 t x1 (1 : Int32) H5)
  else (fb_T_abortWith_64 t x1 (0 : Int32) H5))
  else (some H)))

set_option maxRecDepth 100000 in
set_option maxHeartbeats 4000000 in
theorem kb_T_abortWith_64 (t : xo_N) (x1 : Int32) (s1 : Int32) (H : xo_H) (r : xo_H) : xo_X mt_T_abortWith 0 0 xo_jv r 64 [(0, .inr (some t)), (1, .inl x1)] [.inl s1, .inr (some t)] H (fb_T_abortWith_64 t x1 s1 H) := by
  unfold fb_T_abortWith_64
  refine xo_putZ (pc' := 67) dd_T_abortWith_64 ff_T_82 rfl fun H1 => ?_
  refine xo_aload_n (pc' := 68) dd_T_abortWith_67 rfl 0 rfl rfl ?_
  refine xo_getI (pc' := 71) dd_T_abortWith_68 ff_T_82 (by decide) rfl fun v2 => ?_
  refine xo_if_ne (pc' := 74) (tgt := 79) dd_T_abortWith_71 rfl rfl ?_ ?_
  · exact xo_vret dd_T_abortWith_79 rfl
  · refine xo_aload_n (pc' := 75) dd_T_abortWith_74 rfl 0 rfl rfl ?_
    refine xo_iload_n (pc' := 76) dd_T_abortWith_75 rfl 1 rfl rfl ?_
    refine xo_callVv (as := [.inl x1]) (o := (some t)) (st := []) (pc' := 79) dd_T_abortWith_76 cv_T_startFailing ml_T_85 rfl rfl ⟨by decide, by decide⟩ rfl rfl rfl (Nat.le_of_ble_eq_true rfl) rfl (fun n q h => kc_T_startFailing n x1 H1 q h) fun H3 => ?_
    exact xo_vret dd_T_abortWith_79 rfl
set_option maxRecDepth 100000 in
set_option maxHeartbeats 4000000 in
theorem kb_T_abortWith_16 (t : xo_N) (H : xo_H) (r : xo_H) : xo_X mt_T_abortWith 0 0 xo_jv r 16 [(0, .inr (some t))] [] H (fb_T_abortWith_16 t H) := by
  unfold fb_T_abortWith_16
  refine xo_aload_n (pc' := 17) dd_T_abortWith_16 rfl 0 rfl rfl ?_
  refine xo_getP (pc' := 20) dd_T_abortWith_17 ff_T_34 (by decide) rfl fun o1 => ?_
  refine xo_bipush (pc' := 22) (v := (13 : Int32)) dd_T_abortWith_20 (by decide) rfl ?_
  refine xo_aload_n (pc' := 23) dd_T_abortWith_22 rfl 0 rfl rfl ?_
  refine xo_getI (pc' := 26) dd_T_abortWith_23 ff_T_27 (by decide) rfl fun v2 => ?_
  refine xo_iconst (pc' := 27) (v := (0 : Int32)) dd_T_abortWith_26 (by decide) rfl ?_
  refine xo_iconst (pc' := 28) (v := (0 : Int32)) dd_T_abortWith_27 (by decide) rfl ?_
  refine xo_callVv (as := [.inl (13 : Int32), .inl v2, .inl (0 : Int32), .inl (0 : Int32)]) (o := o1) (st := []) (pc' := 31) dd_T_abortWith_28 cv_L_note ml_T_55 rfl rfl ⟨by decide, by decide⟩ rfl rfl rfl (Nat.le_of_ble_eq_true rfl) rfl (fun n q h => kc_L_note n (13 : Int32) v2 (0 : Int32) (0 : Int32) H q h) fun H3 => ?_
  exact xo_vret dd_T_abortWith_31 rfl
set_option maxRecDepth 100000 in
set_option maxHeartbeats 4000000 in
theorem kb_T_abortWith (t : xo_N) (x1 : Int32) (H : xo_H) (r : xo_H) : xo_X mt_T_abortWith 0 0 xo_jv r 0 [(0, .inr (some t)), (1, .inl x1)] [] H (fc_T_abortWith t x1 H) := by
  unfold fc_T_abortWith
  refine xo_aload_n (pc' := 1) dd_T_abortWith_0 rfl 0 rfl rfl ?_
  refine xo_getI (pc' := 4) dd_T_abortWith_1 ff_T_20 (by decide) rfl fun v1 => ?_
  refine xo_iconst (pc' := 5) (v := (3 : Int32)) dd_T_abortWith_4 (by decide) rfl ?_
  refine xo_icmp_eq (pc' := 8) (tgt := 16) dd_T_abortWith_5 rfl rfl ?_ ?_
  · refine xo_sub [0] rfl ?_
    exact kb_T_abortWith_16 t H r
  · refine xo_aload_n (pc' := 9) dd_T_abortWith_8 rfl 0 rfl rfl ?_
    refine xo_getI (pc' := 12) dd_T_abortWith_9 ff_T_20 (by decide) rfl fun v2 => ?_
    refine xo_iconst (pc' := 13) (v := (2 : Int32)) dd_T_abortWith_12 (by decide) rfl ?_
    refine xo_icmp_ne (pc' := 16) (tgt := 32) dd_T_abortWith_13 rfl rfl ?_ ?_
    · refine xo_aload_n (pc' := 33) dd_T_abortWith_32 rfl 0 rfl rfl ?_
      refine xo_getI (pc' := 36) dd_T_abortWith_33 ff_T_76 (by decide) rfl fun v3 => ?_
      refine xo_if_eq (pc' := 39) (tgt := 40) dd_T_abortWith_36 rfl rfl ?_ ?_
      · refine xo_aload_n (pc' := 41) dd_T_abortWith_40 rfl 0 rfl rfl ?_
        refine xo_iconst (pc' := 42) (v := (1 : Int32)) dd_T_abortWith_41 (by decide) rfl ?_
        refine xo_putZ (pc' := 45) dd_T_abortWith_42 ff_T_76 rfl fun H4 => ?_
        refine xo_aload_n (pc' := 46) dd_T_abortWith_45 rfl 0 rfl rfl ?_
        refine xo_iload_n (pc' := 47) dd_T_abortWith_46 rfl 1 rfl rfl ?_
        refine xo_putI (pc' := 50) dd_T_abortWith_47 ff_T_79 rfl fun H5 => ?_
        refine xo_aload_n (pc' := 51) dd_T_abortWith_50 rfl 0 rfl rfl ?_
        refine xo_aload_n (pc' := 52) dd_T_abortWith_51 rfl 0 rfl rfl ?_
        refine xo_getI (pc' := 55) dd_T_abortWith_52 ff_T_20 (by decide) rfl fun v6 => ?_
        refine xo_iconst (pc' := 56) (v := (1 : Int32)) dd_T_abortWith_55 (by decide) rfl ?_
        refine xo_icmp_ne (pc' := 59) (tgt := 63) dd_T_abortWith_56 rfl rfl ?_ ?_
        · refine xo_iconst (pc' := 64) (v := (0 : Int32)) dd_T_abortWith_63 (by decide) rfl ?_
          exact kb_T_abortWith_64 t x1 (0 : Int32) H5 r
        · refine xo_iconst (pc' := 60) (v := (1 : Int32)) dd_T_abortWith_59 (by decide) rfl ?_
          refine xo_goto (pc' := 64) dd_T_abortWith_60 rfl ?_
          exact kb_T_abortWith_64 t x1 (1 : Int32) H5 r
      · exact xo_vret dd_T_abortWith_39 rfl
    · refine xo_sub [0] rfl ?_
      exact kb_T_abortWith_16 t H r
set_option maxRecDepth 100000 in
set_option maxHeartbeats 4000000 in
theorem kc_T_abortWith (t : xo_N) (x1 : Int32) (H : xo_H) (r : xo_H) (hk : fc_T_abortWith t x1 H = some r) : xo_M mt_T_abortWith [.inr (some t), .inl x1] H (xo_jv r) :=
  xo_entry hk (by decide +kernel) (Nat.le_of_ble_eq_true rfl) (kb_T_abortWith t x1 H r)
def fb_T_failOrBreak_12 (t : xo_N) (H : xo_H) : Option (xo_H) :=
  xo_cl 7 (some t) (fun n2 => fc_T_breakDown n2 H) fun H1 =>
  some H1

def fc_T_failOrBreak (t : xo_N) (x1 : Int32) (H : xo_H) : Option (xo_H) :=
  xo_gf 7 4 H (some t) fun v1 =>
  if v1 = 0 then (xo_pf 7 5 H (some t) x1 fun H2 =>
  fb_T_failOrBreak_12 t H2)
  else (fb_T_failOrBreak_12 t H)

set_option maxRecDepth 100000 in
set_option maxHeartbeats 4000000 in
theorem kb_T_failOrBreak_12 (t : xo_N) (H : xo_H) (r : xo_H) : xo_X mt_T_failOrBreak 0 0 xo_jv r 12 [(0, .inr (some t))] [] H (fb_T_failOrBreak_12 t H) := by
  unfold fb_T_failOrBreak_12
  refine xo_aload_n (pc' := 13) dd_T_failOrBreak_12 rfl 0 rfl rfl ?_
  refine xo_callVv (as := []) (o := (some t)) (st := []) (pc' := 16) dd_T_failOrBreak_13 cv_T_breakDown ml_T_88 rfl rfl ⟨by decide, by decide⟩ rfl rfl rfl (Nat.le_of_ble_eq_true rfl) rfl (fun n q h => kc_T_breakDown n H q h) fun H1 => ?_
  exact xo_vret dd_T_failOrBreak_16 rfl
set_option maxRecDepth 100000 in
set_option maxHeartbeats 4000000 in
theorem kb_T_failOrBreak (t : xo_N) (x1 : Int32) (H : xo_H) (r : xo_H) : xo_X mt_T_failOrBreak 0 0 xo_jv r 0 [(0, .inr (some t)), (1, .inl x1)] [] H (fc_T_failOrBreak t x1 H) := by
  unfold fc_T_failOrBreak
  refine xo_aload_n (pc' := 1) dd_T_failOrBreak_0 rfl 0 rfl rfl ?_
  refine xo_getI (pc' := 4) dd_T_failOrBreak_1 ff_T_20 (by decide) rfl fun v1 => ?_
  refine xo_if_ne (pc' := 7) (tgt := 12) dd_T_failOrBreak_4 rfl rfl ?_ ?_
  · refine xo_sub [0] rfl ?_
    exact kb_T_failOrBreak_12 t H r
  · refine xo_aload_n (pc' := 8) dd_T_failOrBreak_7 rfl 0 rfl rfl ?_
    refine xo_iload_n (pc' := 9) dd_T_failOrBreak_8 rfl 1 rfl rfl ?_
    refine xo_putI (pc' := 12) dd_T_failOrBreak_9 ff_T_52 rfl fun H2 => ?_
    refine xo_sub [0] rfl ?_
    exact kb_T_failOrBreak_12 t H2 r
set_option maxRecDepth 100000 in
set_option maxHeartbeats 4000000 in
theorem kc_T_failOrBreak (t : xo_N) (x1 : Int32) (H : xo_H) (r : xo_H) (hk : fc_T_failOrBreak t x1 H = some r) : xo_M mt_T_failOrBreak [.inr (some t), .inl x1] H (xo_jv r) :=
  xo_entry hk (by decide +kernel) (Nat.le_of_ble_eq_true rfl) (kb_T_failOrBreak t x1 H r)
def fc_T_written (t : xo_N) (x1 : Int32) (H : xo_H) : Option (xo_H) :=
  xo_gp 7 1 H (some t) fun o1 =>
  xo_cl 4 o1 (fun n18 => fc_C_takeFirst n18 H) fun r2 =>
  xo_gp 7 3 r2.2 (some t) fun o3 =>
  xo_cl 3 o3 (fun n17 => fc_R_takeFirst n17 r2.2) fun r4 =>
  if x1 = (-1 : Int32) then (xo_gp 7 2 r4.2 (some t) fun o11 =>
  xo_gf 7 0 r4.2 (some t) fun v12 =>
  xo_cl 1 o11 (fun n16 => fc_L_note n16 (9 : Int32) v12 r4.1 (0 : Int32) r4.2) fun H13 =>
  xo_cl 7 (some t) (fun n15 => fc_T_goOn n15 H13) fun H14 =>
  some H14)
  else (xo_gp 7 2 r4.2 (some t) fun o5 =>
  xo_gf 7 0 r4.2 (some t) fun v6 =>
  xo_cl 1 o5 (fun n10 => fc_L_note n10 (10 : Int32) v6 r4.1 x1 r4.2) fun H7 =>
  xo_cl 7 (some t) (fun n9 => fc_T_failOrBreak n9 x1 H7) fun H8 =>
  some H8)

set_option maxRecDepth 100000 in
set_option maxHeartbeats 4000000 in
theorem kb_T_written (t : xo_N) (x1 : Int32) (H : xo_H) (r : xo_H) : xo_X mt_T_written 0 0 xo_jv r 0 [(0, .inr (some t)), (1, .inl x1)] [] H (fc_T_written t x1 H) := by
  unfold fc_T_written
  refine xo_aload_n (pc' := 1) dd_T_written_0 rfl 0 rfl rfl ?_
  refine xo_getP (pc' := 4) dd_T_written_1 ff_T_30 (by decide) rfl fun o1 => ?_
  refine xo_callVi (as := []) (o := o1) (st := []) (pc' := 7) dd_T_written_4 cv_C_takeFirst ml_T_91 rfl rfl ⟨by decide, by decide⟩ rfl rfl rfl (Nat.le_of_ble_eq_true rfl) rfl (fun n q h => kc_C_takeFirst n H q h) fun r2 => ?_
  refine xo_pop (pc' := 8) dd_T_written_7 rfl ?_
  refine xo_aload_n (pc' := 9) dd_T_written_8 rfl 0 rfl rfl ?_
  refine xo_getP (pc' := 12) dd_T_written_9 ff_T_14 (by decide) rfl fun o3 => ?_
  refine xo_callVi (as := []) (o := o3) (st := []) (pc' := 15) dd_T_written_12 cv_R_takeFirst ml_T_95 rfl rfl ⟨by decide, by decide⟩ rfl rfl rfl (Nat.le_of_ble_eq_true rfl) rfl (fun n q h => kc_R_takeFirst n r2.2 q h) fun r4 => ?_
  refine xo_istore_n (pc' := 16) dd_T_written_15 rfl (by decide) rfl rfl ?_
  refine xo_iload_n (pc' := 17) dd_T_written_16 rfl 2 rfl rfl ?_
  refine xo_iconst (pc' := 18) (v := (-1 : Int32)) dd_T_written_17 (by decide) rfl ?_
  refine xo_icmp_ne (pc' := 21) (tgt := 43) dd_T_written_18 rfl rfl ?_ ?_
  · refine xo_aload_n (pc' := 44) dd_T_written_43 rfl 1 rfl rfl ?_
    refine xo_getP (pc' := 47) dd_T_written_44 ff_T_34 (by decide) rfl fun o5 => ?_
    refine xo_bipush (pc' := 49) (v := (10 : Int32)) dd_T_written_47 (by decide) rfl ?_
    refine xo_aload_n (pc' := 50) dd_T_written_49 rfl 1 rfl rfl ?_
    refine xo_getI (pc' := 53) dd_T_written_50 ff_T_27 (by decide) rfl fun v6 => ?_
    refine xo_iload_n (pc' := 54) dd_T_written_53 rfl 0 rfl rfl ?_
    refine xo_iload_n (pc' := 55) dd_T_written_54 rfl 2 rfl rfl ?_
    refine xo_callVv (as := [.inl (10 : Int32), .inl v6, .inl r4.1, .inl x1]) (o := o5) (st := []) (pc' := 58) dd_T_written_55 cv_L_note ml_T_55 rfl rfl ⟨by decide, by decide⟩ rfl rfl rfl (Nat.le_of_ble_eq_true rfl) rfl (fun n q h => kc_L_note n (10 : Int32) v6 r4.1 x1 r4.2 q h) fun H7 => ?_
    refine xo_aload_n (pc' := 59) dd_T_written_58 rfl 1 rfl rfl ?_
    refine xo_iload_n (pc' := 60) dd_T_written_59 rfl 2 rfl rfl ?_
    refine xo_callVv (as := [.inl x1]) (o := (some t)) (st := []) (pc' := 63) dd_T_written_60 cv_T_failOrBreak ml_T_96 rfl rfl ⟨by decide, by decide⟩ rfl rfl rfl (Nat.le_of_ble_eq_true rfl) rfl (fun n q h => kc_T_failOrBreak n x1 H7 q h) fun H8 => ?_
    exact xo_vret dd_T_written_63 rfl
  · refine xo_aload_n (pc' := 22) dd_T_written_21 rfl 1 rfl rfl ?_
    refine xo_getP (pc' := 25) dd_T_written_22 ff_T_34 (by decide) rfl fun o11 => ?_
    refine xo_bipush (pc' := 27) (v := (9 : Int32)) dd_T_written_25 (by decide) rfl ?_
    refine xo_aload_n (pc' := 28) dd_T_written_27 rfl 1 rfl rfl ?_
    refine xo_getI (pc' := 31) dd_T_written_28 ff_T_27 (by decide) rfl fun v12 => ?_
    refine xo_iload_n (pc' := 32) dd_T_written_31 rfl 0 rfl rfl ?_
    refine xo_iconst (pc' := 33) (v := (0 : Int32)) dd_T_written_32 (by decide) rfl ?_
    refine xo_callVv (as := [.inl (9 : Int32), .inl v12, .inl r4.1, .inl (0 : Int32)]) (o := o11) (st := []) (pc' := 36) dd_T_written_33 cv_L_note ml_T_55 rfl rfl ⟨by decide, by decide⟩ rfl rfl rfl (Nat.le_of_ble_eq_true rfl) rfl (fun n q h => kc_L_note n (9 : Int32) v12 r4.1 (0 : Int32) r4.2 q h) fun H13 => ?_
    refine xo_aload_n (pc' := 37) dd_T_written_36 rfl 1 rfl rfl ?_
    refine xo_callVv (as := []) (o := (some t)) (st := []) (pc' := 40) dd_T_written_37 cv_T_goOn ml_T_73 rfl rfl ⟨by decide, by decide⟩ rfl rfl rfl (Nat.le_of_ble_eq_true rfl) rfl (fun n q h => kc_T_goOn n H13 q h) fun H14 => ?_
    refine xo_goto (pc' := 63) dd_T_written_40 rfl ?_
    exact xo_vret dd_T_written_63 rfl
set_option maxRecDepth 100000 in
set_option maxHeartbeats 4000000 in
theorem kc_T_written (t : xo_N) (x1 : Int32) (H : xo_H) (r : xo_H) (hk : fc_T_written t x1 H = some r) : xo_M mt_T_written [.inr (some t), .inl x1] H (xo_jv r) :=
  xo_entry hk (by decide +kernel) (Nat.le_of_ble_eq_true rfl) (kb_T_written t x1 H r)
def fc_T_noteAborted (t : xo_N) (x1 : Int32) (H : xo_H) : Option (xo_H) :=
  if x1 = (-1 : Int32) then (xo_gp 7 2 H (some t) fun o5 =>
  xo_gf 7 0 H (some t) fun v6 =>
  xo_cl 1 o5 (fun n8 => fc_L_note n8 (13 : Int32) v6 (0 : Int32) (0 : Int32) H) fun H7 =>
  some H7)
  else (xo_gp 7 2 H (some t) fun o1 =>
  xo_gf 7 0 H (some t) fun v2 =>
  xo_cl 1 o1 (fun n4 => fc_L_note n4 (14 : Int32) v2 x1 (0 : Int32) H) fun H3 =>
  some H3)

set_option maxRecDepth 100000 in
set_option maxHeartbeats 4000000 in
theorem kb_T_noteAborted (t : xo_N) (x1 : Int32) (H : xo_H) (r : xo_H) : xo_X mt_T_noteAborted 0 0 xo_jv r 0 [(0, .inr (some t)), (1, .inl x1)] [] H (fc_T_noteAborted t x1 H) := by
  unfold fc_T_noteAborted
  refine xo_iload_n (pc' := 1) dd_T_noteAborted_0 rfl 1 rfl rfl ?_
  refine xo_iconst (pc' := 2) (v := (-1 : Int32)) dd_T_noteAborted_1 (by decide) rfl ?_
  refine xo_icmp_ne (pc' := 5) (tgt := 23) dd_T_noteAborted_2 rfl rfl ?_ ?_
  · refine xo_aload_n (pc' := 24) dd_T_noteAborted_23 rfl 0 rfl rfl ?_
    refine xo_getP (pc' := 27) dd_T_noteAborted_24 ff_T_34 (by decide) rfl fun o1 => ?_
    refine xo_bipush (pc' := 29) (v := (14 : Int32)) dd_T_noteAborted_27 (by decide) rfl ?_
    refine xo_aload_n (pc' := 30) dd_T_noteAborted_29 rfl 0 rfl rfl ?_
    refine xo_getI (pc' := 33) dd_T_noteAborted_30 ff_T_27 (by decide) rfl fun v2 => ?_
    refine xo_iload_n (pc' := 34) dd_T_noteAborted_33 rfl 1 rfl rfl ?_
    refine xo_iconst (pc' := 35) (v := (0 : Int32)) dd_T_noteAborted_34 (by decide) rfl ?_
    refine xo_callVv (as := [.inl (14 : Int32), .inl v2, .inl x1, .inl (0 : Int32)]) (o := o1) (st := []) (pc' := 38) dd_T_noteAborted_35 cv_L_note ml_T_55 rfl rfl ⟨by decide, by decide⟩ rfl rfl rfl (Nat.le_of_ble_eq_true rfl) rfl (fun n q h => kc_L_note n (14 : Int32) v2 x1 (0 : Int32) H q h) fun H3 => ?_
    exact xo_vret dd_T_noteAborted_38 rfl
  · refine xo_aload_n (pc' := 6) dd_T_noteAborted_5 rfl 0 rfl rfl ?_
    refine xo_getP (pc' := 9) dd_T_noteAborted_6 ff_T_34 (by decide) rfl fun o5 => ?_
    refine xo_bipush (pc' := 11) (v := (13 : Int32)) dd_T_noteAborted_9 (by decide) rfl ?_
    refine xo_aload_n (pc' := 12) dd_T_noteAborted_11 rfl 0 rfl rfl ?_
    refine xo_getI (pc' := 15) dd_T_noteAborted_12 ff_T_27 (by decide) rfl fun v6 => ?_
    refine xo_iconst (pc' := 16) (v := (0 : Int32)) dd_T_noteAborted_15 (by decide) rfl ?_
    refine xo_iconst (pc' := 17) (v := (0 : Int32)) dd_T_noteAborted_16 (by decide) rfl ?_
    refine xo_callVv (as := [.inl (13 : Int32), .inl v6, .inl (0 : Int32), .inl (0 : Int32)]) (o := o5) (st := []) (pc' := 20) dd_T_noteAborted_17 cv_L_note ml_T_55 rfl rfl ⟨by decide, by decide⟩ rfl rfl rfl (Nat.le_of_ble_eq_true rfl) rfl (fun n q h => kc_L_note n (13 : Int32) v6 (0 : Int32) (0 : Int32) H q h) fun H7 => ?_
    refine xo_goto (pc' := 38) dd_T_noteAborted_20 rfl ?_
    exact xo_vret dd_T_noteAborted_38 rfl
set_option maxRecDepth 100000 in
set_option maxHeartbeats 4000000 in
theorem kc_T_noteAborted (t : xo_N) (x1 : Int32) (H : xo_H) (r : xo_H) (hk : fc_T_noteAborted t x1 H = some r) : xo_M mt_T_noteAborted [.inr (some t), .inl x1] H (xo_jv r) :=
  xo_entry hk (by decide +kernel) (Nat.le_of_ble_eq_true rfl) (kb_T_noteAborted t x1 H r)
def fc_T_endAbort (t : xo_N) (x1 : Int32) (H : xo_H) : Option (xo_H) :=
  xo_gf 7 9 H (some t) fun v1 =>
  if v1 = 0 then (some H)
  else (xo_pz 7 9 H (some t) (0 : Int32) fun H2 =>
  xo_cl 7 (some t) (fun n4 => fc_T_noteAborted n4 x1 H2) fun H3 =>
  some H3)

set_option maxRecDepth 100000 in
set_option maxHeartbeats 4000000 in
theorem kb_T_endAbort (t : xo_N) (x1 : Int32) (H : xo_H) (r : xo_H) : xo_X mt_T_endAbort 0 0 xo_jv r 0 [(0, .inr (some t)), (1, .inl x1)] [] H (fc_T_endAbort t x1 H) := by
  unfold fc_T_endAbort
  refine xo_aload_n (pc' := 1) dd_T_endAbort_0 rfl 0 rfl rfl ?_
  refine xo_getI (pc' := 4) dd_T_endAbort_1 ff_T_76 (by decide) rfl fun v1 => ?_
  refine xo_if_eq (pc' := 7) (tgt := 17) dd_T_endAbort_4 rfl rfl ?_ ?_
  · exact xo_vret dd_T_endAbort_17 rfl
  · refine xo_aload_n (pc' := 8) dd_T_endAbort_7 rfl 0 rfl rfl ?_
    refine xo_iconst (pc' := 9) (v := (0 : Int32)) dd_T_endAbort_8 (by decide) rfl ?_
    refine xo_putZ (pc' := 12) dd_T_endAbort_9 ff_T_76 rfl fun H2 => ?_
    refine xo_aload_n (pc' := 13) dd_T_endAbort_12 rfl 0 rfl rfl ?_
    refine xo_iload_n (pc' := 14) dd_T_endAbort_13 rfl 1 rfl rfl ?_
    refine xo_callVv (as := [.inl x1]) (o := (some t)) (st := []) (pc' := 17) dd_T_endAbort_14 cv_T_noteAborted ml_T_102 rfl rfl ⟨by decide, by decide⟩ rfl rfl rfl (Nat.le_of_ble_eq_true rfl) rfl (fun n q h => kc_T_noteAborted n x1 H2 q h) fun H3 => ?_
    exact xo_vret dd_T_endAbort_17 rfl
set_option maxRecDepth 100000 in
set_option maxHeartbeats 4000000 in
theorem kc_T_endAbort (t : xo_N) (x1 : Int32) (H : xo_H) (r : xo_H) (hk : fc_T_endAbort t x1 H = some r) : xo_M mt_T_endAbort [.inr (some t), .inl x1] H (xo_jv r) :=
  xo_entry hk (by decide +kernel) (Nat.le_of_ble_eq_true rfl) (kb_T_endAbort t x1 H r)
def fc_T_wasShut (t : xo_N) (x1 : Int32) (H : xo_H) : Option (xo_H) :=
  if x1 = (-1 : Int32) then (xo_gp 7 2 H (some t) fun o9 =>
  xo_gf 7 0 H (some t) fun v10 =>
  xo_cl 1 o9 (fun n15 => fc_L_note n15 (11 : Int32) v10 (0 : Int32) (0 : Int32) H) fun H11 =>
  xo_cl 7 (some t) (fun n14 => fc_T_endAbort n14 x1 H11) fun H12 =>
  xo_pf 7 4 H12 (some t) (3 : Int32) fun H13 =>
  some H13)
  else (xo_gp 7 2 H (some t) fun o1 =>
  xo_gf 7 0 H (some t) fun v2 =>
  xo_cl 1 o1 (fun n8 => fc_L_note n8 (12 : Int32) v2 x1 (0 : Int32) H) fun H3 =>
  xo_cl 7 (some t) (fun n7 => fc_T_endAbort n7 x1 H3) fun H4 =>
  xo_cl 7 (some t) (fun n6 => fc_T_failOrBreak n6 x1 H4) fun H5 =>
  some H5)

set_option maxRecDepth 100000 in
set_option maxHeartbeats 4000000 in
theorem kb_T_wasShut (t : xo_N) (x1 : Int32) (H : xo_H) (r : xo_H) : xo_X mt_T_wasShut 0 0 xo_jv r 0 [(0, .inr (some t)), (1, .inl x1)] [] H (fc_T_wasShut t x1 H) := by
  unfold fc_T_wasShut
  refine xo_iload_n (pc' := 1) dd_T_wasShut_0 rfl 1 rfl rfl ?_
  refine xo_iconst (pc' := 2) (v := (-1 : Int32)) dd_T_wasShut_1 (by decide) rfl ?_
  refine xo_icmp_ne (pc' := 5) (tgt := 33) dd_T_wasShut_2 rfl rfl ?_ ?_
  · refine xo_aload_n (pc' := 34) dd_T_wasShut_33 rfl 0 rfl rfl ?_
    refine xo_getP (pc' := 37) dd_T_wasShut_34 ff_T_34 (by decide) rfl fun o1 => ?_
    refine xo_bipush (pc' := 39) (v := (12 : Int32)) dd_T_wasShut_37 (by decide) rfl ?_
    refine xo_aload_n (pc' := 40) dd_T_wasShut_39 rfl 0 rfl rfl ?_
    refine xo_getI (pc' := 43) dd_T_wasShut_40 ff_T_27 (by decide) rfl fun v2 => ?_
    refine xo_iload_n (pc' := 44) dd_T_wasShut_43 rfl 1 rfl rfl ?_
    refine xo_iconst (pc' := 45) (v := (0 : Int32)) dd_T_wasShut_44 (by decide) rfl ?_
    refine xo_callVv (as := [.inl (12 : Int32), .inl v2, .inl x1, .inl (0 : Int32)]) (o := o1) (st := []) (pc' := 48) dd_T_wasShut_45 cv_L_note ml_T_55 rfl rfl ⟨by decide, by decide⟩ rfl rfl rfl (Nat.le_of_ble_eq_true rfl) rfl (fun n q h => kc_L_note n (12 : Int32) v2 x1 (0 : Int32) H q h) fun H3 => ?_
    refine xo_aload_n (pc' := 49) dd_T_wasShut_48 rfl 0 rfl rfl ?_
    refine xo_iload_n (pc' := 50) dd_T_wasShut_49 rfl 1 rfl rfl ?_
    refine xo_callVv (as := [.inl x1]) (o := (some t)) (st := []) (pc' := 53) dd_T_wasShut_50 cv_T_endAbort ml_T_99 rfl rfl ⟨by decide, by decide⟩ rfl rfl rfl (Nat.le_of_ble_eq_true rfl) rfl (fun n q h => kc_T_endAbort n x1 H3 q h) fun H4 => ?_
    refine xo_aload_n (pc' := 54) dd_T_wasShut_53 rfl 0 rfl rfl ?_
    refine xo_iload_n (pc' := 55) dd_T_wasShut_54 rfl 1 rfl rfl ?_
    refine xo_callVv (as := [.inl x1]) (o := (some t)) (st := []) (pc' := 58) dd_T_wasShut_55 cv_T_failOrBreak ml_T_96 rfl rfl ⟨by decide, by decide⟩ rfl rfl rfl (Nat.le_of_ble_eq_true rfl) rfl (fun n q h => kc_T_failOrBreak n x1 H4 q h) fun H5 => ?_
    exact xo_vret dd_T_wasShut_58 rfl
  · refine xo_aload_n (pc' := 6) dd_T_wasShut_5 rfl 0 rfl rfl ?_
    refine xo_getP (pc' := 9) dd_T_wasShut_6 ff_T_34 (by decide) rfl fun o9 => ?_
    refine xo_bipush (pc' := 11) (v := (11 : Int32)) dd_T_wasShut_9 (by decide) rfl ?_
    refine xo_aload_n (pc' := 12) dd_T_wasShut_11 rfl 0 rfl rfl ?_
    refine xo_getI (pc' := 15) dd_T_wasShut_12 ff_T_27 (by decide) rfl fun v10 => ?_
    refine xo_iconst (pc' := 16) (v := (0 : Int32)) dd_T_wasShut_15 (by decide) rfl ?_
    refine xo_iconst (pc' := 17) (v := (0 : Int32)) dd_T_wasShut_16 (by decide) rfl ?_
    refine xo_callVv (as := [.inl (11 : Int32), .inl v10, .inl (0 : Int32), .inl (0 : Int32)]) (o := o9) (st := []) (pc' := 20) dd_T_wasShut_17 cv_L_note ml_T_55 rfl rfl ⟨by decide, by decide⟩ rfl rfl rfl (Nat.le_of_ble_eq_true rfl) rfl (fun n q h => kc_L_note n (11 : Int32) v10 (0 : Int32) (0 : Int32) H q h) fun H11 => ?_
    refine xo_aload_n (pc' := 21) dd_T_wasShut_20 rfl 0 rfl rfl ?_
    refine xo_iload_n (pc' := 22) dd_T_wasShut_21 rfl 1 rfl rfl ?_
    refine xo_callVv (as := [.inl x1]) (o := (some t)) (st := []) (pc' := 25) dd_T_wasShut_22 cv_T_endAbort ml_T_99 rfl rfl ⟨by decide, by decide⟩ rfl rfl rfl (Nat.le_of_ble_eq_true rfl) rfl (fun n q h => kc_T_endAbort n x1 H11 q h) fun H12 => ?_
    refine xo_aload_n (pc' := 26) dd_T_wasShut_25 rfl 0 rfl rfl ?_
    refine xo_iconst (pc' := 27) (v := (3 : Int32)) dd_T_wasShut_26 (by decide) rfl ?_
    refine xo_putI (pc' := 30) dd_T_wasShut_27 ff_T_20 rfl fun H13 => ?_
    refine xo_goto (pc' := 58) dd_T_wasShut_30 rfl ?_
    exact xo_vret dd_T_wasShut_58 rfl
set_option maxRecDepth 100000 in
set_option maxHeartbeats 4000000 in
theorem kc_T_wasShut (t : xo_N) (x1 : Int32) (H : xo_H) (r : xo_H) (hk : fc_T_wasShut t x1 H = some r) : xo_M mt_T_wasShut [.inr (some t), .inl x1] H (xo_jv r) :=
  xo_entry hk (by decide +kernel) (Nat.le_of_ble_eq_true rfl) (kb_T_wasShut t x1 H r)
def fc_T_wasAborted (t : xo_N) (x1 : Int32) (H : xo_H) : Option (xo_H) :=
  xo_cl 7 (some t) (fun n4 => fc_T_noteAborted n4 x1 H) fun H1 =>
  xo_cl 7 (some t) (fun n3 => fc_T_loseEnd n3 H1) fun H2 =>
  some H2

set_option maxRecDepth 100000 in
set_option maxHeartbeats 4000000 in
theorem kb_T_wasAborted (t : xo_N) (x1 : Int32) (H : xo_H) (r : xo_H) : xo_X mt_T_wasAborted 0 0 xo_jv r 0 [(0, .inr (some t)), (1, .inl x1)] [] H (fc_T_wasAborted t x1 H) := by
  unfold fc_T_wasAborted
  refine xo_aload_n (pc' := 1) dd_T_wasAborted_0 rfl 0 rfl rfl ?_
  refine xo_iload_n (pc' := 2) dd_T_wasAborted_1 rfl 1 rfl rfl ?_
  refine xo_callVv (as := [.inl x1]) (o := (some t)) (st := []) (pc' := 5) dd_T_wasAborted_2 cv_T_noteAborted ml_T_102 rfl rfl ⟨by decide, by decide⟩ rfl rfl rfl (Nat.le_of_ble_eq_true rfl) rfl (fun n q h => kc_T_noteAborted n x1 H q h) fun H1 => ?_
  refine xo_aload_n (pc' := 6) dd_T_wasAborted_5 rfl 0 rfl rfl ?_
  refine xo_callVv (as := []) (o := (some t)) (st := []) (pc' := 9) dd_T_wasAborted_6 cv_T_loseEnd ml_T_105 rfl rfl ⟨by decide, by decide⟩ rfl rfl rfl (Nat.le_of_ble_eq_true rfl) rfl (fun n q h => kc_T_loseEnd n H1 q h) fun H2 => ?_
  exact xo_vret dd_T_wasAborted_9 rfl
set_option maxRecDepth 100000 in
set_option maxHeartbeats 4000000 in
theorem kc_T_wasAborted (t : xo_N) (x1 : Int32) (H : xo_H) (r : xo_H) (hk : fc_T_wasAborted t x1 H = some r) : xo_M mt_T_wasAborted [.inr (some t), .inl x1] H (xo_jv r) :=
  xo_entry hk (by decide +kernel) (Nat.le_of_ble_eq_true rfl) (kb_T_wasAborted t x1 H r)
