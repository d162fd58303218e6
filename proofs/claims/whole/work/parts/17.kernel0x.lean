def fc_K_init (t : xo_N) (H : xo_H) : Option (xo_H) :=
  xo_nw 1 H (1, 0) fun H1 =>
  (fc_L_init (1, 0) H1).bind fun H3 =>
  xo_pp 0 0 H3 (some t) (some (1, 0)) fun H4 =>
  xo_nw 2 H4 (5, 0) fun H5 =>
  (fc_J_init (5, 0) H5).bind fun H7 =>
  xo_pp 0 1 H7 (some t) (some (5, 0)) fun H8 =>
  xo_na 2 H8 (12, 0) 6 (6 : Int32) fun H9 =>
  xo_pp 0 2 H9 (some t) (some (12, 0)) fun H11 =>
  xo_na 3 H11 (13, 0) 2 (2 : Int32) fun H12 =>
  xo_pp 0 3 H12 (some t) (some (13, 0)) fun H14 =>
  xo_na 4 H14 (14, 0) 2 (2 : Int32) fun H15 =>
  xo_pp 0 4 H15 (some t) (some (14, 0)) fun H17 =>
  some H17

set_option maxRecDepth 100000 in
set_option maxHeartbeats 4000000 in
theorem kb_K_init (t : xo_N) (H : xo_H) (r : xo_H) : xo_X mt_K_init 14 266 xo_jv r 0 [(0, .inr (some t))] [] H (fc_K_init t H) := by
  unfold fc_K_init
  refine xo_aload_n (pc' := 1) dd_K_init_0 rfl 0 rfl rfl ?_
  refine xo_oinit (pc' := 4) dd_K_init_1 wo_K_3 wo_inst wo_code (by decide) (Nat.le_of_ble_eq_true rfl) rfl ?_
  refine xo_aload_n (pc' := 5) dd_K_init_4 rfl 0 rfl rfl ?_
  refine xo_new (pc' := 8) dd_K_init_5 co_K_9 rfl rfl rfl fun H1 => ?_
  refine xo_dup (pc' := 9) dd_K_init_8 rfl ?_
  refine xo_callIv (as := []) (n := (1, 0)) (st := [.inr (some (1, 0)), .inr (some t)]) (pc' := 12) dd_K_init_9 cv_L_init ml_K_11 rfl ⟨by decide, by decide⟩ rfl rfl rfl (Nat.le_of_ble_eq_true rfl) rfl (fun q h => kc_L_init (1, 0) H1 q h) fun H3 => ?_
  refine xo_putPF (pc' := 15) dd_K_init_12 fF_K_12 rfl (by decide) (by decide +kernel : parseFieldDescriptor "LFlowKernel$EventLog;" = some (.object "FlowKernel$EventLog")) (Or.inl ⟨_, rfl⟩) rfl fun H4 => ?_
  refine xo_aload_n (pc' := 16) dd_K_init_15 rfl 0 rfl rfl ?_
  refine xo_new (pc' := 19) dd_K_init_16 co_K_16 rfl rfl rfl fun H5 => ?_
  refine xo_dup (pc' := 20) dd_K_init_19 rfl ?_
  refine xo_callIv (as := []) (n := (5, 0)) (st := [.inr (some (5, 0)), .inr (some t)]) (pc' := 23) dd_K_init_20 cv_J_init ml_K_18 rfl ⟨by decide, by decide⟩ rfl rfl rfl (Nat.le_of_ble_eq_true rfl) rfl (fun q h => kc_J_init (5, 0) H5 q h) fun H7 => ?_
  refine xo_putPF (pc' := 26) dd_K_init_23 fF_K_19 rfl (by decide) (by decide +kernel : parseFieldDescriptor "LFlowKernel$JobRow;" = some (.object "FlowKernel$JobRow")) (Or.inl ⟨_, rfl⟩) rfl fun H8 => ?_
  refine xo_aload_n (pc' := 27) dd_K_init_26 rfl 0 rfl rfl ?_
  refine xo_bipush (pc' := 29) (v := (6 : Int32)) dd_K_init_27 (by decide) rfl ?_
  refine xo_anew (pc' := 32) dd_K_init_29 (by decide) wl_K_23 (by decide) rfl rfl rfl fun H9 => ?_
  refine xo_putPF (pc' := 35) dd_K_init_32 fF_K_25 rfl (by decide) (by decide +kernel : parseFieldDescriptor "[LFlowKernel$Giver;" = some (.array (.object "FlowKernel$Giver"))) (Or.inr ⟨_, rfl⟩) rfl fun H11 => ?_
  refine xo_aload_n (pc' := 36) dd_K_init_35 rfl 0 rfl rfl ?_
  refine xo_iconst (pc' := 37) (v := (2 : Int32)) dd_K_init_36 (by decide) rfl ?_
  refine xo_anew (pc' := 40) dd_K_init_37 (by decide) wl_K_29 (by decide) rfl rfl rfl fun H12 => ?_
  refine xo_putPF (pc' := 43) dd_K_init_40 fF_K_31 rfl (by decide) (by decide +kernel : parseFieldDescriptor "[LFlowKernel$Taker;" = some (.array (.object "FlowKernel$Taker"))) (Or.inr ⟨_, rfl⟩) rfl fun H14 => ?_
  refine xo_aload_n (pc' := 44) dd_K_init_43 rfl 0 rfl rfl ?_
  refine xo_iconst (pc' := 45) (v := (2 : Int32)) dd_K_init_44 (by decide) rfl ?_
  refine xo_anew (pc' := 48) dd_K_init_45 (by decide) wl_K_35 (by decide) rfl rfl rfl fun H15 => ?_
  refine xo_putPF (pc' := 51) dd_K_init_48 fF_K_37 rfl (by decide) (by decide +kernel : parseFieldDescriptor "[LFlowKernel$Pipe;" = some (.array (.object "FlowKernel$Pipe"))) (Or.inr ⟨_, rfl⟩) rfl fun H17 => ?_
  exact xo_vret dd_K_init_51 rfl
set_option maxRecDepth 100000 in
set_option maxHeartbeats 4000000 in
theorem kc_K_init (t : xo_N) (H : xo_H) (r : xo_H) (hk : fc_K_init t H = some r) : xo_M mt_K_init [.inr (some t)] H (xo_jv r) :=
  xo_entry hk (by decide +kernel) (Nat.le_of_ble_eq_true rfl) (kb_K_init t H r)
def fc_K_isMark (x0 : Int32) (H : xo_H) : Option (Int32 × xo_H) :=
  if x0 < 0 then (xo_gb (0 : Int32) (some ((0 : Int32), H)))
  else (if (20 : Int32) < x0 then (xo_gb (0 : Int32) (some ((0 : Int32), H)))
  else (xo_gb (1 : Int32) (some ((1 : Int32), H))))

set_option maxRecDepth 100000 in
set_option maxHeartbeats 4000000 in
theorem kb_K_isMark (x0 : Int32) (H : xo_H) (r : Int32 × xo_H) : xo_X mt_K_isMark 0 0 xo_ji r 0 [(0, .inl x0)] [] H (fc_K_isMark x0 H) := by
  unfold fc_K_isMark
  refine xo_iload_n (pc' := 1) dd_K_isMark_0 rfl 0 rfl rfl ?_
  refine xo_if_lt (pc' := 4) (tgt := 14) dd_K_isMark_1 rfl rfl ?_ ?_
  · refine xo_iconst (pc' := 15) (v := (0 : Int32)) dd_K_isMark_14 (by decide) rfl ?_
    exact xo_zret dd_K_isMark_15 rfl
  · refine xo_iload_n (pc' := 5) dd_K_isMark_4 rfl 0 rfl rfl ?_
    refine xo_bipush (pc' := 7) (v := (20 : Int32)) dd_K_isMark_5 (by decide) rfl ?_
    refine xo_icmp_gt (pc' := 10) (tgt := 14) dd_K_isMark_7 rfl rfl ?_ ?_
    · refine xo_iconst (pc' := 15) (v := (0 : Int32)) dd_K_isMark_14 (by decide) rfl ?_
      exact xo_zret dd_K_isMark_15 rfl
    · refine xo_iconst (pc' := 11) (v := (1 : Int32)) dd_K_isMark_10 (by decide) rfl ?_
      refine xo_goto (pc' := 15) dd_K_isMark_11 rfl ?_
      exact xo_zret dd_K_isMark_15 rfl
set_option maxRecDepth 100000 in
set_option maxHeartbeats 4000000 in
theorem kc_K_isMark (x0 : Int32) (H : xo_H) (r : Int32 × xo_H) (hk : fc_K_isMark x0 H = some r) : xo_M mt_K_isMark [.inl x0] H (xo_ji r) :=
  xo_entry hk (by decide +kernel) (Nat.le_of_ble_eq_true rfl) (kb_K_isMark x0 H r)
def fc_K_addGiver (t : xo_N) (x1 : Int32) (x2 : Int32) (H : xo_H) : Option (Option xo_N × xo_H) :=
  xo_nw 5 H (20, (H.1 t 5).toNatClampNeg) fun H1 =>
  xo_gf 0 5 H1 (some t) fun v3 =>
  xo_nw 4 H1 (21, (H1.1 t 5).toNatClampNeg) fun H4 =>
  (fc_C_init (21, (H1.1 t 5).toNatClampNeg) x1 x2 H4).bind fun H6 =>
  xo_gp 0 0 H6 (some t) fun o7 =>
  (fc_G_init (20, (H.1 t 5).toNatClampNeg) v3 (some (21, (H1.1 t 5).toNatClampNeg)) o7 H6).bind fun H8 =>
  xo_gp 0 2 H8 (some t) fun o9 =>
  xo_gf 0 5 H8 (some t) fun v10 =>
  xo_aq 2 5 H8 o9 v10 (some (20, (H.1 t 5).toNatClampNeg)) fun H11 =>
  xo_gf 0 5 H11 (some t) fun v12 =>
  xo_pf 0 5 H11 (some t) (v12 + (1 : Int32)) fun H13 =>
  some ((some (20, (H.1 t 5).toNatClampNeg)), H13)

set_option maxRecDepth 100000 in
set_option maxHeartbeats 4000000 in
theorem kb_K_addGiver (t : xo_N) (x1 : Int32) (x2 : Int32) (H : xo_H) (r : Option xo_N × xo_H) : xo_X mt_K_addGiver 6 56 xo_jp r 0 [(0, .inr (some t)), (1, .inl x1), (2, .inl x2)] [] H (fc_K_addGiver t x1 x2 H) := by
  unfold fc_K_addGiver
  refine xo_new (pc' := 3) dd_K_addGiver_0 co_K_23 rfl rfl rfl fun H1 => ?_
  refine xo_dup (pc' := 4) dd_K_addGiver_3 rfl ?_
  refine xo_aload_n (pc' := 5) dd_K_addGiver_4 rfl 0 rfl rfl ?_
  refine xo_getI (pc' := 8) dd_K_addGiver_5 ff_K_45 (by decide) rfl fun v3 => ?_
  refine xo_new (pc' := 11) dd_K_addGiver_8 co_K_66 rfl rfl rfl fun H4 => ?_
  refine xo_dup (pc' := 12) dd_K_addGiver_11 rfl ?_
  refine xo_iload_n (pc' := 13) dd_K_addGiver_12 rfl 1 rfl rfl ?_
  refine xo_iload_n (pc' := 14) dd_K_addGiver_13 rfl 2 rfl rfl ?_
  refine xo_callIv (as := [.inl x1, .inl x2]) (n := (21, (H1.1 t 5).toNatClampNeg)) (st := [.inr (some (21, (H1.1 t 5).toNatClampNeg)), .inl v3, .inr (some (20, (H.1 t 5).toNatClampNeg)), .inr (some (20, (H.1 t 5).toNatClampNeg))]) (pc' := 17) dd_K_addGiver_14 cv_C_init ml_K_68 rfl ⟨by decide, by decide⟩ rfl rfl rfl (Nat.le_of_ble_eq_true rfl) rfl (fun q h => kc_C_init (21, (H1.1 t 5).toNatClampNeg) x1 x2 H4 q h) fun H6 => ?_
  refine xo_aload_n (pc' := 18) dd_K_addGiver_17 rfl 0 rfl rfl ?_
  refine xo_getP (pc' := 21) dd_K_addGiver_18 ff_K_12 (by decide) rfl fun o7 => ?_
  refine xo_callIv (as := [.inl v3, .inr (some (21, (H1.1 t 5).toNatClampNeg)), .inr o7]) (n := (20, (H.1 t 5).toNatClampNeg)) (st := [.inr (some (20, (H.1 t 5).toNatClampNeg))]) (pc' := 24) dd_K_addGiver_21 cv_G_init ml_K_244 rfl ⟨by decide, by decide⟩ rfl rfl rfl (Nat.le_of_ble_eq_true rfl) rfl (fun q h => kc_G_init (20, (H.1 t 5).toNatClampNeg) v3 (some (21, (H1.1 t 5).toNatClampNeg)) o7 H6 q h) fun H8 => ?_
  refine xo_astore_n (pc' := 25) dd_K_addGiver_24 rfl (by decide) rfl rfl ?_
  refine xo_aload_n (pc' := 26) dd_K_addGiver_25 rfl 1 rfl rfl ?_
  refine xo_getP (pc' := 29) dd_K_addGiver_26 ff_K_25 (by decide) rfl fun o9 => ?_
  refine xo_aload_n (pc' := 30) dd_K_addGiver_29 rfl 1 rfl rfl ?_
  refine xo_getI (pc' := 33) dd_K_addGiver_30 ff_K_45 (by decide) rfl fun v10 => ?_
  refine xo_aload_n (pc' := 34) dd_K_addGiver_33 rfl 0 rfl rfl ?_
  refine xo_aast (pc' := 35) dd_K_addGiver_34 (by decide) rfl rfl rfl fun H11 => ?_
  refine xo_aload_n (pc' := 36) dd_K_addGiver_35 rfl 1 rfl rfl ?_
  refine xo_dup (pc' := 37) dd_K_addGiver_36 rfl ?_
  refine xo_getI (pc' := 40) dd_K_addGiver_37 ff_K_45 (by decide) rfl fun v12 => ?_
  refine xo_iconst (pc' := 41) (v := (1 : Int32)) dd_K_addGiver_40 (by decide) rfl ?_
  refine xo_iadd (pc' := 42) dd_K_addGiver_41 rfl ?_
  refine xo_putI (pc' := 45) dd_K_addGiver_42 ff_K_45 rfl fun H13 => ?_
  refine xo_aload_n (pc' := 46) dd_K_addGiver_45 rfl 0 rfl rfl ?_
  exact xo_aret dd_K_addGiver_46 rfl
set_option maxRecDepth 100000 in
set_option maxHeartbeats 4000000 in
theorem kc_K_addGiver (t : xo_N) (x1 : Int32) (x2 : Int32) (H : xo_H) (r : Option xo_N × xo_H) (hk : fc_K_addGiver t x1 x2 H = some r) : xo_M mt_K_addGiver [.inr (some t), .inl x1, .inl x2] H (xo_jp r) :=
  xo_entry hk (by decide +kernel) (Nat.le_of_ble_eq_true rfl) (kb_K_addGiver t x1 x2 H r)
def fb_K_askRoot_110 (t : xo_N) (x2 : Option xo_N) (x3 : Int32) (x4 : Int32) (H : xo_H) : Option (Int32 × xo_H) :=
  if x3 = 0 then (xo_gb (1 : Int32) (some ((1 : Int32), H)))
  else (xo_gp 0 1 H (some t) fun o1 =>
  xo_gf 5 0 H x2 fun v2 =>
  xo_cl 2 o1 (fun n4 => fc_J_add n4 (2 : Int32) v2 x4 H) fun H3 =>
  xo_gb (1 : Int32) (some ((1 : Int32), H3)))

def fb_K_askRoot_89 (t : xo_N) (x2 : Option xo_N) (x3 : Int32) (x4 : Int32) (H : xo_H) : Option (Int32 × xo_H) :=
  xo_cl 5 x2 (fun n6 => fc_G_startsPulling n6 H) fun r1 =>
  if r1.1 = 0 then (fb_K_askRoot_110 t x2 x3 x4 r1.2)
  else (xo_gp 0 0 r1.2 (some t) fun o2 =>
  xo_gf 5 0 r1.2 x2 fun v3 =>
  xo_cl 1 o2 (fun n5 => fc_L_note n5 (1 : Int32) v3 (0 : Int32) (0 : Int32) r1.2) fun H4 =>
  fb_K_askRoot_110 t x2 x3 x4 H4)

def fb_K_askRoot_57 (t : xo_N) (x2 : Option xo_N) (s0 : Int32) (H : xo_H) : Option (Int32 × xo_H) :=
  if s0 = 0 then (xo_gp 5 3 H x2 fun o1 =>
  xo_cl 3 o1 (fun n3 => fc_R_add n3 (0 : Int32) H) fun H2 =>
  fb_K_askRoot_89 t x2 s0 (0 : Int32) H2)
  else (xo_gp 5 1 H x2 fun o4 =>
  xo_cl 4 o4 (fun n8 => fc_C_takeFirst n8 H) fun r5 =>
  xo_cl 5 x2 (fun n7 => fc_G_closeIfDrained n7 r5.2) fun H6 =>
  fb_K_askRoot_89 t x2 s0 r5.1 H6)

def fb_K_askRoot_18 (t : xo_N) (x1 : Option xo_N) (x2 : Option xo_N) (s0 : Option xo_N) (s1 : Int32) (H : xo_H) : Option (Int32 × xo_H) :=
  xo_pz 6 2 H s0 s1 fun H1 =>
  xo_gf 6 2 H1 x1 fun v2 =>
  if v2 = 0 then (xo_gf 5 4 H1 x2 fun v6 =>
  if v6 = (2 : Int32) then (xo_gb (1 : Int32) (some ((1 : Int32), H1)))
  else (xo_gb (0 : Int32) (some ((0 : Int32), H1))))
  else (xo_gp 5 1 H1 x2 fun o3 =>
  xo_cl 4 o3 (fun n5 => fc_C_count n5 H1) fun r4 =>
  if 0 < r4.1 then (fb_K_askRoot_57 t x2 (1 : Int32) r4.2)
  else (fb_K_askRoot_57 t x2 (0 : Int32) r4.2))

def fc_K_askRoot (t : xo_N) (x1 : Option xo_N) (H : xo_H) : Option (Int32 × xo_H) :=
  xo_gp 6 0 H x1 fun o1 =>
  xo_gf 5 4 H o1 fun v2 =>
  if v2 = 0 then (fb_K_askRoot_18 t x1 o1 x1 (1 : Int32) H)
  else (fb_K_askRoot_18 t x1 o1 x1 (0 : Int32) H)

set_option maxRecDepth 100000 in
set_option maxHeartbeats 4000000 in
theorem kb_K_askRoot_110 (t : xo_N) (x2 : Option xo_N) (x3 : Int32) (x4 : Int32) (H : xo_H) (r : Int32 × xo_H) : xo_X mt_K_askRoot 0 0 xo_ji r 110 [(0, .inr (some t)), (2, .inr x2), (3, .inl x3), (4, .inl x4)] [] H (fb_K_askRoot_110 t x2 x3 x4 H) := by
  unfold fb_K_askRoot_110
  refine xo_iload_n (pc' := 111) dd_K_askRoot_110 rfl 2 rfl rfl ?_
  refine xo_if_eq (pc' := 114) (tgt := 128) dd_K_askRoot_111 rfl rfl ?_ ?_
  · refine xo_iconst (pc' := 129) (v := (1 : Int32)) dd_K_askRoot_128 (by decide) rfl ?_
    exact xo_zret dd_K_askRoot_129 rfl
  · refine xo_aload_n (pc' := 115) dd_K_askRoot_114 rfl 0 rfl rfl ?_
    refine xo_getP (pc' := 118) dd_K_askRoot_115 ff_K_19 (by decide) rfl fun o1 => ?_
    refine xo_iconst (pc' := 119) (v := (2 : Int32)) dd_K_askRoot_118 (by decide) rfl ?_
    refine xo_aload_n (pc' := 120) dd_K_askRoot_119 rfl 1 rfl rfl ?_
    refine xo_getI (pc' := 123) dd_K_askRoot_120 ff_K_60 (by decide) rfl fun v2 => ?_
    refine xo_iload (pc' := 125) dd_K_askRoot_123 3 rfl rfl ?_
    refine xo_callVv (as := [.inl (2 : Int32), .inl v2, .inl x4]) (o := o1) (st := []) (pc' := 128) dd_K_askRoot_125 cv_J_add ml_K_129 rfl rfl ⟨by decide, by decide⟩ rfl rfl rfl (Nat.le_of_ble_eq_true rfl) rfl (fun n q h => kc_J_add n (2 : Int32) v2 x4 H q h) fun H3 => ?_
    refine xo_iconst (pc' := 129) (v := (1 : Int32)) dd_K_askRoot_128 (by decide) rfl ?_
    exact xo_zret dd_K_askRoot_129 rfl
set_option maxRecDepth 100000 in
set_option maxHeartbeats 4000000 in
theorem kb_K_askRoot_89 (t : xo_N) (x2 : Option xo_N) (x3 : Int32) (x4 : Int32) (H : xo_H) (r : Int32 × xo_H) : xo_X mt_K_askRoot 0 0 xo_ji r 89 [(0, .inr (some t)), (2, .inr x2), (3, .inl x3), (4, .inl x4)] [] H (fb_K_askRoot_89 t x2 x3 x4 H) := by
  unfold fb_K_askRoot_89
  refine xo_aload_n (pc' := 90) dd_K_askRoot_89 rfl 1 rfl rfl ?_
  refine xo_callVi (as := []) (o := x2) (st := []) (pc' := 93) dd_K_askRoot_90 cv_G_startsPulling ml_K_270 rfl rfl ⟨by decide, by decide⟩ rfl rfl rfl (Nat.le_of_ble_eq_true rfl) rfl (fun n q h => kc_G_startsPulling n H q h) fun r1 => ?_
  refine xo_if_eq (pc' := 96) (tgt := 110) dd_K_askRoot_93 rfl rfl ?_ ?_
  · exact kb_K_askRoot_110 t x2 x3 x4 r1.2 r
  · refine xo_aload_n (pc' := 97) dd_K_askRoot_96 rfl 0 rfl rfl ?_
    refine xo_getP (pc' := 100) dd_K_askRoot_97 ff_K_12 (by decide) rfl fun o2 => ?_
    refine xo_iconst (pc' := 101) (v := (1 : Int32)) dd_K_askRoot_100 (by decide) rfl ?_
    refine xo_aload_n (pc' := 102) dd_K_askRoot_101 rfl 1 rfl rfl ?_
    refine xo_getI (pc' := 105) dd_K_askRoot_102 ff_K_60 (by decide) rfl fun v3 => ?_
    refine xo_iconst (pc' := 106) (v := (0 : Int32)) dd_K_askRoot_105 (by decide) rfl ?_
    refine xo_iconst (pc' := 107) (v := (0 : Int32)) dd_K_askRoot_106 (by decide) rfl ?_
    refine xo_callVv (as := [.inl (1 : Int32), .inl v3, .inl (0 : Int32), .inl (0 : Int32)]) (o := o2) (st := []) (pc' := 110) dd_K_askRoot_107 cv_L_note ml_K_254 rfl rfl ⟨by decide, by decide⟩ rfl rfl rfl (Nat.le_of_ble_eq_true rfl) rfl (fun n q h => kc_L_note n (1 : Int32) v3 (0 : Int32) (0 : Int32) r1.2 q h) fun H4 => ?_
    exact kb_K_askRoot_110 t x2 x3 x4 H4 r
set_option maxRecDepth 100000 in
set_option maxHeartbeats 4000000 in
theorem kb_K_askRoot_57 (t : xo_N) (x2 : Option xo_N) (s0 : Int32) (H : xo_H) (r : Int32 × xo_H) : xo_X mt_K_askRoot 0 0 xo_ji r 57 [(0, .inr (some t)), (2, .inr x2)] [.inl s0] H (fb_K_askRoot_57 t x2 s0 H) := by
  unfold fb_K_askRoot_57
  refine xo_istore_n (pc' := 58) dd_K_askRoot_57 rfl (by decide) rfl rfl ?_
  refine xo_iconst (pc' := 59) (v := (0 : Int32)) dd_K_askRoot_58 (by decide) rfl ?_
  refine xo_istore (pc' := 61) dd_K_askRoot_59 (by decide) rfl rfl ?_
  refine xo_iload_n (pc' := 62) dd_K_askRoot_61 rfl 1 rfl rfl ?_
  refine xo_if_eq (pc' := 65) (tgt := 81) dd_K_askRoot_62 rfl rfl ?_ ?_
  · refine xo_aload_n (pc' := 82) dd_K_askRoot_81 rfl 3 rfl rfl ?_
    refine xo_getP (pc' := 85) dd_K_askRoot_82 ff_K_91 (by decide) rfl fun o1 => ?_
    refine xo_iconst (pc' := 86) (v := (0 : Int32)) dd_K_askRoot_85 (by decide) rfl ?_
    refine xo_callVv (as := [.inl (0 : Int32)]) (o := o1) (st := []) (pc' := 89) dd_K_askRoot_86 cv_R_add ml_K_266 rfl rfl ⟨by decide, by decide⟩ rfl rfl rfl (Nat.le_of_ble_eq_true rfl) rfl (fun n q h => kc_R_add n (0 : Int32) H q h) fun H2 => ?_
    refine xo_sub [2, 3, 1, 0] rfl ?_
    exact kb_K_askRoot_89 t x2 s0 (0 : Int32) H2 r
  · refine xo_aload_n (pc' := 66) dd_K_askRoot_65 rfl 3 rfl rfl ?_
    refine xo_getP (pc' := 69) dd_K_askRoot_66 ff_K_83 (by decide) rfl fun o4 => ?_
    refine xo_callVi (as := []) (o := o4) (st := []) (pc' := 72) dd_K_askRoot_69 cv_C_takeFirst ml_K_262 rfl rfl ⟨by decide, by decide⟩ rfl rfl rfl (Nat.le_of_ble_eq_true rfl) rfl (fun n q h => kc_C_takeFirst n H q h) fun r5 => ?_
    refine xo_istore (pc' := 74) dd_K_askRoot_72 (by decide) rfl rfl ?_
    refine xo_aload_n (pc' := 75) dd_K_askRoot_74 rfl 3 rfl rfl ?_
    refine xo_callVv (as := []) (o := x2) (st := []) (pc' := 78) dd_K_askRoot_75 cv_G_closeIfDrained ml_K_263 rfl rfl ⟨by decide, by decide⟩ rfl rfl rfl (Nat.le_of_ble_eq_true rfl) rfl (fun n q h => kc_G_closeIfDrained n r5.2 q h) fun H6 => ?_
    refine xo_goto (pc' := 89) dd_K_askRoot_78 rfl ?_
    refine xo_sub [2, 3, 1, 0] rfl ?_
    exact kb_K_askRoot_89 t x2 s0 r5.1 H6 r
set_option maxRecDepth 100000 in
set_option maxHeartbeats 4000000 in
theorem kb_K_askRoot_18 (t : xo_N) (x1 : Option xo_N) (x2 : Option xo_N) (s0 : Option xo_N) (s1 : Int32) (H : xo_H) (r : Int32 × xo_H) : xo_X mt_K_askRoot 0 0 xo_ji r 18 [(0, .inr (some t)), (1, .inr x1), (2, .inr x2)] [.inl s1, .inr s0] H (fb_K_askRoot_18 t x1 x2 s0 s1 H) := by
  unfold fb_K_askRoot_18
  refine xo_putZ (pc' := 21) dd_K_askRoot_18 ff_K_273 rfl fun H1 => ?_
  refine xo_aload_n (pc' := 22) dd_K_askRoot_21 rfl 1 rfl rfl ?_
  refine xo_getI (pc' := 25) dd_K_askRoot_22 ff_K_273 (by decide) rfl fun v2 => ?_
  refine xo_if_ne (pc' := 28) (tgt := 42) dd_K_askRoot_25 rfl rfl ?_ ?_
  · refine xo_aload_n (pc' := 43) dd_K_askRoot_42 rfl 2 rfl rfl ?_
    refine xo_getP (pc' := 46) dd_K_askRoot_43 ff_K_83 (by decide) rfl fun o3 => ?_
    refine xo_callVi (as := []) (o := o3) (st := []) (pc' := 49) dd_K_askRoot_46 cv_C_count ml_K_87 rfl rfl ⟨by decide, by decide⟩ rfl rfl rfl (Nat.le_of_ble_eq_true rfl) rfl (fun n q h => kc_C_count n H1 q h) fun r4 => ?_
    refine xo_if_le (pc' := 52) (tgt := 56) dd_K_askRoot_49 rfl rfl ?_ ?_
    · refine xo_iconst (pc' := 57) (v := (0 : Int32)) dd_K_askRoot_56 (by decide) rfl ?_
      refine xo_sub [0, 2] rfl ?_
      exact kb_K_askRoot_57 t x2 (0 : Int32) r4.2 r
    · refine xo_iconst (pc' := 53) (v := (1 : Int32)) dd_K_askRoot_52 (by decide) rfl ?_
      refine xo_goto (pc' := 57) dd_K_askRoot_53 rfl ?_
      refine xo_sub [0, 2] rfl ?_
      exact kb_K_askRoot_57 t x2 (1 : Int32) r4.2 r
  · refine xo_aload_n (pc' := 29) dd_K_askRoot_28 rfl 2 rfl rfl ?_
    refine xo_getI (pc' := 32) dd_K_askRoot_29 ff_K_110 (by decide) rfl fun v6 => ?_
    refine xo_iconst (pc' := 33) (v := (2 : Int32)) dd_K_askRoot_32 (by decide) rfl ?_
    refine xo_icmp_ne (pc' := 36) (tgt := 40) dd_K_askRoot_33 rfl rfl ?_ ?_
    · refine xo_iconst (pc' := 41) (v := (0 : Int32)) dd_K_askRoot_40 (by decide) rfl ?_
      exact xo_zret dd_K_askRoot_41 rfl
    · refine xo_iconst (pc' := 37) (v := (1 : Int32)) dd_K_askRoot_36 (by decide) rfl ?_
      refine xo_goto (pc' := 41) dd_K_askRoot_37 rfl ?_
      exact xo_zret dd_K_askRoot_41 rfl
set_option maxRecDepth 100000 in
set_option maxHeartbeats 4000000 in
theorem kb_K_askRoot (t : xo_N) (x1 : Option xo_N) (H : xo_H) (r : Int32 × xo_H) : xo_X mt_K_askRoot 0 0 xo_ji r 0 [(0, .inr (some t)), (1, .inr x1)] [] H (fc_K_askRoot t x1 H) := by
  unfold fc_K_askRoot
  refine xo_aload_n (pc' := 1) dd_K_askRoot_0 rfl 1 rfl rfl ?_
  refine xo_getP (pc' := 4) dd_K_askRoot_1 ff_K_281 (by decide) rfl fun o1 => ?_
  refine xo_astore_n (pc' := 5) dd_K_askRoot_4 rfl (by decide) rfl rfl ?_
  refine xo_aload_n (pc' := 6) dd_K_askRoot_5 rfl 2 rfl rfl ?_
  refine xo_aload_n (pc' := 7) dd_K_askRoot_6 rfl 0 rfl rfl ?_
  refine xo_getI (pc' := 10) dd_K_askRoot_7 ff_K_110 (by decide) rfl fun v2 => ?_
  refine xo_if_ne (pc' := 13) (tgt := 17) dd_K_askRoot_10 rfl rfl ?_ ?_
  · refine xo_iconst (pc' := 18) (v := (0 : Int32)) dd_K_askRoot_17 (by decide) rfl ?_
    refine xo_sub [1, 2, 0] rfl ?_
    exact kb_K_askRoot_18 t x1 o1 x1 (0 : Int32) H r
  · refine xo_iconst (pc' := 14) (v := (1 : Int32)) dd_K_askRoot_13 (by decide) rfl ?_
    refine xo_goto (pc' := 18) dd_K_askRoot_14 rfl ?_
    refine xo_sub [1, 2, 0] rfl ?_
    exact kb_K_askRoot_18 t x1 o1 x1 (1 : Int32) H r
set_option maxRecDepth 100000 in
set_option maxHeartbeats 4000000 in
theorem kc_K_askRoot (t : xo_N) (x1 : Option xo_N) (H : xo_H) (r : Int32 × xo_H) (hk : fc_K_askRoot t x1 H = some r) : xo_M mt_K_askRoot [.inr (some t), .inr x1] H (xo_ji r) :=
  xo_entry hk (by decide +kernel) (Nat.le_of_ble_eq_true rfl) (kb_K_askRoot t x1 H r)
def fb_K_endBranches_16 : Nat → Option xo_N → Int32 → Int32 → xo_H → Option (xo_H)
  | 0, _, _, _, _ => none
  | fu + 1, x2, x3, x4, H =>
  if x4 < x3 then (xo_ap 2 H x2 x4 fun o1 =>
  xo_cl 5 o1 (fun n10 => fc_G_isGoing n10 H) fun r2 =>
  if r2.1 = 0 then (fb_K_endBranches_16 fu x2 x3 (x4 + (1 : Int32)) r2.2)
  else (xo_pz 5 7 r2.2 o1 (1 : Int32) fun H3 =>
  xo_gp 5 1 H3 o1 fun o4 =>
  xo_cl 4 o4 (fun n9 => fc_C_count n9 H3) fun r5 =>
  if r5.1 = 0 then (xo_pf 5 4 r5.2 o1 (1 : Int32) fun H6 =>
  xo_cl 5 o1 (fun n8 => fc_G_answerAll n8 H6) fun H7 =>
  fb_K_endBranches_16 fu x2 x3 (x4 + (1 : Int32)) H7)
  else (fb_K_endBranches_16 fu x2 x3 (x4 + (1 : Int32)) r5.2)))
  else (some H)

def fc_K_endBranches (t : xo_N) (x1 : Option xo_N) (H : xo_H) : Option (xo_H) :=
  xo_pz 6 2 H x1 (0 : Int32) fun H1 =>
  xo_gp 6 1 H1 x1 fun o2 =>
  xo_ln o2 fun v3 =>
  fb_K_endBranches_16 1000 o2 v3 (0 : Int32) H1

set_option maxRecDepth 100000 in
set_option maxHeartbeats 4000000 in
theorem kb_K_endBranches_16 : ∀ (fu : Nat) (x2 : Option xo_N) (x3 : Int32) (x4 : Int32) (H : xo_H) (r : xo_H), xo_X mt_K_endBranches 0 0 xo_jv r 16 [(2, .inr x2), (3, .inl x3), (4, .inl x4)] [] H (fb_K_endBranches_16 fu x2 x3 x4 H) := by
  intro fu
  induction fu with
  | zero => intros; exact xo_no
  | succ fu ih =>
    intro x2 x3 x4 H r
    rw [fb_K_endBranches_16]
    refine xo_iload (pc' := 18) dd_K_endBranches_16 2 rfl rfl ?_
    refine xo_iload_n (pc' := 19) dd_K_endBranches_18 rfl 1 rfl rfl ?_
    refine xo_icmp_ge (pc' := 22) (tgt := 70) dd_K_endBranches_19 rfl rfl ?_ ?_
    · exact xo_vret dd_K_endBranches_70 rfl
    · refine xo_aload_n (pc' := 23) dd_K_endBranches_22 rfl 0 rfl rfl ?_
      refine xo_iload (pc' := 25) dd_K_endBranches_23 2 rfl rfl ?_
      refine xo_aald (pc' := 26) dd_K_endBranches_25 (by decide) rfl fun o1 => ?_
      refine xo_astore (pc' := 28) dd_K_endBranches_26 (by decide) rfl rfl ?_
      refine xo_aload (pc' := 30) dd_K_endBranches_28 0 rfl rfl ?_
      refine xo_callVi (as := []) (o := o1) (st := []) (pc' := 33) dd_K_endBranches_30 cv_G_isGoing ml_K_79 rfl rfl ⟨by decide, by decide⟩ rfl rfl rfl (Nat.le_of_ble_eq_true rfl) rfl (fun n q h => kc_G_isGoing n H q h) fun r2 => ?_
      refine xo_if_eq (pc' := 36) (tgt := 64) dd_K_endBranches_33 rfl rfl ?_ ?_
      · refine xo_iinc (pc' := 67) dd_K_endBranches_64 3 rfl (xo_ii (m := (1 : Int32)) (by decide)) (by decide) rfl rfl ?_
        refine xo_goto (pc' := 16) dd_K_endBranches_67 rfl ?_
        refine xo_sub [2, 3, 0] rfl ?_
        exact ih x2 x3 (x4 + (1 : Int32)) r2.2 r
      · refine xo_aload (pc' := 38) dd_K_endBranches_36 0 rfl rfl ?_
        refine xo_iconst (pc' := 39) (v := (1 : Int32)) dd_K_endBranches_38 (by decide) rfl ?_
        refine xo_putZ (pc' := 42) dd_K_endBranches_39 ff_K_103 rfl fun H3 => ?_
        refine xo_aload (pc' := 44) dd_K_endBranches_42 0 rfl rfl ?_
        refine xo_getP (pc' := 47) dd_K_endBranches_44 ff_K_83 (by decide) rfl fun o4 => ?_
        refine xo_callVi (as := []) (o := o4) (st := []) (pc' := 50) dd_K_endBranches_47 cv_C_count ml_K_87 rfl rfl ⟨by decide, by decide⟩ rfl rfl rfl (Nat.le_of_ble_eq_true rfl) rfl (fun n q h => kc_C_count n H3 q h) fun r5 => ?_
        refine xo_if_ne (pc' := 53) (tgt := 64) dd_K_endBranches_50 rfl rfl ?_ ?_
        · refine xo_iinc (pc' := 67) dd_K_endBranches_64 3 rfl (xo_ii (m := (1 : Int32)) (by decide)) (by decide) rfl rfl ?_
          refine xo_goto (pc' := 16) dd_K_endBranches_67 rfl ?_
          refine xo_sub [2, 3, 0] rfl ?_
          exact ih x2 x3 (x4 + (1 : Int32)) r5.2 r
        · refine xo_aload (pc' := 55) dd_K_endBranches_53 0 rfl rfl ?_
          refine xo_iconst (pc' := 56) (v := (1 : Int32)) dd_K_endBranches_55 (by decide) rfl ?_
          refine xo_putI (pc' := 59) dd_K_endBranches_56 ff_K_110 rfl fun H6 => ?_
          refine xo_aload (pc' := 61) dd_K_endBranches_59 0 rfl rfl ?_
          refine xo_callVv (as := []) (o := o1) (st := []) (pc' := 64) dd_K_endBranches_61 cv_G_answerAll ml_K_267 rfl rfl ⟨by decide, by decide⟩ rfl rfl rfl (Nat.le_of_ble_eq_true rfl) rfl (fun n q h => kc_G_answerAll n H6 q h) fun H7 => ?_
          refine xo_iinc (pc' := 67) dd_K_endBranches_64 3 rfl (xo_ii (m := (1 : Int32)) (by decide)) (by decide) rfl rfl ?_
          refine xo_goto (pc' := 16) dd_K_endBranches_67 rfl ?_
          refine xo_sub [2, 3, 0] rfl ?_
          exact ih x2 x3 (x4 + (1 : Int32)) H7 r
set_option maxRecDepth 100000 in
set_option maxHeartbeats 4000000 in
theorem kb_K_endBranches (t : xo_N) (x1 : Option xo_N) (H : xo_H) (r : xo_H) : xo_X mt_K_endBranches 0 0 xo_jv r 0 [(0, .inr (some t)), (1, .inr x1)] [] H (fc_K_endBranches t x1 H) := by
  unfold fc_K_endBranches
  refine xo_aload_n (pc' := 1) dd_K_endBranches_0 rfl 1 rfl rfl ?_
  refine xo_iconst (pc' := 2) (v := (0 : Int32)) dd_K_endBranches_1 (by decide) rfl ?_
  refine xo_putZ (pc' := 5) dd_K_endBranches_2 ff_K_273 rfl fun H1 => ?_
  refine xo_aload_n (pc' := 6) dd_K_endBranches_5 rfl 1 rfl rfl ?_
  refine xo_getP (pc' := 9) dd_K_endBranches_6 ff_K_285 (by decide) rfl fun o2 => ?_
  refine xo_astore_n (pc' := 10) dd_K_endBranches_9 rfl (by decide) rfl rfl ?_
  refine xo_aload_n (pc' := 11) dd_K_endBranches_10 rfl 0 rfl rfl ?_
  refine xo_alen (pc' := 12) dd_K_endBranches_11 rfl fun v3 => ?_
  refine xo_istore_n (pc' := 13) dd_K_endBranches_12 rfl (by decide) rfl rfl ?_
  refine xo_iconst (pc' := 14) (v := (0 : Int32)) dd_K_endBranches_13 (by decide) rfl ?_
  refine xo_istore (pc' := 16) dd_K_endBranches_14 (by decide) rfl rfl ?_
  refine xo_sub [2, 1, 0] rfl ?_
  exact kb_K_endBranches_16 1000 o2 v3 (0 : Int32) H1 r
set_option maxRecDepth 100000 in
set_option maxHeartbeats 4000000 in
theorem kc_K_endBranches (t : xo_N) (x1 : Option xo_N) (H : xo_H) (r : xo_H) (hk : fc_K_endBranches t x1 H = some r) : xo_M mt_K_endBranches [.inr (some t), .inr x1] H (xo_jv r) :=
  xo_entry hk (by decide +kernel) (Nat.le_of_ble_eq_true rfl) (kb_K_endBranches t x1 H r)
def fb_K_pullIfNeeded_60 (t : xo_N) (x1 : Option xo_N) (H : xo_H) : Option (xo_H) :=
  xo_gp 0 1 H (some t) fun o1 =>
  xo_gf 5 0 H x1 fun v2 =>
  xo_cl 2 o1 (fun n4 => fc_J_add n4 (1 : Int32) v2 (-1 : Int32) H) fun H3 =>
  some H3

def fc_K_pullIfNeeded (t : xo_N) (x1 : Option xo_N) (H : xo_H) : Option (xo_H) :=
  xo_cl 5 x1 (fun n13 => fc_G_startsPulling n13 H) fun r1 =>
  if r1.1 = 0 then (some r1.2)
  else (xo_gp 5 11 r1.2 x1 fun o2 =>
  if o2 = none then (xo_gp 0 0 r1.2 (some t) fun o9 =>
  xo_gf 5 0 r1.2 x1 fun v10 =>
  xo_cl 1 o9 (fun n12 => fc_L_note n12 (1 : Int32) v10 (0 : Int32) (0 : Int32) r1.2) fun H11 =>
  some H11)
  else (xo_gf 6 2 r1.2 o2 fun v3 =>
  if v3 = 0 then (xo_cl 0 (some t) (fun n7 => fc_K_askRoot n7 o2 r1.2) fun r4 =>
  if r4.1 = 0 then (xo_cl 0 (some t) (fun n6 => fc_K_endBranches n6 o2 r4.2) fun H5 =>
  fb_K_pullIfNeeded_60 t x1 H5)
  else (fb_K_pullIfNeeded_60 t x1 r4.2))
  else (xo_pz 6 3 r1.2 o2 (1 : Int32) fun H8 =>
  fb_K_pullIfNeeded_60 t x1 H8)))

set_option maxRecDepth 100000 in
set_option maxHeartbeats 4000000 in
theorem kb_K_pullIfNeeded_60 (t : xo_N) (x1 : Option xo_N) (H : xo_H) (r : xo_H) : xo_X mt_K_pullIfNeeded 0 0 xo_jv r 60 [(0, .inr (some t)), (1, .inr x1)] [] H (fb_K_pullIfNeeded_60 t x1 H) := by
  unfold fb_K_pullIfNeeded_60
  refine xo_aload_n (pc' := 61) dd_K_pullIfNeeded_60 rfl 0 rfl rfl ?_
  refine xo_getP (pc' := 64) dd_K_pullIfNeeded_61 ff_K_19 (by decide) rfl fun o1 => ?_
  refine xo_iconst (pc' := 65) (v := (1 : Int32)) dd_K_pullIfNeeded_64 (by decide) rfl ?_
  refine xo_aload_n (pc' := 66) dd_K_pullIfNeeded_65 rfl 1 rfl rfl ?_
  refine xo_getI (pc' := 69) dd_K_pullIfNeeded_66 ff_K_60 (by decide) rfl fun v2 => ?_
  refine xo_iconst (pc' := 70) (v := (-1 : Int32)) dd_K_pullIfNeeded_69 (by decide) rfl ?_
  refine xo_callVv (as := [.inl (1 : Int32), .inl v2, .inl (-1 : Int32)]) (o := o1) (st := []) (pc' := 73) dd_K_pullIfNeeded_70 cv_J_add ml_K_129 rfl rfl ⟨by decide, by decide⟩ rfl rfl rfl (Nat.le_of_ble_eq_true rfl) rfl (fun n q h => kc_J_add n (1 : Int32) v2 (-1 : Int32) H q h) fun H3 => ?_
  exact xo_vret dd_K_pullIfNeeded_73 rfl
set_option maxRecDepth 100000 in
set_option maxHeartbeats 4000000 in
theorem kb_K_pullIfNeeded (t : xo_N) (x1 : Option xo_N) (H : xo_H) (r : xo_H) : xo_X mt_K_pullIfNeeded 0 0 xo_jv r 0 [(0, .inr (some t)), (1, .inr x1)] [] H (fc_K_pullIfNeeded t x1 H) := by
  unfold fc_K_pullIfNeeded
  refine xo_aload_n (pc' := 1) dd_K_pullIfNeeded_0 rfl 1 rfl rfl ?_
  refine xo_callVi (as := []) (o := x1) (st := []) (pc' := 4) dd_K_pullIfNeeded_1 cv_G_startsPulling ml_K_270 rfl rfl ⟨by decide, by decide⟩ rfl rfl rfl (Nat.le_of_ble_eq_true rfl) rfl (fun n q h => kc_G_startsPulling n H q h) fun r1 => ?_
  refine xo_if_ne (pc' := 7) (tgt := 8) dd_K_pullIfNeeded_4 rfl rfl ?_ ?_
  · refine xo_aload_n (pc' := 9) dd_K_pullIfNeeded_8 rfl 1 rfl rfl ?_
    refine xo_getP (pc' := 12) dd_K_pullIfNeeded_9 ff_K_191 (by decide) rfl fun o2 => ?_
    refine xo_astore_n (pc' := 13) dd_K_pullIfNeeded_12 rfl (by decide) rfl rfl ?_
    refine xo_aload_n (pc' := 14) dd_K_pullIfNeeded_13 rfl 0 rfl rfl ?_
    refine xo_ifnonnull (pc' := 17) (tgt := 32) dd_K_pullIfNeeded_14 rfl rfl ?_ ?_
    · refine xo_aload_n (pc' := 33) dd_K_pullIfNeeded_32 rfl 0 rfl rfl ?_
      refine xo_getI (pc' := 36) dd_K_pullIfNeeded_33 ff_K_273 (by decide) rfl fun v3 => ?_
      refine xo_if_eq (pc' := 39) (tgt := 47) dd_K_pullIfNeeded_36 rfl rfl ?_ ?_
      · refine xo_aload_n (pc' := 48) dd_K_pullIfNeeded_47 rfl 1 rfl rfl ?_
        refine xo_aload_n (pc' := 49) dd_K_pullIfNeeded_48 rfl 0 rfl rfl ?_
        refine xo_callVi (as := [.inr o2]) (o := (some t)) (st := []) (pc' := 52) dd_K_pullIfNeeded_49 cv_K_askRoot ml_K_277 rfl rfl ⟨by decide, by decide⟩ rfl rfl rfl (Nat.le_of_ble_eq_true rfl) rfl (fun n q h => kc_K_askRoot n o2 r1.2 q h) fun r4 => ?_
        refine xo_if_ne (pc' := 55) (tgt := 60) dd_K_pullIfNeeded_52 rfl rfl ?_ ?_
        · refine xo_sub [1, 2] rfl ?_
          exact kb_K_pullIfNeeded_60 t x1 r4.2 r
        · refine xo_aload_n (pc' := 56) dd_K_pullIfNeeded_55 rfl 1 rfl rfl ?_
          refine xo_aload_n (pc' := 57) dd_K_pullIfNeeded_56 rfl 0 rfl rfl ?_
          refine xo_callVv (as := [.inr o2]) (o := (some t)) (st := []) (pc' := 60) dd_K_pullIfNeeded_57 cv_K_endBranches ml_K_203 rfl rfl ⟨by decide, by decide⟩ rfl rfl rfl (Nat.le_of_ble_eq_true rfl) rfl (fun n q h => kc_K_endBranches n o2 r4.2 q h) fun H5 => ?_
          refine xo_sub [1, 2] rfl ?_
          exact kb_K_pullIfNeeded_60 t x1 H5 r
      · refine xo_aload_n (pc' := 40) dd_K_pullIfNeeded_39 rfl 0 rfl rfl ?_
        refine xo_iconst (pc' := 41) (v := (1 : Int32)) dd_K_pullIfNeeded_40 (by decide) rfl ?_
        refine xo_putZ (pc' := 44) dd_K_pullIfNeeded_41 ff_K_276 rfl fun H8 => ?_
        refine xo_goto (pc' := 60) dd_K_pullIfNeeded_44 rfl ?_
        refine xo_sub [1, 2] rfl ?_
        exact kb_K_pullIfNeeded_60 t x1 H8 r
    · refine xo_aload_n (pc' := 18) dd_K_pullIfNeeded_17 rfl 1 rfl rfl ?_
      refine xo_getP (pc' := 21) dd_K_pullIfNeeded_18 ff_K_12 (by decide) rfl fun o9 => ?_
      refine xo_iconst (pc' := 22) (v := (1 : Int32)) dd_K_pullIfNeeded_21 (by decide) rfl ?_
      refine xo_aload_n (pc' := 23) dd_K_pullIfNeeded_22 rfl 2 rfl rfl ?_
      refine xo_getI (pc' := 26) dd_K_pullIfNeeded_23 ff_K_60 (by decide) rfl fun v10 => ?_
      refine xo_iconst (pc' := 27) (v := (0 : Int32)) dd_K_pullIfNeeded_26 (by decide) rfl ?_
      refine xo_iconst (pc' := 28) (v := (0 : Int32)) dd_K_pullIfNeeded_27 (by decide) rfl ?_
      refine xo_callVv (as := [.inl (1 : Int32), .inl v10, .inl (0 : Int32), .inl (0 : Int32)]) (o := o9) (st := []) (pc' := 31) dd_K_pullIfNeeded_28 cv_L_note ml_K_254 rfl rfl ⟨by decide, by decide⟩ rfl rfl rfl (Nat.le_of_ble_eq_true rfl) rfl (fun n q h => kc_L_note n (1 : Int32) v10 (0 : Int32) (0 : Int32) r1.2 q h) fun H11 => ?_
      exact xo_vret dd_K_pullIfNeeded_31 rfl
  · exact xo_vret dd_K_pullIfNeeded_7 rfl
set_option maxRecDepth 100000 in
set_option maxHeartbeats 4000000 in
theorem kc_K_pullIfNeeded (t : xo_N) (x1 : Option xo_N) (H : xo_H) (r : xo_H) (hk : fc_K_pullIfNeeded t x1 H = some r) : xo_M mt_K_pullIfNeeded [.inr (some t), .inr x1] H (xo_jv r) :=
  xo_entry hk (by decide +kernel) (Nat.le_of_ble_eq_true rfl) (kb_K_pullIfNeeded t x1 H r)
def fc_K_pipeAt (t : xo_N) (x1 : Int32) (H : xo_H) : Option (Option xo_N × xo_H) :=
  if x1 < 0 then (some (none, H))
  else (xo_gf 0 7 H (some t) fun v1 =>
  if x1 < v1 then (xo_gp 0 4 H (some t) fun o2 =>
  xo_ap 4 H o2 x1 fun o3 =>
  some (o3, H))
  else (some (none, H)))

set_option maxRecDepth 100000 in
set_option maxHeartbeats 4000000 in
theorem kb_K_pipeAt (t : xo_N) (x1 : Int32) (H : xo_H) (r : Option xo_N × xo_H) : xo_X mt_K_pipeAt 0 0 xo_jp r 0 [(0, .inr (some t)), (1, .inl x1)] [] H (fc_K_pipeAt t x1 H) := by
  unfold fc_K_pipeAt
  refine xo_iload_n (pc' := 1) dd_K_pipeAt_0 rfl 1 rfl rfl ?_
  refine xo_if_lt (pc' := 4) (tgt := 21) dd_K_pipeAt_1 rfl rfl ?_ ?_
  · refine xo_null (pc' := 22) dd_K_pipeAt_21 rfl ?_
    exact xo_aret dd_K_pipeAt_22 rfl
  · refine xo_iload_n (pc' := 5) dd_K_pipeAt_4 rfl 1 rfl rfl ?_
    refine xo_aload_n (pc' := 6) dd_K_pipeAt_5 rfl 0 rfl rfl ?_
    refine xo_getI (pc' := 9) dd_K_pipeAt_6 ff_K_180 (by decide) rfl fun v1 => ?_
    refine xo_icmp_ge (pc' := 12) (tgt := 21) dd_K_pipeAt_9 rfl rfl ?_ ?_
    · refine xo_null (pc' := 22) dd_K_pipeAt_21 rfl ?_
      exact xo_aret dd_K_pipeAt_22 rfl
    · refine xo_aload_n (pc' := 13) dd_K_pipeAt_12 rfl 0 rfl rfl ?_
      refine xo_getP (pc' := 16) dd_K_pipeAt_13 ff_K_37 (by decide) rfl fun o2 => ?_
      refine xo_iload_n (pc' := 17) dd_K_pipeAt_16 rfl 1 rfl rfl ?_
      refine xo_aald (pc' := 18) dd_K_pipeAt_17 (by decide) rfl fun o3 => ?_
      refine xo_goto (pc' := 22) dd_K_pipeAt_18 rfl ?_
      exact xo_aret dd_K_pipeAt_22 rfl
set_option maxRecDepth 100000 in
set_option maxHeartbeats 4000000 in
theorem kc_K_pipeAt (t : xo_N) (x1 : Int32) (H : xo_H) (r : Option xo_N × xo_H) (hk : fc_K_pipeAt t x1 H = some r) : xo_M mt_K_pipeAt [.inr (some t), .inl x1] H (xo_jp r) :=
  xo_entry hk (by decide +kernel) (Nat.le_of_ble_eq_true rfl) (kb_K_pipeAt t x1 H r)
def fb_K_awaitPumps_2 : Nat → xo_N → Int32 → xo_H → Option (xo_H)
  | 0, _, _, _ => none
  | fu + 1, t, x1, H =>
  xo_gf 0 7 H (some t) fun v1 =>
  if x1 < v1 then (xo_cl 0 (some t) (fun n10 => fc_K_pipeAt n10 x1 H) fun r2 =>
  if r2.1 = none then (fb_K_awaitPumps_2 fu t (x1 + (1 : Int32)) r2.2)
  else (xo_gf 8 6 r2.2 r2.1 fun v3 =>
  if v3 = 0 then (xo_gp 0 1 r2.2 (some t) fun o4 =>
  xo_cl 2 o4 (fun n9 => fc_J_holds n9 (6 : Int32) x1 r2.2) fun r5 =>
  if r5.1 = 0 then (xo_gp 0 1 r5.2 (some t) fun o6 =>
  xo_cl 2 o6 (fun n8 => fc_J_add n8 (6 : Int32) x1 (0 : Int32) r5.2) fun H7 =>
  fb_K_awaitPumps_2 fu t (x1 + (1 : Int32)) H7)
  else (fb_K_awaitPumps_2 fu t (x1 + (1 : Int32)) r5.2))
  else (fb_K_awaitPumps_2 fu t (x1 + (1 : Int32)) r2.2)))
  else (some H)

def fc_K_awaitPumps (t : xo_N) (H : xo_H) : Option (xo_H) :=
  fb_K_awaitPumps_2 1000 t (0 : Int32) H

set_option maxRecDepth 100000 in
set_option maxHeartbeats 4000000 in
theorem kb_K_awaitPumps_2 : ∀ (fu : Nat) (t : xo_N) (x1 : Int32) (H : xo_H) (r : xo_H), xo_X mt_K_awaitPumps 0 0 xo_jv r 2 [(0, .inr (some t)), (1, .inl x1)] [] H (fb_K_awaitPumps_2 fu t x1 H) := by
  intro fu
  induction fu with
  | zero => intros; exact xo_no
  | succ fu ih =>
    intro t x1 H r
    rw [fb_K_awaitPumps_2]
    refine xo_iload_n (pc' := 3) dd_K_awaitPumps_2 rfl 1 rfl rfl ?_
    refine xo_aload_n (pc' := 4) dd_K_awaitPumps_3 rfl 0 rfl rfl ?_
    refine xo_getI (pc' := 7) dd_K_awaitPumps_4 ff_K_180 (by decide) rfl fun v1 => ?_
    refine xo_icmp_ge (pc' := 10) (tgt := 57) dd_K_awaitPumps_7 rfl rfl ?_ ?_
    · exact xo_vret dd_K_awaitPumps_57 rfl
    · refine xo_aload_n (pc' := 11) dd_K_awaitPumps_10 rfl 0 rfl rfl ?_
      refine xo_iload_n (pc' := 12) dd_K_awaitPumps_11 rfl 1 rfl rfl ?_
      refine xo_callVp (as := [.inl x1]) (o := (some t)) (st := []) (pc' := 15) dd_K_awaitPumps_12 cv_K_pipeAt ml_K_300 rfl rfl ⟨by decide, by decide⟩ rfl rfl rfl (Nat.le_of_ble_eq_true rfl) rfl (fun n q h => kc_K_pipeAt n x1 H q h) fun r2 => ?_
      refine xo_astore_n (pc' := 16) dd_K_awaitPumps_15 rfl (by decide) rfl rfl ?_
      refine xo_aload_n (pc' := 17) dd_K_awaitPumps_16 rfl 0 rfl rfl ?_
      refine xo_ifnull (pc' := 20) (tgt := 51) dd_K_awaitPumps_17 rfl rfl ?_ ?_
      · refine xo_iinc (pc' := 54) dd_K_awaitPumps_51 2 rfl (xo_ii (m := (1 : Int32)) (by decide)) (by decide) rfl rfl ?_
        refine xo_goto (pc' := 2) dd_K_awaitPumps_54 rfl ?_
        refine xo_sub [2, 0] rfl ?_
        exact ih t (x1 + (1 : Int32)) r2.2 r
      · refine xo_aload_n (pc' := 21) dd_K_awaitPumps_20 rfl 0 rfl rfl ?_
        refine xo_getI (pc' := 24) dd_K_awaitPumps_21 ff_K_304 (by decide) rfl fun v3 => ?_
        refine xo_if_ne (pc' := 27) (tgt := 51) dd_K_awaitPumps_24 rfl rfl ?_ ?_
        · refine xo_iinc (pc' := 54) dd_K_awaitPumps_51 2 rfl (xo_ii (m := (1 : Int32)) (by decide)) (by decide) rfl rfl ?_
          refine xo_goto (pc' := 2) dd_K_awaitPumps_54 rfl ?_
          refine xo_sub [2, 0] rfl ?_
          exact ih t (x1 + (1 : Int32)) r2.2 r
        · refine xo_aload_n (pc' := 28) dd_K_awaitPumps_27 rfl 1 rfl rfl ?_
          refine xo_getP (pc' := 31) dd_K_awaitPumps_28 ff_K_19 (by decide) rfl fun o4 => ?_
          refine xo_bipush (pc' := 33) (v := (6 : Int32)) dd_K_awaitPumps_31 (by decide) rfl ?_
          refine xo_iload_n (pc' := 34) dd_K_awaitPumps_33 rfl 2 rfl rfl ?_
          refine xo_callVi (as := [.inl (6 : Int32), .inl x1]) (o := o4) (st := []) (pc' := 37) dd_K_awaitPumps_34 cv_J_holds ml_K_122 rfl rfl ⟨by decide, by decide⟩ rfl rfl rfl (Nat.le_of_ble_eq_true rfl) rfl (fun n q h => kc_J_holds n (6 : Int32) x1 r2.2 q h) fun r5 => ?_
          refine xo_if_ne (pc' := 40) (tgt := 51) dd_K_awaitPumps_37 rfl rfl ?_ ?_
          · refine xo_iinc (pc' := 54) dd_K_awaitPumps_51 2 rfl (xo_ii (m := (1 : Int32)) (by decide)) (by decide) rfl rfl ?_
            refine xo_goto (pc' := 2) dd_K_awaitPumps_54 rfl ?_
            refine xo_sub [2, 0] rfl ?_
            exact ih t (x1 + (1 : Int32)) r5.2 r
          · refine xo_aload_n (pc' := 41) dd_K_awaitPumps_40 rfl 1 rfl rfl ?_
            refine xo_getP (pc' := 44) dd_K_awaitPumps_41 ff_K_19 (by decide) rfl fun o6 => ?_
            refine xo_bipush (pc' := 46) (v := (6 : Int32)) dd_K_awaitPumps_44 (by decide) rfl ?_
            refine xo_iload_n (pc' := 47) dd_K_awaitPumps_46 rfl 2 rfl rfl ?_
            refine xo_iconst (pc' := 48) (v := (0 : Int32)) dd_K_awaitPumps_47 (by decide) rfl ?_
            refine xo_callVv (as := [.inl (6 : Int32), .inl x1, .inl (0 : Int32)]) (o := o6) (st := []) (pc' := 51) dd_K_awaitPumps_48 cv_J_add ml_K_129 rfl rfl ⟨by decide, by decide⟩ rfl rfl rfl (Nat.le_of_ble_eq_true rfl) rfl (fun n q h => kc_J_add n (6 : Int32) x1 (0 : Int32) r5.2 q h) fun H7 => ?_
            refine xo_iinc (pc' := 54) dd_K_awaitPumps_51 2 rfl (xo_ii (m := (1 : Int32)) (by decide)) (by decide) rfl rfl ?_
            refine xo_goto (pc' := 2) dd_K_awaitPumps_54 rfl ?_
            refine xo_sub [2, 0] rfl ?_
            exact ih t (x1 + (1 : Int32)) H7 r
set_option maxRecDepth 100000 in
set_option maxHeartbeats 4000000 in
theorem kb_K_awaitPumps (t : xo_N) (H : xo_H) (r : xo_H) : xo_X mt_K_awaitPumps 0 0 xo_jv r 0 [(0, .inr (some t))] [] H (fc_K_awaitPumps t H) := by
  unfold fc_K_awaitPumps
  refine xo_iconst (pc' := 1) (v := (0 : Int32)) dd_K_awaitPumps_0 (by decide) rfl ?_
  refine xo_istore_n (pc' := 2) dd_K_awaitPumps_1 rfl (by decide) rfl rfl ?_
  refine xo_sub [1, 0] rfl ?_
  exact kb_K_awaitPumps_2 1000 t (0 : Int32) H r
set_option maxRecDepth 100000 in
set_option maxHeartbeats 4000000 in
theorem kc_K_awaitPumps (t : xo_N) (H : xo_H) (r : xo_H) (hk : fc_K_awaitPumps t H = some r) : xo_M mt_K_awaitPumps [.inr (some t)] H (xo_jv r) :=
  xo_entry hk (by decide +kernel) (Nat.le_of_ble_eq_true rfl) (kb_K_awaitPumps t H r)
def fc_K_giver (t : xo_N) (x1 : Int32) (x2 : Int32) (H : xo_H) : Option (Int32 × xo_H) :=
  (fc_K_isMark x1 H).bind fun r1 =>
  if r1.1 = 0 then (some ((-1 : Int32), r1.2))
  else (xo_gf 0 5 r1.2 (some t) fun v2 =>
  if v2 < (6 : Int32) then (xo_cl 0 (some t) (fun n9 => fc_K_addGiver n9 x1 x2 r1.2) fun r3 =>
  xo_cl 0 (some t) (fun n8 => fc_K_pullIfNeeded n8 r3.1 r3.2) fun H4 =>
  xo_cl 0 (some t) (fun n7 => fc_K_awaitPumps n7 H4) fun H5 =>
  xo_gf 5 0 H5 r3.1 fun v6 =>
  some (v6, H5))
  else (some ((-2 : Int32), r1.2)))

set_option maxRecDepth 100000 in
set_option maxHeartbeats 4000000 in
theorem kb_K_giver (t : xo_N) (x1 : Int32) (x2 : Int32) (H : xo_H) (r : Int32 × xo_H) : xo_X mt_K_giver 6 56 xo_ji r 0 [(0, .inr (some t)), (1, .inl x1), (2, .inl x2)] [] H (fc_K_giver t x1 x2 H) := by
  unfold fc_K_giver
  refine xo_iload_n (pc' := 1) dd_K_giver_0 rfl 1 rfl rfl ?_
  refine xo_callSi (as := [.inl x1]) (st := []) (pc' := 4) dd_K_giver_1 cv_K_isMark ml_K_41 rfl ⟨by decide, by decide⟩ rfl rfl rfl (Nat.le_of_ble_eq_true rfl) rfl (fun q h => kc_K_isMark x1 H q h) fun r1 => ?_
  refine xo_if_ne (pc' := 7) (tgt := 9) dd_K_giver_4 rfl rfl ?_ ?_
  · refine xo_aload_n (pc' := 10) dd_K_giver_9 rfl 0 rfl rfl ?_
    refine xo_getI (pc' := 13) dd_K_giver_10 ff_K_45 (by decide) rfl fun v2 => ?_
    refine xo_bipush (pc' := 15) (v := (6 : Int32)) dd_K_giver_13 (by decide) rfl ?_
    refine xo_icmp_lt (pc' := 18) (tgt := 21) dd_K_giver_15 rfl rfl ?_ ?_
    · refine xo_aload_n (pc' := 22) dd_K_giver_21 rfl 0 rfl rfl ?_
      refine xo_iload_n (pc' := 23) dd_K_giver_22 rfl 1 rfl rfl ?_
      refine xo_iload_n (pc' := 24) dd_K_giver_23 rfl 2 rfl rfl ?_
      refine xo_callVp (as := [.inl x1, .inl x2]) (o := (some t)) (st := []) (pc' := 27) dd_K_giver_24 cv_K_addGiver ml_K_49 rfl rfl ⟨by decide, by decide⟩ rfl rfl rfl (Nat.le_of_ble_eq_true rfl) rfl (fun n q h => kc_K_addGiver n x1 x2 r1.2 q h) fun r3 => ?_
      refine xo_astore_n (pc' := 28) dd_K_giver_27 rfl (by decide) rfl rfl ?_
      refine xo_aload_n (pc' := 29) dd_K_giver_28 rfl 1 rfl rfl ?_
      refine xo_aload_n (pc' := 30) dd_K_giver_29 rfl 0 rfl rfl ?_
      refine xo_callVv (as := [.inr r3.1]) (o := (some t)) (st := []) (pc' := 33) dd_K_giver_30 cv_K_pullIfNeeded ml_K_53 rfl rfl ⟨by decide, by decide⟩ rfl rfl rfl (Nat.le_of_ble_eq_true rfl) rfl (fun n q h => kc_K_pullIfNeeded n r3.1 r3.2 q h) fun H4 => ?_
      refine xo_aload_n (pc' := 34) dd_K_giver_33 rfl 1 rfl rfl ?_
      refine xo_callVv (as := []) (o := (some t)) (st := []) (pc' := 37) dd_K_giver_34 cv_K_awaitPumps ml_K_57 rfl rfl ⟨by decide, by decide⟩ rfl rfl rfl (Nat.le_of_ble_eq_true rfl) rfl (fun n q h => kc_K_awaitPumps n H4 q h) fun H5 => ?_
      refine xo_aload_n (pc' := 38) dd_K_giver_37 rfl 0 rfl rfl ?_
      refine xo_getI (pc' := 41) dd_K_giver_38 ff_K_60 (by decide) rfl fun v6 => ?_
      exact xo_iret dd_K_giver_41 rfl
    · refine xo_bipush (pc' := 20) (v := (-2 : Int32)) dd_K_giver_18 (by decide) rfl ?_
      exact xo_iret dd_K_giver_20 rfl
  · refine xo_iconst (pc' := 8) (v := (-1 : Int32)) dd_K_giver_7 (by decide) rfl ?_
    exact xo_iret dd_K_giver_8 rfl
set_option maxRecDepth 100000 in
set_option maxHeartbeats 4000000 in
theorem kc_K_giver (t : xo_N) (x1 : Int32) (x2 : Int32) (H : xo_H) (r : Int32 × xo_H) (hk : fc_K_giver t x1 x2 H = some r) : xo_M mt_K_giver [.inr (some t), .inl x1, .inl x2] H (xo_ji r) :=
  xo_entry hk (by decide +kernel) (Nat.le_of_ble_eq_true rfl) (kb_K_giver t x1 x2 H r)
def fc_K_taker (t : xo_N) (x1 : Int32) (x2 : Int32) (H : xo_H) : Option (Int32 × xo_H) :=
  (fc_K_isMark x1 H).bind fun r1 =>
  if r1.1 = 0 then (some ((-1 : Int32), r1.2))
  else (xo_gf 0 6 r1.2 (some t) fun v2 =>
  if v2 < (2 : Int32) then (xo_nw 7 r1.2 (30, (r1.2.1 t 6).toNatClampNeg) fun H3 =>
  xo_gf 0 6 H3 (some t) fun v5 =>
  xo_nw 4 H3 (31, (H3.1 t 6).toNatClampNeg) fun H6 =>
  (fc_C_init (31, (H3.1 t 6).toNatClampNeg) x1 x2 H6).bind fun H8 =>
  xo_gp 0 0 H8 (some t) fun o9 =>
  (fc_T_init (30, (r1.2.1 t 6).toNatClampNeg) v5 (some (31, (H3.1 t 6).toNatClampNeg)) o9 H8).bind fun H10 =>
  xo_gp 0 3 H10 (some t) fun o11 =>
  xo_gf 0 6 H10 (some t) fun v12 =>
  xo_aq 3 7 H10 o11 v12 (some (30, (r1.2.1 t 6).toNatClampNeg)) fun H13 =>
  xo_gf 0 6 H13 (some t) fun v14 =>
  xo_pf 0 6 H13 (some t) (v14 + (1 : Int32)) fun H15 =>
  xo_cl 0 (some t) (fun n18 => fc_K_awaitPumps n18 H15) fun H16 =>
  xo_gf 7 0 H16 (some (30, (r1.2.1 t 6).toNatClampNeg)) fun v17 =>
  some (v17, H16))
  else (some ((-2 : Int32), r1.2)))

set_option maxRecDepth 100000 in
set_option maxHeartbeats 4000000 in
theorem kb_K_taker (t : xo_N) (x1 : Int32) (x2 : Int32) (H : xo_H) (r : Int32 × xo_H) : xo_X mt_K_taker 6 55 xo_ji r 0 [(0, .inr (some t)), (1, .inl x1), (2, .inl x2)] [] H (fc_K_taker t x1 x2 H) := by
  unfold fc_K_taker
  refine xo_iload_n (pc' := 1) dd_K_taker_0 rfl 1 rfl rfl ?_
  refine xo_callSi (as := [.inl x1]) (st := []) (pc' := 4) dd_K_taker_1 cv_K_isMark ml_K_41 rfl ⟨by decide, by decide⟩ rfl rfl rfl (Nat.le_of_ble_eq_true rfl) rfl (fun q h => kc_K_isMark x1 H q h) fun r1 => ?_
  refine xo_if_ne (pc' := 7) (tgt := 9) dd_K_taker_4 rfl rfl ?_ ?_
  · refine xo_aload_n (pc' := 10) dd_K_taker_9 rfl 0 rfl rfl ?_
    refine xo_getI (pc' := 13) dd_K_taker_10 ff_K_63 (by decide) rfl fun v2 => ?_
    refine xo_iconst (pc' := 14) (v := (2 : Int32)) dd_K_taker_13 (by decide) rfl ?_
    refine xo_icmp_lt (pc' := 17) (tgt := 20) dd_K_taker_14 rfl rfl ?_ ?_
    · refine xo_new (pc' := 23) dd_K_taker_20 co_K_29 rfl rfl rfl fun H3 => ?_
      refine xo_dup (pc' := 24) dd_K_taker_23 rfl ?_
      refine xo_aload_n (pc' := 25) dd_K_taker_24 rfl 0 rfl rfl ?_
      refine xo_getI (pc' := 28) dd_K_taker_25 ff_K_63 (by decide) rfl fun v5 => ?_
      refine xo_new (pc' := 31) dd_K_taker_28 co_K_66 rfl rfl rfl fun H6 => ?_
      refine xo_dup (pc' := 32) dd_K_taker_31 rfl ?_
      refine xo_iload_n (pc' := 33) dd_K_taker_32 rfl 1 rfl rfl ?_
      refine xo_iload_n (pc' := 34) dd_K_taker_33 rfl 2 rfl rfl ?_
      refine xo_callIv (as := [.inl x1, .inl x2]) (n := (31, (H3.1 t 6).toNatClampNeg)) (st := [.inr (some (31, (H3.1 t 6).toNatClampNeg)), .inl v5, .inr (some (30, (r1.2.1 t 6).toNatClampNeg)), .inr (some (30, (r1.2.1 t 6).toNatClampNeg))]) (pc' := 37) dd_K_taker_34 cv_C_init ml_K_68 rfl ⟨by decide, by decide⟩ rfl rfl rfl (Nat.le_of_ble_eq_true rfl) rfl (fun q h => kc_C_init (31, (H3.1 t 6).toNatClampNeg) x1 x2 H6 q h) fun H8 => ?_
      refine xo_aload_n (pc' := 38) dd_K_taker_37 rfl 0 rfl rfl ?_
      refine xo_getP (pc' := 41) dd_K_taker_38 ff_K_12 (by decide) rfl fun o9 => ?_
      refine xo_callIv (as := [.inl v5, .inr (some (31, (H3.1 t 6).toNatClampNeg)), .inr o9]) (n := (30, (r1.2.1 t 6).toNatClampNeg)) (st := [.inr (some (30, (r1.2.1 t 6).toNatClampNeg))]) (pc' := 44) dd_K_taker_41 cv_T_init ml_K_71 rfl ⟨by decide, by decide⟩ rfl rfl rfl (Nat.le_of_ble_eq_true rfl) rfl (fun q h => kc_T_init (30, (r1.2.1 t 6).toNatClampNeg) v5 (some (31, (H3.1 t 6).toNatClampNeg)) o9 H8 q h) fun H10 => ?_
      refine xo_astore_n (pc' := 45) dd_K_taker_44 rfl (by decide) rfl rfl ?_
      refine xo_aload_n (pc' := 46) dd_K_taker_45 rfl 1 rfl rfl ?_
      refine xo_getP (pc' := 49) dd_K_taker_46 ff_K_31 (by decide) rfl fun o11 => ?_
      refine xo_aload_n (pc' := 50) dd_K_taker_49 rfl 1 rfl rfl ?_
      refine xo_getI (pc' := 53) dd_K_taker_50 ff_K_63 (by decide) rfl fun v12 => ?_
      refine xo_aload_n (pc' := 54) dd_K_taker_53 rfl 0 rfl rfl ?_
      refine xo_aast (pc' := 55) dd_K_taker_54 (by decide) rfl rfl rfl fun H13 => ?_
      refine xo_aload_n (pc' := 56) dd_K_taker_55 rfl 1 rfl rfl ?_
      refine xo_dup (pc' := 57) dd_K_taker_56 rfl ?_
      refine xo_getI (pc' := 60) dd_K_taker_57 ff_K_63 (by decide) rfl fun v14 => ?_
      refine xo_iconst (pc' := 61) (v := (1 : Int32)) dd_K_taker_60 (by decide) rfl ?_
      refine xo_iadd (pc' := 62) dd_K_taker_61 rfl ?_
      refine xo_putI (pc' := 65) dd_K_taker_62 ff_K_63 rfl fun H15 => ?_
      refine xo_aload_n (pc' := 66) dd_K_taker_65 rfl 1 rfl rfl ?_
      refine xo_callVv (as := []) (o := (some t)) (st := []) (pc' := 69) dd_K_taker_66 cv_K_awaitPumps ml_K_57 rfl rfl ⟨by decide, by decide⟩ rfl rfl rfl (Nat.le_of_ble_eq_true rfl) rfl (fun n q h => kc_K_awaitPumps n H15 q h) fun H16 => ?_
      refine xo_aload_n (pc' := 70) dd_K_taker_69 rfl 0 rfl rfl ?_
      refine xo_getI (pc' := 73) dd_K_taker_70 ff_K_74 (by decide) rfl fun v17 => ?_
      exact xo_iret dd_K_taker_73 rfl
    · refine xo_bipush (pc' := 19) (v := (-2 : Int32)) dd_K_taker_17 (by decide) rfl ?_
      exact xo_iret dd_K_taker_19 rfl
  · refine xo_iconst (pc' := 8) (v := (-1 : Int32)) dd_K_taker_7 (by decide) rfl ?_
    exact xo_iret dd_K_taker_8 rfl
set_option maxRecDepth 100000 in
set_option maxHeartbeats 4000000 in
theorem kc_K_taker (t : xo_N) (x1 : Int32) (x2 : Int32) (H : xo_H) (r : Int32 × xo_H) (hk : fc_K_taker t x1 x2 H = some r) : xo_M mt_K_taker [.inr (some t), .inl x1, .inl x2] H (xo_ji r) :=
  xo_entry hk (by decide +kernel) (Nat.le_of_ble_eq_true rfl) (kb_K_taker t x1 x2 H r)
def fc_K_giverAt (t : xo_N) (x1 : Int32) (H : xo_H) : Option (Option xo_N × xo_H) :=
  if x1 < 0 then (some (none, H))
  else (xo_gf 0 5 H (some t) fun v1 =>
  if x1 < v1 then (xo_gp 0 2 H (some t) fun o2 =>
  xo_ap 2 H o2 x1 fun o3 =>
  some (o3, H))
  else (some (none, H)))

set_option maxRecDepth 100000 in
set_option maxHeartbeats 4000000 in
theorem kb_K_giverAt (t : xo_N) (x1 : Int32) (H : xo_H) (r : Option xo_N × xo_H) : xo_X mt_K_giverAt 0 0 xo_jp r 0 [(0, .inr (some t)), (1, .inl x1)] [] H (fc_K_giverAt t x1 H) := by
  unfold fc_K_giverAt
  refine xo_iload_n (pc' := 1) dd_K_giverAt_0 rfl 1 rfl rfl ?_
  refine xo_if_lt (pc' := 4) (tgt := 21) dd_K_giverAt_1 rfl rfl ?_ ?_
  · refine xo_null (pc' := 22) dd_K_giverAt_21 rfl ?_
    exact xo_aret dd_K_giverAt_22 rfl
  · refine xo_iload_n (pc' := 5) dd_K_giverAt_4 rfl 1 rfl rfl ?_
    refine xo_aload_n (pc' := 6) dd_K_giverAt_5 rfl 0 rfl rfl ?_
    refine xo_getI (pc' := 9) dd_K_giverAt_6 ff_K_45 (by decide) rfl fun v1 => ?_
    refine xo_icmp_ge (pc' := 12) (tgt := 21) dd_K_giverAt_9 rfl rfl ?_ ?_
    · refine xo_null (pc' := 22) dd_K_giverAt_21 rfl ?_
      exact xo_aret dd_K_giverAt_22 rfl
    · refine xo_aload_n (pc' := 13) dd_K_giverAt_12 rfl 0 rfl rfl ?_
      refine xo_getP (pc' := 16) dd_K_giverAt_13 ff_K_25 (by decide) rfl fun o2 => ?_
      refine xo_iload_n (pc' := 17) dd_K_giverAt_16 rfl 1 rfl rfl ?_
      refine xo_aald (pc' := 18) dd_K_giverAt_17 (by decide) rfl fun o3 => ?_
      refine xo_goto (pc' := 22) dd_K_giverAt_18 rfl ?_
      exact xo_aret dd_K_giverAt_22 rfl
set_option maxRecDepth 100000 in
set_option maxHeartbeats 4000000 in
theorem kc_K_giverAt (t : xo_N) (x1 : Int32) (H : xo_H) (r : Option xo_N × xo_H) (hk : fc_K_giverAt t x1 H = some r) : xo_M mt_K_giverAt [.inr (some t), .inl x1] H (xo_jp r) :=
  xo_entry hk (by decide +kernel) (Nat.le_of_ble_eq_true rfl) (kb_K_giverAt t x1 H r)
def fc_K_rootAt (t : xo_N) (x1 : Int32) (H : xo_H) : Option (Option xo_N × xo_H) :=
  xo_cl 0 (some t) (fun n3 => fc_K_giverAt n3 x1 H) fun r1 =>
  if r1.1 = none then (some (none, r1.2))
  else (xo_gp 5 11 r1.2 r1.1 fun o2 =>
  if o2 = none then (some (r1.1, r1.2))
  else (some (none, r1.2)))

set_option maxRecDepth 100000 in
set_option maxHeartbeats 4000000 in
theorem kb_K_rootAt (t : xo_N) (x1 : Int32) (H : xo_H) (r : Option xo_N × xo_H) : xo_X mt_K_rootAt 0 0 xo_jp r 0 [(0, .inr (some t)), (1, .inl x1)] [] H (fc_K_rootAt t x1 H) := by
  unfold fc_K_rootAt
  refine xo_aload_n (pc' := 1) dd_K_rootAt_0 rfl 0 rfl rfl ?_
  refine xo_iload_n (pc' := 2) dd_K_rootAt_1 rfl 1 rfl rfl ?_
  refine xo_callVp (as := [.inl x1]) (o := (some t)) (st := []) (pc' := 5) dd_K_rootAt_2 cv_K_giverAt ml_K_133 rfl rfl ⟨by decide, by decide⟩ rfl rfl rfl (Nat.le_of_ble_eq_true rfl) rfl (fun n q h => kc_K_giverAt n x1 H q h) fun r1 => ?_
  refine xo_astore_n (pc' := 6) dd_K_rootAt_5 rfl (by decide) rfl rfl ?_
  refine xo_aload_n (pc' := 7) dd_K_rootAt_6 rfl 0 rfl rfl ?_
  refine xo_ifnull (pc' := 10) (tgt := 21) dd_K_rootAt_7 rfl rfl ?_ ?_
  · refine xo_null (pc' := 22) dd_K_rootAt_21 rfl ?_
    exact xo_aret dd_K_rootAt_22 rfl
  · refine xo_aload_n (pc' := 11) dd_K_rootAt_10 rfl 0 rfl rfl ?_
    refine xo_getP (pc' := 14) dd_K_rootAt_11 ff_K_191 (by decide) rfl fun o2 => ?_
    refine xo_ifnonnull (pc' := 17) (tgt := 21) dd_K_rootAt_14 rfl rfl ?_ ?_
    · refine xo_null (pc' := 22) dd_K_rootAt_21 rfl ?_
      exact xo_aret dd_K_rootAt_22 rfl
    · refine xo_aload_n (pc' := 18) dd_K_rootAt_17 rfl 0 rfl rfl ?_
      refine xo_goto (pc' := 22) dd_K_rootAt_18 rfl ?_
      exact xo_aret dd_K_rootAt_22 rfl
set_option maxRecDepth 100000 in
set_option maxHeartbeats 4000000 in
theorem kc_K_rootAt (t : xo_N) (x1 : Int32) (H : xo_H) (r : Option xo_N × xo_H) (hk : fc_K_rootAt t x1 H = some r) : xo_M mt_K_rootAt [.inr (some t), .inl x1] H (xo_jp r) :=
  xo_entry hk (by decide +kernel) (Nat.le_of_ble_eq_true rfl) (kb_K_rootAt t x1 H r)
def fc_K_answerChunk (t : xo_N) (x1 : Option xo_N) (x2 : Int32) (x3 : Int32) (H : xo_H) : Option (xo_H) :=
  if x2 = 0 then (xo_gp 5 12 H x1 fun o1 =>
  if o1 = none then (xo_gp 5 13 H x1 fun o2 =>
  if o2 = none then (some H)
  else (xo_gp 5 13 H x1 fun o3 =>
  xo_gp 8 2 H o3 fun o4 =>
  xo_cl 7 o4 (fun n6 => fc_T_accept n6 x3 H) fun r5 =>
  some r5.2))
  else (xo_gp 0 1 H (some t) fun o7 =>
  xo_gf 5 0 H x1 fun v8 =>
  xo_cl 2 o7 (fun n10 => fc_J_add n10 (2 : Int32) v8 x3 H) fun H9 =>
  some H9))
  else (xo_gp 0 0 H (some t) fun o11 =>
  xo_gf 5 0 H x1 fun v12 =>
  xo_cl 1 o11 (fun n14 => fc_L_note n14 (6 : Int32) v12 x2 x3 H) fun H13 =>
  some H13)

set_option maxRecDepth 100000 in
set_option maxHeartbeats 4000000 in
theorem kb_K_answerChunk (t : xo_N) (x1 : Option xo_N) (x2 : Int32) (x3 : Int32) (H : xo_H) (r : xo_H) : xo_X mt_K_answerChunk 0 0 xo_jv r 0 [(0, .inr (some t)), (1, .inr x1), (2, .inl x2), (3, .inl x3)] [] H (fc_K_answerChunk t x1 x2 x3 H) := by
  unfold fc_K_answerChunk
  refine xo_iload_n (pc' := 1) dd_K_answerChunk_0 rfl 2 rfl rfl ?_
  refine xo_if_eq (pc' := 4) (tgt := 22) dd_K_answerChunk_1 rfl rfl ?_ ?_
  · refine xo_aload_n (pc' := 23) dd_K_answerChunk_22 rfl 1 rfl rfl ?_
    refine xo_getP (pc' := 26) dd_K_answerChunk_23 ff_K_200 (by decide) rfl fun o1 => ?_
    refine xo_ifnull (pc' := 29) (tgt := 45) dd_K_answerChunk_26 rfl rfl ?_ ?_
    · refine xo_aload_n (pc' := 46) dd_K_answerChunk_45 rfl 1 rfl rfl ?_
      refine xo_getP (pc' := 49) dd_K_answerChunk_46 ff_K_186 (by decide) rfl fun o2 => ?_
      refine xo_ifnull (pc' := 52) (tgt := 64) dd_K_answerChunk_49 rfl rfl ?_ ?_
      · exact xo_vret dd_K_answerChunk_64 rfl
      · refine xo_aload_n (pc' := 53) dd_K_answerChunk_52 rfl 1 rfl rfl ?_
        refine xo_getP (pc' := 56) dd_K_answerChunk_53 ff_K_186 (by decide) rfl fun o3 => ?_
        refine xo_getP (pc' := 59) dd_K_answerChunk_56 ff_K_258 (by decide) rfl fun o4 => ?_
        refine xo_iload_n (pc' := 60) dd_K_answerChunk_59 rfl 3 rfl rfl ?_
        refine xo_callVi (as := [.inl x3]) (o := o4) (st := []) (pc' := 63) dd_K_answerChunk_60 cv_T_accept ml_K_156 rfl rfl ⟨by decide, by decide⟩ rfl rfl rfl (Nat.le_of_ble_eq_true rfl) rfl (fun n q h => kc_T_accept n x3 H q h) fun r5 => ?_
        refine xo_pop (pc' := 64) dd_K_answerChunk_63 rfl ?_
        exact xo_vret dd_K_answerChunk_64 rfl
    · refine xo_aload_n (pc' := 30) dd_K_answerChunk_29 rfl 0 rfl rfl ?_
      refine xo_getP (pc' := 33) dd_K_answerChunk_30 ff_K_19 (by decide) rfl fun o7 => ?_
      refine xo_iconst (pc' := 34) (v := (2 : Int32)) dd_K_answerChunk_33 (by decide) rfl ?_
      refine xo_aload_n (pc' := 35) dd_K_answerChunk_34 rfl 1 rfl rfl ?_
      refine xo_getI (pc' := 38) dd_K_answerChunk_35 ff_K_60 (by decide) rfl fun v8 => ?_
      refine xo_iload_n (pc' := 39) dd_K_answerChunk_38 rfl 3 rfl rfl ?_
      refine xo_callVv (as := [.inl (2 : Int32), .inl v8, .inl x3]) (o := o7) (st := []) (pc' := 42) dd_K_answerChunk_39 cv_J_add ml_K_129 rfl rfl ⟨by decide, by decide⟩ rfl rfl rfl (Nat.le_of_ble_eq_true rfl) rfl (fun n q h => kc_J_add n (2 : Int32) v8 x3 H q h) fun H9 => ?_
      refine xo_goto (pc' := 64) dd_K_answerChunk_42 rfl ?_
      exact xo_vret dd_K_answerChunk_64 rfl
  · refine xo_aload_n (pc' := 5) dd_K_answerChunk_4 rfl 0 rfl rfl ?_
    refine xo_getP (pc' := 8) dd_K_answerChunk_5 ff_K_12 (by decide) rfl fun o11 => ?_
    refine xo_bipush (pc' := 10) (v := (6 : Int32)) dd_K_answerChunk_8 (by decide) rfl ?_
    refine xo_aload_n (pc' := 11) dd_K_answerChunk_10 rfl 1 rfl rfl ?_
    refine xo_getI (pc' := 14) dd_K_answerChunk_11 ff_K_60 (by decide) rfl fun v12 => ?_
    refine xo_iload_n (pc' := 15) dd_K_answerChunk_14 rfl 2 rfl rfl ?_
    refine xo_iload_n (pc' := 16) dd_K_answerChunk_15 rfl 3 rfl rfl ?_
    refine xo_callVv (as := [.inl (6 : Int32), .inl v12, .inl x2, .inl x3]) (o := o11) (st := []) (pc' := 19) dd_K_answerChunk_16 cv_L_note ml_K_254 rfl rfl ⟨by decide, by decide⟩ rfl rfl rfl (Nat.le_of_ble_eq_true rfl) rfl (fun n q h => kc_L_note n (6 : Int32) v12 x2 x3 H q h) fun H13 => ?_
    refine xo_goto (pc' := 64) dd_K_answerChunk_19 rfl ?_
    exact xo_vret dd_K_answerChunk_64 rfl
set_option maxRecDepth 100000 in
set_option maxHeartbeats 4000000 in
theorem kc_K_answerChunk (t : xo_N) (x1 : Option xo_N) (x2 : Int32) (x3 : Int32) (H : xo_H) (r : xo_H) (hk : fc_K_answerChunk t x1 x2 x3 H = some r) : xo_M mt_K_answerChunk [.inr (some t), .inr x1, .inl x2, .inl x3] H (xo_jv r) :=
  xo_entry hk (by decide +kernel) (Nat.le_of_ble_eq_true rfl) (kb_K_answerChunk t x1 x2 x3 H r)
def fb_K_takeIn_34 (t : xo_N) (x1 : Option xo_N) (H : xo_H) : Option (xo_H) :=
  xo_cl 0 (some t) (fun n2 => fc_K_pullIfNeeded n2 x1 H) fun H1 =>
  some H1

def fc_K_takeIn (t : xo_N) (x1 : Option xo_N) (x2 : Int32) (H : xo_H) : Option (xo_H) :=
  xo_gp 5 3 H x1 fun o1 =>
  xo_gf 3 2 H o1 fun v2 =>
  if 0 < v2 then (xo_gp 5 3 H x1 fun o6 =>
  xo_cl 3 o6 (fun n10 => fc_R_takeFirst n10 H) fun r7 =>
  xo_cl 0 (some t) (fun n9 => fc_K_answerChunk n9 x1 r7.1 x2 r7.2) fun H8 =>
  fb_K_takeIn_34 t x1 H8)
  else (xo_gp 5 1 H x1 fun o3 =>
  xo_cl 4 o3 (fun n5 => fc_C_add n5 x2 H) fun H4 =>
  fb_K_takeIn_34 t x1 H4)

set_option maxRecDepth 100000 in
set_option maxHeartbeats 4000000 in
theorem kb_K_takeIn_34 (t : xo_N) (x1 : Option xo_N) (H : xo_H) (r : xo_H) : xo_X mt_K_takeIn 0 0 xo_jv r 34 [(0, .inr (some t)), (1, .inr x1)] [] H (fb_K_takeIn_34 t x1 H) := by
  unfold fb_K_takeIn_34
  refine xo_aload_n (pc' := 35) dd_K_takeIn_34 rfl 0 rfl rfl ?_
  refine xo_aload_n (pc' := 36) dd_K_takeIn_35 rfl 1 rfl rfl ?_
  refine xo_callVv (as := [.inr x1]) (o := (some t)) (st := []) (pc' := 39) dd_K_takeIn_36 cv_K_pullIfNeeded ml_K_53 rfl rfl ⟨by decide, by decide⟩ rfl rfl rfl (Nat.le_of_ble_eq_true rfl) rfl (fun n q h => kc_K_pullIfNeeded n x1 H q h) fun H1 => ?_
  exact xo_vret dd_K_takeIn_39 rfl
set_option maxRecDepth 100000 in
set_option maxHeartbeats 4000000 in
theorem kb_K_takeIn (t : xo_N) (x1 : Option xo_N) (x2 : Int32) (H : xo_H) (r : xo_H) : xo_X mt_K_takeIn 0 0 xo_jv r 0 [(0, .inr (some t)), (1, .inr x1), (2, .inl x2)] [] H (fc_K_takeIn t x1 x2 H) := by
  unfold fc_K_takeIn
  refine xo_aload_n (pc' := 1) dd_K_takeIn_0 rfl 1 rfl rfl ?_
  refine xo_getP (pc' := 4) dd_K_takeIn_1 ff_K_91 (by decide) rfl fun o1 => ?_
  refine xo_getI (pc' := 7) dd_K_takeIn_4 ff_K_95 (by decide) rfl fun v2 => ?_
  refine xo_if_le (pc' := 10) (tgt := 26) dd_K_takeIn_7 rfl rfl ?_ ?_
  · refine xo_aload_n (pc' := 27) dd_K_takeIn_26 rfl 1 rfl rfl ?_
    refine xo_getP (pc' := 30) dd_K_takeIn_27 ff_K_83 (by decide) rfl fun o3 => ?_
    refine xo_iload_n (pc' := 31) dd_K_takeIn_30 rfl 2 rfl rfl ?_
    refine xo_callVv (as := [.inl x2]) (o := o3) (st := []) (pc' := 34) dd_K_takeIn_31 cv_C_add ml_K_252 rfl rfl ⟨by decide, by decide⟩ rfl rfl rfl (Nat.le_of_ble_eq_true rfl) rfl (fun n q h => kc_C_add n x2 H q h) fun H4 => ?_
    refine xo_sub [0, 1] rfl ?_
    exact kb_K_takeIn_34 t x1 H4 r
  · refine xo_aload_n (pc' := 11) dd_K_takeIn_10 rfl 0 rfl rfl ?_
    refine xo_aload_n (pc' := 12) dd_K_takeIn_11 rfl 1 rfl rfl ?_
    refine xo_aload_n (pc' := 13) dd_K_takeIn_12 rfl 1 rfl rfl ?_
    refine xo_getP (pc' := 16) dd_K_takeIn_13 ff_K_91 (by decide) rfl fun o6 => ?_
    refine xo_callVi (as := []) (o := o6) (st := [.inr x1, .inr (some t)]) (pc' := 19) dd_K_takeIn_16 cv_R_takeFirst ml_K_245 rfl rfl ⟨by decide, by decide⟩ rfl rfl rfl (Nat.le_of_ble_eq_true rfl) rfl (fun n q h => kc_R_takeFirst n H q h) fun r7 => ?_
    refine xo_iload_n (pc' := 20) dd_K_takeIn_19 rfl 2 rfl rfl ?_
    refine xo_callVv (as := [.inr x1, .inl r7.1, .inl x2]) (o := (some t)) (st := []) (pc' := 23) dd_K_takeIn_20 cv_K_answerChunk ml_K_248 rfl rfl ⟨by decide, by decide⟩ rfl rfl rfl (Nat.le_of_ble_eq_true rfl) rfl (fun n q h => kc_K_answerChunk n x1 r7.1 x2 r7.2 q h) fun H8 => ?_
    refine xo_goto (pc' := 34) dd_K_takeIn_23 rfl ?_
    refine xo_sub [0, 1] rfl ?_
    exact kb_K_takeIn_34 t x1 H8 r
set_option maxRecDepth 100000 in
set_option maxHeartbeats 4000000 in
theorem kc_K_takeIn (t : xo_N) (x1 : Option xo_N) (x2 : Int32) (H : xo_H) (r : xo_H) (hk : fc_K_takeIn t x1 x2 H = some r) : xo_M mt_K_takeIn [.inr (some t), .inr x1, .inl x2] H (xo_jv r) :=
  xo_entry hk (by decide +kernel) (Nat.le_of_ble_eq_true rfl) (kb_K_takeIn t x1 x2 H r)
def fb_K_put_43 (t : xo_N) (x2 : Int32) (x3 : Option xo_N) (H : xo_H) : Option (Int32 × xo_H) :=
  xo_cl 0 (some t) (fun n4 => fc_K_takeIn n4 x3 x2 H) fun H1 =>
  xo_cl 0 (some t) (fun n3 => fc_K_awaitPumps n3 H1) fun H2 =>
  xo_gb (1 : Int32) (some ((1 : Int32), H2))

def fc_K_put (t : xo_N) (x1 : Int32) (x2 : Int32) (H : xo_H) : Option (Int32 × xo_H) :=
  xo_cl 0 (some t) (fun n9 => fc_K_rootAt n9 x1 H) fun r1 =>
  if r1.1 = none then (xo_gb (0 : Int32) (some ((0 : Int32), r1.2)))
  else (xo_cl 5 r1.1 (fun n8 => fc_G_isGoing n8 r1.2) fun r2 =>
  if r2.1 = 0 then (xo_gb (0 : Int32) (some ((0 : Int32), r2.2)))
  else (xo_gp 5 1 r2.2 r1.1 fun o3 =>
  xo_cl 4 o3 (fun n7 => fc_C_count n7 r2.2) fun r4 =>
  if r4.1 < (16 : Int32) then (fb_K_put_43 t x2 r1.1 r4.2)
  else (xo_gp 5 3 r4.2 r1.1 fun o5 =>
  xo_gf 3 2 r4.2 o5 fun v6 =>
  if v6 = 0 then (xo_gb (0 : Int32) (some ((0 : Int32), r4.2)))
  else (fb_K_put_43 t x2 r1.1 r4.2))))

set_option maxRecDepth 100000 in
set_option maxHeartbeats 4000000 in
theorem kb_K_put_43 (t : xo_N) (x2 : Int32) (x3 : Option xo_N) (H : xo_H) (r : Int32 × xo_H) : xo_X mt_K_put 0 0 xo_ji r 43 [(0, .inr (some t)), (2, .inl x2), (3, .inr x3)] [] H (fb_K_put_43 t x2 x3 H) := by
  unfold fb_K_put_43
  refine xo_aload_n (pc' := 44) dd_K_put_43 rfl 0 rfl rfl ?_
  refine xo_aload_n (pc' := 45) dd_K_put_44 rfl 2 rfl rfl ?_
  refine xo_iload_n (pc' := 46) dd_K_put_45 rfl 1 rfl rfl ?_
  refine xo_callVv (as := [.inr x3, .inl x2]) (o := (some t)) (st := []) (pc' := 49) dd_K_put_46 cv_K_takeIn ml_K_99 rfl rfl ⟨by decide, by decide⟩ rfl rfl rfl (Nat.le_of_ble_eq_true rfl) rfl (fun n q h => kc_K_takeIn n x3 x2 H q h) fun H1 => ?_
  refine xo_aload_n (pc' := 50) dd_K_put_49 rfl 0 rfl rfl ?_
  refine xo_callVv (as := []) (o := (some t)) (st := []) (pc' := 53) dd_K_put_50 cv_K_awaitPumps ml_K_57 rfl rfl ⟨by decide, by decide⟩ rfl rfl rfl (Nat.le_of_ble_eq_true rfl) rfl (fun n q h => kc_K_awaitPumps n H1 q h) fun H2 => ?_
  refine xo_iconst (pc' := 54) (v := (1 : Int32)) dd_K_put_53 (by decide) rfl ?_
  exact xo_zret dd_K_put_54 rfl
set_option maxRecDepth 100000 in
set_option maxHeartbeats 4000000 in
theorem kb_K_put (t : xo_N) (x1 : Int32) (x2 : Int32) (H : xo_H) (r : Int32 × xo_H) : xo_X mt_K_put 0 0 xo_ji r 0 [(0, .inr (some t)), (1, .inl x1), (2, .inl x2)] [] H (fc_K_put t x1 x2 H) := by
  unfold fc_K_put
  refine xo_aload_n (pc' := 1) dd_K_put_0 rfl 0 rfl rfl ?_
  refine xo_iload_n (pc' := 2) dd_K_put_1 rfl 1 rfl rfl ?_
  refine xo_callVp (as := [.inl x1]) (o := (some t)) (st := []) (pc' := 5) dd_K_put_2 cv_K_rootAt ml_K_75 rfl rfl ⟨by decide, by decide⟩ rfl rfl rfl (Nat.le_of_ble_eq_true rfl) rfl (fun n q h => kc_K_rootAt n x1 H q h) fun r1 => ?_
  refine xo_astore_n (pc' := 6) dd_K_put_5 rfl (by decide) rfl rfl ?_
  refine xo_aload_n (pc' := 7) dd_K_put_6 rfl 0 rfl rfl ?_
  refine xo_ifnull (pc' := 10) (tgt := 17) dd_K_put_7 rfl rfl ?_ ?_
  · refine xo_iconst (pc' := 18) (v := (0 : Int32)) dd_K_put_17 (by decide) rfl ?_
    exact xo_zret dd_K_put_18 rfl
  · refine xo_aload_n (pc' := 11) dd_K_put_10 rfl 0 rfl rfl ?_
    refine xo_callVi (as := []) (o := r1.1) (st := []) (pc' := 14) dd_K_put_11 cv_G_isGoing ml_K_79 rfl rfl ⟨by decide, by decide⟩ rfl rfl rfl (Nat.le_of_ble_eq_true rfl) rfl (fun n q h => kc_G_isGoing n r1.2 q h) fun r2 => ?_
    refine xo_if_ne (pc' := 17) (tgt := 19) dd_K_put_14 rfl rfl ?_ ?_
    · refine xo_aload_n (pc' := 20) dd_K_put_19 rfl 0 rfl rfl ?_
      refine xo_getP (pc' := 23) dd_K_put_20 ff_K_83 (by decide) rfl fun o3 => ?_
      refine xo_callVi (as := []) (o := o3) (st := []) (pc' := 26) dd_K_put_23 cv_C_count ml_K_87 rfl rfl ⟨by decide, by decide⟩ rfl rfl rfl (Nat.le_of_ble_eq_true rfl) rfl (fun n q h => kc_C_count n r2.2 q h) fun r4 => ?_
      refine xo_bipush (pc' := 28) (v := (16 : Int32)) dd_K_put_26 (by decide) rfl ?_
      refine xo_icmp_lt (pc' := 31) (tgt := 43) dd_K_put_28 rfl rfl ?_ ?_
      · refine xo_sub [1, 3, 0] rfl ?_
        exact kb_K_put_43 t x2 r1.1 r4.2 r
      · refine xo_aload_n (pc' := 32) dd_K_put_31 rfl 0 rfl rfl ?_
        refine xo_getP (pc' := 35) dd_K_put_32 ff_K_91 (by decide) rfl fun o5 => ?_
        refine xo_getI (pc' := 38) dd_K_put_35 ff_K_95 (by decide) rfl fun v6 => ?_
        refine xo_if_ne (pc' := 41) (tgt := 43) dd_K_put_38 rfl rfl ?_ ?_
        · refine xo_sub [1, 3, 0] rfl ?_
          exact kb_K_put_43 t x2 r1.1 r4.2 r
        · refine xo_iconst (pc' := 42) (v := (0 : Int32)) dd_K_put_41 (by decide) rfl ?_
          exact xo_zret dd_K_put_42 rfl
    · refine xo_iconst (pc' := 18) (v := (0 : Int32)) dd_K_put_17 (by decide) rfl ?_
      exact xo_zret dd_K_put_18 rfl
set_option maxRecDepth 100000 in
set_option maxHeartbeats 4000000 in
theorem kc_K_put (t : xo_N) (x1 : Int32) (x2 : Int32) (H : xo_H) (r : Int32 × xo_H) (hk : fc_K_put t x1 x2 H = some r) : xo_M mt_K_put [.inr (some t), .inl x1, .inl x2] H (xo_ji r) :=
  xo_entry hk (by decide +kernel) (Nat.le_of_ble_eq_true rfl) (kb_K_put t x1 x2 H r)
def fb_K_closeGiver_22 (t : xo_N) (x1 : Option xo_N) (s0 : Int32) (H : xo_H) : Option (xo_H) :=
  xo_pf 5 4 H x1 (1 : Int32) fun H1 =>
  xo_cl 5 x1 (fun n6 => fc_G_answerAll n6 H1) fun H2 =>
  if s0 = 0 then (some H2)
  else (xo_gp 5 12 H2 x1 fun o3 =>
  xo_cl 0 (some t) (fun n5 => fc_K_endBranches n5 o3 H2) fun H4 =>
  some H4)

def fc_K_closeGiver (t : xo_N) (x1 : Option xo_N) (H : xo_H) : Option (xo_H) :=
  xo_gp 5 12 H x1 fun o1 =>
  if o1 = none then (fb_K_closeGiver_22 t x1 (0 : Int32) H)
  else (xo_gp 5 3 H x1 fun o2 =>
  xo_gf 3 2 H o2 fun v3 =>
  if 0 < v3 then (fb_K_closeGiver_22 t x1 (1 : Int32) H)
  else (fb_K_closeGiver_22 t x1 (0 : Int32) H))

set_option maxRecDepth 100000 in
set_option maxHeartbeats 4000000 in
theorem kb_K_closeGiver_22 (t : xo_N) (x1 : Option xo_N) (s0 : Int32) (H : xo_H) (r : xo_H) : xo_X mt_K_closeGiver 0 0 xo_jv r 22 [(0, .inr (some t)), (1, .inr x1)] [.inl s0] H (fb_K_closeGiver_22 t x1 s0 H) := by
  unfold fb_K_closeGiver_22
  refine xo_istore_n (pc' := 23) dd_K_closeGiver_22 rfl (by decide) rfl rfl ?_
  refine xo_aload_n (pc' := 24) dd_K_closeGiver_23 rfl 2 rfl rfl ?_
  refine xo_iconst (pc' := 25) (v := (1 : Int32)) dd_K_closeGiver_24 (by decide) rfl ?_
  refine xo_putI (pc' := 28) dd_K_closeGiver_25 ff_K_110 rfl fun H1 => ?_
  refine xo_aload_n (pc' := 29) dd_K_closeGiver_28 rfl 2 rfl rfl ?_
  refine xo_callVv (as := []) (o := x1) (st := []) (pc' := 32) dd_K_closeGiver_29 cv_G_answerAll ml_K_267 rfl rfl ⟨by decide, by decide⟩ rfl rfl rfl (Nat.le_of_ble_eq_true rfl) rfl (fun n q h => kc_G_answerAll n H1 q h) fun H2 => ?_
  refine xo_iload_n (pc' := 33) dd_K_closeGiver_32 rfl 0 rfl rfl ?_
  refine xo_if_eq (pc' := 36) (tgt := 44) dd_K_closeGiver_33 rfl rfl ?_ ?_
  · exact xo_vret dd_K_closeGiver_44 rfl
  · refine xo_aload_n (pc' := 37) dd_K_closeGiver_36 rfl 1 rfl rfl ?_
    refine xo_aload_n (pc' := 38) dd_K_closeGiver_37 rfl 2 rfl rfl ?_
    refine xo_getP (pc' := 41) dd_K_closeGiver_38 ff_K_200 (by decide) rfl fun o3 => ?_
    refine xo_callVv (as := [.inr o3]) (o := (some t)) (st := []) (pc' := 44) dd_K_closeGiver_41 cv_K_endBranches ml_K_203 rfl rfl ⟨by decide, by decide⟩ rfl rfl rfl (Nat.le_of_ble_eq_true rfl) rfl (fun n q h => kc_K_endBranches n o3 H2 q h) fun H4 => ?_
    exact xo_vret dd_K_closeGiver_44 rfl
set_option maxRecDepth 100000 in
set_option maxHeartbeats 4000000 in
theorem kb_K_closeGiver (t : xo_N) (x1 : Option xo_N) (H : xo_H) (r : xo_H) : xo_X mt_K_closeGiver 0 0 xo_jv r 0 [(0, .inr (some t)), (1, .inr x1)] [] H (fc_K_closeGiver t x1 H) := by
  unfold fc_K_closeGiver
  refine xo_aload_n (pc' := 1) dd_K_closeGiver_0 rfl 1 rfl rfl ?_
  refine xo_getP (pc' := 4) dd_K_closeGiver_1 ff_K_200 (by decide) rfl fun o1 => ?_
  refine xo_ifnull (pc' := 7) (tgt := 21) dd_K_closeGiver_4 rfl rfl ?_ ?_
  · refine xo_iconst (pc' := 22) (v := (0 : Int32)) dd_K_closeGiver_21 (by decide) rfl ?_
    exact kb_K_closeGiver_22 t x1 (0 : Int32) H r
  · refine xo_aload_n (pc' := 8) dd_K_closeGiver_7 rfl 1 rfl rfl ?_
    refine xo_getP (pc' := 11) dd_K_closeGiver_8 ff_K_91 (by decide) rfl fun o2 => ?_
    refine xo_getI (pc' := 14) dd_K_closeGiver_11 ff_K_95 (by decide) rfl fun v3 => ?_
    refine xo_if_le (pc' := 17) (tgt := 21) dd_K_closeGiver_14 rfl rfl ?_ ?_
    · refine xo_iconst (pc' := 22) (v := (0 : Int32)) dd_K_closeGiver_21 (by decide) rfl ?_
      exact kb_K_closeGiver_22 t x1 (0 : Int32) H r
    · refine xo_iconst (pc' := 18) (v := (1 : Int32)) dd_K_closeGiver_17 (by decide) rfl ?_
      refine xo_goto (pc' := 22) dd_K_closeGiver_18 rfl ?_
      exact kb_K_closeGiver_22 t x1 (1 : Int32) H r
set_option maxRecDepth 100000 in
set_option maxHeartbeats 4000000 in
theorem kc_K_closeGiver (t : xo_N) (x1 : Option xo_N) (H : xo_H) (r : xo_H) (hk : fc_K_closeGiver t x1 H = some r) : xo_M mt_K_closeGiver [.inr (some t), .inr x1] H (xo_jv r) :=
  xo_entry hk (by decide +kernel) (Nat.le_of_ble_eq_true rfl) (kb_K_closeGiver t x1 H r)
def fb_K_end_39 (t : xo_N) (H : xo_H) : Option (Int32 × xo_H) :=
  xo_cl 0 (some t) (fun n2 => fc_K_awaitPumps n2 H) fun H1 =>
  xo_gb (1 : Int32) (some ((1 : Int32), H1))

def fc_K_end (t : xo_N) (x1 : Int32) (H : xo_H) : Option (Int32 × xo_H) :=
  xo_cl 0 (some t) (fun n10 => fc_K_rootAt n10 x1 H) fun r1 =>
  if r1.1 = none then (xo_gb (0 : Int32) (some ((0 : Int32), r1.2)))
  else (xo_cl 5 r1.1 (fun n9 => fc_G_isGoing n9 r1.2) fun r2 =>
  if r2.1 = 0 then (xo_gb (0 : Int32) (some ((0 : Int32), r2.2)))
  else (xo_pz 5 7 r2.2 r1.1 (1 : Int32) fun H3 =>
  xo_gp 5 1 H3 r1.1 fun o4 =>
  xo_cl 4 o4 (fun n8 => fc_C_count n8 H3) fun r5 =>
  if r5.1 = 0 then (xo_cl 0 (some t) (fun n7 => fc_K_closeGiver n7 r1.1 r5.2) fun H6 =>
  fb_K_end_39 t H6)
  else (fb_K_end_39 t r5.2)))

set_option maxRecDepth 100000 in
set_option maxHeartbeats 4000000 in
theorem kb_K_end_39 (t : xo_N) (H : xo_H) (r : Int32 × xo_H) : xo_X mt_K_end 0 0 xo_ji r 39 [(0, .inr (some t))] [] H (fb_K_end_39 t H) := by
  unfold fb_K_end_39
  refine xo_aload_n (pc' := 40) dd_K_end_39 rfl 0 rfl rfl ?_
  refine xo_callVv (as := []) (o := (some t)) (st := []) (pc' := 43) dd_K_end_40 cv_K_awaitPumps ml_K_57 rfl rfl ⟨by decide, by decide⟩ rfl rfl rfl (Nat.le_of_ble_eq_true rfl) rfl (fun n q h => kc_K_awaitPumps n H q h) fun H1 => ?_
  refine xo_iconst (pc' := 44) (v := (1 : Int32)) dd_K_end_43 (by decide) rfl ?_
  exact xo_zret dd_K_end_44 rfl
set_option maxRecDepth 100000 in
set_option maxHeartbeats 4000000 in
theorem kb_K_end (t : xo_N) (x1 : Int32) (H : xo_H) (r : Int32 × xo_H) : xo_X mt_K_end 0 0 xo_ji r 0 [(0, .inr (some t)), (1, .inl x1)] [] H (fc_K_end t x1 H) := by
  unfold fc_K_end
  refine xo_aload_n (pc' := 1) dd_K_end_0 rfl 0 rfl rfl ?_
  refine xo_iload_n (pc' := 2) dd_K_end_1 rfl 1 rfl rfl ?_
  refine xo_callVp (as := [.inl x1]) (o := (some t)) (st := []) (pc' := 5) dd_K_end_2 cv_K_rootAt ml_K_75 rfl rfl ⟨by decide, by decide⟩ rfl rfl rfl (Nat.le_of_ble_eq_true rfl) rfl (fun n q h => kc_K_rootAt n x1 H q h) fun r1 => ?_
  refine xo_astore_n (pc' := 6) dd_K_end_5 rfl (by decide) rfl rfl ?_
  refine xo_aload_n (pc' := 7) dd_K_end_6 rfl 0 rfl rfl ?_
  refine xo_ifnull (pc' := 10) (tgt := 17) dd_K_end_7 rfl rfl ?_ ?_
  · refine xo_iconst (pc' := 18) (v := (0 : Int32)) dd_K_end_17 (by decide) rfl ?_
    exact xo_zret dd_K_end_18 rfl
  · refine xo_aload_n (pc' := 11) dd_K_end_10 rfl 0 rfl rfl ?_
    refine xo_callVi (as := []) (o := r1.1) (st := []) (pc' := 14) dd_K_end_11 cv_G_isGoing ml_K_79 rfl rfl ⟨by decide, by decide⟩ rfl rfl rfl (Nat.le_of_ble_eq_true rfl) rfl (fun n q h => kc_G_isGoing n r1.2 q h) fun r2 => ?_
    refine xo_if_ne (pc' := 17) (tgt := 19) dd_K_end_14 rfl rfl ?_ ?_
    · refine xo_aload_n (pc' := 20) dd_K_end_19 rfl 0 rfl rfl ?_
      refine xo_iconst (pc' := 21) (v := (1 : Int32)) dd_K_end_20 (by decide) rfl ?_
      refine xo_putZ (pc' := 24) dd_K_end_21 ff_K_103 rfl fun H3 => ?_
      refine xo_aload_n (pc' := 25) dd_K_end_24 rfl 0 rfl rfl ?_
      refine xo_getP (pc' := 28) dd_K_end_25 ff_K_83 (by decide) rfl fun o4 => ?_
      refine xo_callVi (as := []) (o := o4) (st := []) (pc' := 31) dd_K_end_28 cv_C_count ml_K_87 rfl rfl ⟨by decide, by decide⟩ rfl rfl rfl (Nat.le_of_ble_eq_true rfl) rfl (fun n q h => kc_C_count n H3 q h) fun r5 => ?_
      refine xo_if_ne (pc' := 34) (tgt := 39) dd_K_end_31 rfl rfl ?_ ?_
      · refine xo_sub [1] rfl ?_
        exact kb_K_end_39 t r5.2 r
      · refine xo_aload_n (pc' := 35) dd_K_end_34 rfl 1 rfl rfl ?_
        refine xo_aload_n (pc' := 36) dd_K_end_35 rfl 0 rfl rfl ?_
        refine xo_callVv (as := [.inr r1.1]) (o := (some t)) (st := []) (pc' := 39) dd_K_end_36 cv_K_closeGiver ml_K_107 rfl rfl ⟨by decide, by decide⟩ rfl rfl rfl (Nat.le_of_ble_eq_true rfl) rfl (fun n q h => kc_K_closeGiver n r1.1 r5.2 q h) fun H6 => ?_
        refine xo_sub [1] rfl ?_
        exact kb_K_end_39 t H6 r
    · refine xo_iconst (pc' := 18) (v := (0 : Int32)) dd_K_end_17 (by decide) rfl ?_
      exact xo_zret dd_K_end_18 rfl
set_option maxRecDepth 100000 in
set_option maxHeartbeats 4000000 in
theorem kc_K_end (t : xo_N) (x1 : Int32) (H : xo_H) (r : Int32 × xo_H) (hk : fc_K_end t x1 H = some r) : xo_M mt_K_end [.inr (some t), .inl x1] H (xo_ji r) :=
  xo_entry hk (by decide +kernel) (Nat.le_of_ble_eq_true rfl) (kb_K_end t x1 H r)
def fc_K_isError (x0 : Int32) (H : xo_H) : Option (Int32 × xo_H) :=
  if x0 < 0 then (xo_gb (0 : Int32) (some ((0 : Int32), H)))
  else (if (99 : Int32) < x0 then (xo_gb (0 : Int32) (some ((0 : Int32), H)))
  else (xo_gb (1 : Int32) (some ((1 : Int32), H))))

set_option maxRecDepth 100000 in
set_option maxHeartbeats 4000000 in
theorem kb_K_isError (x0 : Int32) (H : xo_H) (r : Int32 × xo_H) : xo_X mt_K_isError 0 0 xo_ji r 0 [(0, .inl x0)] [] H (fc_K_isError x0 H) := by
  unfold fc_K_isError
  refine xo_iload_n (pc' := 1) dd_K_isError_0 rfl 0 rfl rfl ?_
  refine xo_if_lt (pc' := 4) (tgt := 14) dd_K_isError_1 rfl rfl ?_ ?_
  · refine xo_iconst (pc' := 15) (v := (0 : Int32)) dd_K_isError_14 (by decide) rfl ?_
    exact xo_zret dd_K_isError_15 rfl
  · refine xo_iload_n (pc' := 5) dd_K_isError_4 rfl 0 rfl rfl ?_
    refine xo_bipush (pc' := 7) (v := (99 : Int32)) dd_K_isError_5 (by decide) rfl ?_
    refine xo_icmp_gt (pc' := 10) (tgt := 14) dd_K_isError_7 rfl rfl ?_ ?_
    · refine xo_iconst (pc' := 15) (v := (0 : Int32)) dd_K_isError_14 (by decide) rfl ?_
      exact xo_zret dd_K_isError_15 rfl
    · refine xo_iconst (pc' := 11) (v := (1 : Int32)) dd_K_isError_10 (by decide) rfl ?_
      refine xo_goto (pc' := 15) dd_K_isError_11 rfl ?_
      exact xo_zret dd_K_isError_15 rfl
set_option maxRecDepth 100000 in
set_option maxHeartbeats 4000000 in
theorem kc_K_isError (x0 : Int32) (H : xo_H) (r : Int32 × xo_H) (hk : fc_K_isError x0 H = some r) : xo_M mt_K_isError [.inl x0] H (xo_ji r) :=
  xo_entry hk (by decide +kernel) (Nat.le_of_ble_eq_true rfl) (kb_K_isError x0 H r)
def fb_K_failBranches_12 : Nat → Int32 → Option xo_N → Int32 → Int32 → xo_H → Option (xo_H)
  | 0, _, _, _, _, _ => none
  | fu + 1, x2, x3, x4, x5, H =>
  if x5 < x4 then (xo_ap 2 H x3 x5 fun o1 =>
  xo_cl 5 o1 (fun n3 => fc_G_failWith n3 x2 H) fun H2 =>
  fb_K_failBranches_12 fu x2 x3 x4 (x5 + (1 : Int32)) H2)
  else (some H)

def fc_K_failBranches (t : xo_N) (x1 : Option xo_N) (x2 : Int32) (H : xo_H) : Option (xo_H) :=
  xo_gp 6 1 H x1 fun o1 =>
  xo_ln o1 fun v2 =>
  fb_K_failBranches_12 1000 x2 o1 v2 (0 : Int32) H

set_option maxRecDepth 100000 in
set_option maxHeartbeats 4000000 in
theorem kb_K_failBranches_12 : ∀ (fu : Nat) (x2 : Int32) (x3 : Option xo_N) (x4 : Int32) (x5 : Int32) (H : xo_H) (r : xo_H), xo_X mt_K_failBranches 0 0 xo_jv r 12 [(2, .inl x2), (3, .inr x3), (4, .inl x4), (5, .inl x5)] [] H (fb_K_failBranches_12 fu x2 x3 x4 x5 H) := by
  intro fu
  induction fu with
  | zero => intros; exact xo_no
  | succ fu ih =>
    intro x2 x3 x4 x5 H r
    rw [fb_K_failBranches_12]
    refine xo_iload (pc' := 14) dd_K_failBranches_12 3 rfl rfl ?_
    refine xo_iload (pc' := 16) dd_K_failBranches_14 2 rfl rfl ?_
    refine xo_icmp_ge (pc' := 19) (tgt := 37) dd_K_failBranches_16 rfl rfl ?_ ?_
    · exact xo_vret dd_K_failBranches_37 rfl
    · refine xo_aload_n (pc' := 20) dd_K_failBranches_19 rfl 1 rfl rfl ?_
      refine xo_iload (pc' := 22) dd_K_failBranches_20 3 rfl rfl ?_
      refine xo_aald (pc' := 23) dd_K_failBranches_22 (by decide) rfl fun o1 => ?_
      refine xo_astore (pc' := 25) dd_K_failBranches_23 (by decide) rfl rfl ?_
      refine xo_aload (pc' := 27) dd_K_failBranches_25 0 rfl rfl ?_
      refine xo_iload_n (pc' := 28) dd_K_failBranches_27 rfl 1 rfl rfl ?_
      refine xo_callVv (as := [.inl x2]) (o := o1) (st := []) (pc' := 31) dd_K_failBranches_28 cv_G_failWith ml_K_288 rfl rfl ⟨by decide, by decide⟩ rfl rfl rfl (Nat.le_of_ble_eq_true rfl) rfl (fun n q h => kc_G_failWith n x2 H q h) fun H2 => ?_
      refine xo_iinc (pc' := 34) dd_K_failBranches_31 4 rfl (xo_ii (m := (1 : Int32)) (by decide)) (by decide) rfl rfl ?_
      refine xo_goto (pc' := 12) dd_K_failBranches_34 rfl ?_
      refine xo_sub [2, 3, 4, 0] rfl ?_
      exact ih x2 x3 x4 (x5 + (1 : Int32)) H2 r
set_option maxRecDepth 100000 in
set_option maxHeartbeats 4000000 in
theorem kb_K_failBranches (t : xo_N) (x1 : Option xo_N) (x2 : Int32) (H : xo_H) (r : xo_H) : xo_X mt_K_failBranches 0 0 xo_jv r 0 [(0, .inr (some t)), (1, .inr x1), (2, .inl x2)] [] H (fc_K_failBranches t x1 x2 H) := by
  unfold fc_K_failBranches
  refine xo_aload_n (pc' := 1) dd_K_failBranches_0 rfl 1 rfl rfl ?_
  refine xo_getP (pc' := 4) dd_K_failBranches_1 ff_K_285 (by decide) rfl fun o1 => ?_
  refine xo_astore_n (pc' := 5) dd_K_failBranches_4 rfl (by decide) rfl rfl ?_
  refine xo_aload_n (pc' := 6) dd_K_failBranches_5 rfl 0 rfl rfl ?_
  refine xo_alen (pc' := 7) dd_K_failBranches_6 rfl fun v2 => ?_
  refine xo_istore (pc' := 9) dd_K_failBranches_7 (by decide) rfl rfl ?_
  refine xo_iconst (pc' := 10) (v := (0 : Int32)) dd_K_failBranches_9 (by decide) rfl ?_
  refine xo_istore (pc' := 12) dd_K_failBranches_10 (by decide) rfl rfl ?_
  refine xo_sub [5, 2, 1, 0] rfl ?_
  exact kb_K_failBranches_12 1000 x2 o1 v2 (0 : Int32) H r
set_option maxRecDepth 100000 in
set_option maxHeartbeats 4000000 in
theorem kc_K_failBranches (t : xo_N) (x1 : Option xo_N) (x2 : Int32) (H : xo_H) (r : xo_H) (hk : fc_K_failBranches t x1 x2 H = some r) : xo_M mt_K_failBranches [.inr (some t), .inr x1, .inl x2] H (xo_jv r) :=
  xo_entry hk (by decide +kernel) (Nat.le_of_ble_eq_true rfl) (kb_K_failBranches t x1 x2 H r)
def fb_K_failGiver_32 (t : xo_N) (x1 : Option xo_N) (x2 : Int32) (x3 : Option xo_N) (H : xo_H) : Option (xo_H) :=
  xo_cl 5 x1 (fun n4 => fc_G_failWith n4 x2 H) fun H1 =>
  if x3 = none then (some H1)
  else (xo_cl 0 (some t) (fun n3 => fc_K_failBranches n3 x3 x2 H1) fun H2 =>
  some H2)

def fc_K_failGiver (t : xo_N) (x1 : Option xo_N) (x2 : Int32) (H : xo_H) : Option (xo_H) :=
  xo_gf 5 4 H x1 fun v1 =>
  if v1 = 0 then (xo_gp 5 12 H x1 fun o2 =>
  if o2 = none then (fb_K_failGiver_32 t x1 x2 o2 H)
  else (xo_gp 5 3 H x1 fun o3 =>
  xo_gf 3 2 H o3 fun v4 =>
  if 0 < v4 then (xo_pz 6 2 H o2 (0 : Int32) fun H5 =>
  fb_K_failGiver_32 t x1 x2 o2 H5)
  else (fb_K_failGiver_32 t x1 x2 o2 H)))
  else (some H)

set_option maxRecDepth 100000 in
set_option maxHeartbeats 4000000 in
theorem kb_K_failGiver_32 (t : xo_N) (x1 : Option xo_N) (x2 : Int32) (x3 : Option xo_N) (H : xo_H) (r : xo_H) : xo_X mt_K_failGiver 0 0 xo_jv r 32 [(0, .inr (some t)), (1, .inr x1), (2, .inl x2), (3, .inr x3)] [] H (fb_K_failGiver_32 t x1 x2 x3 H) := by
  unfold fb_K_failGiver_32
  refine xo_aload_n (pc' := 33) dd_K_failGiver_32 rfl 1 rfl rfl ?_
  refine xo_iload_n (pc' := 34) dd_K_failGiver_33 rfl 2 rfl rfl ?_
  refine xo_callVv (as := [.inl x2]) (o := x1) (st := []) (pc' := 37) dd_K_failGiver_34 cv_G_failWith ml_K_288 rfl rfl ⟨by decide, by decide⟩ rfl rfl rfl (Nat.le_of_ble_eq_true rfl) rfl (fun n q h => kc_G_failWith n x2 H q h) fun H1 => ?_
  refine xo_aload_n (pc' := 38) dd_K_failGiver_37 rfl 3 rfl rfl ?_
  refine xo_ifnull (pc' := 41) (tgt := 47) dd_K_failGiver_38 rfl rfl ?_ ?_
  · exact xo_vret dd_K_failGiver_47 rfl
  · refine xo_aload_n (pc' := 42) dd_K_failGiver_41 rfl 0 rfl rfl ?_
    refine xo_aload_n (pc' := 43) dd_K_failGiver_42 rfl 3 rfl rfl ?_
    refine xo_iload_n (pc' := 44) dd_K_failGiver_43 rfl 2 rfl rfl ?_
    refine xo_callVv (as := [.inr x3, .inl x2]) (o := (some t)) (st := []) (pc' := 47) dd_K_failGiver_44 cv_K_failBranches ml_K_210 rfl rfl ⟨by decide, by decide⟩ rfl rfl rfl (Nat.le_of_ble_eq_true rfl) rfl (fun n q h => kc_K_failBranches n x3 x2 H1 q h) fun H2 => ?_
    exact xo_vret dd_K_failGiver_47 rfl
set_option maxRecDepth 100000 in
set_option maxHeartbeats 4000000 in
theorem kb_K_failGiver (t : xo_N) (x1 : Option xo_N) (x2 : Int32) (H : xo_H) (r : xo_H) : xo_X mt_K_failGiver 0 0 xo_jv r 0 [(0, .inr (some t)), (1, .inr x1), (2, .inl x2)] [] H (fc_K_failGiver t x1 x2 H) := by
  unfold fc_K_failGiver
  refine xo_aload_n (pc' := 1) dd_K_failGiver_0 rfl 1 rfl rfl ?_
  refine xo_getI (pc' := 4) dd_K_failGiver_1 ff_K_110 (by decide) rfl fun v1 => ?_
  refine xo_if_eq (pc' := 7) (tgt := 8) dd_K_failGiver_4 rfl rfl ?_ ?_
  · refine xo_aload_n (pc' := 9) dd_K_failGiver_8 rfl 1 rfl rfl ?_
    refine xo_getP (pc' := 12) dd_K_failGiver_9 ff_K_200 (by decide) rfl fun o2 => ?_
    refine xo_astore_n (pc' := 13) dd_K_failGiver_12 rfl (by decide) rfl rfl ?_
    refine xo_aload_n (pc' := 14) dd_K_failGiver_13 rfl 0 rfl rfl ?_
    refine xo_ifnull (pc' := 17) (tgt := 32) dd_K_failGiver_14 rfl rfl ?_ ?_
    · refine xo_sub [1, 2, 3, 0] rfl ?_
      exact kb_K_failGiver_32 t x1 x2 o2 H r
    · refine xo_aload_n (pc' := 18) dd_K_failGiver_17 rfl 2 rfl rfl ?_
      refine xo_getP (pc' := 21) dd_K_failGiver_18 ff_K_91 (by decide) rfl fun o3 => ?_
      refine xo_getI (pc' := 24) dd_K_failGiver_21 ff_K_95 (by decide) rfl fun v4 => ?_
      refine xo_if_le (pc' := 27) (tgt := 32) dd_K_failGiver_24 rfl rfl ?_ ?_
      · refine xo_sub [1, 2, 3, 0] rfl ?_
        exact kb_K_failGiver_32 t x1 x2 o2 H r
      · refine xo_aload_n (pc' := 28) dd_K_failGiver_27 rfl 0 rfl rfl ?_
        refine xo_iconst (pc' := 29) (v := (0 : Int32)) dd_K_failGiver_28 (by decide) rfl ?_
        refine xo_putZ (pc' := 32) dd_K_failGiver_29 ff_K_273 rfl fun H5 => ?_
        refine xo_sub [1, 2, 3, 0] rfl ?_
        exact kb_K_failGiver_32 t x1 x2 o2 H5 r
  · exact xo_vret dd_K_failGiver_7 rfl
set_option maxRecDepth 100000 in
set_option maxHeartbeats 4000000 in
theorem kc_K_failGiver (t : xo_N) (x1 : Option xo_N) (x2 : Int32) (H : xo_H) (r : xo_H) (hk : fc_K_failGiver t x1 x2 H = some r) : xo_M mt_K_failGiver [.inr (some t), .inr x1, .inl x2] H (xo_jv r) :=
  xo_entry hk (by decide +kernel) (Nat.le_of_ble_eq_true rfl) (kb_K_failGiver t x1 x2 H r)
def fc_K_fail (t : xo_N) (x1 : Int32) (x2 : Int32) (H : xo_H) : Option (Int32 × xo_H) :=
  xo_cl 0 (some t) (fun n8 => fc_K_rootAt n8 x1 H) fun r1 =>
  if r1.1 = none then (xo_gb (0 : Int32) (some ((0 : Int32), r1.2)))
  else (xo_gf 5 4 r1.2 r1.1 fun v2 =>
  if v2 = 0 then ((fc_K_isError x2 r1.2).bind fun r3 =>
  if r3.1 = 0 then (xo_gb (0 : Int32) (some ((0 : Int32), r3.2)))
  else (xo_cl 0 (some t) (fun n7 => fc_K_failGiver n7 r1.1 x2 r3.2) fun H4 =>
  xo_cl 0 (some t) (fun n6 => fc_K_awaitPumps n6 H4) fun H5 =>
  xo_gb (1 : Int32) (some ((1 : Int32), H5))))
  else (xo_gb (0 : Int32) (some ((0 : Int32), r1.2))))

set_option maxRecDepth 100000 in
set_option maxHeartbeats 4000000 in
theorem kb_K_fail (t : xo_N) (x1 : Int32) (x2 : Int32) (H : xo_H) (r : Int32 × xo_H) : xo_X mt_K_fail 0 0 xo_ji r 0 [(0, .inr (some t)), (1, .inl x1), (2, .inl x2)] [] H (fc_K_fail t x1 x2 H) := by
  unfold fc_K_fail
  refine xo_aload_n (pc' := 1) dd_K_fail_0 rfl 0 rfl rfl ?_
  refine xo_iload_n (pc' := 2) dd_K_fail_1 rfl 1 rfl rfl ?_
  refine xo_callVp (as := [.inl x1]) (o := (some t)) (st := []) (pc' := 5) dd_K_fail_2 cv_K_rootAt ml_K_75 rfl rfl ⟨by decide, by decide⟩ rfl rfl rfl (Nat.le_of_ble_eq_true rfl) rfl (fun n q h => kc_K_rootAt n x1 H q h) fun r1 => ?_
  refine xo_astore_n (pc' := 6) dd_K_fail_5 rfl (by decide) rfl rfl ?_
  refine xo_aload_n (pc' := 7) dd_K_fail_6 rfl 0 rfl rfl ?_
  refine xo_ifnull (pc' := 10) (tgt := 24) dd_K_fail_7 rfl rfl ?_ ?_
  · refine xo_iconst (pc' := 25) (v := (0 : Int32)) dd_K_fail_24 (by decide) rfl ?_
    exact xo_zret dd_K_fail_25 rfl
  · refine xo_aload_n (pc' := 11) dd_K_fail_10 rfl 0 rfl rfl ?_
    refine xo_getI (pc' := 14) dd_K_fail_11 ff_K_110 (by decide) rfl fun v2 => ?_
    refine xo_if_ne (pc' := 17) (tgt := 24) dd_K_fail_14 rfl rfl ?_ ?_
    · refine xo_iconst (pc' := 25) (v := (0 : Int32)) dd_K_fail_24 (by decide) rfl ?_
      exact xo_zret dd_K_fail_25 rfl
    · refine xo_iload_n (pc' := 18) dd_K_fail_17 rfl 3 rfl rfl ?_
      refine xo_callSi (as := [.inl x2]) (st := []) (pc' := 21) dd_K_fail_18 cv_K_isError ml_K_113 rfl ⟨by decide, by decide⟩ rfl rfl rfl (Nat.le_of_ble_eq_true rfl) rfl (fun q h => kc_K_isError x2 r1.2 q h) fun r3 => ?_
      refine xo_if_ne (pc' := 24) (tgt := 26) dd_K_fail_21 rfl rfl ?_ ?_
      · refine xo_aload_n (pc' := 27) dd_K_fail_26 rfl 1 rfl rfl ?_
        refine xo_aload_n (pc' := 28) dd_K_fail_27 rfl 0 rfl rfl ?_
        refine xo_iload_n (pc' := 29) dd_K_fail_28 rfl 3 rfl rfl ?_
        refine xo_callVv (as := [.inr r1.1, .inl x2]) (o := (some t)) (st := []) (pc' := 32) dd_K_fail_29 cv_K_failGiver ml_K_116 rfl rfl ⟨by decide, by decide⟩ rfl rfl rfl (Nat.le_of_ble_eq_true rfl) rfl (fun n q h => kc_K_failGiver n r1.1 x2 r3.2 q h) fun H4 => ?_
        refine xo_aload_n (pc' := 33) dd_K_fail_32 rfl 1 rfl rfl ?_
        refine xo_callVv (as := []) (o := (some t)) (st := []) (pc' := 36) dd_K_fail_33 cv_K_awaitPumps ml_K_57 rfl rfl ⟨by decide, by decide⟩ rfl rfl rfl (Nat.le_of_ble_eq_true rfl) rfl (fun n q h => kc_K_awaitPumps n H4 q h) fun H5 => ?_
        refine xo_iconst (pc' := 37) (v := (1 : Int32)) dd_K_fail_36 (by decide) rfl ?_
        exact xo_zret dd_K_fail_37 rfl
      · refine xo_iconst (pc' := 25) (v := (0 : Int32)) dd_K_fail_24 (by decide) rfl ?_
        exact xo_zret dd_K_fail_25 rfl
set_option maxRecDepth 100000 in
set_option maxHeartbeats 4000000 in
theorem kc_K_fail (t : xo_N) (x1 : Int32) (x2 : Int32) (H : xo_H) (r : Int32 × xo_H) (hk : fc_K_fail t x1 x2 H = some r) : xo_M mt_K_fail [.inr (some t), .inl x1, .inl x2] H (xo_ji r) :=
  xo_entry hk (by decide +kernel) (Nat.le_of_ble_eq_true rfl) (kb_K_fail t x1 x2 H r)
def fc_K_isErrorOrNone (x0 : Int32) (H : xo_H) : Option (Int32 × xo_H) :=
  if x0 = (-1 : Int32) then (xo_gb (1 : Int32) (some ((1 : Int32), H)))
  else ((fc_K_isError x0 H).bind fun r1 =>
  if r1.1 = 0 then (xo_gb (0 : Int32) (some ((0 : Int32), r1.2)))
  else (xo_gb (1 : Int32) (some ((1 : Int32), r1.2))))

set_option maxRecDepth 100000 in
set_option maxHeartbeats 4000000 in
theorem kb_K_isErrorOrNone (x0 : Int32) (H : xo_H) (r : Int32 × xo_H) : xo_X mt_K_isErrorOrNone 0 0 xo_ji r 0 [(0, .inl x0)] [] H (fc_K_isErrorOrNone x0 H) := by
  unfold fc_K_isErrorOrNone
  refine xo_iload_n (pc' := 1) dd_K_isErrorOrNone_0 rfl 0 rfl rfl ?_
  refine xo_iconst (pc' := 2) (v := (-1 : Int32)) dd_K_isErrorOrNone_1 (by decide) rfl ?_
  refine xo_icmp_eq (pc' := 5) (tgt := 12) dd_K_isErrorOrNone_2 rfl rfl ?_ ?_
  · refine xo_iconst (pc' := 13) (v := (1 : Int32)) dd_K_isErrorOrNone_12 (by decide) rfl ?_
    refine xo_goto (pc' := 17) dd_K_isErrorOrNone_13 rfl ?_
    exact xo_zret dd_K_isErrorOrNone_17 rfl
  · refine xo_iload_n (pc' := 6) dd_K_isErrorOrNone_5 rfl 0 rfl rfl ?_
    refine xo_callSi (as := [.inl x0]) (st := []) (pc' := 9) dd_K_isErrorOrNone_6 cv_K_isError ml_K_113 rfl ⟨by decide, by decide⟩ rfl rfl rfl (Nat.le_of_ble_eq_true rfl) rfl (fun q h => kc_K_isError x0 H q h) fun r1 => ?_
    refine xo_if_eq (pc' := 12) (tgt := 16) dd_K_isErrorOrNone_9 rfl rfl ?_ ?_
    · refine xo_iconst (pc' := 17) (v := (0 : Int32)) dd_K_isErrorOrNone_16 (by decide) rfl ?_
      exact xo_zret dd_K_isErrorOrNone_17 rfl
    · refine xo_iconst (pc' := 13) (v := (1 : Int32)) dd_K_isErrorOrNone_12 (by decide) rfl ?_
      refine xo_goto (pc' := 17) dd_K_isErrorOrNone_13 rfl ?_
      exact xo_zret dd_K_isErrorOrNone_17 rfl
set_option maxRecDepth 100000 in
set_option maxHeartbeats 4000000 in
theorem kc_K_isErrorOrNone (x0 : Int32) (H : xo_H) (r : Int32 × xo_H) (hk : fc_K_isErrorOrNone x0 H = some r) : xo_M mt_K_isErrorOrNone [.inl x0] H (xo_ji r) :=
  xo_entry hk (by decide +kernel) (Nat.le_of_ble_eq_true rfl) (kb_K_isErrorOrNone x0 H r)
def fc_K_pulled (t : xo_N) (x1 : Int32) (x2 : Int32) (H : xo_H) : Option (Int32 × xo_H) :=
  xo_cl 0 (some t) (fun n12 => fc_K_rootAt n12 x1 H) fun r1 =>
  if r1.1 = none then (xo_gb (0 : Int32) (some ((0 : Int32), r1.2)))
  else (xo_gf 5 8 r1.2 r1.1 fun v2 =>
  if v2 = 0 then (xo_gb (0 : Int32) (some ((0 : Int32), r1.2)))
  else (xo_gp 0 1 r1.2 (some t) fun o3 =>
  xo_cl 2 o3 (fun n11 => fc_J_holds n11 (1 : Int32) x1 r1.2) fun r4 =>
  if r4.1 = 0 then ((fc_K_isErrorOrNone x2 r4.2).bind fun r5 =>
  if r5.1 = 0 then (xo_gb (0 : Int32) (some ((0 : Int32), r5.2)))
  else (xo_gp 0 1 r5.2 (some t) fun o6 =>
  xo_cl 2 o6 (fun n10 => fc_J_add n10 (1 : Int32) x1 x2 r5.2) fun H7 =>
  xo_cl 0 (some t) (fun n9 => fc_K_awaitPumps n9 H7) fun H8 =>
  xo_gb (1 : Int32) (some ((1 : Int32), H8))))
  else (xo_gb (0 : Int32) (some ((0 : Int32), r4.2)))))

set_option maxRecDepth 100000 in
set_option maxHeartbeats 4000000 in
theorem kb_K_pulled (t : xo_N) (x1 : Int32) (x2 : Int32) (H : xo_H) (r : Int32 × xo_H) : xo_X mt_K_pulled 0 0 xo_ji r 0 [(0, .inr (some t)), (1, .inl x1), (2, .inl x2)] [] H (fc_K_pulled t x1 x2 H) := by
  unfold fc_K_pulled
  refine xo_aload_n (pc' := 1) dd_K_pulled_0 rfl 0 rfl rfl ?_
  refine xo_iload_n (pc' := 2) dd_K_pulled_1 rfl 1 rfl rfl ?_
  refine xo_callVp (as := [.inl x1]) (o := (some t)) (st := []) (pc' := 5) dd_K_pulled_2 cv_K_rootAt ml_K_75 rfl rfl ⟨by decide, by decide⟩ rfl rfl rfl (Nat.le_of_ble_eq_true rfl) rfl (fun n q h => kc_K_rootAt n x1 H q h) fun r1 => ?_
  refine xo_astore_n (pc' := 6) dd_K_pulled_5 rfl (by decide) rfl rfl ?_
  refine xo_aload_n (pc' := 7) dd_K_pulled_6 rfl 0 rfl rfl ?_
  refine xo_ifnull (pc' := 10) (tgt := 29) dd_K_pulled_7 rfl rfl ?_ ?_
  · refine xo_iconst (pc' := 30) (v := (0 : Int32)) dd_K_pulled_29 (by decide) rfl ?_
    exact xo_zret dd_K_pulled_30 rfl
  · refine xo_aload_n (pc' := 11) dd_K_pulled_10 rfl 0 rfl rfl ?_
    refine xo_getI (pc' := 14) dd_K_pulled_11 ff_K_119 (by decide) rfl fun v2 => ?_
    refine xo_if_eq (pc' := 17) (tgt := 29) dd_K_pulled_14 rfl rfl ?_ ?_
    · refine xo_iconst (pc' := 30) (v := (0 : Int32)) dd_K_pulled_29 (by decide) rfl ?_
      exact xo_zret dd_K_pulled_30 rfl
    · refine xo_aload_n (pc' := 18) dd_K_pulled_17 rfl 1 rfl rfl ?_
      refine xo_getP (pc' := 21) dd_K_pulled_18 ff_K_19 (by decide) rfl fun o3 => ?_
      refine xo_iconst (pc' := 22) (v := (1 : Int32)) dd_K_pulled_21 (by decide) rfl ?_
      refine xo_iload_n (pc' := 23) dd_K_pulled_22 rfl 2 rfl rfl ?_
      refine xo_callVi (as := [.inl (1 : Int32), .inl x1]) (o := o3) (st := []) (pc' := 26) dd_K_pulled_23 cv_J_holds ml_K_122 rfl rfl ⟨by decide, by decide⟩ rfl rfl rfl (Nat.le_of_ble_eq_true rfl) rfl (fun n q h => kc_J_holds n (1 : Int32) x1 r1.2 q h) fun r4 => ?_
      refine xo_if_eq (pc' := 29) (tgt := 31) dd_K_pulled_26 rfl rfl ?_ ?_
      · refine xo_iload_n (pc' := 32) dd_K_pulled_31 rfl 3 rfl rfl ?_
        refine xo_callSi (as := [.inl x2]) (st := []) (pc' := 35) dd_K_pulled_32 cv_K_isErrorOrNone ml_K_126 rfl ⟨by decide, by decide⟩ rfl rfl rfl (Nat.le_of_ble_eq_true rfl) rfl (fun q h => kc_K_isErrorOrNone x2 r4.2 q h) fun r5 => ?_
        refine xo_if_ne (pc' := 38) (tgt := 40) dd_K_pulled_35 rfl rfl ?_ ?_
        · refine xo_aload_n (pc' := 41) dd_K_pulled_40 rfl 1 rfl rfl ?_
          refine xo_getP (pc' := 44) dd_K_pulled_41 ff_K_19 (by decide) rfl fun o6 => ?_
          refine xo_iconst (pc' := 45) (v := (1 : Int32)) dd_K_pulled_44 (by decide) rfl ?_
          refine xo_iload_n (pc' := 46) dd_K_pulled_45 rfl 2 rfl rfl ?_
          refine xo_iload_n (pc' := 47) dd_K_pulled_46 rfl 3 rfl rfl ?_
          refine xo_callVv (as := [.inl (1 : Int32), .inl x1, .inl x2]) (o := o6) (st := []) (pc' := 50) dd_K_pulled_47 cv_J_add ml_K_129 rfl rfl ⟨by decide, by decide⟩ rfl rfl rfl (Nat.le_of_ble_eq_true rfl) rfl (fun n q h => kc_J_add n (1 : Int32) x1 x2 r5.2 q h) fun H7 => ?_
          refine xo_aload_n (pc' := 51) dd_K_pulled_50 rfl 1 rfl rfl ?_
          refine xo_callVv (as := []) (o := (some t)) (st := []) (pc' := 54) dd_K_pulled_51 cv_K_awaitPumps ml_K_57 rfl rfl ⟨by decide, by decide⟩ rfl rfl rfl (Nat.le_of_ble_eq_true rfl) rfl (fun n q h => kc_K_awaitPumps n H7 q h) fun H8 => ?_
          refine xo_iconst (pc' := 55) (v := (1 : Int32)) dd_K_pulled_54 (by decide) rfl ?_
          exact xo_zret dd_K_pulled_55 rfl
        · refine xo_iconst (pc' := 39) (v := (0 : Int32)) dd_K_pulled_38 (by decide) rfl ?_
          exact xo_zret dd_K_pulled_39 rfl
      · refine xo_iconst (pc' := 30) (v := (0 : Int32)) dd_K_pulled_29 (by decide) rfl ?_
        exact xo_zret dd_K_pulled_30 rfl
set_option maxRecDepth 100000 in
set_option maxHeartbeats 4000000 in
theorem kc_K_pulled (t : xo_N) (x1 : Int32) (x2 : Int32) (H : xo_H) (r : Int32 × xo_H) (hk : fc_K_pulled t x1 x2 H = some r) : xo_M mt_K_pulled [.inr (some t), .inl x1, .inl x2] H (xo_ji r) :=
  xo_entry hk (by decide +kernel) (Nat.le_of_ble_eq_true rfl) (kb_K_pulled t x1 x2 H r)
def fc_K_request (t : xo_N) (x1 : Option xo_N) (x2 : Int32) (H : xo_H) : Option (xo_H) :=
  xo_gp 5 1 H x1 fun o1 =>
  xo_cl 4 o1 (fun n20 => fc_C_count n20 H) fun r2 =>
  if 0 < r2.1 then (xo_gp 5 1 r2.2 x1 fun o11 =>
  xo_cl 4 o11 (fun n19 => fc_C_takeFirst n19 r2.2) fun r12 =>
  xo_cl 5 x1 (fun n18 => fc_G_closeIfDrained n18 r12.2) fun H13 =>
  xo_cl 0 (some t) (fun n17 => fc_K_pullIfNeeded n17 x1 H13) fun H14 =>
  xo_cl 0 (some t) (fun n16 => fc_K_answerChunk n16 x1 x2 r12.1 H14) fun H15 =>
  some H15)
  else (xo_gp 5 3 r2.2 x1 fun o3 =>
  xo_cl 3 o3 (fun n10 => fc_R_add n10 x2 r2.2) fun H4 =>
  xo_gf 5 4 H4 x1 fun v5 =>
  if v5 = 0 then (xo_cl 0 (some t) (fun n9 => fc_K_pullIfNeeded n9 x1 H4) fun H8 =>
  some H8)
  else (xo_cl 5 x1 (fun n7 => fc_G_answerAll n7 H4) fun H6 =>
  some H6))

set_option maxRecDepth 100000 in
set_option maxHeartbeats 4000000 in
theorem kb_K_request (t : xo_N) (x1 : Option xo_N) (x2 : Int32) (H : xo_H) (r : xo_H) : xo_X mt_K_request 0 0 xo_jv r 0 [(0, .inr (some t)), (1, .inr x1), (2, .inl x2)] [] H (fc_K_request t x1 x2 H) := by
  unfold fc_K_request
  refine xo_aload_n (pc' := 1) dd_K_request_0 rfl 1 rfl rfl ?_
  refine xo_getP (pc' := 4) dd_K_request_1 ff_K_83 (by decide) rfl fun o1 => ?_
  refine xo_callVi (as := []) (o := o1) (st := []) (pc' := 7) dd_K_request_4 cv_C_count ml_K_87 rfl rfl ⟨by decide, by decide⟩ rfl rfl rfl (Nat.le_of_ble_eq_true rfl) rfl (fun n q h => kc_C_count n H q h) fun r2 => ?_
  refine xo_if_le (pc' := 10) (tgt := 35) dd_K_request_7 rfl rfl ?_ ?_
  · refine xo_aload_n (pc' := 36) dd_K_request_35 rfl 1 rfl rfl ?_
    refine xo_getP (pc' := 39) dd_K_request_36 ff_K_91 (by decide) rfl fun o3 => ?_
    refine xo_iload_n (pc' := 40) dd_K_request_39 rfl 2 rfl rfl ?_
    refine xo_callVv (as := [.inl x2]) (o := o3) (st := []) (pc' := 43) dd_K_request_40 cv_R_add ml_K_266 rfl rfl ⟨by decide, by decide⟩ rfl rfl rfl (Nat.le_of_ble_eq_true rfl) rfl (fun n q h => kc_R_add n x2 r2.2 q h) fun H4 => ?_
    refine xo_aload_n (pc' := 44) dd_K_request_43 rfl 1 rfl rfl ?_
    refine xo_getI (pc' := 47) dd_K_request_44 ff_K_110 (by decide) rfl fun v5 => ?_
    refine xo_if_ne (pc' := 50) (tgt := 58) dd_K_request_47 rfl rfl ?_ ?_
    · refine xo_aload_n (pc' := 59) dd_K_request_58 rfl 1 rfl rfl ?_
      refine xo_callVv (as := []) (o := x1) (st := []) (pc' := 62) dd_K_request_59 cv_G_answerAll ml_K_267 rfl rfl ⟨by decide, by decide⟩ rfl rfl rfl (Nat.le_of_ble_eq_true rfl) rfl (fun n q h => kc_G_answerAll n H4 q h) fun H6 => ?_
      exact xo_vret dd_K_request_62 rfl
    · refine xo_aload_n (pc' := 51) dd_K_request_50 rfl 0 rfl rfl ?_
      refine xo_aload_n (pc' := 52) dd_K_request_51 rfl 1 rfl rfl ?_
      refine xo_callVv (as := [.inr x1]) (o := (some t)) (st := []) (pc' := 55) dd_K_request_52 cv_K_pullIfNeeded ml_K_53 rfl rfl ⟨by decide, by decide⟩ rfl rfl rfl (Nat.le_of_ble_eq_true rfl) rfl (fun n q h => kc_K_pullIfNeeded n x1 H4 q h) fun H8 => ?_
      refine xo_goto (pc' := 62) dd_K_request_55 rfl ?_
      exact xo_vret dd_K_request_62 rfl
  · refine xo_aload_n (pc' := 11) dd_K_request_10 rfl 1 rfl rfl ?_
    refine xo_getP (pc' := 14) dd_K_request_11 ff_K_83 (by decide) rfl fun o11 => ?_
    refine xo_callVi (as := []) (o := o11) (st := []) (pc' := 17) dd_K_request_14 cv_C_takeFirst ml_K_262 rfl rfl ⟨by decide, by decide⟩ rfl rfl rfl (Nat.le_of_ble_eq_true rfl) rfl (fun n q h => kc_C_takeFirst n r2.2 q h) fun r12 => ?_
    refine xo_istore_n (pc' := 18) dd_K_request_17 rfl (by decide) rfl rfl ?_
    refine xo_aload_n (pc' := 19) dd_K_request_18 rfl 2 rfl rfl ?_
    refine xo_callVv (as := []) (o := x1) (st := []) (pc' := 22) dd_K_request_19 cv_G_closeIfDrained ml_K_263 rfl rfl ⟨by decide, by decide⟩ rfl rfl rfl (Nat.le_of_ble_eq_true rfl) rfl (fun n q h => kc_G_closeIfDrained n r12.2 q h) fun H13 => ?_
    refine xo_aload_n (pc' := 23) dd_K_request_22 rfl 1 rfl rfl ?_
    refine xo_aload_n (pc' := 24) dd_K_request_23 rfl 2 rfl rfl ?_
    refine xo_callVv (as := [.inr x1]) (o := (some t)) (st := []) (pc' := 27) dd_K_request_24 cv_K_pullIfNeeded ml_K_53 rfl rfl ⟨by decide, by decide⟩ rfl rfl rfl (Nat.le_of_ble_eq_true rfl) rfl (fun n q h => kc_K_pullIfNeeded n x1 H13 q h) fun H14 => ?_
    refine xo_aload_n (pc' := 28) dd_K_request_27 rfl 1 rfl rfl ?_
    refine xo_aload_n (pc' := 29) dd_K_request_28 rfl 2 rfl rfl ?_
    refine xo_iload_n (pc' := 30) dd_K_request_29 rfl 3 rfl rfl ?_
    refine xo_iload_n (pc' := 31) dd_K_request_30 rfl 0 rfl rfl ?_
    refine xo_callVv (as := [.inr x1, .inl x2, .inl r12.1]) (o := (some t)) (st := []) (pc' := 34) dd_K_request_31 cv_K_answerChunk ml_K_248 rfl rfl ⟨by decide, by decide⟩ rfl rfl rfl (Nat.le_of_ble_eq_true rfl) rfl (fun n q h => kc_K_answerChunk n x1 x2 r12.1 H14 q h) fun H15 => ?_
    exact xo_vret dd_K_request_34 rfl
set_option maxRecDepth 100000 in
set_option maxHeartbeats 4000000 in
theorem kc_K_request (t : xo_N) (x1 : Option xo_N) (x2 : Int32) (H : xo_H) (r : xo_H) (hk : fc_K_request t x1 x2 H = some r) : xo_M mt_K_request [.inr (some t), .inr x1, .inl x2] H (xo_jv r) :=
  xo_entry hk (by decide +kernel) (Nat.le_of_ble_eq_true rfl) (kb_K_request t x1 x2 H r)
