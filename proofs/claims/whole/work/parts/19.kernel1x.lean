def fc_K_read (t : xo_N) (x1 : Int32) (H : xo_H) : Option (Int32 × xo_H) :=
  xo_cl 0 (some t) (fun n13 => fc_K_giverAt n13 x1 H) fun r1 =>
  if r1.1 = none then (some ((-1 : Int32), r1.2))
  else (xo_cl 5 r1.1 (fun n12 => fc_G_heldBy n12 r1.2) fun r2 =>
  if r2.1 = 0 then (xo_gp 5 3 r2.2 r1.1 fun o3 =>
  xo_gf 3 2 r2.2 o3 fun v4 =>
  if v4 < (8 : Int32) then (xo_gf 5 6 r2.2 r1.1 fun v5 =>
  xo_pf 5 6 r2.2 r1.1 (v5 + (1 : Int32)) fun H6 =>
  xo_gf 5 6 H6 r1.1 fun v7 =>
  xo_cl 0 (some t) (fun n11 => fc_K_request n11 r1.1 v7 H6) fun H8 =>
  xo_cl 0 (some t) (fun n10 => fc_K_awaitPumps n10 H8) fun H9 =>
  some (v7, H9))
  else (some ((-3 : Int32), r2.2)))
  else (some ((-2 : Int32), r2.2)))

set_option maxRecDepth 100000 in
set_option maxHeartbeats 4000000 in
theorem kb_K_read (t : xo_N) (x1 : Int32) (H : xo_H) (r : Int32 × xo_H) : xo_X mt_K_read 0 0 xo_ji r 0 [(0, .inr (some t)), (1, .inl x1)] [] H (fc_K_read t x1 H) := by
  unfold fc_K_read
  refine xo_aload_n (pc' := 1) dd_K_read_0 rfl 0 rfl rfl ?_
  refine xo_iload_n (pc' := 2) dd_K_read_1 rfl 1 rfl rfl ?_
  refine xo_callVp (as := [.inl x1]) (o := (some t)) (st := []) (pc' := 5) dd_K_read_2 cv_K_giverAt ml_K_133 rfl rfl ⟨by decide, by decide⟩ rfl rfl rfl (Nat.le_of_ble_eq_true rfl) rfl (fun n q h => kc_K_giverAt n x1 H q h) fun r1 => ?_
  refine xo_astore_n (pc' := 6) dd_K_read_5 rfl (by decide) rfl rfl ?_
  refine xo_aload_n (pc' := 7) dd_K_read_6 rfl 0 rfl rfl ?_
  refine xo_ifnonnull (pc' := 10) (tgt := 12) dd_K_read_7 rfl rfl ?_ ?_
  · refine xo_aload_n (pc' := 13) dd_K_read_12 rfl 0 rfl rfl ?_
    refine xo_callVi (as := []) (o := r1.1) (st := []) (pc' := 16) dd_K_read_13 cv_G_heldBy ml_K_136 rfl rfl ⟨by decide, by decide⟩ rfl rfl rfl (Nat.le_of_ble_eq_true rfl) rfl (fun n q h => kc_G_heldBy n r1.2 q h) fun r2 => ?_
    refine xo_if_eq (pc' := 19) (tgt := 22) dd_K_read_16 rfl rfl ?_ ?_
    · refine xo_aload_n (pc' := 23) dd_K_read_22 rfl 0 rfl rfl ?_
      refine xo_getP (pc' := 26) dd_K_read_23 ff_K_91 (by decide) rfl fun o3 => ?_
      refine xo_getI (pc' := 29) dd_K_read_26 ff_K_95 (by decide) rfl fun v4 => ?_
      refine xo_bipush (pc' := 31) (v := (8 : Int32)) dd_K_read_29 (by decide) rfl ?_
      refine xo_icmp_lt (pc' := 34) (tgt := 37) dd_K_read_31 rfl rfl ?_ ?_
      · refine xo_aload_n (pc' := 38) dd_K_read_37 rfl 0 rfl rfl ?_
        refine xo_dup (pc' := 39) dd_K_read_38 rfl ?_
        refine xo_getI (pc' := 42) dd_K_read_39 ff_K_139 (by decide) rfl fun v5 => ?_
        refine xo_iconst (pc' := 43) (v := (1 : Int32)) dd_K_read_42 (by decide) rfl ?_
        refine xo_iadd (pc' := 44) dd_K_read_43 rfl ?_
        refine xo_putI (pc' := 47) dd_K_read_44 ff_K_139 rfl fun H6 => ?_
        refine xo_aload_n (pc' := 48) dd_K_read_47 rfl 0 rfl rfl ?_
        refine xo_getI (pc' := 51) dd_K_read_48 ff_K_139 (by decide) rfl fun v7 => ?_
        refine xo_istore_n (pc' := 52) dd_K_read_51 rfl (by decide) rfl rfl ?_
        refine xo_aload_n (pc' := 53) dd_K_read_52 rfl 2 rfl rfl ?_
        refine xo_aload_n (pc' := 54) dd_K_read_53 rfl 1 rfl rfl ?_
        refine xo_iload_n (pc' := 55) dd_K_read_54 rfl 0 rfl rfl ?_
        refine xo_callVv (as := [.inr r1.1, .inl v7]) (o := (some t)) (st := []) (pc' := 58) dd_K_read_55 cv_K_request ml_K_142 rfl rfl ⟨by decide, by decide⟩ rfl rfl rfl (Nat.le_of_ble_eq_true rfl) rfl (fun n q h => kc_K_request n r1.1 v7 H6 q h) fun H8 => ?_
        refine xo_aload_n (pc' := 59) dd_K_read_58 rfl 2 rfl rfl ?_
        refine xo_callVv (as := []) (o := (some t)) (st := []) (pc' := 62) dd_K_read_59 cv_K_awaitPumps ml_K_57 rfl rfl ⟨by decide, by decide⟩ rfl rfl rfl (Nat.le_of_ble_eq_true rfl) rfl (fun n q h => kc_K_awaitPumps n H8 q h) fun H9 => ?_
        refine xo_iload_n (pc' := 63) dd_K_read_62 rfl 0 rfl rfl ?_
        exact xo_iret dd_K_read_63 rfl
      · refine xo_bipush (pc' := 36) (v := (-3 : Int32)) dd_K_read_34 (by decide) rfl ?_
        exact xo_iret dd_K_read_36 rfl
    · refine xo_bipush (pc' := 21) (v := (-2 : Int32)) dd_K_read_19 (by decide) rfl ?_
      exact xo_iret dd_K_read_21 rfl
  · refine xo_iconst (pc' := 11) (v := (-1 : Int32)) dd_K_read_10 (by decide) rfl ?_
    exact xo_iret dd_K_read_11 rfl
set_option maxRecDepth 100000 in
set_option maxHeartbeats 4000000 in
theorem kc_K_read (t : xo_N) (x1 : Int32) (H : xo_H) (r : Int32 × xo_H) (hk : fc_K_read t x1 H = some r) : xo_M mt_K_read [.inr (some t), .inl x1] H (xo_ji r) :=
  xo_entry hk (by decide +kernel) (Nat.le_of_ble_eq_true rfl) (kb_K_read t x1 H r)
def fc_K_cancelGiver (t : xo_N) (x1 : Option xo_N) (x2 : Int32) (H : xo_H) : Option (xo_H) :=
  xo_gf 5 4 H x1 fun v1 =>
  if v1 = 0 then (xo_gp 5 1 H x1 fun o2 =>
  xo_cl 4 o2 (fun n25 => fc_C_clear n25 H) fun H3 =>
  xo_cl 0 (some t) (fun n24 => fc_K_closeGiver n24 x1 H3) fun H4 =>
  xo_gp 5 11 H4 x1 fun o5 =>
  if o5 = none then (xo_gp 0 0 H4 (some t) fun o20 =>
  xo_gf 5 0 H4 x1 fun v21 =>
  xo_cl 1 o20 (fun n23 => fc_L_note n23 (2 : Int32) v21 x2 (0 : Int32) H4) fun H22 =>
  some H22)
  else (xo_pz 5 10 H4 x1 (1 : Int32) fun H6 =>
  xo_gp 6 0 H6 o5 fun o7 =>
  xo_cl 6 o5 (fun n19 => fc_A_isGivenUp n19 H6) fun r8 =>
  if r8.1 = 0 then (some r8.2)
  else (xo_gf 5 4 r8.2 o7 fun v9 =>
  if v9 = 0 then (xo_gp 5 1 r8.2 o7 fun o10 =>
  xo_cl 4 o10 (fun n18 => fc_C_clear n18 r8.2) fun H11 =>
  xo_cl 0 (some t) (fun n17 => fc_K_closeGiver n17 o7 H11) fun H12 =>
  xo_gp 0 0 H12 (some t) fun o13 =>
  xo_gf 5 0 H12 o7 fun v14 =>
  xo_cl 1 o13 (fun n16 => fc_L_note n16 (2 : Int32) v14 x2 (0 : Int32) H12) fun H15 =>
  some H15)
  else (some r8.2))))
  else (some H)

set_option maxRecDepth 100000 in
set_option maxHeartbeats 4000000 in
theorem kb_K_cancelGiver (t : xo_N) (x1 : Option xo_N) (x2 : Int32) (H : xo_H) (r : xo_H) : xo_X mt_K_cancelGiver 0 0 xo_jv r 0 [(0, .inr (some t)), (1, .inr x1), (2, .inl x2)] [] H (fc_K_cancelGiver t x1 x2 H) := by
  unfold fc_K_cancelGiver
  refine xo_aload_n (pc' := 1) dd_K_cancelGiver_0 rfl 1 rfl rfl ?_
  refine xo_getI (pc' := 4) dd_K_cancelGiver_1 ff_K_110 (by decide) rfl fun v1 => ?_
  refine xo_if_eq (pc' := 7) (tgt := 8) dd_K_cancelGiver_4 rfl rfl ?_ ?_
  · refine xo_aload_n (pc' := 9) dd_K_cancelGiver_8 rfl 1 rfl rfl ?_
    refine xo_getP (pc' := 12) dd_K_cancelGiver_9 ff_K_83 (by decide) rfl fun o2 => ?_
    refine xo_callVv (as := []) (o := o2) (st := []) (pc' := 15) dd_K_cancelGiver_12 cv_C_clear ml_K_291 rfl rfl ⟨by decide, by decide⟩ rfl rfl rfl (Nat.le_of_ble_eq_true rfl) rfl (fun n q h => kc_C_clear n H q h) fun H3 => ?_
    refine xo_aload_n (pc' := 16) dd_K_cancelGiver_15 rfl 0 rfl rfl ?_
    refine xo_aload_n (pc' := 17) dd_K_cancelGiver_16 rfl 1 rfl rfl ?_
    refine xo_callVv (as := [.inr x1]) (o := (some t)) (st := []) (pc' := 20) dd_K_cancelGiver_17 cv_K_closeGiver ml_K_107 rfl rfl ⟨by decide, by decide⟩ rfl rfl rfl (Nat.le_of_ble_eq_true rfl) rfl (fun n q h => kc_K_closeGiver n x1 H3 q h) fun H4 => ?_
    refine xo_aload_n (pc' := 21) dd_K_cancelGiver_20 rfl 1 rfl rfl ?_
    refine xo_getP (pc' := 24) dd_K_cancelGiver_21 ff_K_191 (by decide) rfl fun o5 => ?_
    refine xo_astore_n (pc' := 25) dd_K_cancelGiver_24 rfl (by decide) rfl rfl ?_
    refine xo_aload_n (pc' := 26) dd_K_cancelGiver_25 rfl 0 rfl rfl ?_
    refine xo_ifnonnull (pc' := 29) (tgt := 44) dd_K_cancelGiver_26 rfl rfl ?_ ?_
    · refine xo_aload_n (pc' := 45) dd_K_cancelGiver_44 rfl 2 rfl rfl ?_
      refine xo_iconst (pc' := 46) (v := (1 : Int32)) dd_K_cancelGiver_45 (by decide) rfl ?_
      refine xo_putZ (pc' := 49) dd_K_cancelGiver_46 ff_K_294 rfl fun H6 => ?_
      refine xo_aload_n (pc' := 50) dd_K_cancelGiver_49 rfl 0 rfl rfl ?_
      refine xo_getP (pc' := 53) dd_K_cancelGiver_50 ff_K_281 (by decide) rfl fun o7 => ?_
      refine xo_astore (pc' := 55) dd_K_cancelGiver_53 (by decide) rfl rfl ?_
      refine xo_aload_n (pc' := 56) dd_K_cancelGiver_55 rfl 1 rfl rfl ?_
      refine xo_callVi (as := []) (o := o5) (st := []) (pc' := 59) dd_K_cancelGiver_56 cv_A_isGivenUp ml_K_297 rfl rfl ⟨by decide, by decide⟩ rfl rfl rfl (Nat.le_of_ble_eq_true rfl) rfl (fun n q h => kc_A_isGivenUp n H6 q h) fun r8 => ?_
      refine xo_if_eq (pc' := 62) (tgt := 99) dd_K_cancelGiver_59 rfl rfl ?_ ?_
      · exact xo_vret dd_K_cancelGiver_99 rfl
      · refine xo_aload (pc' := 64) dd_K_cancelGiver_62 0 rfl rfl ?_
        refine xo_getI (pc' := 67) dd_K_cancelGiver_64 ff_K_110 (by decide) rfl fun v9 => ?_
        refine xo_if_ne (pc' := 70) (tgt := 99) dd_K_cancelGiver_67 rfl rfl ?_ ?_
        · exact xo_vret dd_K_cancelGiver_99 rfl
        · refine xo_aload (pc' := 72) dd_K_cancelGiver_70 0 rfl rfl ?_
          refine xo_getP (pc' := 75) dd_K_cancelGiver_72 ff_K_83 (by decide) rfl fun o10 => ?_
          refine xo_callVv (as := []) (o := o10) (st := []) (pc' := 78) dd_K_cancelGiver_75 cv_C_clear ml_K_291 rfl rfl ⟨by decide, by decide⟩ rfl rfl rfl (Nat.le_of_ble_eq_true rfl) rfl (fun n q h => kc_C_clear n r8.2 q h) fun H11 => ?_
          refine xo_aload_n (pc' := 79) dd_K_cancelGiver_78 rfl 2 rfl rfl ?_
          refine xo_aload (pc' := 81) dd_K_cancelGiver_79 0 rfl rfl ?_
          refine xo_callVv (as := [.inr o7]) (o := (some t)) (st := []) (pc' := 84) dd_K_cancelGiver_81 cv_K_closeGiver ml_K_107 rfl rfl ⟨by decide, by decide⟩ rfl rfl rfl (Nat.le_of_ble_eq_true rfl) rfl (fun n q h => kc_K_closeGiver n o7 H11 q h) fun H12 => ?_
          refine xo_aload_n (pc' := 85) dd_K_cancelGiver_84 rfl 2 rfl rfl ?_
          refine xo_getP (pc' := 88) dd_K_cancelGiver_85 ff_K_12 (by decide) rfl fun o13 => ?_
          refine xo_iconst (pc' := 89) (v := (2 : Int32)) dd_K_cancelGiver_88 (by decide) rfl ?_
          refine xo_aload (pc' := 91) dd_K_cancelGiver_89 0 rfl rfl ?_
          refine xo_getI (pc' := 94) dd_K_cancelGiver_91 ff_K_60 (by decide) rfl fun v14 => ?_
          refine xo_iload_n (pc' := 95) dd_K_cancelGiver_94 rfl 4 rfl rfl ?_
          refine xo_iconst (pc' := 96) (v := (0 : Int32)) dd_K_cancelGiver_95 (by decide) rfl ?_
          refine xo_callVv (as := [.inl (2 : Int32), .inl v14, .inl x2, .inl (0 : Int32)]) (o := o13) (st := []) (pc' := 99) dd_K_cancelGiver_96 cv_L_note ml_K_254 rfl rfl ⟨by decide, by decide⟩ rfl rfl rfl (Nat.le_of_ble_eq_true rfl) rfl (fun n q h => kc_L_note n (2 : Int32) v14 x2 (0 : Int32) H12 q h) fun H15 => ?_
          exact xo_vret dd_K_cancelGiver_99 rfl
    · refine xo_aload_n (pc' := 30) dd_K_cancelGiver_29 rfl 1 rfl rfl ?_
      refine xo_getP (pc' := 33) dd_K_cancelGiver_30 ff_K_12 (by decide) rfl fun o20 => ?_
      refine xo_iconst (pc' := 34) (v := (2 : Int32)) dd_K_cancelGiver_33 (by decide) rfl ?_
      refine xo_aload_n (pc' := 35) dd_K_cancelGiver_34 rfl 2 rfl rfl ?_
      refine xo_getI (pc' := 38) dd_K_cancelGiver_35 ff_K_60 (by decide) rfl fun v21 => ?_
      refine xo_iload_n (pc' := 39) dd_K_cancelGiver_38 rfl 3 rfl rfl ?_
      refine xo_iconst (pc' := 40) (v := (0 : Int32)) dd_K_cancelGiver_39 (by decide) rfl ?_
      refine xo_callVv (as := [.inl (2 : Int32), .inl v21, .inl x2, .inl (0 : Int32)]) (o := o20) (st := []) (pc' := 43) dd_K_cancelGiver_40 cv_L_note ml_K_254 rfl rfl ⟨by decide, by decide⟩ rfl rfl rfl (Nat.le_of_ble_eq_true rfl) rfl (fun n q h => kc_L_note n (2 : Int32) v21 x2 (0 : Int32) H4 q h) fun H22 => ?_
      exact xo_vret dd_K_cancelGiver_43 rfl
  · exact xo_vret dd_K_cancelGiver_7 rfl
set_option maxRecDepth 100000 in
set_option maxHeartbeats 4000000 in
theorem kc_K_cancelGiver (t : xo_N) (x1 : Option xo_N) (x2 : Int32) (H : xo_H) (r : xo_H) (hk : fc_K_cancelGiver t x1 x2 H = some r) : xo_M mt_K_cancelGiver [.inr (some t), .inr x1, .inl x2] H (xo_jv r) :=
  xo_entry hk (by decide +kernel) (Nat.le_of_ble_eq_true rfl) (kb_K_cancelGiver t x1 x2 H r)
def fc_K_cancel (t : xo_N) (x1 : Int32) (x2 : Int32) (H : xo_H) : Option (Int32 × xo_H) :=
  xo_cl 0 (some t) (fun n9 => fc_K_giverAt n9 x1 H) fun r1 =>
  if r1.1 = none then (xo_gb (0 : Int32) (some ((0 : Int32), r1.2)))
  else (xo_cl 5 r1.1 (fun n8 => fc_G_heldBy n8 r1.2) fun r2 =>
  if r2.1 = 0 then ((fc_K_isError x2 r2.2).bind fun r3 =>
  if r3.1 = 0 then (xo_gb (0 : Int32) (some ((0 : Int32), r3.2)))
  else (xo_cl 0 (some t) (fun n7 => fc_K_cancelGiver n7 r1.1 x2 r3.2) fun H4 =>
  xo_cl 0 (some t) (fun n6 => fc_K_awaitPumps n6 H4) fun H5 =>
  xo_gb (1 : Int32) (some ((1 : Int32), H5))))
  else (xo_gb (0 : Int32) (some ((0 : Int32), r2.2))))

set_option maxRecDepth 100000 in
set_option maxHeartbeats 4000000 in
theorem kb_K_cancel (t : xo_N) (x1 : Int32) (x2 : Int32) (H : xo_H) (r : Int32 × xo_H) : xo_X mt_K_cancel 0 0 xo_ji r 0 [(0, .inr (some t)), (1, .inl x1), (2, .inl x2)] [] H (fc_K_cancel t x1 x2 H) := by
  unfold fc_K_cancel
  refine xo_aload_n (pc' := 1) dd_K_cancel_0 rfl 0 rfl rfl ?_
  refine xo_iload_n (pc' := 2) dd_K_cancel_1 rfl 1 rfl rfl ?_
  refine xo_callVp (as := [.inl x1]) (o := (some t)) (st := []) (pc' := 5) dd_K_cancel_2 cv_K_giverAt ml_K_133 rfl rfl ⟨by decide, by decide⟩ rfl rfl rfl (Nat.le_of_ble_eq_true rfl) rfl (fun n q h => kc_K_giverAt n x1 H q h) fun r1 => ?_
  refine xo_astore_n (pc' := 6) dd_K_cancel_5 rfl (by decide) rfl rfl ?_
  refine xo_aload_n (pc' := 7) dd_K_cancel_6 rfl 0 rfl rfl ?_
  refine xo_ifnull (pc' := 10) (tgt := 24) dd_K_cancel_7 rfl rfl ?_ ?_
  · refine xo_iconst (pc' := 25) (v := (0 : Int32)) dd_K_cancel_24 (by decide) rfl ?_
    exact xo_zret dd_K_cancel_25 rfl
  · refine xo_aload_n (pc' := 11) dd_K_cancel_10 rfl 0 rfl rfl ?_
    refine xo_callVi (as := []) (o := r1.1) (st := []) (pc' := 14) dd_K_cancel_11 cv_G_heldBy ml_K_136 rfl rfl ⟨by decide, by decide⟩ rfl rfl rfl (Nat.le_of_ble_eq_true rfl) rfl (fun n q h => kc_G_heldBy n r1.2 q h) fun r2 => ?_
    refine xo_if_ne (pc' := 17) (tgt := 24) dd_K_cancel_14 rfl rfl ?_ ?_
    · refine xo_iconst (pc' := 25) (v := (0 : Int32)) dd_K_cancel_24 (by decide) rfl ?_
      exact xo_zret dd_K_cancel_25 rfl
    · refine xo_iload_n (pc' := 18) dd_K_cancel_17 rfl 3 rfl rfl ?_
      refine xo_callSi (as := [.inl x2]) (st := []) (pc' := 21) dd_K_cancel_18 cv_K_isError ml_K_113 rfl ⟨by decide, by decide⟩ rfl rfl rfl (Nat.le_of_ble_eq_true rfl) rfl (fun q h => kc_K_isError x2 r2.2 q h) fun r3 => ?_
      refine xo_if_ne (pc' := 24) (tgt := 26) dd_K_cancel_21 rfl rfl ?_ ?_
      · refine xo_aload_n (pc' := 27) dd_K_cancel_26 rfl 1 rfl rfl ?_
        refine xo_aload_n (pc' := 28) dd_K_cancel_27 rfl 0 rfl rfl ?_
        refine xo_iload_n (pc' := 29) dd_K_cancel_28 rfl 3 rfl rfl ?_
        refine xo_callVv (as := [.inr r1.1, .inl x2]) (o := (some t)) (st := []) (pc' := 32) dd_K_cancel_29 cv_K_cancelGiver ml_K_145 rfl rfl ⟨by decide, by decide⟩ rfl rfl rfl (Nat.le_of_ble_eq_true rfl) rfl (fun n q h => kc_K_cancelGiver n r1.1 x2 r3.2 q h) fun H4 => ?_
        refine xo_aload_n (pc' := 33) dd_K_cancel_32 rfl 1 rfl rfl ?_
        refine xo_callVv (as := []) (o := (some t)) (st := []) (pc' := 36) dd_K_cancel_33 cv_K_awaitPumps ml_K_57 rfl rfl ⟨by decide, by decide⟩ rfl rfl rfl (Nat.le_of_ble_eq_true rfl) rfl (fun n q h => kc_K_awaitPumps n H4 q h) fun H5 => ?_
        refine xo_iconst (pc' := 37) (v := (1 : Int32)) dd_K_cancel_36 (by decide) rfl ?_
        exact xo_zret dd_K_cancel_37 rfl
      · refine xo_iconst (pc' := 25) (v := (0 : Int32)) dd_K_cancel_24 (by decide) rfl ?_
        exact xo_zret dd_K_cancel_25 rfl
set_option maxRecDepth 100000 in
set_option maxHeartbeats 4000000 in
theorem kc_K_cancel (t : xo_N) (x1 : Int32) (x2 : Int32) (H : xo_H) (r : Int32 × xo_H) (hk : fc_K_cancel t x1 x2 H = some r) : xo_M mt_K_cancel [.inr (some t), .inl x1, .inl x2] H (xo_ji r) :=
  xo_entry hk (by decide +kernel) (Nat.le_of_ble_eq_true rfl) (kb_K_cancel t x1 x2 H r)
def fc_K_takerAt (t : xo_N) (x1 : Int32) (H : xo_H) : Option (Option xo_N × xo_H) :=
  if x1 < 0 then (some (none, H))
  else (xo_gf 0 6 H (some t) fun v1 =>
  if x1 < v1 then (xo_gp 0 3 H (some t) fun o2 =>
  xo_ap 3 H o2 x1 fun o3 =>
  some (o3, H))
  else (some (none, H)))

set_option maxRecDepth 100000 in
set_option maxHeartbeats 4000000 in
theorem kb_K_takerAt (t : xo_N) (x1 : Int32) (H : xo_H) (r : Option xo_N × xo_H) : xo_X mt_K_takerAt 0 0 xo_jp r 0 [(0, .inr (some t)), (1, .inl x1)] [] H (fc_K_takerAt t x1 H) := by
  unfold fc_K_takerAt
  refine xo_iload_n (pc' := 1) dd_K_takerAt_0 rfl 1 rfl rfl ?_
  refine xo_if_lt (pc' := 4) (tgt := 21) dd_K_takerAt_1 rfl rfl ?_ ?_
  · refine xo_null (pc' := 22) dd_K_takerAt_21 rfl ?_
    exact xo_aret dd_K_takerAt_22 rfl
  · refine xo_iload_n (pc' := 5) dd_K_takerAt_4 rfl 1 rfl rfl ?_
    refine xo_aload_n (pc' := 6) dd_K_takerAt_5 rfl 0 rfl rfl ?_
    refine xo_getI (pc' := 9) dd_K_takerAt_6 ff_K_63 (by decide) rfl fun v1 => ?_
    refine xo_icmp_ge (pc' := 12) (tgt := 21) dd_K_takerAt_9 rfl rfl ?_ ?_
    · refine xo_null (pc' := 22) dd_K_takerAt_21 rfl ?_
      exact xo_aret dd_K_takerAt_22 rfl
    · refine xo_aload_n (pc' := 13) dd_K_takerAt_12 rfl 0 rfl rfl ?_
      refine xo_getP (pc' := 16) dd_K_takerAt_13 ff_K_31 (by decide) rfl fun o2 => ?_
      refine xo_iload_n (pc' := 17) dd_K_takerAt_16 rfl 1 rfl rfl ?_
      refine xo_aald (pc' := 18) dd_K_takerAt_17 (by decide) rfl fun o3 => ?_
      refine xo_goto (pc' := 22) dd_K_takerAt_18 rfl ?_
      exact xo_aret dd_K_takerAt_22 rfl
set_option maxRecDepth 100000 in
set_option maxHeartbeats 4000000 in
theorem kc_K_takerAt (t : xo_N) (x1 : Int32) (H : xo_H) (r : Option xo_N × xo_H) (hk : fc_K_takerAt t x1 H = some r) : xo_M mt_K_takerAt [.inr (some t), .inl x1] H (xo_jp r) :=
  xo_entry hk (by decide +kernel) (Nat.le_of_ble_eq_true rfl) (kb_K_takerAt t x1 H r)
def fc_K_write (t : xo_N) (x1 : Int32) (x2 : Int32) (H : xo_H) : Option (Int32 × xo_H) :=
  xo_cl 0 (some t) (fun n10 => fc_K_takerAt n10 x1 H) fun r1 =>
  if r1.1 = none then (some ((-1 : Int32), r1.2))
  else (xo_gf 7 12 r1.2 r1.1 fun v2 =>
  if v2 = 0 then (xo_gp 7 1 r1.2 r1.1 fun o3 =>
  xo_cl 4 o3 (fun n9 => fc_C_count n9 r1.2) fun r4 =>
  if r4.1 < (16 : Int32) then (xo_cl 7 r1.1 (fun n8 => fc_T_accept n8 x2 r4.2) fun r5 =>
  xo_cl 0 (some t) (fun n7 => fc_K_awaitPumps n7 r5.2) fun H6 =>
  some (r5.1, H6))
  else (some ((-3 : Int32), r4.2)))
  else (some ((-2 : Int32), r1.2)))

set_option maxRecDepth 100000 in
set_option maxHeartbeats 4000000 in
theorem kb_K_write (t : xo_N) (x1 : Int32) (x2 : Int32) (H : xo_H) (r : Int32 × xo_H) : xo_X mt_K_write 0 0 xo_ji r 0 [(0, .inr (some t)), (1, .inl x1), (2, .inl x2)] [] H (fc_K_write t x1 x2 H) := by
  unfold fc_K_write
  refine xo_aload_n (pc' := 1) dd_K_write_0 rfl 0 rfl rfl ?_
  refine xo_iload_n (pc' := 2) dd_K_write_1 rfl 1 rfl rfl ?_
  refine xo_callVp (as := [.inl x1]) (o := (some t)) (st := []) (pc' := 5) dd_K_write_2 cv_K_takerAt ml_K_148 rfl rfl ⟨by decide, by decide⟩ rfl rfl rfl (Nat.le_of_ble_eq_true rfl) rfl (fun n q h => kc_K_takerAt n x1 H q h) fun r1 => ?_
  refine xo_astore_n (pc' := 6) dd_K_write_5 rfl (by decide) rfl rfl ?_
  refine xo_aload_n (pc' := 7) dd_K_write_6 rfl 0 rfl rfl ?_
  refine xo_ifnonnull (pc' := 10) (tgt := 12) dd_K_write_7 rfl rfl ?_ ?_
  · refine xo_aload_n (pc' := 13) dd_K_write_12 rfl 0 rfl rfl ?_
    refine xo_getI (pc' := 16) dd_K_write_13 ff_K_152 (by decide) rfl fun v2 => ?_
    refine xo_if_eq (pc' := 19) (tgt := 22) dd_K_write_16 rfl rfl ?_ ?_
    · refine xo_aload_n (pc' := 23) dd_K_write_22 rfl 0 rfl rfl ?_
      refine xo_getP (pc' := 26) dd_K_write_23 ff_K_155 (by decide) rfl fun o3 => ?_
      refine xo_callVi (as := []) (o := o3) (st := []) (pc' := 29) dd_K_write_26 cv_C_count ml_K_87 rfl rfl ⟨by decide, by decide⟩ rfl rfl rfl (Nat.le_of_ble_eq_true rfl) rfl (fun n q h => kc_C_count n r1.2 q h) fun r4 => ?_
      refine xo_bipush (pc' := 31) (v := (16 : Int32)) dd_K_write_29 (by decide) rfl ?_
      refine xo_icmp_lt (pc' := 34) (tgt := 37) dd_K_write_31 rfl rfl ?_ ?_
      · refine xo_aload_n (pc' := 38) dd_K_write_37 rfl 0 rfl rfl ?_
        refine xo_iload_n (pc' := 39) dd_K_write_38 rfl 3 rfl rfl ?_
        refine xo_callVi (as := [.inl x2]) (o := r1.1) (st := []) (pc' := 42) dd_K_write_39 cv_T_accept ml_K_156 rfl rfl ⟨by decide, by decide⟩ rfl rfl rfl (Nat.le_of_ble_eq_true rfl) rfl (fun n q h => kc_T_accept n x2 r4.2 q h) fun r5 => ?_
        refine xo_istore (pc' := 44) dd_K_write_42 (by decide) rfl rfl ?_
        refine xo_aload_n (pc' := 45) dd_K_write_44 rfl 2 rfl rfl ?_
        refine xo_callVv (as := []) (o := (some t)) (st := []) (pc' := 48) dd_K_write_45 cv_K_awaitPumps ml_K_57 rfl rfl ⟨by decide, by decide⟩ rfl rfl rfl (Nat.le_of_ble_eq_true rfl) rfl (fun n q h => kc_K_awaitPumps n r5.2 q h) fun H6 => ?_
        refine xo_iload (pc' := 50) dd_K_write_48 0 rfl rfl ?_
        exact xo_iret dd_K_write_50 rfl
      · refine xo_bipush (pc' := 36) (v := (-3 : Int32)) dd_K_write_34 (by decide) rfl ?_
        exact xo_iret dd_K_write_36 rfl
    · refine xo_bipush (pc' := 21) (v := (-2 : Int32)) dd_K_write_19 (by decide) rfl ?_
      exact xo_iret dd_K_write_21 rfl
  · refine xo_iconst (pc' := 11) (v := (-1 : Int32)) dd_K_write_10 (by decide) rfl ?_
    exact xo_iret dd_K_write_11 rfl
set_option maxRecDepth 100000 in
set_option maxHeartbeats 4000000 in
theorem kc_K_write (t : xo_N) (x1 : Int32) (x2 : Int32) (H : xo_H) (r : Int32 × xo_H) (hk : fc_K_write t x1 x2 H = some r) : xo_M mt_K_write [.inr (some t), .inl x1, .inl x2] H (xo_ji r) :=
  xo_entry hk (by decide +kernel) (Nat.le_of_ble_eq_true rfl) (kb_K_write t x1 x2 H r)
def fc_K_shut (t : xo_N) (x1 : Int32) (H : xo_H) : Option (Int32 × xo_H) :=
  xo_cl 0 (some t) (fun n9 => fc_K_takerAt n9 x1 H) fun r1 =>
  if r1.1 = none then (xo_gb (0 : Int32) (some ((0 : Int32), r1.2)))
  else (xo_gf 7 12 r1.2 r1.1 fun v2 =>
  if v2 = 0 then (xo_cl 7 r1.1 (fun n8 => fc_T_canShutDown n8 r1.2) fun r3 =>
  if r3.1 = 0 then (xo_gb (0 : Int32) (some ((0 : Int32), r3.2)))
  else (xo_cl 7 r1.1 (fun n7 => fc_T_shutDown n7 r3.2) fun H4 =>
  xo_cl 0 (some t) (fun n6 => fc_K_awaitPumps n6 H4) fun H5 =>
  xo_gb (1 : Int32) (some ((1 : Int32), H5))))
  else (xo_gb (0 : Int32) (some ((0 : Int32), r1.2))))

set_option maxRecDepth 100000 in
set_option maxHeartbeats 4000000 in
theorem kb_K_shut (t : xo_N) (x1 : Int32) (H : xo_H) (r : Int32 × xo_H) : xo_X mt_K_shut 0 0 xo_ji r 0 [(0, .inr (some t)), (1, .inl x1)] [] H (fc_K_shut t x1 H) := by
  unfold fc_K_shut
  refine xo_aload_n (pc' := 1) dd_K_shut_0 rfl 0 rfl rfl ?_
  refine xo_iload_n (pc' := 2) dd_K_shut_1 rfl 1 rfl rfl ?_
  refine xo_callVp (as := [.inl x1]) (o := (some t)) (st := []) (pc' := 5) dd_K_shut_2 cv_K_takerAt ml_K_148 rfl rfl ⟨by decide, by decide⟩ rfl rfl rfl (Nat.le_of_ble_eq_true rfl) rfl (fun n q h => kc_K_takerAt n x1 H q h) fun r1 => ?_
  refine xo_astore_n (pc' := 6) dd_K_shut_5 rfl (by decide) rfl rfl ?_
  refine xo_aload_n (pc' := 7) dd_K_shut_6 rfl 0 rfl rfl ?_
  refine xo_ifnull (pc' := 10) (tgt := 24) dd_K_shut_7 rfl rfl ?_ ?_
  · refine xo_iconst (pc' := 25) (v := (0 : Int32)) dd_K_shut_24 (by decide) rfl ?_
    exact xo_zret dd_K_shut_25 rfl
  · refine xo_aload_n (pc' := 11) dd_K_shut_10 rfl 0 rfl rfl ?_
    refine xo_getI (pc' := 14) dd_K_shut_11 ff_K_152 (by decide) rfl fun v2 => ?_
    refine xo_if_ne (pc' := 17) (tgt := 24) dd_K_shut_14 rfl rfl ?_ ?_
    · refine xo_iconst (pc' := 25) (v := (0 : Int32)) dd_K_shut_24 (by decide) rfl ?_
      exact xo_zret dd_K_shut_25 rfl
    · refine xo_aload_n (pc' := 18) dd_K_shut_17 rfl 0 rfl rfl ?_
      refine xo_callVi (as := []) (o := r1.1) (st := []) (pc' := 21) dd_K_shut_18 cv_T_canShutDown ml_K_160 rfl rfl ⟨by decide, by decide⟩ rfl rfl rfl (Nat.le_of_ble_eq_true rfl) rfl (fun n q h => kc_T_canShutDown n r1.2 q h) fun r3 => ?_
      refine xo_if_ne (pc' := 24) (tgt := 26) dd_K_shut_21 rfl rfl ?_ ?_
      · refine xo_aload_n (pc' := 27) dd_K_shut_26 rfl 0 rfl rfl ?_
        refine xo_callVv (as := []) (o := r1.1) (st := []) (pc' := 30) dd_K_shut_27 cv_T_shutDown ml_K_163 rfl rfl ⟨by decide, by decide⟩ rfl rfl rfl (Nat.le_of_ble_eq_true rfl) rfl (fun n q h => kc_T_shutDown n r3.2 q h) fun H4 => ?_
        refine xo_aload_n (pc' := 31) dd_K_shut_30 rfl 1 rfl rfl ?_
        refine xo_callVv (as := []) (o := (some t)) (st := []) (pc' := 34) dd_K_shut_31 cv_K_awaitPumps ml_K_57 rfl rfl ⟨by decide, by decide⟩ rfl rfl rfl (Nat.le_of_ble_eq_true rfl) rfl (fun n q h => kc_K_awaitPumps n H4 q h) fun H5 => ?_
        refine xo_iconst (pc' := 35) (v := (1 : Int32)) dd_K_shut_34 (by decide) rfl ?_
        exact xo_zret dd_K_shut_35 rfl
      · refine xo_iconst (pc' := 25) (v := (0 : Int32)) dd_K_shut_24 (by decide) rfl ?_
        exact xo_zret dd_K_shut_25 rfl
set_option maxRecDepth 100000 in
set_option maxHeartbeats 4000000 in
theorem kc_K_shut (t : xo_N) (x1 : Int32) (H : xo_H) (r : Int32 × xo_H) (hk : fc_K_shut t x1 H = some r) : xo_M mt_K_shut [.inr (some t), .inl x1] H (xo_ji r) :=
  xo_entry hk (by decide +kernel) (Nat.le_of_ble_eq_true rfl) (kb_K_shut t x1 H r)
def fc_K_abort (t : xo_N) (x1 : Int32) (x2 : Int32) (H : xo_H) : Option (Int32 × xo_H) :=
  xo_cl 0 (some t) (fun n10 => fc_K_takerAt n10 x1 H) fun r1 =>
  if r1.1 = none then (xo_gb (0 : Int32) (some ((0 : Int32), r1.2)))
  else (xo_gf 7 12 r1.2 r1.1 fun v2 =>
  if v2 = 0 then ((fc_K_isError x2 r1.2).bind fun r3 =>
  if r3.1 = 0 then (xo_gb (0 : Int32) (some ((0 : Int32), r3.2)))
  else (xo_gf 7 9 r3.2 r1.1 fun v4 =>
  if v4 = 0 then (xo_gf 7 7 r3.2 r1.1 fun v5 =>
  if v5 = (5 : Int32) then (xo_gb (0 : Int32) (some ((0 : Int32), r3.2)))
  else (xo_cl 7 r1.1 (fun n9 => fc_T_abortWith n9 x2 r3.2) fun H6 =>
  xo_cl 0 (some t) (fun n8 => fc_K_awaitPumps n8 H6) fun H7 =>
  xo_gb (1 : Int32) (some ((1 : Int32), H7))))
  else (xo_gb (0 : Int32) (some ((0 : Int32), r3.2)))))
  else (xo_gb (0 : Int32) (some ((0 : Int32), r1.2))))

set_option maxRecDepth 100000 in
set_option maxHeartbeats 4000000 in
theorem kb_K_abort (t : xo_N) (x1 : Int32) (x2 : Int32) (H : xo_H) (r : Int32 × xo_H) : xo_X mt_K_abort 0 0 xo_ji r 0 [(0, .inr (some t)), (1, .inl x1), (2, .inl x2)] [] H (fc_K_abort t x1 x2 H) := by
  unfold fc_K_abort
  refine xo_aload_n (pc' := 1) dd_K_abort_0 rfl 0 rfl rfl ?_
  refine xo_iload_n (pc' := 2) dd_K_abort_1 rfl 1 rfl rfl ?_
  refine xo_callVp (as := [.inl x1]) (o := (some t)) (st := []) (pc' := 5) dd_K_abort_2 cv_K_takerAt ml_K_148 rfl rfl ⟨by decide, by decide⟩ rfl rfl rfl (Nat.le_of_ble_eq_true rfl) rfl (fun n q h => kc_K_takerAt n x1 H q h) fun r1 => ?_
  refine xo_astore_n (pc' := 6) dd_K_abort_5 rfl (by decide) rfl rfl ?_
  refine xo_aload_n (pc' := 7) dd_K_abort_6 rfl 0 rfl rfl ?_
  refine xo_ifnull (pc' := 10) (tgt := 24) dd_K_abort_7 rfl rfl ?_ ?_
  · refine xo_iconst (pc' := 25) (v := (0 : Int32)) dd_K_abort_24 (by decide) rfl ?_
    exact xo_zret dd_K_abort_25 rfl
  · refine xo_aload_n (pc' := 11) dd_K_abort_10 rfl 0 rfl rfl ?_
    refine xo_getI (pc' := 14) dd_K_abort_11 ff_K_152 (by decide) rfl fun v2 => ?_
    refine xo_if_ne (pc' := 17) (tgt := 24) dd_K_abort_14 rfl rfl ?_ ?_
    · refine xo_iconst (pc' := 25) (v := (0 : Int32)) dd_K_abort_24 (by decide) rfl ?_
      exact xo_zret dd_K_abort_25 rfl
    · refine xo_iload_n (pc' := 18) dd_K_abort_17 rfl 3 rfl rfl ?_
      refine xo_callSi (as := [.inl x2]) (st := []) (pc' := 21) dd_K_abort_18 cv_K_isError ml_K_113 rfl ⟨by decide, by decide⟩ rfl rfl rfl (Nat.le_of_ble_eq_true rfl) rfl (fun q h => kc_K_isError x2 r1.2 q h) fun r3 => ?_
      refine xo_if_ne (pc' := 24) (tgt := 26) dd_K_abort_21 rfl rfl ?_ ?_
      · refine xo_aload_n (pc' := 27) dd_K_abort_26 rfl 0 rfl rfl ?_
        refine xo_getI (pc' := 30) dd_K_abort_27 ff_K_166 (by decide) rfl fun v4 => ?_
        refine xo_if_ne (pc' := 33) (tgt := 41) dd_K_abort_30 rfl rfl ?_ ?_
        · refine xo_iconst (pc' := 42) (v := (0 : Int32)) dd_K_abort_41 (by decide) rfl ?_
          exact xo_zret dd_K_abort_42 rfl
        · refine xo_aload_n (pc' := 34) dd_K_abort_33 rfl 0 rfl rfl ?_
          refine xo_getI (pc' := 37) dd_K_abort_34 ff_K_169 (by decide) rfl fun v5 => ?_
          refine xo_iconst (pc' := 38) (v := (5 : Int32)) dd_K_abort_37 (by decide) rfl ?_
          refine xo_icmp_ne (pc' := 41) (tgt := 43) dd_K_abort_38 rfl rfl ?_ ?_
          · refine xo_aload_n (pc' := 44) dd_K_abort_43 rfl 0 rfl rfl ?_
            refine xo_iload_n (pc' := 45) dd_K_abort_44 rfl 3 rfl rfl ?_
            refine xo_callVv (as := [.inl x2]) (o := r1.1) (st := []) (pc' := 48) dd_K_abort_45 cv_T_abortWith ml_K_172 rfl rfl ⟨by decide, by decide⟩ rfl rfl rfl (Nat.le_of_ble_eq_true rfl) rfl (fun n q h => kc_T_abortWith n x2 r3.2 q h) fun H6 => ?_
            refine xo_aload_n (pc' := 49) dd_K_abort_48 rfl 1 rfl rfl ?_
            refine xo_callVv (as := []) (o := (some t)) (st := []) (pc' := 52) dd_K_abort_49 cv_K_awaitPumps ml_K_57 rfl rfl ⟨by decide, by decide⟩ rfl rfl rfl (Nat.le_of_ble_eq_true rfl) rfl (fun n q h => kc_K_awaitPumps n H6 q h) fun H7 => ?_
            refine xo_iconst (pc' := 53) (v := (1 : Int32)) dd_K_abort_52 (by decide) rfl ?_
            exact xo_zret dd_K_abort_53 rfl
          · refine xo_iconst (pc' := 42) (v := (0 : Int32)) dd_K_abort_41 (by decide) rfl ?_
            exact xo_zret dd_K_abort_42 rfl
      · refine xo_iconst (pc' := 25) (v := (0 : Int32)) dd_K_abort_24 (by decide) rfl ?_
        exact xo_zret dd_K_abort_25 rfl
set_option maxRecDepth 100000 in
set_option maxHeartbeats 4000000 in
theorem kc_K_abort (t : xo_N) (x1 : Int32) (x2 : Int32) (H : xo_H) (r : Int32 × xo_H) (hk : fc_K_abort t x1 x2 H = some r) : xo_M mt_K_abort [.inr (some t), .inl x1, .inl x2] H (xo_ji r) :=
  xo_entry hk (by decide +kernel) (Nat.le_of_ble_eq_true rfl) (kb_K_abort t x1 x2 H r)
def fc_K_spoil (t : xo_N) (x1 : Int32) (x2 : Int32) (H : xo_H) : Option (Int32 × xo_H) :=
  xo_cl 0 (some t) (fun n8 => fc_K_takerAt n8 x1 H) fun r1 =>
  if r1.1 = none then (xo_gb (0 : Int32) (some ((0 : Int32), r1.2)))
  else (xo_gf 7 4 r1.2 r1.1 fun v2 =>
  if v2 = 0 then ((fc_K_isError x2 r1.2).bind fun r3 =>
  if r3.1 = 0 then (xo_gb (0 : Int32) (some ((0 : Int32), r3.2)))
  else (xo_cl 7 r1.1 (fun n7 => fc_T_startFailing n7 x2 r3.2) fun H4 =>
  xo_cl 0 (some t) (fun n6 => fc_K_awaitPumps n6 H4) fun H5 =>
  xo_gb (1 : Int32) (some ((1 : Int32), H5))))
  else (xo_gb (0 : Int32) (some ((0 : Int32), r1.2))))

set_option maxRecDepth 100000 in
set_option maxHeartbeats 4000000 in
theorem kb_K_spoil (t : xo_N) (x1 : Int32) (x2 : Int32) (H : xo_H) (r : Int32 × xo_H) : xo_X mt_K_spoil 0 0 xo_ji r 0 [(0, .inr (some t)), (1, .inl x1), (2, .inl x2)] [] H (fc_K_spoil t x1 x2 H) := by
  unfold fc_K_spoil
  refine xo_aload_n (pc' := 1) dd_K_spoil_0 rfl 0 rfl rfl ?_
  refine xo_iload_n (pc' := 2) dd_K_spoil_1 rfl 1 rfl rfl ?_
  refine xo_callVp (as := [.inl x1]) (o := (some t)) (st := []) (pc' := 5) dd_K_spoil_2 cv_K_takerAt ml_K_148 rfl rfl ⟨by decide, by decide⟩ rfl rfl rfl (Nat.le_of_ble_eq_true rfl) rfl (fun n q h => kc_K_takerAt n x1 H q h) fun r1 => ?_
  refine xo_astore_n (pc' := 6) dd_K_spoil_5 rfl (by decide) rfl rfl ?_
  refine xo_aload_n (pc' := 7) dd_K_spoil_6 rfl 0 rfl rfl ?_
  refine xo_ifnull (pc' := 10) (tgt := 24) dd_K_spoil_7 rfl rfl ?_ ?_
  · refine xo_iconst (pc' := 25) (v := (0 : Int32)) dd_K_spoil_24 (by decide) rfl ?_
    exact xo_zret dd_K_spoil_25 rfl
  · refine xo_aload_n (pc' := 11) dd_K_spoil_10 rfl 0 rfl rfl ?_
    refine xo_getI (pc' := 14) dd_K_spoil_11 ff_K_176 (by decide) rfl fun v2 => ?_
    refine xo_if_ne (pc' := 17) (tgt := 24) dd_K_spoil_14 rfl rfl ?_ ?_
    · refine xo_iconst (pc' := 25) (v := (0 : Int32)) dd_K_spoil_24 (by decide) rfl ?_
      exact xo_zret dd_K_spoil_25 rfl
    · refine xo_iload_n (pc' := 18) dd_K_spoil_17 rfl 3 rfl rfl ?_
      refine xo_callSi (as := [.inl x2]) (st := []) (pc' := 21) dd_K_spoil_18 cv_K_isError ml_K_113 rfl ⟨by decide, by decide⟩ rfl rfl rfl (Nat.le_of_ble_eq_true rfl) rfl (fun q h => kc_K_isError x2 r1.2 q h) fun r3 => ?_
      refine xo_if_ne (pc' := 24) (tgt := 26) dd_K_spoil_21 rfl rfl ?_ ?_
      · refine xo_aload_n (pc' := 27) dd_K_spoil_26 rfl 0 rfl rfl ?_
        refine xo_iload_n (pc' := 28) dd_K_spoil_27 rfl 3 rfl rfl ?_
        refine xo_callVv (as := [.inl x2]) (o := r1.1) (st := []) (pc' := 31) dd_K_spoil_28 cv_T_startFailing ml_K_177 rfl rfl ⟨by decide, by decide⟩ rfl rfl rfl (Nat.le_of_ble_eq_true rfl) rfl (fun n q h => kc_T_startFailing n x2 r3.2 q h) fun H4 => ?_
        refine xo_aload_n (pc' := 32) dd_K_spoil_31 rfl 1 rfl rfl ?_
        refine xo_callVv (as := []) (o := (some t)) (st := []) (pc' := 35) dd_K_spoil_32 cv_K_awaitPumps ml_K_57 rfl rfl ⟨by decide, by decide⟩ rfl rfl rfl (Nat.le_of_ble_eq_true rfl) rfl (fun n q h => kc_K_awaitPumps n H4 q h) fun H5 => ?_
        refine xo_iconst (pc' := 36) (v := (1 : Int32)) dd_K_spoil_35 (by decide) rfl ?_
        exact xo_zret dd_K_spoil_36 rfl
      · refine xo_iconst (pc' := 25) (v := (0 : Int32)) dd_K_spoil_24 (by decide) rfl ?_
        exact xo_zret dd_K_spoil_25 rfl
set_option maxRecDepth 100000 in
set_option maxHeartbeats 4000000 in
theorem kc_K_spoil (t : xo_N) (x1 : Int32) (x2 : Int32) (H : xo_H) (r : Int32 × xo_H) (hk : fc_K_spoil t x1 x2 H = some r) : xo_M mt_K_spoil [.inr (some t), .inl x1, .inl x2] H (xo_ji r) :=
  xo_entry hk (by decide +kernel) (Nat.le_of_ble_eq_true rfl) (kb_K_spoil t x1 x2 H r)
def fc_K_settle (t : xo_N) (x1 : Int32) (x2 : Int32) (H : xo_H) : Option (Int32 × xo_H) :=
  xo_cl 0 (some t) (fun n14 => fc_K_takerAt n14 x1 H) fun r1 =>
  if r1.1 = none then (xo_gb (0 : Int32) (some ((0 : Int32), r1.2)))
  else (xo_gf 7 7 r1.2 r1.1 fun v2 =>
  if v2 = 0 then (xo_gb (0 : Int32) (some ((0 : Int32), r1.2)))
  else ((fc_K_isErrorOrNone x2 r1.2).bind fun r3 =>
  if r3.1 = 0 then (xo_gb (0 : Int32) (some ((0 : Int32), r3.2)))
  else (xo_gp 0 1 r3.2 (some t) fun o4 =>
  xo_gf 7 7 r3.2 r1.1 fun v5 =>
  xo_cl 2 o4 (fun n13 => fc_J_holds n13 v5 x1 r3.2) fun r6 =>
  if r6.1 = 0 then (xo_gp 0 1 r6.2 (some t) fun o7 =>
  xo_gf 7 7 r6.2 r1.1 fun v8 =>
  xo_cl 2 o7 (fun n12 => fc_J_add n12 v8 x1 x2 r6.2) fun H9 =>
  xo_cl 0 (some t) (fun n11 => fc_K_awaitPumps n11 H9) fun H10 =>
  xo_gb (1 : Int32) (some ((1 : Int32), H10)))
  else (xo_gb (0 : Int32) (some ((0 : Int32), r6.2))))))

set_option maxRecDepth 100000 in
set_option maxHeartbeats 4000000 in
theorem kb_K_settle (t : xo_N) (x1 : Int32) (x2 : Int32) (H : xo_H) (r : Int32 × xo_H) : xo_X mt_K_settle 0 0 xo_ji r 0 [(0, .inr (some t)), (1, .inl x1), (2, .inl x2)] [] H (fc_K_settle t x1 x2 H) := by
  unfold fc_K_settle
  refine xo_aload_n (pc' := 1) dd_K_settle_0 rfl 0 rfl rfl ?_
  refine xo_iload_n (pc' := 2) dd_K_settle_1 rfl 1 rfl rfl ?_
  refine xo_callVp (as := [.inl x1]) (o := (some t)) (st := []) (pc' := 5) dd_K_settle_2 cv_K_takerAt ml_K_148 rfl rfl ⟨by decide, by decide⟩ rfl rfl rfl (Nat.le_of_ble_eq_true rfl) rfl (fun n q h => kc_K_takerAt n x1 H q h) fun r1 => ?_
  refine xo_astore_n (pc' := 6) dd_K_settle_5 rfl (by decide) rfl rfl ?_
  refine xo_aload_n (pc' := 7) dd_K_settle_6 rfl 0 rfl rfl ?_
  refine xo_ifnull (pc' := 10) (tgt := 24) dd_K_settle_7 rfl rfl ?_ ?_
  · refine xo_iconst (pc' := 25) (v := (0 : Int32)) dd_K_settle_24 (by decide) rfl ?_
    exact xo_zret dd_K_settle_25 rfl
  · refine xo_aload_n (pc' := 11) dd_K_settle_10 rfl 0 rfl rfl ?_
    refine xo_getI (pc' := 14) dd_K_settle_11 ff_K_169 (by decide) rfl fun v2 => ?_
    refine xo_if_eq (pc' := 17) (tgt := 24) dd_K_settle_14 rfl rfl ?_ ?_
    · refine xo_iconst (pc' := 25) (v := (0 : Int32)) dd_K_settle_24 (by decide) rfl ?_
      exact xo_zret dd_K_settle_25 rfl
    · refine xo_iload_n (pc' := 18) dd_K_settle_17 rfl 3 rfl rfl ?_
      refine xo_callSi (as := [.inl x2]) (st := []) (pc' := 21) dd_K_settle_18 cv_K_isErrorOrNone ml_K_126 rfl ⟨by decide, by decide⟩ rfl rfl rfl (Nat.le_of_ble_eq_true rfl) rfl (fun q h => kc_K_isErrorOrNone x2 r1.2 q h) fun r3 => ?_
      refine xo_if_ne (pc' := 24) (tgt := 26) dd_K_settle_21 rfl rfl ?_ ?_
      · refine xo_aload_n (pc' := 27) dd_K_settle_26 rfl 1 rfl rfl ?_
        refine xo_getP (pc' := 30) dd_K_settle_27 ff_K_19 (by decide) rfl fun o4 => ?_
        refine xo_aload_n (pc' := 31) dd_K_settle_30 rfl 0 rfl rfl ?_
        refine xo_getI (pc' := 34) dd_K_settle_31 ff_K_169 (by decide) rfl fun v5 => ?_
        refine xo_iload_n (pc' := 35) dd_K_settle_34 rfl 2 rfl rfl ?_
        refine xo_callVi (as := [.inl v5, .inl x1]) (o := o4) (st := []) (pc' := 38) dd_K_settle_35 cv_J_holds ml_K_122 rfl rfl ⟨by decide, by decide⟩ rfl rfl rfl (Nat.le_of_ble_eq_true rfl) rfl (fun n q h => kc_J_holds n v5 x1 r3.2 q h) fun r6 => ?_
        refine xo_if_eq (pc' := 41) (tgt := 43) dd_K_settle_38 rfl rfl ?_ ?_
        · refine xo_aload_n (pc' := 44) dd_K_settle_43 rfl 1 rfl rfl ?_
          refine xo_getP (pc' := 47) dd_K_settle_44 ff_K_19 (by decide) rfl fun o7 => ?_
          refine xo_aload_n (pc' := 48) dd_K_settle_47 rfl 0 rfl rfl ?_
          refine xo_getI (pc' := 51) dd_K_settle_48 ff_K_169 (by decide) rfl fun v8 => ?_
          refine xo_iload_n (pc' := 52) dd_K_settle_51 rfl 2 rfl rfl ?_
          refine xo_iload_n (pc' := 53) dd_K_settle_52 rfl 3 rfl rfl ?_
          refine xo_callVv (as := [.inl v8, .inl x1, .inl x2]) (o := o7) (st := []) (pc' := 56) dd_K_settle_53 cv_J_add ml_K_129 rfl rfl ⟨by decide, by decide⟩ rfl rfl rfl (Nat.le_of_ble_eq_true rfl) rfl (fun n q h => kc_J_add n v8 x1 x2 r6.2 q h) fun H9 => ?_
          refine xo_aload_n (pc' := 57) dd_K_settle_56 rfl 1 rfl rfl ?_
          refine xo_callVv (as := []) (o := (some t)) (st := []) (pc' := 60) dd_K_settle_57 cv_K_awaitPumps ml_K_57 rfl rfl ⟨by decide, by decide⟩ rfl rfl rfl (Nat.le_of_ble_eq_true rfl) rfl (fun n q h => kc_K_awaitPumps n H9 q h) fun H10 => ?_
          refine xo_iconst (pc' := 61) (v := (1 : Int32)) dd_K_settle_60 (by decide) rfl ?_
          exact xo_zret dd_K_settle_61 rfl
        · refine xo_iconst (pc' := 42) (v := (0 : Int32)) dd_K_settle_41 (by decide) rfl ?_
          exact xo_zret dd_K_settle_42 rfl
      · refine xo_iconst (pc' := 25) (v := (0 : Int32)) dd_K_settle_24 (by decide) rfl ?_
        exact xo_zret dd_K_settle_25 rfl
set_option maxRecDepth 100000 in
set_option maxHeartbeats 4000000 in
theorem kc_K_settle (t : xo_N) (x1 : Int32) (x2 : Int32) (H : xo_H) (r : Int32 × xo_H) (hk : fc_K_settle t x1 x2 H = some r) : xo_M mt_K_settle [.inr (some t), .inl x1, .inl x2] H (xo_ji r) :=
  xo_entry hk (by decide +kernel) (Nat.le_of_ble_eq_true rfl) (kb_K_settle t x1 x2 H r)
def fc_K_pipe (t : xo_N) (x1 : Int32) (x2 : Int32) (x3 : Int32) (H : xo_H) : Option (Int32 × xo_H) :=
  xo_cl 0 (some t) (fun n24 => fc_K_giverAt n24 x1 H) fun r1 =>
  xo_cl 0 (some t) (fun n23 => fc_K_takerAt n23 x2 r1.2) fun r2 =>
  if r1.1 = none then (some ((-1 : Int32), r2.2))
  else (if r2.1 = none then (some ((-1 : Int32), r2.2))
  else (if x3 < 0 then (some ((-1 : Int32), r2.2))
  else (if (7 : Int32) < x3 then (some ((-1 : Int32), r2.2))
  else (xo_cl 5 r1.1 (fun n22 => fc_G_heldBy n22 r2.2) fun r3 =>
  if r3.1 = 0 then (xo_gf 7 12 r3.2 r2.1 fun v4 =>
  if v4 = 0 then (xo_gp 5 3 r3.2 r1.1 fun o5 =>
  xo_gf 3 2 r3.2 o5 fun v6 =>
  if 0 < v6 then (some ((-2 : Int32), r3.2))
  else (xo_gf 0 7 r3.2 (some t) fun v7 =>
  if v7 < (2 : Int32) then (xo_nw 8 r3.2 (40, (r3.2.1 t 7).toNatClampNeg) fun H8 =>
  xo_gf 0 7 H8 (some t) fun v10 =>
  (fc_P_init (40, (r3.2.1 t 7).toNatClampNeg) v10 r1.1 r2.1 x3 H8).bind fun H11 =>
  xo_gp 0 4 H11 (some t) fun o12 =>
  xo_gf 0 7 H11 (some t) fun v13 =>
  xo_aq 4 8 H11 o12 v13 (some (40, (r3.2.1 t 7).toNatClampNeg)) fun H14 =>
  xo_gf 0 7 H14 (some t) fun v15 =>
  xo_pf 0 7 H14 (some t) (v15 + (1 : Int32)) fun H16 =>
  xo_pp 5 13 H16 r1.1 (some (40, (r3.2.1 t 7).toNatClampNeg)) fun H17 =>
  xo_pz 7 12 H17 r2.1 (1 : Int32) fun H18 =>
  xo_cl 0 (some t) (fun n21 => fc_K_awaitPumps n21 H18) fun H19 =>
  xo_gf 8 0 H19 (some (40, (r3.2.1 t 7).toNatClampNeg)) fun v20 =>
  some (v20, H19))
  else (some ((-3 : Int32), r3.2))))
  else (some ((-2 : Int32), r3.2)))
  else (some ((-2 : Int32), r3.2))))))

set_option maxRecDepth 100000 in
set_option maxHeartbeats 4000000 in
theorem kb_K_pipe (t : xo_N) (x1 : Int32) (x2 : Int32) (x3 : Int32) (H : xo_H) (r : Int32 × xo_H) : xo_X mt_K_pipe 1 7 xo_ji r 0 [(0, .inr (some t)), (1, .inl x1), (2, .inl x2), (3, .inl x3)] [] H (fc_K_pipe t x1 x2 x3 H) := by
  unfold fc_K_pipe
  refine xo_aload_n (pc' := 1) dd_K_pipe_0 rfl 0 rfl rfl ?_
  refine xo_iload_n (pc' := 2) dd_K_pipe_1 rfl 1 rfl rfl ?_
  refine xo_callVp (as := [.inl x1]) (o := (some t)) (st := []) (pc' := 5) dd_K_pipe_2 cv_K_giverAt ml_K_133 rfl rfl ⟨by decide, by decide⟩ rfl rfl rfl (Nat.le_of_ble_eq_true rfl) rfl (fun n q h => kc_K_giverAt n x1 H q h) fun r1 => ?_
  refine xo_astore (pc' := 7) dd_K_pipe_5 (by decide) rfl rfl ?_
  refine xo_aload_n (pc' := 8) dd_K_pipe_7 rfl 1 rfl rfl ?_
  refine xo_iload_n (pc' := 9) dd_K_pipe_8 rfl 3 rfl rfl ?_
  refine xo_callVp (as := [.inl x2]) (o := (some t)) (st := []) (pc' := 12) dd_K_pipe_9 cv_K_takerAt ml_K_148 rfl rfl ⟨by decide, by decide⟩ rfl rfl rfl (Nat.le_of_ble_eq_true rfl) rfl (fun n q h => kc_K_takerAt n x2 r1.2 q h) fun r2 => ?_
  refine xo_astore (pc' := 14) dd_K_pipe_12 (by decide) rfl rfl ?_
  refine xo_aload (pc' := 16) dd_K_pipe_14 1 rfl rfl ?_
  refine xo_ifnull (pc' := 19) (tgt := 34) dd_K_pipe_16 rfl rfl ?_ ?_
  · refine xo_iconst (pc' := 35) (v := (-1 : Int32)) dd_K_pipe_34 (by decide) rfl ?_
    exact xo_iret dd_K_pipe_35 rfl
  · refine xo_aload (pc' := 21) dd_K_pipe_19 0 rfl rfl ?_
    refine xo_ifnull (pc' := 24) (tgt := 34) dd_K_pipe_21 rfl rfl ?_ ?_
    · refine xo_iconst (pc' := 35) (v := (-1 : Int32)) dd_K_pipe_34 (by decide) rfl ?_
      exact xo_iret dd_K_pipe_35 rfl
    · refine xo_iload_n (pc' := 25) dd_K_pipe_24 rfl 5 rfl rfl ?_
      refine xo_if_lt (pc' := 28) (tgt := 34) dd_K_pipe_25 rfl rfl ?_ ?_
      · refine xo_iconst (pc' := 35) (v := (-1 : Int32)) dd_K_pipe_34 (by decide) rfl ?_
        exact xo_iret dd_K_pipe_35 rfl
      · refine xo_iload_n (pc' := 29) dd_K_pipe_28 rfl 5 rfl rfl ?_
        refine xo_bipush (pc' := 31) (v := (7 : Int32)) dd_K_pipe_29 (by decide) rfl ?_
        refine xo_icmp_le (pc' := 34) (tgt := 36) dd_K_pipe_31 rfl rfl ?_ ?_
        · refine xo_aload (pc' := 38) dd_K_pipe_36 1 rfl rfl ?_
          refine xo_callVi (as := []) (o := r1.1) (st := []) (pc' := 41) dd_K_pipe_38 cv_G_heldBy ml_K_136 rfl rfl ⟨by decide, by decide⟩ rfl rfl rfl (Nat.le_of_ble_eq_true rfl) rfl (fun n q h => kc_G_heldBy n r2.2 q h) fun r3 => ?_
          refine xo_if_ne (pc' := 44) (tgt := 63) dd_K_pipe_41 rfl rfl ?_ ?_
          · refine xo_bipush (pc' := 65) (v := (-2 : Int32)) dd_K_pipe_63 (by decide) rfl ?_
            exact xo_iret dd_K_pipe_65 rfl
          · refine xo_aload (pc' := 46) dd_K_pipe_44 0 rfl rfl ?_
            refine xo_getI (pc' := 49) dd_K_pipe_46 ff_K_152 (by decide) rfl fun v4 => ?_
            refine xo_if_ne (pc' := 52) (tgt := 63) dd_K_pipe_49 rfl rfl ?_ ?_
            · refine xo_bipush (pc' := 65) (v := (-2 : Int32)) dd_K_pipe_63 (by decide) rfl ?_
              exact xo_iret dd_K_pipe_65 rfl
            · refine xo_aload (pc' := 54) dd_K_pipe_52 1 rfl rfl ?_
              refine xo_getP (pc' := 57) dd_K_pipe_54 ff_K_91 (by decide) rfl fun o5 => ?_
              refine xo_getI (pc' := 60) dd_K_pipe_57 ff_K_95 (by decide) rfl fun v6 => ?_
              refine xo_if_le (pc' := 63) (tgt := 66) dd_K_pipe_60 rfl rfl ?_ ?_
              · refine xo_aload_n (pc' := 67) dd_K_pipe_66 rfl 2 rfl rfl ?_
                refine xo_getI (pc' := 70) dd_K_pipe_67 ff_K_180 (by decide) rfl fun v7 => ?_
                refine xo_iconst (pc' := 71) (v := (2 : Int32)) dd_K_pipe_70 (by decide) rfl ?_
                refine xo_icmp_lt (pc' := 74) (tgt := 77) dd_K_pipe_71 rfl rfl ?_ ?_
                · refine xo_new (pc' := 80) dd_K_pipe_77 co_K_35 rfl rfl rfl fun H8 => ?_
                  refine xo_dup (pc' := 81) dd_K_pipe_80 rfl ?_
                  refine xo_aload_n (pc' := 82) dd_K_pipe_81 rfl 2 rfl rfl ?_
                  refine xo_getI (pc' := 85) dd_K_pipe_82 ff_K_180 (by decide) rfl fun v10 => ?_
                  refine xo_aload (pc' := 87) dd_K_pipe_85 1 rfl rfl ?_
                  refine xo_aload (pc' := 89) dd_K_pipe_87 0 rfl rfl ?_
                  refine xo_iload_n (pc' := 90) dd_K_pipe_89 rfl 5 rfl rfl ?_
                  refine xo_callIv (as := [.inl v10, .inr r1.1, .inr r2.1, .inl x3]) (n := (40, (r3.2.1 t 7).toNatClampNeg)) (st := [.inr (some (40, (r3.2.1 t 7).toNatClampNeg))]) (pc' := 93) dd_K_pipe_90 cv_P_init ml_K_183 rfl ⟨by decide, by decide⟩ rfl rfl rfl (Nat.le_of_ble_eq_true rfl) rfl (fun q h => kc_P_init (40, (r3.2.1 t 7).toNatClampNeg) v10 r1.1 r2.1 x3 H8 q h) fun H11 => ?_
                  refine xo_astore (pc' := 95) dd_K_pipe_93 (by decide) rfl rfl ?_
                  refine xo_aload_n (pc' := 96) dd_K_pipe_95 rfl 3 rfl rfl ?_
                  refine xo_getP (pc' := 99) dd_K_pipe_96 ff_K_37 (by decide) rfl fun o12 => ?_
                  refine xo_aload_n (pc' := 100) dd_K_pipe_99 rfl 3 rfl rfl ?_
                  refine xo_getI (pc' := 103) dd_K_pipe_100 ff_K_180 (by decide) rfl fun v13 => ?_
                  refine xo_aload (pc' := 105) dd_K_pipe_103 0 rfl rfl ?_
                  refine xo_aast (pc' := 106) dd_K_pipe_105 (by decide) rfl rfl rfl fun H14 => ?_
                  refine xo_aload_n (pc' := 107) dd_K_pipe_106 rfl 3 rfl rfl ?_
                  refine xo_dup (pc' := 108) dd_K_pipe_107 rfl ?_
                  refine xo_getI (pc' := 111) dd_K_pipe_108 ff_K_180 (by decide) rfl fun v15 => ?_
                  refine xo_iconst (pc' := 112) (v := (1 : Int32)) dd_K_pipe_111 (by decide) rfl ?_
                  refine xo_iadd (pc' := 113) dd_K_pipe_112 rfl ?_
                  refine xo_putI (pc' := 116) dd_K_pipe_113 ff_K_180 rfl fun H16 => ?_
                  refine xo_aload (pc' := 118) dd_K_pipe_116 2 rfl rfl ?_
                  refine xo_aload (pc' := 120) dd_K_pipe_118 0 rfl rfl ?_
                  refine xo_putP (pc' := 123) dd_K_pipe_120 ff_K_186 (by decide) (by decide +kernel : parseFieldDescriptor "LFlowKernel$Pipe;" = some (.object "FlowKernel$Pipe")) (Or.inl ⟨_, rfl⟩) rfl fun H17 => ?_
                  refine xo_aload (pc' := 125) dd_K_pipe_123 1 rfl rfl ?_
                  refine xo_iconst (pc' := 126) (v := (1 : Int32)) dd_K_pipe_125 (by decide) rfl ?_
                  refine xo_putZ (pc' := 129) dd_K_pipe_126 ff_K_152 rfl fun H18 => ?_
                  refine xo_aload_n (pc' := 130) dd_K_pipe_129 rfl 3 rfl rfl ?_
                  refine xo_callVv (as := []) (o := (some t)) (st := []) (pc' := 133) dd_K_pipe_130 cv_K_awaitPumps ml_K_57 rfl rfl ⟨by decide, by decide⟩ rfl rfl rfl (Nat.le_of_ble_eq_true rfl) rfl (fun n q h => kc_K_awaitPumps n H18 q h) fun H19 => ?_
                  refine xo_aload (pc' := 135) dd_K_pipe_133 0 rfl rfl ?_
                  refine xo_getI (pc' := 138) dd_K_pipe_135 ff_K_190 (by decide) rfl fun v20 => ?_
                  exact xo_iret dd_K_pipe_138 rfl
                · refine xo_bipush (pc' := 76) (v := (-3 : Int32)) dd_K_pipe_74 (by decide) rfl ?_
                  exact xo_iret dd_K_pipe_76 rfl
              · refine xo_bipush (pc' := 65) (v := (-2 : Int32)) dd_K_pipe_63 (by decide) rfl ?_
                exact xo_iret dd_K_pipe_65 rfl
        · refine xo_iconst (pc' := 35) (v := (-1 : Int32)) dd_K_pipe_34 (by decide) rfl ?_
          exact xo_iret dd_K_pipe_35 rfl
set_option maxRecDepth 100000 in
set_option maxHeartbeats 4000000 in
theorem kc_K_pipe (t : xo_N) (x1 : Int32) (x2 : Int32) (x3 : Int32) (H : xo_H) (r : Int32 × xo_H) (hk : fc_K_pipe t x1 x2 x3 H = some r) : xo_M mt_K_pipe [.inr (some t), .inl x1, .inl x2, .inl x3] H (xo_ji r) :=
  xo_entry hk (by decide +kernel) (Nat.le_of_ble_eq_true rfl) (kb_K_pipe t x1 x2 x3 H r)
def fb_K_part_132 (t : xo_N) (x3 : Option xo_N) (H : xo_H) : Option (Int32 × xo_H) :=
  xo_cl 0 (some t) (fun n3 => fc_K_awaitPumps n3 H) fun H1 =>
  xo_gf 5 0 H1 x3 fun v2 =>
  some (v2, H1)

def fc_K_part (t : xo_N) (x1 : Int32) (H : xo_H) : Option (Int32 × xo_H) :=
  xo_cl 0 (some t) (fun n25 => fc_K_giverAt n25 x1 H) fun r1 =>
  if r1.1 = none then (some ((-1 : Int32), r1.2))
  else (xo_cl 5 r1.1 (fun n24 => fc_G_heldBy n24 r1.2) fun r2 =>
  if r2.1 = 0 then (xo_gp 5 11 r2.2 r1.1 fun o3 =>
  if o3 = none then (xo_gp 5 3 r2.2 r1.1 fun o4 =>
  xo_gf 3 2 r2.2 o4 fun v5 =>
  if 0 < v5 then (some ((-2 : Int32), r2.2))
  else (xo_gf 0 5 r2.2 (some t) fun v6 =>
  if (4 : Int32) < v6 then (some ((-3 : Int32), r2.2))
  else (xo_cl 0 (some t) (fun n23 => fc_K_addGiver n23 (0 : Int32) (0 : Int32) r2.2) fun r7 =>
  xo_cl 0 (some t) (fun n22 => fc_K_addGiver n22 (0 : Int32) (0 : Int32) r7.2) fun r8 =>
  xo_nw 6 r8.2 (41, x1.toNatClampNeg) fun H9 =>
  (fc_A_init (41, x1.toNatClampNeg) r1.1 r7.1 r8.1 H9).bind fun H11 =>
  xo_pp 5 12 H11 r1.1 (some (41, x1.toNatClampNeg)) fun H12 =>
  xo_pp 5 11 H12 r7.1 (some (41, x1.toNatClampNeg)) fun H13 =>
  xo_pp 5 11 H13 r8.1 (some (41, x1.toNatClampNeg)) fun H14 =>
  xo_gf 5 4 H14 r1.1 fun v15 =>
  if v15 = (1 : Int32) then (xo_cl 0 (some t) (fun n21 => fc_K_endBranches n21 (some (41, x1.toNatClampNeg)) H14) fun H20 =>
  fb_K_part_132 t r7.1 H20)
  else (xo_gf 5 4 H14 r1.1 fun v16 =>
  if v16 = (2 : Int32) then (xo_gf 5 5 H14 r1.1 fun v17 =>
  xo_cl 0 (some t) (fun n19 => fc_K_failBranches n19 (some (41, x1.toNatClampNeg)) v17 H14) fun H18 =>
  fb_K_part_132 t r7.1 H18)
  else (fb_K_part_132 t r7.1 H14)))))
  else (some ((-2 : Int32), r2.2)))
  else (some ((-2 : Int32), r2.2)))

set_option maxRecDepth 100000 in
set_option maxHeartbeats 4000000 in
theorem kb_K_part_132 (t : xo_N) (x3 : Option xo_N) (H : xo_H) (r : Int32 × xo_H) : xo_X mt_K_part 0 0 xo_ji r 132 [(0, .inr (some t)), (3, .inr x3)] [] H (fb_K_part_132 t x3 H) := by
  unfold fb_K_part_132
  refine xo_aload_n (pc' := 133) dd_K_part_132 rfl 0 rfl rfl ?_
  refine xo_callVv (as := []) (o := (some t)) (st := []) (pc' := 136) dd_K_part_133 cv_K_awaitPumps ml_K_57 rfl rfl ⟨by decide, by decide⟩ rfl rfl rfl (Nat.le_of_ble_eq_true rfl) rfl (fun n q h => kc_K_awaitPumps n H q h) fun H1 => ?_
  refine xo_aload_n (pc' := 137) dd_K_part_136 rfl 1 rfl rfl ?_
  refine xo_getI (pc' := 140) dd_K_part_137 ff_K_60 (by decide) rfl fun v2 => ?_
  exact xo_iret dd_K_part_140 rfl
set_option maxRecDepth 100000 in
set_option maxHeartbeats 4000000 in
theorem kb_K_part (t : xo_N) (x1 : Int32) (H : xo_H) (r : Int32 × xo_H) : xo_X mt_K_part 14 118 xo_ji r 0 [(0, .inr (some t)), (1, .inl x1)] [] H (fc_K_part t x1 H) := by
  unfold fc_K_part
  refine xo_aload_n (pc' := 1) dd_K_part_0 rfl 0 rfl rfl ?_
  refine xo_iload_n (pc' := 2) dd_K_part_1 rfl 1 rfl rfl ?_
  refine xo_callVp (as := [.inl x1]) (o := (some t)) (st := []) (pc' := 5) dd_K_part_2 cv_K_giverAt ml_K_133 rfl rfl ⟨by decide, by decide⟩ rfl rfl rfl (Nat.le_of_ble_eq_true rfl) rfl (fun n q h => kc_K_giverAt n x1 H q h) fun r1 => ?_
  refine xo_astore_n (pc' := 6) dd_K_part_5 rfl (by decide) rfl rfl ?_
  refine xo_aload_n (pc' := 7) dd_K_part_6 rfl 0 rfl rfl ?_
  refine xo_ifnonnull (pc' := 10) (tgt := 12) dd_K_part_7 rfl rfl ?_ ?_
  · refine xo_aload_n (pc' := 13) dd_K_part_12 rfl 0 rfl rfl ?_
    refine xo_callVi (as := []) (o := r1.1) (st := []) (pc' := 16) dd_K_part_13 cv_G_heldBy ml_K_136 rfl rfl ⟨by decide, by decide⟩ rfl rfl rfl (Nat.le_of_ble_eq_true rfl) rfl (fun n q h => kc_G_heldBy n r1.2 q h) fun r2 => ?_
    refine xo_if_ne (pc' := 19) (tgt := 36) dd_K_part_16 rfl rfl ?_ ?_
    · refine xo_bipush (pc' := 38) (v := (-2 : Int32)) dd_K_part_36 (by decide) rfl ?_
      exact xo_iret dd_K_part_38 rfl
    · refine xo_aload_n (pc' := 20) dd_K_part_19 rfl 0 rfl rfl ?_
      refine xo_getP (pc' := 23) dd_K_part_20 ff_K_191 (by decide) rfl fun o3 => ?_
      refine xo_ifnonnull (pc' := 26) (tgt := 36) dd_K_part_23 rfl rfl ?_ ?_
      · refine xo_bipush (pc' := 38) (v := (-2 : Int32)) dd_K_part_36 (by decide) rfl ?_
        exact xo_iret dd_K_part_38 rfl
      · refine xo_aload_n (pc' := 27) dd_K_part_26 rfl 0 rfl rfl ?_
        refine xo_getP (pc' := 30) dd_K_part_27 ff_K_91 (by decide) rfl fun o4 => ?_
        refine xo_getI (pc' := 33) dd_K_part_30 ff_K_95 (by decide) rfl fun v5 => ?_
        refine xo_if_le (pc' := 36) (tgt := 39) dd_K_part_33 rfl rfl ?_ ?_
        · refine xo_aload_n (pc' := 40) dd_K_part_39 rfl 1 rfl rfl ?_
          refine xo_getI (pc' := 43) dd_K_part_40 ff_K_45 (by decide) rfl fun v6 => ?_
          refine xo_iconst (pc' := 44) (v := (4 : Int32)) dd_K_part_43 (by decide) rfl ?_
          refine xo_icmp_le (pc' := 47) (tgt := 50) dd_K_part_44 rfl rfl ?_ ?_
          · refine xo_aload_n (pc' := 51) dd_K_part_50 rfl 1 rfl rfl ?_
            refine xo_iconst (pc' := 52) (v := (0 : Int32)) dd_K_part_51 (by decide) rfl ?_
            refine xo_iconst (pc' := 53) (v := (0 : Int32)) dd_K_part_52 (by decide) rfl ?_
            refine xo_callVp (as := [.inl (0 : Int32), .inl (0 : Int32)]) (o := (some t)) (st := []) (pc' := 56) dd_K_part_53 cv_K_addGiver ml_K_49 rfl rfl ⟨by decide, by decide⟩ rfl rfl rfl (Nat.le_of_ble_eq_true rfl) rfl (fun n q h => kc_K_addGiver n (0 : Int32) (0 : Int32) r2.2 q h) fun r7 => ?_
            refine xo_astore_n (pc' := 57) dd_K_part_56 rfl (by decide) rfl rfl ?_
            refine xo_aload_n (pc' := 58) dd_K_part_57 rfl 2 rfl rfl ?_
            refine xo_iconst (pc' := 59) (v := (0 : Int32)) dd_K_part_58 (by decide) rfl ?_
            refine xo_iconst (pc' := 60) (v := (0 : Int32)) dd_K_part_59 (by decide) rfl ?_
            refine xo_callVp (as := [.inl (0 : Int32), .inl (0 : Int32)]) (o := (some t)) (st := []) (pc' := 63) dd_K_part_60 cv_K_addGiver ml_K_49 rfl rfl ⟨by decide, by decide⟩ rfl rfl rfl (Nat.le_of_ble_eq_true rfl) rfl (fun n q h => kc_K_addGiver n (0 : Int32) (0 : Int32) r7.2 q h) fun r8 => ?_
            refine xo_astore (pc' := 65) dd_K_part_63 (by decide) rfl rfl ?_
            refine xo_new (pc' := 68) dd_K_part_65 co_K_195 rfl rfl rfl fun H9 => ?_
            refine xo_dup (pc' := 69) dd_K_part_68 rfl ?_
            refine xo_aload_n (pc' := 70) dd_K_part_69 rfl 2 rfl rfl ?_
            refine xo_aload_n (pc' := 71) dd_K_part_70 rfl 1 rfl rfl ?_
            refine xo_aload (pc' := 73) dd_K_part_71 0 rfl rfl ?_
            refine xo_callIv (as := [.inr r1.1, .inr r7.1, .inr r8.1]) (n := (41, x1.toNatClampNeg)) (st := [.inr (some (41, x1.toNatClampNeg))]) (pc' := 76) dd_K_part_73 cv_A_init ml_K_197 rfl ⟨by decide, by decide⟩ rfl rfl rfl (Nat.le_of_ble_eq_true rfl) rfl (fun q h => kc_A_init (41, x1.toNatClampNeg) r1.1 r7.1 r8.1 H9 q h) fun H11 => ?_
            refine xo_astore (pc' := 78) dd_K_part_76 (by decide) rfl rfl ?_
            refine xo_aload_n (pc' := 79) dd_K_part_78 rfl 3 rfl rfl ?_
            refine xo_aload (pc' := 81) dd_K_part_79 0 rfl rfl ?_
            refine xo_putP (pc' := 84) dd_K_part_81 ff_K_200 (by decide) (by decide +kernel : parseFieldDescriptor "LFlowKernel$Parting;" = some (.object "FlowKernel$Parting")) (Or.inl ⟨_, rfl⟩) rfl fun H12 => ?_
            refine xo_aload_n (pc' := 85) dd_K_part_84 rfl 2 rfl rfl ?_
            refine xo_aload (pc' := 87) dd_K_part_85 0 rfl rfl ?_
            refine xo_putP (pc' := 90) dd_K_part_87 ff_K_191 (by decide) (by decide +kernel : parseFieldDescriptor "LFlowKernel$Parting;" = some (.object "FlowKernel$Parting")) (Or.inl ⟨_, rfl⟩) rfl fun H13 => ?_
            refine xo_aload (pc' := 92) dd_K_part_90 1 rfl rfl ?_
            refine xo_aload (pc' := 94) dd_K_part_92 0 rfl rfl ?_
            refine xo_putP (pc' := 97) dd_K_part_94 ff_K_191 (by decide) (by decide +kernel : parseFieldDescriptor "LFlowKernel$Parting;" = some (.object "FlowKernel$Parting")) (Or.inl ⟨_, rfl⟩) rfl fun H14 => ?_
            refine xo_aload_n (pc' := 98) dd_K_part_97 rfl 3 rfl rfl ?_
            refine xo_getI (pc' := 101) dd_K_part_98 ff_K_110 (by decide) rfl fun v15 => ?_
            refine xo_iconst (pc' := 102) (v := (1 : Int32)) dd_K_part_101 (by decide) rfl ?_
            refine xo_icmp_ne (pc' := 105) (tgt := 114) dd_K_part_102 rfl rfl ?_ ?_
            · refine xo_aload_n (pc' := 115) dd_K_part_114 rfl 3 rfl rfl ?_
              refine xo_getI (pc' := 118) dd_K_part_115 ff_K_110 (by decide) rfl fun v16 => ?_
              refine xo_iconst (pc' := 119) (v := (2 : Int32)) dd_K_part_118 (by decide) rfl ?_
              refine xo_icmp_ne (pc' := 122) (tgt := 132) dd_K_part_119 rfl rfl ?_ ?_
              · refine xo_sub [4, 2] rfl ?_
                exact kb_K_part_132 t r7.1 H14 r
              · refine xo_aload_n (pc' := 123) dd_K_part_122 rfl 4 rfl rfl ?_
                refine xo_aload (pc' := 125) dd_K_part_123 0 rfl rfl ?_
                refine xo_aload_n (pc' := 126) dd_K_part_125 rfl 3 rfl rfl ?_
                refine xo_getI (pc' := 129) dd_K_part_126 ff_K_207 (by decide) rfl fun v17 => ?_
                refine xo_callVv (as := [.inr (some (41, x1.toNatClampNeg)), .inl v17]) (o := (some t)) (st := []) (pc' := 132) dd_K_part_129 cv_K_failBranches ml_K_210 rfl rfl ⟨by decide, by decide⟩ rfl rfl rfl (Nat.le_of_ble_eq_true rfl) rfl (fun n q h => kc_K_failBranches n (some (41, x1.toNatClampNeg)) v17 H14 q h) fun H18 => ?_
                refine xo_sub [4, 2] rfl ?_
                exact kb_K_part_132 t r7.1 H18 r
            · refine xo_aload_n (pc' := 106) dd_K_part_105 rfl 4 rfl rfl ?_
              refine xo_aload (pc' := 108) dd_K_part_106 0 rfl rfl ?_
              refine xo_callVv (as := [.inr (some (41, x1.toNatClampNeg))]) (o := (some t)) (st := []) (pc' := 111) dd_K_part_108 cv_K_endBranches ml_K_203 rfl rfl ⟨by decide, by decide⟩ rfl rfl rfl (Nat.le_of_ble_eq_true rfl) rfl (fun n q h => kc_K_endBranches n (some (41, x1.toNatClampNeg)) H14 q h) fun H20 => ?_
              refine xo_goto (pc' := 132) dd_K_part_111 rfl ?_
              refine xo_sub [4, 2] rfl ?_
              exact kb_K_part_132 t r7.1 H20 r
          · refine xo_bipush (pc' := 49) (v := (-3 : Int32)) dd_K_part_47 (by decide) rfl ?_
            exact xo_iret dd_K_part_49 rfl
        · refine xo_bipush (pc' := 38) (v := (-2 : Int32)) dd_K_part_36 (by decide) rfl ?_
          exact xo_iret dd_K_part_38 rfl
  · refine xo_iconst (pc' := 11) (v := (-1 : Int32)) dd_K_part_10 (by decide) rfl ?_
    exact xo_iret dd_K_part_11 rfl
set_option maxRecDepth 100000 in
set_option maxHeartbeats 4000000 in
theorem kc_K_part (t : xo_N) (x1 : Int32) (H : xo_H) (r : Int32 × xo_H) (hk : fc_K_part t x1 H = some r) : xo_M mt_K_part [.inr (some t), .inl x1] H (xo_ji r) :=
  xo_entry hk (by decide +kernel) (Nat.le_of_ble_eq_true rfl) (kb_K_part t x1 H r)
def fc_K_doPulled (t : xo_N) (x1 : Option xo_N) (x2 : Int32) (H : xo_H) : Option (xo_H) :=
  if x1 = none then (some H)
  else (xo_pz 5 8 H x1 (0 : Int32) fun H1 =>
  if x2 = (-1 : Int32) then (xo_gf 5 9 H1 x1 fun v2 =>
  if v2 = 0 then (some H1)
  else (xo_pz 5 9 H1 x1 (0 : Int32) fun H3 =>
  xo_cl 0 (some t) (fun n5 => fc_K_pullIfNeeded n5 x1 H3) fun H4 =>
  some H4))
  else (xo_cl 0 (some t) (fun n7 => fc_K_failGiver n7 x1 x2 H1) fun H6 =>
  some H6))

set_option maxRecDepth 100000 in
set_option maxHeartbeats 4000000 in
theorem kb_K_doPulled (t : xo_N) (x1 : Option xo_N) (x2 : Int32) (H : xo_H) (r : xo_H) : xo_X mt_K_doPulled 0 0 xo_jv r 0 [(0, .inr (some t)), (1, .inr x1), (2, .inl x2)] [] H (fc_K_doPulled t x1 x2 H) := by
  unfold fc_K_doPulled
  refine xo_aload_n (pc' := 1) dd_K_doPulled_0 rfl 1 rfl rfl ?_
  refine xo_ifnonnull (pc' := 4) (tgt := 5) dd_K_doPulled_1 rfl rfl ?_ ?_
  · refine xo_aload_n (pc' := 6) dd_K_doPulled_5 rfl 1 rfl rfl ?_
    refine xo_iconst (pc' := 7) (v := (0 : Int32)) dd_K_doPulled_6 (by decide) rfl ?_
    refine xo_putZ (pc' := 10) dd_K_doPulled_7 ff_K_119 rfl fun H1 => ?_
    refine xo_iload_n (pc' := 11) dd_K_doPulled_10 rfl 2 rfl rfl ?_
    refine xo_iconst (pc' := 12) (v := (-1 : Int32)) dd_K_doPulled_11 (by decide) rfl ?_
    refine xo_icmp_eq (pc' := 15) (tgt := 24) dd_K_doPulled_12 rfl rfl ?_ ?_
    · refine xo_aload_n (pc' := 25) dd_K_doPulled_24 rfl 1 rfl rfl ?_
      refine xo_getI (pc' := 28) dd_K_doPulled_25 ff_K_218 (by decide) rfl fun v2 => ?_
      refine xo_if_eq (pc' := 31) (tgt := 41) dd_K_doPulled_28 rfl rfl ?_ ?_
      · exact xo_vret dd_K_doPulled_41 rfl
      · refine xo_aload_n (pc' := 32) dd_K_doPulled_31 rfl 1 rfl rfl ?_
        refine xo_iconst (pc' := 33) (v := (0 : Int32)) dd_K_doPulled_32 (by decide) rfl ?_
        refine xo_putZ (pc' := 36) dd_K_doPulled_33 ff_K_218 rfl fun H3 => ?_
        refine xo_aload_n (pc' := 37) dd_K_doPulled_36 rfl 0 rfl rfl ?_
        refine xo_aload_n (pc' := 38) dd_K_doPulled_37 rfl 1 rfl rfl ?_
        refine xo_callVv (as := [.inr x1]) (o := (some t)) (st := []) (pc' := 41) dd_K_doPulled_38 cv_K_pullIfNeeded ml_K_53 rfl rfl ⟨by decide, by decide⟩ rfl rfl rfl (Nat.le_of_ble_eq_true rfl) rfl (fun n q h => kc_K_pullIfNeeded n x1 H3 q h) fun H4 => ?_
        exact xo_vret dd_K_doPulled_41 rfl
    · refine xo_aload_n (pc' := 16) dd_K_doPulled_15 rfl 0 rfl rfl ?_
      refine xo_aload_n (pc' := 17) dd_K_doPulled_16 rfl 1 rfl rfl ?_
      refine xo_iload_n (pc' := 18) dd_K_doPulled_17 rfl 2 rfl rfl ?_
      refine xo_callVv (as := [.inr x1, .inl x2]) (o := (some t)) (st := []) (pc' := 21) dd_K_doPulled_18 cv_K_failGiver ml_K_116 rfl rfl ⟨by decide, by decide⟩ rfl rfl rfl (Nat.le_of_ble_eq_true rfl) rfl (fun n q h => kc_K_failGiver n x1 x2 H1 q h) fun H6 => ?_
      refine xo_goto (pc' := 41) dd_K_doPulled_21 rfl ?_
      exact xo_vret dd_K_doPulled_41 rfl
  · exact xo_vret dd_K_doPulled_4 rfl
set_option maxRecDepth 100000 in
set_option maxHeartbeats 4000000 in
theorem kc_K_doPulled (t : xo_N) (x1 : Option xo_N) (x2 : Int32) (H : xo_H) (r : xo_H) (hk : fc_K_doPulled t x1 x2 H = some r) : xo_M mt_K_doPulled [.inr (some t), .inr x1, .inl x2] H (xo_jv r) :=
  xo_entry hk (by decide +kernel) (Nat.le_of_ble_eq_true rfl) (kb_K_doPulled t x1 x2 H r)
def fb_K_doParted_36 : Nat → xo_N → Int32 → Option xo_N → Option xo_N → Int32 → Int32 → xo_H → Option (xo_H)
  | 0, _, _, _, _, _, _, _ => none
  | fu + 1, t, x2, x3, x4, x5, x6, H =>
  if x6 < x5 then (xo_ap 2 H x4 x6 fun o7 =>
  xo_cl 5 o7 (fun n17 => fc_G_isGoing n17 H) fun r8 =>
  if r8.1 = 0 then (fb_K_doParted_36 fu t x2 x3 x4 x5 (x6 + (1 : Int32)) r8.2)
  else (xo_gf 5 10 r8.2 o7 fun v9 =>
  if v9 = 0 then (xo_gp 5 1 r8.2 o7 fun o10 =>
  xo_cl 4 o10 (fun n16 => fc_C_count n16 r8.2) fun r11 =>
  if r11.1 < (16 : Int32) then (xo_cl 0 (some t) (fun n13 => fc_K_takeIn n13 o7 x2 r11.2) fun H12 =>
  fb_K_doParted_36 fu t x2 x3 x4 x5 (x6 + (1 : Int32)) H12)
  else (xo_cl 5 o7 (fun n15 => fc_G_failWith n15 (101 : Int32) r11.2) fun H14 =>
  fb_K_doParted_36 fu t x2 x3 x4 x5 (x6 + (1 : Int32)) H14))
  else (fb_K_doParted_36 fu t x2 x3 x4 x5 (x6 + (1 : Int32)) r8.2)))
  else (xo_pz 6 2 H x3 (0 : Int32) fun H1 =>
  xo_gf 6 3 H1 x3 fun v2 =>
  if v2 = 0 then (some H1)
  else (xo_cl 0 (some t) (fun n6 => fc_K_askRoot n6 x3 H1) fun r3 =>
  if r3.1 = 0 then (xo_cl 0 (some t) (fun n5 => fc_K_endBranches n5 x3 r3.2) fun H4 =>
  some H4)
  else (some r3.2)))

def fc_K_doParted (t : xo_N) (x1 : Option xo_N) (x2 : Int32) (H : xo_H) : Option (xo_H) :=
  if x1 = none then (some H)
  else (xo_gp 5 12 H x1 fun o1 =>
  if o1 = none then (some H)
  else (xo_gp 5 12 H x1 fun o2 =>
  xo_pz 6 3 H o2 (0 : Int32) fun H3 =>
  xo_gp 6 1 H3 o2 fun o4 =>
  xo_ln o4 fun v5 =>
  fb_K_doParted_36 1000 t x2 o2 o4 v5 (0 : Int32) H3))

set_option maxRecDepth 100000 in
set_option maxHeartbeats 4000000 in
theorem kb_K_doParted_36 : ∀ (fu : Nat) (t : xo_N) (x2 : Int32) (x3 : Option xo_N) (x4 : Option xo_N) (x5 : Int32) (x6 : Int32) (H : xo_H) (r : xo_H), xo_X mt_K_doParted 0 0 xo_jv r 36 [(0, .inr (some t)), (2, .inl x2), (3, .inr x3), (4, .inr x4), (5, .inl x5), (6, .inl x6)] [] H (fb_K_doParted_36 fu t x2 x3 x4 x5 x6 H) := by
  intro fu
  induction fu with
  | zero => intros; exact xo_no
  | succ fu ih =>
    intro t x2 x3 x4 x5 x6 H r
    rw [fb_K_doParted_36]
    refine xo_iload (pc' := 38) dd_K_doParted_36 5 rfl rfl ?_
    refine xo_iload (pc' := 40) dd_K_doParted_38 4 rfl rfl ?_
    refine xo_icmp_ge (pc' := 43) (tgt := 105) dd_K_doParted_40 rfl rfl ?_ ?_
    · refine xo_aload_n (pc' := 106) dd_K_doParted_105 rfl 2 rfl rfl ?_
      refine xo_iconst (pc' := 107) (v := (0 : Int32)) dd_K_doParted_106 (by decide) rfl ?_
      refine xo_putZ (pc' := 110) dd_K_doParted_107 ff_K_273 rfl fun H1 => ?_
      refine xo_aload_n (pc' := 111) dd_K_doParted_110 rfl 2 rfl rfl ?_
      refine xo_getI (pc' := 114) dd_K_doParted_111 ff_K_276 (by decide) rfl fun v2 => ?_
      refine xo_if_eq (pc' := 117) (tgt := 130) dd_K_doParted_114 rfl rfl ?_ ?_
      · exact xo_vret dd_K_doParted_130 rfl
      · refine xo_aload_n (pc' := 118) dd_K_doParted_117 rfl 0 rfl rfl ?_
        refine xo_aload_n (pc' := 119) dd_K_doParted_118 rfl 2 rfl rfl ?_
        refine xo_callVi (as := [.inr x3]) (o := (some t)) (st := []) (pc' := 122) dd_K_doParted_119 cv_K_askRoot ml_K_277 rfl rfl ⟨by decide, by decide⟩ rfl rfl rfl (Nat.le_of_ble_eq_true rfl) rfl (fun n q h => kc_K_askRoot n x3 H1 q h) fun r3 => ?_
        refine xo_if_ne (pc' := 125) (tgt := 130) dd_K_doParted_122 rfl rfl ?_ ?_
        · exact xo_vret dd_K_doParted_130 rfl
        · refine xo_aload_n (pc' := 126) dd_K_doParted_125 rfl 0 rfl rfl ?_
          refine xo_aload_n (pc' := 127) dd_K_doParted_126 rfl 2 rfl rfl ?_
          refine xo_callVv (as := [.inr x3]) (o := (some t)) (st := []) (pc' := 130) dd_K_doParted_127 cv_K_endBranches ml_K_203 rfl rfl ⟨by decide, by decide⟩ rfl rfl rfl (Nat.le_of_ble_eq_true rfl) rfl (fun n q h => kc_K_endBranches n x3 r3.2 q h) fun H4 => ?_
          exact xo_vret dd_K_doParted_130 rfl
    · refine xo_aload (pc' := 45) dd_K_doParted_43 3 rfl rfl ?_
      refine xo_iload (pc' := 47) dd_K_doParted_45 5 rfl rfl ?_
      refine xo_aald (pc' := 48) dd_K_doParted_47 (by decide) rfl fun o7 => ?_
      refine xo_astore (pc' := 50) dd_K_doParted_48 (by decide) rfl rfl ?_
      refine xo_aload (pc' := 52) dd_K_doParted_50 0 rfl rfl ?_
      refine xo_callVi (as := []) (o := o7) (st := []) (pc' := 55) dd_K_doParted_52 cv_G_isGoing ml_K_79 rfl rfl ⟨by decide, by decide⟩ rfl rfl rfl (Nat.le_of_ble_eq_true rfl) rfl (fun n q h => kc_G_isGoing n H q h) fun r8 => ?_
      refine xo_if_eq (pc' := 58) (tgt := 99) dd_K_doParted_55 rfl rfl ?_ ?_
      · refine xo_iinc (pc' := 102) dd_K_doParted_99 6 rfl (xo_ii (m := (1 : Int32)) (by decide)) (by decide) rfl rfl ?_
        refine xo_goto (pc' := 36) dd_K_doParted_102 rfl ?_
        refine xo_sub [2, 3, 4, 5, 6, 0] rfl ?_
        exact ih t x2 x3 x4 x5 (x6 + (1 : Int32)) r8.2 r
      · refine xo_aload (pc' := 60) dd_K_doParted_58 0 rfl rfl ?_
        refine xo_getI (pc' := 63) dd_K_doParted_60 ff_K_294 (by decide) rfl fun v9 => ?_
        refine xo_if_eq (pc' := 66) (tgt := 69) dd_K_doParted_63 rfl rfl ?_ ?_
        · refine xo_aload (pc' := 71) dd_K_doParted_69 0 rfl rfl ?_
          refine xo_getP (pc' := 74) dd_K_doParted_71 ff_K_83 (by decide) rfl fun o10 => ?_
          refine xo_callVi (as := []) (o := o10) (st := []) (pc' := 77) dd_K_doParted_74 cv_C_count ml_K_87 rfl rfl ⟨by decide, by decide⟩ rfl rfl rfl (Nat.le_of_ble_eq_true rfl) rfl (fun n q h => kc_C_count n r8.2 q h) fun r11 => ?_
          refine xo_bipush (pc' := 79) (v := (16 : Int32)) dd_K_doParted_77 (by decide) rfl ?_
          refine xo_icmp_lt (pc' := 82) (tgt := 92) dd_K_doParted_79 rfl rfl ?_ ?_
          · refine xo_aload_n (pc' := 93) dd_K_doParted_92 rfl 1 rfl rfl ?_
            refine xo_aload (pc' := 95) dd_K_doParted_93 0 rfl rfl ?_
            refine xo_iload_n (pc' := 96) dd_K_doParted_95 rfl 2 rfl rfl ?_
            refine xo_callVv (as := [.inr o7, .inl x2]) (o := (some t)) (st := []) (pc' := 99) dd_K_doParted_96 cv_K_takeIn ml_K_99 rfl rfl ⟨by decide, by decide⟩ rfl rfl rfl (Nat.le_of_ble_eq_true rfl) rfl (fun n q h => kc_K_takeIn n o7 x2 r11.2 q h) fun H12 => ?_
            refine xo_iinc (pc' := 102) dd_K_doParted_99 6 rfl (xo_ii (m := (1 : Int32)) (by decide)) (by decide) rfl rfl ?_
            refine xo_goto (pc' := 36) dd_K_doParted_102 rfl ?_
            refine xo_sub [2, 3, 4, 5, 6, 0] rfl ?_
            exact ih t x2 x3 x4 x5 (x6 + (1 : Int32)) H12 r
          · refine xo_aload (pc' := 84) dd_K_doParted_82 0 rfl rfl ?_
            refine xo_bipush (pc' := 86) (v := (101 : Int32)) dd_K_doParted_84 (by decide) rfl ?_
            refine xo_callVv (as := [.inl (101 : Int32)]) (o := o7) (st := []) (pc' := 89) dd_K_doParted_86 cv_G_failWith ml_K_288 rfl rfl ⟨by decide, by decide⟩ rfl rfl rfl (Nat.le_of_ble_eq_true rfl) rfl (fun n q h => kc_G_failWith n (101 : Int32) r11.2 q h) fun H14 => ?_
            refine xo_goto (pc' := 99) dd_K_doParted_89 rfl ?_
            refine xo_iinc (pc' := 102) dd_K_doParted_99 6 rfl (xo_ii (m := (1 : Int32)) (by decide)) (by decide) rfl rfl ?_
            refine xo_goto (pc' := 36) dd_K_doParted_102 rfl ?_
            refine xo_sub [2, 3, 4, 5, 6, 0] rfl ?_
            exact ih t x2 x3 x4 x5 (x6 + (1 : Int32)) H14 r
        · refine xo_goto (pc' := 99) dd_K_doParted_66 rfl ?_
          refine xo_iinc (pc' := 102) dd_K_doParted_99 6 rfl (xo_ii (m := (1 : Int32)) (by decide)) (by decide) rfl rfl ?_
          refine xo_goto (pc' := 36) dd_K_doParted_102 rfl ?_
          refine xo_sub [2, 3, 4, 5, 6, 0] rfl ?_
          exact ih t x2 x3 x4 x5 (x6 + (1 : Int32)) r8.2 r
set_option maxRecDepth 100000 in
set_option maxHeartbeats 4000000 in
theorem kb_K_doParted (t : xo_N) (x1 : Option xo_N) (x2 : Int32) (H : xo_H) (r : xo_H) : xo_X mt_K_doParted 0 0 xo_jv r 0 [(0, .inr (some t)), (1, .inr x1), (2, .inl x2)] [] H (fc_K_doParted t x1 x2 H) := by
  unfold fc_K_doParted
  refine xo_aload_n (pc' := 1) dd_K_doParted_0 rfl 1 rfl rfl ?_
  refine xo_ifnull (pc' := 4) (tgt := 11) dd_K_doParted_1 rfl rfl ?_ ?_
  · exact xo_vret dd_K_doParted_11 rfl
  · refine xo_aload_n (pc' := 5) dd_K_doParted_4 rfl 1 rfl rfl ?_
    refine xo_getP (pc' := 8) dd_K_doParted_5 ff_K_200 (by decide) rfl fun o1 => ?_
    refine xo_ifnonnull (pc' := 11) (tgt := 12) dd_K_doParted_8 rfl rfl ?_ ?_
    · refine xo_aload_n (pc' := 13) dd_K_doParted_12 rfl 1 rfl rfl ?_
      refine xo_getP (pc' := 16) dd_K_doParted_13 ff_K_200 (by decide) rfl fun o2 => ?_
      refine xo_astore_n (pc' := 17) dd_K_doParted_16 rfl (by decide) rfl rfl ?_
      refine xo_aload_n (pc' := 18) dd_K_doParted_17 rfl 0 rfl rfl ?_
      refine xo_iconst (pc' := 19) (v := (0 : Int32)) dd_K_doParted_18 (by decide) rfl ?_
      refine xo_putZ (pc' := 22) dd_K_doParted_19 ff_K_276 rfl fun H3 => ?_
      refine xo_aload_n (pc' := 23) dd_K_doParted_22 rfl 0 rfl rfl ?_
      refine xo_getP (pc' := 26) dd_K_doParted_23 ff_K_285 (by decide) rfl fun o4 => ?_
      refine xo_astore (pc' := 28) dd_K_doParted_26 (by decide) rfl rfl ?_
      refine xo_aload (pc' := 30) dd_K_doParted_28 0 rfl rfl ?_
      refine xo_alen (pc' := 31) dd_K_doParted_30 rfl fun v5 => ?_
      refine xo_istore (pc' := 33) dd_K_doParted_31 (by decide) rfl rfl ?_
      refine xo_iconst (pc' := 34) (v := (0 : Int32)) dd_K_doParted_33 (by decide) rfl ?_
      refine xo_istore (pc' := 36) dd_K_doParted_34 (by decide) rfl rfl ?_
      refine xo_sub [4, 6, 3, 2, 1, 0] rfl ?_
      exact kb_K_doParted_36 1000 t x2 o2 o4 v5 (0 : Int32) H3 r
    · exact xo_vret dd_K_doParted_11 rfl
set_option maxRecDepth 100000 in
set_option maxHeartbeats 4000000 in
theorem kc_K_doParted (t : xo_N) (x1 : Option xo_N) (x2 : Int32) (H : xo_H) (r : xo_H) (hk : fc_K_doParted t x1 x2 H = some r) : xo_M mt_K_doParted [.inr (some t), .inr x1, .inl x2] H (xo_jv r) :=
  xo_entry hk (by decide +kernel) (Nat.le_of_ble_eq_true rfl) (kb_K_doParted t x1 x2 H r)
def fc_K_endPipe (t : xo_N) (x1 : Option xo_N) (x2 : Int32) (x3 : Int32) (H : xo_H) : Option (xo_H) :=
  xo_cl 8 x1 (fun n6 => fc_P_letGo n6 H) fun H1 =>
  xo_gp 0 0 H1 (some t) fun o2 =>
  xo_gf 8 0 H1 x1 fun v3 =>
  xo_cl 1 o2 (fun n5 => fc_L_note n5 x2 v3 x3 (0 : Int32) H1) fun H4 =>
  some H4

set_option maxRecDepth 100000 in
set_option maxHeartbeats 4000000 in
theorem kb_K_endPipe (t : xo_N) (x1 : Option xo_N) (x2 : Int32) (x3 : Int32) (H : xo_H) (r : xo_H) : xo_X mt_K_endPipe 0 0 xo_jv r 0 [(0, .inr (some t)), (1, .inr x1), (2, .inl x2), (3, .inl x3)] [] H (fc_K_endPipe t x1 x2 x3 H) := by
  unfold fc_K_endPipe
  refine xo_aload_n (pc' := 1) dd_K_endPipe_0 rfl 1 rfl rfl ?_
  refine xo_callVv (as := []) (o := x1) (st := []) (pc' := 4) dd_K_endPipe_1 cv_P_letGo ml_K_361 rfl rfl ⟨by decide, by decide⟩ rfl rfl rfl (Nat.le_of_ble_eq_true rfl) rfl (fun n q h => kc_P_letGo n H q h) fun H1 => ?_
  refine xo_aload_n (pc' := 5) dd_K_endPipe_4 rfl 0 rfl rfl ?_
  refine xo_getP (pc' := 8) dd_K_endPipe_5 ff_K_12 (by decide) rfl fun o2 => ?_
  refine xo_iload_n (pc' := 9) dd_K_endPipe_8 rfl 2 rfl rfl ?_
  refine xo_aload_n (pc' := 10) dd_K_endPipe_9 rfl 1 rfl rfl ?_
  refine xo_getI (pc' := 13) dd_K_endPipe_10 ff_K_190 (by decide) rfl fun v3 => ?_
  refine xo_iload_n (pc' := 14) dd_K_endPipe_13 rfl 3 rfl rfl ?_
  refine xo_iconst (pc' := 15) (v := (0 : Int32)) dd_K_endPipe_14 (by decide) rfl ?_
  refine xo_callVv (as := [.inl x2, .inl v3, .inl x3, .inl (0 : Int32)]) (o := o2) (st := []) (pc' := 18) dd_K_endPipe_15 cv_L_note ml_K_254 rfl rfl ⟨by decide, by decide⟩ rfl rfl rfl (Nat.le_of_ble_eq_true rfl) rfl (fun n q h => kc_L_note n x2 v3 x3 (0 : Int32) H1 q h) fun H4 => ?_
  exact xo_vret dd_K_endPipe_18 rfl
set_option maxRecDepth 100000 in
set_option maxHeartbeats 4000000 in
theorem kc_K_endPipe (t : xo_N) (x1 : Option xo_N) (x2 : Int32) (x3 : Int32) (H : xo_H) (r : xo_H) (hk : fc_K_endPipe t x1 x2 x3 H = some r) : xo_M mt_K_endPipe [.inr (some t), .inr x1, .inl x2, .inl x3] H (xo_jv r) :=
  xo_entry hk (by decide +kernel) (Nat.le_of_ble_eq_true rfl) (kb_K_endPipe t x1 x2 x3 H r)
def fb_K_doPump_160 (t : xo_N) (x1 : Option xo_N) (H : xo_H) : Option (Int32 × xo_H) :=
  xo_cl 0 (some t) (fun n2 => fc_K_endPipe n2 x1 (16 : Int32) (100 : Int32) H) fun H1 =>
  xo_gb (1 : Int32) (some ((1 : Int32), H1))

def fb_K_doPump_128 (t : xo_N) (x1 : Option xo_N) (H : xo_H) : Option (Int32 × xo_H) :=
  xo_cl 0 (some t) (fun n2 => fc_K_endPipe n2 x1 (15 : Int32) (0 : Int32) H) fun H1 =>
  xo_gb (1 : Int32) (some ((1 : Int32), H1))

def fb_K_doPump_83 (t : xo_N) (x1 : Option xo_N) (x3 : Option xo_N) (H : xo_H) : Option (Int32 × xo_H) :=
  xo_gf 7 5 H x3 fun v1 =>
  xo_cl 0 (some t) (fun n3 => fc_K_endPipe n3 x1 (16 : Int32) v1 H) fun H2 =>
  xo_gb (1 : Int32) (some ((1 : Int32), H2))

def fb_K_doPump_46 (t : xo_N) (x1 : Option xo_N) (x2 : Option xo_N) (H : xo_H) : Option (Int32 × xo_H) :=
  xo_gf 5 5 H x2 fun v1 =>
  xo_cl 0 (some t) (fun n3 => fc_K_endPipe n3 x1 (16 : Int32) v1 H) fun H2 =>
  xo_gb (1 : Int32) (some ((1 : Int32), H2))

def fc_K_doPump (t : xo_N) (x1 : Option xo_N) (H : xo_H) : Option (Int32 × xo_H) :=
  if x1 = none then (xo_gb (0 : Int32) (some ((0 : Int32), H)))
  else (xo_gf 8 6 H x1 fun v1 =>
  if v1 = 0 then (xo_gp 8 1 H x1 fun o2 =>
  xo_gp 8 2 H x1 fun o3 =>
  xo_gf 5 4 H o2 fun v4 =>
  if v4 = (2 : Int32) then (xo_gf 8 4 H x1 fun v27 =>
  if v27 = 0 then (xo_gf 5 5 H o2 fun v28 =>
  xo_cl 7 o3 (fun n30 => fc_T_abortWith n30 v28 H) fun H29 =>
  fb_K_doPump_46 t x1 o2 H29)
  else (fb_K_doPump_46 t x1 o2 H))
  else (xo_cl 7 o3 (fun n26 => fc_T_hasError n26 H) fun r5 =>
  if r5.1 = 0 then (xo_gf 5 4 r5.2 o2 fun v6 =>
  if v6 = (1 : Int32) then (xo_gp 7 1 r5.2 o3 fun o16 =>
  xo_cl 4 o16 (fun n21 => fc_C_count n21 r5.2) fun r17 =>
  if 0 < r17.1 then (xo_gb (0 : Int32) (some ((0 : Int32), r17.2)))
  else (xo_gf 8 3 r17.2 x1 fun v18 =>
  if v18 = 0 then (xo_cl 7 o3 (fun n20 => fc_T_shutDown n20 r17.2) fun H19 =>
  fb_K_doPump_128 t x1 H19)
  else (fb_K_doPump_128 t x1 r17.2)))
  else (xo_cl 7 o3 (fun n15 => fc_T_isShutOrToBe n15 r5.2) fun r7 =>
  if r7.1 = 0 then (xo_cl 8 x1 (fun n11 => fc_P_mustWait n11 r7.2) fun r8 =>
  if r8.1 = 0 then (xo_cl 0 (some t) (fun n10 => fc_K_request n10 o2 (0 : Int32) r8.2) fun H9 =>
  xo_gb (1 : Int32) (some ((1 : Int32), H9)))
  else (xo_gb (0 : Int32) (some ((0 : Int32), r8.2))))
  else (xo_gf 8 5 r7.2 x1 fun v12 =>
  if v12 = 0 then (xo_cl 0 (some t) (fun n14 => fc_K_cancelGiver n14 o2 (100 : Int32) r7.2) fun H13 =>
  fb_K_doPump_160 t x1 H13)
  else (fb_K_doPump_160 t x1 r7.2))))
  else (xo_gf 8 5 r5.2 x1 fun v22 =>
  if v22 = 0 then (xo_gf 7 5 r5.2 o3 fun v23 =>
  xo_cl 0 (some t) (fun n25 => fc_K_cancelGiver n25 o2 v23 r5.2) fun H24 =>
  fb_K_doPump_83 t x1 o3 H24)
  else (fb_K_doPump_83 t x1 o3 r5.2))))
  else (xo_gb (0 : Int32) (some ((0 : Int32), H))))

set_option maxRecDepth 100000 in
set_option maxHeartbeats 4000000 in
theorem kb_K_doPump_160 (t : xo_N) (x1 : Option xo_N) (H : xo_H) (r : Int32 × xo_H) : xo_X mt_K_doPump 0 0 xo_ji r 160 [(0, .inr (some t)), (1, .inr x1)] [] H (fb_K_doPump_160 t x1 H) := by
  unfold fb_K_doPump_160
  refine xo_aload_n (pc' := 161) dd_K_doPump_160 rfl 0 rfl rfl ?_
  refine xo_aload_n (pc' := 162) dd_K_doPump_161 rfl 1 rfl rfl ?_
  refine xo_bipush (pc' := 164) (v := (16 : Int32)) dd_K_doPump_162 (by decide) rfl ?_
  refine xo_bipush (pc' := 166) (v := (100 : Int32)) dd_K_doPump_164 (by decide) rfl ?_
  refine xo_callVv (as := [.inr x1, .inl (16 : Int32), .inl (100 : Int32)]) (o := (some t)) (st := []) (pc' := 169) dd_K_doPump_166 cv_K_endPipe ml_K_345 rfl rfl ⟨by decide, by decide⟩ rfl rfl rfl (Nat.le_of_ble_eq_true rfl) rfl (fun n q h => kc_K_endPipe n x1 (16 : Int32) (100 : Int32) H q h) fun H1 => ?_
  refine xo_goto (pc' := 187) dd_K_doPump_169 rfl ?_
  refine xo_iconst (pc' := 188) (v := (1 : Int32)) dd_K_doPump_187 (by decide) rfl ?_
  exact xo_zret dd_K_doPump_188 rfl
set_option maxRecDepth 100000 in
set_option maxHeartbeats 4000000 in
theorem kb_K_doPump_128 (t : xo_N) (x1 : Option xo_N) (H : xo_H) (r : Int32 × xo_H) : xo_X mt_K_doPump 0 0 xo_ji r 128 [(0, .inr (some t)), (1, .inr x1)] [] H (fb_K_doPump_128 t x1 H) := by
  unfold fb_K_doPump_128
  refine xo_aload_n (pc' := 129) dd_K_doPump_128 rfl 0 rfl rfl ?_
  refine xo_aload_n (pc' := 130) dd_K_doPump_129 rfl 1 rfl rfl ?_
  refine xo_bipush (pc' := 132) (v := (15 : Int32)) dd_K_doPump_130 (by decide) rfl ?_
  refine xo_iconst (pc' := 133) (v := (0 : Int32)) dd_K_doPump_132 (by decide) rfl ?_
  refine xo_callVv (as := [.inr x1, .inl (15 : Int32), .inl (0 : Int32)]) (o := (some t)) (st := []) (pc' := 136) dd_K_doPump_133 cv_K_endPipe ml_K_345 rfl rfl ⟨by decide, by decide⟩ rfl rfl rfl (Nat.le_of_ble_eq_true rfl) rfl (fun n q h => kc_K_endPipe n x1 (15 : Int32) (0 : Int32) H q h) fun H1 => ?_
  refine xo_goto (pc' := 187) dd_K_doPump_136 rfl ?_
  refine xo_iconst (pc' := 188) (v := (1 : Int32)) dd_K_doPump_187 (by decide) rfl ?_
  exact xo_zret dd_K_doPump_188 rfl
set_option maxRecDepth 100000 in
set_option maxHeartbeats 4000000 in
theorem kb_K_doPump_83 (t : xo_N) (x1 : Option xo_N) (x3 : Option xo_N) (H : xo_H) (r : Int32 × xo_H) : xo_X mt_K_doPump 0 0 xo_ji r 83 [(0, .inr (some t)), (1, .inr x1), (3, .inr x3)] [] H (fb_K_doPump_83 t x1 x3 H) := by
  unfold fb_K_doPump_83
  refine xo_aload_n (pc' := 84) dd_K_doPump_83 rfl 0 rfl rfl ?_
  refine xo_aload_n (pc' := 85) dd_K_doPump_84 rfl 1 rfl rfl ?_
  refine xo_bipush (pc' := 87) (v := (16 : Int32)) dd_K_doPump_85 (by decide) rfl ?_
  refine xo_aload_n (pc' := 88) dd_K_doPump_87 rfl 2 rfl rfl ?_
  refine xo_getI (pc' := 91) dd_K_doPump_88 ff_K_243 (by decide) rfl fun v1 => ?_
  refine xo_callVv (as := [.inr x1, .inl (16 : Int32), .inl v1]) (o := (some t)) (st := []) (pc' := 94) dd_K_doPump_91 cv_K_endPipe ml_K_345 rfl rfl ⟨by decide, by decide⟩ rfl rfl rfl (Nat.le_of_ble_eq_true rfl) rfl (fun n q h => kc_K_endPipe n x1 (16 : Int32) v1 H q h) fun H2 => ?_
  refine xo_goto (pc' := 187) dd_K_doPump_94 rfl ?_
  refine xo_iconst (pc' := 188) (v := (1 : Int32)) dd_K_doPump_187 (by decide) rfl ?_
  exact xo_zret dd_K_doPump_188 rfl
set_option maxRecDepth 100000 in
set_option maxHeartbeats 4000000 in
theorem kb_K_doPump_46 (t : xo_N) (x1 : Option xo_N) (x2 : Option xo_N) (H : xo_H) (r : Int32 × xo_H) : xo_X mt_K_doPump 0 0 xo_ji r 46 [(0, .inr (some t)), (1, .inr x1), (2, .inr x2)] [] H (fb_K_doPump_46 t x1 x2 H) := by
  unfold fb_K_doPump_46
  refine xo_aload_n (pc' := 47) dd_K_doPump_46 rfl 0 rfl rfl ?_
  refine xo_aload_n (pc' := 48) dd_K_doPump_47 rfl 1 rfl rfl ?_
  refine xo_bipush (pc' := 50) (v := (16 : Int32)) dd_K_doPump_48 (by decide) rfl ?_
  refine xo_aload_n (pc' := 51) dd_K_doPump_50 rfl 2 rfl rfl ?_
  refine xo_getI (pc' := 54) dd_K_doPump_51 ff_K_207 (by decide) rfl fun v1 => ?_
  refine xo_callVv (as := [.inr x1, .inl (16 : Int32), .inl v1]) (o := (some t)) (st := []) (pc' := 57) dd_K_doPump_54 cv_K_endPipe ml_K_345 rfl rfl ⟨by decide, by decide⟩ rfl rfl rfl (Nat.le_of_ble_eq_true rfl) rfl (fun n q h => kc_K_endPipe n x1 (16 : Int32) v1 H q h) fun H2 => ?_
  refine xo_goto (pc' := 187) dd_K_doPump_57 rfl ?_
  refine xo_iconst (pc' := 188) (v := (1 : Int32)) dd_K_doPump_187 (by decide) rfl ?_
  exact xo_zret dd_K_doPump_188 rfl
set_option maxRecDepth 100000 in
set_option maxHeartbeats 4000000 in
theorem kb_K_doPump (t : xo_N) (x1 : Option xo_N) (H : xo_H) (r : Int32 × xo_H) : xo_X mt_K_doPump 0 0 xo_ji r 0 [(0, .inr (some t)), (1, .inr x1)] [] H (fc_K_doPump t x1 H) := by
  unfold fc_K_doPump
  refine xo_aload_n (pc' := 1) dd_K_doPump_0 rfl 1 rfl rfl ?_
  refine xo_ifnull (pc' := 4) (tgt := 11) dd_K_doPump_1 rfl rfl ?_ ?_
  · refine xo_iconst (pc' := 12) (v := (0 : Int32)) dd_K_doPump_11 (by decide) rfl ?_
    exact xo_zret dd_K_doPump_12 rfl
  · refine xo_aload_n (pc' := 5) dd_K_doPump_4 rfl 1 rfl rfl ?_
    refine xo_getI (pc' := 8) dd_K_doPump_5 ff_K_304 (by decide) rfl fun v1 => ?_
    refine xo_if_eq (pc' := 11) (tgt := 13) dd_K_doPump_8 rfl rfl ?_ ?_
    · refine xo_aload_n (pc' := 14) dd_K_doPump_13 rfl 1 rfl rfl ?_
      refine xo_getP (pc' := 17) dd_K_doPump_14 ff_K_339 (by decide) rfl fun o2 => ?_
      refine xo_astore_n (pc' := 18) dd_K_doPump_17 rfl (by decide) rfl rfl ?_
      refine xo_aload_n (pc' := 19) dd_K_doPump_18 rfl 2 rfl rfl ?_
      refine xo_getP (pc' := 22) dd_K_doPump_19 ff_K_258 (by decide) rfl fun o3 => ?_
      refine xo_astore_n (pc' := 23) dd_K_doPump_22 rfl (by decide) rfl rfl ?_
      refine xo_aload_n (pc' := 24) dd_K_doPump_23 rfl 1 rfl rfl ?_
      refine xo_getI (pc' := 27) dd_K_doPump_24 ff_K_110 (by decide) rfl fun v4 => ?_
      refine xo_iconst (pc' := 28) (v := (2 : Int32)) dd_K_doPump_27 (by decide) rfl ?_
      refine xo_icmp_ne (pc' := 31) (tgt := 60) dd_K_doPump_28 rfl rfl ?_ ?_
      · refine xo_aload_n (pc' := 61) dd_K_doPump_60 rfl 0 rfl rfl ?_
        refine xo_callVi (as := []) (o := o3) (st := []) (pc' := 64) dd_K_doPump_61 cv_T_hasError ml_K_240 rfl rfl ⟨by decide, by decide⟩ rfl rfl rfl (Nat.le_of_ble_eq_true rfl) rfl (fun n q h => kc_T_hasError n H q h) fun r5 => ?_
        refine xo_if_eq (pc' := 67) (tgt := 97) dd_K_doPump_64 rfl rfl ?_ ?_
        · refine xo_aload_n (pc' := 98) dd_K_doPump_97 rfl 1 rfl rfl ?_
          refine xo_getI (pc' := 101) dd_K_doPump_98 ff_K_110 (by decide) rfl fun v6 => ?_
          refine xo_iconst (pc' := 102) (v := (1 : Int32)) dd_K_doPump_101 (by decide) rfl ?_
          refine xo_icmp_ne (pc' := 105) (tgt := 139) dd_K_doPump_102 rfl rfl ?_ ?_
          · refine xo_aload_n (pc' := 140) dd_K_doPump_139 rfl 0 rfl rfl ?_
            refine xo_callVi (as := []) (o := o3) (st := []) (pc' := 143) dd_K_doPump_140 cv_T_isShutOrToBe ml_K_355 rfl rfl ⟨by decide, by decide⟩ rfl rfl rfl (Nat.le_of_ble_eq_true rfl) rfl (fun n q h => kc_T_isShutOrToBe n r5.2 q h) fun r7 => ?_
            refine xo_if_eq (pc' := 146) (tgt := 172) dd_K_doPump_143 rfl rfl ?_ ?_
            · refine xo_aload_n (pc' := 173) dd_K_doPump_172 rfl 3 rfl rfl ?_
              refine xo_callVi (as := []) (o := x1) (st := []) (pc' := 176) dd_K_doPump_173 cv_P_mustWait ml_K_358 rfl rfl ⟨by decide, by decide⟩ rfl rfl rfl (Nat.le_of_ble_eq_true rfl) rfl (fun n q h => kc_P_mustWait n r7.2 q h) fun r8 => ?_
              refine xo_if_eq (pc' := 179) (tgt := 181) dd_K_doPump_176 rfl rfl ?_ ?_
              · refine xo_aload_n (pc' := 182) dd_K_doPump_181 rfl 2 rfl rfl ?_
                refine xo_aload_n (pc' := 183) dd_K_doPump_182 rfl 1 rfl rfl ?_
                refine xo_iconst (pc' := 184) (v := (0 : Int32)) dd_K_doPump_183 (by decide) rfl ?_
                refine xo_callVv (as := [.inr o2, .inl (0 : Int32)]) (o := (some t)) (st := []) (pc' := 187) dd_K_doPump_184 cv_K_request ml_K_142 rfl rfl ⟨by decide, by decide⟩ rfl rfl rfl (Nat.le_of_ble_eq_true rfl) rfl (fun n q h => kc_K_request n o2 (0 : Int32) r8.2 q h) fun H9 => ?_
                refine xo_iconst (pc' := 188) (v := (1 : Int32)) dd_K_doPump_187 (by decide) rfl ?_
                exact xo_zret dd_K_doPump_188 rfl
              · refine xo_iconst (pc' := 180) (v := (0 : Int32)) dd_K_doPump_179 (by decide) rfl ?_
                exact xo_zret dd_K_doPump_180 rfl
            · refine xo_aload_n (pc' := 147) dd_K_doPump_146 rfl 3 rfl rfl ?_
              refine xo_getI (pc' := 150) dd_K_doPump_147 ff_K_349 (by decide) rfl fun v12 => ?_
              refine xo_if_ne (pc' := 153) (tgt := 160) dd_K_doPump_150 rfl rfl ?_ ?_
              · refine xo_sub [2, 3] rfl ?_
                exact kb_K_doPump_160 t x1 r7.2 r
              · refine xo_aload_n (pc' := 154) dd_K_doPump_153 rfl 2 rfl rfl ?_
                refine xo_aload_n (pc' := 155) dd_K_doPump_154 rfl 1 rfl rfl ?_
                refine xo_bipush (pc' := 157) (v := (100 : Int32)) dd_K_doPump_155 (by decide) rfl ?_
                refine xo_callVv (as := [.inr o2, .inl (100 : Int32)]) (o := (some t)) (st := []) (pc' := 160) dd_K_doPump_157 cv_K_cancelGiver ml_K_145 rfl rfl ⟨by decide, by decide⟩ rfl rfl rfl (Nat.le_of_ble_eq_true rfl) rfl (fun n q h => kc_K_cancelGiver n o2 (100 : Int32) r7.2 q h) fun H13 => ?_
                refine xo_sub [2, 3] rfl ?_
                exact kb_K_doPump_160 t x1 H13 r
          · refine xo_aload_n (pc' := 106) dd_K_doPump_105 rfl 0 rfl rfl ?_
            refine xo_getP (pc' := 109) dd_K_doPump_106 ff_K_155 (by decide) rfl fun o16 => ?_
            refine xo_callVi (as := []) (o := o16) (st := []) (pc' := 112) dd_K_doPump_109 cv_C_count ml_K_87 rfl rfl ⟨by decide, by decide⟩ rfl rfl rfl (Nat.le_of_ble_eq_true rfl) rfl (fun n q h => kc_C_count n r5.2 q h) fun r17 => ?_
            refine xo_if_le (pc' := 115) (tgt := 117) dd_K_doPump_112 rfl rfl ?_ ?_
            · refine xo_aload_n (pc' := 118) dd_K_doPump_117 rfl 3 rfl rfl ?_
              refine xo_getI (pc' := 121) dd_K_doPump_118 ff_K_352 (by decide) rfl fun v18 => ?_
              refine xo_if_ne (pc' := 124) (tgt := 128) dd_K_doPump_121 rfl rfl ?_ ?_
              · refine xo_sub [2, 3] rfl ?_
                exact kb_K_doPump_128 t x1 r17.2 r
              · refine xo_aload_n (pc' := 125) dd_K_doPump_124 rfl 0 rfl rfl ?_
                refine xo_callVv (as := []) (o := o3) (st := []) (pc' := 128) dd_K_doPump_125 cv_T_shutDown ml_K_163 rfl rfl ⟨by decide, by decide⟩ rfl rfl rfl (Nat.le_of_ble_eq_true rfl) rfl (fun n q h => kc_T_shutDown n r17.2 q h) fun H19 => ?_
                refine xo_sub [2, 3] rfl ?_
                exact kb_K_doPump_128 t x1 H19 r
            · refine xo_iconst (pc' := 116) (v := (0 : Int32)) dd_K_doPump_115 (by decide) rfl ?_
              exact xo_zret dd_K_doPump_116 rfl
        · refine xo_aload_n (pc' := 68) dd_K_doPump_67 rfl 3 rfl rfl ?_
          refine xo_getI (pc' := 71) dd_K_doPump_68 ff_K_349 (by decide) rfl fun v22 => ?_
          refine xo_if_ne (pc' := 74) (tgt := 83) dd_K_doPump_71 rfl rfl ?_ ?_
          · refine xo_sub [2, 3, 0] rfl ?_
            exact kb_K_doPump_83 t x1 o3 r5.2 r
          · refine xo_aload_n (pc' := 75) dd_K_doPump_74 rfl 2 rfl rfl ?_
            refine xo_aload_n (pc' := 76) dd_K_doPump_75 rfl 1 rfl rfl ?_
            refine xo_aload_n (pc' := 77) dd_K_doPump_76 rfl 0 rfl rfl ?_
            refine xo_getI (pc' := 80) dd_K_doPump_77 ff_K_243 (by decide) rfl fun v23 => ?_
            refine xo_callVv (as := [.inr o2, .inl v23]) (o := (some t)) (st := []) (pc' := 83) dd_K_doPump_80 cv_K_cancelGiver ml_K_145 rfl rfl ⟨by decide, by decide⟩ rfl rfl rfl (Nat.le_of_ble_eq_true rfl) rfl (fun n q h => kc_K_cancelGiver n o2 v23 r5.2 q h) fun H24 => ?_
            refine xo_sub [2, 3, 0] rfl ?_
            exact kb_K_doPump_83 t x1 o3 H24 r
      · refine xo_aload_n (pc' := 32) dd_K_doPump_31 rfl 3 rfl rfl ?_
        refine xo_getI (pc' := 35) dd_K_doPump_32 ff_K_342 (by decide) rfl fun v27 => ?_
        refine xo_if_ne (pc' := 38) (tgt := 46) dd_K_doPump_35 rfl rfl ?_ ?_
        · refine xo_sub [2, 3, 1] rfl ?_
          exact kb_K_doPump_46 t x1 o2 H r
        · refine xo_aload_n (pc' := 39) dd_K_doPump_38 rfl 0 rfl rfl ?_
          refine xo_aload_n (pc' := 40) dd_K_doPump_39 rfl 1 rfl rfl ?_
          refine xo_getI (pc' := 43) dd_K_doPump_40 ff_K_207 (by decide) rfl fun v28 => ?_
          refine xo_callVv (as := [.inl v28]) (o := o3) (st := []) (pc' := 46) dd_K_doPump_43 cv_T_abortWith ml_K_172 rfl rfl ⟨by decide, by decide⟩ rfl rfl rfl (Nat.le_of_ble_eq_true rfl) rfl (fun n q h => kc_T_abortWith n v28 H q h) fun H29 => ?_
          refine xo_sub [2, 3, 1] rfl ?_
          exact kb_K_doPump_46 t x1 o2 H29 r
    · refine xo_iconst (pc' := 12) (v := (0 : Int32)) dd_K_doPump_11 (by decide) rfl ?_
      exact xo_zret dd_K_doPump_12 rfl
set_option maxRecDepth 100000 in
set_option maxHeartbeats 4000000 in
theorem kc_K_doPump (t : xo_N) (x1 : Option xo_N) (H : xo_H) (r : Int32 × xo_H) (hk : fc_K_doPump t x1 H = some r) : xo_M mt_K_doPump [.inr (some t), .inr x1] H (xo_ji r) :=
  xo_entry hk (by decide +kernel) (Nat.le_of_ble_eq_true rfl) (kb_K_doPump t x1 H r)
def fc_K_doSettled (t : xo_N) (x1 : Option xo_N) (x2 : Int32) (x3 : Int32) (H : xo_H) : Option (xo_H) :=
  if x1 = none then (some H)
  else (xo_pf 7 7 H x1 (0 : Int32) fun H1 =>
  if x2 = (3 : Int32) then (xo_cl 7 x1 (fun n7 => fc_T_written n7 x3 H1) fun H6 =>
  some H6)
  else (if x2 = (4 : Int32) then (xo_cl 7 x1 (fun n5 => fc_T_wasShut n5 x3 H1) fun H4 =>
  some H4)
  else (xo_cl 7 x1 (fun n3 => fc_T_wasAborted n3 x3 H1) fun H2 =>
  some H2)))

set_option maxRecDepth 100000 in
set_option maxHeartbeats 4000000 in
theorem kb_K_doSettled (t : xo_N) (x1 : Option xo_N) (x2 : Int32) (x3 : Int32) (H : xo_H) (r : xo_H) : xo_X mt_K_doSettled 0 0 xo_jv r 0 [(0, .inr (some t)), (1, .inr x1), (2, .inl x2), (3, .inl x3)] [] H (fc_K_doSettled t x1 x2 x3 H) := by
  unfold fc_K_doSettled
  refine xo_aload_n (pc' := 1) dd_K_doSettled_0 rfl 1 rfl rfl ?_
  refine xo_ifnonnull (pc' := 4) (tgt := 5) dd_K_doSettled_1 rfl rfl ?_ ?_
  · refine xo_aload_n (pc' := 6) dd_K_doSettled_5 rfl 1 rfl rfl ?_
    refine xo_iconst (pc' := 7) (v := (0 : Int32)) dd_K_doSettled_6 (by decide) rfl ?_
    refine xo_putI (pc' := 10) dd_K_doSettled_7 ff_K_169 rfl fun H1 => ?_
    refine xo_iload_n (pc' := 11) dd_K_doSettled_10 rfl 2 rfl rfl ?_
    refine xo_iconst (pc' := 12) (v := (3 : Int32)) dd_K_doSettled_11 (by decide) rfl ?_
    refine xo_icmp_ne (pc' := 15) (tgt := 23) dd_K_doSettled_12 rfl rfl ?_ ?_
    · refine xo_iload_n (pc' := 24) dd_K_doSettled_23 rfl 2 rfl rfl ?_
      refine xo_iconst (pc' := 25) (v := (4 : Int32)) dd_K_doSettled_24 (by decide) rfl ?_
      refine xo_icmp_ne (pc' := 28) (tgt := 36) dd_K_doSettled_25 rfl rfl ?_ ?_
      · refine xo_aload_n (pc' := 37) dd_K_doSettled_36 rfl 1 rfl rfl ?_
        refine xo_iload_n (pc' := 38) dd_K_doSettled_37 rfl 3 rfl rfl ?_
        refine xo_callVv (as := [.inl x3]) (o := x1) (st := []) (pc' := 41) dd_K_doSettled_38 cv_T_wasAborted ml_K_336 rfl rfl ⟨by decide, by decide⟩ rfl rfl rfl (Nat.le_of_ble_eq_true rfl) rfl (fun n q h => kc_T_wasAborted n x3 H1 q h) fun H2 => ?_
        exact xo_vret dd_K_doSettled_41 rfl
      · refine xo_aload_n (pc' := 29) dd_K_doSettled_28 rfl 1 rfl rfl ?_
        refine xo_iload_n (pc' := 30) dd_K_doSettled_29 rfl 3 rfl rfl ?_
        refine xo_callVv (as := [.inl x3]) (o := x1) (st := []) (pc' := 33) dd_K_doSettled_30 cv_T_wasShut ml_K_333 rfl rfl ⟨by decide, by decide⟩ rfl rfl rfl (Nat.le_of_ble_eq_true rfl) rfl (fun n q h => kc_T_wasShut n x3 H1 q h) fun H4 => ?_
        refine xo_goto (pc' := 41) dd_K_doSettled_33 rfl ?_
        exact xo_vret dd_K_doSettled_41 rfl
    · refine xo_aload_n (pc' := 16) dd_K_doSettled_15 rfl 1 rfl rfl ?_
      refine xo_iload_n (pc' := 17) dd_K_doSettled_16 rfl 3 rfl rfl ?_
      refine xo_callVv (as := [.inl x3]) (o := x1) (st := []) (pc' := 20) dd_K_doSettled_17 cv_T_written ml_K_330 rfl rfl ⟨by decide, by decide⟩ rfl rfl rfl (Nat.le_of_ble_eq_true rfl) rfl (fun n q h => kc_T_written n x3 H1 q h) fun H6 => ?_
      refine xo_goto (pc' := 41) dd_K_doSettled_20 rfl ?_
      exact xo_vret dd_K_doSettled_41 rfl
  · exact xo_vret dd_K_doSettled_4 rfl
set_option maxRecDepth 100000 in
set_option maxHeartbeats 4000000 in
theorem kc_K_doSettled (t : xo_N) (x1 : Option xo_N) (x2 : Int32) (x3 : Int32) (H : xo_H) (r : xo_H) (hk : fc_K_doSettled t x1 x2 x3 H = some r) : xo_M mt_K_doSettled [.inr (some t), .inr x1, .inl x2, .inl x3] H (xo_jv r) :=
  xo_entry hk (by decide +kernel) (Nat.le_of_ble_eq_true rfl) (kb_K_doSettled t x1 x2 x3 H r)
