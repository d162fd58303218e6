def fb_M_shutDone_90 (t : xo_N) (x1 : Int32) (x2 : Int32) (H : xo_H) : Option (xo_H) :=
  xo_cl 9 (some t) (fun n2 => fc_M_failsOrBreaks n2 x1 x2 H) fun H1 =>
  some H1

def fb_M_shutDone_46 (t : xo_N) (x1 : Int32) (H : xo_H) : Option (xo_H) :=
  xo_gp 9 21 H (some t) fun o1 =>
  xo_as H o1 x1 (3 : Int32) fun H2 =>
  some H2

def fc_M_shutDone (t : xo_N) (x1 : Int32) (x2 : Int32) (H : xo_H) : Option (xo_H) :=
  xo_gp 9 30 H (some t) fun o1 =>
  xo_as H o1 x1 (0 : Int32) fun H2 =>
  if x2 = (-1 : Int32) then (xo_cl 9 (some t) (fun n18 => fc_M_happen n18 (11 : Int32) x1 (0 : Int32) (0 : Int32) H2) fun H11 =>
  xo_gp 9 31 H11 (some t) fun o12 =>
  xo_al 1 H11 o12 x1 fun v13 =>
  if v13 = 0 then (fb_M_shutDone_46 t x1 H11)
  else (xo_gp 9 31 H11 (some t) fun o14 =>
  xo_az H11 o14 x1 (0 : Int32) fun H15 =>
  xo_cl 9 (some t) (fun n17 => fc_M_happen n17 (13 : Int32) x1 (0 : Int32) (0 : Int32) H15) fun H16 =>
  fb_M_shutDone_46 t x1 H16))
  else (xo_cl 9 (some t) (fun n10 => fc_M_happen n10 (12 : Int32) x1 x2 (0 : Int32) H2) fun H3 =>
  xo_gp 9 31 H3 (some t) fun o4 =>
  xo_al 1 H3 o4 x1 fun v5 =>
  if v5 = 0 then (fb_M_shutDone_90 t x1 x2 H3)
  else (xo_gp 9 31 H3 (some t) fun o6 =>
  xo_az H3 o6 x1 (0 : Int32) fun H7 =>
  xo_cl 9 (some t) (fun n9 => fc_M_happen n9 (14 : Int32) x1 x2 (0 : Int32) H7) fun H8 =>
  fb_M_shutDone_90 t x1 x2 H8))

set_option maxRecDepth 100000 in
set_option maxHeartbeats 4000000 in
theorem kb_M_shutDone_90 (t : xo_N) (x1 : Int32) (x2 : Int32) (H : xo_H) (r : xo_H) : xo_X mt_M_shutDone 0 0 xo_jv r 90 [(0, .inr (some t)), (1, .inl x1), (2, .inl x2)] [] H (fb_M_shutDone_90 t x1 x2 H) := by
  unfold fb_M_shutDone_90
  refine xo_aload_n (pc' := 91) dd_M_shutDone_90 rfl 0 rfl rfl ?_
  refine xo_iload_n (pc' := 92) dd_M_shutDone_91 rfl 1 rfl rfl ?_
  refine xo_iload_n (pc' := 93) dd_M_shutDone_92 rfl 2 rfl rfl ?_
  refine xo_callVv (as := [.inl x1, .inl x2]) (o := (some t)) (st := []) (pc' := 96) dd_M_shutDone_93 cv_M_failsOrBreaks ml_M_171 rfl rfl ⟨by decide, by decide⟩ rfl rfl rfl (Nat.le_of_ble_eq_true rfl) rfl (fun n q h => kc_M_failsOrBreaks n x1 x2 H q h) fun H1 => ?_
  exact xo_vret dd_M_shutDone_96 rfl
set_option maxRecDepth 100000 in
set_option maxHeartbeats 4000000 in
theorem kb_M_shutDone_46 (t : xo_N) (x1 : Int32) (H : xo_H) (r : xo_H) : xo_X mt_M_shutDone 0 0 xo_jv r 46 [(0, .inr (some t)), (1, .inl x1)] [] H (fb_M_shutDone_46 t x1 H) := by
  unfold fb_M_shutDone_46
  refine xo_aload_n (pc' := 47) dd_M_shutDone_46 rfl 0 rfl rfl ?_
  refine xo_getP (pc' := 50) dd_M_shutDone_47 ff_M_68 (by decide) rfl fun o1 => ?_
  refine xo_iload_n (pc' := 51) dd_M_shutDone_50 rfl 1 rfl rfl ?_
  refine xo_iconst (pc' := 52) (v := (3 : Int32)) dd_M_shutDone_51 (by decide) rfl ?_
  refine xo_iast (pc' := 53) dd_M_shutDone_52 rfl fun H2 => ?_
  refine xo_goto (pc' := 96) dd_M_shutDone_53 rfl ?_
  exact xo_vret dd_M_shutDone_96 rfl
set_option maxRecDepth 100000 in
set_option maxHeartbeats 4000000 in
theorem kb_M_shutDone (t : xo_N) (x1 : Int32) (x2 : Int32) (H : xo_H) (r : xo_H) : xo_X mt_M_shutDone 0 0 xo_jv r 0 [(0, .inr (some t)), (1, .inl x1), (2, .inl x2)] [] H (fc_M_shutDone t x1 x2 H) := by
  unfold fc_M_shutDone
  refine xo_aload_n (pc' := 1) dd_M_shutDone_0 rfl 0 rfl rfl ?_
  refine xo_getP (pc' := 4) dd_M_shutDone_1 ff_M_95 (by decide) rfl fun o1 => ?_
  refine xo_iload_n (pc' := 5) dd_M_shutDone_4 rfl 1 rfl rfl ?_
  refine xo_iconst (pc' := 6) (v := (0 : Int32)) dd_M_shutDone_5 (by decide) rfl ?_
  refine xo_iast (pc' := 7) dd_M_shutDone_6 rfl fun H2 => ?_
  refine xo_iload_n (pc' := 8) dd_M_shutDone_7 rfl 2 rfl rfl ?_
  refine xo_iconst (pc' := 9) (v := (-1 : Int32)) dd_M_shutDone_8 (by decide) rfl ?_
  refine xo_icmp_ne (pc' := 12) (tgt := 56) dd_M_shutDone_9 rfl rfl ?_ ?_
  · refine xo_aload_n (pc' := 57) dd_M_shutDone_56 rfl 0 rfl rfl ?_
    refine xo_bipush (pc' := 59) (v := (12 : Int32)) dd_M_shutDone_57 (by decide) rfl ?_
    refine xo_iload_n (pc' := 60) dd_M_shutDone_59 rfl 1 rfl rfl ?_
    refine xo_iload_n (pc' := 61) dd_M_shutDone_60 rfl 2 rfl rfl ?_
    refine xo_iconst (pc' := 62) (v := (0 : Int32)) dd_M_shutDone_61 (by decide) rfl ?_
    refine xo_callVv (as := [.inl (12 : Int32), .inl x1, .inl x2, .inl (0 : Int32)]) (o := (some t)) (st := []) (pc' := 65) dd_M_shutDone_62 cv_M_happen ml_M_160 rfl rfl ⟨by decide, by decide⟩ rfl rfl rfl (Nat.le_of_ble_eq_true rfl) rfl (fun n q h => kc_M_happen n (12 : Int32) x1 x2 (0 : Int32) H2 q h) fun H3 => ?_
    refine xo_aload_n (pc' := 66) dd_M_shutDone_65 rfl 0 rfl rfl ?_
    refine xo_getP (pc' := 69) dd_M_shutDone_66 ff_M_98 (by decide) rfl fun o4 => ?_
    refine xo_iload_n (pc' := 70) dd_M_shutDone_69 rfl 1 rfl rfl ?_
    refine xo_zald (pc' := 71) dd_M_shutDone_70 rfl fun v5 => ?_
    refine xo_if_eq (pc' := 74) (tgt := 90) dd_M_shutDone_71 rfl rfl ?_ ?_
    · exact kb_M_shutDone_90 t x1 x2 H3 r
    · refine xo_aload_n (pc' := 75) dd_M_shutDone_74 rfl 0 rfl rfl ?_
      refine xo_getP (pc' := 78) dd_M_shutDone_75 ff_M_98 (by decide) rfl fun o6 => ?_
      refine xo_iload_n (pc' := 79) dd_M_shutDone_78 rfl 1 rfl rfl ?_
      refine xo_iconst (pc' := 80) (v := (0 : Int32)) dd_M_shutDone_79 (by decide) rfl ?_
      refine xo_zast (pc' := 81) dd_M_shutDone_80 rfl fun H7 => ?_
      refine xo_aload_n (pc' := 82) dd_M_shutDone_81 rfl 0 rfl rfl ?_
      refine xo_bipush (pc' := 84) (v := (14 : Int32)) dd_M_shutDone_82 (by decide) rfl ?_
      refine xo_iload_n (pc' := 85) dd_M_shutDone_84 rfl 1 rfl rfl ?_
      refine xo_iload_n (pc' := 86) dd_M_shutDone_85 rfl 2 rfl rfl ?_
      refine xo_iconst (pc' := 87) (v := (0 : Int32)) dd_M_shutDone_86 (by decide) rfl ?_
      refine xo_callVv (as := [.inl (14 : Int32), .inl x1, .inl x2, .inl (0 : Int32)]) (o := (some t)) (st := []) (pc' := 90) dd_M_shutDone_87 cv_M_happen ml_M_160 rfl rfl ⟨by decide, by decide⟩ rfl rfl rfl (Nat.le_of_ble_eq_true rfl) rfl (fun n q h => kc_M_happen n (14 : Int32) x1 x2 (0 : Int32) H7 q h) fun H8 => ?_
      exact kb_M_shutDone_90 t x1 x2 H8 r
  · refine xo_aload_n (pc' := 13) dd_M_shutDone_12 rfl 0 rfl rfl ?_
    refine xo_bipush (pc' := 15) (v := (11 : Int32)) dd_M_shutDone_13 (by decide) rfl ?_
    refine xo_iload_n (pc' := 16) dd_M_shutDone_15 rfl 1 rfl rfl ?_
    refine xo_iconst (pc' := 17) (v := (0 : Int32)) dd_M_shutDone_16 (by decide) rfl ?_
    refine xo_iconst (pc' := 18) (v := (0 : Int32)) dd_M_shutDone_17 (by decide) rfl ?_
    refine xo_callVv (as := [.inl (11 : Int32), .inl x1, .inl (0 : Int32), .inl (0 : Int32)]) (o := (some t)) (st := []) (pc' := 21) dd_M_shutDone_18 cv_M_happen ml_M_160 rfl rfl ⟨by decide, by decide⟩ rfl rfl rfl (Nat.le_of_ble_eq_true rfl) rfl (fun n q h => kc_M_happen n (11 : Int32) x1 (0 : Int32) (0 : Int32) H2 q h) fun H11 => ?_
    refine xo_aload_n (pc' := 22) dd_M_shutDone_21 rfl 0 rfl rfl ?_
    refine xo_getP (pc' := 25) dd_M_shutDone_22 ff_M_98 (by decide) rfl fun o12 => ?_
    refine xo_iload_n (pc' := 26) dd_M_shutDone_25 rfl 1 rfl rfl ?_
    refine xo_zald (pc' := 27) dd_M_shutDone_26 rfl fun v13 => ?_
    refine xo_if_eq (pc' := 30) (tgt := 46) dd_M_shutDone_27 rfl rfl ?_ ?_
    · refine xo_sub [0, 1] rfl ?_
      exact kb_M_shutDone_46 t x1 H11 r
    · refine xo_aload_n (pc' := 31) dd_M_shutDone_30 rfl 0 rfl rfl ?_
      refine xo_getP (pc' := 34) dd_M_shutDone_31 ff_M_98 (by decide) rfl fun o14 => ?_
      refine xo_iload_n (pc' := 35) dd_M_shutDone_34 rfl 1 rfl rfl ?_
      refine xo_iconst (pc' := 36) (v := (0 : Int32)) dd_M_shutDone_35 (by decide) rfl ?_
      refine xo_zast (pc' := 37) dd_M_shutDone_36 rfl fun H15 => ?_
      refine xo_aload_n (pc' := 38) dd_M_shutDone_37 rfl 0 rfl rfl ?_
      refine xo_bipush (pc' := 40) (v := (13 : Int32)) dd_M_shutDone_38 (by decide) rfl ?_
      refine xo_iload_n (pc' := 41) dd_M_shutDone_40 rfl 1 rfl rfl ?_
      refine xo_iconst (pc' := 42) (v := (0 : Int32)) dd_M_shutDone_41 (by decide) rfl ?_
      refine xo_iconst (pc' := 43) (v := (0 : Int32)) dd_M_shutDone_42 (by decide) rfl ?_
      refine xo_callVv (as := [.inl (13 : Int32), .inl x1, .inl (0 : Int32), .inl (0 : Int32)]) (o := (some t)) (st := []) (pc' := 46) dd_M_shutDone_43 cv_M_happen ml_M_160 rfl rfl ⟨by decide, by decide⟩ rfl rfl rfl (Nat.le_of_ble_eq_true rfl) rfl (fun n q h => kc_M_happen n (13 : Int32) x1 (0 : Int32) (0 : Int32) H15 q h) fun H16 => ?_
      refine xo_sub [0, 1] rfl ?_
      exact kb_M_shutDone_46 t x1 H16 r
set_option maxRecDepth 100000 in
set_option maxHeartbeats 4000000 in
theorem kc_M_shutDone (t : xo_N) (x1 : Int32) (x2 : Int32) (H : xo_H) (r : xo_H) (hk : fc_M_shutDone t x1 x2 H = some r) : xo_M mt_M_shutDone [.inr (some t), .inl x1, .inl x2] H (xo_jv r) :=
  xo_entry hk (by decide +kernel) (Nat.le_of_ble_eq_true rfl) (kb_M_shutDone t x1 x2 H r)
def fb_M_abortDone_31 (t : xo_N) (x1 : Int32) (s1 : Int32) (s2 : Int32) (s3 : Int32) (H : xo_H) : Option (xo_H) :=
  xo_cl 9 (some t) (fun n10 => fc_M_happen n10 s1 s2 s3 (0 : Int32) H) fun H1 =>
  xo_gp 9 29 H1 (some t) fun o2 =>
  xo_al 1 H1 o2 x1 fun v3 =>
  if v3 = 0 then (some H1)
  else (xo_gp 9 29 H1 (some t) fun o4 =>
  xo_az H1 o4 x1 (0 : Int32) fun H5 =>
  xo_gp 9 22 H5 (some t) fun o6 =>
  xo_al 0 H5 o6 x1 fun v7 =>
  xo_cl 9 (some t) (fun n9 => fc_M_happen n9 (12 : Int32) x1 v7 (0 : Int32) H5) fun H8 =>
  some H8)

def fb_M_abortDone_20 (t : xo_N) (x1 : Int32) (x2 : Int32) (s1 : Int32) (H : xo_H) : Option (xo_H) :=
  if x2 = (-1 : Int32) then (fb_M_abortDone_31 t x1 s1 x1 (0 : Int32) H)
  else (fb_M_abortDone_31 t x1 s1 x1 x2 H)

def fc_M_abortDone (t : xo_N) (x1 : Int32) (x2 : Int32) (H : xo_H) : Option (xo_H) :=
  xo_gp 9 30 H (some t) fun o1 =>
  xo_as H o1 x1 (0 : Int32) fun H2 =>
  if x2 = (-1 : Int32) then (fb_M_abortDone_20 t x1 x2 (13 : Int32) H2)
  else (fb_M_abortDone_20 t x1 x2 (14 : Int32) H2)

set_option maxRecDepth 100000 in
set_option maxHeartbeats 4000000 in
theorem kb_M_abortDone_31 (t : xo_N) (x1 : Int32) (s1 : Int32) (s2 : Int32) (s3 : Int32) (H : xo_H) (r : xo_H) : xo_X mt_M_abortDone 0 0 xo_jv r 31 [(0, .inr (some t)), (1, .inl x1)] [.inl s3, .inl s2, .inl s1, .inr (some t)] H (fb_M_abortDone_31 t x1 s1 s2 s3 H) := by
  unfold fb_M_abortDone_31
  refine xo_iconst (pc' := 32) (v := (0 : Int32)) dd_M_abortDone_31 (by decide) rfl ?_
  refine xo_callVv (as := [.inl s1, .inl s2, .inl s3, .inl (0 : Int32)]) (o := (some t)) (st := []) (pc' := 35) dd_M_abortDone_32 cv_M_happen ml_M_160 rfl rfl ⟨by decide, by decide⟩ rfl rfl rfl (Nat.le_of_ble_eq_true rfl) rfl (fun n q h => kc_M_happen n s1 s2 s3 (0 : Int32) H q h) fun H1 => ?_
  refine xo_aload_n (pc' := 36) dd_M_abortDone_35 rfl 0 rfl rfl ?_
  refine xo_getP (pc' := 39) dd_M_abortDone_36 ff_M_92 (by decide) rfl fun o2 => ?_
  refine xo_iload_n (pc' := 40) dd_M_abortDone_39 rfl 1 rfl rfl ?_
  refine xo_zald (pc' := 41) dd_M_abortDone_40 rfl fun v3 => ?_
  refine xo_if_eq (pc' := 44) (tgt := 65) dd_M_abortDone_41 rfl rfl ?_ ?_
  · exact xo_vret dd_M_abortDone_65 rfl
  · refine xo_aload_n (pc' := 45) dd_M_abortDone_44 rfl 0 rfl rfl ?_
    refine xo_getP (pc' := 48) dd_M_abortDone_45 ff_M_92 (by decide) rfl fun o4 => ?_
    refine xo_iload_n (pc' := 49) dd_M_abortDone_48 rfl 1 rfl rfl ?_
    refine xo_iconst (pc' := 50) (v := (0 : Int32)) dd_M_abortDone_49 (by decide) rfl ?_
    refine xo_zast (pc' := 51) dd_M_abortDone_50 rfl fun H5 => ?_
    refine xo_aload_n (pc' := 52) dd_M_abortDone_51 rfl 0 rfl rfl ?_
    refine xo_bipush (pc' := 54) (v := (12 : Int32)) dd_M_abortDone_52 (by decide) rfl ?_
    refine xo_iload_n (pc' := 55) dd_M_abortDone_54 rfl 1 rfl rfl ?_
    refine xo_aload_n (pc' := 56) dd_M_abortDone_55 rfl 0 rfl rfl ?_
    refine xo_getP (pc' := 59) dd_M_abortDone_56 ff_M_71 (by decide) rfl fun o6 => ?_
    refine xo_iload_n (pc' := 60) dd_M_abortDone_59 rfl 1 rfl rfl ?_
    refine xo_iald (pc' := 61) dd_M_abortDone_60 rfl fun v7 => ?_
    refine xo_iconst (pc' := 62) (v := (0 : Int32)) dd_M_abortDone_61 (by decide) rfl ?_
    refine xo_callVv (as := [.inl (12 : Int32), .inl x1, .inl v7, .inl (0 : Int32)]) (o := (some t)) (st := []) (pc' := 65) dd_M_abortDone_62 cv_M_happen ml_M_160 rfl rfl ⟨by decide, by decide⟩ rfl rfl rfl (Nat.le_of_ble_eq_true rfl) rfl (fun n q h => kc_M_happen n (12 : Int32) x1 v7 (0 : Int32) H5 q h) fun H8 => ?_
    exact xo_vret dd_M_abortDone_65 rfl
set_option maxRecDepth 100000 in
set_option maxHeartbeats 4000000 in
theorem kb_M_abortDone_20 (t : xo_N) (x1 : Int32) (x2 : Int32) (s1 : Int32) (H : xo_H) (r : xo_H) : xo_X mt_M_abortDone 0 0 xo_jv r 20 [(0, .inr (some t)), (1, .inl x1), (2, .inl x2)] [.inl s1, .inr (some t)] H (fb_M_abortDone_20 t x1 x2 s1 H) := by
  unfold fb_M_abortDone_20
  refine xo_iload_n (pc' := 21) dd_M_abortDone_20 rfl 1 rfl rfl ?_
  refine xo_iload_n (pc' := 22) dd_M_abortDone_21 rfl 2 rfl rfl ?_
  refine xo_iconst (pc' := 23) (v := (-1 : Int32)) dd_M_abortDone_22 (by decide) rfl ?_
  refine xo_icmp_ne (pc' := 26) (tgt := 30) dd_M_abortDone_23 rfl rfl ?_ ?_
  · refine xo_iload_n (pc' := 31) dd_M_abortDone_30 rfl 2 rfl rfl ?_
    refine xo_sub [0, 1] rfl ?_
    exact kb_M_abortDone_31 t x1 s1 x1 x2 H r
  · refine xo_iconst (pc' := 27) (v := (0 : Int32)) dd_M_abortDone_26 (by decide) rfl ?_
    refine xo_goto (pc' := 31) dd_M_abortDone_27 rfl ?_
    refine xo_sub [0, 1] rfl ?_
    exact kb_M_abortDone_31 t x1 s1 x1 (0 : Int32) H r
set_option maxRecDepth 100000 in
set_option maxHeartbeats 4000000 in
theorem kb_M_abortDone (t : xo_N) (x1 : Int32) (x2 : Int32) (H : xo_H) (r : xo_H) : xo_X mt_M_abortDone 0 0 xo_jv r 0 [(0, .inr (some t)), (1, .inl x1), (2, .inl x2)] [] H (fc_M_abortDone t x1 x2 H) := by
  unfold fc_M_abortDone
  refine xo_aload_n (pc' := 1) dd_M_abortDone_0 rfl 0 rfl rfl ?_
  refine xo_getP (pc' := 4) dd_M_abortDone_1 ff_M_95 (by decide) rfl fun o1 => ?_
  refine xo_iload_n (pc' := 5) dd_M_abortDone_4 rfl 1 rfl rfl ?_
  refine xo_iconst (pc' := 6) (v := (0 : Int32)) dd_M_abortDone_5 (by decide) rfl ?_
  refine xo_iast (pc' := 7) dd_M_abortDone_6 rfl fun H2 => ?_
  refine xo_aload_n (pc' := 8) dd_M_abortDone_7 rfl 0 rfl rfl ?_
  refine xo_iload_n (pc' := 9) dd_M_abortDone_8 rfl 2 rfl rfl ?_
  refine xo_iconst (pc' := 10) (v := (-1 : Int32)) dd_M_abortDone_9 (by decide) rfl ?_
  refine xo_icmp_ne (pc' := 13) (tgt := 18) dd_M_abortDone_10 rfl rfl ?_ ?_
  · refine xo_bipush (pc' := 20) (v := (14 : Int32)) dd_M_abortDone_18 (by decide) rfl ?_
    exact kb_M_abortDone_20 t x1 x2 (14 : Int32) H2 r
  · refine xo_bipush (pc' := 15) (v := (13 : Int32)) dd_M_abortDone_13 (by decide) rfl ?_
    refine xo_goto (pc' := 20) dd_M_abortDone_15 rfl ?_
    exact kb_M_abortDone_20 t x1 x2 (13 : Int32) H2 r
set_option maxRecDepth 100000 in
set_option maxHeartbeats 4000000 in
theorem kc_M_abortDone (t : xo_N) (x1 : Int32) (x2 : Int32) (H : xo_H) (r : xo_H) (hk : fc_M_abortDone t x1 x2 H = some r) : xo_M mt_M_abortDone [.inr (some t), .inl x1, .inl x2] H (xo_jv r) :=
  xo_entry hk (by decide +kernel) (Nat.le_of_ble_eq_true rfl) (kb_M_abortDone t x1 x2 H r)
def fb_M_abortTaker_65 (t : xo_N) (x1 : Int32) (x2 : Int32) (s0 : Option xo_N) (s1 : Int32) (s2 : Int32) (H : xo_H) : Option (xo_H) :=
  xo_az H s0 s1 s2 fun H1 =>
  xo_gp 9 21 H1 (some t) fun o2 =>
  xo_al 0 H1 o2 x1 fun v3 =>
  if v3 = 0 then (xo_cl 9 (some t) (fun n5 => fc_M_startFailing n5 x1 x2 H1) fun H4 =>
  some H4)
  else (some H1)

def fc_M_abortTaker (t : xo_N) (x1 : Int32) (x2 : Int32) (H : xo_H) : Option (xo_H) :=
  xo_gp 9 21 H (some t) fun o1 =>
  xo_al 0 H o1 x1 fun v2 =>
  if (1 : Int32) < v2 then (xo_cl 9 (some t) (fun n13 => fc_M_happen n13 (13 : Int32) x1 (0 : Int32) (0 : Int32) H) fun H12 =>
  some H12)
  else (xo_gp 9 31 H (some t) fun o3 =>
  xo_al 1 H o3 x1 fun v4 =>
  if v4 = 0 then (xo_gp 9 31 H (some t) fun o5 =>
  xo_az H o5 x1 (1 : Int32) fun H6 =>
  xo_gp 9 32 H6 (some t) fun o7 =>
  xo_as H6 o7 x1 x2 fun H8 =>
  xo_gp 9 33 H8 (some t) fun o9 =>
  xo_gp 9 21 H8 (some t) fun o10 =>
  xo_al 0 H8 o10 x1 fun v11 =>
  if v11 = (1 : Int32) then (fb_M_abortTaker_65 t x1 x2 o9 x1 (1 : Int32) H8)
  else (fb_M_abortTaker_65 t x1 x2 o9 x1 (0 : Int32) H8))
  else (some H))

set_option maxRecDepth 100000 in
set_option maxHeartbeats 4000000 in
theorem kb_M_abortTaker_65 (t : xo_N) (x1 : Int32) (x2 : Int32) (s0 : Option xo_N) (s1 : Int32) (s2 : Int32) (H : xo_H) (r : xo_H) : xo_X mt_M_abortTaker 0 0 xo_jv r 65 [(0, .inr (some t)), (1, .inl x1), (2, .inl x2)] [.inl s2, .inl s1, .inr s0] H (fb_M_abortTaker_65 t x1 x2 s0 s1 s2 H) := by
  unfold fb_M_abortTaker_65
  refine xo_zast (pc' := 66) dd_M_abortTaker_65 rfl fun H1 => ?_
  refine xo_aload_n (pc' := 67) dd_M_abortTaker_66 rfl 0 rfl rfl ?_
  refine xo_getP (pc' := 70) dd_M_abortTaker_67 ff_M_68 (by decide) rfl fun o2 => ?_
  refine xo_iload_n (pc' := 71) dd_M_abortTaker_70 rfl 1 rfl rfl ?_
  refine xo_iald (pc' := 72) dd_M_abortTaker_71 rfl fun v3 => ?_
  refine xo_if_ne (pc' := 75) (tgt := 81) dd_M_abortTaker_72 rfl rfl ?_ ?_
  · exact xo_vret dd_M_abortTaker_81 rfl
  · refine xo_aload_n (pc' := 76) dd_M_abortTaker_75 rfl 0 rfl rfl ?_
    refine xo_iload_n (pc' := 77) dd_M_abortTaker_76 rfl 1 rfl rfl ?_
    refine xo_iload_n (pc' := 78) dd_M_abortTaker_77 rfl 2 rfl rfl ?_
    refine xo_callVv (as := [.inl x1, .inl x2]) (o := (some t)) (st := []) (pc' := 81) dd_M_abortTaker_78 cv_M_startFailing ml_M_175 rfl rfl ⟨by decide, by decide⟩ rfl rfl rfl (Nat.le_of_ble_eq_true rfl) rfl (fun n q h => kc_M_startFailing n x1 x2 H1 q h) fun H4 => ?_
    exact xo_vret dd_M_abortTaker_81 rfl
set_option maxRecDepth 100000 in
set_option maxHeartbeats 4000000 in
theorem kb_M_abortTaker (t : xo_N) (x1 : Int32) (x2 : Int32) (H : xo_H) (r : xo_H) : xo_X mt_M_abortTaker 0 0 xo_jv r 0 [(0, .inr (some t)), (1, .inl x1), (2, .inl x2)] [] H (fc_M_abortTaker t x1 x2 H) := by
  unfold fc_M_abortTaker
  refine xo_aload_n (pc' := 1) dd_M_abortTaker_0 rfl 0 rfl rfl ?_
  refine xo_getP (pc' := 4) dd_M_abortTaker_1 ff_M_68 (by decide) rfl fun o1 => ?_
  refine xo_iload_n (pc' := 5) dd_M_abortTaker_4 rfl 1 rfl rfl ?_
  refine xo_iald (pc' := 6) dd_M_abortTaker_5 rfl fun v2 => ?_
  refine xo_iconst (pc' := 7) (v := (1 : Int32)) dd_M_abortTaker_6 (by decide) rfl ?_
  refine xo_icmp_le (pc' := 10) (tgt := 22) dd_M_abortTaker_7 rfl rfl ?_ ?_
  · refine xo_aload_n (pc' := 23) dd_M_abortTaker_22 rfl 0 rfl rfl ?_
    refine xo_getP (pc' := 26) dd_M_abortTaker_23 ff_M_98 (by decide) rfl fun o3 => ?_
    refine xo_iload_n (pc' := 27) dd_M_abortTaker_26 rfl 1 rfl rfl ?_
    refine xo_zald (pc' := 28) dd_M_abortTaker_27 rfl fun v4 => ?_
    refine xo_if_ne (pc' := 31) (tgt := 81) dd_M_abortTaker_28 rfl rfl ?_ ?_
    · exact xo_vret dd_M_abortTaker_81 rfl
    · refine xo_aload_n (pc' := 32) dd_M_abortTaker_31 rfl 0 rfl rfl ?_
      refine xo_getP (pc' := 35) dd_M_abortTaker_32 ff_M_98 (by decide) rfl fun o5 => ?_
      refine xo_iload_n (pc' := 36) dd_M_abortTaker_35 rfl 1 rfl rfl ?_
      refine xo_iconst (pc' := 37) (v := (1 : Int32)) dd_M_abortTaker_36 (by decide) rfl ?_
      refine xo_zast (pc' := 38) dd_M_abortTaker_37 rfl fun H6 => ?_
      refine xo_aload_n (pc' := 39) dd_M_abortTaker_38 rfl 0 rfl rfl ?_
      refine xo_getP (pc' := 42) dd_M_abortTaker_39 ff_M_101 (by decide) rfl fun o7 => ?_
      refine xo_iload_n (pc' := 43) dd_M_abortTaker_42 rfl 1 rfl rfl ?_
      refine xo_iload_n (pc' := 44) dd_M_abortTaker_43 rfl 2 rfl rfl ?_
      refine xo_iast (pc' := 45) dd_M_abortTaker_44 rfl fun H8 => ?_
      refine xo_aload_n (pc' := 46) dd_M_abortTaker_45 rfl 0 rfl rfl ?_
      refine xo_getP (pc' := 49) dd_M_abortTaker_46 ff_M_104 (by decide) rfl fun o9 => ?_
      refine xo_iload_n (pc' := 50) dd_M_abortTaker_49 rfl 1 rfl rfl ?_
      refine xo_aload_n (pc' := 51) dd_M_abortTaker_50 rfl 0 rfl rfl ?_
      refine xo_getP (pc' := 54) dd_M_abortTaker_51 ff_M_68 (by decide) rfl fun o10 => ?_
      refine xo_iload_n (pc' := 55) dd_M_abortTaker_54 rfl 1 rfl rfl ?_
      refine xo_iald (pc' := 56) dd_M_abortTaker_55 rfl fun v11 => ?_
      refine xo_iconst (pc' := 57) (v := (1 : Int32)) dd_M_abortTaker_56 (by decide) rfl ?_
      refine xo_icmp_ne (pc' := 60) (tgt := 64) dd_M_abortTaker_57 rfl rfl ?_ ?_
      · refine xo_iconst (pc' := 65) (v := (0 : Int32)) dd_M_abortTaker_64 (by decide) rfl ?_
        exact kb_M_abortTaker_65 t x1 x2 o9 x1 (0 : Int32) H8 r
      · refine xo_iconst (pc' := 61) (v := (1 : Int32)) dd_M_abortTaker_60 (by decide) rfl ?_
        refine xo_goto (pc' := 65) dd_M_abortTaker_61 rfl ?_
        exact kb_M_abortTaker_65 t x1 x2 o9 x1 (1 : Int32) H8 r
  · refine xo_aload_n (pc' := 11) dd_M_abortTaker_10 rfl 0 rfl rfl ?_
    refine xo_bipush (pc' := 13) (v := (13 : Int32)) dd_M_abortTaker_11 (by decide) rfl ?_
    refine xo_iload_n (pc' := 14) dd_M_abortTaker_13 rfl 1 rfl rfl ?_
    refine xo_iconst (pc' := 15) (v := (0 : Int32)) dd_M_abortTaker_14 (by decide) rfl ?_
    refine xo_iconst (pc' := 16) (v := (0 : Int32)) dd_M_abortTaker_15 (by decide) rfl ?_
    refine xo_callVv (as := [.inl (13 : Int32), .inl x1, .inl (0 : Int32), .inl (0 : Int32)]) (o := (some t)) (st := []) (pc' := 19) dd_M_abortTaker_16 cv_M_happen ml_M_160 rfl rfl ⟨by decide, by decide⟩ rfl rfl rfl (Nat.le_of_ble_eq_true rfl) rfl (fun n q h => kc_M_happen n (13 : Int32) x1 (0 : Int32) (0 : Int32) H q h) fun H12 => ?_
    refine xo_goto (pc' := 81) dd_M_abortTaker_19 rfl ?_
    exact xo_vret dd_M_abortTaker_81 rfl
set_option maxRecDepth 100000 in
set_option maxHeartbeats 4000000 in
theorem kc_M_abortTaker (t : xo_N) (x1 : Int32) (x2 : Int32) (H : xo_H) (r : xo_H) (hk : fc_M_abortTaker t x1 x2 H = some r) : xo_M mt_M_abortTaker [.inr (some t), .inl x1, .inl x2] H (xo_jv r) :=
  xo_entry hk (by decide +kernel) (Nat.le_of_ble_eq_true rfl) (kb_M_abortTaker t x1 x2 H r)
def fc_M_shutDown (t : xo_N) (x1 : Int32) (H : xo_H) : Option (xo_H) :=
  xo_gp 9 21 H (some t) fun o1 =>
  xo_al 0 H o1 x1 fun v2 =>
  if v2 < (2 : Int32) then (xo_gp 9 29 H (some t) fun o3 =>
  xo_al 1 H o3 x1 fun v4 =>
  if v4 = 0 then (xo_gp 9 30 H (some t) fun o5 =>
  xo_al 0 H o5 x1 fun v6 =>
  if v6 = (4 : Int32) then (some H)
  else (xo_gp 9 29 H (some t) fun o7 =>
  xo_az H o7 x1 (1 : Int32) fun H8 =>
  xo_cl 9 (some t) (fun n10 => fc_M_goesOn n10 x1 H8) fun H9 =>
  some H9))
  else (some H))
  else (some H)

set_option maxRecDepth 100000 in
set_option maxHeartbeats 4000000 in
theorem kb_M_shutDown (t : xo_N) (x1 : Int32) (H : xo_H) (r : xo_H) : xo_X mt_M_shutDown 0 0 xo_jv r 0 [(0, .inr (some t)), (1, .inl x1)] [] H (fc_M_shutDown t x1 H) := by
  unfold fc_M_shutDown
  refine xo_aload_n (pc' := 1) dd_M_shutDown_0 rfl 0 rfl rfl ?_
  refine xo_getP (pc' := 4) dd_M_shutDown_1 ff_M_68 (by decide) rfl fun o1 => ?_
  refine xo_iload_n (pc' := 5) dd_M_shutDown_4 rfl 1 rfl rfl ?_
  refine xo_iald (pc' := 6) dd_M_shutDown_5 rfl fun v2 => ?_
  refine xo_iconst (pc' := 7) (v := (2 : Int32)) dd_M_shutDown_6 (by decide) rfl ?_
  refine xo_icmp_ge (pc' := 10) (tgt := 41) dd_M_shutDown_7 rfl rfl ?_ ?_
  · exact xo_vret dd_M_shutDown_41 rfl
  · refine xo_aload_n (pc' := 11) dd_M_shutDown_10 rfl 0 rfl rfl ?_
    refine xo_getP (pc' := 14) dd_M_shutDown_11 ff_M_92 (by decide) rfl fun o3 => ?_
    refine xo_iload_n (pc' := 15) dd_M_shutDown_14 rfl 1 rfl rfl ?_
    refine xo_zald (pc' := 16) dd_M_shutDown_15 rfl fun v4 => ?_
    refine xo_if_ne (pc' := 19) (tgt := 41) dd_M_shutDown_16 rfl rfl ?_ ?_
    · exact xo_vret dd_M_shutDown_41 rfl
    · refine xo_aload_n (pc' := 20) dd_M_shutDown_19 rfl 0 rfl rfl ?_
      refine xo_getP (pc' := 23) dd_M_shutDown_20 ff_M_95 (by decide) rfl fun o5 => ?_
      refine xo_iload_n (pc' := 24) dd_M_shutDown_23 rfl 1 rfl rfl ?_
      refine xo_iald (pc' := 25) dd_M_shutDown_24 rfl fun v6 => ?_
      refine xo_iconst (pc' := 26) (v := (4 : Int32)) dd_M_shutDown_25 (by decide) rfl ?_
      refine xo_icmp_eq (pc' := 29) (tgt := 41) dd_M_shutDown_26 rfl rfl ?_ ?_
      · exact xo_vret dd_M_shutDown_41 rfl
      · refine xo_aload_n (pc' := 30) dd_M_shutDown_29 rfl 0 rfl rfl ?_
        refine xo_getP (pc' := 33) dd_M_shutDown_30 ff_M_92 (by decide) rfl fun o7 => ?_
        refine xo_iload_n (pc' := 34) dd_M_shutDown_33 rfl 1 rfl rfl ?_
        refine xo_iconst (pc' := 35) (v := (1 : Int32)) dd_M_shutDown_34 (by decide) rfl ?_
        refine xo_zast (pc' := 36) dd_M_shutDown_35 rfl fun H8 => ?_
        refine xo_aload_n (pc' := 37) dd_M_shutDown_36 rfl 0 rfl rfl ?_
        refine xo_iload_n (pc' := 38) dd_M_shutDown_37 rfl 1 rfl rfl ?_
        refine xo_callVv (as := [.inl x1]) (o := (some t)) (st := []) (pc' := 41) dd_M_shutDown_38 cv_M_goesOn ml_M_168 rfl rfl ⟨by decide, by decide⟩ rfl rfl rfl (Nat.le_of_ble_eq_true rfl) rfl (fun n q h => kc_M_goesOn n x1 H8 q h) fun H9 => ?_
        exact xo_vret dd_M_shutDown_41 rfl
set_option maxRecDepth 100000 in
set_option maxHeartbeats 4000000 in
theorem kc_M_shutDown (t : xo_N) (x1 : Int32) (H : xo_H) (r : xo_H) (hk : fc_M_shutDown t x1 H = some r) : xo_M mt_M_shutDown [.inr (some t), .inl x1] H (xo_jv r) :=
  xo_entry hk (by decide +kernel) (Nat.le_of_ble_eq_true rfl) (kb_M_shutDown t x1 H r)
def fb_M_room_9 : Nat → xo_N → Int32 → Int32 → Int32 → xo_H → Option (Int32 × xo_H)
  | 0, _, _, _, _, _ => none
  | fu + 1, t, x1, x2, x3, H =>
  xo_gp 9 10 H (some t) fun o1 =>
  xo_al 0 H o1 x1 fun v2 =>
  if x3 < v2 then (xo_gp 9 9 H (some t) fun o3 =>
  xo_al 0 H o3 (((16 : Int32) * x1) + x3) fun v4 =>
  xo_gp 9 4 H (some t) fun o5 =>
  xo_al 1 H o5 x1 fun v6 =>
  xo_cl 9 (some t) (fun n8 => fc_M_sizeOf n8 v4 v6 H) fun r7 =>
  fb_M_room_9 fu t x1 (x2 - r7.1) (x3 + (1 : Int32)) r7.2)
  else (some (x2, H))

def fc_M_room (t : xo_N) (x1 : Int32) (H : xo_H) : Option (Int32 × xo_H) :=
  xo_gp 9 3 H (some t) fun o1 =>
  xo_al 0 H o1 x1 fun v2 =>
  fb_M_room_9 1000 t x1 v2 (0 : Int32) H

set_option maxRecDepth 100000 in
set_option maxHeartbeats 4000000 in
theorem kb_M_room_9 : ∀ (fu : Nat) (t : xo_N) (x1 : Int32) (x2 : Int32) (x3 : Int32) (H : xo_H) (r : Int32 × xo_H), xo_X mt_M_room 0 0 xo_ji r 9 [(0, .inr (some t)), (1, .inl x1), (2, .inl x2), (3, .inl x3)] [] H (fb_M_room_9 fu t x1 x2 x3 H) := by
  intro fu
  induction fu with
  | zero => intros; exact xo_no
  | succ fu ih =>
    intro t x1 x2 x3 H r
    rw [fb_M_room_9]
    refine xo_iload_n (pc' := 10) dd_M_room_9 rfl 3 rfl rfl ?_
    refine xo_aload_n (pc' := 11) dd_M_room_10 rfl 0 rfl rfl ?_
    refine xo_getP (pc' := 14) dd_M_room_11 ff_M_38 (by decide) rfl fun o1 => ?_
    refine xo_iload_n (pc' := 15) dd_M_room_14 rfl 1 rfl rfl ?_
    refine xo_iald (pc' := 16) dd_M_room_15 rfl fun v2 => ?_
    refine xo_icmp_ge (pc' := 19) (tgt := 49) dd_M_room_16 rfl rfl ?_ ?_
    · refine xo_iload_n (pc' := 50) dd_M_room_49 rfl 2 rfl rfl ?_
      exact xo_iret dd_M_room_50 rfl
    · refine xo_iload_n (pc' := 20) dd_M_room_19 rfl 2 rfl rfl ?_
      refine xo_aload_n (pc' := 21) dd_M_room_20 rfl 0 rfl rfl ?_
      refine xo_aload_n (pc' := 22) dd_M_room_21 rfl 0 rfl rfl ?_
      refine xo_getP (pc' := 25) dd_M_room_22 ff_M_35 (by decide) rfl fun o3 => ?_
      refine xo_bipush (pc' := 27) (v := (16 : Int32)) dd_M_room_25 (by decide) rfl ?_
      refine xo_iload_n (pc' := 28) dd_M_room_27 rfl 1 rfl rfl ?_
      refine xo_imul (pc' := 29) dd_M_room_28 rfl ?_
      refine xo_iload_n (pc' := 30) dd_M_room_29 rfl 3 rfl rfl ?_
      refine xo_iadd (pc' := 31) dd_M_room_30 rfl ?_
      refine xo_iald (pc' := 32) dd_M_room_31 rfl fun v4 => ?_
      refine xo_aload_n (pc' := 33) dd_M_room_32 rfl 0 rfl rfl ?_
      refine xo_getP (pc' := 36) dd_M_room_33 ff_M_19 (by decide) rfl fun o5 => ?_
      refine xo_iload_n (pc' := 37) dd_M_room_36 rfl 1 rfl rfl ?_
      refine xo_zald (pc' := 38) dd_M_room_37 rfl fun v6 => ?_
      refine xo_callVi (as := [.inl v4, .inl v6]) (o := (some t)) (st := [.inl x2]) (pc' := 41) dd_M_room_38 cv_M_sizeOf ml_M_156 rfl rfl ⟨by decide, by decide⟩ rfl rfl rfl (Nat.le_of_ble_eq_true rfl) rfl (fun n q h => kc_M_sizeOf n v4 v6 H q h) fun r7 => ?_
      refine xo_isub (pc' := 42) dd_M_room_41 rfl ?_
      refine xo_istore_n (pc' := 43) dd_M_room_42 rfl (by decide) rfl rfl ?_
      refine xo_iinc (pc' := 46) dd_M_room_43 3 rfl (xo_ii (m := (1 : Int32)) (by decide)) (by decide) rfl rfl ?_
      refine xo_goto (pc' := 9) dd_M_room_46 rfl ?_
      refine xo_sub [2, 3, 1, 0] rfl ?_
      exact ih t x1 (x2 - r7.1) (x3 + (1 : Int32)) r7.2 r
set_option maxRecDepth 100000 in
set_option maxHeartbeats 4000000 in
theorem kb_M_room (t : xo_N) (x1 : Int32) (H : xo_H) (r : Int32 × xo_H) : xo_X mt_M_room 0 0 xo_ji r 0 [(0, .inr (some t)), (1, .inl x1)] [] H (fc_M_room t x1 H) := by
  unfold fc_M_room
  refine xo_aload_n (pc' := 1) dd_M_room_0 rfl 0 rfl rfl ?_
  refine xo_getP (pc' := 4) dd_M_room_1 ff_M_16 (by decide) rfl fun o1 => ?_
  refine xo_iload_n (pc' := 5) dd_M_room_4 rfl 1 rfl rfl ?_
  refine xo_iald (pc' := 6) dd_M_room_5 rfl fun v2 => ?_
  refine xo_istore_n (pc' := 7) dd_M_room_6 rfl (by decide) rfl rfl ?_
  refine xo_iconst (pc' := 8) (v := (0 : Int32)) dd_M_room_7 (by decide) rfl ?_
  refine xo_istore_n (pc' := 9) dd_M_room_8 rfl (by decide) rfl rfl ?_
  refine xo_sub [2, 3, 1, 0] rfl ?_
  exact kb_M_room_9 1000 t x1 v2 (0 : Int32) H r
set_option maxRecDepth 100000 in
set_option maxHeartbeats 4000000 in
theorem kc_M_room (t : xo_N) (x1 : Int32) (H : xo_H) (r : Int32 × xo_H) (hk : fc_M_room t x1 H = some r) : xo_M mt_M_room [.inr (some t), .inl x1] H (xo_ji r) :=
  xo_entry hk (by decide +kernel) (Nat.le_of_ble_eq_true rfl) (kb_M_room t x1 H r)
def fc_M_isBranch (t : xo_N) (x1 : Int32) (H : xo_H) : Option (Int32 × xo_H) :=
  xo_gp 9 16 H (some t) fun o1 =>
  xo_al 0 H o1 x1 fun v2 =>
  if v2 < 0 then (xo_gb (0 : Int32) (some ((0 : Int32), H)))
  else (xo_gb (1 : Int32) (some ((1 : Int32), H)))

set_option maxRecDepth 100000 in
set_option maxHeartbeats 4000000 in
theorem kb_M_isBranch (t : xo_N) (x1 : Int32) (H : xo_H) (r : Int32 × xo_H) : xo_X mt_M_isBranch 0 0 xo_ji r 0 [(0, .inr (some t)), (1, .inl x1)] [] H (fc_M_isBranch t x1 H) := by
  unfold fc_M_isBranch
  refine xo_aload_n (pc' := 1) dd_M_isBranch_0 rfl 0 rfl rfl ?_
  refine xo_getP (pc' := 4) dd_M_isBranch_1 ff_M_56 (by decide) rfl fun o1 => ?_
  refine xo_iload_n (pc' := 5) dd_M_isBranch_4 rfl 1 rfl rfl ?_
  refine xo_iald (pc' := 6) dd_M_isBranch_5 rfl fun v2 => ?_
  refine xo_if_lt (pc' := 9) (tgt := 13) dd_M_isBranch_6 rfl rfl ?_ ?_
  · refine xo_iconst (pc' := 14) (v := (0 : Int32)) dd_M_isBranch_13 (by decide) rfl ?_
    exact xo_zret dd_M_isBranch_14 rfl
  · refine xo_iconst (pc' := 10) (v := (1 : Int32)) dd_M_isBranch_9 (by decide) rfl ?_
    refine xo_goto (pc' := 14) dd_M_isBranch_10 rfl ?_
    exact xo_zret dd_M_isBranch_14 rfl
set_option maxRecDepth 100000 in
set_option maxHeartbeats 4000000 in
theorem kc_M_isBranch (t : xo_N) (x1 : Int32) (H : xo_H) (r : Int32 × xo_H) (hk : fc_M_isBranch t x1 H = some r) : xo_M mt_M_isBranch [.inr (some t), .inl x1] H (xo_ji r) :=
  xo_entry hk (by decide +kernel) (Nat.le_of_ble_eq_true rfl) (kb_M_isBranch t x1 H r)
def fc_M_answer (t : xo_N) (x1 : Int32) (x2 : Int32) (x3 : Int32) (H : xo_H) : Option (xo_H) :=
  if 0 < x2 then (xo_cl 9 (some t) (fun n8 => fc_M_happen n8 (6 : Int32) x1 x2 x3 H) fun H7 =>
  some H7)
  else (if x2 = (-10 : Int32) then (xo_cl 9 (some t) (fun n6 => fc_M_job n6 (2 : Int32) x1 x3 H) fun H5 =>
  some H5)
  else (xo_gp 9 38 H (some t) fun o1 =>
  xo_al 0 H o1 ((-2 : Int32) - x2) fun v2 =>
  xo_cl 9 (some t) (fun n4 => fc_M_writeTo n4 v2 x3 H) fun r3 =>
  some r3.2))

set_option maxRecDepth 100000 in
set_option maxHeartbeats 4000000 in
theorem kb_M_answer (t : xo_N) (x1 : Int32) (x2 : Int32) (x3 : Int32) (H : xo_H) (r : xo_H) : xo_X mt_M_answer 0 0 xo_jv r 0 [(0, .inr (some t)), (1, .inl x1), (2, .inl x2), (3, .inl x3)] [] H (fc_M_answer t x1 x2 x3 H) := by
  unfold fc_M_answer
  refine xo_iload_n (pc' := 1) dd_M_answer_0 rfl 2 rfl rfl ?_
  refine xo_if_le (pc' := 4) (tgt := 16) dd_M_answer_1 rfl rfl ?_ ?_
  · refine xo_iload_n (pc' := 17) dd_M_answer_16 rfl 2 rfl rfl ?_
    refine xo_bipush (pc' := 19) (v := (-10 : Int32)) dd_M_answer_17 (by decide) rfl ?_
    refine xo_icmp_ne (pc' := 22) (tgt := 32) dd_M_answer_19 rfl rfl ?_ ?_
    · refine xo_aload_n (pc' := 33) dd_M_answer_32 rfl 0 rfl rfl ?_
      refine xo_aload_n (pc' := 34) dd_M_answer_33 rfl 0 rfl rfl ?_
      refine xo_getP (pc' := 37) dd_M_answer_34 ff_M_116 (by decide) rfl fun o1 => ?_
      refine xo_bipush (pc' := 39) (v := (-2 : Int32)) dd_M_answer_37 (by decide) rfl ?_
      refine xo_iload_n (pc' := 40) dd_M_answer_39 rfl 2 rfl rfl ?_
      refine xo_isub (pc' := 41) dd_M_answer_40 rfl ?_
      refine xo_iald (pc' := 42) dd_M_answer_41 rfl fun v2 => ?_
      refine xo_iload_n (pc' := 43) dd_M_answer_42 rfl 3 rfl rfl ?_
      refine xo_callVi (as := [.inl v2, .inl x3]) (o := (some t)) (st := []) (pc' := 46) dd_M_answer_43 cv_M_writeTo ml_M_182 rfl rfl ⟨by decide, by decide⟩ rfl rfl rfl (Nat.le_of_ble_eq_true rfl) rfl (fun n q h => kc_M_writeTo n v2 x3 H q h) fun r3 => ?_
      refine xo_istore (pc' := 48) dd_M_answer_46 (by decide) rfl rfl ?_
      exact xo_vret dd_M_answer_48 rfl
    · refine xo_aload_n (pc' := 23) dd_M_answer_22 rfl 0 rfl rfl ?_
      refine xo_iconst (pc' := 24) (v := (2 : Int32)) dd_M_answer_23 (by decide) rfl ?_
      refine xo_iload_n (pc' := 25) dd_M_answer_24 rfl 1 rfl rfl ?_
      refine xo_iload_n (pc' := 26) dd_M_answer_25 rfl 3 rfl rfl ?_
      refine xo_callVv (as := [.inl (2 : Int32), .inl x1, .inl x3]) (o := (some t)) (st := []) (pc' := 29) dd_M_answer_26 cv_M_job ml_M_178 rfl rfl ⟨by decide, by decide⟩ rfl rfl rfl (Nat.le_of_ble_eq_true rfl) rfl (fun n q h => kc_M_job n (2 : Int32) x1 x3 H q h) fun H5 => ?_
      refine xo_goto (pc' := 48) dd_M_answer_29 rfl ?_
      exact xo_vret dd_M_answer_48 rfl
  · refine xo_aload_n (pc' := 5) dd_M_answer_4 rfl 0 rfl rfl ?_
    refine xo_bipush (pc' := 7) (v := (6 : Int32)) dd_M_answer_5 (by decide) rfl ?_
    refine xo_iload_n (pc' := 8) dd_M_answer_7 rfl 1 rfl rfl ?_
    refine xo_iload_n (pc' := 9) dd_M_answer_8 rfl 2 rfl rfl ?_
    refine xo_iload_n (pc' := 10) dd_M_answer_9 rfl 3 rfl rfl ?_
    refine xo_callVv (as := [.inl (6 : Int32), .inl x1, .inl x2, .inl x3]) (o := (some t)) (st := []) (pc' := 13) dd_M_answer_10 cv_M_happen ml_M_160 rfl rfl ⟨by decide, by decide⟩ rfl rfl rfl (Nat.le_of_ble_eq_true rfl) rfl (fun n q h => kc_M_happen n (6 : Int32) x1 x2 x3 H q h) fun H7 => ?_
    refine xo_goto (pc' := 48) dd_M_answer_13 rfl ?_
    exact xo_vret dd_M_answer_48 rfl
set_option maxRecDepth 100000 in
set_option maxHeartbeats 4000000 in
theorem kc_M_answer (t : xo_N) (x1 : Int32) (x2 : Int32) (x3 : Int32) (H : xo_H) (r : xo_H) (hk : fc_M_answer t x1 x2 x3 H = some r) : xo_M mt_M_answer [.inr (some t), .inl x1, .inl x2, .inl x3] H (xo_jv r) :=
  xo_entry hk (by decide +kernel) (Nat.le_of_ble_eq_true rfl) (kb_M_answer t x1 x2 x3 H r)
def fb_M_takeRequest_25 : Nat → xo_N → Int32 → Int32 → Int32 → xo_H → Option (Int32 × xo_H)
  | 0, _, _, _, _, _ => none
  | fu + 1, t, x1, x2, x3, H =>
  xo_gp 9 12 H (some t) fun o1 =>
  xo_al 0 H o1 x1 fun v2 =>
  if x3 < (((8 : Int32) * x1) + v2) then (xo_gp 9 11 H (some t) fun o3 =>
  xo_gp 9 11 H (some t) fun o4 =>
  xo_al 0 H o4 (x3 + (1 : Int32)) fun v5 =>
  xo_as H o3 x3 v5 fun H6 =>
  fb_M_takeRequest_25 fu t x1 x2 (x3 + (1 : Int32)) H6)
  else (some (x2, H))

def fc_M_takeRequest (t : xo_N) (x1 : Int32) (H : xo_H) : Option (Int32 × xo_H) :=
  xo_gp 9 11 H (some t) fun o1 =>
  xo_al 0 H o1 ((8 : Int32) * x1) fun v2 =>
  xo_gp 9 12 H (some t) fun o3 =>
  xo_al 0 H o3 x1 fun v4 =>
  xo_as H o3 x1 (v4 - (1 : Int32)) fun H5 =>
  fb_M_takeRequest_25 1000 t x1 v2 ((8 : Int32) * x1) H5

set_option maxRecDepth 100000 in
set_option maxHeartbeats 4000000 in
theorem kb_M_takeRequest_25 : ∀ (fu : Nat) (t : xo_N) (x1 : Int32) (x2 : Int32) (x3 : Int32) (H : xo_H) (r : Int32 × xo_H), xo_X mt_M_takeRequest 0 0 xo_ji r 25 [(0, .inr (some t)), (1, .inl x1), (2, .inl x2), (3, .inl x3)] [] H (fb_M_takeRequest_25 fu t x1 x2 x3 H) := by
  intro fu
  induction fu with
  | zero => intros; exact xo_no
  | succ fu ih =>
    intro t x1 x2 x3 H r
    rw [fb_M_takeRequest_25]
    refine xo_iload_n (pc' := 26) dd_M_takeRequest_25 rfl 3 rfl rfl ?_
    refine xo_bipush (pc' := 28) (v := (8 : Int32)) dd_M_takeRequest_26 (by decide) rfl ?_
    refine xo_iload_n (pc' := 29) dd_M_takeRequest_28 rfl 1 rfl rfl ?_
    refine xo_imul (pc' := 30) dd_M_takeRequest_29 rfl ?_
    refine xo_aload_n (pc' := 31) dd_M_takeRequest_30 rfl 0 rfl rfl ?_
    refine xo_getP (pc' := 34) dd_M_takeRequest_31 ff_M_44 (by decide) rfl fun o1 => ?_
    refine xo_iload_n (pc' := 35) dd_M_takeRequest_34 rfl 1 rfl rfl ?_
    refine xo_iald (pc' := 36) dd_M_takeRequest_35 rfl fun v2 => ?_
    refine xo_iadd (pc' := 37) dd_M_takeRequest_36 rfl ?_
    refine xo_icmp_ge (pc' := 40) (tgt := 60) dd_M_takeRequest_37 rfl rfl ?_ ?_
    · refine xo_iload_n (pc' := 61) dd_M_takeRequest_60 rfl 2 rfl rfl ?_
      exact xo_iret dd_M_takeRequest_61 rfl
    · refine xo_aload_n (pc' := 41) dd_M_takeRequest_40 rfl 0 rfl rfl ?_
      refine xo_getP (pc' := 44) dd_M_takeRequest_41 ff_M_41 (by decide) rfl fun o3 => ?_
      refine xo_iload_n (pc' := 45) dd_M_takeRequest_44 rfl 3 rfl rfl ?_
      refine xo_aload_n (pc' := 46) dd_M_takeRequest_45 rfl 0 rfl rfl ?_
      refine xo_getP (pc' := 49) dd_M_takeRequest_46 ff_M_41 (by decide) rfl fun o4 => ?_
      refine xo_iload_n (pc' := 50) dd_M_takeRequest_49 rfl 3 rfl rfl ?_
      refine xo_iconst (pc' := 51) (v := (1 : Int32)) dd_M_takeRequest_50 (by decide) rfl ?_
      refine xo_iadd (pc' := 52) dd_M_takeRequest_51 rfl ?_
      refine xo_iald (pc' := 53) dd_M_takeRequest_52 rfl fun v5 => ?_
      refine xo_iast (pc' := 54) dd_M_takeRequest_53 rfl fun H6 => ?_
      refine xo_iinc (pc' := 57) dd_M_takeRequest_54 3 rfl (xo_ii (m := (1 : Int32)) (by decide)) (by decide) rfl rfl ?_
      refine xo_goto (pc' := 25) dd_M_takeRequest_57 rfl ?_
      refine xo_sub [1, 2, 3, 0] rfl ?_
      exact ih t x1 x2 (x3 + (1 : Int32)) H6 r
set_option maxRecDepth 100000 in
set_option maxHeartbeats 4000000 in
theorem kb_M_takeRequest (t : xo_N) (x1 : Int32) (H : xo_H) (r : Int32 × xo_H) : xo_X mt_M_takeRequest 0 0 xo_ji r 0 [(0, .inr (some t)), (1, .inl x1)] [] H (fc_M_takeRequest t x1 H) := by
  unfold fc_M_takeRequest
  refine xo_aload_n (pc' := 1) dd_M_takeRequest_0 rfl 0 rfl rfl ?_
  refine xo_getP (pc' := 4) dd_M_takeRequest_1 ff_M_41 (by decide) rfl fun o1 => ?_
  refine xo_bipush (pc' := 6) (v := (8 : Int32)) dd_M_takeRequest_4 (by decide) rfl ?_
  refine xo_iload_n (pc' := 7) dd_M_takeRequest_6 rfl 1 rfl rfl ?_
  refine xo_imul (pc' := 8) dd_M_takeRequest_7 rfl ?_
  refine xo_iald (pc' := 9) dd_M_takeRequest_8 rfl fun v2 => ?_
  refine xo_istore_n (pc' := 10) dd_M_takeRequest_9 rfl (by decide) rfl rfl ?_
  refine xo_aload_n (pc' := 11) dd_M_takeRequest_10 rfl 1 rfl rfl ?_
  refine xo_getP (pc' := 14) dd_M_takeRequest_11 ff_M_44 (by decide) rfl fun o3 => ?_
  refine xo_iload_n (pc' := 15) dd_M_takeRequest_14 rfl 2 rfl rfl ?_
  refine xo_dup2 (pc' := 16) dd_M_takeRequest_15 rfl ?_
  refine xo_iald (pc' := 17) dd_M_takeRequest_16 rfl fun v4 => ?_
  refine xo_iconst (pc' := 18) (v := (1 : Int32)) dd_M_takeRequest_17 (by decide) rfl ?_
  refine xo_isub (pc' := 19) dd_M_takeRequest_18 rfl ?_
  refine xo_iast (pc' := 20) dd_M_takeRequest_19 rfl fun H5 => ?_
  refine xo_bipush (pc' := 22) (v := (8 : Int32)) dd_M_takeRequest_20 (by decide) rfl ?_
  refine xo_iload_n (pc' := 23) dd_M_takeRequest_22 rfl 2 rfl rfl ?_
  refine xo_imul (pc' := 24) dd_M_takeRequest_23 rfl ?_
  refine xo_istore_n (pc' := 25) dd_M_takeRequest_24 rfl (by decide) rfl rfl ?_
  refine xo_sub [2, 3, 1, 0] rfl ?_
  exact kb_M_takeRequest_25 1000 t x1 v2 ((8 : Int32) * x1) H5 r
set_option maxRecDepth 100000 in
set_option maxHeartbeats 4000000 in
theorem kc_M_takeRequest (t : xo_N) (x1 : Int32) (H : xo_H) (r : Int32 × xo_H) (hk : fc_M_takeRequest t x1 H = some r) : xo_M mt_M_takeRequest [.inr (some t), .inl x1] H (xo_ji r) :=
  xo_entry hk (by decide +kernel) (Nat.le_of_ble_eq_true rfl) (kb_M_takeRequest t x1 H r)
def fb_M_takeChunk_25 : Nat → xo_N → Int32 → Int32 → Int32 → xo_H → Option (Int32 × xo_H)
  | 0, _, _, _, _, _ => none
  | fu + 1, t, x1, x2, x3, H =>
  xo_gp 9 10 H (some t) fun o1 =>
  xo_al 0 H o1 x1 fun v2 =>
  if x3 < (((16 : Int32) * x1) + v2) then (xo_gp 9 9 H (some t) fun o3 =>
  xo_gp 9 9 H (some t) fun o4 =>
  xo_al 0 H o4 (x3 + (1 : Int32)) fun v5 =>
  xo_as H o3 x3 v5 fun H6 =>
  fb_M_takeChunk_25 fu t x1 x2 (x3 + (1 : Int32)) H6)
  else (some (x2, H))

def fc_M_takeChunk (t : xo_N) (x1 : Int32) (H : xo_H) : Option (Int32 × xo_H) :=
  xo_gp 9 9 H (some t) fun o1 =>
  xo_al 0 H o1 ((16 : Int32) * x1) fun v2 =>
  xo_gp 9 10 H (some t) fun o3 =>
  xo_al 0 H o3 x1 fun v4 =>
  xo_as H o3 x1 (v4 - (1 : Int32)) fun H5 =>
  fb_M_takeChunk_25 1000 t x1 v2 ((16 : Int32) * x1) H5

set_option maxRecDepth 100000 in
set_option maxHeartbeats 4000000 in
theorem kb_M_takeChunk_25 : ∀ (fu : Nat) (t : xo_N) (x1 : Int32) (x2 : Int32) (x3 : Int32) (H : xo_H) (r : Int32 × xo_H), xo_X mt_M_takeChunk 0 0 xo_ji r 25 [(0, .inr (some t)), (1, .inl x1), (2, .inl x2), (3, .inl x3)] [] H (fb_M_takeChunk_25 fu t x1 x2 x3 H) := by
  intro fu
  induction fu with
  | zero => intros; exact xo_no
  | succ fu ih =>
    intro t x1 x2 x3 H r
    rw [fb_M_takeChunk_25]
    refine xo_iload_n (pc' := 26) dd_M_takeChunk_25 rfl 3 rfl rfl ?_
    refine xo_bipush (pc' := 28) (v := (16 : Int32)) dd_M_takeChunk_26 (by decide) rfl ?_
    refine xo_iload_n (pc' := 29) dd_M_takeChunk_28 rfl 1 rfl rfl ?_
    refine xo_imul (pc' := 30) dd_M_takeChunk_29 rfl ?_
    refine xo_aload_n (pc' := 31) dd_M_takeChunk_30 rfl 0 rfl rfl ?_
    refine xo_getP (pc' := 34) dd_M_takeChunk_31 ff_M_38 (by decide) rfl fun o1 => ?_
    refine xo_iload_n (pc' := 35) dd_M_takeChunk_34 rfl 1 rfl rfl ?_
    refine xo_iald (pc' := 36) dd_M_takeChunk_35 rfl fun v2 => ?_
    refine xo_iadd (pc' := 37) dd_M_takeChunk_36 rfl ?_
    refine xo_icmp_ge (pc' := 40) (tgt := 60) dd_M_takeChunk_37 rfl rfl ?_ ?_
    · refine xo_iload_n (pc' := 61) dd_M_takeChunk_60 rfl 2 rfl rfl ?_
      exact xo_iret dd_M_takeChunk_61 rfl
    · refine xo_aload_n (pc' := 41) dd_M_takeChunk_40 rfl 0 rfl rfl ?_
      refine xo_getP (pc' := 44) dd_M_takeChunk_41 ff_M_35 (by decide) rfl fun o3 => ?_
      refine xo_iload_n (pc' := 45) dd_M_takeChunk_44 rfl 3 rfl rfl ?_
      refine xo_aload_n (pc' := 46) dd_M_takeChunk_45 rfl 0 rfl rfl ?_
      refine xo_getP (pc' := 49) dd_M_takeChunk_46 ff_M_35 (by decide) rfl fun o4 => ?_
      refine xo_iload_n (pc' := 50) dd_M_takeChunk_49 rfl 3 rfl rfl ?_
      refine xo_iconst (pc' := 51) (v := (1 : Int32)) dd_M_takeChunk_50 (by decide) rfl ?_
      refine xo_iadd (pc' := 52) dd_M_takeChunk_51 rfl ?_
      refine xo_iald (pc' := 53) dd_M_takeChunk_52 rfl fun v5 => ?_
      refine xo_iast (pc' := 54) dd_M_takeChunk_53 rfl fun H6 => ?_
      refine xo_iinc (pc' := 57) dd_M_takeChunk_54 3 rfl (xo_ii (m := (1 : Int32)) (by decide)) (by decide) rfl rfl ?_
      refine xo_goto (pc' := 25) dd_M_takeChunk_57 rfl ?_
      refine xo_sub [1, 2, 3, 0] rfl ?_
      exact ih t x1 x2 (x3 + (1 : Int32)) H6 r
set_option maxRecDepth 100000 in
set_option maxHeartbeats 4000000 in
theorem kb_M_takeChunk (t : xo_N) (x1 : Int32) (H : xo_H) (r : Int32 × xo_H) : xo_X mt_M_takeChunk 0 0 xo_ji r 0 [(0, .inr (some t)), (1, .inl x1)] [] H (fc_M_takeChunk t x1 H) := by
  unfold fc_M_takeChunk
  refine xo_aload_n (pc' := 1) dd_M_takeChunk_0 rfl 0 rfl rfl ?_
  refine xo_getP (pc' := 4) dd_M_takeChunk_1 ff_M_35 (by decide) rfl fun o1 => ?_
  refine xo_bipush (pc' := 6) (v := (16 : Int32)) dd_M_takeChunk_4 (by decide) rfl ?_
  refine xo_iload_n (pc' := 7) dd_M_takeChunk_6 rfl 1 rfl rfl ?_
  refine xo_imul (pc' := 8) dd_M_takeChunk_7 rfl ?_
  refine xo_iald (pc' := 9) dd_M_takeChunk_8 rfl fun v2 => ?_
  refine xo_istore_n (pc' := 10) dd_M_takeChunk_9 rfl (by decide) rfl rfl ?_
  refine xo_aload_n (pc' := 11) dd_M_takeChunk_10 rfl 1 rfl rfl ?_
  refine xo_getP (pc' := 14) dd_M_takeChunk_11 ff_M_38 (by decide) rfl fun o3 => ?_
  refine xo_iload_n (pc' := 15) dd_M_takeChunk_14 rfl 2 rfl rfl ?_
  refine xo_dup2 (pc' := 16) dd_M_takeChunk_15 rfl ?_
  refine xo_iald (pc' := 17) dd_M_takeChunk_16 rfl fun v4 => ?_
  refine xo_iconst (pc' := 18) (v := (1 : Int32)) dd_M_takeChunk_17 (by decide) rfl ?_
  refine xo_isub (pc' := 19) dd_M_takeChunk_18 rfl ?_
  refine xo_iast (pc' := 20) dd_M_takeChunk_19 rfl fun H5 => ?_
  refine xo_bipush (pc' := 22) (v := (16 : Int32)) dd_M_takeChunk_20 (by decide) rfl ?_
  refine xo_iload_n (pc' := 23) dd_M_takeChunk_22 rfl 2 rfl rfl ?_
  refine xo_imul (pc' := 24) dd_M_takeChunk_23 rfl ?_
  refine xo_istore_n (pc' := 25) dd_M_takeChunk_24 rfl (by decide) rfl rfl ?_
  refine xo_sub [2, 3, 1, 0] rfl ?_
  exact kb_M_takeChunk_25 1000 t x1 v2 ((16 : Int32) * x1) H5 r
set_option maxRecDepth 100000 in
set_option maxHeartbeats 4000000 in
theorem kc_M_takeChunk (t : xo_N) (x1 : Int32) (H : xo_H) (r : Int32 × xo_H) (hk : fc_M_takeChunk t x1 H = some r) : xo_M mt_M_takeChunk [.inr (some t), .inl x1] H (xo_ji r) :=
  xo_entry hk (by decide +kernel) (Nat.le_of_ble_eq_true rfl) (kb_M_takeChunk t x1 H r)
def fb_M_closePlain_9 : Nat → xo_N → Int32 → Int32 → xo_H → Option (xo_H)
  | 0, _, _, _, _ => none
  | fu + 1, t, x1, x2, H =>
  xo_gp 9 12 H (some t) fun o1 =>
  xo_al 0 H o1 x1 fun v2 =>
  if x2 < v2 then (xo_gp 9 11 H (some t) fun o5 =>
  xo_al 0 H o5 (((8 : Int32) * x1) + x2) fun v6 =>
  if 0 < v6 then (xo_cl 9 (some t) (fun n8 => fc_M_happen n8 (7 : Int32) x1 v6 (0 : Int32) H) fun H7 =>
  fb_M_closePlain_9 fu t x1 (x2 + (1 : Int32)) H7)
  else (fb_M_closePlain_9 fu t x1 (x2 + (1 : Int32)) H))
  else (xo_gp 9 12 H (some t) fun o3 =>
  xo_as H o3 x1 (0 : Int32) fun H4 =>
  some H4)

def fc_M_closePlain (t : xo_N) (x1 : Int32) (H : xo_H) : Option (xo_H) :=
  xo_gp 9 1 H (some t) fun o1 =>
  xo_as H o1 x1 (1 : Int32) fun H2 =>
  fb_M_closePlain_9 1000 t x1 (0 : Int32) H2

set_option maxRecDepth 100000 in
set_option maxHeartbeats 4000000 in
theorem kb_M_closePlain_9 : ∀ (fu : Nat) (t : xo_N) (x1 : Int32) (x2 : Int32) (H : xo_H) (r : xo_H), xo_X mt_M_closePlain 0 0 xo_jv r 9 [(0, .inr (some t)), (1, .inl x1), (2, .inl x2)] [] H (fb_M_closePlain_9 fu t x1 x2 H) := by
  intro fu
  induction fu with
  | zero => intros; exact xo_no
  | succ fu ih =>
    intro t x1 x2 H r
    rw [fb_M_closePlain_9]
    refine xo_iload_n (pc' := 10) dd_M_closePlain_9 rfl 2 rfl rfl ?_
    refine xo_aload_n (pc' := 11) dd_M_closePlain_10 rfl 0 rfl rfl ?_
    refine xo_getP (pc' := 14) dd_M_closePlain_11 ff_M_44 (by decide) rfl fun o1 => ?_
    refine xo_iload_n (pc' := 15) dd_M_closePlain_14 rfl 1 rfl rfl ?_
    refine xo_iald (pc' := 16) dd_M_closePlain_15 rfl fun v2 => ?_
    refine xo_icmp_ge (pc' := 19) (tgt := 50) dd_M_closePlain_16 rfl rfl ?_ ?_
    · refine xo_aload_n (pc' := 51) dd_M_closePlain_50 rfl 0 rfl rfl ?_
      refine xo_getP (pc' := 54) dd_M_closePlain_51 ff_M_44 (by decide) rfl fun o3 => ?_
      refine xo_iload_n (pc' := 55) dd_M_closePlain_54 rfl 1 rfl rfl ?_
      refine xo_iconst (pc' := 56) (v := (0 : Int32)) dd_M_closePlain_55 (by decide) rfl ?_
      refine xo_iast (pc' := 57) dd_M_closePlain_56 rfl fun H4 => ?_
      exact xo_vret dd_M_closePlain_57 rfl
    · refine xo_aload_n (pc' := 20) dd_M_closePlain_19 rfl 0 rfl rfl ?_
      refine xo_getP (pc' := 23) dd_M_closePlain_20 ff_M_41 (by decide) rfl fun o5 => ?_
      refine xo_bipush (pc' := 25) (v := (8 : Int32)) dd_M_closePlain_23 (by decide) rfl ?_
      refine xo_iload_n (pc' := 26) dd_M_closePlain_25 rfl 1 rfl rfl ?_
      refine xo_imul (pc' := 27) dd_M_closePlain_26 rfl ?_
      refine xo_iload_n (pc' := 28) dd_M_closePlain_27 rfl 2 rfl rfl ?_
      refine xo_iadd (pc' := 29) dd_M_closePlain_28 rfl ?_
      refine xo_iald (pc' := 30) dd_M_closePlain_29 rfl fun v6 => ?_
      refine xo_istore_n (pc' := 31) dd_M_closePlain_30 rfl (by decide) rfl rfl ?_
      refine xo_iload_n (pc' := 32) dd_M_closePlain_31 rfl 0 rfl rfl ?_
      refine xo_if_le (pc' := 35) (tgt := 44) dd_M_closePlain_32 rfl rfl ?_ ?_
      · refine xo_iinc (pc' := 47) dd_M_closePlain_44 3 rfl (xo_ii (m := (1 : Int32)) (by decide)) (by decide) rfl rfl ?_
        refine xo_goto (pc' := 9) dd_M_closePlain_47 rfl ?_
        refine xo_sub [2, 3, 0] rfl ?_
        exact ih t x1 (x2 + (1 : Int32)) H r
      · refine xo_aload_n (pc' := 36) dd_M_closePlain_35 rfl 1 rfl rfl ?_
        refine xo_bipush (pc' := 38) (v := (7 : Int32)) dd_M_closePlain_36 (by decide) rfl ?_
        refine xo_iload_n (pc' := 39) dd_M_closePlain_38 rfl 2 rfl rfl ?_
        refine xo_iload_n (pc' := 40) dd_M_closePlain_39 rfl 0 rfl rfl ?_
        refine xo_iconst (pc' := 41) (v := (0 : Int32)) dd_M_closePlain_40 (by decide) rfl ?_
        refine xo_callVv (as := [.inl (7 : Int32), .inl x1, .inl v6, .inl (0 : Int32)]) (o := (some t)) (st := []) (pc' := 44) dd_M_closePlain_41 cv_M_happen ml_M_160 rfl rfl ⟨by decide, by decide⟩ rfl rfl rfl (Nat.le_of_ble_eq_true rfl) rfl (fun n q h => kc_M_happen n (7 : Int32) x1 v6 (0 : Int32) H q h) fun H7 => ?_
        refine xo_iinc (pc' := 47) dd_M_closePlain_44 3 rfl (xo_ii (m := (1 : Int32)) (by decide)) (by decide) rfl rfl ?_
        refine xo_goto (pc' := 9) dd_M_closePlain_47 rfl ?_
        refine xo_sub [2, 3, 0] rfl ?_
        exact ih t x1 (x2 + (1 : Int32)) H7 r
set_option maxRecDepth 100000 in
set_option maxHeartbeats 4000000 in
theorem kb_M_closePlain (t : xo_N) (x1 : Int32) (H : xo_H) (r : xo_H) : xo_X mt_M_closePlain 0 0 xo_jv r 0 [(0, .inr (some t)), (1, .inl x1)] [] H (fc_M_closePlain t x1 H) := by
  unfold fc_M_closePlain
  refine xo_aload_n (pc' := 1) dd_M_closePlain_0 rfl 0 rfl rfl ?_
  refine xo_getP (pc' := 4) dd_M_closePlain_1 ff_M_7 (by decide) rfl fun o1 => ?_
  refine xo_iload_n (pc' := 5) dd_M_closePlain_4 rfl 1 rfl rfl ?_
  refine xo_iconst (pc' := 6) (v := (1 : Int32)) dd_M_closePlain_5 (by decide) rfl ?_
  refine xo_iast (pc' := 7) dd_M_closePlain_6 rfl fun H2 => ?_
  refine xo_iconst (pc' := 8) (v := (0 : Int32)) dd_M_closePlain_7 (by decide) rfl ?_
  refine xo_istore_n (pc' := 9) dd_M_closePlain_8 rfl (by decide) rfl rfl ?_
  refine xo_sub [1, 2, 0] rfl ?_
  exact kb_M_closePlain_9 1000 t x1 (0 : Int32) H2 r
set_option maxRecDepth 100000 in
set_option maxHeartbeats 4000000 in
theorem kc_M_closePlain (t : xo_N) (x1 : Int32) (H : xo_H) (r : xo_H) (hk : fc_M_closePlain t x1 H = some r) : xo_M mt_M_closePlain [.inr (some t), .inl x1] H (xo_jv r) :=
  xo_entry hk (by decide +kernel) (Nat.le_of_ble_eq_true rfl) (kb_M_closePlain t x1 H r)
def fb_M_endBranches_7 : Nat → xo_N → Int32 → Int32 → xo_H → Option (xo_H)
  | 0, _, _, _, _ => none
  | fu + 1, t, x1, x2, H =>
  xo_gp 9 15 H (some t) fun o1 =>
  xo_al 0 H o1 x1 fun v2 =>
  if x2 < (v2 + (2 : Int32)) then (xo_gp 9 1 H (some t) fun o3 =>
  xo_al 0 H o3 x2 fun v4 =>
  if v4 = 0 then (xo_gp 9 5 H (some t) fun o5 =>
  xo_al 1 H o5 x2 fun v6 =>
  if v6 = 0 then (xo_gp 9 5 H (some t) fun o7 =>
  xo_az H o7 x2 (1 : Int32) fun H8 =>
  xo_gp 9 10 H8 (some t) fun o9 =>
  xo_al 0 H8 o9 x2 fun v10 =>
  if v10 = 0 then (xo_cl 9 (some t) (fun n12 => fc_M_closePlain n12 x2 H8) fun H11 =>
  fb_M_endBranches_7 fu t x1 (x2 + (1 : Int32)) H11)
  else (fb_M_endBranches_7 fu t x1 (x2 + (1 : Int32)) H8))
  else (fb_M_endBranches_7 fu t x1 (x2 + (1 : Int32)) H))
  else (fb_M_endBranches_7 fu t x1 (x2 + (1 : Int32)) H))
  else (some H)

def fc_M_endBranches (t : xo_N) (x1 : Int32) (H : xo_H) : Option (xo_H) :=
  xo_gp 9 15 H (some t) fun o1 =>
  xo_al 0 H o1 x1 fun v2 =>
  fb_M_endBranches_7 1000 t x1 v2 H

set_option maxRecDepth 100000 in
set_option maxHeartbeats 4000000 in
theorem kb_M_endBranches_7 : ∀ (fu : Nat) (t : xo_N) (x1 : Int32) (x2 : Int32) (H : xo_H) (r : xo_H), xo_X mt_M_endBranches 0 0 xo_jv r 7 [(0, .inr (some t)), (1, .inl x1), (2, .inl x2)] [] H (fb_M_endBranches_7 fu t x1 x2 H) := by
  intro fu
  induction fu with
  | zero => intros; exact xo_no
  | succ fu ih =>
    intro t x1 x2 H r
    rw [fb_M_endBranches_7]
    refine xo_iload_n (pc' := 8) dd_M_endBranches_7 rfl 2 rfl rfl ?_
    refine xo_aload_n (pc' := 9) dd_M_endBranches_8 rfl 0 rfl rfl ?_
    refine xo_getP (pc' := 12) dd_M_endBranches_9 ff_M_53 (by decide) rfl fun o1 => ?_
    refine xo_iload_n (pc' := 13) dd_M_endBranches_12 rfl 1 rfl rfl ?_
    refine xo_iald (pc' := 14) dd_M_endBranches_13 rfl fun v2 => ?_
    refine xo_iconst (pc' := 15) (v := (2 : Int32)) dd_M_endBranches_14 (by decide) rfl ?_
    refine xo_iadd (pc' := 16) dd_M_endBranches_15 rfl ?_
    refine xo_icmp_ge (pc' := 19) (tgt := 64) dd_M_endBranches_16 rfl rfl ?_ ?_
    · exact xo_vret dd_M_endBranches_64 rfl
    · refine xo_aload_n (pc' := 20) dd_M_endBranches_19 rfl 0 rfl rfl ?_
      refine xo_getP (pc' := 23) dd_M_endBranches_20 ff_M_7 (by decide) rfl fun o3 => ?_
      refine xo_iload_n (pc' := 24) dd_M_endBranches_23 rfl 2 rfl rfl ?_
      refine xo_iald (pc' := 25) dd_M_endBranches_24 rfl fun v4 => ?_
      refine xo_if_ne (pc' := 28) (tgt := 58) dd_M_endBranches_25 rfl rfl ?_ ?_
      · refine xo_iinc (pc' := 61) dd_M_endBranches_58 2 rfl (xo_ii (m := (1 : Int32)) (by decide)) (by decide) rfl rfl ?_
        refine xo_goto (pc' := 7) dd_M_endBranches_61 rfl ?_
        refine xo_sub [1, 2, 0] rfl ?_
        exact ih t x1 (x2 + (1 : Int32)) H r
      · refine xo_aload_n (pc' := 29) dd_M_endBranches_28 rfl 0 rfl rfl ?_
        refine xo_getP (pc' := 32) dd_M_endBranches_29 ff_M_23 (by decide) rfl fun o5 => ?_
        refine xo_iload_n (pc' := 33) dd_M_endBranches_32 rfl 2 rfl rfl ?_
        refine xo_zald (pc' := 34) dd_M_endBranches_33 rfl fun v6 => ?_
        refine xo_if_ne (pc' := 37) (tgt := 58) dd_M_endBranches_34 rfl rfl ?_ ?_
        · refine xo_iinc (pc' := 61) dd_M_endBranches_58 2 rfl (xo_ii (m := (1 : Int32)) (by decide)) (by decide) rfl rfl ?_
          refine xo_goto (pc' := 7) dd_M_endBranches_61 rfl ?_
          refine xo_sub [1, 2, 0] rfl ?_
          exact ih t x1 (x2 + (1 : Int32)) H r
        · refine xo_aload_n (pc' := 38) dd_M_endBranches_37 rfl 0 rfl rfl ?_
          refine xo_getP (pc' := 41) dd_M_endBranches_38 ff_M_23 (by decide) rfl fun o7 => ?_
          refine xo_iload_n (pc' := 42) dd_M_endBranches_41 rfl 2 rfl rfl ?_
          refine xo_iconst (pc' := 43) (v := (1 : Int32)) dd_M_endBranches_42 (by decide) rfl ?_
          refine xo_zast (pc' := 44) dd_M_endBranches_43 rfl fun H8 => ?_
          refine xo_aload_n (pc' := 45) dd_M_endBranches_44 rfl 0 rfl rfl ?_
          refine xo_getP (pc' := 48) dd_M_endBranches_45 ff_M_38 (by decide) rfl fun o9 => ?_
          refine xo_iload_n (pc' := 49) dd_M_endBranches_48 rfl 2 rfl rfl ?_
          refine xo_iald (pc' := 50) dd_M_endBranches_49 rfl fun v10 => ?_
          refine xo_if_ne (pc' := 53) (tgt := 58) dd_M_endBranches_50 rfl rfl ?_ ?_
          · refine xo_iinc (pc' := 61) dd_M_endBranches_58 2 rfl (xo_ii (m := (1 : Int32)) (by decide)) (by decide) rfl rfl ?_
            refine xo_goto (pc' := 7) dd_M_endBranches_61 rfl ?_
            refine xo_sub [1, 2, 0] rfl ?_
            exact ih t x1 (x2 + (1 : Int32)) H8 r
          · refine xo_aload_n (pc' := 54) dd_M_endBranches_53 rfl 0 rfl rfl ?_
            refine xo_iload_n (pc' := 55) dd_M_endBranches_54 rfl 2 rfl rfl ?_
            refine xo_callVv (as := [.inl x2]) (o := (some t)) (st := []) (pc' := 58) dd_M_endBranches_55 cv_M_closePlain ml_M_186 rfl rfl ⟨by decide, by decide⟩ rfl rfl rfl (Nat.le_of_ble_eq_true rfl) rfl (fun n q h => kc_M_closePlain n x2 H8 q h) fun H11 => ?_
            refine xo_iinc (pc' := 61) dd_M_endBranches_58 2 rfl (xo_ii (m := (1 : Int32)) (by decide)) (by decide) rfl rfl ?_
            refine xo_goto (pc' := 7) dd_M_endBranches_61 rfl ?_
            refine xo_sub [1, 2, 0] rfl ?_
            exact ih t x1 (x2 + (1 : Int32)) H11 r
set_option maxRecDepth 100000 in
set_option maxHeartbeats 4000000 in
theorem kb_M_endBranches (t : xo_N) (x1 : Int32) (H : xo_H) (r : xo_H) : xo_X mt_M_endBranches 0 0 xo_jv r 0 [(0, .inr (some t)), (1, .inl x1)] [] H (fc_M_endBranches t x1 H) := by
  unfold fc_M_endBranches
  refine xo_aload_n (pc' := 1) dd_M_endBranches_0 rfl 0 rfl rfl ?_
  refine xo_getP (pc' := 4) dd_M_endBranches_1 ff_M_53 (by decide) rfl fun o1 => ?_
  refine xo_iload_n (pc' := 5) dd_M_endBranches_4 rfl 1 rfl rfl ?_
  refine xo_iald (pc' := 6) dd_M_endBranches_5 rfl fun v2 => ?_
  refine xo_istore_n (pc' := 7) dd_M_endBranches_6 rfl (by decide) rfl rfl ?_
  refine xo_sub [1, 2, 0] rfl ?_
  exact kb_M_endBranches_7 1000 t x1 v2 H r
set_option maxRecDepth 100000 in
set_option maxHeartbeats 4000000 in
theorem kc_M_endBranches (t : xo_N) (x1 : Int32) (H : xo_H) (r : xo_H) (hk : fc_M_endBranches t x1 H = some r) : xo_M mt_M_endBranches [.inr (some t), .inl x1] H (xo_jv r) :=
  xo_entry hk (by decide +kernel) (Nat.le_of_ble_eq_true rfl) (kb_M_endBranches t x1 H r)
def fb_M_close_48 (t : xo_N) (x1 : Int32) (x2 : Int32) (s0 : Option xo_N) (s1 : Int32) (s2 : Int32) (H : xo_H) : Option (xo_H) :=
  xo_as H s0 s1 s2 fun H1 =>
  xo_cl 9 (some t) (fun n7 => fc_M_closePlain n7 x1 H1) fun H2 =>
  if x2 = 0 then (some H2)
  else (xo_gp 9 17 H2 (some t) fun o3 =>
  xo_az H2 o3 x1 (0 : Int32) fun H4 =>
  xo_cl 9 (some t) (fun n6 => fc_M_endBranches n6 x1 H4) fun H5 =>
  some H5)

def fb_M_close_28 (t : xo_N) (x1 : Int32) (s0 : Int32) (H : xo_H) : Option (xo_H) :=
  xo_gp 9 12 H (some t) fun o1 =>
  if s0 = 0 then (xo_gp 9 12 H (some t) fun o2 =>
  xo_al 0 H o2 x1 fun v3 =>
  fb_M_close_48 t x1 s0 o1 x1 v3 H)
  else (fb_M_close_48 t x1 s0 o1 x1 (0 : Int32) H)

def fc_M_close (t : xo_N) (x1 : Int32) (H : xo_H) : Option (xo_H) :=
  xo_gp 9 12 H (some t) fun o1 =>
  xo_al 0 H o1 x1 fun v2 =>
  if 0 < v2 then (xo_gp 9 11 H (some t) fun o3 =>
  xo_al 0 H o3 ((8 : Int32) * x1) fun v4 =>
  if v4 = (-10 : Int32) then (fb_M_close_28 t x1 (1 : Int32) H)
  else (fb_M_close_28 t x1 (0 : Int32) H))
  else (fb_M_close_28 t x1 (0 : Int32) H)

set_option maxRecDepth 100000 in
set_option maxHeartbeats 4000000 in
theorem kb_M_close_48 (t : xo_N) (x1 : Int32) (x2 : Int32) (s0 : Option xo_N) (s1 : Int32) (s2 : Int32) (H : xo_H) (r : xo_H) : xo_X mt_M_close 0 0 xo_jv r 48 [(0, .inr (some t)), (1, .inl x1), (2, .inl x2)] [.inl s2, .inl s1, .inr s0] H (fb_M_close_48 t x1 x2 s0 s1 s2 H) := by
  unfold fb_M_close_48
  refine xo_iast (pc' := 49) dd_M_close_48 rfl fun H1 => ?_
  refine xo_aload_n (pc' := 50) dd_M_close_49 rfl 0 rfl rfl ?_
  refine xo_iload_n (pc' := 51) dd_M_close_50 rfl 1 rfl rfl ?_
  refine xo_callVv (as := [.inl x1]) (o := (some t)) (st := []) (pc' := 54) dd_M_close_51 cv_M_closePlain ml_M_186 rfl rfl ⟨by decide, by decide⟩ rfl rfl rfl (Nat.le_of_ble_eq_true rfl) rfl (fun n q h => kc_M_closePlain n x1 H1 q h) fun H2 => ?_
  refine xo_iload_n (pc' := 55) dd_M_close_54 rfl 2 rfl rfl ?_
  refine xo_if_eq (pc' := 58) (tgt := 70) dd_M_close_55 rfl rfl ?_ ?_
  · exact xo_vret dd_M_close_70 rfl
  · refine xo_aload_n (pc' := 59) dd_M_close_58 rfl 0 rfl rfl ?_
    refine xo_getP (pc' := 62) dd_M_close_59 ff_M_59 (by decide) rfl fun o3 => ?_
    refine xo_iload_n (pc' := 63) dd_M_close_62 rfl 1 rfl rfl ?_
    refine xo_iconst (pc' := 64) (v := (0 : Int32)) dd_M_close_63 (by decide) rfl ?_
    refine xo_zast (pc' := 65) dd_M_close_64 rfl fun H4 => ?_
    refine xo_aload_n (pc' := 66) dd_M_close_65 rfl 0 rfl rfl ?_
    refine xo_iload_n (pc' := 67) dd_M_close_66 rfl 1 rfl rfl ?_
    refine xo_callVv (as := [.inl x1]) (o := (some t)) (st := []) (pc' := 70) dd_M_close_67 cv_M_endBranches ml_M_189 rfl rfl ⟨by decide, by decide⟩ rfl rfl rfl (Nat.le_of_ble_eq_true rfl) rfl (fun n q h => kc_M_endBranches n x1 H4 q h) fun H5 => ?_
    exact xo_vret dd_M_close_70 rfl
set_option maxRecDepth 100000 in
set_option maxHeartbeats 4000000 in
theorem kb_M_close_28 (t : xo_N) (x1 : Int32) (s0 : Int32) (H : xo_H) (r : xo_H) : xo_X mt_M_close 0 0 xo_jv r 28 [(0, .inr (some t)), (1, .inl x1)] [.inl s0] H (fb_M_close_28 t x1 s0 H) := by
  unfold fb_M_close_28
  refine xo_istore_n (pc' := 29) dd_M_close_28 rfl (by decide) rfl rfl ?_
  refine xo_aload_n (pc' := 30) dd_M_close_29 rfl 1 rfl rfl ?_
  refine xo_getP (pc' := 33) dd_M_close_30 ff_M_44 (by decide) rfl fun o1 => ?_
  refine xo_iload_n (pc' := 34) dd_M_close_33 rfl 2 rfl rfl ?_
  refine xo_iload_n (pc' := 35) dd_M_close_34 rfl 0 rfl rfl ?_
  refine xo_if_eq (pc' := 38) (tgt := 42) dd_M_close_35 rfl rfl ?_ ?_
  · refine xo_aload_n (pc' := 43) dd_M_close_42 rfl 1 rfl rfl ?_
    refine xo_getP (pc' := 46) dd_M_close_43 ff_M_44 (by decide) rfl fun o2 => ?_
    refine xo_iload_n (pc' := 47) dd_M_close_46 rfl 2 rfl rfl ?_
    refine xo_iald (pc' := 48) dd_M_close_47 rfl fun v3 => ?_
    refine xo_sub [1, 2, 0] rfl ?_
    exact kb_M_close_48 t x1 s0 o1 x1 v3 H r
  · refine xo_iconst (pc' := 39) (v := (0 : Int32)) dd_M_close_38 (by decide) rfl ?_
    refine xo_goto (pc' := 48) dd_M_close_39 rfl ?_
    refine xo_sub [1, 2, 0] rfl ?_
    exact kb_M_close_48 t x1 s0 o1 x1 (0 : Int32) H r
set_option maxRecDepth 100000 in
set_option maxHeartbeats 4000000 in
theorem kb_M_close (t : xo_N) (x1 : Int32) (H : xo_H) (r : xo_H) : xo_X mt_M_close 0 0 xo_jv r 0 [(0, .inr (some t)), (1, .inl x1)] [] H (fc_M_close t x1 H) := by
  unfold fc_M_close
  refine xo_aload_n (pc' := 1) dd_M_close_0 rfl 0 rfl rfl ?_
  refine xo_getP (pc' := 4) dd_M_close_1 ff_M_44 (by decide) rfl fun o1 => ?_
  refine xo_iload_n (pc' := 5) dd_M_close_4 rfl 1 rfl rfl ?_
  refine xo_iald (pc' := 6) dd_M_close_5 rfl fun v2 => ?_
  refine xo_if_le (pc' := 9) (tgt := 27) dd_M_close_6 rfl rfl ?_ ?_
  · refine xo_iconst (pc' := 28) (v := (0 : Int32)) dd_M_close_27 (by decide) rfl ?_
    exact kb_M_close_28 t x1 (0 : Int32) H r
  · refine xo_aload_n (pc' := 10) dd_M_close_9 rfl 0 rfl rfl ?_
    refine xo_getP (pc' := 13) dd_M_close_10 ff_M_41 (by decide) rfl fun o3 => ?_
    refine xo_bipush (pc' := 15) (v := (8 : Int32)) dd_M_close_13 (by decide) rfl ?_
    refine xo_iload_n (pc' := 16) dd_M_close_15 rfl 1 rfl rfl ?_
    refine xo_imul (pc' := 17) dd_M_close_16 rfl ?_
    refine xo_iald (pc' := 18) dd_M_close_17 rfl fun v4 => ?_
    refine xo_bipush (pc' := 20) (v := (-10 : Int32)) dd_M_close_18 (by decide) rfl ?_
    refine xo_icmp_ne (pc' := 23) (tgt := 27) dd_M_close_20 rfl rfl ?_ ?_
    · refine xo_iconst (pc' := 28) (v := (0 : Int32)) dd_M_close_27 (by decide) rfl ?_
      exact kb_M_close_28 t x1 (0 : Int32) H r
    · refine xo_iconst (pc' := 24) (v := (1 : Int32)) dd_M_close_23 (by decide) rfl ?_
      refine xo_goto (pc' := 28) dd_M_close_24 rfl ?_
      exact kb_M_close_28 t x1 (1 : Int32) H r
set_option maxRecDepth 100000 in
set_option maxHeartbeats 4000000 in
theorem kc_M_close (t : xo_N) (x1 : Int32) (H : xo_H) (r : xo_H) (hk : fc_M_close t x1 H = some r) : xo_M mt_M_close [.inr (some t), .inl x1] H (xo_jv r) :=
  xo_entry hk (by decide +kernel) (Nat.le_of_ble_eq_true rfl) (kb_M_close t x1 H r)
def fb_M_failPlain_33 : Nat → xo_N → Int32 → Int32 → Int32 → xo_H → Option (xo_H)
  | 0, _, _, _, _, _ => none
  | fu + 1, t, x1, x2, x3, H =>
  xo_gp 9 12 H (some t) fun o1 =>
  xo_al 0 H o1 x1 fun v2 =>
  if x3 < v2 then (xo_gp 9 11 H (some t) fun o5 =>
  xo_al 0 H o5 (((8 : Int32) * x1) + x3) fun v6 =>
  if 0 < v6 then (xo_cl 9 (some t) (fun n10 => fc_M_happen n10 (8 : Int32) x1 v6 x2 H) fun H9 =>
  fb_M_failPlain_33 fu t x1 x2 (x3 + (1 : Int32)) H9)
  else (if v6 = (-10 : Int32) then (xo_gp 9 17 H (some t) fun o7 =>
  xo_az H o7 x1 (0 : Int32) fun H8 =>
  fb_M_failPlain_33 fu t x1 x2 (x3 + (1 : Int32)) H8)
  else (fb_M_failPlain_33 fu t x1 x2 (x3 + (1 : Int32)) H)))
  else (xo_gp 9 12 H (some t) fun o3 =>
  xo_as H o3 x1 (0 : Int32) fun H4 =>
  some H4)

def fc_M_failPlain (t : xo_N) (x1 : Int32) (x2 : Int32) (H : xo_H) : Option (xo_H) :=
  xo_gp 9 1 H (some t) fun o1 =>
  xo_al 0 H o1 x1 fun v2 =>
  if v2 = 0 then (xo_gp 9 10 H (some t) fun o3 =>
  xo_as H o3 x1 (0 : Int32) fun H4 =>
  xo_gp 9 1 H4 (some t) fun o5 =>
  xo_as H4 o5 x1 (2 : Int32) fun H6 =>
  xo_gp 9 2 H6 (some t) fun o7 =>
  xo_as H6 o7 x1 x2 fun H8 =>
  fb_M_failPlain_33 1000 t x1 x2 (0 : Int32) H8)
  else (some H)

set_option maxRecDepth 100000 in
set_option maxHeartbeats 4000000 in
theorem kb_M_failPlain_33 : ∀ (fu : Nat) (t : xo_N) (x1 : Int32) (x2 : Int32) (x3 : Int32) (H : xo_H) (r : xo_H), xo_X mt_M_failPlain 0 0 xo_jv r 33 [(0, .inr (some t)), (1, .inl x1), (2, .inl x2), (3, .inl x3)] [] H (fb_M_failPlain_33 fu t x1 x2 x3 H) := by
  intro fu
  induction fu with
  | zero => intros; exact xo_no
  | succ fu ih =>
    intro t x1 x2 x3 H r
    rw [fb_M_failPlain_33]
    refine xo_iload_n (pc' := 34) dd_M_failPlain_33 rfl 3 rfl rfl ?_
    refine xo_aload_n (pc' := 35) dd_M_failPlain_34 rfl 0 rfl rfl ?_
    refine xo_getP (pc' := 38) dd_M_failPlain_35 ff_M_44 (by decide) rfl fun o1 => ?_
    refine xo_iload_n (pc' := 39) dd_M_failPlain_38 rfl 1 rfl rfl ?_
    refine xo_iald (pc' := 40) dd_M_failPlain_39 rfl fun v2 => ?_
    refine xo_icmp_ge (pc' := 43) (tgt := 94) dd_M_failPlain_40 rfl rfl ?_ ?_
    · refine xo_aload_n (pc' := 95) dd_M_failPlain_94 rfl 0 rfl rfl ?_
      refine xo_getP (pc' := 98) dd_M_failPlain_95 ff_M_44 (by decide) rfl fun o3 => ?_
      refine xo_iload_n (pc' := 99) dd_M_failPlain_98 rfl 1 rfl rfl ?_
      refine xo_iconst (pc' := 100) (v := (0 : Int32)) dd_M_failPlain_99 (by decide) rfl ?_
      refine xo_iast (pc' := 101) dd_M_failPlain_100 rfl fun H4 => ?_
      exact xo_vret dd_M_failPlain_101 rfl
    · refine xo_aload_n (pc' := 44) dd_M_failPlain_43 rfl 0 rfl rfl ?_
      refine xo_getP (pc' := 47) dd_M_failPlain_44 ff_M_41 (by decide) rfl fun o5 => ?_
      refine xo_bipush (pc' := 49) (v := (8 : Int32)) dd_M_failPlain_47 (by decide) rfl ?_
      refine xo_iload_n (pc' := 50) dd_M_failPlain_49 rfl 1 rfl rfl ?_
      refine xo_imul (pc' := 51) dd_M_failPlain_50 rfl ?_
      refine xo_iload_n (pc' := 52) dd_M_failPlain_51 rfl 3 rfl rfl ?_
      refine xo_iadd (pc' := 53) dd_M_failPlain_52 rfl ?_
      refine xo_iald (pc' := 54) dd_M_failPlain_53 rfl fun v6 => ?_
      refine xo_istore (pc' := 56) dd_M_failPlain_54 (by decide) rfl rfl ?_
      refine xo_iload (pc' := 58) dd_M_failPlain_56 0 rfl rfl ?_
      refine xo_if_le (pc' := 61) (tgt := 74) dd_M_failPlain_58 rfl rfl ?_ ?_
      · refine xo_iload (pc' := 76) dd_M_failPlain_74 0 rfl rfl ?_
        refine xo_bipush (pc' := 78) (v := (-10 : Int32)) dd_M_failPlain_76 (by decide) rfl ?_
        refine xo_icmp_ne (pc' := 81) (tgt := 88) dd_M_failPlain_78 rfl rfl ?_ ?_
        · refine xo_iinc (pc' := 91) dd_M_failPlain_88 4 rfl (xo_ii (m := (1 : Int32)) (by decide)) (by decide) rfl rfl ?_
          refine xo_goto (pc' := 33) dd_M_failPlain_91 rfl ?_
          refine xo_sub [2, 3, 4, 0] rfl ?_
          exact ih t x1 x2 (x3 + (1 : Int32)) H r
        · refine xo_aload_n (pc' := 82) dd_M_failPlain_81 rfl 1 rfl rfl ?_
          refine xo_getP (pc' := 85) dd_M_failPlain_82 ff_M_59 (by decide) rfl fun o7 => ?_
          refine xo_iload_n (pc' := 86) dd_M_failPlain_85 rfl 2 rfl rfl ?_
          refine xo_iconst (pc' := 87) (v := (0 : Int32)) dd_M_failPlain_86 (by decide) rfl ?_
          refine xo_zast (pc' := 88) dd_M_failPlain_87 rfl fun H8 => ?_
          refine xo_iinc (pc' := 91) dd_M_failPlain_88 4 rfl (xo_ii (m := (1 : Int32)) (by decide)) (by decide) rfl rfl ?_
          refine xo_goto (pc' := 33) dd_M_failPlain_91 rfl ?_
          refine xo_sub [2, 3, 4, 0] rfl ?_
          exact ih t x1 x2 (x3 + (1 : Int32)) H8 r
      · refine xo_aload_n (pc' := 62) dd_M_failPlain_61 rfl 1 rfl rfl ?_
        refine xo_bipush (pc' := 64) (v := (8 : Int32)) dd_M_failPlain_62 (by decide) rfl ?_
        refine xo_iload_n (pc' := 65) dd_M_failPlain_64 rfl 2 rfl rfl ?_
        refine xo_iload (pc' := 67) dd_M_failPlain_65 0 rfl rfl ?_
        refine xo_iload_n (pc' := 68) dd_M_failPlain_67 rfl 3 rfl rfl ?_
        refine xo_callVv (as := [.inl (8 : Int32), .inl x1, .inl v6, .inl x2]) (o := (some t)) (st := []) (pc' := 71) dd_M_failPlain_68 cv_M_happen ml_M_160 rfl rfl ⟨by decide, by decide⟩ rfl rfl rfl (Nat.le_of_ble_eq_true rfl) rfl (fun n q h => kc_M_happen n (8 : Int32) x1 v6 x2 H q h) fun H9 => ?_
        refine xo_goto (pc' := 88) dd_M_failPlain_71 rfl ?_
        refine xo_iinc (pc' := 91) dd_M_failPlain_88 4 rfl (xo_ii (m := (1 : Int32)) (by decide)) (by decide) rfl rfl ?_
        refine xo_goto (pc' := 33) dd_M_failPlain_91 rfl ?_
        refine xo_sub [2, 3, 4, 0] rfl ?_
        exact ih t x1 x2 (x3 + (1 : Int32)) H9 r
set_option maxRecDepth 100000 in
set_option maxHeartbeats 4000000 in
theorem kb_M_failPlain (t : xo_N) (x1 : Int32) (x2 : Int32) (H : xo_H) (r : xo_H) : xo_X mt_M_failPlain 0 0 xo_jv r 0 [(0, .inr (some t)), (1, .inl x1), (2, .inl x2)] [] H (fc_M_failPlain t x1 x2 H) := by
  unfold fc_M_failPlain
  refine xo_aload_n (pc' := 1) dd_M_failPlain_0 rfl 0 rfl rfl ?_
  refine xo_getP (pc' := 4) dd_M_failPlain_1 ff_M_7 (by decide) rfl fun o1 => ?_
  refine xo_iload_n (pc' := 5) dd_M_failPlain_4 rfl 1 rfl rfl ?_
  refine xo_iald (pc' := 6) dd_M_failPlain_5 rfl fun v2 => ?_
  refine xo_if_eq (pc' := 9) (tgt := 10) dd_M_failPlain_6 rfl rfl ?_ ?_
  · refine xo_aload_n (pc' := 11) dd_M_failPlain_10 rfl 0 rfl rfl ?_
    refine xo_getP (pc' := 14) dd_M_failPlain_11 ff_M_38 (by decide) rfl fun o3 => ?_
    refine xo_iload_n (pc' := 15) dd_M_failPlain_14 rfl 1 rfl rfl ?_
    refine xo_iconst (pc' := 16) (v := (0 : Int32)) dd_M_failPlain_15 (by decide) rfl ?_
    refine xo_iast (pc' := 17) dd_M_failPlain_16 rfl fun H4 => ?_
    refine xo_aload_n (pc' := 18) dd_M_failPlain_17 rfl 0 rfl rfl ?_
    refine xo_getP (pc' := 21) dd_M_failPlain_18 ff_M_7 (by decide) rfl fun o5 => ?_
    refine xo_iload_n (pc' := 22) dd_M_failPlain_21 rfl 1 rfl rfl ?_
    refine xo_iconst (pc' := 23) (v := (2 : Int32)) dd_M_failPlain_22 (by decide) rfl ?_
    refine xo_iast (pc' := 24) dd_M_failPlain_23 rfl fun H6 => ?_
    refine xo_aload_n (pc' := 25) dd_M_failPlain_24 rfl 0 rfl rfl ?_
    refine xo_getP (pc' := 28) dd_M_failPlain_25 ff_M_13 (by decide) rfl fun o7 => ?_
    refine xo_iload_n (pc' := 29) dd_M_failPlain_28 rfl 1 rfl rfl ?_
    refine xo_iload_n (pc' := 30) dd_M_failPlain_29 rfl 2 rfl rfl ?_
    refine xo_iast (pc' := 31) dd_M_failPlain_30 rfl fun H8 => ?_
    refine xo_iconst (pc' := 32) (v := (0 : Int32)) dd_M_failPlain_31 (by decide) rfl ?_
    refine xo_istore_n (pc' := 33) dd_M_failPlain_32 rfl (by decide) rfl rfl ?_
    refine xo_sub [1, 2, 3, 0] rfl ?_
    exact kb_M_failPlain_33 1000 t x1 x2 (0 : Int32) H8 r
  · exact xo_vret dd_M_failPlain_9 rfl
set_option maxRecDepth 100000 in
set_option maxHeartbeats 4000000 in
theorem kc_M_failPlain (t : xo_N) (x1 : Int32) (x2 : Int32) (H : xo_H) (r : xo_H) (hk : fc_M_failPlain t x1 x2 H = some r) : xo_M mt_M_failPlain [.inr (some t), .inl x1, .inl x2] H (xo_jv r) :=
  xo_entry hk (by decide +kernel) (Nat.le_of_ble_eq_true rfl) (kb_M_failPlain t x1 x2 H r)
def fb_M_failRoot_14 (t : xo_N) (x1 : Int32) (x2 : Int32) (s0 : Int32) (H : xo_H) : Option (xo_H) :=
  xo_cl 9 (some t) (fun n12 => fc_M_failPlain n12 x1 x2 H) fun H1 =>
  if s0 = 0 then (some H1)
  else (xo_gp 9 15 H1 (some t) fun o2 =>
  xo_al 0 H1 o2 x1 fun v3 =>
  if v3 < 0 then (some H1)
  else (xo_gp 9 15 H1 (some t) fun o4 =>
  xo_al 0 H1 o4 x1 fun v5 =>
  xo_cl 9 (some t) (fun n11 => fc_M_failPlain n11 v5 x2 H1) fun H6 =>
  xo_gp 9 15 H6 (some t) fun o7 =>
  xo_al 0 H6 o7 x1 fun v8 =>
  xo_cl 9 (some t) (fun n10 => fc_M_failPlain n10 (v8 + (1 : Int32)) x2 H6) fun H9 =>
  some H9))

def fc_M_failRoot (t : xo_N) (x1 : Int32) (x2 : Int32) (H : xo_H) : Option (xo_H) :=
  xo_gp 9 1 H (some t) fun o1 =>
  xo_al 0 H o1 x1 fun v2 =>
  if v2 = 0 then (fb_M_failRoot_14 t x1 x2 (1 : Int32) H)
  else (fb_M_failRoot_14 t x1 x2 (0 : Int32) H)

set_option maxRecDepth 100000 in
set_option maxHeartbeats 4000000 in
theorem kb_M_failRoot_14 (t : xo_N) (x1 : Int32) (x2 : Int32) (s0 : Int32) (H : xo_H) (r : xo_H) : xo_X mt_M_failRoot 0 0 xo_jv r 14 [(0, .inr (some t)), (1, .inl x1), (2, .inl x2)] [.inl s0] H (fb_M_failRoot_14 t x1 x2 s0 H) := by
  unfold fb_M_failRoot_14
  refine xo_istore_n (pc' := 15) dd_M_failRoot_14 rfl (by decide) rfl rfl ?_
  refine xo_aload_n (pc' := 16) dd_M_failRoot_15 rfl 1 rfl rfl ?_
  refine xo_iload_n (pc' := 17) dd_M_failRoot_16 rfl 2 rfl rfl ?_
  refine xo_iload_n (pc' := 18) dd_M_failRoot_17 rfl 3 rfl rfl ?_
  refine xo_callVv (as := [.inl x1, .inl x2]) (o := (some t)) (st := []) (pc' := 21) dd_M_failRoot_18 cv_M_failPlain ml_M_192 rfl rfl ⟨by decide, by decide⟩ rfl rfl rfl (Nat.le_of_ble_eq_true rfl) rfl (fun n q h => kc_M_failPlain n x1 x2 H q h) fun H1 => ?_
  refine xo_iload_n (pc' := 22) dd_M_failRoot_21 rfl 0 rfl rfl ?_
  refine xo_if_eq (pc' := 25) (tgt := 58) dd_M_failRoot_22 rfl rfl ?_ ?_
  · exact xo_vret dd_M_failRoot_58 rfl
  · refine xo_aload_n (pc' := 26) dd_M_failRoot_25 rfl 1 rfl rfl ?_
    refine xo_getP (pc' := 29) dd_M_failRoot_26 ff_M_53 (by decide) rfl fun o2 => ?_
    refine xo_iload_n (pc' := 30) dd_M_failRoot_29 rfl 2 rfl rfl ?_
    refine xo_iald (pc' := 31) dd_M_failRoot_30 rfl fun v3 => ?_
    refine xo_if_lt (pc' := 34) (tgt := 58) dd_M_failRoot_31 rfl rfl ?_ ?_
    · exact xo_vret dd_M_failRoot_58 rfl
    · refine xo_aload_n (pc' := 35) dd_M_failRoot_34 rfl 1 rfl rfl ?_
      refine xo_aload_n (pc' := 36) dd_M_failRoot_35 rfl 1 rfl rfl ?_
      refine xo_getP (pc' := 39) dd_M_failRoot_36 ff_M_53 (by decide) rfl fun o4 => ?_
      refine xo_iload_n (pc' := 40) dd_M_failRoot_39 rfl 2 rfl rfl ?_
      refine xo_iald (pc' := 41) dd_M_failRoot_40 rfl fun v5 => ?_
      refine xo_iload_n (pc' := 42) dd_M_failRoot_41 rfl 3 rfl rfl ?_
      refine xo_callVv (as := [.inl v5, .inl x2]) (o := (some t)) (st := []) (pc' := 45) dd_M_failRoot_42 cv_M_failPlain ml_M_192 rfl rfl ⟨by decide, by decide⟩ rfl rfl rfl (Nat.le_of_ble_eq_true rfl) rfl (fun n q h => kc_M_failPlain n v5 x2 H1 q h) fun H6 => ?_
      refine xo_aload_n (pc' := 46) dd_M_failRoot_45 rfl 1 rfl rfl ?_
      refine xo_aload_n (pc' := 47) dd_M_failRoot_46 rfl 1 rfl rfl ?_
      refine xo_getP (pc' := 50) dd_M_failRoot_47 ff_M_53 (by decide) rfl fun o7 => ?_
      refine xo_iload_n (pc' := 51) dd_M_failRoot_50 rfl 2 rfl rfl ?_
      refine xo_iald (pc' := 52) dd_M_failRoot_51 rfl fun v8 => ?_
      refine xo_iconst (pc' := 53) (v := (1 : Int32)) dd_M_failRoot_52 (by decide) rfl ?_
      refine xo_iadd (pc' := 54) dd_M_failRoot_53 rfl ?_
      refine xo_iload_n (pc' := 55) dd_M_failRoot_54 rfl 3 rfl rfl ?_
      refine xo_callVv (as := [.inl (v8 + (1 : Int32)), .inl x2]) (o := (some t)) (st := []) (pc' := 58) dd_M_failRoot_55 cv_M_failPlain ml_M_192 rfl rfl ⟨by decide, by decide⟩ rfl rfl rfl (Nat.le_of_ble_eq_true rfl) rfl (fun n q h => kc_M_failPlain n (v8 + (1 : Int32)) x2 H6 q h) fun H9 => ?_
      exact xo_vret dd_M_failRoot_58 rfl
set_option maxRecDepth 100000 in
set_option maxHeartbeats 4000000 in
theorem kb_M_failRoot (t : xo_N) (x1 : Int32) (x2 : Int32) (H : xo_H) (r : xo_H) : xo_X mt_M_failRoot 0 0 xo_jv r 0 [(0, .inr (some t)), (1, .inl x1), (2, .inl x2)] [] H (fc_M_failRoot t x1 x2 H) := by
  unfold fc_M_failRoot
  refine xo_aload_n (pc' := 1) dd_M_failRoot_0 rfl 0 rfl rfl ?_
  refine xo_getP (pc' := 4) dd_M_failRoot_1 ff_M_7 (by decide) rfl fun o1 => ?_
  refine xo_iload_n (pc' := 5) dd_M_failRoot_4 rfl 1 rfl rfl ?_
  refine xo_iald (pc' := 6) dd_M_failRoot_5 rfl fun v2 => ?_
  refine xo_if_ne (pc' := 9) (tgt := 13) dd_M_failRoot_6 rfl rfl ?_ ?_
  · refine xo_iconst (pc' := 14) (v := (0 : Int32)) dd_M_failRoot_13 (by decide) rfl ?_
    exact kb_M_failRoot_14 t x1 x2 (0 : Int32) H r
  · refine xo_iconst (pc' := 10) (v := (1 : Int32)) dd_M_failRoot_9 (by decide) rfl ?_
    refine xo_goto (pc' := 14) dd_M_failRoot_10 rfl ?_
    exact kb_M_failRoot_14 t x1 x2 (1 : Int32) H r
set_option maxRecDepth 100000 in
set_option maxHeartbeats 4000000 in
theorem kc_M_failRoot (t : xo_N) (x1 : Int32) (x2 : Int32) (H : xo_H) (r : xo_H) (hk : fc_M_failRoot t x1 x2 H = some r) : xo_M mt_M_failRoot [.inr (some t), .inl x1, .inl x2] H (xo_jv r) :=
  xo_entry hk (by decide +kernel) (Nat.le_of_ble_eq_true rfl) (kb_M_failRoot t x1 x2 H r)
def fb_M_pulls_80 (t : xo_N) (x1 : Int32) (s0 : Int32) (H : xo_H) : Option (Int32 × xo_H) :=
  xo_gp 9 6 H (some t) fun o1 =>
  xo_az H o1 x1 (1 : Int32) fun H2 =>
  xo_gb s0 (some (s0, H2))

def fb_M_pulls_65 (t : xo_N) (x1 : Int32) (s0 : Option xo_N) (s1 : Int32) (s2 : Int32) (H : xo_H) : Option (Int32 × xo_H) :=
  xo_az H s0 s1 s2 fun H1 =>
  xo_gp 9 6 H1 (some t) fun o2 =>
  xo_al 1 H1 o2 x1 fun v3 =>
  if v3 = 0 then (fb_M_pulls_80 t x1 (1 : Int32) H1)
  else (fb_M_pulls_80 t x1 (0 : Int32) H1)

def fb_M_pulls_37 (t : xo_N) (x1 : Int32) (H : xo_H) : Option (Int32 × xo_H) :=
  xo_gp 9 7 H (some t) fun o1 =>
  xo_gp 9 7 H (some t) fun o2 =>
  xo_al 1 H o2 x1 fun v3 =>
  if v3 = 0 then (xo_gp 9 6 H (some t) fun o4 =>
  xo_al 1 H o4 x1 fun v5 =>
  if v5 = 0 then (fb_M_pulls_65 t x1 o1 x1 (0 : Int32) H)
  else (fb_M_pulls_65 t x1 o1 x1 (1 : Int32) H))
  else (fb_M_pulls_65 t x1 o1 x1 (1 : Int32) H)

def fc_M_pulls (t : xo_N) (x1 : Int32) (H : xo_H) : Option (Int32 × xo_H) :=
  xo_gp 9 1 H (some t) fun o1 =>
  xo_al 0 H o1 x1 fun v2 =>
  if v2 = 0 then (xo_gp 9 5 H (some t) fun o3 =>
  xo_al 1 H o3 x1 fun v4 =>
  if v4 = 0 then (xo_gp 9 12 H (some t) fun o5 =>
  xo_al 0 H o5 x1 fun v6 =>
  if v6 = 0 then (xo_cl 9 (some t) (fun n8 => fc_M_room n8 x1 H) fun r7 =>
  if 0 < r7.1 then (fb_M_pulls_37 t x1 r7.2)
  else (xo_gb (0 : Int32) (some ((0 : Int32), r7.2))))
  else (fb_M_pulls_37 t x1 H))
  else (xo_gb (0 : Int32) (some ((0 : Int32), H))))
  else (xo_gb (0 : Int32) (some ((0 : Int32), H)))

set_option maxRecDepth 100000 in
set_option maxHeartbeats 4000000 in
theorem kb_M_pulls_80 (t : xo_N) (x1 : Int32) (s0 : Int32) (H : xo_H) (r : Int32 × xo_H) : xo_X mt_M_pulls 0 0 xo_ji r 80 [(0, .inr (some t)), (1, .inl x1)] [.inl s0] H (fb_M_pulls_80 t x1 s0 H) := by
  unfold fb_M_pulls_80
  refine xo_istore_n (pc' := 81) dd_M_pulls_80 rfl (by decide) rfl rfl ?_
  refine xo_aload_n (pc' := 82) dd_M_pulls_81 rfl 1 rfl rfl ?_
  refine xo_getP (pc' := 85) dd_M_pulls_82 ff_M_26 (by decide) rfl fun o1 => ?_
  refine xo_iload_n (pc' := 86) dd_M_pulls_85 rfl 2 rfl rfl ?_
  refine xo_iconst (pc' := 87) (v := (1 : Int32)) dd_M_pulls_86 (by decide) rfl ?_
  refine xo_zast (pc' := 88) dd_M_pulls_87 rfl fun H2 => ?_
  refine xo_iload_n (pc' := 89) dd_M_pulls_88 rfl 0 rfl rfl ?_
  exact xo_zret dd_M_pulls_89 rfl
set_option maxRecDepth 100000 in
set_option maxHeartbeats 4000000 in
theorem kb_M_pulls_65 (t : xo_N) (x1 : Int32) (s0 : Option xo_N) (s1 : Int32) (s2 : Int32) (H : xo_H) (r : Int32 × xo_H) : xo_X mt_M_pulls 0 0 xo_ji r 65 [(0, .inr (some t)), (1, .inl x1)] [.inl s2, .inl s1, .inr s0] H (fb_M_pulls_65 t x1 s0 s1 s2 H) := by
  unfold fb_M_pulls_65
  refine xo_zast (pc' := 66) dd_M_pulls_65 rfl fun H1 => ?_
  refine xo_aload_n (pc' := 67) dd_M_pulls_66 rfl 0 rfl rfl ?_
  refine xo_getP (pc' := 70) dd_M_pulls_67 ff_M_26 (by decide) rfl fun o2 => ?_
  refine xo_iload_n (pc' := 71) dd_M_pulls_70 rfl 1 rfl rfl ?_
  refine xo_zald (pc' := 72) dd_M_pulls_71 rfl fun v3 => ?_
  refine xo_if_ne (pc' := 75) (tgt := 79) dd_M_pulls_72 rfl rfl ?_ ?_
  · refine xo_iconst (pc' := 80) (v := (0 : Int32)) dd_M_pulls_79 (by decide) rfl ?_
    exact kb_M_pulls_80 t x1 (0 : Int32) H1 r
  · refine xo_iconst (pc' := 76) (v := (1 : Int32)) dd_M_pulls_75 (by decide) rfl ?_
    refine xo_goto (pc' := 80) dd_M_pulls_76 rfl ?_
    exact kb_M_pulls_80 t x1 (1 : Int32) H1 r
set_option maxRecDepth 100000 in
set_option maxHeartbeats 4000000 in
theorem kb_M_pulls_37 (t : xo_N) (x1 : Int32) (H : xo_H) (r : Int32 × xo_H) : xo_X mt_M_pulls 0 0 xo_ji r 37 [(0, .inr (some t)), (1, .inl x1)] [] H (fb_M_pulls_37 t x1 H) := by
  unfold fb_M_pulls_37
  refine xo_aload_n (pc' := 38) dd_M_pulls_37 rfl 0 rfl rfl ?_
  refine xo_getP (pc' := 41) dd_M_pulls_38 ff_M_29 (by decide) rfl fun o1 => ?_
  refine xo_iload_n (pc' := 42) dd_M_pulls_41 rfl 1 rfl rfl ?_
  refine xo_aload_n (pc' := 43) dd_M_pulls_42 rfl 0 rfl rfl ?_
  refine xo_getP (pc' := 46) dd_M_pulls_43 ff_M_29 (by decide) rfl fun o2 => ?_
  refine xo_iload_n (pc' := 47) dd_M_pulls_46 rfl 1 rfl rfl ?_
  refine xo_zald (pc' := 48) dd_M_pulls_47 rfl fun v3 => ?_
  refine xo_if_ne (pc' := 51) (tgt := 60) dd_M_pulls_48 rfl rfl ?_ ?_
  · refine xo_iconst (pc' := 61) (v := (1 : Int32)) dd_M_pulls_60 (by decide) rfl ?_
    refine xo_goto (pc' := 65) dd_M_pulls_61 rfl ?_
    exact kb_M_pulls_65 t x1 o1 x1 (1 : Int32) H r
  · refine xo_aload_n (pc' := 52) dd_M_pulls_51 rfl 0 rfl rfl ?_
    refine xo_getP (pc' := 55) dd_M_pulls_52 ff_M_26 (by decide) rfl fun o4 => ?_
    refine xo_iload_n (pc' := 56) dd_M_pulls_55 rfl 1 rfl rfl ?_
    refine xo_zald (pc' := 57) dd_M_pulls_56 rfl fun v5 => ?_
    refine xo_if_eq (pc' := 60) (tgt := 64) dd_M_pulls_57 rfl rfl ?_ ?_
    · refine xo_iconst (pc' := 65) (v := (0 : Int32)) dd_M_pulls_64 (by decide) rfl ?_
      exact kb_M_pulls_65 t x1 o1 x1 (0 : Int32) H r
    · refine xo_iconst (pc' := 61) (v := (1 : Int32)) dd_M_pulls_60 (by decide) rfl ?_
      refine xo_goto (pc' := 65) dd_M_pulls_61 rfl ?_
      exact kb_M_pulls_65 t x1 o1 x1 (1 : Int32) H r
set_option maxRecDepth 100000 in
set_option maxHeartbeats 4000000 in
theorem kb_M_pulls (t : xo_N) (x1 : Int32) (H : xo_H) (r : Int32 × xo_H) : xo_X mt_M_pulls 0 0 xo_ji r 0 [(0, .inr (some t)), (1, .inl x1)] [] H (fc_M_pulls t x1 H) := by
  unfold fc_M_pulls
  refine xo_aload_n (pc' := 1) dd_M_pulls_0 rfl 0 rfl rfl ?_
  refine xo_getP (pc' := 4) dd_M_pulls_1 ff_M_7 (by decide) rfl fun o1 => ?_
  refine xo_iload_n (pc' := 5) dd_M_pulls_4 rfl 1 rfl rfl ?_
  refine xo_iald (pc' := 6) dd_M_pulls_5 rfl fun v2 => ?_
  refine xo_if_ne (pc' := 9) (tgt := 35) dd_M_pulls_6 rfl rfl ?_ ?_
  · refine xo_iconst (pc' := 36) (v := (0 : Int32)) dd_M_pulls_35 (by decide) rfl ?_
    exact xo_zret dd_M_pulls_36 rfl
  · refine xo_aload_n (pc' := 10) dd_M_pulls_9 rfl 0 rfl rfl ?_
    refine xo_getP (pc' := 13) dd_M_pulls_10 ff_M_23 (by decide) rfl fun o3 => ?_
    refine xo_iload_n (pc' := 14) dd_M_pulls_13 rfl 1 rfl rfl ?_
    refine xo_zald (pc' := 15) dd_M_pulls_14 rfl fun v4 => ?_
    refine xo_if_ne (pc' := 18) (tgt := 35) dd_M_pulls_15 rfl rfl ?_ ?_
    · refine xo_iconst (pc' := 36) (v := (0 : Int32)) dd_M_pulls_35 (by decide) rfl ?_
      exact xo_zret dd_M_pulls_36 rfl
    · refine xo_aload_n (pc' := 19) dd_M_pulls_18 rfl 0 rfl rfl ?_
      refine xo_getP (pc' := 22) dd_M_pulls_19 ff_M_44 (by decide) rfl fun o5 => ?_
      refine xo_iload_n (pc' := 23) dd_M_pulls_22 rfl 1 rfl rfl ?_
      refine xo_iald (pc' := 24) dd_M_pulls_23 rfl fun v6 => ?_
      refine xo_if_ne (pc' := 27) (tgt := 37) dd_M_pulls_24 rfl rfl ?_ ?_
      · exact kb_M_pulls_37 t x1 H r
      · refine xo_aload_n (pc' := 28) dd_M_pulls_27 rfl 0 rfl rfl ?_
        refine xo_iload_n (pc' := 29) dd_M_pulls_28 rfl 1 rfl rfl ?_
        refine xo_callVi (as := [.inl x1]) (o := (some t)) (st := []) (pc' := 32) dd_M_pulls_29 cv_M_room ml_M_195 rfl rfl ⟨by decide, by decide⟩ rfl rfl rfl (Nat.le_of_ble_eq_true rfl) rfl (fun n q h => kc_M_room n x1 H q h) fun r7 => ?_
        refine xo_if_gt (pc' := 35) (tgt := 37) dd_M_pulls_32 rfl rfl ?_ ?_
        · exact kb_M_pulls_37 t x1 r7.2 r
        · refine xo_iconst (pc' := 36) (v := (0 : Int32)) dd_M_pulls_35 (by decide) rfl ?_
          exact xo_zret dd_M_pulls_36 rfl
set_option maxRecDepth 100000 in
set_option maxHeartbeats 4000000 in
theorem kc_M_pulls (t : xo_N) (x1 : Int32) (H : xo_H) (r : Int32 × xo_H) (hk : fc_M_pulls t x1 H = some r) : xo_M mt_M_pulls [.inr (some t), .inl x1] H (xo_ji r) :=
  xo_entry hk (by decide +kernel) (Nat.le_of_ble_eq_true rfl) (kb_M_pulls t x1 H r)
