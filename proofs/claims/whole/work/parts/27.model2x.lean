def fc_M_pullRoot (t : xo_N) (x1 : Int32) (H : xo_H) : Option (xo_H) :=
  xo_cl 9 (some t) (fun n4 => fc_M_pulls n4 x1 H) fun r1 =>
  if r1.1 = 0 then (some r1.2)
  else (xo_cl 9 (some t) (fun n3 => fc_M_happen n3 (1 : Int32) x1 (0 : Int32) (0 : Int32) r1.2) fun H2 =>
  some H2)

set_option maxRecDepth 100000 in
set_option maxHeartbeats 4000000 in
theorem kb_M_pullRoot (t : xo_N) (x1 : Int32) (H : xo_H) (r : xo_H) : xo_X mt_M_pullRoot 0 0 xo_jv r 0 [(0, .inr (some t)), (1, .inl x1)] [] H (fc_M_pullRoot t x1 H) := by
  unfold fc_M_pullRoot
  refine xo_aload_n (pc' := 1) dd_M_pullRoot_0 rfl 0 rfl rfl ?_
  refine xo_iload_n (pc' := 2) dd_M_pullRoot_1 rfl 1 rfl rfl ?_
  refine xo_callVi (as := [.inl x1]) (o := (some t)) (st := []) (pc' := 5) dd_M_pullRoot_2 cv_M_pulls ml_M_199 rfl rfl ⟨by decide, by decide⟩ rfl rfl rfl (Nat.le_of_ble_eq_true rfl) rfl (fun n q h => kc_M_pulls n x1 H q h) fun r1 => ?_
  refine xo_if_eq (pc' := 8) (tgt := 16) dd_M_pullRoot_5 rfl rfl ?_ ?_
  · exact xo_vret dd_M_pullRoot_16 rfl
  · refine xo_aload_n (pc' := 9) dd_M_pullRoot_8 rfl 0 rfl rfl ?_
    refine xo_iconst (pc' := 10) (v := (1 : Int32)) dd_M_pullRoot_9 (by decide) rfl ?_
    refine xo_iload_n (pc' := 11) dd_M_pullRoot_10 rfl 1 rfl rfl ?_
    refine xo_iconst (pc' := 12) (v := (0 : Int32)) dd_M_pullRoot_11 (by decide) rfl ?_
    refine xo_iconst (pc' := 13) (v := (0 : Int32)) dd_M_pullRoot_12 (by decide) rfl ?_
    refine xo_callVv (as := [.inl (1 : Int32), .inl x1, .inl (0 : Int32), .inl (0 : Int32)]) (o := (some t)) (st := []) (pc' := 16) dd_M_pullRoot_13 cv_M_happen ml_M_160 rfl rfl ⟨by decide, by decide⟩ rfl rfl rfl (Nat.le_of_ble_eq_true rfl) rfl (fun n q h => kc_M_happen n (1 : Int32) x1 (0 : Int32) (0 : Int32) r1.2 q h) fun H2 => ?_
    exact xo_vret dd_M_pullRoot_16 rfl
set_option maxRecDepth 100000 in
set_option maxHeartbeats 4000000 in
theorem kc_M_pullRoot (t : xo_N) (x1 : Int32) (H : xo_H) (r : xo_H) (hk : fc_M_pullRoot t x1 H = some r) : xo_M mt_M_pullRoot [.inr (some t), .inl x1] H (xo_jv r) :=
  xo_entry hk (by decide +kernel) (Nat.le_of_ble_eq_true rfl) (kb_M_pullRoot t x1 H r)
def fb_M_readOn_98 (t : xo_N) (x1 : Int32) (x2 : Int32) (H : xo_H) : Option (xo_H) :=
  xo_cl 9 (some t) (fun n2 => fc_M_job n2 (2 : Int32) x1 x2 H) fun H1 =>
  some H1

def fb_M_readOn_93 (t : xo_N) (x1 : Int32) (x2 : Int32) (H : xo_H) : Option (xo_H) :=
  xo_cl 9 (some t) (fun n2 => fc_M_pullRoot n2 x1 H) fun H1 =>
  fb_M_readOn_98 t x1 x2 H1

def fc_M_readOn (t : xo_N) (x1 : Int32) (H : xo_H) : Option (xo_H) :=
  xo_gp 9 17 H (some t) fun o1 =>
  xo_az H o1 x1 (1 : Int32) fun H2 =>
  xo_gp 9 1 H2 (some t) fun o3 =>
  xo_al 0 H2 o3 x1 fun v4 =>
  if v4 = (1 : Int32) then (xo_gp 9 17 H2 (some t) fun o28 =>
  xo_az H2 o28 x1 (0 : Int32) fun H29 =>
  xo_cl 9 (some t) (fun n31 => fc_M_endBranches n31 x1 H29) fun H30 =>
  some H30)
  else (xo_gp 9 1 H2 (some t) fun o5 =>
  xo_al 0 H2 o5 x1 fun v6 =>
  if v6 = (2 : Int32) then (xo_gp 9 17 H2 (some t) fun o26 =>
  xo_az H2 o26 x1 (0 : Int32) fun H27 =>
  some H27)
  else (xo_gp 9 10 H2 (some t) fun o7 =>
  xo_al 0 H2 o7 x1 fun v8 =>
  if 0 < v8 then (xo_cl 9 (some t) (fun n25 => fc_M_takeChunk n25 x1 H2) fun r18 =>
  xo_gp 9 5 r18.2 (some t) fun o19 =>
  xo_al 1 r18.2 o19 x1 fun v20 =>
  if v20 = 0 then (fb_M_readOn_93 t x1 r18.1 r18.2)
  else (xo_gp 9 10 r18.2 (some t) fun o21 =>
  xo_al 0 r18.2 o21 x1 fun v22 =>
  if v22 = 0 then (xo_cl 9 (some t) (fun n24 => fc_M_close n24 x1 r18.2) fun H23 =>
  fb_M_readOn_98 t x1 r18.1 H23)
  else (fb_M_readOn_93 t x1 r18.1 r18.2)))
  else (xo_gp 9 11 H2 (some t) fun o9 =>
  xo_gp 9 12 H2 (some t) fun o10 =>
  xo_al 0 H2 o10 x1 fun v11 =>
  xo_as H2 o9 (((8 : Int32) * x1) + v11) (-10 : Int32) fun H12 =>
  xo_gp 9 12 H12 (some t) fun o13 =>
  xo_al 0 H12 o13 x1 fun v14 =>
  xo_as H12 o13 x1 (v14 + (1 : Int32)) fun H15 =>
  xo_cl 9 (some t) (fun n17 => fc_M_pullRoot n17 x1 H15) fun H16 =>
  some H16)))

set_option maxRecDepth 100000 in
set_option maxHeartbeats 4000000 in
theorem kb_M_readOn_98 (t : xo_N) (x1 : Int32) (x2 : Int32) (H : xo_H) (r : xo_H) : xo_X mt_M_readOn 0 0 xo_jv r 98 [(0, .inr (some t)), (1, .inl x1), (2, .inl x2)] [] H (fb_M_readOn_98 t x1 x2 H) := by
  unfold fb_M_readOn_98
  refine xo_aload_n (pc' := 99) dd_M_readOn_98 rfl 0 rfl rfl ?_
  refine xo_iconst (pc' := 100) (v := (2 : Int32)) dd_M_readOn_99 (by decide) rfl ?_
  refine xo_iload_n (pc' := 101) dd_M_readOn_100 rfl 1 rfl rfl ?_
  refine xo_iload_n (pc' := 102) dd_M_readOn_101 rfl 2 rfl rfl ?_
  refine xo_callVv (as := [.inl (2 : Int32), .inl x1, .inl x2]) (o := (some t)) (st := []) (pc' := 105) dd_M_readOn_102 cv_M_job ml_M_178 rfl rfl ⟨by decide, by decide⟩ rfl rfl rfl (Nat.le_of_ble_eq_true rfl) rfl (fun n q h => kc_M_job n (2 : Int32) x1 x2 H q h) fun H1 => ?_
  refine xo_goto (pc' := 141) dd_M_readOn_105 rfl ?_
  exact xo_vret dd_M_readOn_141 rfl
set_option maxRecDepth 100000 in
set_option maxHeartbeats 4000000 in
theorem kb_M_readOn_93 (t : xo_N) (x1 : Int32) (x2 : Int32) (H : xo_H) (r : xo_H) : xo_X mt_M_readOn 0 0 xo_jv r 93 [(0, .inr (some t)), (1, .inl x1), (2, .inl x2)] [] H (fb_M_readOn_93 t x1 x2 H) := by
  unfold fb_M_readOn_93
  refine xo_aload_n (pc' := 94) dd_M_readOn_93 rfl 0 rfl rfl ?_
  refine xo_iload_n (pc' := 95) dd_M_readOn_94 rfl 1 rfl rfl ?_
  refine xo_callVv (as := [.inl x1]) (o := (some t)) (st := []) (pc' := 98) dd_M_readOn_95 cv_M_pullRoot ml_M_209 rfl rfl ⟨by decide, by decide⟩ rfl rfl rfl (Nat.le_of_ble_eq_true rfl) rfl (fun n q h => kc_M_pullRoot n x1 H q h) fun H1 => ?_
  exact kb_M_readOn_98 t x1 x2 H1 r
set_option maxRecDepth 100000 in
set_option maxHeartbeats 4000000 in
theorem kb_M_readOn (t : xo_N) (x1 : Int32) (H : xo_H) (r : xo_H) : xo_X mt_M_readOn 0 0 xo_jv r 0 [(0, .inr (some t)), (1, .inl x1)] [] H (fc_M_readOn t x1 H) := by
  unfold fc_M_readOn
  refine xo_aload_n (pc' := 1) dd_M_readOn_0 rfl 0 rfl rfl ?_
  refine xo_getP (pc' := 4) dd_M_readOn_1 ff_M_59 (by decide) rfl fun o1 => ?_
  refine xo_iload_n (pc' := 5) dd_M_readOn_4 rfl 1 rfl rfl ?_
  refine xo_iconst (pc' := 6) (v := (1 : Int32)) dd_M_readOn_5 (by decide) rfl ?_
  refine xo_zast (pc' := 7) dd_M_readOn_6 rfl fun H2 => ?_
  refine xo_aload_n (pc' := 8) dd_M_readOn_7 rfl 0 rfl rfl ?_
  refine xo_getP (pc' := 11) dd_M_readOn_8 ff_M_7 (by decide) rfl fun o3 => ?_
  refine xo_iload_n (pc' := 12) dd_M_readOn_11 rfl 1 rfl rfl ?_
  refine xo_iald (pc' := 13) dd_M_readOn_12 rfl fun v4 => ?_
  refine xo_iconst (pc' := 14) (v := (1 : Int32)) dd_M_readOn_13 (by decide) rfl ?_
  refine xo_icmp_ne (pc' := 17) (tgt := 32) dd_M_readOn_14 rfl rfl ?_ ?_
  · refine xo_aload_n (pc' := 33) dd_M_readOn_32 rfl 0 rfl rfl ?_
    refine xo_getP (pc' := 36) dd_M_readOn_33 ff_M_7 (by decide) rfl fun o5 => ?_
    refine xo_iload_n (pc' := 37) dd_M_readOn_36 rfl 1 rfl rfl ?_
    refine xo_iald (pc' := 38) dd_M_readOn_37 rfl fun v6 => ?_
    refine xo_iconst (pc' := 39) (v := (2 : Int32)) dd_M_readOn_38 (by decide) rfl ?_
    refine xo_icmp_ne (pc' := 42) (tgt := 52) dd_M_readOn_39 rfl rfl ?_ ?_
    · refine xo_aload_n (pc' := 53) dd_M_readOn_52 rfl 0 rfl rfl ?_
      refine xo_getP (pc' := 56) dd_M_readOn_53 ff_M_38 (by decide) rfl fun o7 => ?_
      refine xo_iload_n (pc' := 57) dd_M_readOn_56 rfl 1 rfl rfl ?_
      refine xo_iald (pc' := 58) dd_M_readOn_57 rfl fun v8 => ?_
      refine xo_if_le (pc' := 61) (tgt := 108) dd_M_readOn_58 rfl rfl ?_ ?_
      · refine xo_aload_n (pc' := 109) dd_M_readOn_108 rfl 0 rfl rfl ?_
        refine xo_getP (pc' := 112) dd_M_readOn_109 ff_M_41 (by decide) rfl fun o9 => ?_
        refine xo_bipush (pc' := 114) (v := (8 : Int32)) dd_M_readOn_112 (by decide) rfl ?_
        refine xo_iload_n (pc' := 115) dd_M_readOn_114 rfl 1 rfl rfl ?_
        refine xo_imul (pc' := 116) dd_M_readOn_115 rfl ?_
        refine xo_aload_n (pc' := 117) dd_M_readOn_116 rfl 0 rfl rfl ?_
        refine xo_getP (pc' := 120) dd_M_readOn_117 ff_M_44 (by decide) rfl fun o10 => ?_
        refine xo_iload_n (pc' := 121) dd_M_readOn_120 rfl 1 rfl rfl ?_
        refine xo_iald (pc' := 122) dd_M_readOn_121 rfl fun v11 => ?_
        refine xo_iadd (pc' := 123) dd_M_readOn_122 rfl ?_
        refine xo_bipush (pc' := 125) (v := (-10 : Int32)) dd_M_readOn_123 (by decide) rfl ?_
        refine xo_iast (pc' := 126) dd_M_readOn_125 rfl fun H12 => ?_
        refine xo_aload_n (pc' := 127) dd_M_readOn_126 rfl 0 rfl rfl ?_
        refine xo_getP (pc' := 130) dd_M_readOn_127 ff_M_44 (by decide) rfl fun o13 => ?_
        refine xo_iload_n (pc' := 131) dd_M_readOn_130 rfl 1 rfl rfl ?_
        refine xo_dup2 (pc' := 132) dd_M_readOn_131 rfl ?_
        refine xo_iald (pc' := 133) dd_M_readOn_132 rfl fun v14 => ?_
        refine xo_iconst (pc' := 134) (v := (1 : Int32)) dd_M_readOn_133 (by decide) rfl ?_
        refine xo_iadd (pc' := 135) dd_M_readOn_134 rfl ?_
        refine xo_iast (pc' := 136) dd_M_readOn_135 rfl fun H15 => ?_
        refine xo_aload_n (pc' := 137) dd_M_readOn_136 rfl 0 rfl rfl ?_
        refine xo_iload_n (pc' := 138) dd_M_readOn_137 rfl 1 rfl rfl ?_
        refine xo_callVv (as := [.inl x1]) (o := (some t)) (st := []) (pc' := 141) dd_M_readOn_138 cv_M_pullRoot ml_M_209 rfl rfl ⟨by decide, by decide⟩ rfl rfl rfl (Nat.le_of_ble_eq_true rfl) rfl (fun n q h => kc_M_pullRoot n x1 H15 q h) fun H16 => ?_
        exact xo_vret dd_M_readOn_141 rfl
      · refine xo_aload_n (pc' := 62) dd_M_readOn_61 rfl 0 rfl rfl ?_
        refine xo_iload_n (pc' := 63) dd_M_readOn_62 rfl 1 rfl rfl ?_
        refine xo_callVi (as := [.inl x1]) (o := (some t)) (st := []) (pc' := 66) dd_M_readOn_63 cv_M_takeChunk ml_M_203 rfl rfl ⟨by decide, by decide⟩ rfl rfl rfl (Nat.le_of_ble_eq_true rfl) rfl (fun n q h => kc_M_takeChunk n x1 H2 q h) fun r18 => ?_
        refine xo_istore_n (pc' := 67) dd_M_readOn_66 rfl (by decide) rfl rfl ?_
        refine xo_aload_n (pc' := 68) dd_M_readOn_67 rfl 1 rfl rfl ?_
        refine xo_getP (pc' := 71) dd_M_readOn_68 ff_M_23 (by decide) rfl fun o19 => ?_
        refine xo_iload_n (pc' := 72) dd_M_readOn_71 rfl 2 rfl rfl ?_
        refine xo_zald (pc' := 73) dd_M_readOn_72 rfl fun v20 => ?_
        refine xo_if_eq (pc' := 76) (tgt := 93) dd_M_readOn_73 rfl rfl ?_ ?_
        · refine xo_sub [1, 2, 0] rfl ?_
          exact kb_M_readOn_93 t x1 r18.1 r18.2 r
        · refine xo_aload_n (pc' := 77) dd_M_readOn_76 rfl 1 rfl rfl ?_
          refine xo_getP (pc' := 80) dd_M_readOn_77 ff_M_38 (by decide) rfl fun o21 => ?_
          refine xo_iload_n (pc' := 81) dd_M_readOn_80 rfl 2 rfl rfl ?_
          refine xo_iald (pc' := 82) dd_M_readOn_81 rfl fun v22 => ?_
          refine xo_if_ne (pc' := 85) (tgt := 93) dd_M_readOn_82 rfl rfl ?_ ?_
          · refine xo_sub [1, 2, 0] rfl ?_
            exact kb_M_readOn_93 t x1 r18.1 r18.2 r
          · refine xo_aload_n (pc' := 86) dd_M_readOn_85 rfl 1 rfl rfl ?_
            refine xo_iload_n (pc' := 87) dd_M_readOn_86 rfl 2 rfl rfl ?_
            refine xo_callVv (as := [.inl x1]) (o := (some t)) (st := []) (pc' := 90) dd_M_readOn_87 cv_M_close ml_M_206 rfl rfl ⟨by decide, by decide⟩ rfl rfl rfl (Nat.le_of_ble_eq_true rfl) rfl (fun n q h => kc_M_close n x1 r18.2 q h) fun H23 => ?_
            refine xo_goto (pc' := 98) dd_M_readOn_90 rfl ?_
            refine xo_sub [1, 2, 0] rfl ?_
            exact kb_M_readOn_98 t x1 r18.1 H23 r
    · refine xo_aload_n (pc' := 43) dd_M_readOn_42 rfl 0 rfl rfl ?_
      refine xo_getP (pc' := 46) dd_M_readOn_43 ff_M_59 (by decide) rfl fun o26 => ?_
      refine xo_iload_n (pc' := 47) dd_M_readOn_46 rfl 1 rfl rfl ?_
      refine xo_iconst (pc' := 48) (v := (0 : Int32)) dd_M_readOn_47 (by decide) rfl ?_
      refine xo_zast (pc' := 49) dd_M_readOn_48 rfl fun H27 => ?_
      refine xo_goto (pc' := 141) dd_M_readOn_49 rfl ?_
      exact xo_vret dd_M_readOn_141 rfl
  · refine xo_aload_n (pc' := 18) dd_M_readOn_17 rfl 0 rfl rfl ?_
    refine xo_getP (pc' := 21) dd_M_readOn_18 ff_M_59 (by decide) rfl fun o28 => ?_
    refine xo_iload_n (pc' := 22) dd_M_readOn_21 rfl 1 rfl rfl ?_
    refine xo_iconst (pc' := 23) (v := (0 : Int32)) dd_M_readOn_22 (by decide) rfl ?_
    refine xo_zast (pc' := 24) dd_M_readOn_23 rfl fun H29 => ?_
    refine xo_aload_n (pc' := 25) dd_M_readOn_24 rfl 0 rfl rfl ?_
    refine xo_iload_n (pc' := 26) dd_M_readOn_25 rfl 1 rfl rfl ?_
    refine xo_callVv (as := [.inl x1]) (o := (some t)) (st := []) (pc' := 29) dd_M_readOn_26 cv_M_endBranches ml_M_189 rfl rfl ⟨by decide, by decide⟩ rfl rfl rfl (Nat.le_of_ble_eq_true rfl) rfl (fun n q h => kc_M_endBranches n x1 H29 q h) fun H30 => ?_
    refine xo_goto (pc' := 141) dd_M_readOn_29 rfl ?_
    exact xo_vret dd_M_readOn_141 rfl
set_option maxRecDepth 100000 in
set_option maxHeartbeats 4000000 in
theorem kc_M_readOn (t : xo_N) (x1 : Int32) (H : xo_H) (r : xo_H) (hk : fc_M_readOn t x1 H = some r) : xo_M mt_M_readOn [.inr (some t), .inl x1] H (xo_jv r) :=
  xo_entry hk (by decide +kernel) (Nat.le_of_ble_eq_true rfl) (kb_M_readOn t x1 H r)
def fb_M_pull_55 (t : xo_N) (x1 : Int32) (H : xo_H) : Option (xo_H) :=
  xo_cl 9 (some t) (fun n4 => fc_M_job n4 (1 : Int32) x1 (-1 : Int32) H) fun H1 =>
  xo_gp 9 14 H1 (some t) fun o2 =>
  xo_az H1 o2 x1 (1 : Int32) fun H3 =>
  some H3

def fc_M_pull (t : xo_N) (x1 : Int32) (H : xo_H) : Option (xo_H) :=
  xo_cl 9 (some t) (fun n14 => fc_M_isBranch n14 x1 H) fun r1 =>
  if r1.1 = 0 then (xo_cl 9 (some t) (fun n13 => fc_M_pullRoot n13 x1 r1.2) fun H12 =>
  some H12)
  else (xo_cl 9 (some t) (fun n11 => fc_M_pulls n11 x1 r1.2) fun r2 =>
  if r2.1 = 0 then (some r2.2)
  else (xo_gp 9 16 r2.2 (some t) fun o3 =>
  xo_al 0 r2.2 o3 x1 fun v4 =>
  xo_gp 9 17 r2.2 (some t) fun o5 =>
  xo_al 1 r2.2 o5 v4 fun v6 =>
  if v6 = 0 then (xo_cl 9 (some t) (fun n8 => fc_M_readOn n8 v4 r2.2) fun H7 =>
  fb_M_pull_55 t x1 H7)
  else (xo_gp 9 18 r2.2 (some t) fun o9 =>
  xo_az r2.2 o9 v4 (1 : Int32) fun H10 =>
  fb_M_pull_55 t x1 H10)))

set_option maxRecDepth 100000 in
set_option maxHeartbeats 4000000 in
theorem kb_M_pull_55 (t : xo_N) (x1 : Int32) (H : xo_H) (r : xo_H) : xo_X mt_M_pull 0 0 xo_jv r 55 [(0, .inr (some t)), (1, .inl x1)] [] H (fb_M_pull_55 t x1 H) := by
  unfold fb_M_pull_55
  refine xo_aload_n (pc' := 56) dd_M_pull_55 rfl 0 rfl rfl ?_
  refine xo_iconst (pc' := 57) (v := (1 : Int32)) dd_M_pull_56 (by decide) rfl ?_
  refine xo_iload_n (pc' := 58) dd_M_pull_57 rfl 1 rfl rfl ?_
  refine xo_iconst (pc' := 59) (v := (-1 : Int32)) dd_M_pull_58 (by decide) rfl ?_
  refine xo_callVv (as := [.inl (1 : Int32), .inl x1, .inl (-1 : Int32)]) (o := (some t)) (st := []) (pc' := 62) dd_M_pull_59 cv_M_job ml_M_178 rfl rfl ⟨by decide, by decide⟩ rfl rfl rfl (Nat.le_of_ble_eq_true rfl) rfl (fun n q h => kc_M_job n (1 : Int32) x1 (-1 : Int32) H q h) fun H1 => ?_
  refine xo_aload_n (pc' := 63) dd_M_pull_62 rfl 0 rfl rfl ?_
  refine xo_getP (pc' := 66) dd_M_pull_63 ff_M_50 (by decide) rfl fun o2 => ?_
  refine xo_iload_n (pc' := 67) dd_M_pull_66 rfl 1 rfl rfl ?_
  refine xo_iconst (pc' := 68) (v := (1 : Int32)) dd_M_pull_67 (by decide) rfl ?_
  refine xo_zast (pc' := 69) dd_M_pull_68 rfl fun H3 => ?_
  exact xo_vret dd_M_pull_69 rfl
set_option maxRecDepth 100000 in
set_option maxHeartbeats 4000000 in
theorem kb_M_pull (t : xo_N) (x1 : Int32) (H : xo_H) (r : xo_H) : xo_X mt_M_pull 0 0 xo_jv r 0 [(0, .inr (some t)), (1, .inl x1)] [] H (fc_M_pull t x1 H) := by
  unfold fc_M_pull
  refine xo_aload_n (pc' := 1) dd_M_pull_0 rfl 0 rfl rfl ?_
  refine xo_iload_n (pc' := 2) dd_M_pull_1 rfl 1 rfl rfl ?_
  refine xo_callVi (as := [.inl x1]) (o := (some t)) (st := []) (pc' := 5) dd_M_pull_2 cv_M_isBranch ml_M_212 rfl rfl ⟨by decide, by decide⟩ rfl rfl rfl (Nat.le_of_ble_eq_true rfl) rfl (fun n q h => kc_M_isBranch n x1 H q h) fun r1 => ?_
  refine xo_if_ne (pc' := 8) (tgt := 16) dd_M_pull_5 rfl rfl ?_ ?_
  · refine xo_aload_n (pc' := 17) dd_M_pull_16 rfl 0 rfl rfl ?_
    refine xo_iload_n (pc' := 18) dd_M_pull_17 rfl 1 rfl rfl ?_
    refine xo_callVi (as := [.inl x1]) (o := (some t)) (st := []) (pc' := 21) dd_M_pull_18 cv_M_pulls ml_M_199 rfl rfl ⟨by decide, by decide⟩ rfl rfl rfl (Nat.le_of_ble_eq_true rfl) rfl (fun n q h => kc_M_pulls n x1 r1.2 q h) fun r2 => ?_
    refine xo_if_eq (pc' := 24) (tgt := 69) dd_M_pull_21 rfl rfl ?_ ?_
    · exact xo_vret dd_M_pull_69 rfl
    · refine xo_aload_n (pc' := 25) dd_M_pull_24 rfl 0 rfl rfl ?_
      refine xo_getP (pc' := 28) dd_M_pull_25 ff_M_56 (by decide) rfl fun o3 => ?_
      refine xo_iload_n (pc' := 29) dd_M_pull_28 rfl 1 rfl rfl ?_
      refine xo_iald (pc' := 30) dd_M_pull_29 rfl fun v4 => ?_
      refine xo_istore_n (pc' := 31) dd_M_pull_30 rfl (by decide) rfl rfl ?_
      refine xo_aload_n (pc' := 32) dd_M_pull_31 rfl 1 rfl rfl ?_
      refine xo_getP (pc' := 35) dd_M_pull_32 ff_M_59 (by decide) rfl fun o5 => ?_
      refine xo_iload_n (pc' := 36) dd_M_pull_35 rfl 0 rfl rfl ?_
      refine xo_zald (pc' := 37) dd_M_pull_36 rfl fun v6 => ?_
      refine xo_if_eq (pc' := 40) (tgt := 50) dd_M_pull_37 rfl rfl ?_ ?_
      · refine xo_aload_n (pc' := 51) dd_M_pull_50 rfl 1 rfl rfl ?_
        refine xo_iload_n (pc' := 52) dd_M_pull_51 rfl 0 rfl rfl ?_
        refine xo_callVv (as := [.inl v4]) (o := (some t)) (st := []) (pc' := 55) dd_M_pull_52 cv_M_readOn ml_M_215 rfl rfl ⟨by decide, by decide⟩ rfl rfl rfl (Nat.le_of_ble_eq_true rfl) rfl (fun n q h => kc_M_readOn n v4 r2.2 q h) fun H7 => ?_
        refine xo_sub [1, 2] rfl ?_
        exact kb_M_pull_55 t x1 H7 r
      · refine xo_aload_n (pc' := 41) dd_M_pull_40 rfl 1 rfl rfl ?_
        refine xo_getP (pc' := 44) dd_M_pull_41 ff_M_62 (by decide) rfl fun o9 => ?_
        refine xo_iload_n (pc' := 45) dd_M_pull_44 rfl 0 rfl rfl ?_
        refine xo_iconst (pc' := 46) (v := (1 : Int32)) dd_M_pull_45 (by decide) rfl ?_
        refine xo_zast (pc' := 47) dd_M_pull_46 rfl fun H10 => ?_
        refine xo_goto (pc' := 55) dd_M_pull_47 rfl ?_
        refine xo_sub [1, 2] rfl ?_
        exact kb_M_pull_55 t x1 H10 r
  · refine xo_aload_n (pc' := 9) dd_M_pull_8 rfl 0 rfl rfl ?_
    refine xo_iload_n (pc' := 10) dd_M_pull_9 rfl 1 rfl rfl ?_
    refine xo_callVv (as := [.inl x1]) (o := (some t)) (st := []) (pc' := 13) dd_M_pull_10 cv_M_pullRoot ml_M_209 rfl rfl ⟨by decide, by decide⟩ rfl rfl rfl (Nat.le_of_ble_eq_true rfl) rfl (fun n q h => kc_M_pullRoot n x1 r1.2 q h) fun H12 => ?_
    refine xo_goto (pc' := 69) dd_M_pull_13 rfl ?_
    exact xo_vret dd_M_pull_69 rfl
set_option maxRecDepth 100000 in
set_option maxHeartbeats 4000000 in
theorem kc_M_pull (t : xo_N) (x1 : Int32) (H : xo_H) (r : xo_H) (hk : fc_M_pull t x1 H = some r) : xo_M mt_M_pull [.inr (some t), .inl x1] H (xo_jv r) :=
  xo_entry hk (by decide +kernel) (Nat.le_of_ble_eq_true rfl) (kb_M_pull t x1 H r)
def fb_M_takeIn_50 (t : xo_N) (x1 : Int32) (H : xo_H) : Option (xo_H) :=
  xo_cl 9 (some t) (fun n2 => fc_M_pull n2 x1 H) fun H1 =>
  some H1

def fc_M_takeIn (t : xo_N) (x1 : Int32) (x2 : Int32) (H : xo_H) : Option (xo_H) :=
  xo_gp 9 12 H (some t) fun o1 =>
  xo_al 0 H o1 x1 fun v2 =>
  if 0 < v2 then (xo_cl 9 (some t) (fun n13 => fc_M_takeRequest n13 x1 H) fun r10 =>
  xo_cl 9 (some t) (fun n12 => fc_M_answer n12 x1 r10.1 x2 r10.2) fun H11 =>
  fb_M_takeIn_50 t x1 H11)
  else (xo_gp 9 9 H (some t) fun o3 =>
  xo_gp 9 10 H (some t) fun o4 =>
  xo_al 0 H o4 x1 fun v5 =>
  xo_as H o3 (((16 : Int32) * x1) + v5) x2 fun H6 =>
  xo_gp 9 10 H6 (some t) fun o7 =>
  xo_al 0 H6 o7 x1 fun v8 =>
  xo_as H6 o7 x1 (v8 + (1 : Int32)) fun H9 =>
  fb_M_takeIn_50 t x1 H9)

set_option maxRecDepth 100000 in
set_option maxHeartbeats 4000000 in
theorem kb_M_takeIn_50 (t : xo_N) (x1 : Int32) (H : xo_H) (r : xo_H) : xo_X mt_M_takeIn 0 0 xo_jv r 50 [(0, .inr (some t)), (1, .inl x1)] [] H (fb_M_takeIn_50 t x1 H) := by
  unfold fb_M_takeIn_50
  refine xo_aload_n (pc' := 51) dd_M_takeIn_50 rfl 0 rfl rfl ?_
  refine xo_iload_n (pc' := 52) dd_M_takeIn_51 rfl 1 rfl rfl ?_
  refine xo_callVv (as := [.inl x1]) (o := (some t)) (st := []) (pc' := 55) dd_M_takeIn_52 cv_M_pull ml_M_224 rfl rfl ⟨by decide, by decide⟩ rfl rfl rfl (Nat.le_of_ble_eq_true rfl) rfl (fun n q h => kc_M_pull n x1 H q h) fun H1 => ?_
  exact xo_vret dd_M_takeIn_55 rfl
set_option maxRecDepth 100000 in
set_option maxHeartbeats 4000000 in
theorem kb_M_takeIn (t : xo_N) (x1 : Int32) (x2 : Int32) (H : xo_H) (r : xo_H) : xo_X mt_M_takeIn 0 0 xo_jv r 0 [(0, .inr (some t)), (1, .inl x1), (2, .inl x2)] [] H (fc_M_takeIn t x1 x2 H) := by
  unfold fc_M_takeIn
  refine xo_aload_n (pc' := 1) dd_M_takeIn_0 rfl 0 rfl rfl ?_
  refine xo_getP (pc' := 4) dd_M_takeIn_1 ff_M_44 (by decide) rfl fun o1 => ?_
  refine xo_iload_n (pc' := 5) dd_M_takeIn_4 rfl 1 rfl rfl ?_
  refine xo_iald (pc' := 6) dd_M_takeIn_5 rfl fun v2 => ?_
  refine xo_if_le (pc' := 9) (tgt := 23) dd_M_takeIn_6 rfl rfl ?_ ?_
  · refine xo_aload_n (pc' := 24) dd_M_takeIn_23 rfl 0 rfl rfl ?_
    refine xo_getP (pc' := 27) dd_M_takeIn_24 ff_M_35 (by decide) rfl fun o3 => ?_
    refine xo_bipush (pc' := 29) (v := (16 : Int32)) dd_M_takeIn_27 (by decide) rfl ?_
    refine xo_iload_n (pc' := 30) dd_M_takeIn_29 rfl 1 rfl rfl ?_
    refine xo_imul (pc' := 31) dd_M_takeIn_30 rfl ?_
    refine xo_aload_n (pc' := 32) dd_M_takeIn_31 rfl 0 rfl rfl ?_
    refine xo_getP (pc' := 35) dd_M_takeIn_32 ff_M_38 (by decide) rfl fun o4 => ?_
    refine xo_iload_n (pc' := 36) dd_M_takeIn_35 rfl 1 rfl rfl ?_
    refine xo_iald (pc' := 37) dd_M_takeIn_36 rfl fun v5 => ?_
    refine xo_iadd (pc' := 38) dd_M_takeIn_37 rfl ?_
    refine xo_iload_n (pc' := 39) dd_M_takeIn_38 rfl 2 rfl rfl ?_
    refine xo_iast (pc' := 40) dd_M_takeIn_39 rfl fun H6 => ?_
    refine xo_aload_n (pc' := 41) dd_M_takeIn_40 rfl 0 rfl rfl ?_
    refine xo_getP (pc' := 44) dd_M_takeIn_41 ff_M_38 (by decide) rfl fun o7 => ?_
    refine xo_iload_n (pc' := 45) dd_M_takeIn_44 rfl 1 rfl rfl ?_
    refine xo_dup2 (pc' := 46) dd_M_takeIn_45 rfl ?_
    refine xo_iald (pc' := 47) dd_M_takeIn_46 rfl fun v8 => ?_
    refine xo_iconst (pc' := 48) (v := (1 : Int32)) dd_M_takeIn_47 (by decide) rfl ?_
    refine xo_iadd (pc' := 49) dd_M_takeIn_48 rfl ?_
    refine xo_iast (pc' := 50) dd_M_takeIn_49 rfl fun H9 => ?_
    refine xo_sub [0, 1] rfl ?_
    exact kb_M_takeIn_50 t x1 H9 r
  · refine xo_aload_n (pc' := 10) dd_M_takeIn_9 rfl 0 rfl rfl ?_
    refine xo_iload_n (pc' := 11) dd_M_takeIn_10 rfl 1 rfl rfl ?_
    refine xo_aload_n (pc' := 12) dd_M_takeIn_11 rfl 0 rfl rfl ?_
    refine xo_iload_n (pc' := 13) dd_M_takeIn_12 rfl 1 rfl rfl ?_
    refine xo_callVi (as := [.inl x1]) (o := (some t)) (st := [.inl x1, .inr (some t)]) (pc' := 16) dd_M_takeIn_13 cv_M_takeRequest ml_M_218 rfl rfl ⟨by decide, by decide⟩ rfl rfl rfl (Nat.le_of_ble_eq_true rfl) rfl (fun n q h => kc_M_takeRequest n x1 H q h) fun r10 => ?_
    refine xo_iload_n (pc' := 17) dd_M_takeIn_16 rfl 2 rfl rfl ?_
    refine xo_callVv (as := [.inl x1, .inl r10.1, .inl x2]) (o := (some t)) (st := []) (pc' := 20) dd_M_takeIn_17 cv_M_answer ml_M_221 rfl rfl ⟨by decide, by decide⟩ rfl rfl rfl (Nat.le_of_ble_eq_true rfl) rfl (fun n q h => kc_M_answer n x1 r10.1 x2 r10.2 q h) fun H11 => ?_
    refine xo_goto (pc' := 50) dd_M_takeIn_20 rfl ?_
    refine xo_sub [0, 1] rfl ?_
    exact kb_M_takeIn_50 t x1 H11 r
set_option maxRecDepth 100000 in
set_option maxHeartbeats 4000000 in
theorem kc_M_takeIn (t : xo_N) (x1 : Int32) (x2 : Int32) (H : xo_H) (r : xo_H) (hk : fc_M_takeIn t x1 x2 H = some r) : xo_M mt_M_takeIn [.inr (some t), .inl x1, .inl x2] H (xo_jv r) :=
  xo_entry hk (by decide +kernel) (Nat.le_of_ble_eq_true rfl) (kb_M_takeIn t x1 x2 H r)
def fb_M_request_103 (t : xo_N) (x1 : Int32) (x2 : Int32) (x3 : Int32) (H : xo_H) : Option (xo_H) :=
  xo_cl 9 (some t) (fun n2 => fc_M_answer n2 x1 x2 x3 H) fun H1 =>
  some H1

def fb_M_request_98 (t : xo_N) (x1 : Int32) (x2 : Int32) (x3 : Int32) (H : xo_H) : Option (xo_H) :=
  xo_cl 9 (some t) (fun n2 => fc_M_pull n2 x1 H) fun H1 =>
  fb_M_request_103 t x1 x2 x3 H1

def fc_M_request (t : xo_N) (x1 : Int32) (x2 : Int32) (H : xo_H) : Option (xo_H) :=
  xo_gp 9 1 H (some t) fun o1 =>
  xo_al 0 H o1 x1 fun v2 =>
  if v2 = (1 : Int32) then (if 0 < x2 then (xo_cl 9 (some t) (fun n29 => fc_M_happen n29 (7 : Int32) x1 x2 (0 : Int32) H) fun H28 =>
  some H28)
  else (some H))
  else (xo_gp 9 1 H (some t) fun o3 =>
  xo_al 0 H o3 x1 fun v4 =>
  if v4 = (2 : Int32) then (if 0 < x2 then (xo_gp 9 2 H (some t) fun o24 =>
  xo_al 0 H o24 x1 fun v25 =>
  xo_cl 9 (some t) (fun n27 => fc_M_happen n27 (8 : Int32) x1 x2 v25 H) fun H26 =>
  some H26)
  else (some H))
  else (xo_gp 9 10 H (some t) fun o5 =>
  xo_al 0 H o5 x1 fun v6 =>
  if 0 < v6 then (xo_cl 9 (some t) (fun n23 => fc_M_takeChunk n23 x1 H) fun r16 =>
  xo_gp 9 5 r16.2 (some t) fun o17 =>
  xo_al 1 r16.2 o17 x1 fun v18 =>
  if v18 = 0 then (fb_M_request_98 t x1 x2 r16.1 r16.2)
  else (xo_gp 9 10 r16.2 (some t) fun o19 =>
  xo_al 0 r16.2 o19 x1 fun v20 =>
  if v20 = 0 then (xo_cl 9 (some t) (fun n22 => fc_M_close n22 x1 r16.2) fun H21 =>
  fb_M_request_103 t x1 x2 r16.1 H21)
  else (fb_M_request_98 t x1 x2 r16.1 r16.2)))
  else (xo_gp 9 11 H (some t) fun o7 =>
  xo_gp 9 12 H (some t) fun o8 =>
  xo_al 0 H o8 x1 fun v9 =>
  xo_as H o7 (((8 : Int32) * x1) + v9) x2 fun H10 =>
  xo_gp 9 12 H10 (some t) fun o11 =>
  xo_al 0 H10 o11 x1 fun v12 =>
  xo_as H10 o11 x1 (v12 + (1 : Int32)) fun H13 =>
  xo_cl 9 (some t) (fun n15 => fc_M_pull n15 x1 H13) fun H14 =>
  some H14)))

set_option maxRecDepth 100000 in
set_option maxHeartbeats 4000000 in
theorem kb_M_request_103 (t : xo_N) (x1 : Int32) (x2 : Int32) (x3 : Int32) (H : xo_H) (r : xo_H) : xo_X mt_M_request 0 0 xo_jv r 103 [(0, .inr (some t)), (1, .inl x1), (2, .inl x2), (3, .inl x3)] [] H (fb_M_request_103 t x1 x2 x3 H) := by
  unfold fb_M_request_103
  refine xo_aload_n (pc' := 104) dd_M_request_103 rfl 0 rfl rfl ?_
  refine xo_iload_n (pc' := 105) dd_M_request_104 rfl 1 rfl rfl ?_
  refine xo_iload_n (pc' := 106) dd_M_request_105 rfl 2 rfl rfl ?_
  refine xo_iload_n (pc' := 107) dd_M_request_106 rfl 3 rfl rfl ?_
  refine xo_callVv (as := [.inl x1, .inl x2, .inl x3]) (o := (some t)) (st := []) (pc' := 110) dd_M_request_107 cv_M_answer ml_M_221 rfl rfl ⟨by decide, by decide⟩ rfl rfl rfl (Nat.le_of_ble_eq_true rfl) rfl (fun n q h => kc_M_answer n x1 x2 x3 H q h) fun H1 => ?_
  refine xo_goto (pc' := 145) dd_M_request_110 rfl ?_
  exact xo_vret dd_M_request_145 rfl
set_option maxRecDepth 100000 in
set_option maxHeartbeats 4000000 in
theorem kb_M_request_98 (t : xo_N) (x1 : Int32) (x2 : Int32) (x3 : Int32) (H : xo_H) (r : xo_H) : xo_X mt_M_request 0 0 xo_jv r 98 [(0, .inr (some t)), (1, .inl x1), (2, .inl x2), (3, .inl x3)] [] H (fb_M_request_98 t x1 x2 x3 H) := by
  unfold fb_M_request_98
  refine xo_aload_n (pc' := 99) dd_M_request_98 rfl 0 rfl rfl ?_
  refine xo_iload_n (pc' := 100) dd_M_request_99 rfl 1 rfl rfl ?_
  refine xo_callVv (as := [.inl x1]) (o := (some t)) (st := []) (pc' := 103) dd_M_request_100 cv_M_pull ml_M_224 rfl rfl ⟨by decide, by decide⟩ rfl rfl rfl (Nat.le_of_ble_eq_true rfl) rfl (fun n q h => kc_M_pull n x1 H q h) fun H1 => ?_
  exact kb_M_request_103 t x1 x2 x3 H1 r
set_option maxRecDepth 100000 in
set_option maxHeartbeats 4000000 in
theorem kb_M_request (t : xo_N) (x1 : Int32) (x2 : Int32) (H : xo_H) (r : xo_H) : xo_X mt_M_request 0 0 xo_jv r 0 [(0, .inr (some t)), (1, .inl x1), (2, .inl x2)] [] H (fc_M_request t x1 x2 H) := by
  unfold fc_M_request
  refine xo_aload_n (pc' := 1) dd_M_request_0 rfl 0 rfl rfl ?_
  refine xo_getP (pc' := 4) dd_M_request_1 ff_M_7 (by decide) rfl fun o1 => ?_
  refine xo_iload_n (pc' := 5) dd_M_request_4 rfl 1 rfl rfl ?_
  refine xo_iald (pc' := 6) dd_M_request_5 rfl fun v2 => ?_
  refine xo_iconst (pc' := 7) (v := (1 : Int32)) dd_M_request_6 (by decide) rfl ?_
  refine xo_icmp_ne (pc' := 10) (tgt := 26) dd_M_request_7 rfl rfl ?_ ?_
  · refine xo_aload_n (pc' := 27) dd_M_request_26 rfl 0 rfl rfl ?_
    refine xo_getP (pc' := 30) dd_M_request_27 ff_M_7 (by decide) rfl fun o3 => ?_
    refine xo_iload_n (pc' := 31) dd_M_request_30 rfl 1 rfl rfl ?_
    refine xo_iald (pc' := 32) dd_M_request_31 rfl fun v4 => ?_
    refine xo_iconst (pc' := 33) (v := (2 : Int32)) dd_M_request_32 (by decide) rfl ?_
    refine xo_icmp_ne (pc' := 36) (tgt := 57) dd_M_request_33 rfl rfl ?_ ?_
    · refine xo_aload_n (pc' := 58) dd_M_request_57 rfl 0 rfl rfl ?_
      refine xo_getP (pc' := 61) dd_M_request_58 ff_M_38 (by decide) rfl fun o5 => ?_
      refine xo_iload_n (pc' := 62) dd_M_request_61 rfl 1 rfl rfl ?_
      refine xo_iald (pc' := 63) dd_M_request_62 rfl fun v6 => ?_
      refine xo_if_le (pc' := 66) (tgt := 113) dd_M_request_63 rfl rfl ?_ ?_
      · refine xo_aload_n (pc' := 114) dd_M_request_113 rfl 0 rfl rfl ?_
        refine xo_getP (pc' := 117) dd_M_request_114 ff_M_41 (by decide) rfl fun o7 => ?_
        refine xo_bipush (pc' := 119) (v := (8 : Int32)) dd_M_request_117 (by decide) rfl ?_
        refine xo_iload_n (pc' := 120) dd_M_request_119 rfl 1 rfl rfl ?_
        refine xo_imul (pc' := 121) dd_M_request_120 rfl ?_
        refine xo_aload_n (pc' := 122) dd_M_request_121 rfl 0 rfl rfl ?_
        refine xo_getP (pc' := 125) dd_M_request_122 ff_M_44 (by decide) rfl fun o8 => ?_
        refine xo_iload_n (pc' := 126) dd_M_request_125 rfl 1 rfl rfl ?_
        refine xo_iald (pc' := 127) dd_M_request_126 rfl fun v9 => ?_
        refine xo_iadd (pc' := 128) dd_M_request_127 rfl ?_
        refine xo_iload_n (pc' := 129) dd_M_request_128 rfl 2 rfl rfl ?_
        refine xo_iast (pc' := 130) dd_M_request_129 rfl fun H10 => ?_
        refine xo_aload_n (pc' := 131) dd_M_request_130 rfl 0 rfl rfl ?_
        refine xo_getP (pc' := 134) dd_M_request_131 ff_M_44 (by decide) rfl fun o11 => ?_
        refine xo_iload_n (pc' := 135) dd_M_request_134 rfl 1 rfl rfl ?_
        refine xo_dup2 (pc' := 136) dd_M_request_135 rfl ?_
        refine xo_iald (pc' := 137) dd_M_request_136 rfl fun v12 => ?_
        refine xo_iconst (pc' := 138) (v := (1 : Int32)) dd_M_request_137 (by decide) rfl ?_
        refine xo_iadd (pc' := 139) dd_M_request_138 rfl ?_
        refine xo_iast (pc' := 140) dd_M_request_139 rfl fun H13 => ?_
        refine xo_aload_n (pc' := 141) dd_M_request_140 rfl 0 rfl rfl ?_
        refine xo_iload_n (pc' := 142) dd_M_request_141 rfl 1 rfl rfl ?_
        refine xo_callVv (as := [.inl x1]) (o := (some t)) (st := []) (pc' := 145) dd_M_request_142 cv_M_pull ml_M_224 rfl rfl ⟨by decide, by decide⟩ rfl rfl rfl (Nat.le_of_ble_eq_true rfl) rfl (fun n q h => kc_M_pull n x1 H13 q h) fun H14 => ?_
        exact xo_vret dd_M_request_145 rfl
      · refine xo_aload_n (pc' := 67) dd_M_request_66 rfl 0 rfl rfl ?_
        refine xo_iload_n (pc' := 68) dd_M_request_67 rfl 1 rfl rfl ?_
        refine xo_callVi (as := [.inl x1]) (o := (some t)) (st := []) (pc' := 71) dd_M_request_68 cv_M_takeChunk ml_M_203 rfl rfl ⟨by decide, by decide⟩ rfl rfl rfl (Nat.le_of_ble_eq_true rfl) rfl (fun n q h => kc_M_takeChunk n x1 H q h) fun r16 => ?_
        refine xo_istore_n (pc' := 72) dd_M_request_71 rfl (by decide) rfl rfl ?_
        refine xo_aload_n (pc' := 73) dd_M_request_72 rfl 1 rfl rfl ?_
        refine xo_getP (pc' := 76) dd_M_request_73 ff_M_23 (by decide) rfl fun o17 => ?_
        refine xo_iload_n (pc' := 77) dd_M_request_76 rfl 2 rfl rfl ?_
        refine xo_zald (pc' := 78) dd_M_request_77 rfl fun v18 => ?_
        refine xo_if_eq (pc' := 81) (tgt := 98) dd_M_request_78 rfl rfl ?_ ?_
        · refine xo_sub [1, 2, 3, 0] rfl ?_
          exact kb_M_request_98 t x1 x2 r16.1 r16.2 r
        · refine xo_aload_n (pc' := 82) dd_M_request_81 rfl 1 rfl rfl ?_
          refine xo_getP (pc' := 85) dd_M_request_82 ff_M_38 (by decide) rfl fun o19 => ?_
          refine xo_iload_n (pc' := 86) dd_M_request_85 rfl 2 rfl rfl ?_
          refine xo_iald (pc' := 87) dd_M_request_86 rfl fun v20 => ?_
          refine xo_if_ne (pc' := 90) (tgt := 98) dd_M_request_87 rfl rfl ?_ ?_
          · refine xo_sub [1, 2, 3, 0] rfl ?_
            exact kb_M_request_98 t x1 x2 r16.1 r16.2 r
          · refine xo_aload_n (pc' := 91) dd_M_request_90 rfl 1 rfl rfl ?_
            refine xo_iload_n (pc' := 92) dd_M_request_91 rfl 2 rfl rfl ?_
            refine xo_callVv (as := [.inl x1]) (o := (some t)) (st := []) (pc' := 95) dd_M_request_92 cv_M_close ml_M_206 rfl rfl ⟨by decide, by decide⟩ rfl rfl rfl (Nat.le_of_ble_eq_true rfl) rfl (fun n q h => kc_M_close n x1 r16.2 q h) fun H21 => ?_
            refine xo_goto (pc' := 103) dd_M_request_95 rfl ?_
            refine xo_sub [1, 2, 3, 0] rfl ?_
            exact kb_M_request_103 t x1 x2 r16.1 H21 r
    · refine xo_iload_n (pc' := 37) dd_M_request_36 rfl 2 rfl rfl ?_
      refine xo_if_le (pc' := 40) (tgt := 145) dd_M_request_37 rfl rfl ?_ ?_
      · exact xo_vret dd_M_request_145 rfl
      · refine xo_aload_n (pc' := 41) dd_M_request_40 rfl 0 rfl rfl ?_
        refine xo_bipush (pc' := 43) (v := (8 : Int32)) dd_M_request_41 (by decide) rfl ?_
        refine xo_iload_n (pc' := 44) dd_M_request_43 rfl 1 rfl rfl ?_
        refine xo_iload_n (pc' := 45) dd_M_request_44 rfl 2 rfl rfl ?_
        refine xo_aload_n (pc' := 46) dd_M_request_45 rfl 0 rfl rfl ?_
        refine xo_getP (pc' := 49) dd_M_request_46 ff_M_13 (by decide) rfl fun o24 => ?_
        refine xo_iload_n (pc' := 50) dd_M_request_49 rfl 1 rfl rfl ?_
        refine xo_iald (pc' := 51) dd_M_request_50 rfl fun v25 => ?_
        refine xo_callVv (as := [.inl (8 : Int32), .inl x1, .inl x2, .inl v25]) (o := (some t)) (st := []) (pc' := 54) dd_M_request_51 cv_M_happen ml_M_160 rfl rfl ⟨by decide, by decide⟩ rfl rfl rfl (Nat.le_of_ble_eq_true rfl) rfl (fun n q h => kc_M_happen n (8 : Int32) x1 x2 v25 H q h) fun H26 => ?_
        refine xo_goto (pc' := 145) dd_M_request_54 rfl ?_
        exact xo_vret dd_M_request_145 rfl
  · refine xo_iload_n (pc' := 11) dd_M_request_10 rfl 2 rfl rfl ?_
    refine xo_if_le (pc' := 14) (tgt := 145) dd_M_request_11 rfl rfl ?_ ?_
    · exact xo_vret dd_M_request_145 rfl
    · refine xo_aload_n (pc' := 15) dd_M_request_14 rfl 0 rfl rfl ?_
      refine xo_bipush (pc' := 17) (v := (7 : Int32)) dd_M_request_15 (by decide) rfl ?_
      refine xo_iload_n (pc' := 18) dd_M_request_17 rfl 1 rfl rfl ?_
      refine xo_iload_n (pc' := 19) dd_M_request_18 rfl 2 rfl rfl ?_
      refine xo_iconst (pc' := 20) (v := (0 : Int32)) dd_M_request_19 (by decide) rfl ?_
      refine xo_callVv (as := [.inl (7 : Int32), .inl x1, .inl x2, .inl (0 : Int32)]) (o := (some t)) (st := []) (pc' := 23) dd_M_request_20 cv_M_happen ml_M_160 rfl rfl ⟨by decide, by decide⟩ rfl rfl rfl (Nat.le_of_ble_eq_true rfl) rfl (fun n q h => kc_M_happen n (7 : Int32) x1 x2 (0 : Int32) H q h) fun H28 => ?_
      refine xo_goto (pc' := 145) dd_M_request_23 rfl ?_
      exact xo_vret dd_M_request_145 rfl
set_option maxRecDepth 100000 in
set_option maxHeartbeats 4000000 in
theorem kc_M_request (t : xo_N) (x1 : Int32) (x2 : Int32) (H : xo_H) (r : xo_H) (hk : fc_M_request t x1 x2 H = some r) : xo_M mt_M_request [.inr (some t), .inl x1, .inl x2] H (xo_jv r) :=
  xo_entry hk (by decide +kernel) (Nat.le_of_ble_eq_true rfl) (kb_M_request t x1 x2 H r)
def fc_M_cancelRoot (t : xo_N) (x1 : Int32) (x2 : Int32) (H : xo_H) : Option (xo_H) :=
  xo_gp 9 1 H (some t) fun o1 =>
  xo_al 0 H o1 x1 fun v2 =>
  if v2 = 0 then (xo_gp 9 10 H (some t) fun o3 =>
  xo_as H o3 x1 (0 : Int32) fun H4 =>
  xo_cl 9 (some t) (fun n8 => fc_M_close n8 x1 H4) fun H5 =>
  xo_cl 9 (some t) (fun n7 => fc_M_happen n7 (2 : Int32) x1 x2 (0 : Int32) H5) fun H6 =>
  some H6)
  else (some H)

set_option maxRecDepth 100000 in
set_option maxHeartbeats 4000000 in
theorem kb_M_cancelRoot (t : xo_N) (x1 : Int32) (x2 : Int32) (H : xo_H) (r : xo_H) : xo_X mt_M_cancelRoot 0 0 xo_jv r 0 [(0, .inr (some t)), (1, .inl x1), (2, .inl x2)] [] H (fc_M_cancelRoot t x1 x2 H) := by
  unfold fc_M_cancelRoot
  refine xo_aload_n (pc' := 1) dd_M_cancelRoot_0 rfl 0 rfl rfl ?_
  refine xo_getP (pc' := 4) dd_M_cancelRoot_1 ff_M_7 (by decide) rfl fun o1 => ?_
  refine xo_iload_n (pc' := 5) dd_M_cancelRoot_4 rfl 1 rfl rfl ?_
  refine xo_iald (pc' := 6) dd_M_cancelRoot_5 rfl fun v2 => ?_
  refine xo_if_ne (pc' := 9) (tgt := 29) dd_M_cancelRoot_6 rfl rfl ?_ ?_
  · exact xo_vret dd_M_cancelRoot_29 rfl
  · refine xo_aload_n (pc' := 10) dd_M_cancelRoot_9 rfl 0 rfl rfl ?_
    refine xo_getP (pc' := 13) dd_M_cancelRoot_10 ff_M_38 (by decide) rfl fun o3 => ?_
    refine xo_iload_n (pc' := 14) dd_M_cancelRoot_13 rfl 1 rfl rfl ?_
    refine xo_iconst (pc' := 15) (v := (0 : Int32)) dd_M_cancelRoot_14 (by decide) rfl ?_
    refine xo_iast (pc' := 16) dd_M_cancelRoot_15 rfl fun H4 => ?_
    refine xo_aload_n (pc' := 17) dd_M_cancelRoot_16 rfl 0 rfl rfl ?_
    refine xo_iload_n (pc' := 18) dd_M_cancelRoot_17 rfl 1 rfl rfl ?_
    refine xo_callVv (as := [.inl x1]) (o := (some t)) (st := []) (pc' := 21) dd_M_cancelRoot_18 cv_M_close ml_M_206 rfl rfl ⟨by decide, by decide⟩ rfl rfl rfl (Nat.le_of_ble_eq_true rfl) rfl (fun n q h => kc_M_close n x1 H4 q h) fun H5 => ?_
    refine xo_aload_n (pc' := 22) dd_M_cancelRoot_21 rfl 0 rfl rfl ?_
    refine xo_iconst (pc' := 23) (v := (2 : Int32)) dd_M_cancelRoot_22 (by decide) rfl ?_
    refine xo_iload_n (pc' := 24) dd_M_cancelRoot_23 rfl 1 rfl rfl ?_
    refine xo_iload_n (pc' := 25) dd_M_cancelRoot_24 rfl 2 rfl rfl ?_
    refine xo_iconst (pc' := 26) (v := (0 : Int32)) dd_M_cancelRoot_25 (by decide) rfl ?_
    refine xo_callVv (as := [.inl (2 : Int32), .inl x1, .inl x2, .inl (0 : Int32)]) (o := (some t)) (st := []) (pc' := 29) dd_M_cancelRoot_26 cv_M_happen ml_M_160 rfl rfl ⟨by decide, by decide⟩ rfl rfl rfl (Nat.le_of_ble_eq_true rfl) rfl (fun n q h => kc_M_happen n (2 : Int32) x1 x2 (0 : Int32) H5 q h) fun H6 => ?_
    exact xo_vret dd_M_cancelRoot_29 rfl
set_option maxRecDepth 100000 in
set_option maxHeartbeats 4000000 in
theorem kc_M_cancelRoot (t : xo_N) (x1 : Int32) (x2 : Int32) (H : xo_H) (r : xo_H) (hk : fc_M_cancelRoot t x1 x2 H = some r) : xo_M mt_M_cancelRoot [.inr (some t), .inl x1, .inl x2] H (xo_jv r) :=
  xo_entry hk (by decide +kernel) (Nat.le_of_ble_eq_true rfl) (kb_M_cancelRoot t x1 x2 H r)
def fc_M_cancelGiver (t : xo_N) (x1 : Int32) (x2 : Int32) (H : xo_H) : Option (xo_H) :=
  xo_cl 9 (some t) (fun n24 => fc_M_isBranch n24 x1 H) fun r1 =>
  if r1.1 = 0 then (xo_cl 9 (some t) (fun n23 => fc_M_cancelRoot n23 x1 x2 r1.2) fun H22 =>
  some H22)
  else (xo_gp 9 1 r1.2 (some t) fun o2 =>
  xo_al 0 r1.2 o2 x1 fun v3 =>
  if v3 = 0 then (xo_gp 9 10 r1.2 (some t) fun o4 =>
  xo_as r1.2 o4 x1 (0 : Int32) fun H5 =>
  xo_cl 9 (some t) (fun n21 => fc_M_closePlain n21 x1 H5) fun H6 =>
  xo_gp 9 19 H6 (some t) fun o7 =>
  xo_az H6 o7 x1 (1 : Int32) fun H8 =>
  xo_gp 9 16 H8 (some t) fun o9 =>
  xo_al 0 H8 o9 x1 fun v10 =>
  xo_gp 9 19 H8 (some t) fun o11 =>
  xo_gp 9 15 H8 (some t) fun o12 =>
  xo_al 0 H8 o12 v10 fun v13 =>
  xo_al 1 H8 o11 v13 fun v14 =>
  if v14 = 0 then (some H8)
  else (xo_gp 9 19 H8 (some t) fun o15 =>
  xo_gp 9 15 H8 (some t) fun o16 =>
  xo_al 0 H8 o16 v10 fun v17 =>
  xo_al 1 H8 o15 (v17 + (1 : Int32)) fun v18 =>
  if v18 = 0 then (some H8)
  else (xo_cl 9 (some t) (fun n20 => fc_M_cancelRoot n20 v10 x2 H8) fun H19 =>
  some H19)))
  else (some r1.2))

set_option maxRecDepth 100000 in
set_option maxHeartbeats 4000000 in
theorem kb_M_cancelGiver (t : xo_N) (x1 : Int32) (x2 : Int32) (H : xo_H) (r : xo_H) : xo_X mt_M_cancelGiver 0 0 xo_jv r 0 [(0, .inr (some t)), (1, .inl x1), (2, .inl x2)] [] H (fc_M_cancelGiver t x1 x2 H) := by
  unfold fc_M_cancelGiver
  refine xo_aload_n (pc' := 1) dd_M_cancelGiver_0 rfl 0 rfl rfl ?_
  refine xo_iload_n (pc' := 2) dd_M_cancelGiver_1 rfl 1 rfl rfl ?_
  refine xo_callVi (as := [.inl x1]) (o := (some t)) (st := []) (pc' := 5) dd_M_cancelGiver_2 cv_M_isBranch ml_M_212 rfl rfl ⟨by decide, by decide⟩ rfl rfl rfl (Nat.le_of_ble_eq_true rfl) rfl (fun n q h => kc_M_isBranch n x1 H q h) fun r1 => ?_
  refine xo_if_ne (pc' := 8) (tgt := 17) dd_M_cancelGiver_5 rfl rfl ?_ ?_
  · refine xo_aload_n (pc' := 18) dd_M_cancelGiver_17 rfl 0 rfl rfl ?_
    refine xo_getP (pc' := 21) dd_M_cancelGiver_18 ff_M_7 (by decide) rfl fun o2 => ?_
    refine xo_iload_n (pc' := 22) dd_M_cancelGiver_21 rfl 1 rfl rfl ?_
    refine xo_iald (pc' := 23) dd_M_cancelGiver_22 rfl fun v3 => ?_
    refine xo_if_ne (pc' := 26) (tgt := 88) dd_M_cancelGiver_23 rfl rfl ?_ ?_
    · exact xo_vret dd_M_cancelGiver_88 rfl
    · refine xo_aload_n (pc' := 27) dd_M_cancelGiver_26 rfl 0 rfl rfl ?_
      refine xo_getP (pc' := 30) dd_M_cancelGiver_27 ff_M_38 (by decide) rfl fun o4 => ?_
      refine xo_iload_n (pc' := 31) dd_M_cancelGiver_30 rfl 1 rfl rfl ?_
      refine xo_iconst (pc' := 32) (v := (0 : Int32)) dd_M_cancelGiver_31 (by decide) rfl ?_
      refine xo_iast (pc' := 33) dd_M_cancelGiver_32 rfl fun H5 => ?_
      refine xo_aload_n (pc' := 34) dd_M_cancelGiver_33 rfl 0 rfl rfl ?_
      refine xo_iload_n (pc' := 35) dd_M_cancelGiver_34 rfl 1 rfl rfl ?_
      refine xo_callVv (as := [.inl x1]) (o := (some t)) (st := []) (pc' := 38) dd_M_cancelGiver_35 cv_M_closePlain ml_M_186 rfl rfl ⟨by decide, by decide⟩ rfl rfl rfl (Nat.le_of_ble_eq_true rfl) rfl (fun n q h => kc_M_closePlain n x1 H5 q h) fun H6 => ?_
      refine xo_aload_n (pc' := 39) dd_M_cancelGiver_38 rfl 0 rfl rfl ?_
      refine xo_getP (pc' := 42) dd_M_cancelGiver_39 ff_M_65 (by decide) rfl fun o7 => ?_
      refine xo_iload_n (pc' := 43) dd_M_cancelGiver_42 rfl 1 rfl rfl ?_
      refine xo_iconst (pc' := 44) (v := (1 : Int32)) dd_M_cancelGiver_43 (by decide) rfl ?_
      refine xo_zast (pc' := 45) dd_M_cancelGiver_44 rfl fun H8 => ?_
      refine xo_aload_n (pc' := 46) dd_M_cancelGiver_45 rfl 0 rfl rfl ?_
      refine xo_getP (pc' := 49) dd_M_cancelGiver_46 ff_M_56 (by decide) rfl fun o9 => ?_
      refine xo_iload_n (pc' := 50) dd_M_cancelGiver_49 rfl 1 rfl rfl ?_
      refine xo_iald (pc' := 51) dd_M_cancelGiver_50 rfl fun v10 => ?_
      refine xo_istore_n (pc' := 52) dd_M_cancelGiver_51 rfl (by decide) rfl rfl ?_
      refine xo_aload_n (pc' := 53) dd_M_cancelGiver_52 rfl 1 rfl rfl ?_
      refine xo_getP (pc' := 56) dd_M_cancelGiver_53 ff_M_65 (by decide) rfl fun o11 => ?_
      refine xo_aload_n (pc' := 57) dd_M_cancelGiver_56 rfl 1 rfl rfl ?_
      refine xo_getP (pc' := 60) dd_M_cancelGiver_57 ff_M_53 (by decide) rfl fun o12 => ?_
      refine xo_iload_n (pc' := 61) dd_M_cancelGiver_60 rfl 0 rfl rfl ?_
      refine xo_iald (pc' := 62) dd_M_cancelGiver_61 rfl fun v13 => ?_
      refine xo_zald (pc' := 63) dd_M_cancelGiver_62 rfl fun v14 => ?_
      refine xo_if_eq (pc' := 66) (tgt := 88) dd_M_cancelGiver_63 rfl rfl ?_ ?_
      · exact xo_vret dd_M_cancelGiver_88 rfl
      · refine xo_aload_n (pc' := 67) dd_M_cancelGiver_66 rfl 1 rfl rfl ?_
        refine xo_getP (pc' := 70) dd_M_cancelGiver_67 ff_M_65 (by decide) rfl fun o15 => ?_
        refine xo_aload_n (pc' := 71) dd_M_cancelGiver_70 rfl 1 rfl rfl ?_
        refine xo_getP (pc' := 74) dd_M_cancelGiver_71 ff_M_53 (by decide) rfl fun o16 => ?_
        refine xo_iload_n (pc' := 75) dd_M_cancelGiver_74 rfl 0 rfl rfl ?_
        refine xo_iald (pc' := 76) dd_M_cancelGiver_75 rfl fun v17 => ?_
        refine xo_iconst (pc' := 77) (v := (1 : Int32)) dd_M_cancelGiver_76 (by decide) rfl ?_
        refine xo_iadd (pc' := 78) dd_M_cancelGiver_77 rfl ?_
        refine xo_zald (pc' := 79) dd_M_cancelGiver_78 rfl fun v18 => ?_
        refine xo_if_eq (pc' := 82) (tgt := 88) dd_M_cancelGiver_79 rfl rfl ?_ ?_
        · exact xo_vret dd_M_cancelGiver_88 rfl
        · refine xo_aload_n (pc' := 83) dd_M_cancelGiver_82 rfl 1 rfl rfl ?_
          refine xo_iload_n (pc' := 84) dd_M_cancelGiver_83 rfl 0 rfl rfl ?_
          refine xo_iload_n (pc' := 85) dd_M_cancelGiver_84 rfl 3 rfl rfl ?_
          refine xo_callVv (as := [.inl v10, .inl x2]) (o := (some t)) (st := []) (pc' := 88) dd_M_cancelGiver_85 cv_M_cancelRoot ml_M_227 rfl rfl ⟨by decide, by decide⟩ rfl rfl rfl (Nat.le_of_ble_eq_true rfl) rfl (fun n q h => kc_M_cancelRoot n v10 x2 H8 q h) fun H19 => ?_
          exact xo_vret dd_M_cancelGiver_88 rfl
  · refine xo_aload_n (pc' := 9) dd_M_cancelGiver_8 rfl 0 rfl rfl ?_
    refine xo_iload_n (pc' := 10) dd_M_cancelGiver_9 rfl 1 rfl rfl ?_
    refine xo_iload_n (pc' := 11) dd_M_cancelGiver_10 rfl 2 rfl rfl ?_
    refine xo_callVv (as := [.inl x1, .inl x2]) (o := (some t)) (st := []) (pc' := 14) dd_M_cancelGiver_11 cv_M_cancelRoot ml_M_227 rfl rfl ⟨by decide, by decide⟩ rfl rfl rfl (Nat.le_of_ble_eq_true rfl) rfl (fun n q h => kc_M_cancelRoot n x1 x2 r1.2 q h) fun H22 => ?_
    refine xo_goto (pc' := 88) dd_M_cancelGiver_14 rfl ?_
    exact xo_vret dd_M_cancelGiver_88 rfl
set_option maxRecDepth 100000 in
set_option maxHeartbeats 4000000 in
theorem kc_M_cancelGiver (t : xo_N) (x1 : Int32) (x2 : Int32) (H : xo_H) (r : xo_H) (hk : fc_M_cancelGiver t x1 x2 H = some r) : xo_M mt_M_cancelGiver [.inr (some t), .inl x1, .inl x2] H (xo_jv r) :=
  xo_entry hk (by decide +kernel) (Nat.le_of_ble_eq_true rfl) (kb_M_cancelGiver t x1 x2 H r)
def fc_M_ends (t : xo_N) (x1 : Int32) (H : xo_H) : Option (xo_H) :=
  xo_gp 9 5 H (some t) fun o1 =>
  xo_az H o1 x1 (1 : Int32) fun H2 =>
  xo_gp 9 10 H2 (some t) fun o3 =>
  xo_al 0 H2 o3 x1 fun v4 =>
  if v4 = 0 then (xo_cl 9 (some t) (fun n6 => fc_M_close n6 x1 H2) fun H5 =>
  some H5)
  else (some H2)

set_option maxRecDepth 100000 in
set_option maxHeartbeats 4000000 in
theorem kb_M_ends (t : xo_N) (x1 : Int32) (H : xo_H) (r : xo_H) : xo_X mt_M_ends 0 0 xo_jv r 0 [(0, .inr (some t)), (1, .inl x1)] [] H (fc_M_ends t x1 H) := by
  unfold fc_M_ends
  refine xo_aload_n (pc' := 1) dd_M_ends_0 rfl 0 rfl rfl ?_
  refine xo_getP (pc' := 4) dd_M_ends_1 ff_M_23 (by decide) rfl fun o1 => ?_
  refine xo_iload_n (pc' := 5) dd_M_ends_4 rfl 1 rfl rfl ?_
  refine xo_iconst (pc' := 6) (v := (1 : Int32)) dd_M_ends_5 (by decide) rfl ?_
  refine xo_zast (pc' := 7) dd_M_ends_6 rfl fun H2 => ?_
  refine xo_aload_n (pc' := 8) dd_M_ends_7 rfl 0 rfl rfl ?_
  refine xo_getP (pc' := 11) dd_M_ends_8 ff_M_38 (by decide) rfl fun o3 => ?_
  refine xo_iload_n (pc' := 12) dd_M_ends_11 rfl 1 rfl rfl ?_
  refine xo_iald (pc' := 13) dd_M_ends_12 rfl fun v4 => ?_
  refine xo_if_ne (pc' := 16) (tgt := 21) dd_M_ends_13 rfl rfl ?_ ?_
  · exact xo_vret dd_M_ends_21 rfl
  · refine xo_aload_n (pc' := 17) dd_M_ends_16 rfl 0 rfl rfl ?_
    refine xo_iload_n (pc' := 18) dd_M_ends_17 rfl 1 rfl rfl ?_
    refine xo_callVv (as := [.inl x1]) (o := (some t)) (st := []) (pc' := 21) dd_M_ends_18 cv_M_close ml_M_206 rfl rfl ⟨by decide, by decide⟩ rfl rfl rfl (Nat.le_of_ble_eq_true rfl) rfl (fun n q h => kc_M_close n x1 H2 q h) fun H5 => ?_
    exact xo_vret dd_M_ends_21 rfl
set_option maxRecDepth 100000 in
set_option maxHeartbeats 4000000 in
theorem kc_M_ends (t : xo_N) (x1 : Int32) (H : xo_H) (r : xo_H) (hk : fc_M_ends t x1 H = some r) : xo_M mt_M_ends [.inr (some t), .inl x1] H (xo_jv r) :=
  xo_entry hk (by decide +kernel) (Nat.le_of_ble_eq_true rfl) (kb_M_ends t x1 H r)
def fc_M_pulledJob (t : xo_N) (x1 : Int32) (x2 : Int32) (H : xo_H) : Option (xo_H) :=
  xo_gp 9 14 H (some t) fun o1 =>
  xo_az H o1 x1 (0 : Int32) fun H2 =>
  xo_gp 9 6 H2 (some t) fun o3 =>
  xo_az H2 o3 x1 (0 : Int32) fun H4 =>
  if x2 = (-1 : Int32) then (xo_gp 9 7 H4 (some t) fun o5 =>
  xo_al 1 H4 o5 x1 fun v6 =>
  if v6 = 0 then (some H4)
  else (xo_gp 9 7 H4 (some t) fun o7 =>
  xo_az H4 o7 x1 (0 : Int32) fun H8 =>
  xo_cl 9 (some t) (fun n10 => fc_M_pull n10 x1 H8) fun H9 =>
  some H9))
  else (xo_cl 9 (some t) (fun n12 => fc_M_failRoot n12 x1 x2 H4) fun H11 =>
  some H11)

set_option maxRecDepth 100000 in
set_option maxHeartbeats 4000000 in
theorem kb_M_pulledJob (t : xo_N) (x1 : Int32) (x2 : Int32) (H : xo_H) (r : xo_H) : xo_X mt_M_pulledJob 0 0 xo_jv r 0 [(0, .inr (some t)), (1, .inl x1), (2, .inl x2)] [] H (fc_M_pulledJob t x1 x2 H) := by
  unfold fc_M_pulledJob
  refine xo_aload_n (pc' := 1) dd_M_pulledJob_0 rfl 0 rfl rfl ?_
  refine xo_getP (pc' := 4) dd_M_pulledJob_1 ff_M_50 (by decide) rfl fun o1 => ?_
  refine xo_iload_n (pc' := 5) dd_M_pulledJob_4 rfl 1 rfl rfl ?_
  refine xo_iconst (pc' := 6) (v := (0 : Int32)) dd_M_pulledJob_5 (by decide) rfl ?_
  refine xo_zast (pc' := 7) dd_M_pulledJob_6 rfl fun H2 => ?_
  refine xo_aload_n (pc' := 8) dd_M_pulledJob_7 rfl 0 rfl rfl ?_
  refine xo_getP (pc' := 11) dd_M_pulledJob_8 ff_M_26 (by decide) rfl fun o3 => ?_
  refine xo_iload_n (pc' := 12) dd_M_pulledJob_11 rfl 1 rfl rfl ?_
  refine xo_iconst (pc' := 13) (v := (0 : Int32)) dd_M_pulledJob_12 (by decide) rfl ?_
  refine xo_zast (pc' := 14) dd_M_pulledJob_13 rfl fun H4 => ?_
  refine xo_iload_n (pc' := 15) dd_M_pulledJob_14 rfl 2 rfl rfl ?_
  refine xo_iconst (pc' := 16) (v := (-1 : Int32)) dd_M_pulledJob_15 (by decide) rfl ?_
  refine xo_icmp_eq (pc' := 19) (tgt := 28) dd_M_pulledJob_16 rfl rfl ?_ ?_
  · refine xo_aload_n (pc' := 29) dd_M_pulledJob_28 rfl 0 rfl rfl ?_
    refine xo_getP (pc' := 32) dd_M_pulledJob_29 ff_M_29 (by decide) rfl fun o5 => ?_
    refine xo_iload_n (pc' := 33) dd_M_pulledJob_32 rfl 1 rfl rfl ?_
    refine xo_zald (pc' := 34) dd_M_pulledJob_33 rfl fun v6 => ?_
    refine xo_if_eq (pc' := 37) (tgt := 49) dd_M_pulledJob_34 rfl rfl ?_ ?_
    · exact xo_vret dd_M_pulledJob_49 rfl
    · refine xo_aload_n (pc' := 38) dd_M_pulledJob_37 rfl 0 rfl rfl ?_
      refine xo_getP (pc' := 41) dd_M_pulledJob_38 ff_M_29 (by decide) rfl fun o7 => ?_
      refine xo_iload_n (pc' := 42) dd_M_pulledJob_41 rfl 1 rfl rfl ?_
      refine xo_iconst (pc' := 43) (v := (0 : Int32)) dd_M_pulledJob_42 (by decide) rfl ?_
      refine xo_zast (pc' := 44) dd_M_pulledJob_43 rfl fun H8 => ?_
      refine xo_aload_n (pc' := 45) dd_M_pulledJob_44 rfl 0 rfl rfl ?_
      refine xo_iload_n (pc' := 46) dd_M_pulledJob_45 rfl 1 rfl rfl ?_
      refine xo_callVv (as := [.inl x1]) (o := (some t)) (st := []) (pc' := 49) dd_M_pulledJob_46 cv_M_pull ml_M_224 rfl rfl ⟨by decide, by decide⟩ rfl rfl rfl (Nat.le_of_ble_eq_true rfl) rfl (fun n q h => kc_M_pull n x1 H8 q h) fun H9 => ?_
      exact xo_vret dd_M_pulledJob_49 rfl
  · refine xo_aload_n (pc' := 20) dd_M_pulledJob_19 rfl 0 rfl rfl ?_
    refine xo_iload_n (pc' := 21) dd_M_pulledJob_20 rfl 1 rfl rfl ?_
    refine xo_iload_n (pc' := 22) dd_M_pulledJob_21 rfl 2 rfl rfl ?_
    refine xo_callVv (as := [.inl x1, .inl x2]) (o := (some t)) (st := []) (pc' := 25) dd_M_pulledJob_22 cv_M_failRoot ml_M_230 rfl rfl ⟨by decide, by decide⟩ rfl rfl rfl (Nat.le_of_ble_eq_true rfl) rfl (fun n q h => kc_M_failRoot n x1 x2 H4 q h) fun H11 => ?_
    refine xo_goto (pc' := 49) dd_M_pulledJob_25 rfl ?_
    exact xo_vret dd_M_pulledJob_49 rfl
set_option maxRecDepth 100000 in
set_option maxHeartbeats 4000000 in
theorem kc_M_pulledJob (t : xo_N) (x1 : Int32) (x2 : Int32) (H : xo_H) (r : xo_H) (hk : fc_M_pulledJob t x1 x2 H = some r) : xo_M mt_M_pulledJob [.inr (some t), .inl x1, .inl x2] H (xo_jv r) :=
  xo_entry hk (by decide +kernel) (Nat.le_of_ble_eq_true rfl) (kb_M_pulledJob t x1 x2 H r)
def fb_M_partedJob_14 : Nat → xo_N → Int32 → Int32 → Int32 → xo_H → Option (xo_H)
  | 0, _, _, _, _, _ => none
  | fu + 1, t, x1, x2, x3, H =>
  xo_gp 9 15 H (some t) fun o1 =>
  xo_al 0 H o1 x1 fun v2 =>
  if x3 < (v2 + (2 : Int32)) then (xo_gp 9 1 H (some t) fun o9 =>
  xo_al 0 H o9 x3 fun v10 =>
  if v10 = 0 then (xo_gp 9 5 H (some t) fun o11 =>
  xo_al 1 H o11 x3 fun v12 =>
  if v12 = 0 then (xo_gp 9 19 H (some t) fun o13 =>
  xo_al 1 H o13 x3 fun v14 =>
  if v14 = 0 then (xo_gp 9 10 H (some t) fun o15 =>
  xo_al 0 H o15 x3 fun v16 =>
  if v16 = (16 : Int32) then (xo_cl 9 (some t) (fun n20 => fc_M_failPlain n20 x3 (101 : Int32) H) fun H19 =>
  fb_M_partedJob_14 fu t x1 x2 (x3 + (1 : Int32)) H19)
  else (xo_cl 9 (some t) (fun n18 => fc_M_takeIn n18 x3 x2 H) fun H17 =>
  fb_M_partedJob_14 fu t x1 x2 (x3 + (1 : Int32)) H17))
  else (fb_M_partedJob_14 fu t x1 x2 (x3 + (1 : Int32)) H))
  else (fb_M_partedJob_14 fu t x1 x2 (x3 + (1 : Int32)) H))
  else (fb_M_partedJob_14 fu t x1 x2 (x3 + (1 : Int32)) H))
  else (xo_gp 9 17 H (some t) fun o3 =>
  xo_az H o3 x1 (0 : Int32) fun H4 =>
  xo_gp 9 18 H4 (some t) fun o5 =>
  xo_al 1 H4 o5 x1 fun v6 =>
  if v6 = 0 then (some H4)
  else (xo_cl 9 (some t) (fun n8 => fc_M_readOn n8 x1 H4) fun H7 =>
  some H7))

def fc_M_partedJob (t : xo_N) (x1 : Int32) (x2 : Int32) (H : xo_H) : Option (xo_H) :=
  xo_gp 9 18 H (some t) fun o1 =>
  xo_az H o1 x1 (0 : Int32) fun H2 =>
  xo_gp 9 15 H2 (some t) fun o3 =>
  xo_al 0 H2 o3 x1 fun v4 =>
  fb_M_partedJob_14 1000 t x1 x2 v4 H2

set_option maxRecDepth 100000 in
set_option maxHeartbeats 4000000 in
theorem kb_M_partedJob_14 : ∀ (fu : Nat) (t : xo_N) (x1 : Int32) (x2 : Int32) (x3 : Int32) (H : xo_H) (r : xo_H), xo_X mt_M_partedJob 0 0 xo_jv r 14 [(0, .inr (some t)), (1, .inl x1), (2, .inl x2), (3, .inl x3)] [] H (fb_M_partedJob_14 fu t x1 x2 x3 H) := by
  intro fu
  induction fu with
  | zero => intros; exact xo_no
  | succ fu ih =>
    intro t x1 x2 x3 H r
    rw [fb_M_partedJob_14]
    refine xo_iload_n (pc' := 15) dd_M_partedJob_14 rfl 3 rfl rfl ?_
    refine xo_aload_n (pc' := 16) dd_M_partedJob_15 rfl 0 rfl rfl ?_
    refine xo_getP (pc' := 19) dd_M_partedJob_16 ff_M_53 (by decide) rfl fun o1 => ?_
    refine xo_iload_n (pc' := 20) dd_M_partedJob_19 rfl 1 rfl rfl ?_
    refine xo_iald (pc' := 21) dd_M_partedJob_20 rfl fun v2 => ?_
    refine xo_iconst (pc' := 22) (v := (2 : Int32)) dd_M_partedJob_21 (by decide) rfl ?_
    refine xo_iadd (pc' := 23) dd_M_partedJob_22 rfl ?_
    refine xo_icmp_ge (pc' := 26) (tgt := 86) dd_M_partedJob_23 rfl rfl ?_ ?_
    · refine xo_aload_n (pc' := 87) dd_M_partedJob_86 rfl 0 rfl rfl ?_
      refine xo_getP (pc' := 90) dd_M_partedJob_87 ff_M_59 (by decide) rfl fun o3 => ?_
      refine xo_iload_n (pc' := 91) dd_M_partedJob_90 rfl 1 rfl rfl ?_
      refine xo_iconst (pc' := 92) (v := (0 : Int32)) dd_M_partedJob_91 (by decide) rfl ?_
      refine xo_zast (pc' := 93) dd_M_partedJob_92 rfl fun H4 => ?_
      refine xo_aload_n (pc' := 94) dd_M_partedJob_93 rfl 0 rfl rfl ?_
      refine xo_getP (pc' := 97) dd_M_partedJob_94 ff_M_62 (by decide) rfl fun o5 => ?_
      refine xo_iload_n (pc' := 98) dd_M_partedJob_97 rfl 1 rfl rfl ?_
      refine xo_zald (pc' := 99) dd_M_partedJob_98 rfl fun v6 => ?_
      refine xo_if_eq (pc' := 102) (tgt := 107) dd_M_partedJob_99 rfl rfl ?_ ?_
      · exact xo_vret dd_M_partedJob_107 rfl
      · refine xo_aload_n (pc' := 103) dd_M_partedJob_102 rfl 0 rfl rfl ?_
        refine xo_iload_n (pc' := 104) dd_M_partedJob_103 rfl 1 rfl rfl ?_
        refine xo_callVv (as := [.inl x1]) (o := (some t)) (st := []) (pc' := 107) dd_M_partedJob_104 cv_M_readOn ml_M_215 rfl rfl ⟨by decide, by decide⟩ rfl rfl rfl (Nat.le_of_ble_eq_true rfl) rfl (fun n q h => kc_M_readOn n x1 H4 q h) fun H7 => ?_
        exact xo_vret dd_M_partedJob_107 rfl
    · refine xo_aload_n (pc' := 27) dd_M_partedJob_26 rfl 0 rfl rfl ?_
      refine xo_getP (pc' := 30) dd_M_partedJob_27 ff_M_7 (by decide) rfl fun o9 => ?_
      refine xo_iload_n (pc' := 31) dd_M_partedJob_30 rfl 3 rfl rfl ?_
      refine xo_iald (pc' := 32) dd_M_partedJob_31 rfl fun v10 => ?_
      refine xo_if_ne (pc' := 35) (tgt := 80) dd_M_partedJob_32 rfl rfl ?_ ?_
      · refine xo_iinc (pc' := 83) dd_M_partedJob_80 3 rfl (xo_ii (m := (1 : Int32)) (by decide)) (by decide) rfl rfl ?_
        refine xo_goto (pc' := 14) dd_M_partedJob_83 rfl ?_
        refine xo_sub [1, 2, 3, 0] rfl ?_
        exact ih t x1 x2 (x3 + (1 : Int32)) H r
      · refine xo_aload_n (pc' := 36) dd_M_partedJob_35 rfl 0 rfl rfl ?_
        refine xo_getP (pc' := 39) dd_M_partedJob_36 ff_M_23 (by decide) rfl fun o11 => ?_
        refine xo_iload_n (pc' := 40) dd_M_partedJob_39 rfl 3 rfl rfl ?_
        refine xo_zald (pc' := 41) dd_M_partedJob_40 rfl fun v12 => ?_
        refine xo_if_ne (pc' := 44) (tgt := 80) dd_M_partedJob_41 rfl rfl ?_ ?_
        · refine xo_iinc (pc' := 83) dd_M_partedJob_80 3 rfl (xo_ii (m := (1 : Int32)) (by decide)) (by decide) rfl rfl ?_
          refine xo_goto (pc' := 14) dd_M_partedJob_83 rfl ?_
          refine xo_sub [1, 2, 3, 0] rfl ?_
          exact ih t x1 x2 (x3 + (1 : Int32)) H r
        · refine xo_aload_n (pc' := 45) dd_M_partedJob_44 rfl 0 rfl rfl ?_
          refine xo_getP (pc' := 48) dd_M_partedJob_45 ff_M_65 (by decide) rfl fun o13 => ?_
          refine xo_iload_n (pc' := 49) dd_M_partedJob_48 rfl 3 rfl rfl ?_
          refine xo_zald (pc' := 50) dd_M_partedJob_49 rfl fun v14 => ?_
          refine xo_if_ne (pc' := 53) (tgt := 80) dd_M_partedJob_50 rfl rfl ?_ ?_
          · refine xo_iinc (pc' := 83) dd_M_partedJob_80 3 rfl (xo_ii (m := (1 : Int32)) (by decide)) (by decide) rfl rfl ?_
            refine xo_goto (pc' := 14) dd_M_partedJob_83 rfl ?_
            refine xo_sub [1, 2, 3, 0] rfl ?_
            exact ih t x1 x2 (x3 + (1 : Int32)) H r
          · refine xo_aload_n (pc' := 54) dd_M_partedJob_53 rfl 0 rfl rfl ?_
            refine xo_getP (pc' := 57) dd_M_partedJob_54 ff_M_38 (by decide) rfl fun o15 => ?_
            refine xo_iload_n (pc' := 58) dd_M_partedJob_57 rfl 3 rfl rfl ?_
            refine xo_iald (pc' := 59) dd_M_partedJob_58 rfl fun v16 => ?_
            refine xo_bipush (pc' := 61) (v := (16 : Int32)) dd_M_partedJob_59 (by decide) rfl ?_
            refine xo_icmp_ne (pc' := 64) (tgt := 74) dd_M_partedJob_61 rfl rfl ?_ ?_
            · refine xo_aload_n (pc' := 75) dd_M_partedJob_74 rfl 0 rfl rfl ?_
              refine xo_iload_n (pc' := 76) dd_M_partedJob_75 rfl 3 rfl rfl ?_
              refine xo_iload_n (pc' := 77) dd_M_partedJob_76 rfl 2 rfl rfl ?_
              refine xo_callVv (as := [.inl x3, .inl x2]) (o := (some t)) (st := []) (pc' := 80) dd_M_partedJob_77 cv_M_takeIn ml_M_233 rfl rfl ⟨by decide, by decide⟩ rfl rfl rfl (Nat.le_of_ble_eq_true rfl) rfl (fun n q h => kc_M_takeIn n x3 x2 H q h) fun H17 => ?_
              refine xo_iinc (pc' := 83) dd_M_partedJob_80 3 rfl (xo_ii (m := (1 : Int32)) (by decide)) (by decide) rfl rfl ?_
              refine xo_goto (pc' := 14) dd_M_partedJob_83 rfl ?_
              refine xo_sub [1, 2, 3, 0] rfl ?_
              exact ih t x1 x2 (x3 + (1 : Int32)) H17 r
            · refine xo_aload_n (pc' := 65) dd_M_partedJob_64 rfl 0 rfl rfl ?_
              refine xo_iload_n (pc' := 66) dd_M_partedJob_65 rfl 3 rfl rfl ?_
              refine xo_bipush (pc' := 68) (v := (101 : Int32)) dd_M_partedJob_66 (by decide) rfl ?_
              refine xo_callVv (as := [.inl x3, .inl (101 : Int32)]) (o := (some t)) (st := []) (pc' := 71) dd_M_partedJob_68 cv_M_failPlain ml_M_192 rfl rfl ⟨by decide, by decide⟩ rfl rfl rfl (Nat.le_of_ble_eq_true rfl) rfl (fun n q h => kc_M_failPlain n x3 (101 : Int32) H q h) fun H19 => ?_
              refine xo_goto (pc' := 80) dd_M_partedJob_71 rfl ?_
              refine xo_iinc (pc' := 83) dd_M_partedJob_80 3 rfl (xo_ii (m := (1 : Int32)) (by decide)) (by decide) rfl rfl ?_
              refine xo_goto (pc' := 14) dd_M_partedJob_83 rfl ?_
              refine xo_sub [1, 2, 3, 0] rfl ?_
              exact ih t x1 x2 (x3 + (1 : Int32)) H19 r
set_option maxRecDepth 100000 in
set_option maxHeartbeats 4000000 in
theorem kb_M_partedJob (t : xo_N) (x1 : Int32) (x2 : Int32) (H : xo_H) (r : xo_H) : xo_X mt_M_partedJob 0 0 xo_jv r 0 [(0, .inr (some t)), (1, .inl x1), (2, .inl x2)] [] H (fc_M_partedJob t x1 x2 H) := by
  unfold fc_M_partedJob
  refine xo_aload_n (pc' := 1) dd_M_partedJob_0 rfl 0 rfl rfl ?_
  refine xo_getP (pc' := 4) dd_M_partedJob_1 ff_M_62 (by decide) rfl fun o1 => ?_
  refine xo_iload_n (pc' := 5) dd_M_partedJob_4 rfl 1 rfl rfl ?_
  refine xo_iconst (pc' := 6) (v := (0 : Int32)) dd_M_partedJob_5 (by decide) rfl ?_
  refine xo_zast (pc' := 7) dd_M_partedJob_6 rfl fun H2 => ?_
  refine xo_aload_n (pc' := 8) dd_M_partedJob_7 rfl 0 rfl rfl ?_
  refine xo_getP (pc' := 11) dd_M_partedJob_8 ff_M_53 (by decide) rfl fun o3 => ?_
  refine xo_iload_n (pc' := 12) dd_M_partedJob_11 rfl 1 rfl rfl ?_
  refine xo_iald (pc' := 13) dd_M_partedJob_12 rfl fun v4 => ?_
  refine xo_istore_n (pc' := 14) dd_M_partedJob_13 rfl (by decide) rfl rfl ?_
  refine xo_sub [1, 2, 3, 0] rfl ?_
  exact kb_M_partedJob_14 1000 t x1 x2 v4 H2 r
set_option maxRecDepth 100000 in
set_option maxHeartbeats 4000000 in
theorem kc_M_partedJob (t : xo_N) (x1 : Int32) (x2 : Int32) (H : xo_H) (r : xo_H) (hk : fc_M_partedJob t x1 x2 H = some r) : xo_M mt_M_partedJob [.inr (some t), .inl x1, .inl x2] H (xo_jv r) :=
  xo_entry hk (by decide +kernel) (Nat.le_of_ble_eq_true rfl) (kb_M_partedJob t x1 x2 H r)
def fb_M_asks_4 : Nat → xo_N → Int32 → Int32 → Int32 → xo_H → Option (Int32 × xo_H)
  | 0, _, _, _, _, _ => none
  | fu + 1, t, x1, x2, x3, H =>
  xo_gp 9 12 H (some t) fun o1 =>
  xo_gp 9 37 H (some t) fun o2 =>
  xo_al 0 H o2 x1 fun v3 =>
  xo_al 0 H o1 v3 fun v4 =>
  if x3 < v4 then (if x2 = 0 then (xo_gp 9 11 H (some t) fun o5 =>
  xo_gp 9 37 H (some t) fun o6 =>
  xo_al 0 H o6 x1 fun v7 =>
  xo_al 0 H o5 (((8 : Int32) * v7) + x3) fun v8 =>
  if v8 = ((-2 : Int32) - x1) then (fb_M_asks_4 fu t x1 (1 : Int32) (x3 + (1 : Int32)) H)
  else (fb_M_asks_4 fu t x1 (0 : Int32) (x3 + (1 : Int32)) H))
  else (fb_M_asks_4 fu t x1 (1 : Int32) (x3 + (1 : Int32)) H))
  else (xo_gb x2 (some (x2, H)))

def fc_M_asks (t : xo_N) (x1 : Int32) (H : xo_H) : Option (Int32 × xo_H) :=
  fb_M_asks_4 1000 t x1 (0 : Int32) (0 : Int32) H

set_option maxRecDepth 100000 in
set_option maxHeartbeats 4000000 in
theorem kb_M_asks_4 : ∀ (fu : Nat) (t : xo_N) (x1 : Int32) (x2 : Int32) (x3 : Int32) (H : xo_H) (r : Int32 × xo_H), xo_X mt_M_asks 0 0 xo_ji r 4 [(0, .inr (some t)), (1, .inl x1), (2, .inl x2), (3, .inl x3)] [] H (fb_M_asks_4 fu t x1 x2 x3 H) := by
  intro fu
  induction fu with
  | zero => intros; exact xo_no
  | succ fu ih =>
    intro t x1 x2 x3 H r
    rw [fb_M_asks_4]
    refine xo_iload_n (pc' := 5) dd_M_asks_4 rfl 3 rfl rfl ?_
    refine xo_aload_n (pc' := 6) dd_M_asks_5 rfl 0 rfl rfl ?_
    refine xo_getP (pc' := 9) dd_M_asks_6 ff_M_44 (by decide) rfl fun o1 => ?_
    refine xo_aload_n (pc' := 10) dd_M_asks_9 rfl 0 rfl rfl ?_
    refine xo_getP (pc' := 13) dd_M_asks_10 ff_M_113 (by decide) rfl fun o2 => ?_
    refine xo_iload_n (pc' := 14) dd_M_asks_13 rfl 1 rfl rfl ?_
    refine xo_iald (pc' := 15) dd_M_asks_14 rfl fun v3 => ?_
    refine xo_iald (pc' := 16) dd_M_asks_15 rfl fun v4 => ?_
    refine xo_icmp_ge (pc' := 19) (tgt := 58) dd_M_asks_16 rfl rfl ?_ ?_
    · refine xo_iload_n (pc' := 59) dd_M_asks_58 rfl 2 rfl rfl ?_
      exact xo_zret dd_M_asks_59 rfl
    · refine xo_iload_n (pc' := 20) dd_M_asks_19 rfl 2 rfl rfl ?_
      refine xo_if_ne (pc' := 23) (tgt := 46) dd_M_asks_20 rfl rfl ?_ ?_
      · refine xo_iconst (pc' := 47) (v := (1 : Int32)) dd_M_asks_46 (by decide) rfl ?_
        refine xo_goto (pc' := 51) dd_M_asks_47 rfl ?_
        refine xo_istore_n (pc' := 52) dd_M_asks_51 rfl (by decide) rfl rfl ?_
        refine xo_iinc (pc' := 55) dd_M_asks_52 3 rfl (xo_ii (m := (1 : Int32)) (by decide)) (by decide) rfl rfl ?_
        refine xo_goto (pc' := 4) dd_M_asks_55 rfl ?_
        refine xo_sub [2, 3, 1, 0] rfl ?_
        exact ih t x1 (1 : Int32) (x3 + (1 : Int32)) H r
      · refine xo_aload_n (pc' := 24) dd_M_asks_23 rfl 0 rfl rfl ?_
        refine xo_getP (pc' := 27) dd_M_asks_24 ff_M_41 (by decide) rfl fun o5 => ?_
        refine xo_bipush (pc' := 29) (v := (8 : Int32)) dd_M_asks_27 (by decide) rfl ?_
        refine xo_aload_n (pc' := 30) dd_M_asks_29 rfl 0 rfl rfl ?_
        refine xo_getP (pc' := 33) dd_M_asks_30 ff_M_113 (by decide) rfl fun o6 => ?_
        refine xo_iload_n (pc' := 34) dd_M_asks_33 rfl 1 rfl rfl ?_
        refine xo_iald (pc' := 35) dd_M_asks_34 rfl fun v7 => ?_
        refine xo_imul (pc' := 36) dd_M_asks_35 rfl ?_
        refine xo_iload_n (pc' := 37) dd_M_asks_36 rfl 3 rfl rfl ?_
        refine xo_iadd (pc' := 38) dd_M_asks_37 rfl ?_
        refine xo_iald (pc' := 39) dd_M_asks_38 rfl fun v8 => ?_
        refine xo_bipush (pc' := 41) (v := (-2 : Int32)) dd_M_asks_39 (by decide) rfl ?_
        refine xo_iload_n (pc' := 42) dd_M_asks_41 rfl 1 rfl rfl ?_
        refine xo_isub (pc' := 43) dd_M_asks_42 rfl ?_
        refine xo_icmp_ne (pc' := 46) (tgt := 50) dd_M_asks_43 rfl rfl ?_ ?_
        · refine xo_iconst (pc' := 51) (v := (0 : Int32)) dd_M_asks_50 (by decide) rfl ?_
          refine xo_istore_n (pc' := 52) dd_M_asks_51 rfl (by decide) rfl rfl ?_
          refine xo_iinc (pc' := 55) dd_M_asks_52 3 rfl (xo_ii (m := (1 : Int32)) (by decide)) (by decide) rfl rfl ?_
          refine xo_goto (pc' := 4) dd_M_asks_55 rfl ?_
          refine xo_sub [2, 3, 1, 0] rfl ?_
          exact ih t x1 (0 : Int32) (x3 + (1 : Int32)) H r
        · refine xo_iconst (pc' := 47) (v := (1 : Int32)) dd_M_asks_46 (by decide) rfl ?_
          refine xo_goto (pc' := 51) dd_M_asks_47 rfl ?_
          refine xo_istore_n (pc' := 52) dd_M_asks_51 rfl (by decide) rfl rfl ?_
          refine xo_iinc (pc' := 55) dd_M_asks_52 3 rfl (xo_ii (m := (1 : Int32)) (by decide)) (by decide) rfl rfl ?_
          refine xo_goto (pc' := 4) dd_M_asks_55 rfl ?_
          refine xo_sub [2, 3, 1, 0] rfl ?_
          exact ih t x1 (1 : Int32) (x3 + (1 : Int32)) H r
set_option maxRecDepth 100000 in
set_option maxHeartbeats 4000000 in
theorem kb_M_asks (t : xo_N) (x1 : Int32) (H : xo_H) (r : Int32 × xo_H) : xo_X mt_M_asks 0 0 xo_ji r 0 [(0, .inr (some t)), (1, .inl x1)] [] H (fc_M_asks t x1 H) := by
  unfold fc_M_asks
  refine xo_iconst (pc' := 1) (v := (0 : Int32)) dd_M_asks_0 (by decide) rfl ?_
  refine xo_istore_n (pc' := 2) dd_M_asks_1 rfl (by decide) rfl rfl ?_
  refine xo_iconst (pc' := 3) (v := (0 : Int32)) dd_M_asks_2 (by decide) rfl ?_
  refine xo_istore_n (pc' := 4) dd_M_asks_3 rfl (by decide) rfl rfl ?_
  refine xo_sub [2, 3, 1, 0] rfl ?_
  exact kb_M_asks_4 1000 t x1 (0 : Int32) (0 : Int32) H r
set_option maxRecDepth 100000 in
set_option maxHeartbeats 4000000 in
theorem kc_M_asks (t : xo_N) (x1 : Int32) (H : xo_H) (r : Int32 × xo_H) (hk : fc_M_asks t x1 H = some r) : xo_M mt_M_asks [.inr (some t), .inl x1] H (xo_ji r) :=
  xo_entry hk (by decide +kernel) (Nat.le_of_ble_eq_true rfl) (kb_M_asks t x1 H r)
def fb_M_finish_41 : Nat → xo_N → Int32 → Int32 → Int32 → Int32 → Int32 → Int32 → xo_H → Option (xo_H)
  | 0, _, _, _, _, _, _, _, _ => none
  | fu + 1, t, x1, x2, x3, x4, x5, x6, H =>
  xo_gp 9 12 H (some t) fun o1 =>
  xo_al 0 H o1 x4 fun v2 =>
  if x6 < v2 then (xo_gp 9 11 H (some t) fun o7 =>
  xo_al 0 H o7 (((8 : Int32) * x4) + x6) fun v8 =>
  if v8 = ((-2 : Int32) - x1) then (fb_M_finish_41 fu t x1 x2 x3 x4 x5 (x6 + (1 : Int32)) H)
  else (xo_gp 9 11 H (some t) fun o9 =>
  xo_as H o9 (((8 : Int32) * x4) + x5) v8 fun H10 =>
  fb_M_finish_41 fu t x1 x2 x3 x4 (x5 + (1 : Int32)) (x6 + (1 : Int32)) H10))
  else (xo_gp 9 12 H (some t) fun o3 =>
  xo_as H o3 x4 x5 fun H4 =>
  xo_cl 9 (some t) (fun n6 => fc_M_happen n6 x2 x1 x3 (0 : Int32) H4) fun H5 =>
  some H5)

def fc_M_finish (t : xo_N) (x1 : Int32) (x2 : Int32) (x3 : Int32) (H : xo_H) : Option (xo_H) :=
  xo_gp 9 37 H (some t) fun o1 =>
  xo_al 0 H o1 x1 fun v2 =>
  xo_gp 9 40 H (some t) fun o3 =>
  xo_az H o3 x1 (1 : Int32) fun H4 =>
  xo_gp 9 8 H4 (some t) fun o5 =>
  xo_as H4 o5 v2 (0 : Int32) fun H6 =>
  xo_gp 9 34 H6 (some t) fun o7 =>
  xo_gp 9 38 H6 (some t) fun o8 =>
  xo_al 0 H6 o8 x1 fun v9 =>
  xo_az H6 o7 v9 (0 : Int32) fun H10 =>
  fb_M_finish_41 1000 t x1 x2 x3 v2 (0 : Int32) (0 : Int32) H10

set_option maxRecDepth 100000 in
set_option maxHeartbeats 4000000 in
theorem kb_M_finish_41 : ∀ (fu : Nat) (t : xo_N) (x1 : Int32) (x2 : Int32) (x3 : Int32) (x4 : Int32) (x5 : Int32) (x6 : Int32) (H : xo_H) (r : xo_H), xo_X mt_M_finish 0 0 xo_jv r 41 [(0, .inr (some t)), (1, .inl x1), (2, .inl x2), (3, .inl x3), (4, .inl x4), (5, .inl x5), (6, .inl x6)] [] H (fb_M_finish_41 fu t x1 x2 x3 x4 x5 x6 H) := by
  intro fu
  induction fu with
  | zero => intros; exact xo_no
  | succ fu ih =>
    intro t x1 x2 x3 x4 x5 x6 H r
    rw [fb_M_finish_41]
    refine xo_iload (pc' := 43) dd_M_finish_41 6 rfl rfl ?_
    refine xo_aload_n (pc' := 44) dd_M_finish_43 rfl 0 rfl rfl ?_
    refine xo_getP (pc' := 47) dd_M_finish_44 ff_M_44 (by decide) rfl fun o1 => ?_
    refine xo_iload (pc' := 49) dd_M_finish_47 4 rfl rfl ?_
    refine xo_iald (pc' := 50) dd_M_finish_49 rfl fun v2 => ?_
    refine xo_icmp_ge (pc' := 53) (tgt := 101) dd_M_finish_50 rfl rfl ?_ ?_
    · refine xo_aload_n (pc' := 102) dd_M_finish_101 rfl 0 rfl rfl ?_
      refine xo_getP (pc' := 105) dd_M_finish_102 ff_M_44 (by decide) rfl fun o3 => ?_
      refine xo_iload (pc' := 107) dd_M_finish_105 4 rfl rfl ?_
      refine xo_iload (pc' := 109) dd_M_finish_107 5 rfl rfl ?_
      refine xo_iast (pc' := 110) dd_M_finish_109 rfl fun H4 => ?_
      refine xo_aload_n (pc' := 111) dd_M_finish_110 rfl 0 rfl rfl ?_
      refine xo_iload_n (pc' := 112) dd_M_finish_111 rfl 2 rfl rfl ?_
      refine xo_iload_n (pc' := 113) dd_M_finish_112 rfl 1 rfl rfl ?_
      refine xo_iload_n (pc' := 114) dd_M_finish_113 rfl 3 rfl rfl ?_
      refine xo_iconst (pc' := 115) (v := (0 : Int32)) dd_M_finish_114 (by decide) rfl ?_
      refine xo_callVv (as := [.inl x2, .inl x1, .inl x3, .inl (0 : Int32)]) (o := (some t)) (st := []) (pc' := 118) dd_M_finish_115 cv_M_happen ml_M_160 rfl rfl ⟨by decide, by decide⟩ rfl rfl rfl (Nat.le_of_ble_eq_true rfl) rfl (fun n q h => kc_M_happen n x2 x1 x3 (0 : Int32) H4 q h) fun H5 => ?_
      exact xo_vret dd_M_finish_118 rfl
    · refine xo_aload_n (pc' := 54) dd_M_finish_53 rfl 0 rfl rfl ?_
      refine xo_getP (pc' := 57) dd_M_finish_54 ff_M_41 (by decide) rfl fun o7 => ?_
      refine xo_bipush (pc' := 59) (v := (8 : Int32)) dd_M_finish_57 (by decide) rfl ?_
      refine xo_iload (pc' := 61) dd_M_finish_59 4 rfl rfl ?_
      refine xo_imul (pc' := 62) dd_M_finish_61 rfl ?_
      refine xo_iload (pc' := 64) dd_M_finish_62 6 rfl rfl ?_
      refine xo_iadd (pc' := 65) dd_M_finish_64 rfl ?_
      refine xo_iald (pc' := 66) dd_M_finish_65 rfl fun v8 => ?_
      refine xo_istore (pc' := 68) dd_M_finish_66 (by decide) rfl rfl ?_
      refine xo_iload (pc' := 70) dd_M_finish_68 0 rfl rfl ?_
      refine xo_bipush (pc' := 72) (v := (-2 : Int32)) dd_M_finish_70 (by decide) rfl ?_
      refine xo_iload_n (pc' := 73) dd_M_finish_72 rfl 2 rfl rfl ?_
      refine xo_isub (pc' := 74) dd_M_finish_73 rfl ?_
      refine xo_icmp_eq (pc' := 77) (tgt := 95) dd_M_finish_74 rfl rfl ?_ ?_
      · refine xo_iinc (pc' := 98) dd_M_finish_95 7 rfl (xo_ii (m := (1 : Int32)) (by decide)) (by decide) rfl rfl ?_
        refine xo_goto (pc' := 41) dd_M_finish_98 rfl ?_
        refine xo_sub [2, 3, 4, 5, 6, 7, 0] rfl ?_
        exact ih t x1 x2 x3 x4 x5 (x6 + (1 : Int32)) H r
      · refine xo_aload_n (pc' := 78) dd_M_finish_77 rfl 1 rfl rfl ?_
        refine xo_getP (pc' := 81) dd_M_finish_78 ff_M_41 (by decide) rfl fun o9 => ?_
        refine xo_bipush (pc' := 83) (v := (8 : Int32)) dd_M_finish_81 (by decide) rfl ?_
        refine xo_iload (pc' := 85) dd_M_finish_83 5 rfl rfl ?_
        refine xo_imul (pc' := 86) dd_M_finish_85 rfl ?_
        refine xo_iload (pc' := 88) dd_M_finish_86 6 rfl rfl ?_
        refine xo_iadd (pc' := 89) dd_M_finish_88 rfl ?_
        refine xo_iload (pc' := 91) dd_M_finish_89 0 rfl rfl ?_
        refine xo_iast (pc' := 92) dd_M_finish_91 rfl fun H10 => ?_
        refine xo_iinc (pc' := 95) dd_M_finish_92 6 rfl (xo_ii (m := (1 : Int32)) (by decide)) (by decide) rfl rfl ?_
        refine xo_iinc (pc' := 98) dd_M_finish_95 7 rfl (xo_ii (m := (1 : Int32)) (by decide)) (by decide) rfl rfl ?_
        refine xo_goto (pc' := 41) dd_M_finish_98 rfl ?_
        refine xo_sub [3, 4, 5, 6, 7, 1, 0] rfl ?_
        exact ih t x1 x2 x3 x4 (x5 + (1 : Int32)) (x6 + (1 : Int32)) H10 r
set_option maxRecDepth 100000 in
set_option maxHeartbeats 4000000 in
theorem kb_M_finish (t : xo_N) (x1 : Int32) (x2 : Int32) (x3 : Int32) (H : xo_H) (r : xo_H) : xo_X mt_M_finish 0 0 xo_jv r 0 [(0, .inr (some t)), (1, .inl x1), (2, .inl x2), (3, .inl x3)] [] H (fc_M_finish t x1 x2 x3 H) := by
  unfold fc_M_finish
  refine xo_aload_n (pc' := 1) dd_M_finish_0 rfl 0 rfl rfl ?_
  refine xo_getP (pc' := 4) dd_M_finish_1 ff_M_113 (by decide) rfl fun o1 => ?_
  refine xo_iload_n (pc' := 5) dd_M_finish_4 rfl 1 rfl rfl ?_
  refine xo_iald (pc' := 6) dd_M_finish_5 rfl fun v2 => ?_
  refine xo_istore (pc' := 8) dd_M_finish_6 (by decide) rfl rfl ?_
  refine xo_aload_n (pc' := 9) dd_M_finish_8 rfl 1 rfl rfl ?_
  refine xo_getP (pc' := 12) dd_M_finish_9 ff_M_122 (by decide) rfl fun o3 => ?_
  refine xo_iload_n (pc' := 13) dd_M_finish_12 rfl 2 rfl rfl ?_
  refine xo_iconst (pc' := 14) (v := (1 : Int32)) dd_M_finish_13 (by decide) rfl ?_
  refine xo_zast (pc' := 15) dd_M_finish_14 rfl fun H4 => ?_
  refine xo_aload_n (pc' := 16) dd_M_finish_15 rfl 1 rfl rfl ?_
  refine xo_getP (pc' := 19) dd_M_finish_16 ff_M_32 (by decide) rfl fun o5 => ?_
  refine xo_iload (pc' := 21) dd_M_finish_19 0 rfl rfl ?_
  refine xo_iconst (pc' := 22) (v := (0 : Int32)) dd_M_finish_21 (by decide) rfl ?_
  refine xo_iast (pc' := 23) dd_M_finish_22 rfl fun H6 => ?_
  refine xo_aload_n (pc' := 24) dd_M_finish_23 rfl 1 rfl rfl ?_
  refine xo_getP (pc' := 27) dd_M_finish_24 ff_M_107 (by decide) rfl fun o7 => ?_
  refine xo_aload_n (pc' := 28) dd_M_finish_27 rfl 1 rfl rfl ?_
  refine xo_getP (pc' := 31) dd_M_finish_28 ff_M_116 (by decide) rfl fun o8 => ?_
  refine xo_iload_n (pc' := 32) dd_M_finish_31 rfl 2 rfl rfl ?_
  refine xo_iald (pc' := 33) dd_M_finish_32 rfl fun v9 => ?_
  refine xo_iconst (pc' := 34) (v := (0 : Int32)) dd_M_finish_33 (by decide) rfl ?_
  refine xo_zast (pc' := 35) dd_M_finish_34 rfl fun H10 => ?_
  refine xo_iconst (pc' := 36) (v := (0 : Int32)) dd_M_finish_35 (by decide) rfl ?_
  refine xo_istore (pc' := 38) dd_M_finish_36 (by decide) rfl rfl ?_
  refine xo_iconst (pc' := 39) (v := (0 : Int32)) dd_M_finish_38 (by decide) rfl ?_
  refine xo_istore (pc' := 41) dd_M_finish_39 (by decide) rfl rfl ?_
  refine xo_sub [3, 4, 5, 6, 2, 1, 0] rfl ?_
  exact kb_M_finish_41 1000 t x1 x2 x3 v2 (0 : Int32) (0 : Int32) H10 r
set_option maxRecDepth 100000 in
set_option maxHeartbeats 4000000 in
theorem kc_M_finish (t : xo_N) (x1 : Int32) (x2 : Int32) (x3 : Int32) (H : xo_H) (r : xo_H) (hk : fc_M_finish t x1 x2 x3 H = some r) : xo_M mt_M_finish [.inr (some t), .inl x1, .inl x2, .inl x3] H (xo_jv r) :=
  xo_entry hk (by decide +kernel) (Nat.le_of_ble_eq_true rfl) (kb_M_finish t x1 x2 x3 H r)
def fb_M_pump_226 (t : xo_N) (x1 : Int32) (H : xo_H) : Option (Int32 × xo_H) :=
  xo_cl 9 (some t) (fun n2 => fc_M_finish n2 x1 (16 : Int32) (100 : Int32) H) fun H1 =>
  xo_gb (1 : Int32) (some ((1 : Int32), H1))

def fb_M_pump_208 (t : xo_N) (x1 : Int32) (x2 : Int32) (H : xo_H) : Option (Int32 × xo_H) :=
  xo_gp 9 39 H (some t) fun o1 =>
  xo_al 0 H o1 x1 fun v2 =>
  if (v2 &&& (4 : Int32)) = 0 then (xo_cl 9 (some t) (fun n4 => fc_M_cancelGiver n4 x2 (100 : Int32) H) fun H3 =>
  fb_M_pump_226 t x1 H3)
  else (fb_M_pump_226 t x1 H)

def fb_M_pump_168 (t : xo_N) (x1 : Int32) (H : xo_H) : Option (Int32 × xo_H) :=
  xo_cl 9 (some t) (fun n2 => fc_M_finish n2 x1 (15 : Int32) (0 : Int32) H) fun H1 =>
  xo_gb (1 : Int32) (some ((1 : Int32), H1))

def fb_M_pump_119 (t : xo_N) (x1 : Int32) (x4 : Int32) (H : xo_H) : Option (Int32 × xo_H) :=
  xo_cl 9 (some t) (fun n2 => fc_M_finish n2 x1 (16 : Int32) x4 H) fun H1 =>
  xo_gb (1 : Int32) (some ((1 : Int32), H1))

def fb_M_pump_93 (t : xo_N) (x1 : Int32) (x2 : Int32) (x3 : Int32) (H : xo_H) : Option (Int32 × xo_H) :=
  xo_gp 9 22 H (some t) fun o1 =>
  xo_al 0 H o1 x3 fun v2 =>
  xo_gp 9 39 H (some t) fun o3 =>
  xo_al 0 H o3 x1 fun v4 =>
  if (v4 &&& (4 : Int32)) = 0 then (xo_cl 9 (some t) (fun n6 => fc_M_cancelGiver n6 x2 v2 H) fun H5 =>
  fb_M_pump_119 t x1 v2 H5)
  else (fb_M_pump_119 t x1 v2 H)

def fb_M_pump_61 (t : xo_N) (x1 : Int32) (x4 : Int32) (H : xo_H) : Option (Int32 × xo_H) :=
  xo_cl 9 (some t) (fun n2 => fc_M_finish n2 x1 (16 : Int32) x4 H) fun H1 =>
  xo_gb (1 : Int32) (some ((1 : Int32), H1))

def fc_M_pump (t : xo_N) (x1 : Int32) (H : xo_H) : Option (Int32 × xo_H) :=
  xo_gp 9 40 H (some t) fun o1 =>
  xo_al 1 H o1 x1 fun v2 =>
  if v2 = 0 then (xo_gp 9 37 H (some t) fun o3 =>
  xo_al 0 H o3 x1 fun v4 =>
  xo_gp 9 38 H (some t) fun o5 =>
  xo_al 0 H o5 x1 fun v6 =>
  xo_gp 9 1 H (some t) fun o7 =>
  xo_al 0 H o7 v4 fun v8 =>
  if v8 = (2 : Int32) then (xo_gp 9 2 H (some t) fun o35 =>
  xo_al 0 H o35 v4 fun v36 =>
  xo_gp 9 39 H (some t) fun o37 =>
  xo_al 0 H o37 x1 fun v38 =>
  if (v38 &&& (2 : Int32)) = 0 then (xo_cl 9 (some t) (fun n40 => fc_M_abortTaker n40 v6 v36 H) fun H39 =>
  fb_M_pump_61 t x1 v36 H39)
  else (fb_M_pump_61 t x1 v36 H))
  else (xo_gp 9 21 H (some t) fun o9 =>
  xo_al 0 H o9 v6 fun v10 =>
  if v10 = (1 : Int32) then (fb_M_pump_93 t x1 v4 v6 H)
  else (xo_gp 9 21 H (some t) fun o11 =>
  xo_al 0 H o11 v6 fun v12 =>
  if v12 = (2 : Int32) then (fb_M_pump_93 t x1 v4 v6 H)
  else (xo_gp 9 1 H (some t) fun o13 =>
  xo_al 0 H o13 v4 fun v14 =>
  if v14 = (1 : Int32) then (xo_gp 9 27 H (some t) fun o29 =>
  xo_al 0 H o29 v6 fun v30 =>
  if 0 < v30 then (xo_gb (0 : Int32) (some ((0 : Int32), H)))
  else (xo_gp 9 39 H (some t) fun o31 =>
  xo_al 0 H o31 x1 fun v32 =>
  if (v32 &&& (1 : Int32)) = 0 then (xo_cl 9 (some t) (fun n34 => fc_M_shutDown n34 v6 H) fun H33 =>
  fb_M_pump_168 t x1 H33)
  else (fb_M_pump_168 t x1 H)))
  else (xo_gp 9 29 H (some t) fun o15 =>
  xo_al 1 H o15 v6 fun v16 =>
  if v16 = 0 then (xo_gp 9 30 H (some t) fun o17 =>
  xo_al 0 H o17 v6 fun v18 =>
  if v18 = (4 : Int32) then (fb_M_pump_208 t x1 v4 H)
  else (xo_gp 9 21 H (some t) fun o19 =>
  xo_al 0 H o19 v6 fun v20 =>
  if v20 = (3 : Int32) then (fb_M_pump_208 t x1 v4 H)
  else (xo_cl 9 (some t) (fun n28 => fc_M_asks n28 x1 H) fun r21 =>
  if r21.1 = 0 then (xo_cl 9 (some t) (fun n27 => fc_M_space n27 v6 r21.2) fun r22 =>
  if 0 < r22.1 then (xo_gp 9 27 r22.2 (some t) fun o23 =>
  xo_al 0 r22.2 o23 v6 fun v24 =>
  if v24 = (16 : Int32) then (xo_gb (0 : Int32) (some ((0 : Int32), r22.2)))
  else (xo_cl 9 (some t) (fun n26 => fc_M_request n26 v4 ((-2 : Int32) - x1) r22.2) fun H25 =>
  xo_gb (1 : Int32) (some ((1 : Int32), H25))))
  else (xo_gb (0 : Int32) (some ((0 : Int32), r22.2))))
  else (xo_gb (0 : Int32) (some ((0 : Int32), r21.2))))))
  else (fb_M_pump_208 t x1 v4 H))))))
  else (xo_gb (0 : Int32) (some ((0 : Int32), H)))

set_option maxRecDepth 100000 in
set_option maxHeartbeats 4000000 in
theorem kb_M_pump_226 (t : xo_N) (x1 : Int32) (H : xo_H) (r : Int32 × xo_H) : xo_X mt_M_pump 0 0 xo_ji r 226 [(0, .inr (some t)), (1, .inl x1)] [] H (fb_M_pump_226 t x1 H) := by
  unfold fb_M_pump_226
  refine xo_aload_n (pc' := 227) dd_M_pump_226 rfl 0 rfl rfl ?_
  refine xo_iload_n (pc' := 228) dd_M_pump_227 rfl 1 rfl rfl ?_
  refine xo_bipush (pc' := 230) (v := (16 : Int32)) dd_M_pump_228 (by decide) rfl ?_
  refine xo_bipush (pc' := 232) (v := (100 : Int32)) dd_M_pump_230 (by decide) rfl ?_
  refine xo_callVv (as := [.inl x1, .inl (16 : Int32), .inl (100 : Int32)]) (o := (some t)) (st := []) (pc' := 235) dd_M_pump_232 cv_M_finish ml_M_239 rfl rfl ⟨by decide, by decide⟩ rfl rfl rfl (Nat.le_of_ble_eq_true rfl) rfl (fun n q h => kc_M_finish n x1 (16 : Int32) (100 : Int32) H q h) fun H1 => ?_
  refine xo_goto (pc' := 276) dd_M_pump_235 rfl ?_
  refine xo_iconst (pc' := 277) (v := (1 : Int32)) dd_M_pump_276 (by decide) rfl ?_
  exact xo_zret dd_M_pump_277 rfl
set_option maxRecDepth 100000 in
set_option maxHeartbeats 4000000 in
theorem kb_M_pump_208 (t : xo_N) (x1 : Int32) (x2 : Int32) (H : xo_H) (r : Int32 × xo_H) : xo_X mt_M_pump 0 0 xo_ji r 208 [(0, .inr (some t)), (1, .inl x1), (2, .inl x2)] [] H (fb_M_pump_208 t x1 x2 H) := by
  unfold fb_M_pump_208
  refine xo_aload_n (pc' := 209) dd_M_pump_208 rfl 0 rfl rfl ?_
  refine xo_getP (pc' := 212) dd_M_pump_209 ff_M_119 (by decide) rfl fun o1 => ?_
  refine xo_iload_n (pc' := 213) dd_M_pump_212 rfl 1 rfl rfl ?_
  refine xo_iald (pc' := 214) dd_M_pump_213 rfl fun v2 => ?_
  refine xo_iconst (pc' := 215) (v := (4 : Int32)) dd_M_pump_214 (by decide) rfl ?_
  refine xo_iand (pc' := 216) dd_M_pump_215 rfl ?_
  refine xo_if_ne (pc' := 219) (tgt := 226) dd_M_pump_216 rfl rfl ?_ ?_
  · refine xo_sub [0, 1] rfl ?_
    exact kb_M_pump_226 t x1 H r
  · refine xo_aload_n (pc' := 220) dd_M_pump_219 rfl 0 rfl rfl ?_
    refine xo_iload_n (pc' := 221) dd_M_pump_220 rfl 2 rfl rfl ?_
    refine xo_bipush (pc' := 223) (v := (100 : Int32)) dd_M_pump_221 (by decide) rfl ?_
    refine xo_callVv (as := [.inl x2, .inl (100 : Int32)]) (o := (some t)) (st := []) (pc' := 226) dd_M_pump_223 cv_M_cancelGiver ml_M_242 rfl rfl ⟨by decide, by decide⟩ rfl rfl rfl (Nat.le_of_ble_eq_true rfl) rfl (fun n q h => kc_M_cancelGiver n x2 (100 : Int32) H q h) fun H3 => ?_
    refine xo_sub [0, 1] rfl ?_
    exact kb_M_pump_226 t x1 H3 r
set_option maxRecDepth 100000 in
set_option maxHeartbeats 4000000 in
theorem kb_M_pump_168 (t : xo_N) (x1 : Int32) (H : xo_H) (r : Int32 × xo_H) : xo_X mt_M_pump 0 0 xo_ji r 168 [(0, .inr (some t)), (1, .inl x1)] [] H (fb_M_pump_168 t x1 H) := by
  unfold fb_M_pump_168
  refine xo_aload_n (pc' := 169) dd_M_pump_168 rfl 0 rfl rfl ?_
  refine xo_iload_n (pc' := 170) dd_M_pump_169 rfl 1 rfl rfl ?_
  refine xo_bipush (pc' := 172) (v := (15 : Int32)) dd_M_pump_170 (by decide) rfl ?_
  refine xo_iconst (pc' := 173) (v := (0 : Int32)) dd_M_pump_172 (by decide) rfl ?_
  refine xo_callVv (as := [.inl x1, .inl (15 : Int32), .inl (0 : Int32)]) (o := (some t)) (st := []) (pc' := 176) dd_M_pump_173 cv_M_finish ml_M_239 rfl rfl ⟨by decide, by decide⟩ rfl rfl rfl (Nat.le_of_ble_eq_true rfl) rfl (fun n q h => kc_M_finish n x1 (15 : Int32) (0 : Int32) H q h) fun H1 => ?_
  refine xo_goto (pc' := 276) dd_M_pump_176 rfl ?_
  refine xo_iconst (pc' := 277) (v := (1 : Int32)) dd_M_pump_276 (by decide) rfl ?_
  exact xo_zret dd_M_pump_277 rfl
set_option maxRecDepth 100000 in
set_option maxHeartbeats 4000000 in
theorem kb_M_pump_119 (t : xo_N) (x1 : Int32) (x4 : Int32) (H : xo_H) (r : Int32 × xo_H) : xo_X mt_M_pump 0 0 xo_ji r 119 [(0, .inr (some t)), (1, .inl x1), (4, .inl x4)] [] H (fb_M_pump_119 t x1 x4 H) := by
  unfold fb_M_pump_119
  refine xo_aload_n (pc' := 120) dd_M_pump_119 rfl 0 rfl rfl ?_
  refine xo_iload_n (pc' := 121) dd_M_pump_120 rfl 1 rfl rfl ?_
  refine xo_bipush (pc' := 123) (v := (16 : Int32)) dd_M_pump_121 (by decide) rfl ?_
  refine xo_iload (pc' := 125) dd_M_pump_123 2 rfl rfl ?_
  refine xo_callVv (as := [.inl x1, .inl (16 : Int32), .inl x4]) (o := (some t)) (st := []) (pc' := 128) dd_M_pump_125 cv_M_finish ml_M_239 rfl rfl ⟨by decide, by decide⟩ rfl rfl rfl (Nat.le_of_ble_eq_true rfl) rfl (fun n q h => kc_M_finish n x1 (16 : Int32) x4 H q h) fun H1 => ?_
  refine xo_goto (pc' := 276) dd_M_pump_128 rfl ?_
  refine xo_iconst (pc' := 277) (v := (1 : Int32)) dd_M_pump_276 (by decide) rfl ?_
  exact xo_zret dd_M_pump_277 rfl
set_option maxRecDepth 100000 in
set_option maxHeartbeats 4000000 in
theorem kb_M_pump_93 (t : xo_N) (x1 : Int32) (x2 : Int32) (x3 : Int32) (H : xo_H) (r : Int32 × xo_H) : xo_X mt_M_pump 0 0 xo_ji r 93 [(0, .inr (some t)), (1, .inl x1), (2, .inl x2), (3, .inl x3)] [] H (fb_M_pump_93 t x1 x2 x3 H) := by
  unfold fb_M_pump_93
  refine xo_aload_n (pc' := 94) dd_M_pump_93 rfl 0 rfl rfl ?_
  refine xo_getP (pc' := 97) dd_M_pump_94 ff_M_71 (by decide) rfl fun o1 => ?_
  refine xo_iload_n (pc' := 98) dd_M_pump_97 rfl 3 rfl rfl ?_
  refine xo_iald (pc' := 99) dd_M_pump_98 rfl fun v2 => ?_
  refine xo_istore (pc' := 101) dd_M_pump_99 (by decide) rfl rfl ?_
  refine xo_aload_n (pc' := 102) dd_M_pump_101 rfl 1 rfl rfl ?_
  refine xo_getP (pc' := 105) dd_M_pump_102 ff_M_119 (by decide) rfl fun o3 => ?_
  refine xo_iload_n (pc' := 106) dd_M_pump_105 rfl 2 rfl rfl ?_
  refine xo_iald (pc' := 107) dd_M_pump_106 rfl fun v4 => ?_
  refine xo_iconst (pc' := 108) (v := (4 : Int32)) dd_M_pump_107 (by decide) rfl ?_
  refine xo_iand (pc' := 109) dd_M_pump_108 rfl ?_
  refine xo_if_ne (pc' := 112) (tgt := 119) dd_M_pump_109 rfl rfl ?_ ?_
  · refine xo_sub [1, 2, 0] rfl ?_
    exact kb_M_pump_119 t x1 v2 H r
  · refine xo_aload_n (pc' := 113) dd_M_pump_112 rfl 1 rfl rfl ?_
    refine xo_iload_n (pc' := 114) dd_M_pump_113 rfl 3 rfl rfl ?_
    refine xo_iload (pc' := 116) dd_M_pump_114 0 rfl rfl ?_
    refine xo_callVv (as := [.inl x2, .inl v2]) (o := (some t)) (st := []) (pc' := 119) dd_M_pump_116 cv_M_cancelGiver ml_M_242 rfl rfl ⟨by decide, by decide⟩ rfl rfl rfl (Nat.le_of_ble_eq_true rfl) rfl (fun n q h => kc_M_cancelGiver n x2 v2 H q h) fun H5 => ?_
    refine xo_sub [1, 2, 0] rfl ?_
    exact kb_M_pump_119 t x1 v2 H5 r
set_option maxRecDepth 100000 in
set_option maxHeartbeats 4000000 in
theorem kb_M_pump_61 (t : xo_N) (x1 : Int32) (x4 : Int32) (H : xo_H) (r : Int32 × xo_H) : xo_X mt_M_pump 0 0 xo_ji r 61 [(0, .inr (some t)), (1, .inl x1), (4, .inl x4)] [] H (fb_M_pump_61 t x1 x4 H) := by
  unfold fb_M_pump_61
  refine xo_aload_n (pc' := 62) dd_M_pump_61 rfl 0 rfl rfl ?_
  refine xo_iload_n (pc' := 63) dd_M_pump_62 rfl 1 rfl rfl ?_
  refine xo_bipush (pc' := 65) (v := (16 : Int32)) dd_M_pump_63 (by decide) rfl ?_
  refine xo_iload (pc' := 67) dd_M_pump_65 2 rfl rfl ?_
  refine xo_callVv (as := [.inl x1, .inl (16 : Int32), .inl x4]) (o := (some t)) (st := []) (pc' := 70) dd_M_pump_67 cv_M_finish ml_M_239 rfl rfl ⟨by decide, by decide⟩ rfl rfl rfl (Nat.le_of_ble_eq_true rfl) rfl (fun n q h => kc_M_finish n x1 (16 : Int32) x4 H q h) fun H1 => ?_
  refine xo_goto (pc' := 276) dd_M_pump_70 rfl ?_
  refine xo_iconst (pc' := 277) (v := (1 : Int32)) dd_M_pump_276 (by decide) rfl ?_
  exact xo_zret dd_M_pump_277 rfl
set_option maxRecDepth 100000 in
set_option maxHeartbeats 4000000 in
theorem kb_M_pump (t : xo_N) (x1 : Int32) (H : xo_H) (r : Int32 × xo_H) : xo_X mt_M_pump 0 0 xo_ji r 0 [(0, .inr (some t)), (1, .inl x1)] [] H (fc_M_pump t x1 H) := by
  unfold fc_M_pump
  refine xo_aload_n (pc' := 1) dd_M_pump_0 rfl 0 rfl rfl ?_
  refine xo_getP (pc' := 4) dd_M_pump_1 ff_M_122 (by decide) rfl fun o1 => ?_
  refine xo_iload_n (pc' := 5) dd_M_pump_4 rfl 1 rfl rfl ?_
  refine xo_zald (pc' := 6) dd_M_pump_5 rfl fun v2 => ?_
  refine xo_if_eq (pc' := 9) (tgt := 11) dd_M_pump_6 rfl rfl ?_ ?_
  · refine xo_aload_n (pc' := 12) dd_M_pump_11 rfl 0 rfl rfl ?_
    refine xo_getP (pc' := 15) dd_M_pump_12 ff_M_113 (by decide) rfl fun o3 => ?_
    refine xo_iload_n (pc' := 16) dd_M_pump_15 rfl 1 rfl rfl ?_
    refine xo_iald (pc' := 17) dd_M_pump_16 rfl fun v4 => ?_
    refine xo_istore_n (pc' := 18) dd_M_pump_17 rfl (by decide) rfl rfl ?_
    refine xo_aload_n (pc' := 19) dd_M_pump_18 rfl 1 rfl rfl ?_
    refine xo_getP (pc' := 22) dd_M_pump_19 ff_M_116 (by decide) rfl fun o5 => ?_
    refine xo_iload_n (pc' := 23) dd_M_pump_22 rfl 2 rfl rfl ?_
    refine xo_iald (pc' := 24) dd_M_pump_23 rfl fun v6 => ?_
    refine xo_istore_n (pc' := 25) dd_M_pump_24 rfl (by decide) rfl rfl ?_
    refine xo_aload_n (pc' := 26) dd_M_pump_25 rfl 2 rfl rfl ?_
    refine xo_getP (pc' := 29) dd_M_pump_26 ff_M_7 (by decide) rfl fun o7 => ?_
    refine xo_iload_n (pc' := 30) dd_M_pump_29 rfl 1 rfl rfl ?_
    refine xo_iald (pc' := 31) dd_M_pump_30 rfl fun v8 => ?_
    refine xo_iconst (pc' := 32) (v := (2 : Int32)) dd_M_pump_31 (by decide) rfl ?_
    refine xo_icmp_ne (pc' := 35) (tgt := 73) dd_M_pump_32 rfl rfl ?_ ?_
    · refine xo_aload_n (pc' := 74) dd_M_pump_73 rfl 2 rfl rfl ?_
      refine xo_getP (pc' := 77) dd_M_pump_74 ff_M_68 (by decide) rfl fun o9 => ?_
      refine xo_iload_n (pc' := 78) dd_M_pump_77 rfl 0 rfl rfl ?_
      refine xo_iald (pc' := 79) dd_M_pump_78 rfl fun v10 => ?_
      refine xo_iconst (pc' := 80) (v := (1 : Int32)) dd_M_pump_79 (by decide) rfl ?_
      refine xo_icmp_eq (pc' := 83) (tgt := 93) dd_M_pump_80 rfl rfl ?_ ?_
      · refine xo_sub [2, 3, 1, 0] rfl ?_
        exact kb_M_pump_93 t x1 v4 v6 H r
      · refine xo_aload_n (pc' := 84) dd_M_pump_83 rfl 2 rfl rfl ?_
        refine xo_getP (pc' := 87) dd_M_pump_84 ff_M_68 (by decide) rfl fun o11 => ?_
        refine xo_iload_n (pc' := 88) dd_M_pump_87 rfl 0 rfl rfl ?_
        refine xo_iald (pc' := 89) dd_M_pump_88 rfl fun v12 => ?_
        refine xo_iconst (pc' := 90) (v := (2 : Int32)) dd_M_pump_89 (by decide) rfl ?_
        refine xo_icmp_ne (pc' := 93) (tgt := 131) dd_M_pump_90 rfl rfl ?_ ?_
        · refine xo_aload_n (pc' := 132) dd_M_pump_131 rfl 2 rfl rfl ?_
          refine xo_getP (pc' := 135) dd_M_pump_132 ff_M_7 (by decide) rfl fun o13 => ?_
          refine xo_iload_n (pc' := 136) dd_M_pump_135 rfl 1 rfl rfl ?_
          refine xo_iald (pc' := 137) dd_M_pump_136 rfl fun v14 => ?_
          refine xo_iconst (pc' := 138) (v := (1 : Int32)) dd_M_pump_137 (by decide) rfl ?_
          refine xo_icmp_ne (pc' := 141) (tgt := 179) dd_M_pump_138 rfl rfl ?_ ?_
          · refine xo_aload_n (pc' := 180) dd_M_pump_179 rfl 2 rfl rfl ?_
            refine xo_getP (pc' := 183) dd_M_pump_180 ff_M_92 (by decide) rfl fun o15 => ?_
            refine xo_iload_n (pc' := 184) dd_M_pump_183 rfl 0 rfl rfl ?_
            refine xo_zald (pc' := 185) dd_M_pump_184 rfl fun v16 => ?_
            refine xo_if_ne (pc' := 188) (tgt := 208) dd_M_pump_185 rfl rfl ?_ ?_
            · refine xo_sub [2, 3, 1] rfl ?_
              exact kb_M_pump_208 t x1 v4 H r
            · refine xo_aload_n (pc' := 189) dd_M_pump_188 rfl 2 rfl rfl ?_
              refine xo_getP (pc' := 192) dd_M_pump_189 ff_M_95 (by decide) rfl fun o17 => ?_
              refine xo_iload_n (pc' := 193) dd_M_pump_192 rfl 0 rfl rfl ?_
              refine xo_iald (pc' := 194) dd_M_pump_193 rfl fun v18 => ?_
              refine xo_iconst (pc' := 195) (v := (4 : Int32)) dd_M_pump_194 (by decide) rfl ?_
              refine xo_icmp_eq (pc' := 198) (tgt := 208) dd_M_pump_195 rfl rfl ?_ ?_
              · refine xo_sub [2, 3, 1] rfl ?_
                exact kb_M_pump_208 t x1 v4 H r
              · refine xo_aload_n (pc' := 199) dd_M_pump_198 rfl 2 rfl rfl ?_
                refine xo_getP (pc' := 202) dd_M_pump_199 ff_M_68 (by decide) rfl fun o19 => ?_
                refine xo_iload_n (pc' := 203) dd_M_pump_202 rfl 0 rfl rfl ?_
                refine xo_iald (pc' := 204) dd_M_pump_203 rfl fun v20 => ?_
                refine xo_iconst (pc' := 205) (v := (3 : Int32)) dd_M_pump_204 (by decide) rfl ?_
                refine xo_icmp_ne (pc' := 208) (tgt := 238) dd_M_pump_205 rfl rfl ?_ ?_
                · refine xo_aload_n (pc' := 239) dd_M_pump_238 rfl 2 rfl rfl ?_
                  refine xo_iload_n (pc' := 240) dd_M_pump_239 rfl 3 rfl rfl ?_
                  refine xo_callVi (as := [.inl x1]) (o := (some t)) (st := []) (pc' := 243) dd_M_pump_240 cv_M_asks ml_M_248 rfl rfl ⟨by decide, by decide⟩ rfl rfl rfl (Nat.le_of_ble_eq_true rfl) rfl (fun n q h => kc_M_asks n x1 H q h) fun r21 => ?_
                  refine xo_if_ne (pc' := 246) (tgt := 265) dd_M_pump_243 rfl rfl ?_ ?_
                  · refine xo_iconst (pc' := 266) (v := (0 : Int32)) dd_M_pump_265 (by decide) rfl ?_
                    exact xo_zret dd_M_pump_266 rfl
                  · refine xo_aload_n (pc' := 247) dd_M_pump_246 rfl 2 rfl rfl ?_
                    refine xo_iload_n (pc' := 248) dd_M_pump_247 rfl 0 rfl rfl ?_
                    refine xo_callVi (as := [.inl v6]) (o := (some t)) (st := []) (pc' := 251) dd_M_pump_248 cv_M_space ml_M_251 rfl rfl ⟨by decide, by decide⟩ rfl rfl rfl (Nat.le_of_ble_eq_true rfl) rfl (fun n q h => kc_M_space n v6 r21.2 q h) fun r22 => ?_
                    refine xo_if_le (pc' := 254) (tgt := 265) dd_M_pump_251 rfl rfl ?_ ?_
                    · refine xo_iconst (pc' := 266) (v := (0 : Int32)) dd_M_pump_265 (by decide) rfl ?_
                      exact xo_zret dd_M_pump_266 rfl
                    · refine xo_aload_n (pc' := 255) dd_M_pump_254 rfl 2 rfl rfl ?_
                      refine xo_getP (pc' := 258) dd_M_pump_255 ff_M_86 (by decide) rfl fun o23 => ?_
                      refine xo_iload_n (pc' := 259) dd_M_pump_258 rfl 0 rfl rfl ?_
                      refine xo_iald (pc' := 260) dd_M_pump_259 rfl fun v24 => ?_
                      refine xo_bipush (pc' := 262) (v := (16 : Int32)) dd_M_pump_260 (by decide) rfl ?_
                      refine xo_icmp_ne (pc' := 265) (tgt := 267) dd_M_pump_262 rfl rfl ?_ ?_
                      · refine xo_aload_n (pc' := 268) dd_M_pump_267 rfl 2 rfl rfl ?_
                        refine xo_iload_n (pc' := 269) dd_M_pump_268 rfl 1 rfl rfl ?_
                        refine xo_bipush (pc' := 271) (v := (-2 : Int32)) dd_M_pump_269 (by decide) rfl ?_
                        refine xo_iload_n (pc' := 272) dd_M_pump_271 rfl 3 rfl rfl ?_
                        refine xo_isub (pc' := 273) dd_M_pump_272 rfl ?_
                        refine xo_callVv (as := [.inl v4, .inl ((-2 : Int32) - x1)]) (o := (some t)) (st := []) (pc' := 276) dd_M_pump_273 cv_M_request ml_M_254 rfl rfl ⟨by decide, by decide⟩ rfl rfl rfl (Nat.le_of_ble_eq_true rfl) rfl (fun n q h => kc_M_request n v4 ((-2 : Int32) - x1) r22.2 q h) fun H25 => ?_
                        refine xo_iconst (pc' := 277) (v := (1 : Int32)) dd_M_pump_276 (by decide) rfl ?_
                        exact xo_zret dd_M_pump_277 rfl
                      · refine xo_iconst (pc' := 266) (v := (0 : Int32)) dd_M_pump_265 (by decide) rfl ?_
                        exact xo_zret dd_M_pump_266 rfl
                · refine xo_sub [2, 3, 1] rfl ?_
                  exact kb_M_pump_208 t x1 v4 H r
          · refine xo_aload_n (pc' := 142) dd_M_pump_141 rfl 2 rfl rfl ?_
            refine xo_getP (pc' := 145) dd_M_pump_142 ff_M_86 (by decide) rfl fun o29 => ?_
            refine xo_iload_n (pc' := 146) dd_M_pump_145 rfl 0 rfl rfl ?_
            refine xo_iald (pc' := 147) dd_M_pump_146 rfl fun v30 => ?_
            refine xo_if_le (pc' := 150) (tgt := 152) dd_M_pump_147 rfl rfl ?_ ?_
            · refine xo_aload_n (pc' := 153) dd_M_pump_152 rfl 2 rfl rfl ?_
              refine xo_getP (pc' := 156) dd_M_pump_153 ff_M_119 (by decide) rfl fun o31 => ?_
              refine xo_iload_n (pc' := 157) dd_M_pump_156 rfl 3 rfl rfl ?_
              refine xo_iald (pc' := 158) dd_M_pump_157 rfl fun v32 => ?_
              refine xo_iconst (pc' := 159) (v := (1 : Int32)) dd_M_pump_158 (by decide) rfl ?_
              refine xo_iand (pc' := 160) dd_M_pump_159 rfl ?_
              refine xo_if_ne (pc' := 163) (tgt := 168) dd_M_pump_160 rfl rfl ?_ ?_
              · refine xo_sub [2, 3] rfl ?_
                exact kb_M_pump_168 t x1 H r
              · refine xo_aload_n (pc' := 164) dd_M_pump_163 rfl 2 rfl rfl ?_
                refine xo_iload_n (pc' := 165) dd_M_pump_164 rfl 0 rfl rfl ?_
                refine xo_callVv (as := [.inl v6]) (o := (some t)) (st := []) (pc' := 168) dd_M_pump_165 cv_M_shutDown ml_M_245 rfl rfl ⟨by decide, by decide⟩ rfl rfl rfl (Nat.le_of_ble_eq_true rfl) rfl (fun n q h => kc_M_shutDown n v6 H q h) fun H33 => ?_
                refine xo_sub [2, 3] rfl ?_
                exact kb_M_pump_168 t x1 H33 r
            · refine xo_iconst (pc' := 151) (v := (0 : Int32)) dd_M_pump_150 (by decide) rfl ?_
              exact xo_zret dd_M_pump_151 rfl
        · refine xo_sub [2, 3, 1, 0] rfl ?_
          exact kb_M_pump_93 t x1 v4 v6 H r
    · refine xo_aload_n (pc' := 36) dd_M_pump_35 rfl 2 rfl rfl ?_
      refine xo_getP (pc' := 39) dd_M_pump_36 ff_M_13 (by decide) rfl fun o35 => ?_
      refine xo_iload_n (pc' := 40) dd_M_pump_39 rfl 1 rfl rfl ?_
      refine xo_iald (pc' := 41) dd_M_pump_40 rfl fun v36 => ?_
      refine xo_istore (pc' := 43) dd_M_pump_41 (by decide) rfl rfl ?_
      refine xo_aload_n (pc' := 44) dd_M_pump_43 rfl 3 rfl rfl ?_
      refine xo_getP (pc' := 47) dd_M_pump_44 ff_M_119 (by decide) rfl fun o37 => ?_
      refine xo_iload_n (pc' := 48) dd_M_pump_47 rfl 4 rfl rfl ?_
      refine xo_iald (pc' := 49) dd_M_pump_48 rfl fun v38 => ?_
      refine xo_iconst (pc' := 50) (v := (2 : Int32)) dd_M_pump_49 (by decide) rfl ?_
      refine xo_iand (pc' := 51) dd_M_pump_50 rfl ?_
      refine xo_if_ne (pc' := 54) (tgt := 61) dd_M_pump_51 rfl rfl ?_ ?_
      · refine xo_sub [3, 4, 0] rfl ?_
        exact kb_M_pump_61 t x1 v36 H r
      · refine xo_aload_n (pc' := 55) dd_M_pump_54 rfl 3 rfl rfl ?_
        refine xo_iload_n (pc' := 56) dd_M_pump_55 rfl 1 rfl rfl ?_
        refine xo_iload (pc' := 58) dd_M_pump_56 0 rfl rfl ?_
        refine xo_callVv (as := [.inl v6, .inl v36]) (o := (some t)) (st := []) (pc' := 61) dd_M_pump_58 cv_M_abortTaker ml_M_236 rfl rfl ⟨by decide, by decide⟩ rfl rfl rfl (Nat.le_of_ble_eq_true rfl) rfl (fun n q h => kc_M_abortTaker n v6 v36 H q h) fun H39 => ?_
        refine xo_sub [3, 4, 0] rfl ?_
        exact kb_M_pump_61 t x1 v36 H39 r
  · refine xo_iconst (pc' := 10) (v := (0 : Int32)) dd_M_pump_9 (by decide) rfl ?_
    exact xo_zret dd_M_pump_10 rfl
set_option maxRecDepth 100000 in
set_option maxHeartbeats 4000000 in
theorem kc_M_pump (t : xo_N) (x1 : Int32) (H : xo_H) (r : Int32 × xo_H) (hk : fc_M_pump t x1 H = some r) : xo_M mt_M_pump [.inr (some t), .inl x1] H (xo_ji r) :=
  xo_entry hk (by decide +kernel) (Nat.le_of_ble_eq_true rfl) (kb_M_pump t x1 H r)
