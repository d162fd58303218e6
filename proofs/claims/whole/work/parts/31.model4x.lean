def fc_M_pipe (t : xo_N) (x1 : Int32) (x2 : Int32) (x3 : Int32) (H : xo_H) : Option (Int32 × xo_H) :=
  xo_cl 9 (some t) (fun n29 => fc_M_noGiver n29 x1 H) fun r1 =>
  if r1.1 = 0 then (xo_cl 9 (some t) (fun n28 => fc_M_noTaker n28 x2 r1.2) fun r2 =>
  if r2.1 = 0 then (if x3 < 0 then (some ((-1 : Int32), r2.2))
  else (if (7 : Int32) < x3 then (some ((-1 : Int32), r2.2))
  else (xo_gp 9 8 r2.2 (some t) fun o3 =>
  xo_al 0 r2.2 o3 x1 fun v4 =>
  if v4 = 0 then (xo_gp 9 34 r2.2 (some t) fun o5 =>
  xo_al 1 r2.2 o5 x2 fun v6 =>
  if v6 = 0 then (xo_gp 9 12 r2.2 (some t) fun o7 =>
  xo_al 0 r2.2 o7 x1 fun v8 =>
  if 0 < v8 then (some ((-2 : Int32), r2.2))
  else (xo_gf 9 36 r2.2 (some t) fun v9 =>
  if v9 = (2 : Int32) then (some ((-3 : Int32), r2.2))
  else (xo_gp 9 37 r2.2 (some t) fun o10 =>
  xo_gf 9 36 r2.2 (some t) fun v11 =>
  xo_as r2.2 o10 v11 x1 fun H12 =>
  xo_gp 9 38 H12 (some t) fun o13 =>
  xo_gf 9 36 H12 (some t) fun v14 =>
  xo_as H12 o13 v14 x2 fun H15 =>
  xo_gp 9 39 H15 (some t) fun o16 =>
  xo_gf 9 36 H15 (some t) fun v17 =>
  xo_as H15 o16 v17 x3 fun H18 =>
  xo_gp 9 8 H18 (some t) fun o19 =>
  xo_as H18 o19 x1 (1 : Int32) fun H20 =>
  xo_gp 9 34 H20 (some t) fun o21 =>
  xo_az H20 o21 x2 (1 : Int32) fun H22 =>
  xo_gf 9 36 H22 (some t) fun v23 =>
  xo_pf 9 36 H22 (some t) (v23 + (1 : Int32)) fun H24 =>
  xo_cl 9 (some t) (fun n27 => fc_M_wake n27 H24) fun H25 =>
  xo_gf 9 36 H25 (some t) fun v26 =>
  some ((v26 - (1 : Int32)), H25))))
  else (some ((-2 : Int32), r2.2)))
  else (some ((-2 : Int32), r2.2)))))
  else (some ((-1 : Int32), r2.2)))
  else (some ((-1 : Int32), r1.2))

set_option maxRecDepth 100000 in
set_option maxHeartbeats 4000000 in
theorem kb_M_pipe (t : xo_N) (x1 : Int32) (x2 : Int32) (x3 : Int32) (H : xo_H) (r : Int32 × xo_H) : xo_X mt_M_pipe 0 0 xo_ji r 0 [(0, .inr (some t)), (1, .inl x1), (2, .inl x2), (3, .inl x3)] [] H (fc_M_pipe t x1 x2 x3 H) := by
  unfold fc_M_pipe
  refine xo_aload_n (pc' := 1) dd_M_pipe_0 rfl 0 rfl rfl ?_
  refine xo_iload_n (pc' := 2) dd_M_pipe_1 rfl 1 rfl rfl ?_
  refine xo_callVi (as := [.inl x1]) (o := (some t)) (st := []) (pc' := 5) dd_M_pipe_2 cv_M_noGiver ml_M_295 rfl rfl ⟨by decide, by decide⟩ rfl rfl rfl (Nat.le_of_ble_eq_true rfl) rfl (fun n q h => kc_M_noGiver n x1 H q h) fun r1 => ?_
  refine xo_if_ne (pc' := 8) (tgt := 26) dd_M_pipe_5 rfl rfl ?_ ?_
  · refine xo_iconst (pc' := 27) (v := (-1 : Int32)) dd_M_pipe_26 (by decide) rfl ?_
    exact xo_iret dd_M_pipe_27 rfl
  · refine xo_aload_n (pc' := 9) dd_M_pipe_8 rfl 0 rfl rfl ?_
    refine xo_iload_n (pc' := 10) dd_M_pipe_9 rfl 2 rfl rfl ?_
    refine xo_callVi (as := [.inl x2]) (o := (some t)) (st := []) (pc' := 13) dd_M_pipe_10 cv_M_noTaker ml_M_308 rfl rfl ⟨by decide, by decide⟩ rfl rfl rfl (Nat.le_of_ble_eq_true rfl) rfl (fun n q h => kc_M_noTaker n x2 r1.2 q h) fun r2 => ?_
    refine xo_if_ne (pc' := 16) (tgt := 26) dd_M_pipe_13 rfl rfl ?_ ?_
    · refine xo_iconst (pc' := 27) (v := (-1 : Int32)) dd_M_pipe_26 (by decide) rfl ?_
      exact xo_iret dd_M_pipe_27 rfl
    · refine xo_iload_n (pc' := 17) dd_M_pipe_16 rfl 3 rfl rfl ?_
      refine xo_if_lt (pc' := 20) (tgt := 26) dd_M_pipe_17 rfl rfl ?_ ?_
      · refine xo_iconst (pc' := 27) (v := (-1 : Int32)) dd_M_pipe_26 (by decide) rfl ?_
        exact xo_iret dd_M_pipe_27 rfl
      · refine xo_iload_n (pc' := 21) dd_M_pipe_20 rfl 3 rfl rfl ?_
        refine xo_bipush (pc' := 23) (v := (7 : Int32)) dd_M_pipe_21 (by decide) rfl ?_
        refine xo_icmp_le (pc' := 26) (tgt := 28) dd_M_pipe_23 rfl rfl ?_ ?_
        · refine xo_aload_n (pc' := 29) dd_M_pipe_28 rfl 0 rfl rfl ?_
          refine xo_getP (pc' := 32) dd_M_pipe_29 ff_M_32 (by decide) rfl fun o3 => ?_
          refine xo_iload_n (pc' := 33) dd_M_pipe_32 rfl 1 rfl rfl ?_
          refine xo_iald (pc' := 34) dd_M_pipe_33 rfl fun v4 => ?_
          refine xo_if_ne (pc' := 37) (tgt := 55) dd_M_pipe_34 rfl rfl ?_ ?_
          · refine xo_bipush (pc' := 57) (v := (-2 : Int32)) dd_M_pipe_55 (by decide) rfl ?_
            exact xo_iret dd_M_pipe_57 rfl
          · refine xo_aload_n (pc' := 38) dd_M_pipe_37 rfl 0 rfl rfl ?_
            refine xo_getP (pc' := 41) dd_M_pipe_38 ff_M_107 (by decide) rfl fun o5 => ?_
            refine xo_iload_n (pc' := 42) dd_M_pipe_41 rfl 2 rfl rfl ?_
            refine xo_zald (pc' := 43) dd_M_pipe_42 rfl fun v6 => ?_
            refine xo_if_ne (pc' := 46) (tgt := 55) dd_M_pipe_43 rfl rfl ?_ ?_
            · refine xo_bipush (pc' := 57) (v := (-2 : Int32)) dd_M_pipe_55 (by decide) rfl ?_
              exact xo_iret dd_M_pipe_57 rfl
            · refine xo_aload_n (pc' := 47) dd_M_pipe_46 rfl 0 rfl rfl ?_
              refine xo_getP (pc' := 50) dd_M_pipe_47 ff_M_44 (by decide) rfl fun o7 => ?_
              refine xo_iload_n (pc' := 51) dd_M_pipe_50 rfl 1 rfl rfl ?_
              refine xo_iald (pc' := 52) dd_M_pipe_51 rfl fun v8 => ?_
              refine xo_if_le (pc' := 55) (tgt := 58) dd_M_pipe_52 rfl rfl ?_ ?_
              · refine xo_aload_n (pc' := 59) dd_M_pipe_58 rfl 0 rfl rfl ?_
                refine xo_getI (pc' := 62) dd_M_pipe_59 ff_M_257 (by decide) rfl fun v9 => ?_
                refine xo_iconst (pc' := 63) (v := (2 : Int32)) dd_M_pipe_62 (by decide) rfl ?_
                refine xo_icmp_ne (pc' := 66) (tgt := 69) dd_M_pipe_63 rfl rfl ?_ ?_
                · refine xo_aload_n (pc' := 70) dd_M_pipe_69 rfl 0 rfl rfl ?_
                  refine xo_getP (pc' := 73) dd_M_pipe_70 ff_M_113 (by decide) rfl fun o10 => ?_
                  refine xo_aload_n (pc' := 74) dd_M_pipe_73 rfl 0 rfl rfl ?_
                  refine xo_getI (pc' := 77) dd_M_pipe_74 ff_M_257 (by decide) rfl fun v11 => ?_
                  refine xo_iload_n (pc' := 78) dd_M_pipe_77 rfl 1 rfl rfl ?_
                  refine xo_iast (pc' := 79) dd_M_pipe_78 rfl fun H12 => ?_
                  refine xo_aload_n (pc' := 80) dd_M_pipe_79 rfl 0 rfl rfl ?_
                  refine xo_getP (pc' := 83) dd_M_pipe_80 ff_M_116 (by decide) rfl fun o13 => ?_
                  refine xo_aload_n (pc' := 84) dd_M_pipe_83 rfl 0 rfl rfl ?_
                  refine xo_getI (pc' := 87) dd_M_pipe_84 ff_M_257 (by decide) rfl fun v14 => ?_
                  refine xo_iload_n (pc' := 88) dd_M_pipe_87 rfl 2 rfl rfl ?_
                  refine xo_iast (pc' := 89) dd_M_pipe_88 rfl fun H15 => ?_
                  refine xo_aload_n (pc' := 90) dd_M_pipe_89 rfl 0 rfl rfl ?_
                  refine xo_getP (pc' := 93) dd_M_pipe_90 ff_M_119 (by decide) rfl fun o16 => ?_
                  refine xo_aload_n (pc' := 94) dd_M_pipe_93 rfl 0 rfl rfl ?_
                  refine xo_getI (pc' := 97) dd_M_pipe_94 ff_M_257 (by decide) rfl fun v17 => ?_
                  refine xo_iload_n (pc' := 98) dd_M_pipe_97 rfl 3 rfl rfl ?_
                  refine xo_iast (pc' := 99) dd_M_pipe_98 rfl fun H18 => ?_
                  refine xo_aload_n (pc' := 100) dd_M_pipe_99 rfl 0 rfl rfl ?_
                  refine xo_getP (pc' := 103) dd_M_pipe_100 ff_M_32 (by decide) rfl fun o19 => ?_
                  refine xo_iload_n (pc' := 104) dd_M_pipe_103 rfl 1 rfl rfl ?_
                  refine xo_iconst (pc' := 105) (v := (1 : Int32)) dd_M_pipe_104 (by decide) rfl ?_
                  refine xo_iast (pc' := 106) dd_M_pipe_105 rfl fun H20 => ?_
                  refine xo_aload_n (pc' := 107) dd_M_pipe_106 rfl 0 rfl rfl ?_
                  refine xo_getP (pc' := 110) dd_M_pipe_107 ff_M_107 (by decide) rfl fun o21 => ?_
                  refine xo_iload_n (pc' := 111) dd_M_pipe_110 rfl 2 rfl rfl ?_
                  refine xo_iconst (pc' := 112) (v := (1 : Int32)) dd_M_pipe_111 (by decide) rfl ?_
                  refine xo_zast (pc' := 113) dd_M_pipe_112 rfl fun H22 => ?_
                  refine xo_aload_n (pc' := 114) dd_M_pipe_113 rfl 0 rfl rfl ?_
                  refine xo_dup (pc' := 115) dd_M_pipe_114 rfl ?_
                  refine xo_getI (pc' := 118) dd_M_pipe_115 ff_M_257 (by decide) rfl fun v23 => ?_
                  refine xo_iconst (pc' := 119) (v := (1 : Int32)) dd_M_pipe_118 (by decide) rfl ?_
                  refine xo_iadd (pc' := 120) dd_M_pipe_119 rfl ?_
                  refine xo_putI (pc' := 123) dd_M_pipe_120 ff_M_257 rfl fun H24 => ?_
                  refine xo_aload_n (pc' := 124) dd_M_pipe_123 rfl 0 rfl rfl ?_
                  refine xo_callVv (as := []) (o := (some t)) (st := []) (pc' := 127) dd_M_pipe_124 cv_M_wake ml_M_278 rfl rfl ⟨by decide, by decide⟩ rfl rfl rfl (Nat.le_of_ble_eq_true rfl) rfl (fun n q h => kc_M_wake n H24 q h) fun H25 => ?_
                  refine xo_aload_n (pc' := 128) dd_M_pipe_127 rfl 0 rfl rfl ?_
                  refine xo_getI (pc' := 131) dd_M_pipe_128 ff_M_257 (by decide) rfl fun v26 => ?_
                  refine xo_iconst (pc' := 132) (v := (1 : Int32)) dd_M_pipe_131 (by decide) rfl ?_
                  refine xo_isub (pc' := 133) dd_M_pipe_132 rfl ?_
                  exact xo_iret dd_M_pipe_133 rfl
                · refine xo_bipush (pc' := 68) (v := (-3 : Int32)) dd_M_pipe_66 (by decide) rfl ?_
                  exact xo_iret dd_M_pipe_68 rfl
              · refine xo_bipush (pc' := 57) (v := (-2 : Int32)) dd_M_pipe_55 (by decide) rfl ?_
                exact xo_iret dd_M_pipe_57 rfl
        · refine xo_iconst (pc' := 27) (v := (-1 : Int32)) dd_M_pipe_26 (by decide) rfl ?_
          exact xo_iret dd_M_pipe_27 rfl
set_option maxRecDepth 100000 in
set_option maxHeartbeats 4000000 in
theorem kc_M_pipe (t : xo_N) (x1 : Int32) (x2 : Int32) (x3 : Int32) (H : xo_H) (r : Int32 × xo_H) (hk : fc_M_pipe t x1 x2 x3 H = some r) : xo_M mt_M_pipe [.inr (some t), .inl x1, .inl x2, .inl x3] H (xo_ji r) :=
  xo_entry hk (by decide +kernel) (Nat.le_of_ble_eq_true rfl) (kb_M_pipe t x1 x2 x3 H r)
def fb_M_part_130 (t : xo_N) (x2 : Int32) (H : xo_H) : Option (Int32 × xo_H) :=
  xo_cl 9 (some t) (fun n2 => fc_M_wake n2 H) fun H1 =>
  some (x2, H1)

def fc_M_part (t : xo_N) (x1 : Int32) (H : xo_H) : Option (Int32 × xo_H) :=
  xo_cl 9 (some t) (fun n31 => fc_M_noGiver n31 x1 H) fun r1 =>
  if r1.1 = 0 then (xo_gp 9 8 r1.2 (some t) fun o2 =>
  xo_al 0 r1.2 o2 x1 fun v3 =>
  if v3 = 0 then (xo_cl 9 (some t) (fun n30 => fc_M_isBranch n30 x1 r1.2) fun r4 =>
  if r4.1 = 0 then (xo_gp 9 12 r4.2 (some t) fun o5 =>
  xo_al 0 r4.2 o5 x1 fun v6 =>
  if 0 < v6 then (some ((-2 : Int32), r4.2))
  else (xo_gf 9 0 r4.2 (some t) fun v7 =>
  if (4 : Int32) < v7 then (some ((-3 : Int32), r4.2))
  else (xo_gp 9 8 r4.2 (some t) fun o8 =>
  xo_as r4.2 o8 x1 (2 : Int32) fun H9 =>
  xo_cl 9 (some t) (fun n29 => fc_M_addGiver n29 (0 : Int32) (0 : Int32) x1 H9) fun r10 =>
  xo_cl 9 (some t) (fun n28 => fc_M_addGiver n28 (0 : Int32) (0 : Int32) x1 r10.2) fun r11 =>
  xo_gp 9 15 r11.2 (some t) fun o12 =>
  xo_as r11.2 o12 x1 r10.1 fun H13 =>
  xo_gp 9 1 H13 (some t) fun o14 =>
  xo_al 0 H13 o14 x1 fun v15 =>
  if v15 = (1 : Int32) then (xo_cl 9 (some t) (fun n27 => fc_M_endBranches n27 x1 H13) fun H26 =>
  fb_M_part_130 t r10.1 H26)
  else (xo_gp 9 1 H13 (some t) fun o16 =>
  xo_al 0 H13 o16 x1 fun v17 =>
  if v17 = (2 : Int32) then (xo_gp 9 2 H13 (some t) fun o18 =>
  xo_al 0 H13 o18 x1 fun v19 =>
  xo_cl 9 (some t) (fun n25 => fc_M_failPlain n25 r10.1 v19 H13) fun H20 =>
  xo_gp 9 2 H20 (some t) fun o21 =>
  xo_al 0 H20 o21 x1 fun v22 =>
  xo_cl 9 (some t) (fun n24 => fc_M_failPlain n24 r11.1 v22 H20) fun H23 =>
  fb_M_part_130 t r10.1 H23)
  else (fb_M_part_130 t r10.1 H13)))))
  else (some ((-2 : Int32), r4.2)))
  else (some ((-2 : Int32), r1.2)))
  else (some ((-1 : Int32), r1.2))

set_option maxRecDepth 100000 in
set_option maxHeartbeats 4000000 in
theorem kb_M_part_130 (t : xo_N) (x2 : Int32) (H : xo_H) (r : Int32 × xo_H) : xo_X mt_M_part 0 0 xo_ji r 130 [(0, .inr (some t)), (2, .inl x2)] [] H (fb_M_part_130 t x2 H) := by
  unfold fb_M_part_130
  refine xo_aload_n (pc' := 131) dd_M_part_130 rfl 0 rfl rfl ?_
  refine xo_callVv (as := []) (o := (some t)) (st := []) (pc' := 134) dd_M_part_131 cv_M_wake ml_M_278 rfl rfl ⟨by decide, by decide⟩ rfl rfl rfl (Nat.le_of_ble_eq_true rfl) rfl (fun n q h => kc_M_wake n H q h) fun H1 => ?_
  refine xo_iload_n (pc' := 135) dd_M_part_134 rfl 1 rfl rfl ?_
  exact xo_iret dd_M_part_135 rfl
set_option maxRecDepth 100000 in
set_option maxHeartbeats 4000000 in
theorem kb_M_part (t : xo_N) (x1 : Int32) (H : xo_H) (r : Int32 × xo_H) : xo_X mt_M_part 0 0 xo_ji r 0 [(0, .inr (some t)), (1, .inl x1)] [] H (fc_M_part t x1 H) := by
  unfold fc_M_part
  refine xo_aload_n (pc' := 1) dd_M_part_0 rfl 0 rfl rfl ?_
  refine xo_iload_n (pc' := 2) dd_M_part_1 rfl 1 rfl rfl ?_
  refine xo_callVi (as := [.inl x1]) (o := (some t)) (st := []) (pc' := 5) dd_M_part_2 cv_M_noGiver ml_M_295 rfl rfl ⟨by decide, by decide⟩ rfl rfl rfl (Nat.le_of_ble_eq_true rfl) rfl (fun n q h => kc_M_noGiver n x1 H q h) fun r1 => ?_
  refine xo_if_eq (pc' := 8) (tgt := 10) dd_M_part_5 rfl rfl ?_ ?_
  · refine xo_aload_n (pc' := 11) dd_M_part_10 rfl 0 rfl rfl ?_
    refine xo_getP (pc' := 14) dd_M_part_11 ff_M_32 (by decide) rfl fun o2 => ?_
    refine xo_iload_n (pc' := 15) dd_M_part_14 rfl 1 rfl rfl ?_
    refine xo_iald (pc' := 16) dd_M_part_15 rfl fun v3 => ?_
    refine xo_if_ne (pc' := 19) (tgt := 36) dd_M_part_16 rfl rfl ?_ ?_
    · refine xo_bipush (pc' := 38) (v := (-2 : Int32)) dd_M_part_36 (by decide) rfl ?_
      exact xo_iret dd_M_part_38 rfl
    · refine xo_aload_n (pc' := 20) dd_M_part_19 rfl 0 rfl rfl ?_
      refine xo_iload_n (pc' := 21) dd_M_part_20 rfl 1 rfl rfl ?_
      refine xo_callVi (as := [.inl x1]) (o := (some t)) (st := []) (pc' := 24) dd_M_part_21 cv_M_isBranch ml_M_212 rfl rfl ⟨by decide, by decide⟩ rfl rfl rfl (Nat.le_of_ble_eq_true rfl) rfl (fun n q h => kc_M_isBranch n x1 r1.2 q h) fun r4 => ?_
      refine xo_if_ne (pc' := 27) (tgt := 36) dd_M_part_24 rfl rfl ?_ ?_
      · refine xo_bipush (pc' := 38) (v := (-2 : Int32)) dd_M_part_36 (by decide) rfl ?_
        exact xo_iret dd_M_part_38 rfl
      · refine xo_aload_n (pc' := 28) dd_M_part_27 rfl 0 rfl rfl ?_
        refine xo_getP (pc' := 31) dd_M_part_28 ff_M_44 (by decide) rfl fun o5 => ?_
        refine xo_iload_n (pc' := 32) dd_M_part_31 rfl 1 rfl rfl ?_
        refine xo_iald (pc' := 33) dd_M_part_32 rfl fun v6 => ?_
        refine xo_if_le (pc' := 36) (tgt := 39) dd_M_part_33 rfl rfl ?_ ?_
        · refine xo_aload_n (pc' := 40) dd_M_part_39 rfl 0 rfl rfl ?_
          refine xo_getI (pc' := 43) dd_M_part_40 ff_M_285 (by decide) rfl fun v7 => ?_
          refine xo_iconst (pc' := 44) (v := (4 : Int32)) dd_M_part_43 (by decide) rfl ?_
          refine xo_icmp_le (pc' := 47) (tgt := 50) dd_M_part_44 rfl rfl ?_ ?_
          · refine xo_aload_n (pc' := 51) dd_M_part_50 rfl 0 rfl rfl ?_
            refine xo_getP (pc' := 54) dd_M_part_51 ff_M_32 (by decide) rfl fun o8 => ?_
            refine xo_iload_n (pc' := 55) dd_M_part_54 rfl 1 rfl rfl ?_
            refine xo_iconst (pc' := 56) (v := (2 : Int32)) dd_M_part_55 (by decide) rfl ?_
            refine xo_iast (pc' := 57) dd_M_part_56 rfl fun H9 => ?_
            refine xo_aload_n (pc' := 58) dd_M_part_57 rfl 0 rfl rfl ?_
            refine xo_iconst (pc' := 59) (v := (0 : Int32)) dd_M_part_58 (by decide) rfl ?_
            refine xo_iconst (pc' := 60) (v := (0 : Int32)) dd_M_part_59 (by decide) rfl ?_
            refine xo_iload_n (pc' := 61) dd_M_part_60 rfl 1 rfl rfl ?_
            refine xo_callVi (as := [.inl (0 : Int32), .inl (0 : Int32), .inl x1]) (o := (some t)) (st := []) (pc' := 64) dd_M_part_61 cv_M_addGiver ml_M_291 rfl rfl ⟨by decide, by decide⟩ rfl rfl rfl (Nat.le_of_ble_eq_true rfl) rfl (fun n q h => kc_M_addGiver n (0 : Int32) (0 : Int32) x1 H9 q h) fun r10 => ?_
            refine xo_istore_n (pc' := 65) dd_M_part_64 rfl (by decide) rfl rfl ?_
            refine xo_aload_n (pc' := 66) dd_M_part_65 rfl 1 rfl rfl ?_
            refine xo_iconst (pc' := 67) (v := (0 : Int32)) dd_M_part_66 (by decide) rfl ?_
            refine xo_iconst (pc' := 68) (v := (0 : Int32)) dd_M_part_67 (by decide) rfl ?_
            refine xo_iload_n (pc' := 69) dd_M_part_68 rfl 2 rfl rfl ?_
            refine xo_callVi (as := [.inl (0 : Int32), .inl (0 : Int32), .inl x1]) (o := (some t)) (st := []) (pc' := 72) dd_M_part_69 cv_M_addGiver ml_M_291 rfl rfl ⟨by decide, by decide⟩ rfl rfl rfl (Nat.le_of_ble_eq_true rfl) rfl (fun n q h => kc_M_addGiver n (0 : Int32) (0 : Int32) x1 r10.2 q h) fun r11 => ?_
            refine xo_istore_n (pc' := 73) dd_M_part_72 rfl (by decide) rfl rfl ?_
            refine xo_aload_n (pc' := 74) dd_M_part_73 rfl 2 rfl rfl ?_
            refine xo_getP (pc' := 77) dd_M_part_74 ff_M_53 (by decide) rfl fun o12 => ?_
            refine xo_iload_n (pc' := 78) dd_M_part_77 rfl 3 rfl rfl ?_
            refine xo_iload_n (pc' := 79) dd_M_part_78 rfl 1 rfl rfl ?_
            refine xo_iast (pc' := 80) dd_M_part_79 rfl fun H13 => ?_
            refine xo_aload_n (pc' := 81) dd_M_part_80 rfl 2 rfl rfl ?_
            refine xo_getP (pc' := 84) dd_M_part_81 ff_M_7 (by decide) rfl fun o14 => ?_
            refine xo_iload_n (pc' := 85) dd_M_part_84 rfl 3 rfl rfl ?_
            refine xo_iald (pc' := 86) dd_M_part_85 rfl fun v15 => ?_
            refine xo_iconst (pc' := 87) (v := (1 : Int32)) dd_M_part_86 (by decide) rfl ?_
            refine xo_icmp_ne (pc' := 90) (tgt := 98) dd_M_part_87 rfl rfl ?_ ?_
            · refine xo_aload_n (pc' := 99) dd_M_part_98 rfl 2 rfl rfl ?_
              refine xo_getP (pc' := 102) dd_M_part_99 ff_M_7 (by decide) rfl fun o16 => ?_
              refine xo_iload_n (pc' := 103) dd_M_part_102 rfl 3 rfl rfl ?_
              refine xo_iald (pc' := 104) dd_M_part_103 rfl fun v17 => ?_
              refine xo_iconst (pc' := 105) (v := (2 : Int32)) dd_M_part_104 (by decide) rfl ?_
              refine xo_icmp_ne (pc' := 108) (tgt := 130) dd_M_part_105 rfl rfl ?_ ?_
              · refine xo_sub [2, 1] rfl ?_
                exact kb_M_part_130 t r10.1 H13 r
              · refine xo_aload_n (pc' := 109) dd_M_part_108 rfl 2 rfl rfl ?_
                refine xo_iload_n (pc' := 110) dd_M_part_109 rfl 1 rfl rfl ?_
                refine xo_aload_n (pc' := 111) dd_M_part_110 rfl 2 rfl rfl ?_
                refine xo_getP (pc' := 114) dd_M_part_111 ff_M_13 (by decide) rfl fun o18 => ?_
                refine xo_iload_n (pc' := 115) dd_M_part_114 rfl 3 rfl rfl ?_
                refine xo_iald (pc' := 116) dd_M_part_115 rfl fun v19 => ?_
                refine xo_callVv (as := [.inl r10.1, .inl v19]) (o := (some t)) (st := []) (pc' := 119) dd_M_part_116 cv_M_failPlain ml_M_192 rfl rfl ⟨by decide, by decide⟩ rfl rfl rfl (Nat.le_of_ble_eq_true rfl) rfl (fun n q h => kc_M_failPlain n r10.1 v19 H13 q h) fun H20 => ?_
                refine xo_aload_n (pc' := 120) dd_M_part_119 rfl 2 rfl rfl ?_
                refine xo_iload_n (pc' := 121) dd_M_part_120 rfl 0 rfl rfl ?_
                refine xo_aload_n (pc' := 122) dd_M_part_121 rfl 2 rfl rfl ?_
                refine xo_getP (pc' := 125) dd_M_part_122 ff_M_13 (by decide) rfl fun o21 => ?_
                refine xo_iload_n (pc' := 126) dd_M_part_125 rfl 3 rfl rfl ?_
                refine xo_iald (pc' := 127) dd_M_part_126 rfl fun v22 => ?_
                refine xo_callVv (as := [.inl r11.1, .inl v22]) (o := (some t)) (st := []) (pc' := 130) dd_M_part_127 cv_M_failPlain ml_M_192 rfl rfl ⟨by decide, by decide⟩ rfl rfl rfl (Nat.le_of_ble_eq_true rfl) rfl (fun n q h => kc_M_failPlain n r11.1 v22 H20 q h) fun H23 => ?_
                refine xo_sub [2, 1] rfl ?_
                exact kb_M_part_130 t r10.1 H23 r
            · refine xo_aload_n (pc' := 91) dd_M_part_90 rfl 2 rfl rfl ?_
              refine xo_iload_n (pc' := 92) dd_M_part_91 rfl 3 rfl rfl ?_
              refine xo_callVv (as := [.inl x1]) (o := (some t)) (st := []) (pc' := 95) dd_M_part_92 cv_M_endBranches ml_M_189 rfl rfl ⟨by decide, by decide⟩ rfl rfl rfl (Nat.le_of_ble_eq_true rfl) rfl (fun n q h => kc_M_endBranches n x1 H13 q h) fun H26 => ?_
              refine xo_goto (pc' := 130) dd_M_part_95 rfl ?_
              refine xo_sub [2, 1] rfl ?_
              exact kb_M_part_130 t r10.1 H26 r
          · refine xo_bipush (pc' := 49) (v := (-3 : Int32)) dd_M_part_47 (by decide) rfl ?_
            exact xo_iret dd_M_part_49 rfl
        · refine xo_bipush (pc' := 38) (v := (-2 : Int32)) dd_M_part_36 (by decide) rfl ?_
          exact xo_iret dd_M_part_38 rfl
  · refine xo_iconst (pc' := 9) (v := (-1 : Int32)) dd_M_part_8 (by decide) rfl ?_
    exact xo_iret dd_M_part_9 rfl
set_option maxRecDepth 100000 in
set_option maxHeartbeats 4000000 in
theorem kc_M_part (t : xo_N) (x1 : Int32) (H : xo_H) (r : Int32 × xo_H) (hk : fc_M_part t x1 H = some r) : xo_M mt_M_part [.inr (some t), .inl x1] H (xo_ji r) :=
  xo_entry hk (by decide +kernel) (Nat.le_of_ble_eq_true rfl) (kb_M_part t x1 H r)
def fb_M_giverState_62 (t : xo_N) (x1 : Int32) (s0 : Int32) (s1 : Int32) (H : xo_H) : Option (Int32 × xo_H) :=
  xo_gp 9 8 H (some t) fun o1 =>
  xo_al 0 H o1 x1 fun v2 =>
  some (((s0 + s1) + ((32 : Int32) * v2)), H)

def fb_M_giverState_46 (t : xo_N) (x1 : Int32) (s0 : Int32) (s1 : Int32) (H : xo_H) : Option (Int32 × xo_H) :=
  xo_gp 9 7 H (some t) fun o1 =>
  xo_al 1 H o1 x1 fun v2 =>
  if v2 = 0 then (fb_M_giverState_62 t x1 (s0 + s1) (0 : Int32) H)
  else (fb_M_giverState_62 t x1 (s0 + s1) (16 : Int32) H)

def fb_M_giverState_30 (t : xo_N) (x1 : Int32) (s0 : Int32) (s1 : Int32) (H : xo_H) : Option (Int32 × xo_H) :=
  xo_gp 9 6 H (some t) fun o1 =>
  xo_al 1 H o1 x1 fun v2 =>
  if v2 = 0 then (fb_M_giverState_46 t x1 (s0 + s1) (0 : Int32) H)
  else (fb_M_giverState_46 t x1 (s0 + s1) (8 : Int32) H)

def fc_M_giverState (t : xo_N) (x1 : Int32) (H : xo_H) : Option (Int32 × xo_H) :=
  xo_cl 9 (some t) (fun n6 => fc_M_noGiver n6 x1 H) fun r1 =>
  if r1.1 = 0 then (xo_gp 9 1 r1.2 (some t) fun o2 =>
  xo_al 0 r1.2 o2 x1 fun v3 =>
  xo_gp 9 5 r1.2 (some t) fun o4 =>
  xo_al 1 r1.2 o4 x1 fun v5 =>
  if v5 = 0 then (fb_M_giverState_30 t x1 v3 (0 : Int32) r1.2)
  else (fb_M_giverState_30 t x1 v3 (4 : Int32) r1.2))
  else (some ((-1 : Int32), r1.2))

set_option maxRecDepth 100000 in
set_option maxHeartbeats 4000000 in
theorem kb_M_giverState_62 (t : xo_N) (x1 : Int32) (s0 : Int32) (s1 : Int32) (H : xo_H) (r : Int32 × xo_H) : xo_X mt_M_giverState 0 0 xo_ji r 62 [(0, .inr (some t)), (1, .inl x1)] [.inl s1, .inl s0] H (fb_M_giverState_62 t x1 s0 s1 H) := by
  unfold fb_M_giverState_62
  refine xo_iadd (pc' := 63) dd_M_giverState_62 rfl ?_
  refine xo_bipush (pc' := 65) (v := (32 : Int32)) dd_M_giverState_63 (by decide) rfl ?_
  refine xo_aload_n (pc' := 66) dd_M_giverState_65 rfl 0 rfl rfl ?_
  refine xo_getP (pc' := 69) dd_M_giverState_66 ff_M_32 (by decide) rfl fun o1 => ?_
  refine xo_iload_n (pc' := 70) dd_M_giverState_69 rfl 1 rfl rfl ?_
  refine xo_iald (pc' := 71) dd_M_giverState_70 rfl fun v2 => ?_
  refine xo_imul (pc' := 72) dd_M_giverState_71 rfl ?_
  refine xo_iadd (pc' := 73) dd_M_giverState_72 rfl ?_
  exact xo_iret dd_M_giverState_73 rfl
set_option maxRecDepth 100000 in
set_option maxHeartbeats 4000000 in
theorem kb_M_giverState_46 (t : xo_N) (x1 : Int32) (s0 : Int32) (s1 : Int32) (H : xo_H) (r : Int32 × xo_H) : xo_X mt_M_giverState 0 0 xo_ji r 46 [(0, .inr (some t)), (1, .inl x1)] [.inl s1, .inl s0] H (fb_M_giverState_46 t x1 s0 s1 H) := by
  unfold fb_M_giverState_46
  refine xo_iadd (pc' := 47) dd_M_giverState_46 rfl ?_
  refine xo_aload_n (pc' := 48) dd_M_giverState_47 rfl 0 rfl rfl ?_
  refine xo_getP (pc' := 51) dd_M_giverState_48 ff_M_29 (by decide) rfl fun o1 => ?_
  refine xo_iload_n (pc' := 52) dd_M_giverState_51 rfl 1 rfl rfl ?_
  refine xo_zald (pc' := 53) dd_M_giverState_52 rfl fun v2 => ?_
  refine xo_if_eq (pc' := 56) (tgt := 61) dd_M_giverState_53 rfl rfl ?_ ?_
  · refine xo_iconst (pc' := 62) (v := (0 : Int32)) dd_M_giverState_61 (by decide) rfl ?_
    exact kb_M_giverState_62 t x1 (s0 + s1) (0 : Int32) H r
  · refine xo_bipush (pc' := 58) (v := (16 : Int32)) dd_M_giverState_56 (by decide) rfl ?_
    refine xo_goto (pc' := 62) dd_M_giverState_58 rfl ?_
    exact kb_M_giverState_62 t x1 (s0 + s1) (16 : Int32) H r
set_option maxRecDepth 100000 in
set_option maxHeartbeats 4000000 in
theorem kb_M_giverState_30 (t : xo_N) (x1 : Int32) (s0 : Int32) (s1 : Int32) (H : xo_H) (r : Int32 × xo_H) : xo_X mt_M_giverState 0 0 xo_ji r 30 [(0, .inr (some t)), (1, .inl x1)] [.inl s1, .inl s0] H (fb_M_giverState_30 t x1 s0 s1 H) := by
  unfold fb_M_giverState_30
  refine xo_iadd (pc' := 31) dd_M_giverState_30 rfl ?_
  refine xo_aload_n (pc' := 32) dd_M_giverState_31 rfl 0 rfl rfl ?_
  refine xo_getP (pc' := 35) dd_M_giverState_32 ff_M_26 (by decide) rfl fun o1 => ?_
  refine xo_iload_n (pc' := 36) dd_M_giverState_35 rfl 1 rfl rfl ?_
  refine xo_zald (pc' := 37) dd_M_giverState_36 rfl fun v2 => ?_
  refine xo_if_eq (pc' := 40) (tgt := 45) dd_M_giverState_37 rfl rfl ?_ ?_
  · refine xo_iconst (pc' := 46) (v := (0 : Int32)) dd_M_giverState_45 (by decide) rfl ?_
    exact kb_M_giverState_46 t x1 (s0 + s1) (0 : Int32) H r
  · refine xo_bipush (pc' := 42) (v := (8 : Int32)) dd_M_giverState_40 (by decide) rfl ?_
    refine xo_goto (pc' := 46) dd_M_giverState_42 rfl ?_
    exact kb_M_giverState_46 t x1 (s0 + s1) (8 : Int32) H r
set_option maxRecDepth 100000 in
set_option maxHeartbeats 4000000 in
theorem kb_M_giverState (t : xo_N) (x1 : Int32) (H : xo_H) (r : Int32 × xo_H) : xo_X mt_M_giverState 0 0 xo_ji r 0 [(0, .inr (some t)), (1, .inl x1)] [] H (fc_M_giverState t x1 H) := by
  unfold fc_M_giverState
  refine xo_aload_n (pc' := 1) dd_M_giverState_0 rfl 0 rfl rfl ?_
  refine xo_iload_n (pc' := 2) dd_M_giverState_1 rfl 1 rfl rfl ?_
  refine xo_callVi (as := [.inl x1]) (o := (some t)) (st := []) (pc' := 5) dd_M_giverState_2 cv_M_noGiver ml_M_295 rfl rfl ⟨by decide, by decide⟩ rfl rfl rfl (Nat.le_of_ble_eq_true rfl) rfl (fun n q h => kc_M_noGiver n x1 H q h) fun r1 => ?_
  refine xo_if_eq (pc' := 8) (tgt := 10) dd_M_giverState_5 rfl rfl ?_ ?_
  · refine xo_aload_n (pc' := 11) dd_M_giverState_10 rfl 0 rfl rfl ?_
    refine xo_getP (pc' := 14) dd_M_giverState_11 ff_M_7 (by decide) rfl fun o2 => ?_
    refine xo_iload_n (pc' := 15) dd_M_giverState_14 rfl 1 rfl rfl ?_
    refine xo_iald (pc' := 16) dd_M_giverState_15 rfl fun v3 => ?_
    refine xo_aload_n (pc' := 17) dd_M_giverState_16 rfl 0 rfl rfl ?_
    refine xo_getP (pc' := 20) dd_M_giverState_17 ff_M_23 (by decide) rfl fun o4 => ?_
    refine xo_iload_n (pc' := 21) dd_M_giverState_20 rfl 1 rfl rfl ?_
    refine xo_zald (pc' := 22) dd_M_giverState_21 rfl fun v5 => ?_
    refine xo_if_eq (pc' := 25) (tgt := 29) dd_M_giverState_22 rfl rfl ?_ ?_
    · refine xo_iconst (pc' := 30) (v := (0 : Int32)) dd_M_giverState_29 (by decide) rfl ?_
      exact kb_M_giverState_30 t x1 v3 (0 : Int32) r1.2 r
    · refine xo_iconst (pc' := 26) (v := (4 : Int32)) dd_M_giverState_25 (by decide) rfl ?_
      refine xo_goto (pc' := 30) dd_M_giverState_26 rfl ?_
      exact kb_M_giverState_30 t x1 v3 (4 : Int32) r1.2 r
  · refine xo_iconst (pc' := 9) (v := (-1 : Int32)) dd_M_giverState_8 (by decide) rfl ?_
    exact xo_iret dd_M_giverState_9 rfl
set_option maxRecDepth 100000 in
set_option maxHeartbeats 4000000 in
theorem kc_M_giverState (t : xo_N) (x1 : Int32) (H : xo_H) (r : Int32 × xo_H) (hk : fc_M_giverState t x1 H = some r) : xo_M mt_M_giverState [.inr (some t), .inl x1] H (xo_ji r) :=
  xo_entry hk (by decide +kernel) (Nat.le_of_ble_eq_true rfl) (kb_M_giverState t x1 H r)
def fc_M_giverRoom (t : xo_N) (x1 : Int32) (H : xo_H) : Option (Int32 × xo_H) :=
  xo_cl 9 (some t) (fun n6 => fc_M_noGiver n6 x1 H) fun r1 =>
  if r1.1 = 0 then (xo_gp 9 1 r1.2 (some t) fun o2 =>
  xo_al 0 r1.2 o2 x1 fun v3 =>
  if v3 = 0 then (xo_cl 9 (some t) (fun n5 => fc_M_room n5 x1 r1.2) fun r4 =>
  some (r4.1, r4.2))
  else (some ((0 : Int32), r1.2)))
  else (some ((-1000 : Int32), r1.2))

set_option maxRecDepth 100000 in
set_option maxHeartbeats 4000000 in
theorem kb_M_giverRoom (t : xo_N) (x1 : Int32) (H : xo_H) (r : Int32 × xo_H) : xo_X mt_M_giverRoom 0 0 xo_ji r 0 [(0, .inr (some t)), (1, .inl x1)] [] H (fc_M_giverRoom t x1 H) := by
  unfold fc_M_giverRoom
  refine xo_aload_n (pc' := 1) dd_M_giverRoom_0 rfl 0 rfl rfl ?_
  refine xo_iload_n (pc' := 2) dd_M_giverRoom_1 rfl 1 rfl rfl ?_
  refine xo_callVi (as := [.inl x1]) (o := (some t)) (st := []) (pc' := 5) dd_M_giverRoom_2 cv_M_noGiver ml_M_295 rfl rfl ⟨by decide, by decide⟩ rfl rfl rfl (Nat.le_of_ble_eq_true rfl) rfl (fun n q h => kc_M_noGiver n x1 H q h) fun r1 => ?_
  refine xo_if_eq (pc' := 8) (tgt := 14) dd_M_giverRoom_5 rfl rfl ?_ ?_
  · refine xo_aload_n (pc' := 15) dd_M_giverRoom_14 rfl 0 rfl rfl ?_
    refine xo_getP (pc' := 18) dd_M_giverRoom_15 ff_M_7 (by decide) rfl fun o2 => ?_
    refine xo_iload_n (pc' := 19) dd_M_giverRoom_18 rfl 1 rfl rfl ?_
    refine xo_iald (pc' := 20) dd_M_giverRoom_19 rfl fun v3 => ?_
    refine xo_if_ne (pc' := 23) (tgt := 31) dd_M_giverRoom_20 rfl rfl ?_ ?_
    · refine xo_iconst (pc' := 32) (v := (0 : Int32)) dd_M_giverRoom_31 (by decide) rfl ?_
      exact xo_iret dd_M_giverRoom_32 rfl
    · refine xo_aload_n (pc' := 24) dd_M_giverRoom_23 rfl 0 rfl rfl ?_
      refine xo_iload_n (pc' := 25) dd_M_giverRoom_24 rfl 1 rfl rfl ?_
      refine xo_callVi (as := [.inl x1]) (o := (some t)) (st := []) (pc' := 28) dd_M_giverRoom_25 cv_M_room ml_M_195 rfl rfl ⟨by decide, by decide⟩ rfl rfl rfl (Nat.le_of_ble_eq_true rfl) rfl (fun n q h => kc_M_room n x1 r1.2 q h) fun r4 => ?_
      refine xo_goto (pc' := 32) dd_M_giverRoom_28 rfl ?_
      exact xo_iret dd_M_giverRoom_32 rfl
  · refine xo_sipush (pc' := 11) (v := (-1000 : Int32)) dd_M_giverRoom_8 (by decide) rfl ?_
    refine xo_goto (pc' := 32) dd_M_giverRoom_11 rfl ?_
    exact xo_iret dd_M_giverRoom_32 rfl
set_option maxRecDepth 100000 in
set_option maxHeartbeats 4000000 in
theorem kc_M_giverRoom (t : xo_N) (x1 : Int32) (H : xo_H) (r : Int32 × xo_H) (hk : fc_M_giverRoom t x1 H = some r) : xo_M mt_M_giverRoom [.inr (some t), .inl x1] H (xo_ji r) :=
  xo_entry hk (by decide +kernel) (Nat.le_of_ble_eq_true rfl) (kb_M_giverRoom t x1 H r)
def fc_M_giverQueue (t : xo_N) (x1 : Int32) (H : xo_H) : Option (Int32 × xo_H) :=
  xo_cl 9 (some t) (fun n6 => fc_M_noGiver n6 x1 H) fun r1 =>
  if r1.1 = 0 then (xo_gp 9 10 r1.2 (some t) fun o2 =>
  xo_al 0 r1.2 o2 x1 fun v3 =>
  xo_gp 9 12 r1.2 (some t) fun o4 =>
  xo_al 0 r1.2 o4 x1 fun v5 =>
  some ((v3 + ((100 : Int32) * v5)), r1.2))
  else (some ((-1 : Int32), r1.2))

set_option maxRecDepth 100000 in
set_option maxHeartbeats 4000000 in
theorem kb_M_giverQueue (t : xo_N) (x1 : Int32) (H : xo_H) (r : Int32 × xo_H) : xo_X mt_M_giverQueue 0 0 xo_ji r 0 [(0, .inr (some t)), (1, .inl x1)] [] H (fc_M_giverQueue t x1 H) := by
  unfold fc_M_giverQueue
  refine xo_aload_n (pc' := 1) dd_M_giverQueue_0 rfl 0 rfl rfl ?_
  refine xo_iload_n (pc' := 2) dd_M_giverQueue_1 rfl 1 rfl rfl ?_
  refine xo_callVi (as := [.inl x1]) (o := (some t)) (st := []) (pc' := 5) dd_M_giverQueue_2 cv_M_noGiver ml_M_295 rfl rfl ⟨by decide, by decide⟩ rfl rfl rfl (Nat.le_of_ble_eq_true rfl) rfl (fun n q h => kc_M_noGiver n x1 H q h) fun r1 => ?_
  refine xo_if_eq (pc' := 8) (tgt := 12) dd_M_giverQueue_5 rfl rfl ?_ ?_
  · refine xo_aload_n (pc' := 13) dd_M_giverQueue_12 rfl 0 rfl rfl ?_
    refine xo_getP (pc' := 16) dd_M_giverQueue_13 ff_M_38 (by decide) rfl fun o2 => ?_
    refine xo_iload_n (pc' := 17) dd_M_giverQueue_16 rfl 1 rfl rfl ?_
    refine xo_iald (pc' := 18) dd_M_giverQueue_17 rfl fun v3 => ?_
    refine xo_bipush (pc' := 20) (v := (100 : Int32)) dd_M_giverQueue_18 (by decide) rfl ?_
    refine xo_aload_n (pc' := 21) dd_M_giverQueue_20 rfl 0 rfl rfl ?_
    refine xo_getP (pc' := 24) dd_M_giverQueue_21 ff_M_44 (by decide) rfl fun o4 => ?_
    refine xo_iload_n (pc' := 25) dd_M_giverQueue_24 rfl 1 rfl rfl ?_
    refine xo_iald (pc' := 26) dd_M_giverQueue_25 rfl fun v5 => ?_
    refine xo_imul (pc' := 27) dd_M_giverQueue_26 rfl ?_
    refine xo_iadd (pc' := 28) dd_M_giverQueue_27 rfl ?_
    exact xo_iret dd_M_giverQueue_28 rfl
  · refine xo_iconst (pc' := 9) (v := (-1 : Int32)) dd_M_giverQueue_8 (by decide) rfl ?_
    refine xo_goto (pc' := 28) dd_M_giverQueue_9 rfl ?_
    exact xo_iret dd_M_giverQueue_28 rfl
set_option maxRecDepth 100000 in
set_option maxHeartbeats 4000000 in
theorem kc_M_giverQueue (t : xo_N) (x1 : Int32) (H : xo_H) (r : Int32 × xo_H) (hk : fc_M_giverQueue t x1 H = some r) : xo_M mt_M_giverQueue [.inr (some t), .inl x1] H (xo_ji r) :=
  xo_entry hk (by decide +kernel) (Nat.le_of_ble_eq_true rfl) (kb_M_giverQueue t x1 H r)
def fb_M_takerState_95 (t : xo_N) (x1 : Int32) (s0 : Int32) (s1 : Int32) (H : xo_H) : Option (Int32 × xo_H) :=
  xo_gp 9 34 H (some t) fun o1 =>
  xo_al 1 H o1 x1 fun v2 =>
  if v2 = 0 then (some (((s0 + s1) + (0 : Int32)), H))
  else (some (((s0 + s1) + (128 : Int32)), H))

def fb_M_takerState_77 (t : xo_N) (x1 : Int32) (x2 : Int32) (s0 : Int32) (s1 : Int32) (H : xo_H) : Option (Int32 × xo_H) :=
  xo_gp 9 31 H (some t) fun o1 =>
  xo_al 1 H o1 x1 fun v2 =>
  if v2 = 0 then (fb_M_takerState_95 t x1 ((s0 + s1) + x2) (0 : Int32) H)
  else (fb_M_takerState_95 t x1 ((s0 + s1) + x2) (64 : Int32) H)

def fb_M_takerState_56 (t : xo_N) (x1 : Int32) (s0 : Int32) (H : xo_H) : Option (Int32 × xo_H) :=
  xo_gp 9 21 H (some t) fun o1 =>
  xo_al 0 H o1 x1 fun v2 =>
  xo_gp 9 29 H (some t) fun o3 =>
  xo_al 1 H o3 x1 fun v4 =>
  if v4 = 0 then (fb_M_takerState_77 t x1 s0 v2 (0 : Int32) H)
  else (fb_M_takerState_77 t x1 s0 v2 (4 : Int32) H)

def fc_M_takerState (t : xo_N) (x1 : Int32) (H : xo_H) : Option (Int32 × xo_H) :=
  xo_cl 9 (some t) (fun n8 => fc_M_noTaker n8 x1 H) fun r1 =>
  if r1.1 = 0 then (xo_gp 9 30 r1.2 (some t) fun o2 =>
  xo_al 0 r1.2 o2 x1 fun v3 =>
  if v3 = (3 : Int32) then (fb_M_takerState_56 t x1 (8 : Int32) r1.2)
  else (xo_gp 9 30 r1.2 (some t) fun o4 =>
  xo_al 0 r1.2 o4 x1 fun v5 =>
  if v5 = (4 : Int32) then (fb_M_takerState_56 t x1 (16 : Int32) r1.2)
  else (xo_gp 9 30 r1.2 (some t) fun o6 =>
  xo_al 0 r1.2 o6 x1 fun v7 =>
  if v7 = (5 : Int32) then (fb_M_takerState_56 t x1 (32 : Int32) r1.2)
  else (fb_M_takerState_56 t x1 (0 : Int32) r1.2))))
  else (some ((-1 : Int32), r1.2))

set_option maxRecDepth 100000 in
set_option maxHeartbeats 4000000 in
theorem kb_M_takerState_95 (t : xo_N) (x1 : Int32) (s0 : Int32) (s1 : Int32) (H : xo_H) (r : Int32 × xo_H) : xo_X mt_M_takerState 0 0 xo_ji r 95 [(0, .inr (some t)), (1, .inl x1)] [.inl s1, .inl s0] H (fb_M_takerState_95 t x1 s0 s1 H) := by
  unfold fb_M_takerState_95
  refine xo_iadd (pc' := 96) dd_M_takerState_95 rfl ?_
  refine xo_aload_n (pc' := 97) dd_M_takerState_96 rfl 0 rfl rfl ?_
  refine xo_getP (pc' := 100) dd_M_takerState_97 ff_M_107 (by decide) rfl fun o1 => ?_
  refine xo_iload_n (pc' := 101) dd_M_takerState_100 rfl 1 rfl rfl ?_
  refine xo_zald (pc' := 102) dd_M_takerState_101 rfl fun v2 => ?_
  refine xo_if_eq (pc' := 105) (tgt := 111) dd_M_takerState_102 rfl rfl ?_ ?_
  · refine xo_iconst (pc' := 112) (v := (0 : Int32)) dd_M_takerState_111 (by decide) rfl ?_
    refine xo_iadd (pc' := 113) dd_M_takerState_112 rfl ?_
    exact xo_iret dd_M_takerState_113 rfl
  · refine xo_sipush (pc' := 108) (v := (128 : Int32)) dd_M_takerState_105 (by decide) rfl ?_
    refine xo_goto (pc' := 112) dd_M_takerState_108 rfl ?_
    refine xo_iadd (pc' := 113) dd_M_takerState_112 rfl ?_
    exact xo_iret dd_M_takerState_113 rfl
set_option maxRecDepth 100000 in
set_option maxHeartbeats 4000000 in
theorem kb_M_takerState_77 (t : xo_N) (x1 : Int32) (x2 : Int32) (s0 : Int32) (s1 : Int32) (H : xo_H) (r : Int32 × xo_H) : xo_X mt_M_takerState 0 0 xo_ji r 77 [(0, .inr (some t)), (1, .inl x1), (2, .inl x2)] [.inl s1, .inl s0] H (fb_M_takerState_77 t x1 x2 s0 s1 H) := by
  unfold fb_M_takerState_77
  refine xo_iadd (pc' := 78) dd_M_takerState_77 rfl ?_
  refine xo_iload_n (pc' := 79) dd_M_takerState_78 rfl 2 rfl rfl ?_
  refine xo_iadd (pc' := 80) dd_M_takerState_79 rfl ?_
  refine xo_aload_n (pc' := 81) dd_M_takerState_80 rfl 0 rfl rfl ?_
  refine xo_getP (pc' := 84) dd_M_takerState_81 ff_M_98 (by decide) rfl fun o1 => ?_
  refine xo_iload_n (pc' := 85) dd_M_takerState_84 rfl 1 rfl rfl ?_
  refine xo_zald (pc' := 86) dd_M_takerState_85 rfl fun v2 => ?_
  refine xo_if_eq (pc' := 89) (tgt := 94) dd_M_takerState_86 rfl rfl ?_ ?_
  · refine xo_iconst (pc' := 95) (v := (0 : Int32)) dd_M_takerState_94 (by decide) rfl ?_
    refine xo_sub [0, 1] rfl ?_
    exact kb_M_takerState_95 t x1 ((s0 + s1) + x2) (0 : Int32) H r
  · refine xo_bipush (pc' := 91) (v := (64 : Int32)) dd_M_takerState_89 (by decide) rfl ?_
    refine xo_goto (pc' := 95) dd_M_takerState_91 rfl ?_
    refine xo_sub [0, 1] rfl ?_
    exact kb_M_takerState_95 t x1 ((s0 + s1) + x2) (64 : Int32) H r
set_option maxRecDepth 100000 in
set_option maxHeartbeats 4000000 in
theorem kb_M_takerState_56 (t : xo_N) (x1 : Int32) (s0 : Int32) (H : xo_H) (r : Int32 × xo_H) : xo_X mt_M_takerState 0 0 xo_ji r 56 [(0, .inr (some t)), (1, .inl x1)] [.inl s0] H (fb_M_takerState_56 t x1 s0 H) := by
  unfold fb_M_takerState_56
  refine xo_istore_n (pc' := 57) dd_M_takerState_56 rfl (by decide) rfl rfl ?_
  refine xo_aload_n (pc' := 58) dd_M_takerState_57 rfl 1 rfl rfl ?_
  refine xo_getP (pc' := 61) dd_M_takerState_58 ff_M_68 (by decide) rfl fun o1 => ?_
  refine xo_iload_n (pc' := 62) dd_M_takerState_61 rfl 2 rfl rfl ?_
  refine xo_iald (pc' := 63) dd_M_takerState_62 rfl fun v2 => ?_
  refine xo_aload_n (pc' := 64) dd_M_takerState_63 rfl 1 rfl rfl ?_
  refine xo_getP (pc' := 67) dd_M_takerState_64 ff_M_92 (by decide) rfl fun o3 => ?_
  refine xo_iload_n (pc' := 68) dd_M_takerState_67 rfl 2 rfl rfl ?_
  refine xo_zald (pc' := 69) dd_M_takerState_68 rfl fun v4 => ?_
  refine xo_if_eq (pc' := 72) (tgt := 76) dd_M_takerState_69 rfl rfl ?_ ?_
  · refine xo_iconst (pc' := 77) (v := (0 : Int32)) dd_M_takerState_76 (by decide) rfl ?_
    refine xo_sub [1, 2, 0] rfl ?_
    exact kb_M_takerState_77 t x1 s0 v2 (0 : Int32) H r
  · refine xo_iconst (pc' := 73) (v := (4 : Int32)) dd_M_takerState_72 (by decide) rfl ?_
    refine xo_goto (pc' := 77) dd_M_takerState_73 rfl ?_
    refine xo_sub [1, 2, 0] rfl ?_
    exact kb_M_takerState_77 t x1 s0 v2 (4 : Int32) H r
set_option maxRecDepth 100000 in
set_option maxHeartbeats 4000000 in
theorem kb_M_takerState (t : xo_N) (x1 : Int32) (H : xo_H) (r : Int32 × xo_H) : xo_X mt_M_takerState 0 0 xo_ji r 0 [(0, .inr (some t)), (1, .inl x1)] [] H (fc_M_takerState t x1 H) := by
  unfold fc_M_takerState
  refine xo_aload_n (pc' := 1) dd_M_takerState_0 rfl 0 rfl rfl ?_
  refine xo_iload_n (pc' := 2) dd_M_takerState_1 rfl 1 rfl rfl ?_
  refine xo_callVi (as := [.inl x1]) (o := (some t)) (st := []) (pc' := 5) dd_M_takerState_2 cv_M_noTaker ml_M_308 rfl rfl ⟨by decide, by decide⟩ rfl rfl rfl (Nat.le_of_ble_eq_true rfl) rfl (fun n q h => kc_M_noTaker n x1 H q h) fun r1 => ?_
  refine xo_if_eq (pc' := 8) (tgt := 10) dd_M_takerState_5 rfl rfl ?_ ?_
  · refine xo_aload_n (pc' := 11) dd_M_takerState_10 rfl 0 rfl rfl ?_
    refine xo_getP (pc' := 14) dd_M_takerState_11 ff_M_95 (by decide) rfl fun o2 => ?_
    refine xo_iload_n (pc' := 15) dd_M_takerState_14 rfl 1 rfl rfl ?_
    refine xo_iald (pc' := 16) dd_M_takerState_15 rfl fun v3 => ?_
    refine xo_iconst (pc' := 17) (v := (3 : Int32)) dd_M_takerState_16 (by decide) rfl ?_
    refine xo_icmp_ne (pc' := 20) (tgt := 25) dd_M_takerState_17 rfl rfl ?_ ?_
    · refine xo_aload_n (pc' := 26) dd_M_takerState_25 rfl 0 rfl rfl ?_
      refine xo_getP (pc' := 29) dd_M_takerState_26 ff_M_95 (by decide) rfl fun o4 => ?_
      refine xo_iload_n (pc' := 30) dd_M_takerState_29 rfl 1 rfl rfl ?_
      refine xo_iald (pc' := 31) dd_M_takerState_30 rfl fun v5 => ?_
      refine xo_iconst (pc' := 32) (v := (4 : Int32)) dd_M_takerState_31 (by decide) rfl ?_
      refine xo_icmp_ne (pc' := 35) (tgt := 40) dd_M_takerState_32 rfl rfl ?_ ?_
      · refine xo_aload_n (pc' := 41) dd_M_takerState_40 rfl 0 rfl rfl ?_
        refine xo_getP (pc' := 44) dd_M_takerState_41 ff_M_95 (by decide) rfl fun o6 => ?_
        refine xo_iload_n (pc' := 45) dd_M_takerState_44 rfl 1 rfl rfl ?_
        refine xo_iald (pc' := 46) dd_M_takerState_45 rfl fun v7 => ?_
        refine xo_iconst (pc' := 47) (v := (5 : Int32)) dd_M_takerState_46 (by decide) rfl ?_
        refine xo_icmp_ne (pc' := 50) (tgt := 55) dd_M_takerState_47 rfl rfl ?_ ?_
        · refine xo_iconst (pc' := 56) (v := (0 : Int32)) dd_M_takerState_55 (by decide) rfl ?_
          exact kb_M_takerState_56 t x1 (0 : Int32) r1.2 r
        · refine xo_bipush (pc' := 52) (v := (32 : Int32)) dd_M_takerState_50 (by decide) rfl ?_
          refine xo_goto (pc' := 56) dd_M_takerState_52 rfl ?_
          exact kb_M_takerState_56 t x1 (32 : Int32) r1.2 r
      · refine xo_bipush (pc' := 37) (v := (16 : Int32)) dd_M_takerState_35 (by decide) rfl ?_
        refine xo_goto (pc' := 56) dd_M_takerState_37 rfl ?_
        exact kb_M_takerState_56 t x1 (16 : Int32) r1.2 r
    · refine xo_bipush (pc' := 22) (v := (8 : Int32)) dd_M_takerState_20 (by decide) rfl ?_
      refine xo_goto (pc' := 56) dd_M_takerState_22 rfl ?_
      exact kb_M_takerState_56 t x1 (8 : Int32) r1.2 r
  · refine xo_iconst (pc' := 9) (v := (-1 : Int32)) dd_M_takerState_8 (by decide) rfl ?_
    exact xo_iret dd_M_takerState_9 rfl
set_option maxRecDepth 100000 in
set_option maxHeartbeats 4000000 in
theorem kc_M_takerState (t : xo_N) (x1 : Int32) (H : xo_H) (r : Int32 × xo_H) (hk : fc_M_takerState t x1 H = some r) : xo_M mt_M_takerState [.inr (some t), .inl x1] H (xo_ji r) :=
  xo_entry hk (by decide +kernel) (Nat.le_of_ble_eq_true rfl) (kb_M_takerState t x1 H r)
def fc_M_takerRoom (t : xo_N) (x1 : Int32) (H : xo_H) : Option (Int32 × xo_H) :=
  xo_cl 9 (some t) (fun n6 => fc_M_noTaker n6 x1 H) fun r1 =>
  if r1.1 = 0 then (xo_gp 9 21 r1.2 (some t) fun o2 =>
  xo_al 0 r1.2 o2 x1 fun v3 =>
  if v3 = 0 then (xo_cl 9 (some t) (fun n5 => fc_M_space n5 x1 r1.2) fun r4 =>
  some (r4.1, r4.2))
  else (some ((0 : Int32), r1.2)))
  else (some ((-1000 : Int32), r1.2))

set_option maxRecDepth 100000 in
set_option maxHeartbeats 4000000 in
theorem kb_M_takerRoom (t : xo_N) (x1 : Int32) (H : xo_H) (r : Int32 × xo_H) : xo_X mt_M_takerRoom 0 0 xo_ji r 0 [(0, .inr (some t)), (1, .inl x1)] [] H (fc_M_takerRoom t x1 H) := by
  unfold fc_M_takerRoom
  refine xo_aload_n (pc' := 1) dd_M_takerRoom_0 rfl 0 rfl rfl ?_
  refine xo_iload_n (pc' := 2) dd_M_takerRoom_1 rfl 1 rfl rfl ?_
  refine xo_callVi (as := [.inl x1]) (o := (some t)) (st := []) (pc' := 5) dd_M_takerRoom_2 cv_M_noTaker ml_M_308 rfl rfl ⟨by decide, by decide⟩ rfl rfl rfl (Nat.le_of_ble_eq_true rfl) rfl (fun n q h => kc_M_noTaker n x1 H q h) fun r1 => ?_
  refine xo_if_eq (pc' := 8) (tgt := 14) dd_M_takerRoom_5 rfl rfl ?_ ?_
  · refine xo_aload_n (pc' := 15) dd_M_takerRoom_14 rfl 0 rfl rfl ?_
    refine xo_getP (pc' := 18) dd_M_takerRoom_15 ff_M_68 (by decide) rfl fun o2 => ?_
    refine xo_iload_n (pc' := 19) dd_M_takerRoom_18 rfl 1 rfl rfl ?_
    refine xo_iald (pc' := 20) dd_M_takerRoom_19 rfl fun v3 => ?_
    refine xo_if_ne (pc' := 23) (tgt := 31) dd_M_takerRoom_20 rfl rfl ?_ ?_
    · refine xo_iconst (pc' := 32) (v := (0 : Int32)) dd_M_takerRoom_31 (by decide) rfl ?_
      exact xo_iret dd_M_takerRoom_32 rfl
    · refine xo_aload_n (pc' := 24) dd_M_takerRoom_23 rfl 0 rfl rfl ?_
      refine xo_iload_n (pc' := 25) dd_M_takerRoom_24 rfl 1 rfl rfl ?_
      refine xo_callVi (as := [.inl x1]) (o := (some t)) (st := []) (pc' := 28) dd_M_takerRoom_25 cv_M_space ml_M_251 rfl rfl ⟨by decide, by decide⟩ rfl rfl rfl (Nat.le_of_ble_eq_true rfl) rfl (fun n q h => kc_M_space n x1 r1.2 q h) fun r4 => ?_
      refine xo_goto (pc' := 32) dd_M_takerRoom_28 rfl ?_
      exact xo_iret dd_M_takerRoom_32 rfl
  · refine xo_sipush (pc' := 11) (v := (-1000 : Int32)) dd_M_takerRoom_8 (by decide) rfl ?_
    refine xo_goto (pc' := 32) dd_M_takerRoom_11 rfl ?_
    exact xo_iret dd_M_takerRoom_32 rfl
set_option maxRecDepth 100000 in
set_option maxHeartbeats 4000000 in
theorem kc_M_takerRoom (t : xo_N) (x1 : Int32) (H : xo_H) (r : Int32 × xo_H) (hk : fc_M_takerRoom t x1 H = some r) : xo_M mt_M_takerRoom [.inr (some t), .inl x1] H (xo_ji r) :=
  xo_entry hk (by decide +kernel) (Nat.le_of_ble_eq_true rfl) (kb_M_takerRoom t x1 H r)
def fc_M_takerQueue (t : xo_N) (x1 : Int32) (H : xo_H) : Option (Int32 × xo_H) :=
  xo_cl 9 (some t) (fun n4 => fc_M_noTaker n4 x1 H) fun r1 =>
  if r1.1 = 0 then (xo_gp 9 27 r1.2 (some t) fun o2 =>
  xo_al 0 r1.2 o2 x1 fun v3 =>
  some (v3, r1.2))
  else (some ((-1 : Int32), r1.2))

set_option maxRecDepth 100000 in
set_option maxHeartbeats 4000000 in
theorem kb_M_takerQueue (t : xo_N) (x1 : Int32) (H : xo_H) (r : Int32 × xo_H) : xo_X mt_M_takerQueue 0 0 xo_ji r 0 [(0, .inr (some t)), (1, .inl x1)] [] H (fc_M_takerQueue t x1 H) := by
  unfold fc_M_takerQueue
  refine xo_aload_n (pc' := 1) dd_M_takerQueue_0 rfl 0 rfl rfl ?_
  refine xo_iload_n (pc' := 2) dd_M_takerQueue_1 rfl 1 rfl rfl ?_
  refine xo_callVi (as := [.inl x1]) (o := (some t)) (st := []) (pc' := 5) dd_M_takerQueue_2 cv_M_noTaker ml_M_308 rfl rfl ⟨by decide, by decide⟩ rfl rfl rfl (Nat.le_of_ble_eq_true rfl) rfl (fun n q h => kc_M_noTaker n x1 H q h) fun r1 => ?_
  refine xo_if_eq (pc' := 8) (tgt := 12) dd_M_takerQueue_5 rfl rfl ?_ ?_
  · refine xo_aload_n (pc' := 13) dd_M_takerQueue_12 rfl 0 rfl rfl ?_
    refine xo_getP (pc' := 16) dd_M_takerQueue_13 ff_M_86 (by decide) rfl fun o2 => ?_
    refine xo_iload_n (pc' := 17) dd_M_takerQueue_16 rfl 1 rfl rfl ?_
    refine xo_iald (pc' := 18) dd_M_takerQueue_17 rfl fun v3 => ?_
    exact xo_iret dd_M_takerQueue_18 rfl
  · refine xo_iconst (pc' := 9) (v := (-1 : Int32)) dd_M_takerQueue_8 (by decide) rfl ?_
    refine xo_goto (pc' := 18) dd_M_takerQueue_9 rfl ?_
    exact xo_iret dd_M_takerQueue_18 rfl
set_option maxRecDepth 100000 in
set_option maxHeartbeats 4000000 in
theorem kc_M_takerQueue (t : xo_N) (x1 : Int32) (H : xo_H) (r : Int32 × xo_H) (hk : fc_M_takerQueue t x1 H = some r) : xo_M mt_M_takerQueue [.inr (some t), .inl x1] H (xo_ji r) :=
  xo_entry hk (by decide +kernel) (Nat.le_of_ble_eq_true rfl) (kb_M_takerQueue t x1 H r)
def fb_M_error_36 (t : xo_N) (x2 : Int32) (H : xo_H) : Option (Int32 × xo_H) :=
  xo_gp 9 22 H (some t) fun o1 =>
  xo_al 0 H o1 x2 fun v2 =>
  some (v2, H)

def fc_M_error (t : xo_N) (x1 : Int32) (x2 : Int32) (H : xo_H) : Option (Int32 × xo_H) :=
  if x1 = 0 then (xo_cl 9 (some t) (fun n6 => fc_M_noGiver n6 x2 H) fun r1 =>
  if r1.1 = 0 then (xo_gp 9 1 r1.2 (some t) fun o2 =>
  xo_al 0 r1.2 o2 x2 fun v3 =>
  if v3 = (2 : Int32) then (xo_gp 9 2 r1.2 (some t) fun o4 =>
  xo_al 0 r1.2 o4 x2 fun v5 =>
  some (v5, r1.2))
  else (some ((-1 : Int32), r1.2)))
  else (some ((-1 : Int32), r1.2)))
  else (xo_cl 9 (some t) (fun n12 => fc_M_noTaker n12 x2 H) fun r7 =>
  if r7.1 = 0 then (xo_gp 9 21 r7.2 (some t) fun o8 =>
  xo_al 0 r7.2 o8 x2 fun v9 =>
  if v9 = (1 : Int32) then (fb_M_error_36 t x2 r7.2)
  else (xo_gp 9 21 r7.2 (some t) fun o10 =>
  xo_al 0 r7.2 o10 x2 fun v11 =>
  if v11 = (2 : Int32) then (fb_M_error_36 t x2 r7.2)
  else (some ((-1 : Int32), r7.2))))
  else (some ((-1 : Int32), r7.2)))

set_option maxRecDepth 100000 in
set_option maxHeartbeats 4000000 in
theorem kb_M_error_36 (t : xo_N) (x2 : Int32) (H : xo_H) (r : Int32 × xo_H) : xo_X mt_M_error 0 0 xo_ji r 36 [(0, .inr (some t)), (2, .inl x2)] [] H (fb_M_error_36 t x2 H) := by
  unfold fb_M_error_36
  refine xo_aload_n (pc' := 37) dd_M_error_36 rfl 0 rfl rfl ?_
  refine xo_getP (pc' := 40) dd_M_error_37 ff_M_71 (by decide) rfl fun o1 => ?_
  refine xo_iload_n (pc' := 41) dd_M_error_40 rfl 1 rfl rfl ?_
  refine xo_iald (pc' := 42) dd_M_error_41 rfl fun v2 => ?_
  exact xo_iret dd_M_error_42 rfl
set_option maxRecDepth 100000 in
set_option maxHeartbeats 4000000 in
theorem kb_M_error (t : xo_N) (x1 : Int32) (x2 : Int32) (H : xo_H) (r : Int32 × xo_H) : xo_X mt_M_error 0 0 xo_ji r 0 [(0, .inr (some t)), (1, .inl x1), (2, .inl x2)] [] H (fc_M_error t x1 x2 H) := by
  unfold fc_M_error
  refine xo_iload_n (pc' := 1) dd_M_error_0 rfl 1 rfl rfl ?_
  refine xo_if_eq (pc' := 4) (tgt := 43) dd_M_error_1 rfl rfl ?_ ?_
  · refine xo_aload_n (pc' := 44) dd_M_error_43 rfl 0 rfl rfl ?_
    refine xo_iload_n (pc' := 45) dd_M_error_44 rfl 2 rfl rfl ?_
    refine xo_callVi (as := [.inl x2]) (o := (some t)) (st := []) (pc' := 48) dd_M_error_45 cv_M_noGiver ml_M_295 rfl rfl ⟨by decide, by decide⟩ rfl rfl rfl (Nat.le_of_ble_eq_true rfl) rfl (fun n q h => kc_M_noGiver n x2 H q h) fun r1 => ?_
    refine xo_if_ne (pc' := 51) (tgt := 61) dd_M_error_48 rfl rfl ?_ ?_
    · refine xo_iconst (pc' := 62) (v := (-1 : Int32)) dd_M_error_61 (by decide) rfl ?_
      refine xo_goto (pc' := 71) dd_M_error_62 rfl ?_
      exact xo_iret dd_M_error_71 rfl
    · refine xo_aload_n (pc' := 52) dd_M_error_51 rfl 0 rfl rfl ?_
      refine xo_getP (pc' := 55) dd_M_error_52 ff_M_7 (by decide) rfl fun o2 => ?_
      refine xo_iload_n (pc' := 56) dd_M_error_55 rfl 2 rfl rfl ?_
      refine xo_iald (pc' := 57) dd_M_error_56 rfl fun v3 => ?_
      refine xo_iconst (pc' := 58) (v := (2 : Int32)) dd_M_error_57 (by decide) rfl ?_
      refine xo_icmp_eq (pc' := 61) (tgt := 65) dd_M_error_58 rfl rfl ?_ ?_
      · refine xo_aload_n (pc' := 66) dd_M_error_65 rfl 0 rfl rfl ?_
        refine xo_getP (pc' := 69) dd_M_error_66 ff_M_13 (by decide) rfl fun o4 => ?_
        refine xo_iload_n (pc' := 70) dd_M_error_69 rfl 2 rfl rfl ?_
        refine xo_iald (pc' := 71) dd_M_error_70 rfl fun v5 => ?_
        exact xo_iret dd_M_error_71 rfl
      · refine xo_iconst (pc' := 62) (v := (-1 : Int32)) dd_M_error_61 (by decide) rfl ?_
        refine xo_goto (pc' := 71) dd_M_error_62 rfl ?_
        exact xo_iret dd_M_error_71 rfl
  · refine xo_aload_n (pc' := 5) dd_M_error_4 rfl 0 rfl rfl ?_
    refine xo_iload_n (pc' := 6) dd_M_error_5 rfl 2 rfl rfl ?_
    refine xo_callVi (as := [.inl x2]) (o := (some t)) (st := []) (pc' := 9) dd_M_error_6 cv_M_noTaker ml_M_308 rfl rfl ⟨by decide, by decide⟩ rfl rfl rfl (Nat.le_of_ble_eq_true rfl) rfl (fun n q h => kc_M_noTaker n x2 H q h) fun r7 => ?_
    refine xo_if_ne (pc' := 12) (tgt := 32) dd_M_error_9 rfl rfl ?_ ?_
    · refine xo_iconst (pc' := 33) (v := (-1 : Int32)) dd_M_error_32 (by decide) rfl ?_
      refine xo_goto (pc' := 42) dd_M_error_33 rfl ?_
      exact xo_iret dd_M_error_42 rfl
    · refine xo_aload_n (pc' := 13) dd_M_error_12 rfl 0 rfl rfl ?_
      refine xo_getP (pc' := 16) dd_M_error_13 ff_M_68 (by decide) rfl fun o8 => ?_
      refine xo_iload_n (pc' := 17) dd_M_error_16 rfl 2 rfl rfl ?_
      refine xo_iald (pc' := 18) dd_M_error_17 rfl fun v9 => ?_
      refine xo_iconst (pc' := 19) (v := (1 : Int32)) dd_M_error_18 (by decide) rfl ?_
      refine xo_icmp_eq (pc' := 22) (tgt := 36) dd_M_error_19 rfl rfl ?_ ?_
      · refine xo_sub [0, 2] rfl ?_
        exact kb_M_error_36 t x2 r7.2 r
      · refine xo_aload_n (pc' := 23) dd_M_error_22 rfl 0 rfl rfl ?_
        refine xo_getP (pc' := 26) dd_M_error_23 ff_M_68 (by decide) rfl fun o10 => ?_
        refine xo_iload_n (pc' := 27) dd_M_error_26 rfl 2 rfl rfl ?_
        refine xo_iald (pc' := 28) dd_M_error_27 rfl fun v11 => ?_
        refine xo_iconst (pc' := 29) (v := (2 : Int32)) dd_M_error_28 (by decide) rfl ?_
        refine xo_icmp_eq (pc' := 32) (tgt := 36) dd_M_error_29 rfl rfl ?_ ?_
        · refine xo_sub [0, 2] rfl ?_
          exact kb_M_error_36 t x2 r7.2 r
        · refine xo_iconst (pc' := 33) (v := (-1 : Int32)) dd_M_error_32 (by decide) rfl ?_
          refine xo_goto (pc' := 42) dd_M_error_33 rfl ?_
          exact xo_iret dd_M_error_42 rfl
set_option maxRecDepth 100000 in
set_option maxHeartbeats 4000000 in
theorem kc_M_error (t : xo_N) (x1 : Int32) (x2 : Int32) (H : xo_H) (r : Int32 × xo_H) (hk : fc_M_error t x1 x2 H = some r) : xo_M mt_M_error [.inr (some t), .inl x1, .inl x2] H (xo_ji r) :=
  xo_entry hk (by decide +kernel) (Nat.le_of_ble_eq_true rfl) (kb_M_error t x1 x2 H r)
def fc_M_events (t : xo_N) (H : xo_H) : Option (Int32 × xo_H) :=
  xo_gf 9 47 H (some t) fun v1 =>
  some (v1, H)

set_option maxRecDepth 100000 in
set_option maxHeartbeats 4000000 in
theorem kb_M_events (t : xo_N) (H : xo_H) (r : Int32 × xo_H) : xo_X mt_M_events 0 0 xo_ji r 0 [(0, .inr (some t))] [] H (fc_M_events t H) := by
  unfold fc_M_events
  refine xo_aload_n (pc' := 1) dd_M_events_0 rfl 0 rfl rfl ?_
  refine xo_getI (pc' := 4) dd_M_events_1 ff_M_146 (by decide) rfl fun v1 => ?_
  exact xo_iret dd_M_events_4 rfl
set_option maxRecDepth 100000 in
set_option maxHeartbeats 4000000 in
theorem kc_M_events (t : xo_N) (H : xo_H) (r : Int32 × xo_H) (hk : fc_M_events t H = some r) : xo_M mt_M_events [.inr (some t)] H (xo_ji r) :=
  xo_entry hk (by decide +kernel) (Nat.le_of_ble_eq_true rfl) (kb_M_events t H r)
def fc_M_event (t : xo_N) (x1 : Int32) (x2 : Int32) (H : xo_H) : Option (Int32 × xo_H) :=
  if x1 < 0 then (some ((0 : Int32), H))
  else (xo_gf 9 47 H (some t) fun v1 =>
  if x1 < v1 then (xo_gf 9 47 H (some t) fun v2 =>
  if x1 < (v2 - (64 : Int32)) then (some ((0 : Int32), H))
  else (if x2 < 0 then (some ((0 : Int32), H))
  else (if (2 : Int32) < x2 then (some ((0 : Int32), H))
  else (if x2 = 0 then (xo_gp 9 48 H (some t) fun o9 =>
  xo_rm x1 (64 : Int32) fun v10 =>
  xo_al 0 H o9 v10 fun v11 =>
  some (v11, H))
  else (if x2 = (1 : Int32) then (xo_gp 9 49 H (some t) fun o6 =>
  xo_rm x1 (64 : Int32) fun v7 =>
  xo_al 0 H o6 v7 fun v8 =>
  some (v8, H))
  else (xo_gp 9 50 H (some t) fun o3 =>
  xo_rm x1 (64 : Int32) fun v4 =>
  xo_al 0 H o3 v4 fun v5 =>
  some (v5, H)))))))
  else (some ((0 : Int32), H)))

set_option maxRecDepth 100000 in
set_option maxHeartbeats 4000000 in
theorem kb_M_event (t : xo_N) (x1 : Int32) (x2 : Int32) (H : xo_H) (r : Int32 × xo_H) : xo_X mt_M_event 0 0 xo_ji r 0 [(0, .inr (some t)), (1, .inl x1), (2, .inl x2)] [] H (fc_M_event t x1 x2 H) := by
  unfold fc_M_event
  refine xo_iload_n (pc' := 1) dd_M_event_0 rfl 1 rfl rfl ?_
  refine xo_if_lt (pc' := 4) (tgt := 32) dd_M_event_1 rfl rfl ?_ ?_
  · refine xo_iconst (pc' := 33) (v := (0 : Int32)) dd_M_event_32 (by decide) rfl ?_
    exact xo_iret dd_M_event_33 rfl
  · refine xo_iload_n (pc' := 5) dd_M_event_4 rfl 1 rfl rfl ?_
    refine xo_aload_n (pc' := 6) dd_M_event_5 rfl 0 rfl rfl ?_
    refine xo_getI (pc' := 9) dd_M_event_6 ff_M_146 (by decide) rfl fun v1 => ?_
    refine xo_icmp_ge (pc' := 12) (tgt := 32) dd_M_event_9 rfl rfl ?_ ?_
    · refine xo_iconst (pc' := 33) (v := (0 : Int32)) dd_M_event_32 (by decide) rfl ?_
      exact xo_iret dd_M_event_33 rfl
    · refine xo_iload_n (pc' := 13) dd_M_event_12 rfl 1 rfl rfl ?_
      refine xo_aload_n (pc' := 14) dd_M_event_13 rfl 0 rfl rfl ?_
      refine xo_getI (pc' := 17) dd_M_event_14 ff_M_146 (by decide) rfl fun v2 => ?_
      refine xo_bipush (pc' := 19) (v := (64 : Int32)) dd_M_event_17 (by decide) rfl ?_
      refine xo_isub (pc' := 20) dd_M_event_19 rfl ?_
      refine xo_icmp_lt (pc' := 23) (tgt := 32) dd_M_event_20 rfl rfl ?_ ?_
      · refine xo_iconst (pc' := 33) (v := (0 : Int32)) dd_M_event_32 (by decide) rfl ?_
        exact xo_iret dd_M_event_33 rfl
      · refine xo_iload_n (pc' := 24) dd_M_event_23 rfl 2 rfl rfl ?_
        refine xo_if_lt (pc' := 27) (tgt := 32) dd_M_event_24 rfl rfl ?_ ?_
        · refine xo_iconst (pc' := 33) (v := (0 : Int32)) dd_M_event_32 (by decide) rfl ?_
          exact xo_iret dd_M_event_33 rfl
        · refine xo_iload_n (pc' := 28) dd_M_event_27 rfl 2 rfl rfl ?_
          refine xo_iconst (pc' := 29) (v := (2 : Int32)) dd_M_event_28 (by decide) rfl ?_
          refine xo_icmp_le (pc' := 32) (tgt := 34) dd_M_event_29 rfl rfl ?_ ?_
          · refine xo_iload_n (pc' := 35) dd_M_event_34 rfl 2 rfl rfl ?_
            refine xo_if_ne (pc' := 38) (tgt := 50) dd_M_event_35 rfl rfl ?_ ?_
            · refine xo_iload_n (pc' := 51) dd_M_event_50 rfl 2 rfl rfl ?_
              refine xo_iconst (pc' := 52) (v := (1 : Int32)) dd_M_event_51 (by decide) rfl ?_
              refine xo_icmp_ne (pc' := 55) (tgt := 67) dd_M_event_52 rfl rfl ?_ ?_
              · refine xo_aload_n (pc' := 68) dd_M_event_67 rfl 0 rfl rfl ?_
                refine xo_getP (pc' := 71) dd_M_event_68 ff_M_143 (by decide) rfl fun o3 => ?_
                refine xo_iload_n (pc' := 72) dd_M_event_71 rfl 1 rfl rfl ?_
                refine xo_bipush (pc' := 74) (v := (64 : Int32)) dd_M_event_72 (by decide) rfl ?_
                refine xo_irem (pc' := 75) dd_M_event_74 rfl fun v4 => ?_
                refine xo_iald (pc' := 76) dd_M_event_75 rfl fun v5 => ?_
                exact xo_iret dd_M_event_76 rfl
              · refine xo_aload_n (pc' := 56) dd_M_event_55 rfl 0 rfl rfl ?_
                refine xo_getP (pc' := 59) dd_M_event_56 ff_M_140 (by decide) rfl fun o6 => ?_
                refine xo_iload_n (pc' := 60) dd_M_event_59 rfl 1 rfl rfl ?_
                refine xo_bipush (pc' := 62) (v := (64 : Int32)) dd_M_event_60 (by decide) rfl ?_
                refine xo_irem (pc' := 63) dd_M_event_62 rfl fun v7 => ?_
                refine xo_iald (pc' := 64) dd_M_event_63 rfl fun v8 => ?_
                refine xo_goto (pc' := 76) dd_M_event_64 rfl ?_
                exact xo_iret dd_M_event_76 rfl
            · refine xo_aload_n (pc' := 39) dd_M_event_38 rfl 0 rfl rfl ?_
              refine xo_getP (pc' := 42) dd_M_event_39 ff_M_137 (by decide) rfl fun o9 => ?_
              refine xo_iload_n (pc' := 43) dd_M_event_42 rfl 1 rfl rfl ?_
              refine xo_bipush (pc' := 45) (v := (64 : Int32)) dd_M_event_43 (by decide) rfl ?_
              refine xo_irem (pc' := 46) dd_M_event_45 rfl fun v10 => ?_
              refine xo_iald (pc' := 47) dd_M_event_46 rfl fun v11 => ?_
              refine xo_goto (pc' := 76) dd_M_event_47 rfl ?_
              exact xo_iret dd_M_event_76 rfl
          · refine xo_iconst (pc' := 33) (v := (0 : Int32)) dd_M_event_32 (by decide) rfl ?_
            exact xo_iret dd_M_event_33 rfl
set_option maxRecDepth 100000 in
set_option maxHeartbeats 4000000 in
theorem kc_M_event (t : xo_N) (x1 : Int32) (x2 : Int32) (H : xo_H) (r : Int32 × xo_H) (hk : fc_M_event t x1 x2 H = some r) : xo_M mt_M_event [.inr (some t), .inl x1, .inl x2] H (xo_ji r) :=
  xo_entry hk (by decide +kernel) (Nat.le_of_ble_eq_true rfl) (kb_M_event t x1 x2 H r)
