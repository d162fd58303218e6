def fb_M_wake_2 : Nat → xo_N → Int32 → xo_H → Option (xo_H)
  | 0, _, _, _ => none
  | fu + 1, t, x1, H =>
  xo_gf 9 36 H (some t) fun v1 =>
  if x1 < v1 then (xo_gp 9 40 H (some t) fun o2 =>
  xo_al 1 H o2 x1 fun v3 =>
  if v3 = 0 then (xo_gp 9 41 H (some t) fun o4 =>
  xo_al 1 H o4 x1 fun v5 =>
  if v5 = 0 then (xo_gp 9 41 H (some t) fun o6 =>
  xo_az H o6 x1 (1 : Int32) fun H7 =>
  xo_cl 9 (some t) (fun n9 => fc_M_job n9 (6 : Int32) x1 (0 : Int32) H7) fun H8 =>
  fb_M_wake_2 fu t (x1 + (1 : Int32)) H8)
  else (fb_M_wake_2 fu t (x1 + (1 : Int32)) H))
  else (fb_M_wake_2 fu t (x1 + (1 : Int32)) H))
  else (some H)

def fc_M_wake (t : xo_N) (H : xo_H) : Option (xo_H) :=
  fb_M_wake_2 1000 t (0 : Int32) H

set_option maxRecDepth 100000 in
set_option maxHeartbeats 4000000 in
theorem kb_M_wake_2 : ∀ (fu : Nat) (t : xo_N) (x1 : Int32) (H : xo_H) (r : xo_H), xo_X mt_M_wake 0 0 xo_jv r 2 [(0, .inr (some t)), (1, .inl x1)] [] H (fb_M_wake_2 fu t x1 H) := by
  intro fu
  induction fu with
  | zero => intros; exact xo_no
  | succ fu ih =>
    intro t x1 H r
    rw [fb_M_wake_2]
    refine xo_iload_n (pc' := 3) dd_M_wake_2 rfl 1 rfl rfl ?_
    refine xo_aload_n (pc' := 4) dd_M_wake_3 rfl 0 rfl rfl ?_
    refine xo_getI (pc' := 7) dd_M_wake_4 ff_M_257 (by decide) rfl fun v1 => ?_
    refine xo_icmp_ge (pc' := 10) (tgt := 49) dd_M_wake_7 rfl rfl ?_ ?_
    · exact xo_vret dd_M_wake_49 rfl
    · refine xo_aload_n (pc' := 11) dd_M_wake_10 rfl 0 rfl rfl ?_
      refine xo_getP (pc' := 14) dd_M_wake_11 ff_M_122 (by decide) rfl fun o2 => ?_
      refine xo_iload_n (pc' := 15) dd_M_wake_14 rfl 1 rfl rfl ?_
      refine xo_zald (pc' := 16) dd_M_wake_15 rfl fun v3 => ?_
      refine xo_if_ne (pc' := 19) (tgt := 43) dd_M_wake_16 rfl rfl ?_ ?_
      · refine xo_iinc (pc' := 46) dd_M_wake_43 1 rfl (xo_ii (m := (1 : Int32)) (by decide)) (by decide) rfl rfl ?_
        refine xo_goto (pc' := 2) dd_M_wake_46 rfl ?_
        refine xo_sub [1, 0] rfl ?_
        exact ih t (x1 + (1 : Int32)) H r
      · refine xo_aload_n (pc' := 20) dd_M_wake_19 rfl 0 rfl rfl ?_
        refine xo_getP (pc' := 23) dd_M_wake_20 ff_M_125 (by decide) rfl fun o4 => ?_
        refine xo_iload_n (pc' := 24) dd_M_wake_23 rfl 1 rfl rfl ?_
        refine xo_zald (pc' := 25) dd_M_wake_24 rfl fun v5 => ?_
        refine xo_if_ne (pc' := 28) (tgt := 43) dd_M_wake_25 rfl rfl ?_ ?_
        · refine xo_iinc (pc' := 46) dd_M_wake_43 1 rfl (xo_ii (m := (1 : Int32)) (by decide)) (by decide) rfl rfl ?_
          refine xo_goto (pc' := 2) dd_M_wake_46 rfl ?_
          refine xo_sub [1, 0] rfl ?_
          exact ih t (x1 + (1 : Int32)) H r
        · refine xo_aload_n (pc' := 29) dd_M_wake_28 rfl 0 rfl rfl ?_
          refine xo_getP (pc' := 32) dd_M_wake_29 ff_M_125 (by decide) rfl fun o6 => ?_
          refine xo_iload_n (pc' := 33) dd_M_wake_32 rfl 1 rfl rfl ?_
          refine xo_iconst (pc' := 34) (v := (1 : Int32)) dd_M_wake_33 (by decide) rfl ?_
          refine xo_zast (pc' := 35) dd_M_wake_34 rfl fun H7 => ?_
          refine xo_aload_n (pc' := 36) dd_M_wake_35 rfl 0 rfl rfl ?_
          refine xo_bipush (pc' := 38) (v := (6 : Int32)) dd_M_wake_36 (by decide) rfl ?_
          refine xo_iload_n (pc' := 39) dd_M_wake_38 rfl 1 rfl rfl ?_
          refine xo_iconst (pc' := 40) (v := (0 : Int32)) dd_M_wake_39 (by decide) rfl ?_
          refine xo_callVv (as := [.inl (6 : Int32), .inl x1, .inl (0 : Int32)]) (o := (some t)) (st := []) (pc' := 43) dd_M_wake_40 cv_M_job ml_M_178 rfl rfl ⟨by decide, by decide⟩ rfl rfl rfl (Nat.le_of_ble_eq_true rfl) rfl (fun n q h => kc_M_job n (6 : Int32) x1 (0 : Int32) H7 q h) fun H8 => ?_
          refine xo_iinc (pc' := 46) dd_M_wake_43 1 rfl (xo_ii (m := (1 : Int32)) (by decide)) (by decide) rfl rfl ?_
          refine xo_goto (pc' := 2) dd_M_wake_46 rfl ?_
          refine xo_sub [1, 0] rfl ?_
          exact ih t (x1 + (1 : Int32)) H8 r
set_option maxRecDepth 100000 in
set_option maxHeartbeats 4000000 in
theorem kb_M_wake (t : xo_N) (H : xo_H) (r : xo_H) : xo_X mt_M_wake 0 0 xo_jv r 0 [(0, .inr (some t))] [] H (fc_M_wake t H) := by
  unfold fc_M_wake
  refine xo_iconst (pc' := 1) (v := (0 : Int32)) dd_M_wake_0 (by decide) rfl ?_
  refine xo_istore_n (pc' := 2) dd_M_wake_1 rfl (by decide) rfl rfl ?_
  refine xo_sub [1, 0] rfl ?_
  exact kb_M_wake_2 1000 t (0 : Int32) H r
set_option maxRecDepth 100000 in
set_option maxHeartbeats 4000000 in
theorem kc_M_wake (t : xo_N) (H : xo_H) (r : xo_H) (hk : fc_M_wake t H = some r) : xo_M mt_M_wake [.inr (some t)] H (xo_jv r) :=
  xo_entry hk (by decide +kernel) (Nat.le_of_ble_eq_true rfl) (kb_M_wake t H r)
def fb_M_step_157 (t : xo_N) (x1 : Int32) (x4 : Int32) (H : xo_H) : Option (Int32 × xo_H) :=
  if x4 = 0 then (some (x1, H))
  else (xo_cl 9 (some t) (fun n2 => fc_M_wake n2 H) fun H1 =>
  some (x1, H1))

def fc_M_step (t : xo_N) (H : xo_H) : Option (Int32 × xo_H) :=
  xo_gf 9 43 H (some t) fun v1 =>
  if v1 = 0 then (some ((0 : Int32), H))
  else (xo_gp 9 44 H (some t) fun o2 =>
  xo_gf 9 42 H (some t) fun v3 =>
  xo_al 0 H o2 v3 fun v4 =>
  xo_gp 9 45 H (some t) fun o5 =>
  xo_gf 9 42 H (some t) fun v6 =>
  xo_al 0 H o5 v6 fun v7 =>
  xo_gp 9 46 H (some t) fun o8 =>
  xo_gf 9 42 H (some t) fun v9 =>
  xo_al 0 H o8 v9 fun v10 =>
  xo_gf 9 42 H (some t) fun v11 =>
  xo_rm (v11 + (1 : Int32)) (64 : Int32) fun v12 =>
  xo_pf 9 42 H (some t) v12 fun H13 =>
  xo_gf 9 43 H13 (some t) fun v14 =>
  xo_pf 9 43 H13 (some t) (v14 - (1 : Int32)) fun H15 =>
  if v4 = (1 : Int32) then (xo_cl 9 (some t) (fun n31 => fc_M_pulledJob n31 v7 v10 H15) fun H30 =>
  fb_M_step_157 t v4 (1 : Int32) H30)
  else (if v4 = (2 : Int32) then (xo_cl 9 (some t) (fun n29 => fc_M_partedJob n29 v7 v10 H15) fun H28 =>
  fb_M_step_157 t v4 (1 : Int32) H28)
  else (if v4 = (6 : Int32) then (xo_gp 9 41 H15 (some t) fun o24 =>
  xo_az H15 o24 v7 (0 : Int32) fun H25 =>
  xo_cl 9 (some t) (fun n27 => fc_M_pump n27 v7 H25) fun r26 =>
  fb_M_step_157 t v4 r26.1 r26.2)
  else (xo_gp 9 35 H15 (some t) fun o16 =>
  xo_az H15 o16 v7 (0 : Int32) fun H17 =>
  if v4 = (3 : Int32) then (xo_cl 9 (some t) (fun n23 => fc_M_written n23 v7 v10 H17) fun H22 =>
  fb_M_step_157 t v4 (1 : Int32) H22)
  else (if v4 = (4 : Int32) then (xo_cl 9 (some t) (fun n21 => fc_M_shutDone n21 v7 v10 H17) fun H20 =>
  fb_M_step_157 t v4 (1 : Int32) H20)
  else (xo_cl 9 (some t) (fun n19 => fc_M_abortDone n19 v7 v10 H17) fun H18 =>
  fb_M_step_157 t v4 (1 : Int32) H18))))))

set_option maxRecDepth 100000 in
set_option maxHeartbeats 4000000 in
theorem kb_M_step_157 (t : xo_N) (x1 : Int32) (x4 : Int32) (H : xo_H) (r : Int32 × xo_H) : xo_X mt_M_step 0 0 xo_ji r 157 [(0, .inr (some t)), (1, .inl x1), (4, .inl x4)] [] H (fb_M_step_157 t x1 x4 H) := by
  unfold fb_M_step_157
  refine xo_iload (pc' := 159) dd_M_step_157 2 rfl rfl ?_
  refine xo_if_eq (pc' := 162) (tgt := 166) dd_M_step_159 rfl rfl ?_ ?_
  · refine xo_iload_n (pc' := 167) dd_M_step_166 rfl 1 rfl rfl ?_
    exact xo_iret dd_M_step_167 rfl
  · refine xo_aload_n (pc' := 163) dd_M_step_162 rfl 0 rfl rfl ?_
    refine xo_callVv (as := []) (o := (some t)) (st := []) (pc' := 166) dd_M_step_163 cv_M_wake ml_M_278 rfl rfl ⟨by decide, by decide⟩ rfl rfl rfl (Nat.le_of_ble_eq_true rfl) rfl (fun n q h => kc_M_wake n H q h) fun H1 => ?_
    refine xo_iload_n (pc' := 167) dd_M_step_166 rfl 1 rfl rfl ?_
    exact xo_iret dd_M_step_167 rfl
set_option maxRecDepth 100000 in
set_option maxHeartbeats 4000000 in
theorem kb_M_step (t : xo_N) (H : xo_H) (r : Int32 × xo_H) : xo_X mt_M_step 0 0 xo_ji r 0 [(0, .inr (some t))] [] H (fc_M_step t H) := by
  unfold fc_M_step
  refine xo_aload_n (pc' := 1) dd_M_step_0 rfl 0 rfl rfl ?_
  refine xo_getI (pc' := 4) dd_M_step_1 ff_M_153 (by decide) rfl fun v1 => ?_
  refine xo_if_ne (pc' := 7) (tgt := 9) dd_M_step_4 rfl rfl ?_ ?_
  · refine xo_aload_n (pc' := 10) dd_M_step_9 rfl 0 rfl rfl ?_
    refine xo_getP (pc' := 13) dd_M_step_10 ff_M_128 (by decide) rfl fun o2 => ?_
    refine xo_aload_n (pc' := 14) dd_M_step_13 rfl 0 rfl rfl ?_
    refine xo_getI (pc' := 17) dd_M_step_14 ff_M_150 (by decide) rfl fun v3 => ?_
    refine xo_iald (pc' := 18) dd_M_step_17 rfl fun v4 => ?_
    refine xo_istore_n (pc' := 19) dd_M_step_18 rfl (by decide) rfl rfl ?_
    refine xo_aload_n (pc' := 20) dd_M_step_19 rfl 1 rfl rfl ?_
    refine xo_getP (pc' := 23) dd_M_step_20 ff_M_131 (by decide) rfl fun o5 => ?_
    refine xo_aload_n (pc' := 24) dd_M_step_23 rfl 1 rfl rfl ?_
    refine xo_getI (pc' := 27) dd_M_step_24 ff_M_150 (by decide) rfl fun v6 => ?_
    refine xo_iald (pc' := 28) dd_M_step_27 rfl fun v7 => ?_
    refine xo_istore_n (pc' := 29) dd_M_step_28 rfl (by decide) rfl rfl ?_
    refine xo_aload_n (pc' := 30) dd_M_step_29 rfl 2 rfl rfl ?_
    refine xo_getP (pc' := 33) dd_M_step_30 ff_M_134 (by decide) rfl fun o8 => ?_
    refine xo_aload_n (pc' := 34) dd_M_step_33 rfl 2 rfl rfl ?_
    refine xo_getI (pc' := 37) dd_M_step_34 ff_M_150 (by decide) rfl fun v9 => ?_
    refine xo_iald (pc' := 38) dd_M_step_37 rfl fun v10 => ?_
    refine xo_istore_n (pc' := 39) dd_M_step_38 rfl (by decide) rfl rfl ?_
    refine xo_aload_n (pc' := 40) dd_M_step_39 rfl 3 rfl rfl ?_
    refine xo_aload_n (pc' := 41) dd_M_step_40 rfl 3 rfl rfl ?_
    refine xo_getI (pc' := 44) dd_M_step_41 ff_M_150 (by decide) rfl fun v11 => ?_
    refine xo_iconst (pc' := 45) (v := (1 : Int32)) dd_M_step_44 (by decide) rfl ?_
    refine xo_iadd (pc' := 46) dd_M_step_45 rfl ?_
    refine xo_bipush (pc' := 48) (v := (64 : Int32)) dd_M_step_46 (by decide) rfl ?_
    refine xo_irem (pc' := 49) dd_M_step_48 rfl fun v12 => ?_
    refine xo_putI (pc' := 52) dd_M_step_49 ff_M_150 rfl fun H13 => ?_
    refine xo_aload_n (pc' := 53) dd_M_step_52 rfl 3 rfl rfl ?_
    refine xo_dup (pc' := 54) dd_M_step_53 rfl ?_
    refine xo_getI (pc' := 57) dd_M_step_54 ff_M_153 (by decide) rfl fun v14 => ?_
    refine xo_iconst (pc' := 58) (v := (1 : Int32)) dd_M_step_57 (by decide) rfl ?_
    refine xo_isub (pc' := 59) dd_M_step_58 rfl ?_
    refine xo_putI (pc' := 62) dd_M_step_59 ff_M_153 rfl fun H15 => ?_
    refine xo_iconst (pc' := 63) (v := (1 : Int32)) dd_M_step_62 (by decide) rfl ?_
    refine xo_istore (pc' := 65) dd_M_step_63 (by decide) rfl rfl ?_
    refine xo_iload_n (pc' := 66) dd_M_step_65 rfl 3 rfl rfl ?_
    refine xo_iconst (pc' := 67) (v := (1 : Int32)) dd_M_step_66 (by decide) rfl ?_
    refine xo_icmp_ne (pc' := 70) (tgt := 79) dd_M_step_67 rfl rfl ?_ ?_
    · refine xo_iload_n (pc' := 80) dd_M_step_79 rfl 3 rfl rfl ?_
      refine xo_iconst (pc' := 81) (v := (2 : Int32)) dd_M_step_80 (by decide) rfl ?_
      refine xo_icmp_ne (pc' := 84) (tgt := 93) dd_M_step_81 rfl rfl ?_ ?_
      · refine xo_iload_n (pc' := 94) dd_M_step_93 rfl 3 rfl rfl ?_
        refine xo_bipush (pc' := 96) (v := (6 : Int32)) dd_M_step_94 (by decide) rfl ?_
        refine xo_icmp_ne (pc' := 99) (tgt := 116) dd_M_step_96 rfl rfl ?_ ?_
        · refine xo_aload_n (pc' := 117) dd_M_step_116 rfl 4 rfl rfl ?_
          refine xo_getP (pc' := 120) dd_M_step_117 ff_M_110 (by decide) rfl fun o16 => ?_
          refine xo_iload_n (pc' := 121) dd_M_step_120 rfl 2 rfl rfl ?_
          refine xo_iconst (pc' := 122) (v := (0 : Int32)) dd_M_step_121 (by decide) rfl ?_
          refine xo_zast (pc' := 123) dd_M_step_122 rfl fun H17 => ?_
          refine xo_iload_n (pc' := 124) dd_M_step_123 rfl 3 rfl rfl ?_
          refine xo_iconst (pc' := 125) (v := (3 : Int32)) dd_M_step_124 (by decide) rfl ?_
          refine xo_icmp_ne (pc' := 128) (tgt := 137) dd_M_step_125 rfl rfl ?_ ?_
          · refine xo_iload_n (pc' := 138) dd_M_step_137 rfl 3 rfl rfl ?_
            refine xo_iconst (pc' := 139) (v := (4 : Int32)) dd_M_step_138 (by decide) rfl ?_
            refine xo_icmp_ne (pc' := 142) (tgt := 151) dd_M_step_139 rfl rfl ?_ ?_
            · refine xo_aload_n (pc' := 152) dd_M_step_151 rfl 4 rfl rfl ?_
              refine xo_iload_n (pc' := 153) dd_M_step_152 rfl 2 rfl rfl ?_
              refine xo_iload_n (pc' := 154) dd_M_step_153 rfl 1 rfl rfl ?_
              refine xo_callVv (as := [.inl v7, .inl v10]) (o := (some t)) (st := []) (pc' := 157) dd_M_step_154 cv_M_abortDone ml_M_275 rfl rfl ⟨by decide, by decide⟩ rfl rfl rfl (Nat.le_of_ble_eq_true rfl) rfl (fun n q h => kc_M_abortDone n v7 v10 H17 q h) fun H18 => ?_
              refine xo_sub [4, 3, 0] rfl ?_
              exact kb_M_step_157 t v4 (1 : Int32) H18 r
            · refine xo_aload_n (pc' := 143) dd_M_step_142 rfl 4 rfl rfl ?_
              refine xo_iload_n (pc' := 144) dd_M_step_143 rfl 2 rfl rfl ?_
              refine xo_iload_n (pc' := 145) dd_M_step_144 rfl 1 rfl rfl ?_
              refine xo_callVv (as := [.inl v7, .inl v10]) (o := (some t)) (st := []) (pc' := 148) dd_M_step_145 cv_M_shutDone ml_M_272 rfl rfl ⟨by decide, by decide⟩ rfl rfl rfl (Nat.le_of_ble_eq_true rfl) rfl (fun n q h => kc_M_shutDone n v7 v10 H17 q h) fun H20 => ?_
              refine xo_goto (pc' := 157) dd_M_step_148 rfl ?_
              refine xo_sub [4, 3, 0] rfl ?_
              exact kb_M_step_157 t v4 (1 : Int32) H20 r
          · refine xo_aload_n (pc' := 129) dd_M_step_128 rfl 4 rfl rfl ?_
            refine xo_iload_n (pc' := 130) dd_M_step_129 rfl 2 rfl rfl ?_
            refine xo_iload_n (pc' := 131) dd_M_step_130 rfl 1 rfl rfl ?_
            refine xo_callVv (as := [.inl v7, .inl v10]) (o := (some t)) (st := []) (pc' := 134) dd_M_step_131 cv_M_written ml_M_269 rfl rfl ⟨by decide, by decide⟩ rfl rfl rfl (Nat.le_of_ble_eq_true rfl) rfl (fun n q h => kc_M_written n v7 v10 H17 q h) fun H22 => ?_
            refine xo_goto (pc' := 157) dd_M_step_134 rfl ?_
            refine xo_sub [4, 3, 0] rfl ?_
            exact kb_M_step_157 t v4 (1 : Int32) H22 r
        · refine xo_aload_n (pc' := 100) dd_M_step_99 rfl 4 rfl rfl ?_
          refine xo_getP (pc' := 103) dd_M_step_100 ff_M_125 (by decide) rfl fun o24 => ?_
          refine xo_iload_n (pc' := 104) dd_M_step_103 rfl 2 rfl rfl ?_
          refine xo_iconst (pc' := 105) (v := (0 : Int32)) dd_M_step_104 (by decide) rfl ?_
          refine xo_zast (pc' := 106) dd_M_step_105 rfl fun H25 => ?_
          refine xo_aload_n (pc' := 107) dd_M_step_106 rfl 4 rfl rfl ?_
          refine xo_iload_n (pc' := 108) dd_M_step_107 rfl 2 rfl rfl ?_
          refine xo_callVi (as := [.inl v7]) (o := (some t)) (st := []) (pc' := 111) dd_M_step_108 cv_M_pump ml_M_266 rfl rfl ⟨by decide, by decide⟩ rfl rfl rfl (Nat.le_of_ble_eq_true rfl) rfl (fun n q h => kc_M_pump n v7 H25 q h) fun r26 => ?_
          refine xo_istore (pc' := 113) dd_M_step_111 (by decide) rfl rfl ?_
          refine xo_goto (pc' := 157) dd_M_step_113 rfl ?_
          refine xo_sub [4, 3, 0] rfl ?_
          exact kb_M_step_157 t v4 r26.1 r26.2 r
      · refine xo_aload_n (pc' := 85) dd_M_step_84 rfl 4 rfl rfl ?_
        refine xo_iload_n (pc' := 86) dd_M_step_85 rfl 2 rfl rfl ?_
        refine xo_iload_n (pc' := 87) dd_M_step_86 rfl 1 rfl rfl ?_
        refine xo_callVv (as := [.inl v7, .inl v10]) (o := (some t)) (st := []) (pc' := 90) dd_M_step_87 cv_M_partedJob ml_M_263 rfl rfl ⟨by decide, by decide⟩ rfl rfl rfl (Nat.le_of_ble_eq_true rfl) rfl (fun n q h => kc_M_partedJob n v7 v10 H15 q h) fun H28 => ?_
        refine xo_goto (pc' := 157) dd_M_step_90 rfl ?_
        refine xo_sub [4, 3, 0] rfl ?_
        exact kb_M_step_157 t v4 (1 : Int32) H28 r
    · refine xo_aload_n (pc' := 71) dd_M_step_70 rfl 4 rfl rfl ?_
      refine xo_iload_n (pc' := 72) dd_M_step_71 rfl 2 rfl rfl ?_
      refine xo_iload_n (pc' := 73) dd_M_step_72 rfl 1 rfl rfl ?_
      refine xo_callVv (as := [.inl v7, .inl v10]) (o := (some t)) (st := []) (pc' := 76) dd_M_step_73 cv_M_pulledJob ml_M_260 rfl rfl ⟨by decide, by decide⟩ rfl rfl rfl (Nat.le_of_ble_eq_true rfl) rfl (fun n q h => kc_M_pulledJob n v7 v10 H15 q h) fun H30 => ?_
      refine xo_goto (pc' := 157) dd_M_step_76 rfl ?_
      refine xo_sub [4, 3, 0] rfl ?_
      exact kb_M_step_157 t v4 (1 : Int32) H30 r
  · refine xo_iconst (pc' := 8) (v := (0 : Int32)) dd_M_step_7 (by decide) rfl ?_
    exact xo_iret dd_M_step_8 rfl
set_option maxRecDepth 100000 in
set_option maxHeartbeats 4000000 in
theorem kc_M_step (t : xo_N) (H : xo_H) (r : Int32 × xo_H) (hk : fc_M_step t H = some r) : xo_M mt_M_step [.inr (some t)] H (xo_ji r) :=
  xo_entry hk (by decide +kernel) (Nat.le_of_ble_eq_true rfl) (kb_M_step t H r)
def fb_M_run_2 : Nat → xo_N → Int32 → xo_H → Option (Int32 × xo_H)
  | 0, _, _, _ => none
  | fu + 1, t, x1, H =>
  if x1 < (200 : Int32) then (xo_gf 9 43 H (some t) fun v1 =>
  if 0 < v1 then (xo_cl 9 (some t) (fun n3 => fc_M_step n3 H) fun r2 =>
  fb_M_run_2 fu t (x1 + (1 : Int32)) r2.2)
  else (some (x1, H)))
  else (some (x1, H))

def fc_M_run (t : xo_N) (H : xo_H) : Option (Int32 × xo_H) :=
  fb_M_run_2 1000 t (0 : Int32) H

set_option maxRecDepth 100000 in
set_option maxHeartbeats 4000000 in
theorem kb_M_run_2 : ∀ (fu : Nat) (t : xo_N) (x1 : Int32) (H : xo_H) (r : Int32 × xo_H), xo_X mt_M_run 0 0 xo_ji r 2 [(0, .inr (some t)), (1, .inl x1)] [] H (fb_M_run_2 fu t x1 H) := by
  intro fu
  induction fu with
  | zero => intros; exact xo_no
  | succ fu ih =>
    intro t x1 H r
    rw [fb_M_run_2]
    refine xo_iload_n (pc' := 3) dd_M_run_2 rfl 1 rfl rfl ?_
    refine xo_sipush (pc' := 6) (v := (200 : Int32)) dd_M_run_3 (by decide) rfl ?_
    refine xo_icmp_ge (pc' := 9) (tgt := 27) dd_M_run_6 rfl rfl ?_ ?_
    · refine xo_iload_n (pc' := 28) dd_M_run_27 rfl 1 rfl rfl ?_
      exact xo_iret dd_M_run_28 rfl
    · refine xo_aload_n (pc' := 10) dd_M_run_9 rfl 0 rfl rfl ?_
      refine xo_getI (pc' := 13) dd_M_run_10 ff_M_153 (by decide) rfl fun v1 => ?_
      refine xo_if_le (pc' := 16) (tgt := 27) dd_M_run_13 rfl rfl ?_ ?_
      · refine xo_iload_n (pc' := 28) dd_M_run_27 rfl 1 rfl rfl ?_
        exact xo_iret dd_M_run_28 rfl
      · refine xo_aload_n (pc' := 17) dd_M_run_16 rfl 0 rfl rfl ?_
        refine xo_callVi (as := []) (o := (some t)) (st := []) (pc' := 20) dd_M_run_17 cv_M_step ml_M_281 rfl rfl ⟨by decide, by decide⟩ rfl rfl rfl (Nat.le_of_ble_eq_true rfl) rfl (fun n q h => kc_M_step n H q h) fun r2 => ?_
        refine xo_istore_n (pc' := 21) dd_M_run_20 rfl (by decide) rfl rfl ?_
        refine xo_iinc (pc' := 24) dd_M_run_21 2 rfl (xo_ii (m := (1 : Int32)) (by decide)) (by decide) rfl rfl ?_
        refine xo_goto (pc' := 2) dd_M_run_24 rfl ?_
        refine xo_sub [2, 0] rfl ?_
        exact ih t (x1 + (1 : Int32)) r2.2 r
set_option maxRecDepth 100000 in
set_option maxHeartbeats 4000000 in
theorem kb_M_run (t : xo_N) (H : xo_H) (r : Int32 × xo_H) : xo_X mt_M_run 0 0 xo_ji r 0 [(0, .inr (some t))] [] H (fc_M_run t H) := by
  unfold fc_M_run
  refine xo_iconst (pc' := 1) (v := (0 : Int32)) dd_M_run_0 (by decide) rfl ?_
  refine xo_istore_n (pc' := 2) dd_M_run_1 rfl (by decide) rfl rfl ?_
  refine xo_sub [1, 0] rfl ?_
  exact kb_M_run_2 1000 t (0 : Int32) H r
set_option maxRecDepth 100000 in
set_option maxHeartbeats 4000000 in
theorem kc_M_run (t : xo_N) (H : xo_H) (r : Int32 × xo_H) (hk : fc_M_run t H = some r) : xo_M mt_M_run [.inr (some t)] H (xo_ji r) :=
  xo_entry hk (by decide +kernel) (Nat.le_of_ble_eq_true rfl) (kb_M_run t H r)
def fc_M_jobs (t : xo_N) (H : xo_H) : Option (Int32 × xo_H) :=
  xo_gf 9 43 H (some t) fun v1 =>
  some (v1, H)

set_option maxRecDepth 100000 in
set_option maxHeartbeats 4000000 in
theorem kb_M_jobs (t : xo_N) (H : xo_H) (r : Int32 × xo_H) : xo_X mt_M_jobs 0 0 xo_ji r 0 [(0, .inr (some t))] [] H (fc_M_jobs t H) := by
  unfold fc_M_jobs
  refine xo_aload_n (pc' := 1) dd_M_jobs_0 rfl 0 rfl rfl ?_
  refine xo_getI (pc' := 4) dd_M_jobs_1 ff_M_153 (by decide) rfl fun v1 => ?_
  exact xo_iret dd_M_jobs_4 rfl
set_option maxRecDepth 100000 in
set_option maxHeartbeats 4000000 in
theorem kc_M_jobs (t : xo_N) (H : xo_H) (r : Int32 × xo_H) (hk : fc_M_jobs t H = some r) : xo_M mt_M_jobs [.inr (some t)] H (xo_ji r) :=
  xo_entry hk (by decide +kernel) (Nat.le_of_ble_eq_true rfl) (kb_M_jobs t H r)
def fc_M_noGiver (t : xo_N) (x1 : Int32) (H : xo_H) : Option (Int32 × xo_H) :=
  if x1 < 0 then (xo_gb (1 : Int32) (some ((1 : Int32), H)))
  else (xo_gf 9 0 H (some t) fun v1 =>
  if x1 < v1 then (xo_gb (0 : Int32) (some ((0 : Int32), H)))
  else (xo_gb (1 : Int32) (some ((1 : Int32), H))))

set_option maxRecDepth 100000 in
set_option maxHeartbeats 4000000 in
theorem kb_M_noGiver (t : xo_N) (x1 : Int32) (H : xo_H) (r : Int32 × xo_H) : xo_X mt_M_noGiver 0 0 xo_ji r 0 [(0, .inr (some t)), (1, .inl x1)] [] H (fc_M_noGiver t x1 H) := by
  unfold fc_M_noGiver
  refine xo_iload_n (pc' := 1) dd_M_noGiver_0 rfl 1 rfl rfl ?_
  refine xo_if_lt (pc' := 4) (tgt := 12) dd_M_noGiver_1 rfl rfl ?_ ?_
  · refine xo_iconst (pc' := 13) (v := (1 : Int32)) dd_M_noGiver_12 (by decide) rfl ?_
    refine xo_goto (pc' := 17) dd_M_noGiver_13 rfl ?_
    exact xo_zret dd_M_noGiver_17 rfl
  · refine xo_iload_n (pc' := 5) dd_M_noGiver_4 rfl 1 rfl rfl ?_
    refine xo_aload_n (pc' := 6) dd_M_noGiver_5 rfl 0 rfl rfl ?_
    refine xo_getI (pc' := 9) dd_M_noGiver_6 ff_M_285 (by decide) rfl fun v1 => ?_
    refine xo_icmp_lt (pc' := 12) (tgt := 16) dd_M_noGiver_9 rfl rfl ?_ ?_
    · refine xo_iconst (pc' := 17) (v := (0 : Int32)) dd_M_noGiver_16 (by decide) rfl ?_
      exact xo_zret dd_M_noGiver_17 rfl
    · refine xo_iconst (pc' := 13) (v := (1 : Int32)) dd_M_noGiver_12 (by decide) rfl ?_
      refine xo_goto (pc' := 17) dd_M_noGiver_13 rfl ?_
      exact xo_zret dd_M_noGiver_17 rfl
set_option maxRecDepth 100000 in
set_option maxHeartbeats 4000000 in
theorem kc_M_noGiver (t : xo_N) (x1 : Int32) (H : xo_H) (r : Int32 × xo_H) (hk : fc_M_noGiver t x1 H = some r) : xo_M mt_M_noGiver [.inr (some t), .inl x1] H (xo_ji r) :=
  xo_entry hk (by decide +kernel) (Nat.le_of_ble_eq_true rfl) (kb_M_noGiver t x1 H r)
def fc_M_noTaker (t : xo_N) (x1 : Int32) (H : xo_H) : Option (Int32 × xo_H) :=
  if x1 < 0 then (xo_gb (1 : Int32) (some ((1 : Int32), H)))
  else (xo_gf 9 20 H (some t) fun v1 =>
  if x1 < v1 then (xo_gb (0 : Int32) (some ((0 : Int32), H)))
  else (xo_gb (1 : Int32) (some ((1 : Int32), H))))

set_option maxRecDepth 100000 in
set_option maxHeartbeats 4000000 in
theorem kb_M_noTaker (t : xo_N) (x1 : Int32) (H : xo_H) (r : Int32 × xo_H) : xo_X mt_M_noTaker 0 0 xo_ji r 0 [(0, .inr (some t)), (1, .inl x1)] [] H (fc_M_noTaker t x1 H) := by
  unfold fc_M_noTaker
  refine xo_iload_n (pc' := 1) dd_M_noTaker_0 rfl 1 rfl rfl ?_
  refine xo_if_lt (pc' := 4) (tgt := 12) dd_M_noTaker_1 rfl rfl ?_ ?_
  · refine xo_iconst (pc' := 13) (v := (1 : Int32)) dd_M_noTaker_12 (by decide) rfl ?_
    refine xo_goto (pc' := 17) dd_M_noTaker_13 rfl ?_
    exact xo_zret dd_M_noTaker_17 rfl
  · refine xo_iload_n (pc' := 5) dd_M_noTaker_4 rfl 1 rfl rfl ?_
    refine xo_aload_n (pc' := 6) dd_M_noTaker_5 rfl 0 rfl rfl ?_
    refine xo_getI (pc' := 9) dd_M_noTaker_6 ff_M_288 (by decide) rfl fun v1 => ?_
    refine xo_icmp_lt (pc' := 12) (tgt := 16) dd_M_noTaker_9 rfl rfl ?_ ?_
    · refine xo_iconst (pc' := 17) (v := (0 : Int32)) dd_M_noTaker_16 (by decide) rfl ?_
      exact xo_zret dd_M_noTaker_17 rfl
    · refine xo_iconst (pc' := 13) (v := (1 : Int32)) dd_M_noTaker_12 (by decide) rfl ?_
      refine xo_goto (pc' := 17) dd_M_noTaker_13 rfl ?_
      exact xo_zret dd_M_noTaker_17 rfl
set_option maxRecDepth 100000 in
set_option maxHeartbeats 4000000 in
theorem kc_M_noTaker (t : xo_N) (x1 : Int32) (H : xo_H) (r : Int32 × xo_H) (hk : fc_M_noTaker t x1 H = some r) : xo_M mt_M_noTaker [.inr (some t), .inl x1] H (xo_ji r) :=
  xo_entry hk (by decide +kernel) (Nat.le_of_ble_eq_true rfl) (kb_M_noTaker t x1 H r)
def fc_M_badError (t : xo_N) (x1 : Int32) (x2 : Int32) (H : xo_H) : Option (Int32 × xo_H) :=
  if x1 < x2 then (xo_gb (1 : Int32) (some ((1 : Int32), H)))
  else (if (99 : Int32) < x1 then (xo_gb (1 : Int32) (some ((1 : Int32), H)))
  else (xo_gb (0 : Int32) (some ((0 : Int32), H))))

set_option maxRecDepth 100000 in
set_option maxHeartbeats 4000000 in
theorem kb_M_badError (t : xo_N) (x1 : Int32) (x2 : Int32) (H : xo_H) (r : Int32 × xo_H) : xo_X mt_M_badError 0 0 xo_ji r 0 [(0, .inr (some t)), (1, .inl x1), (2, .inl x2)] [] H (fc_M_badError t x1 x2 H) := by
  unfold fc_M_badError
  refine xo_iload_n (pc' := 1) dd_M_badError_0 rfl 1 rfl rfl ?_
  refine xo_iload_n (pc' := 2) dd_M_badError_1 rfl 2 rfl rfl ?_
  refine xo_icmp_lt (pc' := 5) (tgt := 11) dd_M_badError_2 rfl rfl ?_ ?_
  · refine xo_iconst (pc' := 12) (v := (1 : Int32)) dd_M_badError_11 (by decide) rfl ?_
    refine xo_goto (pc' := 16) dd_M_badError_12 rfl ?_
    exact xo_zret dd_M_badError_16 rfl
  · refine xo_iload_n (pc' := 6) dd_M_badError_5 rfl 1 rfl rfl ?_
    refine xo_bipush (pc' := 8) (v := (99 : Int32)) dd_M_badError_6 (by decide) rfl ?_
    refine xo_icmp_le (pc' := 11) (tgt := 15) dd_M_badError_8 rfl rfl ?_ ?_
    · refine xo_iconst (pc' := 16) (v := (0 : Int32)) dd_M_badError_15 (by decide) rfl ?_
      exact xo_zret dd_M_badError_16 rfl
    · refine xo_iconst (pc' := 12) (v := (1 : Int32)) dd_M_badError_11 (by decide) rfl ?_
      refine xo_goto (pc' := 16) dd_M_badError_12 rfl ?_
      exact xo_zret dd_M_badError_16 rfl
set_option maxRecDepth 100000 in
set_option maxHeartbeats 4000000 in
theorem kc_M_badError (t : xo_N) (x1 : Int32) (x2 : Int32) (H : xo_H) (r : Int32 × xo_H) (hk : fc_M_badError t x1 x2 H = some r) : xo_M mt_M_badError [.inr (some t), .inl x1, .inl x2] H (xo_ji r) :=
  xo_entry hk (by decide +kernel) (Nat.le_of_ble_eq_true rfl) (kb_M_badError t x1 x2 H r)
def fc_M_addGiver (t : xo_N) (x1 : Int32) (x2 : Int32) (x3 : Int32) (H : xo_H) : Option (Int32 × xo_H) :=
  xo_gf 9 0 H (some t) fun v1 =>
  xo_gf 9 0 H (some t) fun v2 =>
  xo_pf 9 0 H (some t) (v2 + (1 : Int32)) fun H3 =>
  xo_gp 9 3 H3 (some t) fun o4 =>
  xo_as H3 o4 v1 x1 fun H5 =>
  xo_gp 9 4 H5 (some t) fun o6 =>
  xo_az H5 o6 v1 x2 fun H7 =>
  xo_gp 9 15 H7 (some t) fun o8 =>
  xo_as H7 o8 v1 (-1 : Int32) fun H9 =>
  xo_gp 9 16 H9 (some t) fun o10 =>
  xo_as H9 o10 v1 x3 fun H11 =>
  some (v1, H11)

set_option maxRecDepth 100000 in
set_option maxHeartbeats 4000000 in
theorem kb_M_addGiver (t : xo_N) (x1 : Int32) (x2 : Int32) (x3 : Int32) (H : xo_H) (r : Int32 × xo_H) : xo_X mt_M_addGiver 0 0 xo_ji r 0 [(0, .inr (some t)), (1, .inl x1), (2, .inl x2), (3, .inl x3)] [] H (fc_M_addGiver t x1 x2 x3 H) := by
  unfold fc_M_addGiver
  refine xo_aload_n (pc' := 1) dd_M_addGiver_0 rfl 0 rfl rfl ?_
  refine xo_getI (pc' := 4) dd_M_addGiver_1 ff_M_285 (by decide) rfl fun v1 => ?_
  refine xo_istore (pc' := 6) dd_M_addGiver_4 (by decide) rfl rfl ?_
  refine xo_aload_n (pc' := 7) dd_M_addGiver_6 rfl 1 rfl rfl ?_
  refine xo_dup (pc' := 8) dd_M_addGiver_7 rfl ?_
  refine xo_getI (pc' := 11) dd_M_addGiver_8 ff_M_285 (by decide) rfl fun v2 => ?_
  refine xo_iconst (pc' := 12) (v := (1 : Int32)) dd_M_addGiver_11 (by decide) rfl ?_
  refine xo_iadd (pc' := 13) dd_M_addGiver_12 rfl ?_
  refine xo_putI (pc' := 16) dd_M_addGiver_13 ff_M_285 rfl fun H3 => ?_
  refine xo_aload_n (pc' := 17) dd_M_addGiver_16 rfl 1 rfl rfl ?_
  refine xo_getP (pc' := 20) dd_M_addGiver_17 ff_M_16 (by decide) rfl fun o4 => ?_
  refine xo_iload (pc' := 22) dd_M_addGiver_20 0 rfl rfl ?_
  refine xo_iload_n (pc' := 23) dd_M_addGiver_22 rfl 2 rfl rfl ?_
  refine xo_iast (pc' := 24) dd_M_addGiver_23 rfl fun H5 => ?_
  refine xo_aload_n (pc' := 25) dd_M_addGiver_24 rfl 1 rfl rfl ?_
  refine xo_getP (pc' := 28) dd_M_addGiver_25 ff_M_19 (by decide) rfl fun o6 => ?_
  refine xo_iload (pc' := 30) dd_M_addGiver_28 0 rfl rfl ?_
  refine xo_iload_n (pc' := 31) dd_M_addGiver_30 rfl 3 rfl rfl ?_
  refine xo_zast (pc' := 32) dd_M_addGiver_31 rfl fun H7 => ?_
  refine xo_aload_n (pc' := 33) dd_M_addGiver_32 rfl 1 rfl rfl ?_
  refine xo_getP (pc' := 36) dd_M_addGiver_33 ff_M_53 (by decide) rfl fun o8 => ?_
  refine xo_iload (pc' := 38) dd_M_addGiver_36 0 rfl rfl ?_
  refine xo_iconst (pc' := 39) (v := (-1 : Int32)) dd_M_addGiver_38 (by decide) rfl ?_
  refine xo_iast (pc' := 40) dd_M_addGiver_39 rfl fun H9 => ?_
  refine xo_aload_n (pc' := 41) dd_M_addGiver_40 rfl 1 rfl rfl ?_
  refine xo_getP (pc' := 44) dd_M_addGiver_41 ff_M_56 (by decide) rfl fun o10 => ?_
  refine xo_iload (pc' := 46) dd_M_addGiver_44 0 rfl rfl ?_
  refine xo_iload_n (pc' := 47) dd_M_addGiver_46 rfl 4 rfl rfl ?_
  refine xo_iast (pc' := 48) dd_M_addGiver_47 rfl fun H11 => ?_
  refine xo_iload (pc' := 50) dd_M_addGiver_48 0 rfl rfl ?_
  exact xo_iret dd_M_addGiver_50 rfl
set_option maxRecDepth 100000 in
set_option maxHeartbeats 4000000 in
theorem kc_M_addGiver (t : xo_N) (x1 : Int32) (x2 : Int32) (x3 : Int32) (H : xo_H) (r : Int32 × xo_H) (hk : fc_M_addGiver t x1 x2 x3 H = some r) : xo_M mt_M_addGiver [.inr (some t), .inl x1, .inl x2, .inl x3] H (xo_ji r) :=
  xo_entry hk (by decide +kernel) (Nat.le_of_ble_eq_true rfl) (kb_M_addGiver t x1 x2 x3 H r)
def fc_M_giver (t : xo_N) (x1 : Int32) (x2 : Int32) (H : xo_H) : Option (Int32 × xo_H) :=
  if x1 < 0 then (some ((-1 : Int32), H))
  else (if (20 : Int32) < x1 then (some ((-1 : Int32), H))
  else (xo_gf 9 0 H (some t) fun v1 =>
  if v1 = (6 : Int32) then (some ((-2 : Int32), H))
  else (xo_cl 9 (some t) (fun n7 => fc_M_addGiver n7 x1 x2 (-1 : Int32) H) fun r2 =>
  xo_cl 9 (some t) (fun n6 => fc_M_pull n6 r2.1 r2.2) fun H3 =>
  xo_cl 9 (some t) (fun n5 => fc_M_wake n5 H3) fun H4 =>
  some (r2.1, H4))))

set_option maxRecDepth 100000 in
set_option maxHeartbeats 4000000 in
theorem kb_M_giver (t : xo_N) (x1 : Int32) (x2 : Int32) (H : xo_H) (r : Int32 × xo_H) : xo_X mt_M_giver 0 0 xo_ji r 0 [(0, .inr (some t)), (1, .inl x1), (2, .inl x2)] [] H (fc_M_giver t x1 x2 H) := by
  unfold fc_M_giver
  refine xo_iload_n (pc' := 1) dd_M_giver_0 rfl 1 rfl rfl ?_
  refine xo_if_lt (pc' := 4) (tgt := 10) dd_M_giver_1 rfl rfl ?_ ?_
  · refine xo_iconst (pc' := 11) (v := (-1 : Int32)) dd_M_giver_10 (by decide) rfl ?_
    exact xo_iret dd_M_giver_11 rfl
  · refine xo_iload_n (pc' := 5) dd_M_giver_4 rfl 1 rfl rfl ?_
    refine xo_bipush (pc' := 7) (v := (20 : Int32)) dd_M_giver_5 (by decide) rfl ?_
    refine xo_icmp_le (pc' := 10) (tgt := 12) dd_M_giver_7 rfl rfl ?_ ?_
    · refine xo_aload_n (pc' := 13) dd_M_giver_12 rfl 0 rfl rfl ?_
      refine xo_getI (pc' := 16) dd_M_giver_13 ff_M_285 (by decide) rfl fun v1 => ?_
      refine xo_bipush (pc' := 18) (v := (6 : Int32)) dd_M_giver_16 (by decide) rfl ?_
      refine xo_icmp_ne (pc' := 21) (tgt := 24) dd_M_giver_18 rfl rfl ?_ ?_
      · refine xo_aload_n (pc' := 25) dd_M_giver_24 rfl 0 rfl rfl ?_
        refine xo_iload_n (pc' := 26) dd_M_giver_25 rfl 1 rfl rfl ?_
        refine xo_iload_n (pc' := 27) dd_M_giver_26 rfl 2 rfl rfl ?_
        refine xo_iconst (pc' := 28) (v := (-1 : Int32)) dd_M_giver_27 (by decide) rfl ?_
        refine xo_callVi (as := [.inl x1, .inl x2, .inl (-1 : Int32)]) (o := (some t)) (st := []) (pc' := 31) dd_M_giver_28 cv_M_addGiver ml_M_291 rfl rfl ⟨by decide, by decide⟩ rfl rfl rfl (Nat.le_of_ble_eq_true rfl) rfl (fun n q h => kc_M_addGiver n x1 x2 (-1 : Int32) H q h) fun r2 => ?_
        refine xo_istore_n (pc' := 32) dd_M_giver_31 rfl (by decide) rfl rfl ?_
        refine xo_aload_n (pc' := 33) dd_M_giver_32 rfl 1 rfl rfl ?_
        refine xo_iload_n (pc' := 34) dd_M_giver_33 rfl 0 rfl rfl ?_
        refine xo_callVv (as := [.inl r2.1]) (o := (some t)) (st := []) (pc' := 37) dd_M_giver_34 cv_M_pull ml_M_224 rfl rfl ⟨by decide, by decide⟩ rfl rfl rfl (Nat.le_of_ble_eq_true rfl) rfl (fun n q h => kc_M_pull n r2.1 r2.2 q h) fun H3 => ?_
        refine xo_aload_n (pc' := 38) dd_M_giver_37 rfl 1 rfl rfl ?_
        refine xo_callVv (as := []) (o := (some t)) (st := []) (pc' := 41) dd_M_giver_38 cv_M_wake ml_M_278 rfl rfl ⟨by decide, by decide⟩ rfl rfl rfl (Nat.le_of_ble_eq_true rfl) rfl (fun n q h => kc_M_wake n H3 q h) fun H4 => ?_
        refine xo_iload_n (pc' := 42) dd_M_giver_41 rfl 0 rfl rfl ?_
        exact xo_iret dd_M_giver_42 rfl
      · refine xo_bipush (pc' := 23) (v := (-2 : Int32)) dd_M_giver_21 (by decide) rfl ?_
        exact xo_iret dd_M_giver_23 rfl
    · refine xo_iconst (pc' := 11) (v := (-1 : Int32)) dd_M_giver_10 (by decide) rfl ?_
      exact xo_iret dd_M_giver_11 rfl
set_option maxRecDepth 100000 in
set_option maxHeartbeats 4000000 in
theorem kc_M_giver (t : xo_N) (x1 : Int32) (x2 : Int32) (H : xo_H) (r : Int32 × xo_H) (hk : fc_M_giver t x1 x2 H = some r) : xo_M mt_M_giver [.inr (some t), .inl x1, .inl x2] H (xo_ji r) :=
  xo_entry hk (by decide +kernel) (Nat.le_of_ble_eq_true rfl) (kb_M_giver t x1 x2 H r)
def fc_M_taker (t : xo_N) (x1 : Int32) (x2 : Int32) (H : xo_H) : Option (Int32 × xo_H) :=
  if x1 < 0 then (some ((-1 : Int32), H))
  else (if (20 : Int32) < x1 then (some ((-1 : Int32), H))
  else (xo_gf 9 20 H (some t) fun v1 =>
  if v1 = (2 : Int32) then (some ((-2 : Int32), H))
  else (xo_gp 9 23 H (some t) fun o2 =>
  xo_gf 9 20 H (some t) fun v3 =>
  xo_as H o2 v3 x1 fun H4 =>
  xo_gp 9 24 H4 (some t) fun o5 =>
  xo_gf 9 20 H4 (some t) fun v6 =>
  xo_az H4 o5 v6 x2 fun H7 =>
  xo_gf 9 20 H7 (some t) fun v8 =>
  xo_pf 9 20 H7 (some t) (v8 + (1 : Int32)) fun H9 =>
  xo_cl 9 (some t) (fun n12 => fc_M_wake n12 H9) fun H10 =>
  xo_gf 9 20 H10 (some t) fun v11 =>
  some ((v11 - (1 : Int32)), H10))))

set_option maxRecDepth 100000 in
set_option maxHeartbeats 4000000 in
theorem kb_M_taker (t : xo_N) (x1 : Int32) (x2 : Int32) (H : xo_H) (r : Int32 × xo_H) : xo_X mt_M_taker 0 0 xo_ji r 0 [(0, .inr (some t)), (1, .inl x1), (2, .inl x2)] [] H (fc_M_taker t x1 x2 H) := by
  unfold fc_M_taker
  refine xo_iload_n (pc' := 1) dd_M_taker_0 rfl 1 rfl rfl ?_
  refine xo_if_lt (pc' := 4) (tgt := 10) dd_M_taker_1 rfl rfl ?_ ?_
  · refine xo_iconst (pc' := 11) (v := (-1 : Int32)) dd_M_taker_10 (by decide) rfl ?_
    exact xo_iret dd_M_taker_11 rfl
  · refine xo_iload_n (pc' := 5) dd_M_taker_4 rfl 1 rfl rfl ?_
    refine xo_bipush (pc' := 7) (v := (20 : Int32)) dd_M_taker_5 (by decide) rfl ?_
    refine xo_icmp_le (pc' := 10) (tgt := 12) dd_M_taker_7 rfl rfl ?_ ?_
    · refine xo_aload_n (pc' := 13) dd_M_taker_12 rfl 0 rfl rfl ?_
      refine xo_getI (pc' := 16) dd_M_taker_13 ff_M_288 (by decide) rfl fun v1 => ?_
      refine xo_iconst (pc' := 17) (v := (2 : Int32)) dd_M_taker_16 (by decide) rfl ?_
      refine xo_icmp_ne (pc' := 20) (tgt := 23) dd_M_taker_17 rfl rfl ?_ ?_
      · refine xo_aload_n (pc' := 24) dd_M_taker_23 rfl 0 rfl rfl ?_
        refine xo_getP (pc' := 27) dd_M_taker_24 ff_M_74 (by decide) rfl fun o2 => ?_
        refine xo_aload_n (pc' := 28) dd_M_taker_27 rfl 0 rfl rfl ?_
        refine xo_getI (pc' := 31) dd_M_taker_28 ff_M_288 (by decide) rfl fun v3 => ?_
        refine xo_iload_n (pc' := 32) dd_M_taker_31 rfl 1 rfl rfl ?_
        refine xo_iast (pc' := 33) dd_M_taker_32 rfl fun H4 => ?_
        refine xo_aload_n (pc' := 34) dd_M_taker_33 rfl 0 rfl rfl ?_
        refine xo_getP (pc' := 37) dd_M_taker_34 ff_M_77 (by decide) rfl fun o5 => ?_
        refine xo_aload_n (pc' := 38) dd_M_taker_37 rfl 0 rfl rfl ?_
        refine xo_getI (pc' := 41) dd_M_taker_38 ff_M_288 (by decide) rfl fun v6 => ?_
        refine xo_iload_n (pc' := 42) dd_M_taker_41 rfl 2 rfl rfl ?_
        refine xo_zast (pc' := 43) dd_M_taker_42 rfl fun H7 => ?_
        refine xo_aload_n (pc' := 44) dd_M_taker_43 rfl 0 rfl rfl ?_
        refine xo_dup (pc' := 45) dd_M_taker_44 rfl ?_
        refine xo_getI (pc' := 48) dd_M_taker_45 ff_M_288 (by decide) rfl fun v8 => ?_
        refine xo_iconst (pc' := 49) (v := (1 : Int32)) dd_M_taker_48 (by decide) rfl ?_
        refine xo_iadd (pc' := 50) dd_M_taker_49 rfl ?_
        refine xo_putI (pc' := 53) dd_M_taker_50 ff_M_288 rfl fun H9 => ?_
        refine xo_aload_n (pc' := 54) dd_M_taker_53 rfl 0 rfl rfl ?_
        refine xo_callVv (as := []) (o := (some t)) (st := []) (pc' := 57) dd_M_taker_54 cv_M_wake ml_M_278 rfl rfl ⟨by decide, by decide⟩ rfl rfl rfl (Nat.le_of_ble_eq_true rfl) rfl (fun n q h => kc_M_wake n H9 q h) fun H10 => ?_
        refine xo_aload_n (pc' := 58) dd_M_taker_57 rfl 0 rfl rfl ?_
        refine xo_getI (pc' := 61) dd_M_taker_58 ff_M_288 (by decide) rfl fun v11 => ?_
        refine xo_iconst (pc' := 62) (v := (1 : Int32)) dd_M_taker_61 (by decide) rfl ?_
        refine xo_isub (pc' := 63) dd_M_taker_62 rfl ?_
        exact xo_iret dd_M_taker_63 rfl
      · refine xo_bipush (pc' := 22) (v := (-2 : Int32)) dd_M_taker_20 (by decide) rfl ?_
        exact xo_iret dd_M_taker_22 rfl
    · refine xo_iconst (pc' := 11) (v := (-1 : Int32)) dd_M_taker_10 (by decide) rfl ?_
      exact xo_iret dd_M_taker_11 rfl
set_option maxRecDepth 100000 in
set_option maxHeartbeats 4000000 in
theorem kc_M_taker (t : xo_N) (x1 : Int32) (x2 : Int32) (H : xo_H) (r : Int32 × xo_H) (hk : fc_M_taker t x1 x2 H = some r) : xo_M mt_M_taker [.inr (some t), .inl x1, .inl x2] H (xo_ji r) :=
  xo_entry hk (by decide +kernel) (Nat.le_of_ble_eq_true rfl) (kb_M_taker t x1 x2 H r)
def fc_M_noRoot (t : xo_N) (x1 : Int32) (H : xo_H) : Option (Int32 × xo_H) :=
  xo_cl 9 (some t) (fun n6 => fc_M_noGiver n6 x1 H) fun r1 =>
  if r1.1 = 0 then (xo_cl 9 (some t) (fun n5 => fc_M_isBranch n5 x1 r1.2) fun r2 =>
  if r2.1 = 0 then (xo_gp 9 1 r2.2 (some t) fun o3 =>
  xo_al 0 r2.2 o3 x1 fun v4 =>
  if v4 = 0 then (xo_gb (0 : Int32) (some ((0 : Int32), r2.2)))
  else (xo_gb (1 : Int32) (some ((1 : Int32), r2.2))))
  else (xo_gb (1 : Int32) (some ((1 : Int32), r2.2))))
  else (xo_gb (1 : Int32) (some ((1 : Int32), r1.2)))

set_option maxRecDepth 100000 in
set_option maxHeartbeats 4000000 in
theorem kb_M_noRoot (t : xo_N) (x1 : Int32) (H : xo_H) (r : Int32 × xo_H) : xo_X mt_M_noRoot 0 0 xo_ji r 0 [(0, .inr (some t)), (1, .inl x1)] [] H (fc_M_noRoot t x1 H) := by
  unfold fc_M_noRoot
  refine xo_aload_n (pc' := 1) dd_M_noRoot_0 rfl 0 rfl rfl ?_
  refine xo_iload_n (pc' := 2) dd_M_noRoot_1 rfl 1 rfl rfl ?_
  refine xo_callVi (as := [.inl x1]) (o := (some t)) (st := []) (pc' := 5) dd_M_noRoot_2 cv_M_noGiver ml_M_295 rfl rfl ⟨by decide, by decide⟩ rfl rfl rfl (Nat.le_of_ble_eq_true rfl) rfl (fun n q h => kc_M_noGiver n x1 H q h) fun r1 => ?_
  refine xo_if_ne (pc' := 8) (tgt := 25) dd_M_noRoot_5 rfl rfl ?_ ?_
  · refine xo_iconst (pc' := 26) (v := (1 : Int32)) dd_M_noRoot_25 (by decide) rfl ?_
    refine xo_goto (pc' := 30) dd_M_noRoot_26 rfl ?_
    exact xo_zret dd_M_noRoot_30 rfl
  · refine xo_aload_n (pc' := 9) dd_M_noRoot_8 rfl 0 rfl rfl ?_
    refine xo_iload_n (pc' := 10) dd_M_noRoot_9 rfl 1 rfl rfl ?_
    refine xo_callVi (as := [.inl x1]) (o := (some t)) (st := []) (pc' := 13) dd_M_noRoot_10 cv_M_isBranch ml_M_212 rfl rfl ⟨by decide, by decide⟩ rfl rfl rfl (Nat.le_of_ble_eq_true rfl) rfl (fun n q h => kc_M_isBranch n x1 r1.2 q h) fun r2 => ?_
    refine xo_if_ne (pc' := 16) (tgt := 25) dd_M_noRoot_13 rfl rfl ?_ ?_
    · refine xo_iconst (pc' := 26) (v := (1 : Int32)) dd_M_noRoot_25 (by decide) rfl ?_
      refine xo_goto (pc' := 30) dd_M_noRoot_26 rfl ?_
      exact xo_zret dd_M_noRoot_30 rfl
    · refine xo_aload_n (pc' := 17) dd_M_noRoot_16 rfl 0 rfl rfl ?_
      refine xo_getP (pc' := 20) dd_M_noRoot_17 ff_M_7 (by decide) rfl fun o3 => ?_
      refine xo_iload_n (pc' := 21) dd_M_noRoot_20 rfl 1 rfl rfl ?_
      refine xo_iald (pc' := 22) dd_M_noRoot_21 rfl fun v4 => ?_
      refine xo_if_eq (pc' := 25) (tgt := 29) dd_M_noRoot_22 rfl rfl ?_ ?_
      · refine xo_iconst (pc' := 30) (v := (0 : Int32)) dd_M_noRoot_29 (by decide) rfl ?_
        exact xo_zret dd_M_noRoot_30 rfl
      · refine xo_iconst (pc' := 26) (v := (1 : Int32)) dd_M_noRoot_25 (by decide) rfl ?_
        refine xo_goto (pc' := 30) dd_M_noRoot_26 rfl ?_
        exact xo_zret dd_M_noRoot_30 rfl
set_option maxRecDepth 100000 in
set_option maxHeartbeats 4000000 in
theorem kc_M_noRoot (t : xo_N) (x1 : Int32) (H : xo_H) (r : Int32 × xo_H) (hk : fc_M_noRoot t x1 H = some r) : xo_M mt_M_noRoot [.inr (some t), .inl x1] H (xo_ji r) :=
  xo_entry hk (by decide +kernel) (Nat.le_of_ble_eq_true rfl) (kb_M_noRoot t x1 H r)
def fb_M_put_39 (t : xo_N) (x1 : Int32) (x2 : Int32) (H : xo_H) : Option (Int32 × xo_H) :=
  xo_cl 9 (some t) (fun n4 => fc_M_takeIn n4 x1 x2 H) fun H1 =>
  xo_cl 9 (some t) (fun n3 => fc_M_wake n3 H1) fun H2 =>
  xo_gb (1 : Int32) (some ((1 : Int32), H2))

def fc_M_put (t : xo_N) (x1 : Int32) (x2 : Int32) (H : xo_H) : Option (Int32 × xo_H) :=
  xo_cl 9 (some t) (fun n8 => fc_M_noRoot n8 x1 H) fun r1 =>
  if r1.1 = 0 then (xo_gp 9 5 r1.2 (some t) fun o2 =>
  xo_al 1 r1.2 o2 x1 fun v3 =>
  if v3 = 0 then (xo_gp 9 10 r1.2 (some t) fun o4 =>
  xo_al 0 r1.2 o4 x1 fun v5 =>
  if v5 = (16 : Int32) then (xo_gp 9 12 r1.2 (some t) fun o6 =>
  xo_al 0 r1.2 o6 x1 fun v7 =>
  if v7 = 0 then (xo_gb (0 : Int32) (some ((0 : Int32), r1.2)))
  else (fb_M_put_39 t x1 x2 r1.2))
  else (fb_M_put_39 t x1 x2 r1.2))
  else (xo_gb (0 : Int32) (some ((0 : Int32), r1.2))))
  else (xo_gb (0 : Int32) (some ((0 : Int32), r1.2)))

set_option maxRecDepth 100000 in
set_option maxHeartbeats 4000000 in
theorem kb_M_put_39 (t : xo_N) (x1 : Int32) (x2 : Int32) (H : xo_H) (r : Int32 × xo_H) : xo_X mt_M_put 0 0 xo_ji r 39 [(0, .inr (some t)), (1, .inl x1), (2, .inl x2)] [] H (fb_M_put_39 t x1 x2 H) := by
  unfold fb_M_put_39
  refine xo_aload_n (pc' := 40) dd_M_put_39 rfl 0 rfl rfl ?_
  refine xo_iload_n (pc' := 41) dd_M_put_40 rfl 1 rfl rfl ?_
  refine xo_iload_n (pc' := 42) dd_M_put_41 rfl 2 rfl rfl ?_
  refine xo_callVv (as := [.inl x1, .inl x2]) (o := (some t)) (st := []) (pc' := 45) dd_M_put_42 cv_M_takeIn ml_M_233 rfl rfl ⟨by decide, by decide⟩ rfl rfl rfl (Nat.le_of_ble_eq_true rfl) rfl (fun n q h => kc_M_takeIn n x1 x2 H q h) fun H1 => ?_
  refine xo_aload_n (pc' := 46) dd_M_put_45 rfl 0 rfl rfl ?_
  refine xo_callVv (as := []) (o := (some t)) (st := []) (pc' := 49) dd_M_put_46 cv_M_wake ml_M_278 rfl rfl ⟨by decide, by decide⟩ rfl rfl rfl (Nat.le_of_ble_eq_true rfl) rfl (fun n q h => kc_M_wake n H1 q h) fun H2 => ?_
  refine xo_iconst (pc' := 50) (v := (1 : Int32)) dd_M_put_49 (by decide) rfl ?_
  exact xo_zret dd_M_put_50 rfl
set_option maxRecDepth 100000 in
set_option maxHeartbeats 4000000 in
theorem kb_M_put (t : xo_N) (x1 : Int32) (x2 : Int32) (H : xo_H) (r : Int32 × xo_H) : xo_X mt_M_put 0 0 xo_ji r 0 [(0, .inr (some t)), (1, .inl x1), (2, .inl x2)] [] H (fc_M_put t x1 x2 H) := by
  unfold fc_M_put
  refine xo_aload_n (pc' := 1) dd_M_put_0 rfl 0 rfl rfl ?_
  refine xo_iload_n (pc' := 2) dd_M_put_1 rfl 1 rfl rfl ?_
  refine xo_callVi (as := [.inl x1]) (o := (some t)) (st := []) (pc' := 5) dd_M_put_2 cv_M_noRoot ml_M_298 rfl rfl ⟨by decide, by decide⟩ rfl rfl rfl (Nat.le_of_ble_eq_true rfl) rfl (fun n q h => kc_M_noRoot n x1 H q h) fun r1 => ?_
  refine xo_if_ne (pc' := 8) (tgt := 37) dd_M_put_5 rfl rfl ?_ ?_
  · refine xo_iconst (pc' := 38) (v := (0 : Int32)) dd_M_put_37 (by decide) rfl ?_
    exact xo_zret dd_M_put_38 rfl
  · refine xo_aload_n (pc' := 9) dd_M_put_8 rfl 0 rfl rfl ?_
    refine xo_getP (pc' := 12) dd_M_put_9 ff_M_23 (by decide) rfl fun o2 => ?_
    refine xo_iload_n (pc' := 13) dd_M_put_12 rfl 1 rfl rfl ?_
    refine xo_zald (pc' := 14) dd_M_put_13 rfl fun v3 => ?_
    refine xo_if_ne (pc' := 17) (tgt := 37) dd_M_put_14 rfl rfl ?_ ?_
    · refine xo_iconst (pc' := 38) (v := (0 : Int32)) dd_M_put_37 (by decide) rfl ?_
      exact xo_zret dd_M_put_38 rfl
    · refine xo_aload_n (pc' := 18) dd_M_put_17 rfl 0 rfl rfl ?_
      refine xo_getP (pc' := 21) dd_M_put_18 ff_M_38 (by decide) rfl fun o4 => ?_
      refine xo_iload_n (pc' := 22) dd_M_put_21 rfl 1 rfl rfl ?_
      refine xo_iald (pc' := 23) dd_M_put_22 rfl fun v5 => ?_
      refine xo_bipush (pc' := 25) (v := (16 : Int32)) dd_M_put_23 (by decide) rfl ?_
      refine xo_icmp_ne (pc' := 28) (tgt := 39) dd_M_put_25 rfl rfl ?_ ?_
      · exact kb_M_put_39 t x1 x2 r1.2 r
      · refine xo_aload_n (pc' := 29) dd_M_put_28 rfl 0 rfl rfl ?_
        refine xo_getP (pc' := 32) dd_M_put_29 ff_M_44 (by decide) rfl fun o6 => ?_
        refine xo_iload_n (pc' := 33) dd_M_put_32 rfl 1 rfl rfl ?_
        refine xo_iald (pc' := 34) dd_M_put_33 rfl fun v7 => ?_
        refine xo_if_ne (pc' := 37) (tgt := 39) dd_M_put_34 rfl rfl ?_ ?_
        · exact kb_M_put_39 t x1 x2 r1.2 r
        · refine xo_iconst (pc' := 38) (v := (0 : Int32)) dd_M_put_37 (by decide) rfl ?_
          exact xo_zret dd_M_put_38 rfl
set_option maxRecDepth 100000 in
set_option maxHeartbeats 4000000 in
theorem kc_M_put (t : xo_N) (x1 : Int32) (x2 : Int32) (H : xo_H) (r : Int32 × xo_H) (hk : fc_M_put t x1 x2 H = some r) : xo_M mt_M_put [.inr (some t), .inl x1, .inl x2] H (xo_ji r) :=
  xo_entry hk (by decide +kernel) (Nat.le_of_ble_eq_true rfl) (kb_M_put t x1 x2 H r)
def fc_M_end (t : xo_N) (x1 : Int32) (H : xo_H) : Option (Int32 × xo_H) :=
  xo_cl 9 (some t) (fun n8 => fc_M_noRoot n8 x1 H) fun r1 =>
  if r1.1 = 0 then (xo_gp 9 5 r1.2 (some t) fun o2 =>
  xo_al 1 r1.2 o2 x1 fun v3 =>
  if v3 = 0 then (xo_cl 9 (some t) (fun n7 => fc_M_ends n7 x1 r1.2) fun H4 =>
  xo_cl 9 (some t) (fun n6 => fc_M_wake n6 H4) fun H5 =>
  xo_gb (1 : Int32) (some ((1 : Int32), H5)))
  else (xo_gb (0 : Int32) (some ((0 : Int32), r1.2))))
  else (xo_gb (0 : Int32) (some ((0 : Int32), r1.2)))

set_option maxRecDepth 100000 in
set_option maxHeartbeats 4000000 in
theorem kb_M_end (t : xo_N) (x1 : Int32) (H : xo_H) (r : Int32 × xo_H) : xo_X mt_M_end 0 0 xo_ji r 0 [(0, .inr (some t)), (1, .inl x1)] [] H (fc_M_end t x1 H) := by
  unfold fc_M_end
  refine xo_aload_n (pc' := 1) dd_M_end_0 rfl 0 rfl rfl ?_
  refine xo_iload_n (pc' := 2) dd_M_end_1 rfl 1 rfl rfl ?_
  refine xo_callVi (as := [.inl x1]) (o := (some t)) (st := []) (pc' := 5) dd_M_end_2 cv_M_noRoot ml_M_298 rfl rfl ⟨by decide, by decide⟩ rfl rfl rfl (Nat.le_of_ble_eq_true rfl) rfl (fun n q h => kc_M_noRoot n x1 H q h) fun r1 => ?_
  refine xo_if_ne (pc' := 8) (tgt := 17) dd_M_end_5 rfl rfl ?_ ?_
  · refine xo_iconst (pc' := 18) (v := (0 : Int32)) dd_M_end_17 (by decide) rfl ?_
    exact xo_zret dd_M_end_18 rfl
  · refine xo_aload_n (pc' := 9) dd_M_end_8 rfl 0 rfl rfl ?_
    refine xo_getP (pc' := 12) dd_M_end_9 ff_M_23 (by decide) rfl fun o2 => ?_
    refine xo_iload_n (pc' := 13) dd_M_end_12 rfl 1 rfl rfl ?_
    refine xo_zald (pc' := 14) dd_M_end_13 rfl fun v3 => ?_
    refine xo_if_eq (pc' := 17) (tgt := 19) dd_M_end_14 rfl rfl ?_ ?_
    · refine xo_aload_n (pc' := 20) dd_M_end_19 rfl 0 rfl rfl ?_
      refine xo_iload_n (pc' := 21) dd_M_end_20 rfl 1 rfl rfl ?_
      refine xo_callVv (as := [.inl x1]) (o := (some t)) (st := []) (pc' := 24) dd_M_end_21 cv_M_ends ml_M_301 rfl rfl ⟨by decide, by decide⟩ rfl rfl rfl (Nat.le_of_ble_eq_true rfl) rfl (fun n q h => kc_M_ends n x1 r1.2 q h) fun H4 => ?_
      refine xo_aload_n (pc' := 25) dd_M_end_24 rfl 0 rfl rfl ?_
      refine xo_callVv (as := []) (o := (some t)) (st := []) (pc' := 28) dd_M_end_25 cv_M_wake ml_M_278 rfl rfl ⟨by decide, by decide⟩ rfl rfl rfl (Nat.le_of_ble_eq_true rfl) rfl (fun n q h => kc_M_wake n H4 q h) fun H5 => ?_
      refine xo_iconst (pc' := 29) (v := (1 : Int32)) dd_M_end_28 (by decide) rfl ?_
      exact xo_zret dd_M_end_29 rfl
    · refine xo_iconst (pc' := 18) (v := (0 : Int32)) dd_M_end_17 (by decide) rfl ?_
      exact xo_zret dd_M_end_18 rfl
set_option maxRecDepth 100000 in
set_option maxHeartbeats 4000000 in
theorem kc_M_end (t : xo_N) (x1 : Int32) (H : xo_H) (r : Int32 × xo_H) (hk : fc_M_end t x1 H = some r) : xo_M mt_M_end [.inr (some t), .inl x1] H (xo_ji r) :=
  xo_entry hk (by decide +kernel) (Nat.le_of_ble_eq_true rfl) (kb_M_end t x1 H r)
def fc_M_fail (t : xo_N) (x1 : Int32) (x2 : Int32) (H : xo_H) : Option (Int32 × xo_H) :=
  xo_cl 9 (some t) (fun n8 => fc_M_noRoot n8 x1 H) fun r1 =>
  if r1.1 = 0 then (xo_cl 9 (some t) (fun n7 => fc_M_badError n7 x2 (0 : Int32) r1.2) fun r2 =>
  if r2.1 = 0 then (xo_cl 9 (some t) (fun n6 => fc_M_failRoot n6 x1 x2 r2.2) fun H3 =>
  xo_cl 9 (some t) (fun n5 => fc_M_wake n5 H3) fun H4 =>
  xo_gb (1 : Int32) (some ((1 : Int32), H4)))
  else (xo_gb (0 : Int32) (some ((0 : Int32), r2.2))))
  else (xo_gb (0 : Int32) (some ((0 : Int32), r1.2)))

set_option maxRecDepth 100000 in
set_option maxHeartbeats 4000000 in
theorem kb_M_fail (t : xo_N) (x1 : Int32) (x2 : Int32) (H : xo_H) (r : Int32 × xo_H) : xo_X mt_M_fail 0 0 xo_ji r 0 [(0, .inr (some t)), (1, .inl x1), (2, .inl x2)] [] H (fc_M_fail t x1 x2 H) := by
  unfold fc_M_fail
  refine xo_aload_n (pc' := 1) dd_M_fail_0 rfl 0 rfl rfl ?_
  refine xo_iload_n (pc' := 2) dd_M_fail_1 rfl 1 rfl rfl ?_
  refine xo_callVi (as := [.inl x1]) (o := (some t)) (st := []) (pc' := 5) dd_M_fail_2 cv_M_noRoot ml_M_298 rfl rfl ⟨by decide, by decide⟩ rfl rfl rfl (Nat.le_of_ble_eq_true rfl) rfl (fun n q h => kc_M_noRoot n x1 H q h) fun r1 => ?_
  refine xo_if_ne (pc' := 8) (tgt := 17) dd_M_fail_5 rfl rfl ?_ ?_
  · refine xo_iconst (pc' := 18) (v := (0 : Int32)) dd_M_fail_17 (by decide) rfl ?_
    exact xo_zret dd_M_fail_18 rfl
  · refine xo_aload_n (pc' := 9) dd_M_fail_8 rfl 0 rfl rfl ?_
    refine xo_iload_n (pc' := 10) dd_M_fail_9 rfl 2 rfl rfl ?_
    refine xo_iconst (pc' := 11) (v := (0 : Int32)) dd_M_fail_10 (by decide) rfl ?_
    refine xo_callVi (as := [.inl x2, .inl (0 : Int32)]) (o := (some t)) (st := []) (pc' := 14) dd_M_fail_11 cv_M_badError ml_M_304 rfl rfl ⟨by decide, by decide⟩ rfl rfl rfl (Nat.le_of_ble_eq_true rfl) rfl (fun n q h => kc_M_badError n x2 (0 : Int32) r1.2 q h) fun r2 => ?_
    refine xo_if_eq (pc' := 17) (tgt := 19) dd_M_fail_14 rfl rfl ?_ ?_
    · refine xo_aload_n (pc' := 20) dd_M_fail_19 rfl 0 rfl rfl ?_
      refine xo_iload_n (pc' := 21) dd_M_fail_20 rfl 1 rfl rfl ?_
      refine xo_iload_n (pc' := 22) dd_M_fail_21 rfl 2 rfl rfl ?_
      refine xo_callVv (as := [.inl x1, .inl x2]) (o := (some t)) (st := []) (pc' := 25) dd_M_fail_22 cv_M_failRoot ml_M_230 rfl rfl ⟨by decide, by decide⟩ rfl rfl rfl (Nat.le_of_ble_eq_true rfl) rfl (fun n q h => kc_M_failRoot n x1 x2 r2.2 q h) fun H3 => ?_
      refine xo_aload_n (pc' := 26) dd_M_fail_25 rfl 0 rfl rfl ?_
      refine xo_callVv (as := []) (o := (some t)) (st := []) (pc' := 29) dd_M_fail_26 cv_M_wake ml_M_278 rfl rfl ⟨by decide, by decide⟩ rfl rfl rfl (Nat.le_of_ble_eq_true rfl) rfl (fun n q h => kc_M_wake n H3 q h) fun H4 => ?_
      refine xo_iconst (pc' := 30) (v := (1 : Int32)) dd_M_fail_29 (by decide) rfl ?_
      exact xo_zret dd_M_fail_30 rfl
    · refine xo_iconst (pc' := 18) (v := (0 : Int32)) dd_M_fail_17 (by decide) rfl ?_
      exact xo_zret dd_M_fail_18 rfl
set_option maxRecDepth 100000 in
set_option maxHeartbeats 4000000 in
theorem kc_M_fail (t : xo_N) (x1 : Int32) (x2 : Int32) (H : xo_H) (r : Int32 × xo_H) (hk : fc_M_fail t x1 x2 H = some r) : xo_M mt_M_fail [.inr (some t), .inl x1, .inl x2] H (xo_ji r) :=
  xo_entry hk (by decide +kernel) (Nat.le_of_ble_eq_true rfl) (kb_M_fail t x1 x2 H r)
def fc_M_pulled (t : xo_N) (x1 : Int32) (x2 : Int32) (H : xo_H) : Option (Int32 × xo_H) :=
  xo_cl 9 (some t) (fun n16 => fc_M_noGiver n16 x1 H) fun r1 =>
  if r1.1 = 0 then (xo_cl 9 (some t) (fun n15 => fc_M_isBranch n15 x1 r1.2) fun r2 =>
  if r2.1 = 0 then (xo_gp 9 6 r2.2 (some t) fun o3 =>
  xo_al 1 r2.2 o3 x1 fun v4 =>
  if v4 = 0 then (xo_gb (0 : Int32) (some ((0 : Int32), r2.2)))
  else (xo_gp 9 14 r2.2 (some t) fun o5 =>
  xo_al 1 r2.2 o5 x1 fun v6 =>
  if v6 = 0 then (xo_cl 9 (some t) (fun n14 => fc_M_badError n14 x2 (-1 : Int32) r2.2) fun r7 =>
  if r7.1 = 0 then (xo_gp 9 14 r7.2 (some t) fun o8 =>
  xo_az r7.2 o8 x1 (1 : Int32) fun H9 =>
  xo_cl 9 (some t) (fun n13 => fc_M_job n13 (1 : Int32) x1 x2 H9) fun H10 =>
  xo_cl 9 (some t) (fun n12 => fc_M_wake n12 H10) fun H11 =>
  xo_gb (1 : Int32) (some ((1 : Int32), H11)))
  else (xo_gb (0 : Int32) (some ((0 : Int32), r7.2))))
  else (xo_gb (0 : Int32) (some ((0 : Int32), r2.2)))))
  else (xo_gb (0 : Int32) (some ((0 : Int32), r2.2))))
  else (xo_gb (0 : Int32) (some ((0 : Int32), r1.2)))

set_option maxRecDepth 100000 in
set_option maxHeartbeats 4000000 in
theorem kb_M_pulled (t : xo_N) (x1 : Int32) (x2 : Int32) (H : xo_H) (r : Int32 × xo_H) : xo_X mt_M_pulled 0 0 xo_ji r 0 [(0, .inr (some t)), (1, .inl x1), (2, .inl x2)] [] H (fc_M_pulled t x1 x2 H) := by
  unfold fc_M_pulled
  refine xo_aload_n (pc' := 1) dd_M_pulled_0 rfl 0 rfl rfl ?_
  refine xo_iload_n (pc' := 2) dd_M_pulled_1 rfl 1 rfl rfl ?_
  refine xo_callVi (as := [.inl x1]) (o := (some t)) (st := []) (pc' := 5) dd_M_pulled_2 cv_M_noGiver ml_M_295 rfl rfl ⟨by decide, by decide⟩ rfl rfl rfl (Nat.le_of_ble_eq_true rfl) rfl (fun n q h => kc_M_noGiver n x1 H q h) fun r1 => ?_
  refine xo_if_ne (pc' := 8) (tgt := 43) dd_M_pulled_5 rfl rfl ?_ ?_
  · refine xo_iconst (pc' := 44) (v := (0 : Int32)) dd_M_pulled_43 (by decide) rfl ?_
    exact xo_zret dd_M_pulled_44 rfl
  · refine xo_aload_n (pc' := 9) dd_M_pulled_8 rfl 0 rfl rfl ?_
    refine xo_iload_n (pc' := 10) dd_M_pulled_9 rfl 1 rfl rfl ?_
    refine xo_callVi (as := [.inl x1]) (o := (some t)) (st := []) (pc' := 13) dd_M_pulled_10 cv_M_isBranch ml_M_212 rfl rfl ⟨by decide, by decide⟩ rfl rfl rfl (Nat.le_of_ble_eq_true rfl) rfl (fun n q h => kc_M_isBranch n x1 r1.2 q h) fun r2 => ?_
    refine xo_if_ne (pc' := 16) (tgt := 43) dd_M_pulled_13 rfl rfl ?_ ?_
    · refine xo_iconst (pc' := 44) (v := (0 : Int32)) dd_M_pulled_43 (by decide) rfl ?_
      exact xo_zret dd_M_pulled_44 rfl
    · refine xo_aload_n (pc' := 17) dd_M_pulled_16 rfl 0 rfl rfl ?_
      refine xo_getP (pc' := 20) dd_M_pulled_17 ff_M_26 (by decide) rfl fun o3 => ?_
      refine xo_iload_n (pc' := 21) dd_M_pulled_20 rfl 1 rfl rfl ?_
      refine xo_zald (pc' := 22) dd_M_pulled_21 rfl fun v4 => ?_
      refine xo_if_eq (pc' := 25) (tgt := 43) dd_M_pulled_22 rfl rfl ?_ ?_
      · refine xo_iconst (pc' := 44) (v := (0 : Int32)) dd_M_pulled_43 (by decide) rfl ?_
        exact xo_zret dd_M_pulled_44 rfl
      · refine xo_aload_n (pc' := 26) dd_M_pulled_25 rfl 0 rfl rfl ?_
        refine xo_getP (pc' := 29) dd_M_pulled_26 ff_M_50 (by decide) rfl fun o5 => ?_
        refine xo_iload_n (pc' := 30) dd_M_pulled_29 rfl 1 rfl rfl ?_
        refine xo_zald (pc' := 31) dd_M_pulled_30 rfl fun v6 => ?_
        refine xo_if_ne (pc' := 34) (tgt := 43) dd_M_pulled_31 rfl rfl ?_ ?_
        · refine xo_iconst (pc' := 44) (v := (0 : Int32)) dd_M_pulled_43 (by decide) rfl ?_
          exact xo_zret dd_M_pulled_44 rfl
        · refine xo_aload_n (pc' := 35) dd_M_pulled_34 rfl 0 rfl rfl ?_
          refine xo_iload_n (pc' := 36) dd_M_pulled_35 rfl 2 rfl rfl ?_
          refine xo_iconst (pc' := 37) (v := (-1 : Int32)) dd_M_pulled_36 (by decide) rfl ?_
          refine xo_callVi (as := [.inl x2, .inl (-1 : Int32)]) (o := (some t)) (st := []) (pc' := 40) dd_M_pulled_37 cv_M_badError ml_M_304 rfl rfl ⟨by decide, by decide⟩ rfl rfl rfl (Nat.le_of_ble_eq_true rfl) rfl (fun n q h => kc_M_badError n x2 (-1 : Int32) r2.2 q h) fun r7 => ?_
          refine xo_if_eq (pc' := 43) (tgt := 45) dd_M_pulled_40 rfl rfl ?_ ?_
          · refine xo_aload_n (pc' := 46) dd_M_pulled_45 rfl 0 rfl rfl ?_
            refine xo_getP (pc' := 49) dd_M_pulled_46 ff_M_50 (by decide) rfl fun o8 => ?_
            refine xo_iload_n (pc' := 50) dd_M_pulled_49 rfl 1 rfl rfl ?_
            refine xo_iconst (pc' := 51) (v := (1 : Int32)) dd_M_pulled_50 (by decide) rfl ?_
            refine xo_zast (pc' := 52) dd_M_pulled_51 rfl fun H9 => ?_
            refine xo_aload_n (pc' := 53) dd_M_pulled_52 rfl 0 rfl rfl ?_
            refine xo_iconst (pc' := 54) (v := (1 : Int32)) dd_M_pulled_53 (by decide) rfl ?_
            refine xo_iload_n (pc' := 55) dd_M_pulled_54 rfl 1 rfl rfl ?_
            refine xo_iload_n (pc' := 56) dd_M_pulled_55 rfl 2 rfl rfl ?_
            refine xo_callVv (as := [.inl (1 : Int32), .inl x1, .inl x2]) (o := (some t)) (st := []) (pc' := 59) dd_M_pulled_56 cv_M_job ml_M_178 rfl rfl ⟨by decide, by decide⟩ rfl rfl rfl (Nat.le_of_ble_eq_true rfl) rfl (fun n q h => kc_M_job n (1 : Int32) x1 x2 H9 q h) fun H10 => ?_
            refine xo_aload_n (pc' := 60) dd_M_pulled_59 rfl 0 rfl rfl ?_
            refine xo_callVv (as := []) (o := (some t)) (st := []) (pc' := 63) dd_M_pulled_60 cv_M_wake ml_M_278 rfl rfl ⟨by decide, by decide⟩ rfl rfl rfl (Nat.le_of_ble_eq_true rfl) rfl (fun n q h => kc_M_wake n H10 q h) fun H11 => ?_
            refine xo_iconst (pc' := 64) (v := (1 : Int32)) dd_M_pulled_63 (by decide) rfl ?_
            exact xo_zret dd_M_pulled_64 rfl
          · refine xo_iconst (pc' := 44) (v := (0 : Int32)) dd_M_pulled_43 (by decide) rfl ?_
            exact xo_zret dd_M_pulled_44 rfl
set_option maxRecDepth 100000 in
set_option maxHeartbeats 4000000 in
theorem kc_M_pulled (t : xo_N) (x1 : Int32) (x2 : Int32) (H : xo_H) (r : Int32 × xo_H) (hk : fc_M_pulled t x1 x2 H = some r) : xo_M mt_M_pulled [.inr (some t), .inl x1, .inl x2] H (xo_ji r) :=
  xo_entry hk (by decide +kernel) (Nat.le_of_ble_eq_true rfl) (kb_M_pulled t x1 x2 H r)
def fc_M_read (t : xo_N) (x1 : Int32) (H : xo_H) : Option (Int32 × xo_H) :=
  xo_cl 9 (some t) (fun n15 => fc_M_noGiver n15 x1 H) fun r1 =>
  if r1.1 = 0 then (xo_gp 9 8 r1.2 (some t) fun o2 =>
  xo_al 0 r1.2 o2 x1 fun v3 =>
  if v3 = 0 then (xo_gp 9 12 r1.2 (some t) fun o4 =>
  xo_al 0 r1.2 o4 x1 fun v5 =>
  if v5 = (8 : Int32) then (some ((-3 : Int32), r1.2))
  else (xo_gp 9 13 r1.2 (some t) fun o6 =>
  xo_al 0 r1.2 o6 x1 fun v7 =>
  xo_as r1.2 o6 x1 (v7 + (1 : Int32)) fun H8 =>
  xo_gp 9 13 H8 (some t) fun o9 =>
  xo_al 0 H8 o9 x1 fun v10 =>
  xo_cl 9 (some t) (fun n14 => fc_M_request n14 x1 v10 H8) fun H11 =>
  xo_cl 9 (some t) (fun n13 => fc_M_wake n13 H11) fun H12 =>
  some (v10, H12)))
  else (some ((-2 : Int32), r1.2)))
  else (some ((-1 : Int32), r1.2))

set_option maxRecDepth 100000 in
set_option maxHeartbeats 4000000 in
theorem kb_M_read (t : xo_N) (x1 : Int32) (H : xo_H) (r : Int32 × xo_H) : xo_X mt_M_read 0 0 xo_ji r 0 [(0, .inr (some t)), (1, .inl x1)] [] H (fc_M_read t x1 H) := by
  unfold fc_M_read
  refine xo_aload_n (pc' := 1) dd_M_read_0 rfl 0 rfl rfl ?_
  refine xo_iload_n (pc' := 2) dd_M_read_1 rfl 1 rfl rfl ?_
  refine xo_callVi (as := [.inl x1]) (o := (some t)) (st := []) (pc' := 5) dd_M_read_2 cv_M_noGiver ml_M_295 rfl rfl ⟨by decide, by decide⟩ rfl rfl rfl (Nat.le_of_ble_eq_true rfl) rfl (fun n q h => kc_M_noGiver n x1 H q h) fun r1 => ?_
  refine xo_if_eq (pc' := 8) (tgt := 10) dd_M_read_5 rfl rfl ?_ ?_
  · refine xo_aload_n (pc' := 11) dd_M_read_10 rfl 0 rfl rfl ?_
    refine xo_getP (pc' := 14) dd_M_read_11 ff_M_32 (by decide) rfl fun o2 => ?_
    refine xo_iload_n (pc' := 15) dd_M_read_14 rfl 1 rfl rfl ?_
    refine xo_iald (pc' := 16) dd_M_read_15 rfl fun v3 => ?_
    refine xo_if_eq (pc' := 19) (tgt := 22) dd_M_read_16 rfl rfl ?_ ?_
    · refine xo_aload_n (pc' := 23) dd_M_read_22 rfl 0 rfl rfl ?_
      refine xo_getP (pc' := 26) dd_M_read_23 ff_M_44 (by decide) rfl fun o4 => ?_
      refine xo_iload_n (pc' := 27) dd_M_read_26 rfl 1 rfl rfl ?_
      refine xo_iald (pc' := 28) dd_M_read_27 rfl fun v5 => ?_
      refine xo_bipush (pc' := 30) (v := (8 : Int32)) dd_M_read_28 (by decide) rfl ?_
      refine xo_icmp_ne (pc' := 33) (tgt := 36) dd_M_read_30 rfl rfl ?_ ?_
      · refine xo_aload_n (pc' := 37) dd_M_read_36 rfl 0 rfl rfl ?_
        refine xo_getP (pc' := 40) dd_M_read_37 ff_M_47 (by decide) rfl fun o6 => ?_
        refine xo_iload_n (pc' := 41) dd_M_read_40 rfl 1 rfl rfl ?_
        refine xo_dup2 (pc' := 42) dd_M_read_41 rfl ?_
        refine xo_iald (pc' := 43) dd_M_read_42 rfl fun v7 => ?_
        refine xo_iconst (pc' := 44) (v := (1 : Int32)) dd_M_read_43 (by decide) rfl ?_
        refine xo_iadd (pc' := 45) dd_M_read_44 rfl ?_
        refine xo_iast (pc' := 46) dd_M_read_45 rfl fun H8 => ?_
        refine xo_aload_n (pc' := 47) dd_M_read_46 rfl 0 rfl rfl ?_
        refine xo_getP (pc' := 50) dd_M_read_47 ff_M_47 (by decide) rfl fun o9 => ?_
        refine xo_iload_n (pc' := 51) dd_M_read_50 rfl 1 rfl rfl ?_
        refine xo_iald (pc' := 52) dd_M_read_51 rfl fun v10 => ?_
        refine xo_istore_n (pc' := 53) dd_M_read_52 rfl (by decide) rfl rfl ?_
        refine xo_aload_n (pc' := 54) dd_M_read_53 rfl 1 rfl rfl ?_
        refine xo_iload_n (pc' := 55) dd_M_read_54 rfl 2 rfl rfl ?_
        refine xo_iload_n (pc' := 56) dd_M_read_55 rfl 0 rfl rfl ?_
        refine xo_callVv (as := [.inl x1, .inl v10]) (o := (some t)) (st := []) (pc' := 59) dd_M_read_56 cv_M_request ml_M_254 rfl rfl ⟨by decide, by decide⟩ rfl rfl rfl (Nat.le_of_ble_eq_true rfl) rfl (fun n q h => kc_M_request n x1 v10 H8 q h) fun H11 => ?_
        refine xo_aload_n (pc' := 60) dd_M_read_59 rfl 1 rfl rfl ?_
        refine xo_callVv (as := []) (o := (some t)) (st := []) (pc' := 63) dd_M_read_60 cv_M_wake ml_M_278 rfl rfl ⟨by decide, by decide⟩ rfl rfl rfl (Nat.le_of_ble_eq_true rfl) rfl (fun n q h => kc_M_wake n H11 q h) fun H12 => ?_
        refine xo_iload_n (pc' := 64) dd_M_read_63 rfl 0 rfl rfl ?_
        exact xo_iret dd_M_read_64 rfl
      · refine xo_bipush (pc' := 35) (v := (-3 : Int32)) dd_M_read_33 (by decide) rfl ?_
        exact xo_iret dd_M_read_35 rfl
    · refine xo_bipush (pc' := 21) (v := (-2 : Int32)) dd_M_read_19 (by decide) rfl ?_
      exact xo_iret dd_M_read_21 rfl
  · refine xo_iconst (pc' := 9) (v := (-1 : Int32)) dd_M_read_8 (by decide) rfl ?_
    exact xo_iret dd_M_read_9 rfl
set_option maxRecDepth 100000 in
set_option maxHeartbeats 4000000 in
theorem kc_M_read (t : xo_N) (x1 : Int32) (H : xo_H) (r : Int32 × xo_H) (hk : fc_M_read t x1 H = some r) : xo_M mt_M_read [.inr (some t), .inl x1] H (xo_ji r) :=
  xo_entry hk (by decide +kernel) (Nat.le_of_ble_eq_true rfl) (kb_M_read t x1 H r)
def fc_M_cancel (t : xo_N) (x1 : Int32) (x2 : Int32) (H : xo_H) : Option (Int32 × xo_H) :=
  xo_cl 9 (some t) (fun n10 => fc_M_noGiver n10 x1 H) fun r1 =>
  if r1.1 = 0 then (xo_gp 9 8 r1.2 (some t) fun o2 =>
  xo_al 0 r1.2 o2 x1 fun v3 =>
  if v3 = 0 then (xo_cl 9 (some t) (fun n9 => fc_M_badError n9 x2 (0 : Int32) r1.2) fun r4 =>
  if r4.1 = 0 then (xo_cl 9 (some t) (fun n8 => fc_M_cancelGiver n8 x1 x2 r4.2) fun H5 =>
  xo_cl 9 (some t) (fun n7 => fc_M_wake n7 H5) fun H6 =>
  xo_gb (1 : Int32) (some ((1 : Int32), H6)))
  else (xo_gb (0 : Int32) (some ((0 : Int32), r4.2))))
  else (xo_gb (0 : Int32) (some ((0 : Int32), r1.2))))
  else (xo_gb (0 : Int32) (some ((0 : Int32), r1.2)))

set_option maxRecDepth 100000 in
set_option maxHeartbeats 4000000 in
theorem kb_M_cancel (t : xo_N) (x1 : Int32) (x2 : Int32) (H : xo_H) (r : Int32 × xo_H) : xo_X mt_M_cancel 0 0 xo_ji r 0 [(0, .inr (some t)), (1, .inl x1), (2, .inl x2)] [] H (fc_M_cancel t x1 x2 H) := by
  unfold fc_M_cancel
  refine xo_aload_n (pc' := 1) dd_M_cancel_0 rfl 0 rfl rfl ?_
  refine xo_iload_n (pc' := 2) dd_M_cancel_1 rfl 1 rfl rfl ?_
  refine xo_callVi (as := [.inl x1]) (o := (some t)) (st := []) (pc' := 5) dd_M_cancel_2 cv_M_noGiver ml_M_295 rfl rfl ⟨by decide, by decide⟩ rfl rfl rfl (Nat.le_of_ble_eq_true rfl) rfl (fun n q h => kc_M_noGiver n x1 H q h) fun r1 => ?_
  refine xo_if_ne (pc' := 8) (tgt := 26) dd_M_cancel_5 rfl rfl ?_ ?_
  · refine xo_iconst (pc' := 27) (v := (0 : Int32)) dd_M_cancel_26 (by decide) rfl ?_
    exact xo_zret dd_M_cancel_27 rfl
  · refine xo_aload_n (pc' := 9) dd_M_cancel_8 rfl 0 rfl rfl ?_
    refine xo_getP (pc' := 12) dd_M_cancel_9 ff_M_32 (by decide) rfl fun o2 => ?_
    refine xo_iload_n (pc' := 13) dd_M_cancel_12 rfl 1 rfl rfl ?_
    refine xo_iald (pc' := 14) dd_M_cancel_13 rfl fun v3 => ?_
    refine xo_if_ne (pc' := 17) (tgt := 26) dd_M_cancel_14 rfl rfl ?_ ?_
    · refine xo_iconst (pc' := 27) (v := (0 : Int32)) dd_M_cancel_26 (by decide) rfl ?_
      exact xo_zret dd_M_cancel_27 rfl
    · refine xo_aload_n (pc' := 18) dd_M_cancel_17 rfl 0 rfl rfl ?_
      refine xo_iload_n (pc' := 19) dd_M_cancel_18 rfl 2 rfl rfl ?_
      refine xo_iconst (pc' := 20) (v := (0 : Int32)) dd_M_cancel_19 (by decide) rfl ?_
      refine xo_callVi (as := [.inl x2, .inl (0 : Int32)]) (o := (some t)) (st := []) (pc' := 23) dd_M_cancel_20 cv_M_badError ml_M_304 rfl rfl ⟨by decide, by decide⟩ rfl rfl rfl (Nat.le_of_ble_eq_true rfl) rfl (fun n q h => kc_M_badError n x2 (0 : Int32) r1.2 q h) fun r4 => ?_
      refine xo_if_eq (pc' := 26) (tgt := 28) dd_M_cancel_23 rfl rfl ?_ ?_
      · refine xo_aload_n (pc' := 29) dd_M_cancel_28 rfl 0 rfl rfl ?_
        refine xo_iload_n (pc' := 30) dd_M_cancel_29 rfl 1 rfl rfl ?_
        refine xo_iload_n (pc' := 31) dd_M_cancel_30 rfl 2 rfl rfl ?_
        refine xo_callVv (as := [.inl x1, .inl x2]) (o := (some t)) (st := []) (pc' := 34) dd_M_cancel_31 cv_M_cancelGiver ml_M_242 rfl rfl ⟨by decide, by decide⟩ rfl rfl rfl (Nat.le_of_ble_eq_true rfl) rfl (fun n q h => kc_M_cancelGiver n x1 x2 r4.2 q h) fun H5 => ?_
        refine xo_aload_n (pc' := 35) dd_M_cancel_34 rfl 0 rfl rfl ?_
        refine xo_callVv (as := []) (o := (some t)) (st := []) (pc' := 38) dd_M_cancel_35 cv_M_wake ml_M_278 rfl rfl ⟨by decide, by decide⟩ rfl rfl rfl (Nat.le_of_ble_eq_true rfl) rfl (fun n q h => kc_M_wake n H5 q h) fun H6 => ?_
        refine xo_iconst (pc' := 39) (v := (1 : Int32)) dd_M_cancel_38 (by decide) rfl ?_
        exact xo_zret dd_M_cancel_39 rfl
      · refine xo_iconst (pc' := 27) (v := (0 : Int32)) dd_M_cancel_26 (by decide) rfl ?_
        exact xo_zret dd_M_cancel_27 rfl
set_option maxRecDepth 100000 in
set_option maxHeartbeats 4000000 in
theorem kc_M_cancel (t : xo_N) (x1 : Int32) (x2 : Int32) (H : xo_H) (r : Int32 × xo_H) (hk : fc_M_cancel t x1 x2 H = some r) : xo_M mt_M_cancel [.inr (some t), .inl x1, .inl x2] H (xo_ji r) :=
  xo_entry hk (by decide +kernel) (Nat.le_of_ble_eq_true rfl) (kb_M_cancel t x1 x2 H r)
def fc_M_write (t : xo_N) (x1 : Int32) (x2 : Int32) (H : xo_H) : Option (Int32 × xo_H) :=
  xo_cl 9 (some t) (fun n10 => fc_M_noTaker n10 x1 H) fun r1 =>
  if r1.1 = 0 then (xo_gp 9 34 r1.2 (some t) fun o2 =>
  xo_al 1 r1.2 o2 x1 fun v3 =>
  if v3 = 0 then (xo_gp 9 27 r1.2 (some t) fun o4 =>
  xo_al 0 r1.2 o4 x1 fun v5 =>
  if v5 = (16 : Int32) then (some ((-3 : Int32), r1.2))
  else (xo_cl 9 (some t) (fun n9 => fc_M_writeTo n9 x1 x2 r1.2) fun r6 =>
  xo_cl 9 (some t) (fun n8 => fc_M_wake n8 r6.2) fun H7 =>
  some (r6.1, H7)))
  else (some ((-2 : Int32), r1.2)))
  else (some ((-1 : Int32), r1.2))

set_option maxRecDepth 100000 in
set_option maxHeartbeats 4000000 in
theorem kb_M_write (t : xo_N) (x1 : Int32) (x2 : Int32) (H : xo_H) (r : Int32 × xo_H) : xo_X mt_M_write 0 0 xo_ji r 0 [(0, .inr (some t)), (1, .inl x1), (2, .inl x2)] [] H (fc_M_write t x1 x2 H) := by
  unfold fc_M_write
  refine xo_aload_n (pc' := 1) dd_M_write_0 rfl 0 rfl rfl ?_
  refine xo_iload_n (pc' := 2) dd_M_write_1 rfl 1 rfl rfl ?_
  refine xo_callVi (as := [.inl x1]) (o := (some t)) (st := []) (pc' := 5) dd_M_write_2 cv_M_noTaker ml_M_308 rfl rfl ⟨by decide, by decide⟩ rfl rfl rfl (Nat.le_of_ble_eq_true rfl) rfl (fun n q h => kc_M_noTaker n x1 H q h) fun r1 => ?_
  refine xo_if_eq (pc' := 8) (tgt := 10) dd_M_write_5 rfl rfl ?_ ?_
  · refine xo_aload_n (pc' := 11) dd_M_write_10 rfl 0 rfl rfl ?_
    refine xo_getP (pc' := 14) dd_M_write_11 ff_M_107 (by decide) rfl fun o2 => ?_
    refine xo_iload_n (pc' := 15) dd_M_write_14 rfl 1 rfl rfl ?_
    refine xo_zald (pc' := 16) dd_M_write_15 rfl fun v3 => ?_
    refine xo_if_eq (pc' := 19) (tgt := 22) dd_M_write_16 rfl rfl ?_ ?_
    · refine xo_aload_n (pc' := 23) dd_M_write_22 rfl 0 rfl rfl ?_
      refine xo_getP (pc' := 26) dd_M_write_23 ff_M_86 (by decide) rfl fun o4 => ?_
      refine xo_iload_n (pc' := 27) dd_M_write_26 rfl 1 rfl rfl ?_
      refine xo_iald (pc' := 28) dd_M_write_27 rfl fun v5 => ?_
      refine xo_bipush (pc' := 30) (v := (16 : Int32)) dd_M_write_28 (by decide) rfl ?_
      refine xo_icmp_ne (pc' := 33) (tgt := 36) dd_M_write_30 rfl rfl ?_ ?_
      · refine xo_aload_n (pc' := 37) dd_M_write_36 rfl 0 rfl rfl ?_
        refine xo_iload_n (pc' := 38) dd_M_write_37 rfl 1 rfl rfl ?_
        refine xo_iload_n (pc' := 39) dd_M_write_38 rfl 2 rfl rfl ?_
        refine xo_callVi (as := [.inl x1, .inl x2]) (o := (some t)) (st := []) (pc' := 42) dd_M_write_39 cv_M_writeTo ml_M_182 rfl rfl ⟨by decide, by decide⟩ rfl rfl rfl (Nat.le_of_ble_eq_true rfl) rfl (fun n q h => kc_M_writeTo n x1 x2 r1.2 q h) fun r6 => ?_
        refine xo_istore_n (pc' := 43) dd_M_write_42 rfl (by decide) rfl rfl ?_
        refine xo_aload_n (pc' := 44) dd_M_write_43 rfl 1 rfl rfl ?_
        refine xo_callVv (as := []) (o := (some t)) (st := []) (pc' := 47) dd_M_write_44 cv_M_wake ml_M_278 rfl rfl ⟨by decide, by decide⟩ rfl rfl rfl (Nat.le_of_ble_eq_true rfl) rfl (fun n q h => kc_M_wake n r6.2 q h) fun H7 => ?_
        refine xo_iload_n (pc' := 48) dd_M_write_47 rfl 0 rfl rfl ?_
        exact xo_iret dd_M_write_48 rfl
      · refine xo_bipush (pc' := 35) (v := (-3 : Int32)) dd_M_write_33 (by decide) rfl ?_
        exact xo_iret dd_M_write_35 rfl
    · refine xo_bipush (pc' := 21) (v := (-2 : Int32)) dd_M_write_19 (by decide) rfl ?_
      exact xo_iret dd_M_write_21 rfl
  · refine xo_iconst (pc' := 9) (v := (-1 : Int32)) dd_M_write_8 (by decide) rfl ?_
    exact xo_iret dd_M_write_9 rfl
set_option maxRecDepth 100000 in
set_option maxHeartbeats 4000000 in
theorem kc_M_write (t : xo_N) (x1 : Int32) (x2 : Int32) (H : xo_H) (r : Int32 × xo_H) (hk : fc_M_write t x1 x2 H = some r) : xo_M mt_M_write [.inr (some t), .inl x1, .inl x2] H (xo_ji r) :=
  xo_entry hk (by decide +kernel) (Nat.le_of_ble_eq_true rfl) (kb_M_write t x1 x2 H r)
def fc_M_shut (t : xo_N) (x1 : Int32) (H : xo_H) : Option (Int32 × xo_H) :=
  xo_cl 9 (some t) (fun n14 => fc_M_noTaker n14 x1 H) fun r1 =>
  if r1.1 = 0 then (xo_gp 9 34 r1.2 (some t) fun o2 =>
  xo_al 1 r1.2 o2 x1 fun v3 =>
  if v3 = 0 then (xo_gp 9 21 r1.2 (some t) fun o4 =>
  xo_al 0 r1.2 o4 x1 fun v5 =>
  if (1 : Int32) < v5 then (xo_gb (0 : Int32) (some ((0 : Int32), r1.2)))
  else (xo_gp 9 29 r1.2 (some t) fun o6 =>
  xo_al 1 r1.2 o6 x1 fun v7 =>
  if v7 = 0 then (xo_gp 9 30 r1.2 (some t) fun o8 =>
  xo_al 0 r1.2 o8 x1 fun v9 =>
  if v9 = (4 : Int32) then (xo_gb (0 : Int32) (some ((0 : Int32), r1.2)))
  else (xo_cl 9 (some t) (fun n13 => fc_M_shutDown n13 x1 r1.2) fun H10 =>
  xo_cl 9 (some t) (fun n12 => fc_M_wake n12 H10) fun H11 =>
  xo_gb (1 : Int32) (some ((1 : Int32), H11))))
  else (xo_gb (0 : Int32) (some ((0 : Int32), r1.2)))))
  else (xo_gb (0 : Int32) (some ((0 : Int32), r1.2))))
  else (xo_gb (0 : Int32) (some ((0 : Int32), r1.2)))

set_option maxRecDepth 100000 in
set_option maxHeartbeats 4000000 in
theorem kb_M_shut (t : xo_N) (x1 : Int32) (H : xo_H) (r : Int32 × xo_H) : xo_X mt_M_shut 0 0 xo_ji r 0 [(0, .inr (some t)), (1, .inl x1)] [] H (fc_M_shut t x1 H) := by
  unfold fc_M_shut
  refine xo_aload_n (pc' := 1) dd_M_shut_0 rfl 0 rfl rfl ?_
  refine xo_iload_n (pc' := 2) dd_M_shut_1 rfl 1 rfl rfl ?_
  refine xo_callVi (as := [.inl x1]) (o := (some t)) (st := []) (pc' := 5) dd_M_shut_2 cv_M_noTaker ml_M_308 rfl rfl ⟨by decide, by decide⟩ rfl rfl rfl (Nat.le_of_ble_eq_true rfl) rfl (fun n q h => kc_M_noTaker n x1 H q h) fun r1 => ?_
  refine xo_if_ne (pc' := 8) (tgt := 46) dd_M_shut_5 rfl rfl ?_ ?_
  · refine xo_iconst (pc' := 47) (v := (0 : Int32)) dd_M_shut_46 (by decide) rfl ?_
    exact xo_zret dd_M_shut_47 rfl
  · refine xo_aload_n (pc' := 9) dd_M_shut_8 rfl 0 rfl rfl ?_
    refine xo_getP (pc' := 12) dd_M_shut_9 ff_M_107 (by decide) rfl fun o2 => ?_
    refine xo_iload_n (pc' := 13) dd_M_shut_12 rfl 1 rfl rfl ?_
    refine xo_zald (pc' := 14) dd_M_shut_13 rfl fun v3 => ?_
    refine xo_if_ne (pc' := 17) (tgt := 46) dd_M_shut_14 rfl rfl ?_ ?_
    · refine xo_iconst (pc' := 47) (v := (0 : Int32)) dd_M_shut_46 (by decide) rfl ?_
      exact xo_zret dd_M_shut_47 rfl
    · refine xo_aload_n (pc' := 18) dd_M_shut_17 rfl 0 rfl rfl ?_
      refine xo_getP (pc' := 21) dd_M_shut_18 ff_M_68 (by decide) rfl fun o4 => ?_
      refine xo_iload_n (pc' := 22) dd_M_shut_21 rfl 1 rfl rfl ?_
      refine xo_iald (pc' := 23) dd_M_shut_22 rfl fun v5 => ?_
      refine xo_iconst (pc' := 24) (v := (1 : Int32)) dd_M_shut_23 (by decide) rfl ?_
      refine xo_icmp_gt (pc' := 27) (tgt := 46) dd_M_shut_24 rfl rfl ?_ ?_
      · refine xo_iconst (pc' := 47) (v := (0 : Int32)) dd_M_shut_46 (by decide) rfl ?_
        exact xo_zret dd_M_shut_47 rfl
      · refine xo_aload_n (pc' := 28) dd_M_shut_27 rfl 0 rfl rfl ?_
        refine xo_getP (pc' := 31) dd_M_shut_28 ff_M_92 (by decide) rfl fun o6 => ?_
        refine xo_iload_n (pc' := 32) dd_M_shut_31 rfl 1 rfl rfl ?_
        refine xo_zald (pc' := 33) dd_M_shut_32 rfl fun v7 => ?_
        refine xo_if_ne (pc' := 36) (tgt := 46) dd_M_shut_33 rfl rfl ?_ ?_
        · refine xo_iconst (pc' := 47) (v := (0 : Int32)) dd_M_shut_46 (by decide) rfl ?_
          exact xo_zret dd_M_shut_47 rfl
        · refine xo_aload_n (pc' := 37) dd_M_shut_36 rfl 0 rfl rfl ?_
          refine xo_getP (pc' := 40) dd_M_shut_37 ff_M_95 (by decide) rfl fun o8 => ?_
          refine xo_iload_n (pc' := 41) dd_M_shut_40 rfl 1 rfl rfl ?_
          refine xo_iald (pc' := 42) dd_M_shut_41 rfl fun v9 => ?_
          refine xo_iconst (pc' := 43) (v := (4 : Int32)) dd_M_shut_42 (by decide) rfl ?_
          refine xo_icmp_ne (pc' := 46) (tgt := 48) dd_M_shut_43 rfl rfl ?_ ?_
          · refine xo_aload_n (pc' := 49) dd_M_shut_48 rfl 0 rfl rfl ?_
            refine xo_iload_n (pc' := 50) dd_M_shut_49 rfl 1 rfl rfl ?_
            refine xo_callVv (as := [.inl x1]) (o := (some t)) (st := []) (pc' := 53) dd_M_shut_50 cv_M_shutDown ml_M_245 rfl rfl ⟨by decide, by decide⟩ rfl rfl rfl (Nat.le_of_ble_eq_true rfl) rfl (fun n q h => kc_M_shutDown n x1 r1.2 q h) fun H10 => ?_
            refine xo_aload_n (pc' := 54) dd_M_shut_53 rfl 0 rfl rfl ?_
            refine xo_callVv (as := []) (o := (some t)) (st := []) (pc' := 57) dd_M_shut_54 cv_M_wake ml_M_278 rfl rfl ⟨by decide, by decide⟩ rfl rfl rfl (Nat.le_of_ble_eq_true rfl) rfl (fun n q h => kc_M_wake n H10 q h) fun H11 => ?_
            refine xo_iconst (pc' := 58) (v := (1 : Int32)) dd_M_shut_57 (by decide) rfl ?_
            exact xo_zret dd_M_shut_58 rfl
          · refine xo_iconst (pc' := 47) (v := (0 : Int32)) dd_M_shut_46 (by decide) rfl ?_
            exact xo_zret dd_M_shut_47 rfl
set_option maxRecDepth 100000 in
set_option maxHeartbeats 4000000 in
theorem kc_M_shut (t : xo_N) (x1 : Int32) (H : xo_H) (r : Int32 × xo_H) (hk : fc_M_shut t x1 H = some r) : xo_M mt_M_shut [.inr (some t), .inl x1] H (xo_ji r) :=
  xo_entry hk (by decide +kernel) (Nat.le_of_ble_eq_true rfl) (kb_M_shut t x1 H r)
def fc_M_abort (t : xo_N) (x1 : Int32) (x2 : Int32) (H : xo_H) : Option (Int32 × xo_H) :=
  xo_cl 9 (some t) (fun n14 => fc_M_noTaker n14 x1 H) fun r1 =>
  if r1.1 = 0 then (xo_gp 9 34 r1.2 (some t) fun o2 =>
  xo_al 1 r1.2 o2 x1 fun v3 =>
  if v3 = 0 then (xo_gp 9 31 r1.2 (some t) fun o4 =>
  xo_al 1 r1.2 o4 x1 fun v5 =>
  if v5 = 0 then (xo_gp 9 30 r1.2 (some t) fun o6 =>
  xo_al 0 r1.2 o6 x1 fun v7 =>
  if v7 = (5 : Int32) then (xo_gb (0 : Int32) (some ((0 : Int32), r1.2)))
  else (xo_cl 9 (some t) (fun n13 => fc_M_badError n13 x2 (0 : Int32) r1.2) fun r8 =>
  if r8.1 = 0 then (xo_cl 9 (some t) (fun n12 => fc_M_abortTaker n12 x1 x2 r8.2) fun H9 =>
  xo_cl 9 (some t) (fun n11 => fc_M_wake n11 H9) fun H10 =>
  xo_gb (1 : Int32) (some ((1 : Int32), H10)))
  else (xo_gb (0 : Int32) (some ((0 : Int32), r8.2)))))
  else (xo_gb (0 : Int32) (some ((0 : Int32), r1.2))))
  else (xo_gb (0 : Int32) (some ((0 : Int32), r1.2))))
  else (xo_gb (0 : Int32) (some ((0 : Int32), r1.2)))

set_option maxRecDepth 100000 in
set_option maxHeartbeats 4000000 in
theorem kb_M_abort (t : xo_N) (x1 : Int32) (x2 : Int32) (H : xo_H) (r : Int32 × xo_H) : xo_X mt_M_abort 0 0 xo_ji r 0 [(0, .inr (some t)), (1, .inl x1), (2, .inl x2)] [] H (fc_M_abort t x1 x2 H) := by
  unfold fc_M_abort
  refine xo_aload_n (pc' := 1) dd_M_abort_0 rfl 0 rfl rfl ?_
  refine xo_iload_n (pc' := 2) dd_M_abort_1 rfl 1 rfl rfl ?_
  refine xo_callVi (as := [.inl x1]) (o := (some t)) (st := []) (pc' := 5) dd_M_abort_2 cv_M_noTaker ml_M_308 rfl rfl ⟨by decide, by decide⟩ rfl rfl rfl (Nat.le_of_ble_eq_true rfl) rfl (fun n q h => kc_M_noTaker n x1 H q h) fun r1 => ?_
  refine xo_if_ne (pc' := 8) (tgt := 45) dd_M_abort_5 rfl rfl ?_ ?_
  · refine xo_iconst (pc' := 46) (v := (0 : Int32)) dd_M_abort_45 (by decide) rfl ?_
    exact xo_zret dd_M_abort_46 rfl
  · refine xo_aload_n (pc' := 9) dd_M_abort_8 rfl 0 rfl rfl ?_
    refine xo_getP (pc' := 12) dd_M_abort_9 ff_M_107 (by decide) rfl fun o2 => ?_
    refine xo_iload_n (pc' := 13) dd_M_abort_12 rfl 1 rfl rfl ?_
    refine xo_zald (pc' := 14) dd_M_abort_13 rfl fun v3 => ?_
    refine xo_if_ne (pc' := 17) (tgt := 45) dd_M_abort_14 rfl rfl ?_ ?_
    · refine xo_iconst (pc' := 46) (v := (0 : Int32)) dd_M_abort_45 (by decide) rfl ?_
      exact xo_zret dd_M_abort_46 rfl
    · refine xo_aload_n (pc' := 18) dd_M_abort_17 rfl 0 rfl rfl ?_
      refine xo_getP (pc' := 21) dd_M_abort_18 ff_M_98 (by decide) rfl fun o4 => ?_
      refine xo_iload_n (pc' := 22) dd_M_abort_21 rfl 1 rfl rfl ?_
      refine xo_zald (pc' := 23) dd_M_abort_22 rfl fun v5 => ?_
      refine xo_if_ne (pc' := 26) (tgt := 45) dd_M_abort_23 rfl rfl ?_ ?_
      · refine xo_iconst (pc' := 46) (v := (0 : Int32)) dd_M_abort_45 (by decide) rfl ?_
        exact xo_zret dd_M_abort_46 rfl
      · refine xo_aload_n (pc' := 27) dd_M_abort_26 rfl 0 rfl rfl ?_
        refine xo_getP (pc' := 30) dd_M_abort_27 ff_M_95 (by decide) rfl fun o6 => ?_
        refine xo_iload_n (pc' := 31) dd_M_abort_30 rfl 1 rfl rfl ?_
        refine xo_iald (pc' := 32) dd_M_abort_31 rfl fun v7 => ?_
        refine xo_iconst (pc' := 33) (v := (5 : Int32)) dd_M_abort_32 (by decide) rfl ?_
        refine xo_icmp_eq (pc' := 36) (tgt := 45) dd_M_abort_33 rfl rfl ?_ ?_
        · refine xo_iconst (pc' := 46) (v := (0 : Int32)) dd_M_abort_45 (by decide) rfl ?_
          exact xo_zret dd_M_abort_46 rfl
        · refine xo_aload_n (pc' := 37) dd_M_abort_36 rfl 0 rfl rfl ?_
          refine xo_iload_n (pc' := 38) dd_M_abort_37 rfl 2 rfl rfl ?_
          refine xo_iconst (pc' := 39) (v := (0 : Int32)) dd_M_abort_38 (by decide) rfl ?_
          refine xo_callVi (as := [.inl x2, .inl (0 : Int32)]) (o := (some t)) (st := []) (pc' := 42) dd_M_abort_39 cv_M_badError ml_M_304 rfl rfl ⟨by decide, by decide⟩ rfl rfl rfl (Nat.le_of_ble_eq_true rfl) rfl (fun n q h => kc_M_badError n x2 (0 : Int32) r1.2 q h) fun r8 => ?_
          refine xo_if_eq (pc' := 45) (tgt := 47) dd_M_abort_42 rfl rfl ?_ ?_
          · refine xo_aload_n (pc' := 48) dd_M_abort_47 rfl 0 rfl rfl ?_
            refine xo_iload_n (pc' := 49) dd_M_abort_48 rfl 1 rfl rfl ?_
            refine xo_iload_n (pc' := 50) dd_M_abort_49 rfl 2 rfl rfl ?_
            refine xo_callVv (as := [.inl x1, .inl x2]) (o := (some t)) (st := []) (pc' := 53) dd_M_abort_50 cv_M_abortTaker ml_M_236 rfl rfl ⟨by decide, by decide⟩ rfl rfl rfl (Nat.le_of_ble_eq_true rfl) rfl (fun n q h => kc_M_abortTaker n x1 x2 r8.2 q h) fun H9 => ?_
            refine xo_aload_n (pc' := 54) dd_M_abort_53 rfl 0 rfl rfl ?_
            refine xo_callVv (as := []) (o := (some t)) (st := []) (pc' := 57) dd_M_abort_54 cv_M_wake ml_M_278 rfl rfl ⟨by decide, by decide⟩ rfl rfl rfl (Nat.le_of_ble_eq_true rfl) rfl (fun n q h => kc_M_wake n H9 q h) fun H10 => ?_
            refine xo_iconst (pc' := 58) (v := (1 : Int32)) dd_M_abort_57 (by decide) rfl ?_
            exact xo_zret dd_M_abort_58 rfl
          · refine xo_iconst (pc' := 46) (v := (0 : Int32)) dd_M_abort_45 (by decide) rfl ?_
            exact xo_zret dd_M_abort_46 rfl
set_option maxRecDepth 100000 in
set_option maxHeartbeats 4000000 in
theorem kc_M_abort (t : xo_N) (x1 : Int32) (x2 : Int32) (H : xo_H) (r : Int32 × xo_H) (hk : fc_M_abort t x1 x2 H = some r) : xo_M mt_M_abort [.inr (some t), .inl x1, .inl x2] H (xo_ji r) :=
  xo_entry hk (by decide +kernel) (Nat.le_of_ble_eq_true rfl) (kb_M_abort t x1 x2 H r)
def fc_M_spoil (t : xo_N) (x1 : Int32) (x2 : Int32) (H : xo_H) : Option (Int32 × xo_H) :=
  xo_cl 9 (some t) (fun n10 => fc_M_noTaker n10 x1 H) fun r1 =>
  if r1.1 = 0 then (xo_gp 9 21 r1.2 (some t) fun o2 =>
  xo_al 0 r1.2 o2 x1 fun v3 =>
  if v3 = 0 then (xo_cl 9 (some t) (fun n9 => fc_M_badError n9 x2 (0 : Int32) r1.2) fun r4 =>
  if r4.1 = 0 then (xo_cl 9 (some t) (fun n8 => fc_M_startFailing n8 x1 x2 r4.2) fun H5 =>
  xo_cl 9 (some t) (fun n7 => fc_M_wake n7 H5) fun H6 =>
  xo_gb (1 : Int32) (some ((1 : Int32), H6)))
  else (xo_gb (0 : Int32) (some ((0 : Int32), r4.2))))
  else (xo_gb (0 : Int32) (some ((0 : Int32), r1.2))))
  else (xo_gb (0 : Int32) (some ((0 : Int32), r1.2)))

set_option maxRecDepth 100000 in
set_option maxHeartbeats 4000000 in
theorem kb_M_spoil (t : xo_N) (x1 : Int32) (x2 : Int32) (H : xo_H) (r : Int32 × xo_H) : xo_X mt_M_spoil 0 0 xo_ji r 0 [(0, .inr (some t)), (1, .inl x1), (2, .inl x2)] [] H (fc_M_spoil t x1 x2 H) := by
  unfold fc_M_spoil
  refine xo_aload_n (pc' := 1) dd_M_spoil_0 rfl 0 rfl rfl ?_
  refine xo_iload_n (pc' := 2) dd_M_spoil_1 rfl 1 rfl rfl ?_
  refine xo_callVi (as := [.inl x1]) (o := (some t)) (st := []) (pc' := 5) dd_M_spoil_2 cv_M_noTaker ml_M_308 rfl rfl ⟨by decide, by decide⟩ rfl rfl rfl (Nat.le_of_ble_eq_true rfl) rfl (fun n q h => kc_M_noTaker n x1 H q h) fun r1 => ?_
  refine xo_if_ne (pc' := 8) (tgt := 26) dd_M_spoil_5 rfl rfl ?_ ?_
  · refine xo_iconst (pc' := 27) (v := (0 : Int32)) dd_M_spoil_26 (by decide) rfl ?_
    exact xo_zret dd_M_spoil_27 rfl
  · refine xo_aload_n (pc' := 9) dd_M_spoil_8 rfl 0 rfl rfl ?_
    refine xo_getP (pc' := 12) dd_M_spoil_9 ff_M_68 (by decide) rfl fun o2 => ?_
    refine xo_iload_n (pc' := 13) dd_M_spoil_12 rfl 1 rfl rfl ?_
    refine xo_iald (pc' := 14) dd_M_spoil_13 rfl fun v3 => ?_
    refine xo_if_ne (pc' := 17) (tgt := 26) dd_M_spoil_14 rfl rfl ?_ ?_
    · refine xo_iconst (pc' := 27) (v := (0 : Int32)) dd_M_spoil_26 (by decide) rfl ?_
      exact xo_zret dd_M_spoil_27 rfl
    · refine xo_aload_n (pc' := 18) dd_M_spoil_17 rfl 0 rfl rfl ?_
      refine xo_iload_n (pc' := 19) dd_M_spoil_18 rfl 2 rfl rfl ?_
      refine xo_iconst (pc' := 20) (v := (0 : Int32)) dd_M_spoil_19 (by decide) rfl ?_
      refine xo_callVi (as := [.inl x2, .inl (0 : Int32)]) (o := (some t)) (st := []) (pc' := 23) dd_M_spoil_20 cv_M_badError ml_M_304 rfl rfl ⟨by decide, by decide⟩ rfl rfl rfl (Nat.le_of_ble_eq_true rfl) rfl (fun n q h => kc_M_badError n x2 (0 : Int32) r1.2 q h) fun r4 => ?_
      refine xo_if_eq (pc' := 26) (tgt := 28) dd_M_spoil_23 rfl rfl ?_ ?_
      · refine xo_aload_n (pc' := 29) dd_M_spoil_28 rfl 0 rfl rfl ?_
        refine xo_iload_n (pc' := 30) dd_M_spoil_29 rfl 1 rfl rfl ?_
        refine xo_iload_n (pc' := 31) dd_M_spoil_30 rfl 2 rfl rfl ?_
        refine xo_callVv (as := [.inl x1, .inl x2]) (o := (some t)) (st := []) (pc' := 34) dd_M_spoil_31 cv_M_startFailing ml_M_175 rfl rfl ⟨by decide, by decide⟩ rfl rfl rfl (Nat.le_of_ble_eq_true rfl) rfl (fun n q h => kc_M_startFailing n x1 x2 r4.2 q h) fun H5 => ?_
        refine xo_aload_n (pc' := 35) dd_M_spoil_34 rfl 0 rfl rfl ?_
        refine xo_callVv (as := []) (o := (some t)) (st := []) (pc' := 38) dd_M_spoil_35 cv_M_wake ml_M_278 rfl rfl ⟨by decide, by decide⟩ rfl rfl rfl (Nat.le_of_ble_eq_true rfl) rfl (fun n q h => kc_M_wake n H5 q h) fun H6 => ?_
        refine xo_iconst (pc' := 39) (v := (1 : Int32)) dd_M_spoil_38 (by decide) rfl ?_
        exact xo_zret dd_M_spoil_39 rfl
      · refine xo_iconst (pc' := 27) (v := (0 : Int32)) dd_M_spoil_26 (by decide) rfl ?_
        exact xo_zret dd_M_spoil_27 rfl
set_option maxRecDepth 100000 in
set_option maxHeartbeats 4000000 in
theorem kc_M_spoil (t : xo_N) (x1 : Int32) (x2 : Int32) (H : xo_H) (r : Int32 × xo_H) (hk : fc_M_spoil t x1 x2 H = some r) : xo_M mt_M_spoil [.inr (some t), .inl x1, .inl x2] H (xo_ji r) :=
  xo_entry hk (by decide +kernel) (Nat.le_of_ble_eq_true rfl) (kb_M_spoil t x1 x2 H r)
def fc_M_settle (t : xo_N) (x1 : Int32) (x2 : Int32) (H : xo_H) : Option (Int32 × xo_H) :=
  xo_cl 9 (some t) (fun n16 => fc_M_noTaker n16 x1 H) fun r1 =>
  if r1.1 = 0 then (xo_gp 9 30 r1.2 (some t) fun o2 =>
  xo_al 0 r1.2 o2 x1 fun v3 =>
  if v3 = 0 then (xo_gb (0 : Int32) (some ((0 : Int32), r1.2)))
  else (xo_gp 9 35 r1.2 (some t) fun o4 =>
  xo_al 1 r1.2 o4 x1 fun v5 =>
  if v5 = 0 then (xo_cl 9 (some t) (fun n15 => fc_M_badError n15 x2 (-1 : Int32) r1.2) fun r6 =>
  if r6.1 = 0 then (xo_gp 9 35 r6.2 (some t) fun o7 =>
  xo_az r6.2 o7 x1 (1 : Int32) fun H8 =>
  xo_gp 9 30 H8 (some t) fun o9 =>
  xo_al 0 H8 o9 x1 fun v10 =>
  xo_cl 9 (some t) (fun n14 => fc_M_job n14 v10 x1 x2 H8) fun H11 =>
  xo_cl 9 (some t) (fun n13 => fc_M_wake n13 H11) fun H12 =>
  xo_gb (1 : Int32) (some ((1 : Int32), H12)))
  else (xo_gb (0 : Int32) (some ((0 : Int32), r6.2))))
  else (xo_gb (0 : Int32) (some ((0 : Int32), r1.2)))))
  else (xo_gb (0 : Int32) (some ((0 : Int32), r1.2)))

set_option maxRecDepth 100000 in
set_option maxHeartbeats 4000000 in
theorem kb_M_settle (t : xo_N) (x1 : Int32) (x2 : Int32) (H : xo_H) (r : Int32 × xo_H) : xo_X mt_M_settle 0 0 xo_ji r 0 [(0, .inr (some t)), (1, .inl x1), (2, .inl x2)] [] H (fc_M_settle t x1 x2 H) := by
  unfold fc_M_settle
  refine xo_aload_n (pc' := 1) dd_M_settle_0 rfl 0 rfl rfl ?_
  refine xo_iload_n (pc' := 2) dd_M_settle_1 rfl 1 rfl rfl ?_
  refine xo_callVi (as := [.inl x1]) (o := (some t)) (st := []) (pc' := 5) dd_M_settle_2 cv_M_noTaker ml_M_308 rfl rfl ⟨by decide, by decide⟩ rfl rfl rfl (Nat.le_of_ble_eq_true rfl) rfl (fun n q h => kc_M_noTaker n x1 H q h) fun r1 => ?_
  refine xo_if_ne (pc' := 8) (tgt := 35) dd_M_settle_5 rfl rfl ?_ ?_
  · refine xo_iconst (pc' := 36) (v := (0 : Int32)) dd_M_settle_35 (by decide) rfl ?_
    exact xo_zret dd_M_settle_36 rfl
  · refine xo_aload_n (pc' := 9) dd_M_settle_8 rfl 0 rfl rfl ?_
    refine xo_getP (pc' := 12) dd_M_settle_9 ff_M_95 (by decide) rfl fun o2 => ?_
    refine xo_iload_n (pc' := 13) dd_M_settle_12 rfl 1 rfl rfl ?_
    refine xo_iald (pc' := 14) dd_M_settle_13 rfl fun v3 => ?_
    refine xo_if_eq (pc' := 17) (tgt := 35) dd_M_settle_14 rfl rfl ?_ ?_
    · refine xo_iconst (pc' := 36) (v := (0 : Int32)) dd_M_settle_35 (by decide) rfl ?_
      exact xo_zret dd_M_settle_36 rfl
    · refine xo_aload_n (pc' := 18) dd_M_settle_17 rfl 0 rfl rfl ?_
      refine xo_getP (pc' := 21) dd_M_settle_18 ff_M_110 (by decide) rfl fun o4 => ?_
      refine xo_iload_n (pc' := 22) dd_M_settle_21 rfl 1 rfl rfl ?_
      refine xo_zald (pc' := 23) dd_M_settle_22 rfl fun v5 => ?_
      refine xo_if_ne (pc' := 26) (tgt := 35) dd_M_settle_23 rfl rfl ?_ ?_
      · refine xo_iconst (pc' := 36) (v := (0 : Int32)) dd_M_settle_35 (by decide) rfl ?_
        exact xo_zret dd_M_settle_36 rfl
      · refine xo_aload_n (pc' := 27) dd_M_settle_26 rfl 0 rfl rfl ?_
        refine xo_iload_n (pc' := 28) dd_M_settle_27 rfl 2 rfl rfl ?_
        refine xo_iconst (pc' := 29) (v := (-1 : Int32)) dd_M_settle_28 (by decide) rfl ?_
        refine xo_callVi (as := [.inl x2, .inl (-1 : Int32)]) (o := (some t)) (st := []) (pc' := 32) dd_M_settle_29 cv_M_badError ml_M_304 rfl rfl ⟨by decide, by decide⟩ rfl rfl rfl (Nat.le_of_ble_eq_true rfl) rfl (fun n q h => kc_M_badError n x2 (-1 : Int32) r1.2 q h) fun r6 => ?_
        refine xo_if_eq (pc' := 35) (tgt := 37) dd_M_settle_32 rfl rfl ?_ ?_
        · refine xo_aload_n (pc' := 38) dd_M_settle_37 rfl 0 rfl rfl ?_
          refine xo_getP (pc' := 41) dd_M_settle_38 ff_M_110 (by decide) rfl fun o7 => ?_
          refine xo_iload_n (pc' := 42) dd_M_settle_41 rfl 1 rfl rfl ?_
          refine xo_iconst (pc' := 43) (v := (1 : Int32)) dd_M_settle_42 (by decide) rfl ?_
          refine xo_zast (pc' := 44) dd_M_settle_43 rfl fun H8 => ?_
          refine xo_aload_n (pc' := 45) dd_M_settle_44 rfl 0 rfl rfl ?_
          refine xo_aload_n (pc' := 46) dd_M_settle_45 rfl 0 rfl rfl ?_
          refine xo_getP (pc' := 49) dd_M_settle_46 ff_M_95 (by decide) rfl fun o9 => ?_
          refine xo_iload_n (pc' := 50) dd_M_settle_49 rfl 1 rfl rfl ?_
          refine xo_iald (pc' := 51) dd_M_settle_50 rfl fun v10 => ?_
          refine xo_iload_n (pc' := 52) dd_M_settle_51 rfl 1 rfl rfl ?_
          refine xo_iload_n (pc' := 53) dd_M_settle_52 rfl 2 rfl rfl ?_
          refine xo_callVv (as := [.inl v10, .inl x1, .inl x2]) (o := (some t)) (st := []) (pc' := 56) dd_M_settle_53 cv_M_job ml_M_178 rfl rfl ⟨by decide, by decide⟩ rfl rfl rfl (Nat.le_of_ble_eq_true rfl) rfl (fun n q h => kc_M_job n v10 x1 x2 H8 q h) fun H11 => ?_
          refine xo_aload_n (pc' := 57) dd_M_settle_56 rfl 0 rfl rfl ?_
          refine xo_callVv (as := []) (o := (some t)) (st := []) (pc' := 60) dd_M_settle_57 cv_M_wake ml_M_278 rfl rfl ⟨by decide, by decide⟩ rfl rfl rfl (Nat.le_of_ble_eq_true rfl) rfl (fun n q h => kc_M_wake n H11 q h) fun H12 => ?_
          refine xo_iconst (pc' := 61) (v := (1 : Int32)) dd_M_settle_60 (by decide) rfl ?_
          exact xo_zret dd_M_settle_61 rfl
        · refine xo_iconst (pc' := 36) (v := (0 : Int32)) dd_M_settle_35 (by decide) rfl ?_
          exact xo_zret dd_M_settle_36 rfl
set_option maxRecDepth 100000 in
set_option maxHeartbeats 4000000 in
theorem kc_M_settle (t : xo_N) (x1 : Int32) (x2 : Int32) (H : xo_H) (r : Int32 × xo_H) (hk : fc_M_settle t x1 x2 H = some r) : xo_M mt_M_settle [.inr (some t), .inl x1, .inl x2] H (xo_ji r) :=
  xo_entry hk (by decide +kernel) (Nat.le_of_ble_eq_true rfl) (kb_M_settle t x1 x2 H r)
