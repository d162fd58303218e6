def fb_K_doFirstJob_103 (t : xo_N) (x1 : Int32) (x4 : Int32) (H : xo_H) : Option (Int32 × xo_H) :=
  if x4 = 0 then (some (x1, H))
  else (xo_cl 0 (some t) (fun n2 => fc_K_awaitPumps n2 H) fun H1 =>
  some (x1, H1))

def fc_K_doFirstJob (t : xo_N) (H : xo_H) : Option (Int32 × xo_H) :=
  xo_gp 0 1 H (some t) fun o1 =>
  xo_gp 2 0 H o1 fun o2 =>
  xo_cl 3 o2 (fun n28 => fc_R_takeFirst n28 H) fun r3 =>
  xo_gp 0 1 r3.2 (some t) fun o4 =>
  xo_gp 2 1 r3.2 o4 fun o5 =>
  xo_cl 3 o5 (fun n27 => fc_R_takeFirst n27 r3.2) fun r6 =>
  xo_gp 0 1 r6.2 (some t) fun o7 =>
  xo_gp 2 2 r6.2 o7 fun o8 =>
  xo_cl 3 o8 (fun n26 => fc_R_takeFirst n26 r6.2) fun r9 =>
  if r3.1 = (1 : Int32) then (xo_cl 0 (some t) (fun n25 => fc_K_giverAt n25 r6.1 r9.2) fun r22 =>
  xo_cl 0 (some t) (fun n24 => fc_K_doPulled n24 r22.1 r9.1 r22.2) fun H23 =>
  fb_K_doFirstJob_103 t r3.1 (1 : Int32) H23)
  else (if r3.1 = (2 : Int32) then (xo_cl 0 (some t) (fun n21 => fc_K_giverAt n21 r6.1 r9.2) fun r18 =>
  xo_cl 0 (some t) (fun n20 => fc_K_doParted n20 r18.1 r9.1 r18.2) fun H19 =>
  fb_K_doFirstJob_103 t r3.1 (1 : Int32) H19)
  else (if r3.1 = (6 : Int32) then (xo_cl 0 (some t) (fun n17 => fc_K_pipeAt n17 r6.1 r9.2) fun r14 =>
  xo_cl 0 (some t) (fun n16 => fc_K_doPump n16 r14.1 r14.2) fun r15 =>
  fb_K_doFirstJob_103 t r3.1 r15.1 r15.2)
  else (xo_cl 0 (some t) (fun n13 => fc_K_takerAt n13 r6.1 r9.2) fun r10 =>
  xo_cl 0 (some t) (fun n12 => fc_K_doSettled n12 r10.1 r3.1 r9.1 r10.2) fun H11 =>
  fb_K_doFirstJob_103 t r3.1 (1 : Int32) H11)))

set_option maxRecDepth 100000 in
set_option maxHeartbeats 4000000 in
theorem kb_K_doFirstJob_103 (t : xo_N) (x1 : Int32) (x4 : Int32) (H : xo_H) (r : Int32 × xo_H) : xo_X mt_K_doFirstJob 0 0 xo_ji r 103 [(0, .inr (some t)), (1, .inl x1), (4, .inl x4)] [] H (fb_K_doFirstJob_103 t x1 x4 H) := by
  unfold fb_K_doFirstJob_103
  refine xo_iload (pc' := 105) dd_K_doFirstJob_103 2 rfl rfl ?_
  refine xo_if_eq (pc' := 108) (tgt := 112) dd_K_doFirstJob_105 rfl rfl ?_ ?_
  · refine xo_iload_n (pc' := 113) dd_K_doFirstJob_112 rfl 1 rfl rfl ?_
    exact xo_iret dd_K_doFirstJob_113 rfl
  · refine xo_aload_n (pc' := 109) dd_K_doFirstJob_108 rfl 0 rfl rfl ?_
    refine xo_callVv (as := []) (o := (some t)) (st := []) (pc' := 112) dd_K_doFirstJob_109 cv_K_awaitPumps ml_K_57 rfl rfl ⟨by decide, by decide⟩ rfl rfl rfl (Nat.le_of_ble_eq_true rfl) rfl (fun n q h => kc_K_awaitPumps n H q h) fun H1 => ?_
    refine xo_iload_n (pc' := 113) dd_K_doFirstJob_112 rfl 1 rfl rfl ?_
    exact xo_iret dd_K_doFirstJob_113 rfl
set_option maxRecDepth 100000 in
set_option maxHeartbeats 4000000 in
theorem kb_K_doFirstJob (t : xo_N) (H : xo_H) (r : Int32 × xo_H) : xo_X mt_K_doFirstJob 0 0 xo_ji r 0 [(0, .inr (some t))] [] H (fc_K_doFirstJob t H) := by
  unfold fc_K_doFirstJob
  refine xo_aload_n (pc' := 1) dd_K_doFirstJob_0 rfl 0 rfl rfl ?_
  refine xo_getP (pc' := 4) dd_K_doFirstJob_1 ff_K_19 (by decide) rfl fun o1 => ?_
  refine xo_getP (pc' := 7) dd_K_doFirstJob_4 ff_K_307 (by decide) rfl fun o2 => ?_
  refine xo_callVi (as := []) (o := o2) (st := []) (pc' := 10) dd_K_doFirstJob_7 cv_R_takeFirst ml_K_245 rfl rfl ⟨by decide, by decide⟩ rfl rfl rfl (Nat.le_of_ble_eq_true rfl) rfl (fun n q h => kc_R_takeFirst n H q h) fun r3 => ?_
  refine xo_istore_n (pc' := 11) dd_K_doFirstJob_10 rfl (by decide) rfl rfl ?_
  refine xo_aload_n (pc' := 12) dd_K_doFirstJob_11 rfl 1 rfl rfl ?_
  refine xo_getP (pc' := 15) dd_K_doFirstJob_12 ff_K_19 (by decide) rfl fun o4 => ?_
  refine xo_getP (pc' := 18) dd_K_doFirstJob_15 ff_K_310 (by decide) rfl fun o5 => ?_
  refine xo_callVi (as := []) (o := o5) (st := []) (pc' := 21) dd_K_doFirstJob_18 cv_R_takeFirst ml_K_245 rfl rfl ⟨by decide, by decide⟩ rfl rfl rfl (Nat.le_of_ble_eq_true rfl) rfl (fun n q h => kc_R_takeFirst n r3.2 q h) fun r6 => ?_
  refine xo_istore_n (pc' := 22) dd_K_doFirstJob_21 rfl (by decide) rfl rfl ?_
  refine xo_aload_n (pc' := 23) dd_K_doFirstJob_22 rfl 2 rfl rfl ?_
  refine xo_getP (pc' := 26) dd_K_doFirstJob_23 ff_K_19 (by decide) rfl fun o7 => ?_
  refine xo_getP (pc' := 29) dd_K_doFirstJob_26 ff_K_313 (by decide) rfl fun o8 => ?_
  refine xo_callVi (as := []) (o := o8) (st := []) (pc' := 32) dd_K_doFirstJob_29 cv_R_takeFirst ml_K_245 rfl rfl ⟨by decide, by decide⟩ rfl rfl rfl (Nat.le_of_ble_eq_true rfl) rfl (fun n q h => kc_R_takeFirst n r6.2 q h) fun r9 => ?_
  refine xo_istore_n (pc' := 33) dd_K_doFirstJob_32 rfl (by decide) rfl rfl ?_
  refine xo_iconst (pc' := 34) (v := (1 : Int32)) dd_K_doFirstJob_33 (by decide) rfl ?_
  refine xo_istore (pc' := 36) dd_K_doFirstJob_34 (by decide) rfl rfl ?_
  refine xo_iload_n (pc' := 37) dd_K_doFirstJob_36 rfl 3 rfl rfl ?_
  refine xo_iconst (pc' := 38) (v := (1 : Int32)) dd_K_doFirstJob_37 (by decide) rfl ?_
  refine xo_icmp_ne (pc' := 41) (tgt := 54) dd_K_doFirstJob_38 rfl rfl ?_ ?_
  · refine xo_iload_n (pc' := 55) dd_K_doFirstJob_54 rfl 3 rfl rfl ?_
    refine xo_iconst (pc' := 56) (v := (2 : Int32)) dd_K_doFirstJob_55 (by decide) rfl ?_
    refine xo_icmp_ne (pc' := 59) (tgt := 72) dd_K_doFirstJob_56 rfl rfl ?_ ?_
    · refine xo_iload_n (pc' := 73) dd_K_doFirstJob_72 rfl 3 rfl rfl ?_
      refine xo_bipush (pc' := 75) (v := (6 : Int32)) dd_K_doFirstJob_73 (by decide) rfl ?_
      refine xo_icmp_ne (pc' := 78) (tgt := 92) dd_K_doFirstJob_75 rfl rfl ?_ ?_
      · refine xo_aload_n (pc' := 93) dd_K_doFirstJob_92 rfl 4 rfl rfl ?_
        refine xo_aload_n (pc' := 94) dd_K_doFirstJob_93 rfl 4 rfl rfl ?_
        refine xo_iload_n (pc' := 95) dd_K_doFirstJob_94 rfl 2 rfl rfl ?_
        refine xo_callVp (as := [.inl r6.1]) (o := (some t)) (st := [.inr (some t)]) (pc' := 98) dd_K_doFirstJob_95 cv_K_takerAt ml_K_148 rfl rfl ⟨by decide, by decide⟩ rfl rfl rfl (Nat.le_of_ble_eq_true rfl) rfl (fun n q h => kc_K_takerAt n r6.1 r9.2 q h) fun r10 => ?_
        refine xo_iload_n (pc' := 99) dd_K_doFirstJob_98 rfl 3 rfl rfl ?_
        refine xo_iload_n (pc' := 100) dd_K_doFirstJob_99 rfl 1 rfl rfl ?_
        refine xo_callVv (as := [.inr r10.1, .inl r3.1, .inl r9.1]) (o := (some t)) (st := []) (pc' := 103) dd_K_doFirstJob_100 cv_K_doSettled ml_K_326 rfl rfl ⟨by decide, by decide⟩ rfl rfl rfl (Nat.le_of_ble_eq_true rfl) rfl (fun n q h => kc_K_doSettled n r10.1 r3.1 r9.1 r10.2 q h) fun H11 => ?_
        refine xo_sub [4, 3, 0] rfl ?_
        exact kb_K_doFirstJob_103 t r3.1 (1 : Int32) H11 r
      · refine xo_aload_n (pc' := 79) dd_K_doFirstJob_78 rfl 4 rfl rfl ?_
        refine xo_aload_n (pc' := 80) dd_K_doFirstJob_79 rfl 4 rfl rfl ?_
        refine xo_iload_n (pc' := 81) dd_K_doFirstJob_80 rfl 2 rfl rfl ?_
        refine xo_callVp (as := [.inl r6.1]) (o := (some t)) (st := [.inr (some t)]) (pc' := 84) dd_K_doFirstJob_81 cv_K_pipeAt ml_K_300 rfl rfl ⟨by decide, by decide⟩ rfl rfl rfl (Nat.le_of_ble_eq_true rfl) rfl (fun n q h => kc_K_pipeAt n r6.1 r9.2 q h) fun r14 => ?_
        refine xo_callVi (as := [.inr r14.1]) (o := (some t)) (st := []) (pc' := 87) dd_K_doFirstJob_84 cv_K_doPump ml_K_322 rfl rfl ⟨by decide, by decide⟩ rfl rfl rfl (Nat.le_of_ble_eq_true rfl) rfl (fun n q h => kc_K_doPump n r14.1 r14.2 q h) fun r15 => ?_
        refine xo_istore (pc' := 89) dd_K_doFirstJob_87 (by decide) rfl rfl ?_
        refine xo_goto (pc' := 103) dd_K_doFirstJob_89 rfl ?_
        refine xo_sub [4, 3, 0] rfl ?_
        exact kb_K_doFirstJob_103 t r3.1 r15.1 r15.2 r
    · refine xo_aload_n (pc' := 60) dd_K_doFirstJob_59 rfl 4 rfl rfl ?_
      refine xo_aload_n (pc' := 61) dd_K_doFirstJob_60 rfl 4 rfl rfl ?_
      refine xo_iload_n (pc' := 62) dd_K_doFirstJob_61 rfl 2 rfl rfl ?_
      refine xo_callVp (as := [.inl r6.1]) (o := (some t)) (st := [.inr (some t)]) (pc' := 65) dd_K_doFirstJob_62 cv_K_giverAt ml_K_133 rfl rfl ⟨by decide, by decide⟩ rfl rfl rfl (Nat.le_of_ble_eq_true rfl) rfl (fun n q h => kc_K_giverAt n r6.1 r9.2 q h) fun r18 => ?_
      refine xo_iload_n (pc' := 66) dd_K_doFirstJob_65 rfl 1 rfl rfl ?_
      refine xo_callVv (as := [.inr r18.1, .inl r9.1]) (o := (some t)) (st := []) (pc' := 69) dd_K_doFirstJob_66 cv_K_doParted ml_K_319 rfl rfl ⟨by decide, by decide⟩ rfl rfl rfl (Nat.le_of_ble_eq_true rfl) rfl (fun n q h => kc_K_doParted n r18.1 r9.1 r18.2 q h) fun H19 => ?_
      refine xo_goto (pc' := 103) dd_K_doFirstJob_69 rfl ?_
      refine xo_sub [4, 3, 0] rfl ?_
      exact kb_K_doFirstJob_103 t r3.1 (1 : Int32) H19 r
  · refine xo_aload_n (pc' := 42) dd_K_doFirstJob_41 rfl 4 rfl rfl ?_
    refine xo_aload_n (pc' := 43) dd_K_doFirstJob_42 rfl 4 rfl rfl ?_
    refine xo_iload_n (pc' := 44) dd_K_doFirstJob_43 rfl 2 rfl rfl ?_
    refine xo_callVp (as := [.inl r6.1]) (o := (some t)) (st := [.inr (some t)]) (pc' := 47) dd_K_doFirstJob_44 cv_K_giverAt ml_K_133 rfl rfl ⟨by decide, by decide⟩ rfl rfl rfl (Nat.le_of_ble_eq_true rfl) rfl (fun n q h => kc_K_giverAt n r6.1 r9.2 q h) fun r22 => ?_
    refine xo_iload_n (pc' := 48) dd_K_doFirstJob_47 rfl 1 rfl rfl ?_
    refine xo_callVv (as := [.inr r22.1, .inl r9.1]) (o := (some t)) (st := []) (pc' := 51) dd_K_doFirstJob_48 cv_K_doPulled ml_K_316 rfl rfl ⟨by decide, by decide⟩ rfl rfl rfl (Nat.le_of_ble_eq_true rfl) rfl (fun n q h => kc_K_doPulled n r22.1 r9.1 r22.2 q h) fun H23 => ?_
    refine xo_goto (pc' := 103) dd_K_doFirstJob_51 rfl ?_
    refine xo_sub [4, 3, 0] rfl ?_
    exact kb_K_doFirstJob_103 t r3.1 (1 : Int32) H23 r
set_option maxRecDepth 100000 in
set_option maxHeartbeats 4000000 in
theorem kc_K_doFirstJob (t : xo_N) (H : xo_H) (r : Int32 × xo_H) (hk : fc_K_doFirstJob t H = some r) : xo_M mt_K_doFirstJob [.inr (some t)] H (xo_ji r) :=
  xo_entry hk (by decide +kernel) (Nat.le_of_ble_eq_true rfl) (kb_K_doFirstJob t H r)
def fc_K_step (t : xo_N) (H : xo_H) : Option (Int32 × xo_H) :=
  xo_gp 0 1 H (some t) fun o1 =>
  xo_cl 2 o1 (fun n5 => fc_J_count n5 H) fun r2 =>
  if r2.1 = 0 then (some ((0 : Int32), r2.2))
  else (xo_cl 0 (some t) (fun n4 => fc_K_doFirstJob n4 r2.2) fun r3 =>
  some (r3.1, r3.2))

set_option maxRecDepth 100000 in
set_option maxHeartbeats 4000000 in
theorem kb_K_step (t : xo_N) (H : xo_H) (r : Int32 × xo_H) : xo_X mt_K_step 0 0 xo_ji r 0 [(0, .inr (some t))] [] H (fc_K_step t H) := by
  unfold fc_K_step
  refine xo_aload_n (pc' := 1) dd_K_step_0 rfl 0 rfl rfl ?_
  refine xo_getP (pc' := 4) dd_K_step_1 ff_K_19 (by decide) rfl fun o1 => ?_
  refine xo_callVi (as := []) (o := o1) (st := []) (pc' := 7) dd_K_step_4 cv_J_count ml_K_214 rfl rfl ⟨by decide, by decide⟩ rfl rfl rfl (Nat.le_of_ble_eq_true rfl) rfl (fun n q h => kc_J_count n H q h) fun r2 => ?_
  refine xo_if_ne (pc' := 10) (tgt := 14) dd_K_step_7 rfl rfl ?_ ?_
  · refine xo_aload_n (pc' := 15) dd_K_step_14 rfl 0 rfl rfl ?_
    refine xo_callVi (as := []) (o := (some t)) (st := []) (pc' := 18) dd_K_step_15 cv_K_doFirstJob ml_K_215 rfl rfl ⟨by decide, by decide⟩ rfl rfl rfl (Nat.le_of_ble_eq_true rfl) rfl (fun n q h => kc_K_doFirstJob n r2.2 q h) fun r3 => ?_
    exact xo_iret dd_K_step_18 rfl
  · refine xo_iconst (pc' := 11) (v := (0 : Int32)) dd_K_step_10 (by decide) rfl ?_
    refine xo_goto (pc' := 18) dd_K_step_11 rfl ?_
    exact xo_iret dd_K_step_18 rfl
set_option maxRecDepth 100000 in
set_option maxHeartbeats 4000000 in
theorem kc_K_step (t : xo_N) (H : xo_H) (r : Int32 × xo_H) (hk : fc_K_step t H = some r) : xo_M mt_K_step [.inr (some t)] H (xo_ji r) :=
  xo_entry hk (by decide +kernel) (Nat.le_of_ble_eq_true rfl) (kb_K_step t H r)
def fb_K_run_2 : Nat → xo_N → Int32 → xo_H → Option (Int32 × xo_H)
  | 0, _, _, _ => none
  | fu + 1, t, x1, H =>
  if x1 < (200 : Int32) then (xo_gp 0 1 H (some t) fun o1 =>
  xo_cl 2 o1 (fun n5 => fc_J_count n5 H) fun r2 =>
  if 0 < r2.1 then (xo_cl 0 (some t) (fun n4 => fc_K_doFirstJob n4 r2.2) fun r3 =>
  fb_K_run_2 fu t (x1 + (1 : Int32)) r3.2)
  else (some (x1, r2.2)))
  else (some (x1, H))

def fc_K_run (t : xo_N) (H : xo_H) : Option (Int32 × xo_H) :=
  fb_K_run_2 1000 t (0 : Int32) H

set_option maxRecDepth 100000 in
set_option maxHeartbeats 4000000 in
theorem kb_K_run_2 : ∀ (fu : Nat) (t : xo_N) (x1 : Int32) (H : xo_H) (r : Int32 × xo_H), xo_X mt_K_run 0 0 xo_ji r 2 [(0, .inr (some t)), (1, .inl x1)] [] H (fb_K_run_2 fu t x1 H) := by
  intro fu
  induction fu with
  | zero => intros; exact xo_no
  | succ fu ih =>
    intro t x1 H r
    rw [fb_K_run_2]
    refine xo_iload_n (pc' := 3) dd_K_run_2 rfl 1 rfl rfl ?_
    refine xo_sipush (pc' := 6) (v := (200 : Int32)) dd_K_run_3 (by decide) rfl ?_
    refine xo_icmp_ge (pc' := 9) (tgt := 30) dd_K_run_6 rfl rfl ?_ ?_
    · refine xo_iload_n (pc' := 31) dd_K_run_30 rfl 1 rfl rfl ?_
      exact xo_iret dd_K_run_31 rfl
    · refine xo_aload_n (pc' := 10) dd_K_run_9 rfl 0 rfl rfl ?_
      refine xo_getP (pc' := 13) dd_K_run_10 ff_K_19 (by decide) rfl fun o1 => ?_
      refine xo_callVi (as := []) (o := o1) (st := []) (pc' := 16) dd_K_run_13 cv_J_count ml_K_214 rfl rfl ⟨by decide, by decide⟩ rfl rfl rfl (Nat.le_of_ble_eq_true rfl) rfl (fun n q h => kc_J_count n H q h) fun r2 => ?_
      refine xo_if_le (pc' := 19) (tgt := 30) dd_K_run_16 rfl rfl ?_ ?_
      · refine xo_iload_n (pc' := 31) dd_K_run_30 rfl 1 rfl rfl ?_
        exact xo_iret dd_K_run_31 rfl
      · refine xo_aload_n (pc' := 20) dd_K_run_19 rfl 0 rfl rfl ?_
        refine xo_callVi (as := []) (o := (some t)) (st := []) (pc' := 23) dd_K_run_20 cv_K_doFirstJob ml_K_215 rfl rfl ⟨by decide, by decide⟩ rfl rfl rfl (Nat.le_of_ble_eq_true rfl) rfl (fun n q h => kc_K_doFirstJob n r2.2 q h) fun r3 => ?_
        refine xo_pop (pc' := 24) dd_K_run_23 rfl ?_
        refine xo_iinc (pc' := 27) dd_K_run_24 1 rfl (xo_ii (m := (1 : Int32)) (by decide)) (by decide) rfl rfl ?_
        refine xo_goto (pc' := 2) dd_K_run_27 rfl ?_
        refine xo_sub [1, 0] rfl ?_
        exact ih t (x1 + (1 : Int32)) r3.2 r
set_option maxRecDepth 100000 in
set_option maxHeartbeats 4000000 in
theorem kb_K_run (t : xo_N) (H : xo_H) (r : Int32 × xo_H) : xo_X mt_K_run 0 0 xo_ji r 0 [(0, .inr (some t))] [] H (fc_K_run t H) := by
  unfold fc_K_run
  refine xo_iconst (pc' := 1) (v := (0 : Int32)) dd_K_run_0 (by decide) rfl ?_
  refine xo_istore_n (pc' := 2) dd_K_run_1 rfl (by decide) rfl rfl ?_
  refine xo_sub [1, 0] rfl ?_
  exact kb_K_run_2 1000 t (0 : Int32) H r
set_option maxRecDepth 100000 in
set_option maxHeartbeats 4000000 in
theorem kc_K_run (t : xo_N) (H : xo_H) (r : Int32 × xo_H) (hk : fc_K_run t H = some r) : xo_M mt_K_run [.inr (some t)] H (xo_ji r) :=
  xo_entry hk (by decide +kernel) (Nat.le_of_ble_eq_true rfl) (kb_K_run t H r)
def fc_K_jobs (t : xo_N) (H : xo_H) : Option (Int32 × xo_H) :=
  xo_gp 0 1 H (some t) fun o1 =>
  xo_cl 2 o1 (fun n3 => fc_J_count n3 H) fun r2 =>
  some (r2.1, r2.2)

set_option maxRecDepth 100000 in
set_option maxHeartbeats 4000000 in
theorem kb_K_jobs (t : xo_N) (H : xo_H) (r : Int32 × xo_H) : xo_X mt_K_jobs 0 0 xo_ji r 0 [(0, .inr (some t))] [] H (fc_K_jobs t H) := by
  unfold fc_K_jobs
  refine xo_aload_n (pc' := 1) dd_K_jobs_0 rfl 0 rfl rfl ?_
  refine xo_getP (pc' := 4) dd_K_jobs_1 ff_K_19 (by decide) rfl fun o1 => ?_
  refine xo_callVi (as := []) (o := o1) (st := []) (pc' := 7) dd_K_jobs_4 cv_J_count ml_K_214 rfl rfl ⟨by decide, by decide⟩ rfl rfl rfl (Nat.le_of_ble_eq_true rfl) rfl (fun n q h => kc_J_count n H q h) fun r2 => ?_
  exact xo_iret dd_K_jobs_7 rfl
set_option maxRecDepth 100000 in
set_option maxHeartbeats 4000000 in
theorem kc_K_jobs (t : xo_N) (H : xo_H) (r : Int32 × xo_H) (hk : fc_K_jobs t H = some r) : xo_M mt_K_jobs [.inr (some t)] H (xo_ji r) :=
  xo_entry hk (by decide +kernel) (Nat.le_of_ble_eq_true rfl) (kb_K_jobs t H r)
def fb_K_giverState_54 (x2 : Option xo_N) (s0 : Int32) (s1 : Int32) (H : xo_H) : Option (Int32 × xo_H) :=
  xo_gf 5 9 H x2 fun v1 =>
  if v1 = 0 then (some (((s0 + s1) + (0 : Int32)), H))
  else (some (((s0 + s1) + (16 : Int32)), H))

def fb_K_giverState_38 (x2 : Option xo_N) (s0 : Int32) (s1 : Int32) (H : xo_H) : Option (Int32 × xo_H) :=
  xo_gf 5 8 H x2 fun v1 =>
  if v1 = 0 then (fb_K_giverState_54 x2 (s0 + s1) (0 : Int32) H)
  else (fb_K_giverState_54 x2 (s0 + s1) (8 : Int32) H)

def fc_K_giverState (t : xo_N) (x1 : Int32) (H : xo_H) : Option (Int32 × xo_H) :=
  xo_cl 0 (some t) (fun n6 => fc_K_giverAt n6 x1 H) fun r1 =>
  if r1.1 = none then (some ((-1 : Int32), r1.2))
  else (xo_gf 5 4 r1.2 r1.1 fun v2 =>
  xo_cl 5 r1.1 (fun n5 => fc_G_heldBy n5 r1.2) fun r3 =>
  xo_gf 5 7 r3.2 r1.1 fun v4 =>
  if v4 = 0 then (fb_K_giverState_38 r1.1 (v2 + ((32 : Int32) * r3.1)) (0 : Int32) r3.2)
  else (fb_K_giverState_38 r1.1 (v2 + ((32 : Int32) * r3.1)) (4 : Int32) r3.2))

set_option maxRecDepth 100000 in
set_option maxHeartbeats 4000000 in
theorem kb_K_giverState_54 (x2 : Option xo_N) (s0 : Int32) (s1 : Int32) (H : xo_H) (r : Int32 × xo_H) : xo_X mt_K_giverState 0 0 xo_ji r 54 [(2, .inr x2)] [.inl s1, .inl s0] H (fb_K_giverState_54 x2 s0 s1 H) := by
  unfold fb_K_giverState_54
  refine xo_iadd (pc' := 55) dd_K_giverState_54 rfl ?_
  refine xo_istore_n (pc' := 56) dd_K_giverState_55 rfl (by decide) rfl rfl ?_
  refine xo_iload_n (pc' := 57) dd_K_giverState_56 rfl 0 rfl rfl ?_
  refine xo_aload_n (pc' := 58) dd_K_giverState_57 rfl 1 rfl rfl ?_
  refine xo_getI (pc' := 61) dd_K_giverState_58 ff_K_218 (by decide) rfl fun v1 => ?_
  refine xo_if_eq (pc' := 64) (tgt := 69) dd_K_giverState_61 rfl rfl ?_ ?_
  · refine xo_iconst (pc' := 70) (v := (0 : Int32)) dd_K_giverState_69 (by decide) rfl ?_
    refine xo_iadd (pc' := 71) dd_K_giverState_70 rfl ?_
    refine xo_istore_n (pc' := 72) dd_K_giverState_71 rfl (by decide) rfl rfl ?_
    refine xo_iload_n (pc' := 73) dd_K_giverState_72 rfl 0 rfl rfl ?_
    exact xo_iret dd_K_giverState_73 rfl
  · refine xo_bipush (pc' := 66) (v := (16 : Int32)) dd_K_giverState_64 (by decide) rfl ?_
    refine xo_goto (pc' := 70) dd_K_giverState_66 rfl ?_
    refine xo_iadd (pc' := 71) dd_K_giverState_70 rfl ?_
    refine xo_istore_n (pc' := 72) dd_K_giverState_71 rfl (by decide) rfl rfl ?_
    refine xo_iload_n (pc' := 73) dd_K_giverState_72 rfl 0 rfl rfl ?_
    exact xo_iret dd_K_giverState_73 rfl
set_option maxRecDepth 100000 in
set_option maxHeartbeats 4000000 in
theorem kb_K_giverState_38 (x2 : Option xo_N) (s0 : Int32) (s1 : Int32) (H : xo_H) (r : Int32 × xo_H) : xo_X mt_K_giverState 0 0 xo_ji r 38 [(2, .inr x2)] [.inl s1, .inl s0] H (fb_K_giverState_38 x2 s0 s1 H) := by
  unfold fb_K_giverState_38
  refine xo_iadd (pc' := 39) dd_K_giverState_38 rfl ?_
  refine xo_istore_n (pc' := 40) dd_K_giverState_39 rfl (by decide) rfl rfl ?_
  refine xo_iload_n (pc' := 41) dd_K_giverState_40 rfl 0 rfl rfl ?_
  refine xo_aload_n (pc' := 42) dd_K_giverState_41 rfl 1 rfl rfl ?_
  refine xo_getI (pc' := 45) dd_K_giverState_42 ff_K_119 (by decide) rfl fun v1 => ?_
  refine xo_if_eq (pc' := 48) (tgt := 53) dd_K_giverState_45 rfl rfl ?_ ?_
  · refine xo_iconst (pc' := 54) (v := (0 : Int32)) dd_K_giverState_53 (by decide) rfl ?_
    refine xo_sub [1] rfl ?_
    exact kb_K_giverState_54 x2 (s0 + s1) (0 : Int32) H r
  · refine xo_bipush (pc' := 50) (v := (8 : Int32)) dd_K_giverState_48 (by decide) rfl ?_
    refine xo_goto (pc' := 54) dd_K_giverState_50 rfl ?_
    refine xo_sub [1] rfl ?_
    exact kb_K_giverState_54 x2 (s0 + s1) (8 : Int32) H r
set_option maxRecDepth 100000 in
set_option maxHeartbeats 4000000 in
theorem kb_K_giverState (t : xo_N) (x1 : Int32) (H : xo_H) (r : Int32 × xo_H) : xo_X mt_K_giverState 0 0 xo_ji r 0 [(0, .inr (some t)), (1, .inl x1)] [] H (fc_K_giverState t x1 H) := by
  unfold fc_K_giverState
  refine xo_aload_n (pc' := 1) dd_K_giverState_0 rfl 0 rfl rfl ?_
  refine xo_iload_n (pc' := 2) dd_K_giverState_1 rfl 1 rfl rfl ?_
  refine xo_callVp (as := [.inl x1]) (o := (some t)) (st := []) (pc' := 5) dd_K_giverState_2 cv_K_giverAt ml_K_133 rfl rfl ⟨by decide, by decide⟩ rfl rfl rfl (Nat.le_of_ble_eq_true rfl) rfl (fun n q h => kc_K_giverAt n x1 H q h) fun r1 => ?_
  refine xo_astore_n (pc' := 6) dd_K_giverState_5 rfl (by decide) rfl rfl ?_
  refine xo_aload_n (pc' := 7) dd_K_giverState_6 rfl 0 rfl rfl ?_
  refine xo_ifnonnull (pc' := 10) (tgt := 12) dd_K_giverState_7 rfl rfl ?_ ?_
  · refine xo_aload_n (pc' := 13) dd_K_giverState_12 rfl 0 rfl rfl ?_
    refine xo_getI (pc' := 16) dd_K_giverState_13 ff_K_110 (by decide) rfl fun v2 => ?_
    refine xo_bipush (pc' := 18) (v := (32 : Int32)) dd_K_giverState_16 (by decide) rfl ?_
    refine xo_aload_n (pc' := 19) dd_K_giverState_18 rfl 0 rfl rfl ?_
    refine xo_callVi (as := []) (o := r1.1) (st := [.inl (32 : Int32), .inl v2]) (pc' := 22) dd_K_giverState_19 cv_G_heldBy ml_K_136 rfl rfl ⟨by decide, by decide⟩ rfl rfl rfl (Nat.le_of_ble_eq_true rfl) rfl (fun n q h => kc_G_heldBy n r1.2 q h) fun r3 => ?_
    refine xo_imul (pc' := 23) dd_K_giverState_22 rfl ?_
    refine xo_iadd (pc' := 24) dd_K_giverState_23 rfl ?_
    refine xo_istore_n (pc' := 25) dd_K_giverState_24 rfl (by decide) rfl rfl ?_
    refine xo_iload_n (pc' := 26) dd_K_giverState_25 rfl 0 rfl rfl ?_
    refine xo_aload_n (pc' := 27) dd_K_giverState_26 rfl 1 rfl rfl ?_
    refine xo_getI (pc' := 30) dd_K_giverState_27 ff_K_103 (by decide) rfl fun v4 => ?_
    refine xo_if_eq (pc' := 33) (tgt := 37) dd_K_giverState_30 rfl rfl ?_ ?_
    · refine xo_iconst (pc' := 38) (v := (0 : Int32)) dd_K_giverState_37 (by decide) rfl ?_
      refine xo_sub [1] rfl ?_
      exact kb_K_giverState_38 r1.1 (v2 + ((32 : Int32) * r3.1)) (0 : Int32) r3.2 r
    · refine xo_iconst (pc' := 34) (v := (4 : Int32)) dd_K_giverState_33 (by decide) rfl ?_
      refine xo_goto (pc' := 38) dd_K_giverState_34 rfl ?_
      refine xo_sub [1] rfl ?_
      exact kb_K_giverState_38 r1.1 (v2 + ((32 : Int32) * r3.1)) (4 : Int32) r3.2 r
  · refine xo_iconst (pc' := 11) (v := (-1 : Int32)) dd_K_giverState_10 (by decide) rfl ?_
    exact xo_iret dd_K_giverState_11 rfl
set_option maxRecDepth 100000 in
set_option maxHeartbeats 4000000 in
theorem kc_K_giverState (t : xo_N) (x1 : Int32) (H : xo_H) (r : Int32 × xo_H) (hk : fc_K_giverState t x1 H = some r) : xo_M mt_K_giverState [.inr (some t), .inl x1] H (xo_ji r) :=
  xo_entry hk (by decide +kernel) (Nat.le_of_ble_eq_true rfl) (kb_K_giverState t x1 H r)
def fc_K_giverRoom (t : xo_N) (x1 : Int32) (H : xo_H) : Option (Int32 × xo_H) :=
  xo_cl 0 (some t) (fun n5 => fc_K_giverAt n5 x1 H) fun r1 =>
  if r1.1 = none then (some ((-1000 : Int32), r1.2))
  else (xo_gf 5 4 r1.2 r1.1 fun v2 =>
  if v2 = 0 then (xo_gp 5 1 r1.2 r1.1 fun o3 =>
  xo_gf 4 3 r1.2 o3 fun v4 =>
  some (v4, r1.2))
  else (some ((0 : Int32), r1.2)))

set_option maxRecDepth 100000 in
set_option maxHeartbeats 4000000 in
theorem kb_K_giverRoom (t : xo_N) (x1 : Int32) (H : xo_H) (r : Int32 × xo_H) : xo_X mt_K_giverRoom 0 0 xo_ji r 0 [(0, .inr (some t)), (1, .inl x1)] [] H (fc_K_giverRoom t x1 H) := by
  unfold fc_K_giverRoom
  refine xo_aload_n (pc' := 1) dd_K_giverRoom_0 rfl 0 rfl rfl ?_
  refine xo_iload_n (pc' := 2) dd_K_giverRoom_1 rfl 1 rfl rfl ?_
  refine xo_callVp (as := [.inl x1]) (o := (some t)) (st := []) (pc' := 5) dd_K_giverRoom_2 cv_K_giverAt ml_K_133 rfl rfl ⟨by decide, by decide⟩ rfl rfl rfl (Nat.le_of_ble_eq_true rfl) rfl (fun n q h => kc_K_giverAt n x1 H q h) fun r1 => ?_
  refine xo_astore_n (pc' := 6) dd_K_giverRoom_5 rfl (by decide) rfl rfl ?_
  refine xo_aload_n (pc' := 7) dd_K_giverRoom_6 rfl 0 rfl rfl ?_
  refine xo_ifnonnull (pc' := 10) (tgt := 14) dd_K_giverRoom_7 rfl rfl ?_ ?_
  · refine xo_aload_n (pc' := 15) dd_K_giverRoom_14 rfl 0 rfl rfl ?_
    refine xo_getI (pc' := 18) dd_K_giverRoom_15 ff_K_110 (by decide) rfl fun v2 => ?_
    refine xo_if_ne (pc' := 21) (tgt := 31) dd_K_giverRoom_18 rfl rfl ?_ ?_
    · refine xo_iconst (pc' := 32) (v := (0 : Int32)) dd_K_giverRoom_31 (by decide) rfl ?_
      exact xo_iret dd_K_giverRoom_32 rfl
    · refine xo_aload_n (pc' := 22) dd_K_giverRoom_21 rfl 0 rfl rfl ?_
      refine xo_getP (pc' := 25) dd_K_giverRoom_22 ff_K_83 (by decide) rfl fun o3 => ?_
      refine xo_getI (pc' := 28) dd_K_giverRoom_25 ff_K_221 (by decide) rfl fun v4 => ?_
      refine xo_goto (pc' := 32) dd_K_giverRoom_28 rfl ?_
      exact xo_iret dd_K_giverRoom_32 rfl
  · refine xo_sipush (pc' := 13) (v := (-1000 : Int32)) dd_K_giverRoom_10 (by decide) rfl ?_
    exact xo_iret dd_K_giverRoom_13 rfl
set_option maxRecDepth 100000 in
set_option maxHeartbeats 4000000 in
theorem kc_K_giverRoom (t : xo_N) (x1 : Int32) (H : xo_H) (r : Int32 × xo_H) (hk : fc_K_giverRoom t x1 H = some r) : xo_M mt_K_giverRoom [.inr (some t), .inl x1] H (xo_ji r) :=
  xo_entry hk (by decide +kernel) (Nat.le_of_ble_eq_true rfl) (kb_K_giverRoom t x1 H r)
def fc_K_giverQueue (t : xo_N) (x1 : Int32) (H : xo_H) : Option (Int32 × xo_H) :=
  xo_cl 0 (some t) (fun n7 => fc_K_giverAt n7 x1 H) fun r1 =>
  if r1.1 = none then (some ((-1 : Int32), r1.2))
  else (xo_gp 5 1 r1.2 r1.1 fun o2 =>
  xo_cl 4 o2 (fun n6 => fc_C_count n6 r1.2) fun r3 =>
  xo_gp 5 3 r3.2 r1.1 fun o4 =>
  xo_gf 3 2 r3.2 o4 fun v5 =>
  some ((r3.1 + ((100 : Int32) * v5)), r3.2))

set_option maxRecDepth 100000 in
set_option maxHeartbeats 4000000 in
theorem kb_K_giverQueue (t : xo_N) (x1 : Int32) (H : xo_H) (r : Int32 × xo_H) : xo_X mt_K_giverQueue 0 0 xo_ji r 0 [(0, .inr (some t)), (1, .inl x1)] [] H (fc_K_giverQueue t x1 H) := by
  unfold fc_K_giverQueue
  refine xo_aload_n (pc' := 1) dd_K_giverQueue_0 rfl 0 rfl rfl ?_
  refine xo_iload_n (pc' := 2) dd_K_giverQueue_1 rfl 1 rfl rfl ?_
  refine xo_callVp (as := [.inl x1]) (o := (some t)) (st := []) (pc' := 5) dd_K_giverQueue_2 cv_K_giverAt ml_K_133 rfl rfl ⟨by decide, by decide⟩ rfl rfl rfl (Nat.le_of_ble_eq_true rfl) rfl (fun n q h => kc_K_giverAt n x1 H q h) fun r1 => ?_
  refine xo_astore_n (pc' := 6) dd_K_giverQueue_5 rfl (by decide) rfl rfl ?_
  refine xo_aload_n (pc' := 7) dd_K_giverQueue_6 rfl 0 rfl rfl ?_
  refine xo_ifnonnull (pc' := 10) (tgt := 14) dd_K_giverQueue_7 rfl rfl ?_ ?_
  · refine xo_aload_n (pc' := 15) dd_K_giverQueue_14 rfl 0 rfl rfl ?_
    refine xo_getP (pc' := 18) dd_K_giverQueue_15 ff_K_83 (by decide) rfl fun o2 => ?_
    refine xo_callVi (as := []) (o := o2) (st := []) (pc' := 21) dd_K_giverQueue_18 cv_C_count ml_K_87 rfl rfl ⟨by decide, by decide⟩ rfl rfl rfl (Nat.le_of_ble_eq_true rfl) rfl (fun n q h => kc_C_count n r1.2 q h) fun r3 => ?_
    refine xo_bipush (pc' := 23) (v := (100 : Int32)) dd_K_giverQueue_21 (by decide) rfl ?_
    refine xo_aload_n (pc' := 24) dd_K_giverQueue_23 rfl 0 rfl rfl ?_
    refine xo_getP (pc' := 27) dd_K_giverQueue_24 ff_K_91 (by decide) rfl fun o4 => ?_
    refine xo_getI (pc' := 30) dd_K_giverQueue_27 ff_K_95 (by decide) rfl fun v5 => ?_
    refine xo_imul (pc' := 31) dd_K_giverQueue_30 rfl ?_
    refine xo_iadd (pc' := 32) dd_K_giverQueue_31 rfl ?_
    exact xo_iret dd_K_giverQueue_32 rfl
  · refine xo_iconst (pc' := 11) (v := (-1 : Int32)) dd_K_giverQueue_10 (by decide) rfl ?_
    refine xo_goto (pc' := 32) dd_K_giverQueue_11 rfl ?_
    exact xo_iret dd_K_giverQueue_32 rfl
set_option maxRecDepth 100000 in
set_option maxHeartbeats 4000000 in
theorem kc_K_giverQueue (t : xo_N) (x1 : Int32) (H : xo_H) (r : Int32 × xo_H) (hk : fc_K_giverQueue t x1 H = some r) : xo_M mt_K_giverQueue [.inr (some t), .inl x1] H (xo_ji r) :=
  xo_entry hk (by decide +kernel) (Nat.le_of_ble_eq_true rfl) (kb_K_giverQueue t x1 H r)
def fb_K_takerState_97 (x2 : Option xo_N) (s0 : Int32) (s1 : Int32) (H : xo_H) : Option (Int32 × xo_H) :=
  xo_gf 7 12 H x2 fun v1 =>
  if v1 = 0 then (some (((s0 + s1) + (0 : Int32)), H))
  else (some (((s0 + s1) + (128 : Int32)), H))

def fb_K_takerState_81 (x2 : Option xo_N) (s0 : Int32) (s1 : Int32) (H : xo_H) : Option (Int32 × xo_H) :=
  xo_gf 7 9 H x2 fun v1 =>
  if v1 = 0 then (fb_K_takerState_97 x2 (s0 + s1) (0 : Int32) H)
  else (fb_K_takerState_97 x2 (s0 + s1) (64 : Int32) H)

def fb_K_takerState_64 (x2 : Option xo_N) (s0 : Int32) (s1 : Int32) (H : xo_H) : Option (Int32 × xo_H) :=
  xo_gf 7 7 H x2 fun v1 =>
  if v1 = (5 : Int32) then (fb_K_takerState_81 x2 (s0 + s1) (32 : Int32) H)
  else (fb_K_takerState_81 x2 (s0 + s1) (0 : Int32) H)

def fb_K_takerState_47 (x2 : Option xo_N) (s0 : Int32) (s1 : Int32) (H : xo_H) : Option (Int32 × xo_H) :=
  xo_gf 7 7 H x2 fun v1 =>
  if v1 = (4 : Int32) then (fb_K_takerState_64 x2 (s0 + s1) (16 : Int32) H)
  else (fb_K_takerState_64 x2 (s0 + s1) (0 : Int32) H)

def fb_K_takerState_30 (x2 : Option xo_N) (s0 : Int32) (s1 : Int32) (H : xo_H) : Option (Int32 × xo_H) :=
  xo_gf 7 7 H x2 fun v1 =>
  if v1 = (3 : Int32) then (fb_K_takerState_47 x2 (s0 + s1) (8 : Int32) H)
  else (fb_K_takerState_47 x2 (s0 + s1) (0 : Int32) H)

def fc_K_takerState (t : xo_N) (x1 : Int32) (H : xo_H) : Option (Int32 × xo_H) :=
  xo_cl 0 (some t) (fun n4 => fc_K_takerAt n4 x1 H) fun r1 =>
  if r1.1 = none then (some ((-1 : Int32), r1.2))
  else (xo_gf 7 4 r1.2 r1.1 fun v2 =>
  xo_gf 7 11 r1.2 r1.1 fun v3 =>
  if v3 = 0 then (fb_K_takerState_30 r1.1 v2 (0 : Int32) r1.2)
  else (fb_K_takerState_30 r1.1 v2 (4 : Int32) r1.2))

set_option maxRecDepth 100000 in
set_option maxHeartbeats 4000000 in
theorem kb_K_takerState_97 (x2 : Option xo_N) (s0 : Int32) (s1 : Int32) (H : xo_H) (r : Int32 × xo_H) : xo_X mt_K_takerState 0 0 xo_ji r 97 [(2, .inr x2)] [.inl s1, .inl s0] H (fb_K_takerState_97 x2 s0 s1 H) := by
  unfold fb_K_takerState_97
  refine xo_iadd (pc' := 98) dd_K_takerState_97 rfl ?_
  refine xo_istore_n (pc' := 99) dd_K_takerState_98 rfl (by decide) rfl rfl ?_
  refine xo_iload_n (pc' := 100) dd_K_takerState_99 rfl 0 rfl rfl ?_
  refine xo_aload_n (pc' := 101) dd_K_takerState_100 rfl 1 rfl rfl ?_
  refine xo_getI (pc' := 104) dd_K_takerState_101 ff_K_152 (by decide) rfl fun v1 => ?_
  refine xo_if_eq (pc' := 107) (tgt := 113) dd_K_takerState_104 rfl rfl ?_ ?_
  · refine xo_iconst (pc' := 114) (v := (0 : Int32)) dd_K_takerState_113 (by decide) rfl ?_
    refine xo_iadd (pc' := 115) dd_K_takerState_114 rfl ?_
    refine xo_istore_n (pc' := 116) dd_K_takerState_115 rfl (by decide) rfl rfl ?_
    refine xo_iload_n (pc' := 117) dd_K_takerState_116 rfl 0 rfl rfl ?_
    exact xo_iret dd_K_takerState_117 rfl
  · refine xo_sipush (pc' := 110) (v := (128 : Int32)) dd_K_takerState_107 (by decide) rfl ?_
    refine xo_goto (pc' := 114) dd_K_takerState_110 rfl ?_
    refine xo_iadd (pc' := 115) dd_K_takerState_114 rfl ?_
    refine xo_istore_n (pc' := 116) dd_K_takerState_115 rfl (by decide) rfl rfl ?_
    refine xo_iload_n (pc' := 117) dd_K_takerState_116 rfl 0 rfl rfl ?_
    exact xo_iret dd_K_takerState_117 rfl
set_option maxRecDepth 100000 in
set_option maxHeartbeats 4000000 in
theorem kb_K_takerState_81 (x2 : Option xo_N) (s0 : Int32) (s1 : Int32) (H : xo_H) (r : Int32 × xo_H) : xo_X mt_K_takerState 0 0 xo_ji r 81 [(2, .inr x2)] [.inl s1, .inl s0] H (fb_K_takerState_81 x2 s0 s1 H) := by
  unfold fb_K_takerState_81
  refine xo_iadd (pc' := 82) dd_K_takerState_81 rfl ?_
  refine xo_istore_n (pc' := 83) dd_K_takerState_82 rfl (by decide) rfl rfl ?_
  refine xo_iload_n (pc' := 84) dd_K_takerState_83 rfl 0 rfl rfl ?_
  refine xo_aload_n (pc' := 85) dd_K_takerState_84 rfl 1 rfl rfl ?_
  refine xo_getI (pc' := 88) dd_K_takerState_85 ff_K_166 (by decide) rfl fun v1 => ?_
  refine xo_if_eq (pc' := 91) (tgt := 96) dd_K_takerState_88 rfl rfl ?_ ?_
  · refine xo_iconst (pc' := 97) (v := (0 : Int32)) dd_K_takerState_96 (by decide) rfl ?_
    refine xo_sub [1] rfl ?_
    exact kb_K_takerState_97 x2 (s0 + s1) (0 : Int32) H r
  · refine xo_bipush (pc' := 93) (v := (64 : Int32)) dd_K_takerState_91 (by decide) rfl ?_
    refine xo_goto (pc' := 97) dd_K_takerState_93 rfl ?_
    refine xo_sub [1] rfl ?_
    exact kb_K_takerState_97 x2 (s0 + s1) (64 : Int32) H r
set_option maxRecDepth 100000 in
set_option maxHeartbeats 4000000 in
theorem kb_K_takerState_64 (x2 : Option xo_N) (s0 : Int32) (s1 : Int32) (H : xo_H) (r : Int32 × xo_H) : xo_X mt_K_takerState 0 0 xo_ji r 64 [(2, .inr x2)] [.inl s1, .inl s0] H (fb_K_takerState_64 x2 s0 s1 H) := by
  unfold fb_K_takerState_64
  refine xo_iadd (pc' := 65) dd_K_takerState_64 rfl ?_
  refine xo_istore_n (pc' := 66) dd_K_takerState_65 rfl (by decide) rfl rfl ?_
  refine xo_iload_n (pc' := 67) dd_K_takerState_66 rfl 0 rfl rfl ?_
  refine xo_aload_n (pc' := 68) dd_K_takerState_67 rfl 1 rfl rfl ?_
  refine xo_getI (pc' := 71) dd_K_takerState_68 ff_K_169 (by decide) rfl fun v1 => ?_
  refine xo_iconst (pc' := 72) (v := (5 : Int32)) dd_K_takerState_71 (by decide) rfl ?_
  refine xo_icmp_ne (pc' := 75) (tgt := 80) dd_K_takerState_72 rfl rfl ?_ ?_
  · refine xo_iconst (pc' := 81) (v := (0 : Int32)) dd_K_takerState_80 (by decide) rfl ?_
    refine xo_sub [1] rfl ?_
    exact kb_K_takerState_81 x2 (s0 + s1) (0 : Int32) H r
  · refine xo_bipush (pc' := 77) (v := (32 : Int32)) dd_K_takerState_75 (by decide) rfl ?_
    refine xo_goto (pc' := 81) dd_K_takerState_77 rfl ?_
    refine xo_sub [1] rfl ?_
    exact kb_K_takerState_81 x2 (s0 + s1) (32 : Int32) H r
set_option maxRecDepth 100000 in
set_option maxHeartbeats 4000000 in
theorem kb_K_takerState_47 (x2 : Option xo_N) (s0 : Int32) (s1 : Int32) (H : xo_H) (r : Int32 × xo_H) : xo_X mt_K_takerState 0 0 xo_ji r 47 [(2, .inr x2)] [.inl s1, .inl s0] H (fb_K_takerState_47 x2 s0 s1 H) := by
  unfold fb_K_takerState_47
  refine xo_iadd (pc' := 48) dd_K_takerState_47 rfl ?_
  refine xo_istore_n (pc' := 49) dd_K_takerState_48 rfl (by decide) rfl rfl ?_
  refine xo_iload_n (pc' := 50) dd_K_takerState_49 rfl 0 rfl rfl ?_
  refine xo_aload_n (pc' := 51) dd_K_takerState_50 rfl 1 rfl rfl ?_
  refine xo_getI (pc' := 54) dd_K_takerState_51 ff_K_169 (by decide) rfl fun v1 => ?_
  refine xo_iconst (pc' := 55) (v := (4 : Int32)) dd_K_takerState_54 (by decide) rfl ?_
  refine xo_icmp_ne (pc' := 58) (tgt := 63) dd_K_takerState_55 rfl rfl ?_ ?_
  · refine xo_iconst (pc' := 64) (v := (0 : Int32)) dd_K_takerState_63 (by decide) rfl ?_
    refine xo_sub [1] rfl ?_
    exact kb_K_takerState_64 x2 (s0 + s1) (0 : Int32) H r
  · refine xo_bipush (pc' := 60) (v := (16 : Int32)) dd_K_takerState_58 (by decide) rfl ?_
    refine xo_goto (pc' := 64) dd_K_takerState_60 rfl ?_
    refine xo_sub [1] rfl ?_
    exact kb_K_takerState_64 x2 (s0 + s1) (16 : Int32) H r
set_option maxRecDepth 100000 in
set_option maxHeartbeats 4000000 in
theorem kb_K_takerState_30 (x2 : Option xo_N) (s0 : Int32) (s1 : Int32) (H : xo_H) (r : Int32 × xo_H) : xo_X mt_K_takerState 0 0 xo_ji r 30 [(2, .inr x2)] [.inl s1, .inl s0] H (fb_K_takerState_30 x2 s0 s1 H) := by
  unfold fb_K_takerState_30
  refine xo_iadd (pc' := 31) dd_K_takerState_30 rfl ?_
  refine xo_istore_n (pc' := 32) dd_K_takerState_31 rfl (by decide) rfl rfl ?_
  refine xo_iload_n (pc' := 33) dd_K_takerState_32 rfl 0 rfl rfl ?_
  refine xo_aload_n (pc' := 34) dd_K_takerState_33 rfl 1 rfl rfl ?_
  refine xo_getI (pc' := 37) dd_K_takerState_34 ff_K_169 (by decide) rfl fun v1 => ?_
  refine xo_iconst (pc' := 38) (v := (3 : Int32)) dd_K_takerState_37 (by decide) rfl ?_
  refine xo_icmp_ne (pc' := 41) (tgt := 46) dd_K_takerState_38 rfl rfl ?_ ?_
  · refine xo_iconst (pc' := 47) (v := (0 : Int32)) dd_K_takerState_46 (by decide) rfl ?_
    refine xo_sub [1] rfl ?_
    exact kb_K_takerState_47 x2 (s0 + s1) (0 : Int32) H r
  · refine xo_bipush (pc' := 43) (v := (8 : Int32)) dd_K_takerState_41 (by decide) rfl ?_
    refine xo_goto (pc' := 47) dd_K_takerState_43 rfl ?_
    refine xo_sub [1] rfl ?_
    exact kb_K_takerState_47 x2 (s0 + s1) (8 : Int32) H r
set_option maxRecDepth 100000 in
set_option maxHeartbeats 4000000 in
theorem kb_K_takerState (t : xo_N) (x1 : Int32) (H : xo_H) (r : Int32 × xo_H) : xo_X mt_K_takerState 0 0 xo_ji r 0 [(0, .inr (some t)), (1, .inl x1)] [] H (fc_K_takerState t x1 H) := by
  unfold fc_K_takerState
  refine xo_aload_n (pc' := 1) dd_K_takerState_0 rfl 0 rfl rfl ?_
  refine xo_iload_n (pc' := 2) dd_K_takerState_1 rfl 1 rfl rfl ?_
  refine xo_callVp (as := [.inl x1]) (o := (some t)) (st := []) (pc' := 5) dd_K_takerState_2 cv_K_takerAt ml_K_148 rfl rfl ⟨by decide, by decide⟩ rfl rfl rfl (Nat.le_of_ble_eq_true rfl) rfl (fun n q h => kc_K_takerAt n x1 H q h) fun r1 => ?_
  refine xo_astore_n (pc' := 6) dd_K_takerState_5 rfl (by decide) rfl rfl ?_
  refine xo_aload_n (pc' := 7) dd_K_takerState_6 rfl 0 rfl rfl ?_
  refine xo_ifnonnull (pc' := 10) (tgt := 12) dd_K_takerState_7 rfl rfl ?_ ?_
  · refine xo_aload_n (pc' := 13) dd_K_takerState_12 rfl 0 rfl rfl ?_
    refine xo_getI (pc' := 16) dd_K_takerState_13 ff_K_176 (by decide) rfl fun v2 => ?_
    refine xo_istore_n (pc' := 17) dd_K_takerState_16 rfl (by decide) rfl rfl ?_
    refine xo_iload_n (pc' := 18) dd_K_takerState_17 rfl 0 rfl rfl ?_
    refine xo_aload_n (pc' := 19) dd_K_takerState_18 rfl 1 rfl rfl ?_
    refine xo_getI (pc' := 22) dd_K_takerState_19 ff_K_224 (by decide) rfl fun v3 => ?_
    refine xo_if_eq (pc' := 25) (tgt := 29) dd_K_takerState_22 rfl rfl ?_ ?_
    · refine xo_iconst (pc' := 30) (v := (0 : Int32)) dd_K_takerState_29 (by decide) rfl ?_
      refine xo_sub [1] rfl ?_
      exact kb_K_takerState_30 r1.1 v2 (0 : Int32) r1.2 r
    · refine xo_iconst (pc' := 26) (v := (4 : Int32)) dd_K_takerState_25 (by decide) rfl ?_
      refine xo_goto (pc' := 30) dd_K_takerState_26 rfl ?_
      refine xo_sub [1] rfl ?_
      exact kb_K_takerState_30 r1.1 v2 (4 : Int32) r1.2 r
  · refine xo_iconst (pc' := 11) (v := (-1 : Int32)) dd_K_takerState_10 (by decide) rfl ?_
    exact xo_iret dd_K_takerState_11 rfl
set_option maxRecDepth 100000 in
set_option maxHeartbeats 4000000 in
theorem kc_K_takerState (t : xo_N) (x1 : Int32) (H : xo_H) (r : Int32 × xo_H) (hk : fc_K_takerState t x1 H = some r) : xo_M mt_K_takerState [.inr (some t), .inl x1] H (xo_ji r) :=
  xo_entry hk (by decide +kernel) (Nat.le_of_ble_eq_true rfl) (kb_K_takerState t x1 H r)
def fc_K_takerRoom (t : xo_N) (x1 : Int32) (H : xo_H) : Option (Int32 × xo_H) :=
  xo_cl 0 (some t) (fun n5 => fc_K_takerAt n5 x1 H) fun r1 =>
  if r1.1 = none then (some ((-1000 : Int32), r1.2))
  else (xo_gf 7 4 r1.2 r1.1 fun v2 =>
  if v2 = 0 then (xo_gp 7 1 r1.2 r1.1 fun o3 =>
  xo_gf 4 3 r1.2 o3 fun v4 =>
  some (v4, r1.2))
  else (some ((0 : Int32), r1.2)))

set_option maxRecDepth 100000 in
set_option maxHeartbeats 4000000 in
theorem kb_K_takerRoom (t : xo_N) (x1 : Int32) (H : xo_H) (r : Int32 × xo_H) : xo_X mt_K_takerRoom 0 0 xo_ji r 0 [(0, .inr (some t)), (1, .inl x1)] [] H (fc_K_takerRoom t x1 H) := by
  unfold fc_K_takerRoom
  refine xo_aload_n (pc' := 1) dd_K_takerRoom_0 rfl 0 rfl rfl ?_
  refine xo_iload_n (pc' := 2) dd_K_takerRoom_1 rfl 1 rfl rfl ?_
  refine xo_callVp (as := [.inl x1]) (o := (some t)) (st := []) (pc' := 5) dd_K_takerRoom_2 cv_K_takerAt ml_K_148 rfl rfl ⟨by decide, by decide⟩ rfl rfl rfl (Nat.le_of_ble_eq_true rfl) rfl (fun n q h => kc_K_takerAt n x1 H q h) fun r1 => ?_
  refine xo_astore_n (pc' := 6) dd_K_takerRoom_5 rfl (by decide) rfl rfl ?_
  refine xo_aload_n (pc' := 7) dd_K_takerRoom_6 rfl 0 rfl rfl ?_
  refine xo_ifnonnull (pc' := 10) (tgt := 14) dd_K_takerRoom_7 rfl rfl ?_ ?_
  · refine xo_aload_n (pc' := 15) dd_K_takerRoom_14 rfl 0 rfl rfl ?_
    refine xo_getI (pc' := 18) dd_K_takerRoom_15 ff_K_176 (by decide) rfl fun v2 => ?_
    refine xo_if_ne (pc' := 21) (tgt := 31) dd_K_takerRoom_18 rfl rfl ?_ ?_
    · refine xo_iconst (pc' := 32) (v := (0 : Int32)) dd_K_takerRoom_31 (by decide) rfl ?_
      exact xo_iret dd_K_takerRoom_32 rfl
    · refine xo_aload_n (pc' := 22) dd_K_takerRoom_21 rfl 0 rfl rfl ?_
      refine xo_getP (pc' := 25) dd_K_takerRoom_22 ff_K_155 (by decide) rfl fun o3 => ?_
      refine xo_getI (pc' := 28) dd_K_takerRoom_25 ff_K_221 (by decide) rfl fun v4 => ?_
      refine xo_goto (pc' := 32) dd_K_takerRoom_28 rfl ?_
      exact xo_iret dd_K_takerRoom_32 rfl
  · refine xo_sipush (pc' := 13) (v := (-1000 : Int32)) dd_K_takerRoom_10 (by decide) rfl ?_
    exact xo_iret dd_K_takerRoom_13 rfl
set_option maxRecDepth 100000 in
set_option maxHeartbeats 4000000 in
theorem kc_K_takerRoom (t : xo_N) (x1 : Int32) (H : xo_H) (r : Int32 × xo_H) (hk : fc_K_takerRoom t x1 H = some r) : xo_M mt_K_takerRoom [.inr (some t), .inl x1] H (xo_ji r) :=
  xo_entry hk (by decide +kernel) (Nat.le_of_ble_eq_true rfl) (kb_K_takerRoom t x1 H r)
def fc_K_takerQueue (t : xo_N) (x1 : Int32) (H : xo_H) : Option (Int32 × xo_H) :=
  xo_cl 0 (some t) (fun n5 => fc_K_takerAt n5 x1 H) fun r1 =>
  if r1.1 = none then (some ((-1 : Int32), r1.2))
  else (xo_gp 7 1 r1.2 r1.1 fun o2 =>
  xo_cl 4 o2 (fun n4 => fc_C_count n4 r1.2) fun r3 =>
  some (r3.1, r3.2))

set_option maxRecDepth 100000 in
set_option maxHeartbeats 4000000 in
theorem kb_K_takerQueue (t : xo_N) (x1 : Int32) (H : xo_H) (r : Int32 × xo_H) : xo_X mt_K_takerQueue 0 0 xo_ji r 0 [(0, .inr (some t)), (1, .inl x1)] [] H (fc_K_takerQueue t x1 H) := by
  unfold fc_K_takerQueue
  refine xo_aload_n (pc' := 1) dd_K_takerQueue_0 rfl 0 rfl rfl ?_
  refine xo_iload_n (pc' := 2) dd_K_takerQueue_1 rfl 1 rfl rfl ?_
  refine xo_callVp (as := [.inl x1]) (o := (some t)) (st := []) (pc' := 5) dd_K_takerQueue_2 cv_K_takerAt ml_K_148 rfl rfl ⟨by decide, by decide⟩ rfl rfl rfl (Nat.le_of_ble_eq_true rfl) rfl (fun n q h => kc_K_takerAt n x1 H q h) fun r1 => ?_
  refine xo_astore_n (pc' := 6) dd_K_takerQueue_5 rfl (by decide) rfl rfl ?_
  refine xo_aload_n (pc' := 7) dd_K_takerQueue_6 rfl 0 rfl rfl ?_
  refine xo_ifnonnull (pc' := 10) (tgt := 14) dd_K_takerQueue_7 rfl rfl ?_ ?_
  · refine xo_aload_n (pc' := 15) dd_K_takerQueue_14 rfl 0 rfl rfl ?_
    refine xo_getP (pc' := 18) dd_K_takerQueue_15 ff_K_155 (by decide) rfl fun o2 => ?_
    refine xo_callVi (as := []) (o := o2) (st := []) (pc' := 21) dd_K_takerQueue_18 cv_C_count ml_K_87 rfl rfl ⟨by decide, by decide⟩ rfl rfl rfl (Nat.le_of_ble_eq_true rfl) rfl (fun n q h => kc_C_count n r1.2 q h) fun r3 => ?_
    exact xo_iret dd_K_takerQueue_21 rfl
  · refine xo_iconst (pc' := 11) (v := (-1 : Int32)) dd_K_takerQueue_10 (by decide) rfl ?_
    refine xo_goto (pc' := 21) dd_K_takerQueue_11 rfl ?_
    exact xo_iret dd_K_takerQueue_21 rfl
set_option maxRecDepth 100000 in
set_option maxHeartbeats 4000000 in
theorem kc_K_takerQueue (t : xo_N) (x1 : Int32) (H : xo_H) (r : Int32 × xo_H) (hk : fc_K_takerQueue t x1 H = some r) : xo_M mt_K_takerQueue [.inr (some t), .inl x1] H (xo_ji r) :=
  xo_entry hk (by decide +kernel) (Nat.le_of_ble_eq_true rfl) (kb_K_takerQueue t x1 H r)
def fc_K_takerError (x0 : Option xo_N) (H : xo_H) : Option (Int32 × xo_H) :=
  if x0 = none then (some ((-1 : Int32), H))
  else (xo_cl 7 x0 (fun n3 => fc_T_hasError n3 H) fun r1 =>
  if r1.1 = 0 then (some ((-1 : Int32), r1.2))
  else (xo_gf 7 5 r1.2 x0 fun v2 =>
  some (v2, r1.2)))

set_option maxRecDepth 100000 in
set_option maxHeartbeats 4000000 in
theorem kb_K_takerError (x0 : Option xo_N) (H : xo_H) (r : Int32 × xo_H) : xo_X mt_K_takerError 0 0 xo_ji r 0 [(0, .inr x0)] [] H (fc_K_takerError x0 H) := by
  unfold fc_K_takerError
  refine xo_aload_n (pc' := 1) dd_K_takerError_0 rfl 0 rfl rfl ?_
  refine xo_ifnull (pc' := 4) (tgt := 18) dd_K_takerError_1 rfl rfl ?_ ?_
  · refine xo_iconst (pc' := 19) (v := (-1 : Int32)) dd_K_takerError_18 (by decide) rfl ?_
    exact xo_iret dd_K_takerError_19 rfl
  · refine xo_aload_n (pc' := 5) dd_K_takerError_4 rfl 0 rfl rfl ?_
    refine xo_callVi (as := []) (o := x0) (st := []) (pc' := 8) dd_K_takerError_5 cv_T_hasError ml_K_240 rfl rfl ⟨by decide, by decide⟩ rfl rfl rfl (Nat.le_of_ble_eq_true rfl) rfl (fun n q h => kc_T_hasError n H q h) fun r1 => ?_
    refine xo_if_eq (pc' := 11) (tgt := 18) dd_K_takerError_8 rfl rfl ?_ ?_
    · refine xo_iconst (pc' := 19) (v := (-1 : Int32)) dd_K_takerError_18 (by decide) rfl ?_
      exact xo_iret dd_K_takerError_19 rfl
    · refine xo_aload_n (pc' := 12) dd_K_takerError_11 rfl 0 rfl rfl ?_
      refine xo_getI (pc' := 15) dd_K_takerError_12 ff_K_243 (by decide) rfl fun v2 => ?_
      refine xo_goto (pc' := 19) dd_K_takerError_15 rfl ?_
      exact xo_iret dd_K_takerError_19 rfl
set_option maxRecDepth 100000 in
set_option maxHeartbeats 4000000 in
theorem kc_K_takerError (x0 : Option xo_N) (H : xo_H) (r : Int32 × xo_H) (hk : fc_K_takerError x0 H = some r) : xo_M mt_K_takerError [.inr x0] H (xo_ji r) :=
  xo_entry hk (by decide +kernel) (Nat.le_of_ble_eq_true rfl) (kb_K_takerError x0 H r)
def fc_K_giverError (x0 : Option xo_N) (H : xo_H) : Option (Int32 × xo_H) :=
  if x0 = none then (some ((-1 : Int32), H))
  else (xo_gf 5 4 H x0 fun v1 =>
  if v1 = (2 : Int32) then (xo_gf 5 5 H x0 fun v2 =>
  some (v2, H))
  else (some ((-1 : Int32), H)))

set_option maxRecDepth 100000 in
set_option maxHeartbeats 4000000 in
theorem kb_K_giverError (x0 : Option xo_N) (H : xo_H) (r : Int32 × xo_H) : xo_X mt_K_giverError 0 0 xo_ji r 0 [(0, .inr x0)] [] H (fc_K_giverError x0 H) := by
  unfold fc_K_giverError
  refine xo_aload_n (pc' := 1) dd_K_giverError_0 rfl 0 rfl rfl ?_
  refine xo_ifnull (pc' := 4) (tgt := 19) dd_K_giverError_1 rfl rfl ?_ ?_
  · refine xo_iconst (pc' := 20) (v := (-1 : Int32)) dd_K_giverError_19 (by decide) rfl ?_
    exact xo_iret dd_K_giverError_20 rfl
  · refine xo_aload_n (pc' := 5) dd_K_giverError_4 rfl 0 rfl rfl ?_
    refine xo_getI (pc' := 8) dd_K_giverError_5 ff_K_110 (by decide) rfl fun v1 => ?_
    refine xo_iconst (pc' := 9) (v := (2 : Int32)) dd_K_giverError_8 (by decide) rfl ?_
    refine xo_icmp_ne (pc' := 12) (tgt := 19) dd_K_giverError_9 rfl rfl ?_ ?_
    · refine xo_iconst (pc' := 20) (v := (-1 : Int32)) dd_K_giverError_19 (by decide) rfl ?_
      exact xo_iret dd_K_giverError_20 rfl
    · refine xo_aload_n (pc' := 13) dd_K_giverError_12 rfl 0 rfl rfl ?_
      refine xo_getI (pc' := 16) dd_K_giverError_13 ff_K_207 (by decide) rfl fun v2 => ?_
      refine xo_goto (pc' := 20) dd_K_giverError_16 rfl ?_
      exact xo_iret dd_K_giverError_20 rfl
set_option maxRecDepth 100000 in
set_option maxHeartbeats 4000000 in
theorem kc_K_giverError (x0 : Option xo_N) (H : xo_H) (r : Int32 × xo_H) (hk : fc_K_giverError x0 H = some r) : xo_M mt_K_giverError [.inr x0] H (xo_ji r) :=
  xo_entry hk (by decide +kernel) (Nat.le_of_ble_eq_true rfl) (kb_K_giverError x0 H r)
def fc_K_error (t : xo_N) (x1 : Int32) (x2 : Int32) (H : xo_H) : Option (Int32 × xo_H) :=
  if x1 = 0 then (xo_cl 0 (some t) (fun n3 => fc_K_giverAt n3 x2 H) fun r1 =>
  (fc_K_giverError r1.1 r1.2).bind fun r2 =>
  some (r2.1, r2.2))
  else (xo_cl 0 (some t) (fun n6 => fc_K_takerAt n6 x2 H) fun r4 =>
  (fc_K_takerError r4.1 r4.2).bind fun r5 =>
  some (r5.1, r5.2))

set_option maxRecDepth 100000 in
set_option maxHeartbeats 4000000 in
theorem kb_K_error (t : xo_N) (x1 : Int32) (x2 : Int32) (H : xo_H) (r : Int32 × xo_H) : xo_X mt_K_error 0 0 xo_ji r 0 [(0, .inr (some t)), (1, .inl x1), (2, .inl x2)] [] H (fc_K_error t x1 x2 H) := by
  unfold fc_K_error
  refine xo_iload_n (pc' := 1) dd_K_error_0 rfl 1 rfl rfl ?_
  refine xo_if_eq (pc' := 4) (tgt := 15) dd_K_error_1 rfl rfl ?_ ?_
  · refine xo_aload_n (pc' := 16) dd_K_error_15 rfl 0 rfl rfl ?_
    refine xo_iload_n (pc' := 17) dd_K_error_16 rfl 2 rfl rfl ?_
    refine xo_callVp (as := [.inl x2]) (o := (some t)) (st := []) (pc' := 20) dd_K_error_17 cv_K_giverAt ml_K_133 rfl rfl ⟨by decide, by decide⟩ rfl rfl rfl (Nat.le_of_ble_eq_true rfl) rfl (fun n q h => kc_K_giverAt n x2 H q h) fun r1 => ?_
    refine xo_callSi (as := [.inr r1.1]) (st := []) (pc' := 23) dd_K_error_20 cv_K_giverError ml_K_231 rfl ⟨by decide, by decide⟩ rfl rfl rfl (Nat.le_of_ble_eq_true rfl) rfl (fun q h => kc_K_giverError r1.1 r1.2 q h) fun r2 => ?_
    exact xo_iret dd_K_error_23 rfl
  · refine xo_aload_n (pc' := 5) dd_K_error_4 rfl 0 rfl rfl ?_
    refine xo_iload_n (pc' := 6) dd_K_error_5 rfl 2 rfl rfl ?_
    refine xo_callVp (as := [.inl x2]) (o := (some t)) (st := []) (pc' := 9) dd_K_error_6 cv_K_takerAt ml_K_148 rfl rfl ⟨by decide, by decide⟩ rfl rfl rfl (Nat.le_of_ble_eq_true rfl) rfl (fun n q h => kc_K_takerAt n x2 H q h) fun r4 => ?_
    refine xo_callSi (as := [.inr r4.1]) (st := []) (pc' := 12) dd_K_error_9 cv_K_takerError ml_K_227 rfl ⟨by decide, by decide⟩ rfl rfl rfl (Nat.le_of_ble_eq_true rfl) rfl (fun q h => kc_K_takerError r4.1 r4.2 q h) fun r5 => ?_
    refine xo_goto (pc' := 23) dd_K_error_12 rfl ?_
    exact xo_iret dd_K_error_23 rfl
set_option maxRecDepth 100000 in
set_option maxHeartbeats 4000000 in
theorem kc_K_error (t : xo_N) (x1 : Int32) (x2 : Int32) (H : xo_H) (r : Int32 × xo_H) (hk : fc_K_error t x1 x2 H = some r) : xo_M mt_K_error [.inr (some t), .inl x1, .inl x2] H (xo_ji r) :=
  xo_entry hk (by decide +kernel) (Nat.le_of_ble_eq_true rfl) (kb_K_error t x1 x2 H r)
def fc_K_events (t : xo_N) (H : xo_H) : Option (Int32 × xo_H) :=
  xo_gp 0 0 H (some t) fun o1 =>
  xo_gf 1 3 H o1 fun v2 =>
  some (v2, H)

set_option maxRecDepth 100000 in
set_option maxHeartbeats 4000000 in
theorem kb_K_events (t : xo_N) (H : xo_H) (r : Int32 × xo_H) : xo_X mt_K_events 0 0 xo_ji r 0 [(0, .inr (some t))] [] H (fc_K_events t H) := by
  unfold fc_K_events
  refine xo_aload_n (pc' := 1) dd_K_events_0 rfl 0 rfl rfl ?_
  refine xo_getP (pc' := 4) dd_K_events_1 ff_K_12 (by decide) rfl fun o1 => ?_
  refine xo_getI (pc' := 7) dd_K_events_4 ff_K_235 (by decide) rfl fun v2 => ?_
  exact xo_iret dd_K_events_7 rfl
set_option maxRecDepth 100000 in
set_option maxHeartbeats 4000000 in
theorem kc_K_events (t : xo_N) (H : xo_H) (r : Int32 × xo_H) (hk : fc_K_events t H = some r) : xo_M mt_K_events [.inr (some t)] H (xo_ji r) :=
  xo_entry hk (by decide +kernel) (Nat.le_of_ble_eq_true rfl) (kb_K_events t H r)
def fc_K_event (t : xo_N) (x1 : Int32) (x2 : Int32) (H : xo_H) : Option (Int32 × xo_H) :=
  xo_gp 0 0 H (some t) fun o1 =>
  xo_cl 1 o1 (fun n3 => fc_L_tell n3 x1 x2 H) fun r2 =>
  some (r2.1, r2.2)

set_option maxRecDepth 100000 in
set_option maxHeartbeats 4000000 in
theorem kb_K_event (t : xo_N) (x1 : Int32) (x2 : Int32) (H : xo_H) (r : Int32 × xo_H) : xo_X mt_K_event 0 0 xo_ji r 0 [(0, .inr (some t)), (1, .inl x1), (2, .inl x2)] [] H (fc_K_event t x1 x2 H) := by
  unfold fc_K_event
  refine xo_aload_n (pc' := 1) dd_K_event_0 rfl 0 rfl rfl ?_
  refine xo_getP (pc' := 4) dd_K_event_1 ff_K_12 (by decide) rfl fun o1 => ?_
  refine xo_iload_n (pc' := 5) dd_K_event_4 rfl 1 rfl rfl ?_
  refine xo_iload_n (pc' := 6) dd_K_event_5 rfl 2 rfl rfl ?_
  refine xo_callVi (as := [.inl x1, .inl x2]) (o := o1) (st := []) (pc' := 9) dd_K_event_6 cv_L_tell ml_K_236 rfl rfl ⟨by decide, by decide⟩ rfl rfl rfl (Nat.le_of_ble_eq_true rfl) rfl (fun n q h => kc_L_tell n x1 x2 H q h) fun r2 => ?_
  exact xo_iret dd_K_event_9 rfl
set_option maxRecDepth 100000 in
set_option maxHeartbeats 4000000 in
theorem kc_K_event (t : xo_N) (x1 : Int32) (x2 : Int32) (H : xo_H) (r : Int32 × xo_H) (hk : fc_K_event t x1 x2 H = some r) : xo_M mt_K_event [.inr (some t), .inl x1, .inl x2] H (xo_ji r) :=
  xo_entry hk (by decide +kernel) (Nat.le_of_ble_eq_true rfl) (kb_K_event t x1 x2 H r)
