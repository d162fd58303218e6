/-! THE CLAIM OUT OF ONE WALK OF THE LAW'S BODY. Your part is whole_start (and what it stands on); all else here is the same for every law, but numbers. -/
def R_law : String := "FlowKernelLaw"
def lw_P (b : Addr) (xs : List Int32) (args : Array Value) (s : State) : Prop := args = #[.ref b] ∧ s.IntsAt b xs ∧ xs.length ≤ 2048 ∧ (Jvm.Cond.and given_1 narrow_1).before args s = true
def lw_Q (_ : Array Value) (s : State) (o : Outcome) (t : State) : Prop := o = .returned (some (.int 1)) ∧ Framed s o t [] 600000 7302250
def lw_Z (below : List Frame) (a : Array Value) (s : State) : State → Prop := fun t => ∃ o, t.status = .running ∧ Ended t below o ∧ lw_Q a s o t
/-- the law's own end, with 1 on the stack, nothing written that was there before, its room as the claim has it -/
theorem lw_ret {p : Program} {l : Launch} {e : Env} {s : State} {m : MethodId} {below : List Frame} {meth : Method} {c : Code} {b : Nat} (hx : p.tables.exec = Jvm.exec) (hb : c.code = code) (hr : meth.sig.returnType = ret) (hlocks : meth.locks = false) {pc : Nat} {H : Heap} {ls : Array Slot} (hdg : decode code pc = .ok (.ireturn, 1)) : W p l e room_1 s m #[Value.ref b] below meth c H [] 600000 7302250 (lw_Z below #[Value.ref b] s) (F0 m pc ls [.int 1]) := by
  intro T hT X
  obtain ⟨fs, hret, hrun, hended, hW, hframe⟩ := X.leave (v := some (.int 1)) (hlocks := hlocks) (fun h => by rw [hr] at h; cases h)
  have hmeth' : T.vm.method? m = some meth := X.method'
  refine ⟨T.setFrames fs, ?_, .returned (some (.int 1)), hrun, hended, rfl, ⟨_, rfl⟩, hW, hframe⟩
  jvm_step X.here [X.here.top, hx, hb, hdg, hmeth', hr, ret, narrow_b1]
  (try refine ⟨rfl, ?_⟩); (try refine ⟨rfl, ?_⟩)
  first | (intro acts; rw [hret _ acts rfl rfl rfl]) | rw [hret _ _ rfl rfl rfl]
  exact Steps.refl _
/-- what holds at the law's entry: the machine, the code, the tables' words (any of lw_tbl by 'hts w (by decide +kernel)'), the script of L ints xs at the cell b, what the Statement gives of the start (any of its parts by flat_of_before) -/
def lw_At (p : Program) (s : State) (m : MethodId) (meth : Method) (c : Code) (b L : Nat) (xs : Nat → Int32) : Prop :=
  p.tables.exec = Jvm.exec ∧ c.code = code ∧ meth.sig.returnType = ret ∧ c.maxLocals = 4 ∧ s.vm.findClass R_law = some m.cls ∧ (∀ w ∈ lw_tbl, w.before #[Value.ref b] s = true) ∧ va_X b L xs s s.heap ∧ b < s.heap.size ∧ meth.locks = false ∧ (Jvm.Cond.and given_1 narrow_1).before #[Value.ref b] s = true
/-- the law's cases, as functions of the three ints behind the number -/
def lz_kc (k : Nat) (v1 v2 v3 : Int32) (C : xo_H) : Option (Int32 × xo_H) := match k with
  | 0 => fc_K_giver (0, 0) v1 (bz v2) C
  | 1 => fc_K_taker (0, 0) v1 (bz v2) C
  | 2 => fc_K_put (0, 0) v1 v2 C
  | 3 => fc_K_end (0, 0) v1 C
  | 4 => fc_K_fail (0, 0) v1 v2 C
  | 5 => fc_K_pulled (0, 0) v1 v2 C
  | 6 => fc_K_read (0, 0) v1 C
  | 7 => fc_K_cancel (0, 0) v1 v2 C
  | 8 => fc_K_write (0, 0) v1 v2 C
  | 9 => fc_K_shut (0, 0) v1 C
  | 10 => fc_K_abort (0, 0) v1 v2 C
  | 11 => fc_K_spoil (0, 0) v1 v2 C
  | 12 => fc_K_settle (0, 0) v1 v2 C
  | 13 => fc_K_pipe (0, 0) v1 v2 v3 C
  | 14 => fc_K_part (0, 0) v1 C
  | 15 => fc_K_step (0, 0) C
  | 16 => fc_K_run (0, 0) C
  | 17 => fc_K_jobs (0, 0) C
  | 18 => fc_K_giverState (0, 0) v1 C
  | 19 => fc_K_giverRoom (0, 0) v1 C
  | 20 => fc_K_giverQueue (0, 0) v1 C
  | 21 => fc_K_takerState (0, 0) v1 C
  | 22 => fc_K_takerRoom (0, 0) v1 C
  | 23 => fc_K_takerQueue (0, 0) v1 C
  | 24 => fc_K_error (0, 0) (bz v1) v2 C
  | 25 => fc_K_events (0, 0) C
  | 26 => fc_K_event (0, 0) v1 v2 C
  | _ => none
def lz_km (k : Nat) (v1 v2 v3 : Int32) (R : xo_H) : Option (Int32 × xo_H) := match k with
  | 0 => fc_M_giver (50, 0) v1 (bz v2) R
  | 1 => fc_M_taker (50, 0) v1 (bz v2) R
  | 2 => fc_M_put (50, 0) v1 v2 R
  | 3 => fc_M_end (50, 0) v1 R
  | 4 => fc_M_fail (50, 0) v1 v2 R
  | 5 => fc_M_pulled (50, 0) v1 v2 R
  | 6 => fc_M_read (50, 0) v1 R
  | 7 => fc_M_cancel (50, 0) v1 v2 R
  | 8 => fc_M_write (50, 0) v1 v2 R
  | 9 => fc_M_shut (50, 0) v1 R
  | 10 => fc_M_abort (50, 0) v1 v2 R
  | 11 => fc_M_spoil (50, 0) v1 v2 R
  | 12 => fc_M_settle (50, 0) v1 v2 R
  | 13 => fc_M_pipe (50, 0) v1 v2 v3 R
  | 14 => fc_M_part (50, 0) v1 R
  | 15 => fc_M_step (50, 0) R
  | 16 => fc_M_run (50, 0) R
  | 17 => fc_M_jobs (50, 0) R
  | 18 => fc_M_giverState (50, 0) v1 R
  | 19 => fc_M_giverRoom (50, 0) v1 R
  | 20 => fc_M_giverQueue (50, 0) v1 R
  | 21 => fc_M_takerState (50, 0) v1 R
  | 22 => fc_M_takerRoom (50, 0) v1 R
  | 23 => fc_M_takerQueue (50, 0) v1 R
  | 24 => fc_M_error (50, 0) (bz v1) v2 R
  | 25 => fc_M_events (50, 0) R
  | 26 => fc_M_event (50, 0) v1 v2 R
  | _ => none
/-- what the pure part must give: a relation of the two named heaps that every call keeps, with equal answers -/
def lz_Sm (Sm : Nat → xo_H → xo_H → Prop) : Prop := (∀ q k v1 v2 v3 C R, q < 512 → k < 27 → Sm q C R → ∃ a C' R', lz_kc k v1 v2 v3 C = some (a, C') ∧ lz_km k v1 v2 v3 R = some (a, R') ∧ Sm (q + 1) C' R') ∧ (∀ q C R, Sm q C R → Sm (q + 1) C R) ∧ ∃ C R, fc_K_init (0, 0) (xo_sN xo_E0 (0, 0)) = some C ∧ fc_M_init (50, 0) (xo_sN xo_E0 (50, 0)) = some R ∧ Sm 0 C R
section LL
variable {p : Program} {l : Launch} {e : Env} {s : State} {m : MethodId} {below : List Frame} {meth : Method} {c : Code} {b L : Nat} {xs : Nat → Int32} {G : xo_G}
theorem lz_gt {q L : Nat} (hq : q ≤ 512) (hL : L ≤ 2048) (h : ¬ Int32.ofNat L - 4 < nI (4 * q)) : 4 * q + 4 ≤ L := by
  have e : Int32.ofNat L - 4 = nI L - nI 4 := rfl
  rw [e, Int32.lt_iff_toInt_lt, pk_sub_toInt (by omega) (by omega), nI_toInt (by omega)] at h
  omega
set_option maxRecDepth 100000 in
set_option maxHeartbeats 8000000 in
theorem lz_loop {Sm : Nat → xo_H → xo_H → Prop} (hSm : lz_Sm Sm) (C0 : lz_C p s m c b G) (hr : meth.sig.returnType = ret) (hlocks : meth.locks = false) (hX : va_X b L xs s s.heap) (hbl : b < s.heap.size) (hL : L ≤ 2048) : ∀ (n q : Nat) (adC adR : xo_N → Nat) (C R : xo_H) (Hm : Heap) (lsA : Array Slot), q ≤ 512 → 513 ≤ q + n → lz_I G s adC C adR R Hm → C.2.2 (0, 0) = true → R.2.2 (50, 0) = true → lv_has lsA 4 [(0, .ref b), (1, .ref (adC (0, 0))), (2, .ref (adR (50, 0))), (3, .int (nI (4 * q)))] → Sm q C R →
    W p l e room_1 s m #[Value.ref b] below meth c Hm [] (100 + 20 * q) (2000 + 200 * q) (lw_Z below #[Value.ref b] s) (F0 m 18 lsA []) := by
  intro n
  induction n with
  | zero => intro q adC adR C R Hm lsA h1 h2; omega
  | succ n ih =>
  intro q adC adR C R Hm lsA hq hn hI hCn hRn hl hS
  have hx := C0.1
  have hb := C0.2.1
  have hVS : va_S (fun q => s.heap.size ≤ q) s.heap Hm [] := ⟨hI.2.2.2.1, fun q h1 h2 => hI.2.2.2.2 q h1, fun _ h => by cases h⟩
  refine lv_iload_n hx hb dl_18 rfl (lv_at hl 3 rfl) ?_
  refine lv_aload_n hx hb dl_19 rfl (lv_at hl 0 rfl) ?_
  refine va_slen hx hb hX hbl (Nat.not_le.mpr hbl) hVS dl_20 ?_
  refine lv_iconst (v := (4 : Int32)) hx hb dl_21 (by decide) ?_
  refine lv_isub hx hb dl_22 ?_
  refine lv_icmp_gt (tgt := 931) hx hb dl_23 rfl (fun _ => ?_) (fun hgt => ?_)
  · refine lv_iconst (v := (1 : Int32)) hx hb dl_931 (by decide) ?_
    exact W.widen (by omega) (by omega) (lw_ret hx hb hr hlocks dl_932)
  have hq4 := lz_gt hq hL hgt
  have hnext : ∀ (adC' adR' : xo_N → Nat) (C' R' : xo_H) (Hm1 : Heap), Sm (q + 1) C' R' → lz_I G s adC' C' adR' R' Hm1 → adC' (0, 0) = adC (0, 0) → adR' (50, 0) = adR (50, 0) → C'.2.2 (0, 0) = true → R'.2.2 (50, 0) = true → W p l e room_1 s m #[Value.ref b] below meth c Hm1 [] (100 + 20 * q + 20) (2000 + 200 * q + 200) (lw_Z below #[Value.ref b] s) (F0 m 925 lsA []) := by
    intro adC' adR' C' R' Hm1 hS' hI' e1 e2 c1 r1
    refine lv_iinc (k := 3) (v := nI (4 * (q + 1))) hx hb dl_925 hl rfl ?_ (by decide) rfl fun ls2 hl2 => ?_
    · show nI (4 * q) + nI 4 = _
      rw [nI_add]
      rfl
    refine lv_goto (tgt := 18) hx hb dl_928 rfl ?_
    rw [show 100 + 20 * q + 20 = 100 + 20 * (q + 1) by omega, show 2000 + 200 * q + 200 = 2000 + 200 * (q + 1) by omega]
    refine ih (q + 1) adC' adR' C' R' Hm1 ls2 (by omega) (by omega) hI' c1 r1 ?_ hS'
    rw [e1, e2]
    exact lv_sub hl2 [1, 2, 3, 0] rfl
  have S : lz_S p s m c b L q xs Hm (100 + 20 * q) (2000 + 200 * q) lsA G adC adR C R := ⟨C0, hI, hCn, hRn, hX, hbl, hq4, hL, hl, by omega, by omega⟩
  refine lv_aload_n hx hb dl_26 rfl (lv_at hl 0 rfl) ?_
  refine lv_iload_n hx hb dl_27 rfl (lv_at hl 3 rfl) ?_
  refine va_sld hx hb hX hbl (Nat.not_le.mpr hbl) hVS (vp_in_nI (by omega) (by omega)) dl_28 ?_
  refine lv_bipush (v := (31 : Int32)) hx hb dl_29 (by decide) ?_
  refine lv_iand hx hb dl_31 ?_
  obtain ⟨j, hj, ej⟩ := pk_andE (xs (nI (4 * q)).toNatClampNeg) (m := 31) 5 (by decide)
  rw [ej]
  have hout : ∀ j : Nat, 27 ≤ j → j < 32 → W p l e room_1 s m #[Value.ref b] below meth c Hm [] (100 + 20 * q) (2000 + 200 * q) (lw_Z below #[Value.ref b] s) (F0 m 32 lsA [.int (nI j)]) := by
    intro j h1 h2
    refine lv_tableOut (tgt := 925) hx hb dl_32 (Or.inr ?_) rfl ?_
    · rw [nI_toInt (by omega)]; omega
    · exact W.widen (by omega) (by omega) (hnext adC adR C R Hm (hSm.2.1 q C R hS) hI rfl rfl hCn hRn)
  have hcase := hSm.1 q
  rcases (by omega : j = 0 ∨ j = 1 ∨ j = 2 ∨ j = 3 ∨ j = 4 ∨ j = 5 ∨ j = 6 ∨ j = 7 ∨ j = 8 ∨ j = 9 ∨ j = 10 ∨ j = 11 ∨ j = 12 ∨ j = 13 ∨ j = 14 ∨ j = 15 ∨ j = 16 ∨ j = 17 ∨ j = 18 ∨ j = 19 ∨ j = 20 ∨ j = 21 ∨ j = 22 ∨ j = 23 ∨ j = 24 ∨ j = 25 ∨ j = 26 ∨ 27 ≤ j) with rfl | rfl | rfl | rfl | rfl | rfl | rfl | rfl | rfl | rfl | rfl | rfl | rfl | rfl | rfl | rfl | rfl | rfl | rfl | rfl | rfl | rfl | rfl | rfl | rfl | rfl | rfl | h27
  · obtain ⟨a, C', R', g1, g2, g3⟩ := hcase 0 (xs (4 * q + 1)) (xs (4 * q + 2)) (xs (4 * q + 3)) C R (by omega) (by decide) hS
    refine lv_tableIn (tgt := 156) hx hb dl_32 (by decide) (by decide) rfl rfl ?_
    exact lz_case_0 S g1 g2 fun adC' adR' Hm1 i1 e1 e2 c1 r1 => hnext adC' adR' C' R' Hm1 g3 i1 e1 e2 c1 r1
  · obtain ⟨a, C', R', g1, g2, g3⟩ := hcase 1 (xs (4 * q + 1)) (xs (4 * q + 2)) (xs (4 * q + 3)) C R (by omega) (by decide) hS
    refine lv_tableIn (tgt := 205) hx hb dl_32 (by decide) (by decide) rfl rfl ?_
    exact lz_case_1 S g1 g2 fun adC' adR' Hm1 i1 e1 e2 c1 r1 => hnext adC' adR' C' R' Hm1 g3 i1 e1 e2 c1 r1
  · obtain ⟨a, C', R', g1, g2, g3⟩ := hcase 2 (xs (4 * q + 1)) (xs (4 * q + 2)) (xs (4 * q + 3)) C R (by omega) (by decide) hS
    refine lv_tableIn (tgt := 254) hx hb dl_32 (by decide) (by decide) rfl rfl ?_
    exact lz_case_2 S g1 g2 fun adC' adR' Hm1 i1 e1 e2 c1 r1 => hnext adC' adR' C' R' Hm1 g3 i1 e1 e2 c1 r1
  · obtain ⟨a, C', R', g1, g2, g3⟩ := hcase 3 (xs (4 * q + 1)) (xs (4 * q + 2)) (xs (4 * q + 3)) C R (by omega) (by decide) hS
    refine lv_tableIn (tgt := 287) hx hb dl_32 (by decide) (by decide) rfl rfl ?_
    exact lz_case_3 S g1 g2 fun adC' adR' Hm1 i1 e1 e2 c1 r1 => hnext adC' adR' C' R' Hm1 g3 i1 e1 e2 c1 r1
  · obtain ⟨a, C', R', g1, g2, g3⟩ := hcase 4 (xs (4 * q + 1)) (xs (4 * q + 2)) (xs (4 * q + 3)) C R (by omega) (by decide) hS
    refine lv_tableIn (tgt := 310) hx hb dl_32 (by decide) (by decide) rfl rfl ?_
    exact lz_case_4 S g1 g2 fun adC' adR' Hm1 i1 e1 e2 c1 r1 => hnext adC' adR' C' R' Hm1 g3 i1 e1 e2 c1 r1
  · obtain ⟨a, C', R', g1, g2, g3⟩ := hcase 5 (xs (4 * q + 1)) (xs (4 * q + 2)) (xs (4 * q + 3)) C R (by omega) (by decide) hS
    refine lv_tableIn (tgt := 343) hx hb dl_32 (by decide) (by decide) rfl rfl ?_
    exact lz_case_5 S g1 g2 fun adC' adR' Hm1 i1 e1 e2 c1 r1 => hnext adC' adR' C' R' Hm1 g3 i1 e1 e2 c1 r1
  · obtain ⟨a, C', R', g1, g2, g3⟩ := hcase 6 (xs (4 * q + 1)) (xs (4 * q + 2)) (xs (4 * q + 3)) C R (by omega) (by decide) hS
    refine lv_tableIn (tgt := 376) hx hb dl_32 (by decide) (by decide) rfl rfl ?_
    exact lz_case_6 S g1 g2 fun adC' adR' Hm1 i1 e1 e2 c1 r1 => hnext adC' adR' C' R' Hm1 g3 i1 e1 e2 c1 r1
  · obtain ⟨a, C', R', g1, g2, g3⟩ := hcase 7 (xs (4 * q + 1)) (xs (4 * q + 2)) (xs (4 * q + 3)) C R (by omega) (by decide) hS
    refine lv_tableIn (tgt := 399) hx hb dl_32 (by decide) (by decide) rfl rfl ?_
    exact lz_case_7 S g1 g2 fun adC' adR' Hm1 i1 e1 e2 c1 r1 => hnext adC' adR' C' R' Hm1 g3 i1 e1 e2 c1 r1
  · obtain ⟨a, C', R', g1, g2, g3⟩ := hcase 8 (xs (4 * q + 1)) (xs (4 * q + 2)) (xs (4 * q + 3)) C R (by omega) (by decide) hS
    refine lv_tableIn (tgt := 432) hx hb dl_32 (by decide) (by decide) rfl rfl ?_
    exact lz_case_8 S g1 g2 fun adC' adR' Hm1 i1 e1 e2 c1 r1 => hnext adC' adR' C' R' Hm1 g3 i1 e1 e2 c1 r1
  · obtain ⟨a, C', R', g1, g2, g3⟩ := hcase 9 (xs (4 * q + 1)) (xs (4 * q + 2)) (xs (4 * q + 3)) C R (by omega) (by decide) hS
    refine lv_tableIn (tgt := 465) hx hb dl_32 (by decide) (by decide) rfl rfl ?_
    exact lz_case_9 S g1 g2 fun adC' adR' Hm1 i1 e1 e2 c1 r1 => hnext adC' adR' C' R' Hm1 g3 i1 e1 e2 c1 r1
  · obtain ⟨a, C', R', g1, g2, g3⟩ := hcase 10 (xs (4 * q + 1)) (xs (4 * q + 2)) (xs (4 * q + 3)) C R (by omega) (by decide) hS
    refine lv_tableIn (tgt := 488) hx hb dl_32 (by decide) (by decide) rfl rfl ?_
    exact lz_case_10 S g1 g2 fun adC' adR' Hm1 i1 e1 e2 c1 r1 => hnext adC' adR' C' R' Hm1 g3 i1 e1 e2 c1 r1
  · obtain ⟨a, C', R', g1, g2, g3⟩ := hcase 11 (xs (4 * q + 1)) (xs (4 * q + 2)) (xs (4 * q + 3)) C R (by omega) (by decide) hS
    refine lv_tableIn (tgt := 521) hx hb dl_32 (by decide) (by decide) rfl rfl ?_
    exact lz_case_11 S g1 g2 fun adC' adR' Hm1 i1 e1 e2 c1 r1 => hnext adC' adR' C' R' Hm1 g3 i1 e1 e2 c1 r1
  · obtain ⟨a, C', R', g1, g2, g3⟩ := hcase 12 (xs (4 * q + 1)) (xs (4 * q + 2)) (xs (4 * q + 3)) C R (by omega) (by decide) hS
    refine lv_tableIn (tgt := 554) hx hb dl_32 (by decide) (by decide) rfl rfl ?_
    exact lz_case_12 S g1 g2 fun adC' adR' Hm1 i1 e1 e2 c1 r1 => hnext adC' adR' C' R' Hm1 g3 i1 e1 e2 c1 r1
  · obtain ⟨a, C', R', g1, g2, g3⟩ := hcase 13 (xs (4 * q + 1)) (xs (4 * q + 2)) (xs (4 * q + 3)) C R (by omega) (by decide) hS
    refine lv_tableIn (tgt := 587) hx hb dl_32 (by decide) (by decide) rfl rfl ?_
    exact lz_case_13 S g1 g2 fun adC' adR' Hm1 i1 e1 e2 c1 r1 => hnext adC' adR' C' R' Hm1 g3 i1 e1 e2 c1 r1
  · obtain ⟨a, C', R', g1, g2, g3⟩ := hcase 14 (xs (4 * q + 1)) (xs (4 * q + 2)) (xs (4 * q + 3)) C R (by omega) (by decide) hS
    refine lv_tableIn (tgt := 630) hx hb dl_32 (by decide) (by decide) rfl rfl ?_
    exact lz_case_14 S g1 g2 fun adC' adR' Hm1 i1 e1 e2 c1 r1 => hnext adC' adR' C' R' Hm1 g3 i1 e1 e2 c1 r1
  · obtain ⟨a, C', R', g1, g2, g3⟩ := hcase 15 (xs (4 * q + 1)) (xs (4 * q + 2)) (xs (4 * q + 3)) C R (by omega) (by decide) hS
    refine lv_tableIn (tgt := 653) hx hb dl_32 (by decide) (by decide) rfl rfl ?_
    exact lz_case_15 S g1 g2 fun adC' adR' Hm1 i1 e1 e2 c1 r1 => hnext adC' adR' C' R' Hm1 g3 i1 e1 e2 c1 r1
  · obtain ⟨a, C', R', g1, g2, g3⟩ := hcase 16 (xs (4 * q + 1)) (xs (4 * q + 2)) (xs (4 * q + 3)) C R (by omega) (by decide) hS
    refine lv_tableIn (tgt := 666) hx hb dl_32 (by decide) (by decide) rfl rfl ?_
    exact lz_case_16 S g1 g2 fun adC' adR' Hm1 i1 e1 e2 c1 r1 => hnext adC' adR' C' R' Hm1 g3 i1 e1 e2 c1 r1
  · obtain ⟨a, C', R', g1, g2, g3⟩ := hcase 17 (xs (4 * q + 1)) (xs (4 * q + 2)) (xs (4 * q + 3)) C R (by omega) (by decide) hS
    refine lv_tableIn (tgt := 679) hx hb dl_32 (by decide) (by decide) rfl rfl ?_
    exact lz_case_17 S g1 g2 fun adC' adR' Hm1 i1 e1 e2 c1 r1 => hnext adC' adR' C' R' Hm1 g3 i1 e1 e2 c1 r1
  · obtain ⟨a, C', R', g1, g2, g3⟩ := hcase 18 (xs (4 * q + 1)) (xs (4 * q + 2)) (xs (4 * q + 3)) C R (by omega) (by decide) hS
    refine lv_tableIn (tgt := 692) hx hb dl_32 (by decide) (by decide) rfl rfl ?_
    exact lz_case_18 S g1 g2 fun adC' adR' Hm1 i1 e1 e2 c1 r1 => hnext adC' adR' C' R' Hm1 g3 i1 e1 e2 c1 r1
  · obtain ⟨a, C', R', g1, g2, g3⟩ := hcase 19 (xs (4 * q + 1)) (xs (4 * q + 2)) (xs (4 * q + 3)) C R (by omega) (by decide) hS
    refine lv_tableIn (tgt := 715) hx hb dl_32 (by decide) (by decide) rfl rfl ?_
    exact lz_case_19 S g1 g2 fun adC' adR' Hm1 i1 e1 e2 c1 r1 => hnext adC' adR' C' R' Hm1 g3 i1 e1 e2 c1 r1
  · obtain ⟨a, C', R', g1, g2, g3⟩ := hcase 20 (xs (4 * q + 1)) (xs (4 * q + 2)) (xs (4 * q + 3)) C R (by omega) (by decide) hS
    refine lv_tableIn (tgt := 738) hx hb dl_32 (by decide) (by decide) rfl rfl ?_
    exact lz_case_20 S g1 g2 fun adC' adR' Hm1 i1 e1 e2 c1 r1 => hnext adC' adR' C' R' Hm1 g3 i1 e1 e2 c1 r1
  · obtain ⟨a, C', R', g1, g2, g3⟩ := hcase 21 (xs (4 * q + 1)) (xs (4 * q + 2)) (xs (4 * q + 3)) C R (by omega) (by decide) hS
    refine lv_tableIn (tgt := 761) hx hb dl_32 (by decide) (by decide) rfl rfl ?_
    exact lz_case_21 S g1 g2 fun adC' adR' Hm1 i1 e1 e2 c1 r1 => hnext adC' adR' C' R' Hm1 g3 i1 e1 e2 c1 r1
  · obtain ⟨a, C', R', g1, g2, g3⟩ := hcase 22 (xs (4 * q + 1)) (xs (4 * q + 2)) (xs (4 * q + 3)) C R (by omega) (by decide) hS
    refine lv_tableIn (tgt := 784) hx hb dl_32 (by decide) (by decide) rfl rfl ?_
    exact lz_case_22 S g1 g2 fun adC' adR' Hm1 i1 e1 e2 c1 r1 => hnext adC' adR' C' R' Hm1 g3 i1 e1 e2 c1 r1
  · obtain ⟨a, C', R', g1, g2, g3⟩ := hcase 23 (xs (4 * q + 1)) (xs (4 * q + 2)) (xs (4 * q + 3)) C R (by omega) (by decide) hS
    refine lv_tableIn (tgt := 807) hx hb dl_32 (by decide) (by decide) rfl rfl ?_
    exact lz_case_23 S g1 g2 fun adC' adR' Hm1 i1 e1 e2 c1 r1 => hnext adC' adR' C' R' Hm1 g3 i1 e1 e2 c1 r1
  · obtain ⟨a, C', R', g1, g2, g3⟩ := hcase 24 (xs (4 * q + 1)) (xs (4 * q + 2)) (xs (4 * q + 3)) C R (by omega) (by decide) hS
    refine lv_tableIn (tgt := 830) hx hb dl_32 (by decide) (by decide) rfl rfl ?_
    exact lz_case_24 S g1 g2 fun adC' adR' Hm1 i1 e1 e2 c1 r1 => hnext adC' adR' C' R' Hm1 g3 i1 e1 e2 c1 r1
  · obtain ⟨a, C', R', g1, g2, g3⟩ := hcase 25 (xs (4 * q + 1)) (xs (4 * q + 2)) (xs (4 * q + 3)) C R (by omega) (by decide) hS
    refine lv_tableIn (tgt := 879) hx hb dl_32 (by decide) (by decide) rfl rfl ?_
    exact lz_case_25 S g1 g2 fun adC' adR' Hm1 i1 e1 e2 c1 r1 => hnext adC' adR' C' R' Hm1 g3 i1 e1 e2 c1 r1
  · obtain ⟨a, C', R', g1, g2, g3⟩ := hcase 26 (xs (4 * q + 1)) (xs (4 * q + 2)) (xs (4 * q + 3)) C R (by omega) (by decide) hS
    refine lv_tableIn (tgt := 892) hx hb dl_32 (by decide) (by decide) rfl rfl ?_
    exact lz_case_26 S g1 g2 fun adC' adR' Hm1 i1 e1 e2 c1 r1 => hnext adC' adR' C' R' Hm1 g3 i1 e1 e2 c1 r1
  · exact hout j h27 hj
end LL
