/-! two worlds side by side, as the law holds them: the class's and the reference's -/
def xo_E0 : xo_H := (fun _ _ => 0, fun _ _ => none, fun _ => false)
theorem xo_R_A {G : xo_G} {A A' : Nat → Prop} {ad : xo_N → Nat} {H : xo_H} {Hm : Heap} (h : xo_R G A ad H Hm) (hA : ∀ n, H.2.2 n = true → A' (ad n)) : xo_R G A' ad H Hm :=
  ⟨fun n hn => ⟨(h.1 n hn).1, hA n hn⟩, h.2⟩
theorem xo_R_kept {G : xo_G} {A : Nat → Prop} {ad : xo_N → Nat} {H : xo_H} {Hm Hm1 : Heap} (h : xo_R G A ad H Hm) (hk : ∀ n, H.2.2 n = true → Hm1[ad n]? = Hm[ad n]?) : xo_R G A ad H Hm1 :=
  ⟨fun n hn => ⟨xo_at_kept (h.1 n hn).1 (hk n hn) rfl rfl, (h.1 n hn).2⟩, h.2⟩
def lz_C (p : Program) (s : State) (m : MethodId) (c : Code) (b : Nat) (G : xo_G) : Prop :=
  p.tables.exec = Jvm.exec ∧ c.code = code ∧ c.maxLocals = 4 ∧ s.vm.findClass "FlowKernelLaw" = some m.cls ∧ (∀ w ∈ lw_tbl, w.before #[Value.ref b] s = true) ∧ xo_K G s
def lz_I (G : xo_G) (s : State) (adA : xo_N → Nat) (HA : xo_H) (adB : xo_N → Nat) (HB : xo_H) (Hm : Heap) : Prop :=
  xo_R G (fun q => s.heap.size ≤ q) adA HA Hm ∧ xo_R G (fun q => s.heap.size ≤ q) adB HB Hm ∧ (∀ n n', HA.2.2 n = true → HB.2.2 n' = true → adA n ≠ adB n') ∧ s.heap.size ≤ Hm.size ∧ ∀ q, q < s.heap.size → Hm[q]? = s.heap[q]?
theorem lz_swap {G : xo_G} {s : State} {adA adB : xo_N → Nat} {HA HB : xo_H} {Hm : Heap} (h : lz_I G s adA HA adB HB Hm) : lz_I G s adB HB adA HA Hm :=
  ⟨h.2.1, h.1, fun n n' hn hn' e => h.2.2.1 n' n hn' hn e.symm, h.2.2.2⟩
def lz_A (ad : xo_N → Nat) (H : xo_H) (Hm : Heap) : Nat → Prop := fun q => (∃ n, H.2.2 n = true ∧ ad n = q) ∨ Hm.size ≤ q
theorem lz_next {G : xo_G} {s st t : State} {adA adB adA' : xo_N → Nat} {HA HB HA' : xo_H} {Hm : Heap} (h : lz_I G s adA HA adB HB Hm) (hst : st.heap = Hm) (hR : xo_R G (lz_A adA HA Hm) adA' HA' t.heap) (hF : va_F (lz_A adA HA Hm) st t) : lz_I G s adA' HA' adB HB t.heap := by
  obtain ⟨h1, h2, h3, h4, h5⟩ := h
  obtain ⟨f1, f2⟩ := hF
  rw [hst] at f1 f2
  have hA : ∀ q, lz_A adA HA Hm q → s.heap.size ≤ q := fun q hq => by
    rcases hq with ⟨n, hn, rfl⟩ | hq
    · exact (h1.1 n hn).2
    · omega
  have hB : ∀ n', HB.2.2 n' = true → ¬ lz_A adA HA Hm (adB n') := fun n' hn' hq => by
    rcases hq with ⟨n, hn, e⟩ | hq
    · exact h3 n n' hn hn' e
    · have := xo_at_lt (h2.1 n' hn').1
      omega
  refine ⟨xo_R_A hR fun n hn => hA _ (hR.1 n hn).2, xo_R_kept h2 fun n hn => f2 _ (xo_at_lt (h2.1 n hn).1) (hB n hn), fun n n' hn hn' e => hB n' hn' (e ▸ (hR.1 n hn).2), by omega, fun q hq => ?_⟩
  rw [f2 q (by omega) fun z => by have := hA q z; omega]
  exact h5 q hq
theorem lz_good (mc : xo_T) (h : Cond.code mc.1 mc.2.1 mc.2.2.1 mc.2.2.2.1 ∈ xo_WS) : GoodIn lw_tbl (xo_ws mc) := by
  have key : ∀ w ∈ xo_WS, w ∈ lw_tbl ∧ ((w.onTables && w.keeps) = true ∨ ∃ ty, w = .arrayClass ty) := fun w hw => by
    refine ⟨(List.mem_filter.mp hw).1, ?_⟩
    have h2 : xo_ok w = true := (List.mem_filter.mp hw).2
    unfold xo_ok at h2
    rcases Bool.or_eq_true _ _ |>.mp h2 with h3 | h3
    · exact Or.inl h3
    · right
      split at h3
      next ty => exact ⟨ty, rfl⟩
      next => cases h3
  intro w hw
  rcases List.mem_cons.mp hw with rfl | hw
  · exact key _ h
  · exact key w hw
theorem lz_isum (l : List Value) (h : ∀ v ∈ l, v.category = 1) : (l.map fun v => v.category).sum = l.length := by
  induction l with
  | nil => rfl
  | cons a l ih =>
    rw [List.map_cons, List.sum_cons, ih (fun v hv => h v (List.mem_cons_of_mem _ hv)), h a List.mem_cons_self, List.length_cons, Nat.add_comm]
theorem lz_ints (ad : xo_N → Nat) (vs : List Int32) : (vs.map fun v => (Sum.inl v : xo_V)).map (xo_tr ad) = vs.map Value.int := by
  rw [List.map_map]; rfl
theorem lz_lvI (H : xo_H) (vs : List Int32) : ∀ v ∈ vs.map (fun v => (Sum.inl v : xo_V)), xo_lv H v := fun v hv => by
  obtain ⟨x, -, rfl⟩ := List.mem_map.mp hv
  exact xo_lvI H x
section LZ
variable {p : Program} {l : Launch} {e : Env} {s : State} {m : MethodId} {below : List Frame} {meth : Method} {c : Code} {b : Nat} {Hm : Heap} {cells slots : Nat} {Q : State → Prop} {pc ix ci N NN : Nat} {lsA : Array Slot} {rest : List Value} {G : xo_G} {adA adB : xo_N → Nat} {HA HB HA' : xo_H} {mc : xo_T} {n : xo_N} {vs : List Int32} {v : Int32} {T : u_T}
theorem lz_call (C0 : lz_C p s m c b G) (hI : lz_I G s adA HA adB HB Hm) (hd : decode code pc = .ok (.invokevirtual ix, 3)) (hcv : xo_cv mc N) (hlk : Cond.methodLink "FlowKernelLaw" ix mc.1 ∈ lw_tbl) (hcl : xo_cls[ci]? = some (mc.1.cls, T, NN)) (hkd : xo_kd n = .inl ci) (hn : HA.2.2 n = true) (hvs : vs.length = N) (hrm : mc.2.2.2.2.frames + 1 ≤ room_1.frames ∧ 8 + (mc.2.2.1 + 11) + mc.2.2.2.2.locals ≤ room_1.locals) (hc : cells + mc.2.2.2.2.cells ≤ room_1.cells) (hs : slots + mc.2.2.2.2.slots ≤ room_1.slots)
    (hM : xo_M mc (.inr (some n) :: vs.map (fun v => (Sum.inl v : xo_V))) HA (xo_ji (v, HA'))) (hls : lsA.size = 4) (hr1 : ∀ v ∈ rest, v.category = 1) (hr8 : rest.length ≤ 8)
    (kk : ∀ (adA' : xo_N → Nat) (Hm1 : Heap), lz_I G s adA' HA' adB HB Hm1 → (∀ n, HA.2.2 n = true → adA' n = adA n ∧ HA'.2.2 n = true) → W p l e room_1 s m #[Value.ref b] below meth c Hm1 [] (cells + mc.2.2.2.2.cells) (slots + mc.2.2.2.2.slots) Q (F0 m (pc + 3) lsA (.int v :: rest))) :
    W p l e room_1 s m #[Value.ref b] below meth c Hm [] cells slots Q (F0 m pc lsA ((vs.map Value.int).reverse ++ .ref (adA n) :: rest)) := by
  obtain ⟨hex, hb, hml, hown, hts, hK⟩ := C0
  obtain ⟨hcm, hwi, hws⟩ := hcv
  obtain ⟨hcode, hini, hd1, hd2, hd3⟩ := hcm
  have hts' : ∀ w ∈ xo_WS, w.before #[Value.ref b] s = true := fun w hw => hts w (List.mem_filter.mp hw).1
  have hG := lz_good mc hcode
  have hR : xo_R G (lz_A adA HA Hm) adA HA Hm := xo_R_A hI.1 fun n hn => Or.inl ⟨n, hn, rfl⟩
  have hat := (hR.1 n hn).1
  unfold xo_at at hat
  simp only [hkd] at hat
  obtain ⟨rr, hrr, cell, q1, q2, q3, -⟩ := hat
  have hKn := hK.1 ci _ hcl
  have hPre : PreV s Hm mc.1.cls (adA n) (xo_P G (lz_A adA HA Hm) adA (.inr (some n) :: vs.map (fun v => (Sum.inl v : xo_V))) HA) (vs.map Value.int) := by
    refine ⟨xo_Pbl _ _ _ _ _, ⟨cell, q1, by rw [q3]; rfl, by rw [q2]; exact hKn.2.1⟩, fun U hU hW => ⟨?_, by rw [hU]; exact hR, xo_K_warm hW hK, fun q hq => Or.inr (by rw [hU] at hq; exact hq), xo_lvC (fun z hz => by cases hz; exact hn) (lz_lvI HA vs)⟩⟩
    rw [List.map_cons, lz_ints]; rfl
  have h8 : 2 * (F0 m pc lsA ((vs.map Value.int).reverse ++ .ref (adA n) :: rest)).monitorRoom + (rest.map fun v => v.category).sum ≤ 8 := by
    rw [lz_isum rest hr1]; simpa [JFrame.monitorRoom] using hr8
  have hrun := va_runV (cells := cells) (slots := slots) (locs := []) (g := F0 m pc lsA ((vs.map Value.int).reverse ++ .ref (adA n) :: rest)) (meth := meth) (e := e) (below := below) (R := room_1) (rest := rest) ⟨hex, hb, hml, hown, hts⟩ (hM l G (lz_A adA HA Hm) adA) ⟨callB_of N hts hG rfl rfl rfl (hts' _ hini) (hts _ hlk) ⟨hd1, hd2, hd3⟩ hrm, hts' _ hwi, hts' _ hws⟩ hPre rfl (by rw [List.length_map]; exact hvs) hls rfl h8 hd ⟨hc, hs⟩
  intro T hT X
  obtain ⟨v', st₀, t, T', L, h0, X', hL, e1, e2, ⟨ad', hv, hR1, hE1, ha1, hF⟩, st⟩ := hrun T hT X
  cases hv
  have hA : ∀ q, lz_A adA HA Hm q → s.heap.size ≤ q := fun q hq => by
    rcases hq with ⟨n, hn, rfl⟩ | hq
    · exact (hI.1.1 n hn).2
    · have := hI.2.2.2.1; omega
  obtain ⟨t2, a1, b1⟩ := kk ad' t.heap (lz_next hI h0 hR1 hF) hE1 T' e1 (Stand.forget (locs := []) X' (fun q hq => hA _ (hL q hq)))
  exact ⟨t2, st t2 a1, b1⟩
/-- a constructor's call -/
theorem lz_init (C0 : lz_C p s m c b G) (hI : lz_I G s adA HA adB HB Hm) (hd : decode code pc = .ok (.invokespecial ix, 3)) (hcv : xo_ci mc 0) (hlk : Cond.methodLink "FlowKernelLaw" ix mc.1 ∈ lw_tbl) (hn : HA.2.2 n = true) (hrm : mc.2.2.2.2.frames + 1 ≤ room_1.frames ∧ 8 + (mc.2.2.1 + 11) + mc.2.2.2.2.locals ≤ room_1.locals) (hc : cells + mc.2.2.2.2.cells ≤ room_1.cells) (hs : slots + mc.2.2.2.2.slots ≤ room_1.slots)
    (hM : xo_M mc [.inr (some n)] HA (xo_jv HA')) (hls : lsA.size = 4) (hr1 : ∀ v ∈ rest, v.category = 1) (hr8 : rest.length ≤ 8)
    (kk : ∀ (adA' : xo_N → Nat) (Hm1 : Heap), lz_I G s adA' HA' adB HB Hm1 → (∀ n, HA.2.2 n = true → adA' n = adA n ∧ HA'.2.2 n = true) → W p l e room_1 s m #[Value.ref b] below meth c Hm1 [] (cells + mc.2.2.2.2.cells) (slots + mc.2.2.2.2.slots) Q (F0 m (pc + 3) lsA rest)) :
    W p l e room_1 s m #[Value.ref b] below meth c Hm [] cells slots Q (F0 m pc lsA (.ref (adA n) :: rest)) := by
  obtain ⟨y, bytes, maxL, ret, rm⟩ := mc
  obtain ⟨hex, hb, hml, hown, hts, hK⟩ := C0
  obtain ⟨hcm, hwi, hnm, hret⟩ := hcv
  obtain ⟨hcode, hini, hd1, hd2, hd3⟩ := hcm
  simp only at hret
  subst hret
  have hts' : ∀ w ∈ xo_WS, w.before #[Value.ref b] s = true := fun w hw => hts w (List.mem_filter.mp hw).1
  have hG := lz_good (y, bytes, maxL, none, rm) hcode
  have hR : xo_R G (lz_A adA HA Hm) adA HA Hm := xo_R_A hI.1 fun n hn => Or.inl ⟨n, hn, rfl⟩
  have hPre : PreS s Hm (xo_P G (lz_A adA HA Hm) adA [.inr (some n)] HA) (.ref (adA n) :: []) := by
    exact ⟨xo_Pbl _ _ _ _ _, fun U hU hW => ⟨rfl, by rw [hU]; exact hR, xo_K_warm hW hK, fun q hq => Or.inr (by rw [hU] at hq; exact hq), xo_lvC (fun z hz => by cases hz; exact hn) (fun v hv => by cases hv)⟩⟩
  have h8 : 2 * (F0 m pc lsA (.ref (adA n) :: rest)).monitorRoom + (rest.map fun v => v.category).sum ≤ 8 := by
    rw [lz_isum rest hr1]; simpa [JFrame.monitorRoom] using hr8
  have hrun := va_runI (cells := cells) (slots := slots) (locs := []) (g := F0 m pc lsA (.ref (adA n) :: rest)) (meth := meth) (e := e) (below := below) (R := room_1) (rest := rest) (As := []) ⟨hex, hb, hml, hown, hts⟩ (hM l G (lz_A adA HA Hm) adA) ⟨callB_of 0 hts hG rfl rfl rfl (hts' _ hini) (hts _ hlk) ⟨hd1, hd2, hd3⟩ hrm, hnm, hts' _ hwi⟩ hPre rfl rfl hls rfl h8 hd ⟨hc, hs⟩
  intro T hT X
  obtain ⟨v', st₀, t, T', L, h0, X', hL, e1, e2, ⟨ad', hv, hR1, hE1, ha1, hF⟩, st⟩ := hrun T hT X
  cases hv
  have hA : ∀ q, lz_A adA HA Hm q → s.heap.size ≤ q := fun q hq => by
    rcases hq with ⟨n, hn, rfl⟩ | hq
    · exact (hI.1.1 n hn).2
    · have := hI.2.2.2.1; omega
  obtain ⟨t2, a1, b1⟩ := kk ad' t.heap (lz_next hI h0 hR1 hF) hE1 T' e1 (Stand.forget (locs := []) X' (fun q hq => hA _ (hL q hq)))
  exact ⟨t2, st t2 a1, b1⟩
/-- a new object begins a world -/
theorem lz_new {C : String} {ty : Nat → FieldType} (C0 : lz_C p s m c b G) (hI : lz_I G s adA xo_E0 adB HB Hm) (hcb : xo_cb ci C T N ty) (hdef : ∀ k, k < N → xo_fv (fun _ => 0) (T k).2.2.1 0 none = defaultValue (ty k)) (hw1 : Cond.classLink "FlowKernelLaw" ix C ∈ lw_tbl) (hw2 : Cond.instantiable C N ∈ xo_WS) (hw3 : Cond.initialized C ∈ xo_WS) (hkd : xo_kd n = .inl ci) (hc : cells + 1 ≤ room_1.cells) (hs : slots + N ≤ room_1.slots) (hd : decode code pc = .ok (.new ix, 3))
    (kk : ∀ (adA' : xo_N → Nat) (Hm1 : Heap), lz_I G s adA' (xo_sN xo_E0 n) adB HB Hm1 → W p l e room_1 s m #[Value.ref b] below meth c Hm1 [] (cells + 1) (slots + N) Q (F0 m (pc + 3) lsA (.ref (adA' n) :: rest))) :
    W p l e room_1 s m #[Value.ref b] below meth c Hm [] cells slots Q (F0 m pc lsA rest) := by
  obtain ⟨hex, hb, hml, hown, hts, hK⟩ := C0
  have hts' : ∀ w ∈ xo_WS, w.before #[Value.ref b] s = true := fun w hw => hts w (List.mem_filter.mp hw).1
  have hKn := hK.1 ci _ hcb.1
  obtain ⟨i1, i2, i3, i4, i5⟩ := hI
  refine W.newcK hex hb hown (hts _ hw1) (hts' _ hw2) (hts' _ hw3) rfl hd hc hs hKn.2.1 rfl fun H1 kC hkC e1 z1 o1 => ?_
  have hat : xo_at G (xo_ua adA n Hm.size) H1 (xo_sN xo_E0 n) n := by
    unfold xo_at
    simp only [hkd]
    rw [xo_ua_s]
    refine ⟨_, hcb.1, (u_born ty hts' hcb.2.1 hKn hkC e1 hcb.2.2.1).to fun k hk => ?_⟩
    rw [← hdef k hk]
    simp [xo_sN, xo_fv]
  have h2 := kk (xo_ua adA n Hm.size) H1 ⟨xo_R_new i1 rfl i4 hat o1, xo_R_kept i2 fun n' hn' => o1 _ (xo_at_lt (i2.1 n' hn').1), fun n1 n' hn1 hn' e => ?_, by omega, fun q hq => by rw [o1 q (by omega)]; exact i5 q hq⟩
  · rw [xo_ua_s] at h2
    exact h2
  · have e1 : n1 = n := by
      by_cases z : n1 = n
      · exact z
      · simp [xo_sN, xo_E0, z] at hn1
    subst e1
    rw [xo_ua_s] at e
    have := xo_at_lt (i2.1 n' hn').1
    omega
end LZ
