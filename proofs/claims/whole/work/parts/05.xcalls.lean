/-! ends, beginnings, calls -/
theorem xo_no {α : Type} {mt : xo_T} {rc rs : Nat} {j : α → Option xo_V × xo_H} {r : α} {pc : Nat} {ls : List (Nat × xo_V)} {st : List xo_V} {H : xo_H} : xo_X mt rc rs j r pc ls st H none := fun h => by cases h
theorem xo_less {α : Type} {mt : xo_T} {rc rs rc' rs' : Nat} {j : α → Option xo_V × xo_H} {r : α} {pc : Nat} {ls : List (Nat × xo_V)} {st : List xo_V} {H : xo_H} {k : Option α} (h1 : rc' ≤ rc) (h2 : rs' ≤ rs) (kk : xo_X mt rc' rs' j r pc ls st H k) : xo_X mt rc rs j r pc ls st H k := by
  intro hk p l e R s m args below meth c G A ad0 lv0 ad Hm locs cells slots lsA C0 hR hS hE hc hs hl hL hT
  exact kk hk p l e R s m args below meth c G A ad0 lv0 ad Hm locs cells slots lsA C0 hR hS hE (by omega) (by omega) hl hL hT
theorem xo_ii {n : Int} {m x : Int32} (h : Int32.ofInt n = m) : x + Int32.ofInt n = x + m := by rw [h]
section XE
variable {mt : xo_T} {rc rs : Nat} {pc : Nat} {ls : List (Nat × xo_V)} {H : xo_H}
theorem xo_vret {r : xo_H} (hd : decode mt.2.1 pc = .ok (.return_, 1)) (hr : mt.2.2.2.1 = none) : xo_X mt rc rs xo_jv r pc ls [] H (some H) := by
  intro hk p l e R s m args below meth c G A ad0 lv0 ad Hm locs cells slots lsA C0 hR hS hE hc hs hl hL hT
  cases hk
  refine W.widen (k := R.cells) (n := R.slots) (by omega) (by omega) ?_
  exact W.vret C0.1 C0.2.1 (C0.2.2.2.2.2.2.2.1.trans hr) (fun t ht hW => ⟨ad, rfl, by rw [ht]; exact hR, hE, (fun v hv => by cases hv), hS.F ht⟩) hS.2.2 hd C0.2.2.2.2.2.2.1
theorem xo_iret {r : Int32 × xo_H} {v : Int32} (hd : decode mt.2.1 pc = .ok (.ireturn, 1)) (hr : mt.2.2.2.1 = some .int) : xo_X mt rc rs xo_ji r pc ls [.inl v] H (some (v, H)) := by
  intro hk p l e R s m args below meth c G A ad0 lv0 ad Hm locs cells slots lsA C0 hR hS hE hc hs hl hL hT
  cases hk
  refine W.widen (k := R.cells) (n := R.slots) (by omega) (by omega) ?_
  exact W.iret C0.1 C0.2.1 (C0.2.2.2.2.2.2.2.1.trans hr) (fun t ht hW => ⟨ad, rfl, by rw [ht]; exact hR, hE, (fun v hv => by cases hv; exact xo_lvI _ _), hS.F ht⟩) hS.2.2 hd C0.2.2.2.2.2.2.1
theorem xo_zret {r : Int32 × xo_H} {v : Int32} (hd : decode mt.2.1 pc = .ok (.ireturn, 1)) (hr : mt.2.2.2.1 = some .boolean) : xo_X mt rc rs xo_ji r pc ls [.inl v] H (xo_gb v (some (v, H))) := by
  intro hk p l e R s m args below meth c G A ad0 lv0 ad Hm locs cells slots lsA C0 hR hS hE hc hs hl hL hT
  unfold xo_gb at hk
  split at hk
  next hv =>
    cases hk
    refine W.widen (k := R.cells) (n := R.slots) (by omega) (by omega) ?_
    exact W.zret C0.1 C0.2.1 (C0.2.2.2.2.2.2.2.1.trans hr) (xo_nz hv).1 (fun t ht hW => ⟨ad, rfl, by rw [ht]; exact hR, hE, (fun v hv => by cases hv; exact xo_lvI _ _), hS.F ht⟩) hS.2.2 hd C0.2.2.2.2.2.2.1
  next => cases hk
theorem xo_aret {r : Option xo_N × xo_H} {o : Option xo_N} {C : String} (hd : decode mt.2.1 pc = .ok (.areturn, 1)) (hr : mt.2.2.2.1 = some (.object C)) : xo_X mt rc rs xo_jp r pc ls [.inr o] H (some (o, H)) := by
  intro hk p l e R s m args below meth c G A ad0 lv0 ad Hm locs cells slots lsA C0 hR hS hE hc hs hl hL hT
  cases hk
  refine W.widen (k := R.cells) (n := R.slots) (by omega) (by omega) ?_
  exact W.aret C0.1 C0.2.1 (C0.2.2.2.2.2.2.2.1.trans hr) (Or.inl ⟨C, rfl⟩) (by cases o with | none => exact Or.inl rfl | some n => exact Or.inr ⟨ad n, rfl⟩) (fun t ht hW => ⟨ad, rfl, by rw [ht]; exact hR, hE, (fun v hv => by cases hv; exact xo_lvH hT), hS.F ht⟩) hS.2.2 hd C0.2.2.2.2.2.2.1
end XE
def xo_ar : Nat → List xo_V → List (Nat × xo_V)
  | _, [] => []
  | i, v :: vs => (i, v) :: xo_ar (i + 1) vs
theorem xo_ar_tr (ad : xo_N → Nat) : ∀ (as : List xo_V) (i : Nat), lv_args i (as.map (xo_tr ad)) = (xo_ar i as).map fun q => (q.1, xo_tr ad q.2)
  | [], i => rfl
  | v :: vs, i => by
    have hc : ¬ (xo_tr ad v).category = 2 := by rw [xo_cat]; decide
    simp only [List.map_cons, lv_args, xo_ar, if_neg hc]
    rw [xo_ar_tr ad vs (i + 1)]
theorem xo_ar_lv {H : xo_H} : ∀ {as : List xo_V} {i : Nat}, (∀ v ∈ as, xo_lv H v) → ∀ q ∈ xo_ar i as, xo_lv H q.2
  | [], _, _, q, hq => by cases hq
  | v :: vs, i, h, q, hq => by
    rcases List.mem_cons.mp hq with rfl | hq
    · exact h v List.mem_cons_self
    · exact xo_ar_lv (fun w hw => h w (List.mem_cons_of_mem _ hw)) q hq
theorem xo_sl (ad : xo_N → Nat) : ∀ as : List xo_V, (lg_sl (as.map (xo_tr ad))).length = as.length
  | [] => rfl
  | v :: vs => by
    have hc : ¬ (xo_tr ad v).category = 2 := by rw [xo_cat]; decide
    have ih := xo_sl ad vs
    unfold lg_sl at ih ⊢
    rw [List.map_cons, List.flatMap_cons, if_neg hc, List.length_append, ih]
    simp [Nat.add_comm]
theorem xo_entry {α : Type} {mt : xo_T} {j : α → Option xo_V × xo_H} {as : List xo_V} {H : xo_H} {k : Option α} {r : α} (hk : k = some r) (hpl : plainName mt.1.cls = true) (hn : as.length ≤ mt.2.2.1) (h : xo_X mt mt.2.2.2.2.cells mt.2.2.2.2.slots j r 0 (xo_ar 0 as) [] H k) : xo_M mt as H (j r) := by
  intro l G A ad
  refine Met.ofW (cc := mt.2.1) (maxL := mt.2.2.1) (ret := mt.2.2.2.1) hpl rfl ?_
  intro p e s m args below meth c s₁ B hml hP
  obtain ⟨rfl, hR, hK, hA, hL⟩ := hP
  have hts := atoms_spec (ws := xo_ws mt) B.pre
  have hl := lv_entry (as.map (xo_tr ad)) (n := mt.2.2.1) (by rw [xo_sl]; exact hn)
  rw [lg_entry_eq]
  rw [xo_ar_tr] at hl
  exact h hk p l e _ s m _ below meth c G A ad H.2.2 ad s.heap [] 0 0 _ ⟨B.exec, B.bytes, hml, findClass_of_methodNamed B.named, hts, hK, B.notSynchronized, B.returns, (name_of_methodNamed B.named B.method).1, rfl, hA⟩ hR va_S.rf (fun n hn => ⟨rfl, hn⟩) (Nat.le_of_eq (Nat.zero_add _)) (Nat.le_of_eq (Nat.zero_add _)) hl (xo_ar_lv hL) (fun v hv => by cases hv)
/-- what a callee's words must give -/
def xo_cm (mc : xo_T) (n : Nat) : Prop := Cond.code mc.1 mc.2.1 mc.2.2.1 mc.2.2.2.1 ∈ xo_WS ∧ Cond.initialized mc.1.cls ∈ xo_WS ∧ mc.1.cls ≠ "java/lang/invoke/MethodHandle" ∧ mc.1.cls ≠ "java/lang/invoke/VarHandle" ∧ (parseMethodDescriptor mc.1.desc).map (fun d => d.parameters.length) = some n
def xo_cv (mc : xo_T) (n : Nat) : Prop := xo_cm mc n ∧ Cond.instanceMethod mc.1 ∈ xo_WS ∧ Cond.selects mc.1.cls mc.1 mc.1 ∈ xo_WS
def xo_cs (mc : xo_T) (n : Nat) : Prop := xo_cm mc n ∧ Cond.static mc.1 ∈ xo_WS
def xo_ci (mc : xo_T) (n : Nat) : Prop := xo_cm mc n ∧ Cond.instanceMethod mc.1 ∈ xo_WS ∧ mc.1.name = "<init>" ∧ mc.2.2.2.1 = none
def xo_ml (own : String) (ix : Nat) (y : MethodName) : Prop := Cond.methodLink own ix y ∈ xo_WS ∨ ∃ host, Cond.methodLinkNest own ix y host ∈ xo_NW
abbrev xo_rr (mt mc : xo_T) : Prop := mc.2.2.2.2.frames + 1 ≤ mt.2.2.2.2.frames ∧ 8 + (mc.2.2.1 + 11) + mc.2.2.2.2.locals ≤ mt.2.2.2.2.locals
theorem xo_K_same {G : xo_G} {u U : State} (hv : u.vm = U.vm) (h : xo_K G u) : xo_K G U := by
  obtain ⟨h1, h2, h3, h4⟩ := h
  have ha : u.vm.Alike U.vm := hv ▸ Vm.Alike.refl _
  refine ⟨fun c q hq => u_Kn_moved ha (h1 c q hq), fun t ht => ⟨arrOfT_moved ha (h2 t ht).1, (h2 t ht).2.moved ha⟩, fun w hw => ?_, fun t a b => va_AO.moved ha (h4 t a b)⟩
  have hi : xo_isN w = true := (List.mem_filter.mp hw).2
  have hz := h3 w hw
  unfold xo_isN at hi
  split at hi
  · exact va_Nw.same rfl hv hz
  · exact va_Nw.same rfl hv hz
  · cases hi
theorem xo_Pbl (G : xo_G) (A : Nat → Prop) (ad : xo_N → Nat) (as : List xo_V) (H : xo_H) : FrameBlind (xo_P G A ad as H) := fun _ U g mk h => by
  obtain ⟨h1, h2, h3, h4, h5⟩ := h
  exact ⟨h1, h2, xo_K_same (u := U) (U := U.calling g mk _) rfl h3, h4, h5⟩
theorem xo_csum (ad : xo_N → Nat) : ∀ st : List xo_V, ((st.map (xo_tr ad)).map fun v => v.category).sum = st.length
  | [] => rfl
  | v :: st => by
    rw [List.map_cons, List.map_cons, List.sum_cons, xo_csum ad st, xo_cat, List.length_cons, Nat.add_comm]
section XM
variable {p : Program} {l : Launch} {e : Env} {R : Room} {s : State} {m : MethodId} {args : Array Value} {below : List Frame} {meth : Method} {c : Code} {Hm : Heap} {locs : List Loc} {cells slots mcc mss : Nat} {Q : State → Prop}
variable {G : xo_G} {A : Nat → Prop} {ad : xo_N → Nat} {lv : xo_N → Bool} {mt mc : xo_T} {H : xo_H} {pc ix N : Nat} {lsA : Array Slot} {rest st0 : List Value} {a : Option xo_V × xo_H} {av : Array Value}
theorem xo_run (hr : va_Run p l e R s m args below meth c Hm locs cells slots mcc mss (F0 m pc lsA st0) rest (xo_Q G A ad lv a av) A) (hS : va_S A s.heap Hm locs)
    (kk : ∀ (ad' : xo_N → Nat) (H1 : Heap) (locs1 : List Loc), xo_R G A ad' a.2 H1 → (∀ n, lv n = true → ad' n = ad n ∧ a.2.2.2 n = true) → (∀ v, a.1 = some v → xo_lv a.2 v) → va_S A s.heap H1 locs1 → W p l e R s m args below meth c H1 locs1 (cells + mcc) (slots + mss) Q (F0 m (pc + 3) lsA ((a.1.map (xo_tr ad')).toList ++ rest))) : W p l e R s m args below meth c Hm locs cells slots Q (F0 m pc lsA st0) := by
  intro T hT X
  obtain ⟨v, st₀, t, T', L, h0, X', hL, e1, e2, ⟨ad', hv, hR1, hE1, ha1, hF⟩, st⟩ := hr T hT X
  cases hv
  obtain ⟨hz, hk⟩ := hF
  rw [h0] at hz hk
  obtain ⟨t2, a1, b1⟩ := kk ad' T'.heap (locs ++ L) (by rw [e1]; exact hR1) hE1 ha1
    ⟨Nat.le_trans hS.1 (by rw [e1]; exact hz), fun q h1 h2 => by rw [e1, hk q (Nat.lt_of_lt_of_le h1 hS.1) h2]; exact hS.2.1 q h1 h2, fun q hq => by
      rcases List.mem_append.mp hq with h | h
      · exact hS.2.2 q h
      · exact hL q h⟩ T' rfl X'
  exact ⟨t2, st t2 a1, b1⟩
end XM
section XL
variable {α β : Type} {mt mc : xo_T} {rc rs rc' rs' : Nat} {j : α → Option xo_V × xo_H} {j1 : β → Option xo_V × xo_H} {r : α} {pc pc' ix ci N NN : Nat} {ls : List (Nat × xo_V)} {st sg as : List xo_V} {H : xo_H} {o : Option xo_N} {C : String} {T : u_T} {K : β → Option α} {f : xo_N → Option β} {k1 : Option β}
theorem xo_callV (hd : decode mt.2.1 pc = .ok (.invokevirtual ix, 3)) (hcv : xo_cv mc N) (hlk : xo_ml mt.1.cls ix mc.1) (hcl : xo_cls[ci]? = some (mc.1.cls, T, NN)) (has : as.length = N) (hrm : xo_rr mt mc) (hrc : rc' + mc.2.2.2.2.cells = rc) (hrs : rs' + mc.2.2.2.2.slots = rs) (hst : sg = as.reverse ++ .inr o :: st) (h8 : st.length ≤ 8) (hp : pc + 3 = pc')
    (hM : ∀ n r1, f n = some r1 → xo_M mc (.inr (some n) :: as) H (j1 r1)) (kk : ∀ r1, xo_X mt rc' rs' j r pc' ls ((j1 r1).1.toList ++ st) (j1 r1).2 (K r1)) : xo_X mt rc rs j r pc ls sg H (xo_cl ci o f K) := by
  intro hk p l e R s m args below meth c G A ad0 lv0 ad Hm locs cells slots lsA C0 hR hS hE hc hs hl hL hT
  subst hp
  subst hst
  cases o with
  | none => cases hk
  | some n =>
    have hTa : ∀ v ∈ as, xo_lv H v := fun v hv => hT v (List.mem_append_left _ (List.mem_reverse.mpr hv))
    have hTn : H.2.2 n = true := hT (.inr (some n)) (List.mem_append_right _ List.mem_cons_self) n rfl
    have hTs : ∀ v ∈ st, xo_lv H v := fun v hv => hT v (List.mem_append_right _ (List.mem_cons_of_mem _ hv))
    simp only [xo_cl, Option.bind_some] at hk
    split at hk
    next hkd =>
      cases hf : f n with
      | none => rw [hf] at hk; cases hk
      | some r1 =>
        rw [hf, Option.bind_some] at hk
        obtain ⟨hcm, hwi, hws⟩ := hcv
        obtain ⟨hcode, hini, hd1, hd2, hd3⟩ := hcm
        have hts' : ∀ w ∈ xo_WS, w.before args s = true := fun w hw => C0.2.2.2.2.1 w (List.mem_cons_of_mem _ hw)
        have hR0 : R = mt.2.2.2.2 := C0.2.2.2.2.2.2.2.2.2.1
        have hG := xo_good mt mc hcode
        have hat := (hR.1 n hTn).1
        unfold xo_at at hat
        simp only [hkd] at hat
        obtain ⟨rr, hrr, cell, q1, q2, q3, -⟩ := hat
        have hKn := C0.2.2.2.2.2.1.1 ci _ hcl
        have hPre : PreV s Hm mc.1.cls (ad n) (xo_P G A ad (.inr (some n) :: as) H) (as.map (xo_tr ad)) := by
          refine ⟨xo_Pbl _ _ _ _ _, ⟨cell, q1, by rw [q3]; rfl, by rw [q2]; exact hKn.2.1⟩, fun U hU hW => ⟨rfl, by rw [hU]; exact hR, xo_K_warm hW C0.2.2.2.2.2.1, fun q hq => C0.2.2.2.2.2.2.2.2.2.2 q (by rw [hU] at hq; exact Nat.le_trans hS.1 hq), xo_lvC (fun z hz => by cases hz; exact hTn) hTa⟩⟩
        have hroom : mc.2.2.2.2.frames + 1 ≤ R.frames ∧ 8 + (mc.2.2.1 + 11) + mc.2.2.2.2.locals ≤ R.locals := by rw [hR0]; exact hrm
        have hcs : cells + mc.2.2.2.2.cells ≤ R.cells ∧ slots + mc.2.2.2.2.slots ≤ R.slots := ⟨by omega, by omega⟩
        have hstk : (F0 m pc lsA ((as.reverse ++ .inr (some n) :: st).map (xo_tr ad))).stack = (as.map (xo_tr ad)).reverse ++ .ref (ad n) :: st.map (xo_tr ad) := by
          show (as.reverse ++ .inr (some n) :: st).map (xo_tr ad) = _
          rw [List.map_append, List.map_reverse, List.map_cons]
          rfl
        have h8' : 2 * (F0 m pc lsA ((as.reverse ++ .inr (some n) :: st).map (xo_tr ad))).monitorRoom + ((st.map (xo_tr ad)).map fun v => v.category).sum ≤ 8 := by
          rw [xo_csum]; simpa [JFrame.monitorRoom] using h8
        have hrun : va_Run p l e R s m args below meth c Hm locs cells slots mc.2.2.2.2.cells mc.2.2.2.2.slots (F0 m pc lsA ((as.reverse ++ .inr (some n) :: st).map (xo_tr ad))) (st.map (xo_tr ad)) (xo_Q G A ad H.2.2 (j1 r1) (Value.ref (ad n) :: as.map (xo_tr ad)).toArray) A := by
          rcases hlk with hlk | ⟨host, hlk⟩
          · exact va_runV ⟨C0.1, C0.2.1, C0.2.2.1, C0.2.2.2.1, C0.2.2.2.2.1⟩ (hM n r1 hf l G A ad) ⟨callB_of N C0.2.2.2.2.1 hG rfl rfl rfl (hts' _ hini) (hts' _ hlk) ⟨hd1, hd2, hd3⟩ hroom, hts' _ hwi, hts' _ hws⟩ hPre rfl (by rw [List.length_map]; exact has) hl.1 hstk h8' hd hcs
          · exact va_runVN ⟨C0.1, C0.2.1, C0.2.2.1, C0.2.2.2.1, C0.2.2.2.2.1⟩ (hM n r1 hf l G A ad) ⟨va_cnB N C0.2.2.2.2.1 hG rfl rfl rfl (C0.2.2.2.2.2.1.2.2.1 _ hlk) (hts' _ hini) ⟨hd1, hd2, hd3⟩ hroom, hts' _ hwi, hts' _ hws⟩ hPre rfl (by rw [List.length_map]; exact has) hl.1 hstk h8' hd hcs
        refine xo_run hrun hS fun ad' H1 locs1 hR1 hE1 ha1 hS1 => ?_
        have he : ∀ z, H.2.2 z = true → ad' z = ad z := fun z hz => (hE1 z hz).1
        have hst2 : ((j1 r1).1.map (xo_tr ad')).toList ++ st.map (xo_tr ad) = ((j1 r1).1.toList ++ st).map (xo_tr ad') := by
          rw [List.map_append, xo_stEq he hTs]
          cases (j1 r1).1 <;> rfl
        rw [hst2]
        refine kk r1 hk p l e R s m args below meth c G A ad0 lv0 ad' H1 locs1 _ _ lsA C0 hR1 hS1 (fun z hz => ⟨(he z (hE z hz).2).trans (hE z hz).1, (hE1 z (hE z hz).2).2⟩) (by omega) (by omega) (by rw [xo_lsEq he hL]; exact hl) (fun z hz => xo_lvUp (fun y hy => (hE1 y hy).2) (hL z hz)) (fun v hv => ?_)
        rcases List.mem_append.mp hv with hv | hv
        · exact ha1 v (by simpa using hv)
        · exact xo_lvUp (fun y hy => (hE1 y hy).2) (hTs v hv)
    next => cases hk
theorem xo_callS (hd : decode mt.2.1 pc = .ok (.invokestatic ix, 3)) (hcv : xo_cs mc N) (hlk : xo_ml mt.1.cls ix mc.1) (has : as.length = N) (hrm : xo_rr mt mc) (hrc : rc' + mc.2.2.2.2.cells = rc) (hrs : rs' + mc.2.2.2.2.slots = rs) (hst : sg = as.reverse ++ st) (h8 : st.length ≤ 8) (hp : pc + 3 = pc')
    (hM : ∀ r1, k1 = some r1 → xo_M mc as H (j1 r1)) (kk : ∀ r1, xo_X mt rc' rs' j r pc' ls ((j1 r1).1.toList ++ st) (j1 r1).2 (K r1)) : xo_X mt rc rs j r pc ls sg H (k1.bind K) := by
  intro hk p l e R s m args below meth c G A ad0 lv0 ad Hm locs cells slots lsA C0 hR hS hE hc hs hl hL hT
  subst hp
  subst hst
  have hTa : ∀ v ∈ as, xo_lv H v := fun v hv => hT v (List.mem_append_left _ (List.mem_reverse.mpr hv))
  have hTs : ∀ v ∈ st, xo_lv H v := fun v hv => hT v (List.mem_append_right _ hv)
  cases hf : k1 with
  | none => rw [hf] at hk; cases hk
  | some r1 =>
    rw [hf, Option.bind_some] at hk
    obtain ⟨hcm, hwi⟩ := hcv
    obtain ⟨hcode, hini, hd1, hd2, hd3⟩ := hcm
    have hts' : ∀ w ∈ xo_WS, w.before args s = true := fun w hw => C0.2.2.2.2.1 w (List.mem_cons_of_mem _ hw)
    have hR0 : R = mt.2.2.2.2 := C0.2.2.2.2.2.2.2.2.2.1
    have hG := xo_good mt mc hcode
    have hPre : PreS s Hm (xo_P G A ad as H) (as.map (xo_tr ad)) := by
      refine ⟨xo_Pbl _ _ _ _ _, fun U hU hW => ⟨rfl, by rw [hU]; exact hR, xo_K_warm hW C0.2.2.2.2.2.1, fun q hq => C0.2.2.2.2.2.2.2.2.2.2 q (by rw [hU] at hq; exact Nat.le_trans hS.1 hq), hTa⟩⟩
    have hroom : mc.2.2.2.2.frames + 1 ≤ R.frames ∧ 8 + (mc.2.2.1 + 11) + mc.2.2.2.2.locals ≤ R.locals := by rw [hR0]; exact hrm
    have hcs : cells + mc.2.2.2.2.cells ≤ R.cells ∧ slots + mc.2.2.2.2.slots ≤ R.slots := ⟨by omega, by omega⟩
    have hstk : (F0 m pc lsA ((as.reverse ++ st).map (xo_tr ad))).stack = (as.map (xo_tr ad)).reverse ++ st.map (xo_tr ad) := by
      show (as.reverse ++ st).map (xo_tr ad) = _
      rw [List.map_append, List.map_reverse]
    have h8' : 2 * (F0 m pc lsA ((as.reverse ++ st).map (xo_tr ad))).monitorRoom + ((st.map (xo_tr ad)).map fun v => v.category).sum ≤ 8 := by
      rw [xo_csum]; simpa [JFrame.monitorRoom] using h8
    have hrun : va_Run p l e R s m args below meth c Hm locs cells slots mc.2.2.2.2.cells mc.2.2.2.2.slots (F0 m pc lsA ((as.reverse ++ st).map (xo_tr ad))) (st.map (xo_tr ad)) (xo_Q G A ad H.2.2 (j1 r1) (as.map (xo_tr ad)).toArray) A := by
      rcases hlk with hlk | ⟨host, hlk⟩
      · exact va_runS ⟨C0.1, C0.2.1, C0.2.2.1, C0.2.2.2.1, C0.2.2.2.2.1⟩ (hM r1 hf l G A ad) ⟨callB_of N C0.2.2.2.2.1 hG rfl rfl rfl (hts' _ hini) (hts' _ hlk) ⟨hd1, hd2, hd3⟩ hroom, hts' _ hwi⟩ hPre rfl (by rw [List.length_map]; exact has) hl.1 hstk h8' hd hcs
      · exact va_runSN ⟨C0.1, C0.2.1, C0.2.2.1, C0.2.2.2.1, C0.2.2.2.2.1⟩ (hM r1 hf l G A ad) ⟨va_cnB N C0.2.2.2.2.1 hG rfl rfl rfl (C0.2.2.2.2.2.1.2.2.1 _ hlk) (hts' _ hini) ⟨hd1, hd2, hd3⟩ hroom, hts' _ hwi, trivial⟩ hPre rfl (by rw [List.length_map]; exact has) hl.1 hstk h8' hd hcs
    refine xo_run hrun hS fun ad' H1 locs1 hR1 hE1 ha1 hS1 => ?_
    have he : ∀ z, H.2.2 z = true → ad' z = ad z := fun z hz => (hE1 z hz).1
    have hst2 : ((j1 r1).1.map (xo_tr ad')).toList ++ st.map (xo_tr ad) = ((j1 r1).1.toList ++ st).map (xo_tr ad') := by
      rw [List.map_append, xo_stEq he hTs]
      cases (j1 r1).1 <;> rfl
    rw [hst2]
    refine kk r1 hk p l e R s m args below meth c G A ad0 lv0 ad' H1 locs1 _ _ lsA C0 hR1 hS1 (fun z hz => ⟨(he z (hE z hz).2).trans (hE z hz).1, (hE1 z (hE z hz).2).2⟩) (by omega) (by omega) (by rw [xo_lsEq he hL]; exact hl) (fun z hz => xo_lvUp (fun y hy => (hE1 y hy).2) (hL z hz)) (fun v hv => ?_)
    rcases List.mem_append.mp hv with hv | hv
    · exact ha1 v (by simpa using hv)
    · exact xo_lvUp (fun y hy => (hE1 y hy).2) (hTs v hv)
theorem xo_callI {n : xo_N} (hd : decode mt.2.1 pc = .ok (.invokespecial ix, 3)) (hcv : xo_ci mc N) (hlk : xo_ml mt.1.cls ix mc.1) (has : as.length = N) (hrm : xo_rr mt mc) (hrc : rc' + mc.2.2.2.2.cells = rc) (hrs : rs' + mc.2.2.2.2.slots = rs) (hst : sg = as.reverse ++ .inr (some n) :: st) (h8 : st.length ≤ 8) (hp : pc + 3 = pc')
    (hM : ∀ r1, k1 = some r1 → xo_M mc (.inr (some n) :: as) H (j1 r1)) (kk : ∀ r1, xo_X mt rc' rs' j r pc' ls ((j1 r1).1.toList ++ st) (j1 r1).2 (K r1)) : xo_X mt rc rs j r pc ls sg H (k1.bind K) := by
  intro hk p l e R s m args below meth c G A ad0 lv0 ad Hm locs cells slots lsA C0 hR hS hE hc hs hl hL hT
  subst hp
  subst hst
  have hTa : ∀ v ∈ as, xo_lv H v := fun v hv => hT v (List.mem_append_left _ (List.mem_reverse.mpr hv))
  have hTn : H.2.2 n = true := hT (.inr (some n)) (List.mem_append_right _ List.mem_cons_self) n rfl
  have hTs : ∀ v ∈ st, xo_lv H v := fun v hv => hT v (List.mem_append_right _ (List.mem_cons_of_mem _ hv))
  cases hf : k1 with
  | none => rw [hf] at hk; cases hk
  | some r1 =>
    rw [hf, Option.bind_some] at hk
    obtain ⟨y, bytes, maxL, ret, rm⟩ := mc
    obtain ⟨hcm, hwi, hnm, hret⟩ := hcv
    obtain ⟨hcode, hini, hd1, hd2, hd3⟩ := hcm
    simp only at hret
    subst hret
    have hts' : ∀ w ∈ xo_WS, w.before args s = true := fun w hw => C0.2.2.2.2.1 w (List.mem_cons_of_mem _ hw)
    have hR0 : R = mt.2.2.2.2 := C0.2.2.2.2.2.2.2.2.2.1
    have hG := xo_good mt (y, bytes, maxL, none, rm) hcode
    have hPre : PreS s Hm (xo_P G A ad (.inr (some n) :: as) H) (.ref (ad n) :: as.map (xo_tr ad)) := by
      refine ⟨xo_Pbl _ _ _ _ _, fun U hU hW => ⟨rfl, by rw [hU]; exact hR, xo_K_warm hW C0.2.2.2.2.2.1, fun q hq => C0.2.2.2.2.2.2.2.2.2.2 q (by rw [hU] at hq; exact Nat.le_trans hS.1 hq), xo_lvC (fun z hz => by cases hz; exact hTn) hTa⟩⟩
    have hroom : rm.frames + 1 ≤ R.frames ∧ 8 + (maxL + 11) + rm.locals ≤ R.locals := by rw [hR0]; exact hrm
    have hcs : cells + rm.cells ≤ R.cells ∧ slots + rm.slots ≤ R.slots := ⟨by simp only at hrc; omega, by simp only at hrs; omega⟩
    have hstk : (F0 m pc lsA ((as.reverse ++ .inr (some n) :: st).map (xo_tr ad))).stack = (as.map (xo_tr ad)).reverse ++ .ref (ad n) :: st.map (xo_tr ad) := by
      show (as.reverse ++ .inr (some n) :: st).map (xo_tr ad) = _
      rw [List.map_append, List.map_reverse, List.map_cons]
      rfl
    have h8' : 2 * (F0 m pc lsA ((as.reverse ++ .inr (some n) :: st).map (xo_tr ad))).monitorRoom + ((st.map (xo_tr ad)).map fun v => v.category).sum ≤ 8 := by
      rw [xo_csum]; simpa [JFrame.monitorRoom] using h8
    have hrun : va_Run p l e R s m args below meth c Hm locs cells slots rm.cells rm.slots (F0 m pc lsA ((as.reverse ++ .inr (some n) :: st).map (xo_tr ad))) (st.map (xo_tr ad)) (xo_Q G A ad H.2.2 (j1 r1) (Value.ref (ad n) :: as.map (xo_tr ad)).toArray) A := by
      rcases hlk with hlk | ⟨host, hlk⟩
      · exact va_runI ⟨C0.1, C0.2.1, C0.2.2.1, C0.2.2.2.1, C0.2.2.2.2.1⟩ (hM r1 hf l G A ad) ⟨callB_of N C0.2.2.2.2.1 hG rfl rfl rfl (hts' _ hini) (hts' _ hlk) ⟨hd1, hd2, hd3⟩ hroom, hnm, hts' _ hwi⟩ hPre rfl (by rw [List.length_map]; exact has) hl.1 hstk h8' hd hcs
      · exact va_runIN ⟨C0.1, C0.2.1, C0.2.2.1, C0.2.2.2.1, C0.2.2.2.2.1⟩ (hM r1 hf l G A ad) ⟨va_cnB N C0.2.2.2.2.1 hG rfl rfl rfl (C0.2.2.2.2.2.1.2.2.1 _ hlk) (hts' _ hini) ⟨hd1, hd2, hd3⟩ hroom, hnm, hts' _ hwi⟩ hPre rfl (by rw [List.length_map]; exact has) hl.1 hstk h8' hd hcs
    refine xo_run hrun hS fun ad' H1 locs1 hR1 hE1 ha1 hS1 => ?_
    have he : ∀ z, H.2.2 z = true → ad' z = ad z := fun z hz => (hE1 z hz).1
    have hst2 : ((j1 r1).1.map (xo_tr ad')).toList ++ st.map (xo_tr ad) = ((j1 r1).1.toList ++ st).map (xo_tr ad') := by
      rw [List.map_append, xo_stEq he hTs]
      cases (j1 r1).1 <;> rfl
    rw [hst2]
    refine kk r1 hk p l e R s m args below meth c G A ad0 lv0 ad' H1 locs1 _ _ lsA C0 hR1 hS1 (fun z hz => ⟨(he z (hE z hz).2).trans (hE z hz).1, (hE1 z (hE z hz).2).2⟩) (by simp only at hrc; omega) (by simp only at hrs; omega) (by rw [xo_lsEq he hL]; exact hl) (fun z hz => xo_lvUp (fun y hy => (hE1 y hy).2) (hL z hz)) (fun v hv => ?_)
    rcases List.mem_append.mp hv with hv | hv
    · exact ha1 v (by simpa using hv)
    · exact xo_lvUp (fun y hy => (hE1 y hy).2) (hTs v hv)
theorem xo_oinit {n : xo_N} {k : Option α} (hd : decode mt.2.1 pc = .ok (.invokespecial ix, 3)) (w1 : Cond.methodLink mt.1.cls ix Lib.objectInit ∈ xo_WS) (w2 : Cond.instanceMethod Lib.objectInit ∈ xo_WS) (w3 : Cond.code Lib.objectInit ⟨#[0xb1]⟩ 1 none ∈ xo_WS) (hrm : 1 ≤ mt.2.2.2.2.frames ∧ 20 ≤ mt.2.2.2.2.locals) (h8 : st.length ≤ 8) (hp : pc + 3 = pc') (kk : xo_X mt rc rs j r pc' ls st H k) : xo_X mt rc rs j r pc ls (.inr (some n) :: st) H k := by
  intro hk p l e R s m args below meth c G A ad0 lv0 ad Hm locs cells slots lsA C0 hR hS hE hc hs hl hL hT
  subst hp
  have hts' : ∀ w ∈ xo_WS, w.before args s = true := fun w hw => C0.2.2.2.2.1 w (List.mem_cons_of_mem _ hw)
  have hR0 : R = mt.2.2.2.2 := C0.2.2.2.2.2.2.2.2.2.1
  refine W.objInit C0.1 C0.2.1 C0.2.2.2.1 (hts' _ w1) (hts' _ w2) (hts' _ w3) rfl (hl.1.trans C0.2.2.1.symm) (a := ad n) (rest := st.map (xo_tr ad)) rfl hd (by rw [hR0]; exact hrm.1) ?_ (kk hk p l e R s m args below meth c G A ad0 lv0 ad Hm locs cells slots lsA C0 hR hS hE hc hs hl hL (xo_lvT hT))
  rw [xo_csum, hR0]
  have : (F0 m pc lsA ((.inr (some n) :: st : List xo_V).map (xo_tr ad))).monitorRoom = 0 := by simp [JFrame.monitorRoom]
  rw [this]
  have := hrm.2
  omega
end XL
section XY
variable {α : Type} {mt mc : xo_T} {rc rs rc' rs' : Nat} {j : α → Option xo_V × xo_H} {r : α} {pc pc' ix ci N NN : Nat} {ls : List (Nat × xo_V)} {st sg as : List xo_V} {H : xo_H} {o : Option xo_N} {T : u_T}
theorem xo_callVv {f : xo_N → Option (xo_H)} {K : xo_H → Option α} (hd : decode mt.2.1 pc = .ok (.invokevirtual ix, 3)) (hcv : xo_cv mc N) (hlk : xo_ml mt.1.cls ix mc.1) (hcl : xo_cls[ci]? = some (mc.1.cls, T, NN)) (has : as.length = N) (hrm : xo_rr mt mc) (hrc : rc' + mc.2.2.2.2.cells = rc) (hrs : rs' + mc.2.2.2.2.slots = rs) (hst : sg = as.reverse ++ .inr o :: st) (h8 : st.length ≤ 8) (hp : pc + 3 = pc') (hM : ∀ n r1, f n = some r1 → xo_M mc (.inr (some n) :: as) H (xo_jv r1)) (kk : ∀ H1 : xo_H, xo_X mt rc' rs' j r pc' ls st H1 (K H1)) : xo_X mt rc rs j r pc ls sg H (xo_cl ci o f K) :=
  xo_callV (j1 := xo_jv) hd hcv hlk hcl has hrm hrc hrs hst h8 hp hM kk
theorem xo_callSv {k1 : Option (xo_H)} {K : xo_H → Option α} (hd : decode mt.2.1 pc = .ok (.invokestatic ix, 3)) (hcv : xo_cs mc N) (hlk : xo_ml mt.1.cls ix mc.1) (has : as.length = N) (hrm : xo_rr mt mc) (hrc : rc' + mc.2.2.2.2.cells = rc) (hrs : rs' + mc.2.2.2.2.slots = rs) (hst : sg = as.reverse ++ st) (h8 : st.length ≤ 8) (hp : pc + 3 = pc') (hM : ∀ r1, k1 = some r1 → xo_M mc as H (xo_jv r1)) (kk : ∀ H1 : xo_H, xo_X mt rc' rs' j r pc' ls st H1 (K H1)) : xo_X mt rc rs j r pc ls sg H (k1.bind K) :=
  xo_callS (j1 := xo_jv) hd hcv hlk has hrm hrc hrs hst h8 hp hM kk
theorem xo_callIv {n : xo_N} {k1 : Option (xo_H)} {K : xo_H → Option α} (hd : decode mt.2.1 pc = .ok (.invokespecial ix, 3)) (hcv : xo_ci mc N) (hlk : xo_ml mt.1.cls ix mc.1) (has : as.length = N) (hrm : xo_rr mt mc) (hrc : rc' + mc.2.2.2.2.cells = rc) (hrs : rs' + mc.2.2.2.2.slots = rs) (hst : sg = as.reverse ++ .inr (some n) :: st) (h8 : st.length ≤ 8) (hp : pc + 3 = pc') (hM : ∀ r1, k1 = some r1 → xo_M mc (.inr (some n) :: as) H (xo_jv r1)) (kk : ∀ H1 : xo_H, xo_X mt rc' rs' j r pc' ls st H1 (K H1)) : xo_X mt rc rs j r pc ls sg H (k1.bind K) :=
  xo_callI (j1 := xo_jv) hd hcv hlk has hrm hrc hrs hst h8 hp hM kk
theorem xo_callVi {f : xo_N → Option (Int32 × xo_H)} {K : Int32 × xo_H → Option α} (hd : decode mt.2.1 pc = .ok (.invokevirtual ix, 3)) (hcv : xo_cv mc N) (hlk : xo_ml mt.1.cls ix mc.1) (hcl : xo_cls[ci]? = some (mc.1.cls, T, NN)) (has : as.length = N) (hrm : xo_rr mt mc) (hrc : rc' + mc.2.2.2.2.cells = rc) (hrs : rs' + mc.2.2.2.2.slots = rs) (hst : sg = as.reverse ++ .inr o :: st) (h8 : st.length ≤ 8) (hp : pc + 3 = pc') (hM : ∀ n r1, f n = some r1 → xo_M mc (.inr (some n) :: as) H (xo_ji r1)) (kk : ∀ r1 : Int32 × xo_H, xo_X mt rc' rs' j r pc' ls (.inl r1.1 :: st) r1.2 (K r1)) : xo_X mt rc rs j r pc ls sg H (xo_cl ci o f K) :=
  xo_callV (j1 := xo_ji) hd hcv hlk hcl has hrm hrc hrs hst h8 hp hM kk
theorem xo_callSi {k1 : Option (Int32 × xo_H)} {K : Int32 × xo_H → Option α} (hd : decode mt.2.1 pc = .ok (.invokestatic ix, 3)) (hcv : xo_cs mc N) (hlk : xo_ml mt.1.cls ix mc.1) (has : as.length = N) (hrm : xo_rr mt mc) (hrc : rc' + mc.2.2.2.2.cells = rc) (hrs : rs' + mc.2.2.2.2.slots = rs) (hst : sg = as.reverse ++ st) (h8 : st.length ≤ 8) (hp : pc + 3 = pc') (hM : ∀ r1, k1 = some r1 → xo_M mc as H (xo_ji r1)) (kk : ∀ r1 : Int32 × xo_H, xo_X mt rc' rs' j r pc' ls (.inl r1.1 :: st) r1.2 (K r1)) : xo_X mt rc rs j r pc ls sg H (k1.bind K) :=
  xo_callS (j1 := xo_ji) hd hcv hlk has hrm hrc hrs hst h8 hp hM kk
theorem xo_callVp {f : xo_N → Option (Option xo_N × xo_H)} {K : Option xo_N × xo_H → Option α} (hd : decode mt.2.1 pc = .ok (.invokevirtual ix, 3)) (hcv : xo_cv mc N) (hlk : xo_ml mt.1.cls ix mc.1) (hcl : xo_cls[ci]? = some (mc.1.cls, T, NN)) (has : as.length = N) (hrm : xo_rr mt mc) (hrc : rc' + mc.2.2.2.2.cells = rc) (hrs : rs' + mc.2.2.2.2.slots = rs) (hst : sg = as.reverse ++ .inr o :: st) (h8 : st.length ≤ 8) (hp : pc + 3 = pc') (hM : ∀ n r1, f n = some r1 → xo_M mc (.inr (some n) :: as) H (xo_jp r1)) (kk : ∀ r1 : Option xo_N × xo_H, xo_X mt rc' rs' j r pc' ls (.inr r1.1 :: st) r1.2 (K r1)) : xo_X mt rc rs j r pc ls sg H (xo_cl ci o f K) :=
  xo_callV (j1 := xo_jp) hd hcv hlk hcl has hrm hrc hrs hst h8 hp hM kk
theorem xo_callSp {k1 : Option (Option xo_N × xo_H)} {K : Option xo_N × xo_H → Option α} (hd : decode mt.2.1 pc = .ok (.invokestatic ix, 3)) (hcv : xo_cs mc N) (hlk : xo_ml mt.1.cls ix mc.1) (has : as.length = N) (hrm : xo_rr mt mc) (hrc : rc' + mc.2.2.2.2.cells = rc) (hrs : rs' + mc.2.2.2.2.slots = rs) (hst : sg = as.reverse ++ st) (h8 : st.length ≤ 8) (hp : pc + 3 = pc') (hM : ∀ r1, k1 = some r1 → xo_M mc as H (xo_jp r1)) (kk : ∀ r1 : Option xo_N × xo_H, xo_X mt rc' rs' j r pc' ls (.inr r1.1 :: st) r1.2 (K r1)) : xo_X mt rc rs j r pc ls sg H (k1.bind K) :=
  xo_callS (j1 := xo_jp) hd hcv hlk has hrm hrc hrs hst h8 hp hM kk
end XY
