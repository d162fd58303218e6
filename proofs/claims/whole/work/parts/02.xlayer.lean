/-! The X layer: values and cells by NAMES (a kind and a number), a method as a function of the named heap (an Option: none where a guard falls), and rows that tie the machine's steps to such functions. -/
abbrev xo_V : Type := Int32 ⊕ Option xo_N
abbrev xo_H : Type := (xo_N → Nat → Int32) × (xo_N → Nat → Option xo_N) × (xo_N → Bool)
abbrev xo_T : Type := MethodName × ByteArray × Nat × Option FieldType × Room
abbrev xo_G : Type := va_G × (Nat → ClassId)
def xo_sE (H : xo_H) (n : xo_N) (f : Nat) (v : Int32) : xo_H := (fun m g => if m = n ∧ g = f then v else H.1 m g, H.2)
def xo_sP (H : xo_H) (n : xo_N) (f : Nat) (v : Option xo_N) : xo_H := (H.1, fun m g => if m = n ∧ g = f then v else H.2.1 m g, H.2.2)
def xo_sN (H : xo_H) (n : xo_N) : xo_H := (fun m g => if m = n then 0 else H.1 m g, fun m g => if m = n then none else H.2.1 m g, fun m => if m = n then true else H.2.2 m)
/-! what an instruction does, as a function -/
def xo_gf {α : Type} (ci k : Nat) (H : xo_H) (o : Option xo_N) (K : Int32 → Option α) : Option α := o.bind fun n => if xo_kd n = .inl ci then K (H.1 n k) else none
def xo_gp {α : Type} (ci k : Nat) (H : xo_H) (o : Option xo_N) (K : Option xo_N → Option α) : Option α := o.bind fun n => if xo_kd n = .inl ci then K (H.2.1 n k) else none
def xo_pf {α : Type} (ci k : Nat) (H : xo_H) (o : Option xo_N) (v : Int32) (K : xo_H → Option α) : Option α := o.bind fun n => if xo_kd n = .inl ci then K (xo_sE H n k v) else none
def xo_pz {α : Type} (ci k : Nat) (H : xo_H) (o : Option xo_N) (v : Int32) (K : xo_H → Option α) : Option α := o.bind fun n => if xo_kd n = .inl ci ∧ (v = 0 ∨ v = 1) then K (xo_sE H n k v) else none
def xo_pp {α : Type} (ci k : Nat) (H : xo_H) (o : Option xo_N) (v : Option xo_N) (K : xo_H → Option α) : Option α := o.bind fun n => if xo_kd n = .inl ci then K (xo_sP H n k v) else none
def xo_ln {α : Type} (o : Option xo_N) (K : Int32 → Option α) : Option α := o.bind fun n => match xo_kd n with
  | .inl _ => none
  | .inr a => if a.1 < 5 then K (Int32.ofNat a.2) else none
/-- is n an array of kind t with a place i -/
def xo_in (t : Nat) (n : xo_N) (i : Int32) : Bool := match xo_kd n with
  | .inl _ => false
  | .inr a => decide (a.1 = t) && decide (¬ (i < 0 ∨ a.2 ≤ i.toNatClampNeg))
def xo_al {α : Type} (t : Nat) (H : xo_H) (o : Option xo_N) (i : Int32) (K : Int32 → Option α) : Option α := o.bind fun n => if xo_in t n i = true then K (H.1 n i.toNatClampNeg) else none
def xo_ap {α : Type} (t : Nat) (H : xo_H) (o : Option xo_N) (i : Int32) (K : Option xo_N → Option α) : Option α := o.bind fun n => if xo_in t n i = true then K (H.2.1 n i.toNatClampNeg) else none
def xo_as {α : Type} (H : xo_H) (o : Option xo_N) (i v : Int32) (K : xo_H → Option α) : Option α := o.bind fun n => if xo_in 0 n i = true then K (xo_sE H n i.toNatClampNeg v) else none
def xo_az {α : Type} (H : xo_H) (o : Option xo_N) (i v : Int32) (K : xo_H → Option α) : Option α := o.bind fun n => if xo_in 1 n i = true ∧ (v = 0 ∨ v = 1) then K (xo_sE H n i.toNatClampNeg v) else none
/-- a reference into an array of references of kind t, to an object of class ci -/
def xo_aq {α : Type} (t ci : Nat) (H : xo_H) (o : Option xo_N) (i : Int32) (v : Option xo_N) (K : xo_H → Option α) : Option α := o.bind fun n => v.bind fun q => if xo_in t n i = true ∧ xo_kd q = .inl ci then K (xo_sP H n i.toNatClampNeg (some q)) else none
def xo_nw {α : Type} (ci : Nat) (H : xo_H) (n : xo_N) (K : xo_H → Option α) : Option α := if H.2.2 n = false ∧ xo_kd n = .inl ci then K (xo_sN H n) else none
def xo_na {α : Type} (t : Nat) (H : xo_H) (n : xo_N) (N : Nat) (v : Int32) (K : xo_H → Option α) : Option α := match xo_kd n with
  | .inl _ => none
  | .inr a => if H.2.2 n = false ∧ a.1 = t ∧ v = Int32.ofNat a.2 ∧ a.2 ≤ N then K (xo_sN H n) else none
def xo_rm {α : Type} (x y : Int32) (K : Int32 → Option α) : Option α := if y = 0 then none else K (x - x / y * y)
def xo_gb {α : Type} (v : Int32) (k : Option α) : Option α := if v = 0 ∨ v = 1 then k else none
def xo_cl {α β : Type} (ci : Nat) (o : Option xo_N) (f : xo_N → Option β) (K : β → Option α) : Option α := o.bind fun n => if xo_kd n = .inl ci then (f n).bind K else none
/-- how a method's answer is read: nothing, an int, a reference -/
def xo_jv (H : xo_H) : Option xo_V × xo_H := (none, H)
def xo_ji (r : Int32 × xo_H) : Option xo_V × xo_H := (some (.inl r.1), r.2)
def xo_jp (r : Option xo_N × xo_H) : Option xo_V × xo_H := (some (.inr r.1), r.2)
/-! the tie to the machine -/
def xo_tr (ad : xo_N → Nat) (v : xo_V) : Value := match v with
  | .inl x => .int x
  | .inr o => va_rf (o.map ad)
def xo_fv (ad : xo_N → Nat) (d : String) (e : Int32) (p : Option xo_N) : Value := if d = "I" ∨ d = "Z" then .int e else va_rf (p.map ad)
def xo_at (G : xo_G) (ad : xo_N → Nat) (Hm : Heap) (H : xo_H) (n : xo_N) : Prop := match xo_kd n with
  | .inl ci => ∃ r : vw_C, xo_cls[ci]? = some r ∧ t_OB (ad n) (G.1.1 ci) r.2.2 (G.1.2 ci) Hm (fun k => xo_fv ad (r.2.1 k).2.2.1 (H.1 n k) (H.2.1 n k))
  | .inr a => Hm[ad n]? = some (arrV (G.2 a.1) a.2 (fun j => if a.1 < 2 then .int (H.1 n j) else va_rf ((H.2.1 n j).map ad)))
def xo_R (G : xo_G) (A : Nat → Prop) (ad : xo_N → Nat) (H : xo_H) (Hm : Heap) : Prop :=
  (∀ n, H.2.2 n = true → xo_at G ad Hm H n ∧ A (ad n)) ∧ (∀ n n', H.2.2 n = true → H.2.2 n' = true → ad n = ad n' → n = n') ∧ ∀ n k q, H.2.2 n = true → H.2.1 n k = some q → H.2.2 q = true
def xo_isN (w : Cond) : Bool := match w with
  | .fieldLinkNest _ _ _ _ _ _ => true
  | .methodLinkNest _ _ _ _ => true
  | _ => false
def xo_ok (w : Cond) : Bool := (w.onTables && w.keeps) || (match w with
  | .arrayClass _ => true
  | _ => false)
def xo_NW : List Cond := lw_tbl.filter xo_isN
def xo_WS : List Cond := lw_tbl.filter xo_ok
def xo_K (G : xo_G) (U : State) : Prop := (∀ (c : Nat) (q : vw_C), xo_cls[c]? = some q → u_Kn U q.1 q.2.1 q.2.2 (G.1.1 c) (G.1.2 c)) ∧ (∀ t, t < 5 → ArrOfT U (G.2 t) (xo_ta t) ∧ va_RA U (G.2 t) (xo_ta t)) ∧ (∀ w ∈ xo_NW, va_Nw w U) ∧ ∀ t, 2 ≤ t → t < 5 → va_AO (xo_tn t) U
def xo_lv (H : xo_H) (v : xo_V) : Prop := ∀ q, v = .inr (some q) → H.2.2 q = true
def xo_ws (mt : xo_T) : List Cond := Cond.code mt.1 mt.2.1 mt.2.2.1 mt.2.2.2.1 :: xo_WS
def xo_C (mt : xo_T) (p : Program) (R : Room) (s : State) (m : MethodId) (args : Array Value) (meth : Method) (c : Code) (G : xo_G) (A : Nat → Prop) : Prop :=
  p.tables.exec = Jvm.exec ∧ c.code = mt.2.1 ∧ c.maxLocals = mt.2.2.1 ∧ s.vm.findClass mt.1.cls = some m.cls ∧ (∀ w ∈ xo_ws mt, w.before args s = true) ∧ xo_K G s ∧ meth.locks = false ∧ meth.sig.returnType = mt.2.2.2.1 ∧ meth.name = mt.1.name ∧ R = mt.2.2.2.2 ∧ ∀ q, s.heap.size ≤ q → A q
def xo_Q (G : xo_G) (A : Nat → Prop) (ad0 : xo_N → Nat) (lv0 : xo_N → Bool) (a : Option xo_V × xo_H) : Array Value → State → Outcome → State → Prop := fun _ st oc t =>
  ∃ ad' : xo_N → Nat, oc = .returned (a.1.map (xo_tr ad')) ∧ xo_R G A ad' a.2 t.heap ∧ (∀ n, lv0 n = true → ad' n = ad0 n ∧ a.2.2.2 n = true) ∧ (∀ v, a.1 = some v → xo_lv a.2 v) ∧ va_F A st t
def xo_P (G : xo_G) (A : Nat → Prop) (ad : xo_N → Nat) (as : List xo_V) (H : xo_H) : Array Value → State → Prop := fun v U =>
  v = (as.map (xo_tr ad)).toArray ∧ xo_R G A ad H U.heap ∧ xo_K G U ∧ (∀ q, U.heap.size ≤ q → A q) ∧ ∀ v ∈ as, xo_lv H v
def xo_M (mt : xo_T) (as : List xo_V) (H : xo_H) (a : Option xo_V × xo_H) : Prop := ∀ (l : Launch) (G : xo_G) (A : Nat → Prop) (ad : xo_N → Nat),
  Met l mt.1 (xo_ws mt) mt.2.2.2.2 (xo_P G A ad as H) (xo_Q G A ad H.2.2 a) mt.2.2.2.2.cells mt.2.2.2.2.slots A
def xo_X {α : Type} (mt : xo_T) (rc rs : Nat) (j : α → Option xo_V × xo_H) (r : α) (pc : Nat) (ls : List (Nat × xo_V)) (st : List xo_V) (H : xo_H) (k : Option α) : Prop :=
  k = some r → ∀ (p : Program) (l : Launch) (e : Env) (R : Room) (s : State) (m : MethodId) (args : Array Value) (below : List Frame) (meth : Method) (c : Code) (G : xo_G) (A : Nat → Prop) (ad0 : xo_N → Nat) (lv0 : xo_N → Bool) (ad : xo_N → Nat) (Hm : Heap) (locs : List Loc) (cells slots : Nat) (lsA : Array Slot),
    xo_C mt p R s m args meth c G A → xo_R G A ad H Hm → va_S A s.heap Hm locs → (∀ n, lv0 n = true → ad n = ad0 n ∧ H.2.2 n = true) → cells + rc ≤ R.cells → slots + rs ≤ R.slots → lv_has lsA mt.2.2.1 (ls.map fun q => (q.1, xo_tr ad q.2)) → (∀ q ∈ ls, xo_lv H q.2) → (∀ v ∈ st, xo_lv H v) →
    W p l e R s m args below meth c Hm locs cells slots (MQ below (xo_Q G A ad0 lv0 (j r)) args s R.cells R.slots A) (F0 m pc lsA (st.map (xo_tr ad)))
/-! small rows -/
theorem xo_cat (ad : xo_N → Nat) (v : xo_V) : (xo_tr ad v).category = 1 := by
  rcases v with x | o
  · rfl
  · cases o <;> rfl
theorem xo_lvI (H : xo_H) (x : Int32) : xo_lv H (.inl x) := fun q h => by cases h
theorem xo_lvN (H : xo_H) : xo_lv H (.inr none) := fun q h => by cases h
theorem xo_lvC {H : xo_H} {v : xo_V} {st : List xo_V} (h : xo_lv H v) (hs : ∀ v ∈ st, xo_lv H v) : ∀ w ∈ v :: st, xo_lv H w := fun w hw => by
  rcases List.mem_cons.mp hw with rfl | hw
  · exact h
  · exact hs w hw
theorem xo_lvT {H : xo_H} {v : xo_V} {st : List xo_V} (hs : ∀ w ∈ v :: st, xo_lv H w) : ∀ w ∈ st, xo_lv H w := fun w hw => hs w (List.mem_cons_of_mem _ hw)
theorem xo_lvH {H : xo_H} {v : xo_V} {st : List xo_V} (hs : ∀ w ∈ v :: st, xo_lv H w) : xo_lv H v := hs v List.mem_cons_self
theorem xo_lsAt {lsA : Array Slot} {nL : Nat} {ls : List (Nat × xo_V)} {ad : xo_N → Nat} (h : lv_has lsA nL (ls.map fun q => (q.1, xo_tr ad q.2))) (t : Nat) {i : Nat} {v : xo_V} (hk : ls[t]? = some (i, v)) : lsA[i]? = some (.val (xo_tr ad v)) :=
  lv_at h t (by rw [List.getElem?_map, hk]; rfl)
theorem xo_lsLv {H : xo_H} {ls : List (Nat × xo_V)} (h : ∀ q ∈ ls, xo_lv H q.2) {t i : Nat} {v : xo_V} (hk : ls[t]? = some (i, v)) : xo_lv H v := h (i, v) (List.mem_of_getElem? hk)
theorem xo_filt (ad : xo_N → Nat) (i : Nat) (ls : List (Nat × xo_V)) : (ls.map fun q => (q.1, xo_tr ad q.2)).filter (fun q => !(q.1 == i) && !(q.1 + 1 == i && q.2.category == 2)) = (ls.filter (fun q => !(q.1 == i))).map fun q => (q.1, xo_tr ad q.2) := by
  induction ls with
  | nil => rfl
  | cons q l ih =>
    have hc : (xo_tr ad q.2).category = 1 := xo_cat ad q.2
    simp only [List.map_cons, List.filter_cons, ih]
    by_cases h : q.1 = i
    · simp [h]
    · simp [h, hc]
theorem xo_trEq {H : xo_H} {lv : xo_N → Bool} {ad ad' : xo_N → Nat} (he : ∀ n, H.2.2 n = true → ad' n = ad n) {v : xo_V} (hv : xo_lv H v) : xo_tr ad' v = xo_tr ad v := by
  rcases v with x | o
  · rfl
  · cases o with
    | none => rfl
    | some n => simp [xo_tr, va_rf, he n (hv n rfl)]
theorem xo_lsEq {H : xo_H} {ad ad' : xo_N → Nat} (he : ∀ n, H.2.2 n = true → ad' n = ad n) : ∀ {ls : List (Nat × xo_V)}, (∀ q ∈ ls, xo_lv H q.2) → (ls.map fun q => (q.1, xo_tr ad' q.2)) = ls.map fun q => (q.1, xo_tr ad q.2)
  | [], _ => rfl
  | q :: l, h => by
    rw [List.map_cons, List.map_cons, xo_lsEq he (fun q hq => h q (List.mem_cons_of_mem _ hq)), xo_trEq (lv := H.2.2) he (h q List.mem_cons_self)]
theorem xo_stEq {H : xo_H} {ad ad' : xo_N → Nat} (he : ∀ n, H.2.2 n = true → ad' n = ad n) : ∀ {st : List xo_V}, (∀ v ∈ st, xo_lv H v) → st.map (xo_tr ad') = st.map (xo_tr ad)
  | [], _ => rfl
  | q :: l, h => by
    rw [List.map_cons, List.map_cons, xo_stEq he (fun q hq => h q (List.mem_cons_of_mem _ hq)), xo_trEq (lv := H.2.2) he (h q List.mem_cons_self)]
theorem xo_lvUp {H H' : xo_H} (he : ∀ n, H.2.2 n = true → H'.2.2 n = true) {v : xo_V} (h : xo_lv H v) : xo_lv H' v := fun q hq => he q (h q hq)
/-! the named heap and the machine's heap -/
theorem xo_at_kept {G : xo_G} {ad : xo_N → Nat} {Hm Hm1 : Heap} {H H' : xo_H} {n : xo_N} (h : xo_at G ad Hm H n) (hq : Hm1[ad n]? = Hm[ad n]?) (h1 : H'.1 n = H.1 n) (h2 : H'.2.1 n = H.2.1 n) : xo_at G ad Hm1 H' n := by
  unfold xo_at at h ⊢
  rw [h1, h2]
  rcases hk : xo_kd n with ci | a
  · simp only [hk] at h
    obtain ⟨r, a, b⟩ := h
    exact ⟨r, a, b.kept hq⟩
  · simp only [hk] at h
    show Hm1[ad n]? = _
    rw [hq]; exact h
theorem xo_at_lt {G : xo_G} {ad : xo_N → Nat} {Hm : Heap} {H : xo_H} {n : xo_N} (h : xo_at G ad Hm H n) : ad n < Hm.size := by
  unfold xo_at at h
  split at h
  next ci hk =>
    obtain ⟨r, a, cell, b, -⟩ := h
    exact (Array.getElem?_eq_some_iff.mp b).1
  next a hk => exact (Array.getElem?_eq_some_iff.mp h).1
theorem xo_fvEq {H : xo_H} {ad ad' : xo_N → Nat} (he : ∀ n, H.2.2 n = true → ad' n = ad n) {o : Option xo_N} (ho : ∀ q, o = some q → H.2.2 q = true) : va_rf (o.map ad') = va_rf (o.map ad) := by
  cases o with
  | none => rfl
  | some n => simp [he n (ho n rfl)]
theorem xo_at_ad {G : xo_G} {ad ad' : xo_N → Nat} {Hm : Heap} {H : xo_H} {n : xo_N} (he : ∀ n, H.2.2 n = true → ad' n = ad n) (hn : H.2.2 n = true) (hc : ∀ k q, H.2.1 n k = some q → H.2.2 q = true) (h : xo_at G ad Hm H n) : xo_at G ad' Hm H n := by
  unfold xo_at at h ⊢
  rcases hk : xo_kd n with ci | a
  · simp only [hk] at h
    obtain ⟨r, a, b⟩ := h
    show ∃ r : vw_C, _
    rw [he n hn]
    refine ⟨r, a, b.to fun k _ => ?_⟩
    unfold xo_fv
    split
    · rfl
    · exact (xo_fvEq he (hc k)).symm
  · simp only [hk] at h
    show Hm[ad' n]? = _
    rw [he n hn, h]
    congr 2
    funext j
    split
    · rfl
    · exact (xo_fvEq he (hc j)).symm
theorem xo_R_put {G : xo_G} {A : Nat → Prop} {ad : xo_N → Nat} {H H' : xo_H} {Hm Hm1 : Heap} {n : xo_N} (h : xo_R G A ad H Hm) (hn : H.2.2 n = true) (hlv : H'.2.2 = H.2.2) (h1 : ∀ m, m ≠ n → H'.1 m = H.1 m) (h2 : ∀ m, m ≠ n → H'.2.1 m = H.2.1 m) (hc : ∀ k q, H'.2.1 n k = some q → H.2.2 q = true) (hat : xo_at G ad Hm1 H' n) (oq : ∀ q, q ≠ ad n → Hm1[q]? = Hm[q]?) : xo_R G A ad H' Hm1 := by
  obtain ⟨ha, hi, hcl⟩ := h
  refine ⟨fun m hm => ?_, fun m m' hm hm' e => hi m m' (by rw [← hlv]; exact hm) (by rw [← hlv]; exact hm') e, fun m k q hm hq => ?_⟩
  · rw [hlv] at hm
    by_cases e : m = n
    · subst e; exact ⟨hat, (ha m hm).2⟩
    · exact ⟨xo_at_kept (ha m hm).1 (oq _ fun z => e (hi m n hm hn z)) (h1 m e) (h2 m e), (ha m hm).2⟩
  · rw [hlv] at hm ⊢
    by_cases e : m = n
    · subst e; exact hc k q hq
    · rw [h2 m e] at hq; exact hcl m k q hm hq
def xo_ua (ad : xo_N → Nat) (n : xo_N) (a : Nat) : xo_N → Nat := fun m => if m = n then a else ad m
theorem xo_ua_s (ad : xo_N → Nat) (n : xo_N) (a : Nat) : xo_ua ad n a n = a := by simp [xo_ua]
theorem xo_ua_n (ad : xo_N → Nat) {n m : xo_N} (a : Nat) (h : m ≠ n) : xo_ua ad n a m = ad m := by simp [xo_ua, h]
theorem xo_R_new {G : xo_G} {A : Nat → Prop} {ad : xo_N → Nat} {H : xo_H} {Hm Hm1 : Heap} {n : xo_N} (h : xo_R G A ad H Hm) (hn : H.2.2 n = false) (hA : A Hm.size) (hat : xo_at G (xo_ua ad n Hm.size) Hm1 (xo_sN H n) n) (oq : ∀ q, q < Hm.size → Hm1[q]? = Hm[q]?) : xo_R G A (xo_ua ad n Hm.size) (xo_sN H n) Hm1 := by
  obtain ⟨ha, hi, hcl⟩ := h
  have hne : ∀ m, H.2.2 m = true → m ≠ n := fun m hm e => by rw [e, hn] at hm; cases hm
  have he : ∀ m, H.2.2 m = true → xo_ua ad n Hm.size m = ad m := fun m hm => xo_ua_n ad _ (hne m hm)
  have live : ∀ m, (xo_sN H n).2.2 m = true → m = n ∨ H.2.2 m = true := fun m hm => by
    by_cases e : m = n
    · exact Or.inl e
    · simp [xo_sN, e] at hm; exact Or.inr hm
  refine ⟨fun m hm => ?_, fun m m' hm hm' e => ?_, fun m k q hm hq => ?_⟩
  · rcases live m hm with rfl | hm
    · exact ⟨hat, by rw [xo_ua_s]; exact hA⟩
    · have hx := ha m hm
      have hy := xo_at_ad he hm (hcl m · · hm) hx.1
      refine ⟨xo_at_kept hy (oq _ ?_) ?_ ?_, by rw [he m hm]; exact hx.2⟩
      · rw [he m hm]; exact xo_at_lt hx.1
      · funext g; simp [xo_sN, hne m hm]
      · funext g; simp [xo_sN, hne m hm]
  · rcases live m hm with e1 | h1 <;> rcases live m' hm' with e2 | h2
    · exact e1.trans e2.symm
    · exfalso
      rw [e1, xo_ua_s, he m' h2] at e
      have := xo_at_lt (ha m' h2).1
      omega
    · exfalso
      rw [e2, xo_ua_s, he m h1] at e
      have := xo_at_lt (ha m h1).1
      omega
    · rw [he m h1, he m' h2] at e
      exact hi m m' h1 h2 e
  · by_cases e : m = n
    · subst e; simp [xo_sN] at hq
    · rcases live m hm with h1 | h1
      · exact absurd h1 e
      · simp [xo_sN, e] at hq
        have := hcl m k q h1 hq
        by_cases e2 : q = n
        · simp [xo_sN, e2]
        · simp [xo_sN, e2, this]
theorem xo_K_warm {G : xo_G} {s U : State} (hW : s.WarmedH U.vm) (h : xo_K G s) : xo_K G U := by
  obtain ⟨h1, h2, h3, h4⟩ := h
  refine ⟨fun c q hq => u_Kn_moved hW.alike (h1 c q hq), fun t ht => ⟨arrOfT_moved hW.alike (h2 t ht).1, (h2 t ht).2.moved hW.alike⟩, fun w hw => ?_, fun t a b => va_AO.moved hW.alike (h4 t a b)⟩
  have hi : xo_isN w = true := (List.mem_filter.mp hw).2
  have hz := h3 w hw
  unfold xo_isN at hi
  split at hi
  · exact va_Nw.warmF hW hz
  · exact va_Nw.warmM hW hz
  · cases hi
theorem xo_good (mt mc : xo_T) (h : Cond.code mc.1 mc.2.1 mc.2.2.1 mc.2.2.2.1 ∈ xo_WS) : GoodIn (xo_ws mt) (xo_ws mc) := by
  have key : ∀ w ∈ xo_WS, w ∈ xo_ws mt ∧ ((w.onTables && w.keeps) = true ∨ ∃ ty, w = .arrayClass ty) := fun w hw => by
    refine ⟨List.mem_cons_of_mem _ hw, ?_⟩
    have h2 : xo_ok w = true := (List.mem_filter.mp hw).2
    unfold xo_ok at h2
    rcases Bool.or_eq_true _ _ |>.mp h2 with h3 | h3
    · exact Or.inl h3
    · right
      split at h3
      next ty => exact ⟨ty, rfl⟩
      next => cases h3
  intro w hw
  rcases List.mem_cons.mp hw with rfl | hw
  · exact key _ h
  · exact key w hw
/-! the rows over the machine: fields -/
def xo_cb (ci : Nat) (C : String) (T : u_T) (N : Nat) (ty : Nat → FieldType) : Prop := xo_cls[ci]? = some (C, T, N) ∧ (∀ w ∈ u_ws C T N, w ∈ xo_WS) ∧ (∀ k, k < N → parseFieldDescriptor (T k).2.2.1 = some (ty k)) ∧ ∀ a, a < N → ∀ b, b < N → a ≠ b → (T a).2.1 ≠ (T b).2.1
def xo_lk (own : String) (ix : Nat) (C n d : String) : Prop := Cond.fieldLink own ix C n d ∈ xo_WS ∨ ∃ host, Cond.fieldLinkNest own ix C n d host ∈ xo_NW
section XW
variable {p : Program} {l : Launch} {e : Env} {R : Room} {s : State} {m : MethodId} {args : Array Value} {below : List Frame} {meth : Method} {c : Code} {Hm : Heap} {locs : List Loc} {cells slots : Nat} {Q : State → Prop}
variable {G : xo_G} {A : Nat → Prop} {ad : xo_N → Nat} {mt : xo_T} {H H' : xo_H} {n : xo_N} {ci k ix N pc : Nat} {C : String} {T : u_T} {ty : Nat → FieldType} {lsA : Array Slot} {rest : List Value}
theorem xo_Wget (C0 : xo_C mt p R s m args meth c G A) (hcb : xo_cb ci C T N ty) (hlk : xo_lk mt.1.cls ix C (T k).2.1 (T k).2.2.1) (hk : k < N) (hT : (T k).1 = C) (hR : xo_R G A ad H Hm) (hn : H.2.2 n = true) (hkd : xo_kd n = .inl ci) (hd : decode mt.2.1 pc = .ok (.getfield ix, 3))
    (kk : W p l e R s m args below meth c Hm locs cells slots Q (F0 m (pc + 3) lsA (xo_fv ad (T k).2.2.1 (H.1 n k) (H.2.1 n k) :: rest))) : W p l e R s m args below meth c Hm locs cells slots Q (F0 m pc lsA (.ref (ad n) :: rest)) := by
  obtain ⟨hex, hb, hml, hown, hts, hK, -⟩ := C0
  have hts' : ∀ w ∈ xo_WS, w.before args s = true := fun w hw => hts w (List.mem_cons_of_mem _ hw)
  have hat := (hR.1 n hn).1
  unfold xo_at at hat
  simp only [hkd] at hat
  obtain ⟨r, hr, cell, q1, q2, q3, q4⟩ := hat
  have hr2 : r = (C, T, N) := Option.some.inj (hr.symm.trans hcb.1)
  subst hr2
  obtain ⟨hS, hfc, kC, hkC, hkind⟩ := hK.1 ci _ hcb.1
  obtain ⟨cf, kf, fi, f, hi, hsl⟩ := hS k hk
  have hst := (u_facts hfc hkC (u_lays hts' hcb.2.1 hk) hi).1
  simp only [hT] at hi
  rcases hlk with hl | ⟨host, hl⟩
  · refine W.getf hex hb hown (hts' _ hl) hi hst q1 (by rw [q3]; exact fun h => by cases h) ?_ rfl rfl hd kk
    rw [hsl, q4 k hk]
  · refine va_Wgetf hex hb hown (va_Nw.use rfl (hK.2.2.1 _ hl)) hi hst q1 (by rw [q3]; exact fun h => by cases h) ?_ rfl rfl hd kk
    rw [hsl, q4 k hk]
/-- the new picture of an object, one field written -/
theorem xo_at_put (hcb : xo_cb ci C T N ty) (hts' : ∀ w ∈ xo_WS, w.before args s = true) (hK : xo_K G s) (hk : k < N) (hkd : xo_kd n = .inl ci) {cell : Cell} {Hm1 : Heap} {v : Value} (q2 : cell.cls = G.1.1 ci) (q3 : cell.vm = .none) (q4 : ∀ k, k < N → cell.slots[G.1.2 ci k]? = some (xo_fv ad (T k).2.2.1 (H.1 n k) (H.2.1 n k))) (e1 : Hm1[ad n]? = some (cell.setSlot (G.1.2 ci k) v))
    (hE : ∀ g, g ≠ k → H'.1 n g = H.1 n g) (hP : ∀ g, g ≠ k → H'.2.1 n g = H.2.1 n g) (hv : xo_fv ad (T k).2.2.1 (H'.1 n k) (H'.2.1 n k) = v) : xo_at G ad Hm1 H' n := by
  have hap : ∀ x y, x < N → y < N → x ≠ y → (G.1.2 ci) x ≠ (G.1.2 ci) y := by
    intro x y hx hy hne
    obtain ⟨hS, -⟩ := hK.1 ci _ hcb.1
    obtain ⟨_, _, _, fa, hia, ea⟩ := hS x hx
    obtain ⟨_, _, _, fb, hib, eb⟩ := hS y hy
    rw [← ea, ← eb]
    refine u_apart (u_lays hts' hcb.2.1 hx) (u_lays hts' hcb.2.1 hy) hia hib ?_
    rw [(State.fieldFound?_type hia (hcb.2.2.1 x hx)).1, (State.fieldFound?_type hib (hcb.2.2.1 y hy)).1]
    exact hcb.2.2.2 x hx y hy hne
  unfold xo_at
  simp only [hkd]
  refine ⟨_, hcb.1, _, e1, q2, q3, fun g hg => ?_⟩
  rw [t_set (V := fun k => xo_fv ad (T k).2.2.1 (H.1 n k) (H.2.1 n k)) q4 hap hk v g hg]
  by_cases e : g = k
  · subst e; simp [updV, hv]
  · simp [updV, e, hE g e, hP g e]
theorem xo_Wput (C0 : xo_C mt p R s m args meth c G A) (hcb : xo_cb ci C T N ty) (hlk : xo_lk mt.1.cls ix C (T k).2.1 (T k).2.2.1) (hk : k < N) (hT : (T k).1 = C) (hfin : (T k).2.2.2 = false) (hR : xo_R G A ad H Hm) (hS0 : va_S A s.heap Hm locs) (hn : H.2.2 n = true) (hkd : xo_kd n = .inl ci) (hd : decode mt.2.1 pc = .ok (.putfield ix, 3)) {v : Value} (hnar : narrow (ty k) v = v) (hfit : fits (ty k) v = true)
    (hlv : H'.2.2 = H.2.2) (hE : ∀ m g, ¬ (m = n ∧ g = k) → H'.1 m g = H.1 m g) (hP : ∀ m g, ¬ (m = n ∧ g = k) → H'.2.1 m g = H.2.1 m g) (hv : xo_fv ad (T k).2.2.1 (H'.1 n k) (H'.2.1 n k) = v) (hc : ∀ q, H'.2.1 n k = some q → H.2.2 q = true)
    (kk : ∀ (Hm1 : Heap) (locs1 : List Loc), xo_R G A ad H' Hm1 → va_S A s.heap Hm1 locs1 → W p l e R s m args below meth c Hm1 locs1 cells slots Q (F0 m (pc + 3) lsA rest)) : W p l e R s m args below meth c Hm locs cells slots Q (F0 m pc lsA (v :: .ref (ad n) :: rest)) := by
  obtain ⟨hex, hb, hml, hown, hts, hK, -⟩ := C0
  have hts' : ∀ w ∈ xo_WS, w.before args s = true := fun w hw => hts w (List.mem_cons_of_mem _ hw)
  have hat := (hR.1 n hn).1
  unfold xo_at at hat
  simp only [hkd] at hat
  obtain ⟨r, hr, cell, q1, q2, q3, q4⟩ := hat
  have hr2 : r = (C, T, N) := Option.some.inj (hr.symm.trans hcb.1)
  subst hr2
  obtain ⟨hS, hfc, kC, hkC, hkind⟩ := hK.1 ci _ hcb.1
  obtain ⟨cf, kf, fi, f, hi, hsl⟩ := hS k hk
  have hst := (u_facts hfc hkC (u_lays hts' hcb.2.1 hk) hi).1
  have hlay := hts' _ (hcb.2.1 _ (u_in_lay hk))
  unfold u_lay at hlay
  rw [if_neg (by rw [hfin]; decide)] at hlay
  have h6 := u_store hfc hkC hkind hlay hi (hcb.2.2.1 k hk) hnar hfit
  simp only [hT] at hi
  have fin : ∀ H1 : Heap, H1[ad n]? = some (cell.setSlot f.slot v) → H1.size = Hm.size → (∀ q, q ≠ ad n → H1[q]? = Hm[q]?) → W p l e R s m args below meth c H1 (locs ++ [⟨ad n, f.slot⟩]) cells slots Q (F0 m (pc + 3) lsA rest) := by
    intro H1 e1 e2 e3
    rw [hsl] at e1
    refine kk H1 _ (xo_R_put hR hn hlv (fun m' hm' => funext fun g => hE m' g fun z => hm' z.1) (fun m' hm' => funext fun g => hP m' g fun z => hm' z.1) (fun g q hq => ?_) (xo_at_put hcb hts' hK hk hkd q2 q3 q4 e1 (fun g hg => hE n g fun z => hg z.2) (fun g hg => hP n g fun z => hg z.2) hv) e3) (hS0.put e2 e3 (hR.1 n hn).2)
    by_cases eg : g = k
    · subst eg; exact hc q hq
    · rw [hP n g fun z => eg z.2] at hq; exact hR.2.2 n g q hn hq
  rcases hlk with hl | ⟨host, hl⟩
  · exact W.putK hex hb (f := f) ⟨hown, hts' _ hl, ⟨_, _, _, hi⟩, hst⟩ (by rw [q2]; exact h6) q1 q3 (by rw [hsl]; exact k2_hasslot (q4 k hk)) rfl rfl hd fin
  · exact va_WputK hex hb (f := f) hown (va_Nw.use rfl (hK.2.2.1 _ hl)) hi hst (by rw [q2]; exact h6) q1 q3 (by rw [hsl]; exact k2_hasslot (q4 k hk)) rfl rfl hd fin
theorem xo_WputF (C0 : xo_C mt p R s m args meth c G A) (hcb : xo_cb ci C T N ty) (hlk : Cond.fieldLink mt.1.cls ix C (T k).2.1 (T k).2.2.1 ∈ xo_WS) (hk : k < N) (hT : (T k).1 = C) (hfin : (T k).2.2.2 = true) (hin : mt.1.name = "<init>") (hoc : mt.1.cls = C) (hR : xo_R G A ad H Hm) (hS0 : va_S A s.heap Hm locs) (hn : H.2.2 n = true) (hkd : xo_kd n = .inl ci) (hd : decode mt.2.1 pc = .ok (.putfield ix, 3)) {v : Value} (hnar : narrow (ty k) v = v) (hfit : fits (ty k) v = true)
    (hlv : H'.2.2 = H.2.2) (hE : ∀ m g, ¬ (m = n ∧ g = k) → H'.1 m g = H.1 m g) (hP : ∀ m g, ¬ (m = n ∧ g = k) → H'.2.1 m g = H.2.1 m g) (hv : xo_fv ad (T k).2.2.1 (H'.1 n k) (H'.2.1 n k) = v) (hc : ∀ q, H'.2.1 n k = some q → H.2.2 q = true)
    (kk : ∀ (Hm1 : Heap) (locs1 : List Loc), xo_R G A ad H' Hm1 → va_S A s.heap Hm1 locs1 → W p l e R s m args below meth c Hm1 locs1 cells slots Q (F0 m (pc + 3) lsA rest)) : W p l e R s m args below meth c Hm locs cells slots Q (F0 m pc lsA (v :: .ref (ad n) :: rest)) := by
  obtain ⟨hex, hb, hml, hown, hts, hK, -, -, hname, -⟩ := C0
  have hts' : ∀ w ∈ xo_WS, w.before args s = true := fun w hw => hts w (List.mem_cons_of_mem _ hw)
  have hat := (hR.1 n hn).1
  unfold xo_at at hat
  simp only [hkd] at hat
  obtain ⟨r, hr, cell, q1, q2, q3, q4⟩ := hat
  have hr2 : r = (C, T, N) := Option.some.inj (hr.symm.trans hcb.1)
  subst hr2
  obtain ⟨hS, hfc, kC, hkC, hkind⟩ := hK.1 ci _ hcb.1
  obtain ⟨cf, kf, fi, f, hi, hsl⟩ := hS k hk
  have hst := (u_facts hfc hkC (u_lays hts' hcb.2.1 hk) hi).1
  have hlay := hts' _ (hcb.2.1 _ (u_in_lay hk))
  unfold u_lay at hlay
  rw [if_pos hfin] at hlay
  have hcf : m.cls = cf := by
    obtain ⟨_, _, c', _, _, _, -, -, hf', -, -, -, hown2, -⟩ := Cond.laysFinal_spec hlay
    have e1 : c' = cf := by have := hi.symm.trans hf'; simp at this; exact this.1.symm
    rw [hT, ← hoc] at hown2
    rw [← e1]; exact Option.some.inj (hown.symm.trans hown2)
  have h6 := u_fits hfc hkC hkind (Or.inr hlay) hi (hcb.2.2.1 k hk) hnar hfit
  simp only [hT] at hi
  refine W.putFinK hex hb hown (hts' _ hlk) hi hst hcf (by rw [hname]; exact hin) (by rw [q2]; exact h6) q1 q3 (by rw [hsl]; exact k2_hasslot (q4 k hk)) rfl rfl hd fun H1 e1 e2 e3 => ?_
  rw [hsl] at e1
  refine kk H1 _ (xo_R_put hR hn hlv (fun m' hm' => funext fun g => hE m' g fun z => hm' z.1) (fun m' hm' => funext fun g => hP m' g fun z => hm' z.1) (fun g q hq => ?_) (xo_at_put hcb hts' hK hk hkd q2 q3 q4 e1 (fun g hg => hE n g fun z => hg z.2) (fun g hg => hP n g fun z => hg z.2) hv) e3) (hS0.put e2 e3 (hR.1 n hn).2)
  by_cases eg : g = k
  · subst eg; exact hc q hq
  · rw [hP n g fun z => eg z.2] at hq; exact hR.2.2 n g q hn hq
end XW
/-! arrays -/
theorem xo_in_spec {t : Nat} {n : xo_N} {i : Int32} (h : xo_in t n i = true) : ∃ N, xo_kd n = .inr (t, N) ∧ ¬ (i < 0 ∨ N ≤ i.toNatClampNeg) := by
  unfold xo_in at h
  split at h
  next => cases h
  next a hk =>
    simp only [Bool.and_eq_true, decide_eq_true_eq] at h
    obtain ⟨t', N⟩ := a
    obtain ⟨h1, h2⟩ := h
    simp only at h1 h2
    subst h1
    exact ⟨N, hk, h2⟩
section XA
variable {p : Program} {l : Launch} {e : Env} {R : Room} {s : State} {m : MethodId} {args : Array Value} {below : List Frame} {meth : Method} {c : Code} {Hm : Heap} {locs : List Loc} {cells slots : Nat} {Q : State → Prop}
variable {G : xo_G} {A : Nat → Prop} {ad : xo_N → Nat} {mt : xo_T} {H H' : xo_H} {n q : xo_N} {t ci ix pc N : Nat} {C : String} {T : u_T} {ty : Nat → FieldType} {lsA : Array Slot} {rest : List Value} {i x : Int32}
theorem xo_at_arr (hat : xo_at G ad Hm H n) (hkd : xo_kd n = .inr (t, N)) : Hm[ad n]? = some (arrV (G.2 t) N (fun j => if t < 2 then .int (H.1 n j) else va_rf ((H.2.1 n j).map ad))) := by
  unfold xo_at at hat
  simp only [hkd] at hat
  exact hat
theorem xo_Wiald (C0 : xo_C mt p R s m args meth c G A) (hR : xo_R G A ad H Hm) (hn : H.2.2 n = true) (hin : xo_in 0 n i = true) (hd : decode mt.2.1 pc = .ok (.iaload, 1))
    (kk : W p l e R s m args below meth c Hm locs cells slots Q (F0 m (pc + 1) lsA (.int (H.1 n i.toNatClampNeg) :: rest))) : W p l e R s m args below meth c Hm locs cells slots Q (F0 m pc lsA (.int i :: .ref (ad n) :: rest)) := by
  obtain ⟨hex, hb, hml, hown, hts, hK, -⟩ := C0
  obtain ⟨N, hkd, hi⟩ := xo_in_spec hin
  have hlt : i.toNatClampNeg < N := Nat.not_le.mp fun z => hi (Or.inr z)
  exact W.iald (v := .int (H.1 n i.toNatClampNeg)) hex hb (xo_at_arr (hR.1 n hn).1 hkd) ((hK.2.1 0 (by decide)).1 N _) (fun z => by cases z) (by rw [arrV_size]; exact hi) (by rw [arrV_read _ _ hlt]; simp) rfl rfl hd kk
theorem xo_Wzald (C0 : xo_C mt p R s m args meth c G A) (hR : xo_R G A ad H Hm) (hn : H.2.2 n = true) (hin : xo_in 1 n i = true) (hd : decode mt.2.1 pc = .ok (.baload, 1))
    (kk : W p l e R s m args below meth c Hm locs cells slots Q (F0 m (pc + 1) lsA (.int (H.1 n i.toNatClampNeg) :: rest))) : W p l e R s m args below meth c Hm locs cells slots Q (F0 m pc lsA (.int i :: .ref (ad n) :: rest)) := by
  obtain ⟨hex, hb, hml, hown, hts, hK, -⟩ := C0
  obtain ⟨N, hkd, hi⟩ := xo_in_spec hin
  have hlt : i.toNatClampNeg < N := Nat.not_le.mp fun z => hi (Or.inr z)
  exact W.zald (v := .int (H.1 n i.toNatClampNeg)) hex hb (xo_at_arr (hR.1 n hn).1 hkd) ((hK.2.1 1 (by decide)).1 N _) (fun z => by cases z) (by rw [arrV_size]; exact hi) (by rw [arrV_read _ _ hlt]; simp) rfl rfl hd kk
theorem xo_Waald (C0 : xo_C mt p R s m args meth c G A) (hR : xo_R G A ad H Hm) (hn : H.2.2 n = true) (ht : 2 ≤ t ∧ t < 5) (hin : xo_in t n i = true) (hd : decode mt.2.1 pc = .ok (.aaload, 1))
    (kk : W p l e R s m args below meth c Hm locs cells slots Q (F0 m (pc + 1) lsA (va_rf ((H.2.1 n i.toNatClampNeg).map ad) :: rest))) : W p l e R s m args below meth c Hm locs cells slots Q (F0 m pc lsA (.int i :: .ref (ad n) :: rest)) := by
  obtain ⟨hex, hb, hml, hown, hts, hK, -⟩ := C0
  obtain ⟨N, hkd, hi⟩ := xo_in_spec hin
  have hlt : i.toNatClampNeg < N := Nat.not_le.mp fun z => hi (Or.inr z)
  have hta : xo_ta t = .object (xo_tn t) := xo_ta_obj t ht.1 ht.2
  refine W.aald (ty := .object (xo_tn t)) (v := va_rf ((H.2.1 n i.toNatClampNeg).map ad)) hex hb (xo_at_arr (hR.1 n hn).1 hkd) (hta ▸ (hK.2.1 t ht.2).1 N _) rfl (fun z => by cases z) (by rw [arrV_size]; exact hi) (by rw [arrV_read _ _ hlt, if_neg (by omega)]) rfl rfl hd kk
theorem xo_Walen (C0 : xo_C mt p R s m args meth c G A) (hR : xo_R G A ad H Hm) (hn : H.2.2 n = true) (ht : t < 5) (hkd : xo_kd n = .inr (t, N)) (hd : decode mt.2.1 pc = .ok (.arraylength, 1))
    (kk : W p l e R s m args below meth c Hm locs cells slots Q (F0 m (pc + 1) lsA (.int (Int32.ofNat N) :: rest))) : W p l e R s m args below meth c Hm locs cells slots Q (F0 m pc lsA (.ref (ad n) :: rest)) := by
  obtain ⟨hex, hb, hml, hown, hts, hK, -⟩ := C0
  exact W.alen (n := Int32.ofNat N) hex hb (xo_at_arr (hR.1 n hn).1 hkd) ((hK.2.1 t ht).1 N _) (by rw [arrV_size] <;> rfl) rfl rfl hd kk
theorem xo_R_ast {Hm1 : Heap} {v : Value} {k : Nat} (hR : xo_R G A ad H Hm) (hn : H.2.2 n = true) (hkd : xo_kd n = .inr (t, N)) (e1 : Hm1[ad n]? = some ((arrV (G.2 t) N (fun j => if t < 2 then .int (H.1 n j) else va_rf ((H.2.1 n j).map ad))).setSlot k v)) (e3 : ∀ q, q ≠ ad n → Hm1[q]? = Hm[q]?)
    (hlv : H'.2.2 = H.2.2) (hE : ∀ m g, ¬ (m = n ∧ g = k) → H'.1 m g = H.1 m g) (hP : ∀ m g, ¬ (m = n ∧ g = k) → H'.2.1 m g = H.2.1 m g) (hv : (if t < 2 then .int (H'.1 n k) else va_rf ((H'.2.1 n k).map ad)) = v) (hc : ∀ q, H'.2.1 n k = some q → H.2.2 q = true) : xo_R G A ad H' Hm1 := by
  refine xo_R_put hR hn hlv (fun m' hm' => funext fun g => hE m' g fun z => hm' z.1) (fun m' hm' => funext fun g => hP m' g fun z => hm' z.1) (fun g q hq => ?_) ?_ e3
  · by_cases eg : g = k
    · subst eg; exact hc q hq
    · rw [hP n g fun z => eg z.2] at hq; exact hR.2.2 n g q hn hq
  · unfold xo_at
    simp only [hkd]
    rw [e1, arrV_store]
    congr 2
    funext j
    by_cases ej : j = k
    · subst ej; simp only [updV, if_true]; exact hv.symm
    · simp only [updV, if_neg ej]; rw [hE n j fun z => ej z.2, hP n j fun z => ej z.2]
theorem xo_sE_ne (H : xo_H) (n : xo_N) (f : Nat) (v : Int32) : ∀ m g, ¬ (m = n ∧ g = f) → (xo_sE H n f v).1 m g = H.1 m g := fun m g h => by simp only [xo_sE, if_neg h]
theorem xo_sE_eq (H : xo_H) (n : xo_N) (f : Nat) (v : Int32) : (xo_sE H n f v).1 n f = v := by simp [xo_sE]
theorem xo_sP_ne (H : xo_H) (n : xo_N) (f : Nat) (v : Option xo_N) : ∀ m g, ¬ (m = n ∧ g = f) → (xo_sP H n f v).2.1 m g = H.2.1 m g := fun m g h => by simp only [xo_sP, if_neg h]
theorem xo_sP_eq (H : xo_H) (n : xo_N) (f : Nat) (v : Option xo_N) : (xo_sP H n f v).2.1 n f = v := by simp [xo_sP]
theorem xo_Wiast (C0 : xo_C mt p R s m args meth c G A) (hR : xo_R G A ad H Hm) (hS0 : va_S A s.heap Hm locs) (hn : H.2.2 n = true) (hin : xo_in 0 n i = true) (hd : decode mt.2.1 pc = .ok (.iastore, 1))
    (kk : ∀ (Hm1 : Heap) (locs1 : List Loc), xo_R G A ad (xo_sE H n i.toNatClampNeg x) Hm1 → va_S A s.heap Hm1 locs1 → W p l e R s m args below meth c Hm1 locs1 cells slots Q (F0 m (pc + 1) lsA rest)) : W p l e R s m args below meth c Hm locs cells slots Q (F0 m pc lsA (.int x :: .int i :: .ref (ad n) :: rest)) := by
  obtain ⟨hex, hb, hml, hown, hts, hK, -⟩ := C0
  obtain ⟨N, hkd, hi⟩ := xo_in_spec hin
  refine W.iast hex hb (xo_at_arr (hR.1 n hn).1 hkd) ((hK.2.1 0 (by decide)).1 N _) (fun z => by cases z) (by rw [arrV_size]; exact hi) rfl rfl hd fun H1 e1 e2 e3 => ?_
  exact kk H1 _ (xo_R_ast hR hn hkd e1 e3 rfl (xo_sE_ne H n _ x) (fun _ _ _ => rfl) (by rw [xo_sE_eq]; rfl) (fun q hq => hR.2.2 n _ q hn hq)) (hS0.put e2 e3 (hR.1 n hn).2)
theorem xo_nz {x : Int32} (h : x = 0 ∨ x = 1) : narrow .boolean (.int x) = .int x ∧ fits .boolean (.int x) = true := by
  rcases h with rfl | rfl <;> exact ⟨by decide +kernel, by decide +kernel⟩
theorem xo_Wzast (C0 : xo_C mt p R s m args meth c G A) (hR : xo_R G A ad H Hm) (hS0 : va_S A s.heap Hm locs) (hn : H.2.2 n = true) (hin : xo_in 1 n i = true) (hx : x = 0 ∨ x = 1) (hd : decode mt.2.1 pc = .ok (.bastore, 1))
    (kk : ∀ (Hm1 : Heap) (locs1 : List Loc), xo_R G A ad (xo_sE H n i.toNatClampNeg x) Hm1 → va_S A s.heap Hm1 locs1 → W p l e R s m args below meth c Hm1 locs1 cells slots Q (F0 m (pc + 1) lsA rest)) : W p l e R s m args below meth c Hm locs cells slots Q (F0 m pc lsA (.int x :: .int i :: .ref (ad n) :: rest)) := by
  obtain ⟨hex, hb, hml, hown, hts, hK, -⟩ := C0
  obtain ⟨N, hkd, hi⟩ := xo_in_spec hin
  refine W.zast hex hb (xo_at_arr (hR.1 n hn).1 hkd) ((hK.2.1 1 (by decide)).1 N _) (fun z => by cases z) (by rw [arrV_size]; exact hi) rfl rfl hd fun H1 e1 e2 e3 => ?_
  rw [(xo_nz hx).1] at e1
  exact kk H1 _ (xo_R_ast hR hn hkd e1 e3 rfl (xo_sE_ne H n _ x) (fun _ _ _ => rfl) (by rw [xo_sE_eq]; rfl) (fun q hq => hR.2.2 n _ q hn hq)) (hS0.put e2 e3 (hR.1 n hn).2)
theorem xo_Waast (C0 : xo_C mt p R s m args meth c G A) (hR : xo_R G A ad H Hm) (hS0 : va_S A s.heap Hm locs) (hn : H.2.2 n = true) (hq : H.2.2 q = true) (ht : 2 ≤ t ∧ t < 5) (hin : xo_in t n i = true) (hkq : xo_kd q = .inl ci) (hc : xo_cls[ci]? = some (C, T, N)) (htn : xo_tn t = C) (hd : decode mt.2.1 pc = .ok (.aastore, 1))
    (kk : ∀ (Hm1 : Heap) (locs1 : List Loc), xo_R G A ad (xo_sP H n i.toNatClampNeg (some q)) Hm1 → va_S A s.heap Hm1 locs1 → W p l e R s m args below meth c Hm1 locs1 cells slots Q (F0 m (pc + 1) lsA rest)) : W p l e R s m args below meth c Hm locs cells slots Q (F0 m pc lsA (.ref (ad q) :: .int i :: .ref (ad n) :: rest)) := by
  obtain ⟨hex, hb, hml, hown, hts, hK, -⟩ := C0
  obtain ⟨NN, hkd, hi⟩ := xo_in_spec hin
  have hlt : i.toNatClampNeg < NN := Nat.not_le.mp fun z => hi (Or.inr z)
  have h0 : ¬ i < 0 := fun z => hi (Or.inl z)
  have hta : xo_ta t = .object C := by rw [← htn]; exact xo_ta_obj t ht.1 ht.2
  have hatq := (hR.1 q hq).1
  unfold xo_at at hatq
  simp only [hkq] at hatq
  obtain ⟨r, hr, cellV, g1, g2, g3, -⟩ := hatq
  have hcls := (hK.1 ci _ hc).2
  have hra := (hK.2.1 t ht.2).2
  rw [hta] at hra
  obtain ⟨kA, comp, k1, k2, k3, -⟩ := hra
  have hcomp : comp = G.1.1 ci := Option.some.inj (k3.symm.trans hcls.1)
  subst hcomp
  obtain ⟨kC, hkC, -⟩ := hcls.2
  refine W.aast hex hb (xo_at_arr (hR.1 n hn).1 hkd) (fun z h => by cases h) (fun h => by cases h) k1 k2 rfl hkC ⟨h0, by rw [arrV_size]; exact hlt⟩ g1 (fun z h => by rw [g3] at h; cases h) (by rw [g2]; exact hkC) (by rw [g2]; exact va_assign hcls) rfl rfl hd fun H1 e1 e2 e3 => ?_
  exact kk H1 _ (xo_R_ast hR hn hkd e1 e3 rfl (fun _ _ _ => rfl) (xo_sP_ne H n _ _) (by rw [xo_sP_eq, if_neg (by omega)]; rfl) (fun q' hq' => by rw [xo_sP_eq] at hq'; cases hq'; exact hq)) (hS0.put e2 e3 (hR.1 n hn).2)
/-! new cells -/
theorem xo_fv0 (ad ad' : xo_N → Nat) (d : String) : xo_fv ad d 0 none = xo_fv ad' d 0 none := rfl
theorem xo_Wnew (C0 : xo_C mt p R s m args meth c G A) (hcb : xo_cb ci C T N ty) (hdef : ∀ k, k < N → xo_fv (fun _ => 0) (T k).2.2.1 0 none = defaultValue (ty k)) (hw1 : Cond.classLink mt.1.cls ix C ∈ xo_WS) (hw2 : Cond.instantiable C N ∈ xo_WS) (hw3 : Cond.initialized C ∈ xo_WS) (hR : xo_R G A ad H Hm) (hS0 : va_S A s.heap Hm locs) (hn : H.2.2 n = false) (hkd : xo_kd n = .inl ci) (hc : cells + 1 ≤ R.cells) (hs : slots + N ≤ R.slots) (hd : decode mt.2.1 pc = .ok (.new ix, 3))
    (kk : ∀ (Hm1 : Heap), xo_R G A (xo_ua ad n Hm.size) (xo_sN H n) Hm1 → va_S A s.heap Hm1 locs → W p l e R s m args below meth c Hm1 locs (cells + 1) (slots + N) Q (F0 m (pc + 3) lsA (.ref (xo_ua ad n Hm.size n) :: rest))) : W p l e R s m args below meth c Hm locs cells slots Q (F0 m pc lsA rest) := by
  obtain ⟨hex, hb, hml, hown, hts, hK, -, -, -, -, hA⟩ := C0
  have hts' : ∀ w ∈ xo_WS, w.before args s = true := fun w hw => hts w (List.mem_cons_of_mem _ hw)
  have hKn := hK.1 ci _ hcb.1
  refine W.newcK hex hb hown (hts' _ hw1) (hts' _ hw2) (hts' _ hw3) rfl hd hc hs hKn.2.1 rfl fun H1 kC hkC e1 z1 o1 => ?_
  rw [xo_ua_s] at kk
  refine kk H1 (xo_R_new hR hn (hA _ hS0.1) ?_ o1) ⟨Nat.le_trans hS0.1 (by omega), fun x h1 h2 => (o1 x (Nat.lt_of_lt_of_le h1 hS0.1)).trans (hS0.2.1 x h1 h2), hS0.2.2⟩
  unfold xo_at
  simp only [hkd]
  rw [xo_ua_s]
  refine ⟨_, hcb.1, (u_born ty hts' hcb.2.1 hKn hkC e1 hcb.2.2.1).to fun k hk => ?_⟩
  rw [← hdef k hk]
  simp [xo_sN, xo_fv]
theorem xo_Wnewa (C0 : xo_C mt p R s m args meth c G A) {atype : ArrayType} (hty : newarray.typeOf atype = xo_ta t) (ht : t < 2) (hw : Cond.arrayClass (xo_ta t) ∈ xo_WS) (hR : xo_R G A ad H Hm) (hS0 : va_S A s.heap Hm locs) (hn : H.2.2 n = false) (hkd : xo_kd n = .inr (t, N)) (hN : N < 65536) (hc : cells + 1 ≤ R.cells) (hs : slots + N ≤ R.slots) (hd : decode mt.2.1 pc = .ok (.newarray atype, 2))
    (kk : ∀ (Hm1 : Heap), xo_R G A (xo_ua ad n Hm.size) (xo_sN H n) Hm1 → va_S A s.heap Hm1 locs → W p l e R s m args below meth c Hm1 locs (cells + 1) (slots + N) Q (F0 m (pc + 2) lsA (.ref (xo_ua ad n Hm.size n) :: rest))) : W p l e R s m args below meth c Hm locs cells slots Q (F0 m pc lsA (.int (Int32.ofNat N) :: rest)) := by
  obtain ⟨hex, hb, hml, hown, hts, hK, -, -, -, -, hA⟩ := C0
  have hts' : ∀ w ∈ xo_WS, w.before args s = true := fun w hw => hts w (List.mem_cons_of_mem _ hw)
  have hcl : (Int32.ofNat N).toNatClampNeg = N := nI_clamp (n := N) (by omega)
  have hng : ¬ Int32.ofNat N < 0 := nI_pos (n := N) (by omega)
  have hdv : defaultValue (xo_ta t) = .int 0 := by
    rcases (by omega : t = 0 ∨ t = 1) with rfl | rfl <;> rfl
  have hbb : N * componentBytes (xo_ta t) ≤ 536870912 := by
    rcases (by omega : t = 0 ∨ t = 1) with rfl | rfl
    · show N * 4 ≤ _; omega
    · show N * 1 ≤ _; omega
  refine va_newaK hex hb (by rw [hty]; exact hts' _ hw) rfl hd rfl hng hcl (by rw [hty]; exact hbb) hc hs rfl fun H1 cA e1 z1 o1 hAr hNm => ?_
  rw [hty] at e1 hNm
  have hcA : cA = G.2 t := by
    have hra := (hK.2.1 t (by omega)).2
    rcases (by omega : t = 0 ∨ t = 1) with rfl | rfl
    · exact Option.some.inj (hNm.symm.trans hra)
    · exact Option.some.inj (hNm.symm.trans hra)
  subst hcA
  rw [xo_ua_s] at kk
  refine kk H1 (xo_R_new hR hn (hA _ hS0.1) ?_ o1) ⟨Nat.le_trans hS0.1 (by omega), fun x h1 h2 => (o1 x (Nat.lt_of_lt_of_le h1 hS0.1)).trans (hS0.2.1 x h1 h2), hS0.2.2⟩
  unfold xo_at
  simp only [hkd]
  rw [xo_ua_s, e1, hdv]
  congr 2
  funext j
  simp [xo_sN, ht]
theorem xo_Wanew (C0 : xo_C mt p R s m args meth c G A) (ht : 2 ≤ t ∧ t < 5) (hw : Cond.classLink mt.1.cls ix (xo_tn t) ∈ xo_WS) (hR : xo_R G A ad H Hm) (hS0 : va_S A s.heap Hm locs) (hn : H.2.2 n = false) (hkd : xo_kd n = .inr (t, N)) (hN : N < 65536) (hc : cells + 1 ≤ R.cells) (hs : slots + N ≤ R.slots) (hd : decode mt.2.1 pc = .ok (.anewarray ix, 3))
    (kk : ∀ (Hm1 : Heap), xo_R G A (xo_ua ad n Hm.size) (xo_sN H n) Hm1 → va_S A s.heap Hm1 locs → W p l e R s m args below meth c Hm1 locs (cells + 1) (slots + N) Q (F0 m (pc + 3) lsA (.ref (xo_ua ad n Hm.size n) :: rest))) : W p l e R s m args below meth c Hm locs cells slots Q (F0 m pc lsA (.int (Int32.ofNat N) :: rest)) := by
  obtain ⟨hex, hb, hml, hown, hts, hK, -, -, -, -, hA⟩ := C0
  have hts' : ∀ w ∈ xo_WS, w.before args s = true := fun w hw => hts w (List.mem_cons_of_mem _ hw)
  have hcl : (Int32.ofNat N).toNatClampNeg = N := nI_clamp (n := N) (by omega)
  have hng : ¬ Int32.ofNat N < 0 := nI_pos (n := N) (by omega)
  have hra := (hK.2.1 t ht.2).2
  rw [xo_ta_obj t ht.1 ht.2] at hra
  obtain ⟨kA0, comp0, k1, k2, k3, k4⟩ := hra
  refine W.anew hex hb hown (hts' _ hw) (va_AO.use (hK.2.2.2 t ht.1 ht.2)) rfl hd rfl hng (by rw [hcl]; omega) hc (by rw [hcl]; exact hs) fun cA kA comp f1 f2 f3 f4 => ?_
  have hcA : cA = G.2 t := Option.some.inj (f1.symm.trans k4)
  subst hcA
  rw [hcl, xo_ua_s] at *
  generalize hH1 : Hm.push ({ cls := G.2 t, slots := Array.replicate N .null, vm := .none } : Cell) = H1
  have z1 : H1.size = Hm.size + 1 := by rw [← hH1, Array.size_push]
  have e1 : H1[Hm.size]? = some (arrV (G.2 t) N (fun _ => .null)) := by rw [← hH1, Array.getElem?_push_size, ← arrV_new]
  have o1 : ∀ q : Nat, q < Hm.size → H1[q]? = Hm[q]? := fun q hq => by rw [← hH1, Array.getElem?_push, if_neg (Nat.ne_of_lt hq)]
  refine kk H1 (xo_R_new hR hn (hA _ hS0.1) ?_ o1) ⟨Nat.le_trans hS0.1 (by omega), fun x h1 h2 => (o1 x (Nat.lt_of_lt_of_le h1 hS0.1)).trans (hS0.2.1 x h1 h2), hS0.2.2⟩
  unfold xo_at
  simp only [hkd]
  rw [xo_ua_s, e1]
  congr 2
  funext j
  rw [if_neg (by omega)]
  simp [xo_sN, va_rf]
end XA
