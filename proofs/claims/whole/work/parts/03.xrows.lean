section XR
variable {α : Type} {mt : xo_T} {rc rs : Nat} {j : α → Option xo_V × xo_H} {r : α} {pc pc' : Nat} {ls : List (Nat × xo_V)} {st : List xo_V} {H : xo_H} {k kt kf : Option α}
theorem xo_iconst {n : Int} {v : Int32} (hd : decode mt.2.1 pc = .ok (.iconst n, 1)) (hv : Int32.ofInt n = v) (hp : pc + 1 = pc') (kk : xo_X mt rc rs j r pc' ls (.inl v :: st) H k) : xo_X mt rc rs j r pc ls st H k := by
  intro hk p l e R s m args below meth c G A ad0 lv0 ad Hm locs cells slots lsA C0 hR hS hE hc hs hl hL hT
  subst hp
  exact lv_iconst C0.1 C0.2.1 hd hv (kk hk p l e R s m args below meth c G A ad0 lv0 ad Hm locs cells slots lsA C0 hR hS hE hc hs hl hL (xo_lvC (xo_lvI H v) hT))
theorem xo_bipush {n : Int} {v : Int32} (hd : decode mt.2.1 pc = .ok (.bipush n, 2)) (hv : (Int8.ofInt n).toInt32 = v) (hp : pc + 2 = pc') (kk : xo_X mt rc rs j r pc' ls (.inl v :: st) H k) : xo_X mt rc rs j r pc ls st H k := by
  intro hk p l e R s m args below meth c G A ad0 lv0 ad Hm locs cells slots lsA C0 hR hS hE hc hs hl hL hT
  subst hp
  exact lv_bipush C0.1 C0.2.1 hd hv (kk hk p l e R s m args below meth c G A ad0 lv0 ad Hm locs cells slots lsA C0 hR hS hE hc hs hl hL (xo_lvC (xo_lvI H v) hT))
theorem xo_sipush {n : Int} {v : Int32} (hd : decode mt.2.1 pc = .ok (.sipush n, 3)) (hv : (Int16.ofInt n).toInt32 = v) (hp : pc + 3 = pc') (kk : xo_X mt rc rs j r pc' ls (.inl v :: st) H k) : xo_X mt rc rs j r pc ls st H k := by
  intro hk p l e R s m args below meth c G A ad0 lv0 ad Hm locs cells slots lsA C0 hR hS hE hc hs hl hL hT
  subst hp
  exact lv_sipush C0.1 C0.2.1 hd hv (kk hk p l e R s m args below meth c G A ad0 lv0 ad Hm locs cells slots lsA C0 hR hS hE hc hs hl hL (xo_lvC (xo_lvI H v) hT))
theorem xo_null (hd : decode mt.2.1 pc = .ok (.aconst_null, 1)) (hp : pc + 1 = pc') (kk : xo_X mt rc rs j r pc' ls (.inr none :: st) H k) : xo_X mt rc rs j r pc ls st H k := by
  intro hk p l e R s m args below meth c G A ad0 lv0 ad Hm locs cells slots lsA C0 hR hS hE hc hs hl hL hT
  subst hp
  exact lv_null C0.1 C0.2.1 hd (kk hk p l e R s m args below meth c G A ad0 lv0 ad Hm locs cells slots lsA C0 hR hS hE hc hs hl hL (xo_lvC (xo_lvN H) hT))
theorem xo_iload_n {q : Fin 4} {i : Nat} {x : Int32} (hd : decode mt.2.1 pc = .ok (.iload_n q, 1)) (hi : (q : Nat) = i) (t : Nat) (ht : ls[t]? = some (i, .inl x)) (hp : pc + 1 = pc') (kk : xo_X mt rc rs j r pc' ls (.inl x :: st) H k) : xo_X mt rc rs j r pc ls st H k := by
  intro hk p l e R s m args below meth c G A ad0 lv0 ad Hm locs cells slots lsA C0 hR hS hE hc hs hl hL hT
  subst hp
  exact lv_iload_n C0.1 C0.2.1 hd hi (xo_lsAt hl t ht) (kk hk p l e R s m args below meth c G A ad0 lv0 ad Hm locs cells slots lsA C0 hR hS hE hc hs hl hL (xo_lvC (xo_lvI H x) hT))
theorem xo_iload {i : Nat} {x : Int32} (hd : decode mt.2.1 pc = .ok (.iload i, 2)) (t : Nat) (ht : ls[t]? = some (i, .inl x)) (hp : pc + 2 = pc') (kk : xo_X mt rc rs j r pc' ls (.inl x :: st) H k) : xo_X mt rc rs j r pc ls st H k := by
  intro hk p l e R s m args below meth c G A ad0 lv0 ad Hm locs cells slots lsA C0 hR hS hE hc hs hl hL hT
  subst hp
  exact lv_iload C0.1 C0.2.1 hd (xo_lsAt hl t ht) (kk hk p l e R s m args below meth c G A ad0 lv0 ad Hm locs cells slots lsA C0 hR hS hE hc hs hl hL (xo_lvC (xo_lvI H x) hT))
theorem xo_aload_n {q : Fin 4} {i : Nat} {x : Option xo_N} (hd : decode mt.2.1 pc = .ok (.aload_n q, 1)) (hi : (q : Nat) = i) (t : Nat) (ht : ls[t]? = some (i, .inr x)) (hp : pc + 1 = pc') (kk : xo_X mt rc rs j r pc' ls (.inr x :: st) H k) : xo_X mt rc rs j r pc ls st H k := by
  intro hk p l e R s m args below meth c G A ad0 lv0 ad Hm locs cells slots lsA C0 hR hS hE hc hs hl hL hT
  subst hp
  have h1 := kk hk p l e R s m args below meth c G A ad0 lv0 ad Hm locs cells slots lsA C0 hR hS hE hc hs hl hL (xo_lvC (xo_lsLv hL ht) hT)
  have h2 := xo_lsAt hl t ht
  cases x with
  | none => exact lv_aload_nN C0.1 C0.2.1 hd hi h2 h1
  | some n => exact lv_aload_n C0.1 C0.2.1 hd hi h2 h1
theorem xo_aload {i : Nat} {x : Option xo_N} (hd : decode mt.2.1 pc = .ok (.aload i, 2)) (t : Nat) (ht : ls[t]? = some (i, .inr x)) (hp : pc + 2 = pc') (kk : xo_X mt rc rs j r pc' ls (.inr x :: st) H k) : xo_X mt rc rs j r pc ls st H k := by
  intro hk p l e R s m args below meth c G A ad0 lv0 ad Hm locs cells slots lsA C0 hR hS hE hc hs hl hL hT
  subst hp
  have h1 := kk hk p l e R s m args below meth c G A ad0 lv0 ad Hm locs cells slots lsA C0 hR hS hE hc hs hl hL (xo_lvC (xo_lsLv hL ht) hT)
  have h2 := xo_lsAt hl t ht
  cases x with
  | none => exact lv_aloadN C0.1 C0.2.1 hd h2 h1
  | some n => exact lv_aload C0.1 C0.2.1 hd h2 h1
theorem xo_lsF {H : xo_H} {i : Nat} {v : xo_V} {ls' : List (Nat × xo_V)} (hv : xo_lv H v) (hL : ∀ q ∈ ls, xo_lv H q.2) (h : (i, v) :: ls.filter (fun q => !(q.1 == i)) = ls') : ∀ q ∈ ls', xo_lv H q.2 := by
  intro q hq
  rw [← h] at hq
  rcases List.mem_cons.mp hq with rfl | hq
  · exact hv
  · exact hL q (List.mem_filter.mp hq).1
theorem xo_lsG {ad : xo_N → Nat} {i : Nat} {v : xo_V} {ls' : List (Nat × xo_V)} (h : (i, v) :: ls.filter (fun q => !(q.1 == i)) = ls') : (i, xo_tr ad v) :: (ls.map fun q => (q.1, xo_tr ad q.2)).filter (fun q => !(q.1 == i) && !(q.1 + 1 == i && q.2.category == 2)) = ls'.map fun q => (q.1, xo_tr ad q.2) := by
  rw [xo_filt, ← h]
  rfl
theorem xo_istore_n {q : Fin 4} {i : Nat} {x : Int32} {ls' : List (Nat × xo_V)} (hd : decode mt.2.1 pc = .ok (.istore_n q, 1)) (hi : (q : Nat) = i) (hi2 : i < mt.2.2.1) (hl2 : (i, (.inl x : xo_V)) :: ls.filter (fun q => !(q.1 == i)) = ls') (hp : pc + 1 = pc') (kk : xo_X mt rc rs j r pc' ls' st H k) : xo_X mt rc rs j r pc ls (.inl x :: st) H k := by
  intro hk p l e R s m args below meth c G A ad0 lv0 ad Hm locs cells slots lsA C0 hR hS hE hc hs hl hL hT
  subst hp
  exact lv_istore_n C0.1 C0.2.1 hd hi hl hi2 (xo_lsG hl2) fun ls2 hl2' => kk hk p l e R s m args below meth c G A ad0 lv0 ad Hm locs cells slots ls2 C0 hR hS hE hc hs hl2' (xo_lsF (xo_lvI H x) hL hl2) (xo_lvT hT)
theorem xo_istore {i : Nat} {x : Int32} {ls' : List (Nat × xo_V)} (hd : decode mt.2.1 pc = .ok (.istore i, 2)) (hi2 : i < mt.2.2.1) (hl2 : (i, (.inl x : xo_V)) :: ls.filter (fun q => !(q.1 == i)) = ls') (hp : pc + 2 = pc') (kk : xo_X mt rc rs j r pc' ls' st H k) : xo_X mt rc rs j r pc ls (.inl x :: st) H k := by
  intro hk p l e R s m args below meth c G A ad0 lv0 ad Hm locs cells slots lsA C0 hR hS hE hc hs hl hL hT
  subst hp
  exact lv_istore C0.1 C0.2.1 hd hl hi2 (xo_lsG hl2) fun ls2 hl2' => kk hk p l e R s m args below meth c G A ad0 lv0 ad Hm locs cells slots ls2 C0 hR hS hE hc hs hl2' (xo_lsF (xo_lvI H x) hL hl2) (xo_lvT hT)
theorem xo_astore_n {q : Fin 4} {i : Nat} {x : Option xo_N} {ls' : List (Nat × xo_V)} (hd : decode mt.2.1 pc = .ok (.astore_n q, 1)) (hi : (q : Nat) = i) (hi2 : i < mt.2.2.1) (hl2 : (i, (.inr x : xo_V)) :: ls.filter (fun q => !(q.1 == i)) = ls') (hp : pc + 1 = pc') (kk : xo_X mt rc rs j r pc' ls' st H k) : xo_X mt rc rs j r pc ls (.inr x :: st) H k := by
  intro hk p l e R s m args below meth c G A ad0 lv0 ad Hm locs cells slots lsA C0 hR hS hE hc hs hl hL hT
  subst hp
  have h1 := xo_lsG (ad := ad) hl2
  cases x with
  | none => exact lv_astore_nN C0.1 C0.2.1 hd hi hl hi2 h1 fun ls2 hl2' => kk hk p l e R s m args below meth c G A ad0 lv0 ad Hm locs cells slots ls2 C0 hR hS hE hc hs hl2' (xo_lsF (xo_lvH hT) hL hl2) (xo_lvT hT)
  | some n => exact lv_astore_n C0.1 C0.2.1 hd hi hl hi2 h1 fun ls2 hl2' => kk hk p l e R s m args below meth c G A ad0 lv0 ad Hm locs cells slots ls2 C0 hR hS hE hc hs hl2' (xo_lsF (xo_lvH hT) hL hl2) (xo_lvT hT)
theorem xo_astore {i : Nat} {x : Option xo_N} {ls' : List (Nat × xo_V)} (hd : decode mt.2.1 pc = .ok (.astore i, 2)) (hi2 : i < mt.2.2.1) (hl2 : (i, (.inr x : xo_V)) :: ls.filter (fun q => !(q.1 == i)) = ls') (hp : pc + 2 = pc') (kk : xo_X mt rc rs j r pc' ls' st H k) : xo_X mt rc rs j r pc ls (.inr x :: st) H k := by
  intro hk p l e R s m args below meth c G A ad0 lv0 ad Hm locs cells slots lsA C0 hR hS hE hc hs hl hL hT
  subst hp
  have h1 := xo_lsG (ad := ad) hl2
  cases x with
  | none => exact lv_astoreN C0.1 C0.2.1 hd hl hi2 h1 fun ls2 hl2' => kk hk p l e R s m args below meth c G A ad0 lv0 ad Hm locs cells slots ls2 C0 hR hS hE hc hs hl2' (xo_lsF (xo_lvH hT) hL hl2) (xo_lvT hT)
  | some n => exact lv_astore C0.1 C0.2.1 hd hl hi2 h1 fun ls2 hl2' => kk hk p l e R s m args below meth c G A ad0 lv0 ad Hm locs cells slots ls2 C0 hR hS hE hc hs hl2' (xo_lsF (xo_lvH hT) hL hl2) (xo_lvT hT)
theorem xo_iinc {i : Nat} {n : Int} {x v : Int32} {ls' : List (Nat × xo_V)} (hd : decode mt.2.1 pc = .ok (.iinc i n, 3)) (t : Nat) (ht : ls[t]? = some (i, .inl x)) (hv : x + Int32.ofInt n = v) (hi2 : i < mt.2.2.1) (hl2 : (i, (.inl v : xo_V)) :: ls.filter (fun q => !(q.1 == i)) = ls') (hp : pc + 3 = pc') (kk : xo_X mt rc rs j r pc' ls' st H k) : xo_X mt rc rs j r pc ls st H k := by
  intro hk p l e R s m args below meth c G A ad0 lv0 ad Hm locs cells slots lsA C0 hR hS hE hc hs hl hL hT
  subst hp
  exact lv_iinc (k := t) C0.1 C0.2.1 hd hl (by rw [List.getElem?_map, ht]; rfl) hv hi2 (xo_lsG hl2) fun ls2 hl2' => kk hk p l e R s m args below meth c G A ad0 lv0 ad Hm locs cells slots ls2 C0 hR hS hE hc hs hl2' (xo_lsF (xo_lvI H v) hL hl2) hT
def xo_pick (l : List (Nat × xo_V)) (ks : List Nat) : List (Nat × xo_V) := ks.filterMap (fun k => l[k]?)
theorem xo_sub {ls' : List (Nat × xo_V)} (ks : List Nat) (h : xo_pick ls ks = ls') (kk : xo_X mt rc rs j r pc ls' st H k) : xo_X mt rc rs j r pc ls st H k := by
  intro hk p l e R s m args below meth c G A ad0 lv0 ad Hm locs cells slots lsA C0 hR hS hE hc hs hl hL hT
  refine kk hk p l e R s m args below meth c G A ad0 lv0 ad Hm locs cells slots lsA C0 hR hS hE hc hs (lv_sub hl ks ?_) (fun q hq => ?_) hT
  · rw [← h]
    unfold lv_pick xo_pick
    rw [List.map_filterMap]
    congr 1
    funext k
    rw [List.getElem?_map]
  · rw [← h] at hq
    obtain ⟨k, -, hk⟩ := List.mem_filterMap.mp hq
    exact hL q (List.mem_of_getElem? hk)
theorem xo_dup {v : xo_V} (hd : decode mt.2.1 pc = .ok (.dup, 1)) (hp : pc + 1 = pc') (kk : xo_X mt rc rs j r pc' ls (v :: v :: st) H k) : xo_X mt rc rs j r pc ls (v :: st) H k := by
  intro hk p l e R s m args below meth c G A ad0 lv0 ad Hm locs cells slots lsA C0 hR hS hE hc hs hl hL hT
  subst hp
  exact lv_dup C0.1 C0.2.1 hd (xo_cat ad v) (kk hk p l e R s m args below meth c G A ad0 lv0 ad Hm locs cells slots lsA C0 hR hS hE hc hs hl hL (xo_lvC (xo_lvH hT) hT))
theorem xo_dup2 {v w : xo_V} (hd : decode mt.2.1 pc = .ok (.dup2, 1)) (hp : pc + 1 = pc') (kk : xo_X mt rc rs j r pc' ls (v :: w :: v :: w :: st) H k) : xo_X mt rc rs j r pc ls (v :: w :: st) H k := by
  intro hk p l e R s m args below meth c G A ad0 lv0 ad Hm locs cells slots lsA C0 hR hS hE hc hs hl hL hT
  subst hp
  exact lv_dup2_11 C0.1 C0.2.1 hd (xo_cat ad v) (xo_cat ad w) (kk hk p l e R s m args below meth c G A ad0 lv0 ad Hm locs cells slots lsA C0 hR hS hE hc hs hl hL (xo_lvC (xo_lvH hT) (xo_lvC (xo_lvH (xo_lvT hT)) hT)))
theorem xo_pop {v : xo_V} (hd : decode mt.2.1 pc = .ok (.pop, 1)) (hp : pc + 1 = pc') (kk : xo_X mt rc rs j r pc' ls st H k) : xo_X mt rc rs j r pc ls (v :: st) H k := by
  intro hk p l e R s m args below meth c G A ad0 lv0 ad Hm locs cells slots lsA C0 hR hS hE hc hs hl hL hT
  subst hp
  exact lv_pop C0.1 C0.2.1 hd (xo_cat ad v) (kk hk p l e R s m args below meth c G A ad0 lv0 ad Hm locs cells slots lsA C0 hR hS hE hc hs hl hL (xo_lvT hT))
theorem xo_iadd {x y : Int32} (hd : decode mt.2.1 pc = .ok (.iadd, 1)) (hp : pc + 1 = pc') (kk : xo_X mt rc rs j r pc' ls (.inl (x + y) :: st) H k) : xo_X mt rc rs j r pc ls (.inl y :: .inl x :: st) H k := by
  intro hk p l e R s m args below meth c G A ad0 lv0 ad Hm locs cells slots lsA C0 hR hS hE hc hs hl hL hT
  subst hp
  exact lv_iadd C0.1 C0.2.1 hd (kk hk p l e R s m args below meth c G A ad0 lv0 ad Hm locs cells slots lsA C0 hR hS hE hc hs hl hL (xo_lvC (xo_lvI H _) (xo_lvT (xo_lvT hT))))
theorem xo_isub {x y : Int32} (hd : decode mt.2.1 pc = .ok (.isub, 1)) (hp : pc + 1 = pc') (kk : xo_X mt rc rs j r pc' ls (.inl (x - y) :: st) H k) : xo_X mt rc rs j r pc ls (.inl y :: .inl x :: st) H k := by
  intro hk p l e R s m args below meth c G A ad0 lv0 ad Hm locs cells slots lsA C0 hR hS hE hc hs hl hL hT
  subst hp
  exact lv_isub C0.1 C0.2.1 hd (kk hk p l e R s m args below meth c G A ad0 lv0 ad Hm locs cells slots lsA C0 hR hS hE hc hs hl hL (xo_lvC (xo_lvI H _) (xo_lvT (xo_lvT hT))))
theorem xo_imul {x y : Int32} (hd : decode mt.2.1 pc = .ok (.imul, 1)) (hp : pc + 1 = pc') (kk : xo_X mt rc rs j r pc' ls (.inl (x * y) :: st) H k) : xo_X mt rc rs j r pc ls (.inl y :: .inl x :: st) H k := by
  intro hk p l e R s m args below meth c G A ad0 lv0 ad Hm locs cells slots lsA C0 hR hS hE hc hs hl hL hT
  subst hp
  exact lv_imul C0.1 C0.2.1 hd (kk hk p l e R s m args below meth c G A ad0 lv0 ad Hm locs cells slots lsA C0 hR hS hE hc hs hl hL (xo_lvC (xo_lvI H _) (xo_lvT (xo_lvT hT))))
theorem xo_iand {x y : Int32} (hd : decode mt.2.1 pc = .ok (.iand, 1)) (hp : pc + 1 = pc') (kk : xo_X mt rc rs j r pc' ls (.inl (x &&& y) :: st) H k) : xo_X mt rc rs j r pc ls (.inl y :: .inl x :: st) H k := by
  intro hk p l e R s m args below meth c G A ad0 lv0 ad Hm locs cells slots lsA C0 hR hS hE hc hs hl hL hT
  subst hp
  exact lv_iand C0.1 C0.2.1 hd (kk hk p l e R s m args below meth c G A ad0 lv0 ad Hm locs cells slots lsA C0 hR hS hE hc hs hl hL (xo_lvC (xo_lvI H _) (xo_lvT (xo_lvT hT))))
theorem xo_irem {x y : Int32} {K : Int32 → Option α} (hd : decode mt.2.1 pc = .ok (.irem, 1)) (hp : pc + 1 = pc') (kk : ∀ v, xo_X mt rc rs j r pc' ls (.inl v :: st) H (K v)) : xo_X mt rc rs j r pc ls (.inl y :: .inl x :: st) H (xo_rm x y K) := by
  intro hk p l e R s m args below meth c G A ad0 lv0 ad Hm locs cells slots lsA C0 hR hS hE hc hs hl hL hT
  subst hp
  unfold xo_rm at hk
  split at hk
  · cases hk
  next hy => exact lv_irem C0.1 C0.2.1 hd hy (kk _ hk p l e R s m args below meth c G A ad0 lv0 ad Hm locs cells slots lsA C0 hR hS hE hc hs hl hL (xo_lvC (xo_lvI H _) (xo_lvT (xo_lvT hT))))
theorem xo_goto {off : Int} (hd : decode mt.2.1 pc = .ok (.goto off, 3)) (ht : (pc : Int) + off = (pc' : Int)) (kk : xo_X mt rc rs j r pc' ls st H k) : xo_X mt rc rs j r pc ls st H k := by
  intro hk p l e R s m args below meth c G A ad0 lv0 ad Hm locs cells slots lsA C0 hR hS hE hc hs hl hL hT
  exact lv_goto C0.1 C0.2.1 hd ht (kk hk p l e R s m args below meth c G A ad0 lv0 ad Hm locs cells slots lsA C0 hR hS hE hc hs hl hL hT)
theorem xo_if_eq {x : Int32} {off : Int} {tgt : Nat} (hd : decode mt.2.1 pc = .ok (.ifCond .eq off, 3)) (ht : (pc : Int) + off = (tgt : Int)) (hp : pc + 3 = pc') (h1 : xo_X mt rc rs j r tgt ls st H kt) (h2 : xo_X mt rc rs j r pc' ls st H kf) : xo_X mt rc rs j r pc ls (.inl x :: st) H (if x = 0 then kt else kf) := by
  intro hk p l e R s m args below meth c G A ad0 lv0 ad Hm locs cells slots lsA C0 hR hS hE hc hs hl hL hT
  subst hp
  exact lv_if_eq C0.1 C0.2.1 hd ht (fun h => h1 (by rw [if_pos h] at hk; exact hk) p l e R s m args below meth c G A ad0 lv0 ad Hm locs cells slots lsA C0 hR hS hE hc hs hl hL (xo_lvT hT)) (fun h => h2 (by rw [if_neg h] at hk; exact hk) p l e R s m args below meth c G A ad0 lv0 ad Hm locs cells slots lsA C0 hR hS hE hc hs hl hL (xo_lvT hT))
theorem xo_if_ne {x : Int32} {off : Int} {tgt : Nat} (hd : decode mt.2.1 pc = .ok (.ifCond .ne off, 3)) (ht : (pc : Int) + off = (tgt : Int)) (hp : pc + 3 = pc') (h1 : xo_X mt rc rs j r tgt ls st H kt) (h2 : xo_X mt rc rs j r pc' ls st H kf) : xo_X mt rc rs j r pc ls (.inl x :: st) H (if x = 0 then kf else kt) := by
  intro hk p l e R s m args below meth c G A ad0 lv0 ad Hm locs cells slots lsA C0 hR hS hE hc hs hl hL hT
  subst hp
  exact lv_if_ne C0.1 C0.2.1 hd ht (fun h => h1 (by rw [if_neg h] at hk; exact hk) p l e R s m args below meth c G A ad0 lv0 ad Hm locs cells slots lsA C0 hR hS hE hc hs hl hL (xo_lvT hT)) (fun h => h2 (by rw [if_pos h] at hk; exact hk) p l e R s m args below meth c G A ad0 lv0 ad Hm locs cells slots lsA C0 hR hS hE hc hs hl hL (xo_lvT hT))
theorem xo_if_lt {x : Int32} {off : Int} {tgt : Nat} (hd : decode mt.2.1 pc = .ok (.ifCond .lt off, 3)) (ht : (pc : Int) + off = (tgt : Int)) (hp : pc + 3 = pc') (h1 : xo_X mt rc rs j r tgt ls st H kt) (h2 : xo_X mt rc rs j r pc' ls st H kf) : xo_X mt rc rs j r pc ls (.inl x :: st) H (if x < 0 then kt else kf) := by
  intro hk p l e R s m args below meth c G A ad0 lv0 ad Hm locs cells slots lsA C0 hR hS hE hc hs hl hL hT
  subst hp
  exact lv_if_lt C0.1 C0.2.1 hd ht (fun h => h1 (by rw [if_pos h] at hk; exact hk) p l e R s m args below meth c G A ad0 lv0 ad Hm locs cells slots lsA C0 hR hS hE hc hs hl hL (xo_lvT hT)) (fun h => h2 (by rw [if_neg h] at hk; exact hk) p l e R s m args below meth c G A ad0 lv0 ad Hm locs cells slots lsA C0 hR hS hE hc hs hl hL (xo_lvT hT))
theorem xo_if_ge {x : Int32} {off : Int} {tgt : Nat} (hd : decode mt.2.1 pc = .ok (.ifCond .ge off, 3)) (ht : (pc : Int) + off = (tgt : Int)) (hp : pc + 3 = pc') (h1 : xo_X mt rc rs j r tgt ls st H kt) (h2 : xo_X mt rc rs j r pc' ls st H kf) : xo_X mt rc rs j r pc ls (.inl x :: st) H (if x < 0 then kf else kt) := by
  intro hk p l e R s m args below meth c G A ad0 lv0 ad Hm locs cells slots lsA C0 hR hS hE hc hs hl hL hT
  subst hp
  exact lv_if_ge C0.1 C0.2.1 hd ht (fun h => h1 (by rw [if_neg (Int32.not_lt.mpr h)] at hk; exact hk) p l e R s m args below meth c G A ad0 lv0 ad Hm locs cells slots lsA C0 hR hS hE hc hs hl hL (xo_lvT hT)) (fun h => h2 (by rw [if_pos (Int32.not_le.mp h)] at hk; exact hk) p l e R s m args below meth c G A ad0 lv0 ad Hm locs cells slots lsA C0 hR hS hE hc hs hl hL (xo_lvT hT))
theorem xo_if_gt {x : Int32} {off : Int} {tgt : Nat} (hd : decode mt.2.1 pc = .ok (.ifCond .gt off, 3)) (ht : (pc : Int) + off = (tgt : Int)) (hp : pc + 3 = pc') (h1 : xo_X mt rc rs j r tgt ls st H kt) (h2 : xo_X mt rc rs j r pc' ls st H kf) : xo_X mt rc rs j r pc ls (.inl x :: st) H (if 0 < x then kt else kf) := by
  intro hk p l e R s m args below meth c G A ad0 lv0 ad Hm locs cells slots lsA C0 hR hS hE hc hs hl hL hT
  subst hp
  exact lv_if_gt C0.1 C0.2.1 hd ht (fun h => h1 (by rw [if_pos h] at hk; exact hk) p l e R s m args below meth c G A ad0 lv0 ad Hm locs cells slots lsA C0 hR hS hE hc hs hl hL (xo_lvT hT)) (fun h => h2 (by rw [if_neg h] at hk; exact hk) p l e R s m args below meth c G A ad0 lv0 ad Hm locs cells slots lsA C0 hR hS hE hc hs hl hL (xo_lvT hT))
theorem xo_if_le {x : Int32} {off : Int} {tgt : Nat} (hd : decode mt.2.1 pc = .ok (.ifCond .le off, 3)) (ht : (pc : Int) + off = (tgt : Int)) (hp : pc + 3 = pc') (h1 : xo_X mt rc rs j r tgt ls st H kt) (h2 : xo_X mt rc rs j r pc' ls st H kf) : xo_X mt rc rs j r pc ls (.inl x :: st) H (if 0 < x then kf else kt) := by
  intro hk p l e R s m args below meth c G A ad0 lv0 ad Hm locs cells slots lsA C0 hR hS hE hc hs hl hL hT
  subst hp
  exact lv_if_le C0.1 C0.2.1 hd ht (fun h => h1 (by rw [if_neg (Int32.not_lt.mpr h)] at hk; exact hk) p l e R s m args below meth c G A ad0 lv0 ad Hm locs cells slots lsA C0 hR hS hE hc hs hl hL (xo_lvT hT)) (fun h => h2 (by rw [if_pos (Int32.not_le.mp h)] at hk; exact hk) p l e R s m args below meth c G A ad0 lv0 ad Hm locs cells slots lsA C0 hR hS hE hc hs hl hL (xo_lvT hT))
theorem xo_icmp_eq {x y : Int32} {off : Int} {tgt : Nat} (hd : decode mt.2.1 pc = .ok (.if_icmp .eq off, 3)) (ht : (pc : Int) + off = (tgt : Int)) (hp : pc + 3 = pc') (h1 : xo_X mt rc rs j r tgt ls st H kt) (h2 : xo_X mt rc rs j r pc' ls st H kf) : xo_X mt rc rs j r pc ls (.inl y :: .inl x :: st) H (if x = y then kt else kf) := by
  intro hk p l e R s m args below meth c G A ad0 lv0 ad Hm locs cells slots lsA C0 hR hS hE hc hs hl hL hT
  subst hp
  exact lv_icmp_eq C0.1 C0.2.1 hd ht (fun h => h1 (by rw [if_pos h] at hk; exact hk) p l e R s m args below meth c G A ad0 lv0 ad Hm locs cells slots lsA C0 hR hS hE hc hs hl hL (xo_lvT (xo_lvT hT))) (fun h => h2 (by rw [if_neg h] at hk; exact hk) p l e R s m args below meth c G A ad0 lv0 ad Hm locs cells slots lsA C0 hR hS hE hc hs hl hL (xo_lvT (xo_lvT hT)))
theorem xo_icmp_ne {x y : Int32} {off : Int} {tgt : Nat} (hd : decode mt.2.1 pc = .ok (.if_icmp .ne off, 3)) (ht : (pc : Int) + off = (tgt : Int)) (hp : pc + 3 = pc') (h1 : xo_X mt rc rs j r tgt ls st H kt) (h2 : xo_X mt rc rs j r pc' ls st H kf) : xo_X mt rc rs j r pc ls (.inl y :: .inl x :: st) H (if x = y then kf else kt) := by
  intro hk p l e R s m args below meth c G A ad0 lv0 ad Hm locs cells slots lsA C0 hR hS hE hc hs hl hL hT
  subst hp
  exact lv_icmp_ne C0.1 C0.2.1 hd ht (fun h => h1 (by rw [if_neg h] at hk; exact hk) p l e R s m args below meth c G A ad0 lv0 ad Hm locs cells slots lsA C0 hR hS hE hc hs hl hL (xo_lvT (xo_lvT hT))) (fun h => h2 (by rw [if_pos h] at hk; exact hk) p l e R s m args below meth c G A ad0 lv0 ad Hm locs cells slots lsA C0 hR hS hE hc hs hl hL (xo_lvT (xo_lvT hT)))
theorem xo_icmp_lt {x y : Int32} {off : Int} {tgt : Nat} (hd : decode mt.2.1 pc = .ok (.if_icmp .lt off, 3)) (ht : (pc : Int) + off = (tgt : Int)) (hp : pc + 3 = pc') (h1 : xo_X mt rc rs j r tgt ls st H kt) (h2 : xo_X mt rc rs j r pc' ls st H kf) : xo_X mt rc rs j r pc ls (.inl y :: .inl x :: st) H (if x < y then kt else kf) := by
  intro hk p l e R s m args below meth c G A ad0 lv0 ad Hm locs cells slots lsA C0 hR hS hE hc hs hl hL hT
  subst hp
  exact lv_icmp_lt C0.1 C0.2.1 hd ht (fun h => h1 (by rw [if_pos h] at hk; exact hk) p l e R s m args below meth c G A ad0 lv0 ad Hm locs cells slots lsA C0 hR hS hE hc hs hl hL (xo_lvT (xo_lvT hT))) (fun h => h2 (by rw [if_neg h] at hk; exact hk) p l e R s m args below meth c G A ad0 lv0 ad Hm locs cells slots lsA C0 hR hS hE hc hs hl hL (xo_lvT (xo_lvT hT)))
theorem xo_icmp_ge {x y : Int32} {off : Int} {tgt : Nat} (hd : decode mt.2.1 pc = .ok (.if_icmp .ge off, 3)) (ht : (pc : Int) + off = (tgt : Int)) (hp : pc + 3 = pc') (h1 : xo_X mt rc rs j r tgt ls st H kt) (h2 : xo_X mt rc rs j r pc' ls st H kf) : xo_X mt rc rs j r pc ls (.inl y :: .inl x :: st) H (if x < y then kf else kt) := by
  intro hk p l e R s m args below meth c G A ad0 lv0 ad Hm locs cells slots lsA C0 hR hS hE hc hs hl hL hT
  subst hp
  exact lv_icmp_ge C0.1 C0.2.1 hd ht (fun h => h1 (by rw [if_neg (Int32.not_lt.mpr h)] at hk; exact hk) p l e R s m args below meth c G A ad0 lv0 ad Hm locs cells slots lsA C0 hR hS hE hc hs hl hL (xo_lvT (xo_lvT hT))) (fun h => h2 (by rw [if_pos (Int32.not_le.mp h)] at hk; exact hk) p l e R s m args below meth c G A ad0 lv0 ad Hm locs cells slots lsA C0 hR hS hE hc hs hl hL (xo_lvT (xo_lvT hT)))
theorem xo_icmp_gt {x y : Int32} {off : Int} {tgt : Nat} (hd : decode mt.2.1 pc = .ok (.if_icmp .gt off, 3)) (ht : (pc : Int) + off = (tgt : Int)) (hp : pc + 3 = pc') (h1 : xo_X mt rc rs j r tgt ls st H kt) (h2 : xo_X mt rc rs j r pc' ls st H kf) : xo_X mt rc rs j r pc ls (.inl y :: .inl x :: st) H (if y < x then kt else kf) := by
  intro hk p l e R s m args below meth c G A ad0 lv0 ad Hm locs cells slots lsA C0 hR hS hE hc hs hl hL hT
  subst hp
  exact lv_icmp_gt C0.1 C0.2.1 hd ht (fun h => h1 (by rw [if_pos h] at hk; exact hk) p l e R s m args below meth c G A ad0 lv0 ad Hm locs cells slots lsA C0 hR hS hE hc hs hl hL (xo_lvT (xo_lvT hT))) (fun h => h2 (by rw [if_neg h] at hk; exact hk) p l e R s m args below meth c G A ad0 lv0 ad Hm locs cells slots lsA C0 hR hS hE hc hs hl hL (xo_lvT (xo_lvT hT)))
theorem xo_icmp_le {x y : Int32} {off : Int} {tgt : Nat} (hd : decode mt.2.1 pc = .ok (.if_icmp .le off, 3)) (ht : (pc : Int) + off = (tgt : Int)) (hp : pc + 3 = pc') (h1 : xo_X mt rc rs j r tgt ls st H kt) (h2 : xo_X mt rc rs j r pc' ls st H kf) : xo_X mt rc rs j r pc ls (.inl y :: .inl x :: st) H (if y < x then kf else kt) := by
  intro hk p l e R s m args below meth c G A ad0 lv0 ad Hm locs cells slots lsA C0 hR hS hE hc hs hl hL hT
  subst hp
  exact lv_icmp_le C0.1 C0.2.1 hd ht (fun h => h1 (by rw [if_neg (Int32.not_lt.mpr h)] at hk; exact hk) p l e R s m args below meth c G A ad0 lv0 ad Hm locs cells slots lsA C0 hR hS hE hc hs hl hL (xo_lvT (xo_lvT hT))) (fun h => h2 (by rw [if_pos (Int32.not_le.mp h)] at hk; exact hk) p l e R s m args below meth c G A ad0 lv0 ad Hm locs cells slots lsA C0 hR hS hE hc hs hl hL (xo_lvT (xo_lvT hT)))
theorem xo_ifnull {x : Option xo_N} {off : Int} {tgt : Nat} (hd : decode mt.2.1 pc = .ok (.ifnull off, 3)) (ht : (pc : Int) + off = (tgt : Int)) (hp : pc + 3 = pc') (h1 : xo_X mt rc rs j r tgt ls st H kt) (h2 : xo_X mt rc rs j r pc' ls st H kf) : xo_X mt rc rs j r pc ls (.inr x :: st) H (if x = none then kt else kf) := by
  intro hk p l e R s m args below meth c G A ad0 lv0 ad Hm locs cells slots lsA C0 hR hS hE hc hs hl hL hT
  subst hp
  cases x with
  | none =>
    rw [if_pos rfl] at hk
    exact lv_ifnullN C0.1 C0.2.1 hd ht (h1 hk p l e R s m args below meth c G A ad0 lv0 ad Hm locs cells slots lsA C0 hR hS hE hc hs hl hL (xo_lvT hT))
  | some n =>
    rw [if_neg (fun z => by cases z)] at hk
    exact lv_ifnull C0.1 C0.2.1 hd (h2 hk p l e R s m args below meth c G A ad0 lv0 ad Hm locs cells slots lsA C0 hR hS hE hc hs hl hL (xo_lvT hT))
theorem xo_ifnonnull {x : Option xo_N} {off : Int} {tgt : Nat} (hd : decode mt.2.1 pc = .ok (.ifnonnull off, 3)) (ht : (pc : Int) + off = (tgt : Int)) (hp : pc + 3 = pc') (h1 : xo_X mt rc rs j r tgt ls st H kt) (h2 : xo_X mt rc rs j r pc' ls st H kf) : xo_X mt rc rs j r pc ls (.inr x :: st) H (if x = none then kf else kt) := by
  intro hk p l e R s m args below meth c G A ad0 lv0 ad Hm locs cells slots lsA C0 hR hS hE hc hs hl hL hT
  subst hp
  cases x with
  | none =>
    rw [if_pos rfl] at hk
    exact lv_ifnonnullN C0.1 C0.2.1 hd (h2 hk p l e R s m args below meth c G A ad0 lv0 ad Hm locs cells slots lsA C0 hR hS hE hc hs hl hL (xo_lvT hT))
  | some n =>
    rw [if_neg (fun z => by cases z)] at hk
    exact lv_ifnonnull C0.1 C0.2.1 hd ht (h1 hk p l e R s m args below meth c G A ad0 lv0 ad Hm locs cells slots lsA C0 hR hS hE hc hs hl hL (xo_lvT hT))
theorem xo_tsw {x : Int32} {dflt : Int} {offs : Array Int} {len d0 t0 t1 t2 : Nat} {o0 o1 o2 : Int} {k0 k1 k2 : Option α} (hd : decode mt.2.1 pc = .ok (.tableswitch dflt 0 2 offs, len)) (e0 : offs[0]? = some o0) (e1 : offs[1]? = some o1) (e2 : offs[2]? = some o2) (hd0 : (pc : Int) + dflt = (d0 : Int)) (ht0 : (pc : Int) + o0 = (t0 : Int)) (ht1 : (pc : Int) + o1 = (t1 : Int)) (ht2 : (pc : Int) + o2 = (t2 : Int)) (h0 : xo_X mt rc rs j r t0 ls st H k0) (h1 : xo_X mt rc rs j r t1 ls st H k1) (h2 : xo_X mt rc rs j r t2 ls st H k2) (h3 : xo_X mt rc rs j r d0 ls st H kf) : xo_X mt rc rs j r pc ls (.inl x :: st) H (if x = 0 then k0 else if x = 1 then k1 else if x = 2 then k2 else kf) := by
  intro hk p l e R s m args below meth c G A ad0 lv0 ad Hm locs cells slots lsA C0 hR hS hE hc hs hl hL hT
  by_cases c0 : x = 0
  · subst c0
    rw [if_pos rfl] at hk
    exact lv_tableIn C0.1 C0.2.1 hd (by decide) (by decide) e0 ht0 (h0 hk p l e R s m args below meth c G A ad0 lv0 ad Hm locs cells slots lsA C0 hR hS hE hc hs hl hL (xo_lvT hT))
  rw [if_neg c0] at hk
  by_cases c1 : x = 1
  · subst c1
    rw [if_pos rfl] at hk
    exact lv_tableIn C0.1 C0.2.1 hd (by decide) (by decide) e1 ht1 (h1 hk p l e R s m args below meth c G A ad0 lv0 ad Hm locs cells slots lsA C0 hR hS hE hc hs hl hL (xo_lvT hT))
  rw [if_neg c1] at hk
  by_cases c2 : x = 2
  · subst c2
    rw [if_pos rfl] at hk
    exact lv_tableIn C0.1 C0.2.1 hd (by decide) (by decide) e2 ht2 (h2 hk p l e R s m args below meth c G A ad0 lv0 ad Hm locs cells slots lsA C0 hR hS hE hc hs hl hL (xo_lvT hT))
  rw [if_neg c2] at hk
  refine lv_tableOut C0.1 C0.2.1 hd ?_ hd0 (h3 hk p l e R s m args below meth c G A ad0 lv0 ad Hm locs cells slots lsA C0 hR hS hE hc hs hl hL (xo_lvT hT))
  rcases Int.lt_or_le x.toInt 0 with h | h
  · exact Or.inl h
  · right
    have n0 : x.toInt ≠ 0 := fun z => c0 (Int32.toInt_inj.mp z)
    have n1 : x.toInt ≠ 1 := fun z => c1 (Int32.toInt_inj.mp z)
    have n2 : x.toInt ≠ 2 := fun z => c2 (Int32.toInt_inj.mp z)
    omega
end XR
