theorem lz_ao2 : Cond.arrayOver (.object "FlowKernel$Giver") ∈ lw_tbl := (nt_1 _ (List.mem_of_getElem? (i := 82) rfl))
theorem lz_ao3 : Cond.arrayOver (.object "FlowKernel$Taker") ∈ lw_tbl := (nt_1 _ (List.mem_of_getElem? (i := 84) rfl))
theorem lz_ao4 : Cond.arrayOver (.object "FlowKernel$Pipe") ∈ lw_tbl := (nt_1 _ (List.mem_of_getElem? (i := 86) rfl))
theorem lz_clsK {args : Array Value} {s : State} (hts : ∀ w ∈ lw_tbl, w.before args s = true) : ∀ ci : Nat, ∃ (cC : ClassId) (iS : Nat → Nat), ∀ q : vw_C, xo_cls[ci]? = some q → u_Kn s q.1 q.2.1 q.2.2 cC iS := by
  have hts' : ∀ w ∈ xo_WS, w.before args s = true := fun w hw => hts w (List.mem_filter.mp hw).1
  intro ci
  match ci with
  | 0 =>
    obtain ⟨cC, iS, h⟩ := u_known hts' wy_K (hts' _ wn_K)
    exact ⟨cC, iS, fun q hq => by cases hq; exact h⟩
  | 1 =>
    obtain ⟨cC, iS, h⟩ := u_known hts' wy_L (hts' _ wn_L)
    exact ⟨cC, iS, fun q hq => by cases hq; exact h⟩
  | 2 =>
    obtain ⟨cC, iS, h⟩ := u_known hts' wy_J (hts' _ wn_J)
    exact ⟨cC, iS, fun q hq => by cases hq; exact h⟩
  | 3 =>
    obtain ⟨cC, iS, h⟩ := u_known hts' wy_R (hts' _ wn_R)
    exact ⟨cC, iS, fun q hq => by cases hq; exact h⟩
  | 4 =>
    obtain ⟨cC, iS, h⟩ := u_known hts' wy_C (hts' _ wn_C)
    exact ⟨cC, iS, fun q hq => by cases hq; exact h⟩
  | 5 =>
    obtain ⟨cC, iS, h⟩ := u_known hts' wy_G (hts' _ wn_G)
    exact ⟨cC, iS, fun q hq => by cases hq; exact h⟩
  | 6 =>
    obtain ⟨cC, iS, h⟩ := u_known hts' wy_A (hts' _ wn_A)
    exact ⟨cC, iS, fun q hq => by cases hq; exact h⟩
  | 7 =>
    obtain ⟨cC, iS, h⟩ := u_known hts' wy_T (hts' _ wn_T)
    exact ⟨cC, iS, fun q hq => by cases hq; exact h⟩
  | 8 =>
    obtain ⟨cC, iS, h⟩ := u_known hts' wy_P (hts' _ wn_P)
    exact ⟨cC, iS, fun q hq => by cases hq; exact h⟩
  | 9 =>
    obtain ⟨cC, iS, h⟩ := u_known hts' wy_M (hts' _ wn_M)
    exact ⟨cC, iS, fun q hq => by cases hq; exact h⟩
  | n + 10 => exact ⟨0, fun _ => 0, fun q hq => by simp at hq⟩
theorem lz_arrP {args : Array Value} {s : State} {ty : FieldType} (h : (Cond.arrayClass ty).before args s = true) (hty : ty = .int ∨ ty = .boolean) : ∃ cA : ClassId, ArrOfT s cA ty ∧ va_RA s cA ty := by
  obtain ⟨c, k, comp, h1, h2, h3⟩ := Cond.arrayClass_spec h
  refine ⟨c, fun n z => ⟨fun k h => (by cases h), k, h2, comp, h3⟩, ?_⟩
  rcases hty with rfl | rfl <;> exact h1
theorem lz_arrQ {args : Array Value} {s : State} {C : String} (h : (Cond.arrayOver (.object C)).before args s = true) : ∃ cA : ClassId, ArrOfT s cA (.object C) ∧ va_RA s cA (.object C) := by
  obtain ⟨comp, c, k, h1, h2, h3, h4, h5⟩ := Cond.arrayOver_spec h
  exact ⟨c, fun n z => ⟨fun k h => (by cases h), k, h3, comp, h4⟩, k, comp, h3, h4, h1, h5⟩
theorem lz_arrK {args : Array Value} {s : State} (hts : ∀ w ∈ lw_tbl, w.before args s = true) : ∀ t : Nat, ∃ cA : ClassId, t < 5 → ArrOfT s cA (xo_ta t) ∧ va_RA s cA (xo_ta t) := by
  intro t
  have hts' : ∀ w ∈ xo_WS, w.before args s = true := fun w hw => hts w (List.mem_filter.mp hw).1
  match t with
  | 0 => obtain ⟨c, h⟩ := lz_arrP (hts' _ wa_0) (Or.inl rfl); exact ⟨c, fun _ => h⟩
  | 1 => obtain ⟨c, h⟩ := lz_arrP (hts' _ wa_1) (Or.inr rfl); exact ⟨c, fun _ => h⟩
  | 2 => obtain ⟨c, h⟩ := lz_arrQ (hts _ lz_ao2); exact ⟨c, fun _ => h⟩
  | 3 => obtain ⟨c, h⟩ := lz_arrQ (hts _ lz_ao3); exact ⟨c, fun _ => h⟩
  | 4 => obtain ⟨c, h⟩ := lz_arrQ (hts _ lz_ao4); exact ⟨c, fun _ => h⟩
  | n + 5 => exact ⟨0, fun h => by omega⟩
theorem lz_K {args : Array Value} {s : State} (hts : ∀ w ∈ lw_tbl, w.before args s = true) : ∃ G : xo_G, xo_K G s := by
  have h1 := lz_clsK hts
  have h2 := lz_arrK hts
  refine ⟨((fun c => Classical.choose (h1 c), fun c => Classical.choose (Classical.choose_spec (h1 c))), fun t => Classical.choose (h2 t)), fun c q hq => Classical.choose_spec (Classical.choose_spec (h1 c)) q hq, fun t ht => Classical.choose_spec (h2 t) ht, fun w hw => ?_, fun t a b => ?_⟩
  · have hi : xo_isN w = true := (List.mem_filter.mp hw).2
    have hz := hts w (List.mem_filter.mp hw).1
    unfold xo_isN at hi
    split at hi
    · exact va_Nw.of rfl hz
    · exact va_Nw.of rfl hz
    · cases hi
  · rcases (by omega : t = 2 ∨ t = 3 ∨ t = 4) with rfl | rfl | rfl
    · exact va_AO.of (hts _ lz_ao2)
    · exact va_AO.of (hts _ lz_ao3)
    · exact va_AO.of (hts _ lz_ao4)
