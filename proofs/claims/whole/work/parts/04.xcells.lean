/-- a field of class ci by the pool number ix of the class own -/
def xo_fd (own : String) (ix ci q : Nat) (d : String) (fin : Bool) : Prop := ∃ (C : String) (T : u_T) (N : Nat) (ty : Nat → FieldType), xo_cb ci C T N ty ∧ xo_lk own ix C (T q).2.1 (T q).2.2.1 ∧ q < N ∧ (T q).1 = C ∧ (T q).2.2.1 = d ∧ (T q).2.2.2 = fin
def xo_fF (own : String) (ix ci q : Nat) (d : String) : Prop := ∃ (C : String) (T : u_T) (N : Nat) (ty : Nat → FieldType), xo_cb ci C T N ty ∧ Cond.fieldLink own ix C (T q).2.1 (T q).2.2.1 ∈ xo_WS ∧ q < N ∧ (T q).1 = C ∧ (T q).2.2.1 = d ∧ (T q).2.2.2 = true ∧ own = C
def xo_cO (own : String) (ix ci N : Nat) : Prop := ∃ (C : String) (T : u_T) (ty : Nat → FieldType), xo_cb ci C T N ty ∧ (∀ k, k < N → xo_fv (fun _ => 0) (T k).2.2.1 0 none = defaultValue (ty k)) ∧ Cond.classLink own ix C ∈ xo_WS ∧ Cond.instantiable C N ∈ xo_WS ∧ Cond.initialized C ∈ xo_WS
def xo_isR (tq : FieldType) : Prop := (∃ n, tq = .object n) ∨ ∃ t, tq = .array t
theorem xo_nref {tq : FieldType} (h : xo_isR tq) (o : Option Nat) : narrow tq (va_rf o) = va_rf o ∧ fits tq (va_rf o) = true := by
  rcases h with ⟨n, rfl⟩ | ⟨t, rfl⟩ <;> cases o <;> exact ⟨rfl, rfl⟩
section XC
variable {α : Type} {mt : xo_T} {rc rs rc' rs' : Nat} {j : α → Option xo_V × xo_H} {r : α} {pc pc' ix ci q t N : Nat} {ls : List (Nat × xo_V)} {st : List xo_V} {H : xo_H} {k : Option α} {o : Option xo_N} {d : String} {fin : Bool} {n : xo_N} {i v : Int32}
theorem xo_getI {K : Int32 → Option α} (hd : decode mt.2.1 pc = .ok (.getfield ix, 3)) (hf : xo_fd mt.1.cls ix ci q d fin) (hI : d = "I" ∨ d = "Z") (hp : pc + 3 = pc') (kk : ∀ v, xo_X mt rc rs j r pc' ls (.inl v :: st) H (K v)) : xo_X mt rc rs j r pc ls (.inr o :: st) H (xo_gf ci q H o K) := by
  intro hk p l e R s m args below meth c G A ad0 lv0 ad Hm locs cells slots lsA C0 hR hS hE hc hs hl hL hT
  subst hp
  cases o with
  | none => cases hk
  | some n =>
    have hn := xo_lvH hT n rfl
    simp only [xo_gf, Option.bind_some] at hk
    split at hk
    next hkd =>
      obtain ⟨C, T, N, ty, hcb, hlk, hq, hT1, hd1, -⟩ := hf
      refine xo_Wget C0 hcb hlk hq hT1 hR hn hkd hd ?_
      have ev : xo_fv ad (T q).2.2.1 (H.1 n q) (H.2.1 n q) = .int (H.1 n q) := by unfold xo_fv; rw [hd1, if_pos hI]
      rw [ev]
      exact kk _ hk p l e R s m args below meth c G A ad0 lv0 ad Hm locs cells slots lsA C0 hR hS hE hc hs hl hL (xo_lvC (xo_lvI H _) (xo_lvT hT))
    next => cases hk
theorem xo_getP {K : Option xo_N → Option α} (hd : decode mt.2.1 pc = .ok (.getfield ix, 3)) (hf : xo_fd mt.1.cls ix ci q d fin) (hI : ¬ (d = "I" ∨ d = "Z")) (hp : pc + 3 = pc') (kk : ∀ v, xo_X mt rc rs j r pc' ls (.inr v :: st) H (K v)) : xo_X mt rc rs j r pc ls (.inr o :: st) H (xo_gp ci q H o K) := by
  intro hk p l e R s m args below meth c G A ad0 lv0 ad Hm locs cells slots lsA C0 hR hS hE hc hs hl hL hT
  subst hp
  cases o with
  | none => cases hk
  | some n =>
    have hn := xo_lvH hT n rfl
    simp only [xo_gp, Option.bind_some] at hk
    split at hk
    next hkd =>
      obtain ⟨C, T, N, ty, hcb, hlk, hq, hT1, hd1, -⟩ := hf
      refine xo_Wget C0 hcb hlk hq hT1 hR hn hkd hd ?_
      have ev : xo_fv ad (T q).2.2.1 (H.1 n q) (H.2.1 n q) = va_rf ((H.2.1 n q).map ad) := by unfold xo_fv; rw [hd1, if_neg hI]
      rw [ev]
      exact kk _ hk p l e R s m args below meth c G A ad0 lv0 ad Hm locs cells slots lsA C0 hR hS hE hc hs hl hL (xo_lvC (fun z hz => hR.2.2 n q z hn (Sum.inr.inj hz)) (xo_lvT hT))
    next => cases hk
theorem xo_putI {K : xo_H → Option α} (hd : decode mt.2.1 pc = .ok (.putfield ix, 3)) (hf : xo_fd mt.1.cls ix ci q "I" false) (hp : pc + 3 = pc') (kk : ∀ H, xo_X mt rc rs j r pc' ls st H (K H)) : xo_X mt rc rs j r pc ls (.inl v :: .inr o :: st) H (xo_pf ci q H o v K) := by
  intro hk p l e R s m args below meth c G A ad0 lv0 ad Hm locs cells slots lsA C0 hR hS hE hc hs hl hL hT
  subst hp
  cases o with
  | none => cases hk
  | some n =>
    have hn := xo_lvH (xo_lvT hT) n rfl
    simp only [xo_pf, Option.bind_some] at hk
    split at hk
    next hkd =>
      obtain ⟨C, T, N, ty, hcb, hlk, hq, hT1, hd1, hfin⟩ := hf
      have hty : ty q = .int := by
        have h1 := hcb.2.2.1 q hq
        rw [hd1] at h1
        exact (Option.some.inj ((by decide +kernel : parseFieldDescriptor "I" = some .int).symm.trans h1)).symm
      exact xo_Wput (H' := xo_sE H n q v) C0 hcb hlk hq hT1 hfin hR hS hn hkd hd (by rw [hty]; rfl) (by rw [hty]; rfl) rfl (xo_sE_ne H n q v) (fun _ _ _ => rfl) (by unfold xo_fv; rw [hd1, xo_sE_eq]; rfl) (fun z hz => hR.2.2 n q z hn hz)
        fun Hm1 locs1 hR1 hS1 => kk _ hk p l e R s m args below meth c G A ad0 lv0 ad Hm1 locs1 cells slots lsA C0 hR1 hS1 hE hc hs hl hL (xo_lvT (xo_lvT hT))
    next => cases hk
theorem xo_putZ {K : xo_H → Option α} (hd : decode mt.2.1 pc = .ok (.putfield ix, 3)) (hf : xo_fd mt.1.cls ix ci q "Z" false) (hp : pc + 3 = pc') (kk : ∀ H, xo_X mt rc rs j r pc' ls st H (K H)) : xo_X mt rc rs j r pc ls (.inl v :: .inr o :: st) H (xo_pz ci q H o v K) := by
  intro hk p l e R s m args below meth c G A ad0 lv0 ad Hm locs cells slots lsA C0 hR hS hE hc hs hl hL hT
  subst hp
  cases o with
  | none => cases hk
  | some n =>
    have hn := xo_lvH (xo_lvT hT) n rfl
    simp only [xo_pz, Option.bind_some] at hk
    split at hk
    next hkd =>
      obtain ⟨hkd, hv⟩ := hkd
      obtain ⟨C, T, N, ty, hcb, hlk, hq, hT1, hd1, hfin⟩ := hf
      have hty : ty q = .boolean := by
        have h1 := hcb.2.2.1 q hq
        rw [hd1] at h1
        exact (Option.some.inj ((by decide +kernel : parseFieldDescriptor "Z" = some .boolean).symm.trans h1)).symm
      exact xo_Wput (H' := xo_sE H n q v) C0 hcb hlk hq hT1 hfin hR hS hn hkd hd (by rw [hty]; exact (xo_nz hv).1) (by rw [hty]; exact (xo_nz hv).2) rfl (xo_sE_ne H n q v) (fun _ _ _ => rfl) (by unfold xo_fv; rw [hd1, xo_sE_eq]; rfl) (fun z hz => hR.2.2 n q z hn hz)
        fun Hm1 locs1 hR1 hS1 => kk _ hk p l e R s m args below meth c G A ad0 lv0 ad Hm1 locs1 cells slots lsA C0 hR1 hS1 hE hc hs hl hL (xo_lvT (xo_lvT hT))
    next => cases hk
theorem xo_putP {K : xo_H → Option α} {w : Option xo_N} {tq : FieldType} (hd : decode mt.2.1 pc = .ok (.putfield ix, 3)) (hf : xo_fd mt.1.cls ix ci q d false) (hI : ¬ (d = "I" ∨ d = "Z")) (hpd : parseFieldDescriptor d = some tq) (htq : xo_isR tq) (hp : pc + 3 = pc') (kk : ∀ H, xo_X mt rc rs j r pc' ls st H (K H)) : xo_X mt rc rs j r pc ls (.inr w :: .inr o :: st) H (xo_pp ci q H o w K) := by
  intro hk p l e R s m args below meth c G A ad0 lv0 ad Hm locs cells slots lsA C0 hR hS hE hc hs hl hL hT
  subst hp
  cases o with
  | none => cases hk
  | some n =>
    have hn := xo_lvH (xo_lvT hT) n rfl
    simp only [xo_pp, Option.bind_some] at hk
    split at hk
    next hkd =>
      obtain ⟨C, T, N, ty, hcb, hlk, hq, hT1, hd1, hfin⟩ := hf
      have hty : ty q = tq := by
        have h1 := hcb.2.2.1 q hq
        rw [hd1] at h1
        exact (Option.some.inj (hpd.symm.trans h1)).symm
      exact xo_Wput (H' := xo_sP H n q w) (v := va_rf (w.map ad)) C0 hcb hlk hq hT1 hfin hR hS hn hkd hd (by rw [hty]; exact (xo_nref htq _).1) (by rw [hty]; exact (xo_nref htq _).2) rfl (fun _ _ _ => rfl) (xo_sP_ne H n q w) (by unfold xo_fv; rw [hd1, xo_sP_eq, if_neg hI]) (fun z hz => by rw [xo_sP_eq] at hz; subst hz; exact xo_lvH hT z rfl)
        fun Hm1 locs1 hR1 hS1 => kk _ hk p l e R s m args below meth c G A ad0 lv0 ad Hm1 locs1 cells slots lsA C0 hR1 hS1 hE hc hs hl hL (xo_lvT (xo_lvT hT))
    next => cases hk
theorem xo_putIF {K : xo_H → Option α} (hd : decode mt.2.1 pc = .ok (.putfield ix, 3)) (hf : xo_fF mt.1.cls ix ci q "I") (hin : mt.1.name = "<init>") (hp : pc + 3 = pc') (kk : ∀ H, xo_X mt rc rs j r pc' ls st H (K H)) : xo_X mt rc rs j r pc ls (.inl v :: .inr o :: st) H (xo_pf ci q H o v K) := by
  intro hk p l e R s m args below meth c G A ad0 lv0 ad Hm locs cells slots lsA C0 hR hS hE hc hs hl hL hT
  subst hp
  cases o with
  | none => cases hk
  | some n =>
    have hn := xo_lvH (xo_lvT hT) n rfl
    simp only [xo_pf, Option.bind_some] at hk
    split at hk
    next hkd =>
      obtain ⟨C, T, N, ty, hcb, hlk, hq, hT1, hd1, hfin, hoc⟩ := hf
      have hty : ty q = .int := by
        have h1 := hcb.2.2.1 q hq
        rw [hd1] at h1
        exact (Option.some.inj ((by decide +kernel : parseFieldDescriptor "I" = some .int).symm.trans h1)).symm
      exact xo_WputF (H' := xo_sE H n q v) C0 hcb hlk hq hT1 hfin hin hoc hR hS hn hkd hd (by rw [hty]; rfl) (by rw [hty]; rfl) rfl (xo_sE_ne H n q v) (fun _ _ _ => rfl) (by unfold xo_fv; rw [hd1, xo_sE_eq]; rfl) (fun z hz => hR.2.2 n q z hn hz)
        fun Hm1 locs1 hR1 hS1 => kk _ hk p l e R s m args below meth c G A ad0 lv0 ad Hm1 locs1 cells slots lsA C0 hR1 hS1 hE hc hs hl hL (xo_lvT (xo_lvT hT))
    next => cases hk
theorem xo_putZF {K : xo_H → Option α} (hd : decode mt.2.1 pc = .ok (.putfield ix, 3)) (hf : xo_fF mt.1.cls ix ci q "Z") (hin : mt.1.name = "<init>") (hp : pc + 3 = pc') (kk : ∀ H, xo_X mt rc rs j r pc' ls st H (K H)) : xo_X mt rc rs j r pc ls (.inl v :: .inr o :: st) H (xo_pz ci q H o v K) := by
  intro hk p l e R s m args below meth c G A ad0 lv0 ad Hm locs cells slots lsA C0 hR hS hE hc hs hl hL hT
  subst hp
  cases o with
  | none => cases hk
  | some n =>
    have hn := xo_lvH (xo_lvT hT) n rfl
    simp only [xo_pz, Option.bind_some] at hk
    split at hk
    next hkd =>
      obtain ⟨hkd, hv⟩ := hkd
      obtain ⟨C, T, N, ty, hcb, hlk, hq, hT1, hd1, hfin, hoc⟩ := hf
      have hty : ty q = .boolean := by
        have h1 := hcb.2.2.1 q hq
        rw [hd1] at h1
        exact (Option.some.inj ((by decide +kernel : parseFieldDescriptor "Z" = some .boolean).symm.trans h1)).symm
      exact xo_WputF (H' := xo_sE H n q v) C0 hcb hlk hq hT1 hfin hin hoc hR hS hn hkd hd (by rw [hty]; exact (xo_nz hv).1) (by rw [hty]; exact (xo_nz hv).2) rfl (xo_sE_ne H n q v) (fun _ _ _ => rfl) (by unfold xo_fv; rw [hd1, xo_sE_eq]; rfl) (fun z hz => hR.2.2 n q z hn hz)
        fun Hm1 locs1 hR1 hS1 => kk _ hk p l e R s m args below meth c G A ad0 lv0 ad Hm1 locs1 cells slots lsA C0 hR1 hS1 hE hc hs hl hL (xo_lvT (xo_lvT hT))
    next => cases hk
theorem xo_putPF {K : xo_H → Option α} {w : Option xo_N} {tq : FieldType} (hd : decode mt.2.1 pc = .ok (.putfield ix, 3)) (hf : xo_fF mt.1.cls ix ci q d) (hin : mt.1.name = "<init>") (hI : ¬ (d = "I" ∨ d = "Z")) (hpd : parseFieldDescriptor d = some tq) (htq : xo_isR tq) (hp : pc + 3 = pc') (kk : ∀ H, xo_X mt rc rs j r pc' ls st H (K H)) : xo_X mt rc rs j r pc ls (.inr w :: .inr o :: st) H (xo_pp ci q H o w K) := by
  intro hk p l e R s m args below meth c G A ad0 lv0 ad Hm locs cells slots lsA C0 hR hS hE hc hs hl hL hT
  subst hp
  cases o with
  | none => cases hk
  | some n =>
    have hn := xo_lvH (xo_lvT hT) n rfl
    simp only [xo_pp, Option.bind_some] at hk
    split at hk
    next hkd =>
      obtain ⟨C, T, N, ty, hcb, hlk, hq, hT1, hd1, hfin, hoc⟩ := hf
      have hty : ty q = tq := by
        have h1 := hcb.2.2.1 q hq
        rw [hd1] at h1
        exact (Option.some.inj (hpd.symm.trans h1)).symm
      exact xo_WputF (H' := xo_sP H n q w) (v := va_rf (w.map ad)) C0 hcb hlk hq hT1 hfin hin hoc hR hS hn hkd hd (by rw [hty]; exact (xo_nref htq _).1) (by rw [hty]; exact (xo_nref htq _).2) rfl (fun _ _ _ => rfl) (xo_sP_ne H n q w) (by unfold xo_fv; rw [hd1, xo_sP_eq, if_neg hI]) (fun z hz => by rw [xo_sP_eq] at hz; subst hz; exact xo_lvH hT z rfl)
        fun Hm1 locs1 hR1 hS1 => kk _ hk p l e R s m args below meth c G A ad0 lv0 ad Hm1 locs1 cells slots lsA C0 hR1 hS1 hE hc hs hl hL (xo_lvT (xo_lvT hT))
    next => cases hk
/-! arrays -/
theorem xo_iald {K : Int32 → Option α} (hd : decode mt.2.1 pc = .ok (.iaload, 1)) (hp : pc + 1 = pc') (kk : ∀ v, xo_X mt rc rs j r pc' ls (.inl v :: st) H (K v)) : xo_X mt rc rs j r pc ls (.inl i :: .inr o :: st) H (xo_al 0 H o i K) := by
  intro hk p l e R s m args below meth c G A ad0 lv0 ad Hm locs cells slots lsA C0 hR hS hE hc hs hl hL hT
  subst hp
  cases o with
  | none => cases hk
  | some n =>
    have hn := xo_lvH (xo_lvT hT) n rfl
    simp only [xo_al, Option.bind_some] at hk
    split at hk
    next hin => exact xo_Wiald C0 hR hn hin hd (kk _ hk p l e R s m args below meth c G A ad0 lv0 ad Hm locs cells slots lsA C0 hR hS hE hc hs hl hL (xo_lvC (xo_lvI H _) (xo_lvT (xo_lvT hT))))
    next => cases hk
theorem xo_zald {K : Int32 → Option α} (hd : decode mt.2.1 pc = .ok (.baload, 1)) (hp : pc + 1 = pc') (kk : ∀ v, xo_X mt rc rs j r pc' ls (.inl v :: st) H (K v)) : xo_X mt rc rs j r pc ls (.inl i :: .inr o :: st) H (xo_al 1 H o i K) := by
  intro hk p l e R s m args below meth c G A ad0 lv0 ad Hm locs cells slots lsA C0 hR hS hE hc hs hl hL hT
  subst hp
  cases o with
  | none => cases hk
  | some n =>
    have hn := xo_lvH (xo_lvT hT) n rfl
    simp only [xo_al, Option.bind_some] at hk
    split at hk
    next hin => exact xo_Wzald C0 hR hn hin hd (kk _ hk p l e R s m args below meth c G A ad0 lv0 ad Hm locs cells slots lsA C0 hR hS hE hc hs hl hL (xo_lvC (xo_lvI H _) (xo_lvT (xo_lvT hT))))
    next => cases hk
theorem xo_aald {K : Option xo_N → Option α} (hd : decode mt.2.1 pc = .ok (.aaload, 1)) (ht : 2 ≤ t ∧ t < 5) (hp : pc + 1 = pc') (kk : ∀ v, xo_X mt rc rs j r pc' ls (.inr v :: st) H (K v)) : xo_X mt rc rs j r pc ls (.inl i :: .inr o :: st) H (xo_ap t H o i K) := by
  intro hk p l e R s m args below meth c G A ad0 lv0 ad Hm locs cells slots lsA C0 hR hS hE hc hs hl hL hT
  subst hp
  cases o with
  | none => cases hk
  | some n =>
    have hn := xo_lvH (xo_lvT hT) n rfl
    simp only [xo_ap, Option.bind_some] at hk
    split at hk
    next hin => exact xo_Waald C0 hR hn ht hin hd (kk _ hk p l e R s m args below meth c G A ad0 lv0 ad Hm locs cells slots lsA C0 hR hS hE hc hs hl hL (xo_lvC (fun z hz => hR.2.2 n _ z hn (Sum.inr.inj hz)) (xo_lvT (xo_lvT hT))))
    next => cases hk
theorem xo_alen {K : Int32 → Option α} (hd : decode mt.2.1 pc = .ok (.arraylength, 1)) (hp : pc + 1 = pc') (kk : ∀ v, xo_X mt rc rs j r pc' ls (.inl v :: st) H (K v)) : xo_X mt rc rs j r pc ls (.inr o :: st) H (xo_ln o K) := by
  intro hk p l e R s m args below meth c G A ad0 lv0 ad Hm locs cells slots lsA C0 hR hS hE hc hs hl hL hT
  subst hp
  cases o with
  | none => cases hk
  | some n =>
    have hn := xo_lvH hT n rfl
    simp only [xo_ln, Option.bind_some] at hk
    split at hk
    next => cases hk
    next a hkd =>
      split at hk
      next h5 => exact xo_Walen (t := a.1) (N := a.2) C0 hR hn h5 hkd hd (kk _ hk p l e R s m args below meth c G A ad0 lv0 ad Hm locs cells slots lsA C0 hR hS hE hc hs hl hL (xo_lvC (xo_lvI H _) (xo_lvT hT)))
      next => cases hk
theorem xo_iast {K : xo_H → Option α} (hd : decode mt.2.1 pc = .ok (.iastore, 1)) (hp : pc + 1 = pc') (kk : ∀ H, xo_X mt rc rs j r pc' ls st H (K H)) : xo_X mt rc rs j r pc ls (.inl v :: .inl i :: .inr o :: st) H (xo_as H o i v K) := by
  intro hk p l e R s m args below meth c G A ad0 lv0 ad Hm locs cells slots lsA C0 hR hS hE hc hs hl hL hT
  subst hp
  cases o with
  | none => cases hk
  | some n =>
    have hn := xo_lvH (xo_lvT (xo_lvT hT)) n rfl
    simp only [xo_as, Option.bind_some] at hk
    split at hk
    next hin => exact xo_Wiast C0 hR hS hn hin hd fun Hm1 locs1 hR1 hS1 => kk _ hk p l e R s m args below meth c G A ad0 lv0 ad Hm1 locs1 cells slots lsA C0 hR1 hS1 hE hc hs hl hL (xo_lvT (xo_lvT (xo_lvT hT)))
    next => cases hk
theorem xo_zast {K : xo_H → Option α} (hd : decode mt.2.1 pc = .ok (.bastore, 1)) (hp : pc + 1 = pc') (kk : ∀ H, xo_X mt rc rs j r pc' ls st H (K H)) : xo_X mt rc rs j r pc ls (.inl v :: .inl i :: .inr o :: st) H (xo_az H o i v K) := by
  intro hk p l e R s m args below meth c G A ad0 lv0 ad Hm locs cells slots lsA C0 hR hS hE hc hs hl hL hT
  subst hp
  cases o with
  | none => cases hk
  | some n =>
    have hn := xo_lvH (xo_lvT (xo_lvT hT)) n rfl
    simp only [xo_az, Option.bind_some] at hk
    split at hk
    next hin => exact xo_Wzast C0 hR hS hn hin.1 hin.2 hd fun Hm1 locs1 hR1 hS1 => kk _ hk p l e R s m args below meth c G A ad0 lv0 ad Hm1 locs1 cells slots lsA C0 hR1 hS1 hE hc hs hl hL (xo_lvT (xo_lvT (xo_lvT hT)))
    next => cases hk
theorem xo_aast {K : xo_H → Option α} {w : Option xo_N} {C : String} {T : u_T} (hd : decode mt.2.1 pc = .ok (.aastore, 1)) (ht : 2 ≤ t ∧ t < 5) (hcl : xo_cls[ci]? = some (C, T, N)) (htn : xo_tn t = C) (hp : pc + 1 = pc') (kk : ∀ H, xo_X mt rc rs j r pc' ls st H (K H)) : xo_X mt rc rs j r pc ls (.inr w :: .inl i :: .inr o :: st) H (xo_aq t ci H o i w K) := by
  intro hk p l e R s m args below meth c G A ad0 lv0 ad Hm locs cells slots lsA C0 hR hS hE hc hs hl hL hT
  subst hp
  cases o with
  | none => cases hk
  | some n =>
    have hn := xo_lvH (xo_lvT (xo_lvT hT)) n rfl
    cases w with
    | none => cases hk
    | some z =>
      have hz := xo_lvH hT z rfl
      simp only [xo_aq, Option.bind_some] at hk
      split at hk
      next hin => exact xo_Waast C0 hR hS hn hz ht hin.1 hin.2 hcl htn hd fun Hm1 locs1 hR1 hS1 => kk _ hk p l e R s m args below meth c G A ad0 lv0 ad Hm1 locs1 cells slots lsA C0 hR1 hS1 hE hc hs hl hL (xo_lvT (xo_lvT (xo_lvT hT)))
      next => cases hk
/-! new cells -/
theorem xo_sN_up (H : xo_H) (n : xo_N) : ∀ m, H.2.2 m = true → (xo_sN H n).2.2 m = true := fun m hm => by
  by_cases e : m = n
  · simp [xo_sN, e]
  · simp [xo_sN, e, hm]
theorem xo_sN_me (H : xo_H) (n : xo_N) : (xo_sN H n).2.2 n = true := by simp [xo_sN]
theorem xo_ua_l {H : xo_H} {n : xo_N} (hn : H.2.2 n = false) (ad : xo_N → Nat) (a : Nat) : ∀ m, H.2.2 m = true → xo_ua ad n a m = ad m := fun m hm => xo_ua_n ad a fun e => by rw [e, hn] at hm; cases hm
theorem xo_new {K : xo_H → Option α} (hd : decode mt.2.1 pc = .ok (.new ix, 3)) (hw : xo_cO mt.1.cls ix ci N) (hrc : rc' + 1 = rc) (hrs : rs' + N = rs) (hp : pc + 3 = pc') (kk : ∀ H, xo_X mt rc' rs' j r pc' ls (.inr (some n) :: st) H (K H)) : xo_X mt rc rs j r pc ls st H (xo_nw ci H n K) := by
  intro hk p l e R s m args below meth c G A ad0 lv0 ad Hm locs cells slots lsA C0 hR hS hE hc hs hl hL hT
  subst hp
  unfold xo_nw at hk
  split at hk
  next hn =>
    obtain ⟨hn, hkd⟩ := hn
    obtain ⟨C, T, ty, hcb, hdef, w1, w2, w3⟩ := hw
    have he := xo_ua_l hn ad Hm.size
    refine xo_Wnew C0 hcb hdef w1 w2 w3 hR hS hn hkd (by omega) (by omega) hd fun Hm1 hR1 hS1 => ?_
    have hst : st.map (xo_tr ad) = st.map (xo_tr (xo_ua ad n Hm.size)) := (xo_stEq he hT).symm
    rw [hst]
    exact kk _ hk p l e R s m args below meth c G A ad0 lv0 (xo_ua ad n Hm.size) Hm1 locs (cells + 1) (slots + N) lsA C0 hR1 hS1 (fun z hz => ⟨(he z (hE z hz).2).trans (hE z hz).1, xo_sN_up H n z (hE z hz).2⟩) (by omega) (by omega) (by rw [xo_lsEq he hL]; exact hl) (fun z hz => xo_lvUp (xo_sN_up H n) (hL z hz)) (xo_lvC (fun z hz => by cases hz; exact xo_sN_me H n) fun z hz => xo_lvUp (xo_sN_up H n) (hT z hz))
  next => cases hk
theorem xo_newa {K : xo_H → Option α} {atype : ArrayType} (hd : decode mt.2.1 pc = .ok (.newarray atype, 2)) (hty : newarray.typeOf atype = xo_ta t) (ht : t < 2) (hw : Cond.arrayClass (xo_ta t) ∈ xo_WS) (hN : N < 65536) (hrc : rc' + 1 = rc) (hrs : rs' + N = rs) (hp : pc + 2 = pc') (kk : ∀ H, xo_X mt rc' rs' j r pc' ls (.inr (some n) :: st) H (K H)) : xo_X mt rc rs j r pc ls (.inl v :: st) H (xo_na t H n N v K) := by
  intro hk p l e R s m args below meth c G A ad0 lv0 ad Hm locs cells slots lsA C0 hR hS hE hc hs hl hL hT
  subst hp
  unfold xo_na at hk
  split at hk
  next => cases hk
  next a hka =>
  obtain ⟨t', N'⟩ := a
  simp only at hk
  split at hk
  next hn =>
    obtain ⟨hn, ht', hv, hN'⟩ := hn
    subst hv
    subst ht'
    have hkd : xo_kd n = .inr (t', N') := hka
    have he := xo_ua_l hn ad Hm.size
    have hT := xo_lvT hT
    refine xo_Wnewa C0 hty ht hw hR hS hn hkd (Nat.lt_of_le_of_lt hN' hN) (by omega) (by omega) hd fun Hm1 hR1 hS1 => ?_
    have hst : st.map (xo_tr ad) = st.map (xo_tr (xo_ua ad n Hm.size)) := (xo_stEq he hT).symm
    rw [hst]
    exact kk _ hk p l e R s m args below meth c G A ad0 lv0 (xo_ua ad n Hm.size) Hm1 locs (cells + 1) (slots + N') lsA C0 hR1 hS1 (fun z hz => ⟨(he z (hE z hz).2).trans (hE z hz).1, xo_sN_up H n z (hE z hz).2⟩) (by omega) (by omega) (by rw [xo_lsEq he hL]; exact hl) (fun z hz => xo_lvUp (xo_sN_up H n) (hL z hz)) (xo_lvC (fun z hz => by cases hz; exact xo_sN_me H n) fun z hz => xo_lvUp (xo_sN_up H n) (hT z hz))
  next => cases hk
theorem xo_anew {K : xo_H → Option α} (hd : decode mt.2.1 pc = .ok (.anewarray ix, 3)) (ht : 2 ≤ t ∧ t < 5) (hw : Cond.classLink mt.1.cls ix (xo_tn t) ∈ xo_WS) (hN : N < 65536) (hrc : rc' + 1 = rc) (hrs : rs' + N = rs) (hp : pc + 3 = pc') (kk : ∀ H, xo_X mt rc' rs' j r pc' ls (.inr (some n) :: st) H (K H)) : xo_X mt rc rs j r pc ls (.inl v :: st) H (xo_na t H n N v K) := by
  intro hk p l e R s m args below meth c G A ad0 lv0 ad Hm locs cells slots lsA C0 hR hS hE hc hs hl hL hT
  subst hp
  unfold xo_na at hk
  split at hk
  next => cases hk
  next a hka =>
  obtain ⟨t', N'⟩ := a
  simp only at hk
  split at hk
  next hn =>
    obtain ⟨hn, ht', hv, hN'⟩ := hn
    subst hv
    subst ht'
    have hkd : xo_kd n = .inr (t', N') := hka
    have he := xo_ua_l hn ad Hm.size
    have hT := xo_lvT hT
    refine xo_Wanew C0 ht hw hR hS hn hkd (Nat.lt_of_le_of_lt hN' hN) (by omega) (by omega) hd fun Hm1 hR1 hS1 => ?_
    have hst : st.map (xo_tr ad) = st.map (xo_tr (xo_ua ad n Hm.size)) := (xo_stEq he hT).symm
    rw [hst]
    exact kk _ hk p l e R s m args below meth c G A ad0 lv0 (xo_ua ad n Hm.size) Hm1 locs (cells + 1) (slots + N') lsA C0 hR1 hS1 (fun z hz => ⟨(he z (hE z hz).2).trans (hE z hz).1, xo_sN_up H n z (hE z hz).2⟩) (by omega) (by omega) (by rw [xo_lsEq he hL]; exact hl) (fun z hz => xo_lvUp (xo_sN_up H n) (hL z hz)) (xo_lvC (fun z hz => by cases hz; exact xo_sN_me H n) fun z hz => xo_lvUp (xo_sN_up H n) (hT z hz))
  next => cases hk
end XC
