theorem lz_empty (G : xo_G) (A : Nat → Prop) (ad : xo_N → Nat) (Hm : Heap) : xo_R G A ad xo_E0 Hm := ⟨fun n hn => (by cases hn), fun n n' hn => (by cases hn), fun n k q hn => (by cases hn)⟩
set_option maxRecDepth 100000 in
set_option maxHeartbeats 8000000 in
theorem lz_start {Sm : Nat → xo_H → xo_H → Prop} (hSm : lz_Sm Sm) {p : Program} {e : Env} {s : State} {m : MethodId} {below : List Frame} {meth : Method} {c : Code} (l : Launch) {b L : Nat} {xs : Nat → Int32} (hL : L ≤ 2048) (C0 : lw_At p s m meth c b L xs) : W p l e room_1 s m #[Value.ref b] below meth c s.heap [] 0 0 (lw_Z below #[Value.ref b] s) (entryFrame m ([Value.ref b] : List Value).toArray 4) := by
  obtain ⟨hx, hb, hr, hml, hown, hts, hX, hbl, hlocks, hgv⟩ := C0
  obtain ⟨G, hK⟩ := lz_K hts
  have CC : lz_C p s m c b G := ⟨hx, hb, hml, hown, hts, hK⟩
  obtain ⟨C, R, hC, hR, hS0⟩ := hSm.2.2
  have hl := lv_entry ([.ref b]) (n := 4) (Nat.le_of_ble_eq_true rfl)
  rw [lg_entry_eq]
  generalize (lg_sl ([.ref b]) ++ List.replicate (4 - (lg_sl ([.ref b])).length) Slot.unset).toArray = ls at hl ⊢
  have hl : lv_has ls 4 [(0, .ref b)] := hl
  have hI0 : lz_I G s (fun _ => 0) xo_E0 (fun _ => 0) xo_E0 s.heap := ⟨lz_empty _ _ _ _, lz_empty _ _ _ _, fun n n' hn => (by cases hn), Nat.le_refl _, fun _ _ => rfl⟩
  refine lz_new (n := (0, 0)) CC hI0 cb_K cd_K (nt_1 _ (List.mem_of_getElem? (i := 11) rfl)) wn_K wi_K rfl (by decide) (by decide) dl_0 fun ad1 Hm1 hI1 => ?_
  refine lv_dup hx hb dl_3 rfl ?_
  refine lz_init (n := (0, 0)) (mc := mt_K_init) (rest := [.ref (ad1 (0, 0))]) CC hI1 dl_4 cv_K_init (nt_1 _ (List.mem_of_getElem? (i := 13) rfl)) rfl ⟨by decide, by decide⟩ (by decide) (by decide) (kc_K_init (0, 0) _ _ hC) hl.1 (by simp [Value.category]) (Nat.le_of_ble_eq_true rfl) fun ad2 Hm2 hI2 hE2 => ?_
  have eC : ad2 (0, 0) = ad1 (0, 0) := (hE2 (0, 0) rfl).1
  have hCn : C.2.2 (0, 0) = true := (hE2 (0, 0) rfl).2
  refine lv_astore_n (i := 1) hx hb dl_7 rfl hl (by decide) rfl fun ls1 hl1 => ?_
  refine lz_new (n := (50, 0)) CC (lz_swap hI2) cb_M cd_M (nt_3 _ (List.mem_of_getElem? (i := 232) rfl)) wn_M wi_M rfl (by decide) (by decide) dl_8 fun ad3 Hm3 hI3 => ?_
  refine lv_dup hx hb dl_11 rfl ?_
  refine lz_init (n := (50, 0)) (mc := mt_M_init) (rest := [.ref (ad3 (50, 0))]) CC hI3 dl_12 cv_M_init (nt_3 _ (List.mem_of_getElem? (i := 234) rfl)) rfl ⟨by decide, by decide⟩ (by decide) (by decide) (kc_M_init (50, 0) _ _ hR) hl1.1 (by simp [Value.category]) (Nat.le_of_ble_eq_true rfl) fun ad4 Hm4 hI4 hE4 => ?_
  have eR : ad4 (50, 0) = ad3 (50, 0) := (hE4 (50, 0) rfl).1
  have hRn : R.2.2 (50, 0) = true := (hE4 (50, 0) rfl).2
  refine lv_astore_n (i := 2) hx hb dl_15 rfl hl1 (by decide) rfl fun ls2 hl2 => ?_
  refine lv_iconst (v := (0 : Int32)) hx hb dl_16 (by decide) ?_
  refine lv_istore_n (i := 3) hx hb dl_17 rfl hl2 (by decide) rfl fun ls3 hl3 => ?_
  refine W.widen (k := 100 + 20 * 0) (n := 2000 + 200 * 0) (by decide) (by decide) ?_
  refine lz_loop hSm CC hr hlocks hX hbl hL 513 0 ad2 ad4 C R Hm4 ls3 (by decide) (by decide) (lz_swap hI4) hCn hRn ?_ hS0
  rw [eC, eR]
  exact lv_sub hl3 [3, 2, 1, 0] rfl
