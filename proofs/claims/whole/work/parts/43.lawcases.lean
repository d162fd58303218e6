section LC
variable {p : Program} {l : Launch} {e : Env} {s : State} {m : MethodId} {below : List Frame} {meth : Method} {c : Code} {b L q : Nat} {xs : Nat → Int32} {Hm : Heap} {cells slots : Nat} {Q : State → Prop} {lsA : Array Slot} {G : xo_G} {adC adR : xo_N → Nat} {C R C' R' : xo_H} {a : Int32}
def bz (x : Int32) : Int32 := if x = 0 then 0 else 1
/-- 'x != 0' as javac has it -/
theorem lz_dia {pc p1 p2 p3 p4 : Nat} {x : Int32} {rest : List Value} {o1 o2 : Int} (hx : p.tables.exec = Jvm.exec) (hb : c.code = code) (d0 : decode code pc = .ok (.ifCond .eq o1, 3)) (t0 : (pc : Int) + o1 = (p3 : Int)) (e1 : pc + 3 = p1) (d1 : decode code p1 = .ok (.iconst 1, 1)) (e2 : p1 + 1 = p2) (d2 : decode code p2 = .ok (.goto o2, 3)) (t2 : (p2 : Int) + o2 = (p4 : Int)) (d3 : decode code p3 = .ok (.iconst 0, 1)) (e4 : p3 + 1 = p4)
    (kk : W p l e room_1 s m #[Value.ref b] below meth c Hm [] cells slots Q (F0 m p4 lsA (.int (bz x) :: rest))) : W p l e room_1 s m #[Value.ref b] below meth c Hm [] cells slots Q (F0 m pc lsA (.int x :: rest)) := by
  subst e1; subst e2; subst e4
  refine lv_if_eq hx hb d0 t0 (fun h => ?_) (fun h => ?_)
  · refine lv_iconst (v := (0 : Int32)) hx hb d3 (by decide) ?_
    have e : bz x = 0 := by simp [bz, h]
    rw [e] at kk
    exact kk
  · refine lv_iconst (v := (1 : Int32)) hx hb d1 (by decide) ?_
    refine lv_goto hx hb d2 t2 ?_
    have e : bz x = 1 := by simp [bz, h]
    rw [e] at kk
    exact kk
/-- what a case stands on -/
def lz_S (p : Program) (s : State) (m : MethodId) (c : Code) (b L q : Nat) (xs : Nat → Int32) (Hm : Heap) (cells slots : Nat) (lsA : Array Slot) (G : xo_G) (adC adR : xo_N → Nat) (C R : xo_H) : Prop :=
  lz_C p s m c b G ∧ lz_I G s adC C adR R Hm ∧ C.2.2 (0, 0) = true ∧ R.2.2 (50, 0) = true ∧ va_X b L xs s s.heap ∧ b < s.heap.size ∧ 4 * q + 4 ≤ L ∧ L ≤ 2048 ∧ lv_has lsA 4 [(0, .ref b), (1, .ref (adC (0, 0))), (2, .ref (adR (50, 0))), (3, .int (nI (4 * q)))] ∧ cells + 20 ≤ 600000 ∧ slots + 200 ≤ 7302250
theorem lz_ld {pc pc' j : Nat} {k : Int32} {rest : List Value} (S : lz_S p s m c b L q xs Hm cells slots lsA G adC adR C R) (hd : decode code pc = .ok (.iaload, 1)) (hj : j < 4) (hk : k = nI j) (hp : pc + 1 = pc') {Hm' : Heap} {cells' slots' : Nat} {adC' adR' : xo_N → Nat} {C' R' : xo_H} (hI : lz_I G s adC' C' adR' R' Hm')
    (kk : W p l e room_1 s m #[Value.ref b] below meth c Hm' [] cells' slots' Q (F0 m pc' lsA (.int (xs (4 * q + j)) :: rest))) : W p l e room_1 s m #[Value.ref b] below meth c Hm' [] cells' slots' Q (F0 m pc lsA (.int (nI (4 * q) + k) :: .ref b :: rest)) := by
  obtain ⟨C0, -, -, -, hX, hbl, hq, hL, -, -⟩ := S
  subst hp
  subst hk
  rw [nI_add]
  have hS : va_S (fun q => s.heap.size ≤ q) s.heap Hm' [] := ⟨hI.2.2.2.1, fun q h1 h2 => hI.2.2.2.2 q h1, fun _ h => by cases h⟩
  refine va_sld C0.1 C0.2.1 hX hbl (Nat.not_le.mpr hbl) hS (vp_in_nI (by omega) (by omega)) hd ?_
  rw [nI_clamp (by omega)]
  exact kk
set_option maxRecDepth 100000 in
set_option maxHeartbeats 4000000 in
theorem lz_case_0 (S : lz_S p s m c b L q xs Hm cells slots lsA G adC adR C R) (h1 : fc_K_giver (0, 0) (xs (4 * q + 1)) (bz (xs (4 * q + 2))) C = some (a, C')) (h2 : fc_M_giver (50, 0) (xs (4 * q + 1)) (bz (xs (4 * q + 2))) R = some (a, R')) (kk : ∀ (adC' adR' : xo_N → Nat) (Hm1 : Heap), lz_I G s adC' C' adR' R' Hm1 → adC' (0, 0) = adC (0, 0) → adR' (50, 0) = adR (50, 0) → C'.2.2 (0, 0) = true → R'.2.2 (50, 0) = true → W p l e room_1 s m #[Value.ref b] below meth c Hm1 [] (cells + 20) (slots + 200) Q (F0 m 925 lsA [])) : W p l e room_1 s m #[Value.ref b] below meth c Hm [] cells slots Q (F0 m 156 lsA []) := by
  have S0 := S
  obtain ⟨C0, hI0, hCn, hRn, hX, hbl, hq, hL, hl, hc0, hs0⟩ := S0
  have hx := C0.1
  have hb := C0.2.1
  refine lv_aload_n hx hb dl_156 rfl (lv_at hl 1 rfl) ?_
  refine lv_aload_n hx hb dl_157 rfl (lv_at hl 0 rfl) ?_
  refine lv_iload_n hx hb dl_158 rfl (lv_at hl 3 rfl) ?_
  refine lv_iconst (v := (1 : Int32)) hx hb dl_159 (by decide) ?_
  refine lv_iadd hx hb dl_160 ?_
  refine lz_ld (j := 1) (pc' := 162) S dl_161 (by decide) (by decide +kernel) rfl hI0 ?_
  refine lv_aload_n hx hb dl_162 rfl (lv_at hl 0 rfl) ?_
  refine lv_iload_n hx hb dl_163 rfl (lv_at hl 3 rfl) ?_
  refine lv_iconst (v := (2 : Int32)) hx hb dl_164 (by decide) ?_
  refine lv_iadd hx hb dl_165 ?_
  refine lz_ld (j := 2) (pc' := 167) S dl_166 (by decide) (by decide +kernel) rfl hI0 ?_
  refine lz_dia (p1 := 170) (p2 := 171) (p3 := 174) (p4 := 175) hx hb dl_167 rfl rfl dl_170 rfl dl_171 rfl dl_174 rfl ?_
  refine lz_call (vs := [(xs (4 * q + 1)), (bz (xs (4 * q + 2)))]) (n := (0, 0)) (rest := []) C0 hI0 dl_175 cv_K_giver (nt_1 _ (List.mem_of_getElem? (i := 112) rfl)) rfl rfl hCn rfl ⟨by decide, by decide⟩ (Nat.le_trans (Nat.add_le_add_left (by decide) _) hc0) (Nat.le_trans (Nat.add_le_add_left (by decide) _) hs0) (kc_K_giver (0, 0) (xs (4 * q + 1)) (bz (xs (4 * q + 2))) C _ h1) hl.1 (by simp) (Nat.le_of_ble_eq_true rfl) fun ad1 Hm1 hJ1 hE1 => ?_
  have hI1 := hJ1
  have hc1 : cells + mt_K_giver.2.2.2.2.cells + 0 ≤ 600000 := Nat.le_trans (Nat.add_le_add_left (by decide : mt_K_giver.2.2.2.2.cells ≤ 20) cells) hc0
  have hs1 : slots + mt_K_giver.2.2.2.2.slots + 0 ≤ 7302250 := Nat.le_trans (Nat.add_le_add_left (by decide : mt_K_giver.2.2.2.2.slots ≤ 200) slots) hs0
  refine lv_aload_n hx hb dl_178 rfl (lv_at hl 2 rfl) ?_
  refine lv_aload_n hx hb dl_179 rfl (lv_at hl 0 rfl) ?_
  refine lv_iload_n hx hb dl_180 rfl (lv_at hl 3 rfl) ?_
  refine lv_iconst (v := (1 : Int32)) hx hb dl_181 (by decide) ?_
  refine lv_iadd hx hb dl_182 ?_
  refine lz_ld (j := 1) (pc' := 184) S dl_183 (by decide) (by decide +kernel) rfl hI1 ?_
  refine lv_aload_n hx hb dl_184 rfl (lv_at hl 0 rfl) ?_
  refine lv_iload_n hx hb dl_185 rfl (lv_at hl 3 rfl) ?_
  refine lv_iconst (v := (2 : Int32)) hx hb dl_186 (by decide) ?_
  refine lv_iadd hx hb dl_187 ?_
  refine lz_ld (j := 2) (pc' := 189) S dl_188 (by decide) (by decide +kernel) rfl hI1 ?_
  refine lz_dia (p1 := 192) (p2 := 193) (p3 := 196) (p4 := 197) hx hb dl_189 rfl rfl dl_192 rfl dl_193 rfl dl_196 rfl ?_
  refine lz_call (vs := [(xs (4 * q + 1)), (bz (xs (4 * q + 2)))]) (n := (50, 0)) (rest := [.int a]) C0 (lz_swap hI1) dl_197 cv_M_giver (nt_5 _ (List.mem_of_getElem? (i := 78) rfl)) rfl rfl hRn rfl ⟨by decide, by decide⟩ (Nat.le_trans (Nat.add_le_add_left (by decide) _) hc1) (Nat.le_trans (Nat.add_le_add_left (by decide) _) hs1) (kc_M_giver (50, 0) (xs (4 * q + 1)) (bz (xs (4 * q + 2))) R _ h2) hl.1 (by simp [Value.category]) (Nat.le_of_ble_eq_true rfl) fun ad2 Hm2 hJ2 hE2 => ?_
  refine lv_icmp_eq (tgt := 925) hx hb dl_200 rfl (fun _ => ?_) (fun h => absurd rfl h)
  refine W.widen (k := cells + 20) (n := slots + 200) ?_ ?_ (kk ad1 ad2 Hm2 (lz_swap hJ2) (hE1 _ hCn).1 (hE2 _ hRn).1 (hE1 _ hCn).2 (hE2 _ hRn).2)
  · exact (Nat.add_le_add_left (by decide : mt_K_giver.2.2.2.2.cells + mt_M_giver.2.2.2.2.cells ≤ 20) cells)
  · exact (Nat.add_le_add_left (by decide : mt_K_giver.2.2.2.2.slots + mt_M_giver.2.2.2.2.slots ≤ 200) slots)
set_option maxRecDepth 100000 in
set_option maxHeartbeats 4000000 in
theorem lz_case_1 (S : lz_S p s m c b L q xs Hm cells slots lsA G adC adR C R) (h1 : fc_K_taker (0, 0) (xs (4 * q + 1)) (bz (xs (4 * q + 2))) C = some (a, C')) (h2 : fc_M_taker (50, 0) (xs (4 * q + 1)) (bz (xs (4 * q + 2))) R = some (a, R')) (kk : ∀ (adC' adR' : xo_N → Nat) (Hm1 : Heap), lz_I G s adC' C' adR' R' Hm1 → adC' (0, 0) = adC (0, 0) → adR' (50, 0) = adR (50, 0) → C'.2.2 (0, 0) = true → R'.2.2 (50, 0) = true → W p l e room_1 s m #[Value.ref b] below meth c Hm1 [] (cells + 20) (slots + 200) Q (F0 m 925 lsA [])) : W p l e room_1 s m #[Value.ref b] below meth c Hm [] cells slots Q (F0 m 205 lsA []) := by
  have S0 := S
  obtain ⟨C0, hI0, hCn, hRn, hX, hbl, hq, hL, hl, hc0, hs0⟩ := S0
  have hx := C0.1
  have hb := C0.2.1
  refine lv_aload_n hx hb dl_205 rfl (lv_at hl 1 rfl) ?_
  refine lv_aload_n hx hb dl_206 rfl (lv_at hl 0 rfl) ?_
  refine lv_iload_n hx hb dl_207 rfl (lv_at hl 3 rfl) ?_
  refine lv_iconst (v := (1 : Int32)) hx hb dl_208 (by decide) ?_
  refine lv_iadd hx hb dl_209 ?_
  refine lz_ld (j := 1) (pc' := 211) S dl_210 (by decide) (by decide +kernel) rfl hI0 ?_
  refine lv_aload_n hx hb dl_211 rfl (lv_at hl 0 rfl) ?_
  refine lv_iload_n hx hb dl_212 rfl (lv_at hl 3 rfl) ?_
  refine lv_iconst (v := (2 : Int32)) hx hb dl_213 (by decide) ?_
  refine lv_iadd hx hb dl_214 ?_
  refine lz_ld (j := 2) (pc' := 216) S dl_215 (by decide) (by decide +kernel) rfl hI0 ?_
  refine lz_dia (p1 := 219) (p2 := 220) (p3 := 223) (p4 := 224) hx hb dl_216 rfl rfl dl_219 rfl dl_220 rfl dl_223 rfl ?_
  refine lz_call (vs := [(xs (4 * q + 1)), (bz (xs (4 * q + 2)))]) (n := (0, 0)) (rest := []) C0 hI0 dl_224 cv_K_taker (nt_2 _ (List.mem_of_getElem? (i := 52) rfl)) rfl rfl hCn rfl ⟨by decide, by decide⟩ (Nat.le_trans (Nat.add_le_add_left (by decide) _) hc0) (Nat.le_trans (Nat.add_le_add_left (by decide) _) hs0) (kc_K_taker (0, 0) (xs (4 * q + 1)) (bz (xs (4 * q + 2))) C _ h1) hl.1 (by simp) (Nat.le_of_ble_eq_true rfl) fun ad1 Hm1 hJ1 hE1 => ?_
  have hI1 := hJ1
  have hc1 : cells + mt_K_taker.2.2.2.2.cells + 0 ≤ 600000 := Nat.le_trans (Nat.add_le_add_left (by decide : mt_K_taker.2.2.2.2.cells ≤ 20) cells) hc0
  have hs1 : slots + mt_K_taker.2.2.2.2.slots + 0 ≤ 7302250 := Nat.le_trans (Nat.add_le_add_left (by decide : mt_K_taker.2.2.2.2.slots ≤ 200) slots) hs0
  refine lv_aload_n hx hb dl_227 rfl (lv_at hl 2 rfl) ?_
  refine lv_aload_n hx hb dl_228 rfl (lv_at hl 0 rfl) ?_
  refine lv_iload_n hx hb dl_229 rfl (lv_at hl 3 rfl) ?_
  refine lv_iconst (v := (1 : Int32)) hx hb dl_230 (by decide) ?_
  refine lv_iadd hx hb dl_231 ?_
  refine lz_ld (j := 1) (pc' := 233) S dl_232 (by decide) (by decide +kernel) rfl hI1 ?_
  refine lv_aload_n hx hb dl_233 rfl (lv_at hl 0 rfl) ?_
  refine lv_iload_n hx hb dl_234 rfl (lv_at hl 3 rfl) ?_
  refine lv_iconst (v := (2 : Int32)) hx hb dl_235 (by decide) ?_
  refine lv_iadd hx hb dl_236 ?_
  refine lz_ld (j := 2) (pc' := 238) S dl_237 (by decide) (by decide +kernel) rfl hI1 ?_
  refine lz_dia (p1 := 241) (p2 := 242) (p3 := 245) (p4 := 246) hx hb dl_238 rfl rfl dl_241 rfl dl_242 rfl dl_245 rfl ?_
  refine lz_call (vs := [(xs (4 * q + 1)), (bz (xs (4 * q + 2)))]) (n := (50, 0)) (rest := [.int a]) C0 (lz_swap hI1) dl_246 cv_M_taker (nt_5 _ (List.mem_of_getElem? (i := 86) rfl)) rfl rfl hRn rfl ⟨by decide, by decide⟩ (Nat.le_trans (Nat.add_le_add_left (by decide) _) hc1) (Nat.le_trans (Nat.add_le_add_left (by decide) _) hs1) (kc_M_taker (50, 0) (xs (4 * q + 1)) (bz (xs (4 * q + 2))) R _ h2) hl.1 (by simp [Value.category]) (Nat.le_of_ble_eq_true rfl) fun ad2 Hm2 hJ2 hE2 => ?_
  refine lv_icmp_eq (tgt := 925) hx hb dl_249 rfl (fun _ => ?_) (fun h => absurd rfl h)
  refine W.widen (k := cells + 20) (n := slots + 200) ?_ ?_ (kk ad1 ad2 Hm2 (lz_swap hJ2) (hE1 _ hCn).1 (hE2 _ hRn).1 (hE1 _ hCn).2 (hE2 _ hRn).2)
  · exact (Nat.add_le_add_left (by decide : mt_K_taker.2.2.2.2.cells + mt_M_taker.2.2.2.2.cells ≤ 20) cells)
  · exact (Nat.add_le_add_left (by decide : mt_K_taker.2.2.2.2.slots + mt_M_taker.2.2.2.2.slots ≤ 200) slots)
set_option maxRecDepth 100000 in
set_option maxHeartbeats 4000000 in
theorem lz_case_2 (S : lz_S p s m c b L q xs Hm cells slots lsA G adC adR C R) (h1 : fc_K_put (0, 0) (xs (4 * q + 1)) (xs (4 * q + 2)) C = some (a, C')) (h2 : fc_M_put (50, 0) (xs (4 * q + 1)) (xs (4 * q + 2)) R = some (a, R')) (kk : ∀ (adC' adR' : xo_N → Nat) (Hm1 : Heap), lz_I G s adC' C' adR' R' Hm1 → adC' (0, 0) = adC (0, 0) → adR' (50, 0) = adR (50, 0) → C'.2.2 (0, 0) = true → R'.2.2 (50, 0) = true → W p l e room_1 s m #[Value.ref b] below meth c Hm1 [] (cells + 20) (slots + 200) Q (F0 m 925 lsA [])) : W p l e room_1 s m #[Value.ref b] below meth c Hm [] cells slots Q (F0 m 254 lsA []) := by
  have S0 := S
  obtain ⟨C0, hI0, hCn, hRn, hX, hbl, hq, hL, hl, hc0, hs0⟩ := S0
  have hx := C0.1
  have hb := C0.2.1
  refine lv_aload_n hx hb dl_254 rfl (lv_at hl 1 rfl) ?_
  refine lv_aload_n hx hb dl_255 rfl (lv_at hl 0 rfl) ?_
  refine lv_iload_n hx hb dl_256 rfl (lv_at hl 3 rfl) ?_
  refine lv_iconst (v := (1 : Int32)) hx hb dl_257 (by decide) ?_
  refine lv_iadd hx hb dl_258 ?_
  refine lz_ld (j := 1) (pc' := 260) S dl_259 (by decide) (by decide +kernel) rfl hI0 ?_
  refine lv_aload_n hx hb dl_260 rfl (lv_at hl 0 rfl) ?_
  refine lv_iload_n hx hb dl_261 rfl (lv_at hl 3 rfl) ?_
  refine lv_iconst (v := (2 : Int32)) hx hb dl_262 (by decide) ?_
  refine lv_iadd hx hb dl_263 ?_
  refine lz_ld (j := 2) (pc' := 265) S dl_264 (by decide) (by decide +kernel) rfl hI0 ?_
  refine lz_call (vs := [(xs (4 * q + 1)), (xs (4 * q + 2))]) (n := (0, 0)) (rest := []) C0 hI0 dl_265 cv_K_put (nt_2 _ (List.mem_of_getElem? (i := 112) rfl)) rfl rfl hCn rfl ⟨by decide, by decide⟩ (Nat.le_trans (Nat.add_le_add_left (by decide) _) hc0) (Nat.le_trans (Nat.add_le_add_left (by decide) _) hs0) (kc_K_put (0, 0) (xs (4 * q + 1)) (xs (4 * q + 2)) C _ h1) hl.1 (by simp) (Nat.le_of_ble_eq_true rfl) fun ad1 Hm1 hJ1 hE1 => ?_
  have hI1 := hJ1
  have hc1 : cells + mt_K_put.2.2.2.2.cells + 0 ≤ 600000 := Nat.le_trans (Nat.add_le_add_left (by decide : mt_K_put.2.2.2.2.cells ≤ 20) cells) hc0
  have hs1 : slots + mt_K_put.2.2.2.2.slots + 0 ≤ 7302250 := Nat.le_trans (Nat.add_le_add_left (by decide : mt_K_put.2.2.2.2.slots ≤ 200) slots) hs0
  refine lv_aload_n hx hb dl_268 rfl (lv_at hl 2 rfl) ?_
  refine lv_aload_n hx hb dl_269 rfl (lv_at hl 0 rfl) ?_
  refine lv_iload_n hx hb dl_270 rfl (lv_at hl 3 rfl) ?_
  refine lv_iconst (v := (1 : Int32)) hx hb dl_271 (by decide) ?_
  refine lv_iadd hx hb dl_272 ?_
  refine lz_ld (j := 1) (pc' := 274) S dl_273 (by decide) (by decide +kernel) rfl hI1 ?_
  refine lv_aload_n hx hb dl_274 rfl (lv_at hl 0 rfl) ?_
  refine lv_iload_n hx hb dl_275 rfl (lv_at hl 3 rfl) ?_
  refine lv_iconst (v := (2 : Int32)) hx hb dl_276 (by decide) ?_
  refine lv_iadd hx hb dl_277 ?_
  refine lz_ld (j := 2) (pc' := 279) S dl_278 (by decide) (by decide +kernel) rfl hI1 ?_
  refine lz_call (vs := [(xs (4 * q + 1)), (xs (4 * q + 2))]) (n := (50, 0)) (rest := [.int a]) C0 (lz_swap hI1) dl_279 cv_M_put (nt_5 _ (List.mem_of_getElem? (i := 90) rfl)) rfl rfl hRn rfl ⟨by decide, by decide⟩ (Nat.le_trans (Nat.add_le_add_left (by decide) _) hc1) (Nat.le_trans (Nat.add_le_add_left (by decide) _) hs1) (kc_M_put (50, 0) (xs (4 * q + 1)) (xs (4 * q + 2)) R _ h2) hl.1 (by simp [Value.category]) (Nat.le_of_ble_eq_true rfl) fun ad2 Hm2 hJ2 hE2 => ?_
  refine lv_icmp_eq (tgt := 925) hx hb dl_282 rfl (fun _ => ?_) (fun h => absurd rfl h)
  refine W.widen (k := cells + 20) (n := slots + 200) ?_ ?_ (kk ad1 ad2 Hm2 (lz_swap hJ2) (hE1 _ hCn).1 (hE2 _ hRn).1 (hE1 _ hCn).2 (hE2 _ hRn).2)
  · exact (Nat.add_le_add_left (by decide : mt_K_put.2.2.2.2.cells + mt_M_put.2.2.2.2.cells ≤ 20) cells)
  · exact (Nat.add_le_add_left (by decide : mt_K_put.2.2.2.2.slots + mt_M_put.2.2.2.2.slots ≤ 200) slots)
set_option maxRecDepth 100000 in
set_option maxHeartbeats 4000000 in
theorem lz_case_3 (S : lz_S p s m c b L q xs Hm cells slots lsA G adC adR C R) (h1 : fc_K_end (0, 0) (xs (4 * q + 1)) C = some (a, C')) (h2 : fc_M_end (50, 0) (xs (4 * q + 1)) R = some (a, R')) (kk : ∀ (adC' adR' : xo_N → Nat) (Hm1 : Heap), lz_I G s adC' C' adR' R' Hm1 → adC' (0, 0) = adC (0, 0) → adR' (50, 0) = adR (50, 0) → C'.2.2 (0, 0) = true → R'.2.2 (50, 0) = true → W p l e room_1 s m #[Value.ref b] below meth c Hm1 [] (cells + 20) (slots + 200) Q (F0 m 925 lsA [])) : W p l e room_1 s m #[Value.ref b] below meth c Hm [] cells slots Q (F0 m 287 lsA []) := by
  have S0 := S
  obtain ⟨C0, hI0, hCn, hRn, hX, hbl, hq, hL, hl, hc0, hs0⟩ := S0
  have hx := C0.1
  have hb := C0.2.1
  refine lv_aload_n hx hb dl_287 rfl (lv_at hl 1 rfl) ?_
  refine lv_aload_n hx hb dl_288 rfl (lv_at hl 0 rfl) ?_
  refine lv_iload_n hx hb dl_289 rfl (lv_at hl 3 rfl) ?_
  refine lv_iconst (v := (1 : Int32)) hx hb dl_290 (by decide) ?_
  refine lv_iadd hx hb dl_291 ?_
  refine lz_ld (j := 1) (pc' := 293) S dl_292 (by decide) (by decide +kernel) rfl hI0 ?_
  refine lz_call (vs := [(xs (4 * q + 1))]) (n := (0, 0)) (rest := []) C0 hI0 dl_293 cv_K_end (nt_2 _ (List.mem_of_getElem? (i := 159) rfl)) rfl rfl hCn rfl ⟨by decide, by decide⟩ (Nat.le_trans (Nat.add_le_add_left (by decide) _) hc0) (Nat.le_trans (Nat.add_le_add_left (by decide) _) hs0) (kc_K_end (0, 0) (xs (4 * q + 1)) C _ h1) hl.1 (by simp) (Nat.le_of_ble_eq_true rfl) fun ad1 Hm1 hJ1 hE1 => ?_
  have hI1 := hJ1
  have hc1 : cells + mt_K_end.2.2.2.2.cells + 0 ≤ 600000 := Nat.le_trans (Nat.add_le_add_left (by decide : mt_K_end.2.2.2.2.cells ≤ 20) cells) hc0
  have hs1 : slots + mt_K_end.2.2.2.2.slots + 0 ≤ 7302250 := Nat.le_trans (Nat.add_le_add_left (by decide : mt_K_end.2.2.2.2.slots ≤ 200) slots) hs0
  refine lv_aload_n hx hb dl_296 rfl (lv_at hl 2 rfl) ?_
  refine lv_aload_n hx hb dl_297 rfl (lv_at hl 0 rfl) ?_
  refine lv_iload_n hx hb dl_298 rfl (lv_at hl 3 rfl) ?_
  refine lv_iconst (v := (1 : Int32)) hx hb dl_299 (by decide) ?_
  refine lv_iadd hx hb dl_300 ?_
  refine lz_ld (j := 1) (pc' := 302) S dl_301 (by decide) (by decide +kernel) rfl hI1 ?_
  refine lz_call (vs := [(xs (4 * q + 1))]) (n := (50, 0)) (rest := [.int a]) C0 (lz_swap hI1) dl_302 cv_M_end (nt_5 _ (List.mem_of_getElem? (i := 102) rfl)) rfl rfl hRn rfl ⟨by decide, by decide⟩ (Nat.le_trans (Nat.add_le_add_left (by decide) _) hc1) (Nat.le_trans (Nat.add_le_add_left (by decide) _) hs1) (kc_M_end (50, 0) (xs (4 * q + 1)) R _ h2) hl.1 (by simp [Value.category]) (Nat.le_of_ble_eq_true rfl) fun ad2 Hm2 hJ2 hE2 => ?_
  refine lv_icmp_eq (tgt := 925) hx hb dl_305 rfl (fun _ => ?_) (fun h => absurd rfl h)
  refine W.widen (k := cells + 20) (n := slots + 200) ?_ ?_ (kk ad1 ad2 Hm2 (lz_swap hJ2) (hE1 _ hCn).1 (hE2 _ hRn).1 (hE1 _ hCn).2 (hE2 _ hRn).2)
  · exact (Nat.add_le_add_left (by decide : mt_K_end.2.2.2.2.cells + mt_M_end.2.2.2.2.cells ≤ 20) cells)
  · exact (Nat.add_le_add_left (by decide : mt_K_end.2.2.2.2.slots + mt_M_end.2.2.2.2.slots ≤ 200) slots)
set_option maxRecDepth 100000 in
set_option maxHeartbeats 4000000 in
theorem lz_case_4 (S : lz_S p s m c b L q xs Hm cells slots lsA G adC adR C R) (h1 : fc_K_fail (0, 0) (xs (4 * q + 1)) (xs (4 * q + 2)) C = some (a, C')) (h2 : fc_M_fail (50, 0) (xs (4 * q + 1)) (xs (4 * q + 2)) R = some (a, R')) (kk : ∀ (adC' adR' : xo_N → Nat) (Hm1 : Heap), lz_I G s adC' C' adR' R' Hm1 → adC' (0, 0) = adC (0, 0) → adR' (50, 0) = adR (50, 0) → C'.2.2 (0, 0) = true → R'.2.2 (50, 0) = true → W p l e room_1 s m #[Value.ref b] below meth c Hm1 [] (cells + 20) (slots + 200) Q (F0 m 925 lsA [])) : W p l e room_1 s m #[Value.ref b] below meth c Hm [] cells slots Q (F0 m 310 lsA []) := by
  have S0 := S
  obtain ⟨C0, hI0, hCn, hRn, hX, hbl, hq, hL, hl, hc0, hs0⟩ := S0
  have hx := C0.1
  have hb := C0.2.1
  refine lv_aload_n hx hb dl_310 rfl (lv_at hl 1 rfl) ?_
  refine lv_aload_n hx hb dl_311 rfl (lv_at hl 0 rfl) ?_
  refine lv_iload_n hx hb dl_312 rfl (lv_at hl 3 rfl) ?_
  refine lv_iconst (v := (1 : Int32)) hx hb dl_313 (by decide) ?_
  refine lv_iadd hx hb dl_314 ?_
  refine lz_ld (j := 1) (pc' := 316) S dl_315 (by decide) (by decide +kernel) rfl hI0 ?_
  refine lv_aload_n hx hb dl_316 rfl (lv_at hl 0 rfl) ?_
  refine lv_iload_n hx hb dl_317 rfl (lv_at hl 3 rfl) ?_
  refine lv_iconst (v := (2 : Int32)) hx hb dl_318 (by decide) ?_
  refine lv_iadd hx hb dl_319 ?_
  refine lz_ld (j := 2) (pc' := 321) S dl_320 (by decide) (by decide +kernel) rfl hI0 ?_
  refine lz_call (vs := [(xs (4 * q + 1)), (xs (4 * q + 2))]) (n := (0, 0)) (rest := []) C0 hI0 dl_321 cv_K_fail (nt_2 _ (List.mem_of_getElem? (i := 167) rfl)) rfl rfl hCn rfl ⟨by decide, by decide⟩ (Nat.le_trans (Nat.add_le_add_left (by decide) _) hc0) (Nat.le_trans (Nat.add_le_add_left (by decide) _) hs0) (kc_K_fail (0, 0) (xs (4 * q + 1)) (xs (4 * q + 2)) C _ h1) hl.1 (by simp) (Nat.le_of_ble_eq_true rfl) fun ad1 Hm1 hJ1 hE1 => ?_
  have hI1 := hJ1
  have hc1 : cells + mt_K_fail.2.2.2.2.cells + 0 ≤ 600000 := Nat.le_trans (Nat.add_le_add_left (by decide : mt_K_fail.2.2.2.2.cells ≤ 20) cells) hc0
  have hs1 : slots + mt_K_fail.2.2.2.2.slots + 0 ≤ 7302250 := Nat.le_trans (Nat.add_le_add_left (by decide : mt_K_fail.2.2.2.2.slots ≤ 200) slots) hs0
  refine lv_aload_n hx hb dl_324 rfl (lv_at hl 2 rfl) ?_
  refine lv_aload_n hx hb dl_325 rfl (lv_at hl 0 rfl) ?_
  refine lv_iload_n hx hb dl_326 rfl (lv_at hl 3 rfl) ?_
  refine lv_iconst (v := (1 : Int32)) hx hb dl_327 (by decide) ?_
  refine lv_iadd hx hb dl_328 ?_
  refine lz_ld (j := 1) (pc' := 330) S dl_329 (by decide) (by decide +kernel) rfl hI1 ?_
  refine lv_aload_n hx hb dl_330 rfl (lv_at hl 0 rfl) ?_
  refine lv_iload_n hx hb dl_331 rfl (lv_at hl 3 rfl) ?_
  refine lv_iconst (v := (2 : Int32)) hx hb dl_332 (by decide) ?_
  refine lv_iadd hx hb dl_333 ?_
  refine lz_ld (j := 2) (pc' := 335) S dl_334 (by decide) (by decide +kernel) rfl hI1 ?_
  refine lz_call (vs := [(xs (4 * q + 1)), (xs (4 * q + 2))]) (n := (50, 0)) (rest := [.int a]) C0 (lz_swap hI1) dl_335 cv_M_fail (nt_5 _ (List.mem_of_getElem? (i := 110) rfl)) rfl rfl hRn rfl ⟨by decide, by decide⟩ (Nat.le_trans (Nat.add_le_add_left (by decide) _) hc1) (Nat.le_trans (Nat.add_le_add_left (by decide) _) hs1) (kc_M_fail (50, 0) (xs (4 * q + 1)) (xs (4 * q + 2)) R _ h2) hl.1 (by simp [Value.category]) (Nat.le_of_ble_eq_true rfl) fun ad2 Hm2 hJ2 hE2 => ?_
  refine lv_icmp_eq (tgt := 925) hx hb dl_338 rfl (fun _ => ?_) (fun h => absurd rfl h)
  refine W.widen (k := cells + 20) (n := slots + 200) ?_ ?_ (kk ad1 ad2 Hm2 (lz_swap hJ2) (hE1 _ hCn).1 (hE2 _ hRn).1 (hE1 _ hCn).2 (hE2 _ hRn).2)
  · exact (Nat.add_le_add_left (by decide : mt_K_fail.2.2.2.2.cells + mt_M_fail.2.2.2.2.cells ≤ 20) cells)
  · exact (Nat.add_le_add_left (by decide : mt_K_fail.2.2.2.2.slots + mt_M_fail.2.2.2.2.slots ≤ 200) slots)
set_option maxRecDepth 100000 in
set_option maxHeartbeats 4000000 in
theorem lz_case_5 (S : lz_S p s m c b L q xs Hm cells slots lsA G adC adR C R) (h1 : fc_K_pulled (0, 0) (xs (4 * q + 1)) (xs (4 * q + 2)) C = some (a, C')) (h2 : fc_M_pulled (50, 0) (xs (4 * q + 1)) (xs (4 * q + 2)) R = some (a, R')) (kk : ∀ (adC' adR' : xo_N → Nat) (Hm1 : Heap), lz_I G s adC' C' adR' R' Hm1 → adC' (0, 0) = adC (0, 0) → adR' (50, 0) = adR (50, 0) → C'.2.2 (0, 0) = true → R'.2.2 (50, 0) = true → W p l e room_1 s m #[Value.ref b] below meth c Hm1 [] (cells + 20) (slots + 200) Q (F0 m 925 lsA [])) : W p l e room_1 s m #[Value.ref b] below meth c Hm [] cells slots Q (F0 m 343 lsA []) := by
  have S0 := S
  obtain ⟨C0, hI0, hCn, hRn, hX, hbl, hq, hL, hl, hc0, hs0⟩ := S0
  have hx := C0.1
  have hb := C0.2.1
  refine lv_aload_n hx hb dl_343 rfl (lv_at hl 1 rfl) ?_
  refine lv_aload_n hx hb dl_344 rfl (lv_at hl 0 rfl) ?_
  refine lv_iload_n hx hb dl_345 rfl (lv_at hl 3 rfl) ?_
  refine lv_iconst (v := (1 : Int32)) hx hb dl_346 (by decide) ?_
  refine lv_iadd hx hb dl_347 ?_
  refine lz_ld (j := 1) (pc' := 349) S dl_348 (by decide) (by decide +kernel) rfl hI0 ?_
  refine lv_aload_n hx hb dl_349 rfl (lv_at hl 0 rfl) ?_
  refine lv_iload_n hx hb dl_350 rfl (lv_at hl 3 rfl) ?_
  refine lv_iconst (v := (2 : Int32)) hx hb dl_351 (by decide) ?_
  refine lv_iadd hx hb dl_352 ?_
  refine lz_ld (j := 2) (pc' := 354) S dl_353 (by decide) (by decide +kernel) rfl hI0 ?_
  refine lz_call (vs := [(xs (4 * q + 1)), (xs (4 * q + 2))]) (n := (0, 0)) (rest := []) C0 hI0 dl_354 cv_K_pulled (nt_2 _ (List.mem_of_getElem? (i := 192) rfl)) rfl rfl hCn rfl ⟨by decide, by decide⟩ (Nat.le_trans (Nat.add_le_add_left (by decide) _) hc0) (Nat.le_trans (Nat.add_le_add_left (by decide) _) hs0) (kc_K_pulled (0, 0) (xs (4 * q + 1)) (xs (4 * q + 2)) C _ h1) hl.1 (by simp) (Nat.le_of_ble_eq_true rfl) fun ad1 Hm1 hJ1 hE1 => ?_
  have hI1 := hJ1
  have hc1 : cells + mt_K_pulled.2.2.2.2.cells + 0 ≤ 600000 := Nat.le_trans (Nat.add_le_add_left (by decide : mt_K_pulled.2.2.2.2.cells ≤ 20) cells) hc0
  have hs1 : slots + mt_K_pulled.2.2.2.2.slots + 0 ≤ 7302250 := Nat.le_trans (Nat.add_le_add_left (by decide : mt_K_pulled.2.2.2.2.slots ≤ 200) slots) hs0
  refine lv_aload_n hx hb dl_357 rfl (lv_at hl 2 rfl) ?_
  refine lv_aload_n hx hb dl_358 rfl (lv_at hl 0 rfl) ?_
  refine lv_iload_n hx hb dl_359 rfl (lv_at hl 3 rfl) ?_
  refine lv_iconst (v := (1 : Int32)) hx hb dl_360 (by decide) ?_
  refine lv_iadd hx hb dl_361 ?_
  refine lz_ld (j := 1) (pc' := 363) S dl_362 (by decide) (by decide +kernel) rfl hI1 ?_
  refine lv_aload_n hx hb dl_363 rfl (lv_at hl 0 rfl) ?_
  refine lv_iload_n hx hb dl_364 rfl (lv_at hl 3 rfl) ?_
  refine lv_iconst (v := (2 : Int32)) hx hb dl_365 (by decide) ?_
  refine lv_iadd hx hb dl_366 ?_
  refine lz_ld (j := 2) (pc' := 368) S dl_367 (by decide) (by decide +kernel) rfl hI1 ?_
  refine lz_call (vs := [(xs (4 * q + 1)), (xs (4 * q + 2))]) (n := (50, 0)) (rest := [.int a]) C0 (lz_swap hI1) dl_368 cv_M_pulled (nt_5 _ (List.mem_of_getElem? (i := 118) rfl)) rfl rfl hRn rfl ⟨by decide, by decide⟩ (Nat.le_trans (Nat.add_le_add_left (by decide) _) hc1) (Nat.le_trans (Nat.add_le_add_left (by decide) _) hs1) (kc_M_pulled (50, 0) (xs (4 * q + 1)) (xs (4 * q + 2)) R _ h2) hl.1 (by simp [Value.category]) (Nat.le_of_ble_eq_true rfl) fun ad2 Hm2 hJ2 hE2 => ?_
  refine lv_icmp_eq (tgt := 925) hx hb dl_371 rfl (fun _ => ?_) (fun h => absurd rfl h)
  refine W.widen (k := cells + 20) (n := slots + 200) ?_ ?_ (kk ad1 ad2 Hm2 (lz_swap hJ2) (hE1 _ hCn).1 (hE2 _ hRn).1 (hE1 _ hCn).2 (hE2 _ hRn).2)
  · exact (Nat.add_le_add_left (by decide : mt_K_pulled.2.2.2.2.cells + mt_M_pulled.2.2.2.2.cells ≤ 20) cells)
  · exact (Nat.add_le_add_left (by decide : mt_K_pulled.2.2.2.2.slots + mt_M_pulled.2.2.2.2.slots ≤ 200) slots)
set_option maxRecDepth 100000 in
set_option maxHeartbeats 4000000 in
theorem lz_case_6 (S : lz_S p s m c b L q xs Hm cells slots lsA G adC adR C R) (h1 : fc_K_read (0, 0) (xs (4 * q + 1)) C = some (a, C')) (h2 : fc_M_read (50, 0) (xs (4 * q + 1)) R = some (a, R')) (kk : ∀ (adC' adR' : xo_N → Nat) (Hm1 : Heap), lz_I G s adC' C' adR' R' Hm1 → adC' (0, 0) = adC (0, 0) → adR' (50, 0) = adR (50, 0) → C'.2.2 (0, 0) = true → R'.2.2 (50, 0) = true → W p l e room_1 s m #[Value.ref b] below meth c Hm1 [] (cells + 20) (slots + 200) Q (F0 m 925 lsA [])) : W p l e room_1 s m #[Value.ref b] below meth c Hm [] cells slots Q (F0 m 376 lsA []) := by
  have S0 := S
  obtain ⟨C0, hI0, hCn, hRn, hX, hbl, hq, hL, hl, hc0, hs0⟩ := S0
  have hx := C0.1
  have hb := C0.2.1
  refine lv_aload_n hx hb dl_376 rfl (lv_at hl 1 rfl) ?_
  refine lv_aload_n hx hb dl_377 rfl (lv_at hl 0 rfl) ?_
  refine lv_iload_n hx hb dl_378 rfl (lv_at hl 3 rfl) ?_
  refine lv_iconst (v := (1 : Int32)) hx hb dl_379 (by decide) ?_
  refine lv_iadd hx hb dl_380 ?_
  refine lz_ld (j := 1) (pc' := 382) S dl_381 (by decide) (by decide +kernel) rfl hI0 ?_
  refine lz_call (vs := [(xs (4 * q + 1))]) (n := (0, 0)) (rest := []) C0 hI0 dl_382 cv_K_read (nt_2 _ (List.mem_of_getElem? (i := 199) rfl)) rfl rfl hCn rfl ⟨by decide, by decide⟩ (Nat.le_trans (Nat.add_le_add_left (by decide) _) hc0) (Nat.le_trans (Nat.add_le_add_left (by decide) _) hs0) (kc_K_read (0, 0) (xs (4 * q + 1)) C _ h1) hl.1 (by simp) (Nat.le_of_ble_eq_true rfl) fun ad1 Hm1 hJ1 hE1 => ?_
  have hI1 := hJ1
  have hc1 : cells + mt_K_read.2.2.2.2.cells + 0 ≤ 600000 := Nat.le_trans (Nat.add_le_add_left (by decide : mt_K_read.2.2.2.2.cells ≤ 20) cells) hc0
  have hs1 : slots + mt_K_read.2.2.2.2.slots + 0 ≤ 7302250 := Nat.le_trans (Nat.add_le_add_left (by decide : mt_K_read.2.2.2.2.slots ≤ 200) slots) hs0
  refine lv_aload_n hx hb dl_385 rfl (lv_at hl 2 rfl) ?_
  refine lv_aload_n hx hb dl_386 rfl (lv_at hl 0 rfl) ?_
  refine lv_iload_n hx hb dl_387 rfl (lv_at hl 3 rfl) ?_
  refine lv_iconst (v := (1 : Int32)) hx hb dl_388 (by decide) ?_
  refine lv_iadd hx hb dl_389 ?_
  refine lz_ld (j := 1) (pc' := 391) S dl_390 (by decide) (by decide +kernel) rfl hI1 ?_
  refine lz_call (vs := [(xs (4 * q + 1))]) (n := (50, 0)) (rest := [.int a]) C0 (lz_swap hI1) dl_391 cv_M_read (nt_5 _ (List.mem_of_getElem? (i := 122) rfl)) rfl rfl hRn rfl ⟨by decide, by decide⟩ (Nat.le_trans (Nat.add_le_add_left (by decide) _) hc1) (Nat.le_trans (Nat.add_le_add_left (by decide) _) hs1) (kc_M_read (50, 0) (xs (4 * q + 1)) R _ h2) hl.1 (by simp [Value.category]) (Nat.le_of_ble_eq_true rfl) fun ad2 Hm2 hJ2 hE2 => ?_
  refine lv_icmp_eq (tgt := 925) hx hb dl_394 rfl (fun _ => ?_) (fun h => absurd rfl h)
  refine W.widen (k := cells + 20) (n := slots + 200) ?_ ?_ (kk ad1 ad2 Hm2 (lz_swap hJ2) (hE1 _ hCn).1 (hE2 _ hRn).1 (hE1 _ hCn).2 (hE2 _ hRn).2)
  · exact (Nat.add_le_add_left (by decide : mt_K_read.2.2.2.2.cells + mt_M_read.2.2.2.2.cells ≤ 20) cells)
  · exact (Nat.add_le_add_left (by decide : mt_K_read.2.2.2.2.slots + mt_M_read.2.2.2.2.slots ≤ 200) slots)
set_option maxRecDepth 100000 in
set_option maxHeartbeats 4000000 in
theorem lz_case_7 (S : lz_S p s m c b L q xs Hm cells slots lsA G adC adR C R) (h1 : fc_K_cancel (0, 0) (xs (4 * q + 1)) (xs (4 * q + 2)) C = some (a, C')) (h2 : fc_M_cancel (50, 0) (xs (4 * q + 1)) (xs (4 * q + 2)) R = some (a, R')) (kk : ∀ (adC' adR' : xo_N → Nat) (Hm1 : Heap), lz_I G s adC' C' adR' R' Hm1 → adC' (0, 0) = adC (0, 0) → adR' (50, 0) = adR (50, 0) → C'.2.2 (0, 0) = true → R'.2.2 (50, 0) = true → W p l e room_1 s m #[Value.ref b] below meth c Hm1 [] (cells + 20) (slots + 200) Q (F0 m 925 lsA [])) : W p l e room_1 s m #[Value.ref b] below meth c Hm [] cells slots Q (F0 m 399 lsA []) := by
  have S0 := S
  obtain ⟨C0, hI0, hCn, hRn, hX, hbl, hq, hL, hl, hc0, hs0⟩ := S0
  have hx := C0.1
  have hb := C0.2.1
  refine lv_aload_n hx hb dl_399 rfl (lv_at hl 1 rfl) ?_
  refine lv_aload_n hx hb dl_400 rfl (lv_at hl 0 rfl) ?_
  refine lv_iload_n hx hb dl_401 rfl (lv_at hl 3 rfl) ?_
  refine lv_iconst (v := (1 : Int32)) hx hb dl_402 (by decide) ?_
  refine lv_iadd hx hb dl_403 ?_
  refine lz_ld (j := 1) (pc' := 405) S dl_404 (by decide) (by decide +kernel) rfl hI0 ?_
  refine lv_aload_n hx hb dl_405 rfl (lv_at hl 0 rfl) ?_
  refine lv_iload_n hx hb dl_406 rfl (lv_at hl 3 rfl) ?_
  refine lv_iconst (v := (2 : Int32)) hx hb dl_407 (by decide) ?_
  refine lv_iadd hx hb dl_408 ?_
  refine lz_ld (j := 2) (pc' := 410) S dl_409 (by decide) (by decide +kernel) rfl hI0 ?_
  refine lz_call (vs := [(xs (4 * q + 1)), (xs (4 * q + 2))]) (n := (0, 0)) (rest := []) C0 hI0 dl_410 cv_K_cancel (nt_2 _ (List.mem_of_getElem? (i := 211) rfl)) rfl rfl hCn rfl ⟨by decide, by decide⟩ (Nat.le_trans (Nat.add_le_add_left (by decide) _) hc0) (Nat.le_trans (Nat.add_le_add_left (by decide) _) hs0) (kc_K_cancel (0, 0) (xs (4 * q + 1)) (xs (4 * q + 2)) C _ h1) hl.1 (by simp) (Nat.le_of_ble_eq_true rfl) fun ad1 Hm1 hJ1 hE1 => ?_
  have hI1 := hJ1
  have hc1 : cells + mt_K_cancel.2.2.2.2.cells + 0 ≤ 600000 := Nat.le_trans (Nat.add_le_add_left (by decide : mt_K_cancel.2.2.2.2.cells ≤ 20) cells) hc0
  have hs1 : slots + mt_K_cancel.2.2.2.2.slots + 0 ≤ 7302250 := Nat.le_trans (Nat.add_le_add_left (by decide : mt_K_cancel.2.2.2.2.slots ≤ 200) slots) hs0
  refine lv_aload_n hx hb dl_413 rfl (lv_at hl 2 rfl) ?_
  refine lv_aload_n hx hb dl_414 rfl (lv_at hl 0 rfl) ?_
  refine lv_iload_n hx hb dl_415 rfl (lv_at hl 3 rfl) ?_
  refine lv_iconst (v := (1 : Int32)) hx hb dl_416 (by decide) ?_
  refine lv_iadd hx hb dl_417 ?_
  refine lz_ld (j := 1) (pc' := 419) S dl_418 (by decide) (by decide +kernel) rfl hI1 ?_
  refine lv_aload_n hx hb dl_419 rfl (lv_at hl 0 rfl) ?_
  refine lv_iload_n hx hb dl_420 rfl (lv_at hl 3 rfl) ?_
  refine lv_iconst (v := (2 : Int32)) hx hb dl_421 (by decide) ?_
  refine lv_iadd hx hb dl_422 ?_
  refine lz_ld (j := 2) (pc' := 424) S dl_423 (by decide) (by decide +kernel) rfl hI1 ?_
  refine lz_call (vs := [(xs (4 * q + 1)), (xs (4 * q + 2))]) (n := (50, 0)) (rest := [.int a]) C0 (lz_swap hI1) dl_424 cv_M_cancel (nt_5 _ (List.mem_of_getElem? (i := 126) rfl)) rfl rfl hRn rfl ⟨by decide, by decide⟩ (Nat.le_trans (Nat.add_le_add_left (by decide) _) hc1) (Nat.le_trans (Nat.add_le_add_left (by decide) _) hs1) (kc_M_cancel (50, 0) (xs (4 * q + 1)) (xs (4 * q + 2)) R _ h2) hl.1 (by simp [Value.category]) (Nat.le_of_ble_eq_true rfl) fun ad2 Hm2 hJ2 hE2 => ?_
  refine lv_icmp_eq (tgt := 925) hx hb dl_427 rfl (fun _ => ?_) (fun h => absurd rfl h)
  refine W.widen (k := cells + 20) (n := slots + 200) ?_ ?_ (kk ad1 ad2 Hm2 (lz_swap hJ2) (hE1 _ hCn).1 (hE2 _ hRn).1 (hE1 _ hCn).2 (hE2 _ hRn).2)
  · exact (Nat.add_le_add_left (by decide : mt_K_cancel.2.2.2.2.cells + mt_M_cancel.2.2.2.2.cells ≤ 20) cells)
  · exact (Nat.add_le_add_left (by decide : mt_K_cancel.2.2.2.2.slots + mt_M_cancel.2.2.2.2.slots ≤ 200) slots)
set_option maxRecDepth 100000 in
set_option maxHeartbeats 4000000 in
theorem lz_case_8 (S : lz_S p s m c b L q xs Hm cells slots lsA G adC adR C R) (h1 : fc_K_write (0, 0) (xs (4 * q + 1)) (xs (4 * q + 2)) C = some (a, C')) (h2 : fc_M_write (50, 0) (xs (4 * q + 1)) (xs (4 * q + 2)) R = some (a, R')) (kk : ∀ (adC' adR' : xo_N → Nat) (Hm1 : Heap), lz_I G s adC' C' adR' R' Hm1 → adC' (0, 0) = adC (0, 0) → adR' (50, 0) = adR (50, 0) → C'.2.2 (0, 0) = true → R'.2.2 (50, 0) = true → W p l e room_1 s m #[Value.ref b] below meth c Hm1 [] (cells + 20) (slots + 200) Q (F0 m 925 lsA [])) : W p l e room_1 s m #[Value.ref b] below meth c Hm [] cells slots Q (F0 m 432 lsA []) := by
  have S0 := S
  obtain ⟨C0, hI0, hCn, hRn, hX, hbl, hq, hL, hl, hc0, hs0⟩ := S0
  have hx := C0.1
  have hb := C0.2.1
  refine lv_aload_n hx hb dl_432 rfl (lv_at hl 1 rfl) ?_
  refine lv_aload_n hx hb dl_433 rfl (lv_at hl 0 rfl) ?_
  refine lv_iload_n hx hb dl_434 rfl (lv_at hl 3 rfl) ?_
  refine lv_iconst (v := (1 : Int32)) hx hb dl_435 (by decide) ?_
  refine lv_iadd hx hb dl_436 ?_
  refine lz_ld (j := 1) (pc' := 438) S dl_437 (by decide) (by decide +kernel) rfl hI0 ?_
  refine lv_aload_n hx hb dl_438 rfl (lv_at hl 0 rfl) ?_
  refine lv_iload_n hx hb dl_439 rfl (lv_at hl 3 rfl) ?_
  refine lv_iconst (v := (2 : Int32)) hx hb dl_440 (by decide) ?_
  refine lv_iadd hx hb dl_441 ?_
  refine lz_ld (j := 2) (pc' := 443) S dl_442 (by decide) (by decide +kernel) rfl hI0 ?_
  refine lz_call (vs := [(xs (4 * q + 1)), (xs (4 * q + 2))]) (n := (0, 0)) (rest := []) C0 hI0 dl_443 cv_K_write (nt_2 _ (List.mem_of_getElem? (i := 224) rfl)) rfl rfl hCn rfl ⟨by decide, by decide⟩ (Nat.le_trans (Nat.add_le_add_left (by decide) _) hc0) (Nat.le_trans (Nat.add_le_add_left (by decide) _) hs0) (kc_K_write (0, 0) (xs (4 * q + 1)) (xs (4 * q + 2)) C _ h1) hl.1 (by simp) (Nat.le_of_ble_eq_true rfl) fun ad1 Hm1 hJ1 hE1 => ?_
  have hI1 := hJ1
  have hc1 : cells + mt_K_write.2.2.2.2.cells + 0 ≤ 600000 := Nat.le_trans (Nat.add_le_add_left (by decide : mt_K_write.2.2.2.2.cells ≤ 20) cells) hc0
  have hs1 : slots + mt_K_write.2.2.2.2.slots + 0 ≤ 7302250 := Nat.le_trans (Nat.add_le_add_left (by decide : mt_K_write.2.2.2.2.slots ≤ 200) slots) hs0
  refine lv_aload_n hx hb dl_446 rfl (lv_at hl 2 rfl) ?_
  refine lv_aload_n hx hb dl_447 rfl (lv_at hl 0 rfl) ?_
  refine lv_iload_n hx hb dl_448 rfl (lv_at hl 3 rfl) ?_
  refine lv_iconst (v := (1 : Int32)) hx hb dl_449 (by decide) ?_
  refine lv_iadd hx hb dl_450 ?_
  refine lz_ld (j := 1) (pc' := 452) S dl_451 (by decide) (by decide +kernel) rfl hI1 ?_
  refine lv_aload_n hx hb dl_452 rfl (lv_at hl 0 rfl) ?_
  refine lv_iload_n hx hb dl_453 rfl (lv_at hl 3 rfl) ?_
  refine lv_iconst (v := (2 : Int32)) hx hb dl_454 (by decide) ?_
  refine lv_iadd hx hb dl_455 ?_
  refine lz_ld (j := 2) (pc' := 457) S dl_456 (by decide) (by decide +kernel) rfl hI1 ?_
  refine lz_call (vs := [(xs (4 * q + 1)), (xs (4 * q + 2))]) (n := (50, 0)) (rest := [.int a]) C0 (lz_swap hI1) dl_457 cv_M_write (nt_5 _ (List.mem_of_getElem? (i := 130) rfl)) rfl rfl hRn rfl ⟨by decide, by decide⟩ (Nat.le_trans (Nat.add_le_add_left (by decide) _) hc1) (Nat.le_trans (Nat.add_le_add_left (by decide) _) hs1) (kc_M_write (50, 0) (xs (4 * q + 1)) (xs (4 * q + 2)) R _ h2) hl.1 (by simp [Value.category]) (Nat.le_of_ble_eq_true rfl) fun ad2 Hm2 hJ2 hE2 => ?_
  refine lv_icmp_eq (tgt := 925) hx hb dl_460 rfl (fun _ => ?_) (fun h => absurd rfl h)
  refine W.widen (k := cells + 20) (n := slots + 200) ?_ ?_ (kk ad1 ad2 Hm2 (lz_swap hJ2) (hE1 _ hCn).1 (hE2 _ hRn).1 (hE1 _ hCn).2 (hE2 _ hRn).2)
  · exact (Nat.add_le_add_left (by decide : mt_K_write.2.2.2.2.cells + mt_M_write.2.2.2.2.cells ≤ 20) cells)
  · exact (Nat.add_le_add_left (by decide : mt_K_write.2.2.2.2.slots + mt_M_write.2.2.2.2.slots ≤ 200) slots)
set_option maxRecDepth 100000 in
set_option maxHeartbeats 4000000 in
theorem lz_case_9 (S : lz_S p s m c b L q xs Hm cells slots lsA G adC adR C R) (h1 : fc_K_shut (0, 0) (xs (4 * q + 1)) C = some (a, C')) (h2 : fc_M_shut (50, 0) (xs (4 * q + 1)) R = some (a, R')) (kk : ∀ (adC' adR' : xo_N → Nat) (Hm1 : Heap), lz_I G s adC' C' adR' R' Hm1 → adC' (0, 0) = adC (0, 0) → adR' (50, 0) = adR (50, 0) → C'.2.2 (0, 0) = true → R'.2.2 (50, 0) = true → W p l e room_1 s m #[Value.ref b] below meth c Hm1 [] (cells + 20) (slots + 200) Q (F0 m 925 lsA [])) : W p l e room_1 s m #[Value.ref b] below meth c Hm [] cells slots Q (F0 m 465 lsA []) := by
  have S0 := S
  obtain ⟨C0, hI0, hCn, hRn, hX, hbl, hq, hL, hl, hc0, hs0⟩ := S0
  have hx := C0.1
  have hb := C0.2.1
  refine lv_aload_n hx hb dl_465 rfl (lv_at hl 1 rfl) ?_
  refine lv_aload_n hx hb dl_466 rfl (lv_at hl 0 rfl) ?_
  refine lv_iload_n hx hb dl_467 rfl (lv_at hl 3 rfl) ?_
  refine lv_iconst (v := (1 : Int32)) hx hb dl_468 (by decide) ?_
  refine lv_iadd hx hb dl_469 ?_
  refine lz_ld (j := 1) (pc' := 471) S dl_470 (by decide) (by decide +kernel) rfl hI0 ?_
  refine lz_call (vs := [(xs (4 * q + 1))]) (n := (0, 0)) (rest := []) C0 hI0 dl_471 cv_K_shut (nt_2 _ (List.mem_of_getElem? (i := 232) rfl)) rfl rfl hCn rfl ⟨by decide, by decide⟩ (Nat.le_trans (Nat.add_le_add_left (by decide) _) hc0) (Nat.le_trans (Nat.add_le_add_left (by decide) _) hs0) (kc_K_shut (0, 0) (xs (4 * q + 1)) C _ h1) hl.1 (by simp) (Nat.le_of_ble_eq_true rfl) fun ad1 Hm1 hJ1 hE1 => ?_
  have hI1 := hJ1
  have hc1 : cells + mt_K_shut.2.2.2.2.cells + 0 ≤ 600000 := Nat.le_trans (Nat.add_le_add_left (by decide : mt_K_shut.2.2.2.2.cells ≤ 20) cells) hc0
  have hs1 : slots + mt_K_shut.2.2.2.2.slots + 0 ≤ 7302250 := Nat.le_trans (Nat.add_le_add_left (by decide : mt_K_shut.2.2.2.2.slots ≤ 200) slots) hs0
  refine lv_aload_n hx hb dl_474 rfl (lv_at hl 2 rfl) ?_
  refine lv_aload_n hx hb dl_475 rfl (lv_at hl 0 rfl) ?_
  refine lv_iload_n hx hb dl_476 rfl (lv_at hl 3 rfl) ?_
  refine lv_iconst (v := (1 : Int32)) hx hb dl_477 (by decide) ?_
  refine lv_iadd hx hb dl_478 ?_
  refine lz_ld (j := 1) (pc' := 480) S dl_479 (by decide) (by decide +kernel) rfl hI1 ?_
  refine lz_call (vs := [(xs (4 * q + 1))]) (n := (50, 0)) (rest := [.int a]) C0 (lz_swap hI1) dl_480 cv_M_shut (nt_5 _ (List.mem_of_getElem? (i := 138) rfl)) rfl rfl hRn rfl ⟨by decide, by decide⟩ (Nat.le_trans (Nat.add_le_add_left (by decide) _) hc1) (Nat.le_trans (Nat.add_le_add_left (by decide) _) hs1) (kc_M_shut (50, 0) (xs (4 * q + 1)) R _ h2) hl.1 (by simp [Value.category]) (Nat.le_of_ble_eq_true rfl) fun ad2 Hm2 hJ2 hE2 => ?_
  refine lv_icmp_eq (tgt := 925) hx hb dl_483 rfl (fun _ => ?_) (fun h => absurd rfl h)
  refine W.widen (k := cells + 20) (n := slots + 200) ?_ ?_ (kk ad1 ad2 Hm2 (lz_swap hJ2) (hE1 _ hCn).1 (hE2 _ hRn).1 (hE1 _ hCn).2 (hE2 _ hRn).2)
  · exact (Nat.add_le_add_left (by decide : mt_K_shut.2.2.2.2.cells + mt_M_shut.2.2.2.2.cells ≤ 20) cells)
  · exact (Nat.add_le_add_left (by decide : mt_K_shut.2.2.2.2.slots + mt_M_shut.2.2.2.2.slots ≤ 200) slots)
set_option maxRecDepth 100000 in
set_option maxHeartbeats 4000000 in
theorem lz_case_10 (S : lz_S p s m c b L q xs Hm cells slots lsA G adC adR C R) (h1 : fc_K_abort (0, 0) (xs (4 * q + 1)) (xs (4 * q + 2)) C = some (a, C')) (h2 : fc_M_abort (50, 0) (xs (4 * q + 1)) (xs (4 * q + 2)) R = some (a, R')) (kk : ∀ (adC' adR' : xo_N → Nat) (Hm1 : Heap), lz_I G s adC' C' adR' R' Hm1 → adC' (0, 0) = adC (0, 0) → adR' (50, 0) = adR (50, 0) → C'.2.2 (0, 0) = true → R'.2.2 (50, 0) = true → W p l e room_1 s m #[Value.ref b] below meth c Hm1 [] (cells + 20) (slots + 200) Q (F0 m 925 lsA [])) : W p l e room_1 s m #[Value.ref b] below meth c Hm [] cells slots Q (F0 m 488 lsA []) := by
  have S0 := S
  obtain ⟨C0, hI0, hCn, hRn, hX, hbl, hq, hL, hl, hc0, hs0⟩ := S0
  have hx := C0.1
  have hb := C0.2.1
  refine lv_aload_n hx hb dl_488 rfl (lv_at hl 1 rfl) ?_
  refine lv_aload_n hx hb dl_489 rfl (lv_at hl 0 rfl) ?_
  refine lv_iload_n hx hb dl_490 rfl (lv_at hl 3 rfl) ?_
  refine lv_iconst (v := (1 : Int32)) hx hb dl_491 (by decide) ?_
  refine lv_iadd hx hb dl_492 ?_
  refine lz_ld (j := 1) (pc' := 494) S dl_493 (by decide) (by decide +kernel) rfl hI0 ?_
  refine lv_aload_n hx hb dl_494 rfl (lv_at hl 0 rfl) ?_
  refine lv_iload_n hx hb dl_495 rfl (lv_at hl 3 rfl) ?_
  refine lv_iconst (v := (2 : Int32)) hx hb dl_496 (by decide) ?_
  refine lv_iadd hx hb dl_497 ?_
  refine lz_ld (j := 2) (pc' := 499) S dl_498 (by decide) (by decide +kernel) rfl hI0 ?_
  refine lz_call (vs := [(xs (4 * q + 1)), (xs (4 * q + 2))]) (n := (0, 0)) (rest := []) C0 hI0 dl_499 cv_K_abort (nt_3 _ (List.mem_of_getElem? (i := 23) rfl)) rfl rfl hCn rfl ⟨by decide, by decide⟩ (Nat.le_trans (Nat.add_le_add_left (by decide) _) hc0) (Nat.le_trans (Nat.add_le_add_left (by decide) _) hs0) (kc_K_abort (0, 0) (xs (4 * q + 1)) (xs (4 * q + 2)) C _ h1) hl.1 (by simp) (Nat.le_of_ble_eq_true rfl) fun ad1 Hm1 hJ1 hE1 => ?_
  have hI1 := hJ1
  have hc1 : cells + mt_K_abort.2.2.2.2.cells + 0 ≤ 600000 := Nat.le_trans (Nat.add_le_add_left (by decide : mt_K_abort.2.2.2.2.cells ≤ 20) cells) hc0
  have hs1 : slots + mt_K_abort.2.2.2.2.slots + 0 ≤ 7302250 := Nat.le_trans (Nat.add_le_add_left (by decide : mt_K_abort.2.2.2.2.slots ≤ 200) slots) hs0
  refine lv_aload_n hx hb dl_502 rfl (lv_at hl 2 rfl) ?_
  refine lv_aload_n hx hb dl_503 rfl (lv_at hl 0 rfl) ?_
  refine lv_iload_n hx hb dl_504 rfl (lv_at hl 3 rfl) ?_
  refine lv_iconst (v := (1 : Int32)) hx hb dl_505 (by decide) ?_
  refine lv_iadd hx hb dl_506 ?_
  refine lz_ld (j := 1) (pc' := 508) S dl_507 (by decide) (by decide +kernel) rfl hI1 ?_
  refine lv_aload_n hx hb dl_508 rfl (lv_at hl 0 rfl) ?_
  refine lv_iload_n hx hb dl_509 rfl (lv_at hl 3 rfl) ?_
  refine lv_iconst (v := (2 : Int32)) hx hb dl_510 (by decide) ?_
  refine lv_iadd hx hb dl_511 ?_
  refine lz_ld (j := 2) (pc' := 513) S dl_512 (by decide) (by decide +kernel) rfl hI1 ?_
  refine lz_call (vs := [(xs (4 * q + 1)), (xs (4 * q + 2))]) (n := (50, 0)) (rest := [.int a]) C0 (lz_swap hI1) dl_513 cv_M_abort (nt_5 _ (List.mem_of_getElem? (i := 142) rfl)) rfl rfl hRn rfl ⟨by decide, by decide⟩ (Nat.le_trans (Nat.add_le_add_left (by decide) _) hc1) (Nat.le_trans (Nat.add_le_add_left (by decide) _) hs1) (kc_M_abort (50, 0) (xs (4 * q + 1)) (xs (4 * q + 2)) R _ h2) hl.1 (by simp [Value.category]) (Nat.le_of_ble_eq_true rfl) fun ad2 Hm2 hJ2 hE2 => ?_
  refine lv_icmp_eq (tgt := 925) hx hb dl_516 rfl (fun _ => ?_) (fun h => absurd rfl h)
  refine W.widen (k := cells + 20) (n := slots + 200) ?_ ?_ (kk ad1 ad2 Hm2 (lz_swap hJ2) (hE1 _ hCn).1 (hE2 _ hRn).1 (hE1 _ hCn).2 (hE2 _ hRn).2)
  · exact (Nat.add_le_add_left (by decide : mt_K_abort.2.2.2.2.cells + mt_M_abort.2.2.2.2.cells ≤ 20) cells)
  · exact (Nat.add_le_add_left (by decide : mt_K_abort.2.2.2.2.slots + mt_M_abort.2.2.2.2.slots ≤ 200) slots)
set_option maxRecDepth 100000 in
set_option maxHeartbeats 4000000 in
theorem lz_case_11 (S : lz_S p s m c b L q xs Hm cells slots lsA G adC adR C R) (h1 : fc_K_spoil (0, 0) (xs (4 * q + 1)) (xs (4 * q + 2)) C = some (a, C')) (h2 : fc_M_spoil (50, 0) (xs (4 * q + 1)) (xs (4 * q + 2)) R = some (a, R')) (kk : ∀ (adC' adR' : xo_N → Nat) (Hm1 : Heap), lz_I G s adC' C' adR' R' Hm1 → adC' (0, 0) = adC (0, 0) → adR' (50, 0) = adR (50, 0) → C'.2.2 (0, 0) = true → R'.2.2 (50, 0) = true → W p l e room_1 s m #[Value.ref b] below meth c Hm1 [] (cells + 20) (slots + 200) Q (F0 m 925 lsA [])) : W p l e room_1 s m #[Value.ref b] below meth c Hm [] cells slots Q (F0 m 521 lsA []) := by
  have S0 := S
  obtain ⟨C0, hI0, hCn, hRn, hX, hbl, hq, hL, hl, hc0, hs0⟩ := S0
  have hx := C0.1
  have hb := C0.2.1
  refine lv_aload_n hx hb dl_521 rfl (lv_at hl 1 rfl) ?_
  refine lv_aload_n hx hb dl_522 rfl (lv_at hl 0 rfl) ?_
  refine lv_iload_n hx hb dl_523 rfl (lv_at hl 3 rfl) ?_
  refine lv_iconst (v := (1 : Int32)) hx hb dl_524 (by decide) ?_
  refine lv_iadd hx hb dl_525 ?_
  refine lz_ld (j := 1) (pc' := 527) S dl_526 (by decide) (by decide +kernel) rfl hI0 ?_
  refine lv_aload_n hx hb dl_527 rfl (lv_at hl 0 rfl) ?_
  refine lv_iload_n hx hb dl_528 rfl (lv_at hl 3 rfl) ?_
  refine lv_iconst (v := (2 : Int32)) hx hb dl_529 (by decide) ?_
  refine lv_iadd hx hb dl_530 ?_
  refine lz_ld (j := 2) (pc' := 532) S dl_531 (by decide) (by decide +kernel) rfl hI0 ?_
  refine lz_call (vs := [(xs (4 * q + 1)), (xs (4 * q + 2))]) (n := (0, 0)) (rest := []) C0 hI0 dl_532 cv_K_spoil (nt_3 _ (List.mem_of_getElem? (i := 35) rfl)) rfl rfl hCn rfl ⟨by decide, by decide⟩ (Nat.le_trans (Nat.add_le_add_left (by decide) _) hc0) (Nat.le_trans (Nat.add_le_add_left (by decide) _) hs0) (kc_K_spoil (0, 0) (xs (4 * q + 1)) (xs (4 * q + 2)) C _ h1) hl.1 (by simp) (Nat.le_of_ble_eq_true rfl) fun ad1 Hm1 hJ1 hE1 => ?_
  have hI1 := hJ1
  have hc1 : cells + mt_K_spoil.2.2.2.2.cells + 0 ≤ 600000 := Nat.le_trans (Nat.add_le_add_left (by decide : mt_K_spoil.2.2.2.2.cells ≤ 20) cells) hc0
  have hs1 : slots + mt_K_spoil.2.2.2.2.slots + 0 ≤ 7302250 := Nat.le_trans (Nat.add_le_add_left (by decide : mt_K_spoil.2.2.2.2.slots ≤ 200) slots) hs0
  refine lv_aload_n hx hb dl_535 rfl (lv_at hl 2 rfl) ?_
  refine lv_aload_n hx hb dl_536 rfl (lv_at hl 0 rfl) ?_
  refine lv_iload_n hx hb dl_537 rfl (lv_at hl 3 rfl) ?_
  refine lv_iconst (v := (1 : Int32)) hx hb dl_538 (by decide) ?_
  refine lv_iadd hx hb dl_539 ?_
  refine lz_ld (j := 1) (pc' := 541) S dl_540 (by decide) (by decide +kernel) rfl hI1 ?_
  refine lv_aload_n hx hb dl_541 rfl (lv_at hl 0 rfl) ?_
  refine lv_iload_n hx hb dl_542 rfl (lv_at hl 3 rfl) ?_
  refine lv_iconst (v := (2 : Int32)) hx hb dl_543 (by decide) ?_
  refine lv_iadd hx hb dl_544 ?_
  refine lz_ld (j := 2) (pc' := 546) S dl_545 (by decide) (by decide +kernel) rfl hI1 ?_
  refine lz_call (vs := [(xs (4 * q + 1)), (xs (4 * q + 2))]) (n := (50, 0)) (rest := [.int a]) C0 (lz_swap hI1) dl_546 cv_M_spoil (nt_5 _ (List.mem_of_getElem? (i := 146) rfl)) rfl rfl hRn rfl ⟨by decide, by decide⟩ (Nat.le_trans (Nat.add_le_add_left (by decide) _) hc1) (Nat.le_trans (Nat.add_le_add_left (by decide) _) hs1) (kc_M_spoil (50, 0) (xs (4 * q + 1)) (xs (4 * q + 2)) R _ h2) hl.1 (by simp [Value.category]) (Nat.le_of_ble_eq_true rfl) fun ad2 Hm2 hJ2 hE2 => ?_
  refine lv_icmp_eq (tgt := 925) hx hb dl_549 rfl (fun _ => ?_) (fun h => absurd rfl h)
  refine W.widen (k := cells + 20) (n := slots + 200) ?_ ?_ (kk ad1 ad2 Hm2 (lz_swap hJ2) (hE1 _ hCn).1 (hE2 _ hRn).1 (hE1 _ hCn).2 (hE2 _ hRn).2)
  · exact (Nat.add_le_add_left (by decide : mt_K_spoil.2.2.2.2.cells + mt_M_spoil.2.2.2.2.cells ≤ 20) cells)
  · exact (Nat.add_le_add_left (by decide : mt_K_spoil.2.2.2.2.slots + mt_M_spoil.2.2.2.2.slots ≤ 200) slots)
set_option maxRecDepth 100000 in
set_option maxHeartbeats 4000000 in
theorem lz_case_12 (S : lz_S p s m c b L q xs Hm cells slots lsA G adC adR C R) (h1 : fc_K_settle (0, 0) (xs (4 * q + 1)) (xs (4 * q + 2)) C = some (a, C')) (h2 : fc_M_settle (50, 0) (xs (4 * q + 1)) (xs (4 * q + 2)) R = some (a, R')) (kk : ∀ (adC' adR' : xo_N → Nat) (Hm1 : Heap), lz_I G s adC' C' adR' R' Hm1 → adC' (0, 0) = adC (0, 0) → adR' (50, 0) = adR (50, 0) → C'.2.2 (0, 0) = true → R'.2.2 (50, 0) = true → W p l e room_1 s m #[Value.ref b] below meth c Hm1 [] (cells + 20) (slots + 200) Q (F0 m 925 lsA [])) : W p l e room_1 s m #[Value.ref b] below meth c Hm [] cells slots Q (F0 m 554 lsA []) := by
  have S0 := S
  obtain ⟨C0, hI0, hCn, hRn, hX, hbl, hq, hL, hl, hc0, hs0⟩ := S0
  have hx := C0.1
  have hb := C0.2.1
  refine lv_aload_n hx hb dl_554 rfl (lv_at hl 1 rfl) ?_
  refine lv_aload_n hx hb dl_555 rfl (lv_at hl 0 rfl) ?_
  refine lv_iload_n hx hb dl_556 rfl (lv_at hl 3 rfl) ?_
  refine lv_iconst (v := (1 : Int32)) hx hb dl_557 (by decide) ?_
  refine lv_iadd hx hb dl_558 ?_
  refine lz_ld (j := 1) (pc' := 560) S dl_559 (by decide) (by decide +kernel) rfl hI0 ?_
  refine lv_aload_n hx hb dl_560 rfl (lv_at hl 0 rfl) ?_
  refine lv_iload_n hx hb dl_561 rfl (lv_at hl 3 rfl) ?_
  refine lv_iconst (v := (2 : Int32)) hx hb dl_562 (by decide) ?_
  refine lv_iadd hx hb dl_563 ?_
  refine lz_ld (j := 2) (pc' := 565) S dl_564 (by decide) (by decide +kernel) rfl hI0 ?_
  refine lz_call (vs := [(xs (4 * q + 1)), (xs (4 * q + 2))]) (n := (0, 0)) (rest := []) C0 hI0 dl_565 cv_K_settle (nt_3 _ (List.mem_of_getElem? (i := 40) rfl)) rfl rfl hCn rfl ⟨by decide, by decide⟩ (Nat.le_trans (Nat.add_le_add_left (by decide) _) hc0) (Nat.le_trans (Nat.add_le_add_left (by decide) _) hs0) (kc_K_settle (0, 0) (xs (4 * q + 1)) (xs (4 * q + 2)) C _ h1) hl.1 (by simp) (Nat.le_of_ble_eq_true rfl) fun ad1 Hm1 hJ1 hE1 => ?_
  have hI1 := hJ1
  have hc1 : cells + mt_K_settle.2.2.2.2.cells + 0 ≤ 600000 := Nat.le_trans (Nat.add_le_add_left (by decide : mt_K_settle.2.2.2.2.cells ≤ 20) cells) hc0
  have hs1 : slots + mt_K_settle.2.2.2.2.slots + 0 ≤ 7302250 := Nat.le_trans (Nat.add_le_add_left (by decide : mt_K_settle.2.2.2.2.slots ≤ 200) slots) hs0
  refine lv_aload_n hx hb dl_568 rfl (lv_at hl 2 rfl) ?_
  refine lv_aload_n hx hb dl_569 rfl (lv_at hl 0 rfl) ?_
  refine lv_iload_n hx hb dl_570 rfl (lv_at hl 3 rfl) ?_
  refine lv_iconst (v := (1 : Int32)) hx hb dl_571 (by decide) ?_
  refine lv_iadd hx hb dl_572 ?_
  refine lz_ld (j := 1) (pc' := 574) S dl_573 (by decide) (by decide +kernel) rfl hI1 ?_
  refine lv_aload_n hx hb dl_574 rfl (lv_at hl 0 rfl) ?_
  refine lv_iload_n hx hb dl_575 rfl (lv_at hl 3 rfl) ?_
  refine lv_iconst (v := (2 : Int32)) hx hb dl_576 (by decide) ?_
  refine lv_iadd hx hb dl_577 ?_
  refine lz_ld (j := 2) (pc' := 579) S dl_578 (by decide) (by decide +kernel) rfl hI1 ?_
  refine lz_call (vs := [(xs (4 * q + 1)), (xs (4 * q + 2))]) (n := (50, 0)) (rest := [.int a]) C0 (lz_swap hI1) dl_579 cv_M_settle (nt_5 _ (List.mem_of_getElem? (i := 150) rfl)) rfl rfl hRn rfl ⟨by decide, by decide⟩ (Nat.le_trans (Nat.add_le_add_left (by decide) _) hc1) (Nat.le_trans (Nat.add_le_add_left (by decide) _) hs1) (kc_M_settle (50, 0) (xs (4 * q + 1)) (xs (4 * q + 2)) R _ h2) hl.1 (by simp [Value.category]) (Nat.le_of_ble_eq_true rfl) fun ad2 Hm2 hJ2 hE2 => ?_
  refine lv_icmp_eq (tgt := 925) hx hb dl_582 rfl (fun _ => ?_) (fun h => absurd rfl h)
  refine W.widen (k := cells + 20) (n := slots + 200) ?_ ?_ (kk ad1 ad2 Hm2 (lz_swap hJ2) (hE1 _ hCn).1 (hE2 _ hRn).1 (hE1 _ hCn).2 (hE2 _ hRn).2)
  · exact (Nat.add_le_add_left (by decide : mt_K_settle.2.2.2.2.cells + mt_M_settle.2.2.2.2.cells ≤ 20) cells)
  · exact (Nat.add_le_add_left (by decide : mt_K_settle.2.2.2.2.slots + mt_M_settle.2.2.2.2.slots ≤ 200) slots)
set_option maxRecDepth 100000 in
set_option maxHeartbeats 4000000 in
theorem lz_case_13 (S : lz_S p s m c b L q xs Hm cells slots lsA G adC adR C R) (h1 : fc_K_pipe (0, 0) (xs (4 * q + 1)) (xs (4 * q + 2)) (xs (4 * q + 3)) C = some (a, C')) (h2 : fc_M_pipe (50, 0) (xs (4 * q + 1)) (xs (4 * q + 2)) (xs (4 * q + 3)) R = some (a, R')) (kk : ∀ (adC' adR' : xo_N → Nat) (Hm1 : Heap), lz_I G s adC' C' adR' R' Hm1 → adC' (0, 0) = adC (0, 0) → adR' (50, 0) = adR (50, 0) → C'.2.2 (0, 0) = true → R'.2.2 (50, 0) = true → W p l e room_1 s m #[Value.ref b] below meth c Hm1 [] (cells + 20) (slots + 200) Q (F0 m 925 lsA [])) : W p l e room_1 s m #[Value.ref b] below meth c Hm [] cells slots Q (F0 m 587 lsA []) := by
  have S0 := S
  obtain ⟨C0, hI0, hCn, hRn, hX, hbl, hq, hL, hl, hc0, hs0⟩ := S0
  have hx := C0.1
  have hb := C0.2.1
  refine lv_aload_n hx hb dl_587 rfl (lv_at hl 1 rfl) ?_
  refine lv_aload_n hx hb dl_588 rfl (lv_at hl 0 rfl) ?_
  refine lv_iload_n hx hb dl_589 rfl (lv_at hl 3 rfl) ?_
  refine lv_iconst (v := (1 : Int32)) hx hb dl_590 (by decide) ?_
  refine lv_iadd hx hb dl_591 ?_
  refine lz_ld (j := 1) (pc' := 593) S dl_592 (by decide) (by decide +kernel) rfl hI0 ?_
  refine lv_aload_n hx hb dl_593 rfl (lv_at hl 0 rfl) ?_
  refine lv_iload_n hx hb dl_594 rfl (lv_at hl 3 rfl) ?_
  refine lv_iconst (v := (2 : Int32)) hx hb dl_595 (by decide) ?_
  refine lv_iadd hx hb dl_596 ?_
  refine lz_ld (j := 2) (pc' := 598) S dl_597 (by decide) (by decide +kernel) rfl hI0 ?_
  refine lv_aload_n hx hb dl_598 rfl (lv_at hl 0 rfl) ?_
  refine lv_iload_n hx hb dl_599 rfl (lv_at hl 3 rfl) ?_
  refine lv_iconst (v := (3 : Int32)) hx hb dl_600 (by decide) ?_
  refine lv_iadd hx hb dl_601 ?_
  refine lz_ld (j := 3) (pc' := 603) S dl_602 (by decide) (by decide +kernel) rfl hI0 ?_
  refine lz_call (vs := [(xs (4 * q + 1)), (xs (4 * q + 2)), (xs (4 * q + 3))]) (n := (0, 0)) (rest := []) C0 hI0 dl_603 cv_K_pipe (nt_3 _ (List.mem_of_getElem? (i := 44) rfl)) rfl rfl hCn rfl ⟨by decide, by decide⟩ (Nat.le_trans (Nat.add_le_add_left (by decide) _) hc0) (Nat.le_trans (Nat.add_le_add_left (by decide) _) hs0) (kc_K_pipe (0, 0) (xs (4 * q + 1)) (xs (4 * q + 2)) (xs (4 * q + 3)) C _ h1) hl.1 (by simp) (Nat.le_of_ble_eq_true rfl) fun ad1 Hm1 hJ1 hE1 => ?_
  have hI1 := hJ1
  have hc1 : cells + mt_K_pipe.2.2.2.2.cells + 0 ≤ 600000 := Nat.le_trans (Nat.add_le_add_left (by decide : mt_K_pipe.2.2.2.2.cells ≤ 20) cells) hc0
  have hs1 : slots + mt_K_pipe.2.2.2.2.slots + 0 ≤ 7302250 := Nat.le_trans (Nat.add_le_add_left (by decide : mt_K_pipe.2.2.2.2.slots ≤ 200) slots) hs0
  refine lv_aload_n hx hb dl_606 rfl (lv_at hl 2 rfl) ?_
  refine lv_aload_n hx hb dl_607 rfl (lv_at hl 0 rfl) ?_
  refine lv_iload_n hx hb dl_608 rfl (lv_at hl 3 rfl) ?_
  refine lv_iconst (v := (1 : Int32)) hx hb dl_609 (by decide) ?_
  refine lv_iadd hx hb dl_610 ?_
  refine lz_ld (j := 1) (pc' := 612) S dl_611 (by decide) (by decide +kernel) rfl hI1 ?_
  refine lv_aload_n hx hb dl_612 rfl (lv_at hl 0 rfl) ?_
  refine lv_iload_n hx hb dl_613 rfl (lv_at hl 3 rfl) ?_
  refine lv_iconst (v := (2 : Int32)) hx hb dl_614 (by decide) ?_
  refine lv_iadd hx hb dl_615 ?_
  refine lz_ld (j := 2) (pc' := 617) S dl_616 (by decide) (by decide +kernel) rfl hI1 ?_
  refine lv_aload_n hx hb dl_617 rfl (lv_at hl 0 rfl) ?_
  refine lv_iload_n hx hb dl_618 rfl (lv_at hl 3 rfl) ?_
  refine lv_iconst (v := (3 : Int32)) hx hb dl_619 (by decide) ?_
  refine lv_iadd hx hb dl_620 ?_
  refine lz_ld (j := 3) (pc' := 622) S dl_621 (by decide) (by decide +kernel) rfl hI1 ?_
  refine lz_call (vs := [(xs (4 * q + 1)), (xs (4 * q + 2)), (xs (4 * q + 3))]) (n := (50, 0)) (rest := [.int a]) C0 (lz_swap hI1) dl_622 cv_M_pipe (nt_5 _ (List.mem_of_getElem? (i := 154) rfl)) rfl rfl hRn rfl ⟨by decide, by decide⟩ (Nat.le_trans (Nat.add_le_add_left (by decide) _) hc1) (Nat.le_trans (Nat.add_le_add_left (by decide) _) hs1) (kc_M_pipe (50, 0) (xs (4 * q + 1)) (xs (4 * q + 2)) (xs (4 * q + 3)) R _ h2) hl.1 (by simp [Value.category]) (Nat.le_of_ble_eq_true rfl) fun ad2 Hm2 hJ2 hE2 => ?_
  refine lv_icmp_eq (tgt := 925) hx hb dl_625 rfl (fun _ => ?_) (fun h => absurd rfl h)
  refine W.widen (k := cells + 20) (n := slots + 200) ?_ ?_ (kk ad1 ad2 Hm2 (lz_swap hJ2) (hE1 _ hCn).1 (hE2 _ hRn).1 (hE1 _ hCn).2 (hE2 _ hRn).2)
  · exact (Nat.add_le_add_left (by decide : mt_K_pipe.2.2.2.2.cells + mt_M_pipe.2.2.2.2.cells ≤ 20) cells)
  · exact (Nat.add_le_add_left (by decide : mt_K_pipe.2.2.2.2.slots + mt_M_pipe.2.2.2.2.slots ≤ 200) slots)
set_option maxRecDepth 100000 in
set_option maxHeartbeats 4000000 in
theorem lz_case_14 (S : lz_S p s m c b L q xs Hm cells slots lsA G adC adR C R) (h1 : fc_K_part (0, 0) (xs (4 * q + 1)) C = some (a, C')) (h2 : fc_M_part (50, 0) (xs (4 * q + 1)) R = some (a, R')) (kk : ∀ (adC' adR' : xo_N → Nat) (Hm1 : Heap), lz_I G s adC' C' adR' R' Hm1 → adC' (0, 0) = adC (0, 0) → adR' (50, 0) = adR (50, 0) → C'.2.2 (0, 0) = true → R'.2.2 (50, 0) = true → W p l e room_1 s m #[Value.ref b] below meth c Hm1 [] (cells + 20) (slots + 200) Q (F0 m 925 lsA [])) : W p l e room_1 s m #[Value.ref b] below meth c Hm [] cells slots Q (F0 m 630 lsA []) := by
  have S0 := S
  obtain ⟨C0, hI0, hCn, hRn, hX, hbl, hq, hL, hl, hc0, hs0⟩ := S0
  have hx := C0.1
  have hb := C0.2.1
  refine lv_aload_n hx hb dl_630 rfl (lv_at hl 1 rfl) ?_
  refine lv_aload_n hx hb dl_631 rfl (lv_at hl 0 rfl) ?_
  refine lv_iload_n hx hb dl_632 rfl (lv_at hl 3 rfl) ?_
  refine lv_iconst (v := (1 : Int32)) hx hb dl_633 (by decide) ?_
  refine lv_iadd hx hb dl_634 ?_
  refine lz_ld (j := 1) (pc' := 636) S dl_635 (by decide) (by decide +kernel) rfl hI0 ?_
  refine lz_call (vs := [(xs (4 * q + 1))]) (n := (0, 0)) (rest := []) C0 hI0 dl_636 cv_K_part (nt_3 _ (List.mem_of_getElem? (i := 82) rfl)) rfl rfl hCn rfl ⟨by decide, by decide⟩ (Nat.le_trans (Nat.add_le_add_left (by decide) _) hc0) (Nat.le_trans (Nat.add_le_add_left (by decide) _) hs0) (kc_K_part (0, 0) (xs (4 * q + 1)) C _ h1) hl.1 (by simp) (Nat.le_of_ble_eq_true rfl) fun ad1 Hm1 hJ1 hE1 => ?_
  have hI1 := hJ1
  have hc1 : cells + mt_K_part.2.2.2.2.cells + 0 ≤ 600000 := Nat.le_trans (Nat.add_le_add_left (by decide : mt_K_part.2.2.2.2.cells ≤ 20) cells) hc0
  have hs1 : slots + mt_K_part.2.2.2.2.slots + 0 ≤ 7302250 := Nat.le_trans (Nat.add_le_add_left (by decide : mt_K_part.2.2.2.2.slots ≤ 200) slots) hs0
  refine lv_aload_n hx hb dl_639 rfl (lv_at hl 2 rfl) ?_
  refine lv_aload_n hx hb dl_640 rfl (lv_at hl 0 rfl) ?_
  refine lv_iload_n hx hb dl_641 rfl (lv_at hl 3 rfl) ?_
  refine lv_iconst (v := (1 : Int32)) hx hb dl_642 (by decide) ?_
  refine lv_iadd hx hb dl_643 ?_
  refine lz_ld (j := 1) (pc' := 645) S dl_644 (by decide) (by decide +kernel) rfl hI1 ?_
  refine lz_call (vs := [(xs (4 * q + 1))]) (n := (50, 0)) (rest := [.int a]) C0 (lz_swap hI1) dl_645 cv_M_part (nt_5 _ (List.mem_of_getElem? (i := 158) rfl)) rfl rfl hRn rfl ⟨by decide, by decide⟩ (Nat.le_trans (Nat.add_le_add_left (by decide) _) hc1) (Nat.le_trans (Nat.add_le_add_left (by decide) _) hs1) (kc_M_part (50, 0) (xs (4 * q + 1)) R _ h2) hl.1 (by simp [Value.category]) (Nat.le_of_ble_eq_true rfl) fun ad2 Hm2 hJ2 hE2 => ?_
  refine lv_icmp_eq (tgt := 925) hx hb dl_648 rfl (fun _ => ?_) (fun h => absurd rfl h)
  refine W.widen (k := cells + 20) (n := slots + 200) ?_ ?_ (kk ad1 ad2 Hm2 (lz_swap hJ2) (hE1 _ hCn).1 (hE2 _ hRn).1 (hE1 _ hCn).2 (hE2 _ hRn).2)
  · exact (Nat.add_le_add_left (by decide : mt_K_part.2.2.2.2.cells + mt_M_part.2.2.2.2.cells ≤ 20) cells)
  · exact (Nat.add_le_add_left (by decide : mt_K_part.2.2.2.2.slots + mt_M_part.2.2.2.2.slots ≤ 200) slots)
set_option maxRecDepth 100000 in
set_option maxHeartbeats 4000000 in
theorem lz_case_15 (S : lz_S p s m c b L q xs Hm cells slots lsA G adC adR C R) (h1 : fc_K_step (0, 0) C = some (a, C')) (h2 : fc_M_step (50, 0) R = some (a, R')) (kk : ∀ (adC' adR' : xo_N → Nat) (Hm1 : Heap), lz_I G s adC' C' adR' R' Hm1 → adC' (0, 0) = adC (0, 0) → adR' (50, 0) = adR (50, 0) → C'.2.2 (0, 0) = true → R'.2.2 (50, 0) = true → W p l e room_1 s m #[Value.ref b] below meth c Hm1 [] (cells + 20) (slots + 200) Q (F0 m 925 lsA [])) : W p l e room_1 s m #[Value.ref b] below meth c Hm [] cells slots Q (F0 m 653 lsA []) := by
  have S0 := S
  obtain ⟨C0, hI0, hCn, hRn, hX, hbl, hq, hL, hl, hc0, hs0⟩ := S0
  have hx := C0.1
  have hb := C0.2.1
  refine lv_aload_n hx hb dl_653 rfl (lv_at hl 1 rfl) ?_
  refine lz_call (vs := []) (n := (0, 0)) (rest := []) C0 hI0 dl_654 cv_K_step (nt_3 _ (List.mem_of_getElem? (i := 108) rfl)) rfl rfl hCn rfl ⟨by decide, by decide⟩ (Nat.le_trans (Nat.add_le_add_left (by decide) _) hc0) (Nat.le_trans (Nat.add_le_add_left (by decide) _) hs0) (kc_K_step (0, 0) C _ h1) hl.1 (by simp) (Nat.le_of_ble_eq_true rfl) fun ad1 Hm1 hJ1 hE1 => ?_
  have hI1 := hJ1
  have hc1 : cells + mt_K_step.2.2.2.2.cells + 0 ≤ 600000 := Nat.le_trans (Nat.add_le_add_left (by decide : mt_K_step.2.2.2.2.cells ≤ 20) cells) hc0
  have hs1 : slots + mt_K_step.2.2.2.2.slots + 0 ≤ 7302250 := Nat.le_trans (Nat.add_le_add_left (by decide : mt_K_step.2.2.2.2.slots ≤ 200) slots) hs0
  refine lv_aload_n hx hb dl_657 rfl (lv_at hl 2 rfl) ?_
  refine lz_call (vs := []) (n := (50, 0)) (rest := [.int a]) C0 (lz_swap hI1) dl_658 cv_M_step (nt_4 _ (List.mem_of_getElem? (i := 153) rfl)) rfl rfl hRn rfl ⟨by decide, by decide⟩ (Nat.le_trans (Nat.add_le_add_left (by decide) _) hc1) (Nat.le_trans (Nat.add_le_add_left (by decide) _) hs1) (kc_M_step (50, 0) R _ h2) hl.1 (by simp [Value.category]) (Nat.le_of_ble_eq_true rfl) fun ad2 Hm2 hJ2 hE2 => ?_
  refine lv_icmp_eq (tgt := 925) hx hb dl_661 rfl (fun _ => ?_) (fun h => absurd rfl h)
  refine W.widen (k := cells + 20) (n := slots + 200) ?_ ?_ (kk ad1 ad2 Hm2 (lz_swap hJ2) (hE1 _ hCn).1 (hE2 _ hRn).1 (hE1 _ hCn).2 (hE2 _ hRn).2)
  · exact (Nat.add_le_add_left (by decide : mt_K_step.2.2.2.2.cells + mt_M_step.2.2.2.2.cells ≤ 20) cells)
  · exact (Nat.add_le_add_left (by decide : mt_K_step.2.2.2.2.slots + mt_M_step.2.2.2.2.slots ≤ 200) slots)
set_option maxRecDepth 100000 in
set_option maxHeartbeats 4000000 in
theorem lz_case_16 (S : lz_S p s m c b L q xs Hm cells slots lsA G adC adR C R) (h1 : fc_K_run (0, 0) C = some (a, C')) (h2 : fc_M_run (50, 0) R = some (a, R')) (kk : ∀ (adC' adR' : xo_N → Nat) (Hm1 : Heap), lz_I G s adC' C' adR' R' Hm1 → adC' (0, 0) = adC (0, 0) → adR' (50, 0) = adR (50, 0) → C'.2.2 (0, 0) = true → R'.2.2 (50, 0) = true → W p l e room_1 s m #[Value.ref b] below meth c Hm1 [] (cells + 20) (slots + 200) Q (F0 m 925 lsA [])) : W p l e room_1 s m #[Value.ref b] below meth c Hm [] cells slots Q (F0 m 666 lsA []) := by
  have S0 := S
  obtain ⟨C0, hI0, hCn, hRn, hX, hbl, hq, hL, hl, hc0, hs0⟩ := S0
  have hx := C0.1
  have hb := C0.2.1
  refine lv_aload_n hx hb dl_666 rfl (lv_at hl 1 rfl) ?_
  refine lz_call (vs := []) (n := (0, 0)) (rest := []) C0 hI0 dl_667 cv_K_run (nt_3 _ (List.mem_of_getElem? (i := 178) rfl)) rfl rfl hCn rfl ⟨by decide, by decide⟩ (Nat.le_trans (Nat.add_le_add_left (by decide) _) hc0) (Nat.le_trans (Nat.add_le_add_left (by decide) _) hs0) (kc_K_run (0, 0) C _ h1) hl.1 (by simp) (Nat.le_of_ble_eq_true rfl) fun ad1 Hm1 hJ1 hE1 => ?_
  have hI1 := hJ1
  have hc1 : cells + mt_K_run.2.2.2.2.cells + 0 ≤ 600000 := Nat.le_trans (Nat.add_le_add_left (by decide : mt_K_run.2.2.2.2.cells ≤ 20) cells) hc0
  have hs1 : slots + mt_K_run.2.2.2.2.slots + 0 ≤ 7302250 := Nat.le_trans (Nat.add_le_add_left (by decide : mt_K_run.2.2.2.2.slots ≤ 200) slots) hs0
  refine lv_aload_n hx hb dl_670 rfl (lv_at hl 2 rfl) ?_
  refine lz_call (vs := []) (n := (50, 0)) (rest := [.int a]) C0 (lz_swap hI1) dl_671 cv_M_run (nt_5 _ (List.mem_of_getElem? (i := 69) rfl)) rfl rfl hRn rfl ⟨by decide, by decide⟩ (Nat.le_trans (Nat.add_le_add_left (by decide) _) hc1) (Nat.le_trans (Nat.add_le_add_left (by decide) _) hs1) (kc_M_run (50, 0) R _ h2) hl.1 (by simp [Value.category]) (Nat.le_of_ble_eq_true rfl) fun ad2 Hm2 hJ2 hE2 => ?_
  refine lv_icmp_eq (tgt := 925) hx hb dl_674 rfl (fun _ => ?_) (fun h => absurd rfl h)
  refine W.widen (k := cells + 20) (n := slots + 200) ?_ ?_ (kk ad1 ad2 Hm2 (lz_swap hJ2) (hE1 _ hCn).1 (hE2 _ hRn).1 (hE1 _ hCn).2 (hE2 _ hRn).2)
  · exact (Nat.add_le_add_left (by decide : mt_K_run.2.2.2.2.cells + mt_M_run.2.2.2.2.cells ≤ 20) cells)
  · exact (Nat.add_le_add_left (by decide : mt_K_run.2.2.2.2.slots + mt_M_run.2.2.2.2.slots ≤ 200) slots)
set_option maxRecDepth 100000 in
set_option maxHeartbeats 4000000 in
theorem lz_case_17 (S : lz_S p s m c b L q xs Hm cells slots lsA G adC adR C R) (h1 : fc_K_jobs (0, 0) C = some (a, C')) (h2 : fc_M_jobs (50, 0) R = some (a, R')) (kk : ∀ (adC' adR' : xo_N → Nat) (Hm1 : Heap), lz_I G s adC' C' adR' R' Hm1 → adC' (0, 0) = adC (0, 0) → adR' (50, 0) = adR (50, 0) → C'.2.2 (0, 0) = true → R'.2.2 (50, 0) = true → W p l e room_1 s m #[Value.ref b] below meth c Hm1 [] (cells + 20) (slots + 200) Q (F0 m 925 lsA [])) : W p l e room_1 s m #[Value.ref b] below meth c Hm [] cells slots Q (F0 m 679 lsA []) := by
  have S0 := S
  obtain ⟨C0, hI0, hCn, hRn, hX, hbl, hq, hL, hl, hc0, hs0⟩ := S0
  have hx := C0.1
  have hb := C0.2.1
  refine lv_aload_n hx hb dl_679 rfl (lv_at hl 1 rfl) ?_
  refine lz_call (vs := []) (n := (0, 0)) (rest := []) C0 hI0 dl_680 cv_K_jobs (nt_3 _ (List.mem_of_getElem? (i := 182) rfl)) rfl rfl hCn rfl ⟨by decide, by decide⟩ (Nat.le_trans (Nat.add_le_add_left (by decide) _) hc0) (Nat.le_trans (Nat.add_le_add_left (by decide) _) hs0) (kc_K_jobs (0, 0) C _ h1) hl.1 (by simp) (Nat.le_of_ble_eq_true rfl) fun ad1 Hm1 hJ1 hE1 => ?_
  have hI1 := hJ1
  have hc1 : cells + mt_K_jobs.2.2.2.2.cells + 0 ≤ 600000 := Nat.le_trans (Nat.add_le_add_left (by decide : mt_K_jobs.2.2.2.2.cells ≤ 20) cells) hc0
  have hs1 : slots + mt_K_jobs.2.2.2.2.slots + 0 ≤ 7302250 := Nat.le_trans (Nat.add_le_add_left (by decide : mt_K_jobs.2.2.2.2.slots ≤ 200) slots) hs0
  refine lv_aload_n hx hb dl_683 rfl (lv_at hl 2 rfl) ?_
  refine lz_call (vs := []) (n := (50, 0)) (rest := [.int a]) C0 (lz_swap hI1) dl_684 cv_M_jobs (nt_5 _ (List.mem_of_getElem? (i := 74) rfl)) rfl rfl hRn rfl ⟨by decide, by decide⟩ (Nat.le_trans (Nat.add_le_add_left (by decide) _) hc1) (Nat.le_trans (Nat.add_le_add_left (by decide) _) hs1) (kc_M_jobs (50, 0) R _ h2) hl.1 (by simp [Value.category]) (Nat.le_of_ble_eq_true rfl) fun ad2 Hm2 hJ2 hE2 => ?_
  refine lv_icmp_eq (tgt := 925) hx hb dl_687 rfl (fun _ => ?_) (fun h => absurd rfl h)
  refine W.widen (k := cells + 20) (n := slots + 200) ?_ ?_ (kk ad1 ad2 Hm2 (lz_swap hJ2) (hE1 _ hCn).1 (hE2 _ hRn).1 (hE1 _ hCn).2 (hE2 _ hRn).2)
  · exact (Nat.add_le_add_left (by decide : mt_K_jobs.2.2.2.2.cells + mt_M_jobs.2.2.2.2.cells ≤ 20) cells)
  · exact (Nat.add_le_add_left (by decide : mt_K_jobs.2.2.2.2.slots + mt_M_jobs.2.2.2.2.slots ≤ 200) slots)
set_option maxRecDepth 100000 in
set_option maxHeartbeats 4000000 in
theorem lz_case_18 (S : lz_S p s m c b L q xs Hm cells slots lsA G adC adR C R) (h1 : fc_K_giverState (0, 0) (xs (4 * q + 1)) C = some (a, C')) (h2 : fc_M_giverState (50, 0) (xs (4 * q + 1)) R = some (a, R')) (kk : ∀ (adC' adR' : xo_N → Nat) (Hm1 : Heap), lz_I G s adC' C' adR' R' Hm1 → adC' (0, 0) = adC (0, 0) → adR' (50, 0) = adR (50, 0) → C'.2.2 (0, 0) = true → R'.2.2 (50, 0) = true → W p l e room_1 s m #[Value.ref b] below meth c Hm1 [] (cells + 20) (slots + 200) Q (F0 m 925 lsA [])) : W p l e room_1 s m #[Value.ref b] below meth c Hm [] cells slots Q (F0 m 692 lsA []) := by
  have S0 := S
  obtain ⟨C0, hI0, hCn, hRn, hX, hbl, hq, hL, hl, hc0, hs0⟩ := S0
  have hx := C0.1
  have hb := C0.2.1
  refine lv_aload_n hx hb dl_692 rfl (lv_at hl 1 rfl) ?_
  refine lv_aload_n hx hb dl_693 rfl (lv_at hl 0 rfl) ?_
  refine lv_iload_n hx hb dl_694 rfl (lv_at hl 3 rfl) ?_
  refine lv_iconst (v := (1 : Int32)) hx hb dl_695 (by decide) ?_
  refine lv_iadd hx hb dl_696 ?_
  refine lz_ld (j := 1) (pc' := 698) S dl_697 (by decide) (by decide +kernel) rfl hI0 ?_
  refine lz_call (vs := [(xs (4 * q + 1))]) (n := (0, 0)) (rest := []) C0 hI0 dl_698 cv_K_giverState (nt_3 _ (List.mem_of_getElem? (i := 186) rfl)) rfl rfl hCn rfl ⟨by decide, by decide⟩ (Nat.le_trans (Nat.add_le_add_left (by decide) _) hc0) (Nat.le_trans (Nat.add_le_add_left (by decide) _) hs0) (kc_K_giverState (0, 0) (xs (4 * q + 1)) C _ h1) hl.1 (by simp) (Nat.le_of_ble_eq_true rfl) fun ad1 Hm1 hJ1 hE1 => ?_
  have hI1 := hJ1
  have hc1 : cells + mt_K_giverState.2.2.2.2.cells + 0 ≤ 600000 := Nat.le_trans (Nat.add_le_add_left (by decide : mt_K_giverState.2.2.2.2.cells ≤ 20) cells) hc0
  have hs1 : slots + mt_K_giverState.2.2.2.2.slots + 0 ≤ 7302250 := Nat.le_trans (Nat.add_le_add_left (by decide : mt_K_giverState.2.2.2.2.slots ≤ 200) slots) hs0
  refine lv_aload_n hx hb dl_701 rfl (lv_at hl 2 rfl) ?_
  refine lv_aload_n hx hb dl_702 rfl (lv_at hl 0 rfl) ?_
  refine lv_iload_n hx hb dl_703 rfl (lv_at hl 3 rfl) ?_
  refine lv_iconst (v := (1 : Int32)) hx hb dl_704 (by decide) ?_
  refine lv_iadd hx hb dl_705 ?_
  refine lz_ld (j := 1) (pc' := 707) S dl_706 (by decide) (by decide +kernel) rfl hI1 ?_
  refine lz_call (vs := [(xs (4 * q + 1))]) (n := (50, 0)) (rest := [.int a]) C0 (lz_swap hI1) dl_707 cv_M_giverState (nt_5 _ (List.mem_of_getElem? (i := 162) rfl)) rfl rfl hRn rfl ⟨by decide, by decide⟩ (Nat.le_trans (Nat.add_le_add_left (by decide) _) hc1) (Nat.le_trans (Nat.add_le_add_left (by decide) _) hs1) (kc_M_giverState (50, 0) (xs (4 * q + 1)) R _ h2) hl.1 (by simp [Value.category]) (Nat.le_of_ble_eq_true rfl) fun ad2 Hm2 hJ2 hE2 => ?_
  refine lv_icmp_eq (tgt := 925) hx hb dl_710 rfl (fun _ => ?_) (fun h => absurd rfl h)
  refine W.widen (k := cells + 20) (n := slots + 200) ?_ ?_ (kk ad1 ad2 Hm2 (lz_swap hJ2) (hE1 _ hCn).1 (hE2 _ hRn).1 (hE1 _ hCn).2 (hE2 _ hRn).2)
  · exact (Nat.add_le_add_left (by decide : mt_K_giverState.2.2.2.2.cells + mt_M_giverState.2.2.2.2.cells ≤ 20) cells)
  · exact (Nat.add_le_add_left (by decide : mt_K_giverState.2.2.2.2.slots + mt_M_giverState.2.2.2.2.slots ≤ 200) slots)
set_option maxRecDepth 100000 in
set_option maxHeartbeats 4000000 in
theorem lz_case_19 (S : lz_S p s m c b L q xs Hm cells slots lsA G adC adR C R) (h1 : fc_K_giverRoom (0, 0) (xs (4 * q + 1)) C = some (a, C')) (h2 : fc_M_giverRoom (50, 0) (xs (4 * q + 1)) R = some (a, R')) (kk : ∀ (adC' adR' : xo_N → Nat) (Hm1 : Heap), lz_I G s adC' C' adR' R' Hm1 → adC' (0, 0) = adC (0, 0) → adR' (50, 0) = adR (50, 0) → C'.2.2 (0, 0) = true → R'.2.2 (50, 0) = true → W p l e room_1 s m #[Value.ref b] below meth c Hm1 [] (cells + 20) (slots + 200) Q (F0 m 925 lsA [])) : W p l e room_1 s m #[Value.ref b] below meth c Hm [] cells slots Q (F0 m 715 lsA []) := by
  have S0 := S
  obtain ⟨C0, hI0, hCn, hRn, hX, hbl, hq, hL, hl, hc0, hs0⟩ := S0
  have hx := C0.1
  have hb := C0.2.1
  refine lv_aload_n hx hb dl_715 rfl (lv_at hl 1 rfl) ?_
  refine lv_aload_n hx hb dl_716 rfl (lv_at hl 0 rfl) ?_
  refine lv_iload_n hx hb dl_717 rfl (lv_at hl 3 rfl) ?_
  refine lv_iconst (v := (1 : Int32)) hx hb dl_718 (by decide) ?_
  refine lv_iadd hx hb dl_719 ?_
  refine lz_ld (j := 1) (pc' := 721) S dl_720 (by decide) (by decide +kernel) rfl hI0 ?_
  refine lz_call (vs := [(xs (4 * q + 1))]) (n := (0, 0)) (rest := []) C0 hI0 dl_721 cv_K_giverRoom (nt_3 _ (List.mem_of_getElem? (i := 190) rfl)) rfl rfl hCn rfl ⟨by decide, by decide⟩ (Nat.le_trans (Nat.add_le_add_left (by decide) _) hc0) (Nat.le_trans (Nat.add_le_add_left (by decide) _) hs0) (kc_K_giverRoom (0, 0) (xs (4 * q + 1)) C _ h1) hl.1 (by simp) (Nat.le_of_ble_eq_true rfl) fun ad1 Hm1 hJ1 hE1 => ?_
  have hI1 := hJ1
  have hc1 : cells + mt_K_giverRoom.2.2.2.2.cells + 0 ≤ 600000 := Nat.le_trans (Nat.add_le_add_left (by decide : mt_K_giverRoom.2.2.2.2.cells ≤ 20) cells) hc0
  have hs1 : slots + mt_K_giverRoom.2.2.2.2.slots + 0 ≤ 7302250 := Nat.le_trans (Nat.add_le_add_left (by decide : mt_K_giverRoom.2.2.2.2.slots ≤ 200) slots) hs0
  refine lv_aload_n hx hb dl_724 rfl (lv_at hl 2 rfl) ?_
  refine lv_aload_n hx hb dl_725 rfl (lv_at hl 0 rfl) ?_
  refine lv_iload_n hx hb dl_726 rfl (lv_at hl 3 rfl) ?_
  refine lv_iconst (v := (1 : Int32)) hx hb dl_727 (by decide) ?_
  refine lv_iadd hx hb dl_728 ?_
  refine lz_ld (j := 1) (pc' := 730) S dl_729 (by decide) (by decide +kernel) rfl hI1 ?_
  refine lz_call (vs := [(xs (4 * q + 1))]) (n := (50, 0)) (rest := [.int a]) C0 (lz_swap hI1) dl_730 cv_M_giverRoom (nt_5 _ (List.mem_of_getElem? (i := 166) rfl)) rfl rfl hRn rfl ⟨by decide, by decide⟩ (Nat.le_trans (Nat.add_le_add_left (by decide) _) hc1) (Nat.le_trans (Nat.add_le_add_left (by decide) _) hs1) (kc_M_giverRoom (50, 0) (xs (4 * q + 1)) R _ h2) hl.1 (by simp [Value.category]) (Nat.le_of_ble_eq_true rfl) fun ad2 Hm2 hJ2 hE2 => ?_
  refine lv_icmp_eq (tgt := 925) hx hb dl_733 rfl (fun _ => ?_) (fun h => absurd rfl h)
  refine W.widen (k := cells + 20) (n := slots + 200) ?_ ?_ (kk ad1 ad2 Hm2 (lz_swap hJ2) (hE1 _ hCn).1 (hE2 _ hRn).1 (hE1 _ hCn).2 (hE2 _ hRn).2)
  · exact (Nat.add_le_add_left (by decide : mt_K_giverRoom.2.2.2.2.cells + mt_M_giverRoom.2.2.2.2.cells ≤ 20) cells)
  · exact (Nat.add_le_add_left (by decide : mt_K_giverRoom.2.2.2.2.slots + mt_M_giverRoom.2.2.2.2.slots ≤ 200) slots)
set_option maxRecDepth 100000 in
set_option maxHeartbeats 4000000 in
theorem lz_case_20 (S : lz_S p s m c b L q xs Hm cells slots lsA G adC adR C R) (h1 : fc_K_giverQueue (0, 0) (xs (4 * q + 1)) C = some (a, C')) (h2 : fc_M_giverQueue (50, 0) (xs (4 * q + 1)) R = some (a, R')) (kk : ∀ (adC' adR' : xo_N → Nat) (Hm1 : Heap), lz_I G s adC' C' adR' R' Hm1 → adC' (0, 0) = adC (0, 0) → adR' (50, 0) = adR (50, 0) → C'.2.2 (0, 0) = true → R'.2.2 (50, 0) = true → W p l e room_1 s m #[Value.ref b] below meth c Hm1 [] (cells + 20) (slots + 200) Q (F0 m 925 lsA [])) : W p l e room_1 s m #[Value.ref b] below meth c Hm [] cells slots Q (F0 m 738 lsA []) := by
  have S0 := S
  obtain ⟨C0, hI0, hCn, hRn, hX, hbl, hq, hL, hl, hc0, hs0⟩ := S0
  have hx := C0.1
  have hb := C0.2.1
  refine lv_aload_n hx hb dl_738 rfl (lv_at hl 1 rfl) ?_
  refine lv_aload_n hx hb dl_739 rfl (lv_at hl 0 rfl) ?_
  refine lv_iload_n hx hb dl_740 rfl (lv_at hl 3 rfl) ?_
  refine lv_iconst (v := (1 : Int32)) hx hb dl_741 (by decide) ?_
  refine lv_iadd hx hb dl_742 ?_
  refine lz_ld (j := 1) (pc' := 744) S dl_743 (by decide) (by decide +kernel) rfl hI0 ?_
  refine lz_call (vs := [(xs (4 * q + 1))]) (n := (0, 0)) (rest := []) C0 hI0 dl_744 cv_K_giverQueue (nt_3 _ (List.mem_of_getElem? (i := 194) rfl)) rfl rfl hCn rfl ⟨by decide, by decide⟩ (Nat.le_trans (Nat.add_le_add_left (by decide) _) hc0) (Nat.le_trans (Nat.add_le_add_left (by decide) _) hs0) (kc_K_giverQueue (0, 0) (xs (4 * q + 1)) C _ h1) hl.1 (by simp) (Nat.le_of_ble_eq_true rfl) fun ad1 Hm1 hJ1 hE1 => ?_
  have hI1 := hJ1
  have hc1 : cells + mt_K_giverQueue.2.2.2.2.cells + 0 ≤ 600000 := Nat.le_trans (Nat.add_le_add_left (by decide : mt_K_giverQueue.2.2.2.2.cells ≤ 20) cells) hc0
  have hs1 : slots + mt_K_giverQueue.2.2.2.2.slots + 0 ≤ 7302250 := Nat.le_trans (Nat.add_le_add_left (by decide : mt_K_giverQueue.2.2.2.2.slots ≤ 200) slots) hs0
  refine lv_aload_n hx hb dl_747 rfl (lv_at hl 2 rfl) ?_
  refine lv_aload_n hx hb dl_748 rfl (lv_at hl 0 rfl) ?_
  refine lv_iload_n hx hb dl_749 rfl (lv_at hl 3 rfl) ?_
  refine lv_iconst (v := (1 : Int32)) hx hb dl_750 (by decide) ?_
  refine lv_iadd hx hb dl_751 ?_
  refine lz_ld (j := 1) (pc' := 753) S dl_752 (by decide) (by decide +kernel) rfl hI1 ?_
  refine lz_call (vs := [(xs (4 * q + 1))]) (n := (50, 0)) (rest := [.int a]) C0 (lz_swap hI1) dl_753 cv_M_giverQueue (nt_5 _ (List.mem_of_getElem? (i := 170) rfl)) rfl rfl hRn rfl ⟨by decide, by decide⟩ (Nat.le_trans (Nat.add_le_add_left (by decide) _) hc1) (Nat.le_trans (Nat.add_le_add_left (by decide) _) hs1) (kc_M_giverQueue (50, 0) (xs (4 * q + 1)) R _ h2) hl.1 (by simp [Value.category]) (Nat.le_of_ble_eq_true rfl) fun ad2 Hm2 hJ2 hE2 => ?_
  refine lv_icmp_eq (tgt := 925) hx hb dl_756 rfl (fun _ => ?_) (fun h => absurd rfl h)
  refine W.widen (k := cells + 20) (n := slots + 200) ?_ ?_ (kk ad1 ad2 Hm2 (lz_swap hJ2) (hE1 _ hCn).1 (hE2 _ hRn).1 (hE1 _ hCn).2 (hE2 _ hRn).2)
  · exact (Nat.add_le_add_left (by decide : mt_K_giverQueue.2.2.2.2.cells + mt_M_giverQueue.2.2.2.2.cells ≤ 20) cells)
  · exact (Nat.add_le_add_left (by decide : mt_K_giverQueue.2.2.2.2.slots + mt_M_giverQueue.2.2.2.2.slots ≤ 200) slots)
set_option maxRecDepth 100000 in
set_option maxHeartbeats 4000000 in
theorem lz_case_21 (S : lz_S p s m c b L q xs Hm cells slots lsA G adC adR C R) (h1 : fc_K_takerState (0, 0) (xs (4 * q + 1)) C = some (a, C')) (h2 : fc_M_takerState (50, 0) (xs (4 * q + 1)) R = some (a, R')) (kk : ∀ (adC' adR' : xo_N → Nat) (Hm1 : Heap), lz_I G s adC' C' adR' R' Hm1 → adC' (0, 0) = adC (0, 0) → adR' (50, 0) = adR (50, 0) → C'.2.2 (0, 0) = true → R'.2.2 (50, 0) = true → W p l e room_1 s m #[Value.ref b] below meth c Hm1 [] (cells + 20) (slots + 200) Q (F0 m 925 lsA [])) : W p l e room_1 s m #[Value.ref b] below meth c Hm [] cells slots Q (F0 m 761 lsA []) := by
  have S0 := S
  obtain ⟨C0, hI0, hCn, hRn, hX, hbl, hq, hL, hl, hc0, hs0⟩ := S0
  have hx := C0.1
  have hb := C0.2.1
  refine lv_aload_n hx hb dl_761 rfl (lv_at hl 1 rfl) ?_
  refine lv_aload_n hx hb dl_762 rfl (lv_at hl 0 rfl) ?_
  refine lv_iload_n hx hb dl_763 rfl (lv_at hl 3 rfl) ?_
  refine lv_iconst (v := (1 : Int32)) hx hb dl_764 (by decide) ?_
  refine lv_iadd hx hb dl_765 ?_
  refine lz_ld (j := 1) (pc' := 767) S dl_766 (by decide) (by decide +kernel) rfl hI0 ?_
  refine lz_call (vs := [(xs (4 * q + 1))]) (n := (0, 0)) (rest := []) C0 hI0 dl_767 cv_K_takerState (nt_3 _ (List.mem_of_getElem? (i := 198) rfl)) rfl rfl hCn rfl ⟨by decide, by decide⟩ (Nat.le_trans (Nat.add_le_add_left (by decide) _) hc0) (Nat.le_trans (Nat.add_le_add_left (by decide) _) hs0) (kc_K_takerState (0, 0) (xs (4 * q + 1)) C _ h1) hl.1 (by simp) (Nat.le_of_ble_eq_true rfl) fun ad1 Hm1 hJ1 hE1 => ?_
  have hI1 := hJ1
  have hc1 : cells + mt_K_takerState.2.2.2.2.cells + 0 ≤ 600000 := Nat.le_trans (Nat.add_le_add_left (by decide : mt_K_takerState.2.2.2.2.cells ≤ 20) cells) hc0
  have hs1 : slots + mt_K_takerState.2.2.2.2.slots + 0 ≤ 7302250 := Nat.le_trans (Nat.add_le_add_left (by decide : mt_K_takerState.2.2.2.2.slots ≤ 200) slots) hs0
  refine lv_aload_n hx hb dl_770 rfl (lv_at hl 2 rfl) ?_
  refine lv_aload_n hx hb dl_771 rfl (lv_at hl 0 rfl) ?_
  refine lv_iload_n hx hb dl_772 rfl (lv_at hl 3 rfl) ?_
  refine lv_iconst (v := (1 : Int32)) hx hb dl_773 (by decide) ?_
  refine lv_iadd hx hb dl_774 ?_
  refine lz_ld (j := 1) (pc' := 776) S dl_775 (by decide) (by decide +kernel) rfl hI1 ?_
  refine lz_call (vs := [(xs (4 * q + 1))]) (n := (50, 0)) (rest := [.int a]) C0 (lz_swap hI1) dl_776 cv_M_takerState (nt_5 _ (List.mem_of_getElem? (i := 174) rfl)) rfl rfl hRn rfl ⟨by decide, by decide⟩ (Nat.le_trans (Nat.add_le_add_left (by decide) _) hc1) (Nat.le_trans (Nat.add_le_add_left (by decide) _) hs1) (kc_M_takerState (50, 0) (xs (4 * q + 1)) R _ h2) hl.1 (by simp [Value.category]) (Nat.le_of_ble_eq_true rfl) fun ad2 Hm2 hJ2 hE2 => ?_
  refine lv_icmp_eq (tgt := 925) hx hb dl_779 rfl (fun _ => ?_) (fun h => absurd rfl h)
  refine W.widen (k := cells + 20) (n := slots + 200) ?_ ?_ (kk ad1 ad2 Hm2 (lz_swap hJ2) (hE1 _ hCn).1 (hE2 _ hRn).1 (hE1 _ hCn).2 (hE2 _ hRn).2)
  · exact (Nat.add_le_add_left (by decide : mt_K_takerState.2.2.2.2.cells + mt_M_takerState.2.2.2.2.cells ≤ 20) cells)
  · exact (Nat.add_le_add_left (by decide : mt_K_takerState.2.2.2.2.slots + mt_M_takerState.2.2.2.2.slots ≤ 200) slots)
set_option maxRecDepth 100000 in
set_option maxHeartbeats 4000000 in
theorem lz_case_22 (S : lz_S p s m c b L q xs Hm cells slots lsA G adC adR C R) (h1 : fc_K_takerRoom (0, 0) (xs (4 * q + 1)) C = some (a, C')) (h2 : fc_M_takerRoom (50, 0) (xs (4 * q + 1)) R = some (a, R')) (kk : ∀ (adC' adR' : xo_N → Nat) (Hm1 : Heap), lz_I G s adC' C' adR' R' Hm1 → adC' (0, 0) = adC (0, 0) → adR' (50, 0) = adR (50, 0) → C'.2.2 (0, 0) = true → R'.2.2 (50, 0) = true → W p l e room_1 s m #[Value.ref b] below meth c Hm1 [] (cells + 20) (slots + 200) Q (F0 m 925 lsA [])) : W p l e room_1 s m #[Value.ref b] below meth c Hm [] cells slots Q (F0 m 784 lsA []) := by
  have S0 := S
  obtain ⟨C0, hI0, hCn, hRn, hX, hbl, hq, hL, hl, hc0, hs0⟩ := S0
  have hx := C0.1
  have hb := C0.2.1
  refine lv_aload_n hx hb dl_784 rfl (lv_at hl 1 rfl) ?_
  refine lv_aload_n hx hb dl_785 rfl (lv_at hl 0 rfl) ?_
  refine lv_iload_n hx hb dl_786 rfl (lv_at hl 3 rfl) ?_
  refine lv_iconst (v := (1 : Int32)) hx hb dl_787 (by decide) ?_
  refine lv_iadd hx hb dl_788 ?_
  refine lz_ld (j := 1) (pc' := 790) S dl_789 (by decide) (by decide +kernel) rfl hI0 ?_
  refine lz_call (vs := [(xs (4 * q + 1))]) (n := (0, 0)) (rest := []) C0 hI0 dl_790 cv_K_takerRoom (nt_3 _ (List.mem_of_getElem? (i := 202) rfl)) rfl rfl hCn rfl ⟨by decide, by decide⟩ (Nat.le_trans (Nat.add_le_add_left (by decide) _) hc0) (Nat.le_trans (Nat.add_le_add_left (by decide) _) hs0) (kc_K_takerRoom (0, 0) (xs (4 * q + 1)) C _ h1) hl.1 (by simp) (Nat.le_of_ble_eq_true rfl) fun ad1 Hm1 hJ1 hE1 => ?_
  have hI1 := hJ1
  have hc1 : cells + mt_K_takerRoom.2.2.2.2.cells + 0 ≤ 600000 := Nat.le_trans (Nat.add_le_add_left (by decide : mt_K_takerRoom.2.2.2.2.cells ≤ 20) cells) hc0
  have hs1 : slots + mt_K_takerRoom.2.2.2.2.slots + 0 ≤ 7302250 := Nat.le_trans (Nat.add_le_add_left (by decide : mt_K_takerRoom.2.2.2.2.slots ≤ 200) slots) hs0
  refine lv_aload_n hx hb dl_793 rfl (lv_at hl 2 rfl) ?_
  refine lv_aload_n hx hb dl_794 rfl (lv_at hl 0 rfl) ?_
  refine lv_iload_n hx hb dl_795 rfl (lv_at hl 3 rfl) ?_
  refine lv_iconst (v := (1 : Int32)) hx hb dl_796 (by decide) ?_
  refine lv_iadd hx hb dl_797 ?_
  refine lz_ld (j := 1) (pc' := 799) S dl_798 (by decide) (by decide +kernel) rfl hI1 ?_
  refine lz_call (vs := [(xs (4 * q + 1))]) (n := (50, 0)) (rest := [.int a]) C0 (lz_swap hI1) dl_799 cv_M_takerRoom (nt_5 _ (List.mem_of_getElem? (i := 178) rfl)) rfl rfl hRn rfl ⟨by decide, by decide⟩ (Nat.le_trans (Nat.add_le_add_left (by decide) _) hc1) (Nat.le_trans (Nat.add_le_add_left (by decide) _) hs1) (kc_M_takerRoom (50, 0) (xs (4 * q + 1)) R _ h2) hl.1 (by simp [Value.category]) (Nat.le_of_ble_eq_true rfl) fun ad2 Hm2 hJ2 hE2 => ?_
  refine lv_icmp_eq (tgt := 925) hx hb dl_802 rfl (fun _ => ?_) (fun h => absurd rfl h)
  refine W.widen (k := cells + 20) (n := slots + 200) ?_ ?_ (kk ad1 ad2 Hm2 (lz_swap hJ2) (hE1 _ hCn).1 (hE2 _ hRn).1 (hE1 _ hCn).2 (hE2 _ hRn).2)
  · exact (Nat.add_le_add_left (by decide : mt_K_takerRoom.2.2.2.2.cells + mt_M_takerRoom.2.2.2.2.cells ≤ 20) cells)
  · exact (Nat.add_le_add_left (by decide : mt_K_takerRoom.2.2.2.2.slots + mt_M_takerRoom.2.2.2.2.slots ≤ 200) slots)
set_option maxRecDepth 100000 in
set_option maxHeartbeats 4000000 in
theorem lz_case_23 (S : lz_S p s m c b L q xs Hm cells slots lsA G adC adR C R) (h1 : fc_K_takerQueue (0, 0) (xs (4 * q + 1)) C = some (a, C')) (h2 : fc_M_takerQueue (50, 0) (xs (4 * q + 1)) R = some (a, R')) (kk : ∀ (adC' adR' : xo_N → Nat) (Hm1 : Heap), lz_I G s adC' C' adR' R' Hm1 → adC' (0, 0) = adC (0, 0) → adR' (50, 0) = adR (50, 0) → C'.2.2 (0, 0) = true → R'.2.2 (50, 0) = true → W p l e room_1 s m #[Value.ref b] below meth c Hm1 [] (cells + 20) (slots + 200) Q (F0 m 925 lsA [])) : W p l e room_1 s m #[Value.ref b] below meth c Hm [] cells slots Q (F0 m 807 lsA []) := by
  have S0 := S
  obtain ⟨C0, hI0, hCn, hRn, hX, hbl, hq, hL, hl, hc0, hs0⟩ := S0
  have hx := C0.1
  have hb := C0.2.1
  refine lv_aload_n hx hb dl_807 rfl (lv_at hl 1 rfl) ?_
  refine lv_aload_n hx hb dl_808 rfl (lv_at hl 0 rfl) ?_
  refine lv_iload_n hx hb dl_809 rfl (lv_at hl 3 rfl) ?_
  refine lv_iconst (v := (1 : Int32)) hx hb dl_810 (by decide) ?_
  refine lv_iadd hx hb dl_811 ?_
  refine lz_ld (j := 1) (pc' := 813) S dl_812 (by decide) (by decide +kernel) rfl hI0 ?_
  refine lz_call (vs := [(xs (4 * q + 1))]) (n := (0, 0)) (rest := []) C0 hI0 dl_813 cv_K_takerQueue (nt_3 _ (List.mem_of_getElem? (i := 206) rfl)) rfl rfl hCn rfl ⟨by decide, by decide⟩ (Nat.le_trans (Nat.add_le_add_left (by decide) _) hc0) (Nat.le_trans (Nat.add_le_add_left (by decide) _) hs0) (kc_K_takerQueue (0, 0) (xs (4 * q + 1)) C _ h1) hl.1 (by simp) (Nat.le_of_ble_eq_true rfl) fun ad1 Hm1 hJ1 hE1 => ?_
  have hI1 := hJ1
  have hc1 : cells + mt_K_takerQueue.2.2.2.2.cells + 0 ≤ 600000 := Nat.le_trans (Nat.add_le_add_left (by decide : mt_K_takerQueue.2.2.2.2.cells ≤ 20) cells) hc0
  have hs1 : slots + mt_K_takerQueue.2.2.2.2.slots + 0 ≤ 7302250 := Nat.le_trans (Nat.add_le_add_left (by decide : mt_K_takerQueue.2.2.2.2.slots ≤ 200) slots) hs0
  refine lv_aload_n hx hb dl_816 rfl (lv_at hl 2 rfl) ?_
  refine lv_aload_n hx hb dl_817 rfl (lv_at hl 0 rfl) ?_
  refine lv_iload_n hx hb dl_818 rfl (lv_at hl 3 rfl) ?_
  refine lv_iconst (v := (1 : Int32)) hx hb dl_819 (by decide) ?_
  refine lv_iadd hx hb dl_820 ?_
  refine lz_ld (j := 1) (pc' := 822) S dl_821 (by decide) (by decide +kernel) rfl hI1 ?_
  refine lz_call (vs := [(xs (4 * q + 1))]) (n := (50, 0)) (rest := [.int a]) C0 (lz_swap hI1) dl_822 cv_M_takerQueue (nt_5 _ (List.mem_of_getElem? (i := 182) rfl)) rfl rfl hRn rfl ⟨by decide, by decide⟩ (Nat.le_trans (Nat.add_le_add_left (by decide) _) hc1) (Nat.le_trans (Nat.add_le_add_left (by decide) _) hs1) (kc_M_takerQueue (50, 0) (xs (4 * q + 1)) R _ h2) hl.1 (by simp [Value.category]) (Nat.le_of_ble_eq_true rfl) fun ad2 Hm2 hJ2 hE2 => ?_
  refine lv_icmp_eq (tgt := 925) hx hb dl_825 rfl (fun _ => ?_) (fun h => absurd rfl h)
  refine W.widen (k := cells + 20) (n := slots + 200) ?_ ?_ (kk ad1 ad2 Hm2 (lz_swap hJ2) (hE1 _ hCn).1 (hE2 _ hRn).1 (hE1 _ hCn).2 (hE2 _ hRn).2)
  · exact (Nat.add_le_add_left (by decide : mt_K_takerQueue.2.2.2.2.cells + mt_M_takerQueue.2.2.2.2.cells ≤ 20) cells)
  · exact (Nat.add_le_add_left (by decide : mt_K_takerQueue.2.2.2.2.slots + mt_M_takerQueue.2.2.2.2.slots ≤ 200) slots)
set_option maxRecDepth 100000 in
set_option maxHeartbeats 4000000 in
theorem lz_case_24 (S : lz_S p s m c b L q xs Hm cells slots lsA G adC adR C R) (h1 : fc_K_error (0, 0) (bz (xs (4 * q + 1))) (xs (4 * q + 2)) C = some (a, C')) (h2 : fc_M_error (50, 0) (bz (xs (4 * q + 1))) (xs (4 * q + 2)) R = some (a, R')) (kk : ∀ (adC' adR' : xo_N → Nat) (Hm1 : Heap), lz_I G s adC' C' adR' R' Hm1 → adC' (0, 0) = adC (0, 0) → adR' (50, 0) = adR (50, 0) → C'.2.2 (0, 0) = true → R'.2.2 (50, 0) = true → W p l e room_1 s m #[Value.ref b] below meth c Hm1 [] (cells + 20) (slots + 200) Q (F0 m 925 lsA [])) : W p l e room_1 s m #[Value.ref b] below meth c Hm [] cells slots Q (F0 m 830 lsA []) := by
  have S0 := S
  obtain ⟨C0, hI0, hCn, hRn, hX, hbl, hq, hL, hl, hc0, hs0⟩ := S0
  have hx := C0.1
  have hb := C0.2.1
  refine lv_aload_n hx hb dl_830 rfl (lv_at hl 1 rfl) ?_
  refine lv_aload_n hx hb dl_831 rfl (lv_at hl 0 rfl) ?_
  refine lv_iload_n hx hb dl_832 rfl (lv_at hl 3 rfl) ?_
  refine lv_iconst (v := (1 : Int32)) hx hb dl_833 (by decide) ?_
  refine lv_iadd hx hb dl_834 ?_
  refine lz_ld (j := 1) (pc' := 836) S dl_835 (by decide) (by decide +kernel) rfl hI0 ?_
  refine lz_dia (p1 := 839) (p2 := 840) (p3 := 843) (p4 := 844) hx hb dl_836 rfl rfl dl_839 rfl dl_840 rfl dl_843 rfl ?_
  refine lv_aload_n hx hb dl_844 rfl (lv_at hl 0 rfl) ?_
  refine lv_iload_n hx hb dl_845 rfl (lv_at hl 3 rfl) ?_
  refine lv_iconst (v := (2 : Int32)) hx hb dl_846 (by decide) ?_
  refine lv_iadd hx hb dl_847 ?_
  refine lz_ld (j := 2) (pc' := 849) S dl_848 (by decide) (by decide +kernel) rfl hI0 ?_
  refine lz_call (vs := [(bz (xs (4 * q + 1))), (xs (4 * q + 2))]) (n := (0, 0)) (rest := []) C0 hI0 dl_849 cv_K_error (nt_3 _ (List.mem_of_getElem? (i := 210) rfl)) rfl rfl hCn rfl ⟨by decide, by decide⟩ (Nat.le_trans (Nat.add_le_add_left (by decide) _) hc0) (Nat.le_trans (Nat.add_le_add_left (by decide) _) hs0) (kc_K_error (0, 0) (bz (xs (4 * q + 1))) (xs (4 * q + 2)) C _ h1) hl.1 (by simp) (Nat.le_of_ble_eq_true rfl) fun ad1 Hm1 hJ1 hE1 => ?_
  have hI1 := hJ1
  have hc1 : cells + mt_K_error.2.2.2.2.cells + 0 ≤ 600000 := Nat.le_trans (Nat.add_le_add_left (by decide : mt_K_error.2.2.2.2.cells ≤ 20) cells) hc0
  have hs1 : slots + mt_K_error.2.2.2.2.slots + 0 ≤ 7302250 := Nat.le_trans (Nat.add_le_add_left (by decide : mt_K_error.2.2.2.2.slots ≤ 200) slots) hs0
  refine lv_aload_n hx hb dl_852 rfl (lv_at hl 2 rfl) ?_
  refine lv_aload_n hx hb dl_853 rfl (lv_at hl 0 rfl) ?_
  refine lv_iload_n hx hb dl_854 rfl (lv_at hl 3 rfl) ?_
  refine lv_iconst (v := (1 : Int32)) hx hb dl_855 (by decide) ?_
  refine lv_iadd hx hb dl_856 ?_
  refine lz_ld (j := 1) (pc' := 858) S dl_857 (by decide) (by decide +kernel) rfl hI1 ?_
  refine lz_dia (p1 := 861) (p2 := 862) (p3 := 865) (p4 := 866) hx hb dl_858 rfl rfl dl_861 rfl dl_862 rfl dl_865 rfl ?_
  refine lv_aload_n hx hb dl_866 rfl (lv_at hl 0 rfl) ?_
  refine lv_iload_n hx hb dl_867 rfl (lv_at hl 3 rfl) ?_
  refine lv_iconst (v := (2 : Int32)) hx hb dl_868 (by decide) ?_
  refine lv_iadd hx hb dl_869 ?_
  refine lz_ld (j := 2) (pc' := 871) S dl_870 (by decide) (by decide +kernel) rfl hI1 ?_
  refine lz_call (vs := [(bz (xs (4 * q + 1))), (xs (4 * q + 2))]) (n := (50, 0)) (rest := [.int a]) C0 (lz_swap hI1) dl_871 cv_M_error (nt_5 _ (List.mem_of_getElem? (i := 186) rfl)) rfl rfl hRn rfl ⟨by decide, by decide⟩ (Nat.le_trans (Nat.add_le_add_left (by decide) _) hc1) (Nat.le_trans (Nat.add_le_add_left (by decide) _) hs1) (kc_M_error (50, 0) (bz (xs (4 * q + 1))) (xs (4 * q + 2)) R _ h2) hl.1 (by simp [Value.category]) (Nat.le_of_ble_eq_true rfl) fun ad2 Hm2 hJ2 hE2 => ?_
  refine lv_icmp_eq (tgt := 925) hx hb dl_874 rfl (fun _ => ?_) (fun h => absurd rfl h)
  refine W.widen (k := cells + 20) (n := slots + 200) ?_ ?_ (kk ad1 ad2 Hm2 (lz_swap hJ2) (hE1 _ hCn).1 (hE2 _ hRn).1 (hE1 _ hCn).2 (hE2 _ hRn).2)
  · exact (Nat.add_le_add_left (by decide : mt_K_error.2.2.2.2.cells + mt_M_error.2.2.2.2.cells ≤ 20) cells)
  · exact (Nat.add_le_add_left (by decide : mt_K_error.2.2.2.2.slots + mt_M_error.2.2.2.2.slots ≤ 200) slots)
set_option maxRecDepth 100000 in
set_option maxHeartbeats 4000000 in
theorem lz_case_25 (S : lz_S p s m c b L q xs Hm cells slots lsA G adC adR C R) (h1 : fc_K_events (0, 0) C = some (a, C')) (h2 : fc_M_events (50, 0) R = some (a, R')) (kk : ∀ (adC' adR' : xo_N → Nat) (Hm1 : Heap), lz_I G s adC' C' adR' R' Hm1 → adC' (0, 0) = adC (0, 0) → adR' (50, 0) = adR (50, 0) → C'.2.2 (0, 0) = true → R'.2.2 (50, 0) = true → W p l e room_1 s m #[Value.ref b] below meth c Hm1 [] (cells + 20) (slots + 200) Q (F0 m 925 lsA [])) : W p l e room_1 s m #[Value.ref b] below meth c Hm [] cells slots Q (F0 m 879 lsA []) := by
  have S0 := S
  obtain ⟨C0, hI0, hCn, hRn, hX, hbl, hq, hL, hl, hc0, hs0⟩ := S0
  have hx := C0.1
  have hb := C0.2.1
  refine lv_aload_n hx hb dl_879 rfl (lv_at hl 1 rfl) ?_
  refine lz_call (vs := []) (n := (0, 0)) (rest := []) C0 hI0 dl_880 cv_K_events (nt_3 _ (List.mem_of_getElem? (i := 220) rfl)) rfl rfl hCn rfl ⟨by decide, by decide⟩ (Nat.le_trans (Nat.add_le_add_left (by decide) _) hc0) (Nat.le_trans (Nat.add_le_add_left (by decide) _) hs0) (kc_K_events (0, 0) C _ h1) hl.1 (by simp) (Nat.le_of_ble_eq_true rfl) fun ad1 Hm1 hJ1 hE1 => ?_
  have hI1 := hJ1
  have hc1 : cells + mt_K_events.2.2.2.2.cells + 0 ≤ 600000 := Nat.le_trans (Nat.add_le_add_left (by decide : mt_K_events.2.2.2.2.cells ≤ 20) cells) hc0
  have hs1 : slots + mt_K_events.2.2.2.2.slots + 0 ≤ 7302250 := Nat.le_trans (Nat.add_le_add_left (by decide : mt_K_events.2.2.2.2.slots ≤ 200) slots) hs0
  refine lv_aload_n hx hb dl_883 rfl (lv_at hl 2 rfl) ?_
  refine lz_call (vs := []) (n := (50, 0)) (rest := [.int a]) C0 (lz_swap hI1) dl_884 cv_M_events (nt_5 _ (List.mem_of_getElem? (i := 190) rfl)) rfl rfl hRn rfl ⟨by decide, by decide⟩ (Nat.le_trans (Nat.add_le_add_left (by decide) _) hc1) (Nat.le_trans (Nat.add_le_add_left (by decide) _) hs1) (kc_M_events (50, 0) R _ h2) hl.1 (by simp [Value.category]) (Nat.le_of_ble_eq_true rfl) fun ad2 Hm2 hJ2 hE2 => ?_
  refine lv_icmp_eq (tgt := 925) hx hb dl_887 rfl (fun _ => ?_) (fun h => absurd rfl h)
  refine W.widen (k := cells + 20) (n := slots + 200) ?_ ?_ (kk ad1 ad2 Hm2 (lz_swap hJ2) (hE1 _ hCn).1 (hE2 _ hRn).1 (hE1 _ hCn).2 (hE2 _ hRn).2)
  · exact (Nat.add_le_add_left (by decide : mt_K_events.2.2.2.2.cells + mt_M_events.2.2.2.2.cells ≤ 20) cells)
  · exact (Nat.add_le_add_left (by decide : mt_K_events.2.2.2.2.slots + mt_M_events.2.2.2.2.slots ≤ 200) slots)
set_option maxRecDepth 100000 in
set_option maxHeartbeats 4000000 in
theorem lz_case_26 (S : lz_S p s m c b L q xs Hm cells slots lsA G adC adR C R) (h1 : fc_K_event (0, 0) (xs (4 * q + 1)) (xs (4 * q + 2)) C = some (a, C')) (h2 : fc_M_event (50, 0) (xs (4 * q + 1)) (xs (4 * q + 2)) R = some (a, R')) (kk : ∀ (adC' adR' : xo_N → Nat) (Hm1 : Heap), lz_I G s adC' C' adR' R' Hm1 → adC' (0, 0) = adC (0, 0) → adR' (50, 0) = adR (50, 0) → C'.2.2 (0, 0) = true → R'.2.2 (50, 0) = true → W p l e room_1 s m #[Value.ref b] below meth c Hm1 [] (cells + 20) (slots + 200) Q (F0 m 925 lsA [])) : W p l e room_1 s m #[Value.ref b] below meth c Hm [] cells slots Q (F0 m 892 lsA []) := by
  have S0 := S
  obtain ⟨C0, hI0, hCn, hRn, hX, hbl, hq, hL, hl, hc0, hs0⟩ := S0
  have hx := C0.1
  have hb := C0.2.1
  refine lv_aload_n hx hb dl_892 rfl (lv_at hl 1 rfl) ?_
  refine lv_aload_n hx hb dl_893 rfl (lv_at hl 0 rfl) ?_
  refine lv_iload_n hx hb dl_894 rfl (lv_at hl 3 rfl) ?_
  refine lv_iconst (v := (1 : Int32)) hx hb dl_895 (by decide) ?_
  refine lv_iadd hx hb dl_896 ?_
  refine lz_ld (j := 1) (pc' := 898) S dl_897 (by decide) (by decide +kernel) rfl hI0 ?_
  refine lv_aload_n hx hb dl_898 rfl (lv_at hl 0 rfl) ?_
  refine lv_iload_n hx hb dl_899 rfl (lv_at hl 3 rfl) ?_
  refine lv_iconst (v := (2 : Int32)) hx hb dl_900 (by decide) ?_
  refine lv_iadd hx hb dl_901 ?_
  refine lz_ld (j := 2) (pc' := 903) S dl_902 (by decide) (by decide +kernel) rfl hI0 ?_
  refine lz_call (vs := [(xs (4 * q + 1)), (xs (4 * q + 2))]) (n := (0, 0)) (rest := []) C0 hI0 dl_903 cv_K_event (nt_3 _ (List.mem_of_getElem? (i := 224) rfl)) rfl rfl hCn rfl ⟨by decide, by decide⟩ (Nat.le_trans (Nat.add_le_add_left (by decide) _) hc0) (Nat.le_trans (Nat.add_le_add_left (by decide) _) hs0) (kc_K_event (0, 0) (xs (4 * q + 1)) (xs (4 * q + 2)) C _ h1) hl.1 (by simp) (Nat.le_of_ble_eq_true rfl) fun ad1 Hm1 hJ1 hE1 => ?_
  have hI1 := hJ1
  have hc1 : cells + mt_K_event.2.2.2.2.cells + 0 ≤ 600000 := Nat.le_trans (Nat.add_le_add_left (by decide : mt_K_event.2.2.2.2.cells ≤ 20) cells) hc0
  have hs1 : slots + mt_K_event.2.2.2.2.slots + 0 ≤ 7302250 := Nat.le_trans (Nat.add_le_add_left (by decide : mt_K_event.2.2.2.2.slots ≤ 200) slots) hs0
  refine lv_aload_n hx hb dl_906 rfl (lv_at hl 2 rfl) ?_
  refine lv_aload_n hx hb dl_907 rfl (lv_at hl 0 rfl) ?_
  refine lv_iload_n hx hb dl_908 rfl (lv_at hl 3 rfl) ?_
  refine lv_iconst (v := (1 : Int32)) hx hb dl_909 (by decide) ?_
  refine lv_iadd hx hb dl_910 ?_
  refine lz_ld (j := 1) (pc' := 912) S dl_911 (by decide) (by decide +kernel) rfl hI1 ?_
  refine lv_aload_n hx hb dl_912 rfl (lv_at hl 0 rfl) ?_
  refine lv_iload_n hx hb dl_913 rfl (lv_at hl 3 rfl) ?_
  refine lv_iconst (v := (2 : Int32)) hx hb dl_914 (by decide) ?_
  refine lv_iadd hx hb dl_915 ?_
  refine lz_ld (j := 2) (pc' := 917) S dl_916 (by decide) (by decide +kernel) rfl hI1 ?_
  refine lz_call (vs := [(xs (4 * q + 1)), (xs (4 * q + 2))]) (n := (50, 0)) (rest := [.int a]) C0 (lz_swap hI1) dl_917 cv_M_event (nt_5 _ (List.mem_of_getElem? (i := 194) rfl)) rfl rfl hRn rfl ⟨by decide, by decide⟩ (Nat.le_trans (Nat.add_le_add_left (by decide) _) hc1) (Nat.le_trans (Nat.add_le_add_left (by decide) _) hs1) (kc_M_event (50, 0) (xs (4 * q + 1)) (xs (4 * q + 2)) R _ h2) hl.1 (by simp [Value.category]) (Nat.le_of_ble_eq_true rfl) fun ad2 Hm2 hJ2 hE2 => ?_
  refine lv_icmp_eq (tgt := 925) hx hb dl_920 rfl (fun _ => ?_) (fun h => absurd rfl h)
  refine W.widen (k := cells + 20) (n := slots + 200) ?_ ?_ (kk ad1 ad2 Hm2 (lz_swap hJ2) (hE1 _ hCn).1 (hE2 _ hRn).1 (hE1 _ hCn).2 (hE2 _ hRn).2)
  · exact (Nat.add_le_add_left (by decide : mt_K_event.2.2.2.2.cells + mt_M_event.2.2.2.2.cells ≤ 20) cells)
  · exact (Nat.add_le_add_left (by decide : mt_K_event.2.2.2.2.slots + mt_M_event.2.2.2.2.slots ≤ 200) slots)
end LC
