theorem nt_in : ∀ w ∈ tables_1, w ∈ lw_tbl := fun w h => List.mem_append_right _ h
theorem nt_1 : ∀ w ∈ tables_1_1, w ∈ lw_tbl := fun w h => nt_in w (by unfold tables_1; exact List.mem_append_left _ h)
theorem nt_2 : ∀ w ∈ tables_1_2, w ∈ lw_tbl := fun w h => nt_in w (by unfold tables_1; exact List.mem_append_right _ (List.mem_append_left _ h))
theorem nt_3 : ∀ w ∈ tables_1_3, w ∈ lw_tbl := fun w h => nt_in w (by unfold tables_1; exact List.mem_append_right _ (List.mem_append_right _ (List.mem_append_left _ h)))
theorem nt_4 : ∀ w ∈ tables_1_4, w ∈ lw_tbl := fun w h => nt_in w (by unfold tables_1; exact List.mem_append_right _ (List.mem_append_right _ (List.mem_append_right _ (List.mem_append_left _ h))))
theorem nt_5 : ∀ w ∈ tables_1_5, w ∈ lw_tbl := fun w h => nt_in w (by unfold tables_1; exact List.mem_append_right _ (List.mem_append_right _ (List.mem_append_right _ (List.mem_append_right _ (h)))))
theorem nt_ok {w : Cond} (h : w ∈ lw_tbl) (hok : xo_ok w = true) : w ∈ xo_WS := List.mem_filter.mpr ⟨h, hok⟩
theorem nt_nw {w : Cond} (h : w ∈ lw_tbl) (hok : xo_isN w = true) : w ∈ xo_NW := List.mem_filter.mpr ⟨h, hok⟩
theorem nt_sel {y : MethodName} {n : Nat} (h : (y, n) ∈ lw_privs) : Cond.selects y.cls y y ∈ lw_tbl := List.mem_append_left _ (List.mem_map.mpr ⟨(y, n), h, rfl⟩)
theorem wy_K_0 : u_lay "FlowKernel" TF_K 0 ∈ xo_WS := (nt_ok (nt_1 _ (List.mem_of_getElem? (i := 95) rfl)) rfl)
theorem wy_K_1 : u_lay "FlowKernel" TF_K 1 ∈ xo_WS := (nt_ok (nt_1 _ (List.mem_of_getElem? (i := 97) rfl)) rfl)
theorem wy_K_2 : u_lay "FlowKernel" TF_K 2 ∈ xo_WS := (nt_ok (nt_1 _ (List.mem_of_getElem? (i := 99) rfl)) rfl)
theorem wy_K_3 : u_lay "FlowKernel" TF_K 3 ∈ xo_WS := (nt_ok (nt_1 _ (List.mem_of_getElem? (i := 101) rfl)) rfl)
theorem wy_K_4 : u_lay "FlowKernel" TF_K 4 ∈ xo_WS := (nt_ok (nt_1 _ (List.mem_of_getElem? (i := 103) rfl)) rfl)
theorem wy_K_5 : u_lay "FlowKernel" TF_K 5 ∈ xo_WS := (nt_ok (nt_1 _ (List.mem_of_getElem? (i := 105) rfl)) rfl)
theorem wy_K_6 : u_lay "FlowKernel" TF_K 6 ∈ xo_WS := (nt_ok (nt_1 _ (List.mem_of_getElem? (i := 107) rfl)) rfl)
theorem wy_K_7 : u_lay "FlowKernel" TF_K 7 ∈ xo_WS := (nt_ok (nt_1 _ (List.mem_of_getElem? (i := 109) rfl)) rfl)
theorem wy_K : ∀ w ∈ u_ws "FlowKernel" TF_K 8, w ∈ xo_WS := by
  intro w hw
  obtain ⟨k, hk, rfl⟩ := List.mem_map.mp hw
  have hk := List.mem_range.mp hk
  match k, hk with
  | 0, _ => exact wy_K_0
  | 1, _ => exact wy_K_1
  | 2, _ => exact wy_K_2
  | 3, _ => exact wy_K_3
  | 4, _ => exact wy_K_4
  | 5, _ => exact wy_K_5
  | 6, _ => exact wy_K_6
  | 7, _ => exact wy_K_7
  | k + 8, h => exact absurd h (by omega)
theorem cb_K : xo_cb 0 "FlowKernel" TF_K 8 ty_K := ⟨rfl, wy_K, by decide +kernel, by decide +kernel⟩
theorem cd_K : ∀ k, k < 8 → xo_fv (fun _ => 0) (TF_K k).2.2.1 0 none = defaultValue (ty_K k) := by decide +kernel
theorem wi_K : Cond.initialized "FlowKernel" ∈ xo_WS := (nt_ok (nt_1 _ (List.mem_of_getElem? (i := 1) rfl)) rfl)
theorem wn_K : Cond.instantiable "FlowKernel" 8 ∈ xo_WS := (nt_ok (nt_1 _ (List.mem_of_getElem? (i := 12) rfl)) rfl)
theorem wy_L_0 : u_lay "FlowKernel$EventLog" TF_L 0 ∈ xo_WS := (nt_ok (nt_1 _ (List.mem_of_getElem? (i := 30) rfl)) rfl)
theorem wy_L_1 : u_lay "FlowKernel$EventLog" TF_L 1 ∈ xo_WS := (nt_ok (nt_1 _ (List.mem_of_getElem? (i := 32) rfl)) rfl)
theorem wy_L_2 : u_lay "FlowKernel$EventLog" TF_L 2 ∈ xo_WS := (nt_ok (nt_1 _ (List.mem_of_getElem? (i := 34) rfl)) rfl)
theorem wy_L_3 : u_lay "FlowKernel$EventLog" TF_L 3 ∈ xo_WS := (nt_ok (nt_1 _ (List.mem_of_getElem? (i := 36) rfl)) rfl)
theorem wy_L : ∀ w ∈ u_ws "FlowKernel$EventLog" TF_L 4, w ∈ xo_WS := by
  intro w hw
  obtain ⟨k, hk, rfl⟩ := List.mem_map.mp hw
  have hk := List.mem_range.mp hk
  match k, hk with
  | 0, _ => exact wy_L_0
  | 1, _ => exact wy_L_1
  | 2, _ => exact wy_L_2
  | 3, _ => exact wy_L_3
  | k + 4, h => exact absurd h (by omega)
theorem cb_L : xo_cb 1 "FlowKernel$EventLog" TF_L 4 ty_L := ⟨rfl, wy_L, by decide +kernel, by decide +kernel⟩
theorem cd_L : ∀ k, k < 4 → xo_fv (fun _ => 0) (TF_L k).2.2.1 0 none = defaultValue (ty_L k) := by decide +kernel
theorem wi_L : Cond.initialized "FlowKernel$EventLog" ∈ xo_WS := (nt_ok (nt_1 _ (List.mem_of_getElem? (i := 2) rfl)) rfl)
theorem wn_L : Cond.instantiable "FlowKernel$EventLog" 4 ∈ xo_WS := (nt_ok (nt_1 _ (List.mem_of_getElem? (i := 20) rfl)) rfl)
theorem wy_J_0 : u_lay "FlowKernel$JobRow" TF_J 0 ∈ xo_WS := (nt_ok (nt_1 _ (List.mem_of_getElem? (i := 74) rfl)) rfl)
theorem wy_J_1 : u_lay "FlowKernel$JobRow" TF_J 1 ∈ xo_WS := (nt_ok (nt_1 _ (List.mem_of_getElem? (i := 76) rfl)) rfl)
theorem wy_J_2 : u_lay "FlowKernel$JobRow" TF_J 2 ∈ xo_WS := (nt_ok (nt_1 _ (List.mem_of_getElem? (i := 78) rfl)) rfl)
theorem wy_J : ∀ w ∈ u_ws "FlowKernel$JobRow" TF_J 3, w ∈ xo_WS := by
  intro w hw
  obtain ⟨k, hk, rfl⟩ := List.mem_map.mp hw
  have hk := List.mem_range.mp hk
  match k, hk with
  | 0, _ => exact wy_J_0
  | 1, _ => exact wy_J_1
  | 2, _ => exact wy_J_2
  | k + 3, h => exact absurd h (by omega)
theorem cb_J : xo_cb 2 "FlowKernel$JobRow" TF_J 3 ty_J := ⟨rfl, wy_J, by decide +kernel, by decide +kernel⟩
theorem cd_J : ∀ k, k < 3 → xo_fv (fun _ => 0) (TF_J k).2.2.1 0 none = defaultValue (ty_J k) := by decide +kernel
theorem wi_J : Cond.initialized "FlowKernel$JobRow" ∈ xo_WS := (nt_ok (nt_1 _ (List.mem_of_getElem? (i := 3) rfl)) rfl)
theorem wn_J : Cond.instantiable "FlowKernel$JobRow" 3 ∈ xo_WS := (nt_ok (nt_1 _ (List.mem_of_getElem? (i := 41) rfl)) rfl)
theorem wy_R_0 : u_lay "FlowKernel$Row" TF_R 0 ∈ xo_WS := (nt_ok (nt_1 _ (List.mem_of_getElem? (i := 61) rfl)) rfl)
theorem wy_R_1 : u_lay "FlowKernel$Row" TF_R 1 ∈ xo_WS := (nt_ok (nt_1 _ (List.mem_of_getElem? (i := 63) rfl)) rfl)
theorem wy_R_2 : u_lay "FlowKernel$Row" TF_R 2 ∈ xo_WS := (nt_ok (nt_1 _ (List.mem_of_getElem? (i := 65) rfl)) rfl)
theorem wy_R : ∀ w ∈ u_ws "FlowKernel$Row" TF_R 3, w ∈ xo_WS := by
  intro w hw
  obtain ⟨k, hk, rfl⟩ := List.mem_map.mp hw
  have hk := List.mem_range.mp hk
  match k, hk with
  | 0, _ => exact wy_R_0
  | 1, _ => exact wy_R_1
  | 2, _ => exact wy_R_2
  | k + 3, h => exact absurd h (by omega)
theorem cb_R : xo_cb 3 "FlowKernel$Row" TF_R 3 ty_R := ⟨rfl, wy_R, by decide +kernel, by decide +kernel⟩
theorem cd_R : ∀ k, k < 3 → xo_fv (fun _ => 0) (TF_R k).2.2.1 0 none = defaultValue (ty_R k) := by decide +kernel
theorem wi_R : Cond.initialized "FlowKernel$Row" ∈ xo_WS := (nt_ok (nt_1 _ (List.mem_of_getElem? (i := 4) rfl)) rfl)
theorem wn_R : Cond.instantiable "FlowKernel$Row" 3 ∈ xo_WS := (nt_ok (nt_1 _ (List.mem_of_getElem? (i := 47) rfl)) rfl)
theorem wy_C_0 : u_lay "FlowKernel$ChunkRow" TF_C 0 ∈ xo_WS := (nt_ok (nt_1 _ (List.mem_of_getElem? (i := 140) rfl)) rfl)
theorem wy_C_1 : u_lay "FlowKernel$ChunkRow" TF_C 1 ∈ xo_WS := (nt_ok (nt_1 _ (List.mem_of_getElem? (i := 142) rfl)) rfl)
theorem wy_C_2 : u_lay "FlowKernel$ChunkRow" TF_C 2 ∈ xo_WS := (nt_ok (nt_1 _ (List.mem_of_getElem? (i := 144) rfl)) rfl)
theorem wy_C_3 : u_lay "FlowKernel$ChunkRow" TF_C 3 ∈ xo_WS := (nt_ok (nt_1 _ (List.mem_of_getElem? (i := 146) rfl)) rfl)
theorem wy_C : ∀ w ∈ u_ws "FlowKernel$ChunkRow" TF_C 4, w ∈ xo_WS := by
  intro w hw
  obtain ⟨k, hk, rfl⟩ := List.mem_map.mp hw
  have hk := List.mem_range.mp hk
  match k, hk with
  | 0, _ => exact wy_C_0
  | 1, _ => exact wy_C_1
  | 2, _ => exact wy_C_2
  | 3, _ => exact wy_C_3
  | k + 4, h => exact absurd h (by omega)
theorem cb_C : xo_cb 4 "FlowKernel$ChunkRow" TF_C 4 ty_C := ⟨rfl, wy_C, by decide +kernel, by decide +kernel⟩
theorem cd_C : ∀ k, k < 4 → xo_fv (fun _ => 0) (TF_C k).2.2.1 0 none = defaultValue (ty_C k) := by decide +kernel
theorem wi_C : Cond.initialized "FlowKernel$ChunkRow" ∈ xo_WS := (nt_ok (nt_1 _ (List.mem_of_getElem? (i := 7) rfl)) rfl)
theorem wn_C : Cond.instantiable "FlowKernel$ChunkRow" 4 ∈ xo_WS := (nt_ok (nt_1 _ (List.mem_of_getElem? (i := 125) rfl)) rfl)
theorem wy_G_0 : u_lay "FlowKernel$Giver" TF_G 0 ∈ xo_WS := (nt_ok (nt_1 _ (List.mem_of_getElem? (i := 182) rfl)) rfl)
theorem wy_G_1 : u_lay "FlowKernel$Giver" TF_G 1 ∈ xo_WS := (nt_ok (nt_1 _ (List.mem_of_getElem? (i := 184) rfl)) rfl)
theorem wy_G_2 : u_lay "FlowKernel$Giver" TF_G 2 ∈ xo_WS := (nt_ok (nt_1 _ (List.mem_of_getElem? (i := 186) rfl)) rfl)
theorem wy_G_3 : u_lay "FlowKernel$Giver" TF_G 3 ∈ xo_WS := (nt_ok (nt_1 _ (List.mem_of_getElem? (i := 188) rfl)) rfl)
theorem wy_G_4 : u_lay "FlowKernel$Giver" TF_G 4 ∈ xo_WS := (nt_ok (nt_1 _ (List.mem_of_getElem? (i := 190) rfl)) rfl)
theorem wy_G_5 : u_lay "FlowKernel$Giver" TF_G 5 ∈ xo_WS := (nt_ok (nt_1 _ (List.mem_of_getElem? (i := 192) rfl)) rfl)
theorem wy_G_6 : u_lay "FlowKernel$Giver" TF_G 6 ∈ xo_WS := (nt_ok (nt_1 _ (List.mem_of_getElem? (i := 194) rfl)) rfl)
theorem wy_G_7 : u_lay "FlowKernel$Giver" TF_G 7 ∈ xo_WS := (nt_ok (nt_1 _ (List.mem_of_getElem? (i := 196) rfl)) rfl)
theorem wy_G_8 : u_lay "FlowKernel$Giver" TF_G 8 ∈ xo_WS := (nt_ok (nt_1 _ (List.mem_of_getElem? (i := 198) rfl)) rfl)
theorem wy_G_9 : u_lay "FlowKernel$Giver" TF_G 9 ∈ xo_WS := (nt_ok (nt_1 _ (List.mem_of_getElem? (i := 200) rfl)) rfl)
theorem wy_G_10 : u_lay "FlowKernel$Giver" TF_G 10 ∈ xo_WS := (nt_ok (nt_1 _ (List.mem_of_getElem? (i := 202) rfl)) rfl)
theorem wy_G_11 : u_lay "FlowKernel$Giver" TF_G 11 ∈ xo_WS := (nt_ok (nt_1 _ (List.mem_of_getElem? (i := 204) rfl)) rfl)
theorem wy_G_12 : u_lay "FlowKernel$Giver" TF_G 12 ∈ xo_WS := (nt_ok (nt_1 _ (List.mem_of_getElem? (i := 206) rfl)) rfl)
theorem wy_G_13 : u_lay "FlowKernel$Giver" TF_G 13 ∈ xo_WS := (nt_ok (nt_1 _ (List.mem_of_getElem? (i := 208) rfl)) rfl)
theorem wy_G : ∀ w ∈ u_ws "FlowKernel$Giver" TF_G 14, w ∈ xo_WS := by
  intro w hw
  obtain ⟨k, hk, rfl⟩ := List.mem_map.mp hw
  have hk := List.mem_range.mp hk
  match k, hk with
  | 0, _ => exact wy_G_0
  | 1, _ => exact wy_G_1
  | 2, _ => exact wy_G_2
  | 3, _ => exact wy_G_3
  | 4, _ => exact wy_G_4
  | 5, _ => exact wy_G_5
  | 6, _ => exact wy_G_6
  | 7, _ => exact wy_G_7
  | 8, _ => exact wy_G_8
  | 9, _ => exact wy_G_9
  | 10, _ => exact wy_G_10
  | 11, _ => exact wy_G_11
  | 12, _ => exact wy_G_12
  | 13, _ => exact wy_G_13
  | k + 14, h => exact absurd h (by omega)
theorem cb_G : xo_cb 5 "FlowKernel$Giver" TF_G 14 ty_G := ⟨rfl, wy_G, by decide +kernel, by decide +kernel⟩
theorem cd_G : ∀ k, k < 14 → xo_fv (fun _ => 0) (TF_G k).2.2.1 0 none = defaultValue (ty_G k) := by decide +kernel
theorem wi_G : Cond.initialized "FlowKernel$Giver" ∈ xo_WS := (nt_ok (nt_1 _ (List.mem_of_getElem? (i := 6) rfl)) rfl)
theorem wn_G : Cond.instantiable "FlowKernel$Giver" 14 ∈ xo_WS := (nt_ok (nt_1 _ (List.mem_of_getElem? (i := 123) rfl)) rfl)
theorem wy_A_0 : u_lay "FlowKernel$Parting" TF_A 0 ∈ xo_WS := (nt_ok (nt_3 _ (List.mem_of_getElem? (i := 99) rfl)) rfl)
theorem wy_A_1 : u_lay "FlowKernel$Parting" TF_A 1 ∈ xo_WS := (nt_ok (nt_3 _ (List.mem_of_getElem? (i := 101) rfl)) rfl)
theorem wy_A_2 : u_lay "FlowKernel$Parting" TF_A 2 ∈ xo_WS := (nt_ok (nt_3 _ (List.mem_of_getElem? (i := 103) rfl)) rfl)
theorem wy_A_3 : u_lay "FlowKernel$Parting" TF_A 3 ∈ xo_WS := (nt_ok (nt_3 _ (List.mem_of_getElem? (i := 105) rfl)) rfl)
theorem wy_A : ∀ w ∈ u_ws "FlowKernel$Parting" TF_A 4, w ∈ xo_WS := by
  intro w hw
  obtain ⟨k, hk, rfl⟩ := List.mem_map.mp hw
  have hk := List.mem_range.mp hk
  match k, hk with
  | 0, _ => exact wy_A_0
  | 1, _ => exact wy_A_1
  | 2, _ => exact wy_A_2
  | 3, _ => exact wy_A_3
  | k + 4, h => exact absurd h (by omega)
theorem cb_A : xo_cb 6 "FlowKernel$Parting" TF_A 4 ty_A := ⟨rfl, wy_A, by decide +kernel, by decide +kernel⟩
theorem cd_A : ∀ k, k < 4 → xo_fv (fun _ => 0) (TF_A k).2.2.1 0 none = defaultValue (ty_A k) := by decide +kernel
theorem wi_A : Cond.initialized "FlowKernel$Parting" ∈ xo_WS := (nt_ok (nt_1 _ (List.mem_of_getElem? (i := 10) rfl)) rfl)
theorem wn_A : Cond.instantiable "FlowKernel$Parting" 4 ∈ xo_WS := (nt_ok (nt_3 _ (List.mem_of_getElem? (i := 87) rfl)) rfl)
theorem wy_T_0 : u_lay "FlowKernel$Taker" TF_T 0 ∈ xo_WS := (nt_ok (nt_2 _ (List.mem_of_getElem? (i := 85) rfl)) rfl)
theorem wy_T_1 : u_lay "FlowKernel$Taker" TF_T 1 ∈ xo_WS := (nt_ok (nt_2 _ (List.mem_of_getElem? (i := 87) rfl)) rfl)
theorem wy_T_2 : u_lay "FlowKernel$Taker" TF_T 2 ∈ xo_WS := (nt_ok (nt_2 _ (List.mem_of_getElem? (i := 89) rfl)) rfl)
theorem wy_T_3 : u_lay "FlowKernel$Taker" TF_T 3 ∈ xo_WS := (nt_ok (nt_2 _ (List.mem_of_getElem? (i := 91) rfl)) rfl)
theorem wy_T_4 : u_lay "FlowKernel$Taker" TF_T 4 ∈ xo_WS := (nt_ok (nt_2 _ (List.mem_of_getElem? (i := 93) rfl)) rfl)
theorem wy_T_5 : u_lay "FlowKernel$Taker" TF_T 5 ∈ xo_WS := (nt_ok (nt_2 _ (List.mem_of_getElem? (i := 95) rfl)) rfl)
theorem wy_T_6 : u_lay "FlowKernel$Taker" TF_T 6 ∈ xo_WS := (nt_ok (nt_2 _ (List.mem_of_getElem? (i := 97) rfl)) rfl)
theorem wy_T_7 : u_lay "FlowKernel$Taker" TF_T 7 ∈ xo_WS := (nt_ok (nt_2 _ (List.mem_of_getElem? (i := 99) rfl)) rfl)
theorem wy_T_8 : u_lay "FlowKernel$Taker" TF_T 8 ∈ xo_WS := (nt_ok (nt_2 _ (List.mem_of_getElem? (i := 101) rfl)) rfl)
theorem wy_T_9 : u_lay "FlowKernel$Taker" TF_T 9 ∈ xo_WS := (nt_ok (nt_2 _ (List.mem_of_getElem? (i := 103) rfl)) rfl)
theorem wy_T_10 : u_lay "FlowKernel$Taker" TF_T 10 ∈ xo_WS := (nt_ok (nt_2 _ (List.mem_of_getElem? (i := 105) rfl)) rfl)
theorem wy_T_11 : u_lay "FlowKernel$Taker" TF_T 11 ∈ xo_WS := (nt_ok (nt_2 _ (List.mem_of_getElem? (i := 107) rfl)) rfl)
theorem wy_T_12 : u_lay "FlowKernel$Taker" TF_T 12 ∈ xo_WS := (nt_ok (nt_2 _ (List.mem_of_getElem? (i := 109) rfl)) rfl)
theorem wy_T : ∀ w ∈ u_ws "FlowKernel$Taker" TF_T 13, w ∈ xo_WS := by
  intro w hw
  obtain ⟨k, hk, rfl⟩ := List.mem_map.mp hw
  have hk := List.mem_range.mp hk
  match k, hk with
  | 0, _ => exact wy_T_0
  | 1, _ => exact wy_T_1
  | 2, _ => exact wy_T_2
  | 3, _ => exact wy_T_3
  | 4, _ => exact wy_T_4
  | 5, _ => exact wy_T_5
  | 6, _ => exact wy_T_6
  | 7, _ => exact wy_T_7
  | 8, _ => exact wy_T_8
  | 9, _ => exact wy_T_9
  | 10, _ => exact wy_T_10
  | 11, _ => exact wy_T_11
  | 12, _ => exact wy_T_12
  | k + 13, h => exact absurd h (by omega)
theorem cb_T : xo_cb 7 "FlowKernel$Taker" TF_T 13 ty_T := ⟨rfl, wy_T, by decide +kernel, by decide +kernel⟩
theorem cd_T : ∀ k, k < 13 → xo_fv (fun _ => 0) (TF_T k).2.2.1 0 none = defaultValue (ty_T k) := by decide +kernel
theorem wi_T : Cond.initialized "FlowKernel$Taker" ∈ xo_WS := (nt_ok (nt_1 _ (List.mem_of_getElem? (i := 8) rfl)) rfl)
theorem wn_T : Cond.instantiable "FlowKernel$Taker" 13 ∈ xo_WS := (nt_ok (nt_2 _ (List.mem_of_getElem? (i := 56) rfl)) rfl)
theorem wy_P_0 : u_lay "FlowKernel$Pipe" TF_P 0 ∈ xo_WS := (nt_ok (nt_3 _ (List.mem_of_getElem? (i := 67) rfl)) rfl)
theorem wy_P_1 : u_lay "FlowKernel$Pipe" TF_P 1 ∈ xo_WS := (nt_ok (nt_3 _ (List.mem_of_getElem? (i := 69) rfl)) rfl)
theorem wy_P_2 : u_lay "FlowKernel$Pipe" TF_P 2 ∈ xo_WS := (nt_ok (nt_3 _ (List.mem_of_getElem? (i := 71) rfl)) rfl)
theorem wy_P_3 : u_lay "FlowKernel$Pipe" TF_P 3 ∈ xo_WS := (nt_ok (nt_3 _ (List.mem_of_getElem? (i := 73) rfl)) rfl)
theorem wy_P_4 : u_lay "FlowKernel$Pipe" TF_P 4 ∈ xo_WS := (nt_ok (nt_3 _ (List.mem_of_getElem? (i := 75) rfl)) rfl)
theorem wy_P_5 : u_lay "FlowKernel$Pipe" TF_P 5 ∈ xo_WS := (nt_ok (nt_3 _ (List.mem_of_getElem? (i := 77) rfl)) rfl)
theorem wy_P_6 : u_lay "FlowKernel$Pipe" TF_P 6 ∈ xo_WS := (nt_ok (nt_3 _ (List.mem_of_getElem? (i := 79) rfl)) rfl)
theorem wy_P : ∀ w ∈ u_ws "FlowKernel$Pipe" TF_P 7, w ∈ xo_WS := by
  intro w hw
  obtain ⟨k, hk, rfl⟩ := List.mem_map.mp hw
  have hk := List.mem_range.mp hk
  match k, hk with
  | 0, _ => exact wy_P_0
  | 1, _ => exact wy_P_1
  | 2, _ => exact wy_P_2
  | 3, _ => exact wy_P_3
  | 4, _ => exact wy_P_4
  | 5, _ => exact wy_P_5
  | 6, _ => exact wy_P_6
  | k + 7, h => exact absurd h (by omega)
theorem cb_P : xo_cb 8 "FlowKernel$Pipe" TF_P 7 ty_P := ⟨rfl, wy_P, by decide +kernel, by decide +kernel⟩
theorem cd_P : ∀ k, k < 7 → xo_fv (fun _ => 0) (TF_P k).2.2.1 0 none = defaultValue (ty_P k) := by decide +kernel
theorem wi_P : Cond.initialized "FlowKernel$Pipe" ∈ xo_WS := (nt_ok (nt_1 _ (List.mem_of_getElem? (i := 9) rfl)) rfl)
theorem wn_P : Cond.instantiable "FlowKernel$Pipe" 7 ∈ xo_WS := (nt_ok (nt_3 _ (List.mem_of_getElem? (i := 48) rfl)) rfl)
theorem wy_M_0 : u_lay "FlowKernelModel" TF_M 0 ∈ xo_WS := (nt_ok (nt_4 _ (List.mem_of_getElem? (i := 49) rfl)) rfl)
theorem wy_M_1 : u_lay "FlowKernelModel" TF_M 1 ∈ xo_WS := (nt_ok (nt_4 _ (List.mem_of_getElem? (i := 51) rfl)) rfl)
theorem wy_M_2 : u_lay "FlowKernelModel" TF_M 2 ∈ xo_WS := (nt_ok (nt_4 _ (List.mem_of_getElem? (i := 53) rfl)) rfl)
theorem wy_M_3 : u_lay "FlowKernelModel" TF_M 3 ∈ xo_WS := (nt_ok (nt_4 _ (List.mem_of_getElem? (i := 55) rfl)) rfl)
theorem wy_M_4 : u_lay "FlowKernelModel" TF_M 4 ∈ xo_WS := (nt_ok (nt_4 _ (List.mem_of_getElem? (i := 57) rfl)) rfl)
theorem wy_M_5 : u_lay "FlowKernelModel" TF_M 5 ∈ xo_WS := (nt_ok (nt_4 _ (List.mem_of_getElem? (i := 59) rfl)) rfl)
theorem wy_M_6 : u_lay "FlowKernelModel" TF_M 6 ∈ xo_WS := (nt_ok (nt_4 _ (List.mem_of_getElem? (i := 61) rfl)) rfl)
theorem wy_M_7 : u_lay "FlowKernelModel" TF_M 7 ∈ xo_WS := (nt_ok (nt_4 _ (List.mem_of_getElem? (i := 63) rfl)) rfl)
theorem wy_M_8 : u_lay "FlowKernelModel" TF_M 8 ∈ xo_WS := (nt_ok (nt_4 _ (List.mem_of_getElem? (i := 65) rfl)) rfl)
theorem wy_M_9 : u_lay "FlowKernelModel" TF_M 9 ∈ xo_WS := (nt_ok (nt_4 _ (List.mem_of_getElem? (i := 67) rfl)) rfl)
theorem wy_M_10 : u_lay "FlowKernelModel" TF_M 10 ∈ xo_WS := (nt_ok (nt_4 _ (List.mem_of_getElem? (i := 69) rfl)) rfl)
theorem wy_M_11 : u_lay "FlowKernelModel" TF_M 11 ∈ xo_WS := (nt_ok (nt_4 _ (List.mem_of_getElem? (i := 71) rfl)) rfl)
theorem wy_M_12 : u_lay "FlowKernelModel" TF_M 12 ∈ xo_WS := (nt_ok (nt_4 _ (List.mem_of_getElem? (i := 73) rfl)) rfl)
theorem wy_M_13 : u_lay "FlowKernelModel" TF_M 13 ∈ xo_WS := (nt_ok (nt_4 _ (List.mem_of_getElem? (i := 75) rfl)) rfl)
theorem wy_M_14 : u_lay "FlowKernelModel" TF_M 14 ∈ xo_WS := (nt_ok (nt_4 _ (List.mem_of_getElem? (i := 77) rfl)) rfl)
theorem wy_M_15 : u_lay "FlowKernelModel" TF_M 15 ∈ xo_WS := (nt_ok (nt_4 _ (List.mem_of_getElem? (i := 79) rfl)) rfl)
theorem wy_M_16 : u_lay "FlowKernelModel" TF_M 16 ∈ xo_WS := (nt_ok (nt_4 _ (List.mem_of_getElem? (i := 81) rfl)) rfl)
theorem wy_M_17 : u_lay "FlowKernelModel" TF_M 17 ∈ xo_WS := (nt_ok (nt_4 _ (List.mem_of_getElem? (i := 83) rfl)) rfl)
theorem wy_M_18 : u_lay "FlowKernelModel" TF_M 18 ∈ xo_WS := (nt_ok (nt_4 _ (List.mem_of_getElem? (i := 85) rfl)) rfl)
theorem wy_M_19 : u_lay "FlowKernelModel" TF_M 19 ∈ xo_WS := (nt_ok (nt_4 _ (List.mem_of_getElem? (i := 87) rfl)) rfl)
theorem wy_M_20 : u_lay "FlowKernelModel" TF_M 20 ∈ xo_WS := (nt_ok (nt_4 _ (List.mem_of_getElem? (i := 89) rfl)) rfl)
theorem wy_M_21 : u_lay "FlowKernelModel" TF_M 21 ∈ xo_WS := (nt_ok (nt_4 _ (List.mem_of_getElem? (i := 91) rfl)) rfl)
theorem wy_M_22 : u_lay "FlowKernelModel" TF_M 22 ∈ xo_WS := (nt_ok (nt_4 _ (List.mem_of_getElem? (i := 93) rfl)) rfl)
theorem wy_M_23 : u_lay "FlowKernelModel" TF_M 23 ∈ xo_WS := (nt_ok (nt_4 _ (List.mem_of_getElem? (i := 95) rfl)) rfl)
theorem wy_M_24 : u_lay "FlowKernelModel" TF_M 24 ∈ xo_WS := (nt_ok (nt_4 _ (List.mem_of_getElem? (i := 97) rfl)) rfl)
theorem wy_M_25 : u_lay "FlowKernelModel" TF_M 25 ∈ xo_WS := (nt_ok (nt_4 _ (List.mem_of_getElem? (i := 99) rfl)) rfl)
theorem wy_M_26 : u_lay "FlowKernelModel" TF_M 26 ∈ xo_WS := (nt_ok (nt_4 _ (List.mem_of_getElem? (i := 101) rfl)) rfl)
theorem wy_M_27 : u_lay "FlowKernelModel" TF_M 27 ∈ xo_WS := (nt_ok (nt_4 _ (List.mem_of_getElem? (i := 103) rfl)) rfl)
theorem wy_M_28 : u_lay "FlowKernelModel" TF_M 28 ∈ xo_WS := (nt_ok (nt_4 _ (List.mem_of_getElem? (i := 105) rfl)) rfl)
theorem wy_M_29 : u_lay "FlowKernelModel" TF_M 29 ∈ xo_WS := (nt_ok (nt_4 _ (List.mem_of_getElem? (i := 107) rfl)) rfl)
theorem wy_M_30 : u_lay "FlowKernelModel" TF_M 30 ∈ xo_WS := (nt_ok (nt_4 _ (List.mem_of_getElem? (i := 109) rfl)) rfl)
theorem wy_M_31 : u_lay "FlowKernelModel" TF_M 31 ∈ xo_WS := (nt_ok (nt_4 _ (List.mem_of_getElem? (i := 111) rfl)) rfl)
theorem wy_M_32 : u_lay "FlowKernelModel" TF_M 32 ∈ xo_WS := (nt_ok (nt_4 _ (List.mem_of_getElem? (i := 113) rfl)) rfl)
theorem wy_M_33 : u_lay "FlowKernelModel" TF_M 33 ∈ xo_WS := (nt_ok (nt_4 _ (List.mem_of_getElem? (i := 115) rfl)) rfl)
theorem wy_M_34 : u_lay "FlowKernelModel" TF_M 34 ∈ xo_WS := (nt_ok (nt_4 _ (List.mem_of_getElem? (i := 117) rfl)) rfl)
theorem wy_M_35 : u_lay "FlowKernelModel" TF_M 35 ∈ xo_WS := (nt_ok (nt_4 _ (List.mem_of_getElem? (i := 119) rfl)) rfl)
theorem wy_M_36 : u_lay "FlowKernelModel" TF_M 36 ∈ xo_WS := (nt_ok (nt_4 _ (List.mem_of_getElem? (i := 121) rfl)) rfl)
theorem wy_M_37 : u_lay "FlowKernelModel" TF_M 37 ∈ xo_WS := (nt_ok (nt_4 _ (List.mem_of_getElem? (i := 123) rfl)) rfl)
theorem wy_M_38 : u_lay "FlowKernelModel" TF_M 38 ∈ xo_WS := (nt_ok (nt_4 _ (List.mem_of_getElem? (i := 125) rfl)) rfl)
theorem wy_M_39 : u_lay "FlowKernelModel" TF_M 39 ∈ xo_WS := (nt_ok (nt_4 _ (List.mem_of_getElem? (i := 127) rfl)) rfl)
theorem wy_M_40 : u_lay "FlowKernelModel" TF_M 40 ∈ xo_WS := (nt_ok (nt_4 _ (List.mem_of_getElem? (i := 129) rfl)) rfl)
theorem wy_M_41 : u_lay "FlowKernelModel" TF_M 41 ∈ xo_WS := (nt_ok (nt_4 _ (List.mem_of_getElem? (i := 131) rfl)) rfl)
theorem wy_M_42 : u_lay "FlowKernelModel" TF_M 42 ∈ xo_WS := (nt_ok (nt_4 _ (List.mem_of_getElem? (i := 133) rfl)) rfl)
theorem wy_M_43 : u_lay "FlowKernelModel" TF_M 43 ∈ xo_WS := (nt_ok (nt_4 _ (List.mem_of_getElem? (i := 135) rfl)) rfl)
theorem wy_M_44 : u_lay "FlowKernelModel" TF_M 44 ∈ xo_WS := (nt_ok (nt_4 _ (List.mem_of_getElem? (i := 137) rfl)) rfl)
theorem wy_M_45 : u_lay "FlowKernelModel" TF_M 45 ∈ xo_WS := (nt_ok (nt_4 _ (List.mem_of_getElem? (i := 139) rfl)) rfl)
theorem wy_M_46 : u_lay "FlowKernelModel" TF_M 46 ∈ xo_WS := (nt_ok (nt_4 _ (List.mem_of_getElem? (i := 141) rfl)) rfl)
theorem wy_M_47 : u_lay "FlowKernelModel" TF_M 47 ∈ xo_WS := (nt_ok (nt_4 _ (List.mem_of_getElem? (i := 143) rfl)) rfl)
theorem wy_M_48 : u_lay "FlowKernelModel" TF_M 48 ∈ xo_WS := (nt_ok (nt_4 _ (List.mem_of_getElem? (i := 145) rfl)) rfl)
theorem wy_M_49 : u_lay "FlowKernelModel" TF_M 49 ∈ xo_WS := (nt_ok (nt_4 _ (List.mem_of_getElem? (i := 147) rfl)) rfl)
theorem wy_M_50 : u_lay "FlowKernelModel" TF_M 50 ∈ xo_WS := (nt_ok (nt_4 _ (List.mem_of_getElem? (i := 149) rfl)) rfl)
theorem wy_M : ∀ w ∈ u_ws "FlowKernelModel" TF_M 51, w ∈ xo_WS := by
  intro w hw
  obtain ⟨k, hk, rfl⟩ := List.mem_map.mp hw
  have hk := List.mem_range.mp hk
  match k, hk with
  | 0, _ => exact wy_M_0
  | 1, _ => exact wy_M_1
  | 2, _ => exact wy_M_2
  | 3, _ => exact wy_M_3
  | 4, _ => exact wy_M_4
  | 5, _ => exact wy_M_5
  | 6, _ => exact wy_M_6
  | 7, _ => exact wy_M_7
  | 8, _ => exact wy_M_8
  | 9, _ => exact wy_M_9
  | 10, _ => exact wy_M_10
  | 11, _ => exact wy_M_11
  | 12, _ => exact wy_M_12
  | 13, _ => exact wy_M_13
  | 14, _ => exact wy_M_14
  | 15, _ => exact wy_M_15
  | 16, _ => exact wy_M_16
  | 17, _ => exact wy_M_17
  | 18, _ => exact wy_M_18
  | 19, _ => exact wy_M_19
  | 20, _ => exact wy_M_20
  | 21, _ => exact wy_M_21
  | 22, _ => exact wy_M_22
  | 23, _ => exact wy_M_23
  | 24, _ => exact wy_M_24
  | 25, _ => exact wy_M_25
  | 26, _ => exact wy_M_26
  | 27, _ => exact wy_M_27
  | 28, _ => exact wy_M_28
  | 29, _ => exact wy_M_29
  | 30, _ => exact wy_M_30
  | 31, _ => exact wy_M_31
  | 32, _ => exact wy_M_32
  | 33, _ => exact wy_M_33
  | 34, _ => exact wy_M_34
  | 35, _ => exact wy_M_35
  | 36, _ => exact wy_M_36
  | 37, _ => exact wy_M_37
  | 38, _ => exact wy_M_38
  | 39, _ => exact wy_M_39
  | 40, _ => exact wy_M_40
  | 41, _ => exact wy_M_41
  | 42, _ => exact wy_M_42
  | 43, _ => exact wy_M_43
  | 44, _ => exact wy_M_44
  | 45, _ => exact wy_M_45
  | 46, _ => exact wy_M_46
  | 47, _ => exact wy_M_47
  | 48, _ => exact wy_M_48
  | 49, _ => exact wy_M_49
  | 50, _ => exact wy_M_50
  | k + 51, h => exact absurd h (by omega)
theorem cb_M : xo_cb 9 "FlowKernelModel" TF_M 51 ty_M := ⟨rfl, wy_M, by decide +kernel, by decide +kernel⟩
theorem cd_M : ∀ k, k < 51 → xo_fv (fun _ => 0) (TF_M k).2.2.1 0 none = defaultValue (ty_M k) := by decide +kernel
theorem wi_M : Cond.initialized "FlowKernelModel" ∈ xo_WS := (nt_ok (nt_1 _ (List.mem_of_getElem? (i := 5) rfl)) rfl)
theorem wn_M : Cond.instantiable "FlowKernelModel" 51 ∈ xo_WS := (nt_ok (nt_3 _ (List.mem_of_getElem? (i := 233) rfl)) rfl)
theorem wa_0 : Cond.arrayClass (xo_ta 0) ∈ xo_WS := (nt_ok (nt_1 _ (List.mem_of_getElem? (i := 39) rfl)) rfl)
theorem wa_1 : Cond.arrayClass (xo_ta 1) ∈ xo_WS := (nt_ok (nt_4 _ (List.mem_of_getElem? (i := 152) rfl)) rfl)
theorem wo_inst : Cond.instanceMethod Lib.objectInit ∈ xo_WS := (nt_ok (nt_1 _ (List.mem_of_getElem? (i := 17) rfl)) rfl)
theorem wo_code : Cond.code Lib.objectInit ⟨#[0xb1]⟩ 1 none ∈ xo_WS := (nt_ok (nt_1 _ (List.mem_of_getElem? (i := 18) rfl)) rfl)
theorem wo_L_3 : Cond.methodLink "FlowKernel$EventLog" 3 Lib.objectInit ∈ xo_WS := (nt_ok (nt_1 _ (List.mem_of_getElem? (i := 24) rfl)) rfl)
theorem ff_L_9 : xo_fd "FlowKernel$EventLog" 9 1 0 "[I" true := ⟨"FlowKernel$EventLog", TF_L, 4, ty_L, cb_L, Or.inl (nt_ok (nt_1 _ (List.mem_of_getElem? (i := 25) rfl)) rfl), by decide, rfl, rfl, rfl⟩
theorem fF_L_9 : xo_fF "FlowKernel$EventLog" 9 1 0 "[I" := ⟨"FlowKernel$EventLog", TF_L, 4, ty_L, cb_L, (nt_ok (nt_1 _ (List.mem_of_getElem? (i := 25) rfl)) rfl), by decide, rfl, rfl, rfl, rfl⟩
theorem ff_L_15 : xo_fd "FlowKernel$EventLog" 15 1 1 "[I" true := ⟨"FlowKernel$EventLog", TF_L, 4, ty_L, cb_L, Or.inl (nt_ok (nt_1 _ (List.mem_of_getElem? (i := 26) rfl)) rfl), by decide, rfl, rfl, rfl⟩
theorem fF_L_15 : xo_fF "FlowKernel$EventLog" 15 1 1 "[I" := ⟨"FlowKernel$EventLog", TF_L, 4, ty_L, cb_L, (nt_ok (nt_1 _ (List.mem_of_getElem? (i := 26) rfl)) rfl), by decide, rfl, rfl, rfl, rfl⟩
theorem ff_L_18 : xo_fd "FlowKernel$EventLog" 18 1 2 "[I" true := ⟨"FlowKernel$EventLog", TF_L, 4, ty_L, cb_L, Or.inl (nt_ok (nt_1 _ (List.mem_of_getElem? (i := 27) rfl)) rfl), by decide, rfl, rfl, rfl⟩
theorem fF_L_18 : xo_fF "FlowKernel$EventLog" 18 1 2 "[I" := ⟨"FlowKernel$EventLog", TF_L, 4, ty_L, cb_L, (nt_ok (nt_1 _ (List.mem_of_getElem? (i := 27) rfl)) rfl), by decide, rfl, rfl, rfl, rfl⟩
theorem wo_R_1 : Cond.methodLink "FlowKernel$Row" 1 Lib.objectInit ∈ xo_WS := (nt_ok (nt_1 _ (List.mem_of_getElem? (i := 51) rfl)) rfl)
theorem ff_R_7 : xo_fd "FlowKernel$Row" 7 3 0 "[I" true := ⟨"FlowKernel$Row", TF_R, 3, ty_R, cb_R, Or.inl (nt_ok (nt_1 _ (List.mem_of_getElem? (i := 52) rfl)) rfl), by decide, rfl, rfl, rfl⟩
theorem fF_R_7 : xo_fF "FlowKernel$Row" 7 3 0 "[I" := ⟨"FlowKernel$Row", TF_R, 3, ty_R, cb_R, (nt_ok (nt_1 _ (List.mem_of_getElem? (i := 52) rfl)) rfl), by decide, rfl, rfl, rfl, rfl⟩
theorem wo_J_3 : Cond.methodLink "FlowKernel$JobRow" 3 Lib.objectInit ∈ xo_WS := (nt_ok (nt_1 _ (List.mem_of_getElem? (i := 45) rfl)) rfl)
theorem co_J_9 : xo_cO "FlowKernel$JobRow" 9 3 3 := ⟨"FlowKernel$Row", TF_R, ty_R, cb_R, cd_R, (nt_ok (nt_1 _ (List.mem_of_getElem? (i := 46) rfl)) rfl), wn_R, wi_R⟩
theorem ml_J_11 : xo_ml "FlowKernel$JobRow" 11 ⟨"FlowKernel$Row", "<init>", "(I)V"⟩ := Or.inl (nt_ok (nt_1 _ (List.mem_of_getElem? (i := 48) rfl)) rfl)
theorem ff_J_14 : xo_fd "FlowKernel$JobRow" 14 2 0 "LFlowKernel$Row;" true := ⟨"FlowKernel$JobRow", TF_J, 3, ty_J, cb_J, Or.inl (nt_ok (nt_1 _ (List.mem_of_getElem? (i := 68) rfl)) rfl), by decide, rfl, rfl, rfl⟩
theorem fF_J_14 : xo_fF "FlowKernel$JobRow" 14 2 0 "LFlowKernel$Row;" := ⟨"FlowKernel$JobRow", TF_J, 3, ty_J, cb_J, (nt_ok (nt_1 _ (List.mem_of_getElem? (i := 68) rfl)) rfl), by decide, rfl, rfl, rfl, rfl⟩
theorem ff_J_20 : xo_fd "FlowKernel$JobRow" 20 2 1 "LFlowKernel$Row;" true := ⟨"FlowKernel$JobRow", TF_J, 3, ty_J, cb_J, Or.inl (nt_ok (nt_1 _ (List.mem_of_getElem? (i := 70) rfl)) rfl), by decide, rfl, rfl, rfl⟩
theorem fF_J_20 : xo_fF "FlowKernel$JobRow" 20 2 1 "LFlowKernel$Row;" := ⟨"FlowKernel$JobRow", TF_J, 3, ty_J, cb_J, (nt_ok (nt_1 _ (List.mem_of_getElem? (i := 70) rfl)) rfl), by decide, rfl, rfl, rfl, rfl⟩
theorem ff_J_23 : xo_fd "FlowKernel$JobRow" 23 2 2 "LFlowKernel$Row;" true := ⟨"FlowKernel$JobRow", TF_J, 3, ty_J, cb_J, Or.inl (nt_ok (nt_1 _ (List.mem_of_getElem? (i := 72) rfl)) rfl), by decide, rfl, rfl, rfl⟩
theorem fF_J_23 : xo_fF "FlowKernel$JobRow" 23 2 2 "LFlowKernel$Row;" := ⟨"FlowKernel$JobRow", TF_J, 3, ty_J, cb_J, (nt_ok (nt_1 _ (List.mem_of_getElem? (i := 72) rfl)) rfl), by decide, rfl, rfl, rfl, rfl⟩
theorem wo_K_3 : Cond.methodLink "FlowKernel" 3 Lib.objectInit ∈ xo_WS := (nt_ok (nt_1 _ (List.mem_of_getElem? (i := 16) rfl)) rfl)
theorem co_K_9 : xo_cO "FlowKernel" 9 1 4 := ⟨"FlowKernel$EventLog", TF_L, ty_L, cb_L, cd_L, (nt_ok (nt_1 _ (List.mem_of_getElem? (i := 19) rfl)) rfl), wn_L, wi_L⟩
theorem ml_K_11 : xo_ml "FlowKernel" 11 ⟨"FlowKernel$EventLog", "<init>", "()V"⟩ := Or.inr ⟨_, nt_nw (nt_1 _ (List.mem_of_getElem? (i := 21) rfl)) rfl⟩
theorem ff_K_12 : xo_fd "FlowKernel" 12 0 0 "LFlowKernel$EventLog;" true := ⟨"FlowKernel", TF_K, 8, ty_K, cb_K, Or.inl (nt_ok (nt_1 _ (List.mem_of_getElem? (i := 87) rfl)) rfl), by decide, rfl, rfl, rfl⟩
theorem fF_K_12 : xo_fF "FlowKernel" 12 0 0 "LFlowKernel$EventLog;" := ⟨"FlowKernel", TF_K, 8, ty_K, cb_K, (nt_ok (nt_1 _ (List.mem_of_getElem? (i := 87) rfl)) rfl), by decide, rfl, rfl, rfl, rfl⟩
theorem co_K_16 : xo_cO "FlowKernel" 16 2 3 := ⟨"FlowKernel$JobRow", TF_J, ty_J, cb_J, cd_J, (nt_ok (nt_1 _ (List.mem_of_getElem? (i := 40) rfl)) rfl), wn_J, wi_J⟩
theorem ml_K_18 : xo_ml "FlowKernel" 18 ⟨"FlowKernel$JobRow", "<init>", "()V"⟩ := Or.inr ⟨_, nt_nw (nt_1 _ (List.mem_of_getElem? (i := 42) rfl)) rfl⟩
theorem ff_K_19 : xo_fd "FlowKernel" 19 0 1 "LFlowKernel$JobRow;" true := ⟨"FlowKernel", TF_K, 8, ty_K, cb_K, Or.inl (nt_ok (nt_1 _ (List.mem_of_getElem? (i := 88) rfl)) rfl), by decide, rfl, rfl, rfl⟩
theorem fF_K_19 : xo_fF "FlowKernel" 19 0 1 "LFlowKernel$JobRow;" := ⟨"FlowKernel", TF_K, 8, ty_K, cb_K, (nt_ok (nt_1 _ (List.mem_of_getElem? (i := 88) rfl)) rfl), by decide, rfl, rfl, rfl, rfl⟩
theorem wl_K_23 : Cond.classLink "FlowKernel" 23 (xo_tn 2) ∈ xo_WS := (nt_ok (nt_1 _ (List.mem_of_getElem? (i := 81) rfl)) rfl)
theorem ff_K_25 : xo_fd "FlowKernel" 25 0 2 "[LFlowKernel$Giver;" true := ⟨"FlowKernel", TF_K, 8, ty_K, cb_K, Or.inl (nt_ok (nt_1 _ (List.mem_of_getElem? (i := 89) rfl)) rfl), by decide, rfl, rfl, rfl⟩
theorem fF_K_25 : xo_fF "FlowKernel" 25 0 2 "[LFlowKernel$Giver;" := ⟨"FlowKernel", TF_K, 8, ty_K, cb_K, (nt_ok (nt_1 _ (List.mem_of_getElem? (i := 89) rfl)) rfl), by decide, rfl, rfl, rfl, rfl⟩
theorem wl_K_29 : Cond.classLink "FlowKernel" 29 (xo_tn 3) ∈ xo_WS := (nt_ok (nt_1 _ (List.mem_of_getElem? (i := 83) rfl)) rfl)
theorem ff_K_31 : xo_fd "FlowKernel" 31 0 3 "[LFlowKernel$Taker;" true := ⟨"FlowKernel", TF_K, 8, ty_K, cb_K, Or.inl (nt_ok (nt_1 _ (List.mem_of_getElem? (i := 90) rfl)) rfl), by decide, rfl, rfl, rfl⟩
theorem fF_K_31 : xo_fF "FlowKernel" 31 0 3 "[LFlowKernel$Taker;" := ⟨"FlowKernel", TF_K, 8, ty_K, cb_K, (nt_ok (nt_1 _ (List.mem_of_getElem? (i := 90) rfl)) rfl), by decide, rfl, rfl, rfl, rfl⟩
theorem wl_K_35 : Cond.classLink "FlowKernel" 35 (xo_tn 4) ∈ xo_WS := (nt_ok (nt_1 _ (List.mem_of_getElem? (i := 85) rfl)) rfl)
theorem ff_K_37 : xo_fd "FlowKernel" 37 0 4 "[LFlowKernel$Pipe;" true := ⟨"FlowKernel", TF_K, 8, ty_K, cb_K, Or.inl (nt_ok (nt_1 _ (List.mem_of_getElem? (i := 91) rfl)) rfl), by decide, rfl, rfl, rfl⟩
theorem fF_K_37 : xo_fF "FlowKernel" 37 0 4 "[LFlowKernel$Pipe;" := ⟨"FlowKernel", TF_K, 8, ty_K, cb_K, (nt_ok (nt_1 _ (List.mem_of_getElem? (i := 91) rfl)) rfl), by decide, rfl, rfl, rfl, rfl⟩
theorem wo_C_3 : Cond.methodLink "FlowKernel$ChunkRow" 3 Lib.objectInit ∈ xo_WS := (nt_ok (nt_1 _ (List.mem_of_getElem? (i := 129) rfl)) rfl)
theorem co_C_9 : xo_cO "FlowKernel$ChunkRow" 9 3 3 := ⟨"FlowKernel$Row", TF_R, ty_R, cb_R, cd_R, (nt_ok (nt_1 _ (List.mem_of_getElem? (i := 130) rfl)) rfl), wn_R, wi_R⟩
theorem ml_C_11 : xo_ml "FlowKernel$ChunkRow" 11 ⟨"FlowKernel$Row", "<init>", "(I)V"⟩ := Or.inl (nt_ok (nt_1 _ (List.mem_of_getElem? (i := 131) rfl)) rfl)
theorem ff_C_14 : xo_fd "FlowKernel$ChunkRow" 14 4 0 "LFlowKernel$Row;" true := ⟨"FlowKernel$ChunkRow", TF_C, 4, ty_C, cb_C, Or.inl (nt_ok (nt_1 _ (List.mem_of_getElem? (i := 132) rfl)) rfl), by decide, rfl, rfl, rfl⟩
theorem fF_C_14 : xo_fF "FlowKernel$ChunkRow" 14 4 0 "LFlowKernel$Row;" := ⟨"FlowKernel$ChunkRow", TF_C, 4, ty_C, cb_C, (nt_ok (nt_1 _ (List.mem_of_getElem? (i := 132) rfl)) rfl), by decide, rfl, rfl, rfl, rfl⟩
theorem ff_C_20 : xo_fd "FlowKernel$ChunkRow" 20 4 1 "I" true := ⟨"FlowKernel$ChunkRow", TF_C, 4, ty_C, cb_C, Or.inl (nt_ok (nt_1 _ (List.mem_of_getElem? (i := 134) rfl)) rfl), by decide, rfl, rfl, rfl⟩
theorem fF_C_20 : xo_fF "FlowKernel$ChunkRow" 20 4 1 "I" := ⟨"FlowKernel$ChunkRow", TF_C, 4, ty_C, cb_C, (nt_ok (nt_1 _ (List.mem_of_getElem? (i := 134) rfl)) rfl), by decide, rfl, rfl, rfl, rfl⟩
theorem ff_C_24 : xo_fd "FlowKernel$ChunkRow" 24 4 2 "Z" true := ⟨"FlowKernel$ChunkRow", TF_C, 4, ty_C, cb_C, Or.inl (nt_ok (nt_1 _ (List.mem_of_getElem? (i := 135) rfl)) rfl), by decide, rfl, rfl, rfl⟩
theorem fF_C_24 : xo_fF "FlowKernel$ChunkRow" 24 4 2 "Z" := ⟨"FlowKernel$ChunkRow", TF_C, 4, ty_C, cb_C, (nt_ok (nt_1 _ (List.mem_of_getElem? (i := 135) rfl)) rfl), by decide, rfl, rfl, rfl, rfl⟩
theorem ff_C_28 : xo_fd "FlowKernel$ChunkRow" 28 4 3 "I" false := ⟨"FlowKernel$ChunkRow", TF_C, 4, ty_C, cb_C, Or.inl (nt_ok (nt_1 _ (List.mem_of_getElem? (i := 136) rfl)) rfl), by decide, rfl, rfl, rfl⟩
theorem wo_G_3 : Cond.methodLink "FlowKernel$Giver" 3 Lib.objectInit ∈ xo_WS := (nt_ok (nt_1 _ (List.mem_of_getElem? (i := 152) rfl)) rfl)
theorem co_G_9 : xo_cO "FlowKernel$Giver" 9 3 3 := ⟨"FlowKernel$Row", TF_R, ty_R, cb_R, cd_R, (nt_ok (nt_1 _ (List.mem_of_getElem? (i := 153) rfl)) rfl), wn_R, wi_R⟩
theorem ml_G_11 : xo_ml "FlowKernel$Giver" 11 ⟨"FlowKernel$Row", "<init>", "(I)V"⟩ := Or.inl (nt_ok (nt_1 _ (List.mem_of_getElem? (i := 154) rfl)) rfl)
theorem ff_G_14 : xo_fd "FlowKernel$Giver" 14 5 3 "LFlowKernel$Row;" true := ⟨"FlowKernel$Giver", TF_G, 14, ty_G, cb_G, Or.inl (nt_ok (nt_1 _ (List.mem_of_getElem? (i := 160) rfl)) rfl), by decide, rfl, rfl, rfl⟩
theorem fF_G_14 : xo_fF "FlowKernel$Giver" 14 5 3 "LFlowKernel$Row;" := ⟨"FlowKernel$Giver", TF_G, 14, ty_G, cb_G, (nt_ok (nt_1 _ (List.mem_of_getElem? (i := 160) rfl)) rfl), by decide, rfl, rfl, rfl, rfl⟩
theorem ff_G_20 : xo_fd "FlowKernel$Giver" 20 5 4 "I" false := ⟨"FlowKernel$Giver", TF_G, 14, ty_G, cb_G, Or.inl (nt_ok (nt_1 _ (List.mem_of_getElem? (i := 163) rfl)) rfl), by decide, rfl, rfl, rfl⟩
theorem ff_G_24 : xo_fd "FlowKernel$Giver" 24 5 0 "I" true := ⟨"FlowKernel$Giver", TF_G, 14, ty_G, cb_G, Or.inl (nt_ok (nt_1 _ (List.mem_of_getElem? (i := 155) rfl)) rfl), by decide, rfl, rfl, rfl⟩
theorem fF_G_24 : xo_fF "FlowKernel$Giver" 24 5 0 "I" := ⟨"FlowKernel$Giver", TF_G, 14, ty_G, cb_G, (nt_ok (nt_1 _ (List.mem_of_getElem? (i := 155) rfl)) rfl), by decide, rfl, rfl, rfl, rfl⟩
theorem ff_G_27 : xo_fd "FlowKernel$Giver" 27 5 1 "LFlowKernel$ChunkRow;" true := ⟨"FlowKernel$Giver", TF_G, 14, ty_G, cb_G, Or.inl (nt_ok (nt_1 _ (List.mem_of_getElem? (i := 157) rfl)) rfl), by decide, rfl, rfl, rfl⟩
theorem fF_G_27 : xo_fF "FlowKernel$Giver" 27 5 1 "LFlowKernel$ChunkRow;" := ⟨"FlowKernel$Giver", TF_G, 14, ty_G, cb_G, (nt_ok (nt_1 _ (List.mem_of_getElem? (i := 157) rfl)) rfl), by decide, rfl, rfl, rfl, rfl⟩
theorem ff_G_31 : xo_fd "FlowKernel$Giver" 31 5 2 "LFlowKernel$EventLog;" true := ⟨"FlowKernel$Giver", TF_G, 14, ty_G, cb_G, Or.inl (nt_ok (nt_1 _ (List.mem_of_getElem? (i := 159) rfl)) rfl), by decide, rfl, rfl, rfl⟩
theorem fF_G_31 : xo_fF "FlowKernel$Giver" 31 5 2 "LFlowKernel$EventLog;" := ⟨"FlowKernel$Giver", TF_G, 14, ty_G, cb_G, (nt_ok (nt_1 _ (List.mem_of_getElem? (i := 159) rfl)) rfl), by decide, rfl, rfl, rfl, rfl⟩
theorem co_K_23 : xo_cO "FlowKernel" 23 5 14 := ⟨"FlowKernel$Giver", TF_G, ty_G, cb_G, cd_G, (nt_ok (nt_1 _ (List.mem_of_getElem? (i := 81) rfl)) rfl), wn_G, wi_G⟩
theorem ff_K_45 : xo_fd "FlowKernel" 45 0 5 "I" false := ⟨"FlowKernel", TF_K, 8, ty_K, cb_K, Or.inl (nt_ok (nt_1 _ (List.mem_of_getElem? (i := 92) rfl)) rfl), by decide, rfl, rfl, rfl⟩
theorem co_K_66 : xo_cO "FlowKernel" 66 4 4 := ⟨"FlowKernel$ChunkRow", TF_C, ty_C, cb_C, cd_C, (nt_ok (nt_1 _ (List.mem_of_getElem? (i := 124) rfl)) rfl), wn_C, wi_C⟩
theorem ml_K_68 : xo_ml "FlowKernel" 68 ⟨"FlowKernel$ChunkRow", "<init>", "(IZ)V"⟩ := Or.inl (nt_ok (nt_1 _ (List.mem_of_getElem? (i := 126) rfl)) rfl)
theorem ml_K_244 : xo_ml "FlowKernel" 244 ⟨"FlowKernel$Giver", "<init>", "(ILFlowKernel$ChunkRow;LFlowKernel$EventLog;)V"⟩ := Or.inl (nt_ok (nt_1 _ (List.mem_of_getElem? (i := 149) rfl)) rfl)
theorem ff_G_35 : xo_fd "FlowKernel$Giver" 35 5 7 "Z" false := ⟨"FlowKernel$Giver", TF_G, 14, ty_G, cb_G, Or.inl (nt_ok (nt_1 _ (List.mem_of_getElem? (i := 168) rfl)) rfl), by decide, rfl, rfl, rfl⟩
theorem ml_G_47 : xo_ml "FlowKernel$Giver" 47 ⟨"FlowKernel$Giver", "isGoing", "()Z"⟩ := Or.inl (nt_ok (nt_1 _ (List.mem_of_getElem? (i := 219) rfl)) rfl)
theorem ff_G_51 : xo_fd "FlowKernel$Giver" 51 3 2 "I" false := ⟨"FlowKernel$Row", TF_R, 3, ty_R, cb_R, Or.inr ⟨_, nt_nw (nt_1 _ (List.mem_of_getElem? (i := 58) rfl)) rfl⟩, by decide, rfl, rfl, rfl⟩
theorem ff_G_54 : xo_fd "FlowKernel$Giver" 54 4 3 "I" false := ⟨"FlowKernel$ChunkRow", TF_C, 4, ty_C, cb_C, Or.inr ⟨_, nt_nw (nt_1 _ (List.mem_of_getElem? (i := 138) rfl)) rfl⟩, by decide, rfl, rfl, rfl⟩
theorem ff_G_59 : xo_fd "FlowKernel$Giver" 59 5 8 "Z" false := ⟨"FlowKernel$Giver", TF_G, 14, ty_G, cb_G, Or.inl (nt_ok (nt_1 _ (List.mem_of_getElem? (i := 170) rfl)) rfl), by decide, rfl, rfl, rfl⟩
theorem ff_G_62 : xo_fd "FlowKernel$Giver" 62 5 9 "Z" false := ⟨"FlowKernel$Giver", TF_G, 14, ty_G, cb_G, Or.inl (nt_ok (nt_1 _ (List.mem_of_getElem? (i := 172) rfl)) rfl), by decide, rfl, rfl, rfl⟩
theorem ff_L_21 : xo_fd "FlowKernel$EventLog" 21 1 3 "I" false := ⟨"FlowKernel$EventLog", TF_L, 4, ty_L, cb_L, Or.inl (nt_ok (nt_1 _ (List.mem_of_getElem? (i := 28) rfl)) rfl), by decide, rfl, rfl, rfl⟩
theorem ff_C_31 : xo_fd "FlowKernel$ChunkRow" 31 3 2 "I" false := ⟨"FlowKernel$Row", TF_R, 3, ty_R, cb_R, Or.inr ⟨_, nt_nw (nt_1 _ (List.mem_of_getElem? (i := 55) rfl)) rfl⟩, by decide, rfl, rfl, rfl⟩
theorem ff_R_13 : xo_fd "FlowKernel$Row" 13 3 2 "I" false := ⟨"FlowKernel$Row", TF_R, 3, ty_R, cb_R, Or.inl (nt_ok (nt_1 _ (List.mem_of_getElem? (i := 54) rfl)) rfl), by decide, rfl, rfl, rfl⟩
theorem ff_R_17 : xo_fd "FlowKernel$Row" 17 3 1 "I" false := ⟨"FlowKernel$Row", TF_R, 3, ty_R, cb_R, Or.inl (nt_ok (nt_1 _ (List.mem_of_getElem? (i := 53) rfl)) rfl), by decide, rfl, rfl, rfl⟩
theorem ml_C_41 : xo_ml "FlowKernel$ChunkRow" 41 ⟨"FlowKernel$Row", "takeFirst", "()I"⟩ := Or.inl (nt_ok (nt_1 _ (List.mem_of_getElem? (i := 239) rfl)) rfl)
theorem ml_C_37 : xo_ml "FlowKernel$ChunkRow" 37 ⟨"FlowKernel$ChunkRow", "sizeOf", "(I)I"⟩ := Or.inl (nt_ok (nt_2 _ (List.mem_of_getElem? (i := 3) rfl)) rfl)
theorem ml_G_65 : xo_ml "FlowKernel$Giver" 65 ⟨"FlowKernel$ChunkRow", "count", "()I"⟩ := Or.inl (nt_ok (nt_2 _ (List.mem_of_getElem? (i := 11) rfl)) rfl)
theorem ml_J_30 : xo_ml "FlowKernel$JobRow" 30 ⟨"FlowKernel$Row", "add", "(I)V"⟩ := Or.inl (nt_ok (nt_2 _ (List.mem_of_getElem? (i := 20) rfl)) rfl)
theorem ff_K_281 : xo_fd "FlowKernel" 281 6 0 "LFlowKernel$Giver;" true := ⟨"FlowKernel$Parting", TF_A, 4, ty_A, cb_A, Or.inr ⟨_, nt_nw (nt_3 _ (List.mem_of_getElem? (i := 94) rfl)) rfl⟩, by decide, rfl, rfl, rfl⟩
theorem ff_K_110 : xo_fd "FlowKernel" 110 5 4 "I" false := ⟨"FlowKernel$Giver", TF_G, 14, ty_G, cb_G, Or.inr ⟨_, nt_nw (nt_1 _ (List.mem_of_getElem? (i := 164) rfl)) rfl⟩, by decide, rfl, rfl, rfl⟩
theorem ff_K_273 : xo_fd "FlowKernel" 273 6 2 "Z" false := ⟨"FlowKernel$Parting", TF_A, 4, ty_A, cb_A, Or.inr ⟨_, nt_nw (nt_3 _ (List.mem_of_getElem? (i := 97) rfl)) rfl⟩, by decide, rfl, rfl, rfl⟩
theorem ff_K_83 : xo_fd "FlowKernel" 83 5 1 "LFlowKernel$ChunkRow;" true := ⟨"FlowKernel$Giver", TF_G, 14, ty_G, cb_G, Or.inr ⟨_, nt_nw (nt_1 _ (List.mem_of_getElem? (i := 158) rfl)) rfl⟩, by decide, rfl, rfl, rfl⟩
theorem ml_K_87 : xo_ml "FlowKernel" 87 ⟨"FlowKernel$ChunkRow", "count", "()I"⟩ := Or.inl (nt_ok (nt_1 _ (List.mem_of_getElem? (i := 231) rfl)) rfl)
theorem ml_K_262 : xo_ml "FlowKernel" 262 ⟨"FlowKernel$ChunkRow", "takeFirst", "()I"⟩ := Or.inl (nt_ok (nt_1 _ (List.mem_of_getElem? (i := 235) rfl)) rfl)
theorem ml_K_263 : xo_ml "FlowKernel" 263 ⟨"FlowKernel$Giver", "closeIfDrained", "()V"⟩ := Or.inl (nt_ok (nt_2 _ (List.mem_of_getElem? (i := 7) rfl)) rfl)
theorem ff_K_91 : xo_fd "FlowKernel" 91 5 3 "LFlowKernel$Row;" true := ⟨"FlowKernel$Giver", TF_G, 14, ty_G, cb_G, Or.inr ⟨_, nt_nw (nt_1 _ (List.mem_of_getElem? (i := 162) rfl)) rfl⟩, by decide, rfl, rfl, rfl⟩
theorem ml_K_266 : xo_ml "FlowKernel" 266 ⟨"FlowKernel$Row", "add", "(I)V"⟩ := Or.inl (nt_ok (nt_2 _ (List.mem_of_getElem? (i := 12) rfl)) rfl)
theorem ml_K_270 : xo_ml "FlowKernel" 270 ⟨"FlowKernel$Giver", "startsPulling", "()Z"⟩ := Or.inl (nt_ok (nt_1 _ (List.mem_of_getElem? (i := 215) rfl)) rfl)
theorem ff_K_60 : xo_fd "FlowKernel" 60 5 0 "I" true := ⟨"FlowKernel$Giver", TF_G, 14, ty_G, cb_G, Or.inr ⟨_, nt_nw (nt_1 _ (List.mem_of_getElem? (i := 156) rfl)) rfl⟩, by decide, rfl, rfl, rfl⟩
theorem ml_K_254 : xo_ml "FlowKernel" 254 ⟨"FlowKernel$EventLog", "note", "(IIII)V"⟩ := Or.inl (nt_ok (nt_1 _ (List.mem_of_getElem? (i := 223) rfl)) rfl)
theorem ml_K_129 : xo_ml "FlowKernel" 129 ⟨"FlowKernel$JobRow", "add", "(III)V"⟩ := Or.inl (nt_ok (nt_2 _ (List.mem_of_getElem? (i := 16) rfl)) rfl)
theorem ml_G_77 : xo_ml "FlowKernel$Giver" 77 ⟨"FlowKernel$Row", "at", "(I)I"⟩ := Or.inl (nt_ok (nt_2 _ (List.mem_of_getElem? (i := 30) rfl)) rfl)
theorem ff_G_71 : xo_fd "FlowKernel$Giver" 71 5 5 "I" false := ⟨"FlowKernel$Giver", TF_G, 14, ty_G, cb_G, Or.inl (nt_ok (nt_1 _ (List.mem_of_getElem? (i := 165) rfl)) rfl), by decide, rfl, rfl, rfl⟩
theorem ml_G_81 : xo_ml "FlowKernel$Giver" 81 ⟨"FlowKernel$EventLog", "note", "(IIII)V"⟩ := Or.inl (nt_ok (nt_2 _ (List.mem_of_getElem? (i := 34) rfl)) rfl)
theorem ml_G_87 : xo_ml "FlowKernel$Giver" 87 ⟨"FlowKernel$Row", "clear", "()V"⟩ := Or.inl (nt_ok (nt_2 _ (List.mem_of_getElem? (i := 35) rfl)) rfl)
theorem ff_K_285 : xo_fd "FlowKernel" 285 6 1 "[LFlowKernel$Giver;" true := ⟨"FlowKernel$Parting", TF_A, 4, ty_A, cb_A, Or.inr ⟨_, nt_nw (nt_3 _ (List.mem_of_getElem? (i := 96) rfl)) rfl⟩, by decide, rfl, rfl, rfl⟩
theorem ml_K_79 : xo_ml "FlowKernel" 79 ⟨"FlowKernel$Giver", "isGoing", "()Z"⟩ := Or.inl (nt_ok (nt_2 _ (List.mem_of_getElem? (i := 25) rfl)) rfl)
theorem ff_K_103 : xo_fd "FlowKernel" 103 5 7 "Z" false := ⟨"FlowKernel$Giver", TF_G, 14, ty_G, cb_G, Or.inr ⟨_, nt_nw (nt_1 _ (List.mem_of_getElem? (i := 169) rfl)) rfl⟩, by decide, rfl, rfl, rfl⟩
theorem ml_K_267 : xo_ml "FlowKernel" 267 ⟨"FlowKernel$Giver", "answerAll", "()V"⟩ := Or.inl (nt_ok (nt_2 _ (List.mem_of_getElem? (i := 26) rfl)) rfl)
theorem ff_K_191 : xo_fd "FlowKernel" 191 5 11 "LFlowKernel$Parting;" false := ⟨"FlowKernel$Giver", TF_G, 14, ty_G, cb_G, Or.inr ⟨_, nt_nw (nt_1 _ (List.mem_of_getElem? (i := 176) rfl)) rfl⟩, by decide, rfl, rfl, rfl⟩
theorem ff_K_276 : xo_fd "FlowKernel" 276 6 3 "Z" false := ⟨"FlowKernel$Parting", TF_A, 4, ty_A, cb_A, Or.inr ⟨_, nt_nw (nt_3 _ (List.mem_of_getElem? (i := 98) rfl)) rfl⟩, by decide, rfl, rfl, rfl⟩
theorem ml_K_277 : xo_ml "FlowKernel" 277 ⟨"FlowKernel", "askRoot", "(LFlowKernel$Parting;)Z"⟩ := Or.inl (nt_ok (nt_1 _ (List.mem_of_getElem? (i := 227) rfl)) rfl)
theorem ml_K_203 : xo_ml "FlowKernel" 203 ⟨"FlowKernel", "endBranches", "(LFlowKernel$Parting;)V"⟩ := Or.inl (nt_ok (nt_2 _ (List.mem_of_getElem? (i := 21) rfl)) rfl)
theorem ff_K_180 : xo_fd "FlowKernel" 180 0 7 "I" false := ⟨"FlowKernel", TF_K, 8, ty_K, cb_K, Or.inl (nt_ok (nt_1 _ (List.mem_of_getElem? (i := 94) rfl)) rfl), by decide, rfl, rfl, rfl⟩
theorem ff_J_26 : xo_fd "FlowKernel$JobRow" 26 3 2 "I" false := ⟨"FlowKernel$Row", TF_R, 3, ty_R, cb_R, Or.inr ⟨_, nt_nw (nt_1 _ (List.mem_of_getElem? (i := 56) rfl)) rfl⟩, by decide, rfl, rfl, rfl⟩
theorem ml_J_33 : xo_ml "FlowKernel$JobRow" 33 ⟨"FlowKernel$Row", "at", "(I)I"⟩ := Or.inl (nt_ok (nt_2 _ (List.mem_of_getElem? (i := 51) rfl)) rfl)
theorem ml_K_300 : xo_ml "FlowKernel" 300 ⟨"FlowKernel", "pipeAt", "(I)LFlowKernel$Pipe;"⟩ := Or.inl (nt_ok (nt_2 _ (List.mem_of_getElem? (i := 43) rfl)) rfl)
theorem ff_K_304 : xo_fd "FlowKernel" 304 8 6 "Z" false := ⟨"FlowKernel$Pipe", TF_P, 7, ty_P, cb_P, Or.inr ⟨_, nt_nw (nt_3 _ (List.mem_of_getElem? (i := 66) rfl)) rfl⟩, by decide, rfl, rfl, rfl⟩
theorem ml_K_122 : xo_ml "FlowKernel" 122 ⟨"FlowKernel$JobRow", "holds", "(II)Z"⟩ := Or.inl (nt_ok (nt_2 _ (List.mem_of_getElem? (i := 47) rfl)) rfl)
theorem ml_K_41 : xo_ml "FlowKernel" 41 ⟨"FlowKernel", "isMark", "(I)Z"⟩ := Or.inl (nt_ok (nt_1 _ (List.mem_of_getElem? (i := 116) rfl)) rfl)
theorem ml_K_49 : xo_ml "FlowKernel" 49 ⟨"FlowKernel", "addGiver", "(IZ)LFlowKernel$Giver;"⟩ := Or.inl (nt_ok (nt_1 _ (List.mem_of_getElem? (i := 119) rfl)) rfl)
theorem ml_K_53 : xo_ml "FlowKernel" 53 ⟨"FlowKernel", "pullIfNeeded", "(LFlowKernel$Giver;)V"⟩ := Or.inl (nt_ok (nt_1 _ (List.mem_of_getElem? (i := 211) rfl)) rfl)
theorem ml_K_57 : xo_ml "FlowKernel" 57 ⟨"FlowKernel", "awaitPumps", "()V"⟩ := Or.inl (nt_ok (nt_2 _ (List.mem_of_getElem? (i := 39) rfl)) rfl)
theorem wo_T_3 : Cond.methodLink "FlowKernel$Taker" 3 Lib.objectInit ∈ xo_WS := (nt_ok (nt_2 _ (List.mem_of_getElem? (i := 60) rfl)) rfl)
theorem co_T_9 : xo_cO "FlowKernel$Taker" 9 3 3 := ⟨"FlowKernel$Row", TF_R, ty_R, cb_R, cd_R, (nt_ok (nt_2 _ (List.mem_of_getElem? (i := 61) rfl)) rfl), wn_R, wi_R⟩
theorem ml_T_11 : xo_ml "FlowKernel$Taker" 11 ⟨"FlowKernel$Row", "<init>", "(I)V"⟩ := Or.inl (nt_ok (nt_2 _ (List.mem_of_getElem? (i := 62) rfl)) rfl)
theorem ff_T_14 : xo_fd "FlowKernel$Taker" 14 7 3 "LFlowKernel$Row;" true := ⟨"FlowKernel$Taker", TF_T, 13, ty_T, cb_T, Or.inl (nt_ok (nt_2 _ (List.mem_of_getElem? (i := 69) rfl)) rfl), by decide, rfl, rfl, rfl⟩
theorem fF_T_14 : xo_fF "FlowKernel$Taker" 14 7 3 "LFlowKernel$Row;" := ⟨"FlowKernel$Taker", TF_T, 13, ty_T, cb_T, (nt_ok (nt_2 _ (List.mem_of_getElem? (i := 69) rfl)) rfl), by decide, rfl, rfl, rfl, rfl⟩
theorem ff_T_20 : xo_fd "FlowKernel$Taker" 20 7 4 "I" false := ⟨"FlowKernel$Taker", TF_T, 13, ty_T, cb_T, Or.inl (nt_ok (nt_2 _ (List.mem_of_getElem? (i := 70) rfl)) rfl), by decide, rfl, rfl, rfl⟩
theorem ff_T_24 : xo_fd "FlowKernel$Taker" 24 7 7 "I" false := ⟨"FlowKernel$Taker", TF_T, 13, ty_T, cb_T, Or.inl (nt_ok (nt_2 _ (List.mem_of_getElem? (i := 75) rfl)) rfl), by decide, rfl, rfl, rfl⟩
theorem ff_T_27 : xo_fd "FlowKernel$Taker" 27 7 0 "I" true := ⟨"FlowKernel$Taker", TF_T, 13, ty_T, cb_T, Or.inl (nt_ok (nt_2 _ (List.mem_of_getElem? (i := 63) rfl)) rfl), by decide, rfl, rfl, rfl⟩
theorem fF_T_27 : xo_fF "FlowKernel$Taker" 27 7 0 "I" := ⟨"FlowKernel$Taker", TF_T, 13, ty_T, cb_T, (nt_ok (nt_2 _ (List.mem_of_getElem? (i := 63) rfl)) rfl), by decide, rfl, rfl, rfl, rfl⟩
theorem ff_T_30 : xo_fd "FlowKernel$Taker" 30 7 1 "LFlowKernel$ChunkRow;" true := ⟨"FlowKernel$Taker", TF_T, 13, ty_T, cb_T, Or.inl (nt_ok (nt_2 _ (List.mem_of_getElem? (i := 65) rfl)) rfl), by decide, rfl, rfl, rfl⟩
theorem fF_T_30 : xo_fF "FlowKernel$Taker" 30 7 1 "LFlowKernel$ChunkRow;" := ⟨"FlowKernel$Taker", TF_T, 13, ty_T, cb_T, (nt_ok (nt_2 _ (List.mem_of_getElem? (i := 65) rfl)) rfl), by decide, rfl, rfl, rfl, rfl⟩
theorem ff_T_34 : xo_fd "FlowKernel$Taker" 34 7 2 "LFlowKernel$EventLog;" true := ⟨"FlowKernel$Taker", TF_T, 13, ty_T, cb_T, Or.inl (nt_ok (nt_2 _ (List.mem_of_getElem? (i := 68) rfl)) rfl), by decide, rfl, rfl, rfl⟩
theorem fF_T_34 : xo_fF "FlowKernel$Taker" 34 7 2 "LFlowKernel$EventLog;" := ⟨"FlowKernel$Taker", TF_T, 13, ty_T, cb_T, (nt_ok (nt_2 _ (List.mem_of_getElem? (i := 68) rfl)) rfl), by decide, rfl, rfl, rfl, rfl⟩
theorem ff_K_63 : xo_fd "FlowKernel" 63 0 6 "I" false := ⟨"FlowKernel", TF_K, 8, ty_K, cb_K, Or.inl (nt_ok (nt_1 _ (List.mem_of_getElem? (i := 93) rfl)) rfl), by decide, rfl, rfl, rfl⟩
theorem co_K_29 : xo_cO "FlowKernel" 29 7 13 := ⟨"FlowKernel$Taker", TF_T, ty_T, cb_T, cd_T, (nt_ok (nt_1 _ (List.mem_of_getElem? (i := 83) rfl)) rfl), wn_T, wi_T⟩
theorem ml_K_71 : xo_ml "FlowKernel" 71 ⟨"FlowKernel$Taker", "<init>", "(ILFlowKernel$ChunkRow;LFlowKernel$EventLog;)V"⟩ := Or.inl (nt_ok (nt_2 _ (List.mem_of_getElem? (i := 57) rfl)) rfl)
theorem ff_K_74 : xo_fd "FlowKernel" 74 7 0 "I" true := ⟨"FlowKernel$Taker", TF_T, 13, ty_T, cb_T, Or.inr ⟨_, nt_nw (nt_2 _ (List.mem_of_getElem? (i := 64) rfl)) rfl⟩, by decide, rfl, rfl, rfl⟩
theorem ml_K_133 : xo_ml "FlowKernel" 133 ⟨"FlowKernel", "giverAt", "(I)LFlowKernel$Giver;"⟩ := Or.inl (nt_ok (nt_2 _ (List.mem_of_getElem? (i := 120) rfl)) rfl)
theorem ff_T_38 : xo_fd "FlowKernel$Taker" 38 7 11 "Z" false := ⟨"FlowKernel$Taker", TF_T, 13, ty_T, cb_T, Or.inl (nt_ok (nt_2 _ (List.mem_of_getElem? (i := 81) rfl)) rfl), by decide, rfl, rfl, rfl⟩
theorem ml_C_34 : xo_ml "FlowKernel$ChunkRow" 34 ⟨"FlowKernel$Row", "add", "(I)V"⟩ := Or.inl (nt_ok (nt_2 _ (List.mem_of_getElem? (i := 150) rfl)) rfl)
theorem ml_T_108 : xo_ml "FlowKernel$Taker" 108 ⟨"FlowKernel$ChunkRow", "count", "()I"⟩ := Or.inl (nt_ok (nt_2 _ (List.mem_of_getElem? (i := 156) rfl)) rfl)
theorem ff_T_111 : xo_fd "FlowKernel$Taker" 111 4 0 "LFlowKernel$Row;" true := ⟨"FlowKernel$ChunkRow", TF_C, 4, ty_C, cb_C, Or.inr ⟨_, nt_nw (nt_1 _ (List.mem_of_getElem? (i := 133) rfl)) rfl⟩, by decide, rfl, rfl, rfl⟩
theorem ml_T_114 : xo_ml "FlowKernel$Taker" 114 ⟨"FlowKernel$Row", "at", "(I)I"⟩ := Or.inl (nt_ok (nt_2 _ (List.mem_of_getElem? (i := 157) rfl)) rfl)
theorem ml_T_55 : xo_ml "FlowKernel$Taker" 55 ⟨"FlowKernel$EventLog", "note", "(IIII)V"⟩ := Or.inl (nt_ok (nt_2 _ (List.mem_of_getElem? (i := 141) rfl)) rfl)
theorem ff_T_46 : xo_fd "FlowKernel$Taker" 46 7 6 "I" false := ⟨"FlowKernel$Taker", TF_T, 13, ty_T, cb_T, Or.inl (nt_ok (nt_2 _ (List.mem_of_getElem? (i := 74) rfl)) rfl), by decide, rfl, rfl, rfl⟩
theorem ml_T_49 : xo_ml "FlowKernel$Taker" 49 ⟨"FlowKernel$Taker", "hasError", "()Z"⟩ := Or.inl (nt_ok (nt_2 _ (List.mem_of_getElem? (i := 137) rfl)) rfl)
theorem ff_T_52 : xo_fd "FlowKernel$Taker" 52 7 5 "I" false := ⟨"FlowKernel$Taker", TF_T, 13, ty_T, cb_T, Or.inl (nt_ok (nt_2 _ (List.mem_of_getElem? (i := 72) rfl)) rfl), by decide, rfl, rfl, rfl⟩
theorem ml_T_42 : xo_ml "FlowKernel$Taker" 42 ⟨"FlowKernel$Taker", "isShutOrToBe", "()Z"⟩ := Or.inl (nt_ok (nt_2 _ (List.mem_of_getElem? (i := 142) rfl)) rfl)
theorem ml_T_61 : xo_ml "FlowKernel$Taker" 61 ⟨"FlowKernel$ChunkRow", "add", "(I)V"⟩ := Or.inl (nt_ok (nt_2 _ (List.mem_of_getElem? (i := 146) rfl)) rfl)
theorem ml_T_66 : xo_ml "FlowKernel$Taker" 66 ⟨"FlowKernel$Row", "add", "(I)V"⟩ := Or.inl (nt_ok (nt_2 _ (List.mem_of_getElem? (i := 151) rfl)) rfl)
theorem ml_T_67 : xo_ml "FlowKernel$Taker" 67 ⟨"FlowKernel$Taker", "startNext", "()V"⟩ := Or.inl (nt_ok (nt_2 _ (List.mem_of_getElem? (i := 152) rfl)) rfl)
theorem ff_K_200 : xo_fd "FlowKernel" 200 5 12 "LFlowKernel$Parting;" false := ⟨"FlowKernel$Giver", TF_G, 14, ty_G, cb_G, Or.inr ⟨_, nt_nw (nt_1 _ (List.mem_of_getElem? (i := 178) rfl)) rfl⟩, by decide, rfl, rfl, rfl⟩
theorem ff_K_186 : xo_fd "FlowKernel" 186 5 13 "LFlowKernel$Pipe;" false := ⟨"FlowKernel$Giver", TF_G, 14, ty_G, cb_G, Or.inr ⟨_, nt_nw (nt_1 _ (List.mem_of_getElem? (i := 181) rfl)) rfl⟩, by decide, rfl, rfl, rfl⟩
theorem ff_K_258 : xo_fd "FlowKernel" 258 8 2 "LFlowKernel$Taker;" true := ⟨"FlowKernel$Pipe", TF_P, 7, ty_P, cb_P, Or.inr ⟨_, nt_nw (nt_3 _ (List.mem_of_getElem? (i := 58) rfl)) rfl⟩, by decide, rfl, rfl, rfl⟩
theorem ml_K_156 : xo_ml "FlowKernel" 156 ⟨"FlowKernel$Taker", "accept", "(I)I"⟩ := Or.inl (nt_ok (nt_2 _ (List.mem_of_getElem? (i := 133) rfl)) rfl)
theorem ff_K_95 : xo_fd "FlowKernel" 95 3 2 "I" false := ⟨"FlowKernel$Row", TF_R, 3, ty_R, cb_R, Or.inr ⟨_, nt_nw (nt_1 _ (List.mem_of_getElem? (i := 59) rfl)) rfl⟩, by decide, rfl, rfl, rfl⟩
theorem ml_K_245 : xo_ml "FlowKernel" 245 ⟨"FlowKernel$Row", "takeFirst", "()I"⟩ := Or.inl (nt_ok (nt_2 _ (List.mem_of_getElem? (i := 128) rfl)) rfl)
theorem ml_K_248 : xo_ml "FlowKernel" 248 ⟨"FlowKernel", "answerChunk", "(LFlowKernel$Giver;II)V"⟩ := Or.inl (nt_ok (nt_2 _ (List.mem_of_getElem? (i := 129) rfl)) rfl)
theorem ml_K_252 : xo_ml "FlowKernel" 252 ⟨"FlowKernel$ChunkRow", "add", "(I)V"⟩ := Or.inl (nt_ok (nt_2 _ (List.mem_of_getElem? (i := 158) rfl)) rfl)
theorem ml_K_75 : xo_ml "FlowKernel" 75 ⟨"FlowKernel", "rootAt", "(I)LFlowKernel$Giver;"⟩ := Or.inl (nt_ok (nt_2 _ (List.mem_of_getElem? (i := 116) rfl)) rfl)
theorem ml_K_99 : xo_ml "FlowKernel" 99 ⟨"FlowKernel", "takeIn", "(LFlowKernel$Giver;I)V"⟩ := Or.inl (nt_ok (nt_2 _ (List.mem_of_getElem? (i := 124) rfl)) rfl)
theorem ml_K_107 : xo_ml "FlowKernel" 107 ⟨"FlowKernel", "closeGiver", "(LFlowKernel$Giver;)V"⟩ := Or.inl (nt_ok (nt_2 _ (List.mem_of_getElem? (i := 163) rfl)) rfl)
theorem ml_C_45 : xo_ml "FlowKernel$ChunkRow" 45 ⟨"FlowKernel$Row", "clear", "()V"⟩ := Or.inl (nt_ok (nt_2 _ (List.mem_of_getElem? (i := 186) rfl)) rfl)
theorem ml_G_68 : xo_ml "FlowKernel$Giver" 68 ⟨"FlowKernel$ChunkRow", "clear", "()V"⟩ := Or.inl (nt_ok (nt_2 _ (List.mem_of_getElem? (i := 182) rfl)) rfl)
theorem ml_G_74 : xo_ml "FlowKernel$Giver" 74 ⟨"FlowKernel$Giver", "answerAll", "()V"⟩ := Or.inl (nt_ok (nt_2 _ (List.mem_of_getElem? (i := 187) rfl)) rfl)
theorem ml_K_288 : xo_ml "FlowKernel" 288 ⟨"FlowKernel$Giver", "failWith", "(I)V"⟩ := Or.inl (nt_ok (nt_2 _ (List.mem_of_getElem? (i := 178) rfl)) rfl)
theorem ml_K_210 : xo_ml "FlowKernel" 210 ⟨"FlowKernel", "failBranches", "(LFlowKernel$Parting;I)V"⟩ := Or.inl (nt_ok (nt_2 _ (List.mem_of_getElem? (i := 188) rfl)) rfl)
theorem ml_K_113 : xo_ml "FlowKernel" 113 ⟨"FlowKernel", "isError", "(I)Z"⟩ := Or.inl (nt_ok (nt_2 _ (List.mem_of_getElem? (i := 171) rfl)) rfl)
theorem ml_K_116 : xo_ml "FlowKernel" 116 ⟨"FlowKernel", "failGiver", "(LFlowKernel$Giver;I)V"⟩ := Or.inl (nt_ok (nt_2 _ (List.mem_of_getElem? (i := 174) rfl)) rfl)
theorem ff_K_119 : xo_fd "FlowKernel" 119 5 8 "Z" false := ⟨"FlowKernel$Giver", TF_G, 14, ty_G, cb_G, Or.inr ⟨_, nt_nw (nt_1 _ (List.mem_of_getElem? (i := 171) rfl)) rfl⟩, by decide, rfl, rfl, rfl⟩
theorem ml_K_126 : xo_ml "FlowKernel" 126 ⟨"FlowKernel", "isErrorOrNone", "(I)Z"⟩ := Or.inl (nt_ok (nt_2 _ (List.mem_of_getElem? (i := 196) rfl)) rfl)
theorem ff_G_39 : xo_fd "FlowKernel$Giver" 39 5 12 "LFlowKernel$Parting;" false := ⟨"FlowKernel$Giver", TF_G, 14, ty_G, cb_G, Or.inl (nt_ok (nt_1 _ (List.mem_of_getElem? (i := 177) rfl)) rfl), by decide, rfl, rfl, rfl⟩
theorem ff_G_43 : xo_fd "FlowKernel$Giver" 43 5 13 "LFlowKernel$Pipe;" false := ⟨"FlowKernel$Giver", TF_G, 14, ty_G, cb_G, Or.inl (nt_ok (nt_1 _ (List.mem_of_getElem? (i := 179) rfl)) rfl), by decide, rfl, rfl, rfl⟩
theorem ml_K_136 : xo_ml "FlowKernel" 136 ⟨"FlowKernel$Giver", "heldBy", "()I"⟩ := Or.inl (nt_ok (nt_2 _ (List.mem_of_getElem? (i := 203) rfl)) rfl)
theorem ff_K_139 : xo_fd "FlowKernel" 139 5 6 "I" false := ⟨"FlowKernel$Giver", TF_G, 14, ty_G, cb_G, Or.inr ⟨_, nt_nw (nt_1 _ (List.mem_of_getElem? (i := 167) rfl)) rfl⟩, by decide, rfl, rfl, rfl⟩
theorem ml_K_142 : xo_ml "FlowKernel" 142 ⟨"FlowKernel", "request", "(LFlowKernel$Giver;I)V"⟩ := Or.inl (nt_ok (nt_2 _ (List.mem_of_getElem? (i := 207) rfl)) rfl)
theorem ff_A_15 : xo_fd "FlowKernel$Parting" 15 6 1 "[LFlowKernel$Giver;" true := ⟨"FlowKernel$Parting", TF_A, 4, ty_A, cb_A, Or.inl (nt_ok (nt_3 _ (List.mem_of_getElem? (i := 95) rfl)) rfl), by decide, rfl, rfl, rfl⟩
theorem ff_A_19 : xo_fd "FlowKernel$Parting" 19 5 10 "Z" false := ⟨"FlowKernel$Giver", TF_G, 14, ty_G, cb_G, Or.inr ⟨_, nt_nw (nt_1 _ (List.mem_of_getElem? (i := 174) rfl)) rfl⟩, by decide, rfl, rfl, rfl⟩
theorem ml_K_291 : xo_ml "FlowKernel" 291 ⟨"FlowKernel$ChunkRow", "clear", "()V"⟩ := Or.inl (nt_ok (nt_2 _ (List.mem_of_getElem? (i := 219) rfl)) rfl)
theorem ff_K_294 : xo_fd "FlowKernel" 294 5 10 "Z" false := ⟨"FlowKernel$Giver", TF_G, 14, ty_G, cb_G, Or.inr ⟨_, nt_nw (nt_1 _ (List.mem_of_getElem? (i := 175) rfl)) rfl⟩, by decide, rfl, rfl, rfl⟩
theorem ml_K_297 : xo_ml "FlowKernel" 297 ⟨"FlowKernel$Parting", "isGivenUp", "()Z"⟩ := Or.inl (nt_ok (nt_2 _ (List.mem_of_getElem? (i := 220) rfl)) rfl)
theorem ml_K_145 : xo_ml "FlowKernel" 145 ⟨"FlowKernel", "cancelGiver", "(LFlowKernel$Giver;I)V"⟩ := Or.inl (nt_ok (nt_2 _ (List.mem_of_getElem? (i := 215) rfl)) rfl)
theorem ml_K_148 : xo_ml "FlowKernel" 148 ⟨"FlowKernel", "takerAt", "(I)LFlowKernel$Taker;"⟩ := Or.inl (nt_ok (nt_2 _ (List.mem_of_getElem? (i := 228) rfl)) rfl)
theorem ff_K_152 : xo_fd "FlowKernel" 152 7 12 "Z" false := ⟨"FlowKernel$Taker", TF_T, 13, ty_T, cb_T, Or.inr ⟨_, nt_nw (nt_2 _ (List.mem_of_getElem? (i := 84) rfl)) rfl⟩, by decide, rfl, rfl, rfl⟩
theorem ff_K_155 : xo_fd "FlowKernel" 155 7 1 "LFlowKernel$ChunkRow;" true := ⟨"FlowKernel$Taker", TF_T, 13, ty_T, cb_T, Or.inr ⟨_, nt_nw (nt_2 _ (List.mem_of_getElem? (i := 67) rfl)) rfl⟩, by decide, rfl, rfl, rfl⟩
theorem ff_T_76 : xo_fd "FlowKernel$Taker" 76 7 9 "Z" false := ⟨"FlowKernel$Taker", TF_T, 13, ty_T, cb_T, Or.inl (nt_ok (nt_2 _ (List.mem_of_getElem? (i := 78) rfl)) rfl), by decide, rfl, rfl, rfl⟩
theorem ff_T_82 : xo_fd "FlowKernel$Taker" 82 7 10 "Z" false := ⟨"FlowKernel$Taker", TF_T, 13, ty_T, cb_T, Or.inl (nt_ok (nt_2 _ (List.mem_of_getElem? (i := 80) rfl)) rfl), by decide, rfl, rfl, rfl⟩
theorem ff_T_79 : xo_fd "FlowKernel$Taker" 79 7 8 "I" false := ⟨"FlowKernel$Taker", TF_T, 13, ty_T, cb_T, Or.inl (nt_ok (nt_2 _ (List.mem_of_getElem? (i := 77) rfl)) rfl), by decide, rfl, rfl, rfl⟩
theorem ff_T_118 : xo_fd "FlowKernel$Taker" 118 3 2 "I" false := ⟨"FlowKernel$Row", TF_R, 3, ty_R, cb_R, Or.inr ⟨_, nt_nw (nt_1 _ (List.mem_of_getElem? (i := 60) rfl)) rfl⟩, by decide, rfl, rfl, rfl⟩
theorem ml_T_120 : xo_ml "FlowKernel$Taker" 120 ⟨"FlowKernel$Row", "clear", "()V"⟩ := Or.inl (nt_ok (nt_3 _ (List.mem_of_getElem? (i := 13) rfl)) rfl)
theorem ml_T_123 : xo_ml "FlowKernel$Taker" 123 ⟨"FlowKernel$ChunkRow", "clear", "()V"⟩ := Or.inl (nt_ok (nt_3 _ (List.mem_of_getElem? (i := 14) rfl)) rfl)
theorem ml_T_124 : xo_ml "FlowKernel$Taker" 124 ⟨"FlowKernel$Taker", "startAbort", "()V"⟩ := Or.inl (nt_ok (nt_3 _ (List.mem_of_getElem? (i := 15) rfl)) rfl)
theorem ml_T_105 : xo_ml "FlowKernel$Taker" 105 ⟨"FlowKernel$Taker", "loseEnd", "()V"⟩ := Or.inl (nt_ok (nt_3 _ (List.mem_of_getElem? (i := 19) rfl)) rfl)
theorem ml_T_88 : xo_ml "FlowKernel$Taker" 88 ⟨"FlowKernel$Taker", "breakDown", "()V"⟩ := Or.inl (nt_ok (nt_3 _ (List.mem_of_getElem? (i := 9) rfl)) rfl)
theorem ml_T_70 : xo_ml "FlowKernel$Taker" 70 ⟨"FlowKernel$Taker", "canShutDown", "()Z"⟩ := Or.inl (nt_ok (nt_3 _ (List.mem_of_getElem? (i := 4) rfl)) rfl)
theorem ml_T_73 : xo_ml "FlowKernel$Taker" 73 ⟨"FlowKernel$Taker", "goOn", "()V"⟩ := Or.inl (nt_ok (nt_3 _ (List.mem_of_getElem? (i := 5) rfl)) rfl)
theorem ml_K_160 : xo_ml "FlowKernel" 160 ⟨"FlowKernel$Taker", "canShutDown", "()Z"⟩ := Or.inl (nt_ok (nt_2 _ (List.mem_of_getElem? (i := 236) rfl)) rfl)
theorem ml_K_163 : xo_ml "FlowKernel" 163 ⟨"FlowKernel$Taker", "shutDown", "()V"⟩ := Or.inl (nt_ok (nt_3 _ (List.mem_of_getElem? (i := 0) rfl)) rfl)
theorem ml_T_85 : xo_ml "FlowKernel$Taker" 85 ⟨"FlowKernel$Taker", "startFailing", "(I)V"⟩ := Or.inl (nt_ok (nt_3 _ (List.mem_of_getElem? (i := 31) rfl)) rfl)
theorem ff_K_166 : xo_fd "FlowKernel" 166 7 9 "Z" false := ⟨"FlowKernel$Taker", TF_T, 13, ty_T, cb_T, Or.inr ⟨_, nt_nw (nt_2 _ (List.mem_of_getElem? (i := 79) rfl)) rfl⟩, by decide, rfl, rfl, rfl⟩
theorem ff_K_169 : xo_fd "FlowKernel" 169 7 7 "I" false := ⟨"FlowKernel$Taker", TF_T, 13, ty_T, cb_T, Or.inr ⟨_, nt_nw (nt_2 _ (List.mem_of_getElem? (i := 76) rfl)) rfl⟩, by decide, rfl, rfl, rfl⟩
theorem ml_K_172 : xo_ml "FlowKernel" 172 ⟨"FlowKernel$Taker", "abortWith", "(I)V"⟩ := Or.inl (nt_ok (nt_3 _ (List.mem_of_getElem? (i := 27) rfl)) rfl)
theorem ff_K_176 : xo_fd "FlowKernel" 176 7 4 "I" false := ⟨"FlowKernel$Taker", TF_T, 13, ty_T, cb_T, Or.inr ⟨_, nt_nw (nt_2 _ (List.mem_of_getElem? (i := 71) rfl)) rfl⟩, by decide, rfl, rfl, rfl⟩
theorem ml_K_177 : xo_ml "FlowKernel" 177 ⟨"FlowKernel$Taker", "startFailing", "(I)V"⟩ := Or.inl (nt_ok (nt_3 _ (List.mem_of_getElem? (i := 39) rfl)) rfl)
theorem wo_P_3 : Cond.methodLink "FlowKernel$Pipe" 3 Lib.objectInit ∈ xo_WS := (nt_ok (nt_3 _ (List.mem_of_getElem? (i := 52) rfl)) rfl)
theorem ff_P_9 : xo_fd "FlowKernel$Pipe" 9 8 0 "I" true := ⟨"FlowKernel$Pipe", TF_P, 7, ty_P, cb_P, Or.inl (nt_ok (nt_3 _ (List.mem_of_getElem? (i := 53) rfl)) rfl), by decide, rfl, rfl, rfl⟩
theorem fF_P_9 : xo_fF "FlowKernel$Pipe" 9 8 0 "I" := ⟨"FlowKernel$Pipe", TF_P, 7, ty_P, cb_P, (nt_ok (nt_3 _ (List.mem_of_getElem? (i := 53) rfl)) rfl), by decide, rfl, rfl, rfl, rfl⟩
theorem ff_P_15 : xo_fd "FlowKernel$Pipe" 15 8 1 "LFlowKernel$Giver;" true := ⟨"FlowKernel$Pipe", TF_P, 7, ty_P, cb_P, Or.inl (nt_ok (nt_3 _ (List.mem_of_getElem? (i := 55) rfl)) rfl), by decide, rfl, rfl, rfl⟩
theorem fF_P_15 : xo_fF "FlowKernel$Pipe" 15 8 1 "LFlowKernel$Giver;" := ⟨"FlowKernel$Pipe", TF_P, 7, ty_P, cb_P, (nt_ok (nt_3 _ (List.mem_of_getElem? (i := 55) rfl)) rfl), by decide, rfl, rfl, rfl, rfl⟩
theorem ff_P_19 : xo_fd "FlowKernel$Pipe" 19 8 2 "LFlowKernel$Taker;" true := ⟨"FlowKernel$Pipe", TF_P, 7, ty_P, cb_P, Or.inl (nt_ok (nt_3 _ (List.mem_of_getElem? (i := 57) rfl)) rfl), by decide, rfl, rfl, rfl⟩
theorem fF_P_19 : xo_fF "FlowKernel$Pipe" 19 8 2 "LFlowKernel$Taker;" := ⟨"FlowKernel$Pipe", TF_P, 7, ty_P, cb_P, (nt_ok (nt_3 _ (List.mem_of_getElem? (i := 57) rfl)) rfl), by decide, rfl, rfl, rfl, rfl⟩
theorem ff_P_23 : xo_fd "FlowKernel$Pipe" 23 8 3 "Z" true := ⟨"FlowKernel$Pipe", TF_P, 7, ty_P, cb_P, Or.inl (nt_ok (nt_3 _ (List.mem_of_getElem? (i := 59) rfl)) rfl), by decide, rfl, rfl, rfl⟩
theorem fF_P_23 : xo_fF "FlowKernel$Pipe" 23 8 3 "Z" := ⟨"FlowKernel$Pipe", TF_P, 7, ty_P, cb_P, (nt_ok (nt_3 _ (List.mem_of_getElem? (i := 59) rfl)) rfl), by decide, rfl, rfl, rfl, rfl⟩
theorem ff_P_27 : xo_fd "FlowKernel$Pipe" 27 8 4 "Z" true := ⟨"FlowKernel$Pipe", TF_P, 7, ty_P, cb_P, Or.inl (nt_ok (nt_3 _ (List.mem_of_getElem? (i := 61) rfl)) rfl), by decide, rfl, rfl, rfl⟩
theorem fF_P_27 : xo_fF "FlowKernel$Pipe" 27 8 4 "Z" := ⟨"FlowKernel$Pipe", TF_P, 7, ty_P, cb_P, (nt_ok (nt_3 _ (List.mem_of_getElem? (i := 61) rfl)) rfl), by decide, rfl, rfl, rfl, rfl⟩
theorem ff_P_30 : xo_fd "FlowKernel$Pipe" 30 8 5 "Z" true := ⟨"FlowKernel$Pipe", TF_P, 7, ty_P, cb_P, Or.inl (nt_ok (nt_3 _ (List.mem_of_getElem? (i := 63) rfl)) rfl), by decide, rfl, rfl, rfl⟩
theorem fF_P_30 : xo_fF "FlowKernel$Pipe" 30 8 5 "Z" := ⟨"FlowKernel$Pipe", TF_P, 7, ty_P, cb_P, (nt_ok (nt_3 _ (List.mem_of_getElem? (i := 63) rfl)) rfl), by decide, rfl, rfl, rfl, rfl⟩
theorem co_K_35 : xo_cO "FlowKernel" 35 8 7 := ⟨"FlowKernel$Pipe", TF_P, ty_P, cb_P, cd_P, (nt_ok (nt_1 _ (List.mem_of_getElem? (i := 85) rfl)) rfl), wn_P, wi_P⟩
theorem ml_K_183 : xo_ml "FlowKernel" 183 ⟨"FlowKernel$Pipe", "<init>", "(ILFlowKernel$Giver;LFlowKernel$Taker;I)V"⟩ := Or.inl (nt_ok (nt_3 _ (List.mem_of_getElem? (i := 49) rfl)) rfl)
theorem ff_K_190 : xo_fd "FlowKernel" 190 8 0 "I" true := ⟨"FlowKernel$Pipe", TF_P, 7, ty_P, cb_P, Or.inr ⟨_, nt_nw (nt_3 _ (List.mem_of_getElem? (i := 54) rfl)) rfl⟩, by decide, rfl, rfl, rfl⟩
theorem wo_A_1 : Cond.methodLink "FlowKernel$Parting" 1 Lib.objectInit ∈ xo_WS := (nt_ok (nt_3 _ (List.mem_of_getElem? (i := 91) rfl)) rfl)
theorem ff_A_7 : xo_fd "FlowKernel$Parting" 7 6 0 "LFlowKernel$Giver;" true := ⟨"FlowKernel$Parting", TF_A, 4, ty_A, cb_A, Or.inl (nt_ok (nt_3 _ (List.mem_of_getElem? (i := 93) rfl)) rfl), by decide, rfl, rfl, rfl⟩
theorem fF_A_7 : xo_fF "FlowKernel$Parting" 7 6 0 "LFlowKernel$Giver;" := ⟨"FlowKernel$Parting", TF_A, 4, ty_A, cb_A, (nt_ok (nt_3 _ (List.mem_of_getElem? (i := 93) rfl)) rfl), by decide, rfl, rfl, rfl, rfl⟩
theorem wl_A_13 : Cond.classLink "FlowKernel$Parting" 13 (xo_tn 2) ∈ xo_WS := (nt_ok (nt_3 _ (List.mem_of_getElem? (i := 92) rfl)) rfl)
theorem fF_A_15 : xo_fF "FlowKernel$Parting" 15 6 1 "[LFlowKernel$Giver;" := ⟨"FlowKernel$Parting", TF_A, 4, ty_A, cb_A, (nt_ok (nt_3 _ (List.mem_of_getElem? (i := 95) rfl)) rfl), by decide, rfl, rfl, rfl, rfl⟩
theorem co_K_195 : xo_cO "FlowKernel" 195 6 4 := ⟨"FlowKernel$Parting", TF_A, ty_A, cb_A, cd_A, (nt_ok (nt_3 _ (List.mem_of_getElem? (i := 86) rfl)) rfl), wn_A, wi_A⟩
theorem ml_K_197 : xo_ml "FlowKernel" 197 ⟨"FlowKernel$Parting", "<init>", "(LFlowKernel$Giver;LFlowKernel$Giver;LFlowKernel$Giver;)V"⟩ := Or.inl (nt_ok (nt_3 _ (List.mem_of_getElem? (i := 88) rfl)) rfl)
theorem ff_K_207 : xo_fd "FlowKernel" 207 5 5 "I" false := ⟨"FlowKernel$Giver", TF_G, 14, ty_G, cb_G, Or.inr ⟨_, nt_nw (nt_1 _ (List.mem_of_getElem? (i := 166) rfl)) rfl⟩, by decide, rfl, rfl, rfl⟩
theorem ff_K_218 : xo_fd "FlowKernel" 218 5 9 "Z" false := ⟨"FlowKernel$Giver", TF_G, 14, ty_G, cb_G, Or.inr ⟨_, nt_nw (nt_1 _ (List.mem_of_getElem? (i := 173) rfl)) rfl⟩, by decide, rfl, rfl, rfl⟩
theorem ff_P_58 : xo_fd "FlowKernel$Pipe" 58 8 6 "Z" false := ⟨"FlowKernel$Pipe", TF_P, 7, ty_P, cb_P, Or.inl (nt_ok (nt_3 _ (List.mem_of_getElem? (i := 65) rfl)) rfl), by decide, rfl, rfl, rfl⟩
theorem ff_P_33 : xo_fd "FlowKernel$Pipe" 33 5 3 "LFlowKernel$Row;" true := ⟨"FlowKernel$Giver", TF_G, 14, ty_G, cb_G, Or.inr ⟨_, nt_nw (nt_1 _ (List.mem_of_getElem? (i := 161) rfl)) rfl⟩, by decide, rfl, rfl, rfl⟩
theorem ml_P_61 : xo_ml "FlowKernel$Pipe" 61 ⟨"FlowKernel$Row", "clear", "()V"⟩ := Or.inl (nt_ok (nt_3 _ (List.mem_of_getElem? (i := 140) rfl)) rfl)
theorem ff_P_64 : xo_fd "FlowKernel$Pipe" 64 5 13 "LFlowKernel$Pipe;" false := ⟨"FlowKernel$Giver", TF_G, 14, ty_G, cb_G, Or.inr ⟨_, nt_nw (nt_1 _ (List.mem_of_getElem? (i := 180) rfl)) rfl⟩, by decide, rfl, rfl, rfl⟩
theorem ff_P_68 : xo_fd "FlowKernel$Pipe" 68 7 12 "Z" false := ⟨"FlowKernel$Taker", TF_T, 13, ty_T, cb_T, Or.inr ⟨_, nt_nw (nt_2 _ (List.mem_of_getElem? (i := 83) rfl)) rfl⟩, by decide, rfl, rfl, rfl⟩
theorem ml_K_361 : xo_ml "FlowKernel" 361 ⟨"FlowKernel$Pipe", "letGo", "()V"⟩ := Or.inl (nt_ok (nt_3 _ (List.mem_of_getElem? (i := 136) rfl)) rfl)
theorem ff_P_39 : xo_fd "FlowKernel$Pipe" 39 3 2 "I" false := ⟨"FlowKernel$Row", TF_R, 3, ty_R, cb_R, Or.inr ⟨_, nt_nw (nt_1 _ (List.mem_of_getElem? (i := 57) rfl)) rfl⟩, by decide, rfl, rfl, rfl⟩
theorem ff_P_44 : xo_fd "FlowKernel$Pipe" 44 7 1 "LFlowKernel$ChunkRow;" true := ⟨"FlowKernel$Taker", TF_T, 13, ty_T, cb_T, Or.inr ⟨_, nt_nw (nt_2 _ (List.mem_of_getElem? (i := 66) rfl)) rfl⟩, by decide, rfl, rfl, rfl⟩
theorem ff_P_50 : xo_fd "FlowKernel$Pipe" 50 4 3 "I" false := ⟨"FlowKernel$ChunkRow", TF_C, 4, ty_C, cb_C, Or.inr ⟨_, nt_nw (nt_1 _ (List.mem_of_getElem? (i := 137) rfl)) rfl⟩, by decide, rfl, rfl, rfl⟩
theorem ml_P_55 : xo_ml "FlowKernel$Pipe" 55 ⟨"FlowKernel$ChunkRow", "count", "()I"⟩ := Or.inl (nt_ok (nt_3 _ (List.mem_of_getElem? (i := 147) rfl)) rfl)
theorem ff_K_339 : xo_fd "FlowKernel" 339 8 1 "LFlowKernel$Giver;" true := ⟨"FlowKernel$Pipe", TF_P, 7, ty_P, cb_P, Or.inr ⟨_, nt_nw (nt_3 _ (List.mem_of_getElem? (i := 56) rfl)) rfl⟩, by decide, rfl, rfl, rfl⟩
theorem ff_K_342 : xo_fd "FlowKernel" 342 8 4 "Z" true := ⟨"FlowKernel$Pipe", TF_P, 7, ty_P, cb_P, Or.inr ⟨_, nt_nw (nt_3 _ (List.mem_of_getElem? (i := 62) rfl)) rfl⟩, by decide, rfl, rfl, rfl⟩
theorem ml_K_345 : xo_ml "FlowKernel" 345 ⟨"FlowKernel", "endPipe", "(LFlowKernel$Pipe;II)V"⟩ := Or.inl (nt_ok (nt_3 _ (List.mem_of_getElem? (i := 132) rfl)) rfl)
theorem ml_K_240 : xo_ml "FlowKernel" 240 ⟨"FlowKernel$Taker", "hasError", "()Z"⟩ := Or.inl (nt_ok (nt_3 _ (List.mem_of_getElem? (i := 141) rfl)) rfl)
theorem ff_K_349 : xo_fd "FlowKernel" 349 8 5 "Z" true := ⟨"FlowKernel$Pipe", TF_P, 7, ty_P, cb_P, Or.inr ⟨_, nt_nw (nt_3 _ (List.mem_of_getElem? (i := 64) rfl)) rfl⟩, by decide, rfl, rfl, rfl⟩
theorem ff_K_243 : xo_fd "FlowKernel" 243 7 5 "I" false := ⟨"FlowKernel$Taker", TF_T, 13, ty_T, cb_T, Or.inr ⟨_, nt_nw (nt_2 _ (List.mem_of_getElem? (i := 73) rfl)) rfl⟩, by decide, rfl, rfl, rfl⟩
theorem ff_K_352 : xo_fd "FlowKernel" 352 8 3 "Z" true := ⟨"FlowKernel$Pipe", TF_P, 7, ty_P, cb_P, Or.inr ⟨_, nt_nw (nt_3 _ (List.mem_of_getElem? (i := 60) rfl)) rfl⟩, by decide, rfl, rfl, rfl⟩
theorem ml_K_355 : xo_ml "FlowKernel" 355 ⟨"FlowKernel$Taker", "isShutOrToBe", "()Z"⟩ := Or.inl (nt_ok (nt_3 _ (List.mem_of_getElem? (i := 142) rfl)) rfl)
theorem ml_K_358 : xo_ml "FlowKernel" 358 ⟨"FlowKernel$Pipe", "mustWait", "()Z"⟩ := Or.inl (nt_ok (nt_3 _ (List.mem_of_getElem? (i := 143) rfl)) rfl)
theorem ml_T_91 : xo_ml "FlowKernel$Taker" 91 ⟨"FlowKernel$ChunkRow", "takeFirst", "()I"⟩ := Or.inl (nt_ok (nt_3 _ (List.mem_of_getElem? (i := 156) rfl)) rfl)
theorem ml_T_95 : xo_ml "FlowKernel$Taker" 95 ⟨"FlowKernel$Row", "takeFirst", "()I"⟩ := Or.inl (nt_ok (nt_3 _ (List.mem_of_getElem? (i := 157) rfl)) rfl)
theorem ml_T_96 : xo_ml "FlowKernel$Taker" 96 ⟨"FlowKernel$Taker", "failOrBreak", "(I)V"⟩ := Or.inl (nt_ok (nt_3 _ (List.mem_of_getElem? (i := 158) rfl)) rfl)
theorem ml_T_102 : xo_ml "FlowKernel$Taker" 102 ⟨"FlowKernel$Taker", "noteAborted", "(I)V"⟩ := Or.inl (nt_ok (nt_3 _ (List.mem_of_getElem? (i := 170) rfl)) rfl)
theorem ml_T_99 : xo_ml "FlowKernel$Taker" 99 ⟨"FlowKernel$Taker", "endAbort", "(I)V"⟩ := Or.inl (nt_ok (nt_3 _ (List.mem_of_getElem? (i := 166) rfl)) rfl)
theorem ml_K_330 : xo_ml "FlowKernel" 330 ⟨"FlowKernel$Taker", "written", "(I)V"⟩ := Or.inl (nt_ok (nt_3 _ (List.mem_of_getElem? (i := 152) rfl)) rfl)
theorem ml_K_333 : xo_ml "FlowKernel" 333 ⟨"FlowKernel$Taker", "wasShut", "(I)V"⟩ := Or.inl (nt_ok (nt_3 _ (List.mem_of_getElem? (i := 162) rfl)) rfl)
theorem ml_K_336 : xo_ml "FlowKernel" 336 ⟨"FlowKernel$Taker", "wasAborted", "(I)V"⟩ := Or.inl (nt_ok (nt_3 _ (List.mem_of_getElem? (i := 174) rfl)) rfl)
theorem ff_K_307 : xo_fd "FlowKernel" 307 2 0 "LFlowKernel$Row;" true := ⟨"FlowKernel$JobRow", TF_J, 3, ty_J, cb_J, Or.inr ⟨_, nt_nw (nt_1 _ (List.mem_of_getElem? (i := 69) rfl)) rfl⟩, by decide, rfl, rfl, rfl⟩
theorem ff_K_310 : xo_fd "FlowKernel" 310 2 1 "LFlowKernel$Row;" true := ⟨"FlowKernel$JobRow", TF_J, 3, ty_J, cb_J, Or.inr ⟨_, nt_nw (nt_1 _ (List.mem_of_getElem? (i := 71) rfl)) rfl⟩, by decide, rfl, rfl, rfl⟩
theorem ff_K_313 : xo_fd "FlowKernel" 313 2 2 "LFlowKernel$Row;" true := ⟨"FlowKernel$JobRow", TF_J, 3, ty_J, cb_J, Or.inr ⟨_, nt_nw (nt_1 _ (List.mem_of_getElem? (i := 73) rfl)) rfl⟩, by decide, rfl, rfl, rfl⟩
theorem ml_K_316 : xo_ml "FlowKernel" 316 ⟨"FlowKernel", "doPulled", "(LFlowKernel$Giver;I)V"⟩ := Or.inl (nt_ok (nt_3 _ (List.mem_of_getElem? (i := 120) rfl)) rfl)
theorem ml_K_319 : xo_ml "FlowKernel" 319 ⟨"FlowKernel", "doParted", "(LFlowKernel$Giver;I)V"⟩ := Or.inl (nt_ok (nt_3 _ (List.mem_of_getElem? (i := 124) rfl)) rfl)
theorem ml_K_322 : xo_ml "FlowKernel" 322 ⟨"FlowKernel", "doPump", "(LFlowKernel$Pipe;)Z"⟩ := Or.inl (nt_ok (nt_3 _ (List.mem_of_getElem? (i := 128) rfl)) rfl)
theorem ml_K_326 : xo_ml "FlowKernel" 326 ⟨"FlowKernel", "doSettled", "(LFlowKernel$Taker;II)V"⟩ := Or.inl (nt_ok (nt_3 _ (List.mem_of_getElem? (i := 148) rfl)) rfl)
theorem ml_K_214 : xo_ml "FlowKernel" 214 ⟨"FlowKernel$JobRow", "count", "()I"⟩ := Or.inl (nt_ok (nt_3 _ (List.mem_of_getElem? (i := 112) rfl)) rfl)
theorem ml_K_215 : xo_ml "FlowKernel" 215 ⟨"FlowKernel", "doFirstJob", "()I"⟩ := Or.inl (nt_ok (nt_3 _ (List.mem_of_getElem? (i := 116) rfl)) rfl)
theorem ff_K_221 : xo_fd "FlowKernel" 221 4 3 "I" false := ⟨"FlowKernel$ChunkRow", TF_C, 4, ty_C, cb_C, Or.inr ⟨_, nt_nw (nt_1 _ (List.mem_of_getElem? (i := 139) rfl)) rfl⟩, by decide, rfl, rfl, rfl⟩
theorem ff_K_224 : xo_fd "FlowKernel" 224 7 11 "Z" false := ⟨"FlowKernel$Taker", TF_T, 13, ty_T, cb_T, Or.inr ⟨_, nt_nw (nt_2 _ (List.mem_of_getElem? (i := 82) rfl)) rfl⟩, by decide, rfl, rfl, rfl⟩
theorem ml_K_227 : xo_ml "FlowKernel" 227 ⟨"FlowKernel", "takerError", "(LFlowKernel$Taker;)I"⟩ := Or.inl (nt_ok (nt_3 _ (List.mem_of_getElem? (i := 214) rfl)) rfl)
theorem ml_K_231 : xo_ml "FlowKernel" 231 ⟨"FlowKernel", "giverError", "(LFlowKernel$Giver;)I"⟩ := Or.inl (nt_ok (nt_3 _ (List.mem_of_getElem? (i := 217) rfl)) rfl)
theorem ff_K_235 : xo_fd "FlowKernel" 235 1 3 "I" false := ⟨"FlowKernel$EventLog", TF_L, 4, ty_L, cb_L, Or.inr ⟨_, nt_nw (nt_1 _ (List.mem_of_getElem? (i := 29) rfl)) rfl⟩, by decide, rfl, rfl, rfl⟩
theorem ml_K_236 : xo_ml "FlowKernel" 236 ⟨"FlowKernel$EventLog", "tell", "(II)I"⟩ := Or.inl (nt_ok (nt_3 _ (List.mem_of_getElem? (i := 228) rfl)) rfl)
theorem wo_M_1 : Cond.methodLink "FlowKernelModel" 1 Lib.objectInit ∈ xo_WS := (nt_ok (nt_3 _ (List.mem_of_getElem? (i := 237) rfl)) rfl)
theorem ff_M_7 : xo_fd "FlowKernelModel" 7 9 1 "[I" false := ⟨"FlowKernelModel", TF_M, 51, ty_M, cb_M, Or.inl (nt_ok (nt_3 _ (List.mem_of_getElem? (i := 239) rfl)) rfl), by decide, rfl, rfl, rfl⟩
theorem ff_M_13 : xo_fd "FlowKernelModel" 13 9 2 "[I" false := ⟨"FlowKernelModel", TF_M, 51, ty_M, cb_M, Or.inl (nt_ok (nt_4 _ (List.mem_of_getElem? (i := 0) rfl)) rfl), by decide, rfl, rfl, rfl⟩
theorem ff_M_16 : xo_fd "FlowKernelModel" 16 9 3 "[I" false := ⟨"FlowKernelModel", TF_M, 51, ty_M, cb_M, Or.inl (nt_ok (nt_4 _ (List.mem_of_getElem? (i := 1) rfl)) rfl), by decide, rfl, rfl, rfl⟩
theorem ff_M_19 : xo_fd "FlowKernelModel" 19 9 4 "[Z" false := ⟨"FlowKernelModel", TF_M, 51, ty_M, cb_M, Or.inl (nt_ok (nt_4 _ (List.mem_of_getElem? (i := 2) rfl)) rfl), by decide, rfl, rfl, rfl⟩
theorem ff_M_23 : xo_fd "FlowKernelModel" 23 9 5 "[Z" false := ⟨"FlowKernelModel", TF_M, 51, ty_M, cb_M, Or.inl (nt_ok (nt_4 _ (List.mem_of_getElem? (i := 3) rfl)) rfl), by decide, rfl, rfl, rfl⟩
theorem ff_M_26 : xo_fd "FlowKernelModel" 26 9 6 "[Z" false := ⟨"FlowKernelModel", TF_M, 51, ty_M, cb_M, Or.inl (nt_ok (nt_4 _ (List.mem_of_getElem? (i := 4) rfl)) rfl), by decide, rfl, rfl, rfl⟩
theorem ff_M_29 : xo_fd "FlowKernelModel" 29 9 7 "[Z" false := ⟨"FlowKernelModel", TF_M, 51, ty_M, cb_M, Or.inl (nt_ok (nt_4 _ (List.mem_of_getElem? (i := 5) rfl)) rfl), by decide, rfl, rfl, rfl⟩
theorem ff_M_32 : xo_fd "FlowKernelModel" 32 9 8 "[I" false := ⟨"FlowKernelModel", TF_M, 51, ty_M, cb_M, Or.inl (nt_ok (nt_4 _ (List.mem_of_getElem? (i := 6) rfl)) rfl), by decide, rfl, rfl, rfl⟩
theorem ff_M_35 : xo_fd "FlowKernelModel" 35 9 9 "[I" false := ⟨"FlowKernelModel", TF_M, 51, ty_M, cb_M, Or.inl (nt_ok (nt_4 _ (List.mem_of_getElem? (i := 7) rfl)) rfl), by decide, rfl, rfl, rfl⟩
theorem ff_M_38 : xo_fd "FlowKernelModel" 38 9 10 "[I" false := ⟨"FlowKernelModel", TF_M, 51, ty_M, cb_M, Or.inl (nt_ok (nt_4 _ (List.mem_of_getElem? (i := 8) rfl)) rfl), by decide, rfl, rfl, rfl⟩
theorem ff_M_41 : xo_fd "FlowKernelModel" 41 9 11 "[I" false := ⟨"FlowKernelModel", TF_M, 51, ty_M, cb_M, Or.inl (nt_ok (nt_4 _ (List.mem_of_getElem? (i := 9) rfl)) rfl), by decide, rfl, rfl, rfl⟩
theorem ff_M_44 : xo_fd "FlowKernelModel" 44 9 12 "[I" false := ⟨"FlowKernelModel", TF_M, 51, ty_M, cb_M, Or.inl (nt_ok (nt_4 _ (List.mem_of_getElem? (i := 10) rfl)) rfl), by decide, rfl, rfl, rfl⟩
theorem ff_M_47 : xo_fd "FlowKernelModel" 47 9 13 "[I" false := ⟨"FlowKernelModel", TF_M, 51, ty_M, cb_M, Or.inl (nt_ok (nt_4 _ (List.mem_of_getElem? (i := 11) rfl)) rfl), by decide, rfl, rfl, rfl⟩
theorem ff_M_50 : xo_fd "FlowKernelModel" 50 9 14 "[Z" false := ⟨"FlowKernelModel", TF_M, 51, ty_M, cb_M, Or.inl (nt_ok (nt_4 _ (List.mem_of_getElem? (i := 12) rfl)) rfl), by decide, rfl, rfl, rfl⟩
theorem ff_M_53 : xo_fd "FlowKernelModel" 53 9 15 "[I" false := ⟨"FlowKernelModel", TF_M, 51, ty_M, cb_M, Or.inl (nt_ok (nt_4 _ (List.mem_of_getElem? (i := 13) rfl)) rfl), by decide, rfl, rfl, rfl⟩
theorem ff_M_56 : xo_fd "FlowKernelModel" 56 9 16 "[I" false := ⟨"FlowKernelModel", TF_M, 51, ty_M, cb_M, Or.inl (nt_ok (nt_4 _ (List.mem_of_getElem? (i := 14) rfl)) rfl), by decide, rfl, rfl, rfl⟩
theorem ff_M_59 : xo_fd "FlowKernelModel" 59 9 17 "[Z" false := ⟨"FlowKernelModel", TF_M, 51, ty_M, cb_M, Or.inl (nt_ok (nt_4 _ (List.mem_of_getElem? (i := 15) rfl)) rfl), by decide, rfl, rfl, rfl⟩
theorem ff_M_62 : xo_fd "FlowKernelModel" 62 9 18 "[Z" false := ⟨"FlowKernelModel", TF_M, 51, ty_M, cb_M, Or.inl (nt_ok (nt_4 _ (List.mem_of_getElem? (i := 16) rfl)) rfl), by decide, rfl, rfl, rfl⟩
theorem ff_M_65 : xo_fd "FlowKernelModel" 65 9 19 "[Z" false := ⟨"FlowKernelModel", TF_M, 51, ty_M, cb_M, Or.inl (nt_ok (nt_4 _ (List.mem_of_getElem? (i := 17) rfl)) rfl), by decide, rfl, rfl, rfl⟩
theorem ff_M_68 : xo_fd "FlowKernelModel" 68 9 21 "[I" false := ⟨"FlowKernelModel", TF_M, 51, ty_M, cb_M, Or.inl (nt_ok (nt_4 _ (List.mem_of_getElem? (i := 19) rfl)) rfl), by decide, rfl, rfl, rfl⟩
theorem ff_M_71 : xo_fd "FlowKernelModel" 71 9 22 "[I" false := ⟨"FlowKernelModel", TF_M, 51, ty_M, cb_M, Or.inl (nt_ok (nt_4 _ (List.mem_of_getElem? (i := 20) rfl)) rfl), by decide, rfl, rfl, rfl⟩
theorem ff_M_74 : xo_fd "FlowKernelModel" 74 9 23 "[I" false := ⟨"FlowKernelModel", TF_M, 51, ty_M, cb_M, Or.inl (nt_ok (nt_4 _ (List.mem_of_getElem? (i := 21) rfl)) rfl), by decide, rfl, rfl, rfl⟩
theorem ff_M_77 : xo_fd "FlowKernelModel" 77 9 24 "[Z" false := ⟨"FlowKernelModel", TF_M, 51, ty_M, cb_M, Or.inl (nt_ok (nt_4 _ (List.mem_of_getElem? (i := 22) rfl)) rfl), by decide, rfl, rfl, rfl⟩
theorem ff_M_80 : xo_fd "FlowKernelModel" 80 9 25 "[I" false := ⟨"FlowKernelModel", TF_M, 51, ty_M, cb_M, Or.inl (nt_ok (nt_4 _ (List.mem_of_getElem? (i := 23) rfl)) rfl), by decide, rfl, rfl, rfl⟩
theorem ff_M_83 : xo_fd "FlowKernelModel" 83 9 26 "[I" false := ⟨"FlowKernelModel", TF_M, 51, ty_M, cb_M, Or.inl (nt_ok (nt_4 _ (List.mem_of_getElem? (i := 24) rfl)) rfl), by decide, rfl, rfl, rfl⟩
theorem ff_M_86 : xo_fd "FlowKernelModel" 86 9 27 "[I" false := ⟨"FlowKernelModel", TF_M, 51, ty_M, cb_M, Or.inl (nt_ok (nt_4 _ (List.mem_of_getElem? (i := 25) rfl)) rfl), by decide, rfl, rfl, rfl⟩
theorem ff_M_89 : xo_fd "FlowKernelModel" 89 9 28 "[I" false := ⟨"FlowKernelModel", TF_M, 51, ty_M, cb_M, Or.inl (nt_ok (nt_4 _ (List.mem_of_getElem? (i := 26) rfl)) rfl), by decide, rfl, rfl, rfl⟩
theorem ff_M_92 : xo_fd "FlowKernelModel" 92 9 29 "[Z" false := ⟨"FlowKernelModel", TF_M, 51, ty_M, cb_M, Or.inl (nt_ok (nt_4 _ (List.mem_of_getElem? (i := 27) rfl)) rfl), by decide, rfl, rfl, rfl⟩
theorem ff_M_95 : xo_fd "FlowKernelModel" 95 9 30 "[I" false := ⟨"FlowKernelModel", TF_M, 51, ty_M, cb_M, Or.inl (nt_ok (nt_4 _ (List.mem_of_getElem? (i := 28) rfl)) rfl), by decide, rfl, rfl, rfl⟩
theorem ff_M_98 : xo_fd "FlowKernelModel" 98 9 31 "[Z" false := ⟨"FlowKernelModel", TF_M, 51, ty_M, cb_M, Or.inl (nt_ok (nt_4 _ (List.mem_of_getElem? (i := 29) rfl)) rfl), by decide, rfl, rfl, rfl⟩
theorem ff_M_101 : xo_fd "FlowKernelModel" 101 9 32 "[I" false := ⟨"FlowKernelModel", TF_M, 51, ty_M, cb_M, Or.inl (nt_ok (nt_4 _ (List.mem_of_getElem? (i := 30) rfl)) rfl), by decide, rfl, rfl, rfl⟩
theorem ff_M_104 : xo_fd "FlowKernelModel" 104 9 33 "[Z" false := ⟨"FlowKernelModel", TF_M, 51, ty_M, cb_M, Or.inl (nt_ok (nt_4 _ (List.mem_of_getElem? (i := 31) rfl)) rfl), by decide, rfl, rfl, rfl⟩
theorem ff_M_107 : xo_fd "FlowKernelModel" 107 9 34 "[Z" false := ⟨"FlowKernelModel", TF_M, 51, ty_M, cb_M, Or.inl (nt_ok (nt_4 _ (List.mem_of_getElem? (i := 32) rfl)) rfl), by decide, rfl, rfl, rfl⟩
theorem ff_M_110 : xo_fd "FlowKernelModel" 110 9 35 "[Z" false := ⟨"FlowKernelModel", TF_M, 51, ty_M, cb_M, Or.inl (nt_ok (nt_4 _ (List.mem_of_getElem? (i := 33) rfl)) rfl), by decide, rfl, rfl, rfl⟩
theorem ff_M_113 : xo_fd "FlowKernelModel" 113 9 37 "[I" false := ⟨"FlowKernelModel", TF_M, 51, ty_M, cb_M, Or.inl (nt_ok (nt_4 _ (List.mem_of_getElem? (i := 35) rfl)) rfl), by decide, rfl, rfl, rfl⟩
theorem ff_M_116 : xo_fd "FlowKernelModel" 116 9 38 "[I" false := ⟨"FlowKernelModel", TF_M, 51, ty_M, cb_M, Or.inl (nt_ok (nt_4 _ (List.mem_of_getElem? (i := 36) rfl)) rfl), by decide, rfl, rfl, rfl⟩
theorem ff_M_119 : xo_fd "FlowKernelModel" 119 9 39 "[I" false := ⟨"FlowKernelModel", TF_M, 51, ty_M, cb_M, Or.inl (nt_ok (nt_4 _ (List.mem_of_getElem? (i := 37) rfl)) rfl), by decide, rfl, rfl, rfl⟩
theorem ff_M_122 : xo_fd "FlowKernelModel" 122 9 40 "[Z" false := ⟨"FlowKernelModel", TF_M, 51, ty_M, cb_M, Or.inl (nt_ok (nt_4 _ (List.mem_of_getElem? (i := 38) rfl)) rfl), by decide, rfl, rfl, rfl⟩
theorem ff_M_125 : xo_fd "FlowKernelModel" 125 9 41 "[Z" false := ⟨"FlowKernelModel", TF_M, 51, ty_M, cb_M, Or.inl (nt_ok (nt_4 _ (List.mem_of_getElem? (i := 39) rfl)) rfl), by decide, rfl, rfl, rfl⟩
theorem ff_M_128 : xo_fd "FlowKernelModel" 128 9 44 "[I" false := ⟨"FlowKernelModel", TF_M, 51, ty_M, cb_M, Or.inl (nt_ok (nt_4 _ (List.mem_of_getElem? (i := 42) rfl)) rfl), by decide, rfl, rfl, rfl⟩
theorem ff_M_131 : xo_fd "FlowKernelModel" 131 9 45 "[I" false := ⟨"FlowKernelModel", TF_M, 51, ty_M, cb_M, Or.inl (nt_ok (nt_4 _ (List.mem_of_getElem? (i := 43) rfl)) rfl), by decide, rfl, rfl, rfl⟩
theorem ff_M_134 : xo_fd "FlowKernelModel" 134 9 46 "[I" false := ⟨"FlowKernelModel", TF_M, 51, ty_M, cb_M, Or.inl (nt_ok (nt_4 _ (List.mem_of_getElem? (i := 44) rfl)) rfl), by decide, rfl, rfl, rfl⟩
theorem ff_M_137 : xo_fd "FlowKernelModel" 137 9 48 "[I" false := ⟨"FlowKernelModel", TF_M, 51, ty_M, cb_M, Or.inl (nt_ok (nt_4 _ (List.mem_of_getElem? (i := 46) rfl)) rfl), by decide, rfl, rfl, rfl⟩
theorem ff_M_140 : xo_fd "FlowKernelModel" 140 9 49 "[I" false := ⟨"FlowKernelModel", TF_M, 51, ty_M, cb_M, Or.inl (nt_ok (nt_4 _ (List.mem_of_getElem? (i := 47) rfl)) rfl), by decide, rfl, rfl, rfl⟩
theorem ff_M_143 : xo_fd "FlowKernelModel" 143 9 50 "[I" false := ⟨"FlowKernelModel", TF_M, 51, ty_M, cb_M, Or.inl (nt_ok (nt_4 _ (List.mem_of_getElem? (i := 48) rfl)) rfl), by decide, rfl, rfl, rfl⟩
theorem ff_M_146 : xo_fd "FlowKernelModel" 146 9 47 "I" false := ⟨"FlowKernelModel", TF_M, 51, ty_M, cb_M, Or.inl (nt_ok (nt_4 _ (List.mem_of_getElem? (i := 45) rfl)) rfl), by decide, rfl, rfl, rfl⟩
theorem ff_M_150 : xo_fd "FlowKernelModel" 150 9 42 "I" false := ⟨"FlowKernelModel", TF_M, 51, ty_M, cb_M, Or.inl (nt_ok (nt_4 _ (List.mem_of_getElem? (i := 40) rfl)) rfl), by decide, rfl, rfl, rfl⟩
theorem ff_M_153 : xo_fd "FlowKernelModel" 153 9 43 "I" false := ⟨"FlowKernelModel", TF_M, 51, ty_M, cb_M, Or.inl (nt_ok (nt_4 _ (List.mem_of_getElem? (i := 41) rfl)) rfl), by decide, rfl, rfl, rfl⟩
theorem ml_M_156 : xo_ml "FlowKernelModel" 156 ⟨"FlowKernelModel", "sizeOf", "(IZ)I"⟩ := Or.inl (nt_ok (nt_4 _ (List.mem_of_getElem? (i := 193) rfl)) rfl)
theorem ml_M_160 : xo_ml "FlowKernelModel" 160 ⟨"FlowKernelModel", "happen", "(IIII)V"⟩ := Or.inl (nt_ok (nt_4 _ (List.mem_of_getElem? (i := 169) rfl)) rfl)
theorem ml_M_164 : xo_ml "FlowKernelModel" 164 ⟨"FlowKernelModel", "breaks", "(I)V"⟩ := Or.inl (nt_ok (nt_5 _ (List.mem_of_getElem? (i := 5) rfl)) rfl)
theorem ml_M_168 : xo_ml "FlowKernelModel" 168 ⟨"FlowKernelModel", "goesOn", "(I)V"⟩ := Or.inl (nt_ok (nt_5 _ (List.mem_of_getElem? (i := 1) rfl)) rfl)
theorem ml_M_175 : xo_ml "FlowKernelModel" 175 ⟨"FlowKernelModel", "startFailing", "(II)V"⟩ := Or.inl (nt_ok (nt_5 _ (List.mem_of_getElem? (i := 17) rfl)) rfl)
theorem ml_M_171 : xo_ml "FlowKernelModel" 171 ⟨"FlowKernelModel", "failsOrBreaks", "(II)V"⟩ := Or.inl (nt_ok (nt_5 _ (List.mem_of_getElem? (i := 53) rfl)) rfl)
theorem ml_M_178 : xo_ml "FlowKernelModel" 178 ⟨"FlowKernelModel", "job", "(III)V"⟩ := Or.inl (nt_ok (nt_4 _ (List.mem_of_getElem? (i := 217) rfl)) rfl)
theorem ml_M_182 : xo_ml "FlowKernelModel" 182 ⟨"FlowKernelModel", "writeTo", "(II)I"⟩ := Or.inl (nt_ok (nt_4 _ (List.mem_of_getElem? (i := 237) rfl)) rfl)
theorem ml_M_186 : xo_ml "FlowKernelModel" 186 ⟨"FlowKernelModel", "closePlain", "(I)V"⟩ := Or.inl (nt_ok (nt_4 _ (List.mem_of_getElem? (i := 205) rfl)) rfl)
theorem ml_M_189 : xo_ml "FlowKernelModel" 189 ⟨"FlowKernelModel", "endBranches", "(I)V"⟩ := Or.inl (nt_ok (nt_4 _ (List.mem_of_getElem? (i := 201) rfl)) rfl)
theorem ml_M_192 : xo_ml "FlowKernelModel" 192 ⟨"FlowKernelModel", "failPlain", "(II)V"⟩ := Or.inl (nt_ok (nt_4 _ (List.mem_of_getElem? (i := 165) rfl)) rfl)
theorem ml_M_195 : xo_ml "FlowKernelModel" 195 ⟨"FlowKernelModel", "room", "(I)I"⟩ := Or.inl (nt_ok (nt_4 _ (List.mem_of_getElem? (i := 189) rfl)) rfl)
theorem ml_M_199 : xo_ml "FlowKernelModel" 199 ⟨"FlowKernelModel", "pulls", "(I)Z"⟩ := Or.inl (nt_ok (nt_4 _ (List.mem_of_getElem? (i := 185) rfl)) rfl)
theorem ml_M_203 : xo_ml "FlowKernelModel" 203 ⟨"FlowKernelModel", "takeChunk", "(I)I"⟩ := Or.inl (nt_ok (nt_4 _ (List.mem_of_getElem? (i := 209) rfl)) rfl)
theorem ml_M_206 : xo_ml "FlowKernelModel" 206 ⟨"FlowKernelModel", "close", "(I)V"⟩ := Or.inl (nt_ok (nt_4 _ (List.mem_of_getElem? (i := 213) rfl)) rfl)
theorem ml_M_209 : xo_ml "FlowKernelModel" 209 ⟨"FlowKernelModel", "pullRoot", "(I)V"⟩ := Or.inl (nt_ok (nt_4 _ (List.mem_of_getElem? (i := 181) rfl)) rfl)
theorem ml_M_212 : xo_ml "FlowKernelModel" 212 ⟨"FlowKernelModel", "isBranch", "(I)Z"⟩ := Or.inl (nt_ok (nt_4 _ (List.mem_of_getElem? (i := 177) rfl)) rfl)
theorem ml_M_215 : xo_ml "FlowKernelModel" 215 ⟨"FlowKernelModel", "readOn", "(I)V"⟩ := Or.inl (nt_ok (nt_4 _ (List.mem_of_getElem? (i := 197) rfl)) rfl)
theorem ml_M_218 : xo_ml "FlowKernelModel" 218 ⟨"FlowKernelModel", "takeRequest", "(I)I"⟩ := Or.inl (nt_ok (nt_4 _ (List.mem_of_getElem? (i := 229) rfl)) rfl)
theorem ml_M_221 : xo_ml "FlowKernelModel" 221 ⟨"FlowKernelModel", "answer", "(III)V"⟩ := Or.inl (nt_ok (nt_4 _ (List.mem_of_getElem? (i := 233) rfl)) rfl)
theorem ml_M_224 : xo_ml "FlowKernelModel" 224 ⟨"FlowKernelModel", "pull", "(I)V"⟩ := Or.inl (nt_ok (nt_4 _ (List.mem_of_getElem? (i := 173) rfl)) rfl)
theorem ml_M_227 : xo_ml "FlowKernelModel" 227 ⟨"FlowKernelModel", "cancelRoot", "(II)V"⟩ := Or.inl (nt_ok (nt_5 _ (List.mem_of_getElem? (i := 29) rfl)) rfl)
theorem ml_M_230 : xo_ml "FlowKernelModel" 230 ⟨"FlowKernelModel", "failRoot", "(II)V"⟩ := Or.inl (nt_ok (nt_4 _ (List.mem_of_getElem? (i := 161) rfl)) rfl)
theorem ml_M_233 : xo_ml "FlowKernelModel" 233 ⟨"FlowKernelModel", "takeIn", "(II)V"⟩ := Or.inl (nt_ok (nt_4 _ (List.mem_of_getElem? (i := 225) rfl)) rfl)
theorem ml_M_236 : xo_ml "FlowKernelModel" 236 ⟨"FlowKernelModel", "abortTaker", "(II)V"⟩ := Or.inl (nt_ok (nt_5 _ (List.mem_of_getElem? (i := 13) rfl)) rfl)
theorem ml_M_239 : xo_ml "FlowKernelModel" 239 ⟨"FlowKernelModel", "finish", "(III)V"⟩ := Or.inl (nt_ok (nt_5 _ (List.mem_of_getElem? (i := 21) rfl)) rfl)
theorem ml_M_242 : xo_ml "FlowKernelModel" 242 ⟨"FlowKernelModel", "cancelGiver", "(II)V"⟩ := Or.inl (nt_ok (nt_5 _ (List.mem_of_getElem? (i := 25) rfl)) rfl)
theorem ml_M_245 : xo_ml "FlowKernelModel" 245 ⟨"FlowKernelModel", "shutDown", "(I)V"⟩ := Or.inl (nt_ok (nt_5 _ (List.mem_of_getElem? (i := 33) rfl)) rfl)
theorem ml_M_248 : xo_ml "FlowKernelModel" 248 ⟨"FlowKernelModel", "asks", "(I)Z"⟩ := Or.inl (nt_ok (nt_5 _ (List.mem_of_getElem? (i := 37) rfl)) rfl)
theorem ml_M_251 : xo_ml "FlowKernelModel" 251 ⟨"FlowKernelModel", "space", "(I)I"⟩ := Or.inl (nt_ok (nt_5 _ (List.mem_of_getElem? (i := 41) rfl)) rfl)
theorem ml_M_254 : xo_ml "FlowKernelModel" 254 ⟨"FlowKernelModel", "request", "(II)V"⟩ := Or.inl (nt_ok (nt_5 _ (List.mem_of_getElem? (i := 45) rfl)) rfl)
theorem ff_M_257 : xo_fd "FlowKernelModel" 257 9 36 "I" false := ⟨"FlowKernelModel", TF_M, 51, ty_M, cb_M, Or.inl (nt_ok (nt_4 _ (List.mem_of_getElem? (i := 34) rfl)) rfl), by decide, rfl, rfl, rfl⟩
theorem ml_M_260 : xo_ml "FlowKernelModel" 260 ⟨"FlowKernelModel", "pulledJob", "(II)V"⟩ := Or.inl (nt_ok (nt_4 _ (List.mem_of_getElem? (i := 157) rfl)) rfl)
theorem ml_M_263 : xo_ml "FlowKernelModel" 263 ⟨"FlowKernelModel", "partedJob", "(II)V"⟩ := Or.inl (nt_ok (nt_4 _ (List.mem_of_getElem? (i := 221) rfl)) rfl)
theorem ml_M_266 : xo_ml "FlowKernelModel" 266 ⟨"FlowKernelModel", "pump", "(I)Z"⟩ := Or.inl (nt_ok (nt_5 _ (List.mem_of_getElem? (i := 9) rfl)) rfl)
theorem ml_M_269 : xo_ml "FlowKernelModel" 269 ⟨"FlowKernelModel", "written", "(II)V"⟩ := Or.inl (nt_ok (nt_5 _ (List.mem_of_getElem? (i := 49) rfl)) rfl)
theorem ml_M_272 : xo_ml "FlowKernelModel" 272 ⟨"FlowKernelModel", "shutDone", "(II)V"⟩ := Or.inl (nt_ok (nt_5 _ (List.mem_of_getElem? (i := 57) rfl)) rfl)
theorem ml_M_275 : xo_ml "FlowKernelModel" 275 ⟨"FlowKernelModel", "abortDone", "(II)V"⟩ := Or.inl (nt_ok (nt_5 _ (List.mem_of_getElem? (i := 61) rfl)) rfl)
theorem ml_M_278 : xo_ml "FlowKernelModel" 278 ⟨"FlowKernelModel", "wake", "()V"⟩ := Or.inl (nt_ok (nt_5 _ (List.mem_of_getElem? (i := 65) rfl)) rfl)
theorem ml_M_281 : xo_ml "FlowKernelModel" 281 ⟨"FlowKernelModel", "step", "()I"⟩ := Or.inl (nt_ok (nt_5 _ (List.mem_of_getElem? (i := 73) rfl)) rfl)
theorem ff_M_285 : xo_fd "FlowKernelModel" 285 9 0 "I" false := ⟨"FlowKernelModel", TF_M, 51, ty_M, cb_M, Or.inl (nt_ok (nt_3 _ (List.mem_of_getElem? (i := 238) rfl)) rfl), by decide, rfl, rfl, rfl⟩
theorem ff_M_288 : xo_fd "FlowKernelModel" 288 9 20 "I" false := ⟨"FlowKernelModel", TF_M, 51, ty_M, cb_M, Or.inl (nt_ok (nt_4 _ (List.mem_of_getElem? (i := 18) rfl)) rfl), by decide, rfl, rfl, rfl⟩
theorem ml_M_291 : xo_ml "FlowKernelModel" 291 ⟨"FlowKernelModel", "addGiver", "(IZI)I"⟩ := Or.inl (nt_ok (nt_5 _ (List.mem_of_getElem? (i := 82) rfl)) rfl)
theorem ml_M_295 : xo_ml "FlowKernelModel" 295 ⟨"FlowKernelModel", "noGiver", "(I)Z"⟩ := Or.inl (nt_ok (nt_5 _ (List.mem_of_getElem? (i := 98) rfl)) rfl)
theorem ml_M_298 : xo_ml "FlowKernelModel" 298 ⟨"FlowKernelModel", "noRoot", "(I)Z"⟩ := Or.inl (nt_ok (nt_5 _ (List.mem_of_getElem? (i := 94) rfl)) rfl)
theorem ml_M_301 : xo_ml "FlowKernelModel" 301 ⟨"FlowKernelModel", "ends", "(I)V"⟩ := Or.inl (nt_ok (nt_5 _ (List.mem_of_getElem? (i := 106) rfl)) rfl)
theorem ml_M_304 : xo_ml "FlowKernelModel" 304 ⟨"FlowKernelModel", "badError", "(II)Z"⟩ := Or.inl (nt_ok (nt_5 _ (List.mem_of_getElem? (i := 114) rfl)) rfl)
theorem ml_M_308 : xo_ml "FlowKernelModel" 308 ⟨"FlowKernelModel", "noTaker", "(I)Z"⟩ := Or.inl (nt_ok (nt_5 _ (List.mem_of_getElem? (i := 134) rfl)) rfl)
abbrev mt_L_init : xo_T := (⟨"FlowKernel$EventLog", "<init>", "()V"⟩, prog_3_method_1_code, 1, none, { frames := 1, cells := 3, slots := 192, locals := 20 })
abbrev mt_R_init : xo_T := (⟨"FlowKernel$Row", "<init>", "(I)V"⟩, prog_8_method_1_code, 2, none, { frames := 1, cells := 1, slots := 16, locals := 20 })
abbrev mt_J_init : xo_T := (⟨"FlowKernel$JobRow", "<init>", "()V"⟩, prog_5_method_1_code, 1, none, { frames := 2, cells := 6, slots := 57, locals := 41 })
abbrev mt_K_init : xo_T := (⟨"FlowKernel", "<init>", "()V"⟩, prog_1_method_1_code, 1, none, { frames := 3, cells := 14, slots := 266, locals := 61 })
abbrev mt_K_isMark : xo_T := (⟨"FlowKernel", "isMark", "(I)Z"⟩, prog_1_method_29_code, 1, some .boolean, { frames := 0, cells := 0, slots := 0, locals := 0 })
abbrev mt_C_init : xo_T := (⟨"FlowKernel$ChunkRow", "<init>", "(IZ)V"⟩, prog_2_method_1_code, 3, none, { frames := 2, cells := 2, slots := 19, locals := 41 })
abbrev mt_G_init : xo_T := (⟨"FlowKernel$Giver", "<init>", "(ILFlowKernel$ChunkRow;LFlowKernel$EventLog;)V"⟩, prog_4_method_1_code, 4, none, { frames := 2, cells := 2, slots := 19, locals := 41 })
abbrev mt_K_addGiver : xo_T := (⟨"FlowKernel", "addGiver", "(IZ)LFlowKernel$Giver;"⟩, prog_1_method_38_code, 4, some (.object "FlowKernel$Giver"), { frames := 3, cells := 6, slots := 56, locals := 64 })
abbrev mt_G_isGoing : xo_T := (⟨"FlowKernel$Giver", "isGoing", "()Z"⟩, prog_4_method_2_code, 1, some .boolean, { frames := 0, cells := 0, slots := 0, locals := 0 })
abbrev mt_G_startsPulling : xo_T := (⟨"FlowKernel$Giver", "startsPulling", "()Z"⟩, prog_4_method_4_code, 2, some .boolean, { frames := 1, cells := 0, slots := 0, locals := 20 })
abbrev mt_L_note : xo_T := (⟨"FlowKernel$EventLog", "note", "(IIII)V"⟩, prog_3_method_2_code, 6, none, { frames := 0, cells := 0, slots := 0, locals := 0 })
abbrev mt_C_count : xo_T := (⟨"FlowKernel$ChunkRow", "count", "()I"⟩, prog_2_method_2_code, 1, some .int, { frames := 0, cells := 0, slots := 0, locals := 0 })
abbrev mt_R_takeFirst : xo_T := (⟨"FlowKernel$Row", "takeFirst", "()I"⟩, prog_8_method_4_code, 2, some .int, { frames := 0, cells := 0, slots := 0, locals := 0 })
abbrev mt_C_sizeOf : xo_T := (⟨"FlowKernel$ChunkRow", "sizeOf", "(I)I"⟩, prog_2_method_6_code, 2, some .int, { frames := 0, cells := 0, slots := 0, locals := 0 })
abbrev mt_C_takeFirst : xo_T := (⟨"FlowKernel$ChunkRow", "takeFirst", "()I"⟩, prog_2_method_4_code, 2, some .int, { frames := 1, cells := 0, slots := 0, locals := 21 })
abbrev mt_G_closeIfDrained : xo_T := (⟨"FlowKernel$Giver", "closeIfDrained", "()V"⟩, prog_4_method_5_code, 1, none, { frames := 1, cells := 0, slots := 0, locals := 20 })
abbrev mt_R_add : xo_T := (⟨"FlowKernel$Row", "add", "(I)V"⟩, prog_8_method_2_code, 2, none, { frames := 0, cells := 0, slots := 0, locals := 0 })
abbrev mt_J_add : xo_T := (⟨"FlowKernel$JobRow", "add", "(III)V"⟩, prog_5_method_3_code, 4, none, { frames := 1, cells := 0, slots := 0, locals := 21 })
abbrev mt_K_askRoot : xo_T := (⟨"FlowKernel", "askRoot", "(LFlowKernel$Parting;)Z"⟩, prog_1_method_43_code, 5, some .boolean, { frames := 2, cells := 0, slots := 0, locals := 44 })
abbrev mt_R_at : xo_T := (⟨"FlowKernel$Row", "at", "(I)I"⟩, prog_8_method_3_code, 2, some .int, { frames := 0, cells := 0, slots := 0, locals := 0 })
abbrev mt_R_clear : xo_T := (⟨"FlowKernel$Row", "clear", "()V"⟩, prog_8_method_5_code, 1, none, { frames := 0, cells := 0, slots := 0, locals := 0 })
abbrev mt_G_answerAll : xo_T := (⟨"FlowKernel$Giver", "answerAll", "()V"⟩, prog_4_method_7_code, 4, none, { frames := 1, cells := 0, slots := 0, locals := 25 })
abbrev mt_K_endBranches : xo_T := (⟨"FlowKernel", "endBranches", "(LFlowKernel$Parting;)V"⟩, prog_1_method_44_code, 6, none, { frames := 2, cells := 0, slots := 0, locals := 48 })
abbrev mt_K_pullIfNeeded : xo_T := (⟨"FlowKernel", "pullIfNeeded", "(LFlowKernel$Giver;)V"⟩, prog_1_method_42_code, 3, none, { frames := 3, cells := 0, slots := 0, locals := 73 })
abbrev mt_K_pipeAt : xo_T := (⟨"FlowKernel", "pipeAt", "(I)LFlowKernel$Pipe;"⟩, prog_1_method_37_code, 2, some (.object "FlowKernel$Pipe"), { frames := 0, cells := 0, slots := 0, locals := 0 })
abbrev mt_J_holds : xo_T := (⟨"FlowKernel$JobRow", "holds", "(II)Z"⟩, prog_5_method_4_code, 4, some .boolean, { frames := 1, cells := 0, slots := 0, locals := 21 })
abbrev mt_K_awaitPumps : xo_T := (⟨"FlowKernel", "awaitPumps", "()V"⟩, prog_1_method_49_code, 3, none, { frames := 2, cells := 0, slots := 0, locals := 44 })
abbrev mt_K_giver : xo_T := (⟨"FlowKernel", "giver", "(IZ)I"⟩, prog_1_method_2_code, 4, some .int, { frames := 4, cells := 6, slots := 56, locals := 95 })
abbrev mt_T_init : xo_T := (⟨"FlowKernel$Taker", "<init>", "(ILFlowKernel$ChunkRow;LFlowKernel$EventLog;)V"⟩, prog_9_method_1_code, 4, none, { frames := 2, cells := 2, slots := 19, locals := 41 })
abbrev mt_K_taker : xo_T := (⟨"FlowKernel", "taker", "(IZ)I"⟩, prog_1_method_3_code, 4, some .int, { frames := 3, cells := 6, slots := 55, locals := 66 })
abbrev mt_K_giverAt : xo_T := (⟨"FlowKernel", "giverAt", "(I)LFlowKernel$Giver;"⟩, prog_1_method_34_code, 2, some (.object "FlowKernel$Giver"), { frames := 0, cells := 0, slots := 0, locals := 0 })
abbrev mt_K_rootAt : xo_T := (⟨"FlowKernel", "rootAt", "(I)LFlowKernel$Giver;"⟩, prog_1_method_35_code, 3, some (.object "FlowKernel$Giver"), { frames := 1, cells := 0, slots := 0, locals := 21 })
abbrev mt_T_hasError : xo_T := (⟨"FlowKernel$Taker", "hasError", "()Z"⟩, prog_9_method_2_code, 1, some .boolean, { frames := 0, cells := 0, slots := 0, locals := 0 })
abbrev mt_T_isShutOrToBe : xo_T := (⟨"FlowKernel$Taker", "isShutOrToBe", "()Z"⟩, prog_9_method_3_code, 1, some .boolean, { frames := 0, cells := 0, slots := 0, locals := 0 })
abbrev mt_C_add : xo_T := (⟨"FlowKernel$ChunkRow", "add", "(I)V"⟩, prog_2_method_3_code, 2, none, { frames := 1, cells := 0, slots := 0, locals := 21 })
abbrev mt_T_startNext : xo_T := (⟨"FlowKernel$Taker", "startNext", "()V"⟩, prog_9_method_16_code, 1, none, { frames := 1, cells := 0, slots := 0, locals := 25 })
abbrev mt_T_accept : xo_T := (⟨"FlowKernel$Taker", "accept", "(I)I"⟩, prog_9_method_5_code, 2, some .int, { frames := 2, cells := 0, slots := 0, locals := 45 })
abbrev mt_K_answerChunk : xo_T := (⟨"FlowKernel", "answerChunk", "(LFlowKernel$Giver;II)V"⟩, prog_1_method_40_code, 4, none, { frames := 3, cells := 0, slots := 0, locals := 66 })
abbrev mt_K_takeIn : xo_T := (⟨"FlowKernel", "takeIn", "(LFlowKernel$Giver;I)V"⟩, prog_1_method_39_code, 3, none, { frames := 4, cells := 0, slots := 0, locals := 95 })
abbrev mt_K_put : xo_T := (⟨"FlowKernel", "put", "(II)Z"⟩, prog_1_method_4_code, 4, some .boolean, { frames := 5, cells := 0, slots := 0, locals := 117 })
abbrev mt_K_closeGiver : xo_T := (⟨"FlowKernel", "closeGiver", "(LFlowKernel$Giver;)V"⟩, prog_1_method_46_code, 3, none, { frames := 3, cells := 0, slots := 0, locals := 73 })
abbrev mt_K_end : xo_T := (⟨"FlowKernel", "end", "(I)Z"⟩, prog_1_method_5_code, 3, some .boolean, { frames := 4, cells := 0, slots := 0, locals := 95 })
abbrev mt_K_isError : xo_T := (⟨"FlowKernel", "isError", "(I)Z"⟩, prog_1_method_30_code, 1, some .boolean, { frames := 0, cells := 0, slots := 0, locals := 0 })
abbrev mt_C_clear : xo_T := (⟨"FlowKernel$ChunkRow", "clear", "()V"⟩, prog_2_method_5_code, 1, none, { frames := 1, cells := 0, slots := 0, locals := 20 })
abbrev mt_G_failWith : xo_T := (⟨"FlowKernel$Giver", "failWith", "(I)V"⟩, prog_4_method_6_code, 2, none, { frames := 2, cells := 0, slots := 0, locals := 48 })
abbrev mt_K_failBranches : xo_T := (⟨"FlowKernel", "failBranches", "(LFlowKernel$Parting;I)V"⟩, prog_1_method_45_code, 7, none, { frames := 3, cells := 0, slots := 0, locals := 69 })
abbrev mt_K_failGiver : xo_T := (⟨"FlowKernel", "failGiver", "(LFlowKernel$Giver;I)V"⟩, prog_1_method_47_code, 4, none, { frames := 4, cells := 0, slots := 0, locals := 95 })
abbrev mt_K_fail : xo_T := (⟨"FlowKernel", "fail", "(II)Z"⟩, prog_1_method_6_code, 4, some .boolean, { frames := 5, cells := 0, slots := 0, locals := 118 })
abbrev mt_K_isErrorOrNone : xo_T := (⟨"FlowKernel", "isErrorOrNone", "(I)Z"⟩, prog_1_method_31_code, 1, some .boolean, { frames := 1, cells := 0, slots := 0, locals := 20 })
abbrev mt_K_pulled : xo_T := (⟨"FlowKernel", "pulled", "(II)Z"⟩, prog_1_method_7_code, 4, some .boolean, { frames := 3, cells := 0, slots := 0, locals := 66 })
abbrev mt_G_heldBy : xo_T := (⟨"FlowKernel$Giver", "heldBy", "()I"⟩, prog_4_method_3_code, 1, some .int, { frames := 0, cells := 0, slots := 0, locals := 0 })
abbrev mt_K_request : xo_T := (⟨"FlowKernel", "request", "(LFlowKernel$Giver;I)V"⟩, prog_1_method_41_code, 4, none, { frames := 4, cells := 0, slots := 0, locals := 95 })
abbrev mt_K_read : xo_T := (⟨"FlowKernel", "read", "(I)I"⟩, prog_1_method_8_code, 4, some .int, { frames := 5, cells := 0, slots := 0, locals := 118 })
abbrev mt_A_isGivenUp : xo_T := (⟨"FlowKernel$Parting", "isGivenUp", "()Z"⟩, prog_6_method_2_code, 5, some .boolean, { frames := 0, cells := 0, slots := 0, locals := 0 })
abbrev mt_K_cancelGiver : xo_T := (⟨"FlowKernel", "cancelGiver", "(LFlowKernel$Giver;I)V"⟩, prog_1_method_48_code, 5, none, { frames := 4, cells := 0, slots := 0, locals := 95 })
abbrev mt_K_cancel : xo_T := (⟨"FlowKernel", "cancel", "(II)Z"⟩, prog_1_method_9_code, 4, some .boolean, { frames := 5, cells := 0, slots := 0, locals := 119 })
abbrev mt_K_takerAt : xo_T := (⟨"FlowKernel", "takerAt", "(I)LFlowKernel$Taker;"⟩, prog_1_method_36_code, 2, some (.object "FlowKernel$Taker"), { frames := 0, cells := 0, slots := 0, locals := 0 })
abbrev mt_K_write : xo_T := (⟨"FlowKernel", "write", "(II)I"⟩, prog_1_method_10_code, 5, some .int, { frames := 3, cells := 0, slots := 0, locals := 66 })
abbrev mt_T_canShutDown : xo_T := (⟨"FlowKernel$Taker", "canShutDown", "()Z"⟩, prog_9_method_4_code, 1, some .boolean, { frames := 1, cells := 0, slots := 0, locals := 20 })
abbrev mt_T_startAbort : xo_T := (⟨"FlowKernel$Taker", "startAbort", "()V"⟩, prog_9_method_18_code, 1, none, { frames := 1, cells := 0, slots := 0, locals := 25 })
abbrev mt_T_loseEnd : xo_T := (⟨"FlowKernel$Taker", "loseEnd", "()V"⟩, prog_9_method_19_code, 1, none, { frames := 1, cells := 0, slots := 0, locals := 25 })
abbrev mt_T_breakDown : xo_T := (⟨"FlowKernel$Taker", "breakDown", "()V"⟩, prog_9_method_17_code, 2, none, { frames := 2, cells := 0, slots := 0, locals := 45 })
abbrev mt_T_goOn : xo_T := (⟨"FlowKernel$Taker", "goOn", "()V"⟩, prog_9_method_15_code, 1, none, { frames := 3, cells := 0, slots := 0, locals := 66 })
abbrev mt_T_shutDown : xo_T := (⟨"FlowKernel$Taker", "shutDown", "()V"⟩, prog_9_method_6_code, 1, none, { frames := 4, cells := 0, slots := 0, locals := 86 })
abbrev mt_K_shut : xo_T := (⟨"FlowKernel", "shut", "(I)Z"⟩, prog_1_method_11_code, 3, some .boolean, { frames := 5, cells := 0, slots := 0, locals := 106 })
abbrev mt_T_startFailing : xo_T := (⟨"FlowKernel$Taker", "startFailing", "(I)V"⟩, prog_9_method_8_code, 2, none, { frames := 3, cells := 0, slots := 0, locals := 66 })
abbrev mt_T_abortWith : xo_T := (⟨"FlowKernel$Taker", "abortWith", "(I)V"⟩, prog_9_method_7_code, 2, none, { frames := 4, cells := 0, slots := 0, locals := 87 })
abbrev mt_K_abort : xo_T := (⟨"FlowKernel", "abort", "(II)Z"⟩, prog_1_method_12_code, 4, some .boolean, { frames := 5, cells := 0, slots := 0, locals := 108 })
abbrev mt_K_spoil : xo_T := (⟨"FlowKernel", "spoil", "(II)Z"⟩, prog_1_method_13_code, 4, some .boolean, { frames := 4, cells := 0, slots := 0, locals := 87 })
abbrev mt_K_settle : xo_T := (⟨"FlowKernel", "settle", "(II)Z"⟩, prog_1_method_14_code, 4, some .boolean, { frames := 3, cells := 0, slots := 0, locals := 66 })
abbrev mt_P_init : xo_T := (⟨"FlowKernel$Pipe", "<init>", "(ILFlowKernel$Giver;LFlowKernel$Taker;I)V"⟩, prog_7_method_1_code, 5, none, { frames := 1, cells := 0, slots := 0, locals := 20 })
abbrev mt_K_pipe : xo_T := (⟨"FlowKernel", "pipe", "(III)I"⟩, prog_1_method_15_code, 7, some .int, { frames := 3, cells := 1, slots := 7, locals := 66 })
abbrev mt_A_init : xo_T := (⟨"FlowKernel$Parting", "<init>", "(LFlowKernel$Giver;LFlowKernel$Giver;LFlowKernel$Giver;)V"⟩, prog_6_method_1_code, 4, none, { frames := 1, cells := 1, slots := 2, locals := 20 })
abbrev mt_K_part : xo_T := (⟨"FlowKernel", "part", "(I)I"⟩, prog_1_method_16_code, 6, some .int, { frames := 4, cells := 14, slots := 118, locals := 95 })
abbrev mt_J_count : xo_T := (⟨"FlowKernel$JobRow", "count", "()I"⟩, prog_5_method_2_code, 1, some .int, { frames := 0, cells := 0, slots := 0, locals := 0 })
abbrev mt_K_doPulled : xo_T := (⟨"FlowKernel", "doPulled", "(LFlowKernel$Giver;I)V"⟩, prog_1_method_51_code, 3, none, { frames := 5, cells := 0, slots := 0, locals := 118 })
abbrev mt_K_doParted : xo_T := (⟨"FlowKernel", "doParted", "(LFlowKernel$Giver;I)V"⟩, prog_1_method_52_code, 8, none, { frames := 5, cells := 0, slots := 0, locals := 117 })
abbrev mt_P_letGo : xo_T := (⟨"FlowKernel$Pipe", "letGo", "()V"⟩, prog_7_method_3_code, 1, none, { frames := 1, cells := 0, slots := 0, locals := 20 })
abbrev mt_K_endPipe : xo_T := (⟨"FlowKernel", "endPipe", "(LFlowKernel$Pipe;II)V"⟩, prog_1_method_55_code, 4, none, { frames := 2, cells := 0, slots := 0, locals := 40 })
abbrev mt_P_mustWait : xo_T := (⟨"FlowKernel$Pipe", "mustWait", "()Z"⟩, prog_7_method_2_code, 1, some .boolean, { frames := 1, cells := 0, slots := 0, locals := 20 })
abbrev mt_K_doPump : xo_T := (⟨"FlowKernel", "doPump", "(LFlowKernel$Pipe;)Z"⟩, prog_1_method_54_code, 4, some .boolean, { frames := 5, cells := 0, slots := 0, locals := 119 })
abbrev mt_T_failOrBreak : xo_T := (⟨"FlowKernel$Taker", "failOrBreak", "(I)V"⟩, prog_9_method_14_code, 2, none, { frames := 3, cells := 0, slots := 0, locals := 66 })
abbrev mt_T_written : xo_T := (⟨"FlowKernel$Taker", "written", "(I)V"⟩, prog_9_method_9_code, 3, none, { frames := 4, cells := 0, slots := 0, locals := 87 })
abbrev mt_T_noteAborted : xo_T := (⟨"FlowKernel$Taker", "noteAborted", "(I)V"⟩, prog_9_method_13_code, 2, none, { frames := 1, cells := 0, slots := 0, locals := 25 })
abbrev mt_T_endAbort : xo_T := (⟨"FlowKernel$Taker", "endAbort", "(I)V"⟩, prog_9_method_12_code, 2, none, { frames := 2, cells := 0, slots := 0, locals := 46 })
abbrev mt_T_wasShut : xo_T := (⟨"FlowKernel$Taker", "wasShut", "(I)V"⟩, prog_9_method_10_code, 2, none, { frames := 4, cells := 0, slots := 0, locals := 87 })
abbrev mt_T_wasAborted : xo_T := (⟨"FlowKernel$Taker", "wasAborted", "(I)V"⟩, prog_9_method_11_code, 2, none, { frames := 2, cells := 0, slots := 0, locals := 46 })
abbrev mt_K_doSettled : xo_T := (⟨"FlowKernel", "doSettled", "(LFlowKernel$Taker;II)V"⟩, prog_1_method_53_code, 4, none, { frames := 5, cells := 0, slots := 0, locals := 109 })
abbrev mt_K_doFirstJob : xo_T := (⟨"FlowKernel", "doFirstJob", "()I"⟩, prog_1_method_50_code, 5, some .int, { frames := 6, cells := 0, slots := 0, locals := 144 })
abbrev mt_K_step : xo_T := (⟨"FlowKernel", "step", "()I"⟩, prog_1_method_17_code, 1, some .int, { frames := 7, cells := 0, slots := 0, locals := 168 })
abbrev mt_K_run : xo_T := (⟨"FlowKernel", "run", "()I"⟩, prog_1_method_18_code, 2, some .int, { frames := 7, cells := 0, slots := 0, locals := 168 })
abbrev mt_K_jobs : xo_T := (⟨"FlowKernel", "jobs", "()I"⟩, prog_1_method_19_code, 1, some .int, { frames := 1, cells := 0, slots := 0, locals := 20 })
abbrev mt_K_giverState : xo_T := (⟨"FlowKernel", "giverState", "(I)I"⟩, prog_1_method_20_code, 4, some .int, { frames := 1, cells := 0, slots := 0, locals := 21 })
abbrev mt_K_giverRoom : xo_T := (⟨"FlowKernel", "giverRoom", "(I)I"⟩, prog_1_method_21_code, 3, some .int, { frames := 1, cells := 0, slots := 0, locals := 21 })
abbrev mt_K_giverQueue : xo_T := (⟨"FlowKernel", "giverQueue", "(I)I"⟩, prog_1_method_22_code, 3, some .int, { frames := 1, cells := 0, slots := 0, locals := 21 })
abbrev mt_K_takerState : xo_T := (⟨"FlowKernel", "takerState", "(I)I"⟩, prog_1_method_23_code, 4, some .int, { frames := 1, cells := 0, slots := 0, locals := 21 })
abbrev mt_K_takerRoom : xo_T := (⟨"FlowKernel", "takerRoom", "(I)I"⟩, prog_1_method_24_code, 3, some .int, { frames := 1, cells := 0, slots := 0, locals := 21 })
abbrev mt_K_takerQueue : xo_T := (⟨"FlowKernel", "takerQueue", "(I)I"⟩, prog_1_method_25_code, 3, some .int, { frames := 1, cells := 0, slots := 0, locals := 21 })
abbrev mt_K_takerError : xo_T := (⟨"FlowKernel", "takerError", "(LFlowKernel$Taker;)I"⟩, prog_1_method_33_code, 1, some .int, { frames := 1, cells := 0, slots := 0, locals := 20 })
abbrev mt_K_giverError : xo_T := (⟨"FlowKernel", "giverError", "(LFlowKernel$Giver;)I"⟩, prog_1_method_32_code, 1, some .int, { frames := 0, cells := 0, slots := 0, locals := 0 })
abbrev mt_K_error : xo_T := (⟨"FlowKernel", "error", "(ZI)I"⟩, prog_1_method_26_code, 3, some .int, { frames := 2, cells := 0, slots := 0, locals := 40 })
abbrev mt_K_events : xo_T := (⟨"FlowKernel", "events", "()I"⟩, prog_1_method_27_code, 1, some .int, { frames := 0, cells := 0, slots := 0, locals := 0 })
abbrev mt_L_tell : xo_T := (⟨"FlowKernel$EventLog", "tell", "(II)I"⟩, prog_3_method_3_code, 4, some .int, { frames := 0, cells := 0, slots := 0, locals := 0 })
abbrev mt_K_event : xo_T := (⟨"FlowKernel", "event", "(II)I"⟩, prog_1_method_28_code, 3, some .int, { frames := 1, cells := 0, slots := 0, locals := 23 })
abbrev mt_M_init : xo_T := (⟨"FlowKernelModel", "<init>", "()V"⟩, prog_11_method_1_code, 1, none, { frames := 1, cells := 45, slots := 730, locals := 20 })
abbrev mt_M_happen : xo_T := (⟨"FlowKernelModel", "happen", "(IIII)V"⟩, prog_11_method_2_code, 6, none, { frames := 0, cells := 0, slots := 0, locals := 0 })
abbrev mt_M_job : xo_T := (⟨"FlowKernelModel", "job", "(III)V"⟩, prog_11_method_3_code, 5, none, { frames := 0, cells := 0, slots := 0, locals := 0 })
abbrev mt_M_sizeOf : xo_T := (⟨"FlowKernelModel", "sizeOf", "(IZ)I"⟩, prog_11_method_4_code, 3, some .int, { frames := 0, cells := 0, slots := 0, locals := 0 })
abbrev mt_M_space : xo_T := (⟨"FlowKernelModel", "space", "(I)I"⟩, prog_11_method_5_code, 4, some .int, { frames := 1, cells := 0, slots := 0, locals := 22 })
abbrev mt_M_breaks : xo_T := (⟨"FlowKernelModel", "breaks", "(I)V"⟩, prog_11_method_6_code, 3, none, { frames := 1, cells := 0, slots := 0, locals := 25 })
abbrev mt_M_goesOn : xo_T := (⟨"FlowKernelModel", "goesOn", "(I)V"⟩, prog_11_method_7_code, 2, none, { frames := 2, cells := 0, slots := 0, locals := 47 })
abbrev mt_M_startFailing : xo_T := (⟨"FlowKernelModel", "startFailing", "(II)V"⟩, prog_11_method_8_code, 3, none, { frames := 2, cells := 0, slots := 0, locals := 47 })
abbrev mt_M_writeTo : xo_T := (⟨"FlowKernelModel", "writeTo", "(II)I"⟩, prog_11_method_9_code, 4, some .int, { frames := 3, cells := 0, slots := 0, locals := 68 })
abbrev mt_M_failsOrBreaks : xo_T := (⟨"FlowKernelModel", "failsOrBreaks", "(II)V"⟩, prog_11_method_11_code, 3, none, { frames := 3, cells := 0, slots := 0, locals := 69 })
abbrev mt_M_written : xo_T := (⟨"FlowKernelModel", "written", "(II)V"⟩, prog_11_method_10_code, 5, none, { frames := 4, cells := 0, slots := 0, locals := 91 })
abbrev mt_M_shutDone : xo_T := (⟨"FlowKernelModel", "shutDone", "(II)V"⟩, prog_11_method_12_code, 3, none, { frames := 4, cells := 0, slots := 0, locals := 91 })
abbrev mt_M_abortDone : xo_T := (⟨"FlowKernelModel", "abortDone", "(II)V"⟩, prog_11_method_13_code, 3, none, { frames := 1, cells := 0, slots := 0, locals := 25 })
abbrev mt_M_abortTaker : xo_T := (⟨"FlowKernelModel", "abortTaker", "(II)V"⟩, prog_11_method_14_code, 3, none, { frames := 3, cells := 0, slots := 0, locals := 69 })
abbrev mt_M_shutDown : xo_T := (⟨"FlowKernelModel", "shutDown", "(I)V"⟩, prog_11_method_15_code, 2, none, { frames := 3, cells := 0, slots := 0, locals := 68 })
abbrev mt_M_room : xo_T := (⟨"FlowKernelModel", "room", "(I)I"⟩, prog_11_method_16_code, 4, some .int, { frames := 1, cells := 0, slots := 0, locals := 22 })
abbrev mt_M_isBranch : xo_T := (⟨"FlowKernelModel", "isBranch", "(I)Z"⟩, prog_11_method_17_code, 2, some .boolean, { frames := 0, cells := 0, slots := 0, locals := 0 })
abbrev mt_M_answer : xo_T := (⟨"FlowKernelModel", "answer", "(III)V"⟩, prog_11_method_18_code, 5, none, { frames := 4, cells := 0, slots := 0, locals := 91 })
abbrev mt_M_takeRequest : xo_T := (⟨"FlowKernelModel", "takeRequest", "(I)I"⟩, prog_11_method_19_code, 4, some .int, { frames := 0, cells := 0, slots := 0, locals := 0 })
abbrev mt_M_takeChunk : xo_T := (⟨"FlowKernelModel", "takeChunk", "(I)I"⟩, prog_11_method_20_code, 4, some .int, { frames := 0, cells := 0, slots := 0, locals := 0 })
abbrev mt_M_closePlain : xo_T := (⟨"FlowKernelModel", "closePlain", "(I)V"⟩, prog_11_method_21_code, 4, none, { frames := 1, cells := 0, slots := 0, locals := 25 })
abbrev mt_M_endBranches : xo_T := (⟨"FlowKernelModel", "endBranches", "(I)V"⟩, prog_11_method_22_code, 3, none, { frames := 2, cells := 0, slots := 0, locals := 48 })
abbrev mt_M_close : xo_T := (⟨"FlowKernelModel", "close", "(I)V"⟩, prog_11_method_23_code, 3, none, { frames := 3, cells := 0, slots := 0, locals := 70 })
abbrev mt_M_failPlain : xo_T := (⟨"FlowKernelModel", "failPlain", "(II)V"⟩, prog_11_method_24_code, 5, none, { frames := 1, cells := 0, slots := 0, locals := 25 })
abbrev mt_M_failRoot : xo_T := (⟨"FlowKernelModel", "failRoot", "(II)V"⟩, prog_11_method_25_code, 4, none, { frames := 2, cells := 0, slots := 0, locals := 49 })
abbrev mt_M_pulls : xo_T := (⟨"FlowKernelModel", "pulls", "(I)Z"⟩, prog_11_method_26_code, 3, some .boolean, { frames := 2, cells := 0, slots := 0, locals := 45 })
abbrev mt_M_pullRoot : xo_T := (⟨"FlowKernelModel", "pullRoot", "(I)V"⟩, prog_11_method_27_code, 2, none, { frames := 3, cells := 0, slots := 0, locals := 67 })
abbrev mt_M_readOn : xo_T := (⟨"FlowKernelModel", "readOn", "(I)V"⟩, prog_11_method_28_code, 3, none, { frames := 4, cells := 0, slots := 0, locals := 92 })
abbrev mt_M_pull : xo_T := (⟨"FlowKernelModel", "pull", "(I)V"⟩, prog_11_method_29_code, 3, none, { frames := 5, cells := 0, slots := 0, locals := 114 })
abbrev mt_M_takeIn : xo_T := (⟨"FlowKernelModel", "takeIn", "(II)V"⟩, prog_11_method_30_code, 3, none, { frames := 6, cells := 0, slots := 0, locals := 136 })
abbrev mt_M_request : xo_T := (⟨"FlowKernelModel", "request", "(II)V"⟩, prog_11_method_31_code, 4, none, { frames := 6, cells := 0, slots := 0, locals := 136 })
abbrev mt_M_cancelRoot : xo_T := (⟨"FlowKernelModel", "cancelRoot", "(II)V"⟩, prog_11_method_32_code, 3, none, { frames := 4, cells := 0, slots := 0, locals := 92 })
abbrev mt_M_cancelGiver : xo_T := (⟨"FlowKernelModel", "cancelGiver", "(II)V"⟩, prog_11_method_33_code, 4, none, { frames := 5, cells := 0, slots := 0, locals := 114 })
abbrev mt_M_ends : xo_T := (⟨"FlowKernelModel", "ends", "(I)V"⟩, prog_11_method_34_code, 2, none, { frames := 4, cells := 0, slots := 0, locals := 92 })
abbrev mt_M_pulledJob : xo_T := (⟨"FlowKernelModel", "pulledJob", "(II)V"⟩, prog_11_method_35_code, 3, none, { frames := 6, cells := 0, slots := 0, locals := 136 })
abbrev mt_M_partedJob : xo_T := (⟨"FlowKernelModel", "partedJob", "(II)V"⟩, prog_11_method_36_code, 4, none, { frames := 7, cells := 0, slots := 0, locals := 158 })
abbrev mt_M_asks : xo_T := (⟨"FlowKernelModel", "asks", "(I)Z"⟩, prog_11_method_37_code, 4, some .boolean, { frames := 0, cells := 0, slots := 0, locals := 0 })
abbrev mt_M_finish : xo_T := (⟨"FlowKernelModel", "finish", "(III)V"⟩, prog_11_method_38_code, 8, none, { frames := 1, cells := 0, slots := 0, locals := 25 })
abbrev mt_M_pump : xo_T := (⟨"FlowKernelModel", "pump", "(I)Z"⟩, prog_11_method_39_code, 5, some .boolean, { frames := 7, cells := 0, slots := 0, locals := 159 })
abbrev mt_M_wake : xo_T := (⟨"FlowKernelModel", "wake", "()V"⟩, prog_11_method_40_code, 2, none, { frames := 1, cells := 0, slots := 0, locals := 24 })
abbrev mt_M_step : xo_T := (⟨"FlowKernelModel", "step", "()I"⟩, prog_11_method_41_code, 5, some .int, { frames := 8, cells := 0, slots := 0, locals := 183 })
abbrev mt_M_run : xo_T := (⟨"FlowKernelModel", "run", "()I"⟩, prog_11_method_42_code, 3, some .int, { frames := 9, cells := 0, slots := 0, locals := 207 })
abbrev mt_M_jobs : xo_T := (⟨"FlowKernelModel", "jobs", "()I"⟩, prog_11_method_43_code, 1, some .int, { frames := 0, cells := 0, slots := 0, locals := 0 })
abbrev mt_M_noGiver : xo_T := (⟨"FlowKernelModel", "noGiver", "(I)Z"⟩, prog_11_method_44_code, 2, some .boolean, { frames := 0, cells := 0, slots := 0, locals := 0 })
abbrev mt_M_noTaker : xo_T := (⟨"FlowKernelModel", "noTaker", "(I)Z"⟩, prog_11_method_45_code, 2, some .boolean, { frames := 0, cells := 0, slots := 0, locals := 0 })
abbrev mt_M_badError : xo_T := (⟨"FlowKernelModel", "badError", "(II)Z"⟩, prog_11_method_46_code, 3, some .boolean, { frames := 0, cells := 0, slots := 0, locals := 0 })
abbrev mt_M_addGiver : xo_T := (⟨"FlowKernelModel", "addGiver", "(IZI)I"⟩, prog_11_method_47_code, 5, some .int, { frames := 0, cells := 0, slots := 0, locals := 0 })
abbrev mt_M_giver : xo_T := (⟨"FlowKernelModel", "giver", "(IZ)I"⟩, prog_11_method_48_code, 4, some .int, { frames := 6, cells := 0, slots := 0, locals := 136 })
abbrev mt_M_taker : xo_T := (⟨"FlowKernelModel", "taker", "(IZ)I"⟩, prog_11_method_49_code, 3, some .int, { frames := 2, cells := 0, slots := 0, locals := 45 })
abbrev mt_M_noRoot : xo_T := (⟨"FlowKernelModel", "noRoot", "(I)Z"⟩, prog_11_method_50_code, 2, some .boolean, { frames := 1, cells := 0, slots := 0, locals := 21 })
abbrev mt_M_put : xo_T := (⟨"FlowKernelModel", "put", "(II)Z"⟩, prog_11_method_51_code, 3, some .boolean, { frames := 7, cells := 0, slots := 0, locals := 158 })
abbrev mt_M_end : xo_T := (⟨"FlowKernelModel", "end", "(I)Z"⟩, prog_11_method_52_code, 2, some .boolean, { frames := 5, cells := 0, slots := 0, locals := 113 })
abbrev mt_M_fail : xo_T := (⟨"FlowKernelModel", "fail", "(II)Z"⟩, prog_11_method_53_code, 3, some .boolean, { frames := 3, cells := 0, slots := 0, locals := 72 })
abbrev mt_M_pulled : xo_T := (⟨"FlowKernelModel", "pulled", "(II)Z"⟩, prog_11_method_54_code, 3, some .boolean, { frames := 2, cells := 0, slots := 0, locals := 45 })
abbrev mt_M_read : xo_T := (⟨"FlowKernelModel", "read", "(I)I"⟩, prog_11_method_55_code, 3, some .int, { frames := 7, cells := 0, slots := 0, locals := 159 })
abbrev mt_M_cancel : xo_T := (⟨"FlowKernelModel", "cancel", "(II)Z"⟩, prog_11_method_56_code, 3, some .boolean, { frames := 6, cells := 0, slots := 0, locals := 137 })
abbrev mt_M_write : xo_T := (⟨"FlowKernelModel", "write", "(II)I"⟩, prog_11_method_57_code, 4, some .int, { frames := 4, cells := 0, slots := 0, locals := 91 })
abbrev mt_M_shut : xo_T := (⟨"FlowKernelModel", "shut", "(I)Z"⟩, prog_11_method_58_code, 2, some .boolean, { frames := 4, cells := 0, slots := 0, locals := 89 })
abbrev mt_M_abort : xo_T := (⟨"FlowKernelModel", "abort", "(II)Z"⟩, prog_11_method_59_code, 3, some .boolean, { frames := 4, cells := 0, slots := 0, locals := 91 })
abbrev mt_M_spoil : xo_T := (⟨"FlowKernelModel", "spoil", "(II)Z"⟩, prog_11_method_60_code, 3, some .boolean, { frames := 3, cells := 0, slots := 0, locals := 69 })
abbrev mt_M_settle : xo_T := (⟨"FlowKernelModel", "settle", "(II)Z"⟩, prog_11_method_61_code, 3, some .boolean, { frames := 2, cells := 0, slots := 0, locals := 45 })
abbrev mt_M_pipe : xo_T := (⟨"FlowKernelModel", "pipe", "(III)I"⟩, prog_11_method_62_code, 4, some .int, { frames := 2, cells := 0, slots := 0, locals := 45 })
abbrev mt_M_part : xo_T := (⟨"FlowKernelModel", "part", "(I)I"⟩, prog_11_method_63_code, 4, some .int, { frames := 3, cells := 0, slots := 0, locals := 70 })
abbrev mt_M_giverState : xo_T := (⟨"FlowKernelModel", "giverState", "(I)I"⟩, prog_11_method_64_code, 2, some .int, { frames := 1, cells := 0, slots := 0, locals := 21 })
abbrev mt_M_giverRoom : xo_T := (⟨"FlowKernelModel", "giverRoom", "(I)I"⟩, prog_11_method_65_code, 2, some .int, { frames := 2, cells := 0, slots := 0, locals := 45 })
abbrev mt_M_giverQueue : xo_T := (⟨"FlowKernelModel", "giverQueue", "(I)I"⟩, prog_11_method_66_code, 2, some .int, { frames := 1, cells := 0, slots := 0, locals := 21 })
abbrev mt_M_takerState : xo_T := (⟨"FlowKernelModel", "takerState", "(I)I"⟩, prog_11_method_67_code, 3, some .int, { frames := 1, cells := 0, slots := 0, locals := 21 })
abbrev mt_M_takerRoom : xo_T := (⟨"FlowKernelModel", "takerRoom", "(I)I"⟩, prog_11_method_68_code, 2, some .int, { frames := 2, cells := 0, slots := 0, locals := 45 })
abbrev mt_M_takerQueue : xo_T := (⟨"FlowKernelModel", "takerQueue", "(I)I"⟩, prog_11_method_69_code, 2, some .int, { frames := 1, cells := 0, slots := 0, locals := 21 })
abbrev mt_M_error : xo_T := (⟨"FlowKernelModel", "error", "(ZI)I"⟩, prog_11_method_70_code, 3, some .int, { frames := 1, cells := 0, slots := 0, locals := 21 })
abbrev mt_M_events : xo_T := (⟨"FlowKernelModel", "events", "()I"⟩, prog_11_method_71_code, 1, some .int, { frames := 0, cells := 0, slots := 0, locals := 0 })
abbrev mt_M_event : xo_T := (⟨"FlowKernelModel", "event", "(II)I"⟩, prog_11_method_72_code, 3, some .int, { frames := 0, cells := 0, slots := 0, locals := 0 })
theorem cv_L_init : xo_ci mt_L_init 0 := ⟨⟨(nt_ok (nt_1 _ (List.mem_of_getElem? (i := 23) rfl)) rfl), wi_L, by decide, by decide, by decide +kernel⟩, (nt_ok (nt_1 _ (List.mem_of_getElem? (i := 22) rfl)) rfl), rfl, rfl⟩
theorem cv_R_init : xo_ci mt_R_init 1 := ⟨⟨(nt_ok (nt_1 _ (List.mem_of_getElem? (i := 50) rfl)) rfl), wi_R, by decide, by decide, by decide +kernel⟩, (nt_ok (nt_1 _ (List.mem_of_getElem? (i := 49) rfl)) rfl), rfl, rfl⟩
theorem cv_J_init : xo_ci mt_J_init 0 := ⟨⟨(nt_ok (nt_1 _ (List.mem_of_getElem? (i := 44) rfl)) rfl), wi_J, by decide, by decide, by decide +kernel⟩, (nt_ok (nt_1 _ (List.mem_of_getElem? (i := 43) rfl)) rfl), rfl, rfl⟩
theorem cv_K_init : xo_ci mt_K_init 0 := ⟨⟨(nt_ok (nt_1 _ (List.mem_of_getElem? (i := 15) rfl)) rfl), wi_K, by decide, by decide, by decide +kernel⟩, (nt_ok (nt_1 _ (List.mem_of_getElem? (i := 14) rfl)) rfl), rfl, rfl⟩
theorem cv_K_isMark : xo_cs mt_K_isMark 1 := ⟨⟨(nt_ok (nt_1 _ (List.mem_of_getElem? (i := 118) rfl)) rfl), wi_K, by decide, by decide, by decide +kernel⟩, (nt_ok (nt_1 _ (List.mem_of_getElem? (i := 117) rfl)) rfl)⟩
theorem cv_C_init : xo_ci mt_C_init 2 := ⟨⟨(nt_ok (nt_1 _ (List.mem_of_getElem? (i := 128) rfl)) rfl), wi_C, by decide, by decide, by decide +kernel⟩, (nt_ok (nt_1 _ (List.mem_of_getElem? (i := 127) rfl)) rfl), rfl, rfl⟩
theorem cv_G_init : xo_ci mt_G_init 3 := ⟨⟨(nt_ok (nt_1 _ (List.mem_of_getElem? (i := 151) rfl)) rfl), wi_G, by decide, by decide, by decide +kernel⟩, (nt_ok (nt_1 _ (List.mem_of_getElem? (i := 150) rfl)) rfl), rfl, rfl⟩
theorem cv_K_addGiver : xo_cv mt_K_addGiver 2 := ⟨⟨(nt_ok (nt_1 _ (List.mem_of_getElem? (i := 122) rfl)) rfl), wi_K, by decide, by decide, by decide +kernel⟩, (nt_ok (nt_1 _ (List.mem_of_getElem? (i := 121) rfl)) rfl), (nt_ok (nt_sel (y := ⟨"FlowKernel", "addGiver", "(IZ)LFlowKernel$Giver;"⟩) (n := 8) (List.mem_append_left _ (List.mem_of_getElem? (i := 0) (rfl : lw_privs_1[0]? = some _)))) rfl)⟩
theorem cv_G_isGoing : xo_cv mt_G_isGoing 0 := ⟨⟨(nt_ok (nt_1 _ (List.mem_of_getElem? (i := 222) rfl)) rfl), wi_G, by decide, by decide, by decide +kernel⟩, (nt_ok (nt_1 _ (List.mem_of_getElem? (i := 220) rfl)) rfl), (nt_ok (nt_1 _ (List.mem_of_getElem? (i := 221) rfl)) rfl)⟩
theorem cv_G_startsPulling : xo_cv mt_G_startsPulling 0 := ⟨⟨(nt_ok (nt_1 _ (List.mem_of_getElem? (i := 218) rfl)) rfl), wi_G, by decide, by decide, by decide +kernel⟩, (nt_ok (nt_1 _ (List.mem_of_getElem? (i := 216) rfl)) rfl), (nt_ok (nt_1 _ (List.mem_of_getElem? (i := 217) rfl)) rfl)⟩
theorem cv_L_note : xo_cv mt_L_note 4 := ⟨⟨(nt_ok (nt_1 _ (List.mem_of_getElem? (i := 226) rfl)) rfl), wi_L, by decide, by decide, by decide +kernel⟩, (nt_ok (nt_1 _ (List.mem_of_getElem? (i := 224) rfl)) rfl), (nt_ok (nt_1 _ (List.mem_of_getElem? (i := 225) rfl)) rfl)⟩
theorem cv_C_count : xo_cv mt_C_count 0 := ⟨⟨(nt_ok (nt_1 _ (List.mem_of_getElem? (i := 234) rfl)) rfl), wi_C, by decide, by decide, by decide +kernel⟩, (nt_ok (nt_1 _ (List.mem_of_getElem? (i := 232) rfl)) rfl), (nt_ok (nt_1 _ (List.mem_of_getElem? (i := 233) rfl)) rfl)⟩
theorem cv_R_takeFirst : xo_cv mt_R_takeFirst 0 := ⟨⟨(nt_ok (nt_2 _ (List.mem_of_getElem? (i := 2) rfl)) rfl), wi_R, by decide, by decide, by decide +kernel⟩, (nt_ok (nt_2 _ (List.mem_of_getElem? (i := 0) rfl)) rfl), (nt_ok (nt_2 _ (List.mem_of_getElem? (i := 1) rfl)) rfl)⟩
theorem cv_C_sizeOf : xo_cv mt_C_sizeOf 1 := ⟨⟨(nt_ok (nt_2 _ (List.mem_of_getElem? (i := 6) rfl)) rfl), wi_C, by decide, by decide, by decide +kernel⟩, (nt_ok (nt_2 _ (List.mem_of_getElem? (i := 5) rfl)) rfl), (nt_ok (nt_sel (y := ⟨"FlowKernel$ChunkRow", "sizeOf", "(I)I"⟩) (n := 4) (List.mem_append_left _ (List.mem_of_getElem? (i := 3) (rfl : lw_privs_1[3]? = some _)))) rfl)⟩
theorem cv_C_takeFirst : xo_cv mt_C_takeFirst 0 := ⟨⟨(nt_ok (nt_1 _ (List.mem_of_getElem? (i := 238) rfl)) rfl), wi_C, by decide, by decide, by decide +kernel⟩, (nt_ok (nt_1 _ (List.mem_of_getElem? (i := 236) rfl)) rfl), (nt_ok (nt_1 _ (List.mem_of_getElem? (i := 237) rfl)) rfl)⟩
theorem cv_G_closeIfDrained : xo_cv mt_G_closeIfDrained 0 := ⟨⟨(nt_ok (nt_2 _ (List.mem_of_getElem? (i := 10) rfl)) rfl), wi_G, by decide, by decide, by decide +kernel⟩, (nt_ok (nt_2 _ (List.mem_of_getElem? (i := 8) rfl)) rfl), (nt_ok (nt_2 _ (List.mem_of_getElem? (i := 9) rfl)) rfl)⟩
theorem cv_R_add : xo_cv mt_R_add 1 := ⟨⟨(nt_ok (nt_2 _ (List.mem_of_getElem? (i := 15) rfl)) rfl), wi_R, by decide, by decide, by decide +kernel⟩, (nt_ok (nt_2 _ (List.mem_of_getElem? (i := 13) rfl)) rfl), (nt_ok (nt_2 _ (List.mem_of_getElem? (i := 14) rfl)) rfl)⟩
theorem cv_J_add : xo_cv mt_J_add 3 := ⟨⟨(nt_ok (nt_2 _ (List.mem_of_getElem? (i := 19) rfl)) rfl), wi_J, by decide, by decide, by decide +kernel⟩, (nt_ok (nt_2 _ (List.mem_of_getElem? (i := 17) rfl)) rfl), (nt_ok (nt_2 _ (List.mem_of_getElem? (i := 18) rfl)) rfl)⟩
theorem cv_K_askRoot : xo_cv mt_K_askRoot 1 := ⟨⟨(nt_ok (nt_1 _ (List.mem_of_getElem? (i := 230) rfl)) rfl), wi_K, by decide, by decide, by decide +kernel⟩, (nt_ok (nt_1 _ (List.mem_of_getElem? (i := 229) rfl)) rfl), (nt_ok (nt_sel (y := ⟨"FlowKernel", "askRoot", "(LFlowKernel$Parting;)Z"⟩) (n := 8) (List.mem_append_left _ (List.mem_of_getElem? (i := 2) (rfl : lw_privs_1[2]? = some _)))) rfl)⟩
theorem cv_R_at : xo_cv mt_R_at 1 := ⟨⟨(nt_ok (nt_2 _ (List.mem_of_getElem? (i := 33) rfl)) rfl), wi_R, by decide, by decide, by decide +kernel⟩, (nt_ok (nt_2 _ (List.mem_of_getElem? (i := 31) rfl)) rfl), (nt_ok (nt_2 _ (List.mem_of_getElem? (i := 32) rfl)) rfl)⟩
theorem cv_R_clear : xo_cv mt_R_clear 0 := ⟨⟨(nt_ok (nt_2 _ (List.mem_of_getElem? (i := 38) rfl)) rfl), wi_R, by decide, by decide, by decide +kernel⟩, (nt_ok (nt_2 _ (List.mem_of_getElem? (i := 36) rfl)) rfl), (nt_ok (nt_2 _ (List.mem_of_getElem? (i := 37) rfl)) rfl)⟩
theorem cv_G_answerAll : xo_cv mt_G_answerAll 0 := ⟨⟨(nt_ok (nt_2 _ (List.mem_of_getElem? (i := 29) rfl)) rfl), wi_G, by decide, by decide, by decide +kernel⟩, (nt_ok (nt_2 _ (List.mem_of_getElem? (i := 27) rfl)) rfl), (nt_ok (nt_2 _ (List.mem_of_getElem? (i := 28) rfl)) rfl)⟩
theorem cv_K_endBranches : xo_cv mt_K_endBranches 1 := ⟨⟨(nt_ok (nt_2 _ (List.mem_of_getElem? (i := 24) rfl)) rfl), wi_K, by decide, by decide, by decide +kernel⟩, (nt_ok (nt_2 _ (List.mem_of_getElem? (i := 23) rfl)) rfl), (nt_ok (nt_sel (y := ⟨"FlowKernel", "endBranches", "(LFlowKernel$Parting;)V"⟩) (n := 8) (List.mem_append_left _ (List.mem_of_getElem? (i := 4) (rfl : lw_privs_1[4]? = some _)))) rfl)⟩
theorem cv_K_pullIfNeeded : xo_cv mt_K_pullIfNeeded 1 := ⟨⟨(nt_ok (nt_1 _ (List.mem_of_getElem? (i := 214) rfl)) rfl), wi_K, by decide, by decide, by decide +kernel⟩, (nt_ok (nt_1 _ (List.mem_of_getElem? (i := 213) rfl)) rfl), (nt_ok (nt_sel (y := ⟨"FlowKernel", "pullIfNeeded", "(LFlowKernel$Giver;)V"⟩) (n := 8) (List.mem_append_left _ (List.mem_of_getElem? (i := 1) (rfl : lw_privs_1[1]? = some _)))) rfl)⟩
theorem cv_K_pipeAt : xo_cv mt_K_pipeAt 1 := ⟨⟨(nt_ok (nt_2 _ (List.mem_of_getElem? (i := 46) rfl)) rfl), wi_K, by decide, by decide, by decide +kernel⟩, (nt_ok (nt_2 _ (List.mem_of_getElem? (i := 45) rfl)) rfl), (nt_ok (nt_sel (y := ⟨"FlowKernel", "pipeAt", "(I)LFlowKernel$Pipe;"⟩) (n := 8) (List.mem_append_left _ (List.mem_of_getElem? (i := 6) (rfl : lw_privs_1[6]? = some _)))) rfl)⟩
theorem cv_J_holds : xo_cv mt_J_holds 2 := ⟨⟨(nt_ok (nt_2 _ (List.mem_of_getElem? (i := 50) rfl)) rfl), wi_J, by decide, by decide, by decide +kernel⟩, (nt_ok (nt_2 _ (List.mem_of_getElem? (i := 48) rfl)) rfl), (nt_ok (nt_2 _ (List.mem_of_getElem? (i := 49) rfl)) rfl)⟩
theorem cv_K_awaitPumps : xo_cv mt_K_awaitPumps 0 := ⟨⟨(nt_ok (nt_2 _ (List.mem_of_getElem? (i := 42) rfl)) rfl), wi_K, by decide, by decide, by decide +kernel⟩, (nt_ok (nt_2 _ (List.mem_of_getElem? (i := 41) rfl)) rfl), (nt_ok (nt_sel (y := ⟨"FlowKernel", "awaitPumps", "()V"⟩) (n := 8) (List.mem_append_left _ (List.mem_of_getElem? (i := 5) (rfl : lw_privs_1[5]? = some _)))) rfl)⟩
theorem cv_K_giver : xo_cv mt_K_giver 2 := ⟨⟨(nt_ok (nt_1 _ (List.mem_of_getElem? (i := 115) rfl)) rfl), wi_K, by decide, by decide, by decide +kernel⟩, (nt_ok (nt_1 _ (List.mem_of_getElem? (i := 113) rfl)) rfl), (nt_ok (nt_1 _ (List.mem_of_getElem? (i := 114) rfl)) rfl)⟩
theorem cv_T_init : xo_ci mt_T_init 3 := ⟨⟨(nt_ok (nt_2 _ (List.mem_of_getElem? (i := 59) rfl)) rfl), wi_T, by decide, by decide, by decide +kernel⟩, (nt_ok (nt_2 _ (List.mem_of_getElem? (i := 58) rfl)) rfl), rfl, rfl⟩
theorem cv_K_taker : xo_cv mt_K_taker 2 := ⟨⟨(nt_ok (nt_2 _ (List.mem_of_getElem? (i := 55) rfl)) rfl), wi_K, by decide, by decide, by decide +kernel⟩, (nt_ok (nt_2 _ (List.mem_of_getElem? (i := 53) rfl)) rfl), (nt_ok (nt_2 _ (List.mem_of_getElem? (i := 54) rfl)) rfl)⟩
theorem cv_K_giverAt : xo_cv mt_K_giverAt 1 := ⟨⟨(nt_ok (nt_2 _ (List.mem_of_getElem? (i := 123) rfl)) rfl), wi_K, by decide, by decide, by decide +kernel⟩, (nt_ok (nt_2 _ (List.mem_of_getElem? (i := 122) rfl)) rfl), (nt_ok (nt_sel (y := ⟨"FlowKernel", "giverAt", "(I)LFlowKernel$Giver;"⟩) (n := 8) (List.mem_append_left _ (List.mem_of_getElem? (i := 8) (rfl : lw_privs_1[8]? = some _)))) rfl)⟩
theorem cv_K_rootAt : xo_cv mt_K_rootAt 1 := ⟨⟨(nt_ok (nt_2 _ (List.mem_of_getElem? (i := 119) rfl)) rfl), wi_K, by decide, by decide, by decide +kernel⟩, (nt_ok (nt_2 _ (List.mem_of_getElem? (i := 118) rfl)) rfl), (nt_ok (nt_sel (y := ⟨"FlowKernel", "rootAt", "(I)LFlowKernel$Giver;"⟩) (n := 8) (List.mem_append_left _ (List.mem_of_getElem? (i := 7) (rfl : lw_privs_1[7]? = some _)))) rfl)⟩
theorem cv_T_hasError : xo_cv mt_T_hasError 0 := ⟨⟨(nt_ok (nt_2 _ (List.mem_of_getElem? (i := 140) rfl)) rfl), wi_T, by decide, by decide, by decide +kernel⟩, (nt_ok (nt_2 _ (List.mem_of_getElem? (i := 138) rfl)) rfl), (nt_ok (nt_2 _ (List.mem_of_getElem? (i := 139) rfl)) rfl)⟩
theorem cv_T_isShutOrToBe : xo_cv mt_T_isShutOrToBe 0 := ⟨⟨(nt_ok (nt_2 _ (List.mem_of_getElem? (i := 145) rfl)) rfl), wi_T, by decide, by decide, by decide +kernel⟩, (nt_ok (nt_2 _ (List.mem_of_getElem? (i := 143) rfl)) rfl), (nt_ok (nt_2 _ (List.mem_of_getElem? (i := 144) rfl)) rfl)⟩
theorem cv_C_add : xo_cv mt_C_add 1 := ⟨⟨(nt_ok (nt_2 _ (List.mem_of_getElem? (i := 149) rfl)) rfl), wi_C, by decide, by decide, by decide +kernel⟩, (nt_ok (nt_2 _ (List.mem_of_getElem? (i := 147) rfl)) rfl), (nt_ok (nt_2 _ (List.mem_of_getElem? (i := 148) rfl)) rfl)⟩
theorem cv_T_startNext : xo_cv mt_T_startNext 0 := ⟨⟨(nt_ok (nt_2 _ (List.mem_of_getElem? (i := 155) rfl)) rfl), wi_T, by decide, by decide, by decide +kernel⟩, (nt_ok (nt_2 _ (List.mem_of_getElem? (i := 154) rfl)) rfl), (nt_ok (nt_sel (y := ⟨"FlowKernel$Taker", "startNext", "()V"⟩) (n := 13) (List.mem_append_left _ (List.mem_of_getElem? (i := 11) (rfl : lw_privs_1[11]? = some _)))) rfl)⟩
theorem cv_T_accept : xo_cv mt_T_accept 1 := ⟨⟨(nt_ok (nt_2 _ (List.mem_of_getElem? (i := 136) rfl)) rfl), wi_T, by decide, by decide, by decide +kernel⟩, (nt_ok (nt_2 _ (List.mem_of_getElem? (i := 134) rfl)) rfl), (nt_ok (nt_2 _ (List.mem_of_getElem? (i := 135) rfl)) rfl)⟩
theorem cv_K_answerChunk : xo_cv mt_K_answerChunk 3 := ⟨⟨(nt_ok (nt_2 _ (List.mem_of_getElem? (i := 132) rfl)) rfl), wi_K, by decide, by decide, by decide +kernel⟩, (nt_ok (nt_2 _ (List.mem_of_getElem? (i := 131) rfl)) rfl), (nt_ok (nt_sel (y := ⟨"FlowKernel", "answerChunk", "(LFlowKernel$Giver;II)V"⟩) (n := 8) (List.mem_append_left _ (List.mem_of_getElem? (i := 10) (rfl : lw_privs_1[10]? = some _)))) rfl)⟩
theorem cv_K_takeIn : xo_cv mt_K_takeIn 2 := ⟨⟨(nt_ok (nt_2 _ (List.mem_of_getElem? (i := 127) rfl)) rfl), wi_K, by decide, by decide, by decide +kernel⟩, (nt_ok (nt_2 _ (List.mem_of_getElem? (i := 126) rfl)) rfl), (nt_ok (nt_sel (y := ⟨"FlowKernel", "takeIn", "(LFlowKernel$Giver;I)V"⟩) (n := 8) (List.mem_append_left _ (List.mem_of_getElem? (i := 9) (rfl : lw_privs_1[9]? = some _)))) rfl)⟩
theorem cv_K_put : xo_cv mt_K_put 2 := ⟨⟨(nt_ok (nt_2 _ (List.mem_of_getElem? (i := 115) rfl)) rfl), wi_K, by decide, by decide, by decide +kernel⟩, (nt_ok (nt_2 _ (List.mem_of_getElem? (i := 113) rfl)) rfl), (nt_ok (nt_2 _ (List.mem_of_getElem? (i := 114) rfl)) rfl)⟩
theorem cv_K_closeGiver : xo_cv mt_K_closeGiver 1 := ⟨⟨(nt_ok (nt_2 _ (List.mem_of_getElem? (i := 166) rfl)) rfl), wi_K, by decide, by decide, by decide +kernel⟩, (nt_ok (nt_2 _ (List.mem_of_getElem? (i := 165) rfl)) rfl), (nt_ok (nt_sel (y := ⟨"FlowKernel", "closeGiver", "(LFlowKernel$Giver;)V"⟩) (n := 8) (List.mem_append_left _ (List.mem_of_getElem? (i := 12) (rfl : lw_privs_1[12]? = some _)))) rfl)⟩
theorem cv_K_end : xo_cv mt_K_end 1 := ⟨⟨(nt_ok (nt_2 _ (List.mem_of_getElem? (i := 162) rfl)) rfl), wi_K, by decide, by decide, by decide +kernel⟩, (nt_ok (nt_2 _ (List.mem_of_getElem? (i := 160) rfl)) rfl), (nt_ok (nt_2 _ (List.mem_of_getElem? (i := 161) rfl)) rfl)⟩
theorem cv_K_isError : xo_cs mt_K_isError 1 := ⟨⟨(nt_ok (nt_2 _ (List.mem_of_getElem? (i := 173) rfl)) rfl), wi_K, by decide, by decide, by decide +kernel⟩, (nt_ok (nt_2 _ (List.mem_of_getElem? (i := 172) rfl)) rfl)⟩
theorem cv_C_clear : xo_cv mt_C_clear 0 := ⟨⟨(nt_ok (nt_2 _ (List.mem_of_getElem? (i := 185) rfl)) rfl), wi_C, by decide, by decide, by decide +kernel⟩, (nt_ok (nt_2 _ (List.mem_of_getElem? (i := 183) rfl)) rfl), (nt_ok (nt_2 _ (List.mem_of_getElem? (i := 184) rfl)) rfl)⟩
theorem cv_G_failWith : xo_cv mt_G_failWith 1 := ⟨⟨(nt_ok (nt_2 _ (List.mem_of_getElem? (i := 181) rfl)) rfl), wi_G, by decide, by decide, by decide +kernel⟩, (nt_ok (nt_2 _ (List.mem_of_getElem? (i := 179) rfl)) rfl), (nt_ok (nt_2 _ (List.mem_of_getElem? (i := 180) rfl)) rfl)⟩
theorem cv_K_failBranches : xo_cv mt_K_failBranches 2 := ⟨⟨(nt_ok (nt_2 _ (List.mem_of_getElem? (i := 191) rfl)) rfl), wi_K, by decide, by decide, by decide +kernel⟩, (nt_ok (nt_2 _ (List.mem_of_getElem? (i := 190) rfl)) rfl), (nt_ok (nt_sel (y := ⟨"FlowKernel", "failBranches", "(LFlowKernel$Parting;I)V"⟩) (n := 8) (List.mem_append_left _ (List.mem_of_getElem? (i := 14) (rfl : lw_privs_1[14]? = some _)))) rfl)⟩
theorem cv_K_failGiver : xo_cv mt_K_failGiver 2 := ⟨⟨(nt_ok (nt_2 _ (List.mem_of_getElem? (i := 177) rfl)) rfl), wi_K, by decide, by decide, by decide +kernel⟩, (nt_ok (nt_2 _ (List.mem_of_getElem? (i := 176) rfl)) rfl), (nt_ok (nt_sel (y := ⟨"FlowKernel", "failGiver", "(LFlowKernel$Giver;I)V"⟩) (n := 8) (List.mem_append_left _ (List.mem_of_getElem? (i := 13) (rfl : lw_privs_1[13]? = some _)))) rfl)⟩
theorem cv_K_fail : xo_cv mt_K_fail 2 := ⟨⟨(nt_ok (nt_2 _ (List.mem_of_getElem? (i := 170) rfl)) rfl), wi_K, by decide, by decide, by decide +kernel⟩, (nt_ok (nt_2 _ (List.mem_of_getElem? (i := 168) rfl)) rfl), (nt_ok (nt_2 _ (List.mem_of_getElem? (i := 169) rfl)) rfl)⟩
theorem cv_K_isErrorOrNone : xo_cs mt_K_isErrorOrNone 1 := ⟨⟨(nt_ok (nt_2 _ (List.mem_of_getElem? (i := 198) rfl)) rfl), wi_K, by decide, by decide, by decide +kernel⟩, (nt_ok (nt_2 _ (List.mem_of_getElem? (i := 197) rfl)) rfl)⟩
theorem cv_K_pulled : xo_cv mt_K_pulled 2 := ⟨⟨(nt_ok (nt_2 _ (List.mem_of_getElem? (i := 195) rfl)) rfl), wi_K, by decide, by decide, by decide +kernel⟩, (nt_ok (nt_2 _ (List.mem_of_getElem? (i := 193) rfl)) rfl), (nt_ok (nt_2 _ (List.mem_of_getElem? (i := 194) rfl)) rfl)⟩
theorem cv_G_heldBy : xo_cv mt_G_heldBy 0 := ⟨⟨(nt_ok (nt_2 _ (List.mem_of_getElem? (i := 206) rfl)) rfl), wi_G, by decide, by decide, by decide +kernel⟩, (nt_ok (nt_2 _ (List.mem_of_getElem? (i := 204) rfl)) rfl), (nt_ok (nt_2 _ (List.mem_of_getElem? (i := 205) rfl)) rfl)⟩
theorem cv_K_request : xo_cv mt_K_request 2 := ⟨⟨(nt_ok (nt_2 _ (List.mem_of_getElem? (i := 210) rfl)) rfl), wi_K, by decide, by decide, by decide +kernel⟩, (nt_ok (nt_2 _ (List.mem_of_getElem? (i := 209) rfl)) rfl), (nt_ok (nt_sel (y := ⟨"FlowKernel", "request", "(LFlowKernel$Giver;I)V"⟩) (n := 8) (List.mem_append_left _ (List.mem_of_getElem? (i := 15) (rfl : lw_privs_1[15]? = some _)))) rfl)⟩
theorem cv_K_read : xo_cv mt_K_read 1 := ⟨⟨(nt_ok (nt_2 _ (List.mem_of_getElem? (i := 202) rfl)) rfl), wi_K, by decide, by decide, by decide +kernel⟩, (nt_ok (nt_2 _ (List.mem_of_getElem? (i := 200) rfl)) rfl), (nt_ok (nt_2 _ (List.mem_of_getElem? (i := 201) rfl)) rfl)⟩
theorem cv_A_isGivenUp : xo_cv mt_A_isGivenUp 0 := ⟨⟨(nt_ok (nt_2 _ (List.mem_of_getElem? (i := 223) rfl)) rfl), wi_A, by decide, by decide, by decide +kernel⟩, (nt_ok (nt_2 _ (List.mem_of_getElem? (i := 221) rfl)) rfl), (nt_ok (nt_2 _ (List.mem_of_getElem? (i := 222) rfl)) rfl)⟩
theorem cv_K_cancelGiver : xo_cv mt_K_cancelGiver 2 := ⟨⟨(nt_ok (nt_2 _ (List.mem_of_getElem? (i := 218) rfl)) rfl), wi_K, by decide, by decide, by decide +kernel⟩, (nt_ok (nt_2 _ (List.mem_of_getElem? (i := 217) rfl)) rfl), (nt_ok (nt_sel (y := ⟨"FlowKernel", "cancelGiver", "(LFlowKernel$Giver;I)V"⟩) (n := 8) (List.mem_append_right _ (List.mem_append_left _ (List.mem_of_getElem? (i := 0) (rfl : lw_privs_2[0]? = some _))))) rfl)⟩
theorem cv_K_cancel : xo_cv mt_K_cancel 2 := ⟨⟨(nt_ok (nt_2 _ (List.mem_of_getElem? (i := 214) rfl)) rfl), wi_K, by decide, by decide, by decide +kernel⟩, (nt_ok (nt_2 _ (List.mem_of_getElem? (i := 212) rfl)) rfl), (nt_ok (nt_2 _ (List.mem_of_getElem? (i := 213) rfl)) rfl)⟩
theorem cv_K_takerAt : xo_cv mt_K_takerAt 1 := ⟨⟨(nt_ok (nt_2 _ (List.mem_of_getElem? (i := 231) rfl)) rfl), wi_K, by decide, by decide, by decide +kernel⟩, (nt_ok (nt_2 _ (List.mem_of_getElem? (i := 230) rfl)) rfl), (nt_ok (nt_sel (y := ⟨"FlowKernel", "takerAt", "(I)LFlowKernel$Taker;"⟩) (n := 8) (List.mem_append_right _ (List.mem_append_left _ (List.mem_of_getElem? (i := 1) (rfl : lw_privs_2[1]? = some _))))) rfl)⟩
theorem cv_K_write : xo_cv mt_K_write 2 := ⟨⟨(nt_ok (nt_2 _ (List.mem_of_getElem? (i := 227) rfl)) rfl), wi_K, by decide, by decide, by decide +kernel⟩, (nt_ok (nt_2 _ (List.mem_of_getElem? (i := 225) rfl)) rfl), (nt_ok (nt_2 _ (List.mem_of_getElem? (i := 226) rfl)) rfl)⟩
theorem cv_T_canShutDown : xo_cv mt_T_canShutDown 0 := ⟨⟨(nt_ok (nt_2 _ (List.mem_of_getElem? (i := 239) rfl)) rfl), wi_T, by decide, by decide, by decide +kernel⟩, (nt_ok (nt_2 _ (List.mem_of_getElem? (i := 237) rfl)) rfl), (nt_ok (nt_2 _ (List.mem_of_getElem? (i := 238) rfl)) rfl)⟩
theorem cv_T_startAbort : xo_cv mt_T_startAbort 0 := ⟨⟨(nt_ok (nt_3 _ (List.mem_of_getElem? (i := 18) rfl)) rfl), wi_T, by decide, by decide, by decide +kernel⟩, (nt_ok (nt_3 _ (List.mem_of_getElem? (i := 17) rfl)) rfl), (nt_ok (nt_sel (y := ⟨"FlowKernel$Taker", "startAbort", "()V"⟩) (n := 13) (List.mem_append_right _ (List.mem_append_left _ (List.mem_of_getElem? (i := 4) (rfl : lw_privs_2[4]? = some _))))) rfl)⟩
theorem cv_T_loseEnd : xo_cv mt_T_loseEnd 0 := ⟨⟨(nt_ok (nt_3 _ (List.mem_of_getElem? (i := 22) rfl)) rfl), wi_T, by decide, by decide, by decide +kernel⟩, (nt_ok (nt_3 _ (List.mem_of_getElem? (i := 21) rfl)) rfl), (nt_ok (nt_sel (y := ⟨"FlowKernel$Taker", "loseEnd", "()V"⟩) (n := 13) (List.mem_append_right _ (List.mem_append_left _ (List.mem_of_getElem? (i := 5) (rfl : lw_privs_2[5]? = some _))))) rfl)⟩
theorem cv_T_breakDown : xo_cv mt_T_breakDown 0 := ⟨⟨(nt_ok (nt_3 _ (List.mem_of_getElem? (i := 12) rfl)) rfl), wi_T, by decide, by decide, by decide +kernel⟩, (nt_ok (nt_3 _ (List.mem_of_getElem? (i := 11) rfl)) rfl), (nt_ok (nt_sel (y := ⟨"FlowKernel$Taker", "breakDown", "()V"⟩) (n := 13) (List.mem_append_right _ (List.mem_append_left _ (List.mem_of_getElem? (i := 3) (rfl : lw_privs_2[3]? = some _))))) rfl)⟩
theorem cv_T_goOn : xo_cv mt_T_goOn 0 := ⟨⟨(nt_ok (nt_3 _ (List.mem_of_getElem? (i := 8) rfl)) rfl), wi_T, by decide, by decide, by decide +kernel⟩, (nt_ok (nt_3 _ (List.mem_of_getElem? (i := 7) rfl)) rfl), (nt_ok (nt_sel (y := ⟨"FlowKernel$Taker", "goOn", "()V"⟩) (n := 13) (List.mem_append_right _ (List.mem_append_left _ (List.mem_of_getElem? (i := 2) (rfl : lw_privs_2[2]? = some _))))) rfl)⟩
theorem cv_T_shutDown : xo_cv mt_T_shutDown 0 := ⟨⟨(nt_ok (nt_3 _ (List.mem_of_getElem? (i := 3) rfl)) rfl), wi_T, by decide, by decide, by decide +kernel⟩, (nt_ok (nt_3 _ (List.mem_of_getElem? (i := 1) rfl)) rfl), (nt_ok (nt_3 _ (List.mem_of_getElem? (i := 2) rfl)) rfl)⟩
theorem cv_K_shut : xo_cv mt_K_shut 1 := ⟨⟨(nt_ok (nt_2 _ (List.mem_of_getElem? (i := 235) rfl)) rfl), wi_K, by decide, by decide, by decide +kernel⟩, (nt_ok (nt_2 _ (List.mem_of_getElem? (i := 233) rfl)) rfl), (nt_ok (nt_2 _ (List.mem_of_getElem? (i := 234) rfl)) rfl)⟩
theorem cv_T_startFailing : xo_cv mt_T_startFailing 1 := ⟨⟨(nt_ok (nt_3 _ (List.mem_of_getElem? (i := 34) rfl)) rfl), wi_T, by decide, by decide, by decide +kernel⟩, (nt_ok (nt_3 _ (List.mem_of_getElem? (i := 32) rfl)) rfl), (nt_ok (nt_3 _ (List.mem_of_getElem? (i := 33) rfl)) rfl)⟩
theorem cv_T_abortWith : xo_cv mt_T_abortWith 1 := ⟨⟨(nt_ok (nt_3 _ (List.mem_of_getElem? (i := 30) rfl)) rfl), wi_T, by decide, by decide, by decide +kernel⟩, (nt_ok (nt_3 _ (List.mem_of_getElem? (i := 28) rfl)) rfl), (nt_ok (nt_3 _ (List.mem_of_getElem? (i := 29) rfl)) rfl)⟩
theorem cv_K_abort : xo_cv mt_K_abort 2 := ⟨⟨(nt_ok (nt_3 _ (List.mem_of_getElem? (i := 26) rfl)) rfl), wi_K, by decide, by decide, by decide +kernel⟩, (nt_ok (nt_3 _ (List.mem_of_getElem? (i := 24) rfl)) rfl), (nt_ok (nt_3 _ (List.mem_of_getElem? (i := 25) rfl)) rfl)⟩
theorem cv_K_spoil : xo_cv mt_K_spoil 2 := ⟨⟨(nt_ok (nt_3 _ (List.mem_of_getElem? (i := 38) rfl)) rfl), wi_K, by decide, by decide, by decide +kernel⟩, (nt_ok (nt_3 _ (List.mem_of_getElem? (i := 36) rfl)) rfl), (nt_ok (nt_3 _ (List.mem_of_getElem? (i := 37) rfl)) rfl)⟩
theorem cv_K_settle : xo_cv mt_K_settle 2 := ⟨⟨(nt_ok (nt_3 _ (List.mem_of_getElem? (i := 43) rfl)) rfl), wi_K, by decide, by decide, by decide +kernel⟩, (nt_ok (nt_3 _ (List.mem_of_getElem? (i := 41) rfl)) rfl), (nt_ok (nt_3 _ (List.mem_of_getElem? (i := 42) rfl)) rfl)⟩
theorem cv_P_init : xo_ci mt_P_init 4 := ⟨⟨(nt_ok (nt_3 _ (List.mem_of_getElem? (i := 51) rfl)) rfl), wi_P, by decide, by decide, by decide +kernel⟩, (nt_ok (nt_3 _ (List.mem_of_getElem? (i := 50) rfl)) rfl), rfl, rfl⟩
theorem cv_K_pipe : xo_cv mt_K_pipe 3 := ⟨⟨(nt_ok (nt_3 _ (List.mem_of_getElem? (i := 47) rfl)) rfl), wi_K, by decide, by decide, by decide +kernel⟩, (nt_ok (nt_3 _ (List.mem_of_getElem? (i := 45) rfl)) rfl), (nt_ok (nt_3 _ (List.mem_of_getElem? (i := 46) rfl)) rfl)⟩
theorem cv_A_init : xo_ci mt_A_init 3 := ⟨⟨(nt_ok (nt_3 _ (List.mem_of_getElem? (i := 90) rfl)) rfl), wi_A, by decide, by decide, by decide +kernel⟩, (nt_ok (nt_3 _ (List.mem_of_getElem? (i := 89) rfl)) rfl), rfl, rfl⟩
theorem cv_K_part : xo_cv mt_K_part 1 := ⟨⟨(nt_ok (nt_3 _ (List.mem_of_getElem? (i := 85) rfl)) rfl), wi_K, by decide, by decide, by decide +kernel⟩, (nt_ok (nt_3 _ (List.mem_of_getElem? (i := 83) rfl)) rfl), (nt_ok (nt_3 _ (List.mem_of_getElem? (i := 84) rfl)) rfl)⟩
theorem cv_J_count : xo_cv mt_J_count 0 := ⟨⟨(nt_ok (nt_3 _ (List.mem_of_getElem? (i := 115) rfl)) rfl), wi_J, by decide, by decide, by decide +kernel⟩, (nt_ok (nt_3 _ (List.mem_of_getElem? (i := 113) rfl)) rfl), (nt_ok (nt_3 _ (List.mem_of_getElem? (i := 114) rfl)) rfl)⟩
theorem cv_K_doPulled : xo_cv mt_K_doPulled 2 := ⟨⟨(nt_ok (nt_3 _ (List.mem_of_getElem? (i := 123) rfl)) rfl), wi_K, by decide, by decide, by decide +kernel⟩, (nt_ok (nt_3 _ (List.mem_of_getElem? (i := 122) rfl)) rfl), (nt_ok (nt_sel (y := ⟨"FlowKernel", "doPulled", "(LFlowKernel$Giver;I)V"⟩) (n := 8) (List.mem_append_right _ (List.mem_append_left _ (List.mem_of_getElem? (i := 7) (rfl : lw_privs_2[7]? = some _))))) rfl)⟩
theorem cv_K_doParted : xo_cv mt_K_doParted 2 := ⟨⟨(nt_ok (nt_3 _ (List.mem_of_getElem? (i := 127) rfl)) rfl), wi_K, by decide, by decide, by decide +kernel⟩, (nt_ok (nt_3 _ (List.mem_of_getElem? (i := 126) rfl)) rfl), (nt_ok (nt_sel (y := ⟨"FlowKernel", "doParted", "(LFlowKernel$Giver;I)V"⟩) (n := 8) (List.mem_append_right _ (List.mem_append_left _ (List.mem_of_getElem? (i := 8) (rfl : lw_privs_2[8]? = some _))))) rfl)⟩
theorem cv_P_letGo : xo_cv mt_P_letGo 0 := ⟨⟨(nt_ok (nt_3 _ (List.mem_of_getElem? (i := 139) rfl)) rfl), wi_P, by decide, by decide, by decide +kernel⟩, (nt_ok (nt_3 _ (List.mem_of_getElem? (i := 137) rfl)) rfl), (nt_ok (nt_3 _ (List.mem_of_getElem? (i := 138) rfl)) rfl)⟩
theorem cv_K_endPipe : xo_cv mt_K_endPipe 3 := ⟨⟨(nt_ok (nt_3 _ (List.mem_of_getElem? (i := 135) rfl)) rfl), wi_K, by decide, by decide, by decide +kernel⟩, (nt_ok (nt_3 _ (List.mem_of_getElem? (i := 134) rfl)) rfl), (nt_ok (nt_sel (y := ⟨"FlowKernel", "endPipe", "(LFlowKernel$Pipe;II)V"⟩) (n := 8) (List.mem_append_right _ (List.mem_append_left _ (List.mem_of_getElem? (i := 10) (rfl : lw_privs_2[10]? = some _))))) rfl)⟩
theorem cv_P_mustWait : xo_cv mt_P_mustWait 0 := ⟨⟨(nt_ok (nt_3 _ (List.mem_of_getElem? (i := 146) rfl)) rfl), wi_P, by decide, by decide, by decide +kernel⟩, (nt_ok (nt_3 _ (List.mem_of_getElem? (i := 144) rfl)) rfl), (nt_ok (nt_3 _ (List.mem_of_getElem? (i := 145) rfl)) rfl)⟩
theorem cv_K_doPump : xo_cv mt_K_doPump 1 := ⟨⟨(nt_ok (nt_3 _ (List.mem_of_getElem? (i := 131) rfl)) rfl), wi_K, by decide, by decide, by decide +kernel⟩, (nt_ok (nt_3 _ (List.mem_of_getElem? (i := 130) rfl)) rfl), (nt_ok (nt_sel (y := ⟨"FlowKernel", "doPump", "(LFlowKernel$Pipe;)Z"⟩) (n := 8) (List.mem_append_right _ (List.mem_append_left _ (List.mem_of_getElem? (i := 9) (rfl : lw_privs_2[9]? = some _))))) rfl)⟩
theorem cv_T_failOrBreak : xo_cv mt_T_failOrBreak 1 := ⟨⟨(nt_ok (nt_3 _ (List.mem_of_getElem? (i := 161) rfl)) rfl), wi_T, by decide, by decide, by decide +kernel⟩, (nt_ok (nt_3 _ (List.mem_of_getElem? (i := 160) rfl)) rfl), (nt_ok (nt_sel (y := ⟨"FlowKernel$Taker", "failOrBreak", "(I)V"⟩) (n := 13) (List.mem_append_right _ (List.mem_append_left _ (List.mem_of_getElem? (i := 12) (rfl : lw_privs_2[12]? = some _))))) rfl)⟩
theorem cv_T_written : xo_cv mt_T_written 1 := ⟨⟨(nt_ok (nt_3 _ (List.mem_of_getElem? (i := 155) rfl)) rfl), wi_T, by decide, by decide, by decide +kernel⟩, (nt_ok (nt_3 _ (List.mem_of_getElem? (i := 153) rfl)) rfl), (nt_ok (nt_3 _ (List.mem_of_getElem? (i := 154) rfl)) rfl)⟩
theorem cv_T_noteAborted : xo_cv mt_T_noteAborted 1 := ⟨⟨(nt_ok (nt_3 _ (List.mem_of_getElem? (i := 173) rfl)) rfl), wi_T, by decide, by decide, by decide +kernel⟩, (nt_ok (nt_3 _ (List.mem_of_getElem? (i := 172) rfl)) rfl), (nt_ok (nt_sel (y := ⟨"FlowKernel$Taker", "noteAborted", "(I)V"⟩) (n := 13) (List.mem_append_right _ (List.mem_append_left _ (List.mem_of_getElem? (i := 14) (rfl : lw_privs_2[14]? = some _))))) rfl)⟩
theorem cv_T_endAbort : xo_cv mt_T_endAbort 1 := ⟨⟨(nt_ok (nt_3 _ (List.mem_of_getElem? (i := 169) rfl)) rfl), wi_T, by decide, by decide, by decide +kernel⟩, (nt_ok (nt_3 _ (List.mem_of_getElem? (i := 168) rfl)) rfl), (nt_ok (nt_sel (y := ⟨"FlowKernel$Taker", "endAbort", "(I)V"⟩) (n := 13) (List.mem_append_right _ (List.mem_append_left _ (List.mem_of_getElem? (i := 13) (rfl : lw_privs_2[13]? = some _))))) rfl)⟩
theorem cv_T_wasShut : xo_cv mt_T_wasShut 1 := ⟨⟨(nt_ok (nt_3 _ (List.mem_of_getElem? (i := 165) rfl)) rfl), wi_T, by decide, by decide, by decide +kernel⟩, (nt_ok (nt_3 _ (List.mem_of_getElem? (i := 163) rfl)) rfl), (nt_ok (nt_3 _ (List.mem_of_getElem? (i := 164) rfl)) rfl)⟩
theorem cv_T_wasAborted : xo_cv mt_T_wasAborted 1 := ⟨⟨(nt_ok (nt_3 _ (List.mem_of_getElem? (i := 177) rfl)) rfl), wi_T, by decide, by decide, by decide +kernel⟩, (nt_ok (nt_3 _ (List.mem_of_getElem? (i := 175) rfl)) rfl), (nt_ok (nt_3 _ (List.mem_of_getElem? (i := 176) rfl)) rfl)⟩
theorem cv_K_doSettled : xo_cv mt_K_doSettled 3 := ⟨⟨(nt_ok (nt_3 _ (List.mem_of_getElem? (i := 151) rfl)) rfl), wi_K, by decide, by decide, by decide +kernel⟩, (nt_ok (nt_3 _ (List.mem_of_getElem? (i := 150) rfl)) rfl), (nt_ok (nt_sel (y := ⟨"FlowKernel", "doSettled", "(LFlowKernel$Taker;II)V"⟩) (n := 8) (List.mem_append_right _ (List.mem_append_left _ (List.mem_of_getElem? (i := 11) (rfl : lw_privs_2[11]? = some _))))) rfl)⟩
theorem cv_K_doFirstJob : xo_cv mt_K_doFirstJob 0 := ⟨⟨(nt_ok (nt_3 _ (List.mem_of_getElem? (i := 119) rfl)) rfl), wi_K, by decide, by decide, by decide +kernel⟩, (nt_ok (nt_3 _ (List.mem_of_getElem? (i := 118) rfl)) rfl), (nt_ok (nt_sel (y := ⟨"FlowKernel", "doFirstJob", "()I"⟩) (n := 8) (List.mem_append_right _ (List.mem_append_left _ (List.mem_of_getElem? (i := 6) (rfl : lw_privs_2[6]? = some _))))) rfl)⟩
theorem cv_K_step : xo_cv mt_K_step 0 := ⟨⟨(nt_ok (nt_3 _ (List.mem_of_getElem? (i := 111) rfl)) rfl), wi_K, by decide, by decide, by decide +kernel⟩, (nt_ok (nt_3 _ (List.mem_of_getElem? (i := 109) rfl)) rfl), (nt_ok (nt_3 _ (List.mem_of_getElem? (i := 110) rfl)) rfl)⟩
theorem cv_K_run : xo_cv mt_K_run 0 := ⟨⟨(nt_ok (nt_3 _ (List.mem_of_getElem? (i := 181) rfl)) rfl), wi_K, by decide, by decide, by decide +kernel⟩, (nt_ok (nt_3 _ (List.mem_of_getElem? (i := 179) rfl)) rfl), (nt_ok (nt_3 _ (List.mem_of_getElem? (i := 180) rfl)) rfl)⟩
theorem cv_K_jobs : xo_cv mt_K_jobs 0 := ⟨⟨(nt_ok (nt_3 _ (List.mem_of_getElem? (i := 185) rfl)) rfl), wi_K, by decide, by decide, by decide +kernel⟩, (nt_ok (nt_3 _ (List.mem_of_getElem? (i := 183) rfl)) rfl), (nt_ok (nt_3 _ (List.mem_of_getElem? (i := 184) rfl)) rfl)⟩
theorem cv_K_giverState : xo_cv mt_K_giverState 1 := ⟨⟨(nt_ok (nt_3 _ (List.mem_of_getElem? (i := 189) rfl)) rfl), wi_K, by decide, by decide, by decide +kernel⟩, (nt_ok (nt_3 _ (List.mem_of_getElem? (i := 187) rfl)) rfl), (nt_ok (nt_3 _ (List.mem_of_getElem? (i := 188) rfl)) rfl)⟩
theorem cv_K_giverRoom : xo_cv mt_K_giverRoom 1 := ⟨⟨(nt_ok (nt_3 _ (List.mem_of_getElem? (i := 193) rfl)) rfl), wi_K, by decide, by decide, by decide +kernel⟩, (nt_ok (nt_3 _ (List.mem_of_getElem? (i := 191) rfl)) rfl), (nt_ok (nt_3 _ (List.mem_of_getElem? (i := 192) rfl)) rfl)⟩
theorem cv_K_giverQueue : xo_cv mt_K_giverQueue 1 := ⟨⟨(nt_ok (nt_3 _ (List.mem_of_getElem? (i := 197) rfl)) rfl), wi_K, by decide, by decide, by decide +kernel⟩, (nt_ok (nt_3 _ (List.mem_of_getElem? (i := 195) rfl)) rfl), (nt_ok (nt_3 _ (List.mem_of_getElem? (i := 196) rfl)) rfl)⟩
theorem cv_K_takerState : xo_cv mt_K_takerState 1 := ⟨⟨(nt_ok (nt_3 _ (List.mem_of_getElem? (i := 201) rfl)) rfl), wi_K, by decide, by decide, by decide +kernel⟩, (nt_ok (nt_3 _ (List.mem_of_getElem? (i := 199) rfl)) rfl), (nt_ok (nt_3 _ (List.mem_of_getElem? (i := 200) rfl)) rfl)⟩
theorem cv_K_takerRoom : xo_cv mt_K_takerRoom 1 := ⟨⟨(nt_ok (nt_3 _ (List.mem_of_getElem? (i := 205) rfl)) rfl), wi_K, by decide, by decide, by decide +kernel⟩, (nt_ok (nt_3 _ (List.mem_of_getElem? (i := 203) rfl)) rfl), (nt_ok (nt_3 _ (List.mem_of_getElem? (i := 204) rfl)) rfl)⟩
theorem cv_K_takerQueue : xo_cv mt_K_takerQueue 1 := ⟨⟨(nt_ok (nt_3 _ (List.mem_of_getElem? (i := 209) rfl)) rfl), wi_K, by decide, by decide, by decide +kernel⟩, (nt_ok (nt_3 _ (List.mem_of_getElem? (i := 207) rfl)) rfl), (nt_ok (nt_3 _ (List.mem_of_getElem? (i := 208) rfl)) rfl)⟩
theorem cv_K_takerError : xo_cs mt_K_takerError 1 := ⟨⟨(nt_ok (nt_3 _ (List.mem_of_getElem? (i := 216) rfl)) rfl), wi_K, by decide, by decide, by decide +kernel⟩, (nt_ok (nt_3 _ (List.mem_of_getElem? (i := 215) rfl)) rfl)⟩
theorem cv_K_giverError : xo_cs mt_K_giverError 1 := ⟨⟨(nt_ok (nt_3 _ (List.mem_of_getElem? (i := 219) rfl)) rfl), wi_K, by decide, by decide, by decide +kernel⟩, (nt_ok (nt_3 _ (List.mem_of_getElem? (i := 218) rfl)) rfl)⟩
theorem cv_K_error : xo_cv mt_K_error 2 := ⟨⟨(nt_ok (nt_3 _ (List.mem_of_getElem? (i := 213) rfl)) rfl), wi_K, by decide, by decide, by decide +kernel⟩, (nt_ok (nt_3 _ (List.mem_of_getElem? (i := 211) rfl)) rfl), (nt_ok (nt_3 _ (List.mem_of_getElem? (i := 212) rfl)) rfl)⟩
theorem cv_K_events : xo_cv mt_K_events 0 := ⟨⟨(nt_ok (nt_3 _ (List.mem_of_getElem? (i := 223) rfl)) rfl), wi_K, by decide, by decide, by decide +kernel⟩, (nt_ok (nt_3 _ (List.mem_of_getElem? (i := 221) rfl)) rfl), (nt_ok (nt_3 _ (List.mem_of_getElem? (i := 222) rfl)) rfl)⟩
theorem cv_L_tell : xo_cv mt_L_tell 2 := ⟨⟨(nt_ok (nt_3 _ (List.mem_of_getElem? (i := 231) rfl)) rfl), wi_L, by decide, by decide, by decide +kernel⟩, (nt_ok (nt_3 _ (List.mem_of_getElem? (i := 229) rfl)) rfl), (nt_ok (nt_3 _ (List.mem_of_getElem? (i := 230) rfl)) rfl)⟩
theorem cv_K_event : xo_cv mt_K_event 2 := ⟨⟨(nt_ok (nt_3 _ (List.mem_of_getElem? (i := 227) rfl)) rfl), wi_K, by decide, by decide, by decide +kernel⟩, (nt_ok (nt_3 _ (List.mem_of_getElem? (i := 225) rfl)) rfl), (nt_ok (nt_3 _ (List.mem_of_getElem? (i := 226) rfl)) rfl)⟩
theorem cv_M_init : xo_ci mt_M_init 0 := ⟨⟨(nt_ok (nt_3 _ (List.mem_of_getElem? (i := 236) rfl)) rfl), wi_M, by decide, by decide, by decide +kernel⟩, (nt_ok (nt_3 _ (List.mem_of_getElem? (i := 235) rfl)) rfl), rfl, rfl⟩
theorem cv_M_happen : xo_cv mt_M_happen 4 := ⟨⟨(nt_ok (nt_4 _ (List.mem_of_getElem? (i := 172) rfl)) rfl), wi_M, by decide, by decide, by decide +kernel⟩, (nt_ok (nt_4 _ (List.mem_of_getElem? (i := 171) rfl)) rfl), (nt_ok (nt_sel (y := ⟨"FlowKernelModel", "happen", "(IIII)V"⟩) (n := 51) (List.mem_append_right _ (List.mem_append_right _ (List.mem_append_left _ (List.mem_of_getElem? (i := 2) (rfl : lw_privs_3[2]? = some _)))))) rfl)⟩
theorem cv_M_job : xo_cv mt_M_job 3 := ⟨⟨(nt_ok (nt_4 _ (List.mem_of_getElem? (i := 220) rfl)) rfl), wi_M, by decide, by decide, by decide +kernel⟩, (nt_ok (nt_4 _ (List.mem_of_getElem? (i := 219) rfl)) rfl), (nt_ok (nt_sel (y := ⟨"FlowKernelModel", "job", "(III)V"⟩) (n := 51) (List.mem_append_right _ (List.mem_append_right _ (List.mem_append_left _ (List.mem_of_getElem? (i := 14) (rfl : lw_privs_3[14]? = some _)))))) rfl)⟩
theorem cv_M_sizeOf : xo_cv mt_M_sizeOf 2 := ⟨⟨(nt_ok (nt_4 _ (List.mem_of_getElem? (i := 196) rfl)) rfl), wi_M, by decide, by decide, by decide +kernel⟩, (nt_ok (nt_4 _ (List.mem_of_getElem? (i := 195) rfl)) rfl), (nt_ok (nt_sel (y := ⟨"FlowKernelModel", "sizeOf", "(IZ)I"⟩) (n := 51) (List.mem_append_right _ (List.mem_append_right _ (List.mem_append_left _ (List.mem_of_getElem? (i := 8) (rfl : lw_privs_3[8]? = some _)))))) rfl)⟩
theorem cv_M_space : xo_cv mt_M_space 1 := ⟨⟨(nt_ok (nt_5 _ (List.mem_of_getElem? (i := 44) rfl)) rfl), wi_M, by decide, by decide, by decide +kernel⟩, (nt_ok (nt_5 _ (List.mem_of_getElem? (i := 43) rfl)) rfl), (nt_ok (nt_sel (y := ⟨"FlowKernelModel", "space", "(I)I"⟩) (n := 51) (List.mem_append_right _ (List.mem_append_right _ (List.mem_append_right _ (List.mem_append_left _ (List.mem_of_getElem? (i := 14) (rfl : lw_privs_4[14]? = some _))))))) rfl)⟩
theorem cv_M_breaks : xo_cv mt_M_breaks 1 := ⟨⟨(nt_ok (nt_5 _ (List.mem_of_getElem? (i := 8) rfl)) rfl), wi_M, by decide, by decide, by decide +kernel⟩, (nt_ok (nt_5 _ (List.mem_of_getElem? (i := 7) rfl)) rfl), (nt_ok (nt_sel (y := ⟨"FlowKernelModel", "breaks", "(I)V"⟩) (n := 51) (List.mem_append_right _ (List.mem_append_right _ (List.mem_append_right _ (List.mem_append_left _ (List.mem_of_getElem? (i := 5) (rfl : lw_privs_4[5]? = some _))))))) rfl)⟩
theorem cv_M_goesOn : xo_cv mt_M_goesOn 1 := ⟨⟨(nt_ok (nt_5 _ (List.mem_of_getElem? (i := 4) rfl)) rfl), wi_M, by decide, by decide, by decide +kernel⟩, (nt_ok (nt_5 _ (List.mem_of_getElem? (i := 3) rfl)) rfl), (nt_ok (nt_sel (y := ⟨"FlowKernelModel", "goesOn", "(I)V"⟩) (n := 51) (List.mem_append_right _ (List.mem_append_right _ (List.mem_append_right _ (List.mem_append_left _ (List.mem_of_getElem? (i := 4) (rfl : lw_privs_4[4]? = some _))))))) rfl)⟩
theorem cv_M_startFailing : xo_cv mt_M_startFailing 2 := ⟨⟨(nt_ok (nt_5 _ (List.mem_of_getElem? (i := 20) rfl)) rfl), wi_M, by decide, by decide, by decide +kernel⟩, (nt_ok (nt_5 _ (List.mem_of_getElem? (i := 19) rfl)) rfl), (nt_ok (nt_sel (y := ⟨"FlowKernelModel", "startFailing", "(II)V"⟩) (n := 51) (List.mem_append_right _ (List.mem_append_right _ (List.mem_append_right _ (List.mem_append_left _ (List.mem_of_getElem? (i := 8) (rfl : lw_privs_4[8]? = some _))))))) rfl)⟩
theorem cv_M_writeTo : xo_cv mt_M_writeTo 2 := ⟨⟨(nt_ok (nt_5 _ (List.mem_of_getElem? (i := 0) rfl)) rfl), wi_M, by decide, by decide, by decide +kernel⟩, (nt_ok (nt_4 _ (List.mem_of_getElem? (i := 239) rfl)) rfl), (nt_ok (nt_sel (y := ⟨"FlowKernelModel", "writeTo", "(II)I"⟩) (n := 51) (List.mem_append_right _ (List.mem_append_right _ (List.mem_append_right _ (List.mem_append_left _ (List.mem_of_getElem? (i := 3) (rfl : lw_privs_4[3]? = some _))))))) rfl)⟩
theorem cv_M_failsOrBreaks : xo_cv mt_M_failsOrBreaks 2 := ⟨⟨(nt_ok (nt_5 _ (List.mem_of_getElem? (i := 56) rfl)) rfl), wi_M, by decide, by decide, by decide +kernel⟩, (nt_ok (nt_5 _ (List.mem_of_getElem? (i := 55) rfl)) rfl), (nt_ok (nt_sel (y := ⟨"FlowKernelModel", "failsOrBreaks", "(II)V"⟩) (n := 51) (List.mem_append_right _ (List.mem_append_right _ (List.mem_append_right _ (List.mem_append_right _ ((List.mem_of_getElem? (i := 1) (rfl : lw_privs_5[1]? = some _)))))))) rfl)⟩
theorem cv_M_written : xo_cv mt_M_written 2 := ⟨⟨(nt_ok (nt_5 _ (List.mem_of_getElem? (i := 52) rfl)) rfl), wi_M, by decide, by decide, by decide +kernel⟩, (nt_ok (nt_5 _ (List.mem_of_getElem? (i := 51) rfl)) rfl), (nt_ok (nt_sel (y := ⟨"FlowKernelModel", "written", "(II)V"⟩) (n := 51) (List.mem_append_right _ (List.mem_append_right _ (List.mem_append_right _ (List.mem_append_right _ ((List.mem_of_getElem? (i := 0) (rfl : lw_privs_5[0]? = some _)))))))) rfl)⟩
theorem cv_M_shutDone : xo_cv mt_M_shutDone 2 := ⟨⟨(nt_ok (nt_5 _ (List.mem_of_getElem? (i := 60) rfl)) rfl), wi_M, by decide, by decide, by decide +kernel⟩, (nt_ok (nt_5 _ (List.mem_of_getElem? (i := 59) rfl)) rfl), (nt_ok (nt_sel (y := ⟨"FlowKernelModel", "shutDone", "(II)V"⟩) (n := 51) (List.mem_append_right _ (List.mem_append_right _ (List.mem_append_right _ (List.mem_append_right _ ((List.mem_of_getElem? (i := 2) (rfl : lw_privs_5[2]? = some _)))))))) rfl)⟩
theorem cv_M_abortDone : xo_cv mt_M_abortDone 2 := ⟨⟨(nt_ok (nt_5 _ (List.mem_of_getElem? (i := 64) rfl)) rfl), wi_M, by decide, by decide, by decide +kernel⟩, (nt_ok (nt_5 _ (List.mem_of_getElem? (i := 63) rfl)) rfl), (nt_ok (nt_sel (y := ⟨"FlowKernelModel", "abortDone", "(II)V"⟩) (n := 51) (List.mem_append_right _ (List.mem_append_right _ (List.mem_append_right _ (List.mem_append_right _ ((List.mem_of_getElem? (i := 3) (rfl : lw_privs_5[3]? = some _)))))))) rfl)⟩
theorem cv_M_abortTaker : xo_cv mt_M_abortTaker 2 := ⟨⟨(nt_ok (nt_5 _ (List.mem_of_getElem? (i := 16) rfl)) rfl), wi_M, by decide, by decide, by decide +kernel⟩, (nt_ok (nt_5 _ (List.mem_of_getElem? (i := 15) rfl)) rfl), (nt_ok (nt_sel (y := ⟨"FlowKernelModel", "abortTaker", "(II)V"⟩) (n := 51) (List.mem_append_right _ (List.mem_append_right _ (List.mem_append_right _ (List.mem_append_left _ (List.mem_of_getElem? (i := 7) (rfl : lw_privs_4[7]? = some _))))))) rfl)⟩
theorem cv_M_shutDown : xo_cv mt_M_shutDown 1 := ⟨⟨(nt_ok (nt_5 _ (List.mem_of_getElem? (i := 36) rfl)) rfl), wi_M, by decide, by decide, by decide +kernel⟩, (nt_ok (nt_5 _ (List.mem_of_getElem? (i := 35) rfl)) rfl), (nt_ok (nt_sel (y := ⟨"FlowKernelModel", "shutDown", "(I)V"⟩) (n := 51) (List.mem_append_right _ (List.mem_append_right _ (List.mem_append_right _ (List.mem_append_left _ (List.mem_of_getElem? (i := 12) (rfl : lw_privs_4[12]? = some _))))))) rfl)⟩
theorem cv_M_room : xo_cv mt_M_room 1 := ⟨⟨(nt_ok (nt_4 _ (List.mem_of_getElem? (i := 192) rfl)) rfl), wi_M, by decide, by decide, by decide +kernel⟩, (nt_ok (nt_4 _ (List.mem_of_getElem? (i := 191) rfl)) rfl), (nt_ok (nt_sel (y := ⟨"FlowKernelModel", "room", "(I)I"⟩) (n := 51) (List.mem_append_right _ (List.mem_append_right _ (List.mem_append_left _ (List.mem_of_getElem? (i := 7) (rfl : lw_privs_3[7]? = some _)))))) rfl)⟩
theorem cv_M_isBranch : xo_cv mt_M_isBranch 1 := ⟨⟨(nt_ok (nt_4 _ (List.mem_of_getElem? (i := 180) rfl)) rfl), wi_M, by decide, by decide, by decide +kernel⟩, (nt_ok (nt_4 _ (List.mem_of_getElem? (i := 179) rfl)) rfl), (nt_ok (nt_sel (y := ⟨"FlowKernelModel", "isBranch", "(I)Z"⟩) (n := 51) (List.mem_append_right _ (List.mem_append_right _ (List.mem_append_left _ (List.mem_of_getElem? (i := 4) (rfl : lw_privs_3[4]? = some _)))))) rfl)⟩
theorem cv_M_answer : xo_cv mt_M_answer 3 := ⟨⟨(nt_ok (nt_4 _ (List.mem_of_getElem? (i := 236) rfl)) rfl), wi_M, by decide, by decide, by decide +kernel⟩, (nt_ok (nt_4 _ (List.mem_of_getElem? (i := 235) rfl)) rfl), (nt_ok (nt_sel (y := ⟨"FlowKernelModel", "answer", "(III)V"⟩) (n := 51) (List.mem_append_right _ (List.mem_append_right _ (List.mem_append_right _ (List.mem_append_left _ (List.mem_of_getElem? (i := 2) (rfl : lw_privs_4[2]? = some _))))))) rfl)⟩
theorem cv_M_takeRequest : xo_cv mt_M_takeRequest 1 := ⟨⟨(nt_ok (nt_4 _ (List.mem_of_getElem? (i := 232) rfl)) rfl), wi_M, by decide, by decide, by decide +kernel⟩, (nt_ok (nt_4 _ (List.mem_of_getElem? (i := 231) rfl)) rfl), (nt_ok (nt_sel (y := ⟨"FlowKernelModel", "takeRequest", "(I)I"⟩) (n := 51) (List.mem_append_right _ (List.mem_append_right _ (List.mem_append_right _ (List.mem_append_left _ (List.mem_of_getElem? (i := 1) (rfl : lw_privs_4[1]? = some _))))))) rfl)⟩
theorem cv_M_takeChunk : xo_cv mt_M_takeChunk 1 := ⟨⟨(nt_ok (nt_4 _ (List.mem_of_getElem? (i := 212) rfl)) rfl), wi_M, by decide, by decide, by decide +kernel⟩, (nt_ok (nt_4 _ (List.mem_of_getElem? (i := 211) rfl)) rfl), (nt_ok (nt_sel (y := ⟨"FlowKernelModel", "takeChunk", "(I)I"⟩) (n := 51) (List.mem_append_right _ (List.mem_append_right _ (List.mem_append_left _ (List.mem_of_getElem? (i := 12) (rfl : lw_privs_3[12]? = some _)))))) rfl)⟩
theorem cv_M_closePlain : xo_cv mt_M_closePlain 1 := ⟨⟨(nt_ok (nt_4 _ (List.mem_of_getElem? (i := 208) rfl)) rfl), wi_M, by decide, by decide, by decide +kernel⟩, (nt_ok (nt_4 _ (List.mem_of_getElem? (i := 207) rfl)) rfl), (nt_ok (nt_sel (y := ⟨"FlowKernelModel", "closePlain", "(I)V"⟩) (n := 51) (List.mem_append_right _ (List.mem_append_right _ (List.mem_append_left _ (List.mem_of_getElem? (i := 11) (rfl : lw_privs_3[11]? = some _)))))) rfl)⟩
theorem cv_M_endBranches : xo_cv mt_M_endBranches 1 := ⟨⟨(nt_ok (nt_4 _ (List.mem_of_getElem? (i := 204) rfl)) rfl), wi_M, by decide, by decide, by decide +kernel⟩, (nt_ok (nt_4 _ (List.mem_of_getElem? (i := 203) rfl)) rfl), (nt_ok (nt_sel (y := ⟨"FlowKernelModel", "endBranches", "(I)V"⟩) (n := 51) (List.mem_append_right _ (List.mem_append_right _ (List.mem_append_left _ (List.mem_of_getElem? (i := 10) (rfl : lw_privs_3[10]? = some _)))))) rfl)⟩
theorem cv_M_close : xo_cv mt_M_close 1 := ⟨⟨(nt_ok (nt_4 _ (List.mem_of_getElem? (i := 216) rfl)) rfl), wi_M, by decide, by decide, by decide +kernel⟩, (nt_ok (nt_4 _ (List.mem_of_getElem? (i := 215) rfl)) rfl), (nt_ok (nt_sel (y := ⟨"FlowKernelModel", "close", "(I)V"⟩) (n := 51) (List.mem_append_right _ (List.mem_append_right _ (List.mem_append_left _ (List.mem_of_getElem? (i := 13) (rfl : lw_privs_3[13]? = some _)))))) rfl)⟩
theorem cv_M_failPlain : xo_cv mt_M_failPlain 2 := ⟨⟨(nt_ok (nt_4 _ (List.mem_of_getElem? (i := 168) rfl)) rfl), wi_M, by decide, by decide, by decide +kernel⟩, (nt_ok (nt_4 _ (List.mem_of_getElem? (i := 167) rfl)) rfl), (nt_ok (nt_sel (y := ⟨"FlowKernelModel", "failPlain", "(II)V"⟩) (n := 51) (List.mem_append_right _ (List.mem_append_right _ (List.mem_append_left _ (List.mem_of_getElem? (i := 1) (rfl : lw_privs_3[1]? = some _)))))) rfl)⟩
theorem cv_M_failRoot : xo_cv mt_M_failRoot 2 := ⟨⟨(nt_ok (nt_4 _ (List.mem_of_getElem? (i := 164) rfl)) rfl), wi_M, by decide, by decide, by decide +kernel⟩, (nt_ok (nt_4 _ (List.mem_of_getElem? (i := 163) rfl)) rfl), (nt_ok (nt_sel (y := ⟨"FlowKernelModel", "failRoot", "(II)V"⟩) (n := 51) (List.mem_append_right _ (List.mem_append_right _ (List.mem_append_left _ (List.mem_of_getElem? (i := 0) (rfl : lw_privs_3[0]? = some _)))))) rfl)⟩
theorem cv_M_pulls : xo_cv mt_M_pulls 1 := ⟨⟨(nt_ok (nt_4 _ (List.mem_of_getElem? (i := 188) rfl)) rfl), wi_M, by decide, by decide, by decide +kernel⟩, (nt_ok (nt_4 _ (List.mem_of_getElem? (i := 187) rfl)) rfl), (nt_ok (nt_sel (y := ⟨"FlowKernelModel", "pulls", "(I)Z"⟩) (n := 51) (List.mem_append_right _ (List.mem_append_right _ (List.mem_append_left _ (List.mem_of_getElem? (i := 6) (rfl : lw_privs_3[6]? = some _)))))) rfl)⟩
theorem cv_M_pullRoot : xo_cv mt_M_pullRoot 1 := ⟨⟨(nt_ok (nt_4 _ (List.mem_of_getElem? (i := 184) rfl)) rfl), wi_M, by decide, by decide, by decide +kernel⟩, (nt_ok (nt_4 _ (List.mem_of_getElem? (i := 183) rfl)) rfl), (nt_ok (nt_sel (y := ⟨"FlowKernelModel", "pullRoot", "(I)V"⟩) (n := 51) (List.mem_append_right _ (List.mem_append_right _ (List.mem_append_left _ (List.mem_of_getElem? (i := 5) (rfl : lw_privs_3[5]? = some _)))))) rfl)⟩
theorem cv_M_readOn : xo_cv mt_M_readOn 1 := ⟨⟨(nt_ok (nt_4 _ (List.mem_of_getElem? (i := 200) rfl)) rfl), wi_M, by decide, by decide, by decide +kernel⟩, (nt_ok (nt_4 _ (List.mem_of_getElem? (i := 199) rfl)) rfl), (nt_ok (nt_sel (y := ⟨"FlowKernelModel", "readOn", "(I)V"⟩) (n := 51) (List.mem_append_right _ (List.mem_append_right _ (List.mem_append_left _ (List.mem_of_getElem? (i := 9) (rfl : lw_privs_3[9]? = some _)))))) rfl)⟩
theorem cv_M_pull : xo_cv mt_M_pull 1 := ⟨⟨(nt_ok (nt_4 _ (List.mem_of_getElem? (i := 176) rfl)) rfl), wi_M, by decide, by decide, by decide +kernel⟩, (nt_ok (nt_4 _ (List.mem_of_getElem? (i := 175) rfl)) rfl), (nt_ok (nt_sel (y := ⟨"FlowKernelModel", "pull", "(I)V"⟩) (n := 51) (List.mem_append_right _ (List.mem_append_right _ (List.mem_append_left _ (List.mem_of_getElem? (i := 3) (rfl : lw_privs_3[3]? = some _)))))) rfl)⟩
theorem cv_M_takeIn : xo_cv mt_M_takeIn 2 := ⟨⟨(nt_ok (nt_4 _ (List.mem_of_getElem? (i := 228) rfl)) rfl), wi_M, by decide, by decide, by decide +kernel⟩, (nt_ok (nt_4 _ (List.mem_of_getElem? (i := 227) rfl)) rfl), (nt_ok (nt_sel (y := ⟨"FlowKernelModel", "takeIn", "(II)V"⟩) (n := 51) (List.mem_append_right _ (List.mem_append_right _ (List.mem_append_right _ (List.mem_append_left _ (List.mem_of_getElem? (i := 0) (rfl : lw_privs_4[0]? = some _))))))) rfl)⟩
theorem cv_M_request : xo_cv mt_M_request 2 := ⟨⟨(nt_ok (nt_5 _ (List.mem_of_getElem? (i := 48) rfl)) rfl), wi_M, by decide, by decide, by decide +kernel⟩, (nt_ok (nt_5 _ (List.mem_of_getElem? (i := 47) rfl)) rfl), (nt_ok (nt_sel (y := ⟨"FlowKernelModel", "request", "(II)V"⟩) (n := 51) (List.mem_append_right _ (List.mem_append_right _ (List.mem_append_right _ (List.mem_append_left _ (List.mem_of_getElem? (i := 15) (rfl : lw_privs_4[15]? = some _))))))) rfl)⟩
theorem cv_M_cancelRoot : xo_cv mt_M_cancelRoot 2 := ⟨⟨(nt_ok (nt_5 _ (List.mem_of_getElem? (i := 32) rfl)) rfl), wi_M, by decide, by decide, by decide +kernel⟩, (nt_ok (nt_5 _ (List.mem_of_getElem? (i := 31) rfl)) rfl), (nt_ok (nt_sel (y := ⟨"FlowKernelModel", "cancelRoot", "(II)V"⟩) (n := 51) (List.mem_append_right _ (List.mem_append_right _ (List.mem_append_right _ (List.mem_append_left _ (List.mem_of_getElem? (i := 11) (rfl : lw_privs_4[11]? = some _))))))) rfl)⟩
theorem cv_M_cancelGiver : xo_cv mt_M_cancelGiver 2 := ⟨⟨(nt_ok (nt_5 _ (List.mem_of_getElem? (i := 28) rfl)) rfl), wi_M, by decide, by decide, by decide +kernel⟩, (nt_ok (nt_5 _ (List.mem_of_getElem? (i := 27) rfl)) rfl), (nt_ok (nt_sel (y := ⟨"FlowKernelModel", "cancelGiver", "(II)V"⟩) (n := 51) (List.mem_append_right _ (List.mem_append_right _ (List.mem_append_right _ (List.mem_append_left _ (List.mem_of_getElem? (i := 10) (rfl : lw_privs_4[10]? = some _))))))) rfl)⟩
theorem cv_M_ends : xo_cv mt_M_ends 1 := ⟨⟨(nt_ok (nt_5 _ (List.mem_of_getElem? (i := 109) rfl)) rfl), wi_M, by decide, by decide, by decide +kernel⟩, (nt_ok (nt_5 _ (List.mem_of_getElem? (i := 108) rfl)) rfl), (nt_ok (nt_sel (y := ⟨"FlowKernelModel", "ends", "(I)V"⟩) (n := 51) (List.mem_append_right _ (List.mem_append_right _ (List.mem_append_right _ (List.mem_append_right _ ((List.mem_of_getElem? (i := 8) (rfl : lw_privs_5[8]? = some _)))))))) rfl)⟩
theorem cv_M_pulledJob : xo_cv mt_M_pulledJob 2 := ⟨⟨(nt_ok (nt_4 _ (List.mem_of_getElem? (i := 160) rfl)) rfl), wi_M, by decide, by decide, by decide +kernel⟩, (nt_ok (nt_4 _ (List.mem_of_getElem? (i := 159) rfl)) rfl), (nt_ok (nt_sel (y := ⟨"FlowKernelModel", "pulledJob", "(II)V"⟩) (n := 51) (List.mem_append_right _ (List.mem_append_left _ (List.mem_of_getElem? (i := 15) (rfl : lw_privs_2[15]? = some _))))) rfl)⟩
theorem cv_M_partedJob : xo_cv mt_M_partedJob 2 := ⟨⟨(nt_ok (nt_4 _ (List.mem_of_getElem? (i := 224) rfl)) rfl), wi_M, by decide, by decide, by decide +kernel⟩, (nt_ok (nt_4 _ (List.mem_of_getElem? (i := 223) rfl)) rfl), (nt_ok (nt_sel (y := ⟨"FlowKernelModel", "partedJob", "(II)V"⟩) (n := 51) (List.mem_append_right _ (List.mem_append_right _ (List.mem_append_left _ (List.mem_of_getElem? (i := 15) (rfl : lw_privs_3[15]? = some _)))))) rfl)⟩
theorem cv_M_asks : xo_cv mt_M_asks 1 := ⟨⟨(nt_ok (nt_5 _ (List.mem_of_getElem? (i := 40) rfl)) rfl), wi_M, by decide, by decide, by decide +kernel⟩, (nt_ok (nt_5 _ (List.mem_of_getElem? (i := 39) rfl)) rfl), (nt_ok (nt_sel (y := ⟨"FlowKernelModel", "asks", "(I)Z"⟩) (n := 51) (List.mem_append_right _ (List.mem_append_right _ (List.mem_append_right _ (List.mem_append_left _ (List.mem_of_getElem? (i := 13) (rfl : lw_privs_4[13]? = some _))))))) rfl)⟩
theorem cv_M_finish : xo_cv mt_M_finish 3 := ⟨⟨(nt_ok (nt_5 _ (List.mem_of_getElem? (i := 24) rfl)) rfl), wi_M, by decide, by decide, by decide +kernel⟩, (nt_ok (nt_5 _ (List.mem_of_getElem? (i := 23) rfl)) rfl), (nt_ok (nt_sel (y := ⟨"FlowKernelModel", "finish", "(III)V"⟩) (n := 51) (List.mem_append_right _ (List.mem_append_right _ (List.mem_append_right _ (List.mem_append_left _ (List.mem_of_getElem? (i := 9) (rfl : lw_privs_4[9]? = some _))))))) rfl)⟩
theorem cv_M_pump : xo_cv mt_M_pump 1 := ⟨⟨(nt_ok (nt_5 _ (List.mem_of_getElem? (i := 12) rfl)) rfl), wi_M, by decide, by decide, by decide +kernel⟩, (nt_ok (nt_5 _ (List.mem_of_getElem? (i := 11) rfl)) rfl), (nt_ok (nt_sel (y := ⟨"FlowKernelModel", "pump", "(I)Z"⟩) (n := 51) (List.mem_append_right _ (List.mem_append_right _ (List.mem_append_right _ (List.mem_append_left _ (List.mem_of_getElem? (i := 6) (rfl : lw_privs_4[6]? = some _))))))) rfl)⟩
theorem cv_M_wake : xo_cv mt_M_wake 0 := ⟨⟨(nt_ok (nt_5 _ (List.mem_of_getElem? (i := 68) rfl)) rfl), wi_M, by decide, by decide, by decide +kernel⟩, (nt_ok (nt_5 _ (List.mem_of_getElem? (i := 67) rfl)) rfl), (nt_ok (nt_sel (y := ⟨"FlowKernelModel", "wake", "()V"⟩) (n := 51) (List.mem_append_right _ (List.mem_append_right _ (List.mem_append_right _ (List.mem_append_right _ ((List.mem_of_getElem? (i := 4) (rfl : lw_privs_5[4]? = some _)))))))) rfl)⟩
theorem cv_M_step : xo_cv mt_M_step 0 := ⟨⟨(nt_ok (nt_4 _ (List.mem_of_getElem? (i := 156) rfl)) rfl), wi_M, by decide, by decide, by decide +kernel⟩, (nt_ok (nt_4 _ (List.mem_of_getElem? (i := 154) rfl)) rfl), (nt_ok (nt_4 _ (List.mem_of_getElem? (i := 155) rfl)) rfl)⟩
theorem cv_M_run : xo_cv mt_M_run 0 := ⟨⟨(nt_ok (nt_5 _ (List.mem_of_getElem? (i := 72) rfl)) rfl), wi_M, by decide, by decide, by decide +kernel⟩, (nt_ok (nt_5 _ (List.mem_of_getElem? (i := 70) rfl)) rfl), (nt_ok (nt_5 _ (List.mem_of_getElem? (i := 71) rfl)) rfl)⟩
theorem cv_M_jobs : xo_cv mt_M_jobs 0 := ⟨⟨(nt_ok (nt_5 _ (List.mem_of_getElem? (i := 77) rfl)) rfl), wi_M, by decide, by decide, by decide +kernel⟩, (nt_ok (nt_5 _ (List.mem_of_getElem? (i := 75) rfl)) rfl), (nt_ok (nt_5 _ (List.mem_of_getElem? (i := 76) rfl)) rfl)⟩
theorem cv_M_noGiver : xo_cv mt_M_noGiver 1 := ⟨⟨(nt_ok (nt_5 _ (List.mem_of_getElem? (i := 101) rfl)) rfl), wi_M, by decide, by decide, by decide +kernel⟩, (nt_ok (nt_5 _ (List.mem_of_getElem? (i := 100) rfl)) rfl), (nt_ok (nt_sel (y := ⟨"FlowKernelModel", "noGiver", "(I)Z"⟩) (n := 51) (List.mem_append_right _ (List.mem_append_right _ (List.mem_append_right _ (List.mem_append_right _ ((List.mem_of_getElem? (i := 7) (rfl : lw_privs_5[7]? = some _)))))))) rfl)⟩
theorem cv_M_noTaker : xo_cv mt_M_noTaker 1 := ⟨⟨(nt_ok (nt_5 _ (List.mem_of_getElem? (i := 137) rfl)) rfl), wi_M, by decide, by decide, by decide +kernel⟩, (nt_ok (nt_5 _ (List.mem_of_getElem? (i := 136) rfl)) rfl), (nt_ok (nt_sel (y := ⟨"FlowKernelModel", "noTaker", "(I)Z"⟩) (n := 51) (List.mem_append_right _ (List.mem_append_right _ (List.mem_append_right _ (List.mem_append_right _ ((List.mem_of_getElem? (i := 10) (rfl : lw_privs_5[10]? = some _)))))))) rfl)⟩
theorem cv_M_badError : xo_cv mt_M_badError 2 := ⟨⟨(nt_ok (nt_5 _ (List.mem_of_getElem? (i := 117) rfl)) rfl), wi_M, by decide, by decide, by decide +kernel⟩, (nt_ok (nt_5 _ (List.mem_of_getElem? (i := 116) rfl)) rfl), (nt_ok (nt_sel (y := ⟨"FlowKernelModel", "badError", "(II)Z"⟩) (n := 51) (List.mem_append_right _ (List.mem_append_right _ (List.mem_append_right _ (List.mem_append_right _ ((List.mem_of_getElem? (i := 9) (rfl : lw_privs_5[9]? = some _)))))))) rfl)⟩
theorem cv_M_addGiver : xo_cv mt_M_addGiver 3 := ⟨⟨(nt_ok (nt_5 _ (List.mem_of_getElem? (i := 85) rfl)) rfl), wi_M, by decide, by decide, by decide +kernel⟩, (nt_ok (nt_5 _ (List.mem_of_getElem? (i := 84) rfl)) rfl), (nt_ok (nt_sel (y := ⟨"FlowKernelModel", "addGiver", "(IZI)I"⟩) (n := 51) (List.mem_append_right _ (List.mem_append_right _ (List.mem_append_right _ (List.mem_append_right _ ((List.mem_of_getElem? (i := 5) (rfl : lw_privs_5[5]? = some _)))))))) rfl)⟩
theorem cv_M_giver : xo_cv mt_M_giver 2 := ⟨⟨(nt_ok (nt_5 _ (List.mem_of_getElem? (i := 81) rfl)) rfl), wi_M, by decide, by decide, by decide +kernel⟩, (nt_ok (nt_5 _ (List.mem_of_getElem? (i := 79) rfl)) rfl), (nt_ok (nt_5 _ (List.mem_of_getElem? (i := 80) rfl)) rfl)⟩
theorem cv_M_taker : xo_cv mt_M_taker 2 := ⟨⟨(nt_ok (nt_5 _ (List.mem_of_getElem? (i := 89) rfl)) rfl), wi_M, by decide, by decide, by decide +kernel⟩, (nt_ok (nt_5 _ (List.mem_of_getElem? (i := 87) rfl)) rfl), (nt_ok (nt_5 _ (List.mem_of_getElem? (i := 88) rfl)) rfl)⟩
theorem cv_M_noRoot : xo_cv mt_M_noRoot 1 := ⟨⟨(nt_ok (nt_5 _ (List.mem_of_getElem? (i := 97) rfl)) rfl), wi_M, by decide, by decide, by decide +kernel⟩, (nt_ok (nt_5 _ (List.mem_of_getElem? (i := 96) rfl)) rfl), (nt_ok (nt_sel (y := ⟨"FlowKernelModel", "noRoot", "(I)Z"⟩) (n := 51) (List.mem_append_right _ (List.mem_append_right _ (List.mem_append_right _ (List.mem_append_right _ ((List.mem_of_getElem? (i := 6) (rfl : lw_privs_5[6]? = some _)))))))) rfl)⟩
theorem cv_M_put : xo_cv mt_M_put 2 := ⟨⟨(nt_ok (nt_5 _ (List.mem_of_getElem? (i := 93) rfl)) rfl), wi_M, by decide, by decide, by decide +kernel⟩, (nt_ok (nt_5 _ (List.mem_of_getElem? (i := 91) rfl)) rfl), (nt_ok (nt_5 _ (List.mem_of_getElem? (i := 92) rfl)) rfl)⟩
theorem cv_M_end : xo_cv mt_M_end 1 := ⟨⟨(nt_ok (nt_5 _ (List.mem_of_getElem? (i := 105) rfl)) rfl), wi_M, by decide, by decide, by decide +kernel⟩, (nt_ok (nt_5 _ (List.mem_of_getElem? (i := 103) rfl)) rfl), (nt_ok (nt_5 _ (List.mem_of_getElem? (i := 104) rfl)) rfl)⟩
theorem cv_M_fail : xo_cv mt_M_fail 2 := ⟨⟨(nt_ok (nt_5 _ (List.mem_of_getElem? (i := 113) rfl)) rfl), wi_M, by decide, by decide, by decide +kernel⟩, (nt_ok (nt_5 _ (List.mem_of_getElem? (i := 111) rfl)) rfl), (nt_ok (nt_5 _ (List.mem_of_getElem? (i := 112) rfl)) rfl)⟩
theorem cv_M_pulled : xo_cv mt_M_pulled 2 := ⟨⟨(nt_ok (nt_5 _ (List.mem_of_getElem? (i := 121) rfl)) rfl), wi_M, by decide, by decide, by decide +kernel⟩, (nt_ok (nt_5 _ (List.mem_of_getElem? (i := 119) rfl)) rfl), (nt_ok (nt_5 _ (List.mem_of_getElem? (i := 120) rfl)) rfl)⟩
theorem cv_M_read : xo_cv mt_M_read 1 := ⟨⟨(nt_ok (nt_5 _ (List.mem_of_getElem? (i := 125) rfl)) rfl), wi_M, by decide, by decide, by decide +kernel⟩, (nt_ok (nt_5 _ (List.mem_of_getElem? (i := 123) rfl)) rfl), (nt_ok (nt_5 _ (List.mem_of_getElem? (i := 124) rfl)) rfl)⟩
theorem cv_M_cancel : xo_cv mt_M_cancel 2 := ⟨⟨(nt_ok (nt_5 _ (List.mem_of_getElem? (i := 129) rfl)) rfl), wi_M, by decide, by decide, by decide +kernel⟩, (nt_ok (nt_5 _ (List.mem_of_getElem? (i := 127) rfl)) rfl), (nt_ok (nt_5 _ (List.mem_of_getElem? (i := 128) rfl)) rfl)⟩
theorem cv_M_write : xo_cv mt_M_write 2 := ⟨⟨(nt_ok (nt_5 _ (List.mem_of_getElem? (i := 133) rfl)) rfl), wi_M, by decide, by decide, by decide +kernel⟩, (nt_ok (nt_5 _ (List.mem_of_getElem? (i := 131) rfl)) rfl), (nt_ok (nt_5 _ (List.mem_of_getElem? (i := 132) rfl)) rfl)⟩
theorem cv_M_shut : xo_cv mt_M_shut 1 := ⟨⟨(nt_ok (nt_5 _ (List.mem_of_getElem? (i := 141) rfl)) rfl), wi_M, by decide, by decide, by decide +kernel⟩, (nt_ok (nt_5 _ (List.mem_of_getElem? (i := 139) rfl)) rfl), (nt_ok (nt_5 _ (List.mem_of_getElem? (i := 140) rfl)) rfl)⟩
theorem cv_M_abort : xo_cv mt_M_abort 2 := ⟨⟨(nt_ok (nt_5 _ (List.mem_of_getElem? (i := 145) rfl)) rfl), wi_M, by decide, by decide, by decide +kernel⟩, (nt_ok (nt_5 _ (List.mem_of_getElem? (i := 143) rfl)) rfl), (nt_ok (nt_5 _ (List.mem_of_getElem? (i := 144) rfl)) rfl)⟩
theorem cv_M_spoil : xo_cv mt_M_spoil 2 := ⟨⟨(nt_ok (nt_5 _ (List.mem_of_getElem? (i := 149) rfl)) rfl), wi_M, by decide, by decide, by decide +kernel⟩, (nt_ok (nt_5 _ (List.mem_of_getElem? (i := 147) rfl)) rfl), (nt_ok (nt_5 _ (List.mem_of_getElem? (i := 148) rfl)) rfl)⟩
theorem cv_M_settle : xo_cv mt_M_settle 2 := ⟨⟨(nt_ok (nt_5 _ (List.mem_of_getElem? (i := 153) rfl)) rfl), wi_M, by decide, by decide, by decide +kernel⟩, (nt_ok (nt_5 _ (List.mem_of_getElem? (i := 151) rfl)) rfl), (nt_ok (nt_5 _ (List.mem_of_getElem? (i := 152) rfl)) rfl)⟩
theorem cv_M_pipe : xo_cv mt_M_pipe 3 := ⟨⟨(nt_ok (nt_5 _ (List.mem_of_getElem? (i := 157) rfl)) rfl), wi_M, by decide, by decide, by decide +kernel⟩, (nt_ok (nt_5 _ (List.mem_of_getElem? (i := 155) rfl)) rfl), (nt_ok (nt_5 _ (List.mem_of_getElem? (i := 156) rfl)) rfl)⟩
theorem cv_M_part : xo_cv mt_M_part 1 := ⟨⟨(nt_ok (nt_5 _ (List.mem_of_getElem? (i := 161) rfl)) rfl), wi_M, by decide, by decide, by decide +kernel⟩, (nt_ok (nt_5 _ (List.mem_of_getElem? (i := 159) rfl)) rfl), (nt_ok (nt_5 _ (List.mem_of_getElem? (i := 160) rfl)) rfl)⟩
theorem cv_M_giverState : xo_cv mt_M_giverState 1 := ⟨⟨(nt_ok (nt_5 _ (List.mem_of_getElem? (i := 165) rfl)) rfl), wi_M, by decide, by decide, by decide +kernel⟩, (nt_ok (nt_5 _ (List.mem_of_getElem? (i := 163) rfl)) rfl), (nt_ok (nt_5 _ (List.mem_of_getElem? (i := 164) rfl)) rfl)⟩
theorem cv_M_giverRoom : xo_cv mt_M_giverRoom 1 := ⟨⟨(nt_ok (nt_5 _ (List.mem_of_getElem? (i := 169) rfl)) rfl), wi_M, by decide, by decide, by decide +kernel⟩, (nt_ok (nt_5 _ (List.mem_of_getElem? (i := 167) rfl)) rfl), (nt_ok (nt_5 _ (List.mem_of_getElem? (i := 168) rfl)) rfl)⟩
theorem cv_M_giverQueue : xo_cv mt_M_giverQueue 1 := ⟨⟨(nt_ok (nt_5 _ (List.mem_of_getElem? (i := 173) rfl)) rfl), wi_M, by decide, by decide, by decide +kernel⟩, (nt_ok (nt_5 _ (List.mem_of_getElem? (i := 171) rfl)) rfl), (nt_ok (nt_5 _ (List.mem_of_getElem? (i := 172) rfl)) rfl)⟩
theorem cv_M_takerState : xo_cv mt_M_takerState 1 := ⟨⟨(nt_ok (nt_5 _ (List.mem_of_getElem? (i := 177) rfl)) rfl), wi_M, by decide, by decide, by decide +kernel⟩, (nt_ok (nt_5 _ (List.mem_of_getElem? (i := 175) rfl)) rfl), (nt_ok (nt_5 _ (List.mem_of_getElem? (i := 176) rfl)) rfl)⟩
theorem cv_M_takerRoom : xo_cv mt_M_takerRoom 1 := ⟨⟨(nt_ok (nt_5 _ (List.mem_of_getElem? (i := 181) rfl)) rfl), wi_M, by decide, by decide, by decide +kernel⟩, (nt_ok (nt_5 _ (List.mem_of_getElem? (i := 179) rfl)) rfl), (nt_ok (nt_5 _ (List.mem_of_getElem? (i := 180) rfl)) rfl)⟩
theorem cv_M_takerQueue : xo_cv mt_M_takerQueue 1 := ⟨⟨(nt_ok (nt_5 _ (List.mem_of_getElem? (i := 185) rfl)) rfl), wi_M, by decide, by decide, by decide +kernel⟩, (nt_ok (nt_5 _ (List.mem_of_getElem? (i := 183) rfl)) rfl), (nt_ok (nt_5 _ (List.mem_of_getElem? (i := 184) rfl)) rfl)⟩
theorem cv_M_error : xo_cv mt_M_error 2 := ⟨⟨(nt_ok (nt_5 _ (List.mem_of_getElem? (i := 189) rfl)) rfl), wi_M, by decide, by decide, by decide +kernel⟩, (nt_ok (nt_5 _ (List.mem_of_getElem? (i := 187) rfl)) rfl), (nt_ok (nt_5 _ (List.mem_of_getElem? (i := 188) rfl)) rfl)⟩
theorem cv_M_events : xo_cv mt_M_events 0 := ⟨⟨(nt_ok (nt_5 _ (List.mem_of_getElem? (i := 193) rfl)) rfl), wi_M, by decide, by decide, by decide +kernel⟩, (nt_ok (nt_5 _ (List.mem_of_getElem? (i := 191) rfl)) rfl), (nt_ok (nt_5 _ (List.mem_of_getElem? (i := 192) rfl)) rfl)⟩
theorem cv_M_event : xo_cv mt_M_event 2 := ⟨⟨(nt_ok (nt_5 _ (List.mem_of_getElem? (i := 197) rfl)) rfl), wi_M, by decide, by decide, by decide +kernel⟩, (nt_ok (nt_5 _ (List.mem_of_getElem? (i := 195) rfl)) rfl), (nt_ok (nt_5 _ (List.mem_of_getElem? (i := 196) rfl)) rfl)⟩
