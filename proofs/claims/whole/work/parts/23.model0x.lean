def fc_M_init (t : xo_N) (H : xo_H) : Option (xo_H) :=
  xo_na 0 H (51, 0) 6 (6 : Int32) fun H1 =>
  xo_pp 9 1 H1 (some t) (some (51, 0)) fun H3 =>
  xo_na 0 H3 (52, 0) 6 (6 : Int32) fun H4 =>
  xo_pp 9 2 H4 (some t) (some (52, 0)) fun H6 =>
  xo_na 0 H6 (53, 0) 6 (6 : Int32) fun H7 =>
  xo_pp 9 3 H7 (some t) (some (53, 0)) fun H9 =>
  xo_na 1 H9 (54, 0) 6 (6 : Int32) fun H10 =>
  xo_pp 9 4 H10 (some t) (some (54, 0)) fun H12 =>
  xo_na 1 H12 (55, 0) 6 (6 : Int32) fun H13 =>
  xo_pp 9 5 H13 (some t) (some (55, 0)) fun H15 =>
  xo_na 1 H15 (56, 0) 6 (6 : Int32) fun H16 =>
  xo_pp 9 6 H16 (some t) (some (56, 0)) fun H18 =>
  xo_na 1 H18 (57, 0) 6 (6 : Int32) fun H19 =>
  xo_pp 9 7 H19 (some t) (some (57, 0)) fun H21 =>
  xo_na 0 H21 (58, 0) 6 (6 : Int32) fun H22 =>
  xo_pp 9 8 H22 (some t) (some (58, 0)) fun H24 =>
  xo_na 0 H24 (59, 0) 96 (96 : Int32) fun H25 =>
  xo_pp 9 9 H25 (some t) (some (59, 0)) fun H27 =>
  xo_na 0 H27 (60, 0) 6 (6 : Int32) fun H28 =>
  xo_pp 9 10 H28 (some t) (some (60, 0)) fun H30 =>
  xo_na 0 H30 (61, 0) 48 (48 : Int32) fun H31 =>
  xo_pp 9 11 H31 (some t) (some (61, 0)) fun H33 =>
  xo_na 0 H33 (62, 0) 6 (6 : Int32) fun H34 =>
  xo_pp 9 12 H34 (some t) (some (62, 0)) fun H36 =>
  xo_na 0 H36 (63, 0) 6 (6 : Int32) fun H37 =>
  xo_pp 9 13 H37 (some t) (some (63, 0)) fun H39 =>
  xo_na 1 H39 (64, 0) 6 (6 : Int32) fun H40 =>
  xo_pp 9 14 H40 (some t) (some (64, 0)) fun H42 =>
  xo_na 0 H42 (65, 0) 6 (6 : Int32) fun H43 =>
  xo_pp 9 15 H43 (some t) (some (65, 0)) fun H45 =>
  xo_na 0 H45 (66, 0) 6 (6 : Int32) fun H46 =>
  xo_pp 9 16 H46 (some t) (some (66, 0)) fun H48 =>
  xo_na 1 H48 (67, 0) 6 (6 : Int32) fun H49 =>
  xo_pp 9 17 H49 (some t) (some (67, 0)) fun H51 =>
  xo_na 1 H51 (68, 0) 6 (6 : Int32) fun H52 =>
  xo_pp 9 18 H52 (some t) (some (68, 0)) fun H54 =>
  xo_na 1 H54 (69, 0) 6 (6 : Int32) fun H55 =>
  xo_pp 9 19 H55 (some t) (some (69, 0)) fun H57 =>
  xo_na 0 H57 (70, 0) 2 (2 : Int32) fun H58 =>
  xo_pp 9 21 H58 (some t) (some (70, 0)) fun H60 =>
  xo_na 0 H60 (71, 0) 2 (2 : Int32) fun H61 =>
  xo_pp 9 22 H61 (some t) (some (71, 0)) fun H63 =>
  xo_na 0 H63 (72, 0) 2 (2 : Int32) fun H64 =>
  xo_pp 9 23 H64 (some t) (some (72, 0)) fun H66 =>
  xo_na 1 H66 (73, 0) 2 (2 : Int32) fun H67 =>
  xo_pp 9 24 H67 (some t) (some (73, 0)) fun H69 =>
  xo_na 0 H69 (74, 0) 32 (32 : Int32) fun H70 =>
  xo_pp 9 25 H70 (some t) (some (74, 0)) fun H72 =>
  xo_na 0 H72 (75, 0) 32 (32 : Int32) fun H73 =>
  xo_pp 9 26 H73 (some t) (some (75, 0)) fun H75 =>
  xo_na 0 H75 (76, 0) 2 (2 : Int32) fun H76 =>
  xo_pp 9 27 H76 (some t) (some (76, 0)) fun H78 =>
  xo_na 0 H78 (77, 0) 2 (2 : Int32) fun H79 =>
  xo_pp 9 28 H79 (some t) (some (77, 0)) fun H81 =>
  xo_na 1 H81 (78, 0) 2 (2 : Int32) fun H82 =>
  xo_pp 9 29 H82 (some t) (some (78, 0)) fun H84 =>
  xo_na 0 H84 (79, 0) 2 (2 : Int32) fun H85 =>
  xo_pp 9 30 H85 (some t) (some (79, 0)) fun H87 =>
  xo_na 1 H87 (80, 0) 2 (2 : Int32) fun H88 =>
  xo_pp 9 31 H88 (some t) (some (80, 0)) fun H90 =>
  xo_na 0 H90 (81, 0) 2 (2 : Int32) fun H91 =>
  xo_pp 9 32 H91 (some t) (some (81, 0)) fun H93 =>
  xo_na 1 H93 (82, 0) 2 (2 : Int32) fun H94 =>
  xo_pp 9 33 H94 (some t) (some (82, 0)) fun H96 =>
  xo_na 1 H96 (83, 0) 2 (2 : Int32) fun H97 =>
  xo_pp 9 34 H97 (some t) (some (83, 0)) fun H99 =>
  xo_na 1 H99 (84, 0) 2 (2 : Int32) fun H100 =>
  xo_pp 9 35 H100 (some t) (some (84, 0)) fun H102 =>
  xo_na 0 H102 (85, 0) 2 (2 : Int32) fun H103 =>
  xo_pp 9 37 H103 (some t) (some (85, 0)) fun H105 =>
  xo_na 0 H105 (86, 0) 2 (2 : Int32) fun H106 =>
  xo_pp 9 38 H106 (some t) (some (86, 0)) fun H108 =>
  xo_na 0 H108 (87, 0) 2 (2 : Int32) fun H109 =>
  xo_pp 9 39 H109 (some t) (some (87, 0)) fun H111 =>
  xo_na 1 H111 (88, 0) 2 (2 : Int32) fun H112 =>
  xo_pp 9 40 H112 (some t) (some (88, 0)) fun H114 =>
  xo_na 1 H114 (89, 0) 2 (2 : Int32) fun H115 =>
  xo_pp 9 41 H115 (some t) (some (89, 0)) fun H117 =>
  xo_na 0 H117 (90, 0) 64 (64 : Int32) fun H118 =>
  xo_pp 9 44 H118 (some t) (some (90, 0)) fun H120 =>
  xo_na 0 H120 (91, 0) 64 (64 : Int32) fun H121 =>
  xo_pp 9 45 H121 (some t) (some (91, 0)) fun H123 =>
  xo_na 0 H123 (92, 0) 64 (64 : Int32) fun H124 =>
  xo_pp 9 46 H124 (some t) (some (92, 0)) fun H126 =>
  xo_na 0 H126 (93, 0) 64 (64 : Int32) fun H127 =>
  xo_pp 9 48 H127 (some t) (some (93, 0)) fun H129 =>
  xo_na 0 H129 (94, 0) 64 (64 : Int32) fun H130 =>
  xo_pp 9 49 H130 (some t) (some (94, 0)) fun H132 =>
  xo_na 0 H132 (95, 0) 64 (64 : Int32) fun H133 =>
  xo_pp 9 50 H133 (some t) (some (95, 0)) fun H135 =>
  some H135

set_option maxRecDepth 100000 in
set_option maxHeartbeats 4000000 in
theorem kb_M_init (t : xo_N) (H : xo_H) (r : xo_H) : xo_X mt_M_init 45 730 xo_jv r 0 [(0, .inr (some t))] [] H (fc_M_init t H) := by
  unfold fc_M_init
  refine xo_aload_n (pc' := 1) dd_M_init_0 rfl 0 rfl rfl ?_
  refine xo_oinit (pc' := 4) dd_M_init_1 wo_M_1 wo_inst wo_code (by decide) (Nat.le_of_ble_eq_true rfl) rfl ?_
  refine xo_aload_n (pc' := 5) dd_M_init_4 rfl 0 rfl rfl ?_
  refine xo_bipush (pc' := 7) (v := (6 : Int32)) dd_M_init_5 (by decide) rfl ?_
  refine xo_newa (pc' := 9) dd_M_init_7 rfl (by decide) wa_0 (by decide) rfl rfl rfl fun H1 => ?_
  refine xo_putP (pc' := 12) dd_M_init_9 ff_M_7 (by decide) (by decide +kernel : parseFieldDescriptor "[I" = some (.array .int)) (Or.inr ⟨_, rfl⟩) rfl fun H3 => ?_
  refine xo_aload_n (pc' := 13) dd_M_init_12 rfl 0 rfl rfl ?_
  refine xo_bipush (pc' := 15) (v := (6 : Int32)) dd_M_init_13 (by decide) rfl ?_
  refine xo_newa (pc' := 17) dd_M_init_15 rfl (by decide) wa_0 (by decide) rfl rfl rfl fun H4 => ?_
  refine xo_putP (pc' := 20) dd_M_init_17 ff_M_13 (by decide) (by decide +kernel : parseFieldDescriptor "[I" = some (.array .int)) (Or.inr ⟨_, rfl⟩) rfl fun H6 => ?_
  refine xo_aload_n (pc' := 21) dd_M_init_20 rfl 0 rfl rfl ?_
  refine xo_bipush (pc' := 23) (v := (6 : Int32)) dd_M_init_21 (by decide) rfl ?_
  refine xo_newa (pc' := 25) dd_M_init_23 rfl (by decide) wa_0 (by decide) rfl rfl rfl fun H7 => ?_
  refine xo_putP (pc' := 28) dd_M_init_25 ff_M_16 (by decide) (by decide +kernel : parseFieldDescriptor "[I" = some (.array .int)) (Or.inr ⟨_, rfl⟩) rfl fun H9 => ?_
  refine xo_aload_n (pc' := 29) dd_M_init_28 rfl 0 rfl rfl ?_
  refine xo_bipush (pc' := 31) (v := (6 : Int32)) dd_M_init_29 (by decide) rfl ?_
  refine xo_newa (pc' := 33) dd_M_init_31 rfl (by decide) wa_1 (by decide) rfl rfl rfl fun H10 => ?_
  refine xo_putP (pc' := 36) dd_M_init_33 ff_M_19 (by decide) (by decide +kernel : parseFieldDescriptor "[Z" = some (.array .boolean)) (Or.inr ⟨_, rfl⟩) rfl fun H12 => ?_
  refine xo_aload_n (pc' := 37) dd_M_init_36 rfl 0 rfl rfl ?_
  refine xo_bipush (pc' := 39) (v := (6 : Int32)) dd_M_init_37 (by decide) rfl ?_
  refine xo_newa (pc' := 41) dd_M_init_39 rfl (by decide) wa_1 (by decide) rfl rfl rfl fun H13 => ?_
  refine xo_putP (pc' := 44) dd_M_init_41 ff_M_23 (by decide) (by decide +kernel : parseFieldDescriptor "[Z" = some (.array .boolean)) (Or.inr ⟨_, rfl⟩) rfl fun H15 => ?_
  refine xo_aload_n (pc' := 45) dd_M_init_44 rfl 0 rfl rfl ?_
  refine xo_bipush (pc' := 47) (v := (6 : Int32)) dd_M_init_45 (by decide) rfl ?_
  refine xo_newa (pc' := 49) dd_M_init_47 rfl (by decide) wa_1 (by decide) rfl rfl rfl fun H16 => ?_
  refine xo_putP (pc' := 52) dd_M_init_49 ff_M_26 (by decide) (by decide +kernel : parseFieldDescriptor "[Z" = some (.array .boolean)) (Or.inr ⟨_, rfl⟩) rfl fun H18 => ?_
  refine xo_aload_n (pc' := 53) dd_M_init_52 rfl 0 rfl rfl ?_
  refine xo_bipush (pc' := 55) (v := (6 : Int32)) dd_M_init_53 (by decide) rfl ?_
  refine xo_newa (pc' := 57) dd_M_init_55 rfl (by decide) wa_1 (by decide) rfl rfl rfl fun H19 => ?_
  refine xo_putP (pc' := 60) dd_M_init_57 ff_M_29 (by decide) (by decide +kernel : parseFieldDescriptor "[Z" = some (.array .boolean)) (Or.inr ⟨_, rfl⟩) rfl fun H21 => ?_
  refine xo_aload_n (pc' := 61) dd_M_init_60 rfl 0 rfl rfl ?_
  refine xo_bipush (pc' := 63) (v := (6 : Int32)) dd_M_init_61 (by decide) rfl ?_
  refine xo_newa (pc' := 65) dd_M_init_63 rfl (by decide) wa_0 (by decide) rfl rfl rfl fun H22 => ?_
  refine xo_putP (pc' := 68) dd_M_init_65 ff_M_32 (by decide) (by decide +kernel : parseFieldDescriptor "[I" = some (.array .int)) (Or.inr ⟨_, rfl⟩) rfl fun H24 => ?_
  refine xo_aload_n (pc' := 69) dd_M_init_68 rfl 0 rfl rfl ?_
  refine xo_bipush (pc' := 71) (v := (96 : Int32)) dd_M_init_69 (by decide) rfl ?_
  refine xo_newa (pc' := 73) dd_M_init_71 rfl (by decide) wa_0 (by decide) rfl rfl rfl fun H25 => ?_
  refine xo_putP (pc' := 76) dd_M_init_73 ff_M_35 (by decide) (by decide +kernel : parseFieldDescriptor "[I" = some (.array .int)) (Or.inr ⟨_, rfl⟩) rfl fun H27 => ?_
  refine xo_aload_n (pc' := 77) dd_M_init_76 rfl 0 rfl rfl ?_
  refine xo_bipush (pc' := 79) (v := (6 : Int32)) dd_M_init_77 (by decide) rfl ?_
  refine xo_newa (pc' := 81) dd_M_init_79 rfl (by decide) wa_0 (by decide) rfl rfl rfl fun H28 => ?_
  refine xo_putP (pc' := 84) dd_M_init_81 ff_M_38 (by decide) (by decide +kernel : parseFieldDescriptor "[I" = some (.array .int)) (Or.inr ⟨_, rfl⟩) rfl fun H30 => ?_
  refine xo_aload_n (pc' := 85) dd_M_init_84 rfl 0 rfl rfl ?_
  refine xo_bipush (pc' := 87) (v := (48 : Int32)) dd_M_init_85 (by decide) rfl ?_
  refine xo_newa (pc' := 89) dd_M_init_87 rfl (by decide) wa_0 (by decide) rfl rfl rfl fun H31 => ?_
  refine xo_putP (pc' := 92) dd_M_init_89 ff_M_41 (by decide) (by decide +kernel : parseFieldDescriptor "[I" = some (.array .int)) (Or.inr ⟨_, rfl⟩) rfl fun H33 => ?_
  refine xo_aload_n (pc' := 93) dd_M_init_92 rfl 0 rfl rfl ?_
  refine xo_bipush (pc' := 95) (v := (6 : Int32)) dd_M_init_93 (by decide) rfl ?_
  refine xo_newa (pc' := 97) dd_M_init_95 rfl (by decide) wa_0 (by decide) rfl rfl rfl fun H34 => ?_
  refine xo_putP (pc' := 100) dd_M_init_97 ff_M_44 (by decide) (by decide +kernel : parseFieldDescriptor "[I" = some (.array .int)) (Or.inr ⟨_, rfl⟩) rfl fun H36 => ?_
  refine xo_aload_n (pc' := 101) dd_M_init_100 rfl 0 rfl rfl ?_
  refine xo_bipush (pc' := 103) (v := (6 : Int32)) dd_M_init_101 (by decide) rfl ?_
  refine xo_newa (pc' := 105) dd_M_init_103 rfl (by decide) wa_0 (by decide) rfl rfl rfl fun H37 => ?_
  refine xo_putP (pc' := 108) dd_M_init_105 ff_M_47 (by decide) (by decide +kernel : parseFieldDescriptor "[I" = some (.array .int)) (Or.inr ⟨_, rfl⟩) rfl fun H39 => ?_
  refine xo_aload_n (pc' := 109) dd_M_init_108 rfl 0 rfl rfl ?_
  refine xo_bipush (pc' := 111) (v := (6 : Int32)) dd_M_init_109 (by decide) rfl ?_
  refine xo_newa (pc' := 113) dd_M_init_111 rfl (by decide) wa_1 (by decide) rfl rfl rfl fun H40 => ?_
  refine xo_putP (pc' := 116) dd_M_init_113 ff_M_50 (by decide) (by decide +kernel : parseFieldDescriptor "[Z" = some (.array .boolean)) (Or.inr ⟨_, rfl⟩) rfl fun H42 => ?_
  refine xo_aload_n (pc' := 117) dd_M_init_116 rfl 0 rfl rfl ?_
  refine xo_bipush (pc' := 119) (v := (6 : Int32)) dd_M_init_117 (by decide) rfl ?_
  refine xo_newa (pc' := 121) dd_M_init_119 rfl (by decide) wa_0 (by decide) rfl rfl rfl fun H43 => ?_
  refine xo_putP (pc' := 124) dd_M_init_121 ff_M_53 (by decide) (by decide +kernel : parseFieldDescriptor "[I" = some (.array .int)) (Or.inr ⟨_, rfl⟩) rfl fun H45 => ?_
  refine xo_aload_n (pc' := 125) dd_M_init_124 rfl 0 rfl rfl ?_
  refine xo_bipush (pc' := 127) (v := (6 : Int32)) dd_M_init_125 (by decide) rfl ?_
  refine xo_newa (pc' := 129) dd_M_init_127 rfl (by decide) wa_0 (by decide) rfl rfl rfl fun H46 => ?_
  refine xo_putP (pc' := 132) dd_M_init_129 ff_M_56 (by decide) (by decide +kernel : parseFieldDescriptor "[I" = some (.array .int)) (Or.inr ⟨_, rfl⟩) rfl fun H48 => ?_
  refine xo_aload_n (pc' := 133) dd_M_init_132 rfl 0 rfl rfl ?_
  refine xo_bipush (pc' := 135) (v := (6 : Int32)) dd_M_init_133 (by decide) rfl ?_
  refine xo_newa (pc' := 137) dd_M_init_135 rfl (by decide) wa_1 (by decide) rfl rfl rfl fun H49 => ?_
  refine xo_putP (pc' := 140) dd_M_init_137 ff_M_59 (by decide) (by decide +kernel : parseFieldDescriptor "[Z" = some (.array .boolean)) (Or.inr ⟨_, rfl⟩) rfl fun H51 => ?_
  refine xo_aload_n (pc' := 141) dd_M_init_140 rfl 0 rfl rfl ?_
  refine xo_bipush (pc' := 143) (v := (6 : Int32)) dd_M_init_141 (by decide) rfl ?_
  refine xo_newa (pc' := 145) dd_M_init_143 rfl (by decide) wa_1 (by decide) rfl rfl rfl fun H52 => ?_
  refine xo_putP (pc' := 148) dd_M_init_145 ff_M_62 (by decide) (by decide +kernel : parseFieldDescriptor "[Z" = some (.array .boolean)) (Or.inr ⟨_, rfl⟩) rfl fun H54 => ?_
  refine xo_aload_n (pc' := 149) dd_M_init_148 rfl 0 rfl rfl ?_
  refine xo_bipush (pc' := 151) (v := (6 : Int32)) dd_M_init_149 (by decide) rfl ?_
  refine xo_newa (pc' := 153) dd_M_init_151 rfl (by decide) wa_1 (by decide) rfl rfl rfl fun H55 => ?_
  refine xo_putP (pc' := 156) dd_M_init_153 ff_M_65 (by decide) (by decide +kernel : parseFieldDescriptor "[Z" = some (.array .boolean)) (Or.inr ⟨_, rfl⟩) rfl fun H57 => ?_
  refine xo_aload_n (pc' := 157) dd_M_init_156 rfl 0 rfl rfl ?_
  refine xo_iconst (pc' := 158) (v := (2 : Int32)) dd_M_init_157 (by decide) rfl ?_
  refine xo_newa (pc' := 160) dd_M_init_158 rfl (by decide) wa_0 (by decide) rfl rfl rfl fun H58 => ?_
  refine xo_putP (pc' := 163) dd_M_init_160 ff_M_68 (by decide) (by decide +kernel : parseFieldDescriptor "[I" = some (.array .int)) (Or.inr ⟨_, rfl⟩) rfl fun H60 => ?_
  refine xo_aload_n (pc' := 164) dd_M_init_163 rfl 0 rfl rfl ?_
  refine xo_iconst (pc' := 165) (v := (2 : Int32)) dd_M_init_164 (by decide) rfl ?_
  refine xo_newa (pc' := 167) dd_M_init_165 rfl (by decide) wa_0 (by decide) rfl rfl rfl fun H61 => ?_
  refine xo_putP (pc' := 170) dd_M_init_167 ff_M_71 (by decide) (by decide +kernel : parseFieldDescriptor "[I" = some (.array .int)) (Or.inr ⟨_, rfl⟩) rfl fun H63 => ?_
  refine xo_aload_n (pc' := 171) dd_M_init_170 rfl 0 rfl rfl ?_
  refine xo_iconst (pc' := 172) (v := (2 : Int32)) dd_M_init_171 (by decide) rfl ?_
  refine xo_newa (pc' := 174) dd_M_init_172 rfl (by decide) wa_0 (by decide) rfl rfl rfl fun H64 => ?_
  refine xo_putP (pc' := 177) dd_M_init_174 ff_M_74 (by decide) (by decide +kernel : parseFieldDescriptor "[I" = some (.array .int)) (Or.inr ⟨_, rfl⟩) rfl fun H66 => ?_
  refine xo_aload_n (pc' := 178) dd_M_init_177 rfl 0 rfl rfl ?_
  refine xo_iconst (pc' := 179) (v := (2 : Int32)) dd_M_init_178 (by decide) rfl ?_
  refine xo_newa (pc' := 181) dd_M_init_179 rfl (by decide) wa_1 (by decide) rfl rfl rfl fun H67 => ?_
  refine xo_putP (pc' := 184) dd_M_init_181 ff_M_77 (by decide) (by decide +kernel : parseFieldDescriptor "[Z" = some (.array .boolean)) (Or.inr ⟨_, rfl⟩) rfl fun H69 => ?_
  refine xo_aload_n (pc' := 185) dd_M_init_184 rfl 0 rfl rfl ?_
  refine xo_bipush (pc' := 187) (v := (32 : Int32)) dd_M_init_185 (by decide) rfl ?_
  refine xo_newa (pc' := 189) dd_M_init_187 rfl (by decide) wa_0 (by decide) rfl rfl rfl fun H70 => ?_
  refine xo_putP (pc' := 192) dd_M_init_189 ff_M_80 (by decide) (by decide +kernel : parseFieldDescriptor "[I" = some (.array .int)) (Or.inr ⟨_, rfl⟩) rfl fun H72 => ?_
  refine xo_aload_n (pc' := 193) dd_M_init_192 rfl 0 rfl rfl ?_
  refine xo_bipush (pc' := 195) (v := (32 : Int32)) dd_M_init_193 (by decide) rfl ?_
  refine xo_newa (pc' := 197) dd_M_init_195 rfl (by decide) wa_0 (by decide) rfl rfl rfl fun H73 => ?_
  refine xo_putP (pc' := 200) dd_M_init_197 ff_M_83 (by decide) (by decide +kernel : parseFieldDescriptor "[I" = some (.array .int)) (Or.inr ⟨_, rfl⟩) rfl fun H75 => ?_
  refine xo_aload_n (pc' := 201) dd_M_init_200 rfl 0 rfl rfl ?_
  refine xo_iconst (pc' := 202) (v := (2 : Int32)) dd_M_init_201 (by decide) rfl ?_
  refine xo_newa (pc' := 204) dd_M_init_202 rfl (by decide) wa_0 (by decide) rfl rfl rfl fun H76 => ?_
  refine xo_putP (pc' := 207) dd_M_init_204 ff_M_86 (by decide) (by decide +kernel : parseFieldDescriptor "[I" = some (.array .int)) (Or.inr ⟨_, rfl⟩) rfl fun H78 => ?_
  refine xo_aload_n (pc' := 208) dd_M_init_207 rfl 0 rfl rfl ?_
  refine xo_iconst (pc' := 209) (v := (2 : Int32)) dd_M_init_208 (by decide) rfl ?_
  refine xo_newa (pc' := 211) dd_M_init_209 rfl (by decide) wa_0 (by decide) rfl rfl rfl fun H79 => ?_
  refine xo_putP (pc' := 214) dd_M_init_211 ff_M_89 (by decide) (by decide +kernel : parseFieldDescriptor "[I" = some (.array .int)) (Or.inr ⟨_, rfl⟩) rfl fun H81 => ?_
  refine xo_aload_n (pc' := 215) dd_M_init_214 rfl 0 rfl rfl ?_
  refine xo_iconst (pc' := 216) (v := (2 : Int32)) dd_M_init_215 (by decide) rfl ?_
  refine xo_newa (pc' := 218) dd_M_init_216 rfl (by decide) wa_1 (by decide) rfl rfl rfl fun H82 => ?_
  refine xo_putP (pc' := 221) dd_M_init_218 ff_M_92 (by decide) (by decide +kernel : parseFieldDescriptor "[Z" = some (.array .boolean)) (Or.inr ⟨_, rfl⟩) rfl fun H84 => ?_
  refine xo_aload_n (pc' := 222) dd_M_init_221 rfl 0 rfl rfl ?_
  refine xo_iconst (pc' := 223) (v := (2 : Int32)) dd_M_init_222 (by decide) rfl ?_
  refine xo_newa (pc' := 225) dd_M_init_223 rfl (by decide) wa_0 (by decide) rfl rfl rfl fun H85 => ?_
  refine xo_putP (pc' := 228) dd_M_init_225 ff_M_95 (by decide) (by decide +kernel : parseFieldDescriptor "[I" = some (.array .int)) (Or.inr ⟨_, rfl⟩) rfl fun H87 => ?_
  refine xo_aload_n (pc' := 229) dd_M_init_228 rfl 0 rfl rfl ?_
  refine xo_iconst (pc' := 230) (v := (2 : Int32)) dd_M_init_229 (by decide) rfl ?_
  refine xo_newa (pc' := 232) dd_M_init_230 rfl (by decide) wa_1 (by decide) rfl rfl rfl fun H88 => ?_
  refine xo_putP (pc' := 235) dd_M_init_232 ff_M_98 (by decide) (by decide +kernel : parseFieldDescriptor "[Z" = some (.array .boolean)) (Or.inr ⟨_, rfl⟩) rfl fun H90 => ?_
  refine xo_aload_n (pc' := 236) dd_M_init_235 rfl 0 rfl rfl ?_
  refine xo_iconst (pc' := 237) (v := (2 : Int32)) dd_M_init_236 (by decide) rfl ?_
  refine xo_newa (pc' := 239) dd_M_init_237 rfl (by decide) wa_0 (by decide) rfl rfl rfl fun H91 => ?_
  refine xo_putP (pc' := 242) dd_M_init_239 ff_M_101 (by decide) (by decide +kernel : parseFieldDescriptor "[I" = some (.array .int)) (Or.inr ⟨_, rfl⟩) rfl fun H93 => ?_
  refine xo_aload_n (pc' := 243) dd_M_init_242 rfl 0 rfl rfl ?_
  refine xo_iconst (pc' := 244) (v := (2 : Int32)) dd_M_init_243 (by decide) rfl ?_
  refine xo_newa (pc' := 246) dd_M_init_244 rfl (by decide) wa_1 (by decide) rfl rfl rfl fun H94 => ?_
  refine xo_putP (pc' := 249) dd_M_init_246 ff_M_104 (by decide) (by decide +kernel : parseFieldDescriptor "[Z" = some (.array .boolean)) (Or.inr ⟨_, rfl⟩) rfl fun H96 => ?_
  refine xo_aload_n (pc' := 250) dd_M_init_249 rfl 0 rfl rfl ?_
  refine xo_iconst (pc' := 251) (v := (2 : Int32)) dd_M_init_250 (by decide) rfl ?_
  refine xo_newa (pc' := 253) dd_M_init_251 rfl (by decide) wa_1 (by decide) rfl rfl rfl fun H97 => ?_
  refine xo_putP (pc' := 256) dd_M_init_253 ff_M_107 (by decide) (by decide +kernel : parseFieldDescriptor "[Z" = some (.array .boolean)) (Or.inr ⟨_, rfl⟩) rfl fun H99 => ?_
  refine xo_aload_n (pc' := 257) dd_M_init_256 rfl 0 rfl rfl ?_
  refine xo_iconst (pc' := 258) (v := (2 : Int32)) dd_M_init_257 (by decide) rfl ?_
  refine xo_newa (pc' := 260) dd_M_init_258 rfl (by decide) wa_1 (by decide) rfl rfl rfl fun H100 => ?_
  refine xo_putP (pc' := 263) dd_M_init_260 ff_M_110 (by decide) (by decide +kernel : parseFieldDescriptor "[Z" = some (.array .boolean)) (Or.inr ⟨_, rfl⟩) rfl fun H102 => ?_
  refine xo_aload_n (pc' := 264) dd_M_init_263 rfl 0 rfl rfl ?_
  refine xo_iconst (pc' := 265) (v := (2 : Int32)) dd_M_init_264 (by decide) rfl ?_
  refine xo_newa (pc' := 267) dd_M_init_265 rfl (by decide) wa_0 (by decide) rfl rfl rfl fun H103 => ?_
  refine xo_putP (pc' := 270) dd_M_init_267 ff_M_113 (by decide) (by decide +kernel : parseFieldDescriptor "[I" = some (.array .int)) (Or.inr ⟨_, rfl⟩) rfl fun H105 => ?_
  refine xo_aload_n (pc' := 271) dd_M_init_270 rfl 0 rfl rfl ?_
  refine xo_iconst (pc' := 272) (v := (2 : Int32)) dd_M_init_271 (by decide) rfl ?_
  refine xo_newa (pc' := 274) dd_M_init_272 rfl (by decide) wa_0 (by decide) rfl rfl rfl fun H106 => ?_
  refine xo_putP (pc' := 277) dd_M_init_274 ff_M_116 (by decide) (by decide +kernel : parseFieldDescriptor "[I" = some (.array .int)) (Or.inr ⟨_, rfl⟩) rfl fun H108 => ?_
  refine xo_aload_n (pc' := 278) dd_M_init_277 rfl 0 rfl rfl ?_
  refine xo_iconst (pc' := 279) (v := (2 : Int32)) dd_M_init_278 (by decide) rfl ?_
  refine xo_newa (pc' := 281) dd_M_init_279 rfl (by decide) wa_0 (by decide) rfl rfl rfl fun H109 => ?_
  refine xo_putP (pc' := 284) dd_M_init_281 ff_M_119 (by decide) (by decide +kernel : parseFieldDescriptor "[I" = some (.array .int)) (Or.inr ⟨_, rfl⟩) rfl fun H111 => ?_
  refine xo_aload_n (pc' := 285) dd_M_init_284 rfl 0 rfl rfl ?_
  refine xo_iconst (pc' := 286) (v := (2 : Int32)) dd_M_init_285 (by decide) rfl ?_
  refine xo_newa (pc' := 288) dd_M_init_286 rfl (by decide) wa_1 (by decide) rfl rfl rfl fun H112 => ?_
  refine xo_putP (pc' := 291) dd_M_init_288 ff_M_122 (by decide) (by decide +kernel : parseFieldDescriptor "[Z" = some (.array .boolean)) (Or.inr ⟨_, rfl⟩) rfl fun H114 => ?_
  refine xo_aload_n (pc' := 292) dd_M_init_291 rfl 0 rfl rfl ?_
  refine xo_iconst (pc' := 293) (v := (2 : Int32)) dd_M_init_292 (by decide) rfl ?_
  refine xo_newa (pc' := 295) dd_M_init_293 rfl (by decide) wa_1 (by decide) rfl rfl rfl fun H115 => ?_
  refine xo_putP (pc' := 298) dd_M_init_295 ff_M_125 (by decide) (by decide +kernel : parseFieldDescriptor "[Z" = some (.array .boolean)) (Or.inr ⟨_, rfl⟩) rfl fun H117 => ?_
  refine xo_aload_n (pc' := 299) dd_M_init_298 rfl 0 rfl rfl ?_
  refine xo_bipush (pc' := 301) (v := (64 : Int32)) dd_M_init_299 (by decide) rfl ?_
  refine xo_newa (pc' := 303) dd_M_init_301 rfl (by decide) wa_0 (by decide) rfl rfl rfl fun H118 => ?_
  refine xo_putP (pc' := 306) dd_M_init_303 ff_M_128 (by decide) (by decide +kernel : parseFieldDescriptor "[I" = some (.array .int)) (Or.inr ⟨_, rfl⟩) rfl fun H120 => ?_
  refine xo_aload_n (pc' := 307) dd_M_init_306 rfl 0 rfl rfl ?_
  refine xo_bipush (pc' := 309) (v := (64 : Int32)) dd_M_init_307 (by decide) rfl ?_
  refine xo_newa (pc' := 311) dd_M_init_309 rfl (by decide) wa_0 (by decide) rfl rfl rfl fun H121 => ?_
  refine xo_putP (pc' := 314) dd_M_init_311 ff_M_131 (by decide) (by decide +kernel : parseFieldDescriptor "[I" = some (.array .int)) (Or.inr ⟨_, rfl⟩) rfl fun H123 => ?_
  refine xo_aload_n (pc' := 315) dd_M_init_314 rfl 0 rfl rfl ?_
  refine xo_bipush (pc' := 317) (v := (64 : Int32)) dd_M_init_315 (by decide) rfl ?_
  refine xo_newa (pc' := 319) dd_M_init_317 rfl (by decide) wa_0 (by decide) rfl rfl rfl fun H124 => ?_
  refine xo_putP (pc' := 322) dd_M_init_319 ff_M_134 (by decide) (by decide +kernel : parseFieldDescriptor "[I" = some (.array .int)) (Or.inr ⟨_, rfl⟩) rfl fun H126 => ?_
  refine xo_aload_n (pc' := 323) dd_M_init_322 rfl 0 rfl rfl ?_
  refine xo_bipush (pc' := 325) (v := (64 : Int32)) dd_M_init_323 (by decide) rfl ?_
  refine xo_newa (pc' := 327) dd_M_init_325 rfl (by decide) wa_0 (by decide) rfl rfl rfl fun H127 => ?_
  refine xo_putP (pc' := 330) dd_M_init_327 ff_M_137 (by decide) (by decide +kernel : parseFieldDescriptor "[I" = some (.array .int)) (Or.inr ⟨_, rfl⟩) rfl fun H129 => ?_
  refine xo_aload_n (pc' := 331) dd_M_init_330 rfl 0 rfl rfl ?_
  refine xo_bipush (pc' := 333) (v := (64 : Int32)) dd_M_init_331 (by decide) rfl ?_
  refine xo_newa (pc' := 335) dd_M_init_333 rfl (by decide) wa_0 (by decide) rfl rfl rfl fun H130 => ?_
  refine xo_putP (pc' := 338) dd_M_init_335 ff_M_140 (by decide) (by decide +kernel : parseFieldDescriptor "[I" = some (.array .int)) (Or.inr ⟨_, rfl⟩) rfl fun H132 => ?_
  refine xo_aload_n (pc' := 339) dd_M_init_338 rfl 0 rfl rfl ?_
  refine xo_bipush (pc' := 341) (v := (64 : Int32)) dd_M_init_339 (by decide) rfl ?_
  refine xo_newa (pc' := 343) dd_M_init_341 rfl (by decide) wa_0 (by decide) rfl rfl rfl fun H133 => ?_
  refine xo_putP (pc' := 346) dd_M_init_343 ff_M_143 (by decide) (by decide +kernel : parseFieldDescriptor "[I" = some (.array .int)) (Or.inr ⟨_, rfl⟩) rfl fun H135 => ?_
  exact xo_vret dd_M_init_346 rfl
set_option maxRecDepth 100000 in
set_option maxHeartbeats 4000000 in
theorem kc_M_init (t : xo_N) (H : xo_H) (r : xo_H) (hk : fc_M_init t H = some r) : xo_M mt_M_init [.inr (some t)] H (xo_jv r) :=
  xo_entry hk (by decide +kernel) (Nat.le_of_ble_eq_true rfl) (kb_M_init t H r)
def fc_M_happen (t : xo_N) (x1 : Int32) (x2 : Int32) (x3 : Int32) (x4 : Int32) (H : xo_H) : Option (xo_H) :=
  xo_gf 9 47 H (some t) fun v1 =>
  xo_rm v1 (64 : Int32) fun v2 =>
  xo_gp 9 48 H (some t) fun o3 =>
  xo_as H o3 v2 (x1 + ((32 : Int32) * x2)) fun H4 =>
  xo_gp 9 49 H4 (some t) fun o5 =>
  xo_as H4 o5 v2 x3 fun H6 =>
  xo_gp 9 50 H6 (some t) fun o7 =>
  xo_as H6 o7 v2 x4 fun H8 =>
  xo_gf 9 47 H8 (some t) fun v9 =>
  xo_pf 9 47 H8 (some t) (v9 + (1 : Int32)) fun H10 =>
  some H10

set_option maxRecDepth 100000 in
set_option maxHeartbeats 4000000 in
theorem kb_M_happen (t : xo_N) (x1 : Int32) (x2 : Int32) (x3 : Int32) (x4 : Int32) (H : xo_H) (r : xo_H) : xo_X mt_M_happen 0 0 xo_jv r 0 [(0, .inr (some t)), (1, .inl x1), (2, .inl x2), (3, .inl x3), (4, .inl x4)] [] H (fc_M_happen t x1 x2 x3 x4 H) := by
  unfold fc_M_happen
  refine xo_aload_n (pc' := 1) dd_M_happen_0 rfl 0 rfl rfl ?_
  refine xo_getI (pc' := 4) dd_M_happen_1 ff_M_146 (by decide) rfl fun v1 => ?_
  refine xo_bipush (pc' := 6) (v := (64 : Int32)) dd_M_happen_4 (by decide) rfl ?_
  refine xo_irem (pc' := 7) dd_M_happen_6 rfl fun v2 => ?_
  refine xo_istore (pc' := 9) dd_M_happen_7 (by decide) rfl rfl ?_
  refine xo_aload_n (pc' := 10) dd_M_happen_9 rfl 1 rfl rfl ?_
  refine xo_getP (pc' := 13) dd_M_happen_10 ff_M_137 (by decide) rfl fun o3 => ?_
  refine xo_iload (pc' := 15) dd_M_happen_13 0 rfl rfl ?_
  refine xo_iload_n (pc' := 16) dd_M_happen_15 rfl 2 rfl rfl ?_
  refine xo_bipush (pc' := 18) (v := (32 : Int32)) dd_M_happen_16 (by decide) rfl ?_
  refine xo_iload_n (pc' := 19) dd_M_happen_18 rfl 3 rfl rfl ?_
  refine xo_imul (pc' := 20) dd_M_happen_19 rfl ?_
  refine xo_iadd (pc' := 21) dd_M_happen_20 rfl ?_
  refine xo_iast (pc' := 22) dd_M_happen_21 rfl fun H4 => ?_
  refine xo_aload_n (pc' := 23) dd_M_happen_22 rfl 1 rfl rfl ?_
  refine xo_getP (pc' := 26) dd_M_happen_23 ff_M_140 (by decide) rfl fun o5 => ?_
  refine xo_iload (pc' := 28) dd_M_happen_26 0 rfl rfl ?_
  refine xo_iload_n (pc' := 29) dd_M_happen_28 rfl 4 rfl rfl ?_
  refine xo_iast (pc' := 30) dd_M_happen_29 rfl fun H6 => ?_
  refine xo_aload_n (pc' := 31) dd_M_happen_30 rfl 1 rfl rfl ?_
  refine xo_getP (pc' := 34) dd_M_happen_31 ff_M_143 (by decide) rfl fun o7 => ?_
  refine xo_iload (pc' := 36) dd_M_happen_34 0 rfl rfl ?_
  refine xo_iload (pc' := 38) dd_M_happen_36 5 rfl rfl ?_
  refine xo_iast (pc' := 39) dd_M_happen_38 rfl fun H8 => ?_
  refine xo_aload_n (pc' := 40) dd_M_happen_39 rfl 1 rfl rfl ?_
  refine xo_dup (pc' := 41) dd_M_happen_40 rfl ?_
  refine xo_getI (pc' := 44) dd_M_happen_41 ff_M_146 (by decide) rfl fun v9 => ?_
  refine xo_iconst (pc' := 45) (v := (1 : Int32)) dd_M_happen_44 (by decide) rfl ?_
  refine xo_iadd (pc' := 46) dd_M_happen_45 rfl ?_
  refine xo_putI (pc' := 49) dd_M_happen_46 ff_M_146 rfl fun H10 => ?_
  exact xo_vret dd_M_happen_49 rfl
set_option maxRecDepth 100000 in
set_option maxHeartbeats 4000000 in
theorem kc_M_happen (t : xo_N) (x1 : Int32) (x2 : Int32) (x3 : Int32) (x4 : Int32) (H : xo_H) (r : xo_H) (hk : fc_M_happen t x1 x2 x3 x4 H = some r) : xo_M mt_M_happen [.inr (some t), .inl x1, .inl x2, .inl x3, .inl x4] H (xo_jv r) :=
  xo_entry hk (by decide +kernel) (Nat.le_of_ble_eq_true rfl) (kb_M_happen t x1 x2 x3 x4 H r)
def fc_M_job (t : xo_N) (x1 : Int32) (x2 : Int32) (x3 : Int32) (H : xo_H) : Option (xo_H) :=
  xo_gf 9 42 H (some t) fun v1 =>
  xo_gf 9 43 H (some t) fun v2 =>
  xo_rm (v1 + v2) (64 : Int32) fun v3 =>
  xo_gp 9 44 H (some t) fun o4 =>
  xo_as H o4 v3 x1 fun H5 =>
  xo_gp 9 45 H5 (some t) fun o6 =>
  xo_as H5 o6 v3 x2 fun H7 =>
  xo_gp 9 46 H7 (some t) fun o8 =>
  xo_as H7 o8 v3 x3 fun H9 =>
  xo_gf 9 43 H9 (some t) fun v10 =>
  xo_pf 9 43 H9 (some t) (v10 + (1 : Int32)) fun H11 =>
  some H11

set_option maxRecDepth 100000 in
set_option maxHeartbeats 4000000 in
theorem kb_M_job (t : xo_N) (x1 : Int32) (x2 : Int32) (x3 : Int32) (H : xo_H) (r : xo_H) : xo_X mt_M_job 0 0 xo_jv r 0 [(0, .inr (some t)), (1, .inl x1), (2, .inl x2), (3, .inl x3)] [] H (fc_M_job t x1 x2 x3 H) := by
  unfold fc_M_job
  refine xo_aload_n (pc' := 1) dd_M_job_0 rfl 0 rfl rfl ?_
  refine xo_getI (pc' := 4) dd_M_job_1 ff_M_150 (by decide) rfl fun v1 => ?_
  refine xo_aload_n (pc' := 5) dd_M_job_4 rfl 0 rfl rfl ?_
  refine xo_getI (pc' := 8) dd_M_job_5 ff_M_153 (by decide) rfl fun v2 => ?_
  refine xo_iadd (pc' := 9) dd_M_job_8 rfl ?_
  refine xo_bipush (pc' := 11) (v := (64 : Int32)) dd_M_job_9 (by decide) rfl ?_
  refine xo_irem (pc' := 12) dd_M_job_11 rfl fun v3 => ?_
  refine xo_istore (pc' := 14) dd_M_job_12 (by decide) rfl rfl ?_
  refine xo_aload_n (pc' := 15) dd_M_job_14 rfl 1 rfl rfl ?_
  refine xo_getP (pc' := 18) dd_M_job_15 ff_M_128 (by decide) rfl fun o4 => ?_
  refine xo_iload (pc' := 20) dd_M_job_18 0 rfl rfl ?_
  refine xo_iload_n (pc' := 21) dd_M_job_20 rfl 2 rfl rfl ?_
  refine xo_iast (pc' := 22) dd_M_job_21 rfl fun H5 => ?_
  refine xo_aload_n (pc' := 23) dd_M_job_22 rfl 1 rfl rfl ?_
  refine xo_getP (pc' := 26) dd_M_job_23 ff_M_131 (by decide) rfl fun o6 => ?_
  refine xo_iload (pc' := 28) dd_M_job_26 0 rfl rfl ?_
  refine xo_iload_n (pc' := 29) dd_M_job_28 rfl 3 rfl rfl ?_
  refine xo_iast (pc' := 30) dd_M_job_29 rfl fun H7 => ?_
  refine xo_aload_n (pc' := 31) dd_M_job_30 rfl 1 rfl rfl ?_
  refine xo_getP (pc' := 34) dd_M_job_31 ff_M_134 (by decide) rfl fun o8 => ?_
  refine xo_iload (pc' := 36) dd_M_job_34 0 rfl rfl ?_
  refine xo_iload_n (pc' := 37) dd_M_job_36 rfl 4 rfl rfl ?_
  refine xo_iast (pc' := 38) dd_M_job_37 rfl fun H9 => ?_
  refine xo_aload_n (pc' := 39) dd_M_job_38 rfl 1 rfl rfl ?_
  refine xo_dup (pc' := 40) dd_M_job_39 rfl ?_
  refine xo_getI (pc' := 43) dd_M_job_40 ff_M_153 (by decide) rfl fun v10 => ?_
  refine xo_iconst (pc' := 44) (v := (1 : Int32)) dd_M_job_43 (by decide) rfl ?_
  refine xo_iadd (pc' := 45) dd_M_job_44 rfl ?_
  refine xo_putI (pc' := 48) dd_M_job_45 ff_M_153 rfl fun H11 => ?_
  exact xo_vret dd_M_job_48 rfl
set_option maxRecDepth 100000 in
set_option maxHeartbeats 4000000 in
theorem kc_M_job (t : xo_N) (x1 : Int32) (x2 : Int32) (x3 : Int32) (H : xo_H) (r : xo_H) (hk : fc_M_job t x1 x2 x3 H = some r) : xo_M mt_M_job [.inr (some t), .inl x1, .inl x2, .inl x3] H (xo_jv r) :=
  xo_entry hk (by decide +kernel) (Nat.le_of_ble_eq_true rfl) (kb_M_job t x1 x2 x3 H r)
def fc_M_sizeOf (t : xo_N) (x1 : Int32) (x2 : Int32) (H : xo_H) : Option (Int32 × xo_H) :=
  if x2 = 0 then (some ((1 : Int32), H))
  else (some ((x1 &&& (7 : Int32)), H))

set_option maxRecDepth 100000 in
set_option maxHeartbeats 4000000 in
theorem kb_M_sizeOf (t : xo_N) (x1 : Int32) (x2 : Int32) (H : xo_H) (r : Int32 × xo_H) : xo_X mt_M_sizeOf 0 0 xo_ji r 0 [(0, .inr (some t)), (1, .inl x1), (2, .inl x2)] [] H (fc_M_sizeOf t x1 x2 H) := by
  unfold fc_M_sizeOf
  refine xo_iload_n (pc' := 1) dd_M_sizeOf_0 rfl 2 rfl rfl ?_
  refine xo_if_eq (pc' := 4) (tgt := 11) dd_M_sizeOf_1 rfl rfl ?_ ?_
  · refine xo_iconst (pc' := 12) (v := (1 : Int32)) dd_M_sizeOf_11 (by decide) rfl ?_
    exact xo_iret dd_M_sizeOf_12 rfl
  · refine xo_iload_n (pc' := 5) dd_M_sizeOf_4 rfl 1 rfl rfl ?_
    refine xo_bipush (pc' := 7) (v := (7 : Int32)) dd_M_sizeOf_5 (by decide) rfl ?_
    refine xo_iand (pc' := 8) dd_M_sizeOf_7 rfl ?_
    refine xo_goto (pc' := 12) dd_M_sizeOf_8 rfl ?_
    exact xo_iret dd_M_sizeOf_12 rfl
set_option maxRecDepth 100000 in
set_option maxHeartbeats 4000000 in
theorem kc_M_sizeOf (t : xo_N) (x1 : Int32) (x2 : Int32) (H : xo_H) (r : Int32 × xo_H) (hk : fc_M_sizeOf t x1 x2 H = some r) : xo_M mt_M_sizeOf [.inr (some t), .inl x1, .inl x2] H (xo_ji r) :=
  xo_entry hk (by decide +kernel) (Nat.le_of_ble_eq_true rfl) (kb_M_sizeOf t x1 x2 H r)
def fb_M_space_9 : Nat → xo_N → Int32 → Int32 → Int32 → xo_H → Option (Int32 × xo_H)
  | 0, _, _, _, _, _ => none
  | fu + 1, t, x1, x2, x3, H =>
  xo_gp 9 27 H (some t) fun o1 =>
  xo_al 0 H o1 x1 fun v2 =>
  if x3 < v2 then (xo_gp 9 25 H (some t) fun o3 =>
  xo_al 0 H o3 (((16 : Int32) * x1) + x3) fun v4 =>
  xo_gp 9 24 H (some t) fun o5 =>
  xo_al 1 H o5 x1 fun v6 =>
  xo_cl 9 (some t) (fun n8 => fc_M_sizeOf n8 v4 v6 H) fun r7 =>
  fb_M_space_9 fu t x1 (x2 - r7.1) (x3 + (1 : Int32)) r7.2)
  else (some (x2, H))

def fc_M_space (t : xo_N) (x1 : Int32) (H : xo_H) : Option (Int32 × xo_H) :=
  xo_gp 9 23 H (some t) fun o1 =>
  xo_al 0 H o1 x1 fun v2 =>
  fb_M_space_9 1000 t x1 v2 (0 : Int32) H

set_option maxRecDepth 100000 in
set_option maxHeartbeats 4000000 in
theorem kb_M_space_9 : ∀ (fu : Nat) (t : xo_N) (x1 : Int32) (x2 : Int32) (x3 : Int32) (H : xo_H) (r : Int32 × xo_H), xo_X mt_M_space 0 0 xo_ji r 9 [(0, .inr (some t)), (1, .inl x1), (2, .inl x2), (3, .inl x3)] [] H (fb_M_space_9 fu t x1 x2 x3 H) := by
  intro fu
  induction fu with
  | zero => intros; exact xo_no
  | succ fu ih =>
    intro t x1 x2 x3 H r
    rw [fb_M_space_9]
    refine xo_iload_n (pc' := 10) dd_M_space_9 rfl 3 rfl rfl ?_
    refine xo_aload_n (pc' := 11) dd_M_space_10 rfl 0 rfl rfl ?_
    refine xo_getP (pc' := 14) dd_M_space_11 ff_M_86 (by decide) rfl fun o1 => ?_
    refine xo_iload_n (pc' := 15) dd_M_space_14 rfl 1 rfl rfl ?_
    refine xo_iald (pc' := 16) dd_M_space_15 rfl fun v2 => ?_
    refine xo_icmp_ge (pc' := 19) (tgt := 49) dd_M_space_16 rfl rfl ?_ ?_
    · refine xo_iload_n (pc' := 50) dd_M_space_49 rfl 2 rfl rfl ?_
      exact xo_iret dd_M_space_50 rfl
    · refine xo_iload_n (pc' := 20) dd_M_space_19 rfl 2 rfl rfl ?_
      refine xo_aload_n (pc' := 21) dd_M_space_20 rfl 0 rfl rfl ?_
      refine xo_aload_n (pc' := 22) dd_M_space_21 rfl 0 rfl rfl ?_
      refine xo_getP (pc' := 25) dd_M_space_22 ff_M_80 (by decide) rfl fun o3 => ?_
      refine xo_bipush (pc' := 27) (v := (16 : Int32)) dd_M_space_25 (by decide) rfl ?_
      refine xo_iload_n (pc' := 28) dd_M_space_27 rfl 1 rfl rfl ?_
      refine xo_imul (pc' := 29) dd_M_space_28 rfl ?_
      refine xo_iload_n (pc' := 30) dd_M_space_29 rfl 3 rfl rfl ?_
      refine xo_iadd (pc' := 31) dd_M_space_30 rfl ?_
      refine xo_iald (pc' := 32) dd_M_space_31 rfl fun v4 => ?_
      refine xo_aload_n (pc' := 33) dd_M_space_32 rfl 0 rfl rfl ?_
      refine xo_getP (pc' := 36) dd_M_space_33 ff_M_77 (by decide) rfl fun o5 => ?_
      refine xo_iload_n (pc' := 37) dd_M_space_36 rfl 1 rfl rfl ?_
      refine xo_zald (pc' := 38) dd_M_space_37 rfl fun v6 => ?_
      refine xo_callVi (as := [.inl v4, .inl v6]) (o := (some t)) (st := [.inl x2]) (pc' := 41) dd_M_space_38 cv_M_sizeOf ml_M_156 rfl rfl ⟨by decide, by decide⟩ rfl rfl rfl (Nat.le_of_ble_eq_true rfl) rfl (fun n q h => kc_M_sizeOf n v4 v6 H q h) fun r7 => ?_
      refine xo_isub (pc' := 42) dd_M_space_41 rfl ?_
      refine xo_istore_n (pc' := 43) dd_M_space_42 rfl (by decide) rfl rfl ?_
      refine xo_iinc (pc' := 46) dd_M_space_43 3 rfl (xo_ii (m := (1 : Int32)) (by decide)) (by decide) rfl rfl ?_
      refine xo_goto (pc' := 9) dd_M_space_46 rfl ?_
      refine xo_sub [2, 3, 1, 0] rfl ?_
      exact ih t x1 (x2 - r7.1) (x3 + (1 : Int32)) r7.2 r
set_option maxRecDepth 100000 in
set_option maxHeartbeats 4000000 in
theorem kb_M_space (t : xo_N) (x1 : Int32) (H : xo_H) (r : Int32 × xo_H) : xo_X mt_M_space 0 0 xo_ji r 0 [(0, .inr (some t)), (1, .inl x1)] [] H (fc_M_space t x1 H) := by
  unfold fc_M_space
  refine xo_aload_n (pc' := 1) dd_M_space_0 rfl 0 rfl rfl ?_
  refine xo_getP (pc' := 4) dd_M_space_1 ff_M_74 (by decide) rfl fun o1 => ?_
  refine xo_iload_n (pc' := 5) dd_M_space_4 rfl 1 rfl rfl ?_
  refine xo_iald (pc' := 6) dd_M_space_5 rfl fun v2 => ?_
  refine xo_istore_n (pc' := 7) dd_M_space_6 rfl (by decide) rfl rfl ?_
  refine xo_iconst (pc' := 8) (v := (0 : Int32)) dd_M_space_7 (by decide) rfl ?_
  refine xo_istore_n (pc' := 9) dd_M_space_8 rfl (by decide) rfl rfl ?_
  refine xo_sub [2, 3, 1, 0] rfl ?_
  exact kb_M_space_9 1000 t x1 v2 (0 : Int32) H r
set_option maxRecDepth 100000 in
set_option maxHeartbeats 4000000 in
theorem kc_M_space (t : xo_N) (x1 : Int32) (H : xo_H) (r : Int32 × xo_H) (hk : fc_M_space t x1 H = some r) : xo_M mt_M_space [.inr (some t), .inl x1] H (xo_ji r) :=
  xo_entry hk (by decide +kernel) (Nat.le_of_ble_eq_true rfl) (kb_M_space t x1 H r)
def fb_M_breaks_118 (t : xo_N) (x1 : Int32) (H : xo_H) : Option (xo_H) :=
  xo_gp 9 30 H (some t) fun o1 =>
  xo_al 0 H o1 x1 fun v2 =>
  if v2 = (5 : Int32) then (some H)
  else (xo_gp 9 29 H (some t) fun o3 =>
  xo_al 1 H o3 x1 fun v4 =>
  if v4 = 0 then (some H)
  else (xo_gp 9 29 H (some t) fun o5 =>
  xo_az H o5 x1 (0 : Int32) fun H6 =>
  xo_gp 9 22 H6 (some t) fun o7 =>
  xo_al 0 H6 o7 x1 fun v8 =>
  xo_cl 9 (some t) (fun n10 => fc_M_happen n10 (12 : Int32) x1 v8 (0 : Int32) H6) fun H9 =>
  some H9))

def fb_M_breaks_9 : Nat → xo_N → Int32 → Int32 → xo_H → Option (xo_H)
  | 0, _, _, _, _ => none
  | fu + 1, t, x1, x2, H =>
  xo_gp 9 27 H (some t) fun o1 =>
  xo_al 0 H o1 x1 fun v2 =>
  if x2 < v2 then (xo_gp 9 26 H (some t) fun o21 =>
  xo_al 0 H o21 (((16 : Int32) * x1) + x2) fun v22 =>
  xo_gp 9 22 H (some t) fun o23 =>
  xo_al 0 H o23 x1 fun v24 =>
  xo_cl 9 (some t) (fun n26 => fc_M_happen n26 (10 : Int32) x1 v22 v24 H) fun H25 =>
  fb_M_breaks_9 fu t x1 (x2 + (1 : Int32)) H25)
  else (xo_gp 9 27 H (some t) fun o3 =>
  xo_as H o3 x1 (0 : Int32) fun H4 =>
  xo_gp 9 31 H4 (some t) fun o5 =>
  xo_al 1 H4 o5 x1 fun v6 =>
  if v6 = 0 then (fb_M_breaks_118 t x1 H4)
  else (xo_gp 9 31 H4 (some t) fun o7 =>
  xo_az H4 o7 x1 (0 : Int32) fun H8 =>
  xo_gp 9 33 H8 (some t) fun o9 =>
  xo_al 1 H8 o9 x1 fun v10 =>
  if v10 = 0 then (xo_gp 9 30 H8 (some t) fun o11 =>
  xo_as H8 o11 x1 (5 : Int32) fun H12 =>
  xo_gp 9 32 H12 (some t) fun o13 =>
  xo_al 0 H12 o13 x1 fun v14 =>
  xo_cl 9 (some t) (fun n16 => fc_M_happen n16 (5 : Int32) x1 v14 (0 : Int32) H12) fun H15 =>
  fb_M_breaks_118 t x1 H15)
  else (xo_gp 9 22 H8 (some t) fun o17 =>
  xo_al 0 H8 o17 x1 fun v18 =>
  xo_cl 9 (some t) (fun n20 => fc_M_happen n20 (14 : Int32) x1 v18 (0 : Int32) H8) fun H19 =>
  fb_M_breaks_118 t x1 H19)))

def fc_M_breaks (t : xo_N) (x1 : Int32) (H : xo_H) : Option (xo_H) :=
  xo_gp 9 21 H (some t) fun o1 =>
  xo_as H o1 x1 (2 : Int32) fun H2 =>
  fb_M_breaks_9 1000 t x1 (0 : Int32) H2

set_option maxRecDepth 100000 in
set_option maxHeartbeats 4000000 in
theorem kb_M_breaks_118 (t : xo_N) (x1 : Int32) (H : xo_H) (r : xo_H) : xo_X mt_M_breaks 0 0 xo_jv r 118 [(0, .inr (some t)), (1, .inl x1)] [] H (fb_M_breaks_118 t x1 H) := by
  unfold fb_M_breaks_118
  refine xo_aload_n (pc' := 119) dd_M_breaks_118 rfl 0 rfl rfl ?_
  refine xo_getP (pc' := 122) dd_M_breaks_119 ff_M_95 (by decide) rfl fun o1 => ?_
  refine xo_iload_n (pc' := 123) dd_M_breaks_122 rfl 1 rfl rfl ?_
  refine xo_iald (pc' := 124) dd_M_breaks_123 rfl fun v2 => ?_
  refine xo_iconst (pc' := 125) (v := (5 : Int32)) dd_M_breaks_124 (by decide) rfl ?_
  refine xo_icmp_eq (pc' := 128) (tgt := 158) dd_M_breaks_125 rfl rfl ?_ ?_
  · exact xo_vret dd_M_breaks_158 rfl
  · refine xo_aload_n (pc' := 129) dd_M_breaks_128 rfl 0 rfl rfl ?_
    refine xo_getP (pc' := 132) dd_M_breaks_129 ff_M_92 (by decide) rfl fun o3 => ?_
    refine xo_iload_n (pc' := 133) dd_M_breaks_132 rfl 1 rfl rfl ?_
    refine xo_zald (pc' := 134) dd_M_breaks_133 rfl fun v4 => ?_
    refine xo_if_eq (pc' := 137) (tgt := 158) dd_M_breaks_134 rfl rfl ?_ ?_
    · exact xo_vret dd_M_breaks_158 rfl
    · refine xo_aload_n (pc' := 138) dd_M_breaks_137 rfl 0 rfl rfl ?_
      refine xo_getP (pc' := 141) dd_M_breaks_138 ff_M_92 (by decide) rfl fun o5 => ?_
      refine xo_iload_n (pc' := 142) dd_M_breaks_141 rfl 1 rfl rfl ?_
      refine xo_iconst (pc' := 143) (v := (0 : Int32)) dd_M_breaks_142 (by decide) rfl ?_
      refine xo_zast (pc' := 144) dd_M_breaks_143 rfl fun H6 => ?_
      refine xo_aload_n (pc' := 145) dd_M_breaks_144 rfl 0 rfl rfl ?_
      refine xo_bipush (pc' := 147) (v := (12 : Int32)) dd_M_breaks_145 (by decide) rfl ?_
      refine xo_iload_n (pc' := 148) dd_M_breaks_147 rfl 1 rfl rfl ?_
      refine xo_aload_n (pc' := 149) dd_M_breaks_148 rfl 0 rfl rfl ?_
      refine xo_getP (pc' := 152) dd_M_breaks_149 ff_M_71 (by decide) rfl fun o7 => ?_
      refine xo_iload_n (pc' := 153) dd_M_breaks_152 rfl 1 rfl rfl ?_
      refine xo_iald (pc' := 154) dd_M_breaks_153 rfl fun v8 => ?_
      refine xo_iconst (pc' := 155) (v := (0 : Int32)) dd_M_breaks_154 (by decide) rfl ?_
      refine xo_callVv (as := [.inl (12 : Int32), .inl x1, .inl v8, .inl (0 : Int32)]) (o := (some t)) (st := []) (pc' := 158) dd_M_breaks_155 cv_M_happen ml_M_160 rfl rfl ⟨by decide, by decide⟩ rfl rfl rfl (Nat.le_of_ble_eq_true rfl) rfl (fun n q h => kc_M_happen n (12 : Int32) x1 v8 (0 : Int32) H6 q h) fun H9 => ?_
      exact xo_vret dd_M_breaks_158 rfl
set_option maxRecDepth 100000 in
set_option maxHeartbeats 4000000 in
theorem kb_M_breaks_9 : ∀ (fu : Nat) (t : xo_N) (x1 : Int32) (x2 : Int32) (H : xo_H) (r : xo_H), xo_X mt_M_breaks 0 0 xo_jv r 9 [(0, .inr (some t)), (1, .inl x1), (2, .inl x2)] [] H (fb_M_breaks_9 fu t x1 x2 H) := by
  intro fu
  induction fu with
  | zero => intros; exact xo_no
  | succ fu ih =>
    intro t x1 x2 H r
    rw [fb_M_breaks_9]
    refine xo_iload_n (pc' := 10) dd_M_breaks_9 rfl 2 rfl rfl ?_
    refine xo_aload_n (pc' := 11) dd_M_breaks_10 rfl 0 rfl rfl ?_
    refine xo_getP (pc' := 14) dd_M_breaks_11 ff_M_86 (by decide) rfl fun o1 => ?_
    refine xo_iload_n (pc' := 15) dd_M_breaks_14 rfl 1 rfl rfl ?_
    refine xo_iald (pc' := 16) dd_M_breaks_15 rfl fun v2 => ?_
    refine xo_icmp_ge (pc' := 19) (tgt := 49) dd_M_breaks_16 rfl rfl ?_ ?_
    · refine xo_aload_n (pc' := 50) dd_M_breaks_49 rfl 0 rfl rfl ?_
      refine xo_getP (pc' := 53) dd_M_breaks_50 ff_M_86 (by decide) rfl fun o3 => ?_
      refine xo_iload_n (pc' := 54) dd_M_breaks_53 rfl 1 rfl rfl ?_
      refine xo_iconst (pc' := 55) (v := (0 : Int32)) dd_M_breaks_54 (by decide) rfl ?_
      refine xo_iast (pc' := 56) dd_M_breaks_55 rfl fun H4 => ?_
      refine xo_aload_n (pc' := 57) dd_M_breaks_56 rfl 0 rfl rfl ?_
      refine xo_getP (pc' := 60) dd_M_breaks_57 ff_M_98 (by decide) rfl fun o5 => ?_
      refine xo_iload_n (pc' := 61) dd_M_breaks_60 rfl 1 rfl rfl ?_
      refine xo_zald (pc' := 62) dd_M_breaks_61 rfl fun v6 => ?_
      refine xo_if_eq (pc' := 65) (tgt := 118) dd_M_breaks_62 rfl rfl ?_ ?_
      · refine xo_sub [0, 1] rfl ?_
        exact kb_M_breaks_118 t x1 H4 r
      · refine xo_aload_n (pc' := 66) dd_M_breaks_65 rfl 0 rfl rfl ?_
        refine xo_getP (pc' := 69) dd_M_breaks_66 ff_M_98 (by decide) rfl fun o7 => ?_
        refine xo_iload_n (pc' := 70) dd_M_breaks_69 rfl 1 rfl rfl ?_
        refine xo_iconst (pc' := 71) (v := (0 : Int32)) dd_M_breaks_70 (by decide) rfl ?_
        refine xo_zast (pc' := 72) dd_M_breaks_71 rfl fun H8 => ?_
        refine xo_aload_n (pc' := 73) dd_M_breaks_72 rfl 0 rfl rfl ?_
        refine xo_getP (pc' := 76) dd_M_breaks_73 ff_M_104 (by decide) rfl fun o9 => ?_
        refine xo_iload_n (pc' := 77) dd_M_breaks_76 rfl 1 rfl rfl ?_
        refine xo_zald (pc' := 78) dd_M_breaks_77 rfl fun v10 => ?_
        refine xo_if_eq (pc' := 81) (tgt := 98) dd_M_breaks_78 rfl rfl ?_ ?_
        · refine xo_aload_n (pc' := 99) dd_M_breaks_98 rfl 0 rfl rfl ?_
          refine xo_getP (pc' := 102) dd_M_breaks_99 ff_M_95 (by decide) rfl fun o11 => ?_
          refine xo_iload_n (pc' := 103) dd_M_breaks_102 rfl 1 rfl rfl ?_
          refine xo_iconst (pc' := 104) (v := (5 : Int32)) dd_M_breaks_103 (by decide) rfl ?_
          refine xo_iast (pc' := 105) dd_M_breaks_104 rfl fun H12 => ?_
          refine xo_aload_n (pc' := 106) dd_M_breaks_105 rfl 0 rfl rfl ?_
          refine xo_iconst (pc' := 107) (v := (5 : Int32)) dd_M_breaks_106 (by decide) rfl ?_
          refine xo_iload_n (pc' := 108) dd_M_breaks_107 rfl 1 rfl rfl ?_
          refine xo_aload_n (pc' := 109) dd_M_breaks_108 rfl 0 rfl rfl ?_
          refine xo_getP (pc' := 112) dd_M_breaks_109 ff_M_101 (by decide) rfl fun o13 => ?_
          refine xo_iload_n (pc' := 113) dd_M_breaks_112 rfl 1 rfl rfl ?_
          refine xo_iald (pc' := 114) dd_M_breaks_113 rfl fun v14 => ?_
          refine xo_iconst (pc' := 115) (v := (0 : Int32)) dd_M_breaks_114 (by decide) rfl ?_
          refine xo_callVv (as := [.inl (5 : Int32), .inl x1, .inl v14, .inl (0 : Int32)]) (o := (some t)) (st := []) (pc' := 118) dd_M_breaks_115 cv_M_happen ml_M_160 rfl rfl ⟨by decide, by decide⟩ rfl rfl rfl (Nat.le_of_ble_eq_true rfl) rfl (fun n q h => kc_M_happen n (5 : Int32) x1 v14 (0 : Int32) H12 q h) fun H15 => ?_
          refine xo_sub [0, 1] rfl ?_
          exact kb_M_breaks_118 t x1 H15 r
        · refine xo_aload_n (pc' := 82) dd_M_breaks_81 rfl 0 rfl rfl ?_
          refine xo_bipush (pc' := 84) (v := (14 : Int32)) dd_M_breaks_82 (by decide) rfl ?_
          refine xo_iload_n (pc' := 85) dd_M_breaks_84 rfl 1 rfl rfl ?_
          refine xo_aload_n (pc' := 86) dd_M_breaks_85 rfl 0 rfl rfl ?_
          refine xo_getP (pc' := 89) dd_M_breaks_86 ff_M_71 (by decide) rfl fun o17 => ?_
          refine xo_iload_n (pc' := 90) dd_M_breaks_89 rfl 1 rfl rfl ?_
          refine xo_iald (pc' := 91) dd_M_breaks_90 rfl fun v18 => ?_
          refine xo_iconst (pc' := 92) (v := (0 : Int32)) dd_M_breaks_91 (by decide) rfl ?_
          refine xo_callVv (as := [.inl (14 : Int32), .inl x1, .inl v18, .inl (0 : Int32)]) (o := (some t)) (st := []) (pc' := 95) dd_M_breaks_92 cv_M_happen ml_M_160 rfl rfl ⟨by decide, by decide⟩ rfl rfl rfl (Nat.le_of_ble_eq_true rfl) rfl (fun n q h => kc_M_happen n (14 : Int32) x1 v18 (0 : Int32) H8 q h) fun H19 => ?_
          refine xo_goto (pc' := 118) dd_M_breaks_95 rfl ?_
          refine xo_sub [0, 1] rfl ?_
          exact kb_M_breaks_118 t x1 H19 r
    · refine xo_aload_n (pc' := 20) dd_M_breaks_19 rfl 0 rfl rfl ?_
      refine xo_bipush (pc' := 22) (v := (10 : Int32)) dd_M_breaks_20 (by decide) rfl ?_
      refine xo_iload_n (pc' := 23) dd_M_breaks_22 rfl 1 rfl rfl ?_
      refine xo_aload_n (pc' := 24) dd_M_breaks_23 rfl 0 rfl rfl ?_
      refine xo_getP (pc' := 27) dd_M_breaks_24 ff_M_83 (by decide) rfl fun o21 => ?_
      refine xo_bipush (pc' := 29) (v := (16 : Int32)) dd_M_breaks_27 (by decide) rfl ?_
      refine xo_iload_n (pc' := 30) dd_M_breaks_29 rfl 1 rfl rfl ?_
      refine xo_imul (pc' := 31) dd_M_breaks_30 rfl ?_
      refine xo_iload_n (pc' := 32) dd_M_breaks_31 rfl 2 rfl rfl ?_
      refine xo_iadd (pc' := 33) dd_M_breaks_32 rfl ?_
      refine xo_iald (pc' := 34) dd_M_breaks_33 rfl fun v22 => ?_
      refine xo_aload_n (pc' := 35) dd_M_breaks_34 rfl 0 rfl rfl ?_
      refine xo_getP (pc' := 38) dd_M_breaks_35 ff_M_71 (by decide) rfl fun o23 => ?_
      refine xo_iload_n (pc' := 39) dd_M_breaks_38 rfl 1 rfl rfl ?_
      refine xo_iald (pc' := 40) dd_M_breaks_39 rfl fun v24 => ?_
      refine xo_callVv (as := [.inl (10 : Int32), .inl x1, .inl v22, .inl v24]) (o := (some t)) (st := []) (pc' := 43) dd_M_breaks_40 cv_M_happen ml_M_160 rfl rfl ⟨by decide, by decide⟩ rfl rfl rfl (Nat.le_of_ble_eq_true rfl) rfl (fun n q h => kc_M_happen n (10 : Int32) x1 v22 v24 H q h) fun H25 => ?_
      refine xo_iinc (pc' := 46) dd_M_breaks_43 2 rfl (xo_ii (m := (1 : Int32)) (by decide)) (by decide) rfl rfl ?_
      refine xo_goto (pc' := 9) dd_M_breaks_46 rfl ?_
      refine xo_sub [1, 2, 0] rfl ?_
      exact ih t x1 (x2 + (1 : Int32)) H25 r
set_option maxRecDepth 100000 in
set_option maxHeartbeats 4000000 in
theorem kb_M_breaks (t : xo_N) (x1 : Int32) (H : xo_H) (r : xo_H) : xo_X mt_M_breaks 0 0 xo_jv r 0 [(0, .inr (some t)), (1, .inl x1)] [] H (fc_M_breaks t x1 H) := by
  unfold fc_M_breaks
  refine xo_aload_n (pc' := 1) dd_M_breaks_0 rfl 0 rfl rfl ?_
  refine xo_getP (pc' := 4) dd_M_breaks_1 ff_M_68 (by decide) rfl fun o1 => ?_
  refine xo_iload_n (pc' := 5) dd_M_breaks_4 rfl 1 rfl rfl ?_
  refine xo_iconst (pc' := 6) (v := (2 : Int32)) dd_M_breaks_5 (by decide) rfl ?_
  refine xo_iast (pc' := 7) dd_M_breaks_6 rfl fun H2 => ?_
  refine xo_iconst (pc' := 8) (v := (0 : Int32)) dd_M_breaks_7 (by decide) rfl ?_
  refine xo_istore_n (pc' := 9) dd_M_breaks_8 rfl (by decide) rfl rfl ?_
  refine xo_sub [1, 2, 0] rfl ?_
  exact kb_M_breaks_9 1000 t x1 (0 : Int32) H2 r
set_option maxRecDepth 100000 in
set_option maxHeartbeats 4000000 in
theorem kc_M_breaks (t : xo_N) (x1 : Int32) (H : xo_H) (r : xo_H) (hk : fc_M_breaks t x1 H = some r) : xo_M mt_M_breaks [.inr (some t), .inl x1] H (xo_jv r) :=
  xo_entry hk (by decide +kernel) (Nat.le_of_ble_eq_true rfl) (kb_M_breaks t x1 H r)
def fb_M_goesOn_72 (t : xo_N) (x1 : Int32) (H : xo_H) : Option (xo_H) :=
  xo_gp 9 21 H (some t) fun o1 =>
  xo_al 0 H o1 x1 fun v2 =>
  if v2 = 0 then (xo_gp 9 29 H (some t) fun o3 =>
  xo_al 1 H o3 x1 fun v4 =>
  if v4 = 0 then (some H)
  else (xo_gp 9 29 H (some t) fun o5 =>
  xo_az H o5 x1 (0 : Int32) fun H6 =>
  xo_gp 9 30 H6 (some t) fun o7 =>
  xo_as H6 o7 x1 (4 : Int32) fun H8 =>
  xo_cl 9 (some t) (fun n10 => fc_M_happen n10 (4 : Int32) x1 (0 : Int32) (0 : Int32) H8) fun H9 =>
  some H9))
  else (some H)

def fc_M_goesOn (t : xo_N) (x1 : Int32) (H : xo_H) : Option (xo_H) :=
  xo_gp 9 30 H (some t) fun o1 =>
  xo_al 0 H o1 x1 fun v2 =>
  if v2 = 0 then (xo_gp 9 21 H (some t) fun o3 =>
  xo_al 0 H o3 x1 fun v4 =>
  if v4 = (1 : Int32) then (xo_cl 9 (some t) (fun n16 => fc_M_breaks n16 x1 H) fun H15 =>
  some H15)
  else (xo_gp 9 21 H (some t) fun o5 =>
  xo_al 0 H o5 x1 fun v6 =>
  if v6 = 0 then (xo_gp 9 27 H (some t) fun o7 =>
  xo_al 0 H o7 x1 fun v8 =>
  if 0 < v8 then (xo_gp 9 30 H (some t) fun o9 =>
  xo_as H o9 x1 (3 : Int32) fun H10 =>
  xo_gp 9 25 H10 (some t) fun o11 =>
  xo_al 0 H10 o11 ((16 : Int32) * x1) fun v12 =>
  xo_cl 9 (some t) (fun n14 => fc_M_happen n14 (3 : Int32) x1 v12 (0 : Int32) H10) fun H13 =>
  some H13)
  else (fb_M_goesOn_72 t x1 H))
  else (fb_M_goesOn_72 t x1 H)))
  else (some H)

set_option maxRecDepth 100000 in
set_option maxHeartbeats 4000000 in
theorem kb_M_goesOn_72 (t : xo_N) (x1 : Int32) (H : xo_H) (r : xo_H) : xo_X mt_M_goesOn 0 0 xo_jv r 72 [(0, .inr (some t)), (1, .inl x1)] [] H (fb_M_goesOn_72 t x1 H) := by
  unfold fb_M_goesOn_72
  refine xo_aload_n (pc' := 73) dd_M_goesOn_72 rfl 0 rfl rfl ?_
  refine xo_getP (pc' := 76) dd_M_goesOn_73 ff_M_68 (by decide) rfl fun o1 => ?_
  refine xo_iload_n (pc' := 77) dd_M_goesOn_76 rfl 1 rfl rfl ?_
  refine xo_iald (pc' := 78) dd_M_goesOn_77 rfl fun v2 => ?_
  refine xo_if_ne (pc' := 81) (tgt := 112) dd_M_goesOn_78 rfl rfl ?_ ?_
  · exact xo_vret dd_M_goesOn_112 rfl
  · refine xo_aload_n (pc' := 82) dd_M_goesOn_81 rfl 0 rfl rfl ?_
    refine xo_getP (pc' := 85) dd_M_goesOn_82 ff_M_92 (by decide) rfl fun o3 => ?_
    refine xo_iload_n (pc' := 86) dd_M_goesOn_85 rfl 1 rfl rfl ?_
    refine xo_zald (pc' := 87) dd_M_goesOn_86 rfl fun v4 => ?_
    refine xo_if_eq (pc' := 90) (tgt := 112) dd_M_goesOn_87 rfl rfl ?_ ?_
    · exact xo_vret dd_M_goesOn_112 rfl
    · refine xo_aload_n (pc' := 91) dd_M_goesOn_90 rfl 0 rfl rfl ?_
      refine xo_getP (pc' := 94) dd_M_goesOn_91 ff_M_92 (by decide) rfl fun o5 => ?_
      refine xo_iload_n (pc' := 95) dd_M_goesOn_94 rfl 1 rfl rfl ?_
      refine xo_iconst (pc' := 96) (v := (0 : Int32)) dd_M_goesOn_95 (by decide) rfl ?_
      refine xo_zast (pc' := 97) dd_M_goesOn_96 rfl fun H6 => ?_
      refine xo_aload_n (pc' := 98) dd_M_goesOn_97 rfl 0 rfl rfl ?_
      refine xo_getP (pc' := 101) dd_M_goesOn_98 ff_M_95 (by decide) rfl fun o7 => ?_
      refine xo_iload_n (pc' := 102) dd_M_goesOn_101 rfl 1 rfl rfl ?_
      refine xo_iconst (pc' := 103) (v := (4 : Int32)) dd_M_goesOn_102 (by decide) rfl ?_
      refine xo_iast (pc' := 104) dd_M_goesOn_103 rfl fun H8 => ?_
      refine xo_aload_n (pc' := 105) dd_M_goesOn_104 rfl 0 rfl rfl ?_
      refine xo_iconst (pc' := 106) (v := (4 : Int32)) dd_M_goesOn_105 (by decide) rfl ?_
      refine xo_iload_n (pc' := 107) dd_M_goesOn_106 rfl 1 rfl rfl ?_
      refine xo_iconst (pc' := 108) (v := (0 : Int32)) dd_M_goesOn_107 (by decide) rfl ?_
      refine xo_iconst (pc' := 109) (v := (0 : Int32)) dd_M_goesOn_108 (by decide) rfl ?_
      refine xo_callVv (as := [.inl (4 : Int32), .inl x1, .inl (0 : Int32), .inl (0 : Int32)]) (o := (some t)) (st := []) (pc' := 112) dd_M_goesOn_109 cv_M_happen ml_M_160 rfl rfl ⟨by decide, by decide⟩ rfl rfl rfl (Nat.le_of_ble_eq_true rfl) rfl (fun n q h => kc_M_happen n (4 : Int32) x1 (0 : Int32) (0 : Int32) H8 q h) fun H9 => ?_
      exact xo_vret dd_M_goesOn_112 rfl
set_option maxRecDepth 100000 in
set_option maxHeartbeats 4000000 in
theorem kb_M_goesOn (t : xo_N) (x1 : Int32) (H : xo_H) (r : xo_H) : xo_X mt_M_goesOn 0 0 xo_jv r 0 [(0, .inr (some t)), (1, .inl x1)] [] H (fc_M_goesOn t x1 H) := by
  unfold fc_M_goesOn
  refine xo_aload_n (pc' := 1) dd_M_goesOn_0 rfl 0 rfl rfl ?_
  refine xo_getP (pc' := 4) dd_M_goesOn_1 ff_M_95 (by decide) rfl fun o1 => ?_
  refine xo_iload_n (pc' := 5) dd_M_goesOn_4 rfl 1 rfl rfl ?_
  refine xo_iald (pc' := 6) dd_M_goesOn_5 rfl fun v2 => ?_
  refine xo_if_eq (pc' := 9) (tgt := 10) dd_M_goesOn_6 rfl rfl ?_ ?_
  · refine xo_aload_n (pc' := 11) dd_M_goesOn_10 rfl 0 rfl rfl ?_
    refine xo_getP (pc' := 14) dd_M_goesOn_11 ff_M_68 (by decide) rfl fun o3 => ?_
    refine xo_iload_n (pc' := 15) dd_M_goesOn_14 rfl 1 rfl rfl ?_
    refine xo_iald (pc' := 16) dd_M_goesOn_15 rfl fun v4 => ?_
    refine xo_iconst (pc' := 17) (v := (1 : Int32)) dd_M_goesOn_16 (by decide) rfl ?_
    refine xo_icmp_ne (pc' := 20) (tgt := 28) dd_M_goesOn_17 rfl rfl ?_ ?_
    · refine xo_aload_n (pc' := 29) dd_M_goesOn_28 rfl 0 rfl rfl ?_
      refine xo_getP (pc' := 32) dd_M_goesOn_29 ff_M_68 (by decide) rfl fun o5 => ?_
      refine xo_iload_n (pc' := 33) dd_M_goesOn_32 rfl 1 rfl rfl ?_
      refine xo_iald (pc' := 34) dd_M_goesOn_33 rfl fun v6 => ?_
      refine xo_if_ne (pc' := 37) (tgt := 72) dd_M_goesOn_34 rfl rfl ?_ ?_
      · exact kb_M_goesOn_72 t x1 H r
      · refine xo_aload_n (pc' := 38) dd_M_goesOn_37 rfl 0 rfl rfl ?_
        refine xo_getP (pc' := 41) dd_M_goesOn_38 ff_M_86 (by decide) rfl fun o7 => ?_
        refine xo_iload_n (pc' := 42) dd_M_goesOn_41 rfl 1 rfl rfl ?_
        refine xo_iald (pc' := 43) dd_M_goesOn_42 rfl fun v8 => ?_
        refine xo_if_le (pc' := 46) (tgt := 72) dd_M_goesOn_43 rfl rfl ?_ ?_
        · exact kb_M_goesOn_72 t x1 H r
        · refine xo_aload_n (pc' := 47) dd_M_goesOn_46 rfl 0 rfl rfl ?_
          refine xo_getP (pc' := 50) dd_M_goesOn_47 ff_M_95 (by decide) rfl fun o9 => ?_
          refine xo_iload_n (pc' := 51) dd_M_goesOn_50 rfl 1 rfl rfl ?_
          refine xo_iconst (pc' := 52) (v := (3 : Int32)) dd_M_goesOn_51 (by decide) rfl ?_
          refine xo_iast (pc' := 53) dd_M_goesOn_52 rfl fun H10 => ?_
          refine xo_aload_n (pc' := 54) dd_M_goesOn_53 rfl 0 rfl rfl ?_
          refine xo_iconst (pc' := 55) (v := (3 : Int32)) dd_M_goesOn_54 (by decide) rfl ?_
          refine xo_iload_n (pc' := 56) dd_M_goesOn_55 rfl 1 rfl rfl ?_
          refine xo_aload_n (pc' := 57) dd_M_goesOn_56 rfl 0 rfl rfl ?_
          refine xo_getP (pc' := 60) dd_M_goesOn_57 ff_M_80 (by decide) rfl fun o11 => ?_
          refine xo_bipush (pc' := 62) (v := (16 : Int32)) dd_M_goesOn_60 (by decide) rfl ?_
          refine xo_iload_n (pc' := 63) dd_M_goesOn_62 rfl 1 rfl rfl ?_
          refine xo_imul (pc' := 64) dd_M_goesOn_63 rfl ?_
          refine xo_iald (pc' := 65) dd_M_goesOn_64 rfl fun v12 => ?_
          refine xo_iconst (pc' := 66) (v := (0 : Int32)) dd_M_goesOn_65 (by decide) rfl ?_
          refine xo_callVv (as := [.inl (3 : Int32), .inl x1, .inl v12, .inl (0 : Int32)]) (o := (some t)) (st := []) (pc' := 69) dd_M_goesOn_66 cv_M_happen ml_M_160 rfl rfl ⟨by decide, by decide⟩ rfl rfl rfl (Nat.le_of_ble_eq_true rfl) rfl (fun n q h => kc_M_happen n (3 : Int32) x1 v12 (0 : Int32) H10 q h) fun H13 => ?_
          refine xo_goto (pc' := 112) dd_M_goesOn_69 rfl ?_
          exact xo_vret dd_M_goesOn_112 rfl
    · refine xo_aload_n (pc' := 21) dd_M_goesOn_20 rfl 0 rfl rfl ?_
      refine xo_iload_n (pc' := 22) dd_M_goesOn_21 rfl 1 rfl rfl ?_
      refine xo_callVv (as := [.inl x1]) (o := (some t)) (st := []) (pc' := 25) dd_M_goesOn_22 cv_M_breaks ml_M_164 rfl rfl ⟨by decide, by decide⟩ rfl rfl rfl (Nat.le_of_ble_eq_true rfl) rfl (fun n q h => kc_M_breaks n x1 H q h) fun H15 => ?_
      refine xo_goto (pc' := 112) dd_M_goesOn_25 rfl ?_
      exact xo_vret dd_M_goesOn_112 rfl
  · exact xo_vret dd_M_goesOn_9 rfl
set_option maxRecDepth 100000 in
set_option maxHeartbeats 4000000 in
theorem kc_M_goesOn (t : xo_N) (x1 : Int32) (H : xo_H) (r : xo_H) (hk : fc_M_goesOn t x1 H = some r) : xo_M mt_M_goesOn [.inr (some t), .inl x1] H (xo_jv r) :=
  xo_entry hk (by decide +kernel) (Nat.le_of_ble_eq_true rfl) (kb_M_goesOn t x1 H r)
def fc_M_startFailing (t : xo_N) (x1 : Int32) (x2 : Int32) (H : xo_H) : Option (xo_H) :=
  xo_gp 9 21 H (some t) fun o1 =>
  xo_as H o1 x1 (1 : Int32) fun H2 =>
  xo_gp 9 22 H2 (some t) fun o3 =>
  xo_as H2 o3 x1 x2 fun H4 =>
  xo_gp 9 30 H4 (some t) fun o5 =>
  xo_al 0 H4 o5 x1 fun v6 =>
  if v6 = (3 : Int32) then (some H4)
  else (xo_gp 9 30 H4 (some t) fun o7 =>
  xo_al 0 H4 o7 x1 fun v8 =>
  if v8 = (4 : Int32) then (some H4)
  else (xo_cl 9 (some t) (fun n10 => fc_M_breaks n10 x1 H4) fun H9 =>
  some H9))

set_option maxRecDepth 100000 in
set_option maxHeartbeats 4000000 in
theorem kb_M_startFailing (t : xo_N) (x1 : Int32) (x2 : Int32) (H : xo_H) (r : xo_H) : xo_X mt_M_startFailing 0 0 xo_jv r 0 [(0, .inr (some t)), (1, .inl x1), (2, .inl x2)] [] H (fc_M_startFailing t x1 x2 H) := by
  unfold fc_M_startFailing
  refine xo_aload_n (pc' := 1) dd_M_startFailing_0 rfl 0 rfl rfl ?_
  refine xo_getP (pc' := 4) dd_M_startFailing_1 ff_M_68 (by decide) rfl fun o1 => ?_
  refine xo_iload_n (pc' := 5) dd_M_startFailing_4 rfl 1 rfl rfl ?_
  refine xo_iconst (pc' := 6) (v := (1 : Int32)) dd_M_startFailing_5 (by decide) rfl ?_
  refine xo_iast (pc' := 7) dd_M_startFailing_6 rfl fun H2 => ?_
  refine xo_aload_n (pc' := 8) dd_M_startFailing_7 rfl 0 rfl rfl ?_
  refine xo_getP (pc' := 11) dd_M_startFailing_8 ff_M_71 (by decide) rfl fun o3 => ?_
  refine xo_iload_n (pc' := 12) dd_M_startFailing_11 rfl 1 rfl rfl ?_
  refine xo_iload_n (pc' := 13) dd_M_startFailing_12 rfl 2 rfl rfl ?_
  refine xo_iast (pc' := 14) dd_M_startFailing_13 rfl fun H4 => ?_
  refine xo_aload_n (pc' := 15) dd_M_startFailing_14 rfl 0 rfl rfl ?_
  refine xo_getP (pc' := 18) dd_M_startFailing_15 ff_M_95 (by decide) rfl fun o5 => ?_
  refine xo_iload_n (pc' := 19) dd_M_startFailing_18 rfl 1 rfl rfl ?_
  refine xo_iald (pc' := 20) dd_M_startFailing_19 rfl fun v6 => ?_
  refine xo_iconst (pc' := 21) (v := (3 : Int32)) dd_M_startFailing_20 (by decide) rfl ?_
  refine xo_icmp_eq (pc' := 24) (tgt := 39) dd_M_startFailing_21 rfl rfl ?_ ?_
  · exact xo_vret dd_M_startFailing_39 rfl
  · refine xo_aload_n (pc' := 25) dd_M_startFailing_24 rfl 0 rfl rfl ?_
    refine xo_getP (pc' := 28) dd_M_startFailing_25 ff_M_95 (by decide) rfl fun o7 => ?_
    refine xo_iload_n (pc' := 29) dd_M_startFailing_28 rfl 1 rfl rfl ?_
    refine xo_iald (pc' := 30) dd_M_startFailing_29 rfl fun v8 => ?_
    refine xo_iconst (pc' := 31) (v := (4 : Int32)) dd_M_startFailing_30 (by decide) rfl ?_
    refine xo_icmp_eq (pc' := 34) (tgt := 39) dd_M_startFailing_31 rfl rfl ?_ ?_
    · exact xo_vret dd_M_startFailing_39 rfl
    · refine xo_aload_n (pc' := 35) dd_M_startFailing_34 rfl 0 rfl rfl ?_
      refine xo_iload_n (pc' := 36) dd_M_startFailing_35 rfl 1 rfl rfl ?_
      refine xo_callVv (as := [.inl x1]) (o := (some t)) (st := []) (pc' := 39) dd_M_startFailing_36 cv_M_breaks ml_M_164 rfl rfl ⟨by decide, by decide⟩ rfl rfl rfl (Nat.le_of_ble_eq_true rfl) rfl (fun n q h => kc_M_breaks n x1 H4 q h) fun H9 => ?_
      exact xo_vret dd_M_startFailing_39 rfl
set_option maxRecDepth 100000 in
set_option maxHeartbeats 4000000 in
theorem kc_M_startFailing (t : xo_N) (x1 : Int32) (x2 : Int32) (H : xo_H) (r : xo_H) (hk : fc_M_startFailing t x1 x2 H = some r) : xo_M mt_M_startFailing [.inr (some t), .inl x1, .inl x2] H (xo_jv r) :=
  xo_entry hk (by decide +kernel) (Nat.le_of_ble_eq_true rfl) (kb_M_startFailing t x1 x2 H r)
def fb_M_writeTo_83 (t : xo_N) (x1 : Int32) (x3 : Int32) (H : xo_H) : Option (Int32 × xo_H) :=
  xo_cl 9 (some t) (fun n2 => fc_M_happen n2 (10 : Int32) x1 x3 (100 : Int32) H) fun H1 =>
  some (x3, H1)

def fb_M_writeTo_37 (t : xo_N) (x1 : Int32) (x3 : Int32) (H : xo_H) : Option (Int32 × xo_H) :=
  xo_gp 9 22 H (some t) fun o1 =>
  xo_al 0 H o1 x1 fun v2 =>
  xo_cl 9 (some t) (fun n4 => fc_M_happen n4 (10 : Int32) x1 x3 v2 H) fun H3 =>
  some (x3, H3)

def fc_M_writeTo (t : xo_N) (x1 : Int32) (x2 : Int32) (H : xo_H) : Option (Int32 × xo_H) :=
  xo_gp 9 28 H (some t) fun o1 =>
  xo_al 0 H o1 x1 fun v2 =>
  xo_as H o1 x1 (v2 + (1 : Int32)) fun H3 =>
  xo_gp 9 28 H3 (some t) fun o4 =>
  xo_al 0 H3 o4 x1 fun v5 =>
  xo_gp 9 21 H3 (some t) fun o6 =>
  xo_al 0 H3 o6 x1 fun v7 =>
  if v7 = (1 : Int32) then (fb_M_writeTo_37 t x1 v5 H3)
  else (xo_gp 9 21 H3 (some t) fun o8 =>
  xo_al 0 H3 o8 x1 fun v9 =>
  if v9 = (2 : Int32) then (fb_M_writeTo_37 t x1 v5 H3)
  else (xo_gp 9 29 H3 (some t) fun o10 =>
  xo_al 1 H3 o10 x1 fun v11 =>
  if v11 = 0 then (xo_gp 9 30 H3 (some t) fun o12 =>
  xo_al 0 H3 o12 x1 fun v13 =>
  if v13 = (4 : Int32) then (fb_M_writeTo_83 t x1 v5 H3)
  else (xo_gp 9 21 H3 (some t) fun o14 =>
  xo_al 0 H3 o14 x1 fun v15 =>
  if v15 = (3 : Int32) then (fb_M_writeTo_83 t x1 v5 H3)
  else (xo_gp 9 25 H3 (some t) fun o16 =>
  xo_gp 9 27 H3 (some t) fun o17 =>
  xo_al 0 H3 o17 x1 fun v18 =>
  xo_as H3 o16 (((16 : Int32) * x1) + v18) x2 fun H19 =>
  xo_gp 9 26 H19 (some t) fun o20 =>
  xo_gp 9 27 H19 (some t) fun o21 =>
  xo_al 0 H19 o21 x1 fun v22 =>
  xo_as H19 o20 (((16 : Int32) * x1) + v22) v5 fun H23 =>
  xo_gp 9 27 H23 (some t) fun o24 =>
  xo_al 0 H23 o24 x1 fun v25 =>
  xo_as H23 o24 x1 (v25 + (1 : Int32)) fun H26 =>
  xo_cl 9 (some t) (fun n28 => fc_M_goesOn n28 x1 H26) fun H27 =>
  some (v5, H27))))
  else (fb_M_writeTo_83 t x1 v5 H3)))

set_option maxRecDepth 100000 in
set_option maxHeartbeats 4000000 in
theorem kb_M_writeTo_83 (t : xo_N) (x1 : Int32) (x3 : Int32) (H : xo_H) (r : Int32 × xo_H) : xo_X mt_M_writeTo 0 0 xo_ji r 83 [(0, .inr (some t)), (1, .inl x1), (3, .inl x3)] [] H (fb_M_writeTo_83 t x1 x3 H) := by
  unfold fb_M_writeTo_83
  refine xo_aload_n (pc' := 84) dd_M_writeTo_83 rfl 0 rfl rfl ?_
  refine xo_bipush (pc' := 86) (v := (10 : Int32)) dd_M_writeTo_84 (by decide) rfl ?_
  refine xo_iload_n (pc' := 87) dd_M_writeTo_86 rfl 1 rfl rfl ?_
  refine xo_iload_n (pc' := 88) dd_M_writeTo_87 rfl 2 rfl rfl ?_
  refine xo_bipush (pc' := 90) (v := (100 : Int32)) dd_M_writeTo_88 (by decide) rfl ?_
  refine xo_callVv (as := [.inl (10 : Int32), .inl x1, .inl x3, .inl (100 : Int32)]) (o := (some t)) (st := []) (pc' := 93) dd_M_writeTo_90 cv_M_happen ml_M_160 rfl rfl ⟨by decide, by decide⟩ rfl rfl rfl (Nat.le_of_ble_eq_true rfl) rfl (fun n q h => kc_M_happen n (10 : Int32) x1 x3 (100 : Int32) H q h) fun H1 => ?_
  refine xo_goto (pc' := 145) dd_M_writeTo_93 rfl ?_
  refine xo_iload_n (pc' := 146) dd_M_writeTo_145 rfl 2 rfl rfl ?_
  exact xo_iret dd_M_writeTo_146 rfl
set_option maxRecDepth 100000 in
set_option maxHeartbeats 4000000 in
theorem kb_M_writeTo_37 (t : xo_N) (x1 : Int32) (x3 : Int32) (H : xo_H) (r : Int32 × xo_H) : xo_X mt_M_writeTo 0 0 xo_ji r 37 [(0, .inr (some t)), (1, .inl x1), (3, .inl x3)] [] H (fb_M_writeTo_37 t x1 x3 H) := by
  unfold fb_M_writeTo_37
  refine xo_aload_n (pc' := 38) dd_M_writeTo_37 rfl 0 rfl rfl ?_
  refine xo_bipush (pc' := 40) (v := (10 : Int32)) dd_M_writeTo_38 (by decide) rfl ?_
  refine xo_iload_n (pc' := 41) dd_M_writeTo_40 rfl 1 rfl rfl ?_
  refine xo_iload_n (pc' := 42) dd_M_writeTo_41 rfl 2 rfl rfl ?_
  refine xo_aload_n (pc' := 43) dd_M_writeTo_42 rfl 0 rfl rfl ?_
  refine xo_getP (pc' := 46) dd_M_writeTo_43 ff_M_71 (by decide) rfl fun o1 => ?_
  refine xo_iload_n (pc' := 47) dd_M_writeTo_46 rfl 1 rfl rfl ?_
  refine xo_iald (pc' := 48) dd_M_writeTo_47 rfl fun v2 => ?_
  refine xo_callVv (as := [.inl (10 : Int32), .inl x1, .inl x3, .inl v2]) (o := (some t)) (st := []) (pc' := 51) dd_M_writeTo_48 cv_M_happen ml_M_160 rfl rfl ⟨by decide, by decide⟩ rfl rfl rfl (Nat.le_of_ble_eq_true rfl) rfl (fun n q h => kc_M_happen n (10 : Int32) x1 x3 v2 H q h) fun H3 => ?_
  refine xo_goto (pc' := 145) dd_M_writeTo_51 rfl ?_
  refine xo_iload_n (pc' := 146) dd_M_writeTo_145 rfl 2 rfl rfl ?_
  exact xo_iret dd_M_writeTo_146 rfl
set_option maxRecDepth 100000 in
set_option maxHeartbeats 4000000 in
theorem kb_M_writeTo (t : xo_N) (x1 : Int32) (x2 : Int32) (H : xo_H) (r : Int32 × xo_H) : xo_X mt_M_writeTo 0 0 xo_ji r 0 [(0, .inr (some t)), (1, .inl x1), (2, .inl x2)] [] H (fc_M_writeTo t x1 x2 H) := by
  unfold fc_M_writeTo
  refine xo_aload_n (pc' := 1) dd_M_writeTo_0 rfl 0 rfl rfl ?_
  refine xo_getP (pc' := 4) dd_M_writeTo_1 ff_M_89 (by decide) rfl fun o1 => ?_
  refine xo_iload_n (pc' := 5) dd_M_writeTo_4 rfl 1 rfl rfl ?_
  refine xo_dup2 (pc' := 6) dd_M_writeTo_5 rfl ?_
  refine xo_iald (pc' := 7) dd_M_writeTo_6 rfl fun v2 => ?_
  refine xo_iconst (pc' := 8) (v := (1 : Int32)) dd_M_writeTo_7 (by decide) rfl ?_
  refine xo_iadd (pc' := 9) dd_M_writeTo_8 rfl ?_
  refine xo_iast (pc' := 10) dd_M_writeTo_9 rfl fun H3 => ?_
  refine xo_aload_n (pc' := 11) dd_M_writeTo_10 rfl 0 rfl rfl ?_
  refine xo_getP (pc' := 14) dd_M_writeTo_11 ff_M_89 (by decide) rfl fun o4 => ?_
  refine xo_iload_n (pc' := 15) dd_M_writeTo_14 rfl 1 rfl rfl ?_
  refine xo_iald (pc' := 16) dd_M_writeTo_15 rfl fun v5 => ?_
  refine xo_istore_n (pc' := 17) dd_M_writeTo_16 rfl (by decide) rfl rfl ?_
  refine xo_aload_n (pc' := 18) dd_M_writeTo_17 rfl 1 rfl rfl ?_
  refine xo_getP (pc' := 21) dd_M_writeTo_18 ff_M_68 (by decide) rfl fun o6 => ?_
  refine xo_iload_n (pc' := 22) dd_M_writeTo_21 rfl 2 rfl rfl ?_
  refine xo_iald (pc' := 23) dd_M_writeTo_22 rfl fun v7 => ?_
  refine xo_iconst (pc' := 24) (v := (1 : Int32)) dd_M_writeTo_23 (by decide) rfl ?_
  refine xo_icmp_eq (pc' := 27) (tgt := 37) dd_M_writeTo_24 rfl rfl ?_ ?_
  · refine xo_sub [1, 2, 0] rfl ?_
    exact kb_M_writeTo_37 t x1 v5 H3 r
  · refine xo_aload_n (pc' := 28) dd_M_writeTo_27 rfl 1 rfl rfl ?_
    refine xo_getP (pc' := 31) dd_M_writeTo_28 ff_M_68 (by decide) rfl fun o8 => ?_
    refine xo_iload_n (pc' := 32) dd_M_writeTo_31 rfl 2 rfl rfl ?_
    refine xo_iald (pc' := 33) dd_M_writeTo_32 rfl fun v9 => ?_
    refine xo_iconst (pc' := 34) (v := (2 : Int32)) dd_M_writeTo_33 (by decide) rfl ?_
    refine xo_icmp_ne (pc' := 37) (tgt := 54) dd_M_writeTo_34 rfl rfl ?_ ?_
    · refine xo_aload_n (pc' := 55) dd_M_writeTo_54 rfl 1 rfl rfl ?_
      refine xo_getP (pc' := 58) dd_M_writeTo_55 ff_M_92 (by decide) rfl fun o10 => ?_
      refine xo_iload_n (pc' := 59) dd_M_writeTo_58 rfl 2 rfl rfl ?_
      refine xo_zald (pc' := 60) dd_M_writeTo_59 rfl fun v11 => ?_
      refine xo_if_ne (pc' := 63) (tgt := 83) dd_M_writeTo_60 rfl rfl ?_ ?_
      · refine xo_sub [1, 2, 0] rfl ?_
        exact kb_M_writeTo_83 t x1 v5 H3 r
      · refine xo_aload_n (pc' := 64) dd_M_writeTo_63 rfl 1 rfl rfl ?_
        refine xo_getP (pc' := 67) dd_M_writeTo_64 ff_M_95 (by decide) rfl fun o12 => ?_
        refine xo_iload_n (pc' := 68) dd_M_writeTo_67 rfl 2 rfl rfl ?_
        refine xo_iald (pc' := 69) dd_M_writeTo_68 rfl fun v13 => ?_
        refine xo_iconst (pc' := 70) (v := (4 : Int32)) dd_M_writeTo_69 (by decide) rfl ?_
        refine xo_icmp_eq (pc' := 73) (tgt := 83) dd_M_writeTo_70 rfl rfl ?_ ?_
        · refine xo_sub [1, 2, 0] rfl ?_
          exact kb_M_writeTo_83 t x1 v5 H3 r
        · refine xo_aload_n (pc' := 74) dd_M_writeTo_73 rfl 1 rfl rfl ?_
          refine xo_getP (pc' := 77) dd_M_writeTo_74 ff_M_68 (by decide) rfl fun o14 => ?_
          refine xo_iload_n (pc' := 78) dd_M_writeTo_77 rfl 2 rfl rfl ?_
          refine xo_iald (pc' := 79) dd_M_writeTo_78 rfl fun v15 => ?_
          refine xo_iconst (pc' := 80) (v := (3 : Int32)) dd_M_writeTo_79 (by decide) rfl ?_
          refine xo_icmp_ne (pc' := 83) (tgt := 96) dd_M_writeTo_80 rfl rfl ?_ ?_
          · refine xo_aload_n (pc' := 97) dd_M_writeTo_96 rfl 1 rfl rfl ?_
            refine xo_getP (pc' := 100) dd_M_writeTo_97 ff_M_80 (by decide) rfl fun o16 => ?_
            refine xo_bipush (pc' := 102) (v := (16 : Int32)) dd_M_writeTo_100 (by decide) rfl ?_
            refine xo_iload_n (pc' := 103) dd_M_writeTo_102 rfl 2 rfl rfl ?_
            refine xo_imul (pc' := 104) dd_M_writeTo_103 rfl ?_
            refine xo_aload_n (pc' := 105) dd_M_writeTo_104 rfl 1 rfl rfl ?_
            refine xo_getP (pc' := 108) dd_M_writeTo_105 ff_M_86 (by decide) rfl fun o17 => ?_
            refine xo_iload_n (pc' := 109) dd_M_writeTo_108 rfl 2 rfl rfl ?_
            refine xo_iald (pc' := 110) dd_M_writeTo_109 rfl fun v18 => ?_
            refine xo_iadd (pc' := 111) dd_M_writeTo_110 rfl ?_
            refine xo_iload_n (pc' := 112) dd_M_writeTo_111 rfl 3 rfl rfl ?_
            refine xo_iast (pc' := 113) dd_M_writeTo_112 rfl fun H19 => ?_
            refine xo_aload_n (pc' := 114) dd_M_writeTo_113 rfl 1 rfl rfl ?_
            refine xo_getP (pc' := 117) dd_M_writeTo_114 ff_M_83 (by decide) rfl fun o20 => ?_
            refine xo_bipush (pc' := 119) (v := (16 : Int32)) dd_M_writeTo_117 (by decide) rfl ?_
            refine xo_iload_n (pc' := 120) dd_M_writeTo_119 rfl 2 rfl rfl ?_
            refine xo_imul (pc' := 121) dd_M_writeTo_120 rfl ?_
            refine xo_aload_n (pc' := 122) dd_M_writeTo_121 rfl 1 rfl rfl ?_
            refine xo_getP (pc' := 125) dd_M_writeTo_122 ff_M_86 (by decide) rfl fun o21 => ?_
            refine xo_iload_n (pc' := 126) dd_M_writeTo_125 rfl 2 rfl rfl ?_
            refine xo_iald (pc' := 127) dd_M_writeTo_126 rfl fun v22 => ?_
            refine xo_iadd (pc' := 128) dd_M_writeTo_127 rfl ?_
            refine xo_iload_n (pc' := 129) dd_M_writeTo_128 rfl 0 rfl rfl ?_
            refine xo_iast (pc' := 130) dd_M_writeTo_129 rfl fun H23 => ?_
            refine xo_aload_n (pc' := 131) dd_M_writeTo_130 rfl 1 rfl rfl ?_
            refine xo_getP (pc' := 134) dd_M_writeTo_131 ff_M_86 (by decide) rfl fun o24 => ?_
            refine xo_iload_n (pc' := 135) dd_M_writeTo_134 rfl 2 rfl rfl ?_
            refine xo_dup2 (pc' := 136) dd_M_writeTo_135 rfl ?_
            refine xo_iald (pc' := 137) dd_M_writeTo_136 rfl fun v25 => ?_
            refine xo_iconst (pc' := 138) (v := (1 : Int32)) dd_M_writeTo_137 (by decide) rfl ?_
            refine xo_iadd (pc' := 139) dd_M_writeTo_138 rfl ?_
            refine xo_iast (pc' := 140) dd_M_writeTo_139 rfl fun H26 => ?_
            refine xo_aload_n (pc' := 141) dd_M_writeTo_140 rfl 1 rfl rfl ?_
            refine xo_iload_n (pc' := 142) dd_M_writeTo_141 rfl 2 rfl rfl ?_
            refine xo_callVv (as := [.inl x1]) (o := (some t)) (st := []) (pc' := 145) dd_M_writeTo_142 cv_M_goesOn ml_M_168 rfl rfl ⟨by decide, by decide⟩ rfl rfl rfl (Nat.le_of_ble_eq_true rfl) rfl (fun n q h => kc_M_goesOn n x1 H26 q h) fun H27 => ?_
            refine xo_iload_n (pc' := 146) dd_M_writeTo_145 rfl 0 rfl rfl ?_
            exact xo_iret dd_M_writeTo_146 rfl
          · refine xo_sub [1, 2, 0] rfl ?_
            exact kb_M_writeTo_83 t x1 v5 H3 r
    · refine xo_sub [1, 2, 0] rfl ?_
      exact kb_M_writeTo_37 t x1 v5 H3 r
set_option maxRecDepth 100000 in
set_option maxHeartbeats 4000000 in
theorem kc_M_writeTo (t : xo_N) (x1 : Int32) (x2 : Int32) (H : xo_H) (r : Int32 × xo_H) (hk : fc_M_writeTo t x1 x2 H = some r) : xo_M mt_M_writeTo [.inr (some t), .inl x1, .inl x2] H (xo_ji r) :=
  xo_entry hk (by decide +kernel) (Nat.le_of_ble_eq_true rfl) (kb_M_writeTo t x1 x2 H r)
def fc_M_failsOrBreaks (t : xo_N) (x1 : Int32) (x2 : Int32) (H : xo_H) : Option (xo_H) :=
  xo_gp 9 21 H (some t) fun o1 =>
  xo_al 0 H o1 x1 fun v2 =>
  if v2 = 0 then (xo_cl 9 (some t) (fun n6 => fc_M_startFailing n6 x1 x2 H) fun H5 =>
  some H5)
  else (xo_cl 9 (some t) (fun n4 => fc_M_breaks n4 x1 H) fun H3 =>
  some H3)

set_option maxRecDepth 100000 in
set_option maxHeartbeats 4000000 in
theorem kb_M_failsOrBreaks (t : xo_N) (x1 : Int32) (x2 : Int32) (H : xo_H) (r : xo_H) : xo_X mt_M_failsOrBreaks 0 0 xo_jv r 0 [(0, .inr (some t)), (1, .inl x1), (2, .inl x2)] [] H (fc_M_failsOrBreaks t x1 x2 H) := by
  unfold fc_M_failsOrBreaks
  refine xo_aload_n (pc' := 1) dd_M_failsOrBreaks_0 rfl 0 rfl rfl ?_
  refine xo_getP (pc' := 4) dd_M_failsOrBreaks_1 ff_M_68 (by decide) rfl fun o1 => ?_
  refine xo_iload_n (pc' := 5) dd_M_failsOrBreaks_4 rfl 1 rfl rfl ?_
  refine xo_iald (pc' := 6) dd_M_failsOrBreaks_5 rfl fun v2 => ?_
  refine xo_if_ne (pc' := 9) (tgt := 18) dd_M_failsOrBreaks_6 rfl rfl ?_ ?_
  · refine xo_aload_n (pc' := 19) dd_M_failsOrBreaks_18 rfl 0 rfl rfl ?_
    refine xo_iload_n (pc' := 20) dd_M_failsOrBreaks_19 rfl 1 rfl rfl ?_
    refine xo_callVv (as := [.inl x1]) (o := (some t)) (st := []) (pc' := 23) dd_M_failsOrBreaks_20 cv_M_breaks ml_M_164 rfl rfl ⟨by decide, by decide⟩ rfl rfl rfl (Nat.le_of_ble_eq_true rfl) rfl (fun n q h => kc_M_breaks n x1 H q h) fun H3 => ?_
    exact xo_vret dd_M_failsOrBreaks_23 rfl
  · refine xo_aload_n (pc' := 10) dd_M_failsOrBreaks_9 rfl 0 rfl rfl ?_
    refine xo_iload_n (pc' := 11) dd_M_failsOrBreaks_10 rfl 1 rfl rfl ?_
    refine xo_iload_n (pc' := 12) dd_M_failsOrBreaks_11 rfl 2 rfl rfl ?_
    refine xo_callVv (as := [.inl x1, .inl x2]) (o := (some t)) (st := []) (pc' := 15) dd_M_failsOrBreaks_12 cv_M_startFailing ml_M_175 rfl rfl ⟨by decide, by decide⟩ rfl rfl rfl (Nat.le_of_ble_eq_true rfl) rfl (fun n q h => kc_M_startFailing n x1 x2 H q h) fun H5 => ?_
    refine xo_goto (pc' := 23) dd_M_failsOrBreaks_15 rfl ?_
    exact xo_vret dd_M_failsOrBreaks_23 rfl
set_option maxRecDepth 100000 in
set_option maxHeartbeats 4000000 in
theorem kc_M_failsOrBreaks (t : xo_N) (x1 : Int32) (x2 : Int32) (H : xo_H) (r : xo_H) (hk : fc_M_failsOrBreaks t x1 x2 H = some r) : xo_M mt_M_failsOrBreaks [.inr (some t), .inl x1, .inl x2] H (xo_jv r) :=
  xo_entry hk (by decide +kernel) (Nat.le_of_ble_eq_true rfl) (kb_M_failsOrBreaks t x1 x2 H r)
def fb_M_written_33 : Nat → xo_N → Int32 → Int32 → Int32 → Int32 → xo_H → Option (xo_H)
  | 0, _, _, _, _, _, _ => none
  | fu + 1, t, x1, x2, x3, x4, H =>
  xo_gp 9 27 H (some t) fun o1 =>
  xo_al 0 H o1 x1 fun v2 =>
  if x4 < (((16 : Int32) * x1) + v2) then (xo_gp 9 25 H (some t) fun o11 =>
  xo_gp 9 25 H (some t) fun o12 =>
  xo_al 0 H o12 (x4 + (1 : Int32)) fun v13 =>
  xo_as H o11 x4 v13 fun H14 =>
  xo_gp 9 26 H14 (some t) fun o15 =>
  xo_gp 9 26 H14 (some t) fun o16 =>
  xo_al 0 H14 o16 (x4 + (1 : Int32)) fun v17 =>
  xo_as H14 o15 x4 v17 fun H18 =>
  fb_M_written_33 fu t x1 x2 x3 (x4 + (1 : Int32)) H18)
  else (if x2 = (-1 : Int32) then (xo_cl 9 (some t) (fun n10 => fc_M_happen n10 (9 : Int32) x1 x3 (0 : Int32) H) fun H7 =>
  xo_cl 9 (some t) (fun n9 => fc_M_goesOn n9 x1 H7) fun H8 =>
  some H8)
  else (xo_cl 9 (some t) (fun n6 => fc_M_happen n6 (10 : Int32) x1 x3 x2 H) fun H3 =>
  xo_cl 9 (some t) (fun n5 => fc_M_failsOrBreaks n5 x1 x2 H3) fun H4 =>
  some H4))

def fc_M_written (t : xo_N) (x1 : Int32) (x2 : Int32) (H : xo_H) : Option (xo_H) :=
  xo_gp 9 30 H (some t) fun o1 =>
  xo_as H o1 x1 (0 : Int32) fun H2 =>
  xo_gp 9 26 H2 (some t) fun o3 =>
  xo_al 0 H2 o3 ((16 : Int32) * x1) fun v4 =>
  xo_gp 9 27 H2 (some t) fun o5 =>
  xo_al 0 H2 o5 x1 fun v6 =>
  xo_as H2 o5 x1 (v6 - (1 : Int32)) fun H7 =>
  fb_M_written_33 1000 t x1 x2 v4 ((16 : Int32) * x1) H7

set_option maxRecDepth 100000 in
set_option maxHeartbeats 4000000 in
theorem kb_M_written_33 : ∀ (fu : Nat) (t : xo_N) (x1 : Int32) (x2 : Int32) (x3 : Int32) (x4 : Int32) (H : xo_H) (r : xo_H), xo_X mt_M_written 0 0 xo_jv r 33 [(0, .inr (some t)), (1, .inl x1), (2, .inl x2), (3, .inl x3), (4, .inl x4)] [] H (fb_M_written_33 fu t x1 x2 x3 x4 H) := by
  intro fu
  induction fu with
  | zero => intros; exact xo_no
  | succ fu ih =>
    intro t x1 x2 x3 x4 H r
    rw [fb_M_written_33]
    refine xo_iload (pc' := 35) dd_M_written_33 4 rfl rfl ?_
    refine xo_bipush (pc' := 37) (v := (16 : Int32)) dd_M_written_35 (by decide) rfl ?_
    refine xo_iload_n (pc' := 38) dd_M_written_37 rfl 1 rfl rfl ?_
    refine xo_imul (pc' := 39) dd_M_written_38 rfl ?_
    refine xo_aload_n (pc' := 40) dd_M_written_39 rfl 0 rfl rfl ?_
    refine xo_getP (pc' := 43) dd_M_written_40 ff_M_86 (by decide) rfl fun o1 => ?_
    refine xo_iload_n (pc' := 44) dd_M_written_43 rfl 1 rfl rfl ?_
    refine xo_iald (pc' := 45) dd_M_written_44 rfl fun v2 => ?_
    refine xo_iadd (pc' := 46) dd_M_written_45 rfl ?_
    refine xo_icmp_ge (pc' := 49) (tgt := 87) dd_M_written_46 rfl rfl ?_ ?_
    · refine xo_iload_n (pc' := 88) dd_M_written_87 rfl 2 rfl rfl ?_
      refine xo_iconst (pc' := 89) (v := (-1 : Int32)) dd_M_written_88 (by decide) rfl ?_
      refine xo_icmp_ne (pc' := 92) (tgt := 109) dd_M_written_89 rfl rfl ?_ ?_
      · refine xo_aload_n (pc' := 110) dd_M_written_109 rfl 0 rfl rfl ?_
        refine xo_bipush (pc' := 112) (v := (10 : Int32)) dd_M_written_110 (by decide) rfl ?_
        refine xo_iload_n (pc' := 113) dd_M_written_112 rfl 1 rfl rfl ?_
        refine xo_iload_n (pc' := 114) dd_M_written_113 rfl 3 rfl rfl ?_
        refine xo_iload_n (pc' := 115) dd_M_written_114 rfl 2 rfl rfl ?_
        refine xo_callVv (as := [.inl (10 : Int32), .inl x1, .inl x3, .inl x2]) (o := (some t)) (st := []) (pc' := 118) dd_M_written_115 cv_M_happen ml_M_160 rfl rfl ⟨by decide, by decide⟩ rfl rfl rfl (Nat.le_of_ble_eq_true rfl) rfl (fun n q h => kc_M_happen n (10 : Int32) x1 x3 x2 H q h) fun H3 => ?_
        refine xo_aload_n (pc' := 119) dd_M_written_118 rfl 0 rfl rfl ?_
        refine xo_iload_n (pc' := 120) dd_M_written_119 rfl 1 rfl rfl ?_
        refine xo_iload_n (pc' := 121) dd_M_written_120 rfl 2 rfl rfl ?_
        refine xo_callVv (as := [.inl x1, .inl x2]) (o := (some t)) (st := []) (pc' := 124) dd_M_written_121 cv_M_failsOrBreaks ml_M_171 rfl rfl ⟨by decide, by decide⟩ rfl rfl rfl (Nat.le_of_ble_eq_true rfl) rfl (fun n q h => kc_M_failsOrBreaks n x1 x2 H3 q h) fun H4 => ?_
        exact xo_vret dd_M_written_124 rfl
      · refine xo_aload_n (pc' := 93) dd_M_written_92 rfl 0 rfl rfl ?_
        refine xo_bipush (pc' := 95) (v := (9 : Int32)) dd_M_written_93 (by decide) rfl ?_
        refine xo_iload_n (pc' := 96) dd_M_written_95 rfl 1 rfl rfl ?_
        refine xo_iload_n (pc' := 97) dd_M_written_96 rfl 3 rfl rfl ?_
        refine xo_iconst (pc' := 98) (v := (0 : Int32)) dd_M_written_97 (by decide) rfl ?_
        refine xo_callVv (as := [.inl (9 : Int32), .inl x1, .inl x3, .inl (0 : Int32)]) (o := (some t)) (st := []) (pc' := 101) dd_M_written_98 cv_M_happen ml_M_160 rfl rfl ⟨by decide, by decide⟩ rfl rfl rfl (Nat.le_of_ble_eq_true rfl) rfl (fun n q h => kc_M_happen n (9 : Int32) x1 x3 (0 : Int32) H q h) fun H7 => ?_
        refine xo_aload_n (pc' := 102) dd_M_written_101 rfl 0 rfl rfl ?_
        refine xo_iload_n (pc' := 103) dd_M_written_102 rfl 1 rfl rfl ?_
        refine xo_callVv (as := [.inl x1]) (o := (some t)) (st := []) (pc' := 106) dd_M_written_103 cv_M_goesOn ml_M_168 rfl rfl ⟨by decide, by decide⟩ rfl rfl rfl (Nat.le_of_ble_eq_true rfl) rfl (fun n q h => kc_M_goesOn n x1 H7 q h) fun H8 => ?_
        refine xo_goto (pc' := 124) dd_M_written_106 rfl ?_
        exact xo_vret dd_M_written_124 rfl
    · refine xo_aload_n (pc' := 50) dd_M_written_49 rfl 0 rfl rfl ?_
      refine xo_getP (pc' := 53) dd_M_written_50 ff_M_80 (by decide) rfl fun o11 => ?_
      refine xo_iload (pc' := 55) dd_M_written_53 4 rfl rfl ?_
      refine xo_aload_n (pc' := 56) dd_M_written_55 rfl 0 rfl rfl ?_
      refine xo_getP (pc' := 59) dd_M_written_56 ff_M_80 (by decide) rfl fun o12 => ?_
      refine xo_iload (pc' := 61) dd_M_written_59 4 rfl rfl ?_
      refine xo_iconst (pc' := 62) (v := (1 : Int32)) dd_M_written_61 (by decide) rfl ?_
      refine xo_iadd (pc' := 63) dd_M_written_62 rfl ?_
      refine xo_iald (pc' := 64) dd_M_written_63 rfl fun v13 => ?_
      refine xo_iast (pc' := 65) dd_M_written_64 rfl fun H14 => ?_
      refine xo_aload_n (pc' := 66) dd_M_written_65 rfl 0 rfl rfl ?_
      refine xo_getP (pc' := 69) dd_M_written_66 ff_M_83 (by decide) rfl fun o15 => ?_
      refine xo_iload (pc' := 71) dd_M_written_69 4 rfl rfl ?_
      refine xo_aload_n (pc' := 72) dd_M_written_71 rfl 0 rfl rfl ?_
      refine xo_getP (pc' := 75) dd_M_written_72 ff_M_83 (by decide) rfl fun o16 => ?_
      refine xo_iload (pc' := 77) dd_M_written_75 4 rfl rfl ?_
      refine xo_iconst (pc' := 78) (v := (1 : Int32)) dd_M_written_77 (by decide) rfl ?_
      refine xo_iadd (pc' := 79) dd_M_written_78 rfl ?_
      refine xo_iald (pc' := 80) dd_M_written_79 rfl fun v17 => ?_
      refine xo_iast (pc' := 81) dd_M_written_80 rfl fun H18 => ?_
      refine xo_iinc (pc' := 84) dd_M_written_81 4 rfl (xo_ii (m := (1 : Int32)) (by decide)) (by decide) rfl rfl ?_
      refine xo_goto (pc' := 33) dd_M_written_84 rfl ?_
      refine xo_sub [1, 2, 3, 4, 0] rfl ?_
      exact ih t x1 x2 x3 (x4 + (1 : Int32)) H18 r
set_option maxRecDepth 100000 in
set_option maxHeartbeats 4000000 in
theorem kb_M_written (t : xo_N) (x1 : Int32) (x2 : Int32) (H : xo_H) (r : xo_H) : xo_X mt_M_written 0 0 xo_jv r 0 [(0, .inr (some t)), (1, .inl x1), (2, .inl x2)] [] H (fc_M_written t x1 x2 H) := by
  unfold fc_M_written
  refine xo_aload_n (pc' := 1) dd_M_written_0 rfl 0 rfl rfl ?_
  refine xo_getP (pc' := 4) dd_M_written_1 ff_M_95 (by decide) rfl fun o1 => ?_
  refine xo_iload_n (pc' := 5) dd_M_written_4 rfl 1 rfl rfl ?_
  refine xo_iconst (pc' := 6) (v := (0 : Int32)) dd_M_written_5 (by decide) rfl ?_
  refine xo_iast (pc' := 7) dd_M_written_6 rfl fun H2 => ?_
  refine xo_aload_n (pc' := 8) dd_M_written_7 rfl 0 rfl rfl ?_
  refine xo_getP (pc' := 11) dd_M_written_8 ff_M_83 (by decide) rfl fun o3 => ?_
  refine xo_bipush (pc' := 13) (v := (16 : Int32)) dd_M_written_11 (by decide) rfl ?_
  refine xo_iload_n (pc' := 14) dd_M_written_13 rfl 1 rfl rfl ?_
  refine xo_imul (pc' := 15) dd_M_written_14 rfl ?_
  refine xo_iald (pc' := 16) dd_M_written_15 rfl fun v4 => ?_
  refine xo_istore_n (pc' := 17) dd_M_written_16 rfl (by decide) rfl rfl ?_
  refine xo_aload_n (pc' := 18) dd_M_written_17 rfl 1 rfl rfl ?_
  refine xo_getP (pc' := 21) dd_M_written_18 ff_M_86 (by decide) rfl fun o5 => ?_
  refine xo_iload_n (pc' := 22) dd_M_written_21 rfl 2 rfl rfl ?_
  refine xo_dup2 (pc' := 23) dd_M_written_22 rfl ?_
  refine xo_iald (pc' := 24) dd_M_written_23 rfl fun v6 => ?_
  refine xo_iconst (pc' := 25) (v := (1 : Int32)) dd_M_written_24 (by decide) rfl ?_
  refine xo_isub (pc' := 26) dd_M_written_25 rfl ?_
  refine xo_iast (pc' := 27) dd_M_written_26 rfl fun H7 => ?_
  refine xo_bipush (pc' := 29) (v := (16 : Int32)) dd_M_written_27 (by decide) rfl ?_
  refine xo_iload_n (pc' := 30) dd_M_written_29 rfl 2 rfl rfl ?_
  refine xo_imul (pc' := 31) dd_M_written_30 rfl ?_
  refine xo_istore (pc' := 33) dd_M_written_31 (by decide) rfl rfl ?_
  refine xo_sub [2, 3, 4, 1, 0] rfl ?_
  exact kb_M_written_33 1000 t x1 x2 v4 ((16 : Int32) * x1) H7 r
set_option maxRecDepth 100000 in
set_option maxHeartbeats 4000000 in
theorem kc_M_written (t : xo_N) (x1 : Int32) (x2 : Int32) (H : xo_H) (r : xo_H) (hk : fc_M_written t x1 x2 H = some r) : xo_M mt_M_written [.inr (some t), .inl x1, .inl x2] H (xo_jv r) :=
  xo_entry hk (by decide +kernel) (Nat.le_of_ble_eq_true rfl) (kb_M_written t x1 x2 H r)
