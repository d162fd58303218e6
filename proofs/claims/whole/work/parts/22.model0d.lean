theorem dd_M_init_0 : decode mt_M_init.2.1 0 = .ok (.aload_n 0, 1) := by decide +kernel
theorem dd_M_init_1 : decode mt_M_init.2.1 1 = .ok (.invokespecial 1, 3) := by decide +kernel
theorem dd_M_init_4 : decode mt_M_init.2.1 4 = .ok (.aload_n 0, 1) := by decide +kernel
theorem dd_M_init_5 : decode mt_M_init.2.1 5 = .ok (.bipush 6, 2) := by decide +kernel
theorem dd_M_init_7 : decode mt_M_init.2.1 7 = .ok (.newarray .int, 2) := by decide +kernel
theorem dd_M_init_9 : decode mt_M_init.2.1 9 = .ok (.putfield 7, 3) := by decide +kernel
theorem dd_M_init_12 : decode mt_M_init.2.1 12 = .ok (.aload_n 0, 1) := by decide +kernel
theorem dd_M_init_13 : decode mt_M_init.2.1 13 = .ok (.bipush 6, 2) := by decide +kernel
theorem dd_M_init_15 : decode mt_M_init.2.1 15 = .ok (.newarray .int, 2) := by decide +kernel
theorem dd_M_init_17 : decode mt_M_init.2.1 17 = .ok (.putfield 13, 3) := by decide +kernel
theorem dd_M_init_20 : decode mt_M_init.2.1 20 = .ok (.aload_n 0, 1) := by decide +kernel
theorem dd_M_init_21 : decode mt_M_init.2.1 21 = .ok (.bipush 6, 2) := by decide +kernel
theorem dd_M_init_23 : decode mt_M_init.2.1 23 = .ok (.newarray .int, 2) := by decide +kernel
theorem dd_M_init_25 : decode mt_M_init.2.1 25 = .ok (.putfield 16, 3) := by decide +kernel
theorem dd_M_init_28 : decode mt_M_init.2.1 28 = .ok (.aload_n 0, 1) := by decide +kernel
theorem dd_M_init_29 : decode mt_M_init.2.1 29 = .ok (.bipush 6, 2) := by decide +kernel
theorem dd_M_init_31 : decode mt_M_init.2.1 31 = .ok (.newarray .boolean, 2) := by decide +kernel
theorem dd_M_init_33 : decode mt_M_init.2.1 33 = .ok (.putfield 19, 3) := by decide +kernel
theorem dd_M_init_36 : decode mt_M_init.2.1 36 = .ok (.aload_n 0, 1) := by decide +kernel
theorem dd_M_init_37 : decode mt_M_init.2.1 37 = .ok (.bipush 6, 2) := by decide +kernel
theorem dd_M_init_39 : decode mt_M_init.2.1 39 = .ok (.newarray .boolean, 2) := by decide +kernel
theorem dd_M_init_41 : decode mt_M_init.2.1 41 = .ok (.putfield 23, 3) := by decide +kernel
theorem dd_M_init_44 : decode mt_M_init.2.1 44 = .ok (.aload_n 0, 1) := by decide +kernel
theorem dd_M_init_45 : decode mt_M_init.2.1 45 = .ok (.bipush 6, 2) := by decide +kernel
theorem dd_M_init_47 : decode mt_M_init.2.1 47 = .ok (.newarray .boolean, 2) := by decide +kernel
theorem dd_M_init_49 : decode mt_M_init.2.1 49 = .ok (.putfield 26, 3) := by decide +kernel
theorem dd_M_init_52 : decode mt_M_init.2.1 52 = .ok (.aload_n 0, 1) := by decide +kernel
theorem dd_M_init_53 : decode mt_M_init.2.1 53 = .ok (.bipush 6, 2) := by decide +kernel
theorem dd_M_init_55 : decode mt_M_init.2.1 55 = .ok (.newarray .boolean, 2) := by decide +kernel
theorem dd_M_init_57 : decode mt_M_init.2.1 57 = .ok (.putfield 29, 3) := by decide +kernel
theorem dd_M_init_60 : decode mt_M_init.2.1 60 = .ok (.aload_n 0, 1) := by decide +kernel
theorem dd_M_init_61 : decode mt_M_init.2.1 61 = .ok (.bipush 6, 2) := by decide +kernel
theorem dd_M_init_63 : decode mt_M_init.2.1 63 = .ok (.newarray .int, 2) := by decide +kernel
theorem dd_M_init_65 : decode mt_M_init.2.1 65 = .ok (.putfield 32, 3) := by decide +kernel
theorem dd_M_init_68 : decode mt_M_init.2.1 68 = .ok (.aload_n 0, 1) := by decide +kernel
theorem dd_M_init_69 : decode mt_M_init.2.1 69 = .ok (.bipush 96, 2) := by decide +kernel
theorem dd_M_init_71 : decode mt_M_init.2.1 71 = .ok (.newarray .int, 2) := by decide +kernel
theorem dd_M_init_73 : decode mt_M_init.2.1 73 = .ok (.putfield 35, 3) := by decide +kernel
theorem dd_M_init_76 : decode mt_M_init.2.1 76 = .ok (.aload_n 0, 1) := by decide +kernel
theorem dd_M_init_77 : decode mt_M_init.2.1 77 = .ok (.bipush 6, 2) := by decide +kernel
theorem dd_M_init_79 : decode mt_M_init.2.1 79 = .ok (.newarray .int, 2) := by decide +kernel
theorem dd_M_init_81 : decode mt_M_init.2.1 81 = .ok (.putfield 38, 3) := by decide +kernel
theorem dd_M_init_84 : decode mt_M_init.2.1 84 = .ok (.aload_n 0, 1) := by decide +kernel
theorem dd_M_init_85 : decode mt_M_init.2.1 85 = .ok (.bipush 48, 2) := by decide +kernel
theorem dd_M_init_87 : decode mt_M_init.2.1 87 = .ok (.newarray .int, 2) := by decide +kernel
theorem dd_M_init_89 : decode mt_M_init.2.1 89 = .ok (.putfield 41, 3) := by decide +kernel
theorem dd_M_init_92 : decode mt_M_init.2.1 92 = .ok (.aload_n 0, 1) := by decide +kernel
theorem dd_M_init_93 : decode mt_M_init.2.1 93 = .ok (.bipush 6, 2) := by decide +kernel
theorem dd_M_init_95 : decode mt_M_init.2.1 95 = .ok (.newarray .int, 2) := by decide +kernel
theorem dd_M_init_97 : decode mt_M_init.2.1 97 = .ok (.putfield 44, 3) := by decide +kernel
theorem dd_M_init_100 : decode mt_M_init.2.1 100 = .ok (.aload_n 0, 1) := by decide +kernel
theorem dd_M_init_101 : decode mt_M_init.2.1 101 = .ok (.bipush 6, 2) := by decide +kernel
theorem dd_M_init_103 : decode mt_M_init.2.1 103 = .ok (.newarray .int, 2) := by decide +kernel
theorem dd_M_init_105 : decode mt_M_init.2.1 105 = .ok (.putfield 47, 3) := by decide +kernel
theorem dd_M_init_108 : decode mt_M_init.2.1 108 = .ok (.aload_n 0, 1) := by decide +kernel
theorem dd_M_init_109 : decode mt_M_init.2.1 109 = .ok (.bipush 6, 2) := by decide +kernel
theorem dd_M_init_111 : decode mt_M_init.2.1 111 = .ok (.newarray .boolean, 2) := by decide +kernel
theorem dd_M_init_113 : decode mt_M_init.2.1 113 = .ok (.putfield 50, 3) := by decide +kernel
theorem dd_M_init_116 : decode mt_M_init.2.1 116 = .ok (.aload_n 0, 1) := by decide +kernel
theorem dd_M_init_117 : decode mt_M_init.2.1 117 = .ok (.bipush 6, 2) := by decide +kernel
theorem dd_M_init_119 : decode mt_M_init.2.1 119 = .ok (.newarray .int, 2) := by decide +kernel
theorem dd_M_init_121 : decode mt_M_init.2.1 121 = .ok (.putfield 53, 3) := by decide +kernel
theorem dd_M_init_124 : decode mt_M_init.2.1 124 = .ok (.aload_n 0, 1) := by decide +kernel
theorem dd_M_init_125 : decode mt_M_init.2.1 125 = .ok (.bipush 6, 2) := by decide +kernel
theorem dd_M_init_127 : decode mt_M_init.2.1 127 = .ok (.newarray .int, 2) := by decide +kernel
theorem dd_M_init_129 : decode mt_M_init.2.1 129 = .ok (.putfield 56, 3) := by decide +kernel
theorem dd_M_init_132 : decode mt_M_init.2.1 132 = .ok (.aload_n 0, 1) := by decide +kernel
theorem dd_M_init_133 : decode mt_M_init.2.1 133 = .ok (.bipush 6, 2) := by decide +kernel
theorem dd_M_init_135 : decode mt_M_init.2.1 135 = .ok (.newarray .boolean, 2) := by decide +kernel
theorem dd_M_init_137 : decode mt_M_init.2.1 137 = .ok (.putfield 59, 3) := by decide +kernel
theorem dd_M_init_140 : decode mt_M_init.2.1 140 = .ok (.aload_n 0, 1) := by decide +kernel
theorem dd_M_init_141 : decode mt_M_init.2.1 141 = .ok (.bipush 6, 2) := by decide +kernel
theorem dd_M_init_143 : decode mt_M_init.2.1 143 = .ok (.newarray .boolean, 2) := by decide +kernel
theorem dd_M_init_145 : decode mt_M_init.2.1 145 = .ok (.putfield 62, 3) := by decide +kernel
theorem dd_M_init_148 : decode mt_M_init.2.1 148 = .ok (.aload_n 0, 1) := by decide +kernel
theorem dd_M_init_149 : decode mt_M_init.2.1 149 = .ok (.bipush 6, 2) := by decide +kernel
theorem dd_M_init_151 : decode mt_M_init.2.1 151 = .ok (.newarray .boolean, 2) := by decide +kernel
theorem dd_M_init_153 : decode mt_M_init.2.1 153 = .ok (.putfield 65, 3) := by decide +kernel
theorem dd_M_init_156 : decode mt_M_init.2.1 156 = .ok (.aload_n 0, 1) := by decide +kernel
theorem dd_M_init_157 : decode mt_M_init.2.1 157 = .ok (.iconst 2, 1) := by decide +kernel
theorem dd_M_init_158 : decode mt_M_init.2.1 158 = .ok (.newarray .int, 2) := by decide +kernel
theorem dd_M_init_160 : decode mt_M_init.2.1 160 = .ok (.putfield 68, 3) := by decide +kernel
theorem dd_M_init_163 : decode mt_M_init.2.1 163 = .ok (.aload_n 0, 1) := by decide +kernel
theorem dd_M_init_164 : decode mt_M_init.2.1 164 = .ok (.iconst 2, 1) := by decide +kernel
theorem dd_M_init_165 : decode mt_M_init.2.1 165 = .ok (.newarray .int, 2) := by decide +kernel
theorem dd_M_init_167 : decode mt_M_init.2.1 167 = .ok (.putfield 71, 3) := by decide +kernel
theorem dd_M_init_170 : decode mt_M_init.2.1 170 = .ok (.aload_n 0, 1) := by decide +kernel
theorem dd_M_init_171 : decode mt_M_init.2.1 171 = .ok (.iconst 2, 1) := by decide +kernel
theorem dd_M_init_172 : decode mt_M_init.2.1 172 = .ok (.newarray .int, 2) := by decide +kernel
theorem dd_M_init_174 : decode mt_M_init.2.1 174 = .ok (.putfield 74, 3) := by decide +kernel
theorem dd_M_init_177 : decode mt_M_init.2.1 177 = .ok (.aload_n 0, 1) := by decide +kernel
theorem dd_M_init_178 : decode mt_M_init.2.1 178 = .ok (.iconst 2, 1) := by decide +kernel
theorem dd_M_init_179 : decode mt_M_init.2.1 179 = .ok (.newarray .boolean, 2) := by decide +kernel
theorem dd_M_init_181 : decode mt_M_init.2.1 181 = .ok (.putfield 77, 3) := by decide +kernel
theorem dd_M_init_184 : decode mt_M_init.2.1 184 = .ok (.aload_n 0, 1) := by decide +kernel
theorem dd_M_init_185 : decode mt_M_init.2.1 185 = .ok (.bipush 32, 2) := by decide +kernel
theorem dd_M_init_187 : decode mt_M_init.2.1 187 = .ok (.newarray .int, 2) := by decide +kernel
theorem dd_M_init_189 : decode mt_M_init.2.1 189 = .ok (.putfield 80, 3) := by decide +kernel
theorem dd_M_init_192 : decode mt_M_init.2.1 192 = .ok (.aload_n 0, 1) := by decide +kernel
theorem dd_M_init_193 : decode mt_M_init.2.1 193 = .ok (.bipush 32, 2) := by decide +kernel
theorem dd_M_init_195 : decode mt_M_init.2.1 195 = .ok (.newarray .int, 2) := by decide +kernel
theorem dd_M_init_197 : decode mt_M_init.2.1 197 = .ok (.putfield 83, 3) := by decide +kernel
theorem dd_M_init_200 : decode mt_M_init.2.1 200 = .ok (.aload_n 0, 1) := by decide +kernel
theorem dd_M_init_201 : decode mt_M_init.2.1 201 = .ok (.iconst 2, 1) := by decide +kernel
theorem dd_M_init_202 : decode mt_M_init.2.1 202 = .ok (.newarray .int, 2) := by decide +kernel
theorem dd_M_init_204 : decode mt_M_init.2.1 204 = .ok (.putfield 86, 3) := by decide +kernel
theorem dd_M_init_207 : decode mt_M_init.2.1 207 = .ok (.aload_n 0, 1) := by decide +kernel
theorem dd_M_init_208 : decode mt_M_init.2.1 208 = .ok (.iconst 2, 1) := by decide +kernel
theorem dd_M_init_209 : decode mt_M_init.2.1 209 = .ok (.newarray .int, 2) := by decide +kernel
theorem dd_M_init_211 : decode mt_M_init.2.1 211 = .ok (.putfield 89, 3) := by decide +kernel
theorem dd_M_init_214 : decode mt_M_init.2.1 214 = .ok (.aload_n 0, 1) := by decide +kernel
theorem dd_M_init_215 : decode mt_M_init.2.1 215 = .ok (.iconst 2, 1) := by decide +kernel
theorem dd_M_init_216 : decode mt_M_init.2.1 216 = .ok (.newarray .boolean, 2) := by decide +kernel
theorem dd_M_init_218 : decode mt_M_init.2.1 218 = .ok (.putfield 92, 3) := by decide +kernel
theorem dd_M_init_221 : decode mt_M_init.2.1 221 = .ok (.aload_n 0, 1) := by decide +kernel
theorem dd_M_init_222 : decode mt_M_init.2.1 222 = .ok (.iconst 2, 1) := by decide +kernel
theorem dd_M_init_223 : decode mt_M_init.2.1 223 = .ok (.newarray .int, 2) := by decide +kernel
theorem dd_M_init_225 : decode mt_M_init.2.1 225 = .ok (.putfield 95, 3) := by decide +kernel
theorem dd_M_init_228 : decode mt_M_init.2.1 228 = .ok (.aload_n 0, 1) := by decide +kernel
theorem dd_M_init_229 : decode mt_M_init.2.1 229 = .ok (.iconst 2, 1) := by decide +kernel
theorem dd_M_init_230 : decode mt_M_init.2.1 230 = .ok (.newarray .boolean, 2) := by decide +kernel
theorem dd_M_init_232 : decode mt_M_init.2.1 232 = .ok (.putfield 98, 3) := by decide +kernel
theorem dd_M_init_235 : decode mt_M_init.2.1 235 = .ok (.aload_n 0, 1) := by decide +kernel
theorem dd_M_init_236 : decode mt_M_init.2.1 236 = .ok (.iconst 2, 1) := by decide +kernel
theorem dd_M_init_237 : decode mt_M_init.2.1 237 = .ok (.newarray .int, 2) := by decide +kernel
theorem dd_M_init_239 : decode mt_M_init.2.1 239 = .ok (.putfield 101, 3) := by decide +kernel
theorem dd_M_init_242 : decode mt_M_init.2.1 242 = .ok (.aload_n 0, 1) := by decide +kernel
theorem dd_M_init_243 : decode mt_M_init.2.1 243 = .ok (.iconst 2, 1) := by decide +kernel
theorem dd_M_init_244 : decode mt_M_init.2.1 244 = .ok (.newarray .boolean, 2) := by decide +kernel
theorem dd_M_init_246 : decode mt_M_init.2.1 246 = .ok (.putfield 104, 3) := by decide +kernel
theorem dd_M_init_249 : decode mt_M_init.2.1 249 = .ok (.aload_n 0, 1) := by decide +kernel
theorem dd_M_init_250 : decode mt_M_init.2.1 250 = .ok (.iconst 2, 1) := by decide +kernel
theorem dd_M_init_251 : decode mt_M_init.2.1 251 = .ok (.newarray .boolean, 2) := by decide +kernel
theorem dd_M_init_253 : decode mt_M_init.2.1 253 = .ok (.putfield 107, 3) := by decide +kernel
theorem dd_M_init_256 : decode mt_M_init.2.1 256 = .ok (.aload_n 0, 1) := by decide +kernel
theorem dd_M_init_257 : decode mt_M_init.2.1 257 = .ok (.iconst 2, 1) := by decide +kernel
theorem dd_M_init_258 : decode mt_M_init.2.1 258 = .ok (.newarray .boolean, 2) := by decide +kernel
theorem dd_M_init_260 : decode mt_M_init.2.1 260 = .ok (.putfield 110, 3) := by decide +kernel
theorem dd_M_init_263 : decode mt_M_init.2.1 263 = .ok (.aload_n 0, 1) := by decide +kernel
theorem dd_M_init_264 : decode mt_M_init.2.1 264 = .ok (.iconst 2, 1) := by decide +kernel
theorem dd_M_init_265 : decode mt_M_init.2.1 265 = .ok (.newarray .int, 2) := by decide +kernel
theorem dd_M_init_267 : decode mt_M_init.2.1 267 = .ok (.putfield 113, 3) := by decide +kernel
theorem dd_M_init_270 : decode mt_M_init.2.1 270 = .ok (.aload_n 0, 1) := by decide +kernel
theorem dd_M_init_271 : decode mt_M_init.2.1 271 = .ok (.iconst 2, 1) := by decide +kernel
theorem dd_M_init_272 : decode mt_M_init.2.1 272 = .ok (.newarray .int, 2) := by decide +kernel
theorem dd_M_init_274 : decode mt_M_init.2.1 274 = .ok (.putfield 116, 3) := by decide +kernel
theorem dd_M_init_277 : decode mt_M_init.2.1 277 = .ok (.aload_n 0, 1) := by decide +kernel
theorem dd_M_init_278 : decode mt_M_init.2.1 278 = .ok (.iconst 2, 1) := by decide +kernel
theorem dd_M_init_279 : decode mt_M_init.2.1 279 = .ok (.newarray .int, 2) := by decide +kernel
theorem dd_M_init_281 : decode mt_M_init.2.1 281 = .ok (.putfield 119, 3) := by decide +kernel
theorem dd_M_init_284 : decode mt_M_init.2.1 284 = .ok (.aload_n 0, 1) := by decide +kernel
theorem dd_M_init_285 : decode mt_M_init.2.1 285 = .ok (.iconst 2, 1) := by decide +kernel
theorem dd_M_init_286 : decode mt_M_init.2.1 286 = .ok (.newarray .boolean, 2) := by decide +kernel
theorem dd_M_init_288 : decode mt_M_init.2.1 288 = .ok (.putfield 122, 3) := by decide +kernel
theorem dd_M_init_291 : decode mt_M_init.2.1 291 = .ok (.aload_n 0, 1) := by decide +kernel
theorem dd_M_init_292 : decode mt_M_init.2.1 292 = .ok (.iconst 2, 1) := by decide +kernel
theorem dd_M_init_293 : decode mt_M_init.2.1 293 = .ok (.newarray .boolean, 2) := by decide +kernel
theorem dd_M_init_295 : decode mt_M_init.2.1 295 = .ok (.putfield 125, 3) := by decide +kernel
theorem dd_M_init_298 : decode mt_M_init.2.1 298 = .ok (.aload_n 0, 1) := by decide +kernel
theorem dd_M_init_299 : decode mt_M_init.2.1 299 = .ok (.bipush 64, 2) := by decide +kernel
theorem dd_M_init_301 : decode mt_M_init.2.1 301 = .ok (.newarray .int, 2) := by decide +kernel
theorem dd_M_init_303 : decode mt_M_init.2.1 303 = .ok (.putfield 128, 3) := by decide +kernel
theorem dd_M_init_306 : decode mt_M_init.2.1 306 = .ok (.aload_n 0, 1) := by decide +kernel
theorem dd_M_init_307 : decode mt_M_init.2.1 307 = .ok (.bipush 64, 2) := by decide +kernel
theorem dd_M_init_309 : decode mt_M_init.2.1 309 = .ok (.newarray .int, 2) := by decide +kernel
theorem dd_M_init_311 : decode mt_M_init.2.1 311 = .ok (.putfield 131, 3) := by decide +kernel
theorem dd_M_init_314 : decode mt_M_init.2.1 314 = .ok (.aload_n 0, 1) := by decide +kernel
theorem dd_M_init_315 : decode mt_M_init.2.1 315 = .ok (.bipush 64, 2) := by decide +kernel
theorem dd_M_init_317 : decode mt_M_init.2.1 317 = .ok (.newarray .int, 2) := by decide +kernel
theorem dd_M_init_319 : decode mt_M_init.2.1 319 = .ok (.putfield 134, 3) := by decide +kernel
theorem dd_M_init_322 : decode mt_M_init.2.1 322 = .ok (.aload_n 0, 1) := by decide +kernel
theorem dd_M_init_323 : decode mt_M_init.2.1 323 = .ok (.bipush 64, 2) := by decide +kernel
theorem dd_M_init_325 : decode mt_M_init.2.1 325 = .ok (.newarray .int, 2) := by decide +kernel
theorem dd_M_init_327 : decode mt_M_init.2.1 327 = .ok (.putfield 137, 3) := by decide +kernel
theorem dd_M_init_330 : decode mt_M_init.2.1 330 = .ok (.aload_n 0, 1) := by decide +kernel
theorem dd_M_init_331 : decode mt_M_init.2.1 331 = .ok (.bipush 64, 2) := by decide +kernel
theorem dd_M_init_333 : decode mt_M_init.2.1 333 = .ok (.newarray .int, 2) := by decide +kernel
theorem dd_M_init_335 : decode mt_M_init.2.1 335 = .ok (.putfield 140, 3) := by decide +kernel
theorem dd_M_init_338 : decode mt_M_init.2.1 338 = .ok (.aload_n 0, 1) := by decide +kernel
theorem dd_M_init_339 : decode mt_M_init.2.1 339 = .ok (.bipush 64, 2) := by decide +kernel
theorem dd_M_init_341 : decode mt_M_init.2.1 341 = .ok (.newarray .int, 2) := by decide +kernel
theorem dd_M_init_343 : decode mt_M_init.2.1 343 = .ok (.putfield 143, 3) := by decide +kernel
theorem dd_M_init_346 : decode mt_M_init.2.1 346 = .ok (.return_, 1) := by decide +kernel
theorem dd_M_happen_0 : decode mt_M_happen.2.1 0 = .ok (.aload_n 0, 1) := by decide +kernel
theorem dd_M_happen_1 : decode mt_M_happen.2.1 1 = .ok (.getfield 146, 3) := by decide +kernel
theorem dd_M_happen_4 : decode mt_M_happen.2.1 4 = .ok (.bipush 64, 2) := by decide +kernel
theorem dd_M_happen_6 : decode mt_M_happen.2.1 6 = .ok (.irem, 1) := by decide +kernel
theorem dd_M_happen_7 : decode mt_M_happen.2.1 7 = .ok (.istore 5, 2) := by decide +kernel
theorem dd_M_happen_9 : decode mt_M_happen.2.1 9 = .ok (.aload_n 0, 1) := by decide +kernel
theorem dd_M_happen_10 : decode mt_M_happen.2.1 10 = .ok (.getfield 137, 3) := by decide +kernel
theorem dd_M_happen_13 : decode mt_M_happen.2.1 13 = .ok (.iload 5, 2) := by decide +kernel
theorem dd_M_happen_15 : decode mt_M_happen.2.1 15 = .ok (.iload_n 1, 1) := by decide +kernel
theorem dd_M_happen_16 : decode mt_M_happen.2.1 16 = .ok (.bipush 32, 2) := by decide +kernel
theorem dd_M_happen_18 : decode mt_M_happen.2.1 18 = .ok (.iload_n 2, 1) := by decide +kernel
theorem dd_M_happen_19 : decode mt_M_happen.2.1 19 = .ok (.imul, 1) := by decide +kernel
theorem dd_M_happen_20 : decode mt_M_happen.2.1 20 = .ok (.iadd, 1) := by decide +kernel
theorem dd_M_happen_21 : decode mt_M_happen.2.1 21 = .ok (.iastore, 1) := by decide +kernel
theorem dd_M_happen_22 : decode mt_M_happen.2.1 22 = .ok (.aload_n 0, 1) := by decide +kernel
theorem dd_M_happen_23 : decode mt_M_happen.2.1 23 = .ok (.getfield 140, 3) := by decide +kernel
theorem dd_M_happen_26 : decode mt_M_happen.2.1 26 = .ok (.iload 5, 2) := by decide +kernel
theorem dd_M_happen_28 : decode mt_M_happen.2.1 28 = .ok (.iload_n 3, 1) := by decide +kernel
theorem dd_M_happen_29 : decode mt_M_happen.2.1 29 = .ok (.iastore, 1) := by decide +kernel
theorem dd_M_happen_30 : decode mt_M_happen.2.1 30 = .ok (.aload_n 0, 1) := by decide +kernel
theorem dd_M_happen_31 : decode mt_M_happen.2.1 31 = .ok (.getfield 143, 3) := by decide +kernel
theorem dd_M_happen_34 : decode mt_M_happen.2.1 34 = .ok (.iload 5, 2) := by decide +kernel
theorem dd_M_happen_36 : decode mt_M_happen.2.1 36 = .ok (.iload 4, 2) := by decide +kernel
theorem dd_M_happen_38 : decode mt_M_happen.2.1 38 = .ok (.iastore, 1) := by decide +kernel
theorem dd_M_happen_39 : decode mt_M_happen.2.1 39 = .ok (.aload_n 0, 1) := by decide +kernel
theorem dd_M_happen_40 : decode mt_M_happen.2.1 40 = .ok (.dup, 1) := by decide +kernel
theorem dd_M_happen_41 : decode mt_M_happen.2.1 41 = .ok (.getfield 146, 3) := by decide +kernel
theorem dd_M_happen_44 : decode mt_M_happen.2.1 44 = .ok (.iconst 1, 1) := by decide +kernel
theorem dd_M_happen_45 : decode mt_M_happen.2.1 45 = .ok (.iadd, 1) := by decide +kernel
theorem dd_M_happen_46 : decode mt_M_happen.2.1 46 = .ok (.putfield 146, 3) := by decide +kernel
theorem dd_M_happen_49 : decode mt_M_happen.2.1 49 = .ok (.return_, 1) := by decide +kernel
theorem dd_M_job_0 : decode mt_M_job.2.1 0 = .ok (.aload_n 0, 1) := by decide +kernel
theorem dd_M_job_1 : decode mt_M_job.2.1 1 = .ok (.getfield 150, 3) := by decide +kernel
theorem dd_M_job_4 : decode mt_M_job.2.1 4 = .ok (.aload_n 0, 1) := by decide +kernel
theorem dd_M_job_5 : decode mt_M_job.2.1 5 = .ok (.getfield 153, 3) := by decide +kernel
theorem dd_M_job_8 : decode mt_M_job.2.1 8 = .ok (.iadd, 1) := by decide +kernel
theorem dd_M_job_9 : decode mt_M_job.2.1 9 = .ok (.bipush 64, 2) := by decide +kernel
theorem dd_M_job_11 : decode mt_M_job.2.1 11 = .ok (.irem, 1) := by decide +kernel
theorem dd_M_job_12 : decode mt_M_job.2.1 12 = .ok (.istore 4, 2) := by decide +kernel
theorem dd_M_job_14 : decode mt_M_job.2.1 14 = .ok (.aload_n 0, 1) := by decide +kernel
theorem dd_M_job_15 : decode mt_M_job.2.1 15 = .ok (.getfield 128, 3) := by decide +kernel
theorem dd_M_job_18 : decode mt_M_job.2.1 18 = .ok (.iload 4, 2) := by decide +kernel
theorem dd_M_job_20 : decode mt_M_job.2.1 20 = .ok (.iload_n 1, 1) := by decide +kernel
theorem dd_M_job_21 : decode mt_M_job.2.1 21 = .ok (.iastore, 1) := by decide +kernel
theorem dd_M_job_22 : decode mt_M_job.2.1 22 = .ok (.aload_n 0, 1) := by decide +kernel
theorem dd_M_job_23 : decode mt_M_job.2.1 23 = .ok (.getfield 131, 3) := by decide +kernel
theorem dd_M_job_26 : decode mt_M_job.2.1 26 = .ok (.iload 4, 2) := by decide +kernel
theorem dd_M_job_28 : decode mt_M_job.2.1 28 = .ok (.iload_n 2, 1) := by decide +kernel
theorem dd_M_job_29 : decode mt_M_job.2.1 29 = .ok (.iastore, 1) := by decide +kernel
theorem dd_M_job_30 : decode mt_M_job.2.1 30 = .ok (.aload_n 0, 1) := by decide +kernel
theorem dd_M_job_31 : decode mt_M_job.2.1 31 = .ok (.getfield 134, 3) := by decide +kernel
theorem dd_M_job_34 : decode mt_M_job.2.1 34 = .ok (.iload 4, 2) := by decide +kernel
theorem dd_M_job_36 : decode mt_M_job.2.1 36 = .ok (.iload_n 3, 1) := by decide +kernel
theorem dd_M_job_37 : decode mt_M_job.2.1 37 = .ok (.iastore, 1) := by decide +kernel
theorem dd_M_job_38 : decode mt_M_job.2.1 38 = .ok (.aload_n 0, 1) := by decide +kernel
theorem dd_M_job_39 : decode mt_M_job.2.1 39 = .ok (.dup, 1) := by decide +kernel
theorem dd_M_job_40 : decode mt_M_job.2.1 40 = .ok (.getfield 153, 3) := by decide +kernel
theorem dd_M_job_43 : decode mt_M_job.2.1 43 = .ok (.iconst 1, 1) := by decide +kernel
theorem dd_M_job_44 : decode mt_M_job.2.1 44 = .ok (.iadd, 1) := by decide +kernel
theorem dd_M_job_45 : decode mt_M_job.2.1 45 = .ok (.putfield 153, 3) := by decide +kernel
theorem dd_M_job_48 : decode mt_M_job.2.1 48 = .ok (.return_, 1) := by decide +kernel
theorem dd_M_sizeOf_0 : decode mt_M_sizeOf.2.1 0 = .ok (.iload_n 2, 1) := by decide +kernel
theorem dd_M_sizeOf_1 : decode mt_M_sizeOf.2.1 1 = .ok (.ifCond .eq 10, 3) := by decide +kernel
theorem dd_M_sizeOf_4 : decode mt_M_sizeOf.2.1 4 = .ok (.iload_n 1, 1) := by decide +kernel
theorem dd_M_sizeOf_5 : decode mt_M_sizeOf.2.1 5 = .ok (.bipush 7, 2) := by decide +kernel
theorem dd_M_sizeOf_7 : decode mt_M_sizeOf.2.1 7 = .ok (.iand, 1) := by decide +kernel
theorem dd_M_sizeOf_8 : decode mt_M_sizeOf.2.1 8 = .ok (.goto 4, 3) := by decide +kernel
theorem dd_M_sizeOf_11 : decode mt_M_sizeOf.2.1 11 = .ok (.iconst 1, 1) := by decide +kernel
theorem dd_M_sizeOf_12 : decode mt_M_sizeOf.2.1 12 = .ok (.ireturn, 1) := by decide +kernel
theorem dd_M_space_0 : decode mt_M_space.2.1 0 = .ok (.aload_n 0, 1) := by decide +kernel
theorem dd_M_space_1 : decode mt_M_space.2.1 1 = .ok (.getfield 74, 3) := by decide +kernel
theorem dd_M_space_4 : decode mt_M_space.2.1 4 = .ok (.iload_n 1, 1) := by decide +kernel
theorem dd_M_space_5 : decode mt_M_space.2.1 5 = .ok (.iaload, 1) := by decide +kernel
theorem dd_M_space_6 : decode mt_M_space.2.1 6 = .ok (.istore_n 2, 1) := by decide +kernel
theorem dd_M_space_7 : decode mt_M_space.2.1 7 = .ok (.iconst 0, 1) := by decide +kernel
theorem dd_M_space_8 : decode mt_M_space.2.1 8 = .ok (.istore_n 3, 1) := by decide +kernel
theorem dd_M_space_9 : decode mt_M_space.2.1 9 = .ok (.iload_n 3, 1) := by decide +kernel
theorem dd_M_space_10 : decode mt_M_space.2.1 10 = .ok (.aload_n 0, 1) := by decide +kernel
theorem dd_M_space_11 : decode mt_M_space.2.1 11 = .ok (.getfield 86, 3) := by decide +kernel
theorem dd_M_space_14 : decode mt_M_space.2.1 14 = .ok (.iload_n 1, 1) := by decide +kernel
theorem dd_M_space_15 : decode mt_M_space.2.1 15 = .ok (.iaload, 1) := by decide +kernel
theorem dd_M_space_16 : decode mt_M_space.2.1 16 = .ok (.if_icmp .ge 33, 3) := by decide +kernel
theorem dd_M_space_19 : decode mt_M_space.2.1 19 = .ok (.iload_n 2, 1) := by decide +kernel
theorem dd_M_space_20 : decode mt_M_space.2.1 20 = .ok (.aload_n 0, 1) := by decide +kernel
theorem dd_M_space_21 : decode mt_M_space.2.1 21 = .ok (.aload_n 0, 1) := by decide +kernel
theorem dd_M_space_22 : decode mt_M_space.2.1 22 = .ok (.getfield 80, 3) := by decide +kernel
theorem dd_M_space_25 : decode mt_M_space.2.1 25 = .ok (.bipush 16, 2) := by decide +kernel
theorem dd_M_space_27 : decode mt_M_space.2.1 27 = .ok (.iload_n 1, 1) := by decide +kernel
theorem dd_M_space_28 : decode mt_M_space.2.1 28 = .ok (.imul, 1) := by decide +kernel
theorem dd_M_space_29 : decode mt_M_space.2.1 29 = .ok (.iload_n 3, 1) := by decide +kernel
theorem dd_M_space_30 : decode mt_M_space.2.1 30 = .ok (.iadd, 1) := by decide +kernel
theorem dd_M_space_31 : decode mt_M_space.2.1 31 = .ok (.iaload, 1) := by decide +kernel
theorem dd_M_space_32 : decode mt_M_space.2.1 32 = .ok (.aload_n 0, 1) := by decide +kernel
theorem dd_M_space_33 : decode mt_M_space.2.1 33 = .ok (.getfield 77, 3) := by decide +kernel
theorem dd_M_space_36 : decode mt_M_space.2.1 36 = .ok (.iload_n 1, 1) := by decide +kernel
theorem dd_M_space_37 : decode mt_M_space.2.1 37 = .ok (.baload, 1) := by decide +kernel
theorem dd_M_space_38 : decode mt_M_space.2.1 38 = .ok (.invokevirtual 156, 3) := by decide +kernel
theorem dd_M_space_41 : decode mt_M_space.2.1 41 = .ok (.isub, 1) := by decide +kernel
theorem dd_M_space_42 : decode mt_M_space.2.1 42 = .ok (.istore_n 2, 1) := by decide +kernel
theorem dd_M_space_43 : decode mt_M_space.2.1 43 = .ok (.iinc 3 1, 3) := by decide +kernel
theorem dd_M_space_46 : decode mt_M_space.2.1 46 = .ok (.goto (-37), 3) := by decide +kernel
theorem dd_M_space_49 : decode mt_M_space.2.1 49 = .ok (.iload_n 2, 1) := by decide +kernel
theorem dd_M_space_50 : decode mt_M_space.2.1 50 = .ok (.ireturn, 1) := by decide +kernel
theorem dd_M_breaks_0 : decode mt_M_breaks.2.1 0 = .ok (.aload_n 0, 1) := by decide +kernel
theorem dd_M_breaks_1 : decode mt_M_breaks.2.1 1 = .ok (.getfield 68, 3) := by decide +kernel
theorem dd_M_breaks_4 : decode mt_M_breaks.2.1 4 = .ok (.iload_n 1, 1) := by decide +kernel
theorem dd_M_breaks_5 : decode mt_M_breaks.2.1 5 = .ok (.iconst 2, 1) := by decide +kernel
theorem dd_M_breaks_6 : decode mt_M_breaks.2.1 6 = .ok (.iastore, 1) := by decide +kernel
theorem dd_M_breaks_7 : decode mt_M_breaks.2.1 7 = .ok (.iconst 0, 1) := by decide +kernel
theorem dd_M_breaks_8 : decode mt_M_breaks.2.1 8 = .ok (.istore_n 2, 1) := by decide +kernel
theorem dd_M_breaks_9 : decode mt_M_breaks.2.1 9 = .ok (.iload_n 2, 1) := by decide +kernel
theorem dd_M_breaks_10 : decode mt_M_breaks.2.1 10 = .ok (.aload_n 0, 1) := by decide +kernel
theorem dd_M_breaks_11 : decode mt_M_breaks.2.1 11 = .ok (.getfield 86, 3) := by decide +kernel
theorem dd_M_breaks_14 : decode mt_M_breaks.2.1 14 = .ok (.iload_n 1, 1) := by decide +kernel
theorem dd_M_breaks_15 : decode mt_M_breaks.2.1 15 = .ok (.iaload, 1) := by decide +kernel
theorem dd_M_breaks_16 : decode mt_M_breaks.2.1 16 = .ok (.if_icmp .ge 33, 3) := by decide +kernel
theorem dd_M_breaks_19 : decode mt_M_breaks.2.1 19 = .ok (.aload_n 0, 1) := by decide +kernel
theorem dd_M_breaks_20 : decode mt_M_breaks.2.1 20 = .ok (.bipush 10, 2) := by decide +kernel
theorem dd_M_breaks_22 : decode mt_M_breaks.2.1 22 = .ok (.iload_n 1, 1) := by decide +kernel
theorem dd_M_breaks_23 : decode mt_M_breaks.2.1 23 = .ok (.aload_n 0, 1) := by decide +kernel
theorem dd_M_breaks_24 : decode mt_M_breaks.2.1 24 = .ok (.getfield 83, 3) := by decide +kernel
theorem dd_M_breaks_27 : decode mt_M_breaks.2.1 27 = .ok (.bipush 16, 2) := by decide +kernel
theorem dd_M_breaks_29 : decode mt_M_breaks.2.1 29 = .ok (.iload_n 1, 1) := by decide +kernel
theorem dd_M_breaks_30 : decode mt_M_breaks.2.1 30 = .ok (.imul, 1) := by decide +kernel
theorem dd_M_breaks_31 : decode mt_M_breaks.2.1 31 = .ok (.iload_n 2, 1) := by decide +kernel
theorem dd_M_breaks_32 : decode mt_M_breaks.2.1 32 = .ok (.iadd, 1) := by decide +kernel
theorem dd_M_breaks_33 : decode mt_M_breaks.2.1 33 = .ok (.iaload, 1) := by decide +kernel
theorem dd_M_breaks_34 : decode mt_M_breaks.2.1 34 = .ok (.aload_n 0, 1) := by decide +kernel
theorem dd_M_breaks_35 : decode mt_M_breaks.2.1 35 = .ok (.getfield 71, 3) := by decide +kernel
theorem dd_M_breaks_38 : decode mt_M_breaks.2.1 38 = .ok (.iload_n 1, 1) := by decide +kernel
theorem dd_M_breaks_39 : decode mt_M_breaks.2.1 39 = .ok (.iaload, 1) := by decide +kernel
theorem dd_M_breaks_40 : decode mt_M_breaks.2.1 40 = .ok (.invokevirtual 160, 3) := by decide +kernel
theorem dd_M_breaks_43 : decode mt_M_breaks.2.1 43 = .ok (.iinc 2 1, 3) := by decide +kernel
theorem dd_M_breaks_46 : decode mt_M_breaks.2.1 46 = .ok (.goto (-37), 3) := by decide +kernel
theorem dd_M_breaks_49 : decode mt_M_breaks.2.1 49 = .ok (.aload_n 0, 1) := by decide +kernel
theorem dd_M_breaks_50 : decode mt_M_breaks.2.1 50 = .ok (.getfield 86, 3) := by decide +kernel
theorem dd_M_breaks_53 : decode mt_M_breaks.2.1 53 = .ok (.iload_n 1, 1) := by decide +kernel
theorem dd_M_breaks_54 : decode mt_M_breaks.2.1 54 = .ok (.iconst 0, 1) := by decide +kernel
theorem dd_M_breaks_55 : decode mt_M_breaks.2.1 55 = .ok (.iastore, 1) := by decide +kernel
theorem dd_M_breaks_56 : decode mt_M_breaks.2.1 56 = .ok (.aload_n 0, 1) := by decide +kernel
theorem dd_M_breaks_57 : decode mt_M_breaks.2.1 57 = .ok (.getfield 98, 3) := by decide +kernel
theorem dd_M_breaks_60 : decode mt_M_breaks.2.1 60 = .ok (.iload_n 1, 1) := by decide +kernel
theorem dd_M_breaks_61 : decode mt_M_breaks.2.1 61 = .ok (.baload, 1) := by decide +kernel
theorem dd_M_breaks_62 : decode mt_M_breaks.2.1 62 = .ok (.ifCond .eq 56, 3) := by decide +kernel
theorem dd_M_breaks_65 : decode mt_M_breaks.2.1 65 = .ok (.aload_n 0, 1) := by decide +kernel
theorem dd_M_breaks_66 : decode mt_M_breaks.2.1 66 = .ok (.getfield 98, 3) := by decide +kernel
theorem dd_M_breaks_69 : decode mt_M_breaks.2.1 69 = .ok (.iload_n 1, 1) := by decide +kernel
theorem dd_M_breaks_70 : decode mt_M_breaks.2.1 70 = .ok (.iconst 0, 1) := by decide +kernel
theorem dd_M_breaks_71 : decode mt_M_breaks.2.1 71 = .ok (.bastore, 1) := by decide +kernel
theorem dd_M_breaks_72 : decode mt_M_breaks.2.1 72 = .ok (.aload_n 0, 1) := by decide +kernel
theorem dd_M_breaks_73 : decode mt_M_breaks.2.1 73 = .ok (.getfield 104, 3) := by decide +kernel
theorem dd_M_breaks_76 : decode mt_M_breaks.2.1 76 = .ok (.iload_n 1, 1) := by decide +kernel
theorem dd_M_breaks_77 : decode mt_M_breaks.2.1 77 = .ok (.baload, 1) := by decide +kernel
theorem dd_M_breaks_78 : decode mt_M_breaks.2.1 78 = .ok (.ifCond .eq 20, 3) := by decide +kernel
theorem dd_M_breaks_81 : decode mt_M_breaks.2.1 81 = .ok (.aload_n 0, 1) := by decide +kernel
theorem dd_M_breaks_82 : decode mt_M_breaks.2.1 82 = .ok (.bipush 14, 2) := by decide +kernel
theorem dd_M_breaks_84 : decode mt_M_breaks.2.1 84 = .ok (.iload_n 1, 1) := by decide +kernel
theorem dd_M_breaks_85 : decode mt_M_breaks.2.1 85 = .ok (.aload_n 0, 1) := by decide +kernel
theorem dd_M_breaks_86 : decode mt_M_breaks.2.1 86 = .ok (.getfield 71, 3) := by decide +kernel
theorem dd_M_breaks_89 : decode mt_M_breaks.2.1 89 = .ok (.iload_n 1, 1) := by decide +kernel
theorem dd_M_breaks_90 : decode mt_M_breaks.2.1 90 = .ok (.iaload, 1) := by decide +kernel
theorem dd_M_breaks_91 : decode mt_M_breaks.2.1 91 = .ok (.iconst 0, 1) := by decide +kernel
theorem dd_M_breaks_92 : decode mt_M_breaks.2.1 92 = .ok (.invokevirtual 160, 3) := by decide +kernel
theorem dd_M_breaks_95 : decode mt_M_breaks.2.1 95 = .ok (.goto 23, 3) := by decide +kernel
theorem dd_M_breaks_98 : decode mt_M_breaks.2.1 98 = .ok (.aload_n 0, 1) := by decide +kernel
theorem dd_M_breaks_99 : decode mt_M_breaks.2.1 99 = .ok (.getfield 95, 3) := by decide +kernel
theorem dd_M_breaks_102 : decode mt_M_breaks.2.1 102 = .ok (.iload_n 1, 1) := by decide +kernel
theorem dd_M_breaks_103 : decode mt_M_breaks.2.1 103 = .ok (.iconst 5, 1) := by decide +kernel
theorem dd_M_breaks_104 : decode mt_M_breaks.2.1 104 = .ok (.iastore, 1) := by decide +kernel
theorem dd_M_breaks_105 : decode mt_M_breaks.2.1 105 = .ok (.aload_n 0, 1) := by decide +kernel
theorem dd_M_breaks_106 : decode mt_M_breaks.2.1 106 = .ok (.iconst 5, 1) := by decide +kernel
theorem dd_M_breaks_107 : decode mt_M_breaks.2.1 107 = .ok (.iload_n 1, 1) := by decide +kernel
theorem dd_M_breaks_108 : decode mt_M_breaks.2.1 108 = .ok (.aload_n 0, 1) := by decide +kernel
theorem dd_M_breaks_109 : decode mt_M_breaks.2.1 109 = .ok (.getfield 101, 3) := by decide +kernel
theorem dd_M_breaks_112 : decode mt_M_breaks.2.1 112 = .ok (.iload_n 1, 1) := by decide +kernel
theorem dd_M_breaks_113 : decode mt_M_breaks.2.1 113 = .ok (.iaload, 1) := by decide +kernel
theorem dd_M_breaks_114 : decode mt_M_breaks.2.1 114 = .ok (.iconst 0, 1) := by decide +kernel
theorem dd_M_breaks_115 : decode mt_M_breaks.2.1 115 = .ok (.invokevirtual 160, 3) := by decide +kernel
theorem dd_M_breaks_118 : decode mt_M_breaks.2.1 118 = .ok (.aload_n 0, 1) := by decide +kernel
theorem dd_M_breaks_119 : decode mt_M_breaks.2.1 119 = .ok (.getfield 95, 3) := by decide +kernel
theorem dd_M_breaks_122 : decode mt_M_breaks.2.1 122 = .ok (.iload_n 1, 1) := by decide +kernel
theorem dd_M_breaks_123 : decode mt_M_breaks.2.1 123 = .ok (.iaload, 1) := by decide +kernel
theorem dd_M_breaks_124 : decode mt_M_breaks.2.1 124 = .ok (.iconst 5, 1) := by decide +kernel
theorem dd_M_breaks_125 : decode mt_M_breaks.2.1 125 = .ok (.if_icmp .eq 33, 3) := by decide +kernel
theorem dd_M_breaks_128 : decode mt_M_breaks.2.1 128 = .ok (.aload_n 0, 1) := by decide +kernel
theorem dd_M_breaks_129 : decode mt_M_breaks.2.1 129 = .ok (.getfield 92, 3) := by decide +kernel
theorem dd_M_breaks_132 : decode mt_M_breaks.2.1 132 = .ok (.iload_n 1, 1) := by decide +kernel
theorem dd_M_breaks_133 : decode mt_M_breaks.2.1 133 = .ok (.baload, 1) := by decide +kernel
theorem dd_M_breaks_134 : decode mt_M_breaks.2.1 134 = .ok (.ifCond .eq 24, 3) := by decide +kernel
theorem dd_M_breaks_137 : decode mt_M_breaks.2.1 137 = .ok (.aload_n 0, 1) := by decide +kernel
theorem dd_M_breaks_138 : decode mt_M_breaks.2.1 138 = .ok (.getfield 92, 3) := by decide +kernel
theorem dd_M_breaks_141 : decode mt_M_breaks.2.1 141 = .ok (.iload_n 1, 1) := by decide +kernel
theorem dd_M_breaks_142 : decode mt_M_breaks.2.1 142 = .ok (.iconst 0, 1) := by decide +kernel
theorem dd_M_breaks_143 : decode mt_M_breaks.2.1 143 = .ok (.bastore, 1) := by decide +kernel
theorem dd_M_breaks_144 : decode mt_M_breaks.2.1 144 = .ok (.aload_n 0, 1) := by decide +kernel
theorem dd_M_breaks_145 : decode mt_M_breaks.2.1 145 = .ok (.bipush 12, 2) := by decide +kernel
theorem dd_M_breaks_147 : decode mt_M_breaks.2.1 147 = .ok (.iload_n 1, 1) := by decide +kernel
theorem dd_M_breaks_148 : decode mt_M_breaks.2.1 148 = .ok (.aload_n 0, 1) := by decide +kernel
theorem dd_M_breaks_149 : decode mt_M_breaks.2.1 149 = .ok (.getfield 71, 3) := by decide +kernel
theorem dd_M_breaks_152 : decode mt_M_breaks.2.1 152 = .ok (.iload_n 1, 1) := by decide +kernel
theorem dd_M_breaks_153 : decode mt_M_breaks.2.1 153 = .ok (.iaload, 1) := by decide +kernel
theorem dd_M_breaks_154 : decode mt_M_breaks.2.1 154 = .ok (.iconst 0, 1) := by decide +kernel
theorem dd_M_breaks_155 : decode mt_M_breaks.2.1 155 = .ok (.invokevirtual 160, 3) := by decide +kernel
theorem dd_M_breaks_158 : decode mt_M_breaks.2.1 158 = .ok (.return_, 1) := by decide +kernel
theorem dd_M_goesOn_0 : decode mt_M_goesOn.2.1 0 = .ok (.aload_n 0, 1) := by decide +kernel
theorem dd_M_goesOn_1 : decode mt_M_goesOn.2.1 1 = .ok (.getfield 95, 3) := by decide +kernel
theorem dd_M_goesOn_4 : decode mt_M_goesOn.2.1 4 = .ok (.iload_n 1, 1) := by decide +kernel
theorem dd_M_goesOn_5 : decode mt_M_goesOn.2.1 5 = .ok (.iaload, 1) := by decide +kernel
theorem dd_M_goesOn_6 : decode mt_M_goesOn.2.1 6 = .ok (.ifCond .eq 4, 3) := by decide +kernel
theorem dd_M_goesOn_9 : decode mt_M_goesOn.2.1 9 = .ok (.return_, 1) := by decide +kernel
theorem dd_M_goesOn_10 : decode mt_M_goesOn.2.1 10 = .ok (.aload_n 0, 1) := by decide +kernel
theorem dd_M_goesOn_11 : decode mt_M_goesOn.2.1 11 = .ok (.getfield 68, 3) := by decide +kernel
theorem dd_M_goesOn_14 : decode mt_M_goesOn.2.1 14 = .ok (.iload_n 1, 1) := by decide +kernel
theorem dd_M_goesOn_15 : decode mt_M_goesOn.2.1 15 = .ok (.iaload, 1) := by decide +kernel
theorem dd_M_goesOn_16 : decode mt_M_goesOn.2.1 16 = .ok (.iconst 1, 1) := by decide +kernel
theorem dd_M_goesOn_17 : decode mt_M_goesOn.2.1 17 = .ok (.if_icmp .ne 11, 3) := by decide +kernel
theorem dd_M_goesOn_20 : decode mt_M_goesOn.2.1 20 = .ok (.aload_n 0, 1) := by decide +kernel
theorem dd_M_goesOn_21 : decode mt_M_goesOn.2.1 21 = .ok (.iload_n 1, 1) := by decide +kernel
theorem dd_M_goesOn_22 : decode mt_M_goesOn.2.1 22 = .ok (.invokevirtual 164, 3) := by decide +kernel
theorem dd_M_goesOn_25 : decode mt_M_goesOn.2.1 25 = .ok (.goto 87, 3) := by decide +kernel
theorem dd_M_goesOn_28 : decode mt_M_goesOn.2.1 28 = .ok (.aload_n 0, 1) := by decide +kernel
theorem dd_M_goesOn_29 : decode mt_M_goesOn.2.1 29 = .ok (.getfield 68, 3) := by decide +kernel
theorem dd_M_goesOn_32 : decode mt_M_goesOn.2.1 32 = .ok (.iload_n 1, 1) := by decide +kernel
theorem dd_M_goesOn_33 : decode mt_M_goesOn.2.1 33 = .ok (.iaload, 1) := by decide +kernel
theorem dd_M_goesOn_34 : decode mt_M_goesOn.2.1 34 = .ok (.ifCond .ne 38, 3) := by decide +kernel
theorem dd_M_goesOn_37 : decode mt_M_goesOn.2.1 37 = .ok (.aload_n 0, 1) := by decide +kernel
theorem dd_M_goesOn_38 : decode mt_M_goesOn.2.1 38 = .ok (.getfield 86, 3) := by decide +kernel
theorem dd_M_goesOn_41 : decode mt_M_goesOn.2.1 41 = .ok (.iload_n 1, 1) := by decide +kernel
theorem dd_M_goesOn_42 : decode mt_M_goesOn.2.1 42 = .ok (.iaload, 1) := by decide +kernel
theorem dd_M_goesOn_43 : decode mt_M_goesOn.2.1 43 = .ok (.ifCond .le 29, 3) := by decide +kernel
theorem dd_M_goesOn_46 : decode mt_M_goesOn.2.1 46 = .ok (.aload_n 0, 1) := by decide +kernel
theorem dd_M_goesOn_47 : decode mt_M_goesOn.2.1 47 = .ok (.getfield 95, 3) := by decide +kernel
theorem dd_M_goesOn_50 : decode mt_M_goesOn.2.1 50 = .ok (.iload_n 1, 1) := by decide +kernel
theorem dd_M_goesOn_51 : decode mt_M_goesOn.2.1 51 = .ok (.iconst 3, 1) := by decide +kernel
theorem dd_M_goesOn_52 : decode mt_M_goesOn.2.1 52 = .ok (.iastore, 1) := by decide +kernel
theorem dd_M_goesOn_53 : decode mt_M_goesOn.2.1 53 = .ok (.aload_n 0, 1) := by decide +kernel
theorem dd_M_goesOn_54 : decode mt_M_goesOn.2.1 54 = .ok (.iconst 3, 1) := by decide +kernel
theorem dd_M_goesOn_55 : decode mt_M_goesOn.2.1 55 = .ok (.iload_n 1, 1) := by decide +kernel
theorem dd_M_goesOn_56 : decode mt_M_goesOn.2.1 56 = .ok (.aload_n 0, 1) := by decide +kernel
theorem dd_M_goesOn_57 : decode mt_M_goesOn.2.1 57 = .ok (.getfield 80, 3) := by decide +kernel
theorem dd_M_goesOn_60 : decode mt_M_goesOn.2.1 60 = .ok (.bipush 16, 2) := by decide +kernel
theorem dd_M_goesOn_62 : decode mt_M_goesOn.2.1 62 = .ok (.iload_n 1, 1) := by decide +kernel
theorem dd_M_goesOn_63 : decode mt_M_goesOn.2.1 63 = .ok (.imul, 1) := by decide +kernel
theorem dd_M_goesOn_64 : decode mt_M_goesOn.2.1 64 = .ok (.iaload, 1) := by decide +kernel
theorem dd_M_goesOn_65 : decode mt_M_goesOn.2.1 65 = .ok (.iconst 0, 1) := by decide +kernel
theorem dd_M_goesOn_66 : decode mt_M_goesOn.2.1 66 = .ok (.invokevirtual 160, 3) := by decide +kernel
theorem dd_M_goesOn_69 : decode mt_M_goesOn.2.1 69 = .ok (.goto 43, 3) := by decide +kernel
theorem dd_M_goesOn_72 : decode mt_M_goesOn.2.1 72 = .ok (.aload_n 0, 1) := by decide +kernel
theorem dd_M_goesOn_73 : decode mt_M_goesOn.2.1 73 = .ok (.getfield 68, 3) := by decide +kernel
theorem dd_M_goesOn_76 : decode mt_M_goesOn.2.1 76 = .ok (.iload_n 1, 1) := by decide +kernel
theorem dd_M_goesOn_77 : decode mt_M_goesOn.2.1 77 = .ok (.iaload, 1) := by decide +kernel
theorem dd_M_goesOn_78 : decode mt_M_goesOn.2.1 78 = .ok (.ifCond .ne 34, 3) := by decide +kernel
theorem dd_M_goesOn_81 : decode mt_M_goesOn.2.1 81 = .ok (.aload_n 0, 1) := by decide +kernel
theorem dd_M_goesOn_82 : decode mt_M_goesOn.2.1 82 = .ok (.getfield 92, 3) := by decide +kernel
theorem dd_M_goesOn_85 : decode mt_M_goesOn.2.1 85 = .ok (.iload_n 1, 1) := by decide +kernel
theorem dd_M_goesOn_86 : decode mt_M_goesOn.2.1 86 = .ok (.baload, 1) := by decide +kernel
theorem dd_M_goesOn_87 : decode mt_M_goesOn.2.1 87 = .ok (.ifCond .eq 25, 3) := by decide +kernel
theorem dd_M_goesOn_90 : decode mt_M_goesOn.2.1 90 = .ok (.aload_n 0, 1) := by decide +kernel
theorem dd_M_goesOn_91 : decode mt_M_goesOn.2.1 91 = .ok (.getfield 92, 3) := by decide +kernel
theorem dd_M_goesOn_94 : decode mt_M_goesOn.2.1 94 = .ok (.iload_n 1, 1) := by decide +kernel
theorem dd_M_goesOn_95 : decode mt_M_goesOn.2.1 95 = .ok (.iconst 0, 1) := by decide +kernel
theorem dd_M_goesOn_96 : decode mt_M_goesOn.2.1 96 = .ok (.bastore, 1) := by decide +kernel
theorem dd_M_goesOn_97 : decode mt_M_goesOn.2.1 97 = .ok (.aload_n 0, 1) := by decide +kernel
theorem dd_M_goesOn_98 : decode mt_M_goesOn.2.1 98 = .ok (.getfield 95, 3) := by decide +kernel
theorem dd_M_goesOn_101 : decode mt_M_goesOn.2.1 101 = .ok (.iload_n 1, 1) := by decide +kernel
theorem dd_M_goesOn_102 : decode mt_M_goesOn.2.1 102 = .ok (.iconst 4, 1) := by decide +kernel
theorem dd_M_goesOn_103 : decode mt_M_goesOn.2.1 103 = .ok (.iastore, 1) := by decide +kernel
theorem dd_M_goesOn_104 : decode mt_M_goesOn.2.1 104 = .ok (.aload_n 0, 1) := by decide +kernel
theorem dd_M_goesOn_105 : decode mt_M_goesOn.2.1 105 = .ok (.iconst 4, 1) := by decide +kernel
theorem dd_M_goesOn_106 : decode mt_M_goesOn.2.1 106 = .ok (.iload_n 1, 1) := by decide +kernel
theorem dd_M_goesOn_107 : decode mt_M_goesOn.2.1 107 = .ok (.iconst 0, 1) := by decide +kernel
theorem dd_M_goesOn_108 : decode mt_M_goesOn.2.1 108 = .ok (.iconst 0, 1) := by decide +kernel
theorem dd_M_goesOn_109 : decode mt_M_goesOn.2.1 109 = .ok (.invokevirtual 160, 3) := by decide +kernel
theorem dd_M_goesOn_112 : decode mt_M_goesOn.2.1 112 = .ok (.return_, 1) := by decide +kernel
theorem dd_M_startFailing_0 : decode mt_M_startFailing.2.1 0 = .ok (.aload_n 0, 1) := by decide +kernel
theorem dd_M_startFailing_1 : decode mt_M_startFailing.2.1 1 = .ok (.getfield 68, 3) := by decide +kernel
theorem dd_M_startFailing_4 : decode mt_M_startFailing.2.1 4 = .ok (.iload_n 1, 1) := by decide +kernel
theorem dd_M_startFailing_5 : decode mt_M_startFailing.2.1 5 = .ok (.iconst 1, 1) := by decide +kernel
theorem dd_M_startFailing_6 : decode mt_M_startFailing.2.1 6 = .ok (.iastore, 1) := by decide +kernel
theorem dd_M_startFailing_7 : decode mt_M_startFailing.2.1 7 = .ok (.aload_n 0, 1) := by decide +kernel
theorem dd_M_startFailing_8 : decode mt_M_startFailing.2.1 8 = .ok (.getfield 71, 3) := by decide +kernel
theorem dd_M_startFailing_11 : decode mt_M_startFailing.2.1 11 = .ok (.iload_n 1, 1) := by decide +kernel
theorem dd_M_startFailing_12 : decode mt_M_startFailing.2.1 12 = .ok (.iload_n 2, 1) := by decide +kernel
theorem dd_M_startFailing_13 : decode mt_M_startFailing.2.1 13 = .ok (.iastore, 1) := by decide +kernel
theorem dd_M_startFailing_14 : decode mt_M_startFailing.2.1 14 = .ok (.aload_n 0, 1) := by decide +kernel
theorem dd_M_startFailing_15 : decode mt_M_startFailing.2.1 15 = .ok (.getfield 95, 3) := by decide +kernel
theorem dd_M_startFailing_18 : decode mt_M_startFailing.2.1 18 = .ok (.iload_n 1, 1) := by decide +kernel
theorem dd_M_startFailing_19 : decode mt_M_startFailing.2.1 19 = .ok (.iaload, 1) := by decide +kernel
theorem dd_M_startFailing_20 : decode mt_M_startFailing.2.1 20 = .ok (.iconst 3, 1) := by decide +kernel
theorem dd_M_startFailing_21 : decode mt_M_startFailing.2.1 21 = .ok (.if_icmp .eq 18, 3) := by decide +kernel
theorem dd_M_startFailing_24 : decode mt_M_startFailing.2.1 24 = .ok (.aload_n 0, 1) := by decide +kernel
theorem dd_M_startFailing_25 : decode mt_M_startFailing.2.1 25 = .ok (.getfield 95, 3) := by decide +kernel
theorem dd_M_startFailing_28 : decode mt_M_startFailing.2.1 28 = .ok (.iload_n 1, 1) := by decide +kernel
theorem dd_M_startFailing_29 : decode mt_M_startFailing.2.1 29 = .ok (.iaload, 1) := by decide +kernel
theorem dd_M_startFailing_30 : decode mt_M_startFailing.2.1 30 = .ok (.iconst 4, 1) := by decide +kernel
theorem dd_M_startFailing_31 : decode mt_M_startFailing.2.1 31 = .ok (.if_icmp .eq 8, 3) := by decide +kernel
theorem dd_M_startFailing_34 : decode mt_M_startFailing.2.1 34 = .ok (.aload_n 0, 1) := by decide +kernel
theorem dd_M_startFailing_35 : decode mt_M_startFailing.2.1 35 = .ok (.iload_n 1, 1) := by decide +kernel
theorem dd_M_startFailing_36 : decode mt_M_startFailing.2.1 36 = .ok (.invokevirtual 164, 3) := by decide +kernel
theorem dd_M_startFailing_39 : decode mt_M_startFailing.2.1 39 = .ok (.return_, 1) := by decide +kernel
theorem dd_M_writeTo_0 : decode mt_M_writeTo.2.1 0 = .ok (.aload_n 0, 1) := by decide +kernel
theorem dd_M_writeTo_1 : decode mt_M_writeTo.2.1 1 = .ok (.getfield 89, 3) := by decide +kernel
theorem dd_M_writeTo_4 : decode mt_M_writeTo.2.1 4 = .ok (.iload_n 1, 1) := by decide +kernel
theorem dd_M_writeTo_5 : decode mt_M_writeTo.2.1 5 = .ok (.dup2, 1) := by decide +kernel
theorem dd_M_writeTo_6 : decode mt_M_writeTo.2.1 6 = .ok (.iaload, 1) := by decide +kernel
theorem dd_M_writeTo_7 : decode mt_M_writeTo.2.1 7 = .ok (.iconst 1, 1) := by decide +kernel
theorem dd_M_writeTo_8 : decode mt_M_writeTo.2.1 8 = .ok (.iadd, 1) := by decide +kernel
theorem dd_M_writeTo_9 : decode mt_M_writeTo.2.1 9 = .ok (.iastore, 1) := by decide +kernel
theorem dd_M_writeTo_10 : decode mt_M_writeTo.2.1 10 = .ok (.aload_n 0, 1) := by decide +kernel
theorem dd_M_writeTo_11 : decode mt_M_writeTo.2.1 11 = .ok (.getfield 89, 3) := by decide +kernel
theorem dd_M_writeTo_14 : decode mt_M_writeTo.2.1 14 = .ok (.iload_n 1, 1) := by decide +kernel
theorem dd_M_writeTo_15 : decode mt_M_writeTo.2.1 15 = .ok (.iaload, 1) := by decide +kernel
theorem dd_M_writeTo_16 : decode mt_M_writeTo.2.1 16 = .ok (.istore_n 3, 1) := by decide +kernel
theorem dd_M_writeTo_17 : decode mt_M_writeTo.2.1 17 = .ok (.aload_n 0, 1) := by decide +kernel
theorem dd_M_writeTo_18 : decode mt_M_writeTo.2.1 18 = .ok (.getfield 68, 3) := by decide +kernel
theorem dd_M_writeTo_21 : decode mt_M_writeTo.2.1 21 = .ok (.iload_n 1, 1) := by decide +kernel
theorem dd_M_writeTo_22 : decode mt_M_writeTo.2.1 22 = .ok (.iaload, 1) := by decide +kernel
theorem dd_M_writeTo_23 : decode mt_M_writeTo.2.1 23 = .ok (.iconst 1, 1) := by decide +kernel
theorem dd_M_writeTo_24 : decode mt_M_writeTo.2.1 24 = .ok (.if_icmp .eq 13, 3) := by decide +kernel
theorem dd_M_writeTo_27 : decode mt_M_writeTo.2.1 27 = .ok (.aload_n 0, 1) := by decide +kernel
theorem dd_M_writeTo_28 : decode mt_M_writeTo.2.1 28 = .ok (.getfield 68, 3) := by decide +kernel
theorem dd_M_writeTo_31 : decode mt_M_writeTo.2.1 31 = .ok (.iload_n 1, 1) := by decide +kernel
theorem dd_M_writeTo_32 : decode mt_M_writeTo.2.1 32 = .ok (.iaload, 1) := by decide +kernel
theorem dd_M_writeTo_33 : decode mt_M_writeTo.2.1 33 = .ok (.iconst 2, 1) := by decide +kernel
theorem dd_M_writeTo_34 : decode mt_M_writeTo.2.1 34 = .ok (.if_icmp .ne 20, 3) := by decide +kernel
theorem dd_M_writeTo_37 : decode mt_M_writeTo.2.1 37 = .ok (.aload_n 0, 1) := by decide +kernel
theorem dd_M_writeTo_38 : decode mt_M_writeTo.2.1 38 = .ok (.bipush 10, 2) := by decide +kernel
theorem dd_M_writeTo_40 : decode mt_M_writeTo.2.1 40 = .ok (.iload_n 1, 1) := by decide +kernel
theorem dd_M_writeTo_41 : decode mt_M_writeTo.2.1 41 = .ok (.iload_n 3, 1) := by decide +kernel
theorem dd_M_writeTo_42 : decode mt_M_writeTo.2.1 42 = .ok (.aload_n 0, 1) := by decide +kernel
theorem dd_M_writeTo_43 : decode mt_M_writeTo.2.1 43 = .ok (.getfield 71, 3) := by decide +kernel
theorem dd_M_writeTo_46 : decode mt_M_writeTo.2.1 46 = .ok (.iload_n 1, 1) := by decide +kernel
theorem dd_M_writeTo_47 : decode mt_M_writeTo.2.1 47 = .ok (.iaload, 1) := by decide +kernel
theorem dd_M_writeTo_48 : decode mt_M_writeTo.2.1 48 = .ok (.invokevirtual 160, 3) := by decide +kernel
theorem dd_M_writeTo_51 : decode mt_M_writeTo.2.1 51 = .ok (.goto 94, 3) := by decide +kernel
theorem dd_M_writeTo_54 : decode mt_M_writeTo.2.1 54 = .ok (.aload_n 0, 1) := by decide +kernel
theorem dd_M_writeTo_55 : decode mt_M_writeTo.2.1 55 = .ok (.getfield 92, 3) := by decide +kernel
theorem dd_M_writeTo_58 : decode mt_M_writeTo.2.1 58 = .ok (.iload_n 1, 1) := by decide +kernel
theorem dd_M_writeTo_59 : decode mt_M_writeTo.2.1 59 = .ok (.baload, 1) := by decide +kernel
theorem dd_M_writeTo_60 : decode mt_M_writeTo.2.1 60 = .ok (.ifCond .ne 23, 3) := by decide +kernel
theorem dd_M_writeTo_63 : decode mt_M_writeTo.2.1 63 = .ok (.aload_n 0, 1) := by decide +kernel
theorem dd_M_writeTo_64 : decode mt_M_writeTo.2.1 64 = .ok (.getfield 95, 3) := by decide +kernel
theorem dd_M_writeTo_67 : decode mt_M_writeTo.2.1 67 = .ok (.iload_n 1, 1) := by decide +kernel
theorem dd_M_writeTo_68 : decode mt_M_writeTo.2.1 68 = .ok (.iaload, 1) := by decide +kernel
theorem dd_M_writeTo_69 : decode mt_M_writeTo.2.1 69 = .ok (.iconst 4, 1) := by decide +kernel
theorem dd_M_writeTo_70 : decode mt_M_writeTo.2.1 70 = .ok (.if_icmp .eq 13, 3) := by decide +kernel
theorem dd_M_writeTo_73 : decode mt_M_writeTo.2.1 73 = .ok (.aload_n 0, 1) := by decide +kernel
theorem dd_M_writeTo_74 : decode mt_M_writeTo.2.1 74 = .ok (.getfield 68, 3) := by decide +kernel
theorem dd_M_writeTo_77 : decode mt_M_writeTo.2.1 77 = .ok (.iload_n 1, 1) := by decide +kernel
theorem dd_M_writeTo_78 : decode mt_M_writeTo.2.1 78 = .ok (.iaload, 1) := by decide +kernel
theorem dd_M_writeTo_79 : decode mt_M_writeTo.2.1 79 = .ok (.iconst 3, 1) := by decide +kernel
theorem dd_M_writeTo_80 : decode mt_M_writeTo.2.1 80 = .ok (.if_icmp .ne 16, 3) := by decide +kernel
theorem dd_M_writeTo_83 : decode mt_M_writeTo.2.1 83 = .ok (.aload_n 0, 1) := by decide +kernel
theorem dd_M_writeTo_84 : decode mt_M_writeTo.2.1 84 = .ok (.bipush 10, 2) := by decide +kernel
theorem dd_M_writeTo_86 : decode mt_M_writeTo.2.1 86 = .ok (.iload_n 1, 1) := by decide +kernel
theorem dd_M_writeTo_87 : decode mt_M_writeTo.2.1 87 = .ok (.iload_n 3, 1) := by decide +kernel
theorem dd_M_writeTo_88 : decode mt_M_writeTo.2.1 88 = .ok (.bipush 100, 2) := by decide +kernel
theorem dd_M_writeTo_90 : decode mt_M_writeTo.2.1 90 = .ok (.invokevirtual 160, 3) := by decide +kernel
theorem dd_M_writeTo_93 : decode mt_M_writeTo.2.1 93 = .ok (.goto 52, 3) := by decide +kernel
theorem dd_M_writeTo_96 : decode mt_M_writeTo.2.1 96 = .ok (.aload_n 0, 1) := by decide +kernel
theorem dd_M_writeTo_97 : decode mt_M_writeTo.2.1 97 = .ok (.getfield 80, 3) := by decide +kernel
theorem dd_M_writeTo_100 : decode mt_M_writeTo.2.1 100 = .ok (.bipush 16, 2) := by decide +kernel
theorem dd_M_writeTo_102 : decode mt_M_writeTo.2.1 102 = .ok (.iload_n 1, 1) := by decide +kernel
theorem dd_M_writeTo_103 : decode mt_M_writeTo.2.1 103 = .ok (.imul, 1) := by decide +kernel
theorem dd_M_writeTo_104 : decode mt_M_writeTo.2.1 104 = .ok (.aload_n 0, 1) := by decide +kernel
theorem dd_M_writeTo_105 : decode mt_M_writeTo.2.1 105 = .ok (.getfield 86, 3) := by decide +kernel
theorem dd_M_writeTo_108 : decode mt_M_writeTo.2.1 108 = .ok (.iload_n 1, 1) := by decide +kernel
theorem dd_M_writeTo_109 : decode mt_M_writeTo.2.1 109 = .ok (.iaload, 1) := by decide +kernel
theorem dd_M_writeTo_110 : decode mt_M_writeTo.2.1 110 = .ok (.iadd, 1) := by decide +kernel
theorem dd_M_writeTo_111 : decode mt_M_writeTo.2.1 111 = .ok (.iload_n 2, 1) := by decide +kernel
theorem dd_M_writeTo_112 : decode mt_M_writeTo.2.1 112 = .ok (.iastore, 1) := by decide +kernel
theorem dd_M_writeTo_113 : decode mt_M_writeTo.2.1 113 = .ok (.aload_n 0, 1) := by decide +kernel
theorem dd_M_writeTo_114 : decode mt_M_writeTo.2.1 114 = .ok (.getfield 83, 3) := by decide +kernel
theorem dd_M_writeTo_117 : decode mt_M_writeTo.2.1 117 = .ok (.bipush 16, 2) := by decide +kernel
theorem dd_M_writeTo_119 : decode mt_M_writeTo.2.1 119 = .ok (.iload_n 1, 1) := by decide +kernel
theorem dd_M_writeTo_120 : decode mt_M_writeTo.2.1 120 = .ok (.imul, 1) := by decide +kernel
theorem dd_M_writeTo_121 : decode mt_M_writeTo.2.1 121 = .ok (.aload_n 0, 1) := by decide +kernel
theorem dd_M_writeTo_122 : decode mt_M_writeTo.2.1 122 = .ok (.getfield 86, 3) := by decide +kernel
theorem dd_M_writeTo_125 : decode mt_M_writeTo.2.1 125 = .ok (.iload_n 1, 1) := by decide +kernel
theorem dd_M_writeTo_126 : decode mt_M_writeTo.2.1 126 = .ok (.iaload, 1) := by decide +kernel
theorem dd_M_writeTo_127 : decode mt_M_writeTo.2.1 127 = .ok (.iadd, 1) := by decide +kernel
theorem dd_M_writeTo_128 : decode mt_M_writeTo.2.1 128 = .ok (.iload_n 3, 1) := by decide +kernel
theorem dd_M_writeTo_129 : decode mt_M_writeTo.2.1 129 = .ok (.iastore, 1) := by decide +kernel
theorem dd_M_writeTo_130 : decode mt_M_writeTo.2.1 130 = .ok (.aload_n 0, 1) := by decide +kernel
theorem dd_M_writeTo_131 : decode mt_M_writeTo.2.1 131 = .ok (.getfield 86, 3) := by decide +kernel
theorem dd_M_writeTo_134 : decode mt_M_writeTo.2.1 134 = .ok (.iload_n 1, 1) := by decide +kernel
theorem dd_M_writeTo_135 : decode mt_M_writeTo.2.1 135 = .ok (.dup2, 1) := by decide +kernel
theorem dd_M_writeTo_136 : decode mt_M_writeTo.2.1 136 = .ok (.iaload, 1) := by decide +kernel
theorem dd_M_writeTo_137 : decode mt_M_writeTo.2.1 137 = .ok (.iconst 1, 1) := by decide +kernel
theorem dd_M_writeTo_138 : decode mt_M_writeTo.2.1 138 = .ok (.iadd, 1) := by decide +kernel
theorem dd_M_writeTo_139 : decode mt_M_writeTo.2.1 139 = .ok (.iastore, 1) := by decide +kernel
theorem dd_M_writeTo_140 : decode mt_M_writeTo.2.1 140 = .ok (.aload_n 0, 1) := by decide +kernel
theorem dd_M_writeTo_141 : decode mt_M_writeTo.2.1 141 = .ok (.iload_n 1, 1) := by decide +kernel
theorem dd_M_writeTo_142 : decode mt_M_writeTo.2.1 142 = .ok (.invokevirtual 168, 3) := by decide +kernel
theorem dd_M_writeTo_145 : decode mt_M_writeTo.2.1 145 = .ok (.iload_n 3, 1) := by decide +kernel
theorem dd_M_writeTo_146 : decode mt_M_writeTo.2.1 146 = .ok (.ireturn, 1) := by decide +kernel
theorem dd_M_failsOrBreaks_0 : decode mt_M_failsOrBreaks.2.1 0 = .ok (.aload_n 0, 1) := by decide +kernel
theorem dd_M_failsOrBreaks_1 : decode mt_M_failsOrBreaks.2.1 1 = .ok (.getfield 68, 3) := by decide +kernel
theorem dd_M_failsOrBreaks_4 : decode mt_M_failsOrBreaks.2.1 4 = .ok (.iload_n 1, 1) := by decide +kernel
theorem dd_M_failsOrBreaks_5 : decode mt_M_failsOrBreaks.2.1 5 = .ok (.iaload, 1) := by decide +kernel
theorem dd_M_failsOrBreaks_6 : decode mt_M_failsOrBreaks.2.1 6 = .ok (.ifCond .ne 12, 3) := by decide +kernel
theorem dd_M_failsOrBreaks_9 : decode mt_M_failsOrBreaks.2.1 9 = .ok (.aload_n 0, 1) := by decide +kernel
theorem dd_M_failsOrBreaks_10 : decode mt_M_failsOrBreaks.2.1 10 = .ok (.iload_n 1, 1) := by decide +kernel
theorem dd_M_failsOrBreaks_11 : decode mt_M_failsOrBreaks.2.1 11 = .ok (.iload_n 2, 1) := by decide +kernel
theorem dd_M_failsOrBreaks_12 : decode mt_M_failsOrBreaks.2.1 12 = .ok (.invokevirtual 175, 3) := by decide +kernel
theorem dd_M_failsOrBreaks_15 : decode mt_M_failsOrBreaks.2.1 15 = .ok (.goto 8, 3) := by decide +kernel
theorem dd_M_failsOrBreaks_18 : decode mt_M_failsOrBreaks.2.1 18 = .ok (.aload_n 0, 1) := by decide +kernel
theorem dd_M_failsOrBreaks_19 : decode mt_M_failsOrBreaks.2.1 19 = .ok (.iload_n 1, 1) := by decide +kernel
theorem dd_M_failsOrBreaks_20 : decode mt_M_failsOrBreaks.2.1 20 = .ok (.invokevirtual 164, 3) := by decide +kernel
theorem dd_M_failsOrBreaks_23 : decode mt_M_failsOrBreaks.2.1 23 = .ok (.return_, 1) := by decide +kernel
theorem dd_M_written_0 : decode mt_M_written.2.1 0 = .ok (.aload_n 0, 1) := by decide +kernel
theorem dd_M_written_1 : decode mt_M_written.2.1 1 = .ok (.getfield 95, 3) := by decide +kernel
theorem dd_M_written_4 : decode mt_M_written.2.1 4 = .ok (.iload_n 1, 1) := by decide +kernel
theorem dd_M_written_5 : decode mt_M_written.2.1 5 = .ok (.iconst 0, 1) := by decide +kernel
theorem dd_M_written_6 : decode mt_M_written.2.1 6 = .ok (.iastore, 1) := by decide +kernel
theorem dd_M_written_7 : decode mt_M_written.2.1 7 = .ok (.aload_n 0, 1) := by decide +kernel
theorem dd_M_written_8 : decode mt_M_written.2.1 8 = .ok (.getfield 83, 3) := by decide +kernel
theorem dd_M_written_11 : decode mt_M_written.2.1 11 = .ok (.bipush 16, 2) := by decide +kernel
theorem dd_M_written_13 : decode mt_M_written.2.1 13 = .ok (.iload_n 1, 1) := by decide +kernel
theorem dd_M_written_14 : decode mt_M_written.2.1 14 = .ok (.imul, 1) := by decide +kernel
theorem dd_M_written_15 : decode mt_M_written.2.1 15 = .ok (.iaload, 1) := by decide +kernel
theorem dd_M_written_16 : decode mt_M_written.2.1 16 = .ok (.istore_n 3, 1) := by decide +kernel
theorem dd_M_written_17 : decode mt_M_written.2.1 17 = .ok (.aload_n 0, 1) := by decide +kernel
theorem dd_M_written_18 : decode mt_M_written.2.1 18 = .ok (.getfield 86, 3) := by decide +kernel
theorem dd_M_written_21 : decode mt_M_written.2.1 21 = .ok (.iload_n 1, 1) := by decide +kernel
theorem dd_M_written_22 : decode mt_M_written.2.1 22 = .ok (.dup2, 1) := by decide +kernel
theorem dd_M_written_23 : decode mt_M_written.2.1 23 = .ok (.iaload, 1) := by decide +kernel
theorem dd_M_written_24 : decode mt_M_written.2.1 24 = .ok (.iconst 1, 1) := by decide +kernel
theorem dd_M_written_25 : decode mt_M_written.2.1 25 = .ok (.isub, 1) := by decide +kernel
theorem dd_M_written_26 : decode mt_M_written.2.1 26 = .ok (.iastore, 1) := by decide +kernel
theorem dd_M_written_27 : decode mt_M_written.2.1 27 = .ok (.bipush 16, 2) := by decide +kernel
theorem dd_M_written_29 : decode mt_M_written.2.1 29 = .ok (.iload_n 1, 1) := by decide +kernel
theorem dd_M_written_30 : decode mt_M_written.2.1 30 = .ok (.imul, 1) := by decide +kernel
theorem dd_M_written_31 : decode mt_M_written.2.1 31 = .ok (.istore 4, 2) := by decide +kernel
theorem dd_M_written_33 : decode mt_M_written.2.1 33 = .ok (.iload 4, 2) := by decide +kernel
theorem dd_M_written_35 : decode mt_M_written.2.1 35 = .ok (.bipush 16, 2) := by decide +kernel
theorem dd_M_written_37 : decode mt_M_written.2.1 37 = .ok (.iload_n 1, 1) := by decide +kernel
theorem dd_M_written_38 : decode mt_M_written.2.1 38 = .ok (.imul, 1) := by decide +kernel
theorem dd_M_written_39 : decode mt_M_written.2.1 39 = .ok (.aload_n 0, 1) := by decide +kernel
theorem dd_M_written_40 : decode mt_M_written.2.1 40 = .ok (.getfield 86, 3) := by decide +kernel
theorem dd_M_written_43 : decode mt_M_written.2.1 43 = .ok (.iload_n 1, 1) := by decide +kernel
theorem dd_M_written_44 : decode mt_M_written.2.1 44 = .ok (.iaload, 1) := by decide +kernel
theorem dd_M_written_45 : decode mt_M_written.2.1 45 = .ok (.iadd, 1) := by decide +kernel
theorem dd_M_written_46 : decode mt_M_written.2.1 46 = .ok (.if_icmp .ge 41, 3) := by decide +kernel
theorem dd_M_written_49 : decode mt_M_written.2.1 49 = .ok (.aload_n 0, 1) := by decide +kernel
theorem dd_M_written_50 : decode mt_M_written.2.1 50 = .ok (.getfield 80, 3) := by decide +kernel
theorem dd_M_written_53 : decode mt_M_written.2.1 53 = .ok (.iload 4, 2) := by decide +kernel
theorem dd_M_written_55 : decode mt_M_written.2.1 55 = .ok (.aload_n 0, 1) := by decide +kernel
theorem dd_M_written_56 : decode mt_M_written.2.1 56 = .ok (.getfield 80, 3) := by decide +kernel
theorem dd_M_written_59 : decode mt_M_written.2.1 59 = .ok (.iload 4, 2) := by decide +kernel
theorem dd_M_written_61 : decode mt_M_written.2.1 61 = .ok (.iconst 1, 1) := by decide +kernel
theorem dd_M_written_62 : decode mt_M_written.2.1 62 = .ok (.iadd, 1) := by decide +kernel
theorem dd_M_written_63 : decode mt_M_written.2.1 63 = .ok (.iaload, 1) := by decide +kernel
theorem dd_M_written_64 : decode mt_M_written.2.1 64 = .ok (.iastore, 1) := by decide +kernel
theorem dd_M_written_65 : decode mt_M_written.2.1 65 = .ok (.aload_n 0, 1) := by decide +kernel
theorem dd_M_written_66 : decode mt_M_written.2.1 66 = .ok (.getfield 83, 3) := by decide +kernel
theorem dd_M_written_69 : decode mt_M_written.2.1 69 = .ok (.iload 4, 2) := by decide +kernel
theorem dd_M_written_71 : decode mt_M_written.2.1 71 = .ok (.aload_n 0, 1) := by decide +kernel
theorem dd_M_written_72 : decode mt_M_written.2.1 72 = .ok (.getfield 83, 3) := by decide +kernel
theorem dd_M_written_75 : decode mt_M_written.2.1 75 = .ok (.iload 4, 2) := by decide +kernel
theorem dd_M_written_77 : decode mt_M_written.2.1 77 = .ok (.iconst 1, 1) := by decide +kernel
theorem dd_M_written_78 : decode mt_M_written.2.1 78 = .ok (.iadd, 1) := by decide +kernel
theorem dd_M_written_79 : decode mt_M_written.2.1 79 = .ok (.iaload, 1) := by decide +kernel
theorem dd_M_written_80 : decode mt_M_written.2.1 80 = .ok (.iastore, 1) := by decide +kernel
theorem dd_M_written_81 : decode mt_M_written.2.1 81 = .ok (.iinc 4 1, 3) := by decide +kernel
theorem dd_M_written_84 : decode mt_M_written.2.1 84 = .ok (.goto (-51), 3) := by decide +kernel
theorem dd_M_written_87 : decode mt_M_written.2.1 87 = .ok (.iload_n 2, 1) := by decide +kernel
theorem dd_M_written_88 : decode mt_M_written.2.1 88 = .ok (.iconst (-1), 1) := by decide +kernel
theorem dd_M_written_89 : decode mt_M_written.2.1 89 = .ok (.if_icmp .ne 20, 3) := by decide +kernel
theorem dd_M_written_92 : decode mt_M_written.2.1 92 = .ok (.aload_n 0, 1) := by decide +kernel
theorem dd_M_written_93 : decode mt_M_written.2.1 93 = .ok (.bipush 9, 2) := by decide +kernel
theorem dd_M_written_95 : decode mt_M_written.2.1 95 = .ok (.iload_n 1, 1) := by decide +kernel
theorem dd_M_written_96 : decode mt_M_written.2.1 96 = .ok (.iload_n 3, 1) := by decide +kernel
theorem dd_M_written_97 : decode mt_M_written.2.1 97 = .ok (.iconst 0, 1) := by decide +kernel
theorem dd_M_written_98 : decode mt_M_written.2.1 98 = .ok (.invokevirtual 160, 3) := by decide +kernel
theorem dd_M_written_101 : decode mt_M_written.2.1 101 = .ok (.aload_n 0, 1) := by decide +kernel
theorem dd_M_written_102 : decode mt_M_written.2.1 102 = .ok (.iload_n 1, 1) := by decide +kernel
theorem dd_M_written_103 : decode mt_M_written.2.1 103 = .ok (.invokevirtual 168, 3) := by decide +kernel
theorem dd_M_written_106 : decode mt_M_written.2.1 106 = .ok (.goto 18, 3) := by decide +kernel
theorem dd_M_written_109 : decode mt_M_written.2.1 109 = .ok (.aload_n 0, 1) := by decide +kernel
theorem dd_M_written_110 : decode mt_M_written.2.1 110 = .ok (.bipush 10, 2) := by decide +kernel
theorem dd_M_written_112 : decode mt_M_written.2.1 112 = .ok (.iload_n 1, 1) := by decide +kernel
theorem dd_M_written_113 : decode mt_M_written.2.1 113 = .ok (.iload_n 3, 1) := by decide +kernel
theorem dd_M_written_114 : decode mt_M_written.2.1 114 = .ok (.iload_n 2, 1) := by decide +kernel
theorem dd_M_written_115 : decode mt_M_written.2.1 115 = .ok (.invokevirtual 160, 3) := by decide +kernel
theorem dd_M_written_118 : decode mt_M_written.2.1 118 = .ok (.aload_n 0, 1) := by decide +kernel
theorem dd_M_written_119 : decode mt_M_written.2.1 119 = .ok (.iload_n 1, 1) := by decide +kernel
theorem dd_M_written_120 : decode mt_M_written.2.1 120 = .ok (.iload_n 2, 1) := by decide +kernel
theorem dd_M_written_121 : decode mt_M_written.2.1 121 = .ok (.invokevirtual 171, 3) := by decide +kernel
theorem dd_M_written_124 : decode mt_M_written.2.1 124 = .ok (.return_, 1) := by decide +kernel
