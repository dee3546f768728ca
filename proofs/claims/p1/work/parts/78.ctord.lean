theorem dX11_init_0 : decode cX11_init 0 = .ok (.aload_n 0, 1) := by decide +kernel
theorem dX11_init_1 : decode cX11_init 1 = .ok (.invokespecial 1, 3) := by decide +kernel
theorem dX11_init_4 : decode cX11_init 4 = .ok (.aload_n 0, 1) := by decide +kernel
theorem dX11_init_5 : decode cX11_init 5 = .ok (.sipush 1620, 3) := by decide +kernel
theorem dX11_init_8 : decode cX11_init 8 = .ok (.newarray .byte, 2) := by decide +kernel
theorem dX11_init_10 : decode cX11_init 10 = .ok (.putfield 7, 3) := by decide +kernel
theorem dX11_init_13 : decode cX11_init 13 = .ok (.aload_n 0, 1) := by decide +kernel
theorem dX11_init_14 : decode cX11_init 14 = .ok (.sipush 1600, 3) := by decide +kernel
theorem dX11_init_17 : decode cX11_init 17 = .ok (.newarray .byte, 2) := by decide +kernel
theorem dX11_init_19 : decode cX11_init 19 = .ok (.putfield 13, 3) := by decide +kernel
theorem dX11_init_22 : decode cX11_init 22 = .ok (.aload_n 0, 1) := by decide +kernel
theorem dX11_init_23 : decode cX11_init 23 = .ok (.iconst (-1), 1) := by decide +kernel
theorem dX11_init_24 : decode cX11_init 24 = .ok (.putfield 16, 3) := by decide +kernel
theorem dX11_init_27 : decode cX11_init 27 = .ok (.aload_n 0, 1) := by decide +kernel
theorem dX11_init_28 : decode cX11_init 28 = .ok (.iconst 2, 1) := by decide +kernel
theorem dX11_init_29 : decode cX11_init 29 = .ok (.newarray .int, 2) := by decide +kernel
theorem dX11_init_31 : decode cX11_init 31 = .ok (.putfield 20, 3) := by decide +kernel
theorem dX11_init_34 : decode cX11_init 34 = .ok (.aload_n 0, 1) := by decide +kernel
theorem dX11_init_35 : decode cX11_init 35 = .ok (.iconst 2, 1) := by decide +kernel
theorem dX11_init_36 : decode cX11_init 36 = .ok (.newarray .int, 2) := by decide +kernel
theorem dX11_init_38 : decode cX11_init 38 = .ok (.putfield 24, 3) := by decide +kernel
theorem dX11_init_41 : decode cX11_init 41 = .ok (.aload_n 0, 1) := by decide +kernel
theorem dX11_init_42 : decode cX11_init 42 = .ok (.iconst 2, 1) := by decide +kernel
theorem dX11_init_43 : decode cX11_init 43 = .ok (.newarray .int, 2) := by decide +kernel
theorem dX11_init_45 : decode cX11_init 45 = .ok (.putfield 27, 3) := by decide +kernel
theorem dX11_init_48 : decode cX11_init 48 = .ok (.aload_n 0, 1) := by decide +kernel
theorem dX11_init_49 : decode cX11_init 49 = .ok (.iconst 2, 1) := by decide +kernel
theorem dX11_init_50 : decode cX11_init 50 = .ok (.newarray .int, 2) := by decide +kernel
theorem dX11_init_52 : decode cX11_init 52 = .ok (.putfield 30, 3) := by decide +kernel
theorem dX11_init_55 : decode cX11_init 55 = .ok (.aload_n 0, 1) := by decide +kernel
theorem dX11_init_56 : decode cX11_init 56 = .ok (.iconst 2, 1) := by decide +kernel
theorem dX11_init_57 : decode cX11_init 57 = .ok (.newarray .int, 2) := by decide +kernel
theorem dX11_init_59 : decode cX11_init 59 = .ok (.putfield 33, 3) := by decide +kernel
theorem dX11_init_62 : decode cX11_init 62 = .ok (.aload_n 0, 1) := by decide +kernel
theorem dX11_init_63 : decode cX11_init 63 = .ok (.iconst 2, 1) := by decide +kernel
theorem dX11_init_64 : decode cX11_init 64 = .ok (.newarray .int, 2) := by decide +kernel
theorem dX11_init_66 : decode cX11_init 66 = .ok (.putfield 36, 3) := by decide +kernel
theorem dX11_init_69 : decode cX11_init 69 = .ok (.aload_n 0, 1) := by decide +kernel
theorem dX11_init_70 : decode cX11_init 70 = .ok (.iconst 2, 1) := by decide +kernel
theorem dX11_init_71 : decode cX11_init 71 = .ok (.newarray .int, 2) := by decide +kernel
theorem dX11_init_73 : decode cX11_init 73 = .ok (.putfield 39, 3) := by decide +kernel
theorem dX11_init_76 : decode cX11_init 76 = .ok (.aload_n 0, 1) := by decide +kernel
theorem dX11_init_77 : decode cX11_init 77 = .ok (.iconst 2, 1) := by decide +kernel
theorem dX11_init_78 : decode cX11_init 78 = .ok (.newarray .int, 2) := by decide +kernel
theorem dX11_init_80 : decode cX11_init 80 = .ok (.putfield 42, 3) := by decide +kernel
theorem dX11_init_83 : decode cX11_init 83 = .ok (.aload_n 0, 1) := by decide +kernel
theorem dX11_init_84 : decode cX11_init 84 = .ok (.bipush 12, 2) := by decide +kernel
theorem dX11_init_86 : decode cX11_init 86 = .ok (.newarray .int, 2) := by decide +kernel
theorem dX11_init_88 : decode cX11_init 88 = .ok (.putfield 45, 3) := by decide +kernel
theorem dX11_init_91 : decode cX11_init 91 = .ok (.aload_n 0, 1) := by decide +kernel
theorem dX11_init_92 : decode cX11_init 92 = .ok (.bipush 12, 2) := by decide +kernel
theorem dX11_init_94 : decode cX11_init 94 = .ok (.newarray .int, 2) := by decide +kernel
theorem dX11_init_96 : decode cX11_init 96 = .ok (.putfield 48, 3) := by decide +kernel
theorem dX11_init_99 : decode cX11_init 99 = .ok (.aload_n 0, 1) := by decide +kernel
theorem dX11_init_100 : decode cX11_init 100 = .ok (.bipush 20, 2) := by decide +kernel
theorem dX11_init_102 : decode cX11_init 102 = .ok (.newarray .int, 2) := by decide +kernel
theorem dX11_init_104 : decode cX11_init 104 = .ok (.putfield 51, 3) := by decide +kernel
theorem dX11_init_107 : decode cX11_init 107 = .ok (.aload_n 0, 1) := by decide +kernel
theorem dX11_init_108 : decode cX11_init 108 = .ok (.bipush 20, 2) := by decide +kernel
theorem dX11_init_110 : decode cX11_init 110 = .ok (.newarray .int, 2) := by decide +kernel
theorem dX11_init_112 : decode cX11_init 112 = .ok (.putfield 54, 3) := by decide +kernel
theorem dX11_init_115 : decode cX11_init 115 = .ok (.aload_n 0, 1) := by decide +kernel
theorem dX11_init_116 : decode cX11_init 116 = .ok (.iconst 2, 1) := by decide +kernel
theorem dX11_init_117 : decode cX11_init 117 = .ok (.newarray .int, 2) := by decide +kernel
theorem dX11_init_119 : decode cX11_init 119 = .ok (.putfield 57, 3) := by decide +kernel
theorem dX11_init_122 : decode cX11_init 122 = .ok (.aload_n 0, 1) := by decide +kernel
theorem dX11_init_123 : decode cX11_init 123 = .ok (.bipush 12, 2) := by decide +kernel
theorem dX11_init_125 : decode cX11_init 125 = .ok (.newarray .int, 2) := by decide +kernel
theorem dX11_init_127 : decode cX11_init 127 = .ok (.putfield 60, 3) := by decide +kernel
theorem dX11_init_130 : decode cX11_init 130 = .ok (.aload_n 0, 1) := by decide +kernel
theorem dX11_init_131 : decode cX11_init 131 = .ok (.bipush 72, 2) := by decide +kernel
theorem dX11_init_133 : decode cX11_init 133 = .ok (.newarray .int, 2) := by decide +kernel
theorem dX11_init_135 : decode cX11_init 135 = .ok (.putfield 63, 3) := by decide +kernel
theorem dX11_init_138 : decode cX11_init 138 = .ok (.aload_n 0, 1) := by decide +kernel
theorem dX11_init_139 : decode cX11_init 139 = .ok (.bipush 12, 2) := by decide +kernel
theorem dX11_init_141 : decode cX11_init 141 = .ok (.newarray .int, 2) := by decide +kernel
theorem dX11_init_143 : decode cX11_init 143 = .ok (.putfield 66, 3) := by decide +kernel
theorem dX11_init_146 : decode cX11_init 146 = .ok (.aload_n 0, 1) := by decide +kernel
theorem dX11_init_147 : decode cX11_init 147 = .ok (.iconst 2, 1) := by decide +kernel
theorem dX11_init_148 : decode cX11_init 148 = .ok (.newarray .int, 2) := by decide +kernel
theorem dX11_init_150 : decode cX11_init 150 = .ok (.putfield 69, 3) := by decide +kernel
theorem dX11_init_153 : decode cX11_init 153 = .ok (.aload_n 0, 1) := by decide +kernel
theorem dX11_init_154 : decode cX11_init 154 = .ok (.iconst 2, 1) := by decide +kernel
theorem dX11_init_155 : decode cX11_init 155 = .ok (.newarray .int, 2) := by decide +kernel
theorem dX11_init_157 : decode cX11_init 157 = .ok (.putfield 72, 3) := by decide +kernel
theorem dX11_init_160 : decode cX11_init 160 = .ok (.aload_n 0, 1) := by decide +kernel
theorem dX11_init_161 : decode cX11_init 161 = .ok (.iconst 2, 1) := by decide +kernel
theorem dX11_init_162 : decode cX11_init 162 = .ok (.newarray .boolean, 2) := by decide +kernel
theorem dX11_init_164 : decode cX11_init 164 = .ok (.putfield 75, 3) := by decide +kernel
theorem dX11_init_167 : decode cX11_init 167 = .ok (.aload_n 0, 1) := by decide +kernel
theorem dX11_init_168 : decode cX11_init 168 = .ok (.iconst 2, 1) := by decide +kernel
theorem dX11_init_169 : decode cX11_init 169 = .ok (.newarray .boolean, 2) := by decide +kernel
theorem dX11_init_171 : decode cX11_init 171 = .ok (.putfield 79, 3) := by decide +kernel
theorem dX11_init_174 : decode cX11_init 174 = .ok (.aload_n 0, 1) := by decide +kernel
theorem dX11_init_175 : decode cX11_init 175 = .ok (.iconst 2, 1) := by decide +kernel
theorem dX11_init_176 : decode cX11_init 176 = .ok (.newarray .boolean, 2) := by decide +kernel
theorem dX11_init_178 : decode cX11_init 178 = .ok (.putfield 82, 3) := by decide +kernel
theorem dX11_init_181 : decode cX11_init 181 = .ok (.aload_n 0, 1) := by decide +kernel
theorem dX11_init_182 : decode cX11_init 182 = .ok (.iconst 2, 1) := by decide +kernel
theorem dX11_init_183 : decode cX11_init 183 = .ok (.newarray .boolean, 2) := by decide +kernel
theorem dX11_init_185 : decode cX11_init 185 = .ok (.putfield 85, 3) := by decide +kernel
theorem dX11_init_188 : decode cX11_init 188 = .ok (.aload_n 0, 1) := by decide +kernel
theorem dX11_init_189 : decode cX11_init 189 = .ok (.bipush 12, 2) := by decide +kernel
theorem dX11_init_191 : decode cX11_init 191 = .ok (.newarray .long, 2) := by decide +kernel
theorem dX11_init_193 : decode cX11_init 193 = .ok (.putfield 88, 3) := by decide +kernel
theorem dX11_init_196 : decode cX11_init 196 = .ok (.aload_n 0, 1) := by decide +kernel
theorem dX11_init_197 : decode cX11_init 197 = .ok (.bipush 20, 2) := by decide +kernel
theorem dX11_init_199 : decode cX11_init 199 = .ok (.newarray .long, 2) := by decide +kernel
theorem dX11_init_201 : decode cX11_init 201 = .ok (.putfield 92, 3) := by decide +kernel
theorem dX11_init_204 : decode cX11_init 204 = .ok (.aload_n 0, 1) := by decide +kernel
theorem dX11_init_205 : decode cX11_init 205 = .ok (.sipush 1120, 3) := by decide +kernel
theorem dX11_init_208 : decode cX11_init 208 = .ok (.newarray .int, 2) := by decide +kernel
theorem dX11_init_210 : decode cX11_init 210 = .ok (.putfield 95, 3) := by decide +kernel
theorem dX11_init_213 : decode cX11_init 213 = .ok (.aload_n 0, 1) := by decide +kernel
theorem dX11_init_214 : decode cX11_init 214 = .ok (.sipush 1120, 3) := by decide +kernel
theorem dX11_init_217 : decode cX11_init 217 = .ok (.newarray .int, 2) := by decide +kernel
theorem dX11_init_219 : decode cX11_init 219 = .ok (.putfield 98, 3) := by decide +kernel
theorem dX11_init_222 : decode cX11_init 222 = .ok (.aload_n 0, 1) := by decide +kernel
theorem dX11_init_223 : decode cX11_init 223 = .ok (.bipush 90, 2) := by decide +kernel
theorem dX11_init_225 : decode cX11_init 225 = .ok (.newarray .int, 2) := by decide +kernel
theorem dX11_init_227 : decode cX11_init 227 = .ok (.putfield 101, 3) := by decide +kernel
theorem dX11_init_230 : decode cX11_init 230 = .ok (.aload_n 0, 1) := by decide +kernel
theorem dX11_init_231 : decode cX11_init 231 = .ok (.bipush 90, 2) := by decide +kernel
theorem dX11_init_233 : decode cX11_init 233 = .ok (.newarray .int, 2) := by decide +kernel
theorem dX11_init_235 : decode cX11_init 235 = .ok (.putfield 104, 3) := by decide +kernel
theorem dX11_init_238 : decode cX11_init 238 = .ok (.aload_n 0, 1) := by decide +kernel
theorem dX11_init_239 : decode cX11_init 239 = .ok (.bipush 60, 2) := by decide +kernel
theorem dX11_init_241 : decode cX11_init 241 = .ok (.newarray .int, 2) := by decide +kernel
theorem dX11_init_243 : decode cX11_init 243 = .ok (.putfield 107, 3) := by decide +kernel
theorem dX11_init_246 : decode cX11_init 246 = .ok (.aload_n 0, 1) := by decide +kernel
theorem dX11_init_247 : decode cX11_init 247 = .ok (.bipush 16, 2) := by decide +kernel
theorem dX11_init_249 : decode cX11_init 249 = .ok (.newarray .int, 2) := by decide +kernel
theorem dX11_init_251 : decode cX11_init 251 = .ok (.putfield 110, 3) := by decide +kernel
theorem dX11_init_254 : decode cX11_init 254 = .ok (.aload_n 0, 1) := by decide +kernel
theorem dX11_init_255 : decode cX11_init 255 = .ok (.bipush 6, 2) := by decide +kernel
theorem dX11_init_257 : decode cX11_init 257 = .ok (.newarray .int, 2) := by decide +kernel
theorem dX11_init_259 : decode cX11_init 259 = .ok (.putfield 113, 3) := by decide +kernel
theorem dX11_init_262 : decode cX11_init 262 = .ok (.aload_n 0, 1) := by decide +kernel
theorem dX11_init_263 : decode cX11_init 263 = .ok (.sipush 656, 3) := by decide +kernel
theorem dX11_init_266 : decode cX11_init 266 = .ok (.newarray .int, 2) := by decide +kernel
theorem dX11_init_268 : decode cX11_init 268 = .ok (.putfield 116, 3) := by decide +kernel
theorem dX11_init_271 : decode cX11_init 271 = .ok (.aload_n 0, 1) := by decide +kernel
theorem dX11_init_272 : decode cX11_init 272 = .ok (.bipush 16, 2) := by decide +kernel
theorem dX11_init_274 : decode cX11_init 274 = .ok (.newarray .int, 2) := by decide +kernel
theorem dX11_init_276 : decode cX11_init 276 = .ok (.putfield 119, 3) := by decide +kernel
theorem dX11_init_279 : decode cX11_init 279 = .ok (.aload_n 0, 1) := by decide +kernel
theorem dX11_init_280 : decode cX11_init 280 = .ok (.bipush 7, 2) := by decide +kernel
theorem dX11_init_282 : decode cX11_init 282 = .ok (.newarray .int, 2) := by decide +kernel
theorem dX11_init_284 : decode cX11_init 284 = .ok (.putfield 122, 3) := by decide +kernel
theorem dX11_init_287 : decode cX11_init 287 = .ok (.aload_n 0, 1) := by decide +kernel
theorem dX11_init_288 : decode cX11_init 288 = .ok (.bipush 6, 2) := by decide +kernel
theorem dX11_init_290 : decode cX11_init 290 = .ok (.newarray .int, 2) := by decide +kernel
theorem dX11_init_292 : decode cX11_init 292 = .ok (.putfield 125, 3) := by decide +kernel
theorem dX11_init_295 : decode cX11_init 295 = .ok (.aload_n 0, 1) := by decide +kernel
theorem dX11_init_296 : decode cX11_init 296 = .ok (.bipush 6, 2) := by decide +kernel
theorem dX11_init_298 : decode cX11_init 298 = .ok (.newarray .int, 2) := by decide +kernel
theorem dX11_init_300 : decode cX11_init 300 = .ok (.putfield 128, 3) := by decide +kernel
theorem dX11_init_303 : decode cX11_init 303 = .ok (.aload_n 0, 1) := by decide +kernel
theorem dX11_init_304 : decode cX11_init 304 = .ok (.bipush 30, 2) := by decide +kernel
theorem dX11_init_306 : decode cX11_init 306 = .ok (.newarray .int, 2) := by decide +kernel
theorem dX11_init_308 : decode cX11_init 308 = .ok (.putfield 131, 3) := by decide +kernel
theorem dX11_init_311 : decode cX11_init 311 = .ok (.aload_n 0, 1) := by decide +kernel
theorem dX11_init_312 : decode cX11_init 312 = .ok (.bipush 30, 2) := by decide +kernel
theorem dX11_init_314 : decode cX11_init 314 = .ok (.newarray .int, 2) := by decide +kernel
theorem dX11_init_316 : decode cX11_init 316 = .ok (.putfield 134, 3) := by decide +kernel
theorem dX11_init_319 : decode cX11_init 319 = .ok (.aload_n 0, 1) := by decide +kernel
theorem dX11_init_320 : decode cX11_init 320 = .ok (.bipush 30, 2) := by decide +kernel
theorem dX11_init_322 : decode cX11_init 322 = .ok (.newarray .int, 2) := by decide +kernel
theorem dX11_init_324 : decode cX11_init 324 = .ok (.putfield 137, 3) := by decide +kernel
theorem dX11_init_327 : decode cX11_init 327 = .ok (.aload_n 0, 1) := by decide +kernel
theorem dX11_init_328 : decode cX11_init 328 = .ok (.bipush 30, 2) := by decide +kernel
theorem dX11_init_330 : decode cX11_init 330 = .ok (.newarray .int, 2) := by decide +kernel
theorem dX11_init_332 : decode cX11_init 332 = .ok (.putfield 140, 3) := by decide +kernel
theorem dX11_init_335 : decode cX11_init 335 = .ok (.aload_n 0, 1) := by decide +kernel
theorem dX11_init_336 : decode cX11_init 336 = .ok (.bipush 30, 2) := by decide +kernel
theorem dX11_init_338 : decode cX11_init 338 = .ok (.newarray .int, 2) := by decide +kernel
theorem dX11_init_340 : decode cX11_init 340 = .ok (.putfield 143, 3) := by decide +kernel
theorem dX11_init_343 : decode cX11_init 343 = .ok (.aload_n 0, 1) := by decide +kernel
theorem dX11_init_344 : decode cX11_init 344 = .ok (.bipush 36, 2) := by decide +kernel
theorem dX11_init_346 : decode cX11_init 346 = .ok (.newarray .int, 2) := by decide +kernel
theorem dX11_init_348 : decode cX11_init 348 = .ok (.putfield 146, 3) := by decide +kernel
theorem dX11_init_351 : decode cX11_init 351 = .ok (.aload_n 0, 1) := by decide +kernel
theorem dX11_init_352 : decode cX11_init 352 = .ok (.bipush 48, 2) := by decide +kernel
theorem dX11_init_354 : decode cX11_init 354 = .ok (.newarray .int, 2) := by decide +kernel
theorem dX11_init_356 : decode cX11_init 356 = .ok (.putfield 149, 3) := by decide +kernel
theorem dX11_init_359 : decode cX11_init 359 = .ok (.aload_n 0, 1) := by decide +kernel
theorem dX11_init_360 : decode cX11_init 360 = .ok (.iconst 3, 1) := by decide +kernel
theorem dX11_init_361 : decode cX11_init 361 = .ok (.newarray .boolean, 2) := by decide +kernel
theorem dX11_init_363 : decode cX11_init 363 = .ok (.putfield 152, 3) := by decide +kernel
theorem dX11_init_366 : decode cX11_init 366 = .ok (.aload_n 0, 1) := by decide +kernel
theorem dX11_init_367 : decode cX11_init 367 = .ok (.invokevirtual 155, 3) := by decide +kernel
theorem dX11_init_370 : decode cX11_init 370 = .ok (.aload_n 0, 1) := by decide +kernel
theorem dX11_init_371 : decode cX11_init 371 = .ok (.invokevirtual 158, 3) := by decide +kernel
theorem dX11_init_374 : decode cX11_init 374 = .ok (.return_, 1) := by decide +kernel
set_option maxHeartbeats 2000000 in
set_option maxRecDepth 20000 in
theorem c_X11_init (l : Launch) (D : va_G) (cy : Nat → ClassId) (B N : Nat) (M : MM) (hN : (N : Int) = 210 + 1) (hd : DF 210 257 M) (hq : ∀ k, ¬ (210 ≤ k ∧ k < 257) → Rg k M) (hss : SS M) : CN l D cy B N (N + 46) 3 46 6872 yX11_init cX11_init 1 [rv B 210] M (fun M' => Iv M' ∧ RI M' ∧ M'.1 210 64 = 0 ∧ ∀ a b, a < 210 → M'.1 a b = M.1 a b) := by
  refine mk_CN (by decide) rfl (Nat.le_of_ble_eq_true rfl) ?_
  intro X exl exD excy hnL hX hin hRc hRs hret
  have hpl : pl 210 = ((68 : Nat) : Int) := pl_o (r := (RX11, TX11, 68)) (by decide +kernel : kd 210 = .inl 11) rfl
  have hG : F2 210 257 M M := F2.rf
  have hD : DF 211 257 M := hd.sub (by omega) (Int.le_refl _)
  have hU : UL 210 [] M := UL_0 (hd.at _ (by omega) (by omega))
  have hR : RR 211 211 M := RR_0
  show J X B N 0 0 0 [(0, rv B 210)] [] M
  refine j_aload_n hX dX11_init_0 rfl 0 rfl ?_
  refine j_objInit hX (in_5 187 (by first | rfl | decide +kernel) rfl) (in_1 28 (by first | rfl | decide +kernel) rfl) (in_1 29 (by first | rfl | decide +kernel) rfl) (by omega) (Nat.le_of_ble_eq_true rfl) dX11_init_1 ?_
  refine j_aload_n hX dX11_init_4 rfl 0 rfl ?_
  refine j_sipush hX dX11_init_5 rfl ?_
  refine j_newa hX (k := 211) (by omega) (t := 1) (n := 1620) rfl (by decide) (in_1 126 (by first | rfl | decide +kernel) rfl) (by decide +kernel : kd 211 = .inr (1, 1620)) rfl (by decide) (hD.at _ (by omega) (by omega)) ⟨by omega, by omega⟩ dX11_init_8 ?_
  have hR1 : RR 211 212 M := RR_s hR (Rg_plain (by omega) (by omega) (by decide +kernel : kd 211 = .inr (1, 1620)) (by decide) (hD.at _ (by omega) (by omega))) (by omega)
  refine pfF_X11_7 hX hin (by omega) (by omega) (by decide +kernel : kd 210 = .inl 11) (by omega) (by omega) dX11_init_10 ?_
  refine j_upN (fun M2 hM3 hf4 => ?_)
  have hG5 := F2.put hG hM3 ⟨by omega, by omega⟩
  have hD6 := DF_up hD hM3 (by omega)
  have hU7 := UL_up hU hM3
  have hR8 := RR_up hR1 hM3 (Or.inl (by omega))
  refine j_aload_n hX dX11_init_13 rfl 0 rfl ?_
  refine j_sipush hX dX11_init_14 rfl ?_
  refine j_newa hX (k := 212) (by omega) (t := 1) (n := 1600) rfl (by decide) (in_1 126 (by first | rfl | decide +kernel) rfl) (by decide +kernel : kd 212 = .inr (1, 1600)) rfl (by decide) (hD6.at _ (by omega) (by omega)) ⟨by omega, by omega⟩ dX11_init_17 ?_
  have hR9 : RR 211 213 M2 := RR_s hR8 (Rg_plain (by omega) (by omega) (by decide +kernel : kd 212 = .inr (1, 1600)) (by decide) (hD6.at _ (by omega) (by omega))) (by omega)
  refine pfF_X11_13 hX hin (by omega) (by omega) (by decide +kernel : kd 210 = .inl 11) (by omega) (by omega) dX11_init_19 ?_
  refine j_upN (fun M10 hM11 hf12 => ?_)
  have hG13 := F2.put hG5 hM11 ⟨by omega, by omega⟩
  have hD14 := DF_up hD6 hM11 (by omega)
  have hU15 := UL_up hU7 hM11
  have hR16 := RR_up hR9 hM11 (Or.inl (by omega))
  have hk17 := kp_up hM11 (fun h => absurd h.2 (by decide)) hf4
  clear hf4
  refine j_aload_n hX dX11_init_22 rfl 0 rfl ?_
  refine j_iconst hX dX11_init_23 ?_
  refine pf_X11_16 hX (by omega) (by omega) (by decide +kernel : kd 210 = .inl 11) (by omega) dX11_init_24 ?_
  refine j_upN (fun M18 hM19 hf20 => ?_)
  have hG21 := F2.put hG13 hM19 ⟨by omega, by omega⟩
  have hD22 := DF_up hD14 hM19 (by omega)
  have hU23 := UL_up hU15 hM19
  have hR24 := RR_up hR16 hM19 (Or.inl (by omega))
  have hk25 := kp_up hM19 (fun h => absurd h.2 (by decide)) hk17
  have hk26 := kp_up hM19 (fun h => absurd h.2 (by decide)) hf12
  clear hk17 hf12
  refine j_aload_n hX dX11_init_27 rfl 0 rfl ?_
  refine j_iconst hX dX11_init_28 ?_
  refine j_newa hX (k := 213) (by omega) (t := 0) (n := 2) rfl (by decide) (in_1 163 (by first | rfl | decide +kernel) rfl) (by decide +kernel : kd 213 = .inr (0, 2)) rfl (by decide) (hD22.at _ (by omega) (by omega)) ⟨by omega, by omega⟩ dX11_init_29 ?_
  have hR27 : RR 211 214 M18 := RR_s hR24 (Rg_plain (by omega) (by omega) (by decide +kernel : kd 213 = .inr (0, 2)) (by decide) (hD22.at _ (by omega) (by omega))) (by omega)
  refine pfF_X11_20 hX hin (by omega) (by omega) (by decide +kernel : kd 210 = .inl 11) (by omega) (by omega) dX11_init_31 ?_
  refine j_upN (fun M28 hM29 hf30 => ?_)
  have hG31 := F2.put hG21 hM29 ⟨by omega, by omega⟩
  have hD32 := DF_up hD22 hM29 (by omega)
  have hU33 := UL_up hU23 hM29
  have hR34 := RR_up hR27 hM29 (Or.inl (by omega))
  have hk35 := kp_up hM29 (fun h => absurd h.2 (by decide)) hk25
  have hk36 := kp_up hM29 (fun h => absurd h.2 (by decide)) hk26
  have hk37 := kp_up hM29 (fun h => absurd h.2 (by decide)) hf20
  clear hk25 hk26 hf20
  refine j_aload_n hX dX11_init_34 rfl 0 rfl ?_
  refine j_iconst hX dX11_init_35 ?_
  refine j_newa hX (k := 214) (by omega) (t := 0) (n := 2) rfl (by decide) (in_1 163 (by first | rfl | decide +kernel) rfl) (by decide +kernel : kd 214 = .inr (0, 2)) rfl (by decide) (hD32.at _ (by omega) (by omega)) ⟨by omega, by omega⟩ dX11_init_36 ?_
  have hR38 : RR 211 215 M28 := RR_s hR34 (Rg_plain (by omega) (by omega) (by decide +kernel : kd 214 = .inr (0, 2)) (by decide) (hD32.at _ (by omega) (by omega))) (by omega)
  refine pfF_X11_24 hX hin (by omega) (by omega) (by decide +kernel : kd 210 = .inl 11) (by omega) (by omega) dX11_init_38 ?_
  refine j_upN (fun M39 hM40 hf41 => ?_)
  have hG42 := F2.put hG31 hM40 ⟨by omega, by omega⟩
  have hD43 := DF_up hD32 hM40 (by omega)
  have hU44 := UL_up hU33 hM40
  have hR45 := RR_up hR38 hM40 (Or.inl (by omega))
  have hk46 := kp_up hM40 (fun h => absurd h.2 (by decide)) hk35
  have hk47 := kp_up hM40 (fun h => absurd h.2 (by decide)) hk36
  have hk48 := kp_up hM40 (fun h => absurd h.2 (by decide)) hk37
  have hk49 := kp_up hM40 (fun h => absurd h.2 (by decide)) hf30
  clear hk35 hk36 hk37 hf30
  refine j_aload_n hX dX11_init_41 rfl 0 rfl ?_
  refine j_iconst hX dX11_init_42 ?_
  refine j_newa hX (k := 215) (by omega) (t := 0) (n := 2) rfl (by decide) (in_1 163 (by first | rfl | decide +kernel) rfl) (by decide +kernel : kd 215 = .inr (0, 2)) rfl (by decide) (hD43.at _ (by omega) (by omega)) ⟨by omega, by omega⟩ dX11_init_43 ?_
  have hR50 : RR 211 216 M39 := RR_s hR45 (Rg_plain (by omega) (by omega) (by decide +kernel : kd 215 = .inr (0, 2)) (by decide) (hD43.at _ (by omega) (by omega))) (by omega)
  refine pfF_X11_27 hX hin (by omega) (by omega) (by decide +kernel : kd 210 = .inl 11) (by omega) (by omega) dX11_init_45 ?_
  refine j_upN (fun M51 hM52 hf53 => ?_)
  have hG54 := F2.put hG42 hM52 ⟨by omega, by omega⟩
  have hD55 := DF_up hD43 hM52 (by omega)
  have hU56 := UL_up hU44 hM52
  have hR57 := RR_up hR50 hM52 (Or.inl (by omega))
  have hk58 := kp_up hM52 (fun h => absurd h.2 (by decide)) hk46
  have hk59 := kp_up hM52 (fun h => absurd h.2 (by decide)) hk47
  have hk60 := kp_up hM52 (fun h => absurd h.2 (by decide)) hk48
  have hk61 := kp_up hM52 (fun h => absurd h.2 (by decide)) hk49
  have hk62 := kp_up hM52 (fun h => absurd h.2 (by decide)) hf41
  clear hk46 hk47 hk48 hk49 hf41
  refine j_aload_n hX dX11_init_48 rfl 0 rfl ?_
  refine j_iconst hX dX11_init_49 ?_
  refine j_newa hX (k := 216) (by omega) (t := 0) (n := 2) rfl (by decide) (in_1 163 (by first | rfl | decide +kernel) rfl) (by decide +kernel : kd 216 = .inr (0, 2)) rfl (by decide) (hD55.at _ (by omega) (by omega)) ⟨by omega, by omega⟩ dX11_init_50 ?_
  have hR63 : RR 211 217 M51 := RR_s hR57 (Rg_plain (by omega) (by omega) (by decide +kernel : kd 216 = .inr (0, 2)) (by decide) (hD55.at _ (by omega) (by omega))) (by omega)
  refine pfF_X11_30 hX hin (by omega) (by omega) (by decide +kernel : kd 210 = .inl 11) (by omega) (by omega) dX11_init_52 ?_
  refine j_upN (fun M64 hM65 hf66 => ?_)
  have hG67 := F2.put hG54 hM65 ⟨by omega, by omega⟩
  have hD68 := DF_up hD55 hM65 (by omega)
  have hU69 := UL_up hU56 hM65
  have hR70 := RR_up hR63 hM65 (Or.inl (by omega))
  have hk71 := kp_up hM65 (fun h => absurd h.2 (by decide)) hk58
  have hk72 := kp_up hM65 (fun h => absurd h.2 (by decide)) hk59
  have hk73 := kp_up hM65 (fun h => absurd h.2 (by decide)) hk60
  have hk74 := kp_up hM65 (fun h => absurd h.2 (by decide)) hk61
  have hk75 := kp_up hM65 (fun h => absurd h.2 (by decide)) hk62
  have hk76 := kp_up hM65 (fun h => absurd h.2 (by decide)) hf53
  clear hk58 hk59 hk60 hk61 hk62 hf53
  refine j_aload_n hX dX11_init_55 rfl 0 rfl ?_
  refine j_iconst hX dX11_init_56 ?_
  refine j_newa hX (k := 217) (by omega) (t := 0) (n := 2) rfl (by decide) (in_1 163 (by first | rfl | decide +kernel) rfl) (by decide +kernel : kd 217 = .inr (0, 2)) rfl (by decide) (hD68.at _ (by omega) (by omega)) ⟨by omega, by omega⟩ dX11_init_57 ?_
  have hR77 : RR 211 218 M64 := RR_s hR70 (Rg_plain (by omega) (by omega) (by decide +kernel : kd 217 = .inr (0, 2)) (by decide) (hD68.at _ (by omega) (by omega))) (by omega)
  refine pfF_X11_33 hX hin (by omega) (by omega) (by decide +kernel : kd 210 = .inl 11) (by omega) (by omega) dX11_init_59 ?_
  refine j_upN (fun M78 hM79 hf80 => ?_)
  have hG81 := F2.put hG67 hM79 ⟨by omega, by omega⟩
  have hD82 := DF_up hD68 hM79 (by omega)
  have hU83 := UL_up hU69 hM79
  have hR84 := RR_up hR77 hM79 (Or.inl (by omega))
  have hk85 := kp_up hM79 (fun h => absurd h.2 (by decide)) hk71
  have hk86 := kp_up hM79 (fun h => absurd h.2 (by decide)) hk72
  have hk87 := kp_up hM79 (fun h => absurd h.2 (by decide)) hk73
  have hk88 := kp_up hM79 (fun h => absurd h.2 (by decide)) hk74
  have hk89 := kp_up hM79 (fun h => absurd h.2 (by decide)) hk75
  have hk90 := kp_up hM79 (fun h => absurd h.2 (by decide)) hk76
  have hk91 := kp_up hM79 (fun h => absurd h.2 (by decide)) hf66
  clear hk71 hk72 hk73 hk74 hk75 hk76 hf66
  refine j_aload_n hX dX11_init_62 rfl 0 rfl ?_
  refine j_iconst hX dX11_init_63 ?_
  refine j_newa hX (k := 218) (by omega) (t := 0) (n := 2) rfl (by decide) (in_1 163 (by first | rfl | decide +kernel) rfl) (by decide +kernel : kd 218 = .inr (0, 2)) rfl (by decide) (hD82.at _ (by omega) (by omega)) ⟨by omega, by omega⟩ dX11_init_64 ?_
  have hR92 : RR 211 219 M78 := RR_s hR84 (Rg_plain (by omega) (by omega) (by decide +kernel : kd 218 = .inr (0, 2)) (by decide) (hD82.at _ (by omega) (by omega))) (by omega)
  refine pfF_X11_36 hX hin (by omega) (by omega) (by decide +kernel : kd 210 = .inl 11) (by omega) (by omega) dX11_init_66 ?_
  refine j_upN (fun M93 hM94 hf95 => ?_)
  have hG96 := F2.put hG81 hM94 ⟨by omega, by omega⟩
  have hD97 := DF_up hD82 hM94 (by omega)
  have hU98 := UL_up hU83 hM94
  have hR99 := RR_up hR92 hM94 (Or.inl (by omega))
  have hk100 := kp_up hM94 (fun h => absurd h.2 (by decide)) hk85
  have hk101 := kp_up hM94 (fun h => absurd h.2 (by decide)) hk86
  have hk102 := kp_up hM94 (fun h => absurd h.2 (by decide)) hk87
  have hk103 := kp_up hM94 (fun h => absurd h.2 (by decide)) hk88
  have hk104 := kp_up hM94 (fun h => absurd h.2 (by decide)) hk89
  have hk105 := kp_up hM94 (fun h => absurd h.2 (by decide)) hk90
  have hk106 := kp_up hM94 (fun h => absurd h.2 (by decide)) hk91
  have hk107 := kp_up hM94 (fun h => absurd h.2 (by decide)) hf80
  clear hk85 hk86 hk87 hk88 hk89 hk90 hk91 hf80
  refine j_aload_n hX dX11_init_69 rfl 0 rfl ?_
  refine j_iconst hX dX11_init_70 ?_
  refine j_newa hX (k := 219) (by omega) (t := 0) (n := 2) rfl (by decide) (in_1 163 (by first | rfl | decide +kernel) rfl) (by decide +kernel : kd 219 = .inr (0, 2)) rfl (by decide) (hD97.at _ (by omega) (by omega)) ⟨by omega, by omega⟩ dX11_init_71 ?_
  have hR108 : RR 211 220 M93 := RR_s hR99 (Rg_plain (by omega) (by omega) (by decide +kernel : kd 219 = .inr (0, 2)) (by decide) (hD97.at _ (by omega) (by omega))) (by omega)
  refine pfF_X11_39 hX hin (by omega) (by omega) (by decide +kernel : kd 210 = .inl 11) (by omega) (by omega) dX11_init_73 ?_
  refine j_upN (fun M109 hM110 hf111 => ?_)
  have hG112 := F2.put hG96 hM110 ⟨by omega, by omega⟩
  have hD113 := DF_up hD97 hM110 (by omega)
  have hU114 := UL_up hU98 hM110
  have hR115 := RR_up hR108 hM110 (Or.inl (by omega))
  have hk116 := kp_up hM110 (fun h => absurd h.2 (by decide)) hk100
  have hk117 := kp_up hM110 (fun h => absurd h.2 (by decide)) hk101
  have hk118 := kp_up hM110 (fun h => absurd h.2 (by decide)) hk102
  have hk119 := kp_up hM110 (fun h => absurd h.2 (by decide)) hk103
  have hk120 := kp_up hM110 (fun h => absurd h.2 (by decide)) hk104
  have hk121 := kp_up hM110 (fun h => absurd h.2 (by decide)) hk105
  have hk122 := kp_up hM110 (fun h => absurd h.2 (by decide)) hk106
  have hk123 := kp_up hM110 (fun h => absurd h.2 (by decide)) hk107
  have hk124 := kp_up hM110 (fun h => absurd h.2 (by decide)) hf95
  clear hk100 hk101 hk102 hk103 hk104 hk105 hk106 hk107 hf95
  refine j_aload_n hX dX11_init_76 rfl 0 rfl ?_
  refine j_iconst hX dX11_init_77 ?_
  refine j_newa hX (k := 220) (by omega) (t := 0) (n := 2) rfl (by decide) (in_1 163 (by first | rfl | decide +kernel) rfl) (by decide +kernel : kd 220 = .inr (0, 2)) rfl (by decide) (hD113.at _ (by omega) (by omega)) ⟨by omega, by omega⟩ dX11_init_78 ?_
  have hR125 : RR 211 221 M109 := RR_s hR115 (Rg_plain (by omega) (by omega) (by decide +kernel : kd 220 = .inr (0, 2)) (by decide) (hD113.at _ (by omega) (by omega))) (by omega)
  refine pfF_X11_42 hX hin (by omega) (by omega) (by decide +kernel : kd 210 = .inl 11) (by omega) (by omega) dX11_init_80 ?_
  refine j_upN (fun M126 hM127 hf128 => ?_)
  have hG129 := F2.put hG112 hM127 ⟨by omega, by omega⟩
  have hD130 := DF_up hD113 hM127 (by omega)
  have hU131 := UL_up hU114 hM127
  have hR132 := RR_up hR125 hM127 (Or.inl (by omega))
  have hk133 := kp_up hM127 (fun h => absurd h.2 (by decide)) hk116
  have hk134 := kp_up hM127 (fun h => absurd h.2 (by decide)) hk117
  have hk135 := kp_up hM127 (fun h => absurd h.2 (by decide)) hk118
  have hk136 := kp_up hM127 (fun h => absurd h.2 (by decide)) hk119
  have hk137 := kp_up hM127 (fun h => absurd h.2 (by decide)) hk120
  have hk138 := kp_up hM127 (fun h => absurd h.2 (by decide)) hk121
  have hk139 := kp_up hM127 (fun h => absurd h.2 (by decide)) hk122
  have hk140 := kp_up hM127 (fun h => absurd h.2 (by decide)) hk123
  have hk141 := kp_up hM127 (fun h => absurd h.2 (by decide)) hk124
  have hk142 := kp_up hM127 (fun h => absurd h.2 (by decide)) hf111
  clear hk116 hk117 hk118 hk119 hk120 hk121 hk122 hk123 hk124 hf111
  refine j_aload_n hX dX11_init_83 rfl 0 rfl ?_
  refine j_bipush hX dX11_init_84 rfl ?_
  refine j_newa hX (k := 221) (by omega) (t := 0) (n := 12) rfl (by decide) (in_1 163 (by first | rfl | decide +kernel) rfl) (by decide +kernel : kd 221 = .inr (0, 12)) rfl (by decide) (hD130.at _ (by omega) (by omega)) ⟨by omega, by omega⟩ dX11_init_86 ?_
  have hR143 : RR 211 222 M126 := RR_s hR132 (Rg_plain (by omega) (by omega) (by decide +kernel : kd 221 = .inr (0, 12)) (by decide) (hD130.at _ (by omega) (by omega))) (by omega)
  refine pfF_X11_45 hX hin (by omega) (by omega) (by decide +kernel : kd 210 = .inl 11) (by omega) (by omega) dX11_init_88 ?_
  refine j_upN (fun M144 hM145 hf146 => ?_)
  have hG147 := F2.put hG129 hM145 ⟨by omega, by omega⟩
  have hD148 := DF_up hD130 hM145 (by omega)
  have hU149 := UL_up hU131 hM145
  have hR150 := RR_up hR143 hM145 (Or.inl (by omega))
  have hk151 := kp_up hM145 (fun h => absurd h.2 (by decide)) hk133
  have hk152 := kp_up hM145 (fun h => absurd h.2 (by decide)) hk134
  have hk153 := kp_up hM145 (fun h => absurd h.2 (by decide)) hk135
  have hk154 := kp_up hM145 (fun h => absurd h.2 (by decide)) hk136
  have hk155 := kp_up hM145 (fun h => absurd h.2 (by decide)) hk137
  have hk156 := kp_up hM145 (fun h => absurd h.2 (by decide)) hk138
  have hk157 := kp_up hM145 (fun h => absurd h.2 (by decide)) hk139
  have hk158 := kp_up hM145 (fun h => absurd h.2 (by decide)) hk140
  have hk159 := kp_up hM145 (fun h => absurd h.2 (by decide)) hk141
  have hk160 := kp_up hM145 (fun h => absurd h.2 (by decide)) hk142
  have hk161 := kp_up hM145 (fun h => absurd h.2 (by decide)) hf128
  clear hk133 hk134 hk135 hk136 hk137 hk138 hk139 hk140 hk141 hk142 hf128
  refine j_aload_n hX dX11_init_91 rfl 0 rfl ?_
  refine j_bipush hX dX11_init_92 rfl ?_
  refine j_newa hX (k := 222) (by omega) (t := 0) (n := 12) rfl (by decide) (in_1 163 (by first | rfl | decide +kernel) rfl) (by decide +kernel : kd 222 = .inr (0, 12)) rfl (by decide) (hD148.at _ (by omega) (by omega)) ⟨by omega, by omega⟩ dX11_init_94 ?_
  have hR162 : RR 211 223 M144 := RR_s hR150 (Rg_plain (by omega) (by omega) (by decide +kernel : kd 222 = .inr (0, 12)) (by decide) (hD148.at _ (by omega) (by omega))) (by omega)
  refine pfF_X11_48 hX hin (by omega) (by omega) (by decide +kernel : kd 210 = .inl 11) (by omega) (by omega) dX11_init_96 ?_
  refine j_upN (fun M163 hM164 hf165 => ?_)
  have hG166 := F2.put hG147 hM164 ⟨by omega, by omega⟩
  have hD167 := DF_up hD148 hM164 (by omega)
  have hU168 := UL_up hU149 hM164
  have hR169 := RR_up hR162 hM164 (Or.inl (by omega))
  have hk170 := kp_up hM164 (fun h => absurd h.2 (by decide)) hk151
  have hk171 := kp_up hM164 (fun h => absurd h.2 (by decide)) hk152
  have hk172 := kp_up hM164 (fun h => absurd h.2 (by decide)) hk153
  have hk173 := kp_up hM164 (fun h => absurd h.2 (by decide)) hk154
  have hk174 := kp_up hM164 (fun h => absurd h.2 (by decide)) hk155
  have hk175 := kp_up hM164 (fun h => absurd h.2 (by decide)) hk156
  have hk176 := kp_up hM164 (fun h => absurd h.2 (by decide)) hk157
  have hk177 := kp_up hM164 (fun h => absurd h.2 (by decide)) hk158
  have hk178 := kp_up hM164 (fun h => absurd h.2 (by decide)) hk159
  have hk179 := kp_up hM164 (fun h => absurd h.2 (by decide)) hk160
  have hk180 := kp_up hM164 (fun h => absurd h.2 (by decide)) hk161
  have hk181 := kp_up hM164 (fun h => absurd h.2 (by decide)) hf146
  clear hk151 hk152 hk153 hk154 hk155 hk156 hk157 hk158 hk159 hk160 hk161 hf146
  refine j_aload_n hX dX11_init_99 rfl 0 rfl ?_
  refine j_bipush hX dX11_init_100 rfl ?_
  refine j_newa hX (k := 223) (by omega) (t := 0) (n := 20) rfl (by decide) (in_1 163 (by first | rfl | decide +kernel) rfl) (by decide +kernel : kd 223 = .inr (0, 20)) rfl (by decide) (hD167.at _ (by omega) (by omega)) ⟨by omega, by omega⟩ dX11_init_102 ?_
  have hR182 : RR 211 224 M163 := RR_s hR169 (Rg_plain (by omega) (by omega) (by decide +kernel : kd 223 = .inr (0, 20)) (by decide) (hD167.at _ (by omega) (by omega))) (by omega)
  refine pfF_X11_51 hX hin (by omega) (by omega) (by decide +kernel : kd 210 = .inl 11) (by omega) (by omega) dX11_init_104 ?_
  refine j_upN (fun M183 hM184 hf185 => ?_)
  have hG186 := F2.put hG166 hM184 ⟨by omega, by omega⟩
  have hD187 := DF_up hD167 hM184 (by omega)
  have hU188 := UL_up hU168 hM184
  have hR189 := RR_up hR182 hM184 (Or.inl (by omega))
  have hk190 := kp_up hM184 (fun h => absurd h.2 (by decide)) hk170
  have hk191 := kp_up hM184 (fun h => absurd h.2 (by decide)) hk171
  have hk192 := kp_up hM184 (fun h => absurd h.2 (by decide)) hk172
  have hk193 := kp_up hM184 (fun h => absurd h.2 (by decide)) hk173
  have hk194 := kp_up hM184 (fun h => absurd h.2 (by decide)) hk174
  have hk195 := kp_up hM184 (fun h => absurd h.2 (by decide)) hk175
  have hk196 := kp_up hM184 (fun h => absurd h.2 (by decide)) hk176
  have hk197 := kp_up hM184 (fun h => absurd h.2 (by decide)) hk177
  have hk198 := kp_up hM184 (fun h => absurd h.2 (by decide)) hk178
  have hk199 := kp_up hM184 (fun h => absurd h.2 (by decide)) hk179
  have hk200 := kp_up hM184 (fun h => absurd h.2 (by decide)) hk180
  have hk201 := kp_up hM184 (fun h => absurd h.2 (by decide)) hk181
  have hk202 := kp_up hM184 (fun h => absurd h.2 (by decide)) hf165
  clear hk170 hk171 hk172 hk173 hk174 hk175 hk176 hk177 hk178 hk179 hk180 hk181 hf165
  refine j_aload_n hX dX11_init_107 rfl 0 rfl ?_
  refine j_bipush hX dX11_init_108 rfl ?_
  refine j_newa hX (k := 224) (by omega) (t := 0) (n := 20) rfl (by decide) (in_1 163 (by first | rfl | decide +kernel) rfl) (by decide +kernel : kd 224 = .inr (0, 20)) rfl (by decide) (hD187.at _ (by omega) (by omega)) ⟨by omega, by omega⟩ dX11_init_110 ?_
  have hR203 : RR 211 225 M183 := RR_s hR189 (Rg_plain (by omega) (by omega) (by decide +kernel : kd 224 = .inr (0, 20)) (by decide) (hD187.at _ (by omega) (by omega))) (by omega)
  refine pfF_X11_54 hX hin (by omega) (by omega) (by decide +kernel : kd 210 = .inl 11) (by omega) (by omega) dX11_init_112 ?_
  refine j_upN (fun M204 hM205 hf206 => ?_)
  have hG207 := F2.put hG186 hM205 ⟨by omega, by omega⟩
  have hD208 := DF_up hD187 hM205 (by omega)
  have hU209 := UL_up hU188 hM205
  have hR210 := RR_up hR203 hM205 (Or.inl (by omega))
  have hk211 := kp_up hM205 (fun h => absurd h.2 (by decide)) hk190
  have hk212 := kp_up hM205 (fun h => absurd h.2 (by decide)) hk191
  have hk213 := kp_up hM205 (fun h => absurd h.2 (by decide)) hk192
  have hk214 := kp_up hM205 (fun h => absurd h.2 (by decide)) hk193
  have hk215 := kp_up hM205 (fun h => absurd h.2 (by decide)) hk194
  have hk216 := kp_up hM205 (fun h => absurd h.2 (by decide)) hk195
  have hk217 := kp_up hM205 (fun h => absurd h.2 (by decide)) hk196
  have hk218 := kp_up hM205 (fun h => absurd h.2 (by decide)) hk197
  have hk219 := kp_up hM205 (fun h => absurd h.2 (by decide)) hk198
  have hk220 := kp_up hM205 (fun h => absurd h.2 (by decide)) hk199
  have hk221 := kp_up hM205 (fun h => absurd h.2 (by decide)) hk200
  have hk222 := kp_up hM205 (fun h => absurd h.2 (by decide)) hk201
  have hk223 := kp_up hM205 (fun h => absurd h.2 (by decide)) hk202
  have hk224 := kp_up hM205 (fun h => absurd h.2 (by decide)) hf185
  clear hk190 hk191 hk192 hk193 hk194 hk195 hk196 hk197 hk198 hk199 hk200 hk201 hk202 hf185
  refine j_aload_n hX dX11_init_115 rfl 0 rfl ?_
  refine j_iconst hX dX11_init_116 ?_
  refine j_newa hX (k := 225) (by omega) (t := 0) (n := 2) rfl (by decide) (in_1 163 (by first | rfl | decide +kernel) rfl) (by decide +kernel : kd 225 = .inr (0, 2)) rfl (by decide) (hD208.at _ (by omega) (by omega)) ⟨by omega, by omega⟩ dX11_init_117 ?_
  have hR225 : RR 211 226 M204 := RR_s hR210 (Rg_plain (by omega) (by omega) (by decide +kernel : kd 225 = .inr (0, 2)) (by decide) (hD208.at _ (by omega) (by omega))) (by omega)
  refine pfF_X11_57 hX hin (by omega) (by omega) (by decide +kernel : kd 210 = .inl 11) (by omega) (by omega) dX11_init_119 ?_
  refine j_upN (fun M226 hM227 hf228 => ?_)
  have hG229 := F2.put hG207 hM227 ⟨by omega, by omega⟩
  have hD230 := DF_up hD208 hM227 (by omega)
  have hU231 := UL_up hU209 hM227
  have hR232 := RR_up hR225 hM227 (Or.inl (by omega))
  have hk233 := kp_up hM227 (fun h => absurd h.2 (by decide)) hk211
  have hk234 := kp_up hM227 (fun h => absurd h.2 (by decide)) hk212
  have hk235 := kp_up hM227 (fun h => absurd h.2 (by decide)) hk213
  have hk236 := kp_up hM227 (fun h => absurd h.2 (by decide)) hk214
  have hk237 := kp_up hM227 (fun h => absurd h.2 (by decide)) hk215
  have hk238 := kp_up hM227 (fun h => absurd h.2 (by decide)) hk216
  have hk239 := kp_up hM227 (fun h => absurd h.2 (by decide)) hk217
  have hk240 := kp_up hM227 (fun h => absurd h.2 (by decide)) hk218
  have hk241 := kp_up hM227 (fun h => absurd h.2 (by decide)) hk219
  have hk242 := kp_up hM227 (fun h => absurd h.2 (by decide)) hk220
  have hk243 := kp_up hM227 (fun h => absurd h.2 (by decide)) hk221
  have hk244 := kp_up hM227 (fun h => absurd h.2 (by decide)) hk222
  have hk245 := kp_up hM227 (fun h => absurd h.2 (by decide)) hk223
  have hk246 := kp_up hM227 (fun h => absurd h.2 (by decide)) hk224
  have hk247 := kp_up hM227 (fun h => absurd h.2 (by decide)) hf206
  clear hk211 hk212 hk213 hk214 hk215 hk216 hk217 hk218 hk219 hk220 hk221 hk222 hk223 hk224 hf206
  refine j_aload_n hX dX11_init_122 rfl 0 rfl ?_
  refine j_bipush hX dX11_init_123 rfl ?_
  refine j_newa hX (k := 226) (by omega) (t := 0) (n := 12) rfl (by decide) (in_1 163 (by first | rfl | decide +kernel) rfl) (by decide +kernel : kd 226 = .inr (0, 12)) rfl (by decide) (hD230.at _ (by omega) (by omega)) ⟨by omega, by omega⟩ dX11_init_125 ?_
  have hR248 : RR 211 227 M226 := RR_s hR232 (Rg_plain (by omega) (by omega) (by decide +kernel : kd 226 = .inr (0, 12)) (by decide) (hD230.at _ (by omega) (by omega))) (by omega)
  refine pfF_X11_60 hX hin (by omega) (by omega) (by decide +kernel : kd 210 = .inl 11) (by omega) (by omega) dX11_init_127 ?_
  refine j_upN (fun M249 hM250 hf251 => ?_)
  have hG252 := F2.put hG229 hM250 ⟨by omega, by omega⟩
  have hD253 := DF_up hD230 hM250 (by omega)
  have hU254 := UL_up hU231 hM250
  have hR255 := RR_up hR248 hM250 (Or.inl (by omega))
  have hk256 := kp_up hM250 (fun h => absurd h.2 (by decide)) hk233
  have hk257 := kp_up hM250 (fun h => absurd h.2 (by decide)) hk234
  have hk258 := kp_up hM250 (fun h => absurd h.2 (by decide)) hk235
  have hk259 := kp_up hM250 (fun h => absurd h.2 (by decide)) hk236
  have hk260 := kp_up hM250 (fun h => absurd h.2 (by decide)) hk237
  have hk261 := kp_up hM250 (fun h => absurd h.2 (by decide)) hk238
  have hk262 := kp_up hM250 (fun h => absurd h.2 (by decide)) hk239
  have hk263 := kp_up hM250 (fun h => absurd h.2 (by decide)) hk240
  have hk264 := kp_up hM250 (fun h => absurd h.2 (by decide)) hk241
  have hk265 := kp_up hM250 (fun h => absurd h.2 (by decide)) hk242
  have hk266 := kp_up hM250 (fun h => absurd h.2 (by decide)) hk243
  have hk267 := kp_up hM250 (fun h => absurd h.2 (by decide)) hk244
  have hk268 := kp_up hM250 (fun h => absurd h.2 (by decide)) hk245
  have hk269 := kp_up hM250 (fun h => absurd h.2 (by decide)) hk246
  have hk270 := kp_up hM250 (fun h => absurd h.2 (by decide)) hk247
  have hk271 := kp_up hM250 (fun h => absurd h.2 (by decide)) hf228
  clear hk233 hk234 hk235 hk236 hk237 hk238 hk239 hk240 hk241 hk242 hk243 hk244 hk245 hk246 hk247 hf228
  refine j_aload_n hX dX11_init_130 rfl 0 rfl ?_
  refine j_bipush hX dX11_init_131 rfl ?_
  refine j_newa hX (k := 227) (by omega) (t := 0) (n := 72) rfl (by decide) (in_1 163 (by first | rfl | decide +kernel) rfl) (by decide +kernel : kd 227 = .inr (0, 72)) rfl (by decide) (hD253.at _ (by omega) (by omega)) ⟨by omega, by omega⟩ dX11_init_133 ?_
  have hR272 : RR 211 228 M249 := RR_s hR255 (Rg_plain (by omega) (by omega) (by decide +kernel : kd 227 = .inr (0, 72)) (by decide) (hD253.at _ (by omega) (by omega))) (by omega)
  refine pfF_X11_63 hX hin (by omega) (by omega) (by decide +kernel : kd 210 = .inl 11) (by omega) (by omega) dX11_init_135 ?_
  refine j_upN (fun M273 hM274 hf275 => ?_)
  have hG276 := F2.put hG252 hM274 ⟨by omega, by omega⟩
  have hD277 := DF_up hD253 hM274 (by omega)
  have hU278 := UL_up hU254 hM274
  have hR279 := RR_up hR272 hM274 (Or.inl (by omega))
  have hk280 := kp_up hM274 (fun h => absurd h.2 (by decide)) hk256
  have hk281 := kp_up hM274 (fun h => absurd h.2 (by decide)) hk257
  have hk282 := kp_up hM274 (fun h => absurd h.2 (by decide)) hk258
  have hk283 := kp_up hM274 (fun h => absurd h.2 (by decide)) hk259
  have hk284 := kp_up hM274 (fun h => absurd h.2 (by decide)) hk260
  have hk285 := kp_up hM274 (fun h => absurd h.2 (by decide)) hk261
  have hk286 := kp_up hM274 (fun h => absurd h.2 (by decide)) hk262
  have hk287 := kp_up hM274 (fun h => absurd h.2 (by decide)) hk263
  have hk288 := kp_up hM274 (fun h => absurd h.2 (by decide)) hk264
  have hk289 := kp_up hM274 (fun h => absurd h.2 (by decide)) hk265
  have hk290 := kp_up hM274 (fun h => absurd h.2 (by decide)) hk266
  have hk291 := kp_up hM274 (fun h => absurd h.2 (by decide)) hk267
  have hk292 := kp_up hM274 (fun h => absurd h.2 (by decide)) hk268
  have hk293 := kp_up hM274 (fun h => absurd h.2 (by decide)) hk269
  have hk294 := kp_up hM274 (fun h => absurd h.2 (by decide)) hk270
  have hk295 := kp_up hM274 (fun h => absurd h.2 (by decide)) hk271
  have hk296 := kp_up hM274 (fun h => absurd h.2 (by decide)) hf251
  clear hk256 hk257 hk258 hk259 hk260 hk261 hk262 hk263 hk264 hk265 hk266 hk267 hk268 hk269 hk270 hk271 hf251
  refine j_aload_n hX dX11_init_138 rfl 0 rfl ?_
  refine j_bipush hX dX11_init_139 rfl ?_
  refine j_newa hX (k := 228) (by omega) (t := 0) (n := 12) rfl (by decide) (in_1 163 (by first | rfl | decide +kernel) rfl) (by decide +kernel : kd 228 = .inr (0, 12)) rfl (by decide) (hD277.at _ (by omega) (by omega)) ⟨by omega, by omega⟩ dX11_init_141 ?_
  have hR297 : RR 211 229 M273 := RR_s hR279 (Rg_plain (by omega) (by omega) (by decide +kernel : kd 228 = .inr (0, 12)) (by decide) (hD277.at _ (by omega) (by omega))) (by omega)
  refine pfF_X11_66 hX hin (by omega) (by omega) (by decide +kernel : kd 210 = .inl 11) (by omega) (by omega) dX11_init_143 ?_
  refine j_upN (fun M298 hM299 hf300 => ?_)
  have hG301 := F2.put hG276 hM299 ⟨by omega, by omega⟩
  have hD302 := DF_up hD277 hM299 (by omega)
  have hU303 := UL_up hU278 hM299
  have hR304 := RR_up hR297 hM299 (Or.inl (by omega))
  have hk305 := kp_up hM299 (fun h => absurd h.2 (by decide)) hk280
  have hk306 := kp_up hM299 (fun h => absurd h.2 (by decide)) hk281
  have hk307 := kp_up hM299 (fun h => absurd h.2 (by decide)) hk282
  have hk308 := kp_up hM299 (fun h => absurd h.2 (by decide)) hk283
  have hk309 := kp_up hM299 (fun h => absurd h.2 (by decide)) hk284
  have hk310 := kp_up hM299 (fun h => absurd h.2 (by decide)) hk285
  have hk311 := kp_up hM299 (fun h => absurd h.2 (by decide)) hk286
  have hk312 := kp_up hM299 (fun h => absurd h.2 (by decide)) hk287
  have hk313 := kp_up hM299 (fun h => absurd h.2 (by decide)) hk288
  have hk314 := kp_up hM299 (fun h => absurd h.2 (by decide)) hk289
  have hk315 := kp_up hM299 (fun h => absurd h.2 (by decide)) hk290
  have hk316 := kp_up hM299 (fun h => absurd h.2 (by decide)) hk291
  have hk317 := kp_up hM299 (fun h => absurd h.2 (by decide)) hk292
  have hk318 := kp_up hM299 (fun h => absurd h.2 (by decide)) hk293
  have hk319 := kp_up hM299 (fun h => absurd h.2 (by decide)) hk294
  have hk320 := kp_up hM299 (fun h => absurd h.2 (by decide)) hk295
  have hk321 := kp_up hM299 (fun h => absurd h.2 (by decide)) hk296
  have hk322 := kp_up hM299 (fun h => absurd h.2 (by decide)) hf275
  clear hk280 hk281 hk282 hk283 hk284 hk285 hk286 hk287 hk288 hk289 hk290 hk291 hk292 hk293 hk294 hk295 hk296 hf275
  refine j_aload_n hX dX11_init_146 rfl 0 rfl ?_
  refine j_iconst hX dX11_init_147 ?_
  refine j_newa hX (k := 229) (by omega) (t := 0) (n := 2) rfl (by decide) (in_1 163 (by first | rfl | decide +kernel) rfl) (by decide +kernel : kd 229 = .inr (0, 2)) rfl (by decide) (hD302.at _ (by omega) (by omega)) ⟨by omega, by omega⟩ dX11_init_148 ?_
  have hR323 : RR 211 230 M298 := RR_s hR304 (Rg_plain (by omega) (by omega) (by decide +kernel : kd 229 = .inr (0, 2)) (by decide) (hD302.at _ (by omega) (by omega))) (by omega)
  refine pfF_X11_69 hX hin (by omega) (by omega) (by decide +kernel : kd 210 = .inl 11) (by omega) (by omega) dX11_init_150 ?_
  refine j_upN (fun M324 hM325 hf326 => ?_)
  have hG327 := F2.put hG301 hM325 ⟨by omega, by omega⟩
  have hD328 := DF_up hD302 hM325 (by omega)
  have hU329 := UL_up hU303 hM325
  have hR330 := RR_up hR323 hM325 (Or.inl (by omega))
  have hk331 := kp_up hM325 (fun h => absurd h.2 (by decide)) hk305
  have hk332 := kp_up hM325 (fun h => absurd h.2 (by decide)) hk306
  have hk333 := kp_up hM325 (fun h => absurd h.2 (by decide)) hk307
  have hk334 := kp_up hM325 (fun h => absurd h.2 (by decide)) hk308
  have hk335 := kp_up hM325 (fun h => absurd h.2 (by decide)) hk309
  have hk336 := kp_up hM325 (fun h => absurd h.2 (by decide)) hk310
  have hk337 := kp_up hM325 (fun h => absurd h.2 (by decide)) hk311
  have hk338 := kp_up hM325 (fun h => absurd h.2 (by decide)) hk312
  have hk339 := kp_up hM325 (fun h => absurd h.2 (by decide)) hk313
  have hk340 := kp_up hM325 (fun h => absurd h.2 (by decide)) hk314
  have hk341 := kp_up hM325 (fun h => absurd h.2 (by decide)) hk315
  have hk342 := kp_up hM325 (fun h => absurd h.2 (by decide)) hk316
  have hk343 := kp_up hM325 (fun h => absurd h.2 (by decide)) hk317
  have hk344 := kp_up hM325 (fun h => absurd h.2 (by decide)) hk318
  have hk345 := kp_up hM325 (fun h => absurd h.2 (by decide)) hk319
  have hk346 := kp_up hM325 (fun h => absurd h.2 (by decide)) hk320
  have hk347 := kp_up hM325 (fun h => absurd h.2 (by decide)) hk321
  have hk348 := kp_up hM325 (fun h => absurd h.2 (by decide)) hk322
  have hk349 := kp_up hM325 (fun h => absurd h.2 (by decide)) hf300
  clear hk305 hk306 hk307 hk308 hk309 hk310 hk311 hk312 hk313 hk314 hk315 hk316 hk317 hk318 hk319 hk320 hk321 hk322 hf300
  refine j_aload_n hX dX11_init_153 rfl 0 rfl ?_
  refine j_iconst hX dX11_init_154 ?_
  refine j_newa hX (k := 230) (by omega) (t := 0) (n := 2) rfl (by decide) (in_1 163 (by first | rfl | decide +kernel) rfl) (by decide +kernel : kd 230 = .inr (0, 2)) rfl (by decide) (hD328.at _ (by omega) (by omega)) ⟨by omega, by omega⟩ dX11_init_155 ?_
  have hR350 : RR 211 231 M324 := RR_s hR330 (Rg_plain (by omega) (by omega) (by decide +kernel : kd 230 = .inr (0, 2)) (by decide) (hD328.at _ (by omega) (by omega))) (by omega)
  refine pfF_X11_72 hX hin (by omega) (by omega) (by decide +kernel : kd 210 = .inl 11) (by omega) (by omega) dX11_init_157 ?_
  refine j_upN (fun M351 hM352 hf353 => ?_)
  have hG354 := F2.put hG327 hM352 ⟨by omega, by omega⟩
  have hD355 := DF_up hD328 hM352 (by omega)
  have hU356 := UL_up hU329 hM352
  have hR357 := RR_up hR350 hM352 (Or.inl (by omega))
  have hk358 := kp_up hM352 (fun h => absurd h.2 (by decide)) hk331
  have hk359 := kp_up hM352 (fun h => absurd h.2 (by decide)) hk332
  have hk360 := kp_up hM352 (fun h => absurd h.2 (by decide)) hk333
  have hk361 := kp_up hM352 (fun h => absurd h.2 (by decide)) hk334
  have hk362 := kp_up hM352 (fun h => absurd h.2 (by decide)) hk335
  have hk363 := kp_up hM352 (fun h => absurd h.2 (by decide)) hk336
  have hk364 := kp_up hM352 (fun h => absurd h.2 (by decide)) hk337
  have hk365 := kp_up hM352 (fun h => absurd h.2 (by decide)) hk338
  have hk366 := kp_up hM352 (fun h => absurd h.2 (by decide)) hk339
  have hk367 := kp_up hM352 (fun h => absurd h.2 (by decide)) hk340
  have hk368 := kp_up hM352 (fun h => absurd h.2 (by decide)) hk341
  have hk369 := kp_up hM352 (fun h => absurd h.2 (by decide)) hk342
  have hk370 := kp_up hM352 (fun h => absurd h.2 (by decide)) hk343
  have hk371 := kp_up hM352 (fun h => absurd h.2 (by decide)) hk344
  have hk372 := kp_up hM352 (fun h => absurd h.2 (by decide)) hk345
  have hk373 := kp_up hM352 (fun h => absurd h.2 (by decide)) hk346
  have hk374 := kp_up hM352 (fun h => absurd h.2 (by decide)) hk347
  have hk375 := kp_up hM352 (fun h => absurd h.2 (by decide)) hk348
  have hk376 := kp_up hM352 (fun h => absurd h.2 (by decide)) hk349
  have hk377 := kp_up hM352 (fun h => absurd h.2 (by decide)) hf326
  clear hk331 hk332 hk333 hk334 hk335 hk336 hk337 hk338 hk339 hk340 hk341 hk342 hk343 hk344 hk345 hk346 hk347 hk348 hk349 hf326
  refine j_aload_n hX dX11_init_160 rfl 0 rfl ?_
  refine j_iconst hX dX11_init_161 ?_
  refine j_newa hX (k := 231) (by omega) (t := 2) (n := 2) rfl (by decide) (in_6 169 (by first | rfl | decide +kernel) rfl) (by decide +kernel : kd 231 = .inr (2, 2)) rfl (by decide) (hD355.at _ (by omega) (by omega)) ⟨by omega, by omega⟩ dX11_init_162 ?_
  have hR378 : RR 211 232 M351 := RR_s hR357 (Rg_plain (by omega) (by omega) (by decide +kernel : kd 231 = .inr (2, 2)) (by decide) (hD355.at _ (by omega) (by omega))) (by omega)
  refine pfF_X11_75 hX hin (by omega) (by omega) (by decide +kernel : kd 210 = .inl 11) (by omega) (by omega) dX11_init_164 ?_
  refine j_upN (fun M379 hM380 hf381 => ?_)
  have hG382 := F2.put hG354 hM380 ⟨by omega, by omega⟩
  have hD383 := DF_up hD355 hM380 (by omega)
  have hU384 := UL_up hU356 hM380
  have hR385 := RR_up hR378 hM380 (Or.inl (by omega))
  have hk386 := kp_up hM380 (fun h => absurd h.2 (by decide)) hk358
  have hk387 := kp_up hM380 (fun h => absurd h.2 (by decide)) hk359
  have hk388 := kp_up hM380 (fun h => absurd h.2 (by decide)) hk360
  have hk389 := kp_up hM380 (fun h => absurd h.2 (by decide)) hk361
  have hk390 := kp_up hM380 (fun h => absurd h.2 (by decide)) hk362
  have hk391 := kp_up hM380 (fun h => absurd h.2 (by decide)) hk363
  have hk392 := kp_up hM380 (fun h => absurd h.2 (by decide)) hk364
  have hk393 := kp_up hM380 (fun h => absurd h.2 (by decide)) hk365
  have hk394 := kp_up hM380 (fun h => absurd h.2 (by decide)) hk366
  have hk395 := kp_up hM380 (fun h => absurd h.2 (by decide)) hk367
  have hk396 := kp_up hM380 (fun h => absurd h.2 (by decide)) hk368
  have hk397 := kp_up hM380 (fun h => absurd h.2 (by decide)) hk369
  have hk398 := kp_up hM380 (fun h => absurd h.2 (by decide)) hk370
  have hk399 := kp_up hM380 (fun h => absurd h.2 (by decide)) hk371
  have hk400 := kp_up hM380 (fun h => absurd h.2 (by decide)) hk372
  have hk401 := kp_up hM380 (fun h => absurd h.2 (by decide)) hk373
  have hk402 := kp_up hM380 (fun h => absurd h.2 (by decide)) hk374
  have hk403 := kp_up hM380 (fun h => absurd h.2 (by decide)) hk375
  have hk404 := kp_up hM380 (fun h => absurd h.2 (by decide)) hk376
  have hk405 := kp_up hM380 (fun h => absurd h.2 (by decide)) hk377
  have hk406 := kp_up hM380 (fun h => absurd h.2 (by decide)) hf353
  clear hk358 hk359 hk360 hk361 hk362 hk363 hk364 hk365 hk366 hk367 hk368 hk369 hk370 hk371 hk372 hk373 hk374 hk375 hk376 hk377 hf353
  refine j_aload_n hX dX11_init_167 rfl 0 rfl ?_
  refine j_iconst hX dX11_init_168 ?_
  refine j_newa hX (k := 232) (by omega) (t := 2) (n := 2) rfl (by decide) (in_6 169 (by first | rfl | decide +kernel) rfl) (by decide +kernel : kd 232 = .inr (2, 2)) rfl (by decide) (hD383.at _ (by omega) (by omega)) ⟨by omega, by omega⟩ dX11_init_169 ?_
  have hR407 : RR 211 233 M379 := RR_s hR385 (Rg_plain (by omega) (by omega) (by decide +kernel : kd 232 = .inr (2, 2)) (by decide) (hD383.at _ (by omega) (by omega))) (by omega)
  refine pfF_X11_79 hX hin (by omega) (by omega) (by decide +kernel : kd 210 = .inl 11) (by omega) (by omega) dX11_init_171 ?_
  refine j_upN (fun M408 hM409 hf410 => ?_)
  have hG411 := F2.put hG382 hM409 ⟨by omega, by omega⟩
  have hD412 := DF_up hD383 hM409 (by omega)
  have hU413 := UL_up hU384 hM409
  have hR414 := RR_up hR407 hM409 (Or.inl (by omega))
  have hk415 := kp_up hM409 (fun h => absurd h.2 (by decide)) hk386
  have hk416 := kp_up hM409 (fun h => absurd h.2 (by decide)) hk387
  have hk417 := kp_up hM409 (fun h => absurd h.2 (by decide)) hk388
  have hk418 := kp_up hM409 (fun h => absurd h.2 (by decide)) hk389
  have hk419 := kp_up hM409 (fun h => absurd h.2 (by decide)) hk390
  have hk420 := kp_up hM409 (fun h => absurd h.2 (by decide)) hk391
  have hk421 := kp_up hM409 (fun h => absurd h.2 (by decide)) hk392
  have hk422 := kp_up hM409 (fun h => absurd h.2 (by decide)) hk393
  have hk423 := kp_up hM409 (fun h => absurd h.2 (by decide)) hk394
  have hk424 := kp_up hM409 (fun h => absurd h.2 (by decide)) hk395
  have hk425 := kp_up hM409 (fun h => absurd h.2 (by decide)) hk396
  have hk426 := kp_up hM409 (fun h => absurd h.2 (by decide)) hk397
  have hk427 := kp_up hM409 (fun h => absurd h.2 (by decide)) hk398
  have hk428 := kp_up hM409 (fun h => absurd h.2 (by decide)) hk399
  have hk429 := kp_up hM409 (fun h => absurd h.2 (by decide)) hk400
  have hk430 := kp_up hM409 (fun h => absurd h.2 (by decide)) hk401
  have hk431 := kp_up hM409 (fun h => absurd h.2 (by decide)) hk402
  have hk432 := kp_up hM409 (fun h => absurd h.2 (by decide)) hk403
  have hk433 := kp_up hM409 (fun h => absurd h.2 (by decide)) hk404
  have hk434 := kp_up hM409 (fun h => absurd h.2 (by decide)) hk405
  have hk435 := kp_up hM409 (fun h => absurd h.2 (by decide)) hk406
  have hk436 := kp_up hM409 (fun h => absurd h.2 (by decide)) hf381
  clear hk386 hk387 hk388 hk389 hk390 hk391 hk392 hk393 hk394 hk395 hk396 hk397 hk398 hk399 hk400 hk401 hk402 hk403 hk404 hk405 hk406 hf381
  refine j_aload_n hX dX11_init_174 rfl 0 rfl ?_
  refine j_iconst hX dX11_init_175 ?_
  refine j_newa hX (k := 233) (by omega) (t := 2) (n := 2) rfl (by decide) (in_6 169 (by first | rfl | decide +kernel) rfl) (by decide +kernel : kd 233 = .inr (2, 2)) rfl (by decide) (hD412.at _ (by omega) (by omega)) ⟨by omega, by omega⟩ dX11_init_176 ?_
  have hR437 : RR 211 234 M408 := RR_s hR414 (Rg_plain (by omega) (by omega) (by decide +kernel : kd 233 = .inr (2, 2)) (by decide) (hD412.at _ (by omega) (by omega))) (by omega)
  refine pfF_X11_82 hX hin (by omega) (by omega) (by decide +kernel : kd 210 = .inl 11) (by omega) (by omega) dX11_init_178 ?_
  refine j_upN (fun M438 hM439 hf440 => ?_)
  have hG441 := F2.put hG411 hM439 ⟨by omega, by omega⟩
  have hD442 := DF_up hD412 hM439 (by omega)
  have hU443 := UL_up hU413 hM439
  have hR444 := RR_up hR437 hM439 (Or.inl (by omega))
  have hk445 := kp_up hM439 (fun h => absurd h.2 (by decide)) hk415
  have hk446 := kp_up hM439 (fun h => absurd h.2 (by decide)) hk416
  have hk447 := kp_up hM439 (fun h => absurd h.2 (by decide)) hk417
  have hk448 := kp_up hM439 (fun h => absurd h.2 (by decide)) hk418
  have hk449 := kp_up hM439 (fun h => absurd h.2 (by decide)) hk419
  have hk450 := kp_up hM439 (fun h => absurd h.2 (by decide)) hk420
  have hk451 := kp_up hM439 (fun h => absurd h.2 (by decide)) hk421
  have hk452 := kp_up hM439 (fun h => absurd h.2 (by decide)) hk422
  have hk453 := kp_up hM439 (fun h => absurd h.2 (by decide)) hk423
  have hk454 := kp_up hM439 (fun h => absurd h.2 (by decide)) hk424
  have hk455 := kp_up hM439 (fun h => absurd h.2 (by decide)) hk425
  have hk456 := kp_up hM439 (fun h => absurd h.2 (by decide)) hk426
  have hk457 := kp_up hM439 (fun h => absurd h.2 (by decide)) hk427
  have hk458 := kp_up hM439 (fun h => absurd h.2 (by decide)) hk428
  have hk459 := kp_up hM439 (fun h => absurd h.2 (by decide)) hk429
  have hk460 := kp_up hM439 (fun h => absurd h.2 (by decide)) hk430
  have hk461 := kp_up hM439 (fun h => absurd h.2 (by decide)) hk431
  have hk462 := kp_up hM439 (fun h => absurd h.2 (by decide)) hk432
  have hk463 := kp_up hM439 (fun h => absurd h.2 (by decide)) hk433
  have hk464 := kp_up hM439 (fun h => absurd h.2 (by decide)) hk434
  have hk465 := kp_up hM439 (fun h => absurd h.2 (by decide)) hk435
  have hk466 := kp_up hM439 (fun h => absurd h.2 (by decide)) hk436
  have hk467 := kp_up hM439 (fun h => absurd h.2 (by decide)) hf410
  clear hk415 hk416 hk417 hk418 hk419 hk420 hk421 hk422 hk423 hk424 hk425 hk426 hk427 hk428 hk429 hk430 hk431 hk432 hk433 hk434 hk435 hk436 hf410
  refine j_aload_n hX dX11_init_181 rfl 0 rfl ?_
  refine j_iconst hX dX11_init_182 ?_
  refine j_newa hX (k := 234) (by omega) (t := 2) (n := 2) rfl (by decide) (in_6 169 (by first | rfl | decide +kernel) rfl) (by decide +kernel : kd 234 = .inr (2, 2)) rfl (by decide) (hD442.at _ (by omega) (by omega)) ⟨by omega, by omega⟩ dX11_init_183 ?_
  have hR468 : RR 211 235 M438 := RR_s hR444 (Rg_plain (by omega) (by omega) (by decide +kernel : kd 234 = .inr (2, 2)) (by decide) (hD442.at _ (by omega) (by omega))) (by omega)
  refine pfF_X11_85 hX hin (by omega) (by omega) (by decide +kernel : kd 210 = .inl 11) (by omega) (by omega) dX11_init_185 ?_
  refine j_upN (fun M469 hM470 hf471 => ?_)
  have hG472 := F2.put hG441 hM470 ⟨by omega, by omega⟩
  have hD473 := DF_up hD442 hM470 (by omega)
  have hU474 := UL_up hU443 hM470
  have hR475 := RR_up hR468 hM470 (Or.inl (by omega))
  have hk476 := kp_up hM470 (fun h => absurd h.2 (by decide)) hk445
  have hk477 := kp_up hM470 (fun h => absurd h.2 (by decide)) hk446
  have hk478 := kp_up hM470 (fun h => absurd h.2 (by decide)) hk447
  have hk479 := kp_up hM470 (fun h => absurd h.2 (by decide)) hk448
  have hk480 := kp_up hM470 (fun h => absurd h.2 (by decide)) hk449
  have hk481 := kp_up hM470 (fun h => absurd h.2 (by decide)) hk450
  have hk482 := kp_up hM470 (fun h => absurd h.2 (by decide)) hk451
  have hk483 := kp_up hM470 (fun h => absurd h.2 (by decide)) hk452
  have hk484 := kp_up hM470 (fun h => absurd h.2 (by decide)) hk453
  have hk485 := kp_up hM470 (fun h => absurd h.2 (by decide)) hk454
  have hk486 := kp_up hM470 (fun h => absurd h.2 (by decide)) hk455
  have hk487 := kp_up hM470 (fun h => absurd h.2 (by decide)) hk456
  have hk488 := kp_up hM470 (fun h => absurd h.2 (by decide)) hk457
  have hk489 := kp_up hM470 (fun h => absurd h.2 (by decide)) hk458
  have hk490 := kp_up hM470 (fun h => absurd h.2 (by decide)) hk459
  have hk491 := kp_up hM470 (fun h => absurd h.2 (by decide)) hk460
  have hk492 := kp_up hM470 (fun h => absurd h.2 (by decide)) hk461
  have hk493 := kp_up hM470 (fun h => absurd h.2 (by decide)) hk462
  have hk494 := kp_up hM470 (fun h => absurd h.2 (by decide)) hk463
  have hk495 := kp_up hM470 (fun h => absurd h.2 (by decide)) hk464
  have hk496 := kp_up hM470 (fun h => absurd h.2 (by decide)) hk465
  have hk497 := kp_up hM470 (fun h => absurd h.2 (by decide)) hk466
  have hk498 := kp_up hM470 (fun h => absurd h.2 (by decide)) hk467
  have hk499 := kp_up hM470 (fun h => absurd h.2 (by decide)) hf440
  clear hk445 hk446 hk447 hk448 hk449 hk450 hk451 hk452 hk453 hk454 hk455 hk456 hk457 hk458 hk459 hk460 hk461 hk462 hk463 hk464 hk465 hk466 hk467 hf440
  refine j_aload_n hX dX11_init_188 rfl 0 rfl ?_
  refine j_bipush hX dX11_init_189 rfl ?_
  refine j_newa hX (k := 235) (by omega) (t := 3) (n := 12) rfl (by decide) (in_1 127 (by first | rfl | decide +kernel) rfl) (by decide +kernel : kd 235 = .inr (3, 12)) rfl (by decide) (hD473.at _ (by omega) (by omega)) ⟨by omega, by omega⟩ dX11_init_191 ?_
  have hR500 : RR 211 236 M469 := RR_s hR475 (Rg_plain (by omega) (by omega) (by decide +kernel : kd 235 = .inr (3, 12)) (by decide) (hD473.at _ (by omega) (by omega))) (by omega)
  refine pfF_X11_88 hX hin (by omega) (by omega) (by decide +kernel : kd 210 = .inl 11) (by omega) (by omega) dX11_init_193 ?_
  refine j_upN (fun M501 hM502 hf503 => ?_)
  have hG504 := F2.put hG472 hM502 ⟨by omega, by omega⟩
  have hD505 := DF_up hD473 hM502 (by omega)
  have hU506 := UL_up hU474 hM502
  have hR507 := RR_up hR500 hM502 (Or.inl (by omega))
  have hk508 := kp_up hM502 (fun h => absurd h.2 (by decide)) hk476
  have hk509 := kp_up hM502 (fun h => absurd h.2 (by decide)) hk477
  have hk510 := kp_up hM502 (fun h => absurd h.2 (by decide)) hk478
  have hk511 := kp_up hM502 (fun h => absurd h.2 (by decide)) hk479
  have hk512 := kp_up hM502 (fun h => absurd h.2 (by decide)) hk480
  have hk513 := kp_up hM502 (fun h => absurd h.2 (by decide)) hk481
  have hk514 := kp_up hM502 (fun h => absurd h.2 (by decide)) hk482
  have hk515 := kp_up hM502 (fun h => absurd h.2 (by decide)) hk483
  have hk516 := kp_up hM502 (fun h => absurd h.2 (by decide)) hk484
  have hk517 := kp_up hM502 (fun h => absurd h.2 (by decide)) hk485
  have hk518 := kp_up hM502 (fun h => absurd h.2 (by decide)) hk486
  have hk519 := kp_up hM502 (fun h => absurd h.2 (by decide)) hk487
  have hk520 := kp_up hM502 (fun h => absurd h.2 (by decide)) hk488
  have hk521 := kp_up hM502 (fun h => absurd h.2 (by decide)) hk489
  have hk522 := kp_up hM502 (fun h => absurd h.2 (by decide)) hk490
  have hk523 := kp_up hM502 (fun h => absurd h.2 (by decide)) hk491
  have hk524 := kp_up hM502 (fun h => absurd h.2 (by decide)) hk492
  have hk525 := kp_up hM502 (fun h => absurd h.2 (by decide)) hk493
  have hk526 := kp_up hM502 (fun h => absurd h.2 (by decide)) hk494
  have hk527 := kp_up hM502 (fun h => absurd h.2 (by decide)) hk495
  have hk528 := kp_up hM502 (fun h => absurd h.2 (by decide)) hk496
  have hk529 := kp_up hM502 (fun h => absurd h.2 (by decide)) hk497
  have hk530 := kp_up hM502 (fun h => absurd h.2 (by decide)) hk498
  have hk531 := kp_up hM502 (fun h => absurd h.2 (by decide)) hk499
  have hk532 := kp_up hM502 (fun h => absurd h.2 (by decide)) hf471
  clear hk476 hk477 hk478 hk479 hk480 hk481 hk482 hk483 hk484 hk485 hk486 hk487 hk488 hk489 hk490 hk491 hk492 hk493 hk494 hk495 hk496 hk497 hk498 hk499 hf471
  refine j_aload_n hX dX11_init_196 rfl 0 rfl ?_
  refine j_bipush hX dX11_init_197 rfl ?_
  refine j_newa hX (k := 236) (by omega) (t := 3) (n := 20) rfl (by decide) (in_1 127 (by first | rfl | decide +kernel) rfl) (by decide +kernel : kd 236 = .inr (3, 20)) rfl (by decide) (hD505.at _ (by omega) (by omega)) ⟨by omega, by omega⟩ dX11_init_199 ?_
  have hR533 : RR 211 237 M501 := RR_s hR507 (Rg_plain (by omega) (by omega) (by decide +kernel : kd 236 = .inr (3, 20)) (by decide) (hD505.at _ (by omega) (by omega))) (by omega)
  refine pfF_X11_92 hX hin (by omega) (by omega) (by decide +kernel : kd 210 = .inl 11) (by omega) (by omega) dX11_init_201 ?_
  refine j_upN (fun M534 hM535 hf536 => ?_)
  have hG537 := F2.put hG504 hM535 ⟨by omega, by omega⟩
  have hD538 := DF_up hD505 hM535 (by omega)
  have hU539 := UL_up hU506 hM535
  have hR540 := RR_up hR533 hM535 (Or.inl (by omega))
  have hk541 := kp_up hM535 (fun h => absurd h.2 (by decide)) hk508
  have hk542 := kp_up hM535 (fun h => absurd h.2 (by decide)) hk509
  have hk543 := kp_up hM535 (fun h => absurd h.2 (by decide)) hk510
  have hk544 := kp_up hM535 (fun h => absurd h.2 (by decide)) hk511
  have hk545 := kp_up hM535 (fun h => absurd h.2 (by decide)) hk512
  have hk546 := kp_up hM535 (fun h => absurd h.2 (by decide)) hk513
  have hk547 := kp_up hM535 (fun h => absurd h.2 (by decide)) hk514
  have hk548 := kp_up hM535 (fun h => absurd h.2 (by decide)) hk515
  have hk549 := kp_up hM535 (fun h => absurd h.2 (by decide)) hk516
  have hk550 := kp_up hM535 (fun h => absurd h.2 (by decide)) hk517
  have hk551 := kp_up hM535 (fun h => absurd h.2 (by decide)) hk518
  have hk552 := kp_up hM535 (fun h => absurd h.2 (by decide)) hk519
  have hk553 := kp_up hM535 (fun h => absurd h.2 (by decide)) hk520
  have hk554 := kp_up hM535 (fun h => absurd h.2 (by decide)) hk521
  have hk555 := kp_up hM535 (fun h => absurd h.2 (by decide)) hk522
  have hk556 := kp_up hM535 (fun h => absurd h.2 (by decide)) hk523
  have hk557 := kp_up hM535 (fun h => absurd h.2 (by decide)) hk524
  have hk558 := kp_up hM535 (fun h => absurd h.2 (by decide)) hk525
  have hk559 := kp_up hM535 (fun h => absurd h.2 (by decide)) hk526
  have hk560 := kp_up hM535 (fun h => absurd h.2 (by decide)) hk527
  have hk561 := kp_up hM535 (fun h => absurd h.2 (by decide)) hk528
  have hk562 := kp_up hM535 (fun h => absurd h.2 (by decide)) hk529
  have hk563 := kp_up hM535 (fun h => absurd h.2 (by decide)) hk530
  have hk564 := kp_up hM535 (fun h => absurd h.2 (by decide)) hk531
  have hk565 := kp_up hM535 (fun h => absurd h.2 (by decide)) hk532
  have hk566 := kp_up hM535 (fun h => absurd h.2 (by decide)) hf503
  clear hk508 hk509 hk510 hk511 hk512 hk513 hk514 hk515 hk516 hk517 hk518 hk519 hk520 hk521 hk522 hk523 hk524 hk525 hk526 hk527 hk528 hk529 hk530 hk531 hk532 hf503
  refine j_aload_n hX dX11_init_204 rfl 0 rfl ?_
  refine j_sipush hX dX11_init_205 rfl ?_
  refine j_newa hX (k := 237) (by omega) (t := 0) (n := 1120) rfl (by decide) (in_1 163 (by first | rfl | decide +kernel) rfl) (by decide +kernel : kd 237 = .inr (0, 1120)) rfl (by decide) (hD538.at _ (by omega) (by omega)) ⟨by omega, by omega⟩ dX11_init_208 ?_
  have hR567 : RR 211 238 M534 := RR_s hR540 (Rg_plain (by omega) (by omega) (by decide +kernel : kd 237 = .inr (0, 1120)) (by decide) (hD538.at _ (by omega) (by omega))) (by omega)
  refine pfF_X11_95 hX hin (by omega) (by omega) (by decide +kernel : kd 210 = .inl 11) (by omega) (by omega) dX11_init_210 ?_
  refine j_upN (fun M568 hM569 hf570 => ?_)
  have hG571 := F2.put hG537 hM569 ⟨by omega, by omega⟩
  have hD572 := DF_up hD538 hM569 (by omega)
  have hU573 := UL_up hU539 hM569
  have hR574 := RR_up hR567 hM569 (Or.inl (by omega))
  have hk575 := kp_up hM569 (fun h => absurd h.2 (by decide)) hk541
  have hk576 := kp_up hM569 (fun h => absurd h.2 (by decide)) hk542
  have hk577 := kp_up hM569 (fun h => absurd h.2 (by decide)) hk543
  have hk578 := kp_up hM569 (fun h => absurd h.2 (by decide)) hk544
  have hk579 := kp_up hM569 (fun h => absurd h.2 (by decide)) hk545
  have hk580 := kp_up hM569 (fun h => absurd h.2 (by decide)) hk546
  have hk581 := kp_up hM569 (fun h => absurd h.2 (by decide)) hk547
  have hk582 := kp_up hM569 (fun h => absurd h.2 (by decide)) hk548
  have hk583 := kp_up hM569 (fun h => absurd h.2 (by decide)) hk549
  have hk584 := kp_up hM569 (fun h => absurd h.2 (by decide)) hk550
  have hk585 := kp_up hM569 (fun h => absurd h.2 (by decide)) hk551
  have hk586 := kp_up hM569 (fun h => absurd h.2 (by decide)) hk552
  have hk587 := kp_up hM569 (fun h => absurd h.2 (by decide)) hk553
  have hk588 := kp_up hM569 (fun h => absurd h.2 (by decide)) hk554
  have hk589 := kp_up hM569 (fun h => absurd h.2 (by decide)) hk555
  have hk590 := kp_up hM569 (fun h => absurd h.2 (by decide)) hk556
  have hk591 := kp_up hM569 (fun h => absurd h.2 (by decide)) hk557
  have hk592 := kp_up hM569 (fun h => absurd h.2 (by decide)) hk558
  have hk593 := kp_up hM569 (fun h => absurd h.2 (by decide)) hk559
  have hk594 := kp_up hM569 (fun h => absurd h.2 (by decide)) hk560
  have hk595 := kp_up hM569 (fun h => absurd h.2 (by decide)) hk561
  have hk596 := kp_up hM569 (fun h => absurd h.2 (by decide)) hk562
  have hk597 := kp_up hM569 (fun h => absurd h.2 (by decide)) hk563
  have hk598 := kp_up hM569 (fun h => absurd h.2 (by decide)) hk564
  have hk599 := kp_up hM569 (fun h => absurd h.2 (by decide)) hk565
  have hk600 := kp_up hM569 (fun h => absurd h.2 (by decide)) hk566
  have hk601 := kp_up hM569 (fun h => absurd h.2 (by decide)) hf536
  clear hk541 hk542 hk543 hk544 hk545 hk546 hk547 hk548 hk549 hk550 hk551 hk552 hk553 hk554 hk555 hk556 hk557 hk558 hk559 hk560 hk561 hk562 hk563 hk564 hk565 hk566 hf536
  refine j_aload_n hX dX11_init_213 rfl 0 rfl ?_
  refine j_sipush hX dX11_init_214 rfl ?_
  refine j_newa hX (k := 238) (by omega) (t := 0) (n := 1120) rfl (by decide) (in_1 163 (by first | rfl | decide +kernel) rfl) (by decide +kernel : kd 238 = .inr (0, 1120)) rfl (by decide) (hD572.at _ (by omega) (by omega)) ⟨by omega, by omega⟩ dX11_init_217 ?_
  have hR602 : RR 211 239 M568 := RR_s hR574 (Rg_plain (by omega) (by omega) (by decide +kernel : kd 238 = .inr (0, 1120)) (by decide) (hD572.at _ (by omega) (by omega))) (by omega)
  refine pfF_X11_98 hX hin (by omega) (by omega) (by decide +kernel : kd 210 = .inl 11) (by omega) (by omega) dX11_init_219 ?_
  refine j_upN (fun M603 hM604 hf605 => ?_)
  have hG606 := F2.put hG571 hM604 ⟨by omega, by omega⟩
  have hD607 := DF_up hD572 hM604 (by omega)
  have hU608 := UL_up hU573 hM604
  have hR609 := RR_up hR602 hM604 (Or.inl (by omega))
  have hk610 := kp_up hM604 (fun h => absurd h.2 (by decide)) hk575
  have hk611 := kp_up hM604 (fun h => absurd h.2 (by decide)) hk576
  have hk612 := kp_up hM604 (fun h => absurd h.2 (by decide)) hk577
  have hk613 := kp_up hM604 (fun h => absurd h.2 (by decide)) hk578
  have hk614 := kp_up hM604 (fun h => absurd h.2 (by decide)) hk579
  have hk615 := kp_up hM604 (fun h => absurd h.2 (by decide)) hk580
  have hk616 := kp_up hM604 (fun h => absurd h.2 (by decide)) hk581
  have hk617 := kp_up hM604 (fun h => absurd h.2 (by decide)) hk582
  have hk618 := kp_up hM604 (fun h => absurd h.2 (by decide)) hk583
  have hk619 := kp_up hM604 (fun h => absurd h.2 (by decide)) hk584
  have hk620 := kp_up hM604 (fun h => absurd h.2 (by decide)) hk585
  have hk621 := kp_up hM604 (fun h => absurd h.2 (by decide)) hk586
  have hk622 := kp_up hM604 (fun h => absurd h.2 (by decide)) hk587
  have hk623 := kp_up hM604 (fun h => absurd h.2 (by decide)) hk588
  have hk624 := kp_up hM604 (fun h => absurd h.2 (by decide)) hk589
  have hk625 := kp_up hM604 (fun h => absurd h.2 (by decide)) hk590
  have hk626 := kp_up hM604 (fun h => absurd h.2 (by decide)) hk591
  have hk627 := kp_up hM604 (fun h => absurd h.2 (by decide)) hk592
  have hk628 := kp_up hM604 (fun h => absurd h.2 (by decide)) hk593
  have hk629 := kp_up hM604 (fun h => absurd h.2 (by decide)) hk594
  have hk630 := kp_up hM604 (fun h => absurd h.2 (by decide)) hk595
  have hk631 := kp_up hM604 (fun h => absurd h.2 (by decide)) hk596
  have hk632 := kp_up hM604 (fun h => absurd h.2 (by decide)) hk597
  have hk633 := kp_up hM604 (fun h => absurd h.2 (by decide)) hk598
  have hk634 := kp_up hM604 (fun h => absurd h.2 (by decide)) hk599
  have hk635 := kp_up hM604 (fun h => absurd h.2 (by decide)) hk600
  have hk636 := kp_up hM604 (fun h => absurd h.2 (by decide)) hk601
  have hk637 := kp_up hM604 (fun h => absurd h.2 (by decide)) hf570
  clear hk575 hk576 hk577 hk578 hk579 hk580 hk581 hk582 hk583 hk584 hk585 hk586 hk587 hk588 hk589 hk590 hk591 hk592 hk593 hk594 hk595 hk596 hk597 hk598 hk599 hk600 hk601 hf570
  refine j_aload_n hX dX11_init_222 rfl 0 rfl ?_
  refine j_bipush hX dX11_init_223 rfl ?_
  refine j_newa hX (k := 239) (by omega) (t := 0) (n := 90) rfl (by decide) (in_1 163 (by first | rfl | decide +kernel) rfl) (by decide +kernel : kd 239 = .inr (0, 90)) rfl (by decide) (hD607.at _ (by omega) (by omega)) ⟨by omega, by omega⟩ dX11_init_225 ?_
  have hR638 : RR 211 240 M603 := RR_s hR609 (Rg_plain (by omega) (by omega) (by decide +kernel : kd 239 = .inr (0, 90)) (by decide) (hD607.at _ (by omega) (by omega))) (by omega)
  refine pfF_X11_101 hX hin (by omega) (by omega) (by decide +kernel : kd 210 = .inl 11) (by omega) (by omega) dX11_init_227 ?_
  refine j_upN (fun M639 hM640 hf641 => ?_)
  have hG642 := F2.put hG606 hM640 ⟨by omega, by omega⟩
  have hD643 := DF_up hD607 hM640 (by omega)
  have hU644 := UL_up hU608 hM640
  have hR645 := RR_up hR638 hM640 (Or.inl (by omega))
  have hk646 := kp_up hM640 (fun h => absurd h.2 (by decide)) hk610
  have hk647 := kp_up hM640 (fun h => absurd h.2 (by decide)) hk611
  have hk648 := kp_up hM640 (fun h => absurd h.2 (by decide)) hk612
  have hk649 := kp_up hM640 (fun h => absurd h.2 (by decide)) hk613
  have hk650 := kp_up hM640 (fun h => absurd h.2 (by decide)) hk614
  have hk651 := kp_up hM640 (fun h => absurd h.2 (by decide)) hk615
  have hk652 := kp_up hM640 (fun h => absurd h.2 (by decide)) hk616
  have hk653 := kp_up hM640 (fun h => absurd h.2 (by decide)) hk617
  have hk654 := kp_up hM640 (fun h => absurd h.2 (by decide)) hk618
  have hk655 := kp_up hM640 (fun h => absurd h.2 (by decide)) hk619
  have hk656 := kp_up hM640 (fun h => absurd h.2 (by decide)) hk620
  have hk657 := kp_up hM640 (fun h => absurd h.2 (by decide)) hk621
  have hk658 := kp_up hM640 (fun h => absurd h.2 (by decide)) hk622
  have hk659 := kp_up hM640 (fun h => absurd h.2 (by decide)) hk623
  have hk660 := kp_up hM640 (fun h => absurd h.2 (by decide)) hk624
  have hk661 := kp_up hM640 (fun h => absurd h.2 (by decide)) hk625
  have hk662 := kp_up hM640 (fun h => absurd h.2 (by decide)) hk626
  have hk663 := kp_up hM640 (fun h => absurd h.2 (by decide)) hk627
  have hk664 := kp_up hM640 (fun h => absurd h.2 (by decide)) hk628
  have hk665 := kp_up hM640 (fun h => absurd h.2 (by decide)) hk629
  have hk666 := kp_up hM640 (fun h => absurd h.2 (by decide)) hk630
  have hk667 := kp_up hM640 (fun h => absurd h.2 (by decide)) hk631
  have hk668 := kp_up hM640 (fun h => absurd h.2 (by decide)) hk632
  have hk669 := kp_up hM640 (fun h => absurd h.2 (by decide)) hk633
  have hk670 := kp_up hM640 (fun h => absurd h.2 (by decide)) hk634
  have hk671 := kp_up hM640 (fun h => absurd h.2 (by decide)) hk635
  have hk672 := kp_up hM640 (fun h => absurd h.2 (by decide)) hk636
  have hk673 := kp_up hM640 (fun h => absurd h.2 (by decide)) hk637
  have hk674 := kp_up hM640 (fun h => absurd h.2 (by decide)) hf605
  clear hk610 hk611 hk612 hk613 hk614 hk615 hk616 hk617 hk618 hk619 hk620 hk621 hk622 hk623 hk624 hk625 hk626 hk627 hk628 hk629 hk630 hk631 hk632 hk633 hk634 hk635 hk636 hk637 hf605
  refine j_aload_n hX dX11_init_230 rfl 0 rfl ?_
  refine j_bipush hX dX11_init_231 rfl ?_
  refine j_newa hX (k := 240) (by omega) (t := 0) (n := 90) rfl (by decide) (in_1 163 (by first | rfl | decide +kernel) rfl) (by decide +kernel : kd 240 = .inr (0, 90)) rfl (by decide) (hD643.at _ (by omega) (by omega)) ⟨by omega, by omega⟩ dX11_init_233 ?_
  have hR675 : RR 211 241 M639 := RR_s hR645 (Rg_plain (by omega) (by omega) (by decide +kernel : kd 240 = .inr (0, 90)) (by decide) (hD643.at _ (by omega) (by omega))) (by omega)
  refine pfF_X11_104 hX hin (by omega) (by omega) (by decide +kernel : kd 210 = .inl 11) (by omega) (by omega) dX11_init_235 ?_
  refine j_upN (fun M676 hM677 hf678 => ?_)
  have hG679 := F2.put hG642 hM677 ⟨by omega, by omega⟩
  have hD680 := DF_up hD643 hM677 (by omega)
  have hU681 := UL_up hU644 hM677
  have hR682 := RR_up hR675 hM677 (Or.inl (by omega))
  have hk683 := kp_up hM677 (fun h => absurd h.2 (by decide)) hk646
  have hk684 := kp_up hM677 (fun h => absurd h.2 (by decide)) hk647
  have hk685 := kp_up hM677 (fun h => absurd h.2 (by decide)) hk648
  have hk686 := kp_up hM677 (fun h => absurd h.2 (by decide)) hk649
  have hk687 := kp_up hM677 (fun h => absurd h.2 (by decide)) hk650
  have hk688 := kp_up hM677 (fun h => absurd h.2 (by decide)) hk651
  have hk689 := kp_up hM677 (fun h => absurd h.2 (by decide)) hk652
  have hk690 := kp_up hM677 (fun h => absurd h.2 (by decide)) hk653
  have hk691 := kp_up hM677 (fun h => absurd h.2 (by decide)) hk654
  have hk692 := kp_up hM677 (fun h => absurd h.2 (by decide)) hk655
  have hk693 := kp_up hM677 (fun h => absurd h.2 (by decide)) hk656
  have hk694 := kp_up hM677 (fun h => absurd h.2 (by decide)) hk657
  have hk695 := kp_up hM677 (fun h => absurd h.2 (by decide)) hk658
  have hk696 := kp_up hM677 (fun h => absurd h.2 (by decide)) hk659
  have hk697 := kp_up hM677 (fun h => absurd h.2 (by decide)) hk660
  have hk698 := kp_up hM677 (fun h => absurd h.2 (by decide)) hk661
  have hk699 := kp_up hM677 (fun h => absurd h.2 (by decide)) hk662
  have hk700 := kp_up hM677 (fun h => absurd h.2 (by decide)) hk663
  have hk701 := kp_up hM677 (fun h => absurd h.2 (by decide)) hk664
  have hk702 := kp_up hM677 (fun h => absurd h.2 (by decide)) hk665
  have hk703 := kp_up hM677 (fun h => absurd h.2 (by decide)) hk666
  have hk704 := kp_up hM677 (fun h => absurd h.2 (by decide)) hk667
  have hk705 := kp_up hM677 (fun h => absurd h.2 (by decide)) hk668
  have hk706 := kp_up hM677 (fun h => absurd h.2 (by decide)) hk669
  have hk707 := kp_up hM677 (fun h => absurd h.2 (by decide)) hk670
  have hk708 := kp_up hM677 (fun h => absurd h.2 (by decide)) hk671
  have hk709 := kp_up hM677 (fun h => absurd h.2 (by decide)) hk672
  have hk710 := kp_up hM677 (fun h => absurd h.2 (by decide)) hk673
  have hk711 := kp_up hM677 (fun h => absurd h.2 (by decide)) hk674
  have hk712 := kp_up hM677 (fun h => absurd h.2 (by decide)) hf641
  clear hk646 hk647 hk648 hk649 hk650 hk651 hk652 hk653 hk654 hk655 hk656 hk657 hk658 hk659 hk660 hk661 hk662 hk663 hk664 hk665 hk666 hk667 hk668 hk669 hk670 hk671 hk672 hk673 hk674 hf641
  refine j_aload_n hX dX11_init_238 rfl 0 rfl ?_
  refine j_bipush hX dX11_init_239 rfl ?_
  refine j_newa hX (k := 241) (by omega) (t := 0) (n := 60) rfl (by decide) (in_1 163 (by first | rfl | decide +kernel) rfl) (by decide +kernel : kd 241 = .inr (0, 60)) rfl (by decide) (hD680.at _ (by omega) (by omega)) ⟨by omega, by omega⟩ dX11_init_241 ?_
  have hR713 : RR 211 242 M676 := RR_s hR682 (Rg_plain (by omega) (by omega) (by decide +kernel : kd 241 = .inr (0, 60)) (by decide) (hD680.at _ (by omega) (by omega))) (by omega)
  refine pfF_X11_107 hX hin (by omega) (by omega) (by decide +kernel : kd 210 = .inl 11) (by omega) (by omega) dX11_init_243 ?_
  refine j_upN (fun M714 hM715 hf716 => ?_)
  have hG717 := F2.put hG679 hM715 ⟨by omega, by omega⟩
  have hD718 := DF_up hD680 hM715 (by omega)
  have hU719 := UL_up hU681 hM715
  have hR720 := RR_up hR713 hM715 (Or.inl (by omega))
  have hk721 := kp_up hM715 (fun h => absurd h.2 (by decide)) hk683
  have hk722 := kp_up hM715 (fun h => absurd h.2 (by decide)) hk684
  have hk723 := kp_up hM715 (fun h => absurd h.2 (by decide)) hk685
  have hk724 := kp_up hM715 (fun h => absurd h.2 (by decide)) hk686
  have hk725 := kp_up hM715 (fun h => absurd h.2 (by decide)) hk687
  have hk726 := kp_up hM715 (fun h => absurd h.2 (by decide)) hk688
  have hk727 := kp_up hM715 (fun h => absurd h.2 (by decide)) hk689
  have hk728 := kp_up hM715 (fun h => absurd h.2 (by decide)) hk690
  have hk729 := kp_up hM715 (fun h => absurd h.2 (by decide)) hk691
  have hk730 := kp_up hM715 (fun h => absurd h.2 (by decide)) hk692
  have hk731 := kp_up hM715 (fun h => absurd h.2 (by decide)) hk693
  have hk732 := kp_up hM715 (fun h => absurd h.2 (by decide)) hk694
  have hk733 := kp_up hM715 (fun h => absurd h.2 (by decide)) hk695
  have hk734 := kp_up hM715 (fun h => absurd h.2 (by decide)) hk696
  have hk735 := kp_up hM715 (fun h => absurd h.2 (by decide)) hk697
  have hk736 := kp_up hM715 (fun h => absurd h.2 (by decide)) hk698
  have hk737 := kp_up hM715 (fun h => absurd h.2 (by decide)) hk699
  have hk738 := kp_up hM715 (fun h => absurd h.2 (by decide)) hk700
  have hk739 := kp_up hM715 (fun h => absurd h.2 (by decide)) hk701
  have hk740 := kp_up hM715 (fun h => absurd h.2 (by decide)) hk702
  have hk741 := kp_up hM715 (fun h => absurd h.2 (by decide)) hk703
  have hk742 := kp_up hM715 (fun h => absurd h.2 (by decide)) hk704
  have hk743 := kp_up hM715 (fun h => absurd h.2 (by decide)) hk705
  have hk744 := kp_up hM715 (fun h => absurd h.2 (by decide)) hk706
  have hk745 := kp_up hM715 (fun h => absurd h.2 (by decide)) hk707
  have hk746 := kp_up hM715 (fun h => absurd h.2 (by decide)) hk708
  have hk747 := kp_up hM715 (fun h => absurd h.2 (by decide)) hk709
  have hk748 := kp_up hM715 (fun h => absurd h.2 (by decide)) hk710
  have hk749 := kp_up hM715 (fun h => absurd h.2 (by decide)) hk711
  have hk750 := kp_up hM715 (fun h => absurd h.2 (by decide)) hk712
  have hk751 := kp_up hM715 (fun h => absurd h.2 (by decide)) hf678
  clear hk683 hk684 hk685 hk686 hk687 hk688 hk689 hk690 hk691 hk692 hk693 hk694 hk695 hk696 hk697 hk698 hk699 hk700 hk701 hk702 hk703 hk704 hk705 hk706 hk707 hk708 hk709 hk710 hk711 hk712 hf678
  refine j_aload_n hX dX11_init_246 rfl 0 rfl ?_
  refine j_bipush hX dX11_init_247 rfl ?_
  refine j_newa hX (k := 242) (by omega) (t := 0) (n := 16) rfl (by decide) (in_1 163 (by first | rfl | decide +kernel) rfl) (by decide +kernel : kd 242 = .inr (0, 16)) rfl (by decide) (hD718.at _ (by omega) (by omega)) ⟨by omega, by omega⟩ dX11_init_249 ?_
  have hR752 : RR 211 243 M714 := RR_s hR720 (Rg_plain (by omega) (by omega) (by decide +kernel : kd 242 = .inr (0, 16)) (by decide) (hD718.at _ (by omega) (by omega))) (by omega)
  refine pfF_X11_110 hX hin (by omega) (by omega) (by decide +kernel : kd 210 = .inl 11) (by omega) (by omega) dX11_init_251 ?_
  refine j_upN (fun M753 hM754 hf755 => ?_)
  have hG756 := F2.put hG717 hM754 ⟨by omega, by omega⟩
  have hD757 := DF_up hD718 hM754 (by omega)
  have hU758 := UL_up hU719 hM754
  have hR759 := RR_up hR752 hM754 (Or.inl (by omega))
  have hk760 := kp_up hM754 (fun h => absurd h.2 (by decide)) hk721
  have hk761 := kp_up hM754 (fun h => absurd h.2 (by decide)) hk722
  have hk762 := kp_up hM754 (fun h => absurd h.2 (by decide)) hk723
  have hk763 := kp_up hM754 (fun h => absurd h.2 (by decide)) hk724
  have hk764 := kp_up hM754 (fun h => absurd h.2 (by decide)) hk725
  have hk765 := kp_up hM754 (fun h => absurd h.2 (by decide)) hk726
  have hk766 := kp_up hM754 (fun h => absurd h.2 (by decide)) hk727
  have hk767 := kp_up hM754 (fun h => absurd h.2 (by decide)) hk728
  have hk768 := kp_up hM754 (fun h => absurd h.2 (by decide)) hk729
  have hk769 := kp_up hM754 (fun h => absurd h.2 (by decide)) hk730
  have hk770 := kp_up hM754 (fun h => absurd h.2 (by decide)) hk731
  have hk771 := kp_up hM754 (fun h => absurd h.2 (by decide)) hk732
  have hk772 := kp_up hM754 (fun h => absurd h.2 (by decide)) hk733
  have hk773 := kp_up hM754 (fun h => absurd h.2 (by decide)) hk734
  have hk774 := kp_up hM754 (fun h => absurd h.2 (by decide)) hk735
  have hk775 := kp_up hM754 (fun h => absurd h.2 (by decide)) hk736
  have hk776 := kp_up hM754 (fun h => absurd h.2 (by decide)) hk737
  have hk777 := kp_up hM754 (fun h => absurd h.2 (by decide)) hk738
  have hk778 := kp_up hM754 (fun h => absurd h.2 (by decide)) hk739
  have hk779 := kp_up hM754 (fun h => absurd h.2 (by decide)) hk740
  have hk780 := kp_up hM754 (fun h => absurd h.2 (by decide)) hk741
  have hk781 := kp_up hM754 (fun h => absurd h.2 (by decide)) hk742
  have hk782 := kp_up hM754 (fun h => absurd h.2 (by decide)) hk743
  have hk783 := kp_up hM754 (fun h => absurd h.2 (by decide)) hk744
  have hk784 := kp_up hM754 (fun h => absurd h.2 (by decide)) hk745
  have hk785 := kp_up hM754 (fun h => absurd h.2 (by decide)) hk746
  have hk786 := kp_up hM754 (fun h => absurd h.2 (by decide)) hk747
  have hk787 := kp_up hM754 (fun h => absurd h.2 (by decide)) hk748
  have hk788 := kp_up hM754 (fun h => absurd h.2 (by decide)) hk749
  have hk789 := kp_up hM754 (fun h => absurd h.2 (by decide)) hk750
  have hk790 := kp_up hM754 (fun h => absurd h.2 (by decide)) hk751
  have hk791 := kp_up hM754 (fun h => absurd h.2 (by decide)) hf716
  clear hk721 hk722 hk723 hk724 hk725 hk726 hk727 hk728 hk729 hk730 hk731 hk732 hk733 hk734 hk735 hk736 hk737 hk738 hk739 hk740 hk741 hk742 hk743 hk744 hk745 hk746 hk747 hk748 hk749 hk750 hk751 hf716
  refine j_aload_n hX dX11_init_254 rfl 0 rfl ?_
  refine j_bipush hX dX11_init_255 rfl ?_
  refine j_newa hX (k := 243) (by omega) (t := 0) (n := 6) rfl (by decide) (in_1 163 (by first | rfl | decide +kernel) rfl) (by decide +kernel : kd 243 = .inr (0, 6)) rfl (by decide) (hD757.at _ (by omega) (by omega)) ⟨by omega, by omega⟩ dX11_init_257 ?_
  have hR792 : RR 211 244 M753 := RR_s hR759 (Rg_plain (by omega) (by omega) (by decide +kernel : kd 243 = .inr (0, 6)) (by decide) (hD757.at _ (by omega) (by omega))) (by omega)
  refine pfF_X11_113 hX hin (by omega) (by omega) (by decide +kernel : kd 210 = .inl 11) (by omega) (by omega) dX11_init_259 ?_
  refine j_upN (fun M793 hM794 hf795 => ?_)
  have hG796 := F2.put hG756 hM794 ⟨by omega, by omega⟩
  have hD797 := DF_up hD757 hM794 (by omega)
  have hU798 := UL_up hU758 hM794
  have hR799 := RR_up hR792 hM794 (Or.inl (by omega))
  have hk800 := kp_up hM794 (fun h => absurd h.2 (by decide)) hk760
  have hk801 := kp_up hM794 (fun h => absurd h.2 (by decide)) hk761
  have hk802 := kp_up hM794 (fun h => absurd h.2 (by decide)) hk762
  have hk803 := kp_up hM794 (fun h => absurd h.2 (by decide)) hk763
  have hk804 := kp_up hM794 (fun h => absurd h.2 (by decide)) hk764
  have hk805 := kp_up hM794 (fun h => absurd h.2 (by decide)) hk765
  have hk806 := kp_up hM794 (fun h => absurd h.2 (by decide)) hk766
  have hk807 := kp_up hM794 (fun h => absurd h.2 (by decide)) hk767
  have hk808 := kp_up hM794 (fun h => absurd h.2 (by decide)) hk768
  have hk809 := kp_up hM794 (fun h => absurd h.2 (by decide)) hk769
  have hk810 := kp_up hM794 (fun h => absurd h.2 (by decide)) hk770
  have hk811 := kp_up hM794 (fun h => absurd h.2 (by decide)) hk771
  have hk812 := kp_up hM794 (fun h => absurd h.2 (by decide)) hk772
  have hk813 := kp_up hM794 (fun h => absurd h.2 (by decide)) hk773
  have hk814 := kp_up hM794 (fun h => absurd h.2 (by decide)) hk774
  have hk815 := kp_up hM794 (fun h => absurd h.2 (by decide)) hk775
  have hk816 := kp_up hM794 (fun h => absurd h.2 (by decide)) hk776
  have hk817 := kp_up hM794 (fun h => absurd h.2 (by decide)) hk777
  have hk818 := kp_up hM794 (fun h => absurd h.2 (by decide)) hk778
  have hk819 := kp_up hM794 (fun h => absurd h.2 (by decide)) hk779
  have hk820 := kp_up hM794 (fun h => absurd h.2 (by decide)) hk780
  have hk821 := kp_up hM794 (fun h => absurd h.2 (by decide)) hk781
  have hk822 := kp_up hM794 (fun h => absurd h.2 (by decide)) hk782
  have hk823 := kp_up hM794 (fun h => absurd h.2 (by decide)) hk783
  have hk824 := kp_up hM794 (fun h => absurd h.2 (by decide)) hk784
  have hk825 := kp_up hM794 (fun h => absurd h.2 (by decide)) hk785
  have hk826 := kp_up hM794 (fun h => absurd h.2 (by decide)) hk786
  have hk827 := kp_up hM794 (fun h => absurd h.2 (by decide)) hk787
  have hk828 := kp_up hM794 (fun h => absurd h.2 (by decide)) hk788
  have hk829 := kp_up hM794 (fun h => absurd h.2 (by decide)) hk789
  have hk830 := kp_up hM794 (fun h => absurd h.2 (by decide)) hk790
  have hk831 := kp_up hM794 (fun h => absurd h.2 (by decide)) hk791
  have hk832 := kp_up hM794 (fun h => absurd h.2 (by decide)) hf755
  clear hk760 hk761 hk762 hk763 hk764 hk765 hk766 hk767 hk768 hk769 hk770 hk771 hk772 hk773 hk774 hk775 hk776 hk777 hk778 hk779 hk780 hk781 hk782 hk783 hk784 hk785 hk786 hk787 hk788 hk789 hk790 hk791 hf755
  refine j_aload_n hX dX11_init_262 rfl 0 rfl ?_
  refine j_sipush hX dX11_init_263 rfl ?_
  refine j_newa hX (k := 244) (by omega) (t := 0) (n := 656) rfl (by decide) (in_1 163 (by first | rfl | decide +kernel) rfl) (by decide +kernel : kd 244 = .inr (0, 656)) rfl (by decide) (hD797.at _ (by omega) (by omega)) ⟨by omega, by omega⟩ dX11_init_266 ?_
  have hR833 : RR 211 245 M793 := RR_s hR799 (Rg_plain (by omega) (by omega) (by decide +kernel : kd 244 = .inr (0, 656)) (by decide) (hD797.at _ (by omega) (by omega))) (by omega)
  refine pfF_X11_116 hX hin (by omega) (by omega) (by decide +kernel : kd 210 = .inl 11) (by omega) (by omega) dX11_init_268 ?_
  refine j_upN (fun M834 hM835 hf836 => ?_)
  have hG837 := F2.put hG796 hM835 ⟨by omega, by omega⟩
  have hD838 := DF_up hD797 hM835 (by omega)
  have hU839 := UL_up hU798 hM835
  have hR840 := RR_up hR833 hM835 (Or.inl (by omega))
  have hk841 := kp_up hM835 (fun h => absurd h.2 (by decide)) hk800
  have hk842 := kp_up hM835 (fun h => absurd h.2 (by decide)) hk801
  have hk843 := kp_up hM835 (fun h => absurd h.2 (by decide)) hk802
  have hk844 := kp_up hM835 (fun h => absurd h.2 (by decide)) hk803
  have hk845 := kp_up hM835 (fun h => absurd h.2 (by decide)) hk804
  have hk846 := kp_up hM835 (fun h => absurd h.2 (by decide)) hk805
  have hk847 := kp_up hM835 (fun h => absurd h.2 (by decide)) hk806
  have hk848 := kp_up hM835 (fun h => absurd h.2 (by decide)) hk807
  have hk849 := kp_up hM835 (fun h => absurd h.2 (by decide)) hk808
  have hk850 := kp_up hM835 (fun h => absurd h.2 (by decide)) hk809
  have hk851 := kp_up hM835 (fun h => absurd h.2 (by decide)) hk810
  have hk852 := kp_up hM835 (fun h => absurd h.2 (by decide)) hk811
  have hk853 := kp_up hM835 (fun h => absurd h.2 (by decide)) hk812
  have hk854 := kp_up hM835 (fun h => absurd h.2 (by decide)) hk813
  have hk855 := kp_up hM835 (fun h => absurd h.2 (by decide)) hk814
  have hk856 := kp_up hM835 (fun h => absurd h.2 (by decide)) hk815
  have hk857 := kp_up hM835 (fun h => absurd h.2 (by decide)) hk816
  have hk858 := kp_up hM835 (fun h => absurd h.2 (by decide)) hk817
  have hk859 := kp_up hM835 (fun h => absurd h.2 (by decide)) hk818
  have hk860 := kp_up hM835 (fun h => absurd h.2 (by decide)) hk819
  have hk861 := kp_up hM835 (fun h => absurd h.2 (by decide)) hk820
  have hk862 := kp_up hM835 (fun h => absurd h.2 (by decide)) hk821
  have hk863 := kp_up hM835 (fun h => absurd h.2 (by decide)) hk822
  have hk864 := kp_up hM835 (fun h => absurd h.2 (by decide)) hk823
  have hk865 := kp_up hM835 (fun h => absurd h.2 (by decide)) hk824
  have hk866 := kp_up hM835 (fun h => absurd h.2 (by decide)) hk825
  have hk867 := kp_up hM835 (fun h => absurd h.2 (by decide)) hk826
  have hk868 := kp_up hM835 (fun h => absurd h.2 (by decide)) hk827
  have hk869 := kp_up hM835 (fun h => absurd h.2 (by decide)) hk828
  have hk870 := kp_up hM835 (fun h => absurd h.2 (by decide)) hk829
  have hk871 := kp_up hM835 (fun h => absurd h.2 (by decide)) hk830
  have hk872 := kp_up hM835 (fun h => absurd h.2 (by decide)) hk831
  have hk873 := kp_up hM835 (fun h => absurd h.2 (by decide)) hk832
  have hk874 := kp_up hM835 (fun h => absurd h.2 (by decide)) hf795
  clear hk800 hk801 hk802 hk803 hk804 hk805 hk806 hk807 hk808 hk809 hk810 hk811 hk812 hk813 hk814 hk815 hk816 hk817 hk818 hk819 hk820 hk821 hk822 hk823 hk824 hk825 hk826 hk827 hk828 hk829 hk830 hk831 hk832 hf795
  refine j_aload_n hX dX11_init_271 rfl 0 rfl ?_
  refine j_bipush hX dX11_init_272 rfl ?_
  refine j_newa hX (k := 245) (by omega) (t := 0) (n := 16) rfl (by decide) (in_1 163 (by first | rfl | decide +kernel) rfl) (by decide +kernel : kd 245 = .inr (0, 16)) rfl (by decide) (hD838.at _ (by omega) (by omega)) ⟨by omega, by omega⟩ dX11_init_274 ?_
  have hR875 : RR 211 246 M834 := RR_s hR840 (Rg_plain (by omega) (by omega) (by decide +kernel : kd 245 = .inr (0, 16)) (by decide) (hD838.at _ (by omega) (by omega))) (by omega)
  refine pfF_X11_119 hX hin (by omega) (by omega) (by decide +kernel : kd 210 = .inl 11) (by omega) (by omega) dX11_init_276 ?_
  refine j_upN (fun M876 hM877 hf878 => ?_)
  have hG879 := F2.put hG837 hM877 ⟨by omega, by omega⟩
  have hD880 := DF_up hD838 hM877 (by omega)
  have hU881 := UL_up hU839 hM877
  have hR882 := RR_up hR875 hM877 (Or.inl (by omega))
  have hk883 := kp_up hM877 (fun h => absurd h.2 (by decide)) hk841
  have hk884 := kp_up hM877 (fun h => absurd h.2 (by decide)) hk842
  have hk885 := kp_up hM877 (fun h => absurd h.2 (by decide)) hk843
  have hk886 := kp_up hM877 (fun h => absurd h.2 (by decide)) hk844
  have hk887 := kp_up hM877 (fun h => absurd h.2 (by decide)) hk845
  have hk888 := kp_up hM877 (fun h => absurd h.2 (by decide)) hk846
  have hk889 := kp_up hM877 (fun h => absurd h.2 (by decide)) hk847
  have hk890 := kp_up hM877 (fun h => absurd h.2 (by decide)) hk848
  have hk891 := kp_up hM877 (fun h => absurd h.2 (by decide)) hk849
  have hk892 := kp_up hM877 (fun h => absurd h.2 (by decide)) hk850
  have hk893 := kp_up hM877 (fun h => absurd h.2 (by decide)) hk851
  have hk894 := kp_up hM877 (fun h => absurd h.2 (by decide)) hk852
  have hk895 := kp_up hM877 (fun h => absurd h.2 (by decide)) hk853
  have hk896 := kp_up hM877 (fun h => absurd h.2 (by decide)) hk854
  have hk897 := kp_up hM877 (fun h => absurd h.2 (by decide)) hk855
  have hk898 := kp_up hM877 (fun h => absurd h.2 (by decide)) hk856
  have hk899 := kp_up hM877 (fun h => absurd h.2 (by decide)) hk857
  have hk900 := kp_up hM877 (fun h => absurd h.2 (by decide)) hk858
  have hk901 := kp_up hM877 (fun h => absurd h.2 (by decide)) hk859
  have hk902 := kp_up hM877 (fun h => absurd h.2 (by decide)) hk860
  have hk903 := kp_up hM877 (fun h => absurd h.2 (by decide)) hk861
  have hk904 := kp_up hM877 (fun h => absurd h.2 (by decide)) hk862
  have hk905 := kp_up hM877 (fun h => absurd h.2 (by decide)) hk863
  have hk906 := kp_up hM877 (fun h => absurd h.2 (by decide)) hk864
  have hk907 := kp_up hM877 (fun h => absurd h.2 (by decide)) hk865
  have hk908 := kp_up hM877 (fun h => absurd h.2 (by decide)) hk866
  have hk909 := kp_up hM877 (fun h => absurd h.2 (by decide)) hk867
  have hk910 := kp_up hM877 (fun h => absurd h.2 (by decide)) hk868
  have hk911 := kp_up hM877 (fun h => absurd h.2 (by decide)) hk869
  have hk912 := kp_up hM877 (fun h => absurd h.2 (by decide)) hk870
  have hk913 := kp_up hM877 (fun h => absurd h.2 (by decide)) hk871
  have hk914 := kp_up hM877 (fun h => absurd h.2 (by decide)) hk872
  have hk915 := kp_up hM877 (fun h => absurd h.2 (by decide)) hk873
  have hk916 := kp_up hM877 (fun h => absurd h.2 (by decide)) hk874
  have hk917 := kp_up hM877 (fun h => absurd h.2 (by decide)) hf836
  clear hk841 hk842 hk843 hk844 hk845 hk846 hk847 hk848 hk849 hk850 hk851 hk852 hk853 hk854 hk855 hk856 hk857 hk858 hk859 hk860 hk861 hk862 hk863 hk864 hk865 hk866 hk867 hk868 hk869 hk870 hk871 hk872 hk873 hk874 hf836
  refine j_aload_n hX dX11_init_279 rfl 0 rfl ?_
  refine j_bipush hX dX11_init_280 rfl ?_
  refine j_newa hX (k := 246) (by omega) (t := 0) (n := 7) rfl (by decide) (in_1 163 (by first | rfl | decide +kernel) rfl) (by decide +kernel : kd 246 = .inr (0, 7)) rfl (by decide) (hD880.at _ (by omega) (by omega)) ⟨by omega, by omega⟩ dX11_init_282 ?_
  have hR918 : RR 211 247 M876 := RR_s hR882 (Rg_plain (by omega) (by omega) (by decide +kernel : kd 246 = .inr (0, 7)) (by decide) (hD880.at _ (by omega) (by omega))) (by omega)
  refine pfF_X11_122 hX hin (by omega) (by omega) (by decide +kernel : kd 210 = .inl 11) (by omega) (by omega) dX11_init_284 ?_
  refine j_upN (fun M919 hM920 hf921 => ?_)
  have hG922 := F2.put hG879 hM920 ⟨by omega, by omega⟩
  have hD923 := DF_up hD880 hM920 (by omega)
  have hU924 := UL_up hU881 hM920
  have hR925 := RR_up hR918 hM920 (Or.inl (by omega))
  have hk926 := kp_up hM920 (fun h => absurd h.2 (by decide)) hk883
  have hk927 := kp_up hM920 (fun h => absurd h.2 (by decide)) hk884
  have hk928 := kp_up hM920 (fun h => absurd h.2 (by decide)) hk885
  have hk929 := kp_up hM920 (fun h => absurd h.2 (by decide)) hk886
  have hk930 := kp_up hM920 (fun h => absurd h.2 (by decide)) hk887
  have hk931 := kp_up hM920 (fun h => absurd h.2 (by decide)) hk888
  have hk932 := kp_up hM920 (fun h => absurd h.2 (by decide)) hk889
  have hk933 := kp_up hM920 (fun h => absurd h.2 (by decide)) hk890
  have hk934 := kp_up hM920 (fun h => absurd h.2 (by decide)) hk891
  have hk935 := kp_up hM920 (fun h => absurd h.2 (by decide)) hk892
  have hk936 := kp_up hM920 (fun h => absurd h.2 (by decide)) hk893
  have hk937 := kp_up hM920 (fun h => absurd h.2 (by decide)) hk894
  have hk938 := kp_up hM920 (fun h => absurd h.2 (by decide)) hk895
  have hk939 := kp_up hM920 (fun h => absurd h.2 (by decide)) hk896
  have hk940 := kp_up hM920 (fun h => absurd h.2 (by decide)) hk897
  have hk941 := kp_up hM920 (fun h => absurd h.2 (by decide)) hk898
  have hk942 := kp_up hM920 (fun h => absurd h.2 (by decide)) hk899
  have hk943 := kp_up hM920 (fun h => absurd h.2 (by decide)) hk900
  have hk944 := kp_up hM920 (fun h => absurd h.2 (by decide)) hk901
  have hk945 := kp_up hM920 (fun h => absurd h.2 (by decide)) hk902
  have hk946 := kp_up hM920 (fun h => absurd h.2 (by decide)) hk903
  have hk947 := kp_up hM920 (fun h => absurd h.2 (by decide)) hk904
  have hk948 := kp_up hM920 (fun h => absurd h.2 (by decide)) hk905
  have hk949 := kp_up hM920 (fun h => absurd h.2 (by decide)) hk906
  have hk950 := kp_up hM920 (fun h => absurd h.2 (by decide)) hk907
  have hk951 := kp_up hM920 (fun h => absurd h.2 (by decide)) hk908
  have hk952 := kp_up hM920 (fun h => absurd h.2 (by decide)) hk909
  have hk953 := kp_up hM920 (fun h => absurd h.2 (by decide)) hk910
  have hk954 := kp_up hM920 (fun h => absurd h.2 (by decide)) hk911
  have hk955 := kp_up hM920 (fun h => absurd h.2 (by decide)) hk912
  have hk956 := kp_up hM920 (fun h => absurd h.2 (by decide)) hk913
  have hk957 := kp_up hM920 (fun h => absurd h.2 (by decide)) hk914
  have hk958 := kp_up hM920 (fun h => absurd h.2 (by decide)) hk915
  have hk959 := kp_up hM920 (fun h => absurd h.2 (by decide)) hk916
  have hk960 := kp_up hM920 (fun h => absurd h.2 (by decide)) hk917
  have hk961 := kp_up hM920 (fun h => absurd h.2 (by decide)) hf878
  clear hk883 hk884 hk885 hk886 hk887 hk888 hk889 hk890 hk891 hk892 hk893 hk894 hk895 hk896 hk897 hk898 hk899 hk900 hk901 hk902 hk903 hk904 hk905 hk906 hk907 hk908 hk909 hk910 hk911 hk912 hk913 hk914 hk915 hk916 hk917 hf878
  refine j_aload_n hX dX11_init_287 rfl 0 rfl ?_
  refine j_bipush hX dX11_init_288 rfl ?_
  refine j_newa hX (k := 247) (by omega) (t := 0) (n := 6) rfl (by decide) (in_1 163 (by first | rfl | decide +kernel) rfl) (by decide +kernel : kd 247 = .inr (0, 6)) rfl (by decide) (hD923.at _ (by omega) (by omega)) ⟨by omega, by omega⟩ dX11_init_290 ?_
  have hR962 : RR 211 248 M919 := RR_s hR925 (Rg_plain (by omega) (by omega) (by decide +kernel : kd 247 = .inr (0, 6)) (by decide) (hD923.at _ (by omega) (by omega))) (by omega)
  refine pfF_X11_125 hX hin (by omega) (by omega) (by decide +kernel : kd 210 = .inl 11) (by omega) (by omega) dX11_init_292 ?_
  refine j_upN (fun M963 hM964 hf965 => ?_)
  have hG966 := F2.put hG922 hM964 ⟨by omega, by omega⟩
  have hD967 := DF_up hD923 hM964 (by omega)
  have hU968 := UL_up hU924 hM964
  have hR969 := RR_up hR962 hM964 (Or.inl (by omega))
  have hk970 := kp_up hM964 (fun h => absurd h.2 (by decide)) hk926
  have hk971 := kp_up hM964 (fun h => absurd h.2 (by decide)) hk927
  have hk972 := kp_up hM964 (fun h => absurd h.2 (by decide)) hk928
  have hk973 := kp_up hM964 (fun h => absurd h.2 (by decide)) hk929
  have hk974 := kp_up hM964 (fun h => absurd h.2 (by decide)) hk930
  have hk975 := kp_up hM964 (fun h => absurd h.2 (by decide)) hk931
  have hk976 := kp_up hM964 (fun h => absurd h.2 (by decide)) hk932
  have hk977 := kp_up hM964 (fun h => absurd h.2 (by decide)) hk933
  have hk978 := kp_up hM964 (fun h => absurd h.2 (by decide)) hk934
  have hk979 := kp_up hM964 (fun h => absurd h.2 (by decide)) hk935
  have hk980 := kp_up hM964 (fun h => absurd h.2 (by decide)) hk936
  have hk981 := kp_up hM964 (fun h => absurd h.2 (by decide)) hk937
  have hk982 := kp_up hM964 (fun h => absurd h.2 (by decide)) hk938
  have hk983 := kp_up hM964 (fun h => absurd h.2 (by decide)) hk939
  have hk984 := kp_up hM964 (fun h => absurd h.2 (by decide)) hk940
  have hk985 := kp_up hM964 (fun h => absurd h.2 (by decide)) hk941
  have hk986 := kp_up hM964 (fun h => absurd h.2 (by decide)) hk942
  have hk987 := kp_up hM964 (fun h => absurd h.2 (by decide)) hk943
  have hk988 := kp_up hM964 (fun h => absurd h.2 (by decide)) hk944
  have hk989 := kp_up hM964 (fun h => absurd h.2 (by decide)) hk945
  have hk990 := kp_up hM964 (fun h => absurd h.2 (by decide)) hk946
  have hk991 := kp_up hM964 (fun h => absurd h.2 (by decide)) hk947
  have hk992 := kp_up hM964 (fun h => absurd h.2 (by decide)) hk948
  have hk993 := kp_up hM964 (fun h => absurd h.2 (by decide)) hk949
  have hk994 := kp_up hM964 (fun h => absurd h.2 (by decide)) hk950
  have hk995 := kp_up hM964 (fun h => absurd h.2 (by decide)) hk951
  have hk996 := kp_up hM964 (fun h => absurd h.2 (by decide)) hk952
  have hk997 := kp_up hM964 (fun h => absurd h.2 (by decide)) hk953
  have hk998 := kp_up hM964 (fun h => absurd h.2 (by decide)) hk954
  have hk999 := kp_up hM964 (fun h => absurd h.2 (by decide)) hk955
  have hk1000 := kp_up hM964 (fun h => absurd h.2 (by decide)) hk956
  have hk1001 := kp_up hM964 (fun h => absurd h.2 (by decide)) hk957
  have hk1002 := kp_up hM964 (fun h => absurd h.2 (by decide)) hk958
  have hk1003 := kp_up hM964 (fun h => absurd h.2 (by decide)) hk959
  have hk1004 := kp_up hM964 (fun h => absurd h.2 (by decide)) hk960
  have hk1005 := kp_up hM964 (fun h => absurd h.2 (by decide)) hk961
  have hk1006 := kp_up hM964 (fun h => absurd h.2 (by decide)) hf921
  clear hk926 hk927 hk928 hk929 hk930 hk931 hk932 hk933 hk934 hk935 hk936 hk937 hk938 hk939 hk940 hk941 hk942 hk943 hk944 hk945 hk946 hk947 hk948 hk949 hk950 hk951 hk952 hk953 hk954 hk955 hk956 hk957 hk958 hk959 hk960 hk961 hf921
  refine j_aload_n hX dX11_init_295 rfl 0 rfl ?_
  refine j_bipush hX dX11_init_296 rfl ?_
  refine j_newa hX (k := 248) (by omega) (t := 0) (n := 6) rfl (by decide) (in_1 163 (by first | rfl | decide +kernel) rfl) (by decide +kernel : kd 248 = .inr (0, 6)) rfl (by decide) (hD967.at _ (by omega) (by omega)) ⟨by omega, by omega⟩ dX11_init_298 ?_
  have hR1007 : RR 211 249 M963 := RR_s hR969 (Rg_plain (by omega) (by omega) (by decide +kernel : kd 248 = .inr (0, 6)) (by decide) (hD967.at _ (by omega) (by omega))) (by omega)
  refine pfF_X11_128 hX hin (by omega) (by omega) (by decide +kernel : kd 210 = .inl 11) (by omega) (by omega) dX11_init_300 ?_
  refine j_upN (fun M1008 hM1009 hf1010 => ?_)
  have hG1011 := F2.put hG966 hM1009 ⟨by omega, by omega⟩
  have hD1012 := DF_up hD967 hM1009 (by omega)
  have hU1013 := UL_up hU968 hM1009
  have hR1014 := RR_up hR1007 hM1009 (Or.inl (by omega))
  have hk1015 := kp_up hM1009 (fun h => absurd h.2 (by decide)) hk970
  have hk1016 := kp_up hM1009 (fun h => absurd h.2 (by decide)) hk971
  have hk1017 := kp_up hM1009 (fun h => absurd h.2 (by decide)) hk972
  have hk1018 := kp_up hM1009 (fun h => absurd h.2 (by decide)) hk973
  have hk1019 := kp_up hM1009 (fun h => absurd h.2 (by decide)) hk974
  have hk1020 := kp_up hM1009 (fun h => absurd h.2 (by decide)) hk975
  have hk1021 := kp_up hM1009 (fun h => absurd h.2 (by decide)) hk976
  have hk1022 := kp_up hM1009 (fun h => absurd h.2 (by decide)) hk977
  have hk1023 := kp_up hM1009 (fun h => absurd h.2 (by decide)) hk978
  have hk1024 := kp_up hM1009 (fun h => absurd h.2 (by decide)) hk979
  have hk1025 := kp_up hM1009 (fun h => absurd h.2 (by decide)) hk980
  have hk1026 := kp_up hM1009 (fun h => absurd h.2 (by decide)) hk981
  have hk1027 := kp_up hM1009 (fun h => absurd h.2 (by decide)) hk982
  have hk1028 := kp_up hM1009 (fun h => absurd h.2 (by decide)) hk983
  have hk1029 := kp_up hM1009 (fun h => absurd h.2 (by decide)) hk984
  have hk1030 := kp_up hM1009 (fun h => absurd h.2 (by decide)) hk985
  have hk1031 := kp_up hM1009 (fun h => absurd h.2 (by decide)) hk986
  have hk1032 := kp_up hM1009 (fun h => absurd h.2 (by decide)) hk987
  have hk1033 := kp_up hM1009 (fun h => absurd h.2 (by decide)) hk988
  have hk1034 := kp_up hM1009 (fun h => absurd h.2 (by decide)) hk989
  have hk1035 := kp_up hM1009 (fun h => absurd h.2 (by decide)) hk990
  have hk1036 := kp_up hM1009 (fun h => absurd h.2 (by decide)) hk991
  have hk1037 := kp_up hM1009 (fun h => absurd h.2 (by decide)) hk992
  have hk1038 := kp_up hM1009 (fun h => absurd h.2 (by decide)) hk993
  have hk1039 := kp_up hM1009 (fun h => absurd h.2 (by decide)) hk994
  have hk1040 := kp_up hM1009 (fun h => absurd h.2 (by decide)) hk995
  have hk1041 := kp_up hM1009 (fun h => absurd h.2 (by decide)) hk996
  have hk1042 := kp_up hM1009 (fun h => absurd h.2 (by decide)) hk997
  have hk1043 := kp_up hM1009 (fun h => absurd h.2 (by decide)) hk998
  have hk1044 := kp_up hM1009 (fun h => absurd h.2 (by decide)) hk999
  have hk1045 := kp_up hM1009 (fun h => absurd h.2 (by decide)) hk1000
  have hk1046 := kp_up hM1009 (fun h => absurd h.2 (by decide)) hk1001
  have hk1047 := kp_up hM1009 (fun h => absurd h.2 (by decide)) hk1002
  have hk1048 := kp_up hM1009 (fun h => absurd h.2 (by decide)) hk1003
  have hk1049 := kp_up hM1009 (fun h => absurd h.2 (by decide)) hk1004
  have hk1050 := kp_up hM1009 (fun h => absurd h.2 (by decide)) hk1005
  have hk1051 := kp_up hM1009 (fun h => absurd h.2 (by decide)) hk1006
  have hk1052 := kp_up hM1009 (fun h => absurd h.2 (by decide)) hf965
  clear hk970 hk971 hk972 hk973 hk974 hk975 hk976 hk977 hk978 hk979 hk980 hk981 hk982 hk983 hk984 hk985 hk986 hk987 hk988 hk989 hk990 hk991 hk992 hk993 hk994 hk995 hk996 hk997 hk998 hk999 hk1000 hk1001 hk1002 hk1003 hk1004 hk1005 hk1006 hf965
  refine j_aload_n hX dX11_init_303 rfl 0 rfl ?_
  refine j_bipush hX dX11_init_304 rfl ?_
  refine j_newa hX (k := 249) (by omega) (t := 0) (n := 30) rfl (by decide) (in_1 163 (by first | rfl | decide +kernel) rfl) (by decide +kernel : kd 249 = .inr (0, 30)) rfl (by decide) (hD1012.at _ (by omega) (by omega)) ⟨by omega, by omega⟩ dX11_init_306 ?_
  have hR1053 : RR 211 250 M1008 := RR_s hR1014 (Rg_plain (by omega) (by omega) (by decide +kernel : kd 249 = .inr (0, 30)) (by decide) (hD1012.at _ (by omega) (by omega))) (by omega)
  refine pfF_X11_131 hX hin (by omega) (by omega) (by decide +kernel : kd 210 = .inl 11) (by omega) (by omega) dX11_init_308 ?_
  refine j_upN (fun M1054 hM1055 hf1056 => ?_)
  have hG1057 := F2.put hG1011 hM1055 ⟨by omega, by omega⟩
  have hD1058 := DF_up hD1012 hM1055 (by omega)
  have hU1059 := UL_up hU1013 hM1055
  have hR1060 := RR_up hR1053 hM1055 (Or.inl (by omega))
  have hk1061 := kp_up hM1055 (fun h => absurd h.2 (by decide)) hk1015
  have hk1062 := kp_up hM1055 (fun h => absurd h.2 (by decide)) hk1016
  have hk1063 := kp_up hM1055 (fun h => absurd h.2 (by decide)) hk1017
  have hk1064 := kp_up hM1055 (fun h => absurd h.2 (by decide)) hk1018
  have hk1065 := kp_up hM1055 (fun h => absurd h.2 (by decide)) hk1019
  have hk1066 := kp_up hM1055 (fun h => absurd h.2 (by decide)) hk1020
  have hk1067 := kp_up hM1055 (fun h => absurd h.2 (by decide)) hk1021
  have hk1068 := kp_up hM1055 (fun h => absurd h.2 (by decide)) hk1022
  have hk1069 := kp_up hM1055 (fun h => absurd h.2 (by decide)) hk1023
  have hk1070 := kp_up hM1055 (fun h => absurd h.2 (by decide)) hk1024
  have hk1071 := kp_up hM1055 (fun h => absurd h.2 (by decide)) hk1025
  have hk1072 := kp_up hM1055 (fun h => absurd h.2 (by decide)) hk1026
  have hk1073 := kp_up hM1055 (fun h => absurd h.2 (by decide)) hk1027
  have hk1074 := kp_up hM1055 (fun h => absurd h.2 (by decide)) hk1028
  have hk1075 := kp_up hM1055 (fun h => absurd h.2 (by decide)) hk1029
  have hk1076 := kp_up hM1055 (fun h => absurd h.2 (by decide)) hk1030
  have hk1077 := kp_up hM1055 (fun h => absurd h.2 (by decide)) hk1031
  have hk1078 := kp_up hM1055 (fun h => absurd h.2 (by decide)) hk1032
  have hk1079 := kp_up hM1055 (fun h => absurd h.2 (by decide)) hk1033
  have hk1080 := kp_up hM1055 (fun h => absurd h.2 (by decide)) hk1034
  have hk1081 := kp_up hM1055 (fun h => absurd h.2 (by decide)) hk1035
  have hk1082 := kp_up hM1055 (fun h => absurd h.2 (by decide)) hk1036
  have hk1083 := kp_up hM1055 (fun h => absurd h.2 (by decide)) hk1037
  have hk1084 := kp_up hM1055 (fun h => absurd h.2 (by decide)) hk1038
  have hk1085 := kp_up hM1055 (fun h => absurd h.2 (by decide)) hk1039
  have hk1086 := kp_up hM1055 (fun h => absurd h.2 (by decide)) hk1040
  have hk1087 := kp_up hM1055 (fun h => absurd h.2 (by decide)) hk1041
  have hk1088 := kp_up hM1055 (fun h => absurd h.2 (by decide)) hk1042
  have hk1089 := kp_up hM1055 (fun h => absurd h.2 (by decide)) hk1043
  have hk1090 := kp_up hM1055 (fun h => absurd h.2 (by decide)) hk1044
  have hk1091 := kp_up hM1055 (fun h => absurd h.2 (by decide)) hk1045
  have hk1092 := kp_up hM1055 (fun h => absurd h.2 (by decide)) hk1046
  have hk1093 := kp_up hM1055 (fun h => absurd h.2 (by decide)) hk1047
  have hk1094 := kp_up hM1055 (fun h => absurd h.2 (by decide)) hk1048
  have hk1095 := kp_up hM1055 (fun h => absurd h.2 (by decide)) hk1049
  have hk1096 := kp_up hM1055 (fun h => absurd h.2 (by decide)) hk1050
  have hk1097 := kp_up hM1055 (fun h => absurd h.2 (by decide)) hk1051
  have hk1098 := kp_up hM1055 (fun h => absurd h.2 (by decide)) hk1052
  have hk1099 := kp_up hM1055 (fun h => absurd h.2 (by decide)) hf1010
  clear hk1015 hk1016 hk1017 hk1018 hk1019 hk1020 hk1021 hk1022 hk1023 hk1024 hk1025 hk1026 hk1027 hk1028 hk1029 hk1030 hk1031 hk1032 hk1033 hk1034 hk1035 hk1036 hk1037 hk1038 hk1039 hk1040 hk1041 hk1042 hk1043 hk1044 hk1045 hk1046 hk1047 hk1048 hk1049 hk1050 hk1051 hk1052 hf1010
  refine j_aload_n hX dX11_init_311 rfl 0 rfl ?_
  refine j_bipush hX dX11_init_312 rfl ?_
  refine j_newa hX (k := 250) (by omega) (t := 0) (n := 30) rfl (by decide) (in_1 163 (by first | rfl | decide +kernel) rfl) (by decide +kernel : kd 250 = .inr (0, 30)) rfl (by decide) (hD1058.at _ (by omega) (by omega)) ⟨by omega, by omega⟩ dX11_init_314 ?_
  have hR1100 : RR 211 251 M1054 := RR_s hR1060 (Rg_plain (by omega) (by omega) (by decide +kernel : kd 250 = .inr (0, 30)) (by decide) (hD1058.at _ (by omega) (by omega))) (by omega)
  refine pfF_X11_134 hX hin (by omega) (by omega) (by decide +kernel : kd 210 = .inl 11) (by omega) (by omega) dX11_init_316 ?_
  refine j_upN (fun M1101 hM1102 hf1103 => ?_)
  have hG1104 := F2.put hG1057 hM1102 ⟨by omega, by omega⟩
  have hD1105 := DF_up hD1058 hM1102 (by omega)
  have hU1106 := UL_up hU1059 hM1102
  have hR1107 := RR_up hR1100 hM1102 (Or.inl (by omega))
  have hk1108 := kp_up hM1102 (fun h => absurd h.2 (by decide)) hk1061
  have hk1109 := kp_up hM1102 (fun h => absurd h.2 (by decide)) hk1062
  have hk1110 := kp_up hM1102 (fun h => absurd h.2 (by decide)) hk1063
  have hk1111 := kp_up hM1102 (fun h => absurd h.2 (by decide)) hk1064
  have hk1112 := kp_up hM1102 (fun h => absurd h.2 (by decide)) hk1065
  have hk1113 := kp_up hM1102 (fun h => absurd h.2 (by decide)) hk1066
  have hk1114 := kp_up hM1102 (fun h => absurd h.2 (by decide)) hk1067
  have hk1115 := kp_up hM1102 (fun h => absurd h.2 (by decide)) hk1068
  have hk1116 := kp_up hM1102 (fun h => absurd h.2 (by decide)) hk1069
  have hk1117 := kp_up hM1102 (fun h => absurd h.2 (by decide)) hk1070
  have hk1118 := kp_up hM1102 (fun h => absurd h.2 (by decide)) hk1071
  have hk1119 := kp_up hM1102 (fun h => absurd h.2 (by decide)) hk1072
  have hk1120 := kp_up hM1102 (fun h => absurd h.2 (by decide)) hk1073
  have hk1121 := kp_up hM1102 (fun h => absurd h.2 (by decide)) hk1074
  have hk1122 := kp_up hM1102 (fun h => absurd h.2 (by decide)) hk1075
  have hk1123 := kp_up hM1102 (fun h => absurd h.2 (by decide)) hk1076
  have hk1124 := kp_up hM1102 (fun h => absurd h.2 (by decide)) hk1077
  have hk1125 := kp_up hM1102 (fun h => absurd h.2 (by decide)) hk1078
  have hk1126 := kp_up hM1102 (fun h => absurd h.2 (by decide)) hk1079
  have hk1127 := kp_up hM1102 (fun h => absurd h.2 (by decide)) hk1080
  have hk1128 := kp_up hM1102 (fun h => absurd h.2 (by decide)) hk1081
  have hk1129 := kp_up hM1102 (fun h => absurd h.2 (by decide)) hk1082
  have hk1130 := kp_up hM1102 (fun h => absurd h.2 (by decide)) hk1083
  have hk1131 := kp_up hM1102 (fun h => absurd h.2 (by decide)) hk1084
  have hk1132 := kp_up hM1102 (fun h => absurd h.2 (by decide)) hk1085
  have hk1133 := kp_up hM1102 (fun h => absurd h.2 (by decide)) hk1086
  have hk1134 := kp_up hM1102 (fun h => absurd h.2 (by decide)) hk1087
  have hk1135 := kp_up hM1102 (fun h => absurd h.2 (by decide)) hk1088
  have hk1136 := kp_up hM1102 (fun h => absurd h.2 (by decide)) hk1089
  have hk1137 := kp_up hM1102 (fun h => absurd h.2 (by decide)) hk1090
  have hk1138 := kp_up hM1102 (fun h => absurd h.2 (by decide)) hk1091
  have hk1139 := kp_up hM1102 (fun h => absurd h.2 (by decide)) hk1092
  have hk1140 := kp_up hM1102 (fun h => absurd h.2 (by decide)) hk1093
  have hk1141 := kp_up hM1102 (fun h => absurd h.2 (by decide)) hk1094
  have hk1142 := kp_up hM1102 (fun h => absurd h.2 (by decide)) hk1095
  have hk1143 := kp_up hM1102 (fun h => absurd h.2 (by decide)) hk1096
  have hk1144 := kp_up hM1102 (fun h => absurd h.2 (by decide)) hk1097
  have hk1145 := kp_up hM1102 (fun h => absurd h.2 (by decide)) hk1098
  have hk1146 := kp_up hM1102 (fun h => absurd h.2 (by decide)) hk1099
  have hk1147 := kp_up hM1102 (fun h => absurd h.2 (by decide)) hf1056
  clear hk1061 hk1062 hk1063 hk1064 hk1065 hk1066 hk1067 hk1068 hk1069 hk1070 hk1071 hk1072 hk1073 hk1074 hk1075 hk1076 hk1077 hk1078 hk1079 hk1080 hk1081 hk1082 hk1083 hk1084 hk1085 hk1086 hk1087 hk1088 hk1089 hk1090 hk1091 hk1092 hk1093 hk1094 hk1095 hk1096 hk1097 hk1098 hk1099 hf1056
  refine j_aload_n hX dX11_init_319 rfl 0 rfl ?_
  refine j_bipush hX dX11_init_320 rfl ?_
  refine j_newa hX (k := 251) (by omega) (t := 0) (n := 30) rfl (by decide) (in_1 163 (by first | rfl | decide +kernel) rfl) (by decide +kernel : kd 251 = .inr (0, 30)) rfl (by decide) (hD1105.at _ (by omega) (by omega)) ⟨by omega, by omega⟩ dX11_init_322 ?_
  have hR1148 : RR 211 252 M1101 := RR_s hR1107 (Rg_plain (by omega) (by omega) (by decide +kernel : kd 251 = .inr (0, 30)) (by decide) (hD1105.at _ (by omega) (by omega))) (by omega)
  refine pfF_X11_137 hX hin (by omega) (by omega) (by decide +kernel : kd 210 = .inl 11) (by omega) (by omega) dX11_init_324 ?_
  refine j_upN (fun M1149 hM1150 hf1151 => ?_)
  have hG1152 := F2.put hG1104 hM1150 ⟨by omega, by omega⟩
  have hD1153 := DF_up hD1105 hM1150 (by omega)
  have hU1154 := UL_up hU1106 hM1150
  have hR1155 := RR_up hR1148 hM1150 (Or.inl (by omega))
  have hk1156 := kp_up hM1150 (fun h => absurd h.2 (by decide)) hk1108
  have hk1157 := kp_up hM1150 (fun h => absurd h.2 (by decide)) hk1109
  have hk1158 := kp_up hM1150 (fun h => absurd h.2 (by decide)) hk1110
  have hk1159 := kp_up hM1150 (fun h => absurd h.2 (by decide)) hk1111
  have hk1160 := kp_up hM1150 (fun h => absurd h.2 (by decide)) hk1112
  have hk1161 := kp_up hM1150 (fun h => absurd h.2 (by decide)) hk1113
  have hk1162 := kp_up hM1150 (fun h => absurd h.2 (by decide)) hk1114
  have hk1163 := kp_up hM1150 (fun h => absurd h.2 (by decide)) hk1115
  have hk1164 := kp_up hM1150 (fun h => absurd h.2 (by decide)) hk1116
  have hk1165 := kp_up hM1150 (fun h => absurd h.2 (by decide)) hk1117
  have hk1166 := kp_up hM1150 (fun h => absurd h.2 (by decide)) hk1118
  have hk1167 := kp_up hM1150 (fun h => absurd h.2 (by decide)) hk1119
  have hk1168 := kp_up hM1150 (fun h => absurd h.2 (by decide)) hk1120
  have hk1169 := kp_up hM1150 (fun h => absurd h.2 (by decide)) hk1121
  have hk1170 := kp_up hM1150 (fun h => absurd h.2 (by decide)) hk1122
  have hk1171 := kp_up hM1150 (fun h => absurd h.2 (by decide)) hk1123
  have hk1172 := kp_up hM1150 (fun h => absurd h.2 (by decide)) hk1124
  have hk1173 := kp_up hM1150 (fun h => absurd h.2 (by decide)) hk1125
  have hk1174 := kp_up hM1150 (fun h => absurd h.2 (by decide)) hk1126
  have hk1175 := kp_up hM1150 (fun h => absurd h.2 (by decide)) hk1127
  have hk1176 := kp_up hM1150 (fun h => absurd h.2 (by decide)) hk1128
  have hk1177 := kp_up hM1150 (fun h => absurd h.2 (by decide)) hk1129
  have hk1178 := kp_up hM1150 (fun h => absurd h.2 (by decide)) hk1130
  have hk1179 := kp_up hM1150 (fun h => absurd h.2 (by decide)) hk1131
  have hk1180 := kp_up hM1150 (fun h => absurd h.2 (by decide)) hk1132
  have hk1181 := kp_up hM1150 (fun h => absurd h.2 (by decide)) hk1133
  have hk1182 := kp_up hM1150 (fun h => absurd h.2 (by decide)) hk1134
  have hk1183 := kp_up hM1150 (fun h => absurd h.2 (by decide)) hk1135
  have hk1184 := kp_up hM1150 (fun h => absurd h.2 (by decide)) hk1136
  have hk1185 := kp_up hM1150 (fun h => absurd h.2 (by decide)) hk1137
  have hk1186 := kp_up hM1150 (fun h => absurd h.2 (by decide)) hk1138
  have hk1187 := kp_up hM1150 (fun h => absurd h.2 (by decide)) hk1139
  have hk1188 := kp_up hM1150 (fun h => absurd h.2 (by decide)) hk1140
  have hk1189 := kp_up hM1150 (fun h => absurd h.2 (by decide)) hk1141
  have hk1190 := kp_up hM1150 (fun h => absurd h.2 (by decide)) hk1142
  have hk1191 := kp_up hM1150 (fun h => absurd h.2 (by decide)) hk1143
  have hk1192 := kp_up hM1150 (fun h => absurd h.2 (by decide)) hk1144
  have hk1193 := kp_up hM1150 (fun h => absurd h.2 (by decide)) hk1145
  have hk1194 := kp_up hM1150 (fun h => absurd h.2 (by decide)) hk1146
  have hk1195 := kp_up hM1150 (fun h => absurd h.2 (by decide)) hk1147
  have hk1196 := kp_up hM1150 (fun h => absurd h.2 (by decide)) hf1103
  clear hk1108 hk1109 hk1110 hk1111 hk1112 hk1113 hk1114 hk1115 hk1116 hk1117 hk1118 hk1119 hk1120 hk1121 hk1122 hk1123 hk1124 hk1125 hk1126 hk1127 hk1128 hk1129 hk1130 hk1131 hk1132 hk1133 hk1134 hk1135 hk1136 hk1137 hk1138 hk1139 hk1140 hk1141 hk1142 hk1143 hk1144 hk1145 hk1146 hk1147 hf1103
  refine j_aload_n hX dX11_init_327 rfl 0 rfl ?_
  refine j_bipush hX dX11_init_328 rfl ?_
  refine j_newa hX (k := 252) (by omega) (t := 0) (n := 30) rfl (by decide) (in_1 163 (by first | rfl | decide +kernel) rfl) (by decide +kernel : kd 252 = .inr (0, 30)) rfl (by decide) (hD1153.at _ (by omega) (by omega)) ⟨by omega, by omega⟩ dX11_init_330 ?_
  have hR1197 : RR 211 253 M1149 := RR_s hR1155 (Rg_plain (by omega) (by omega) (by decide +kernel : kd 252 = .inr (0, 30)) (by decide) (hD1153.at _ (by omega) (by omega))) (by omega)
  refine pfF_X11_140 hX hin (by omega) (by omega) (by decide +kernel : kd 210 = .inl 11) (by omega) (by omega) dX11_init_332 ?_
  refine j_upN (fun M1198 hM1199 hf1200 => ?_)
  have hG1201 := F2.put hG1152 hM1199 ⟨by omega, by omega⟩
  have hD1202 := DF_up hD1153 hM1199 (by omega)
  have hU1203 := UL_up hU1154 hM1199
  have hR1204 := RR_up hR1197 hM1199 (Or.inl (by omega))
  have hk1205 := kp_up hM1199 (fun h => absurd h.2 (by decide)) hk1156
  have hk1206 := kp_up hM1199 (fun h => absurd h.2 (by decide)) hk1157
  have hk1207 := kp_up hM1199 (fun h => absurd h.2 (by decide)) hk1158
  have hk1208 := kp_up hM1199 (fun h => absurd h.2 (by decide)) hk1159
  have hk1209 := kp_up hM1199 (fun h => absurd h.2 (by decide)) hk1160
  have hk1210 := kp_up hM1199 (fun h => absurd h.2 (by decide)) hk1161
  have hk1211 := kp_up hM1199 (fun h => absurd h.2 (by decide)) hk1162
  have hk1212 := kp_up hM1199 (fun h => absurd h.2 (by decide)) hk1163
  have hk1213 := kp_up hM1199 (fun h => absurd h.2 (by decide)) hk1164
  have hk1214 := kp_up hM1199 (fun h => absurd h.2 (by decide)) hk1165
  have hk1215 := kp_up hM1199 (fun h => absurd h.2 (by decide)) hk1166
  have hk1216 := kp_up hM1199 (fun h => absurd h.2 (by decide)) hk1167
  have hk1217 := kp_up hM1199 (fun h => absurd h.2 (by decide)) hk1168
  have hk1218 := kp_up hM1199 (fun h => absurd h.2 (by decide)) hk1169
  have hk1219 := kp_up hM1199 (fun h => absurd h.2 (by decide)) hk1170
  have hk1220 := kp_up hM1199 (fun h => absurd h.2 (by decide)) hk1171
  have hk1221 := kp_up hM1199 (fun h => absurd h.2 (by decide)) hk1172
  have hk1222 := kp_up hM1199 (fun h => absurd h.2 (by decide)) hk1173
  have hk1223 := kp_up hM1199 (fun h => absurd h.2 (by decide)) hk1174
  have hk1224 := kp_up hM1199 (fun h => absurd h.2 (by decide)) hk1175
  have hk1225 := kp_up hM1199 (fun h => absurd h.2 (by decide)) hk1176
  have hk1226 := kp_up hM1199 (fun h => absurd h.2 (by decide)) hk1177
  have hk1227 := kp_up hM1199 (fun h => absurd h.2 (by decide)) hk1178
  have hk1228 := kp_up hM1199 (fun h => absurd h.2 (by decide)) hk1179
  have hk1229 := kp_up hM1199 (fun h => absurd h.2 (by decide)) hk1180
  have hk1230 := kp_up hM1199 (fun h => absurd h.2 (by decide)) hk1181
  have hk1231 := kp_up hM1199 (fun h => absurd h.2 (by decide)) hk1182
  have hk1232 := kp_up hM1199 (fun h => absurd h.2 (by decide)) hk1183
  have hk1233 := kp_up hM1199 (fun h => absurd h.2 (by decide)) hk1184
  have hk1234 := kp_up hM1199 (fun h => absurd h.2 (by decide)) hk1185
  have hk1235 := kp_up hM1199 (fun h => absurd h.2 (by decide)) hk1186
  have hk1236 := kp_up hM1199 (fun h => absurd h.2 (by decide)) hk1187
  have hk1237 := kp_up hM1199 (fun h => absurd h.2 (by decide)) hk1188
  have hk1238 := kp_up hM1199 (fun h => absurd h.2 (by decide)) hk1189
  have hk1239 := kp_up hM1199 (fun h => absurd h.2 (by decide)) hk1190
  have hk1240 := kp_up hM1199 (fun h => absurd h.2 (by decide)) hk1191
  have hk1241 := kp_up hM1199 (fun h => absurd h.2 (by decide)) hk1192
  have hk1242 := kp_up hM1199 (fun h => absurd h.2 (by decide)) hk1193
  have hk1243 := kp_up hM1199 (fun h => absurd h.2 (by decide)) hk1194
  have hk1244 := kp_up hM1199 (fun h => absurd h.2 (by decide)) hk1195
  have hk1245 := kp_up hM1199 (fun h => absurd h.2 (by decide)) hk1196
  have hk1246 := kp_up hM1199 (fun h => absurd h.2 (by decide)) hf1151
  clear hk1156 hk1157 hk1158 hk1159 hk1160 hk1161 hk1162 hk1163 hk1164 hk1165 hk1166 hk1167 hk1168 hk1169 hk1170 hk1171 hk1172 hk1173 hk1174 hk1175 hk1176 hk1177 hk1178 hk1179 hk1180 hk1181 hk1182 hk1183 hk1184 hk1185 hk1186 hk1187 hk1188 hk1189 hk1190 hk1191 hk1192 hk1193 hk1194 hk1195 hk1196 hf1151
  refine j_aload_n hX dX11_init_335 rfl 0 rfl ?_
  refine j_bipush hX dX11_init_336 rfl ?_
  refine j_newa hX (k := 253) (by omega) (t := 0) (n := 30) rfl (by decide) (in_1 163 (by first | rfl | decide +kernel) rfl) (by decide +kernel : kd 253 = .inr (0, 30)) rfl (by decide) (hD1202.at _ (by omega) (by omega)) ⟨by omega, by omega⟩ dX11_init_338 ?_
  have hR1247 : RR 211 254 M1198 := RR_s hR1204 (Rg_plain (by omega) (by omega) (by decide +kernel : kd 253 = .inr (0, 30)) (by decide) (hD1202.at _ (by omega) (by omega))) (by omega)
  refine pfF_X11_143 hX hin (by omega) (by omega) (by decide +kernel : kd 210 = .inl 11) (by omega) (by omega) dX11_init_340 ?_
  refine j_upN (fun M1248 hM1249 hf1250 => ?_)
  have hG1251 := F2.put hG1201 hM1249 ⟨by omega, by omega⟩
  have hD1252 := DF_up hD1202 hM1249 (by omega)
  have hU1253 := UL_up hU1203 hM1249
  have hR1254 := RR_up hR1247 hM1249 (Or.inl (by omega))
  have hk1255 := kp_up hM1249 (fun h => absurd h.2 (by decide)) hk1205
  have hk1256 := kp_up hM1249 (fun h => absurd h.2 (by decide)) hk1206
  have hk1257 := kp_up hM1249 (fun h => absurd h.2 (by decide)) hk1207
  have hk1258 := kp_up hM1249 (fun h => absurd h.2 (by decide)) hk1208
  have hk1259 := kp_up hM1249 (fun h => absurd h.2 (by decide)) hk1209
  have hk1260 := kp_up hM1249 (fun h => absurd h.2 (by decide)) hk1210
  have hk1261 := kp_up hM1249 (fun h => absurd h.2 (by decide)) hk1211
  have hk1262 := kp_up hM1249 (fun h => absurd h.2 (by decide)) hk1212
  have hk1263 := kp_up hM1249 (fun h => absurd h.2 (by decide)) hk1213
  have hk1264 := kp_up hM1249 (fun h => absurd h.2 (by decide)) hk1214
  have hk1265 := kp_up hM1249 (fun h => absurd h.2 (by decide)) hk1215
  have hk1266 := kp_up hM1249 (fun h => absurd h.2 (by decide)) hk1216
  have hk1267 := kp_up hM1249 (fun h => absurd h.2 (by decide)) hk1217
  have hk1268 := kp_up hM1249 (fun h => absurd h.2 (by decide)) hk1218
  have hk1269 := kp_up hM1249 (fun h => absurd h.2 (by decide)) hk1219
  have hk1270 := kp_up hM1249 (fun h => absurd h.2 (by decide)) hk1220
  have hk1271 := kp_up hM1249 (fun h => absurd h.2 (by decide)) hk1221
  have hk1272 := kp_up hM1249 (fun h => absurd h.2 (by decide)) hk1222
  have hk1273 := kp_up hM1249 (fun h => absurd h.2 (by decide)) hk1223
  have hk1274 := kp_up hM1249 (fun h => absurd h.2 (by decide)) hk1224
  have hk1275 := kp_up hM1249 (fun h => absurd h.2 (by decide)) hk1225
  have hk1276 := kp_up hM1249 (fun h => absurd h.2 (by decide)) hk1226
  have hk1277 := kp_up hM1249 (fun h => absurd h.2 (by decide)) hk1227
  have hk1278 := kp_up hM1249 (fun h => absurd h.2 (by decide)) hk1228
  have hk1279 := kp_up hM1249 (fun h => absurd h.2 (by decide)) hk1229
  have hk1280 := kp_up hM1249 (fun h => absurd h.2 (by decide)) hk1230
  have hk1281 := kp_up hM1249 (fun h => absurd h.2 (by decide)) hk1231
  have hk1282 := kp_up hM1249 (fun h => absurd h.2 (by decide)) hk1232
  have hk1283 := kp_up hM1249 (fun h => absurd h.2 (by decide)) hk1233
  have hk1284 := kp_up hM1249 (fun h => absurd h.2 (by decide)) hk1234
  have hk1285 := kp_up hM1249 (fun h => absurd h.2 (by decide)) hk1235
  have hk1286 := kp_up hM1249 (fun h => absurd h.2 (by decide)) hk1236
  have hk1287 := kp_up hM1249 (fun h => absurd h.2 (by decide)) hk1237
  have hk1288 := kp_up hM1249 (fun h => absurd h.2 (by decide)) hk1238
  have hk1289 := kp_up hM1249 (fun h => absurd h.2 (by decide)) hk1239
  have hk1290 := kp_up hM1249 (fun h => absurd h.2 (by decide)) hk1240
  have hk1291 := kp_up hM1249 (fun h => absurd h.2 (by decide)) hk1241
  have hk1292 := kp_up hM1249 (fun h => absurd h.2 (by decide)) hk1242
  have hk1293 := kp_up hM1249 (fun h => absurd h.2 (by decide)) hk1243
  have hk1294 := kp_up hM1249 (fun h => absurd h.2 (by decide)) hk1244
  have hk1295 := kp_up hM1249 (fun h => absurd h.2 (by decide)) hk1245
  have hk1296 := kp_up hM1249 (fun h => absurd h.2 (by decide)) hk1246
  have hk1297 := kp_up hM1249 (fun h => absurd h.2 (by decide)) hf1200
  clear hk1205 hk1206 hk1207 hk1208 hk1209 hk1210 hk1211 hk1212 hk1213 hk1214 hk1215 hk1216 hk1217 hk1218 hk1219 hk1220 hk1221 hk1222 hk1223 hk1224 hk1225 hk1226 hk1227 hk1228 hk1229 hk1230 hk1231 hk1232 hk1233 hk1234 hk1235 hk1236 hk1237 hk1238 hk1239 hk1240 hk1241 hk1242 hk1243 hk1244 hk1245 hk1246 hf1200
  refine j_aload_n hX dX11_init_343 rfl 0 rfl ?_
  refine j_bipush hX dX11_init_344 rfl ?_
  refine j_newa hX (k := 254) (by omega) (t := 0) (n := 36) rfl (by decide) (in_1 163 (by first | rfl | decide +kernel) rfl) (by decide +kernel : kd 254 = .inr (0, 36)) rfl (by decide) (hD1252.at _ (by omega) (by omega)) ⟨by omega, by omega⟩ dX11_init_346 ?_
  have hR1298 : RR 211 255 M1248 := RR_s hR1254 (Rg_plain (by omega) (by omega) (by decide +kernel : kd 254 = .inr (0, 36)) (by decide) (hD1252.at _ (by omega) (by omega))) (by omega)
  refine pfF_X11_146 hX hin (by omega) (by omega) (by decide +kernel : kd 210 = .inl 11) (by omega) (by omega) dX11_init_348 ?_
  refine j_upN (fun M1299 hM1300 hf1301 => ?_)
  have hG1302 := F2.put hG1251 hM1300 ⟨by omega, by omega⟩
  have hD1303 := DF_up hD1252 hM1300 (by omega)
  have hU1304 := UL_up hU1253 hM1300
  have hR1305 := RR_up hR1298 hM1300 (Or.inl (by omega))
  have hk1306 := kp_up hM1300 (fun h => absurd h.2 (by decide)) hk1255
  have hk1307 := kp_up hM1300 (fun h => absurd h.2 (by decide)) hk1256
  have hk1308 := kp_up hM1300 (fun h => absurd h.2 (by decide)) hk1257
  have hk1309 := kp_up hM1300 (fun h => absurd h.2 (by decide)) hk1258
  have hk1310 := kp_up hM1300 (fun h => absurd h.2 (by decide)) hk1259
  have hk1311 := kp_up hM1300 (fun h => absurd h.2 (by decide)) hk1260
  have hk1312 := kp_up hM1300 (fun h => absurd h.2 (by decide)) hk1261
  have hk1313 := kp_up hM1300 (fun h => absurd h.2 (by decide)) hk1262
  have hk1314 := kp_up hM1300 (fun h => absurd h.2 (by decide)) hk1263
  have hk1315 := kp_up hM1300 (fun h => absurd h.2 (by decide)) hk1264
  have hk1316 := kp_up hM1300 (fun h => absurd h.2 (by decide)) hk1265
  have hk1317 := kp_up hM1300 (fun h => absurd h.2 (by decide)) hk1266
  have hk1318 := kp_up hM1300 (fun h => absurd h.2 (by decide)) hk1267
  have hk1319 := kp_up hM1300 (fun h => absurd h.2 (by decide)) hk1268
  have hk1320 := kp_up hM1300 (fun h => absurd h.2 (by decide)) hk1269
  have hk1321 := kp_up hM1300 (fun h => absurd h.2 (by decide)) hk1270
  have hk1322 := kp_up hM1300 (fun h => absurd h.2 (by decide)) hk1271
  have hk1323 := kp_up hM1300 (fun h => absurd h.2 (by decide)) hk1272
  have hk1324 := kp_up hM1300 (fun h => absurd h.2 (by decide)) hk1273
  have hk1325 := kp_up hM1300 (fun h => absurd h.2 (by decide)) hk1274
  have hk1326 := kp_up hM1300 (fun h => absurd h.2 (by decide)) hk1275
  have hk1327 := kp_up hM1300 (fun h => absurd h.2 (by decide)) hk1276
  have hk1328 := kp_up hM1300 (fun h => absurd h.2 (by decide)) hk1277
  have hk1329 := kp_up hM1300 (fun h => absurd h.2 (by decide)) hk1278
  have hk1330 := kp_up hM1300 (fun h => absurd h.2 (by decide)) hk1279
  have hk1331 := kp_up hM1300 (fun h => absurd h.2 (by decide)) hk1280
  have hk1332 := kp_up hM1300 (fun h => absurd h.2 (by decide)) hk1281
  have hk1333 := kp_up hM1300 (fun h => absurd h.2 (by decide)) hk1282
  have hk1334 := kp_up hM1300 (fun h => absurd h.2 (by decide)) hk1283
  have hk1335 := kp_up hM1300 (fun h => absurd h.2 (by decide)) hk1284
  have hk1336 := kp_up hM1300 (fun h => absurd h.2 (by decide)) hk1285
  have hk1337 := kp_up hM1300 (fun h => absurd h.2 (by decide)) hk1286
  have hk1338 := kp_up hM1300 (fun h => absurd h.2 (by decide)) hk1287
  have hk1339 := kp_up hM1300 (fun h => absurd h.2 (by decide)) hk1288
  have hk1340 := kp_up hM1300 (fun h => absurd h.2 (by decide)) hk1289
  have hk1341 := kp_up hM1300 (fun h => absurd h.2 (by decide)) hk1290
  have hk1342 := kp_up hM1300 (fun h => absurd h.2 (by decide)) hk1291
  have hk1343 := kp_up hM1300 (fun h => absurd h.2 (by decide)) hk1292
  have hk1344 := kp_up hM1300 (fun h => absurd h.2 (by decide)) hk1293
  have hk1345 := kp_up hM1300 (fun h => absurd h.2 (by decide)) hk1294
  have hk1346 := kp_up hM1300 (fun h => absurd h.2 (by decide)) hk1295
  have hk1347 := kp_up hM1300 (fun h => absurd h.2 (by decide)) hk1296
  have hk1348 := kp_up hM1300 (fun h => absurd h.2 (by decide)) hk1297
  have hk1349 := kp_up hM1300 (fun h => absurd h.2 (by decide)) hf1250
  clear hk1255 hk1256 hk1257 hk1258 hk1259 hk1260 hk1261 hk1262 hk1263 hk1264 hk1265 hk1266 hk1267 hk1268 hk1269 hk1270 hk1271 hk1272 hk1273 hk1274 hk1275 hk1276 hk1277 hk1278 hk1279 hk1280 hk1281 hk1282 hk1283 hk1284 hk1285 hk1286 hk1287 hk1288 hk1289 hk1290 hk1291 hk1292 hk1293 hk1294 hk1295 hk1296 hk1297 hf1250
  refine j_aload_n hX dX11_init_351 rfl 0 rfl ?_
  refine j_bipush hX dX11_init_352 rfl ?_
  refine j_newa hX (k := 255) (by omega) (t := 0) (n := 48) rfl (by decide) (in_1 163 (by first | rfl | decide +kernel) rfl) (by decide +kernel : kd 255 = .inr (0, 48)) rfl (by decide) (hD1303.at _ (by omega) (by omega)) ⟨by omega, by omega⟩ dX11_init_354 ?_
  have hR1350 : RR 211 256 M1299 := RR_s hR1305 (Rg_plain (by omega) (by omega) (by decide +kernel : kd 255 = .inr (0, 48)) (by decide) (hD1303.at _ (by omega) (by omega))) (by omega)
  refine pfF_X11_149 hX hin (by omega) (by omega) (by decide +kernel : kd 210 = .inl 11) (by omega) (by omega) dX11_init_356 ?_
  refine j_upN (fun M1351 hM1352 hf1353 => ?_)
  have hG1354 := F2.put hG1302 hM1352 ⟨by omega, by omega⟩
  have hD1355 := DF_up hD1303 hM1352 (by omega)
  have hU1356 := UL_up hU1304 hM1352
  have hR1357 := RR_up hR1350 hM1352 (Or.inl (by omega))
  have hk1358 := kp_up hM1352 (fun h => absurd h.2 (by decide)) hk1306
  have hk1359 := kp_up hM1352 (fun h => absurd h.2 (by decide)) hk1307
  have hk1360 := kp_up hM1352 (fun h => absurd h.2 (by decide)) hk1308
  have hk1361 := kp_up hM1352 (fun h => absurd h.2 (by decide)) hk1309
  have hk1362 := kp_up hM1352 (fun h => absurd h.2 (by decide)) hk1310
  have hk1363 := kp_up hM1352 (fun h => absurd h.2 (by decide)) hk1311
  have hk1364 := kp_up hM1352 (fun h => absurd h.2 (by decide)) hk1312
  have hk1365 := kp_up hM1352 (fun h => absurd h.2 (by decide)) hk1313
  have hk1366 := kp_up hM1352 (fun h => absurd h.2 (by decide)) hk1314
  have hk1367 := kp_up hM1352 (fun h => absurd h.2 (by decide)) hk1315
  have hk1368 := kp_up hM1352 (fun h => absurd h.2 (by decide)) hk1316
  have hk1369 := kp_up hM1352 (fun h => absurd h.2 (by decide)) hk1317
  have hk1370 := kp_up hM1352 (fun h => absurd h.2 (by decide)) hk1318
  have hk1371 := kp_up hM1352 (fun h => absurd h.2 (by decide)) hk1319
  have hk1372 := kp_up hM1352 (fun h => absurd h.2 (by decide)) hk1320
  have hk1373 := kp_up hM1352 (fun h => absurd h.2 (by decide)) hk1321
  have hk1374 := kp_up hM1352 (fun h => absurd h.2 (by decide)) hk1322
  have hk1375 := kp_up hM1352 (fun h => absurd h.2 (by decide)) hk1323
  have hk1376 := kp_up hM1352 (fun h => absurd h.2 (by decide)) hk1324
  have hk1377 := kp_up hM1352 (fun h => absurd h.2 (by decide)) hk1325
  have hk1378 := kp_up hM1352 (fun h => absurd h.2 (by decide)) hk1326
  have hk1379 := kp_up hM1352 (fun h => absurd h.2 (by decide)) hk1327
  have hk1380 := kp_up hM1352 (fun h => absurd h.2 (by decide)) hk1328
  have hk1381 := kp_up hM1352 (fun h => absurd h.2 (by decide)) hk1329
  have hk1382 := kp_up hM1352 (fun h => absurd h.2 (by decide)) hk1330
  have hk1383 := kp_up hM1352 (fun h => absurd h.2 (by decide)) hk1331
  have hk1384 := kp_up hM1352 (fun h => absurd h.2 (by decide)) hk1332
  have hk1385 := kp_up hM1352 (fun h => absurd h.2 (by decide)) hk1333
  have hk1386 := kp_up hM1352 (fun h => absurd h.2 (by decide)) hk1334
  have hk1387 := kp_up hM1352 (fun h => absurd h.2 (by decide)) hk1335
  have hk1388 := kp_up hM1352 (fun h => absurd h.2 (by decide)) hk1336
  have hk1389 := kp_up hM1352 (fun h => absurd h.2 (by decide)) hk1337
  have hk1390 := kp_up hM1352 (fun h => absurd h.2 (by decide)) hk1338
  have hk1391 := kp_up hM1352 (fun h => absurd h.2 (by decide)) hk1339
  have hk1392 := kp_up hM1352 (fun h => absurd h.2 (by decide)) hk1340
  have hk1393 := kp_up hM1352 (fun h => absurd h.2 (by decide)) hk1341
  have hk1394 := kp_up hM1352 (fun h => absurd h.2 (by decide)) hk1342
  have hk1395 := kp_up hM1352 (fun h => absurd h.2 (by decide)) hk1343
  have hk1396 := kp_up hM1352 (fun h => absurd h.2 (by decide)) hk1344
  have hk1397 := kp_up hM1352 (fun h => absurd h.2 (by decide)) hk1345
  have hk1398 := kp_up hM1352 (fun h => absurd h.2 (by decide)) hk1346
  have hk1399 := kp_up hM1352 (fun h => absurd h.2 (by decide)) hk1347
  have hk1400 := kp_up hM1352 (fun h => absurd h.2 (by decide)) hk1348
  have hk1401 := kp_up hM1352 (fun h => absurd h.2 (by decide)) hk1349
  have hk1402 := kp_up hM1352 (fun h => absurd h.2 (by decide)) hf1301
  clear hk1306 hk1307 hk1308 hk1309 hk1310 hk1311 hk1312 hk1313 hk1314 hk1315 hk1316 hk1317 hk1318 hk1319 hk1320 hk1321 hk1322 hk1323 hk1324 hk1325 hk1326 hk1327 hk1328 hk1329 hk1330 hk1331 hk1332 hk1333 hk1334 hk1335 hk1336 hk1337 hk1338 hk1339 hk1340 hk1341 hk1342 hk1343 hk1344 hk1345 hk1346 hk1347 hk1348 hk1349 hf1301
  refine j_aload_n hX dX11_init_359 rfl 0 rfl ?_
  refine j_iconst hX dX11_init_360 ?_
  refine j_newa hX (k := 256) (by omega) (t := 2) (n := 3) rfl (by decide) (in_6 169 (by first | rfl | decide +kernel) rfl) (by decide +kernel : kd 256 = .inr (2, 3)) rfl (by decide) (hD1355.at _ (by omega) (by omega)) ⟨by omega, by omega⟩ dX11_init_361 ?_
  have hR1403 : RR 211 257 M1351 := RR_s hR1357 (Rg_plain (by omega) (by omega) (by decide +kernel : kd 256 = .inr (2, 3)) (by decide) (hD1355.at _ (by omega) (by omega))) (by omega)
  refine pfF_X11_152 hX hin (by omega) (by omega) (by decide +kernel : kd 210 = .inl 11) (by omega) (by omega) dX11_init_363 ?_
  refine j_upN (fun M1404 hM1405 hf1406 => ?_)
  have hG1407 := F2.put hG1354 hM1405 ⟨by omega, by omega⟩
  have hD1408 := DF_up hD1355 hM1405 (by omega)
  have hU1409 := UL_up hU1356 hM1405
  have hR1410 := RR_up hR1403 hM1405 (Or.inl (by omega))
  have hk1411 := kp_up hM1405 (fun h => absurd h.2 (by decide)) hk1358
  have hk1412 := kp_up hM1405 (fun h => absurd h.2 (by decide)) hk1359
  have hk1413 := kp_up hM1405 (fun h => absurd h.2 (by decide)) hk1360
  have hk1414 := kp_up hM1405 (fun h => absurd h.2 (by decide)) hk1361
  have hk1415 := kp_up hM1405 (fun h => absurd h.2 (by decide)) hk1362
  have hk1416 := kp_up hM1405 (fun h => absurd h.2 (by decide)) hk1363
  have hk1417 := kp_up hM1405 (fun h => absurd h.2 (by decide)) hk1364
  have hk1418 := kp_up hM1405 (fun h => absurd h.2 (by decide)) hk1365
  have hk1419 := kp_up hM1405 (fun h => absurd h.2 (by decide)) hk1366
  have hk1420 := kp_up hM1405 (fun h => absurd h.2 (by decide)) hk1367
  have hk1421 := kp_up hM1405 (fun h => absurd h.2 (by decide)) hk1368
  have hk1422 := kp_up hM1405 (fun h => absurd h.2 (by decide)) hk1369
  have hk1423 := kp_up hM1405 (fun h => absurd h.2 (by decide)) hk1370
  have hk1424 := kp_up hM1405 (fun h => absurd h.2 (by decide)) hk1371
  have hk1425 := kp_up hM1405 (fun h => absurd h.2 (by decide)) hk1372
  have hk1426 := kp_up hM1405 (fun h => absurd h.2 (by decide)) hk1373
  have hk1427 := kp_up hM1405 (fun h => absurd h.2 (by decide)) hk1374
  have hk1428 := kp_up hM1405 (fun h => absurd h.2 (by decide)) hk1375
  have hk1429 := kp_up hM1405 (fun h => absurd h.2 (by decide)) hk1376
  have hk1430 := kp_up hM1405 (fun h => absurd h.2 (by decide)) hk1377
  have hk1431 := kp_up hM1405 (fun h => absurd h.2 (by decide)) hk1378
  have hk1432 := kp_up hM1405 (fun h => absurd h.2 (by decide)) hk1379
  have hk1433 := kp_up hM1405 (fun h => absurd h.2 (by decide)) hk1380
  have hk1434 := kp_up hM1405 (fun h => absurd h.2 (by decide)) hk1381
  have hk1435 := kp_up hM1405 (fun h => absurd h.2 (by decide)) hk1382
  have hk1436 := kp_up hM1405 (fun h => absurd h.2 (by decide)) hk1383
  have hk1437 := kp_up hM1405 (fun h => absurd h.2 (by decide)) hk1384
  have hk1438 := kp_up hM1405 (fun h => absurd h.2 (by decide)) hk1385
  have hk1439 := kp_up hM1405 (fun h => absurd h.2 (by decide)) hk1386
  have hk1440 := kp_up hM1405 (fun h => absurd h.2 (by decide)) hk1387
  have hk1441 := kp_up hM1405 (fun h => absurd h.2 (by decide)) hk1388
  have hk1442 := kp_up hM1405 (fun h => absurd h.2 (by decide)) hk1389
  have hk1443 := kp_up hM1405 (fun h => absurd h.2 (by decide)) hk1390
  have hk1444 := kp_up hM1405 (fun h => absurd h.2 (by decide)) hk1391
  have hk1445 := kp_up hM1405 (fun h => absurd h.2 (by decide)) hk1392
  have hk1446 := kp_up hM1405 (fun h => absurd h.2 (by decide)) hk1393
  have hk1447 := kp_up hM1405 (fun h => absurd h.2 (by decide)) hk1394
  have hk1448 := kp_up hM1405 (fun h => absurd h.2 (by decide)) hk1395
  have hk1449 := kp_up hM1405 (fun h => absurd h.2 (by decide)) hk1396
  have hk1450 := kp_up hM1405 (fun h => absurd h.2 (by decide)) hk1397
  have hk1451 := kp_up hM1405 (fun h => absurd h.2 (by decide)) hk1398
  have hk1452 := kp_up hM1405 (fun h => absurd h.2 (by decide)) hk1399
  have hk1453 := kp_up hM1405 (fun h => absurd h.2 (by decide)) hk1400
  have hk1454 := kp_up hM1405 (fun h => absurd h.2 (by decide)) hk1401
  have hk1455 := kp_up hM1405 (fun h => absurd h.2 (by decide)) hk1402
  have hk1456 := kp_up hM1405 (fun h => absurd h.2 (by decide)) hf1353
  clear hk1358 hk1359 hk1360 hk1361 hk1362 hk1363 hk1364 hk1365 hk1366 hk1367 hk1368 hk1369 hk1370 hk1371 hk1372 hk1373 hk1374 hk1375 hk1376 hk1377 hk1378 hk1379 hk1380 hk1381 hk1382 hk1383 hk1384 hk1385 hk1386 hk1387 hk1388 hk1389 hk1390 hk1391 hk1392 hk1393 hk1394 hk1395 hk1396 hk1397 hk1398 hk1399 hk1400 hk1401 hk1402 hf1353
  refine j_aload_n hX dX11_init_366 rfl 0 rfl ?_
  have hRo : Rg 210 M1404 := by
    refine Rg_obj (n := 68) hpl hU1409 (by decide) (by omega) (fun j hj => ?_)
    rcases (by omega : j = 0 ∨ j = 1 ∨ j = 2 ∨ j = 3 ∨ j = 4 ∨ j = 5 ∨ j = 6 ∨ j = 7 ∨ j = 8 ∨ j = 9 ∨ j = 10 ∨ j = 11 ∨ j = 12 ∨ j = 13 ∨ j = 14 ∨ j = 15 ∨ j = 16 ∨ j = 17 ∨ j = 18 ∨ j = 19 ∨ j = 20 ∨ j = 21 ∨ j = 22 ∨ j = 23 ∨ j = 24 ∨ j = 25 ∨ j = 26 ∨ j = 27 ∨ j = 28 ∨ j = 29 ∨ j = 30 ∨ j = 31 ∨ j = 32 ∨ j = 33 ∨ j = 34 ∨ j = 35 ∨ j = 36 ∨ j = 37 ∨ j = 38 ∨ j = 39 ∨ j = 40 ∨ j = 41 ∨ j = 42 ∨ j = 43 ∨ j = 44 ∨ j = 45 ∨ j = 46 ∨ j = 47 ∨ j = 48 ∨ j = 49 ∨ j = 50 ∨ j = 51 ∨ j = 52 ∨ j = 53 ∨ j = 54 ∨ j = 55 ∨ j = 56 ∨ j = 57 ∨ j = 58 ∨ j = 59 ∨ j = 60 ∨ j = 61 ∨ j = 62 ∨ j = 63 ∨ j = 64 ∨ j = 65 ∨ j = 66 ∨ j = 67) with h | h | h | h | h | h | h | h | h | h | h | h | h | h | h | h | h | h | h | h | h | h | h | h | h | h | h | h | h | h | h | h | h | h | h | h | h | h | h | h | h | h | h | h | h | h | h | h | h | h | h | h | h | h | h | h | h | h | h | h | h | h | h | h | h | h | h | h
    · subst h
      show (rg 210 0).1 ≤ M1404.1 210 0 ∧ M1404.1 210 0 ≤ (rg 210 0).2
      rw [rz_210_0, hk1411]; exact ⟨by dsimp only; omega, by dsimp only; omega⟩
    · subst h
      show (rg 210 1).1 ≤ M1404.1 210 1 ∧ M1404.1 210 1 ≤ (rg 210 1).2
      rw [rz_210_1, hk1412]; exact ⟨by dsimp only; omega, by dsimp only; omega⟩
    · subst h
      show (rg 210 2).1 ≤ M1404.1 210 2 ∧ M1404.1 210 2 ≤ (rg 210 2).2
      rw [rz_210_2, hU1409 2 (by decide), (by decide +kernel : dv 210 2 = 0)]; exact ⟨by dsimp only; omega, by dsimp only; omega⟩
    · subst h
      show (rg 210 3).1 ≤ M1404.1 210 3 ∧ M1404.1 210 3 ≤ (rg 210 3).2
      rw [rz_210_3, hU1409 3 (by decide), (by decide +kernel : dv 210 3 = 0)]; exact ⟨by dsimp only; omega, by dsimp only; omega⟩
    · subst h
      show (rg 210 4).1 ≤ M1404.1 210 4 ∧ M1404.1 210 4 ≤ (rg 210 4).2
      rw [rz_210_4, hU1409 4 (by decide), (by decide +kernel : dv 210 4 = 0)]; exact ⟨by dsimp only; omega, by dsimp only; omega⟩
    · subst h
      show (rg 210 5).1 ≤ M1404.1 210 5 ∧ M1404.1 210 5 ≤ (rg 210 5).2
      rw [rz_210_5, hk1413]; exact ⟨by dsimp only; omega, by dsimp only; omega⟩
    · subst h
      show (rg 210 6).1 ≤ M1404.1 210 6 ∧ M1404.1 210 6 ≤ (rg 210 6).2
      rw [rz_210_6, hU1409 6 (by decide), (by decide +kernel : dv 210 6 = 0)]; exact ⟨by dsimp only; omega, by dsimp only; omega⟩
    · subst h
      show (rg 210 7).1 ≤ M1404.1 210 7 ∧ M1404.1 210 7 ≤ (rg 210 7).2
      rw [rz_210_7, hU1409 7 (by decide), (by decide +kernel : dv 210 7 = 0)]; exact ⟨by dsimp only; omega, by dsimp only; omega⟩
    · subst h
      show (rg 210 8).1 ≤ M1404.1 210 8 ∧ M1404.1 210 8 ≤ (rg 210 8).2
      rw [rz_210_8, hU1409 8 (by decide), (by decide +kernel : dv 210 8 = 0)]; exact ⟨by dsimp only; omega, by dsimp only; omega⟩
    · subst h
      show (rg 210 9).1 ≤ M1404.1 210 9 ∧ M1404.1 210 9 ≤ (rg 210 9).2
      rw [rz_210_9, hU1409 9 (by decide), (by decide +kernel : dv 210 9 = 0)]; exact ⟨by dsimp only; omega, by dsimp only; omega⟩
    · subst h
      show (rg 210 10).1 ≤ M1404.1 210 10 ∧ M1404.1 210 10 ≤ (rg 210 10).2
      rw [rz_210_10, hU1409 10 (by decide), (by decide +kernel : dv 210 10 = 0)]; exact ⟨by dsimp only; omega, by dsimp only; omega⟩
    · subst h
      show (rg 210 11).1 ≤ M1404.1 210 11 ∧ M1404.1 210 11 ≤ (rg 210 11).2
      rw [rz_210_11, hk1414]; exact ⟨by dsimp only; omega, by dsimp only; omega⟩
    · subst h
      show (rg 210 12).1 ≤ M1404.1 210 12 ∧ M1404.1 210 12 ≤ (rg 210 12).2
      rw [rz_210_12, hk1415]; exact ⟨by dsimp only; omega, by dsimp only; omega⟩
    · subst h
      show (rg 210 13).1 ≤ M1404.1 210 13 ∧ M1404.1 210 13 ≤ (rg 210 13).2
      rw [rz_210_13, hk1416]; exact ⟨by dsimp only; omega, by dsimp only; omega⟩
    · subst h
      show (rg 210 14).1 ≤ M1404.1 210 14 ∧ M1404.1 210 14 ≤ (rg 210 14).2
      rw [rz_210_14, hk1417]; exact ⟨by dsimp only; omega, by dsimp only; omega⟩
    · subst h
      show (rg 210 15).1 ≤ M1404.1 210 15 ∧ M1404.1 210 15 ≤ (rg 210 15).2
      rw [rz_210_15, hk1418]; exact ⟨by dsimp only; omega, by dsimp only; omega⟩
    · subst h
      show (rg 210 16).1 ≤ M1404.1 210 16 ∧ M1404.1 210 16 ≤ (rg 210 16).2
      rw [rz_210_16, hk1419]; exact ⟨by dsimp only; omega, by dsimp only; omega⟩
    · subst h
      show (rg 210 17).1 ≤ M1404.1 210 17 ∧ M1404.1 210 17 ≤ (rg 210 17).2
      rw [rz_210_17, hk1420]; exact ⟨by dsimp only; omega, by dsimp only; omega⟩
    · subst h
      show (rg 210 18).1 ≤ M1404.1 210 18 ∧ M1404.1 210 18 ≤ (rg 210 18).2
      rw [rz_210_18, hk1421]; exact ⟨by dsimp only; omega, by dsimp only; omega⟩
    · subst h
      show (rg 210 19).1 ≤ M1404.1 210 19 ∧ M1404.1 210 19 ≤ (rg 210 19).2
      rw [rz_210_19, hk1422]; exact ⟨by dsimp only; omega, by dsimp only; omega⟩
    · subst h
      show (rg 210 20).1 ≤ M1404.1 210 20 ∧ M1404.1 210 20 ≤ (rg 210 20).2
      rw [rz_210_20, hk1423]; exact ⟨by dsimp only; omega, by dsimp only; omega⟩
    · subst h
      show (rg 210 21).1 ≤ M1404.1 210 21 ∧ M1404.1 210 21 ≤ (rg 210 21).2
      rw [rz_210_21, hk1424]; exact ⟨by dsimp only; omega, by dsimp only; omega⟩
    · subst h
      show (rg 210 22).1 ≤ M1404.1 210 22 ∧ M1404.1 210 22 ≤ (rg 210 22).2
      rw [rz_210_22, hk1425]; exact ⟨by dsimp only; omega, by dsimp only; omega⟩
    · subst h
      show (rg 210 23).1 ≤ M1404.1 210 23 ∧ M1404.1 210 23 ≤ (rg 210 23).2
      rw [rz_210_23, hk1426]; exact ⟨by dsimp only; omega, by dsimp only; omega⟩
    · subst h
      show (rg 210 24).1 ≤ M1404.1 210 24 ∧ M1404.1 210 24 ≤ (rg 210 24).2
      rw [rz_210_24, hk1427]; exact ⟨by dsimp only; omega, by dsimp only; omega⟩
    · subst h
      show (rg 210 25).1 ≤ M1404.1 210 25 ∧ M1404.1 210 25 ≤ (rg 210 25).2
      rw [rz_210_25, hk1428]; exact ⟨by dsimp only; omega, by dsimp only; omega⟩
    · subst h
      show (rg 210 26).1 ≤ M1404.1 210 26 ∧ M1404.1 210 26 ≤ (rg 210 26).2
      rw [rz_210_26, hk1429]; exact ⟨by dsimp only; omega, by dsimp only; omega⟩
    · subst h
      show (rg 210 27).1 ≤ M1404.1 210 27 ∧ M1404.1 210 27 ≤ (rg 210 27).2
      rw [rz_210_27, hk1430]; exact ⟨by dsimp only; omega, by dsimp only; omega⟩
    · subst h
      show (rg 210 28).1 ≤ M1404.1 210 28 ∧ M1404.1 210 28 ≤ (rg 210 28).2
      rw [rz_210_28, hk1431]; exact ⟨by dsimp only; omega, by dsimp only; omega⟩
    · subst h
      show (rg 210 29).1 ≤ M1404.1 210 29 ∧ M1404.1 210 29 ≤ (rg 210 29).2
      rw [rz_210_29, hk1432]; exact ⟨by dsimp only; omega, by dsimp only; omega⟩
    · subst h
      show (rg 210 30).1 ≤ M1404.1 210 30 ∧ M1404.1 210 30 ≤ (rg 210 30).2
      rw [rz_210_30, hk1433]; exact ⟨by dsimp only; omega, by dsimp only; omega⟩
    · subst h
      show (rg 210 31).1 ≤ M1404.1 210 31 ∧ M1404.1 210 31 ≤ (rg 210 31).2
      rw [rz_210_31, hk1434]; exact ⟨by dsimp only; omega, by dsimp only; omega⟩
    · subst h
      show (rg 210 32).1 ≤ M1404.1 210 32 ∧ M1404.1 210 32 ≤ (rg 210 32).2
      rw [rz_210_32, hk1435]; exact ⟨by dsimp only; omega, by dsimp only; omega⟩
    · subst h
      show (rg 210 33).1 ≤ M1404.1 210 33 ∧ M1404.1 210 33 ≤ (rg 210 33).2
      rw [rz_210_33, hk1436]; exact ⟨by dsimp only; omega, by dsimp only; omega⟩
    · subst h
      show (rg 210 34).1 ≤ M1404.1 210 34 ∧ M1404.1 210 34 ≤ (rg 210 34).2
      rw [rz_210_34, hk1437]; exact ⟨by dsimp only; omega, by dsimp only; omega⟩
    · subst h
      show (rg 210 35).1 ≤ M1404.1 210 35 ∧ M1404.1 210 35 ≤ (rg 210 35).2
      rw [rz_210_35, hk1438]; exact ⟨by dsimp only; omega, by dsimp only; omega⟩
    · subst h
      show (rg 210 36).1 ≤ M1404.1 210 36 ∧ M1404.1 210 36 ≤ (rg 210 36).2
      rw [rz_210_36, hk1439]; exact ⟨by dsimp only; omega, by dsimp only; omega⟩
    · subst h
      show (rg 210 37).1 ≤ M1404.1 210 37 ∧ M1404.1 210 37 ≤ (rg 210 37).2
      rw [rz_210_37, hk1440]; exact ⟨by dsimp only; omega, by dsimp only; omega⟩
    · subst h
      show (rg 210 38).1 ≤ M1404.1 210 38 ∧ M1404.1 210 38 ≤ (rg 210 38).2
      rw [rz_210_38, hk1441]; exact ⟨by dsimp only; omega, by dsimp only; omega⟩
    · subst h
      show (rg 210 39).1 ≤ M1404.1 210 39 ∧ M1404.1 210 39 ≤ (rg 210 39).2
      rw [rz_210_39, hk1442]; exact ⟨by dsimp only; omega, by dsimp only; omega⟩
    · subst h
      show (rg 210 40).1 ≤ M1404.1 210 40 ∧ M1404.1 210 40 ≤ (rg 210 40).2
      rw [rz_210_40, hU1409 40 (by decide), (by decide +kernel : dv 210 40 = 0)]; exact ⟨by dsimp only; omega, by dsimp only; omega⟩
    · subst h
      show (rg 210 41).1 ≤ M1404.1 210 41 ∧ M1404.1 210 41 ≤ (rg 210 41).2
      rw [rz_210_41, hU1409 41 (by decide), (by decide +kernel : dv 210 41 = 0)]; exact ⟨by dsimp only; omega, by dsimp only; omega⟩
    · subst h
      show (rg 210 42).1 ≤ M1404.1 210 42 ∧ M1404.1 210 42 ≤ (rg 210 42).2
      rw [rz_210_42, hU1409 42 (by decide), (by decide +kernel : dv 210 42 = 0)]; exact ⟨by dsimp only; omega, by dsimp only; omega⟩
    · subst h
      show (rg 210 43).1 ≤ M1404.1 210 43 ∧ M1404.1 210 43 ≤ (rg 210 43).2
      rw [rz_210_43, hU1409 43 (by decide), (by decide +kernel : dv 210 43 = 0)]; exact ⟨by dsimp only; omega, by dsimp only; omega⟩
    · subst h
      show (rg 210 44).1 ≤ M1404.1 210 44 ∧ M1404.1 210 44 ≤ (rg 210 44).2
      rw [rz_210_44, hU1409 44 (by decide), (by decide +kernel : dv 210 44 = 0)]; exact ⟨by dsimp only; omega, by dsimp only; omega⟩
    · subst h
      show (rg 210 45).1 ≤ M1404.1 210 45 ∧ M1404.1 210 45 ≤ (rg 210 45).2
      rw [rz_210_45, hU1409 45 (by decide), (by decide +kernel : dv 210 45 = 0)]; exact ⟨by dsimp only; omega, by dsimp only; omega⟩
    · subst h
      show (rg 210 46).1 ≤ M1404.1 210 46 ∧ M1404.1 210 46 ≤ (rg 210 46).2
      rw [rz_210_46, hU1409 46 (by decide), (by decide +kernel : dv 210 46 = 0)]; exact ⟨by dsimp only; omega, by dsimp only; omega⟩
    · subst h
      show (rg 210 47).1 ≤ M1404.1 210 47 ∧ M1404.1 210 47 ≤ (rg 210 47).2
      rw [rz_210_47, hk1443]; exact ⟨by dsimp only; omega, by dsimp only; omega⟩
    · subst h
      show (rg 210 48).1 ≤ M1404.1 210 48 ∧ M1404.1 210 48 ≤ (rg 210 48).2
      rw [rz_210_48, hk1444]; exact ⟨by dsimp only; omega, by dsimp only; omega⟩
    · subst h
      show (rg 210 49).1 ≤ M1404.1 210 49 ∧ M1404.1 210 49 ≤ (rg 210 49).2
      rw [rz_210_49, hk1445]; exact ⟨by dsimp only; omega, by dsimp only; omega⟩
    · subst h
      show (rg 210 50).1 ≤ M1404.1 210 50 ∧ M1404.1 210 50 ≤ (rg 210 50).2
      rw [rz_210_50, hU1409 50 (by decide), (by decide +kernel : dv 210 50 = 0)]; exact ⟨by dsimp only; omega, by dsimp only; omega⟩
    · subst h
      show (rg 210 51).1 ≤ M1404.1 210 51 ∧ M1404.1 210 51 ≤ (rg 210 51).2
      rw [rz_210_51, hU1409 51 (by decide), (by decide +kernel : dv 210 51 = 0)]; exact ⟨by dsimp only; omega, by dsimp only; omega⟩
    · subst h
      show (rg 210 52).1 ≤ M1404.1 210 52 ∧ M1404.1 210 52 ≤ (rg 210 52).2
      rw [rz_210_52, hk1446]; exact ⟨by dsimp only; omega, by dsimp only; omega⟩
    · subst h
      show (rg 210 53).1 ≤ M1404.1 210 53 ∧ M1404.1 210 53 ≤ (rg 210 53).2
      rw [rz_210_53, hk1447]; exact ⟨by dsimp only; omega, by dsimp only; omega⟩
    · subst h
      show (rg 210 54).1 ≤ M1404.1 210 54 ∧ M1404.1 210 54 ≤ (rg 210 54).2
      rw [rz_210_54, hU1409 54 (by decide), (by decide +kernel : dv 210 54 = 0)]; exact ⟨by dsimp only; omega, by dsimp only; omega⟩
    · subst h
      show (rg 210 55).1 ≤ M1404.1 210 55 ∧ M1404.1 210 55 ≤ (rg 210 55).2
      rw [rz_210_55, hk1448]; exact ⟨by dsimp only; omega, by dsimp only; omega⟩
    · subst h
      show (rg 210 56).1 ≤ M1404.1 210 56 ∧ M1404.1 210 56 ≤ (rg 210 56).2
      rw [rz_210_56, hk1449]; exact ⟨by dsimp only; omega, by dsimp only; omega⟩
    · subst h
      show (rg 210 57).1 ≤ M1404.1 210 57 ∧ M1404.1 210 57 ≤ (rg 210 57).2
      rw [rz_210_57, hk1450]; exact ⟨by dsimp only; omega, by dsimp only; omega⟩
    · subst h
      show (rg 210 58).1 ≤ M1404.1 210 58 ∧ M1404.1 210 58 ≤ (rg 210 58).2
      rw [rz_210_58, hk1451]; exact ⟨by dsimp only; omega, by dsimp only; omega⟩
    · subst h
      show (rg 210 59).1 ≤ M1404.1 210 59 ∧ M1404.1 210 59 ≤ (rg 210 59).2
      rw [rz_210_59, hk1452]; exact ⟨by dsimp only; omega, by dsimp only; omega⟩
    · subst h
      show (rg 210 60).1 ≤ M1404.1 210 60 ∧ M1404.1 210 60 ≤ (rg 210 60).2
      rw [rz_210_60, hk1453]; exact ⟨by dsimp only; omega, by dsimp only; omega⟩
    · subst h
      show (rg 210 61).1 ≤ M1404.1 210 61 ∧ M1404.1 210 61 ≤ (rg 210 61).2
      rw [rz_210_61, hk1454]; exact ⟨by dsimp only; omega, by dsimp only; omega⟩
    · subst h
      show (rg 210 62).1 ≤ M1404.1 210 62 ∧ M1404.1 210 62 ≤ (rg 210 62).2
      rw [rz_210_62, hk1455]; exact ⟨by dsimp only; omega, by dsimp only; omega⟩
    · subst h
      show (rg 210 63).1 ≤ M1404.1 210 63 ∧ M1404.1 210 63 ≤ (rg 210 63).2
      rw [rz_210_63, hU1409 63 (by decide), (by decide +kernel : dv 210 63 = 0)]; exact ⟨by dsimp only; omega, by dsimp only; omega⟩
    · subst h
      show (rg 210 64).1 ≤ M1404.1 210 64 ∧ M1404.1 210 64 ≤ (rg 210 64).2
      rw [rz_210_64, hU1409 64 (by decide), (by decide +kernel : dv 210 64 = 0)]; exact ⟨by dsimp only; omega, by dsimp only; omega⟩
    · subst h
      show (rg 210 65).1 ≤ M1404.1 210 65 ∧ M1404.1 210 65 ≤ (rg 210 65).2
      rw [rz_210_65, hU1409 65 (by decide), (by decide +kernel : dv 210 65 = 0)]; exact ⟨by dsimp only; omega, by dsimp only; omega⟩
    · subst h
      show (rg 210 66).1 ≤ M1404.1 210 66 ∧ M1404.1 210 66 ≤ (rg 210 66).2
      rw [rz_210_66, hk1456]; exact ⟨by dsimp only; omega, by dsimp only; omega⟩
    · subst h
      show (rg 210 67).1 ≤ M1404.1 210 67 ∧ M1404.1 210 67 ≤ (rg 210 67).2
      rw [rz_210_67, hf1406]; exact ⟨by dsimp only; omega, by dsimp only; omega⟩
  have hRa : RR 210 257 M1404 := RR_j (RR_s RR_0 hRo (by omega : (211 : Int) = 210 + 1)) hR1410
  have hIv : Iv M1404 := Iv_of (fun k => by
    by_cases c : 210 ≤ k ∧ k < 257
    · exact hRa k c.1 c.2
    · intro j
      rw [(hG1407 k j c).1]
      exact hq k c j) (SS_f2 hss hG1407 (by omega))
  have h40 : M1404.1 210 40 = 0 := (hU1409 40 (by decide)).trans (by decide +kernel)
  have h41 : M1404.1 210 41 = 0 := (hU1409 41 (by decide)).trans (by decide +kernel)
  have h64 : M1404.1 210 64 = 0 := (hU1409 64 (by decide)).trans (by decide +kernel)
  refine j_callVV hX lk_X11_155 (c_X11_clearBank _ _ _ _ _ 0 _ (by omega) hIv h41) (by omega) ⟨by omega, by omega⟩ rfl rfl (by omega) (by omega) (by decide +kernel : kd 210 = .inl 11) rfl rfl (Nat.le_of_ble_eq_true rfl) dX11_init_367 (fun M1457 hp1458 => ?_)
  obtain ⟨hI1, hF1, hz1, hz2, hz3, hz4⟩ := hp1458
  have h40b : M1457.1 210 40 = 0 := (hF1 210 40 (by omega)).trans h40
  have h64b : M1457.1 210 64 = 0 := (hF1 210 64 (by omega)).trans h64
  refine j_aload_n hX dX11_init_370 rfl 0 rfl ?_
  refine j_callVV hX lk_X11_158 (c_X11_startAnew _ _ _ _ _ 0 0 _ (by omega) hI1 h40b hz1 (fun h => absurd h (by omega))) (by omega) ⟨by omega, by omega⟩ rfl rfl (by omega) (by omega) (by decide +kernel : kd 210 = .inl 11) rfl rfl (Nat.le_of_ble_eq_true rfl) dX11_init_371 (fun M1459 hp1460 => ?_)
  obtain ⟨hI2, hF2, hr1, hr2⟩ := hp1460
  have hRI : RI M1459 := RI_mk (w := 0) (n := 0) ((hF2 210 40 (by omega)).trans h40b) ⟨(hF2 213 0 (by omega)).trans hz1, hr1, hr2, fun h => absurd h (by rw [hF2 232 0 (by omega), hz3]; decide)⟩
  have hcl : ∀ a b, a < 210 → M1459.1 a b = M.1 a b := fun a b h => ((hF2 a b (by omega)).trans (hF1 a b (by omega))).trans (hG1407 a b (by omega)).1
  have h64c : M1459.1 210 64 = 0 := (hF2 210 64 (by omega)).trans h64b
  exact j_widen (by omega) (by omega) (hret _ _ _ dX11_init_374 ⟨hI2, hRI, h64c, hcl⟩)
