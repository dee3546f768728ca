set_option maxHeartbeats 2000000 in
set_option maxRecDepth 20000 in
theorem law_c0 {X : CT} {B b n ce sl : Nat} {ss : Nat → Int32} (hX : Cx X B 100 cL_law RL) (hSX : SX X B b n ss) (hn : (n : Int) ≤ 3072) {i : Int} (hi0 : 0 ≤ i) (hi1 : i + 6 ≤ (n : Int)) (hce : ce + 0 ≤ (xR X).cells ∧ sl + 0 ≤ (xR X).slots) (M : MM) (hI : Iv M) (hC : CIv M) (hR : RI M) (htm : M.1 0 11 = M.1 210 64) (htail : ∀ M', Iv M' → CIv M' → RI M' → M'.1 0 11 = M'.1 210 64 → J X B 257 ce sl 1288 [(0, .ref b), (1, rv B 0), (2, rv B 210), (3, iv i)] [] M') : J X B 257 ce sl 216 [(0, .ref b), (1, rv B 0), (2, rv B 210), (3, iv i)] [] M := by
  refine j_aload_n hX dL_law_216 rfl 1 rfl ?_
  refine j_aload_r hX dL_law_217 rfl 0 rfl ?_
  refine j_iload_n hX dL_law_218 rfl 3 rfl ?_
  refine j_iconst hX dL_law_219 ?_
  refine j_iadd hX dL_law_220 ?_
  refine j_sld hX hSX (by omega) (by omega) hn dL_law_221 (fun z1 he3 hz2 => ?_)
  refine j_aload_r hX dL_law_222 rfl 0 rfl ?_
  refine j_iload_n hX dL_law_223 rfl 3 rfl ?_
  refine j_iconst hX dL_law_224 ?_
  refine j_iadd hX dL_law_225 ?_
  refine j_sld hX hSX (by omega) (by omega) hn dL_law_226 (fun z4 he6 hz5 => ?_)
  refine j_aload_r hX dL_law_227 rfl 0 rfl ?_
  refine j_iload_n hX dL_law_228 rfl 3 rfl ?_
  refine j_iconst hX dL_law_229 ?_
  refine j_iadd hX dL_law_230 ?_
  refine j_sld hX hSX (by omega) (by omega) hn dL_law_231 (fun z7 he9 hz8 => ?_)
  refine j_aload_r hX dL_law_232 rfl 0 rfl ?_
  refine j_iload_n hX dL_law_233 rfl 3 rfl ?_
  refine j_iconst hX dL_law_234 ?_
  refine j_iadd hX dL_law_235 ?_
  refine j_sld hX hSX (by omega) (by omega) hn dL_law_236 (fun z10 he12 hz11 => ?_)
  refine j_aload_r hX dL_law_237 rfl 0 rfl ?_
  refine j_iload_n hX dL_law_238 rfl 3 rfl ?_
  refine j_iconst hX dL_law_239 ?_
  refine j_iadd hX dL_law_240 ?_
  refine j_sld hX hSX (by omega) (by omega) hn dL_law_241 (fun z13 he15 hz14 => ?_)
  have hnb := hI.at (M.1 0 8) 0 (rq_0 hC.1)
  have hVn : Vn (M.1 (M.1 0 8) 0) M := hC.2.2.2.2.2.1 _ (hI.at 26 1 ro_26_1).1 hC.2.2.2.2.1
  refine j_callVI hX lk_L_13 (c_X10_feed _ _ _ _ _ _ _ _ _ _ _ (by omega) hI (by omega) (by omega) (by omega) (by omega) (by omega)) (by omega) hce rfl rfl (by omega) (by omega) (by decide +kernel : kd 0 = .inl 10) rfl rfl (Nat.le_of_ble_eq_true rfl) dL_law_242 (fun y16 M17 hz18 hp19 => ?_)
  obtain ⟨hI20, hF21⟩ := hp19
  have hq5 := hC.1
  have hu25 : ∀ a b, 210 ≤ a → M17.1 a b = M.1 a b := fun a b h => hF21 a b (by omega)
  have hC22 : CIv M17 := CI_fr hC hI hF21 (fun a b h => by omega)
  have hR23 : RI M17 := RI_c hR hu25
  have ht24 : M17.1 0 11 = M17.1 210 64 := by rw [hF21 0 11 (by omega), hu25 210 64 (by omega)]; exact htm
  refine j_pop hX dL_law_245 rfl ?_
  refine j_aload_n hX dL_law_246 rfl 2 rfl ?_
  refine j_aload_r hX dL_law_247 rfl 0 rfl ?_
  refine j_iload_n hX dL_law_248 rfl 3 rfl ?_
  refine j_iconst hX dL_law_249 ?_
  refine j_iadd hX dL_law_250 ?_
  refine j_sld hX hSX (by omega) (by omega) hn dL_law_251 (fun z26 he28 hz27 => ?_)
  refine j_aload_r hX dL_law_252 rfl 0 rfl ?_
  refine j_iload_n hX dL_law_253 rfl 3 rfl ?_
  refine j_iconst hX dL_law_254 ?_
  refine j_iadd hX dL_law_255 ?_
  refine j_sld hX hSX (by omega) (by omega) hn dL_law_256 (fun z29 he31 hz30 => ?_)
  refine j_aload_r hX dL_law_257 rfl 0 rfl ?_
  refine j_iload_n hX dL_law_258 rfl 3 rfl ?_
  refine j_iconst hX dL_law_259 ?_
  refine j_iadd hX dL_law_260 ?_
  refine j_sld hX hSX (by omega) (by omega) hn dL_law_261 (fun z32 he34 hz33 => ?_)
  refine j_aload_r hX dL_law_262 rfl 0 rfl ?_
  refine j_iload_n hX dL_law_263 rfl 3 rfl ?_
  refine j_iconst hX dL_law_264 ?_
  refine j_iadd hX dL_law_265 ?_
  refine j_sld hX hSX (by omega) (by omega) hn dL_law_266 (fun z35 he37 hz36 => ?_)
  refine j_aload_r hX dL_law_267 rfl 0 rfl ?_
  refine j_iload_n hX dL_law_268 rfl 3 rfl ?_
  refine j_iconst hX dL_law_269 ?_
  refine j_iadd hX dL_law_270 ?_
  refine j_sld hX hSX (by omega) (by omega) hn dL_law_271 (fun z38 he40 hz39 => ?_)
  have hR0 := hR23 _ rfl
  refine j_callVI hX lk_L_17 (c_X11_feed _ _ _ _ _ _ _ _ _ _ _ (by omega) hI20 (by omega) (by omega) (by omega) (by omega) (by omega)) (by omega) hce rfl rfl (by omega) (by omega) (by decide +kernel : kd 210 = .inl 11) rfl rfl (Nat.le_of_ble_eq_true rfl) dL_law_272 (fun y41 M42 hz43 hp44 => ?_)
  obtain ⟨hI45, hF46⟩ := hp44
  have hu50 : ∀ a b, a < 210 → M42.1 a b = M17.1 a b := fun a b h => hF46 a b (by omega)
  have hC47 : CIv M42 := CI_c hC22 hI20 hu50
  have hR48 : RI M42 := RI_f hR23 hF46 (fun a b h => by omega)
  have ht49 : M42.1 0 11 = M42.1 210 64 := by rw [hu50 0 11 (by omega), hF46 210 64 (by omega)]; exact ht24
  refine j_pop hX dL_law_275 rfl ?_
  refine j_goto (tgt := 1288) hX dL_law_276 (by decide) ?_
  exact htail _ hI45 hC47 hR48 ht49
set_option maxHeartbeats 2000000 in
set_option maxRecDepth 20000 in
theorem law_c1 {X : CT} {B b n ce sl : Nat} {ss : Nat → Int32} (hX : Cx X B 100 cL_law RL) (hSX : SX X B b n ss) (hn : (n : Int) ≤ 3072) {i : Int} (hi0 : 0 ≤ i) (hi1 : i + 6 ≤ (n : Int)) (hce : ce + 0 ≤ (xR X).cells ∧ sl + 0 ≤ (xR X).slots) (M : MM) (hI : Iv M) (hC : CIv M) (hR : RI M) (htm : M.1 0 11 = M.1 210 64) (htail : ∀ M', Iv M' → CIv M' → RI M' → M'.1 0 11 = M'.1 210 64 → J X B 257 ce sl 1288 [(0, .ref b), (1, rv B 0), (2, rv B 210), (3, iv i)] [] M') : J X B 257 ce sl 279 [(0, .ref b), (1, rv B 0), (2, rv B 210), (3, iv i)] [] M := by
  refine j_aload_n hX dL_law_279 rfl 1 rfl ?_
  refine j_aload_r hX dL_law_280 rfl 0 rfl ?_
  refine j_iload_n hX dL_law_281 rfl 3 rfl ?_
  refine j_iconst hX dL_law_282 ?_
  refine j_iadd hX dL_law_283 ?_
  refine j_sld hX hSX (by omega) (by omega) hn dL_law_284 (fun z1 he3 hz2 => ?_)
  have hnb := hI.at (M.1 0 8) 0 (rq_0 hC.1)
  have hVn : Vn (M.1 (M.1 0 8) 0) M := hC.2.2.2.2.2.1 _ (hI.at 26 1 ro_26_1).1 hC.2.2.2.2.1
  refine j_callVI hX lk_L_18 (c_X10_end _ _ _ _ _ _ _ (by omega) hI (by omega)) (by omega) hce rfl rfl (by omega) (by omega) (by decide +kernel : kd 0 = .inl 10) rfl rfl (Nat.le_of_ble_eq_true rfl) dL_law_285 (fun y4 M5 hz6 hp7 => ?_)
  obtain ⟨hI8, hF9⟩ := hp7
  have hq5 := hC.1
  have hu13 : ∀ a b, 210 ≤ a → M5.1 a b = M.1 a b := fun a b h => hF9 a b (by omega)
  have hC10 : CIv M5 := CI_fr hC hI hF9 (fun a b h => by omega)
  have hR11 : RI M5 := RI_c hR hu13
  have ht12 : M5.1 0 11 = M5.1 210 64 := by rw [hF9 0 11 (by omega), hu13 210 64 (by omega)]; exact htm
  refine j_pop hX dL_law_288 rfl ?_
  refine j_aload_n hX dL_law_289 rfl 2 rfl ?_
  refine j_aload_r hX dL_law_290 rfl 0 rfl ?_
  refine j_iload_n hX dL_law_291 rfl 3 rfl ?_
  refine j_iconst hX dL_law_292 ?_
  refine j_iadd hX dL_law_293 ?_
  refine j_sld hX hSX (by omega) (by omega) hn dL_law_294 (fun z14 he16 hz15 => ?_)
  have hR0 := hR11 _ rfl
  refine j_callVI hX lk_L_22 (c_X11_end _ _ _ _ _ _ _ (by omega) hI8 (by omega)) (by omega) hce rfl rfl (by omega) (by omega) (by decide +kernel : kd 210 = .inl 11) rfl rfl (Nat.le_of_ble_eq_true rfl) dL_law_295 (fun y17 M18 hz19 hp20 => ?_)
  obtain ⟨hI21, hF22⟩ := hp20
  have hu26 : ∀ a b, a < 210 → M18.1 a b = M5.1 a b := fun a b h => hF22 a b (by omega)
  have hC23 : CIv M18 := CI_c hC10 hI8 hu26
  have hR24 : RI M18 := RI_f hR11 hF22 (fun a b h => by omega)
  have ht25 : M18.1 0 11 = M18.1 210 64 := by rw [hu26 0 11 (by omega), hF22 210 64 (by omega)]; exact ht12
  refine j_pop hX dL_law_298 rfl ?_
  refine j_goto (tgt := 1288) hX dL_law_299 (by decide) ?_
  exact htail _ hI21 hC23 hR24 ht25
set_option maxHeartbeats 2000000 in
set_option maxRecDepth 20000 in
theorem law_c2 {X : CT} {B b n ce sl : Nat} {ss : Nat → Int32} (hX : Cx X B 100 cL_law RL) (hSX : SX X B b n ss) (hn : (n : Int) ≤ 3072) {i : Int} (hi0 : 0 ≤ i) (hi1 : i + 6 ≤ (n : Int)) (hce : ce + 0 ≤ (xR X).cells ∧ sl + 0 ≤ (xR X).slots) (M : MM) (hI : Iv M) (hC : CIv M) (hR : RI M) (htm : M.1 0 11 = M.1 210 64) (htail : ∀ M', Iv M' → CIv M' → RI M' → M'.1 0 11 = M'.1 210 64 → J X B 257 ce sl 1288 [(0, .ref b), (1, rv B 0), (2, rv B 210), (3, iv i)] [] M') : J X B 257 ce sl 302 [(0, .ref b), (1, rv B 0), (2, rv B 210), (3, iv i)] [] M := by
  refine j_aload_n hX dL_law_302 rfl 1 rfl ?_
  have hnb := hI.at (M.1 0 8) 0 (rq_0 hC.1)
  have hVn : Vn (M.1 (M.1 0 8) 0) M := hC.2.2.2.2.2.1 _ (hI.at 26 1 ro_26_1).1 hC.2.2.2.2.1
  refine j_callVI hX lk_L_23 (c_X10_quarter _ _ _ _ _ (M.1 0 8) (185 - M.1 0 8) _ (by omega) hI hC.1 (by have := hC.1; omega) rfl hC.2.2.1 hC.2.2.2.1 (by omega) hC) (by omega) hce rfl rfl (by omega) (by omega) (by decide +kernel : kd 0 = .inl 10) rfl rfl (Nat.le_of_ble_eq_true rfl) dL_law_303 (fun y1 M2 hz3 hp4 => ?_)
  obtain ⟨hI5, hF6, hq7⟩ := hp4
  have hq5 := hC.1
  have hu11 : ∀ a b, 210 ≤ a → M2.1 a b = M.1 a b := fun a b h => hF6 a b (by omega)
  have hC8 : CIv M2 := hq7
  have hR9 : RI M2 := RI_c hR hu11
  have ht10 : M2.1 0 11 = M2.1 210 64 := by rw [hF6 0 11 (by omega), hu11 210 64 (by omega)]; exact htm
  refine j_pop hX dL_law_306 rfl ?_
  refine j_aload_n hX dL_law_307 rfl 2 rfl ?_
  have hR0 := hR9 _ rfl
  refine j_callVI hX lk_L_27 (c_X11_quarter _ _ _ _ _ (M2.1 210 40) (M2.1 213 (M2.1 210 40)) _ (by omega) hI5 rfl hR0) (by omega) hce rfl rfl (by omega) (by omega) (by decide +kernel : kd 210 = .inl 11) rfl rfl (Nat.le_of_ble_eq_true rfl) dL_law_308 (fun y12 M13 hz14 hp15 => ?_)
  obtain ⟨hI16, hF17, hq18⟩ := hp15
  have hu22 : ∀ a b, a < 210 → M13.1 a b = M2.1 a b := fun a b h => hF17 a b (by omega)
  have hC19 : CIv M13 := CI_c hC8 hI5 hu22
  have hR20 : RI M13 := hq18
  have ht21 : M13.1 0 11 = M13.1 210 64 := by rw [hu22 0 11 (by omega), hF17 210 64 (by omega)]; exact ht10
  refine j_pop hX dL_law_311 rfl ?_
  refine j_goto (tgt := 1288) hX dL_law_312 (by decide) ?_
  exact htail _ hI16 hC19 hR20 ht21
set_option maxHeartbeats 2000000 in
set_option maxRecDepth 20000 in
theorem law_c3 {X : CT} {B b n ce sl : Nat} {ss : Nat → Int32} (hX : Cx X B 100 cL_law RL) (hSX : SX X B b n ss) (hn : (n : Int) ≤ 3072) {i : Int} (hi0 : 0 ≤ i) (hi1 : i + 6 ≤ (n : Int)) (hce : ce + 0 ≤ (xR X).cells ∧ sl + 0 ≤ (xR X).slots) (M : MM) (hI : Iv M) (hC : CIv M) (hR : RI M) (htm : M.1 0 11 = M.1 210 64) (htail : ∀ M', Iv M' → CIv M' → RI M' → M'.1 0 11 = M'.1 210 64 → J X B 257 ce sl 1288 [(0, .ref b), (1, rv B 0), (2, rv B 210), (3, iv i)] [] M') : J X B 257 ce sl 315 [(0, .ref b), (1, rv B 0), (2, rv B 210), (3, iv i)] [] M := by
  refine j_aload_n hX dL_law_315 rfl 1 rfl ?_
  refine j_aload_r hX dL_law_316 rfl 0 rfl ?_
  refine j_iload_n hX dL_law_317 rfl 3 rfl ?_
  refine j_iconst hX dL_law_318 ?_
  refine j_iadd hX dL_law_319 ?_
  refine j_sld hX hSX (by omega) (by omega) hn dL_law_320 (fun z1 he3 hz2 => ?_)
  have hnb := hI.at (M.1 0 8) 0 (rq_0 hC.1)
  have hVn : Vn (M.1 (M.1 0 8) 0) M := hC.2.2.2.2.2.1 _ (hI.at 26 1 ro_26_1).1 hC.2.2.2.2.1
  refine j_callVI hX lk_L_28 (c_X10_fault _ _ _ _ _ _ _ (by omega) hI (by omega)) (by omega) hce rfl rfl (by omega) (by omega) (by decide +kernel : kd 0 = .inl 10) rfl rfl (Nat.le_of_ble_eq_true rfl) dL_law_321 (fun y4 M5 hz6 hp7 => ?_)
  have hE := hp7.symm
  subst hE
  refine j_pop hX dL_law_324 rfl ?_
  refine j_aload_n hX dL_law_325 rfl 2 rfl ?_
  refine j_aload_r hX dL_law_326 rfl 0 rfl ?_
  refine j_iload_n hX dL_law_327 rfl 3 rfl ?_
  refine j_iconst hX dL_law_328 ?_
  refine j_iadd hX dL_law_329 ?_
  refine j_sld hX hSX (by omega) (by omega) hn dL_law_330 (fun z8 he10 hz9 => ?_)
  have hR0 := hR _ rfl
  refine j_callVI hX lk_L_31 (c_X11_fault _ _ _ _ _ _ _ (by omega) hI (by omega)) (by omega) hce rfl rfl (by omega) (by omega) (by decide +kernel : kd 210 = .inl 11) rfl rfl (Nat.le_of_ble_eq_true rfl) dL_law_331 (fun y11 M12 hz13 hp14 => ?_)
  have hE := hp14.symm
  subst hE
  refine j_pop hX dL_law_334 rfl ?_
  refine j_goto (tgt := 1288) hX dL_law_335 (by decide) ?_
  exact htail _ hI hC hR htm
set_option maxHeartbeats 2000000 in
set_option maxRecDepth 20000 in
theorem law_c4 {X : CT} {B b n ce sl : Nat} {ss : Nat → Int32} (hX : Cx X B 100 cL_law RL) (hSX : SX X B b n ss) (hn : (n : Int) ≤ 3072) {i : Int} (hi0 : 0 ≤ i) (hi1 : i + 6 ≤ (n : Int)) (hce : ce + 0 ≤ (xR X).cells ∧ sl + 0 ≤ (xR X).slots) (M : MM) (hI : Iv M) (hC : CIv M) (hR : RI M) (htm : M.1 0 11 = M.1 210 64) (htail : ∀ M', Iv M' → CIv M' → RI M' → M'.1 0 11 = M'.1 210 64 → J X B 257 ce sl 1288 [(0, .ref b), (1, rv B 0), (2, rv B 210), (3, iv i)] [] M') : J X B 257 ce sl 338 [(0, .ref b), (1, rv B 0), (2, rv B 210), (3, iv i)] [] M := by
  refine j_aload_n hX dL_law_338 rfl 1 rfl ?_
  refine j_aload_r hX dL_law_339 rfl 0 rfl ?_
  refine j_iload_n hX dL_law_340 rfl 3 rfl ?_
  refine j_iconst hX dL_law_341 ?_
  refine j_iadd hX dL_law_342 ?_
  refine j_sld hX hSX (by omega) (by omega) hn dL_law_343 (fun z1 he3 hz2 => ?_)
  refine j_aload_r hX dL_law_344 rfl 0 rfl ?_
  refine j_iload_n hX dL_law_345 rfl 3 rfl ?_
  refine j_iconst hX dL_law_346 ?_
  refine j_iadd hX dL_law_347 ?_
  refine j_sld hX hSX (by omega) (by omega) hn dL_law_348 (fun z4 he6 hz5 => ?_)
  have hnb := hI.at (M.1 0 8) 0 (rq_0 hC.1)
  have hVn : Vn (M.1 (M.1 0 8) 0) M := hC.2.2.2.2.2.1 _ (hI.at 26 1 ro_26_1).1 hC.2.2.2.2.1
  refine j_callVI hX lk_L_32 (c_X10_room _ _ _ _ _ (M.1 0 8) (M.1 (M.1 0 8) 0) _ _ _ (by omega) hI (by omega) (by omega) hC.1 rfl rfl hVn hnb) (by omega) hce rfl rfl (by omega) (by omega) (by decide +kernel : kd 0 = .inl 10) rfl rfl (Nat.le_of_ble_eq_true rfl) dL_law_349 (fun y7 M8 hz9 hp10 => ?_)
  obtain ⟨hI11, hF12⟩ := hp10
  have hq5 := hC.1
  have hu16 : ∀ a b, 210 ≤ a → M8.1 a b = M.1 a b := fun a b h => hF12 a b (by omega)
  have hC13 : CIv M8 := CI_fr hC hI hF12 (fun a b h => by omega)
  have hR14 : RI M8 := RI_c hR hu16
  have ht15 : M8.1 0 11 = M8.1 210 64 := by rw [hF12 0 11 (by omega), hu16 210 64 (by omega)]; exact htm
  refine j_pop hX dL_law_352 rfl ?_
  refine j_aload_n hX dL_law_353 rfl 2 rfl ?_
  refine j_aload_r hX dL_law_354 rfl 0 rfl ?_
  refine j_iload_n hX dL_law_355 rfl 3 rfl ?_
  refine j_iconst hX dL_law_356 ?_
  refine j_iadd hX dL_law_357 ?_
  refine j_sld hX hSX (by omega) (by omega) hn dL_law_358 (fun z17 he19 hz18 => ?_)
  refine j_aload_r hX dL_law_359 rfl 0 rfl ?_
  refine j_iload_n hX dL_law_360 rfl 3 rfl ?_
  refine j_iconst hX dL_law_361 ?_
  refine j_iadd hX dL_law_362 ?_
  refine j_sld hX hSX (by omega) (by omega) hn dL_law_363 (fun z20 he22 hz21 => ?_)
  have hR0 := hR14 _ rfl
  refine j_callVI hX lk_L_36 (c_X11_room _ _ _ _ _ (M8.1 210 40) (M8.1 213 (M8.1 210 40)) _ _ _ (by omega) hI11 (by omega) (by omega) rfl rfl hR0.2.1.1 hR0.2.2.2) (by omega) hce rfl rfl (by omega) (by omega) (by decide +kernel : kd 210 = .inl 11) rfl rfl (Nat.le_of_ble_eq_true rfl) dL_law_364 (fun y23 M24 hz25 hp26 => ?_)
  obtain ⟨hI27, hF28⟩ := hp26
  have hu32 : ∀ a b, a < 210 → M24.1 a b = M8.1 a b := fun a b h => hF28 a b (by omega)
  have hC29 : CIv M24 := CI_c hC13 hI11 hu32
  have hR30 : RI M24 := RI_f hR14 hF28 (fun a b h => by omega)
  have ht31 : M24.1 0 11 = M24.1 210 64 := by rw [hu32 0 11 (by omega), hF28 210 64 (by omega)]; exact ht15
  refine j_pop hX dL_law_367 rfl ?_
  refine j_goto (tgt := 1288) hX dL_law_368 (by decide) ?_
  exact htail _ hI27 hC29 hR30 ht31
set_option maxHeartbeats 2000000 in
set_option maxRecDepth 20000 in
theorem law_c5 {X : CT} {B b n ce sl : Nat} {ss : Nat → Int32} (hX : Cx X B 100 cL_law RL) (hSX : SX X B b n ss) (hn : (n : Int) ≤ 3072) {i : Int} (hi0 : 0 ≤ i) (hi1 : i + 6 ≤ (n : Int)) (hce : ce + 0 ≤ (xR X).cells ∧ sl + 0 ≤ (xR X).slots) (M : MM) (hI : Iv M) (hC : CIv M) (hR : RI M) (htm : M.1 0 11 = M.1 210 64) (htail : ∀ M', Iv M' → CIv M' → RI M' → M'.1 0 11 = M'.1 210 64 → J X B 257 ce sl 1288 [(0, .ref b), (1, rv B 0), (2, rv B 210), (3, iv i)] [] M') : J X B 257 ce sl 371 [(0, .ref b), (1, rv B 0), (2, rv B 210), (3, iv i)] [] M := by
  refine j_aload_n hX dL_law_371 rfl 1 rfl ?_
  refine j_aload_r hX dL_law_372 rfl 0 rfl ?_
  refine j_iload_n hX dL_law_373 rfl 3 rfl ?_
  refine j_iconst hX dL_law_374 ?_
  refine j_iadd hX dL_law_375 ?_
  refine j_sld hX hSX (by omega) (by omega) hn dL_law_376 (fun z1 he3 hz2 => ?_)
  refine j_aload_r hX dL_law_377 rfl 0 rfl ?_
  refine j_iload_n hX dL_law_378 rfl 3 rfl ?_
  refine j_iconst hX dL_law_379 ?_
  refine j_iadd hX dL_law_380 ?_
  refine j_sld hX hSX (by omega) (by omega) hn dL_law_381 (fun z4 he6 hz5 => ?_)
  have hnb := hI.at (M.1 0 8) 0 (rq_0 hC.1)
  have hVn : Vn (M.1 (M.1 0 8) 0) M := hC.2.2.2.2.2.1 _ (hI.at 26 1 ro_26_1).1 hC.2.2.2.2.1
  refine j_callVI hX lk_L_37 (c_X10_fact _ _ _ _ _ (M.1 0 8) _ _ _ (by omega) hI (by omega) (by omega) hC.1 rfl) (by omega) hce rfl rfl (by omega) (by omega) (by decide +kernel : kd 0 = .inl 10) rfl rfl (Nat.le_of_ble_eq_true rfl) dL_law_382 (fun y7 M8 hz9 hp10 => ?_)
  have hE := hp10.symm
  subst hE
  refine j_pop hX dL_law_385 rfl ?_
  refine j_aload_n hX dL_law_386 rfl 2 rfl ?_
  refine j_aload_r hX dL_law_387 rfl 0 rfl ?_
  refine j_iload_n hX dL_law_388 rfl 3 rfl ?_
  refine j_iconst hX dL_law_389 ?_
  refine j_iadd hX dL_law_390 ?_
  refine j_sld hX hSX (by omega) (by omega) hn dL_law_391 (fun z11 he13 hz12 => ?_)
  refine j_aload_r hX dL_law_392 rfl 0 rfl ?_
  refine j_iload_n hX dL_law_393 rfl 3 rfl ?_
  refine j_iconst hX dL_law_394 ?_
  refine j_iadd hX dL_law_395 ?_
  refine j_sld hX hSX (by omega) (by omega) hn dL_law_396 (fun z14 he16 hz15 => ?_)
  have hR0 := hR _ rfl
  refine j_callVI hX lk_L_40 (c_X11_fact _ _ _ _ _ (M.1 210 40) (M.1 213 (M.1 210 40)) _ _ _ (by omega) hI (by omega) (by omega) rfl rfl) (by omega) hce rfl rfl (by omega) (by omega) (by decide +kernel : kd 210 = .inl 11) rfl rfl (Nat.le_of_ble_eq_true rfl) dL_law_397 (fun y17 M18 hz19 hp20 => ?_)
  have hE := hp20.symm
  subst hE
  refine j_pop hX dL_law_400 rfl ?_
  refine j_goto (tgt := 1288) hX dL_law_401 (by decide) ?_
  exact htail _ hI hC hR htm
set_option maxHeartbeats 2000000 in
set_option maxRecDepth 20000 in
theorem law_c6 {X : CT} {B b n ce sl : Nat} {ss : Nat → Int32} (hX : Cx X B 100 cL_law RL) (hSX : SX X B b n ss) (hn : (n : Int) ≤ 3072) {i : Int} (hi0 : 0 ≤ i) (hi1 : i + 6 ≤ (n : Int)) (hce : ce + 0 ≤ (xR X).cells ∧ sl + 0 ≤ (xR X).slots) (M : MM) (hI : Iv M) (hC : CIv M) (hR : RI M) (htm : M.1 0 11 = M.1 210 64) (htail : ∀ M', Iv M' → CIv M' → RI M' → M'.1 0 11 = M'.1 210 64 → J X B 257 ce sl 1288 [(0, .ref b), (1, rv B 0), (2, rv B 210), (3, iv i)] [] M') : J X B 257 ce sl 404 [(0, .ref b), (1, rv B 0), (2, rv B 210), (3, iv i)] [] M := by
  refine j_aload_n hX dL_law_404 rfl 1 rfl ?_
  refine j_aload_r hX dL_law_405 rfl 0 rfl ?_
  refine j_iload_n hX dL_law_406 rfl 3 rfl ?_
  refine j_iconst hX dL_law_407 ?_
  refine j_iadd hX dL_law_408 ?_
  refine j_sld hX hSX (by omega) (by omega) hn dL_law_409 (fun z1 he3 hz2 => ?_)
  refine j_aload_r hX dL_law_410 rfl 0 rfl ?_
  refine j_iload_n hX dL_law_411 rfl 3 rfl ?_
  refine j_iconst hX dL_law_412 ?_
  refine j_iadd hX dL_law_413 ?_
  refine j_sld hX hSX (by omega) (by omega) hn dL_law_414 (fun z4 he6 hz5 => ?_)
  have hnb := hI.at (M.1 0 8) 0 (rq_0 hC.1)
  have hVn : Vn (M.1 (M.1 0 8) 0) M := hC.2.2.2.2.2.1 _ (hI.at 26 1 ro_26_1).1 hC.2.2.2.2.1
  refine j_callVI hX lk_L_41 (c_X10_wants _ _ _ _ _ (M.1 0 8) (M.1 (M.1 0 8) 0) _ _ _ (by omega) hI (by omega) (by omega) hC.1 rfl rfl hnb) (by omega) hce rfl rfl (by omega) (by omega) (by decide +kernel : kd 0 = .inl 10) rfl rfl (Nat.le_of_ble_eq_true rfl) dL_law_415 (fun y7 M8 hz9 hp10 => ?_)
  have hE := hp10.symm
  subst hE
  refine j_pop hX dL_law_418 rfl ?_
  refine j_aload_n hX dL_law_419 rfl 2 rfl ?_
  refine j_aload_r hX dL_law_420 rfl 0 rfl ?_
  refine j_iload_n hX dL_law_421 rfl 3 rfl ?_
  refine j_iconst hX dL_law_422 ?_
  refine j_iadd hX dL_law_423 ?_
  refine j_sld hX hSX (by omega) (by omega) hn dL_law_424 (fun z11 he13 hz12 => ?_)
  refine j_aload_r hX dL_law_425 rfl 0 rfl ?_
  refine j_iload_n hX dL_law_426 rfl 3 rfl ?_
  refine j_iconst hX dL_law_427 ?_
  refine j_iadd hX dL_law_428 ?_
  refine j_sld hX hSX (by omega) (by omega) hn dL_law_429 (fun z14 he16 hz15 => ?_)
  have hR0 := hR _ rfl
  refine j_callVI hX lk_L_44 (c_X11_wants _ _ _ _ _ (M.1 210 40) (M.1 213 (M.1 210 40)) _ _ _ (by omega) hI (by omega) (by omega) rfl rfl) (by omega) hce rfl rfl (by omega) (by omega) (by decide +kernel : kd 210 = .inl 11) rfl rfl (Nat.le_of_ble_eq_true rfl) dL_law_430 (fun y17 M18 hz19 hp20 => ?_)
  have hE := hp20.symm
  subst hE
  refine j_pop hX dL_law_433 rfl ?_
  refine j_goto (tgt := 1288) hX dL_law_434 (by decide) ?_
  exact htail _ hI hC hR htm
set_option maxHeartbeats 2000000 in
set_option maxRecDepth 20000 in
theorem law_c7 {X : CT} {B b n ce sl : Nat} {ss : Nat → Int32} (hX : Cx X B 100 cL_law RL) (hSX : SX X B b n ss) (hn : (n : Int) ≤ 3072) {i : Int} (hi0 : 0 ≤ i) (hi1 : i + 6 ≤ (n : Int)) (hce : ce + 0 ≤ (xR X).cells ∧ sl + 0 ≤ (xR X).slots) (M : MM) (hI : Iv M) (hC : CIv M) (hR : RI M) (htm : M.1 0 11 = M.1 210 64) (htail : ∀ M', Iv M' → CIv M' → RI M' → M'.1 0 11 = M'.1 210 64 → J X B 257 ce sl 1288 [(0, .ref b), (1, rv B 0), (2, rv B 210), (3, iv i)] [] M') : J X B 257 ce sl 437 [(0, .ref b), (1, rv B 0), (2, rv B 210), (3, iv i)] [] M := by
  refine j_aload_n hX dL_law_437 rfl 1 rfl ?_
  refine j_aload_r hX dL_law_438 rfl 0 rfl ?_
  refine j_iload_n hX dL_law_439 rfl 3 rfl ?_
  refine j_iconst hX dL_law_440 ?_
  refine j_iadd hX dL_law_441 ?_
  refine j_sld hX hSX (by omega) (by omega) hn dL_law_442 (fun z1 he3 hz2 => ?_)
  have hnb := hI.at (M.1 0 8) 0 (rq_0 hC.1)
  have hVn : Vn (M.1 (M.1 0 8) 0) M := hC.2.2.2.2.2.1 _ (hI.at 26 1 ro_26_1).1 hC.2.2.2.2.1
  refine j_callVI hX lk_L_45 (c_X10_dark _ _ _ _ _ (M.1 0 8) _ _ (by omega) hI (by omega) hC.1 rfl) (by omega) hce rfl rfl (by omega) (by omega) (by decide +kernel : kd 0 = .inl 10) rfl rfl (Nat.le_of_ble_eq_true rfl) dL_law_443 (fun y4 M5 hz6 hp7 => ?_)
  have hE := hp7.symm
  subst hE
  refine j_pop hX dL_law_446 rfl ?_
  refine j_aload_n hX dL_law_447 rfl 2 rfl ?_
  refine j_aload_r hX dL_law_448 rfl 0 rfl ?_
  refine j_iload_n hX dL_law_449 rfl 3 rfl ?_
  refine j_iconst hX dL_law_450 ?_
  refine j_iadd hX dL_law_451 ?_
  refine j_sld hX hSX (by omega) (by omega) hn dL_law_452 (fun z8 he10 hz9 => ?_)
  have hR0 := hR _ rfl
  refine j_callVI hX lk_L_48 (c_X11_dark _ _ _ _ _ (M.1 210 40) _ _ (by omega) hI (by omega) rfl) (by omega) hce rfl rfl (by omega) (by omega) (by decide +kernel : kd 210 = .inl 11) rfl rfl (Nat.le_of_ble_eq_true rfl) dL_law_453 (fun y11 M12 hz13 hp14 => ?_)
  have hE := hp14.symm
  subst hE
  refine j_pop hX dL_law_456 rfl ?_
  refine j_goto (tgt := 1288) hX dL_law_457 (by decide) ?_
  exact htail _ hI hC hR htm
set_option maxHeartbeats 2000000 in
set_option maxRecDepth 20000 in
theorem law_c8 {X : CT} {B b n ce sl : Nat} {ss : Nat → Int32} (hX : Cx X B 100 cL_law RL) (hSX : SX X B b n ss) (hn : (n : Int) ≤ 3072) {i : Int} (hi0 : 0 ≤ i) (hi1 : i + 6 ≤ (n : Int)) (hce : ce + 0 ≤ (xR X).cells ∧ sl + 0 ≤ (xR X).slots) (M : MM) (hI : Iv M) (hC : CIv M) (hR : RI M) (htm : M.1 0 11 = M.1 210 64) (htail : ∀ M', Iv M' → CIv M' → RI M' → M'.1 0 11 = M'.1 210 64 → J X B 257 ce sl 1288 [(0, .ref b), (1, rv B 0), (2, rv B 210), (3, iv i)] [] M') : J X B 257 ce sl 460 [(0, .ref b), (1, rv B 0), (2, rv B 210), (3, iv i)] [] M := by
  refine j_aload_n hX dL_law_460 rfl 1 rfl ?_
  refine j_aload_r hX dL_law_461 rfl 0 rfl ?_
  refine j_iload_n hX dL_law_462 rfl 3 rfl ?_
  refine j_iconst hX dL_law_463 ?_
  refine j_iadd hX dL_law_464 ?_
  refine j_sld hX hSX (by omega) (by omega) hn dL_law_465 (fun z1 he3 hz2 => ?_)
  have hnb := hI.at (M.1 0 8) 0 (rq_0 hC.1)
  have hVn : Vn (M.1 (M.1 0 8) 0) M := hC.2.2.2.2.2.1 _ (hI.at 26 1 ro_26_1).1 hC.2.2.2.2.1
  refine j_callVI hX lk_L_49 (c_X10_curtain _ _ _ _ _ (M.1 0 8) (M.1 (M.1 0 8) 0) _ _ (by omega) hI (by omega) hC.1 rfl rfl hnb hC.2.2.2.2.2.1 hC.2.2.2.2.1) (by omega) hce rfl rfl (by omega) (by omega) (by decide +kernel : kd 0 = .inl 10) rfl rfl (Nat.le_of_ble_eq_true rfl) dL_law_466 (fun y4 M5 hz6 hp7 => ?_)
  obtain ⟨hI8, hF9, hq10, hq11⟩ := hp7
  have hq5 := hC.1
  have hu15 : ∀ a b, 210 ≤ a → M5.1 a b = M.1 a b := fun a b h => hF9 a b (by omega)
  have hC12 : CIv M5 := CI_act hC hF9 (fun a b h => by omega) hq11 hq10
  have hR13 : RI M5 := RI_c hR hu15
  have ht14 : M5.1 0 11 = M5.1 210 64 := by rw [hF9 0 11 (by omega), hu15 210 64 (by omega)]; exact htm
  refine j_pop hX dL_law_469 rfl ?_
  refine j_aload_n hX dL_law_470 rfl 2 rfl ?_
  refine j_aload_r hX dL_law_471 rfl 0 rfl ?_
  refine j_iload_n hX dL_law_472 rfl 3 rfl ?_
  refine j_iconst hX dL_law_473 ?_
  refine j_iadd hX dL_law_474 ?_
  refine j_sld hX hSX (by omega) (by omega) hn dL_law_475 (fun z16 he18 hz17 => ?_)
  have hR0 := hR13 _ rfl
  refine j_callVI hX lk_L_52 (c_X11_curtain _ _ _ _ _ (M5.1 210 40) (M5.1 213 (M5.1 210 40)) _ _ (by omega) hI8 (by omega) rfl rfl hR0.2.1) (by omega) hce rfl rfl (by omega) (by omega) (by decide +kernel : kd 210 = .inl 11) rfl rfl (Nat.le_of_ble_eq_true rfl) dL_law_476 (fun y19 M20 hz21 hp22 => ?_)
  obtain ⟨hI23, hF24, hq25⟩ := hp22
  have hu29 : ∀ a b, a < 210 → M20.1 a b = M5.1 a b := fun a b h => hF24 a b (by omega)
  have hC26 : CIv M20 := CI_c hC12 hI8 hu29
  have hR27 : RI M20 := RI_r hR13 hF24 (fun a b h => by omega) hq25
  have ht28 : M20.1 0 11 = M20.1 210 64 := by rw [hu29 0 11 (by omega), hF24 210 64 (by omega)]; exact ht14
  refine j_pop hX dL_law_479 rfl ?_
  refine j_goto (tgt := 1288) hX dL_law_480 (by decide) ?_
  exact htail _ hI23 hC26 hR27 ht28
set_option maxHeartbeats 2000000 in
set_option maxRecDepth 20000 in
theorem law_c9 {X : CT} {B b n ce sl : Nat} {ss : Nat → Int32} (hX : Cx X B 100 cL_law RL) (hSX : SX X B b n ss) (hn : (n : Int) ≤ 3072) {i : Int} (hi0 : 0 ≤ i) (hi1 : i + 6 ≤ (n : Int)) (hce : ce + 0 ≤ (xR X).cells ∧ sl + 0 ≤ (xR X).slots) (M : MM) (hI : Iv M) (hC : CIv M) (hR : RI M) (htm : M.1 0 11 = M.1 210 64) (htail : ∀ M', Iv M' → CIv M' → RI M' → M'.1 0 11 = M'.1 210 64 → J X B 257 ce sl 1288 [(0, .ref b), (1, rv B 0), (2, rv B 210), (3, iv i)] [] M') : J X B 257 ce sl 483 [(0, .ref b), (1, rv B 0), (2, rv B 210), (3, iv i)] [] M := by
  refine j_aload_n hX dL_law_483 rfl 1 rfl ?_
  refine j_aload_r hX dL_law_484 rfl 0 rfl ?_
  refine j_iload_n hX dL_law_485 rfl 3 rfl ?_
  refine j_iconst hX dL_law_486 ?_
  refine j_iadd hX dL_law_487 ?_
  refine j_sld hX hSX (by omega) (by omega) hn dL_law_488 (fun z1 he3 hz2 => ?_)
  refine j_aload_r hX dL_law_489 rfl 0 rfl ?_
  refine j_iload_n hX dL_law_490 rfl 3 rfl ?_
  refine j_iconst hX dL_law_491 ?_
  refine j_iadd hX dL_law_492 ?_
  refine j_sld hX hSX (by omega) (by omega) hn dL_law_493 (fun z4 he6 hz5 => ?_)
  have hnb := hI.at (M.1 0 8) 0 (rq_0 hC.1)
  have hVn : Vn (M.1 (M.1 0 8) 0) M := hC.2.2.2.2.2.1 _ (hI.at 26 1 ro_26_1).1 hC.2.2.2.2.1
  refine j_callVI hX lk_L_53 (c_X10_swap _ _ _ _ _ (M.1 0 8) (M.1 (M.1 0 8) 0) _ _ _ (by omega) hI (by omega) (by omega) hC.1 rfl rfl hnb hC.2.2.2.2.2.1 hC.2.2.2.2.1) (by omega) hce rfl rfl (by omega) (by omega) (by decide +kernel : kd 0 = .inl 10) rfl rfl (Nat.le_of_ble_eq_true rfl) dL_law_494 (fun y7 M8 hz9 hp10 => ?_)
  obtain ⟨hI11, hF12, hq13, hq14⟩ := hp10
  have hq5 := hC.1
  have hu18 : ∀ a b, 210 ≤ a → M8.1 a b = M.1 a b := fun a b h => hF12 a b (by omega)
  have hC15 : CIv M8 := CI_act hC hF12 (fun a b h => by omega) hq14 hq13
  have hR16 : RI M8 := RI_c hR hu18
  have ht17 : M8.1 0 11 = M8.1 210 64 := by rw [hF12 0 11 (by omega), hu18 210 64 (by omega)]; exact htm
  refine j_pop hX dL_law_497 rfl ?_
  refine j_aload_n hX dL_law_498 rfl 2 rfl ?_
  refine j_aload_r hX dL_law_499 rfl 0 rfl ?_
  refine j_iload_n hX dL_law_500 rfl 3 rfl ?_
  refine j_iconst hX dL_law_501 ?_
  refine j_iadd hX dL_law_502 ?_
  refine j_sld hX hSX (by omega) (by omega) hn dL_law_503 (fun z19 he21 hz20 => ?_)
  refine j_aload_r hX dL_law_504 rfl 0 rfl ?_
  refine j_iload_n hX dL_law_505 rfl 3 rfl ?_
  refine j_iconst hX dL_law_506 ?_
  refine j_iadd hX dL_law_507 ?_
  refine j_sld hX hSX (by omega) (by omega) hn dL_law_508 (fun z22 he24 hz23 => ?_)
  have hR0 := hR16 _ rfl
  refine j_callVI hX lk_L_56 (c_X11_swap _ _ _ _ _ (M8.1 210 40) (M8.1 213 (M8.1 210 40)) _ _ _ (by omega) hI11 (by omega) (by omega) rfl rfl hR0.2.1) (by omega) hce rfl rfl (by omega) (by omega) (by decide +kernel : kd 210 = .inl 11) rfl rfl (Nat.le_of_ble_eq_true rfl) dL_law_509 (fun y25 M26 hz27 hp28 => ?_)
  obtain ⟨hI29, hF30, hq31⟩ := hp28
  have hu35 : ∀ a b, a < 210 → M26.1 a b = M8.1 a b := fun a b h => hF30 a b (by omega)
  have hC32 : CIv M26 := CI_c hC15 hI11 hu35
  have hR33 : RI M26 := RI_r hR16 hF30 (fun a b h => by omega) hq31
  have ht34 : M26.1 0 11 = M26.1 210 64 := by rw [hu35 0 11 (by omega), hF30 210 64 (by omega)]; exact ht17
  refine j_pop hX dL_law_512 rfl ?_
  refine j_goto (tgt := 1288) hX dL_law_513 (by decide) ?_
  exact htail _ hI29 hC32 hR33 ht34
set_option maxHeartbeats 2000000 in
set_option maxRecDepth 20000 in
theorem law_c10 {X : CT} {B b n ce sl : Nat} {ss : Nat → Int32} (hX : Cx X B 100 cL_law RL) (hSX : SX X B b n ss) (hn : (n : Int) ≤ 3072) {i : Int} (hi0 : 0 ≤ i) (hi1 : i + 6 ≤ (n : Int)) (hce : ce + 0 ≤ (xR X).cells ∧ sl + 0 ≤ (xR X).slots) (M : MM) (hI : Iv M) (hC : CIv M) (hR : RI M) (htm : M.1 0 11 = M.1 210 64) (htail : ∀ M', Iv M' → CIv M' → RI M' → M'.1 0 11 = M'.1 210 64 → J X B 257 ce sl 1288 [(0, .ref b), (1, rv B 0), (2, rv B 210), (3, iv i)] [] M') : J X B 257 ce sl 516 [(0, .ref b), (1, rv B 0), (2, rv B 210), (3, iv i)] [] M := by
  refine j_aload_n hX dL_law_516 rfl 1 rfl ?_
  have hnb := hI.at (M.1 0 8) 0 (rq_0 hC.1)
  have hVn : Vn (M.1 (M.1 0 8) 0) M := hC.2.2.2.2.2.1 _ (hI.at 26 1 ro_26_1).1 hC.2.2.2.2.1
  refine j_callVI hX lk_L_57 (c_X10_cast _ _ _ _ _ (M.1 0 8) (M.1 (M.1 0 8) 0) _ (by omega) hI hC.1 rfl rfl hnb hC.2.2.2.2.2.1 hC.2.2.2.2.1) (by omega) hce rfl rfl (by omega) (by omega) (by decide +kernel : kd 0 = .inl 10) rfl rfl (Nat.le_of_ble_eq_true rfl) dL_law_517 (fun y1 M2 hz3 hp4 => ?_)
  obtain ⟨hI5, hF6, hq7, hq8⟩ := hp4
  have hq5 := hC.1
  have hu12 : ∀ a b, 210 ≤ a → M2.1 a b = M.1 a b := fun a b h => hF6 a b (by omega)
  have hC9 : CIv M2 := CI_act hC hF6 (fun a b h => by omega) hq8 hq7
  have hR10 : RI M2 := RI_c hR hu12
  have ht11 : M2.1 0 11 = M2.1 210 64 := by rw [hF6 0 11 (by omega), hu12 210 64 (by omega)]; exact htm
  refine j_pop hX dL_law_520 rfl ?_
  refine j_aload_n hX dL_law_521 rfl 2 rfl ?_
  have hR0 := hR10 _ rfl
  refine j_callVI hX lk_L_60 (c_X11_cast _ _ _ _ _ (M2.1 210 40) (M2.1 213 (M2.1 210 40)) _ (by omega) hI5 rfl rfl hR0.2.1) (by omega) hce rfl rfl (by omega) (by omega) (by decide +kernel : kd 210 = .inl 11) rfl rfl (Nat.le_of_ble_eq_true rfl) dL_law_522 (fun y13 M14 hz15 hp16 => ?_)
  obtain ⟨hI17, hF18, hq19⟩ := hp16
  have hu23 : ∀ a b, a < 210 → M14.1 a b = M2.1 a b := fun a b h => hF18 a b (by omega)
  have hC20 : CIv M14 := CI_c hC9 hI5 hu23
  have hR21 : RI M14 := RI_r hR10 hF18 (fun a b h => by omega) hq19
  have ht22 : M14.1 0 11 = M14.1 210 64 := by rw [hu23 0 11 (by omega), hF18 210 64 (by omega)]; exact ht11
  refine j_pop hX dL_law_525 rfl ?_
  refine j_goto (tgt := 1288) hX dL_law_526 (by decide) ?_
  exact htail _ hI17 hC20 hR21 ht22
set_option maxHeartbeats 2000000 in
set_option maxRecDepth 20000 in
theorem law_c11 {X : CT} {B b n ce sl : Nat} {ss : Nat → Int32} (hX : Cx X B 100 cL_law RL) (hSX : SX X B b n ss) (hn : (n : Int) ≤ 3072) {i : Int} (hi0 : 0 ≤ i) (hi1 : i + 6 ≤ (n : Int)) (hce : ce + 0 ≤ (xR X).cells ∧ sl + 0 ≤ (xR X).slots) (M : MM) (hI : Iv M) (hC : CIv M) (hR : RI M) (htm : M.1 0 11 = M.1 210 64) (htail : ∀ M', Iv M' → CIv M' → RI M' → M'.1 0 11 = M'.1 210 64 → J X B 257 ce sl 1288 [(0, .ref b), (1, rv B 0), (2, rv B 210), (3, iv i)] [] M') : J X B 257 ce sl 529 [(0, .ref b), (1, rv B 0), (2, rv B 210), (3, iv i)] [] M := by
  refine j_aload_n hX dL_law_529 rfl 1 rfl ?_
  have hnb := hI.at (M.1 0 8) 0 (rq_0 hC.1)
  have hVn : Vn (M.1 (M.1 0 8) 0) M := hC.2.2.2.2.2.1 _ (hI.at 26 1 ro_26_1).1 hC.2.2.2.2.1
  refine j_callVI hX lk_L_61 (c_X10_hour _ _ _ _ _ (M.1 0 8) (M.1 (M.1 0 8) 0) _ (by omega) hI hC.1 rfl rfl hnb hC.2.2.2.2.2.1 hC.2.2.2.2.1) (by omega) hce rfl rfl (by omega) (by omega) (by decide +kernel : kd 0 = .inl 10) rfl rfl (Nat.le_of_ble_eq_true rfl) dL_law_530 (fun y1 M2 hz3 hp4 => ?_)
  obtain ⟨hI5, hF6, hq7, hq8⟩ := hp4
  have hq5 := hC.1
  have hu12 : ∀ a b, 210 ≤ a → M2.1 a b = M.1 a b := fun a b h => hF6 a b (by omega)
  have hC9 : CIv M2 := CI_act hC hF6 (fun a b h => by omega) hq8 hq7
  have hR10 : RI M2 := RI_c hR hu12
  have ht11 : M2.1 0 11 = M2.1 210 64 := by rw [hF6 0 11 (by omega), hu12 210 64 (by omega)]; exact htm
  refine j_pop hX dL_law_533 rfl ?_
  refine j_aload_n hX dL_law_534 rfl 2 rfl ?_
  have hR0 := hR10 _ rfl
  refine j_callVI hX lk_L_64 (c_X11_hour _ _ _ _ _ (M2.1 210 40) (M2.1 213 (M2.1 210 40)) _ (by omega) hI5 rfl rfl hR0.2.1) (by omega) hce rfl rfl (by omega) (by omega) (by decide +kernel : kd 210 = .inl 11) rfl rfl (Nat.le_of_ble_eq_true rfl) dL_law_535 (fun y13 M14 hz15 hp16 => ?_)
  obtain ⟨hI17, hF18, hq19⟩ := hp16
  have hu23 : ∀ a b, a < 210 → M14.1 a b = M2.1 a b := fun a b h => hF18 a b (by omega)
  have hC20 : CIv M14 := CI_c hC9 hI5 hu23
  have hR21 : RI M14 := RI_r hR10 hF18 (fun a b h => by omega) hq19
  have ht22 : M14.1 0 11 = M14.1 210 64 := by rw [hu23 0 11 (by omega), hF18 210 64 (by omega)]; exact ht11
  refine j_pop hX dL_law_538 rfl ?_
  refine j_goto (tgt := 1288) hX dL_law_539 (by decide) ?_
  exact htail _ hI17 hC20 hR21 ht22
set_option maxHeartbeats 2000000 in
set_option maxRecDepth 20000 in
theorem law_c12 {X : CT} {B b n ce sl : Nat} {ss : Nat → Int32} (hX : Cx X B 100 cL_law RL) (hSX : SX X B b n ss) (hn : (n : Int) ≤ 3072) {i : Int} (hi0 : 0 ≤ i) (hi1 : i + 6 ≤ (n : Int)) (hce : ce + 0 ≤ (xR X).cells ∧ sl + 0 ≤ (xR X).slots) (M : MM) (hI : Iv M) (hC : CIv M) (hR : RI M) (htm : M.1 0 11 = M.1 210 64) (htail : ∀ M', Iv M' → CIv M' → RI M' → M'.1 0 11 = M'.1 210 64 → J X B 257 ce sl 1288 [(0, .ref b), (1, rv B 0), (2, rv B 210), (3, iv i)] [] M') : J X B 257 ce sl 542 [(0, .ref b), (1, rv B 0), (2, rv B 210), (3, iv i)] [] M := by
  refine j_aload_n hX dL_law_542 rfl 1 rfl ?_
  have hnb := hI.at (M.1 0 8) 0 (rq_0 hC.1)
  have hVn : Vn (M.1 (M.1 0 8) 0) M := hC.2.2.2.2.2.1 _ (hI.at 26 1 ro_26_1).1 hC.2.2.2.2.1
  refine j_callVI hX lk_L_65 (c_X10_undo _ _ _ _ _ _ (by omega) hI hC.2.2.2.2.1) (by omega) hce rfl rfl (by omega) (by omega) (by decide +kernel : kd 0 = .inl 10) rfl rfl (Nat.le_of_ble_eq_true rfl) dL_law_543 (fun y1 M2 hz3 hp4 => ?_)
  obtain ⟨hI5, hF6, hq7, hq8⟩ := hp4
  have hq5 := hC.1
  have hu12 : ∀ a b, 210 ≤ a → M2.1 a b = M.1 a b := fun a b h => hF6 a b (by omega)
  have hC9 : CIv M2 := CI_un hC hI hF6 (fun a b h => by omega) hq8
  have hR10 : RI M2 := RI_c hR hu12
  have ht11 : M2.1 0 11 = M2.1 210 64 := by rw [hF6 0 11 (by omega), hu12 210 64 (by omega)]; exact htm
  refine j_pop hX dL_law_546 rfl ?_
  refine j_aload_n hX dL_law_547 rfl 2 rfl ?_
  have hR0 := hR10 _ rfl
  refine j_callVI hX lk_L_69 (c_X11_undo _ _ _ _ _ (M2.1 210 40) (M2.1 213 (M2.1 210 40)) _ (by omega) hI5 rfl rfl hR0.2.1) (by omega) hce rfl rfl (by omega) (by omega) (by decide +kernel : kd 210 = .inl 11) rfl rfl (Nat.le_of_ble_eq_true rfl) dL_law_548 (fun y13 M14 hz15 hp16 => ?_)
  obtain ⟨hI17, hF18, hq19, hq20⟩ := hp16
  have hu24 : ∀ a b, a < 210 → M14.1 a b = M2.1 a b := fun a b h => hF18 a b (by omega)
  have hC21 : CIv M14 := CI_c hC9 hI5 hu24
  have hR22 : RI M14 := RI_r hR10 hF18 (fun a b h => by omega) hq20
  have ht23 : M14.1 0 11 = M14.1 210 64 := by rw [hu24 0 11 (by omega), hF18 210 64 (by omega)]; exact ht11
  refine j_pop hX dL_law_551 rfl ?_
  refine j_goto (tgt := 1288) hX dL_law_552 (by decide) ?_
  exact htail _ hI17 hC21 hR22 ht23
set_option maxHeartbeats 2000000 in
set_option maxRecDepth 20000 in
theorem law_c13 {X : CT} {B b n ce sl : Nat} {ss : Nat → Int32} (hX : Cx X B 100 cL_law RL) (hSX : SX X B b n ss) (hn : (n : Int) ≤ 3072) {i : Int} (hi0 : 0 ≤ i) (hi1 : i + 6 ≤ (n : Int)) (hce : ce + 0 ≤ (xR X).cells ∧ sl + 0 ≤ (xR X).slots) (M : MM) (hI : Iv M) (hC : CIv M) (hR : RI M) (htm : M.1 0 11 = M.1 210 64) (htail : ∀ M', Iv M' → CIv M' → RI M' → M'.1 0 11 = M'.1 210 64 → J X B 257 ce sl 1288 [(0, .ref b), (1, rv B 0), (2, rv B 210), (3, iv i)] [] M') : J X B 257 ce sl 555 [(0, .ref b), (1, rv B 0), (2, rv B 210), (3, iv i)] [] M := by
  refine j_aload_n hX dL_law_555 rfl 1 rfl ?_
  have hnb := hI.at (M.1 0 8) 0 (rq_0 hC.1)
  have hVn : Vn (M.1 (M.1 0 8) 0) M := hC.2.2.2.2.2.1 _ (hI.at 26 1 ro_26_1).1 hC.2.2.2.2.1
  refine j_callVI hX lk_L_70 (c_X10_redo _ _ _ _ _ _ (by omega) hI hC.2.2.2.2.1) (by omega) hce rfl rfl (by omega) (by omega) (by decide +kernel : kd 0 = .inl 10) rfl rfl (Nat.le_of_ble_eq_true rfl) dL_law_556 (fun y1 M2 hz3 hp4 => ?_)
  obtain ⟨hI5, hF6, hq7, hq8⟩ := hp4
  have hq5 := hC.1
  have hu12 : ∀ a b, 210 ≤ a → M2.1 a b = M.1 a b := fun a b h => hF6 a b (by omega)
  have hC9 : CIv M2 := CI_un hC hI hF6 (fun a b h => by omega) hq8
  have hR10 : RI M2 := RI_c hR hu12
  have ht11 : M2.1 0 11 = M2.1 210 64 := by rw [hF6 0 11 (by omega), hu12 210 64 (by omega)]; exact htm
  refine j_pop hX dL_law_559 rfl ?_
  refine j_aload_n hX dL_law_560 rfl 2 rfl ?_
  have hR0 := hR10 _ rfl
  refine j_callVI hX lk_L_73 (c_X11_redo _ _ _ _ _ (M2.1 210 40) (M2.1 213 (M2.1 210 40)) _ (by omega) hI5 rfl rfl hR0.2.1) (by omega) hce rfl rfl (by omega) (by omega) (by decide +kernel : kd 210 = .inl 11) rfl rfl (Nat.le_of_ble_eq_true rfl) dL_law_561 (fun y13 M14 hz15 hp16 => ?_)
  obtain ⟨hI17, hF18, hq19, hq20⟩ := hp16
  have hu24 : ∀ a b, a < 210 → M14.1 a b = M2.1 a b := fun a b h => hF18 a b (by omega)
  have hC21 : CIv M14 := CI_c hC9 hI5 hu24
  have hR22 : RI M14 := RI_r hR10 hF18 (fun a b h => by omega) hq20
  have ht23 : M14.1 0 11 = M14.1 210 64 := by rw [hu24 0 11 (by omega), hF18 210 64 (by omega)]; exact ht11
  refine j_pop hX dL_law_564 rfl ?_
  refine j_goto (tgt := 1288) hX dL_law_565 (by decide) ?_
  exact htail _ hI17 hC21 hR22 ht23
set_option maxHeartbeats 2000000 in
set_option maxRecDepth 20000 in
theorem law_c14 {X : CT} {B b n ce sl : Nat} {ss : Nat → Int32} (hX : Cx X B 100 cL_law RL) (hSX : SX X B b n ss) (hn : (n : Int) ≤ 3072) {i : Int} (hi0 : 0 ≤ i) (hi1 : i + 6 ≤ (n : Int)) (hce : ce + 0 ≤ (xR X).cells ∧ sl + 0 ≤ (xR X).slots) (M : MM) (hI : Iv M) (hC : CIv M) (hR : RI M) (htm : M.1 0 11 = M.1 210 64) (htail : ∀ M', Iv M' → CIv M' → RI M' → M'.1 0 11 = M'.1 210 64 → J X B 257 ce sl 1288 [(0, .ref b), (1, rv B 0), (2, rv B 210), (3, iv i)] [] M') : J X B 257 ce sl 568 [(0, .ref b), (1, rv B 0), (2, rv B 210), (3, iv i)] [] M := by
  refine j_aload_n hX dL_law_568 rfl 1 rfl ?_
  refine j_aload_r hX dL_law_569 rfl 0 rfl ?_
  refine j_iload_n hX dL_law_570 rfl 3 rfl ?_
  refine j_iconst hX dL_law_571 ?_
  refine j_iadd hX dL_law_572 ?_
  refine j_sld hX hSX (by omega) (by omega) hn dL_law_573 (fun z1 he3 hz2 => ?_)
  refine j_aload_r hX dL_law_574 rfl 0 rfl ?_
  refine j_iload_n hX dL_law_575 rfl 3 rfl ?_
  refine j_iconst hX dL_law_576 ?_
  refine j_iadd hX dL_law_577 ?_
  refine j_sld hX hSX (by omega) (by omega) hn dL_law_578 (fun z4 he6 hz5 => ?_)
  have hnb := hI.at (M.1 0 8) 0 (rq_0 hC.1)
  have hVn : Vn (M.1 (M.1 0 8) 0) M := hC.2.2.2.2.2.1 _ (hI.at 26 1 ro_26_1).1 hC.2.2.2.2.1
  refine j_callVI hX lk_L_74 (c_X10_when _ _ _ _ _ (M.1 0 8) (M.1 (M.1 0 8) 0) _ _ _ (by omega) hI (by omega) (by omega) hC.1 rfl rfl hVn hnb) (by omega) hce rfl rfl (by omega) (by omega) (by decide +kernel : kd 0 = .inl 10) rfl rfl (Nat.le_of_ble_eq_true rfl) dL_law_579 (fun y7 M8 hz9 hp10 => ?_)
  obtain ⟨hI11, hF12⟩ := hp10
  have hq5 := hC.1
  have hu16 : ∀ a b, 210 ≤ a → M8.1 a b = M.1 a b := fun a b h => hF12 a b (by omega)
  have hC13 : CIv M8 := CI_fr hC hI hF12 (fun a b h => by omega)
  have hR14 : RI M8 := RI_c hR hu16
  have ht15 : M8.1 0 11 = M8.1 210 64 := by rw [hF12 0 11 (by omega), hu16 210 64 (by omega)]; exact htm
  refine j_pop hX dL_law_582 rfl ?_
  refine j_aload_n hX dL_law_583 rfl 2 rfl ?_
  refine j_aload_r hX dL_law_584 rfl 0 rfl ?_
  refine j_iload_n hX dL_law_585 rfl 3 rfl ?_
  refine j_iconst hX dL_law_586 ?_
  refine j_iadd hX dL_law_587 ?_
  refine j_sld hX hSX (by omega) (by omega) hn dL_law_588 (fun z17 he19 hz18 => ?_)
  refine j_aload_r hX dL_law_589 rfl 0 rfl ?_
  refine j_iload_n hX dL_law_590 rfl 3 rfl ?_
  refine j_iconst hX dL_law_591 ?_
  refine j_iadd hX dL_law_592 ?_
  refine j_sld hX hSX (by omega) (by omega) hn dL_law_593 (fun z20 he22 hz21 => ?_)
  have hR0 := hR14 _ rfl
  refine j_callVI hX lk_L_77 (c_X11_when _ _ _ _ _ (M8.1 210 40) (M8.1 213 (M8.1 210 40)) _ _ _ (by omega) hI11 (by omega) (by omega) rfl rfl hR0.2.1.1) (by omega) hce rfl rfl (by omega) (by omega) (by decide +kernel : kd 210 = .inl 11) rfl rfl (Nat.le_of_ble_eq_true rfl) dL_law_594 (fun y23 M24 hz25 hp26 => ?_)
  obtain ⟨hI27, hF28, hq29⟩ := hp26
  have hu33 : ∀ a b, a < 210 → M24.1 a b = M8.1 a b := fun a b h => hF28 a b (by omega)
  have hC30 : CIv M24 := CI_c hC13 hI11 hu33
  have hR31 : RI M24 := RI_l hR14 hF28 (fun a b h => by omega) hq29
  have ht32 : M24.1 0 11 = M24.1 210 64 := by rw [hu33 0 11 (by omega), hF28 210 64 (by omega)]; exact ht15
  refine j_pop hX dL_law_597 rfl ?_
  refine j_goto (tgt := 1288) hX dL_law_598 (by decide) ?_
  exact htail _ hI27 hC30 hR31 ht32
set_option maxHeartbeats 2000000 in
set_option maxRecDepth 20000 in
theorem law_c15 {X : CT} {B b n ce sl : Nat} {ss : Nat → Int32} (hX : Cx X B 100 cL_law RL) (hSX : SX X B b n ss) (hn : (n : Int) ≤ 3072) {i : Int} (hi0 : 0 ≤ i) (hi1 : i + 6 ≤ (n : Int)) (hce : ce + 0 ≤ (xR X).cells ∧ sl + 0 ≤ (xR X).slots) (M : MM) (hI : Iv M) (hC : CIv M) (hR : RI M) (htm : M.1 0 11 = M.1 210 64) (htail : ∀ M', Iv M' → CIv M' → RI M' → M'.1 0 11 = M'.1 210 64 → J X B 257 ce sl 1288 [(0, .ref b), (1, rv B 0), (2, rv B 210), (3, iv i)] [] M') : J X B 257 ce sl 601 [(0, .ref b), (1, rv B 0), (2, rv B 210), (3, iv i)] [] M := by
  refine j_aload_n hX dL_law_601 rfl 1 rfl ?_
  refine j_aload_r hX dL_law_602 rfl 0 rfl ?_
  refine j_iload_n hX dL_law_603 rfl 3 rfl ?_
  refine j_iconst hX dL_law_604 ?_
  refine j_iadd hX dL_law_605 ?_
  refine j_sld hX hSX (by omega) (by omega) hn dL_law_606 (fun z1 he3 hz2 => ?_)
  refine j_aload_r hX dL_law_607 rfl 0 rfl ?_
  refine j_iload_n hX dL_law_608 rfl 3 rfl ?_
  refine j_iconst hX dL_law_609 ?_
  refine j_iadd hX dL_law_610 ?_
  refine j_sld hX hSX (by omega) (by omega) hn dL_law_611 (fun z4 he6 hz5 => ?_)
  have hnb := hI.at (M.1 0 8) 0 (rq_0 hC.1)
  have hVn : Vn (M.1 (M.1 0 8) 0) M := hC.2.2.2.2.2.1 _ (hI.at 26 1 ro_26_1).1 hC.2.2.2.2.1
  refine j_callVI hX lk_L_78 (c_X10_will _ _ _ _ _ (M.1 0 8) (M.1 (M.1 0 8) 0) _ _ _ (by omega) hI (by omega) (by omega) hC.1 rfl rfl hVn hnb) (by omega) hce rfl rfl (by omega) (by omega) (by decide +kernel : kd 0 = .inl 10) rfl rfl (Nat.le_of_ble_eq_true rfl) dL_law_612 (fun y7 M8 hz9 hp10 => ?_)
  obtain ⟨hI11, hF12⟩ := hp10
  have hq5 := hC.1
  have hu16 : ∀ a b, 210 ≤ a → M8.1 a b = M.1 a b := fun a b h => hF12 a b (by omega)
  have hC13 : CIv M8 := CI_fr hC hI hF12 (fun a b h => by omega)
  have hR14 : RI M8 := RI_c hR hu16
  have ht15 : M8.1 0 11 = M8.1 210 64 := by rw [hF12 0 11 (by omega), hu16 210 64 (by omega)]; exact htm
  refine j_pop hX dL_law_615 rfl ?_
  refine j_aload_n hX dL_law_616 rfl 2 rfl ?_
  refine j_aload_r hX dL_law_617 rfl 0 rfl ?_
  refine j_iload_n hX dL_law_618 rfl 3 rfl ?_
  refine j_iconst hX dL_law_619 ?_
  refine j_iadd hX dL_law_620 ?_
  refine j_sld hX hSX (by omega) (by omega) hn dL_law_621 (fun z17 he19 hz18 => ?_)
  refine j_aload_r hX dL_law_622 rfl 0 rfl ?_
  refine j_iload_n hX dL_law_623 rfl 3 rfl ?_
  refine j_iconst hX dL_law_624 ?_
  refine j_iadd hX dL_law_625 ?_
  refine j_sld hX hSX (by omega) (by omega) hn dL_law_626 (fun z20 he22 hz21 => ?_)
  have hR0 := hR14 _ rfl
  refine j_callVI hX lk_L_81 (c_X11_will _ _ _ _ _ (M8.1 210 40) (M8.1 213 (M8.1 210 40)) _ _ _ (by omega) hI11 (by omega) (by omega) rfl rfl hR0.2.1.1) (by omega) hce rfl rfl (by omega) (by omega) (by decide +kernel : kd 210 = .inl 11) rfl rfl (Nat.le_of_ble_eq_true rfl) dL_law_627 (fun y23 M24 hz25 hp26 => ?_)
  obtain ⟨hI27, hF28, hq29⟩ := hp26
  have hu33 : ∀ a b, a < 210 → M24.1 a b = M8.1 a b := fun a b h => hF28 a b (by omega)
  have hC30 : CIv M24 := CI_c hC13 hI11 hu33
  have hR31 : RI M24 := RI_l hR14 hF28 (fun a b h => by omega) hq29
  have ht32 : M24.1 0 11 = M24.1 210 64 := by rw [hu33 0 11 (by omega), hF28 210 64 (by omega)]; exact ht15
  refine j_pop hX dL_law_630 rfl ?_
  refine j_goto (tgt := 1288) hX dL_law_631 (by decide) ?_
  exact htail _ hI27 hC30 hR31 ht32
set_option maxHeartbeats 2000000 in
set_option maxRecDepth 20000 in
theorem law_c16 {X : CT} {B b n ce sl : Nat} {ss : Nat → Int32} (hX : Cx X B 100 cL_law RL) (hSX : SX X B b n ss) (hn : (n : Int) ≤ 3072) {i : Int} (hi0 : 0 ≤ i) (hi1 : i + 6 ≤ (n : Int)) (hce : ce + 0 ≤ (xR X).cells ∧ sl + 0 ≤ (xR X).slots) (M : MM) (hI : Iv M) (hC : CIv M) (hR : RI M) (htm : M.1 0 11 = M.1 210 64) (htail : ∀ M', Iv M' → CIv M' → RI M' → M'.1 0 11 = M'.1 210 64 → J X B 257 ce sl 1288 [(0, .ref b), (1, rv B 0), (2, rv B 210), (3, iv i)] [] M') : J X B 257 ce sl 634 [(0, .ref b), (1, rv B 0), (2, rv B 210), (3, iv i)] [] M := by
  refine j_aload_n hX dL_law_634 rfl 1 rfl ?_
  refine j_aload_r hX dL_law_635 rfl 0 rfl ?_
  refine j_iload_n hX dL_law_636 rfl 3 rfl ?_
  refine j_iconst hX dL_law_637 ?_
  refine j_iadd hX dL_law_638 ?_
  refine j_sld hX hSX (by omega) (by omega) hn dL_law_639 (fun z1 he3 hz2 => ?_)
  refine j_aload_r hX dL_law_640 rfl 0 rfl ?_
  refine j_iload_n hX dL_law_641 rfl 3 rfl ?_
  refine j_iconst hX dL_law_642 ?_
  refine j_iadd hX dL_law_643 ?_
  refine j_sld hX hSX (by omega) (by omega) hn dL_law_644 (fun z4 he6 hz5 => ?_)
  have hnb := hI.at (M.1 0 8) 0 (rq_0 hC.1)
  have hVn : Vn (M.1 (M.1 0 8) 0) M := hC.2.2.2.2.2.1 _ (hI.at 26 1 ro_26_1).1 hC.2.2.2.2.1
  refine j_callVI hX lk_L_82 (c_X10_word _ _ _ _ _ (M.1 0 8) (M.1 (M.1 0 8) 0) _ _ _ (by omega) hI (by omega) (by omega) hC.1 rfl rfl hVn hnb) (by omega) hce rfl rfl (by omega) (by omega) (by decide +kernel : kd 0 = .inl 10) rfl rfl (Nat.le_of_ble_eq_true rfl) dL_law_645 (fun y7 M8 hz9 hp10 => ?_)
  obtain ⟨hI11, hF12⟩ := hp10
  have hq5 := hC.1
  have hu16 : ∀ a b, 210 ≤ a → M8.1 a b = M.1 a b := fun a b h => hF12 a b (by omega)
  have hC13 : CIv M8 := CI_fr hC hI hF12 (fun a b h => by omega)
  have hR14 : RI M8 := RI_c hR hu16
  have ht15 : M8.1 0 11 = M8.1 210 64 := by rw [hF12 0 11 (by omega), hu16 210 64 (by omega)]; exact htm
  refine j_pop hX dL_law_648 rfl ?_
  refine j_aload_n hX dL_law_649 rfl 2 rfl ?_
  refine j_aload_r hX dL_law_650 rfl 0 rfl ?_
  refine j_iload_n hX dL_law_651 rfl 3 rfl ?_
  refine j_iconst hX dL_law_652 ?_
  refine j_iadd hX dL_law_653 ?_
  refine j_sld hX hSX (by omega) (by omega) hn dL_law_654 (fun z17 he19 hz18 => ?_)
  refine j_aload_r hX dL_law_655 rfl 0 rfl ?_
  refine j_iload_n hX dL_law_656 rfl 3 rfl ?_
  refine j_iconst hX dL_law_657 ?_
  refine j_iadd hX dL_law_658 ?_
  refine j_sld hX hSX (by omega) (by omega) hn dL_law_659 (fun z20 he22 hz21 => ?_)
  have hR0 := hR14 _ rfl
  refine j_callVI hX lk_L_85 (c_X11_word _ _ _ _ _ (M8.1 210 40) (M8.1 213 (M8.1 210 40)) _ _ _ (by omega) hI11 (by omega) (by omega) rfl rfl hR0.2.1.1) (by omega) hce rfl rfl (by omega) (by omega) (by decide +kernel : kd 210 = .inl 11) rfl rfl (Nat.le_of_ble_eq_true rfl) dL_law_660 (fun y23 M24 hz25 hp26 => ?_)
  obtain ⟨hI27, hF28⟩ := hp26
  have hu32 : ∀ a b, a < 210 → M24.1 a b = M8.1 a b := fun a b h => hF28 a b (by omega)
  have hC29 : CIv M24 := CI_c hC13 hI11 hu32
  have hR30 : RI M24 := RI_f hR14 hF28 (fun a b h => by omega)
  have ht31 : M24.1 0 11 = M24.1 210 64 := by rw [hu32 0 11 (by omega), hF28 210 64 (by omega)]; exact ht15
  refine j_pop hX dL_law_663 rfl ?_
  refine j_goto (tgt := 1288) hX dL_law_664 (by decide) ?_
  exact htail _ hI27 hC29 hR30 ht31
set_option maxHeartbeats 2000000 in
set_option maxRecDepth 20000 in
theorem law_c17 {X : CT} {B b n ce sl : Nat} {ss : Nat → Int32} (hX : Cx X B 100 cL_law RL) (hSX : SX X B b n ss) (hn : (n : Int) ≤ 3072) {i : Int} (hi0 : 0 ≤ i) (hi1 : i + 6 ≤ (n : Int)) (hce : ce + 0 ≤ (xR X).cells ∧ sl + 0 ≤ (xR X).slots) (M : MM) (hI : Iv M) (hC : CIv M) (hR : RI M) (htm : M.1 0 11 = M.1 210 64) (htail : ∀ M', Iv M' → CIv M' → RI M' → M'.1 0 11 = M'.1 210 64 → J X B 257 ce sl 1288 [(0, .ref b), (1, rv B 0), (2, rv B 210), (3, iv i)] [] M') : J X B 257 ce sl 667 [(0, .ref b), (1, rv B 0), (2, rv B 210), (3, iv i)] [] M := by
  refine j_aload_n hX dL_law_667 rfl 1 rfl ?_
  refine j_aload_r hX dL_law_668 rfl 0 rfl ?_
  refine j_iload_n hX dL_law_669 rfl 3 rfl ?_
  refine j_iconst hX dL_law_670 ?_
  refine j_iadd hX dL_law_671 ?_
  refine j_sld hX hSX (by omega) (by omega) hn dL_law_672 (fun z1 he3 hz2 => ?_)
  have hnb := hI.at (M.1 0 8) 0 (rq_0 hC.1)
  have hVn : Vn (M.1 (M.1 0 8) 0) M := hC.2.2.2.2.2.1 _ (hI.at 26 1 ro_26_1).1 hC.2.2.2.2.1
  refine j_callVI hX lk_L_86 (c_X10_reach _ _ _ _ _ (M.1 0 8) (M.1 (M.1 0 8) 0) _ _ (by omega) hI (by omega) hC.1 rfl rfl hVn hnb) (by omega) hce rfl rfl (by omega) (by omega) (by decide +kernel : kd 0 = .inl 10) rfl rfl (Nat.le_of_ble_eq_true rfl) dL_law_673 (fun y4 M5 hz6 hp7 => ?_)
  have hE := hp7.symm
  subst hE
  refine j_pop hX dL_law_676 rfl ?_
  refine j_aload_n hX dL_law_677 rfl 2 rfl ?_
  refine j_aload_r hX dL_law_678 rfl 0 rfl ?_
  refine j_iload_n hX dL_law_679 rfl 3 rfl ?_
  refine j_iconst hX dL_law_680 ?_
  refine j_iadd hX dL_law_681 ?_
  refine j_sld hX hSX (by omega) (by omega) hn dL_law_682 (fun z8 he10 hz9 => ?_)
  have hR0 := hR _ rfl
  refine j_callVI hX lk_L_89 (c_X11_reach _ _ _ _ _ (M.1 210 40) (M.1 213 (M.1 210 40)) _ _ (by omega) hI (by omega) rfl rfl hR0.2.1.1) (by omega) hce rfl rfl (by omega) (by omega) (by decide +kernel : kd 210 = .inl 11) rfl rfl (Nat.le_of_ble_eq_true rfl) dL_law_683 (fun y11 M12 hz13 hp14 => ?_)
  have hE := hp14.symm
  subst hE
  refine j_pop hX dL_law_686 rfl ?_
  refine j_goto (tgt := 1288) hX dL_law_687 (by decide) ?_
  exact htail _ hI hC hR htm
set_option maxHeartbeats 2000000 in
set_option maxRecDepth 20000 in
theorem law_c18 {X : CT} {B b n ce sl : Nat} {ss : Nat → Int32} (hX : Cx X B 100 cL_law RL) (hSX : SX X B b n ss) (hn : (n : Int) ≤ 3072) {i : Int} (hi0 : 0 ≤ i) (hi1 : i + 6 ≤ (n : Int)) (hce : ce + 0 ≤ (xR X).cells ∧ sl + 0 ≤ (xR X).slots) (M : MM) (hI : Iv M) (hC : CIv M) (hR : RI M) (htm : M.1 0 11 = M.1 210 64) (htail : ∀ M', Iv M' → CIv M' → RI M' → M'.1 0 11 = M'.1 210 64 → J X B 257 ce sl 1288 [(0, .ref b), (1, rv B 0), (2, rv B 210), (3, iv i)] [] M') : J X B 257 ce sl 690 [(0, .ref b), (1, rv B 0), (2, rv B 210), (3, iv i)] [] M := by
  refine j_aload_n hX dL_law_690 rfl 1 rfl ?_
  have hnb := hI.at (M.1 0 8) 0 (rq_0 hC.1)
  have hVn : Vn (M.1 (M.1 0 8) 0) M := hC.2.2.2.2.2.1 _ (hI.at 26 1 ro_26_1).1 hC.2.2.2.2.1
  refine j_callVI hX lk_L_90 (c_X10_rents _ _ _ _ _ (M.1 0 8) (M.1 (M.1 0 8) 0) _ (by omega) hI hC.1 rfl rfl hVn hnb) (by omega) hce rfl rfl (by omega) (by omega) (by decide +kernel : kd 0 = .inl 10) rfl rfl (Nat.le_of_ble_eq_true rfl) dL_law_691 (fun y1 M2 hz3 hp4 => ?_)
  obtain ⟨hI5, hF6⟩ := hp4
  have hq5 := hC.1
  have hu10 : ∀ a b, 210 ≤ a → M2.1 a b = M.1 a b := fun a b h => hF6 a b (by omega)
  have hC7 : CIv M2 := CI_fr hC hI hF6 (fun a b h => by omega)
  have hR8 : RI M2 := RI_c hR hu10
  have ht9 : M2.1 0 11 = M2.1 210 64 := by rw [hF6 0 11 (by omega), hu10 210 64 (by omega)]; exact htm
  refine j_pop hX dL_law_694 rfl ?_
  refine j_aload_n hX dL_law_695 rfl 2 rfl ?_
  have hR0 := hR8 _ rfl
  refine j_callVI hX lk_L_93 (c_X11_rents _ _ _ _ _ (M2.1 210 40) (M2.1 213 (M2.1 210 40)) _ (by omega) hI5 rfl rfl hR0.2.2.2) (by omega) hce rfl rfl (by omega) (by omega) (by decide +kernel : kd 210 = .inl 11) rfl rfl (Nat.le_of_ble_eq_true rfl) dL_law_696 (fun y11 M12 hz13 hp14 => ?_)
  obtain ⟨hI15, hF16⟩ := hp14
  have hu20 : ∀ a b, a < 210 → M12.1 a b = M2.1 a b := fun a b h => hF16 a b (by omega)
  have hC17 : CIv M12 := CI_c hC7 hI5 hu20
  have hR18 : RI M12 := RI_f hR8 hF16 (fun a b h => by omega)
  have ht19 : M12.1 0 11 = M12.1 210 64 := by rw [hu20 0 11 (by omega), hF16 210 64 (by omega)]; exact ht9
  refine j_pop hX dL_law_699 rfl ?_
  refine j_goto (tgt := 1288) hX dL_law_700 (by decide) ?_
  exact htail _ hI15 hC17 hR18 ht19
set_option maxHeartbeats 2000000 in
set_option maxRecDepth 20000 in
theorem law_c19 {X : CT} {B b n ce sl : Nat} {ss : Nat → Int32} (hX : Cx X B 100 cL_law RL) (hSX : SX X B b n ss) (hn : (n : Int) ≤ 3072) {i : Int} (hi0 : 0 ≤ i) (hi1 : i + 6 ≤ (n : Int)) (hce : ce + 0 ≤ (xR X).cells ∧ sl + 0 ≤ (xR X).slots) (M : MM) (hI : Iv M) (hC : CIv M) (hR : RI M) (htm : M.1 0 11 = M.1 210 64) (htail : ∀ M', Iv M' → CIv M' → RI M' → M'.1 0 11 = M'.1 210 64 → J X B 257 ce sl 1288 [(0, .ref b), (1, rv B 0), (2, rv B 210), (3, iv i)] [] M') : J X B 257 ce sl 703 [(0, .ref b), (1, rv B 0), (2, rv B 210), (3, iv i)] [] M := by
  refine j_aload_n hX dL_law_703 rfl 1 rfl ?_
  refine j_aload_r hX dL_law_704 rfl 0 rfl ?_
  refine j_iload_n hX dL_law_705 rfl 3 rfl ?_
  refine j_iconst hX dL_law_706 ?_
  refine j_iadd hX dL_law_707 ?_
  refine j_sld hX hSX (by omega) (by omega) hn dL_law_708 (fun z1 he3 hz2 => ?_)
  have hnb := hI.at (M.1 0 8) 0 (rq_0 hC.1)
  have hVn : Vn (M.1 (M.1 0 8) 0) M := hC.2.2.2.2.2.1 _ (hI.at 26 1 ro_26_1).1 hC.2.2.2.2.1
  refine j_callVI hX lk_L_94 (c_X10_harm _ _ _ _ _ (M.1 0 8) (M.1 (M.1 0 8) 0) _ _ (by omega) hI (by omega) hC.1 rfl rfl hnb) (by omega) hce rfl rfl (by omega) (by omega) (by decide +kernel : kd 0 = .inl 10) rfl rfl (Nat.le_of_ble_eq_true rfl) dL_law_709 (fun y4 M5 hz6 hp7 => ?_)
  have hE := hp7.symm
  subst hE
  refine j_pop hX dL_law_712 rfl ?_
  refine j_aload_n hX dL_law_713 rfl 2 rfl ?_
  refine j_aload_r hX dL_law_714 rfl 0 rfl ?_
  refine j_iload_n hX dL_law_715 rfl 3 rfl ?_
  refine j_iconst hX dL_law_716 ?_
  refine j_iadd hX dL_law_717 ?_
  refine j_sld hX hSX (by omega) (by omega) hn dL_law_718 (fun z8 he10 hz9 => ?_)
  have hR0 := hR _ rfl
  refine j_callVI hX lk_L_97 (c_X11_harm _ _ _ _ _ (M.1 210 40) (M.1 213 (M.1 210 40)) _ _ (by omega) hI (by omega) rfl rfl) (by omega) hce rfl rfl (by omega) (by omega) (by decide +kernel : kd 210 = .inl 11) rfl rfl (Nat.le_of_ble_eq_true rfl) dL_law_719 (fun y11 M12 hz13 hp14 => ?_)
  have hE := hp14.symm
  subst hE
  refine j_pop hX dL_law_722 rfl ?_
  refine j_goto (tgt := 1288) hX dL_law_723 (by decide) ?_
  exact htail _ hI hC hR htm
set_option maxHeartbeats 2000000 in
set_option maxRecDepth 20000 in
theorem law_c20 {X : CT} {B b n ce sl : Nat} {ss : Nat → Int32} (hX : Cx X B 100 cL_law RL) (hSX : SX X B b n ss) (hn : (n : Int) ≤ 3072) {i : Int} (hi0 : 0 ≤ i) (hi1 : i + 6 ≤ (n : Int)) (hce : ce + 0 ≤ (xR X).cells ∧ sl + 0 ≤ (xR X).slots) (M : MM) (hI : Iv M) (hC : CIv M) (hR : RI M) (htm : M.1 0 11 = M.1 210 64) (htail : ∀ M', Iv M' → CIv M' → RI M' → M'.1 0 11 = M'.1 210 64 → J X B 257 ce sl 1288 [(0, .ref b), (1, rv B 0), (2, rv B 210), (3, iv i)] [] M') : J X B 257 ce sl 726 [(0, .ref b), (1, rv B 0), (2, rv B 210), (3, iv i)] [] M := by
  refine j_aload_n hX dL_law_726 rfl 1 rfl ?_
  refine j_aload_r hX dL_law_727 rfl 0 rfl ?_
  refine j_iload_n hX dL_law_728 rfl 3 rfl ?_
  refine j_iconst hX dL_law_729 ?_
  refine j_iadd hX dL_law_730 ?_
  refine j_sld hX hSX (by omega) (by omega) hn dL_law_731 (fun z1 he3 hz2 => ?_)
  have hnb := hI.at (M.1 0 8) 0 (rq_0 hC.1)
  have hVn : Vn (M.1 (M.1 0 8) 0) M := hC.2.2.2.2.2.1 _ (hI.at 26 1 ro_26_1).1 hC.2.2.2.2.1
  refine j_callVI hX lk_L_98 (c_X10_deaf _ _ _ _ _ (M.1 0 8) (M.1 (M.1 0 8) 0) _ _ (by omega) hI (by omega) hC.1 rfl rfl hVn hnb) (by omega) hce rfl rfl (by omega) (by omega) (by decide +kernel : kd 0 = .inl 10) rfl rfl (Nat.le_of_ble_eq_true rfl) dL_law_732 (fun y4 M5 hz6 hp7 => ?_)
  obtain ⟨hI8, hF9⟩ := hp7
  have hq5 := hC.1
  have hu13 : ∀ a b, 210 ≤ a → M5.1 a b = M.1 a b := fun a b h => hF9 a b (by omega)
  have hC10 : CIv M5 := CI_fr hC hI hF9 (fun a b h => by omega)
  have hR11 : RI M5 := RI_c hR hu13
  have ht12 : M5.1 0 11 = M5.1 210 64 := by rw [hF9 0 11 (by omega), hu13 210 64 (by omega)]; exact htm
  refine j_pop hX dL_law_735 rfl ?_
  refine j_aload_n hX dL_law_736 rfl 2 rfl ?_
  refine j_aload_r hX dL_law_737 rfl 0 rfl ?_
  refine j_iload_n hX dL_law_738 rfl 3 rfl ?_
  refine j_iconst hX dL_law_739 ?_
  refine j_iadd hX dL_law_740 ?_
  refine j_sld hX hSX (by omega) (by omega) hn dL_law_741 (fun z14 he16 hz15 => ?_)
  have hR0 := hR11 _ rfl
  refine j_callVI hX lk_L_101 (c_X11_deaf _ _ _ _ _ (M5.1 210 40) (M5.1 213 (M5.1 210 40)) _ _ (by omega) hI8 (by omega) rfl rfl hR0.2.1.1) (by omega) hce rfl rfl (by omega) (by omega) (by decide +kernel : kd 210 = .inl 11) rfl rfl (Nat.le_of_ble_eq_true rfl) dL_law_742 (fun y17 M18 hz19 hp20 => ?_)
  obtain ⟨hI21, hF22, hq23⟩ := hp20
  have hu27 : ∀ a b, a < 210 → M18.1 a b = M5.1 a b := fun a b h => hF22 a b (by omega)
  have hC24 : CIv M18 := CI_c hC10 hI8 hu27
  have hR25 : RI M18 := RI_l hR11 hF22 (fun a b h => by omega) hq23
  have ht26 : M18.1 0 11 = M18.1 210 64 := by rw [hu27 0 11 (by omega), hF22 210 64 (by omega)]; exact ht12
  refine j_pop hX dL_law_745 rfl ?_
  refine j_goto (tgt := 1288) hX dL_law_746 (by decide) ?_
  exact htail _ hI21 hC24 hR25 ht26
