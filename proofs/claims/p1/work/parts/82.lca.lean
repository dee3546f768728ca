set_option maxHeartbeats 2000000 in
set_option maxRecDepth 20000 in
theorem law_c0 {X : CT} {B b n ce sl : Nat} {ss : Nat → Int32} (hX : Cx X B 100 cL_law RL) (hSX : SX X B b n ss) (hn : (n : Int) ≤ 3072) {i : Int} (hi0 : 0 ≤ i) (hi1 : i + 6 ≤ (n : Int)) (hce : ce + 0 ≤ (xR X).cells ∧ sl + 0 ≤ (xR X).slots) (M : MM) (hI : Iv M) (hC : CIv M) (hR : RI M) (hFC : FC M) (hFM : FM M) (htail : ∀ M', J X B 257 ce sl 1288 [(0, .ref b), (1, rv B 0), (2, rv B 210), (3, iv i)] [] M') : J X B 257 ce sl 216 [(0, .ref b), (1, rv B 0), (2, rv B 210), (3, iv i)] [] M := by
  have hn0 : M.1 (M.1 0 8) 0 = 0 := by rw [hFC.1.1]; exact hFC.2.1.1
  refine j_aload_n hX dL_law_216 rfl 1 rfl ?_
  refine j_aload_r hX dL_law_217 rfl 0 rfl ?_
  refine j_iload_n hX dL_law_218 rfl 3 rfl ?_
  refine j_iconst hX dL_law_219 ?_
  refine j_iadd hX dL_law_220 ?_
  refine j_sld hX hSX (by omega) (by omega) hn dL_law_221 (fun z1 he3 hz2 => ?_)
  refine j_aload_r hX dL_law_222 rfl 0 rfl ?_
  refine j_iload_n hX dL_law_223 rfl 3 rfl ?_
  refine j_iconst hX dL_law_224 ?_
  refine j_iadd hX dL_law_225 ?_
  refine j_sld hX hSX (by omega) (by omega) hn dL_law_226 (fun z4 he6 hz5 => ?_)
  refine j_aload_r hX dL_law_227 rfl 0 rfl ?_
  refine j_iload_n hX dL_law_228 rfl 3 rfl ?_
  refine j_iconst hX dL_law_229 ?_
  refine j_iadd hX dL_law_230 ?_
  refine j_sld hX hSX (by omega) (by omega) hn dL_law_231 (fun z7 he9 hz8 => ?_)
  refine j_aload_r hX dL_law_232 rfl 0 rfl ?_
  refine j_iload_n hX dL_law_233 rfl 3 rfl ?_
  refine j_iconst hX dL_law_234 ?_
  refine j_iadd hX dL_law_235 ?_
  refine j_sld hX hSX (by omega) (by omega) hn dL_law_236 (fun z10 he12 hz11 => ?_)
  refine j_aload_r hX dL_law_237 rfl 0 rfl ?_
  refine j_iload_n hX dL_law_238 rfl 3 rfl ?_
  refine j_iconst hX dL_law_239 ?_
  refine j_iadd hX dL_law_240 ?_
  refine j_sld hX hSX (by omega) (by omega) hn dL_law_241 (fun z13 he15 hz14 => ?_)
  have hnb := hI.at (M.1 0 8) 0 (rq_0 hC.1)
  have hVn : Vn (M.1 (M.1 0 8) 0) M := hC.2.2.2.2.2.1 _ (hI.at 26 1 ro_26_1).1 hC.2.2.2.2.1
  refine j_callVI hX lk_L_13 (cv_X10_feed _ _ _ _ _ 0 _ _ _ _ _ _ (by omega) hI (by omega) (by omega) (by omega) (by omega) (by omega) hFC.2.2.1.2.2.2 (by decide)) (by omega) hce rfl rfl (by omega) (by omega) (by decide +kernel : kd 0 = .inl 10) rfl rfl (Nat.le_of_ble_eq_true rfl) dL_law_242 (fun y16 M17 hz18 hp19 => ?_)
  obtain ⟨hI20, hF21, hq22⟩ := hp19
  have hq5 := hC.1
  have hu23 : ∀ a b, 210 ≤ a → M17.1 a b = M.1 a b := fun a b h => hF21 a b (by omega)
  have hR24 : RI M17 := RI_c hR hu23
  have hFM25 : FM M17 := FM_c hFM hu23
  refine j_aload_n hX dL_law_245 rfl 2 rfl ?_
  refine j_aload_r hX dL_law_246 rfl 0 rfl ?_
  refine j_iload_n hX dL_law_247 rfl 3 rfl ?_
  refine j_iconst hX dL_law_248 ?_
  refine j_iadd hX dL_law_249 ?_
  refine j_sld hX hSX (by omega) (by omega) hn dL_law_250 (fun z26 he28 hz27 => ?_)
  have hr29 : z26 = z1 := he28.trans he3.symm
  refine j_aload_r hX dL_law_251 rfl 0 rfl ?_
  refine j_iload_n hX dL_law_252 rfl 3 rfl ?_
  refine j_iconst hX dL_law_253 ?_
  refine j_iadd hX dL_law_254 ?_
  refine j_sld hX hSX (by omega) (by omega) hn dL_law_255 (fun z30 he32 hz31 => ?_)
  have hr33 : z30 = z4 := he32.trans he6.symm
  refine j_aload_r hX dL_law_256 rfl 0 rfl ?_
  refine j_iload_n hX dL_law_257 rfl 3 rfl ?_
  refine j_iconst hX dL_law_258 ?_
  refine j_iadd hX dL_law_259 ?_
  refine j_sld hX hSX (by omega) (by omega) hn dL_law_260 (fun z34 he36 hz35 => ?_)
  have hr37 : z34 = z7 := he36.trans he9.symm
  refine j_aload_r hX dL_law_261 rfl 0 rfl ?_
  refine j_iload_n hX dL_law_262 rfl 3 rfl ?_
  refine j_iconst hX dL_law_263 ?_
  refine j_iadd hX dL_law_264 ?_
  refine j_sld hX hSX (by omega) (by omega) hn dL_law_265 (fun z38 he40 hz39 => ?_)
  have hr41 : z38 = z10 := he40.trans he12.symm
  refine j_aload_r hX dL_law_266 rfl 0 rfl ?_
  refine j_iload_n hX dL_law_267 rfl 3 rfl ?_
  refine j_iconst hX dL_law_268 ?_
  refine j_iadd hX dL_law_269 ?_
  refine j_sld hX hSX (by omega) (by omega) hn dL_law_270 (fun z42 he44 hz43 => ?_)
  have hr45 : z42 = z13 := he44.trans he15.symm
  have hR0 := hR24 _ rfl
  have hm0 : M17.1 213 (M17.1 210 40) = 0 := by rw [hFM25.1.1]; exact hFM25.1.2.1
  refine j_callVI hX lk_L_17 (cv_X11_feed _ _ _ _ _ 0 _ _ _ _ _ _ (by omega) hI20 (by omega) (by omega) (by omega) (by omega) (by omega) hFM25.2.1.1 (by decide)) (by omega) hce rfl rfl (by omega) (by omega) (by decide +kernel : kd 210 = .inl 11) rfl rfl (Nat.le_of_ble_eq_true rfl) dL_law_271 (fun y46 M47 hz48 hp49 => ?_)
  obtain ⟨hI50, hF51, hq52⟩ := hp49
  have hzz : y16 = y46 := by omega
  refine j_icmp_eq (tgt := 1288) hX dL_law_274 (by decide) (by omega) (by omega) (fun _ => ?_) (fun h => absurd hzz h)
  exact htail _
set_option maxHeartbeats 2000000 in
set_option maxRecDepth 20000 in
theorem law_c1 {X : CT} {B b n ce sl : Nat} {ss : Nat → Int32} (hX : Cx X B 100 cL_law RL) (hSX : SX X B b n ss) (hn : (n : Int) ≤ 3072) {i : Int} (hi0 : 0 ≤ i) (hi1 : i + 6 ≤ (n : Int)) (hce : ce + 0 ≤ (xR X).cells ∧ sl + 0 ≤ (xR X).slots) (M : MM) (hI : Iv M) (hC : CIv M) (hR : RI M) (hFC : FC M) (hFM : FM M) (htail : ∀ M', J X B 257 ce sl 1288 [(0, .ref b), (1, rv B 0), (2, rv B 210), (3, iv i)] [] M') : J X B 257 ce sl 279 [(0, .ref b), (1, rv B 0), (2, rv B 210), (3, iv i)] [] M := by
  have hn0 : M.1 (M.1 0 8) 0 = 0 := by rw [hFC.1.1]; exact hFC.2.1.1
  refine j_aload_n hX dL_law_279 rfl 1 rfl ?_
  refine j_aload_r hX dL_law_280 rfl 0 rfl ?_
  refine j_iload_n hX dL_law_281 rfl 3 rfl ?_
  refine j_iconst hX dL_law_282 ?_
  refine j_iadd hX dL_law_283 ?_
  refine j_sld hX hSX (by omega) (by omega) hn dL_law_284 (fun z1 he3 hz2 => ?_)
  have hnb := hI.at (M.1 0 8) 0 (rq_0 hC.1)
  have hVn : Vn (M.1 (M.1 0 8) 0) M := hC.2.2.2.2.2.1 _ (hI.at 26 1 ro_26_1).1 hC.2.2.2.2.1
  refine j_callVI hX lk_L_18 (cv_X10_end _ _ _ _ _ 0 _ _ (by omega) hI (by omega) hFC.2.2.1.2.2.2 (by decide)) (by omega) hce rfl rfl (by omega) (by omega) (by decide +kernel : kd 0 = .inl 10) rfl rfl (Nat.le_of_ble_eq_true rfl) dL_law_285 (fun y4 M5 hz6 hp7 => ?_)
  obtain ⟨hI8, hF9, hq10⟩ := hp7
  have hq5 := hC.1
  have hu11 : ∀ a b, 210 ≤ a → M5.1 a b = M.1 a b := fun a b h => hF9 a b (by omega)
  have hR12 : RI M5 := RI_c hR hu11
  have hFM13 : FM M5 := FM_c hFM hu11
  refine j_aload_n hX dL_law_288 rfl 2 rfl ?_
  refine j_aload_r hX dL_law_289 rfl 0 rfl ?_
  refine j_iload_n hX dL_law_290 rfl 3 rfl ?_
  refine j_iconst hX dL_law_291 ?_
  refine j_iadd hX dL_law_292 ?_
  refine j_sld hX hSX (by omega) (by omega) hn dL_law_293 (fun z14 he16 hz15 => ?_)
  have hr17 : z14 = z1 := he16.trans he3.symm
  have hR0 := hR12 _ rfl
  have hm0 : M5.1 213 (M5.1 210 40) = 0 := by rw [hFM13.1.1]; exact hFM13.1.2.1
  refine j_callVI hX lk_L_22 (cv_X11_end _ _ _ _ _ 0 _ _ (by omega) hI8 (by omega) hFM13.2.1.1 (by decide)) (by omega) hce rfl rfl (by omega) (by omega) (by decide +kernel : kd 210 = .inl 11) rfl rfl (Nat.le_of_ble_eq_true rfl) dL_law_294 (fun y18 M19 hz20 hp21 => ?_)
  obtain ⟨hI22, hF23, hq24⟩ := hp21
  have hzz : y4 = y18 := by omega
  refine j_icmp_eq (tgt := 1288) hX dL_law_297 (by decide) (by omega) (by omega) (fun _ => ?_) (fun h => absurd hzz h)
  exact htail _
set_option maxHeartbeats 2000000 in
set_option maxRecDepth 20000 in
theorem law_c2 {X : CT} {B b n ce sl : Nat} {ss : Nat → Int32} (hX : Cx X B 100 cL_law RL) (hSX : SX X B b n ss) (hn : (n : Int) ≤ 3072) {i : Int} (hi0 : 0 ≤ i) (hi1 : i + 6 ≤ (n : Int)) (hce : ce + 0 ≤ (xR X).cells ∧ sl + 0 ≤ (xR X).slots) (M : MM) (hI : Iv M) (hC : CIv M) (hR : RI M) (hFC : FC M) (hFM : FM M) (htail : ∀ M', J X B 257 ce sl 1288 [(0, .ref b), (1, rv B 0), (2, rv B 210), (3, iv i)] [] M') : J X B 257 ce sl 302 [(0, .ref b), (1, rv B 0), (2, rv B 210), (3, iv i)] [] M := by
  have hn0 : M.1 (M.1 0 8) 0 = 0 := by rw [hFC.1.1]; exact hFC.2.1.1
  refine j_aload_n hX dL_law_302 rfl 1 rfl ?_
  have hnb := hI.at (M.1 0 8) 0 (rq_0 hC.1)
  have hVn : Vn (M.1 (M.1 0 8) 0) M := hC.2.2.2.2.2.1 _ (hI.at 26 1 ro_26_1).1 hC.2.2.2.2.1
  refine j_callVI hX lk_L_23 (cv_X10_quarter _ _ _ _ _ (M.1 0 8) (185 - M.1 0 8) 0 _ (by omega) hI hC.1 (by have := hC.1; omega) rfl hC.2.2.1 hFC.2.2.1.2.2.2 hC.2.2.2.1 (by omega) hC (by decide)) (by omega) hce rfl rfl (by omega) (by omega) (by decide +kernel : kd 0 = .inl 10) rfl rfl (Nat.le_of_ble_eq_true rfl) dL_law_303 (fun y1 M2 hz3 hp4 => ?_)
  obtain ⟨hI5, hF6, hq7, hq8⟩ := hp4
  have hq5 := hC.1
  have hu9 : ∀ a b, 210 ≤ a → M2.1 a b = M.1 a b := fun a b h => hF6 a b (by omega)
  have hR10 : RI M2 := RI_c hR hu9
  have hFM11 : FM M2 := FM_c hFM hu9
  refine j_aload_n hX dL_law_306 rfl 2 rfl ?_
  have hR0 := hR10 _ rfl
  have hm0 : M2.1 213 (M2.1 210 40) = 0 := by rw [hFM11.1.1]; exact hFM11.1.2.1
  refine j_callVI hX lk_L_27 (cv_X11_quarter _ _ _ _ _ (M2.1 210 40) (M2.1 213 (M2.1 210 40)) 0 _ (by omega) hI5 rfl hFM11.2.1.1 hR0 hm0 (by decide)) (by omega) hce rfl rfl (by omega) (by omega) (by decide +kernel : kd 210 = .inl 11) rfl rfl (Nat.le_of_ble_eq_true rfl) dL_law_307 (fun y12 M13 hz14 hp15 => ?_)
  obtain ⟨hI16, hF17, hq18, hq19⟩ := hp15
  have hzz : y1 = y12 := by omega
  refine j_icmp_eq (tgt := 1288) hX dL_law_310 (by decide) (by omega) (by omega) (fun _ => ?_) (fun h => absurd hzz h)
  exact htail _
set_option maxHeartbeats 2000000 in
set_option maxRecDepth 20000 in
theorem law_c3 {X : CT} {B b n ce sl : Nat} {ss : Nat → Int32} (hX : Cx X B 100 cL_law RL) (hSX : SX X B b n ss) (hn : (n : Int) ≤ 3072) {i : Int} (hi0 : 0 ≤ i) (hi1 : i + 6 ≤ (n : Int)) (hce : ce + 0 ≤ (xR X).cells ∧ sl + 0 ≤ (xR X).slots) (M : MM) (hI : Iv M) (hC : CIv M) (hR : RI M) (hFC : FC M) (hFM : FM M) (htail : ∀ M', J X B 257 ce sl 1288 [(0, .ref b), (1, rv B 0), (2, rv B 210), (3, iv i)] [] M') : J X B 257 ce sl 315 [(0, .ref b), (1, rv B 0), (2, rv B 210), (3, iv i)] [] M := by
  have hn0 : M.1 (M.1 0 8) 0 = 0 := by rw [hFC.1.1]; exact hFC.2.1.1
  refine j_aload_n hX dL_law_315 rfl 1 rfl ?_
  refine j_aload_r hX dL_law_316 rfl 0 rfl ?_
  refine j_iload_n hX dL_law_317 rfl 3 rfl ?_
  refine j_iconst hX dL_law_318 ?_
  refine j_iadd hX dL_law_319 ?_
  refine j_sld hX hSX (by omega) (by omega) hn dL_law_320 (fun z1 he3 hz2 => ?_)
  have hnb := hI.at (M.1 0 8) 0 (rq_0 hC.1)
  have hVn : Vn (M.1 (M.1 0 8) 0) M := hC.2.2.2.2.2.1 _ (hI.at 26 1 ro_26_1).1 hC.2.2.2.2.1
  refine j_callVI hX lk_L_28 (cv_X10_fault _ _ _ _ _ 0 (-1) _ _ (by omega) hI (by omega) hFC.2.2.1.2.1 hFC.2.2.1.2.2.1 (by decide)) (by omega) hce rfl rfl (by omega) (by omega) (by decide +kernel : kd 0 = .inl 10) rfl rfl (Nat.le_of_ble_eq_true rfl) dL_law_321 (fun y4 M5 hz6 hp7 => ?_)
  obtain ⟨hE8, hq9⟩ := hp7
  replace hE8 := hE8.symm
  subst hE8
  refine j_aload_n hX dL_law_324 rfl 2 rfl ?_
  refine j_aload_r hX dL_law_325 rfl 0 rfl ?_
  refine j_iload_n hX dL_law_326 rfl 3 rfl ?_
  refine j_iconst hX dL_law_327 ?_
  refine j_iadd hX dL_law_328 ?_
  refine j_sld hX hSX (by omega) (by omega) hn dL_law_329 (fun z10 he12 hz11 => ?_)
  have hr13 : z10 = z1 := he12.trans he3.symm
  have hR0 := hR _ rfl
  have hm0 : M.1 213 (M.1 210 40) = 0 := by rw [hFM.1.1]; exact hFM.1.2.1
  refine j_callVI hX lk_L_31 (cv_X11_fault _ _ _ _ _ 0 (-1) _ _ (by omega) hI (by omega) hFM.2.1.2.1 hFM.2.1.2.2 (by decide) (by decide)) (by omega) hce rfl rfl (by omega) (by omega) (by decide +kernel : kd 210 = .inl 11) rfl rfl (Nat.le_of_ble_eq_true rfl) dL_law_330 (fun y14 M15 hz16 hp17 => ?_)
  obtain ⟨hE18, hq19⟩ := hp17
  replace hE18 := hE18.symm
  subst hE18
  have hzz : y4 = y14 := by omega
  refine j_icmp_eq (tgt := 1288) hX dL_law_333 (by decide) (by omega) (by omega) (fun _ => ?_) (fun h => absurd hzz h)
  exact htail _
set_option maxHeartbeats 2000000 in
set_option maxRecDepth 20000 in
theorem law_c4 {X : CT} {B b n ce sl : Nat} {ss : Nat → Int32} (hX : Cx X B 100 cL_law RL) (hSX : SX X B b n ss) (hn : (n : Int) ≤ 3072) {i : Int} (hi0 : 0 ≤ i) (hi1 : i + 6 ≤ (n : Int)) (hce : ce + 0 ≤ (xR X).cells ∧ sl + 0 ≤ (xR X).slots) (M : MM) (hI : Iv M) (hC : CIv M) (hR : RI M) (hFC : FC M) (hFM : FM M) (htail : ∀ M', J X B 257 ce sl 1288 [(0, .ref b), (1, rv B 0), (2, rv B 210), (3, iv i)] [] M') : J X B 257 ce sl 338 [(0, .ref b), (1, rv B 0), (2, rv B 210), (3, iv i)] [] M := by
  have hn0 : M.1 (M.1 0 8) 0 = 0 := by rw [hFC.1.1]; exact hFC.2.1.1
  refine j_aload_n hX dL_law_338 rfl 1 rfl ?_
  refine j_aload_r hX dL_law_339 rfl 0 rfl ?_
  refine j_iload_n hX dL_law_340 rfl 3 rfl ?_
  refine j_iconst hX dL_law_341 ?_
  refine j_iadd hX dL_law_342 ?_
  refine j_sld hX hSX (by omega) (by omega) hn dL_law_343 (fun z1 he3 hz2 => ?_)
  refine j_aload_r hX dL_law_344 rfl 0 rfl ?_
  refine j_iload_n hX dL_law_345 rfl 3 rfl ?_
  refine j_iconst hX dL_law_346 ?_
  refine j_iadd hX dL_law_347 ?_
  refine j_sld hX hSX (by omega) (by omega) hn dL_law_348 (fun z4 he6 hz5 => ?_)
  have hnb := hI.at (M.1 0 8) 0 (rq_0 hC.1)
  have hVn : Vn (M.1 (M.1 0 8) 0) M := hC.2.2.2.2.2.1 _ (hI.at 26 1 ro_26_1).1 hC.2.2.2.2.1
  refine j_callVI hX lk_L_32 (cv_X10_room _ _ _ _ _ (M.1 0 8) (M.1 (M.1 0 8) 0) _ _ _ (by omega) hI (by omega) (by omega) hC.1 rfl rfl hVn hnb hn0) (by omega) hce rfl rfl (by omega) (by omega) (by decide +kernel : kd 0 = .inl 10) rfl rfl (Nat.le_of_ble_eq_true rfl) dL_law_349 (fun y7 M8 hz9 hp10 => ?_)
  obtain ⟨hI11, hF12, hq13⟩ := hp10
  have hq5 := hC.1
  have hu14 : ∀ a b, 210 ≤ a → M8.1 a b = M.1 a b := fun a b h => hF12 a b (by omega)
  have hR15 : RI M8 := RI_c hR hu14
  have hFM16 : FM M8 := FM_c hFM hu14
  refine j_aload_n hX dL_law_352 rfl 2 rfl ?_
  refine j_aload_r hX dL_law_353 rfl 0 rfl ?_
  refine j_iload_n hX dL_law_354 rfl 3 rfl ?_
  refine j_iconst hX dL_law_355 ?_
  refine j_iadd hX dL_law_356 ?_
  refine j_sld hX hSX (by omega) (by omega) hn dL_law_357 (fun z17 he19 hz18 => ?_)
  have hr20 : z17 = z1 := he19.trans he3.symm
  refine j_aload_r hX dL_law_358 rfl 0 rfl ?_
  refine j_iload_n hX dL_law_359 rfl 3 rfl ?_
  refine j_iconst hX dL_law_360 ?_
  refine j_iadd hX dL_law_361 ?_
  refine j_sld hX hSX (by omega) (by omega) hn dL_law_362 (fun z21 he23 hz22 => ?_)
  have hr24 : z21 = z4 := he23.trans he6.symm
  have hR0 := hR15 _ rfl
  have hm0 : M8.1 213 (M8.1 210 40) = 0 := by rw [hFM16.1.1]; exact hFM16.1.2.1
  refine j_callVI hX lk_L_36 (cv_X11_room _ _ _ _ _ (M8.1 210 40) (M8.1 213 (M8.1 210 40)) _ _ _ (by omega) hI11 (by omega) (by omega) rfl rfl hR0.2.1.1 hR0.2.2.2 hm0) (by omega) hce rfl rfl (by omega) (by omega) (by decide +kernel : kd 210 = .inl 11) rfl rfl (Nat.le_of_ble_eq_true rfl) dL_law_363 (fun y25 M26 hz27 hp28 => ?_)
  obtain ⟨hI29, hF30, hq31⟩ := hp28
  have hzz : y7 = y25 := by omega
  refine j_icmp_eq (tgt := 1288) hX dL_law_366 (by decide) (by omega) (by omega) (fun _ => ?_) (fun h => absurd hzz h)
  exact htail _
set_option maxHeartbeats 2000000 in
set_option maxRecDepth 20000 in
theorem law_c5 {X : CT} {B b n ce sl : Nat} {ss : Nat → Int32} (hX : Cx X B 100 cL_law RL) (hSX : SX X B b n ss) (hn : (n : Int) ≤ 3072) {i : Int} (hi0 : 0 ≤ i) (hi1 : i + 6 ≤ (n : Int)) (hce : ce + 0 ≤ (xR X).cells ∧ sl + 0 ≤ (xR X).slots) (M : MM) (hI : Iv M) (hC : CIv M) (hR : RI M) (hFC : FC M) (hFM : FM M) (htail : ∀ M', J X B 257 ce sl 1288 [(0, .ref b), (1, rv B 0), (2, rv B 210), (3, iv i)] [] M') : J X B 257 ce sl 371 [(0, .ref b), (1, rv B 0), (2, rv B 210), (3, iv i)] [] M := by
  have hn0 : M.1 (M.1 0 8) 0 = 0 := by rw [hFC.1.1]; exact hFC.2.1.1
  refine j_aload_n hX dL_law_371 rfl 1 rfl ?_
  refine j_aload_r hX dL_law_372 rfl 0 rfl ?_
  refine j_iload_n hX dL_law_373 rfl 3 rfl ?_
  refine j_iconst hX dL_law_374 ?_
  refine j_iadd hX dL_law_375 ?_
  refine j_sld hX hSX (by omega) (by omega) hn dL_law_376 (fun z1 he3 hz2 => ?_)
  refine j_aload_r hX dL_law_377 rfl 0 rfl ?_
  refine j_iload_n hX dL_law_378 rfl 3 rfl ?_
  refine j_iconst hX dL_law_379 ?_
  refine j_iadd hX dL_law_380 ?_
  refine j_sld hX hSX (by omega) (by omega) hn dL_law_381 (fun z4 he6 hz5 => ?_)
  have hnb := hI.at (M.1 0 8) 0 (rq_0 hC.1)
  have hVn : Vn (M.1 (M.1 0 8) 0) M := hC.2.2.2.2.2.1 _ (hI.at 26 1 ro_26_1).1 hC.2.2.2.2.1
  refine j_callVI hX lk_L_37 (cv_X10_fact _ _ _ _ _ (M.1 0 8) 0 _ _ _ (by omega) hI (by omega) (by omega) hC.1 rfl (by rw [hFC.1.1]; exact hFC.2.1.2.1) (by decide)) (by omega) hce rfl rfl (by omega) (by omega) (by decide +kernel : kd 0 = .inl 10) rfl rfl (Nat.le_of_ble_eq_true rfl) dL_law_382 (fun y7 M8 hz9 hp10 => ?_)
  obtain ⟨hE11, hq12⟩ := hp10
  replace hE11 := hE11.symm
  subst hE11
  refine j_aload_n hX dL_law_385 rfl 2 rfl ?_
  refine j_aload_r hX dL_law_386 rfl 0 rfl ?_
  refine j_iload_n hX dL_law_387 rfl 3 rfl ?_
  refine j_iconst hX dL_law_388 ?_
  refine j_iadd hX dL_law_389 ?_
  refine j_sld hX hSX (by omega) (by omega) hn dL_law_390 (fun z13 he15 hz14 => ?_)
  have hr16 : z13 = z1 := he15.trans he3.symm
  refine j_aload_r hX dL_law_391 rfl 0 rfl ?_
  refine j_iload_n hX dL_law_392 rfl 3 rfl ?_
  refine j_iconst hX dL_law_393 ?_
  refine j_iadd hX dL_law_394 ?_
  refine j_sld hX hSX (by omega) (by omega) hn dL_law_395 (fun z17 he19 hz18 => ?_)
  have hr20 : z17 = z4 := he19.trans he6.symm
  have hR0 := hR _ rfl
  have hm0 : M.1 213 (M.1 210 40) = 0 := by rw [hFM.1.1]; exact hFM.1.2.1
  refine j_callVI hX lk_L_40 (cv_X11_fact _ _ _ _ _ (M.1 210 40) (M.1 213 (M.1 210 40)) 0 _ _ _ (by omega) hI (by omega) (by omega) rfl rfl (by rw [hFM.1.1]; exact hFM.1.2.2.1) hm0 (by decide)) (by omega) hce rfl rfl (by omega) (by omega) (by decide +kernel : kd 210 = .inl 11) rfl rfl (Nat.le_of_ble_eq_true rfl) dL_law_396 (fun y21 M22 hz23 hp24 => ?_)
  obtain ⟨hE25, hq26⟩ := hp24
  replace hE25 := hE25.symm
  subst hE25
  have hzz : y7 = y21 := by omega
  refine j_icmp_eq (tgt := 1288) hX dL_law_399 (by decide) (by omega) (by omega) (fun _ => ?_) (fun h => absurd hzz h)
  exact htail _
set_option maxHeartbeats 2000000 in
set_option maxRecDepth 20000 in
theorem law_c6 {X : CT} {B b n ce sl : Nat} {ss : Nat → Int32} (hX : Cx X B 100 cL_law RL) (hSX : SX X B b n ss) (hn : (n : Int) ≤ 3072) {i : Int} (hi0 : 0 ≤ i) (hi1 : i + 6 ≤ (n : Int)) (hce : ce + 0 ≤ (xR X).cells ∧ sl + 0 ≤ (xR X).slots) (M : MM) (hI : Iv M) (hC : CIv M) (hR : RI M) (hFC : FC M) (hFM : FM M) (htail : ∀ M', J X B 257 ce sl 1288 [(0, .ref b), (1, rv B 0), (2, rv B 210), (3, iv i)] [] M') : J X B 257 ce sl 404 [(0, .ref b), (1, rv B 0), (2, rv B 210), (3, iv i)] [] M := by
  have hn0 : M.1 (M.1 0 8) 0 = 0 := by rw [hFC.1.1]; exact hFC.2.1.1
  refine j_aload_n hX dL_law_404 rfl 1 rfl ?_
  refine j_aload_r hX dL_law_405 rfl 0 rfl ?_
  refine j_iload_n hX dL_law_406 rfl 3 rfl ?_
  refine j_iconst hX dL_law_407 ?_
  refine j_iadd hX dL_law_408 ?_
  refine j_sld hX hSX (by omega) (by omega) hn dL_law_409 (fun z1 he3 hz2 => ?_)
  refine j_aload_r hX dL_law_410 rfl 0 rfl ?_
  refine j_iload_n hX dL_law_411 rfl 3 rfl ?_
  refine j_iconst hX dL_law_412 ?_
  refine j_iadd hX dL_law_413 ?_
  refine j_sld hX hSX (by omega) (by omega) hn dL_law_414 (fun z4 he6 hz5 => ?_)
  have hnb := hI.at (M.1 0 8) 0 (rq_0 hC.1)
  have hVn : Vn (M.1 (M.1 0 8) 0) M := hC.2.2.2.2.2.1 _ (hI.at 26 1 ro_26_1).1 hC.2.2.2.2.1
  refine j_callVI hX lk_L_41 (cv_X10_wants _ _ _ _ _ (M.1 0 8) (M.1 (M.1 0 8) 0) _ _ _ (by omega) hI (by omega) (by omega) hC.1 rfl rfl hnb hn0) (by omega) hce rfl rfl (by omega) (by omega) (by decide +kernel : kd 0 = .inl 10) rfl rfl (Nat.le_of_ble_eq_true rfl) dL_law_415 (fun y7 M8 hz9 hp10 => ?_)
  obtain ⟨hE11, hq12⟩ := hp10
  replace hE11 := hE11.symm
  subst hE11
  refine j_aload_n hX dL_law_418 rfl 2 rfl ?_
  refine j_aload_r hX dL_law_419 rfl 0 rfl ?_
  refine j_iload_n hX dL_law_420 rfl 3 rfl ?_
  refine j_iconst hX dL_law_421 ?_
  refine j_iadd hX dL_law_422 ?_
  refine j_sld hX hSX (by omega) (by omega) hn dL_law_423 (fun z13 he15 hz14 => ?_)
  have hr16 : z13 = z1 := he15.trans he3.symm
  refine j_aload_r hX dL_law_424 rfl 0 rfl ?_
  refine j_iload_n hX dL_law_425 rfl 3 rfl ?_
  refine j_iconst hX dL_law_426 ?_
  refine j_iadd hX dL_law_427 ?_
  refine j_sld hX hSX (by omega) (by omega) hn dL_law_428 (fun z17 he19 hz18 => ?_)
  have hr20 : z17 = z4 := he19.trans he6.symm
  have hR0 := hR _ rfl
  have hm0 : M.1 213 (M.1 210 40) = 0 := by rw [hFM.1.1]; exact hFM.1.2.1
  refine j_callVI hX lk_L_44 (cv_X11_wants _ _ _ _ _ (M.1 210 40) (M.1 213 (M.1 210 40)) _ _ _ (by omega) hI (by omega) (by omega) rfl rfl hm0) (by omega) hce rfl rfl (by omega) (by omega) (by decide +kernel : kd 210 = .inl 11) rfl rfl (Nat.le_of_ble_eq_true rfl) dL_law_429 (fun y21 M22 hz23 hp24 => ?_)
  obtain ⟨hE25, hq26⟩ := hp24
  replace hE25 := hE25.symm
  subst hE25
  have hzz : y7 = y21 := by omega
  refine j_icmp_eq (tgt := 1288) hX dL_law_432 (by decide) (by omega) (by omega) (fun _ => ?_) (fun h => absurd hzz h)
  exact htail _
set_option maxHeartbeats 2000000 in
set_option maxRecDepth 20000 in
theorem law_c7 {X : CT} {B b n ce sl : Nat} {ss : Nat → Int32} (hX : Cx X B 100 cL_law RL) (hSX : SX X B b n ss) (hn : (n : Int) ≤ 3072) {i : Int} (hi0 : 0 ≤ i) (hi1 : i + 6 ≤ (n : Int)) (hce : ce + 0 ≤ (xR X).cells ∧ sl + 0 ≤ (xR X).slots) (M : MM) (hI : Iv M) (hC : CIv M) (hR : RI M) (hFC : FC M) (hFM : FM M) (htail : ∀ M', J X B 257 ce sl 1288 [(0, .ref b), (1, rv B 0), (2, rv B 210), (3, iv i)] [] M') : J X B 257 ce sl 437 [(0, .ref b), (1, rv B 0), (2, rv B 210), (3, iv i)] [] M := by
  have hn0 : M.1 (M.1 0 8) 0 = 0 := by rw [hFC.1.1]; exact hFC.2.1.1
  refine j_aload_n hX dL_law_437 rfl 1 rfl ?_
  refine j_aload_r hX dL_law_438 rfl 0 rfl ?_
  refine j_iload_n hX dL_law_439 rfl 3 rfl ?_
  refine j_iconst hX dL_law_440 ?_
  refine j_iadd hX dL_law_441 ?_
  refine j_sld hX hSX (by omega) (by omega) hn dL_law_442 (fun z1 he3 hz2 => ?_)
  have hnb := hI.at (M.1 0 8) 0 (rq_0 hC.1)
  have hVn : Vn (M.1 (M.1 0 8) 0) M := hC.2.2.2.2.2.1 _ (hI.at 26 1 ro_26_1).1 hC.2.2.2.2.1
  refine j_callVI hX lk_L_45 (cv_X10_dark _ _ _ _ _ (M.1 0 8) (-1) _ _ (by omega) hI (by omega) hC.1 rfl (by rw [hFC.1.1]; exact hFC.2.1.2.2.2.1) (by decide)) (by omega) hce rfl rfl (by omega) (by omega) (by decide +kernel : kd 0 = .inl 10) rfl rfl (Nat.le_of_ble_eq_true rfl) dL_law_443 (fun y4 M5 hz6 hp7 => ?_)
  obtain ⟨hE8, hq9⟩ := hp7
  replace hE8 := hE8.symm
  subst hE8
  refine j_aload_n hX dL_law_446 rfl 2 rfl ?_
  refine j_aload_r hX dL_law_447 rfl 0 rfl ?_
  refine j_iload_n hX dL_law_448 rfl 3 rfl ?_
  refine j_iconst hX dL_law_449 ?_
  refine j_iadd hX dL_law_450 ?_
  refine j_sld hX hSX (by omega) (by omega) hn dL_law_451 (fun z10 he12 hz11 => ?_)
  have hr13 : z10 = z1 := he12.trans he3.symm
  have hR0 := hR _ rfl
  have hm0 : M.1 213 (M.1 210 40) = 0 := by rw [hFM.1.1]; exact hFM.1.2.1
  refine j_callVI hX lk_L_48 (cv_X11_dark _ _ _ _ _ (M.1 210 40) 0 _ _ (by omega) hI (by omega) rfl (by rw [hFM.1.1]; exact hFM.1.2.2.2.2.2) (by decide)) (by omega) hce rfl rfl (by omega) (by omega) (by decide +kernel : kd 210 = .inl 11) rfl rfl (Nat.le_of_ble_eq_true rfl) dL_law_452 (fun y14 M15 hz16 hp17 => ?_)
  obtain ⟨hE18, hq19⟩ := hp17
  replace hE18 := hE18.symm
  subst hE18
  have hzz : y4 = y14 := by omega
  refine j_icmp_eq (tgt := 1288) hX dL_law_455 (by decide) (by omega) (by omega) (fun _ => ?_) (fun h => absurd hzz h)
  exact htail _
set_option maxHeartbeats 2000000 in
set_option maxRecDepth 20000 in
theorem law_c8 {X : CT} {B b n ce sl : Nat} {ss : Nat → Int32} (hX : Cx X B 100 cL_law RL) (hSX : SX X B b n ss) (hn : (n : Int) ≤ 3072) {i : Int} (hi0 : 0 ≤ i) (hi1 : i + 6 ≤ (n : Int)) (hce : ce + 0 ≤ (xR X).cells ∧ sl + 0 ≤ (xR X).slots) (M : MM) (hI : Iv M) (hC : CIv M) (hR : RI M) (hFC : FC M) (hFM : FM M) (htail : ∀ M', J X B 257 ce sl 1288 [(0, .ref b), (1, rv B 0), (2, rv B 210), (3, iv i)] [] M') : J X B 257 ce sl 460 [(0, .ref b), (1, rv B 0), (2, rv B 210), (3, iv i)] [] M := by
  have hn0 : M.1 (M.1 0 8) 0 = 0 := by rw [hFC.1.1]; exact hFC.2.1.1
  refine j_aload_n hX dL_law_460 rfl 1 rfl ?_
  refine j_aload_r hX dL_law_461 rfl 0 rfl ?_
  refine j_iload_n hX dL_law_462 rfl 3 rfl ?_
  refine j_iconst hX dL_law_463 ?_
  refine j_iadd hX dL_law_464 ?_
  refine j_sld hX hSX (by omega) (by omega) hn dL_law_465 (fun z1 he3 hz2 => ?_)
  have hnb := hI.at (M.1 0 8) 0 (rq_0 hC.1)
  have hVn : Vn (M.1 (M.1 0 8) 0) M := hC.2.2.2.2.2.1 _ (hI.at 26 1 ro_26_1).1 hC.2.2.2.2.1
  refine j_callVI hX lk_L_49 (cv_X10_curtain _ _ _ _ _ (M.1 0 8) (M.1 (M.1 0 8) 0) _ _ (by omega) hI (by omega) hC.1 rfl rfl hnb hC.2.2.2.2.2.1 hC.2.2.2.2.1 hn0) (by omega) hce rfl rfl (by omega) (by omega) (by decide +kernel : kd 0 = .inl 10) rfl rfl (Nat.le_of_ble_eq_true rfl) dL_law_466 (fun y4 M5 hz6 hp7 => ?_)
  obtain ⟨hI8, hF9, hq10, hq11, hq12⟩ := hp7
  have hq5 := hC.1
  have hu13 : ∀ a b, 210 ≤ a → M5.1 a b = M.1 a b := fun a b h => hF9 a b (by omega)
  have hR14 : RI M5 := RI_c hR hu13
  have hFM15 : FM M5 := FM_c hFM hu13
  refine j_aload_n hX dL_law_469 rfl 2 rfl ?_
  refine j_aload_r hX dL_law_470 rfl 0 rfl ?_
  refine j_iload_n hX dL_law_471 rfl 3 rfl ?_
  refine j_iconst hX dL_law_472 ?_
  refine j_iadd hX dL_law_473 ?_
  refine j_sld hX hSX (by omega) (by omega) hn dL_law_474 (fun z16 he18 hz17 => ?_)
  have hr19 : z16 = z1 := he18.trans he3.symm
  have hR0 := hR14 _ rfl
  have hm0 : M5.1 213 (M5.1 210 40) = 0 := by rw [hFM15.1.1]; exact hFM15.1.2.1
  refine j_callVI hX lk_L_52 (cv_X11_curtain _ _ _ _ _ (M5.1 210 40) (M5.1 213 (M5.1 210 40)) _ _ (by omega) hI8 (by omega) rfl rfl hR0.2.1 hm0) (by omega) hce rfl rfl (by omega) (by omega) (by decide +kernel : kd 210 = .inl 11) rfl rfl (Nat.le_of_ble_eq_true rfl) dL_law_475 (fun y20 M21 hz22 hp23 => ?_)
  obtain ⟨hI24, hF25, hq26, hq27⟩ := hp23
  have hzz : y4 = y20 := by omega
  refine j_icmp_eq (tgt := 1288) hX dL_law_478 (by decide) (by omega) (by omega) (fun _ => ?_) (fun h => absurd hzz h)
  exact htail _
set_option maxHeartbeats 2000000 in
set_option maxRecDepth 20000 in
theorem law_c9 {X : CT} {B b n ce sl : Nat} {ss : Nat → Int32} (hX : Cx X B 100 cL_law RL) (hSX : SX X B b n ss) (hn : (n : Int) ≤ 3072) {i : Int} (hi0 : 0 ≤ i) (hi1 : i + 6 ≤ (n : Int)) (hce : ce + 0 ≤ (xR X).cells ∧ sl + 0 ≤ (xR X).slots) (M : MM) (hI : Iv M) (hC : CIv M) (hR : RI M) (hFC : FC M) (hFM : FM M) (htail : ∀ M', J X B 257 ce sl 1288 [(0, .ref b), (1, rv B 0), (2, rv B 210), (3, iv i)] [] M') : J X B 257 ce sl 483 [(0, .ref b), (1, rv B 0), (2, rv B 210), (3, iv i)] [] M := by
  have hn0 : M.1 (M.1 0 8) 0 = 0 := by rw [hFC.1.1]; exact hFC.2.1.1
  refine j_aload_n hX dL_law_483 rfl 1 rfl ?_
  refine j_aload_r hX dL_law_484 rfl 0 rfl ?_
  refine j_iload_n hX dL_law_485 rfl 3 rfl ?_
  refine j_iconst hX dL_law_486 ?_
  refine j_iadd hX dL_law_487 ?_
  refine j_sld hX hSX (by omega) (by omega) hn dL_law_488 (fun z1 he3 hz2 => ?_)
  refine j_aload_r hX dL_law_489 rfl 0 rfl ?_
  refine j_iload_n hX dL_law_490 rfl 3 rfl ?_
  refine j_iconst hX dL_law_491 ?_
  refine j_iadd hX dL_law_492 ?_
  refine j_sld hX hSX (by omega) (by omega) hn dL_law_493 (fun z4 he6 hz5 => ?_)
  have hnb := hI.at (M.1 0 8) 0 (rq_0 hC.1)
  have hVn : Vn (M.1 (M.1 0 8) 0) M := hC.2.2.2.2.2.1 _ (hI.at 26 1 ro_26_1).1 hC.2.2.2.2.1
  refine j_callVI hX lk_L_53 (cv_X10_swap _ _ _ _ _ (M.1 0 8) (M.1 (M.1 0 8) 0) _ _ _ (by omega) hI (by omega) (by omega) hC.1 rfl rfl hnb hC.2.2.2.2.2.1 hC.2.2.2.2.1 hn0) (by omega) hce rfl rfl (by omega) (by omega) (by decide +kernel : kd 0 = .inl 10) rfl rfl (Nat.le_of_ble_eq_true rfl) dL_law_494 (fun y7 M8 hz9 hp10 => ?_)
  obtain ⟨hI11, hF12, hq13, hq14, hq15⟩ := hp10
  have hq5 := hC.1
  have hu16 : ∀ a b, 210 ≤ a → M8.1 a b = M.1 a b := fun a b h => hF12 a b (by omega)
  have hR17 : RI M8 := RI_c hR hu16
  have hFM18 : FM M8 := FM_c hFM hu16
  refine j_aload_n hX dL_law_497 rfl 2 rfl ?_
  refine j_aload_r hX dL_law_498 rfl 0 rfl ?_
  refine j_iload_n hX dL_law_499 rfl 3 rfl ?_
  refine j_iconst hX dL_law_500 ?_
  refine j_iadd hX dL_law_501 ?_
  refine j_sld hX hSX (by omega) (by omega) hn dL_law_502 (fun z19 he21 hz20 => ?_)
  have hr22 : z19 = z1 := he21.trans he3.symm
  refine j_aload_r hX dL_law_503 rfl 0 rfl ?_
  refine j_iload_n hX dL_law_504 rfl 3 rfl ?_
  refine j_iconst hX dL_law_505 ?_
  refine j_iadd hX dL_law_506 ?_
  refine j_sld hX hSX (by omega) (by omega) hn dL_law_507 (fun z23 he25 hz24 => ?_)
  have hr26 : z23 = z4 := he25.trans he6.symm
  have hR0 := hR17 _ rfl
  have hm0 : M8.1 213 (M8.1 210 40) = 0 := by rw [hFM18.1.1]; exact hFM18.1.2.1
  refine j_callVI hX lk_L_56 (cv_X11_swap _ _ _ _ _ (M8.1 210 40) (M8.1 213 (M8.1 210 40)) _ _ _ (by omega) hI11 (by omega) (by omega) rfl rfl hR0.2.1 hm0) (by omega) hce rfl rfl (by omega) (by omega) (by decide +kernel : kd 210 = .inl 11) rfl rfl (Nat.le_of_ble_eq_true rfl) dL_law_508 (fun y27 M28 hz29 hp30 => ?_)
  obtain ⟨hI31, hF32, hq33, hq34⟩ := hp30
  have hzz : y7 = y27 := by omega
  refine j_icmp_eq (tgt := 1288) hX dL_law_511 (by decide) (by omega) (by omega) (fun _ => ?_) (fun h => absurd hzz h)
  exact htail _
set_option maxHeartbeats 2000000 in
set_option maxRecDepth 20000 in
theorem law_c10 {X : CT} {B b n ce sl : Nat} {ss : Nat → Int32} (hX : Cx X B 100 cL_law RL) (hSX : SX X B b n ss) (hn : (n : Int) ≤ 3072) {i : Int} (hi0 : 0 ≤ i) (hi1 : i + 6 ≤ (n : Int)) (hce : ce + 0 ≤ (xR X).cells ∧ sl + 0 ≤ (xR X).slots) (M : MM) (hI : Iv M) (hC : CIv M) (hR : RI M) (hFC : FC M) (hFM : FM M) (htail : ∀ M', J X B 257 ce sl 1288 [(0, .ref b), (1, rv B 0), (2, rv B 210), (3, iv i)] [] M') : J X B 257 ce sl 516 [(0, .ref b), (1, rv B 0), (2, rv B 210), (3, iv i)] [] M := by
  have hn0 : M.1 (M.1 0 8) 0 = 0 := by rw [hFC.1.1]; exact hFC.2.1.1
  refine j_aload_n hX dL_law_516 rfl 1 rfl ?_
  have hnb := hI.at (M.1 0 8) 0 (rq_0 hC.1)
  have hVn : Vn (M.1 (M.1 0 8) 0) M := hC.2.2.2.2.2.1 _ (hI.at 26 1 ro_26_1).1 hC.2.2.2.2.1
  refine j_callVI hX lk_L_57 (cv_X10_cast _ _ _ _ _ (M.1 0 8) (M.1 (M.1 0 8) 0) _ (by omega) hI hC.1 rfl rfl hnb hC.2.2.2.2.2.1 hC.2.2.2.2.1 hn0) (by omega) hce rfl rfl (by omega) (by omega) (by decide +kernel : kd 0 = .inl 10) rfl rfl (Nat.le_of_ble_eq_true rfl) dL_law_517 (fun y1 M2 hz3 hp4 => ?_)
  obtain ⟨hI5, hF6, hq7, hq8, hq9⟩ := hp4
  have hq5 := hC.1
  have hu10 : ∀ a b, 210 ≤ a → M2.1 a b = M.1 a b := fun a b h => hF6 a b (by omega)
  have hR11 : RI M2 := RI_c hR hu10
  have hFM12 : FM M2 := FM_c hFM hu10
  refine j_aload_n hX dL_law_520 rfl 2 rfl ?_
  have hR0 := hR11 _ rfl
  have hm0 : M2.1 213 (M2.1 210 40) = 0 := by rw [hFM12.1.1]; exact hFM12.1.2.1
  refine j_callVI hX lk_L_60 (cv_X11_cast _ _ _ _ _ (M2.1 210 40) (M2.1 213 (M2.1 210 40)) _ (by omega) hI5 rfl rfl hR0.2.1 hm0) (by omega) hce rfl rfl (by omega) (by omega) (by decide +kernel : kd 210 = .inl 11) rfl rfl (Nat.le_of_ble_eq_true rfl) dL_law_521 (fun y13 M14 hz15 hp16 => ?_)
  obtain ⟨hI17, hF18, hq19, hq20⟩ := hp16
  have hzz : y1 = y13 := by omega
  refine j_icmp_eq (tgt := 1288) hX dL_law_524 (by decide) (by omega) (by omega) (fun _ => ?_) (fun h => absurd hzz h)
  exact htail _
set_option maxHeartbeats 2000000 in
set_option maxRecDepth 20000 in
theorem law_c11 {X : CT} {B b n ce sl : Nat} {ss : Nat → Int32} (hX : Cx X B 100 cL_law RL) (hSX : SX X B b n ss) (hn : (n : Int) ≤ 3072) {i : Int} (hi0 : 0 ≤ i) (hi1 : i + 6 ≤ (n : Int)) (hce : ce + 0 ≤ (xR X).cells ∧ sl + 0 ≤ (xR X).slots) (M : MM) (hI : Iv M) (hC : CIv M) (hR : RI M) (hFC : FC M) (hFM : FM M) (htail : ∀ M', J X B 257 ce sl 1288 [(0, .ref b), (1, rv B 0), (2, rv B 210), (3, iv i)] [] M') : J X B 257 ce sl 529 [(0, .ref b), (1, rv B 0), (2, rv B 210), (3, iv i)] [] M := by
  have hn0 : M.1 (M.1 0 8) 0 = 0 := by rw [hFC.1.1]; exact hFC.2.1.1
  refine j_aload_n hX dL_law_529 rfl 1 rfl ?_
  have hnb := hI.at (M.1 0 8) 0 (rq_0 hC.1)
  have hVn : Vn (M.1 (M.1 0 8) 0) M := hC.2.2.2.2.2.1 _ (hI.at 26 1 ro_26_1).1 hC.2.2.2.2.1
  refine j_callVI hX lk_L_61 (cv_X10_hour _ _ _ _ _ (M.1 0 8) (M.1 (M.1 0 8) 0) _ (by omega) hI hC.1 rfl rfl hnb hC.2.2.2.2.2.1 hC.2.2.2.2.1 hn0 (by rw [hFC.2.2.2.1.1, hFC.2.2.2.1.2.2.1]; exact hFC.2.2.2.2.1.2.1)) (by omega) hce rfl rfl (by omega) (by omega) (by decide +kernel : kd 0 = .inl 10) rfl rfl (Nat.le_of_ble_eq_true rfl) dL_law_530 (fun y1 M2 hz3 hp4 => ?_)
  obtain ⟨hI5, hF6, hq7, hq8, hq9⟩ := hp4
  have hq5 := hC.1
  have hu10 : ∀ a b, 210 ≤ a → M2.1 a b = M.1 a b := fun a b h => hF6 a b (by omega)
  have hR11 : RI M2 := RI_c hR hu10
  have hFM12 : FM M2 := FM_c hFM hu10
  refine j_aload_n hX dL_law_533 rfl 2 rfl ?_
  have hR0 := hR11 _ rfl
  have hm0 : M2.1 213 (M2.1 210 40) = 0 := by rw [hFM12.1.1]; exact hFM12.1.2.1
  refine j_callVI hX lk_L_64 (cv_X11_hour _ _ _ _ _ (M2.1 210 40) (M2.1 213 (M2.1 210 40)) 0 _ (by omega) hI5 rfl rfl hFM12.2.2.1.2.1 hR0.2.1 hm0 (by decide)) (by omega) hce rfl rfl (by omega) (by omega) (by decide +kernel : kd 210 = .inl 11) rfl rfl (Nat.le_of_ble_eq_true rfl) dL_law_534 (fun y13 M14 hz15 hp16 => ?_)
  obtain ⟨hI17, hF18, hq19, hq20⟩ := hp16
  have hzz : y1 = y13 := by omega
  refine j_icmp_eq (tgt := 1288) hX dL_law_537 (by decide) (by omega) (by omega) (fun _ => ?_) (fun h => absurd hzz h)
  exact htail _
set_option maxHeartbeats 2000000 in
set_option maxRecDepth 20000 in
theorem law_c12 {X : CT} {B b n ce sl : Nat} {ss : Nat → Int32} (hX : Cx X B 100 cL_law RL) (hSX : SX X B b n ss) (hn : (n : Int) ≤ 3072) {i : Int} (hi0 : 0 ≤ i) (hi1 : i + 6 ≤ (n : Int)) (hce : ce + 0 ≤ (xR X).cells ∧ sl + 0 ≤ (xR X).slots) (M : MM) (hI : Iv M) (hC : CIv M) (hR : RI M) (hFC : FC M) (hFM : FM M) (htail : ∀ M', J X B 257 ce sl 1288 [(0, .ref b), (1, rv B 0), (2, rv B 210), (3, iv i)] [] M') : J X B 257 ce sl 542 [(0, .ref b), (1, rv B 0), (2, rv B 210), (3, iv i)] [] M := by
  have hn0 : M.1 (M.1 0 8) 0 = 0 := by rw [hFC.1.1]; exact hFC.2.1.1
  refine j_aload_n hX dL_law_542 rfl 1 rfl ?_
  have hnb := hI.at (M.1 0 8) 0 (rq_0 hC.1)
  have hVn : Vn (M.1 (M.1 0 8) 0) M := hC.2.2.2.2.2.1 _ (hI.at 26 1 ro_26_1).1 hC.2.2.2.2.1
  refine j_callVI hX lk_L_65 (cv_X10_undo _ _ _ _ _ 0 _ (by omega) hI hFC.2.2.2.1.1 hC.2.2.2.2.1 (by decide)) (by omega) hce rfl rfl (by omega) (by omega) (by decide +kernel : kd 0 = .inl 10) rfl rfl (Nat.le_of_ble_eq_true rfl) dL_law_543 (fun y1 M2 hz3 hp4 => ?_)
  obtain ⟨hI5, hF6, hq7, hq8, hq9⟩ := hp4
  have hq5 := hC.1
  have hu10 : ∀ a b, 210 ≤ a → M2.1 a b = M.1 a b := fun a b h => hF6 a b (by omega)
  have hR11 : RI M2 := RI_c hR hu10
  have hFM12 : FM M2 := FM_c hFM hu10
  refine j_aload_n hX dL_law_546 rfl 2 rfl ?_
  have hR0 := hR11 _ rfl
  have hm0 : M2.1 213 (M2.1 210 40) = 0 := by rw [hFM12.1.1]; exact hFM12.1.2.1
  refine j_callVI hX lk_L_69 (cv_X11_undo _ _ _ _ _ (M2.1 210 40) (M2.1 213 (M2.1 210 40)) 0 _ (by omega) hI5 rfl rfl hFM12.2.2.2.1.1 hR0.2.1 hm0 (by decide)) (by omega) hce rfl rfl (by omega) (by omega) (by decide +kernel : kd 210 = .inl 11) rfl rfl (Nat.le_of_ble_eq_true rfl) dL_law_547 (fun y13 M14 hz15 hp16 => ?_)
  obtain ⟨hI17, hF18, hq19, hq20, hq21⟩ := hp16
  have hzz : y1 = y13 := by omega
  refine j_icmp_eq (tgt := 1288) hX dL_law_550 (by decide) (by omega) (by omega) (fun _ => ?_) (fun h => absurd hzz h)
  exact htail _
set_option maxHeartbeats 2000000 in
set_option maxRecDepth 20000 in
theorem law_c13 {X : CT} {B b n ce sl : Nat} {ss : Nat → Int32} (hX : Cx X B 100 cL_law RL) (hSX : SX X B b n ss) (hn : (n : Int) ≤ 3072) {i : Int} (hi0 : 0 ≤ i) (hi1 : i + 6 ≤ (n : Int)) (hce : ce + 0 ≤ (xR X).cells ∧ sl + 0 ≤ (xR X).slots) (M : MM) (hI : Iv M) (hC : CIv M) (hR : RI M) (hFC : FC M) (hFM : FM M) (htail : ∀ M', J X B 257 ce sl 1288 [(0, .ref b), (1, rv B 0), (2, rv B 210), (3, iv i)] [] M') : J X B 257 ce sl 555 [(0, .ref b), (1, rv B 0), (2, rv B 210), (3, iv i)] [] M := by
  have hn0 : M.1 (M.1 0 8) 0 = 0 := by rw [hFC.1.1]; exact hFC.2.1.1
  refine j_aload_n hX dL_law_555 rfl 1 rfl ?_
  have hnb := hI.at (M.1 0 8) 0 (rq_0 hC.1)
  have hVn : Vn (M.1 (M.1 0 8) 0) M := hC.2.2.2.2.2.1 _ (hI.at 26 1 ro_26_1).1 hC.2.2.2.2.1
  refine j_callVI hX lk_L_70 (cv_X10_redo _ _ _ _ _ 0 0 _ (by omega) hI hFC.2.2.2.1.1 hFC.2.2.2.1.2.1 hC.2.2.2.2.1 (by decide)) (by omega) hce rfl rfl (by omega) (by omega) (by decide +kernel : kd 0 = .inl 10) rfl rfl (Nat.le_of_ble_eq_true rfl) dL_law_556 (fun y1 M2 hz3 hp4 => ?_)
  obtain ⟨hI5, hF6, hq7, hq8, hq9⟩ := hp4
  have hq5 := hC.1
  have hu10 : ∀ a b, 210 ≤ a → M2.1 a b = M.1 a b := fun a b h => hF6 a b (by omega)
  have hR11 : RI M2 := RI_c hR hu10
  have hFM12 : FM M2 := FM_c hFM hu10
  refine j_aload_n hX dL_law_559 rfl 2 rfl ?_
  have hR0 := hR11 _ rfl
  have hm0 : M2.1 213 (M2.1 210 40) = 0 := by rw [hFM12.1.1]; exact hFM12.1.2.1
  refine j_callVI hX lk_L_73 (cv_X11_redo _ _ _ _ _ (M2.1 210 40) (M2.1 213 (M2.1 210 40)) 0 _ (by omega) hI5 rfl rfl hFM12.2.2.2.1.2.1 hR0.2.1 hm0 (by decide)) (by omega) hce rfl rfl (by omega) (by omega) (by decide +kernel : kd 210 = .inl 11) rfl rfl (Nat.le_of_ble_eq_true rfl) dL_law_560 (fun y13 M14 hz15 hp16 => ?_)
  obtain ⟨hI17, hF18, hq19, hq20, hq21⟩ := hp16
  have hzz : y1 = y13 := by omega
  refine j_icmp_eq (tgt := 1288) hX dL_law_563 (by decide) (by omega) (by omega) (fun _ => ?_) (fun h => absurd hzz h)
  exact htail _
set_option maxHeartbeats 2000000 in
set_option maxRecDepth 20000 in
theorem law_c14 {X : CT} {B b n ce sl : Nat} {ss : Nat → Int32} (hX : Cx X B 100 cL_law RL) (hSX : SX X B b n ss) (hn : (n : Int) ≤ 3072) {i : Int} (hi0 : 0 ≤ i) (hi1 : i + 6 ≤ (n : Int)) (hce : ce + 0 ≤ (xR X).cells ∧ sl + 0 ≤ (xR X).slots) (M : MM) (hI : Iv M) (hC : CIv M) (hR : RI M) (hFC : FC M) (hFM : FM M) (htail : ∀ M', J X B 257 ce sl 1288 [(0, .ref b), (1, rv B 0), (2, rv B 210), (3, iv i)] [] M') : J X B 257 ce sl 568 [(0, .ref b), (1, rv B 0), (2, rv B 210), (3, iv i)] [] M := by
  have hn0 : M.1 (M.1 0 8) 0 = 0 := by rw [hFC.1.1]; exact hFC.2.1.1
  refine j_aload_n hX dL_law_568 rfl 1 rfl ?_
  refine j_aload_r hX dL_law_569 rfl 0 rfl ?_
  refine j_iload_n hX dL_law_570 rfl 3 rfl ?_
  refine j_iconst hX dL_law_571 ?_
  refine j_iadd hX dL_law_572 ?_
  refine j_sld hX hSX (by omega) (by omega) hn dL_law_573 (fun z1 he3 hz2 => ?_)
  refine j_aload_r hX dL_law_574 rfl 0 rfl ?_
  refine j_iload_n hX dL_law_575 rfl 3 rfl ?_
  refine j_iconst hX dL_law_576 ?_
  refine j_iadd hX dL_law_577 ?_
  refine j_sld hX hSX (by omega) (by omega) hn dL_law_578 (fun z4 he6 hz5 => ?_)
  have hnb := hI.at (M.1 0 8) 0 (rq_0 hC.1)
  have hVn : Vn (M.1 (M.1 0 8) 0) M := hC.2.2.2.2.2.1 _ (hI.at 26 1 ro_26_1).1 hC.2.2.2.2.1
  refine j_callVI hX lk_L_74 (cv_X10_when _ _ _ _ _ (M.1 0 8) (M.1 (M.1 0 8) 0) _ _ _ (by omega) hI (by omega) (by omega) hC.1 rfl rfl hVn hnb hn0) (by omega) hce rfl rfl (by omega) (by omega) (by decide +kernel : kd 0 = .inl 10) rfl rfl (Nat.le_of_ble_eq_true rfl) dL_law_579 (fun y7 M8 hz9 hp10 => ?_)
  obtain ⟨hI11, hF12, hq13⟩ := hp10
  have hq5 := hC.1
  have hu14 : ∀ a b, 210 ≤ a → M8.1 a b = M.1 a b := fun a b h => hF12 a b (by omega)
  have hR15 : RI M8 := RI_c hR hu14
  have hFM16 : FM M8 := FM_c hFM hu14
  refine j_aload_n hX dL_law_582 rfl 2 rfl ?_
  refine j_aload_r hX dL_law_583 rfl 0 rfl ?_
  refine j_iload_n hX dL_law_584 rfl 3 rfl ?_
  refine j_iconst hX dL_law_585 ?_
  refine j_iadd hX dL_law_586 ?_
  refine j_sld hX hSX (by omega) (by omega) hn dL_law_587 (fun z17 he19 hz18 => ?_)
  have hr20 : z17 = z1 := he19.trans he3.symm
  refine j_aload_r hX dL_law_588 rfl 0 rfl ?_
  refine j_iload_n hX dL_law_589 rfl 3 rfl ?_
  refine j_iconst hX dL_law_590 ?_
  refine j_iadd hX dL_law_591 ?_
  refine j_sld hX hSX (by omega) (by omega) hn dL_law_592 (fun z21 he23 hz22 => ?_)
  have hr24 : z21 = z4 := he23.trans he6.symm
  have hR0 := hR15 _ rfl
  have hm0 : M8.1 213 (M8.1 210 40) = 0 := by rw [hFM16.1.1]; exact hFM16.1.2.1
  refine j_callVI hX lk_L_77 (cv_X11_when _ _ _ _ _ (M8.1 210 40) (M8.1 213 (M8.1 210 40)) _ _ _ (by omega) hI11 (by omega) (by omega) rfl rfl hR0.2.1.1 hm0) (by omega) hce rfl rfl (by omega) (by omega) (by decide +kernel : kd 210 = .inl 11) rfl rfl (Nat.le_of_ble_eq_true rfl) dL_law_593 (fun y25 M26 hz27 hp28 => ?_)
  obtain ⟨hI29, hF30, hq31, hq32⟩ := hp28
  have hzz : y7 = y25 := by omega
  refine j_icmp_eq (tgt := 1288) hX dL_law_596 (by decide) (by omega) (by omega) (fun _ => ?_) (fun h => absurd hzz h)
  exact htail _
set_option maxHeartbeats 2000000 in
set_option maxRecDepth 20000 in
theorem law_c15 {X : CT} {B b n ce sl : Nat} {ss : Nat → Int32} (hX : Cx X B 100 cL_law RL) (hSX : SX X B b n ss) (hn : (n : Int) ≤ 3072) {i : Int} (hi0 : 0 ≤ i) (hi1 : i + 6 ≤ (n : Int)) (hce : ce + 0 ≤ (xR X).cells ∧ sl + 0 ≤ (xR X).slots) (M : MM) (hI : Iv M) (hC : CIv M) (hR : RI M) (hFC : FC M) (hFM : FM M) (htail : ∀ M', J X B 257 ce sl 1288 [(0, .ref b), (1, rv B 0), (2, rv B 210), (3, iv i)] [] M') : J X B 257 ce sl 601 [(0, .ref b), (1, rv B 0), (2, rv B 210), (3, iv i)] [] M := by
  have hn0 : M.1 (M.1 0 8) 0 = 0 := by rw [hFC.1.1]; exact hFC.2.1.1
  refine j_aload_n hX dL_law_601 rfl 1 rfl ?_
  refine j_aload_r hX dL_law_602 rfl 0 rfl ?_
  refine j_iload_n hX dL_law_603 rfl 3 rfl ?_
  refine j_iconst hX dL_law_604 ?_
  refine j_iadd hX dL_law_605 ?_
  refine j_sld hX hSX (by omega) (by omega) hn dL_law_606 (fun z1 he3 hz2 => ?_)
  refine j_aload_r hX dL_law_607 rfl 0 rfl ?_
  refine j_iload_n hX dL_law_608 rfl 3 rfl ?_
  refine j_iconst hX dL_law_609 ?_
  refine j_iadd hX dL_law_610 ?_
  refine j_sld hX hSX (by omega) (by omega) hn dL_law_611 (fun z4 he6 hz5 => ?_)
  have hnb := hI.at (M.1 0 8) 0 (rq_0 hC.1)
  have hVn : Vn (M.1 (M.1 0 8) 0) M := hC.2.2.2.2.2.1 _ (hI.at 26 1 ro_26_1).1 hC.2.2.2.2.1
  refine j_callVI hX lk_L_78 (cv_X10_will _ _ _ _ _ (M.1 0 8) (M.1 (M.1 0 8) 0) _ _ _ (by omega) hI (by omega) (by omega) hC.1 rfl rfl hVn hnb hn0) (by omega) hce rfl rfl (by omega) (by omega) (by decide +kernel : kd 0 = .inl 10) rfl rfl (Nat.le_of_ble_eq_true rfl) dL_law_612 (fun y7 M8 hz9 hp10 => ?_)
  obtain ⟨hI11, hF12, hq13⟩ := hp10
  have hq5 := hC.1
  have hu14 : ∀ a b, 210 ≤ a → M8.1 a b = M.1 a b := fun a b h => hF12 a b (by omega)
  have hR15 : RI M8 := RI_c hR hu14
  have hFM16 : FM M8 := FM_c hFM hu14
  refine j_aload_n hX dL_law_615 rfl 2 rfl ?_
  refine j_aload_r hX dL_law_616 rfl 0 rfl ?_
  refine j_iload_n hX dL_law_617 rfl 3 rfl ?_
  refine j_iconst hX dL_law_618 ?_
  refine j_iadd hX dL_law_619 ?_
  refine j_sld hX hSX (by omega) (by omega) hn dL_law_620 (fun z17 he19 hz18 => ?_)
  have hr20 : z17 = z1 := he19.trans he3.symm
  refine j_aload_r hX dL_law_621 rfl 0 rfl ?_
  refine j_iload_n hX dL_law_622 rfl 3 rfl ?_
  refine j_iconst hX dL_law_623 ?_
  refine j_iadd hX dL_law_624 ?_
  refine j_sld hX hSX (by omega) (by omega) hn dL_law_625 (fun z21 he23 hz22 => ?_)
  have hr24 : z21 = z4 := he23.trans he6.symm
  have hR0 := hR15 _ rfl
  have hm0 : M8.1 213 (M8.1 210 40) = 0 := by rw [hFM16.1.1]; exact hFM16.1.2.1
  refine j_callVI hX lk_L_81 (cv_X11_will _ _ _ _ _ (M8.1 210 40) (M8.1 213 (M8.1 210 40)) _ _ _ (by omega) hI11 (by omega) (by omega) rfl rfl hR0.2.1.1 hm0) (by omega) hce rfl rfl (by omega) (by omega) (by decide +kernel : kd 210 = .inl 11) rfl rfl (Nat.le_of_ble_eq_true rfl) dL_law_626 (fun y25 M26 hz27 hp28 => ?_)
  obtain ⟨hI29, hF30, hq31, hq32⟩ := hp28
  have hzz : y7 = y25 := by omega
  refine j_icmp_eq (tgt := 1288) hX dL_law_629 (by decide) (by omega) (by omega) (fun _ => ?_) (fun h => absurd hzz h)
  exact htail _
set_option maxHeartbeats 2000000 in
set_option maxRecDepth 20000 in
theorem law_c16 {X : CT} {B b n ce sl : Nat} {ss : Nat → Int32} (hX : Cx X B 100 cL_law RL) (hSX : SX X B b n ss) (hn : (n : Int) ≤ 3072) {i : Int} (hi0 : 0 ≤ i) (hi1 : i + 6 ≤ (n : Int)) (hce : ce + 0 ≤ (xR X).cells ∧ sl + 0 ≤ (xR X).slots) (M : MM) (hI : Iv M) (hC : CIv M) (hR : RI M) (hFC : FC M) (hFM : FM M) (htail : ∀ M', J X B 257 ce sl 1288 [(0, .ref b), (1, rv B 0), (2, rv B 210), (3, iv i)] [] M') : J X B 257 ce sl 634 [(0, .ref b), (1, rv B 0), (2, rv B 210), (3, iv i)] [] M := by
  have hn0 : M.1 (M.1 0 8) 0 = 0 := by rw [hFC.1.1]; exact hFC.2.1.1
  refine j_aload_n hX dL_law_634 rfl 1 rfl ?_
  refine j_aload_r hX dL_law_635 rfl 0 rfl ?_
  refine j_iload_n hX dL_law_636 rfl 3 rfl ?_
  refine j_iconst hX dL_law_637 ?_
  refine j_iadd hX dL_law_638 ?_
  refine j_sld hX hSX (by omega) (by omega) hn dL_law_639 (fun z1 he3 hz2 => ?_)
  refine j_aload_r hX dL_law_640 rfl 0 rfl ?_
  refine j_iload_n hX dL_law_641 rfl 3 rfl ?_
  refine j_iconst hX dL_law_642 ?_
  refine j_iadd hX dL_law_643 ?_
  refine j_sld hX hSX (by omega) (by omega) hn dL_law_644 (fun z4 he6 hz5 => ?_)
  have hnb := hI.at (M.1 0 8) 0 (rq_0 hC.1)
  have hVn : Vn (M.1 (M.1 0 8) 0) M := hC.2.2.2.2.2.1 _ (hI.at 26 1 ro_26_1).1 hC.2.2.2.2.1
  refine j_callVI hX lk_L_82 (cv_X10_word _ _ _ _ _ (M.1 0 8) (M.1 (M.1 0 8) 0) _ _ _ (by omega) hI (by omega) (by omega) hC.1 rfl rfl hVn hnb hn0) (by omega) hce rfl rfl (by omega) (by omega) (by decide +kernel : kd 0 = .inl 10) rfl rfl (Nat.le_of_ble_eq_true rfl) dL_law_645 (fun y7 M8 hz9 hp10 => ?_)
  obtain ⟨hI11, hF12, hq13⟩ := hp10
  have hq5 := hC.1
  have hu14 : ∀ a b, 210 ≤ a → M8.1 a b = M.1 a b := fun a b h => hF12 a b (by omega)
  have hR15 : RI M8 := RI_c hR hu14
  have hFM16 : FM M8 := FM_c hFM hu14
  refine j_aload_n hX dL_law_648 rfl 2 rfl ?_
  refine j_aload_r hX dL_law_649 rfl 0 rfl ?_
  refine j_iload_n hX dL_law_650 rfl 3 rfl ?_
  refine j_iconst hX dL_law_651 ?_
  refine j_iadd hX dL_law_652 ?_
  refine j_sld hX hSX (by omega) (by omega) hn dL_law_653 (fun z17 he19 hz18 => ?_)
  have hr20 : z17 = z1 := he19.trans he3.symm
  refine j_aload_r hX dL_law_654 rfl 0 rfl ?_
  refine j_iload_n hX dL_law_655 rfl 3 rfl ?_
  refine j_iconst hX dL_law_656 ?_
  refine j_iadd hX dL_law_657 ?_
  refine j_sld hX hSX (by omega) (by omega) hn dL_law_658 (fun z21 he23 hz22 => ?_)
  have hr24 : z21 = z4 := he23.trans he6.symm
  have hR0 := hR15 _ rfl
  have hm0 : M8.1 213 (M8.1 210 40) = 0 := by rw [hFM16.1.1]; exact hFM16.1.2.1
  refine j_callVI hX lk_L_85 (cv_X11_word _ _ _ _ _ (M8.1 210 40) (M8.1 213 (M8.1 210 40)) _ _ _ (by omega) hI11 (by omega) (by omega) rfl rfl hR0.2.1.1 hm0) (by omega) hce rfl rfl (by omega) (by omega) (by decide +kernel : kd 210 = .inl 11) rfl rfl (Nat.le_of_ble_eq_true rfl) dL_law_659 (fun y25 M26 hz27 hp28 => ?_)
  obtain ⟨hI29, hF30, hq31⟩ := hp28
  have hzz : y7 = y25 := by omega
  refine j_icmp_eq (tgt := 1288) hX dL_law_662 (by decide) (by omega) (by omega) (fun _ => ?_) (fun h => absurd hzz h)
  exact htail _
set_option maxHeartbeats 2000000 in
set_option maxRecDepth 20000 in
theorem law_c17 {X : CT} {B b n ce sl : Nat} {ss : Nat → Int32} (hX : Cx X B 100 cL_law RL) (hSX : SX X B b n ss) (hn : (n : Int) ≤ 3072) {i : Int} (hi0 : 0 ≤ i) (hi1 : i + 6 ≤ (n : Int)) (hce : ce + 0 ≤ (xR X).cells ∧ sl + 0 ≤ (xR X).slots) (M : MM) (hI : Iv M) (hC : CIv M) (hR : RI M) (hFC : FC M) (hFM : FM M) (htail : ∀ M', J X B 257 ce sl 1288 [(0, .ref b), (1, rv B 0), (2, rv B 210), (3, iv i)] [] M') : J X B 257 ce sl 667 [(0, .ref b), (1, rv B 0), (2, rv B 210), (3, iv i)] [] M := by
  have hn0 : M.1 (M.1 0 8) 0 = 0 := by rw [hFC.1.1]; exact hFC.2.1.1
  refine j_aload_n hX dL_law_667 rfl 1 rfl ?_
  refine j_aload_r hX dL_law_668 rfl 0 rfl ?_
  refine j_iload_n hX dL_law_669 rfl 3 rfl ?_
  refine j_iconst hX dL_law_670 ?_
  refine j_iadd hX dL_law_671 ?_
  refine j_sld hX hSX (by omega) (by omega) hn dL_law_672 (fun z1 he3 hz2 => ?_)
  have hnb := hI.at (M.1 0 8) 0 (rq_0 hC.1)
  have hVn : Vn (M.1 (M.1 0 8) 0) M := hC.2.2.2.2.2.1 _ (hI.at 26 1 ro_26_1).1 hC.2.2.2.2.1
  refine j_callVI hX lk_L_86 (cv_X10_reach _ _ _ _ _ (M.1 0 8) (M.1 (M.1 0 8) 0) _ _ (by omega) hI (by omega) hC.1 rfl rfl hVn hnb hn0) (by omega) hce rfl rfl (by omega) (by omega) (by decide +kernel : kd 0 = .inl 10) rfl rfl (Nat.le_of_ble_eq_true rfl) dL_law_673 (fun y4 M5 hz6 hp7 => ?_)
  obtain ⟨hE8, hq9⟩ := hp7
  replace hE8 := hE8.symm
  subst hE8
  refine j_aload_n hX dL_law_676 rfl 2 rfl ?_
  refine j_aload_r hX dL_law_677 rfl 0 rfl ?_
  refine j_iload_n hX dL_law_678 rfl 3 rfl ?_
  refine j_iconst hX dL_law_679 ?_
  refine j_iadd hX dL_law_680 ?_
  refine j_sld hX hSX (by omega) (by omega) hn dL_law_681 (fun z10 he12 hz11 => ?_)
  have hr13 : z10 = z1 := he12.trans he3.symm
  have hR0 := hR _ rfl
  have hm0 : M.1 213 (M.1 210 40) = 0 := by rw [hFM.1.1]; exact hFM.1.2.1
  refine j_callVI hX lk_L_89 (cv_X11_reach _ _ _ _ _ (M.1 210 40) (M.1 213 (M.1 210 40)) _ _ (by omega) hI (by omega) rfl rfl hR0.2.1.1 hm0) (by omega) hce rfl rfl (by omega) (by omega) (by decide +kernel : kd 210 = .inl 11) rfl rfl (Nat.le_of_ble_eq_true rfl) dL_law_682 (fun y14 M15 hz16 hp17 => ?_)
  obtain ⟨hE18, hq19⟩ := hp17
  replace hE18 := hE18.symm
  subst hE18
  have hzz : y4 = y14 := by omega
  refine j_icmp_eq (tgt := 1288) hX dL_law_685 (by decide) (by omega) (by omega) (fun _ => ?_) (fun h => absurd hzz h)
  exact htail _
set_option maxHeartbeats 2000000 in
set_option maxRecDepth 20000 in
theorem law_c18 {X : CT} {B b n ce sl : Nat} {ss : Nat → Int32} (hX : Cx X B 100 cL_law RL) (hSX : SX X B b n ss) (hn : (n : Int) ≤ 3072) {i : Int} (hi0 : 0 ≤ i) (hi1 : i + 6 ≤ (n : Int)) (hce : ce + 0 ≤ (xR X).cells ∧ sl + 0 ≤ (xR X).slots) (M : MM) (hI : Iv M) (hC : CIv M) (hR : RI M) (hFC : FC M) (hFM : FM M) (htail : ∀ M', J X B 257 ce sl 1288 [(0, .ref b), (1, rv B 0), (2, rv B 210), (3, iv i)] [] M') : J X B 257 ce sl 690 [(0, .ref b), (1, rv B 0), (2, rv B 210), (3, iv i)] [] M := by
  have hn0 : M.1 (M.1 0 8) 0 = 0 := by rw [hFC.1.1]; exact hFC.2.1.1
  refine j_aload_n hX dL_law_690 rfl 1 rfl ?_
  have hnb := hI.at (M.1 0 8) 0 (rq_0 hC.1)
  have hVn : Vn (M.1 (M.1 0 8) 0) M := hC.2.2.2.2.2.1 _ (hI.at 26 1 ro_26_1).1 hC.2.2.2.2.1
  refine j_callVI hX lk_L_90 (cv_X10_rents _ _ _ _ _ (M.1 0 8) (M.1 (M.1 0 8) 0) _ (by omega) hI hC.1 rfl rfl hVn hnb hn0) (by omega) hce rfl rfl (by omega) (by omega) (by decide +kernel : kd 0 = .inl 10) rfl rfl (Nat.le_of_ble_eq_true rfl) dL_law_691 (fun y1 M2 hz3 hp4 => ?_)
  obtain ⟨hI5, hF6, hq7⟩ := hp4
  have hq5 := hC.1
  have hu8 : ∀ a b, 210 ≤ a → M2.1 a b = M.1 a b := fun a b h => hF6 a b (by omega)
  have hR9 : RI M2 := RI_c hR hu8
  have hFM10 : FM M2 := FM_c hFM hu8
  refine j_aload_n hX dL_law_694 rfl 2 rfl ?_
  have hR0 := hR9 _ rfl
  have hm0 : M2.1 213 (M2.1 210 40) = 0 := by rw [hFM10.1.1]; exact hFM10.1.2.1
  refine j_callVI hX lk_L_93 (cv_X11_rents _ _ _ _ _ (M2.1 210 40) (M2.1 213 (M2.1 210 40)) _ (by omega) hI5 rfl rfl hR0.2.2.2 hm0) (by omega) hce rfl rfl (by omega) (by omega) (by decide +kernel : kd 210 = .inl 11) rfl rfl (Nat.le_of_ble_eq_true rfl) dL_law_695 (fun y11 M12 hz13 hp14 => ?_)
  obtain ⟨hI15, hF16, hq17⟩ := hp14
  have hzz : y1 = y11 := by omega
  refine j_icmp_eq (tgt := 1288) hX dL_law_698 (by decide) (by omega) (by omega) (fun _ => ?_) (fun h => absurd hzz h)
  exact htail _
set_option maxHeartbeats 2000000 in
set_option maxRecDepth 20000 in
theorem law_c19 {X : CT} {B b n ce sl : Nat} {ss : Nat → Int32} (hX : Cx X B 100 cL_law RL) (hSX : SX X B b n ss) (hn : (n : Int) ≤ 3072) {i : Int} (hi0 : 0 ≤ i) (hi1 : i + 6 ≤ (n : Int)) (hce : ce + 0 ≤ (xR X).cells ∧ sl + 0 ≤ (xR X).slots) (M : MM) (hI : Iv M) (hC : CIv M) (hR : RI M) (hFC : FC M) (hFM : FM M) (htail : ∀ M', J X B 257 ce sl 1288 [(0, .ref b), (1, rv B 0), (2, rv B 210), (3, iv i)] [] M') : J X B 257 ce sl 703 [(0, .ref b), (1, rv B 0), (2, rv B 210), (3, iv i)] [] M := by
  have hn0 : M.1 (M.1 0 8) 0 = 0 := by rw [hFC.1.1]; exact hFC.2.1.1
  refine j_aload_n hX dL_law_703 rfl 1 rfl ?_
  refine j_aload_r hX dL_law_704 rfl 0 rfl ?_
  refine j_iload_n hX dL_law_705 rfl 3 rfl ?_
  refine j_iconst hX dL_law_706 ?_
  refine j_iadd hX dL_law_707 ?_
  refine j_sld hX hSX (by omega) (by omega) hn dL_law_708 (fun z1 he3 hz2 => ?_)
  have hnb := hI.at (M.1 0 8) 0 (rq_0 hC.1)
  have hVn : Vn (M.1 (M.1 0 8) 0) M := hC.2.2.2.2.2.1 _ (hI.at 26 1 ro_26_1).1 hC.2.2.2.2.1
  refine j_callVI hX lk_L_94 (cv_X10_harm _ _ _ _ _ (M.1 0 8) (M.1 (M.1 0 8) 0) _ _ (by omega) hI (by omega) hC.1 rfl rfl hnb hn0) (by omega) hce rfl rfl (by omega) (by omega) (by decide +kernel : kd 0 = .inl 10) rfl rfl (Nat.le_of_ble_eq_true rfl) dL_law_709 (fun y4 M5 hz6 hp7 => ?_)
  obtain ⟨hE8, hq9⟩ := hp7
  replace hE8 := hE8.symm
  subst hE8
  refine j_aload_n hX dL_law_712 rfl 2 rfl ?_
  refine j_aload_r hX dL_law_713 rfl 0 rfl ?_
  refine j_iload_n hX dL_law_714 rfl 3 rfl ?_
  refine j_iconst hX dL_law_715 ?_
  refine j_iadd hX dL_law_716 ?_
  refine j_sld hX hSX (by omega) (by omega) hn dL_law_717 (fun z10 he12 hz11 => ?_)
  have hr13 : z10 = z1 := he12.trans he3.symm
  have hR0 := hR _ rfl
  have hm0 : M.1 213 (M.1 210 40) = 0 := by rw [hFM.1.1]; exact hFM.1.2.1
  refine j_callVI hX lk_L_97 (cv_X11_harm _ _ _ _ _ (M.1 210 40) (M.1 213 (M.1 210 40)) _ _ (by omega) hI (by omega) rfl rfl hm0) (by omega) hce rfl rfl (by omega) (by omega) (by decide +kernel : kd 210 = .inl 11) rfl rfl (Nat.le_of_ble_eq_true rfl) dL_law_718 (fun y14 M15 hz16 hp17 => ?_)
  obtain ⟨hE18, hq19⟩ := hp17
  replace hE18 := hE18.symm
  subst hE18
  have hzz : y4 = y14 := by omega
  refine j_icmp_eq (tgt := 1288) hX dL_law_721 (by decide) (by omega) (by omega) (fun _ => ?_) (fun h => absurd hzz h)
  exact htail _
set_option maxHeartbeats 2000000 in
set_option maxRecDepth 20000 in
theorem law_c20 {X : CT} {B b n ce sl : Nat} {ss : Nat → Int32} (hX : Cx X B 100 cL_law RL) (hSX : SX X B b n ss) (hn : (n : Int) ≤ 3072) {i : Int} (hi0 : 0 ≤ i) (hi1 : i + 6 ≤ (n : Int)) (hce : ce + 0 ≤ (xR X).cells ∧ sl + 0 ≤ (xR X).slots) (M : MM) (hI : Iv M) (hC : CIv M) (hR : RI M) (hFC : FC M) (hFM : FM M) (htail : ∀ M', J X B 257 ce sl 1288 [(0, .ref b), (1, rv B 0), (2, rv B 210), (3, iv i)] [] M') : J X B 257 ce sl 726 [(0, .ref b), (1, rv B 0), (2, rv B 210), (3, iv i)] [] M := by
  have hn0 : M.1 (M.1 0 8) 0 = 0 := by rw [hFC.1.1]; exact hFC.2.1.1
  refine j_aload_n hX dL_law_726 rfl 1 rfl ?_
  refine j_aload_r hX dL_law_727 rfl 0 rfl ?_
  refine j_iload_n hX dL_law_728 rfl 3 rfl ?_
  refine j_iconst hX dL_law_729 ?_
  refine j_iadd hX dL_law_730 ?_
  refine j_sld hX hSX (by omega) (by omega) hn dL_law_731 (fun z1 he3 hz2 => ?_)
  have hnb := hI.at (M.1 0 8) 0 (rq_0 hC.1)
  have hVn : Vn (M.1 (M.1 0 8) 0) M := hC.2.2.2.2.2.1 _ (hI.at 26 1 ro_26_1).1 hC.2.2.2.2.1
  refine j_callVI hX lk_L_98 (cv_X10_deaf _ _ _ _ _ (M.1 0 8) (M.1 (M.1 0 8) 0) 0 _ _ (by omega) hI (by omega) hC.1 rfl rfl (by rw [hFC.1.1]; exact hFC.2.1.2.1) hVn hnb (by decide)) (by omega) hce rfl rfl (by omega) (by omega) (by decide +kernel : kd 0 = .inl 10) rfl rfl (Nat.le_of_ble_eq_true rfl) dL_law_732 (fun y4 M5 hz6 hp7 => ?_)
  obtain ⟨hI8, hF9, hq10⟩ := hp7
  have hq5 := hC.1
  have hu11 : ∀ a b, 210 ≤ a → M5.1 a b = M.1 a b := fun a b h => hF9 a b (by omega)
  have hR12 : RI M5 := RI_c hR hu11
  have hFM13 : FM M5 := FM_c hFM hu11
  refine j_aload_n hX dL_law_735 rfl 2 rfl ?_
  refine j_aload_r hX dL_law_736 rfl 0 rfl ?_
  refine j_iload_n hX dL_law_737 rfl 3 rfl ?_
  refine j_iconst hX dL_law_738 ?_
  refine j_iadd hX dL_law_739 ?_
  refine j_sld hX hSX (by omega) (by omega) hn dL_law_740 (fun z14 he16 hz15 => ?_)
  have hr17 : z14 = z1 := he16.trans he3.symm
  have hR0 := hR12 _ rfl
  have hm0 : M5.1 213 (M5.1 210 40) = 0 := by rw [hFM13.1.1]; exact hFM13.1.2.1
  refine j_callVI hX lk_L_101 (cv_X11_deaf _ _ _ _ _ (M5.1 210 40) (M5.1 213 (M5.1 210 40)) 0 _ _ (by omega) hI8 (by omega) rfl rfl (by rw [hFM13.1.1]; exact hFM13.1.2.2.1) hR0.2.1.1 hm0 (by decide)) (by omega) hce rfl rfl (by omega) (by omega) (by decide +kernel : kd 210 = .inl 11) rfl rfl (Nat.le_of_ble_eq_true rfl) dL_law_741 (fun y18 M19 hz20 hp21 => ?_)
  obtain ⟨hI22, hF23, hq24, hq25⟩ := hp21
  have hzz : y4 = y18 := by omega
  refine j_icmp_eq (tgt := 1288) hX dL_law_744 (by decide) (by omega) (by omega) (fun _ => ?_) (fun h => absurd hzz h)
  exact htail _
