set_option maxHeartbeats 2000000 in
set_option maxRecDepth 20000 in
theorem k_X11_unit_147 (l : Launch) (D : va_G) (cy : Nat → ClassId) (B N : Nat) (m : Int) (lo : Int) (np : Int) (cd : Int) (tk : Int) (wi : Int) (uu : Int) (w : Int) (un : Int) (fk : Int) (M : MM) (hN : 257 ≤ N) (hI0 : Iv M) (hunp : M.1 210 44 = np) (hucd : M.1 210 42 = cd) (hutk : M.1 210 8 = tk) (huwi : M.1 210 43 = wi) (huuu : M.1 210 45 = uu) (huw : M.1 210 41 = w) (huun : M.1 216 w = un) (hufk : M.1 210 4 = fk) (hML : ML m M) (hPS : PS 0 lo M) (h1 : 0 ≤ lo ∧ lo ≤ 560 ∧ fk = 0) (X : CT) (exl : xl X = l) (exD : xD X = D) (excy : xcy X = cy) (hnL : xnL X = 7) (hX : Cx X B 3 cX11_unit yX11_unit.cls) (hret : ∀ (pc : Nat) (lv : List (Nat × Value)) (z : Int) (M' : MM), decode cX11_unit pc = .ok (.ireturn, 1) → narrow .boolean (iv z) = iv z → I32 z → (fun z M' => Iv M' ∧ Fr (fun a b => (a = 210 ∧ 4 ≤ b ∧ b ≤ 10) ∨ (a = 210 ∧ 42 ≤ b ∧ b ≤ 45) ∨ (a = 237 ∧ cd ≤ b ∧ b ≤ cd) ∨ (a = 238 ∧ cd ≤ b ∧ b ≤ cd) ∨ (a = 239 ∧ np ≤ b ∧ b ≤ np) ∨ (a = 240 ∧ np ≤ b ∧ b ≤ np) ∨ (a = 216)) M M' ∧ (0 ≤ z ∧ z ≤ 1) ∧ (ML (m - 1) M') ∧ (M'.1 210 44 ≤ np + 1) ∧ (M'.1 210 4 = 0 → PT z lo M')) z M' → J X B N 0 0 pc lv [iv z] M') : ∀ (x1 x2 x3 x4 x5 : Int), ∀ (fk2 : Int), ∀ (Mc : MM), I32 x1 → I32 x2 → I32 x3 → I32 x4 → I32 x5 → Iv Mc → Fr (fun a b => (a = 210 ∧ 4 ≤ b ∧ b ≤ 10) ∨ (a = 210 ∧ 42 ≤ b ∧ b ≤ 45) ∨ (a = 237 ∧ cd ≤ b ∧ b ≤ cd) ∨ (a = 238 ∧ cd ≤ b ∧ b ≤ cd) ∨ (a = 239 ∧ np ≤ b ∧ b ≤ np) ∨ (a = 240 ∧ np ≤ b ∧ b ≤ np) ∨ (a = 216)) M Mc → Mc.1 210 44 = np → Mc.1 210 42 = cd → Mc.1 210 8 = tk → Mc.1 210 43 = wi → Mc.1 210 45 = uu → Mc.1 210 41 = w → Mc.1 216 w = un → Mc.1 210 4 = fk2 → ML m Mc → (0 ≤ x2 ∧ x2 ≤ 1 ∧ 0 ≤ x3 ∧ x3 ≤ 1) → (Imp (x2 = 1) (tk = 3)) → (Imp (x3 = 1) (tk = 5)) → (Imp (x4 ≠ 0) (97 ≤ x4 ∧ x4 ≤ 122 ∧ tk = 3)) → (Imp (fk2 = 0 ∧ x2 = 0) (un ≤ 59 ∧ uu ≤ 29)) → (Imp (fk2 = 0) (tk ≠ 0)) → (Imp (fk2 = 0 ∧ 1 ≤ x2 + x3) (wi ≤ 6)) → J X B N 0 0 147 [(0, rv B 210), (1, iv x1), (2, iv x2), (3, iv x3), (4, iv x4), (5, iv x5)] [] Mc := by
  have hI := hI0
  have hce : 0 + 0 ≤ (xR X).cells ∧ 0 + 0 ≤ (xR X).slots := ⟨Nat.zero_le _, Nat.zero_le _⟩
  have hwr : 0 ≤ wi ∧ wi ≤ 7 := by have := hI.at 210 43 ro_210_43; omega
  have hur : 0 ≤ uu ∧ uu ≤ 30 := by have := hI.at 210 45 ro_210_45; omega
  have hpb := PS_b hPS (Or.inl rfl) (by omega) (by omega)
  have htkr : -2147483648 ≤ tk ∧ tk ≤ 2147483647 := by have := hI.at 210 8 ro_210_8; omega
  have hwb : 0 ≤ w ∧ w ≤ 1 := by have := hI.at 210 41 ro_210_41; omega
  have hunb : 0 ≤ un ∧ un ≤ 60 := by have := hI.at 216 w (ra_216 _); omega
  intro x1 x2 x3 x4 x5 fk2 Mc hxx1 hxx2 hxx3 hxx4 hxx5 hI hF hk_0 hk_1 hk_2 hk_3 hk_4 hk_5 hk_6 hk_7 hV_0 h2 h3 h4 h5 h6 h7 h8
  refine j_aload_n hX dX11_unit_147 rfl 0 rfl ?_
  refine j_callVI hX lk_X11_249 (c_X11_isGood _ _ _ _ _ _ (by omega) hI) (by omega) hce rfl rfl (by omega) (by omega) kc_210 rfl rfl (Nat.le_of_ble_eq_true rfl) dX11_unit_148 (fun z373 M374 hz376 hp375 => ?_)
  obtain ⟨hE377, hb378, hq379, hq380⟩ := hp375
  replace hE377 := hE377.symm
  subst hE377
  refine j_if_ne (tgt := 156) hX dX11_unit_151 (by decide) (by omega) (fun hc381 => ?_) (fun hc381 => ?_)
  · skip
    have hi382 := hq379 (by omega)
    clear hq379
    clear hq380
    have htk := h7 (by omega)
    refine j_aload_n hX dX11_unit_156 rfl 0 rfl ?_
    refine gf_X11_30 hX (by omega) (by omega) kc_210 (fc_210_14 hI) (by decide) dX11_unit_157 ?_
    refine j_aload_n hX dX11_unit_160 rfl 0 rfl ?_
    refine gf_X11_270 hX (by omega) (by omega) kc_210 dX11_unit_161 ?_
    refine j_top hk_5 ?_
    refine j_dup2 hX dX11_unit_164 rfl rfl ?_
    refine j_iald hX (by omega) (by omega) kc_216 (by omega) (by omega) (by omega) dX11_unit_165 ?_
    refine j_top hk_6 ?_
    refine j_iload_n hX dX11_unit_166 rfl 2 rfl ?_
    refine j_if_eq (tgt := 174) hX dX11_unit_167 (by decide) (by omega) (fun hc383 => ?_) (fun hc383 => ?_)
    · skip
      have hfu := h6 (by omega)
      refine j_iconst hX dX11_unit_174 ?_
      refine j_iadd hX dX11_unit_175 ?_
      refine j_iast hX (by omega) (by omega) kc_216 (by omega) (by omega) (by omega) (by omega) dX11_unit_176 ?_
      refine j_up hI (ra_216 _) (by omega) (by omega) (Or.inl (by omega)) (fun M384 w385 hw386 hM387 hI388 hf389 => ?_)
      have hV390 := ML_dp (M' := M384) hV_0 (fun a b h => by rw [hM387]; exact up_ne (by omega))
      have hk391 := kp_up hM387 (fun h => absurd h.1 (by decide)) hk_0
      have hk392 := kp_up hM387 (fun h => absurd h.1 (by decide)) hk_1
      have hk393 := kp_up hM387 (fun h => absurd h.1 (by decide)) hk_2
      have hk394 := kp_up hM387 (fun h => absurd h.1 (by decide)) hk_3
      have hk395 := kp_up hM387 (fun h => absurd h.1 (by decide)) hk_4
      have hk396 := kp_up hM387 (fun h => absurd h.1 (by decide)) hk_5
      have hk397 := kp_up hM387 (fun h => absurd h.1 (by decide)) hk_7
      have hF398 := Fr.put hF hM387 ((Or.inr (Or.inr (Or.inr (Or.inr (Or.inr (Or.inr rfl)))))))
      refine j_aload_n hX dX11_unit_177 rfl 0 rfl ?_
      refine j_dup hX dX11_unit_178 rfl ?_
      refine gf_X11_332 hX (by omega) (by omega) kc_210 dX11_unit_179 ?_
      refine j_top hk395 ?_
      refine j_iload_n hX dX11_unit_182 rfl 2 rfl ?_
      refine j_if_eq (tgt := 190) hX dX11_unit_183 (by decide) (by omega) (fun hc399 => ?_) (fun hc399 => ?_)
      · skip
        refine j_iconst hX dX11_unit_190 ?_
        refine j_iadd hX dX11_unit_191 ?_
        refine pf_X11_332 hX (by omega) (by omega) kc_210 (by omega) dX11_unit_192 ?_
        refine j_up hI388 ro_210_45 (by omega) (by omega) (Or.inl (by omega)) (fun M400 w401 hw402 hM403 hI404 hf405 => ?_)
        have hV406 := ML_dp (M' := M400) hV390 (fun a b h => by rw [hM403]; exact up_ne (by omega))
        have hk407 := kp_up hM403 (fun h => absurd h.2 (by decide)) hk391
        have hk408 := kp_up hM403 (fun h => absurd h.2 (by decide)) hk392
        have hk409 := kp_up hM403 (fun h => absurd h.2 (by decide)) hk393
        have hk410 := kp_up hM403 (fun h => absurd h.2 (by decide)) hk394
        have hk411 := kp_up hM403 (fun h => absurd h.2 (by decide)) hk396
        have hk412 := kp_up hM403 (fun h => absurd h.2 (by decide)) hk397
        clear hk391 hk392 hk393 hk394 hk395 hk396 hk397
        have hF413 := Fr.put hF398 hM403 ((Or.inr (Or.inl ⟨rfl, by decide, by decide⟩)))
        exact k_X11_unit_195 l D cy B N m lo np cd tk wi uu w un fk  M hN hI0 hunp hucd hutk huwi huuu huw huun hufk hML hPS h1 X exl exD excy hnL hX hret _ _ _ _ _ _ _ _ (by omega) (by omega) (by omega) (by omega) (by omega) hI404 hF413 hk407 hk408 hk409 hk410 hk411 hk412 hf405 hV406 (by first | assumption | omega) (by first | assumption | omega) (by first | assumption | exact fun h => absurd h (by omega) | exact fun _ => by omega) (by first | assumption | omega) (fun h => h8 (by omega))
      · skip
        refine j_iconst hX dX11_unit_186 ?_
        refine j_goto (tgt := 191) hX dX11_unit_187 (by decide) ?_
        refine j_iadd hX dX11_unit_191 ?_
        refine pf_X11_332 hX (by omega) (by omega) kc_210 (by omega) dX11_unit_192 ?_
        refine j_up hI388 ro_210_45 (by omega) (by omega) (Or.inl (by omega)) (fun M414 w415 hw416 hM417 hI418 hf419 => ?_)
        have hV420 := ML_dp (M' := M414) hV390 (fun a b h => by rw [hM417]; exact up_ne (by omega))
        have hk421 := kp_up hM417 (fun h => absurd h.2 (by decide)) hk391
        have hk422 := kp_up hM417 (fun h => absurd h.2 (by decide)) hk392
        have hk423 := kp_up hM417 (fun h => absurd h.2 (by decide)) hk393
        have hk424 := kp_up hM417 (fun h => absurd h.2 (by decide)) hk394
        have hk425 := kp_up hM417 (fun h => absurd h.2 (by decide)) hk396
        have hk426 := kp_up hM417 (fun h => absurd h.2 (by decide)) hk397
        clear hk391 hk392 hk393 hk394 hk395 hk396 hk397
        have hF427 := Fr.put hF398 hM417 ((Or.inr (Or.inl ⟨rfl, by decide, by decide⟩)))
        exact k_X11_unit_195 l D cy B N m lo np cd tk wi uu w un fk  M hN hI0 hunp hucd hutk huwi huuu huw huun hufk hML hPS h1 X exl exD excy hnL hX hret _ _ _ _ _ _ _ _ (by omega) (by omega) (by omega) (by omega) (by omega) hI418 hF427 hk421 hk422 hk423 hk424 hk425 hk426 hf419 hV420 (by first | assumption | omega) (by first | assumption | omega) (by first | assumption | exact fun h => absurd h (by omega) | exact fun _ => by omega) (by first | assumption | omega) (fun h => h8 (by omega))
    · skip
      refine j_iconst hX dX11_unit_170 ?_
      refine j_goto (tgt := 175) hX dX11_unit_171 (by decide) ?_
      refine j_iadd hX dX11_unit_175 ?_
      refine j_iast hX (by omega) (by omega) kc_216 (by omega) (by omega) (by omega) (by omega) dX11_unit_176 ?_
      refine j_up hI (ra_216 _) (by omega) (by omega) (Or.inl (by omega)) (fun M428 w429 hw430 hM431 hI432 hf433 => ?_)
      have hV434 := ML_dp (M' := M428) hV_0 (fun a b h => by rw [hM431]; exact up_ne (by omega))
      have hk435 := kp_up hM431 (fun h => absurd h.1 (by decide)) hk_0
      have hk436 := kp_up hM431 (fun h => absurd h.1 (by decide)) hk_1
      have hk437 := kp_up hM431 (fun h => absurd h.1 (by decide)) hk_2
      have hk438 := kp_up hM431 (fun h => absurd h.1 (by decide)) hk_3
      have hk439 := kp_up hM431 (fun h => absurd h.1 (by decide)) hk_4
      have hk440 := kp_up hM431 (fun h => absurd h.1 (by decide)) hk_5
      have hk441 := kp_up hM431 (fun h => absurd h.1 (by decide)) hk_7
      have hF442 := Fr.put hF hM431 ((Or.inr (Or.inr (Or.inr (Or.inr (Or.inr (Or.inr rfl)))))))
      refine j_aload_n hX dX11_unit_177 rfl 0 rfl ?_
      refine j_dup hX dX11_unit_178 rfl ?_
      refine gf_X11_332 hX (by omega) (by omega) kc_210 dX11_unit_179 ?_
      refine j_top hk439 ?_
      refine j_iload_n hX dX11_unit_182 rfl 2 rfl ?_
      refine j_if_eq (tgt := 190) hX dX11_unit_183 (by decide) (by omega) (fun hc443 => ?_) (fun hc443 => ?_)
      · skip
        refine j_iconst hX dX11_unit_190 ?_
        refine j_iadd hX dX11_unit_191 ?_
        refine pf_X11_332 hX (by omega) (by omega) kc_210 (by omega) dX11_unit_192 ?_
        refine j_up hI432 ro_210_45 (by omega) (by omega) (Or.inl (by omega)) (fun M444 w445 hw446 hM447 hI448 hf449 => ?_)
        have hV450 := ML_dp (M' := M444) hV434 (fun a b h => by rw [hM447]; exact up_ne (by omega))
        have hk451 := kp_up hM447 (fun h => absurd h.2 (by decide)) hk435
        have hk452 := kp_up hM447 (fun h => absurd h.2 (by decide)) hk436
        have hk453 := kp_up hM447 (fun h => absurd h.2 (by decide)) hk437
        have hk454 := kp_up hM447 (fun h => absurd h.2 (by decide)) hk438
        have hk455 := kp_up hM447 (fun h => absurd h.2 (by decide)) hk440
        have hk456 := kp_up hM447 (fun h => absurd h.2 (by decide)) hk441
        clear hk435 hk436 hk437 hk438 hk439 hk440 hk441
        have hF457 := Fr.put hF442 hM447 ((Or.inr (Or.inl ⟨rfl, by decide, by decide⟩)))
        exact k_X11_unit_195 l D cy B N m lo np cd tk wi uu w un fk  M hN hI0 hunp hucd hutk huwi huuu huw huun hufk hML hPS h1 X exl exD excy hnL hX hret _ _ _ _ _ _ _ _ (by omega) (by omega) (by omega) (by omega) (by omega) hI448 hF457 hk451 hk452 hk453 hk454 hk455 hk456 hf449 hV450 (by first | assumption | omega) (by first | assumption | omega) (by first | assumption | exact fun h => absurd h (by omega) | exact fun _ => by omega) (by first | assumption | omega) (fun h => h8 (by omega))
      · skip
        refine j_iconst hX dX11_unit_186 ?_
        refine j_goto (tgt := 191) hX dX11_unit_187 (by decide) ?_
        refine j_iadd hX dX11_unit_191 ?_
        refine pf_X11_332 hX (by omega) (by omega) kc_210 (by omega) dX11_unit_192 ?_
        refine j_up hI432 ro_210_45 (by omega) (by omega) (Or.inl (by omega)) (fun M458 w459 hw460 hM461 hI462 hf463 => ?_)
        have hV464 := ML_dp (M' := M458) hV434 (fun a b h => by rw [hM461]; exact up_ne (by omega))
        have hk465 := kp_up hM461 (fun h => absurd h.2 (by decide)) hk435
        have hk466 := kp_up hM461 (fun h => absurd h.2 (by decide)) hk436
        have hk467 := kp_up hM461 (fun h => absurd h.2 (by decide)) hk437
        have hk468 := kp_up hM461 (fun h => absurd h.2 (by decide)) hk438
        have hk469 := kp_up hM461 (fun h => absurd h.2 (by decide)) hk440
        have hk470 := kp_up hM461 (fun h => absurd h.2 (by decide)) hk441
        clear hk435 hk436 hk437 hk438 hk439 hk440 hk441
        have hF471 := Fr.put hF442 hM461 ((Or.inr (Or.inl ⟨rfl, by decide, by decide⟩)))
        exact k_X11_unit_195 l D cy B N m lo np cd tk wi uu w un fk  M hN hI0 hunp hucd hutk huwi huuu huw huun hufk hML hPS h1 X exl exD excy hnL hX hret _ _ _ _ _ _ _ _ (by omega) (by omega) (by omega) (by omega) (by omega) hI462 hF471 hk465 hk466 hk467 hk468 hk469 hk470 hf463 hV464 (by first | assumption | omega) (by first | assumption | omega) (by first | assumption | exact fun h => absurd h (by omega) | exact fun _ => by omega) (by first | assumption | omega) (fun h => h8 (by omega))
  · skip
    clear hq379
    have hi472 := hq380 (by omega)
    clear hq380
    refine j_iconst hX dX11_unit_154 ?_
    exact hret _ _ _ _ dX11_unit_155 (nb (by omega)) (by omega) ⟨hI, hF, by omega, by first | exact noRel | exact ML_bad (by have := ML_1 hML (by omega); omega) (by omega), by omega, fun h => absurd h (by omega)⟩
