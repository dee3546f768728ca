set_option maxHeartbeats 2000000 in
set_option maxRecDepth 20000 in
theorem k_X11_unit_100 (l : Launch) (D : va_G) (cy : Nat → ClassId) (B N : Nat) (m : Int) (lo : Int) (np : Int) (cd : Int) (tk : Int) (wi : Int) (uu : Int) (w : Int) (un : Int) (fk : Int) (M : MM) (hN : 257 ≤ N) (hI0 : Iv M) (hunp : M.1 210 44 = np) (hucd : M.1 210 42 = cd) (hutk : M.1 210 8 = tk) (huwi : M.1 210 43 = wi) (huuu : M.1 210 45 = uu) (huw : M.1 210 41 = w) (huun : M.1 216 w = un) (hufk : M.1 210 4 = fk) (hML : ML m M) (hPS : PS 0 lo M) (h1 : 0 ≤ lo ∧ lo ≤ 560 ∧ fk = 0) (X : CT) (exl : xl X = l) (exD : xD X = D) (excy : xcy X = cy) (hnL : xnL X = 7) (hX : Cx X B 3 cX11_unit yX11_unit.cls) (hret : ∀ (pc : Nat) (lv : List (Nat × Value)) (z : Int) (M' : MM), decode cX11_unit pc = .ok (.ireturn, 1) → narrow .boolean (iv z) = iv z → I32 z → (fun z M' => Iv M' ∧ Fr (fun a b => (a = 210 ∧ 4 ≤ b ∧ b ≤ 10) ∨ (a = 210 ∧ 42 ≤ b ∧ b ≤ 45) ∨ (a = 237 ∧ cd ≤ b ∧ b ≤ cd) ∨ (a = 238 ∧ cd ≤ b ∧ b ≤ cd) ∨ (a = 239 ∧ np ≤ b ∧ b ≤ np) ∨ (a = 240 ∧ np ≤ b ∧ b ≤ np) ∨ (a = 216)) M M' ∧ (0 ≤ z ∧ z ≤ 1) ∧ (ML (m - 1) M') ∧ (M'.1 210 44 ≤ np + 1) ∧ (M'.1 210 4 = 0 → PT z lo M')) z M' → J X B N 0 0 pc lv [iv z] M') : ∀ (x1 x2 x3 x4 x5 : Int), ∀ (Mc : MM), I32 x1 → I32 x2 → I32 x3 → I32 x4 → I32 x5 → Iv Mc → Fr (fun a b => (a = 210 ∧ 4 ≤ b ∧ b ≤ 10) ∨ (a = 210 ∧ 42 ≤ b ∧ b ≤ 45) ∨ (a = 237 ∧ cd ≤ b ∧ b ≤ cd) ∨ (a = 238 ∧ cd ≤ b ∧ b ≤ cd) ∨ (a = 239 ∧ np ≤ b ∧ b ≤ np) ∨ (a = 240 ∧ np ≤ b ∧ b ≤ np) ∨ (a = 216)) M Mc → Mc.1 210 44 = np → Mc.1 210 42 = cd → Mc.1 210 8 = tk → Mc.1 210 43 = wi → Mc.1 210 45 = uu → Mc.1 210 41 = w → Mc.1 216 w = un → Mc.1 210 4 = fk → ML m Mc → (0 ≤ x2 ∧ x2 ≤ 1 ∧ 0 ≤ x3 ∧ x3 ≤ 1 ∧ 0 ≤ x5 ∧ x5 ≤ 1) → (Imp (x2 = 1) (tk = 3)) → (Imp (x3 = 1) (tk = 5)) → (Imp (x4 ≠ 0) (97 ≤ x4 ∧ x4 ≤ 122 ∧ tk = 3)) → (Imp (x5 = 0) (un ≤ 59 ∧ uu ≤ 29)) → J X B N 0 0 100 [(0, rv B 210), (1, iv x1), (2, iv x2), (3, iv x3), (4, iv x4), (5, iv x5)] [] Mc := by
  have hI := hI0
  have hce : 0 + 0 ≤ (xR X).cells ∧ 0 + 0 ≤ (xR X).slots := ⟨Nat.zero_le _, Nat.zero_le _⟩
  have hwr : 0 ≤ wi ∧ wi ≤ 7 := by have := hI.at 210 43 ro_210_43; omega
  have hur : 0 ≤ uu ∧ uu ≤ 30 := by have := hI.at 210 45 ro_210_45; omega
  have hpb := PS_b hPS (Or.inl rfl) (by omega) (by omega)
  have htkr : -2147483648 ≤ tk ∧ tk ≤ 2147483647 := by have := hI.at 210 8 ro_210_8; omega
  have hwb : 0 ≤ w ∧ w ≤ 1 := by have := hI.at 210 41 ro_210_41; omega
  have hunb : 0 ≤ un ∧ un ≤ 60 := by have := hI.at 216 w (ra_216 _); omega
  intro x1 x2 x3 x4 x5 Mc hxx1 hxx2 hxx3 hxx4 hxx5 hI hF hk_0 hk_1 hk_2 hk_3 hk_4 hk_5 hk_6 hk_7 hV_0 h2 h3 h4 h5 h6
  refine j_iload_n hX dX11_unit_100 rfl 2 rfl ?_
  refine j_if_ne (tgt := 126) hX dX11_unit_101 (by decide) (by omega) (fun hc473 => ?_) (fun hc473 => ?_)
  · skip
    refine j_iload_n hX dX11_unit_126 rfl 2 rfl ?_
    refine j_if_ne (tgt := 134) hX dX11_unit_127 (by decide) (by omega) (fun hc474 => ?_) (fun hc474 => ?_)
    · skip
      refine j_aload_n hX dX11_unit_134 rfl 0 rfl ?_
      refine gf_X11_341 hX (by omega) (by omega) kc_210 dX11_unit_135 ?_
      refine j_top hk_3 ?_
      refine j_bipush hX dX11_unit_138 rfl ?_
      refine j_icmp_ne (tgt := 147) hX dX11_unit_140 (by decide) (by omega) (by omega) (fun hc475 => ?_) (fun hc475 => ?_)
      · skip
        exact k_X11_unit_147 l D cy B N m lo np cd tk wi uu w un fk  M hN hI0 hunp hucd hutk huwi huuu huw huun hufk hML hPS h1 X exl exD excy hnL hX hret _ _ _ _ _ _ _ (by omega) (by omega) (by omega) (by omega) (by omega) hI hF hk_0 hk_1 hk_2 hk_3 hk_4 hk_5 hk_6 hk_7 hV_0 (by first | assumption | omega) (by first | assumption | omega) (by first | assumption | omega) (by first | assumption | omega) (by first | exact fun h => absurd h (by omega) | exact fun _ => h6 (by omega)) (by first | exact fun h => absurd h (by omega) | exact fun _ => by omega | exact fun _ => by have := h3 (by omega); omega | exact fun _ => by have := h5 (by omega); omega | exact fun _ => by have := h4 (by omega); omega) (by first | exact fun h => absurd h (by omega) | exact fun _ => by omega)
      · skip
        refine j_aload_n hX dX11_unit_143 rfl 0 rfl ?_
        refine j_callVV hX lk_X11_256 (c_X11_misplaced _ _ _ _ _ _ _ (by omega) hI hV_0) (by omega) hce rfl rfl (by omega) (by omega) kc_210 rfl rfl (Nat.le_of_ble_eq_true rfl) dX11_unit_144 (fun M477 hp478 => ?_)
        obtain ⟨hI481, hG482, hq483, hq484⟩ := hp478
        have hk486 := kp_fr hG482 (fun h => absurd h.2.2 (by decide)) hk_0
        have hk487 := kp_fr hG482 (fun h => absurd h.2.2 (by decide)) hk_1
        have hk488 := kp_fr hG482 (fun h => absurd h.2.2 (by decide)) hk_2
        have hk489 := kp_fr hG482 (fun h => absurd h.2.2 (by decide)) hk_3
        have hk490 := kp_fr hG482 (fun h => absurd h.2.2 (by decide)) hk_4
        have hk491 := kp_fr hG482 (fun h => absurd h.2.2 (by decide)) hk_5
        have hk492 := kp_fr hG482 (fun h => absurd h.1 (by decide)) hk_6
        have hF493 := Fr.trans hF hG482 (fun a b h => (Or.inl ⟨h.1, Int.le_trans (by decide) h.2.1, Int.le_trans h.2.2 (by decide)⟩))
        exact k_X11_unit_147 l D cy B N m lo np cd tk wi uu w un fk  M hN hI0 hunp hucd hutk huwi huuu huw huun hufk hML hPS h1 X exl exD excy hnL hX hret _ _ _ _ _ _ _ (by omega) (by omega) (by omega) (by omega) (by omega) hI481 hF493 hk486 hk487 hk488 hk489 hk490 hk491 hk492 (by first | assumption | rfl) hq483 (by first | assumption | omega) (by first | assumption | omega) (by first | assumption | omega) (by first | assumption | omega) (by first | exact fun h => absurd h (by omega) | exact fun _ => h6 (by omega)) (by first | exact fun h => absurd h (by omega) | exact fun _ => by omega | exact fun _ => by have := h3 (by omega); omega | exact fun _ => by have := h5 (by omega); omega | exact fun _ => by have := h4 (by omega); omega) (by first | exact fun h => absurd h (by omega) | exact fun _ => by omega)
    · skip
      refine j_iload_n hX dX11_unit_130 rfl 3 rfl ?_
      refine j_if_eq (tgt := 147) hX dX11_unit_131 (by decide) (by omega) (fun hc494 => ?_) (fun hc494 => ?_)
      · skip
        exact k_X11_unit_147 l D cy B N m lo np cd tk wi uu w un fk  M hN hI0 hunp hucd hutk huwi huuu huw huun hufk hML hPS h1 X exl exD excy hnL hX hret _ _ _ _ _ _ _ (by omega) (by omega) (by omega) (by omega) (by omega) hI hF hk_0 hk_1 hk_2 hk_3 hk_4 hk_5 hk_6 hk_7 hV_0 (by first | assumption | omega) (by first | assumption | omega) (by first | assumption | omega) (by first | assumption | omega) (by first | exact fun h => absurd h (by omega) | exact fun _ => h6 (by omega)) (by first | exact fun h => absurd h (by omega) | exact fun _ => by omega | exact fun _ => by have := h3 (by omega); omega | exact fun _ => by have := h5 (by omega); omega | exact fun _ => by have := h4 (by omega); omega) (by first | exact fun h => absurd h (by omega) | exact fun _ => by omega)
      · skip
        refine j_aload_n hX dX11_unit_134 rfl 0 rfl ?_
        refine gf_X11_341 hX (by omega) (by omega) kc_210 dX11_unit_135 ?_
        refine j_top hk_3 ?_
        refine j_bipush hX dX11_unit_138 rfl ?_
        refine j_icmp_ne (tgt := 147) hX dX11_unit_140 (by decide) (by omega) (by omega) (fun hc495 => ?_) (fun hc495 => ?_)
        · skip
          exact k_X11_unit_147 l D cy B N m lo np cd tk wi uu w un fk  M hN hI0 hunp hucd hutk huwi huuu huw huun hufk hML hPS h1 X exl exD excy hnL hX hret _ _ _ _ _ _ _ (by omega) (by omega) (by omega) (by omega) (by omega) hI hF hk_0 hk_1 hk_2 hk_3 hk_4 hk_5 hk_6 hk_7 hV_0 (by first | assumption | omega) (by first | assumption | omega) (by first | assumption | omega) (by first | assumption | omega) (by first | exact fun h => absurd h (by omega) | exact fun _ => h6 (by omega)) (by first | exact fun h => absurd h (by omega) | exact fun _ => by omega | exact fun _ => by have := h3 (by omega); omega | exact fun _ => by have := h5 (by omega); omega | exact fun _ => by have := h4 (by omega); omega) (by first | exact fun h => absurd h (by omega) | exact fun _ => by omega)
        · skip
          refine j_aload_n hX dX11_unit_143 rfl 0 rfl ?_
          refine j_callVV hX lk_X11_256 (c_X11_misplaced _ _ _ _ _ _ _ (by omega) hI hV_0) (by omega) hce rfl rfl (by omega) (by omega) kc_210 rfl rfl (Nat.le_of_ble_eq_true rfl) dX11_unit_144 (fun M497 hp498 => ?_)
          obtain ⟨hI501, hG502, hq503, hq504⟩ := hp498
          have hk506 := kp_fr hG502 (fun h => absurd h.2.2 (by decide)) hk_0
          have hk507 := kp_fr hG502 (fun h => absurd h.2.2 (by decide)) hk_1
          have hk508 := kp_fr hG502 (fun h => absurd h.2.2 (by decide)) hk_2
          have hk509 := kp_fr hG502 (fun h => absurd h.2.2 (by decide)) hk_3
          have hk510 := kp_fr hG502 (fun h => absurd h.2.2 (by decide)) hk_4
          have hk511 := kp_fr hG502 (fun h => absurd h.2.2 (by decide)) hk_5
          have hk512 := kp_fr hG502 (fun h => absurd h.1 (by decide)) hk_6
          have hF513 := Fr.trans hF hG502 (fun a b h => (Or.inl ⟨h.1, Int.le_trans (by decide) h.2.1, Int.le_trans h.2.2 (by decide)⟩))
          exact k_X11_unit_147 l D cy B N m lo np cd tk wi uu w un fk  M hN hI0 hunp hucd hutk huwi huuu huw huun hufk hML hPS h1 X exl exD excy hnL hX hret _ _ _ _ _ _ _ (by omega) (by omega) (by omega) (by omega) (by omega) hI501 hF513 hk506 hk507 hk508 hk509 hk510 hk511 hk512 (by first | assumption | rfl) hq503 (by first | assumption | omega) (by first | assumption | omega) (by first | assumption | omega) (by first | assumption | omega) (by first | exact fun h => absurd h (by omega) | exact fun _ => h6 (by omega)) (by first | exact fun h => absurd h (by omega) | exact fun _ => by omega | exact fun _ => by have := h3 (by omega); omega | exact fun _ => by have := h5 (by omega); omega | exact fun _ => by have := h4 (by omega); omega) (by first | exact fun h => absurd h (by omega) | exact fun _ => by omega)
  · skip
    refine j_iload hX dX11_unit_104 4 rfl ?_
    refine j_if_ne (tgt := 121) hX dX11_unit_106 (by decide) (by omega) (fun hc514 => ?_) (fun hc514 => ?_)
    · skip
      refine j_iload hX dX11_unit_121 5 rfl ?_
      refine j_if_ne (tgt := 143) hX dX11_unit_123 (by decide) (by omega) (fun hc515 => ?_) (fun hc515 => ?_)
      · skip
        refine j_aload_n hX dX11_unit_143 rfl 0 rfl ?_
        refine j_callVV hX lk_X11_256 (c_X11_misplaced _ _ _ _ _ _ _ (by omega) hI hV_0) (by omega) hce rfl rfl (by omega) (by omega) kc_210 rfl rfl (Nat.le_of_ble_eq_true rfl) dX11_unit_144 (fun M517 hp518 => ?_)
        obtain ⟨hI521, hG522, hq523, hq524⟩ := hp518
        have hk526 := kp_fr hG522 (fun h => absurd h.2.2 (by decide)) hk_0
        have hk527 := kp_fr hG522 (fun h => absurd h.2.2 (by decide)) hk_1
        have hk528 := kp_fr hG522 (fun h => absurd h.2.2 (by decide)) hk_2
        have hk529 := kp_fr hG522 (fun h => absurd h.2.2 (by decide)) hk_3
        have hk530 := kp_fr hG522 (fun h => absurd h.2.2 (by decide)) hk_4
        have hk531 := kp_fr hG522 (fun h => absurd h.2.2 (by decide)) hk_5
        have hk532 := kp_fr hG522 (fun h => absurd h.1 (by decide)) hk_6
        have hF533 := Fr.trans hF hG522 (fun a b h => (Or.inl ⟨h.1, Int.le_trans (by decide) h.2.1, Int.le_trans h.2.2 (by decide)⟩))
        exact k_X11_unit_147 l D cy B N m lo np cd tk wi uu w un fk  M hN hI0 hunp hucd hutk huwi huuu huw huun hufk hML hPS h1 X exl exD excy hnL hX hret _ _ _ _ _ _ _ (by omega) (by omega) (by omega) (by omega) (by omega) hI521 hF533 hk526 hk527 hk528 hk529 hk530 hk531 hk532 (by first | assumption | rfl) hq523 (by first | assumption | omega) (by first | assumption | omega) (by first | assumption | omega) (by first | assumption | omega) (by first | exact fun h => absurd h (by omega) | exact fun _ => h6 (by omega)) (by first | exact fun h => absurd h (by omega) | exact fun _ => by omega | exact fun _ => by have := h3 (by omega); omega | exact fun _ => by have := h5 (by omega); omega | exact fun _ => by have := h4 (by omega); omega) (by first | exact fun h => absurd h (by omega) | exact fun _ => by omega)
      · skip
        refine j_iload_n hX dX11_unit_126 rfl 2 rfl ?_
        refine j_if_ne (tgt := 134) hX dX11_unit_127 (by decide) (by omega) (fun hc534 => ?_) (fun hc534 => ?_)
        · skip
          refine j_aload_n hX dX11_unit_134 rfl 0 rfl ?_
          refine gf_X11_341 hX (by omega) (by omega) kc_210 dX11_unit_135 ?_
          refine j_top hk_3 ?_
          refine j_bipush hX dX11_unit_138 rfl ?_
          refine j_icmp_ne (tgt := 147) hX dX11_unit_140 (by decide) (by omega) (by omega) (fun hc535 => ?_) (fun hc535 => ?_)
          · skip
            exact k_X11_unit_147 l D cy B N m lo np cd tk wi uu w un fk  M hN hI0 hunp hucd hutk huwi huuu huw huun hufk hML hPS h1 X exl exD excy hnL hX hret _ _ _ _ _ _ _ (by omega) (by omega) (by omega) (by omega) (by omega) hI hF hk_0 hk_1 hk_2 hk_3 hk_4 hk_5 hk_6 hk_7 hV_0 (by first | assumption | omega) (by first | assumption | omega) (by first | assumption | omega) (by first | assumption | omega) (by first | exact fun h => absurd h (by omega) | exact fun _ => h6 (by omega)) (by first | exact fun h => absurd h (by omega) | exact fun _ => by omega | exact fun _ => by have := h3 (by omega); omega | exact fun _ => by have := h5 (by omega); omega | exact fun _ => by have := h4 (by omega); omega) (by first | exact fun h => absurd h (by omega) | exact fun _ => by omega)
          · skip
            refine j_aload_n hX dX11_unit_143 rfl 0 rfl ?_
            refine j_callVV hX lk_X11_256 (c_X11_misplaced _ _ _ _ _ _ _ (by omega) hI hV_0) (by omega) hce rfl rfl (by omega) (by omega) kc_210 rfl rfl (Nat.le_of_ble_eq_true rfl) dX11_unit_144 (fun M537 hp538 => ?_)
            obtain ⟨hI541, hG542, hq543, hq544⟩ := hp538
            have hk546 := kp_fr hG542 (fun h => absurd h.2.2 (by decide)) hk_0
            have hk547 := kp_fr hG542 (fun h => absurd h.2.2 (by decide)) hk_1
            have hk548 := kp_fr hG542 (fun h => absurd h.2.2 (by decide)) hk_2
            have hk549 := kp_fr hG542 (fun h => absurd h.2.2 (by decide)) hk_3
            have hk550 := kp_fr hG542 (fun h => absurd h.2.2 (by decide)) hk_4
            have hk551 := kp_fr hG542 (fun h => absurd h.2.2 (by decide)) hk_5
            have hk552 := kp_fr hG542 (fun h => absurd h.1 (by decide)) hk_6
            have hF553 := Fr.trans hF hG542 (fun a b h => (Or.inl ⟨h.1, Int.le_trans (by decide) h.2.1, Int.le_trans h.2.2 (by decide)⟩))
            exact k_X11_unit_147 l D cy B N m lo np cd tk wi uu w un fk  M hN hI0 hunp hucd hutk huwi huuu huw huun hufk hML hPS h1 X exl exD excy hnL hX hret _ _ _ _ _ _ _ (by omega) (by omega) (by omega) (by omega) (by omega) hI541 hF553 hk546 hk547 hk548 hk549 hk550 hk551 hk552 (by first | assumption | rfl) hq543 (by first | assumption | omega) (by first | assumption | omega) (by first | assumption | omega) (by first | assumption | omega) (by first | exact fun h => absurd h (by omega) | exact fun _ => h6 (by omega)) (by first | exact fun h => absurd h (by omega) | exact fun _ => by omega | exact fun _ => by have := h3 (by omega); omega | exact fun _ => by have := h5 (by omega); omega | exact fun _ => by have := h4 (by omega); omega) (by first | exact fun h => absurd h (by omega) | exact fun _ => by omega)
        · skip
          refine j_iload_n hX dX11_unit_130 rfl 3 rfl ?_
          refine j_if_eq (tgt := 147) hX dX11_unit_131 (by decide) (by omega) (fun hc554 => ?_) (fun hc554 => ?_)
          · skip
            exact k_X11_unit_147 l D cy B N m lo np cd tk wi uu w un fk  M hN hI0 hunp hucd hutk huwi huuu huw huun hufk hML hPS h1 X exl exD excy hnL hX hret _ _ _ _ _ _ _ (by omega) (by omega) (by omega) (by omega) (by omega) hI hF hk_0 hk_1 hk_2 hk_3 hk_4 hk_5 hk_6 hk_7 hV_0 (by first | assumption | omega) (by first | assumption | omega) (by first | assumption | omega) (by first | assumption | omega) (by first | exact fun h => absurd h (by omega) | exact fun _ => h6 (by omega)) (by first | exact fun h => absurd h (by omega) | exact fun _ => by omega | exact fun _ => by have := h3 (by omega); omega | exact fun _ => by have := h5 (by omega); omega | exact fun _ => by have := h4 (by omega); omega) (by first | exact fun h => absurd h (by omega) | exact fun _ => by omega)
          · skip
            refine j_aload_n hX dX11_unit_134 rfl 0 rfl ?_
            refine gf_X11_341 hX (by omega) (by omega) kc_210 dX11_unit_135 ?_
            refine j_top hk_3 ?_
            refine j_bipush hX dX11_unit_138 rfl ?_
            refine j_icmp_ne (tgt := 147) hX dX11_unit_140 (by decide) (by omega) (by omega) (fun hc555 => ?_) (fun hc555 => ?_)
            · skip
              exact k_X11_unit_147 l D cy B N m lo np cd tk wi uu w un fk  M hN hI0 hunp hucd hutk huwi huuu huw huun hufk hML hPS h1 X exl exD excy hnL hX hret _ _ _ _ _ _ _ (by omega) (by omega) (by omega) (by omega) (by omega) hI hF hk_0 hk_1 hk_2 hk_3 hk_4 hk_5 hk_6 hk_7 hV_0 (by first | assumption | omega) (by first | assumption | omega) (by first | assumption | omega) (by first | assumption | omega) (by first | exact fun h => absurd h (by omega) | exact fun _ => h6 (by omega)) (by first | exact fun h => absurd h (by omega) | exact fun _ => by omega | exact fun _ => by have := h3 (by omega); omega | exact fun _ => by have := h5 (by omega); omega | exact fun _ => by have := h4 (by omega); omega) (by first | exact fun h => absurd h (by omega) | exact fun _ => by omega)
            · skip
              refine j_aload_n hX dX11_unit_143 rfl 0 rfl ?_
              refine j_callVV hX lk_X11_256 (c_X11_misplaced _ _ _ _ _ _ _ (by omega) hI hV_0) (by omega) hce rfl rfl (by omega) (by omega) kc_210 rfl rfl (Nat.le_of_ble_eq_true rfl) dX11_unit_144 (fun M557 hp558 => ?_)
              obtain ⟨hI561, hG562, hq563, hq564⟩ := hp558
              have hk566 := kp_fr hG562 (fun h => absurd h.2.2 (by decide)) hk_0
              have hk567 := kp_fr hG562 (fun h => absurd h.2.2 (by decide)) hk_1
              have hk568 := kp_fr hG562 (fun h => absurd h.2.2 (by decide)) hk_2
              have hk569 := kp_fr hG562 (fun h => absurd h.2.2 (by decide)) hk_3
              have hk570 := kp_fr hG562 (fun h => absurd h.2.2 (by decide)) hk_4
              have hk571 := kp_fr hG562 (fun h => absurd h.2.2 (by decide)) hk_5
              have hk572 := kp_fr hG562 (fun h => absurd h.1 (by decide)) hk_6
              have hF573 := Fr.trans hF hG562 (fun a b h => (Or.inl ⟨h.1, Int.le_trans (by decide) h.2.1, Int.le_trans h.2.2 (by decide)⟩))
              exact k_X11_unit_147 l D cy B N m lo np cd tk wi uu w un fk  M hN hI0 hunp hucd hutk huwi huuu huw huun hufk hML hPS h1 X exl exD excy hnL hX hret _ _ _ _ _ _ _ (by omega) (by omega) (by omega) (by omega) (by omega) hI561 hF573 hk566 hk567 hk568 hk569 hk570 hk571 hk572 (by first | assumption | rfl) hq563 (by first | assumption | omega) (by first | assumption | omega) (by first | assumption | omega) (by first | assumption | omega) (by first | exact fun h => absurd h (by omega) | exact fun _ => h6 (by omega)) (by first | exact fun h => absurd h (by omega) | exact fun _ => by omega | exact fun _ => by have := h3 (by omega); omega | exact fun _ => by have := h5 (by omega); omega | exact fun _ => by have := h4 (by omega); omega) (by first | exact fun h => absurd h (by omega) | exact fun _ => by omega)
    · skip
      refine j_aload_n hX dX11_unit_109 rfl 0 rfl ?_
      refine gf_X11_221 hX (by omega) (by omega) kc_210 dX11_unit_110 ?_
      refine j_top hk_2 ?_
      refine j_iconst hX dX11_unit_113 ?_
      refine j_icmp_eq (tgt := 121) hX dX11_unit_114 (by decide) (by omega) (by omega) (fun hc574 => ?_) (fun hc574 => ?_)
      · skip
        refine j_iload hX dX11_unit_121 5 rfl ?_
        refine j_if_ne (tgt := 143) hX dX11_unit_123 (by decide) (by omega) (fun hc575 => ?_) (fun hc575 => ?_)
        · skip
          refine j_aload_n hX dX11_unit_143 rfl 0 rfl ?_
          refine j_callVV hX lk_X11_256 (c_X11_misplaced _ _ _ _ _ _ _ (by omega) hI hV_0) (by omega) hce rfl rfl (by omega) (by omega) kc_210 rfl rfl (Nat.le_of_ble_eq_true rfl) dX11_unit_144 (fun M577 hp578 => ?_)
          obtain ⟨hI581, hG582, hq583, hq584⟩ := hp578
          have hk586 := kp_fr hG582 (fun h => absurd h.2.2 (by decide)) hk_0
          have hk587 := kp_fr hG582 (fun h => absurd h.2.2 (by decide)) hk_1
          have hk588 := kp_fr hG582 (fun h => absurd h.2.2 (by decide)) hk_2
          have hk589 := kp_fr hG582 (fun h => absurd h.2.2 (by decide)) hk_3
          have hk590 := kp_fr hG582 (fun h => absurd h.2.2 (by decide)) hk_4
          have hk591 := kp_fr hG582 (fun h => absurd h.2.2 (by decide)) hk_5
          have hk592 := kp_fr hG582 (fun h => absurd h.1 (by decide)) hk_6
          have hF593 := Fr.trans hF hG582 (fun a b h => (Or.inl ⟨h.1, Int.le_trans (by decide) h.2.1, Int.le_trans h.2.2 (by decide)⟩))
          exact k_X11_unit_147 l D cy B N m lo np cd tk wi uu w un fk  M hN hI0 hunp hucd hutk huwi huuu huw huun hufk hML hPS h1 X exl exD excy hnL hX hret _ _ _ _ _ _ _ (by omega) (by omega) (by omega) (by omega) (by omega) hI581 hF593 hk586 hk587 hk588 hk589 hk590 hk591 hk592 (by first | assumption | rfl) hq583 (by first | assumption | omega) (by first | assumption | omega) (by first | assumption | omega) (by first | assumption | omega) (by first | exact fun h => absurd h (by omega) | exact fun _ => h6 (by omega)) (by first | exact fun h => absurd h (by omega) | exact fun _ => by omega | exact fun _ => by have := h3 (by omega); omega | exact fun _ => by have := h5 (by omega); omega | exact fun _ => by have := h4 (by omega); omega) (by first | exact fun h => absurd h (by omega) | exact fun _ => by omega)
        · skip
          refine j_iload_n hX dX11_unit_126 rfl 2 rfl ?_
          refine j_if_ne (tgt := 134) hX dX11_unit_127 (by decide) (by omega) (fun hc594 => ?_) (fun hc594 => ?_)
          · skip
            refine j_aload_n hX dX11_unit_134 rfl 0 rfl ?_
            refine gf_X11_341 hX (by omega) (by omega) kc_210 dX11_unit_135 ?_
            refine j_top hk_3 ?_
            refine j_bipush hX dX11_unit_138 rfl ?_
            refine j_icmp_ne (tgt := 147) hX dX11_unit_140 (by decide) (by omega) (by omega) (fun hc595 => ?_) (fun hc595 => ?_)
            · skip
              exact k_X11_unit_147 l D cy B N m lo np cd tk wi uu w un fk  M hN hI0 hunp hucd hutk huwi huuu huw huun hufk hML hPS h1 X exl exD excy hnL hX hret _ _ _ _ _ _ _ (by omega) (by omega) (by omega) (by omega) (by omega) hI hF hk_0 hk_1 hk_2 hk_3 hk_4 hk_5 hk_6 hk_7 hV_0 (by first | assumption | omega) (by first | assumption | omega) (by first | assumption | omega) (by first | assumption | omega) (by first | exact fun h => absurd h (by omega) | exact fun _ => h6 (by omega)) (by first | exact fun h => absurd h (by omega) | exact fun _ => by omega | exact fun _ => by have := h3 (by omega); omega | exact fun _ => by have := h5 (by omega); omega | exact fun _ => by have := h4 (by omega); omega) (by first | exact fun h => absurd h (by omega) | exact fun _ => by omega)
            · skip
              refine j_aload_n hX dX11_unit_143 rfl 0 rfl ?_
              refine j_callVV hX lk_X11_256 (c_X11_misplaced _ _ _ _ _ _ _ (by omega) hI hV_0) (by omega) hce rfl rfl (by omega) (by omega) kc_210 rfl rfl (Nat.le_of_ble_eq_true rfl) dX11_unit_144 (fun M597 hp598 => ?_)
              obtain ⟨hI601, hG602, hq603, hq604⟩ := hp598
              have hk606 := kp_fr hG602 (fun h => absurd h.2.2 (by decide)) hk_0
              have hk607 := kp_fr hG602 (fun h => absurd h.2.2 (by decide)) hk_1
              have hk608 := kp_fr hG602 (fun h => absurd h.2.2 (by decide)) hk_2
              have hk609 := kp_fr hG602 (fun h => absurd h.2.2 (by decide)) hk_3
              have hk610 := kp_fr hG602 (fun h => absurd h.2.2 (by decide)) hk_4
              have hk611 := kp_fr hG602 (fun h => absurd h.2.2 (by decide)) hk_5
              have hk612 := kp_fr hG602 (fun h => absurd h.1 (by decide)) hk_6
              have hF613 := Fr.trans hF hG602 (fun a b h => (Or.inl ⟨h.1, Int.le_trans (by decide) h.2.1, Int.le_trans h.2.2 (by decide)⟩))
              exact k_X11_unit_147 l D cy B N m lo np cd tk wi uu w un fk  M hN hI0 hunp hucd hutk huwi huuu huw huun hufk hML hPS h1 X exl exD excy hnL hX hret _ _ _ _ _ _ _ (by omega) (by omega) (by omega) (by omega) (by omega) hI601 hF613 hk606 hk607 hk608 hk609 hk610 hk611 hk612 (by first | assumption | rfl) hq603 (by first | assumption | omega) (by first | assumption | omega) (by first | assumption | omega) (by first | assumption | omega) (by first | exact fun h => absurd h (by omega) | exact fun _ => h6 (by omega)) (by first | exact fun h => absurd h (by omega) | exact fun _ => by omega | exact fun _ => by have := h3 (by omega); omega | exact fun _ => by have := h5 (by omega); omega | exact fun _ => by have := h4 (by omega); omega) (by first | exact fun h => absurd h (by omega) | exact fun _ => by omega)
          · skip
            refine j_iload_n hX dX11_unit_130 rfl 3 rfl ?_
            refine j_if_eq (tgt := 147) hX dX11_unit_131 (by decide) (by omega) (fun hc614 => ?_) (fun hc614 => ?_)
            · skip
              exact k_X11_unit_147 l D cy B N m lo np cd tk wi uu w un fk  M hN hI0 hunp hucd hutk huwi huuu huw huun hufk hML hPS h1 X exl exD excy hnL hX hret _ _ _ _ _ _ _ (by omega) (by omega) (by omega) (by omega) (by omega) hI hF hk_0 hk_1 hk_2 hk_3 hk_4 hk_5 hk_6 hk_7 hV_0 (by first | assumption | omega) (by first | assumption | omega) (by first | assumption | omega) (by first | assumption | omega) (by first | exact fun h => absurd h (by omega) | exact fun _ => h6 (by omega)) (by first | exact fun h => absurd h (by omega) | exact fun _ => by omega | exact fun _ => by have := h3 (by omega); omega | exact fun _ => by have := h5 (by omega); omega | exact fun _ => by have := h4 (by omega); omega) (by first | exact fun h => absurd h (by omega) | exact fun _ => by omega)
            · skip
              refine j_aload_n hX dX11_unit_134 rfl 0 rfl ?_
              refine gf_X11_341 hX (by omega) (by omega) kc_210 dX11_unit_135 ?_
              refine j_top hk_3 ?_
              refine j_bipush hX dX11_unit_138 rfl ?_
              refine j_icmp_ne (tgt := 147) hX dX11_unit_140 (by decide) (by omega) (by omega) (fun hc615 => ?_) (fun hc615 => ?_)
              · skip
                exact k_X11_unit_147 l D cy B N m lo np cd tk wi uu w un fk  M hN hI0 hunp hucd hutk huwi huuu huw huun hufk hML hPS h1 X exl exD excy hnL hX hret _ _ _ _ _ _ _ (by omega) (by omega) (by omega) (by omega) (by omega) hI hF hk_0 hk_1 hk_2 hk_3 hk_4 hk_5 hk_6 hk_7 hV_0 (by first | assumption | omega) (by first | assumption | omega) (by first | assumption | omega) (by first | assumption | omega) (by first | exact fun h => absurd h (by omega) | exact fun _ => h6 (by omega)) (by first | exact fun h => absurd h (by omega) | exact fun _ => by omega | exact fun _ => by have := h3 (by omega); omega | exact fun _ => by have := h5 (by omega); omega | exact fun _ => by have := h4 (by omega); omega) (by first | exact fun h => absurd h (by omega) | exact fun _ => by omega)
              · skip
                refine j_aload_n hX dX11_unit_143 rfl 0 rfl ?_
                refine j_callVV hX lk_X11_256 (c_X11_misplaced _ _ _ _ _ _ _ (by omega) hI hV_0) (by omega) hce rfl rfl (by omega) (by omega) kc_210 rfl rfl (Nat.le_of_ble_eq_true rfl) dX11_unit_144 (fun M617 hp618 => ?_)
                obtain ⟨hI621, hG622, hq623, hq624⟩ := hp618
                have hk626 := kp_fr hG622 (fun h => absurd h.2.2 (by decide)) hk_0
                have hk627 := kp_fr hG622 (fun h => absurd h.2.2 (by decide)) hk_1
                have hk628 := kp_fr hG622 (fun h => absurd h.2.2 (by decide)) hk_2
                have hk629 := kp_fr hG622 (fun h => absurd h.2.2 (by decide)) hk_3
                have hk630 := kp_fr hG622 (fun h => absurd h.2.2 (by decide)) hk_4
                have hk631 := kp_fr hG622 (fun h => absurd h.2.2 (by decide)) hk_5
                have hk632 := kp_fr hG622 (fun h => absurd h.1 (by decide)) hk_6
                have hF633 := Fr.trans hF hG622 (fun a b h => (Or.inl ⟨h.1, Int.le_trans (by decide) h.2.1, Int.le_trans h.2.2 (by decide)⟩))
                exact k_X11_unit_147 l D cy B N m lo np cd tk wi uu w un fk  M hN hI0 hunp hucd hutk huwi huuu huw huun hufk hML hPS h1 X exl exD excy hnL hX hret _ _ _ _ _ _ _ (by omega) (by omega) (by omega) (by omega) (by omega) hI621 hF633 hk626 hk627 hk628 hk629 hk630 hk631 hk632 (by first | assumption | rfl) hq623 (by first | assumption | omega) (by first | assumption | omega) (by first | assumption | omega) (by first | assumption | omega) (by first | exact fun h => absurd h (by omega) | exact fun _ => h6 (by omega)) (by first | exact fun h => absurd h (by omega) | exact fun _ => by omega | exact fun _ => by have := h3 (by omega); omega | exact fun _ => by have := h5 (by omega); omega | exact fun _ => by have := h4 (by omega); omega) (by first | exact fun h => absurd h (by omega) | exact fun _ => by omega)
      · skip
        refine j_iload_n hX dX11_unit_117 rfl 3 rfl ?_
        refine j_if_eq (tgt := 143) hX dX11_unit_118 (by decide) (by omega) (fun hc634 => ?_) (fun hc634 => ?_)
        · skip
          refine j_aload_n hX dX11_unit_143 rfl 0 rfl ?_
          refine j_callVV hX lk_X11_256 (c_X11_misplaced _ _ _ _ _ _ _ (by omega) hI hV_0) (by omega) hce rfl rfl (by omega) (by omega) kc_210 rfl rfl (Nat.le_of_ble_eq_true rfl) dX11_unit_144 (fun M636 hp637 => ?_)
          obtain ⟨hI640, hG641, hq642, hq643⟩ := hp637
          have hk645 := kp_fr hG641 (fun h => absurd h.2.2 (by decide)) hk_0
          have hk646 := kp_fr hG641 (fun h => absurd h.2.2 (by decide)) hk_1
          have hk647 := kp_fr hG641 (fun h => absurd h.2.2 (by decide)) hk_2
          have hk648 := kp_fr hG641 (fun h => absurd h.2.2 (by decide)) hk_3
          have hk649 := kp_fr hG641 (fun h => absurd h.2.2 (by decide)) hk_4
          have hk650 := kp_fr hG641 (fun h => absurd h.2.2 (by decide)) hk_5
          have hk651 := kp_fr hG641 (fun h => absurd h.1 (by decide)) hk_6
          have hF652 := Fr.trans hF hG641 (fun a b h => (Or.inl ⟨h.1, Int.le_trans (by decide) h.2.1, Int.le_trans h.2.2 (by decide)⟩))
          exact k_X11_unit_147 l D cy B N m lo np cd tk wi uu w un fk  M hN hI0 hunp hucd hutk huwi huuu huw huun hufk hML hPS h1 X exl exD excy hnL hX hret _ _ _ _ _ _ _ (by omega) (by omega) (by omega) (by omega) (by omega) hI640 hF652 hk645 hk646 hk647 hk648 hk649 hk650 hk651 (by first | assumption | rfl) hq642 (by first | assumption | omega) (by first | assumption | omega) (by first | assumption | omega) (by first | assumption | omega) (by first | exact fun h => absurd h (by omega) | exact fun _ => h6 (by omega)) (by first | exact fun h => absurd h (by omega) | exact fun _ => by omega | exact fun _ => by have := h3 (by omega); omega | exact fun _ => by have := h5 (by omega); omega | exact fun _ => by have := h4 (by omega); omega) (by first | exact fun h => absurd h (by omega) | exact fun _ => by omega)
        · skip
          refine j_iload hX dX11_unit_121 5 rfl ?_
          refine j_if_ne (tgt := 143) hX dX11_unit_123 (by decide) (by omega) (fun hc653 => ?_) (fun hc653 => ?_)
          · skip
            refine j_aload_n hX dX11_unit_143 rfl 0 rfl ?_
            refine j_callVV hX lk_X11_256 (c_X11_misplaced _ _ _ _ _ _ _ (by omega) hI hV_0) (by omega) hce rfl rfl (by omega) (by omega) kc_210 rfl rfl (Nat.le_of_ble_eq_true rfl) dX11_unit_144 (fun M655 hp656 => ?_)
            obtain ⟨hI659, hG660, hq661, hq662⟩ := hp656
            have hk664 := kp_fr hG660 (fun h => absurd h.2.2 (by decide)) hk_0
            have hk665 := kp_fr hG660 (fun h => absurd h.2.2 (by decide)) hk_1
            have hk666 := kp_fr hG660 (fun h => absurd h.2.2 (by decide)) hk_2
            have hk667 := kp_fr hG660 (fun h => absurd h.2.2 (by decide)) hk_3
            have hk668 := kp_fr hG660 (fun h => absurd h.2.2 (by decide)) hk_4
            have hk669 := kp_fr hG660 (fun h => absurd h.2.2 (by decide)) hk_5
            have hk670 := kp_fr hG660 (fun h => absurd h.1 (by decide)) hk_6
            have hF671 := Fr.trans hF hG660 (fun a b h => (Or.inl ⟨h.1, Int.le_trans (by decide) h.2.1, Int.le_trans h.2.2 (by decide)⟩))
            exact k_X11_unit_147 l D cy B N m lo np cd tk wi uu w un fk  M hN hI0 hunp hucd hutk huwi huuu huw huun hufk hML hPS h1 X exl exD excy hnL hX hret _ _ _ _ _ _ _ (by omega) (by omega) (by omega) (by omega) (by omega) hI659 hF671 hk664 hk665 hk666 hk667 hk668 hk669 hk670 (by first | assumption | rfl) hq661 (by first | assumption | omega) (by first | assumption | omega) (by first | assumption | omega) (by first | assumption | omega) (by first | exact fun h => absurd h (by omega) | exact fun _ => h6 (by omega)) (by first | exact fun h => absurd h (by omega) | exact fun _ => by omega | exact fun _ => by have := h3 (by omega); omega | exact fun _ => by have := h5 (by omega); omega | exact fun _ => by have := h4 (by omega); omega) (by first | exact fun h => absurd h (by omega) | exact fun _ => by omega)
          · skip
            refine j_iload_n hX dX11_unit_126 rfl 2 rfl ?_
            refine j_if_ne (tgt := 134) hX dX11_unit_127 (by decide) (by omega) (fun hc672 => ?_) (fun hc672 => ?_)
            · skip
              refine j_aload_n hX dX11_unit_134 rfl 0 rfl ?_
              refine gf_X11_341 hX (by omega) (by omega) kc_210 dX11_unit_135 ?_
              refine j_top hk_3 ?_
              refine j_bipush hX dX11_unit_138 rfl ?_
              refine j_icmp_ne (tgt := 147) hX dX11_unit_140 (by decide) (by omega) (by omega) (fun hc673 => ?_) (fun hc673 => ?_)
              · skip
                exact k_X11_unit_147 l D cy B N m lo np cd tk wi uu w un fk  M hN hI0 hunp hucd hutk huwi huuu huw huun hufk hML hPS h1 X exl exD excy hnL hX hret _ _ _ _ _ _ _ (by omega) (by omega) (by omega) (by omega) (by omega) hI hF hk_0 hk_1 hk_2 hk_3 hk_4 hk_5 hk_6 hk_7 hV_0 (by first | assumption | omega) (by first | assumption | omega) (by first | assumption | omega) (by first | assumption | omega) (by first | exact fun h => absurd h (by omega) | exact fun _ => h6 (by omega)) (by first | exact fun h => absurd h (by omega) | exact fun _ => by omega | exact fun _ => by have := h3 (by omega); omega | exact fun _ => by have := h5 (by omega); omega | exact fun _ => by have := h4 (by omega); omega) (by first | exact fun h => absurd h (by omega) | exact fun _ => by omega)
              · skip
                refine j_aload_n hX dX11_unit_143 rfl 0 rfl ?_
                refine j_callVV hX lk_X11_256 (c_X11_misplaced _ _ _ _ _ _ _ (by omega) hI hV_0) (by omega) hce rfl rfl (by omega) (by omega) kc_210 rfl rfl (Nat.le_of_ble_eq_true rfl) dX11_unit_144 (fun M675 hp676 => ?_)
                obtain ⟨hI679, hG680, hq681, hq682⟩ := hp676
                have hk684 := kp_fr hG680 (fun h => absurd h.2.2 (by decide)) hk_0
                have hk685 := kp_fr hG680 (fun h => absurd h.2.2 (by decide)) hk_1
                have hk686 := kp_fr hG680 (fun h => absurd h.2.2 (by decide)) hk_2
                have hk687 := kp_fr hG680 (fun h => absurd h.2.2 (by decide)) hk_3
                have hk688 := kp_fr hG680 (fun h => absurd h.2.2 (by decide)) hk_4
                have hk689 := kp_fr hG680 (fun h => absurd h.2.2 (by decide)) hk_5
                have hk690 := kp_fr hG680 (fun h => absurd h.1 (by decide)) hk_6
                have hF691 := Fr.trans hF hG680 (fun a b h => (Or.inl ⟨h.1, Int.le_trans (by decide) h.2.1, Int.le_trans h.2.2 (by decide)⟩))
                exact k_X11_unit_147 l D cy B N m lo np cd tk wi uu w un fk  M hN hI0 hunp hucd hutk huwi huuu huw huun hufk hML hPS h1 X exl exD excy hnL hX hret _ _ _ _ _ _ _ (by omega) (by omega) (by omega) (by omega) (by omega) hI679 hF691 hk684 hk685 hk686 hk687 hk688 hk689 hk690 (by first | assumption | rfl) hq681 (by first | assumption | omega) (by first | assumption | omega) (by first | assumption | omega) (by first | assumption | omega) (by first | exact fun h => absurd h (by omega) | exact fun _ => h6 (by omega)) (by first | exact fun h => absurd h (by omega) | exact fun _ => by omega | exact fun _ => by have := h3 (by omega); omega | exact fun _ => by have := h5 (by omega); omega | exact fun _ => by have := h4 (by omega); omega) (by first | exact fun h => absurd h (by omega) | exact fun _ => by omega)
            · skip
              refine j_iload_n hX dX11_unit_130 rfl 3 rfl ?_
              refine j_if_eq (tgt := 147) hX dX11_unit_131 (by decide) (by omega) (fun hc692 => ?_) (fun hc692 => ?_)
              · skip
                exact k_X11_unit_147 l D cy B N m lo np cd tk wi uu w un fk  M hN hI0 hunp hucd hutk huwi huuu huw huun hufk hML hPS h1 X exl exD excy hnL hX hret _ _ _ _ _ _ _ (by omega) (by omega) (by omega) (by omega) (by omega) hI hF hk_0 hk_1 hk_2 hk_3 hk_4 hk_5 hk_6 hk_7 hV_0 (by first | assumption | omega) (by first | assumption | omega) (by first | assumption | omega) (by first | assumption | omega) (by first | exact fun h => absurd h (by omega) | exact fun _ => h6 (by omega)) (by first | exact fun h => absurd h (by omega) | exact fun _ => by omega | exact fun _ => by have := h3 (by omega); omega | exact fun _ => by have := h5 (by omega); omega | exact fun _ => by have := h4 (by omega); omega) (by first | exact fun h => absurd h (by omega) | exact fun _ => by omega)
              · skip
                refine j_aload_n hX dX11_unit_134 rfl 0 rfl ?_
                refine gf_X11_341 hX (by omega) (by omega) kc_210 dX11_unit_135 ?_
                refine j_top hk_3 ?_
                refine j_bipush hX dX11_unit_138 rfl ?_
                refine j_icmp_ne (tgt := 147) hX dX11_unit_140 (by decide) (by omega) (by omega) (fun hc693 => ?_) (fun hc693 => ?_)
                · skip
                  exact k_X11_unit_147 l D cy B N m lo np cd tk wi uu w un fk  M hN hI0 hunp hucd hutk huwi huuu huw huun hufk hML hPS h1 X exl exD excy hnL hX hret _ _ _ _ _ _ _ (by omega) (by omega) (by omega) (by omega) (by omega) hI hF hk_0 hk_1 hk_2 hk_3 hk_4 hk_5 hk_6 hk_7 hV_0 (by first | assumption | omega) (by first | assumption | omega) (by first | assumption | omega) (by first | assumption | omega) (by first | exact fun h => absurd h (by omega) | exact fun _ => h6 (by omega)) (by first | exact fun h => absurd h (by omega) | exact fun _ => by omega | exact fun _ => by have := h3 (by omega); omega | exact fun _ => by have := h5 (by omega); omega | exact fun _ => by have := h4 (by omega); omega) (by first | exact fun h => absurd h (by omega) | exact fun _ => by omega)
                · skip
                  refine j_aload_n hX dX11_unit_143 rfl 0 rfl ?_
                  refine j_callVV hX lk_X11_256 (c_X11_misplaced _ _ _ _ _ _ _ (by omega) hI hV_0) (by omega) hce rfl rfl (by omega) (by omega) kc_210 rfl rfl (Nat.le_of_ble_eq_true rfl) dX11_unit_144 (fun M695 hp696 => ?_)
                  obtain ⟨hI699, hG700, hq701, hq702⟩ := hp696
                  have hk704 := kp_fr hG700 (fun h => absurd h.2.2 (by decide)) hk_0
                  have hk705 := kp_fr hG700 (fun h => absurd h.2.2 (by decide)) hk_1
                  have hk706 := kp_fr hG700 (fun h => absurd h.2.2 (by decide)) hk_2
                  have hk707 := kp_fr hG700 (fun h => absurd h.2.2 (by decide)) hk_3
                  have hk708 := kp_fr hG700 (fun h => absurd h.2.2 (by decide)) hk_4
                  have hk709 := kp_fr hG700 (fun h => absurd h.2.2 (by decide)) hk_5
                  have hk710 := kp_fr hG700 (fun h => absurd h.1 (by decide)) hk_6
                  have hF711 := Fr.trans hF hG700 (fun a b h => (Or.inl ⟨h.1, Int.le_trans (by decide) h.2.1, Int.le_trans h.2.2 (by decide)⟩))
                  exact k_X11_unit_147 l D cy B N m lo np cd tk wi uu w un fk  M hN hI0 hunp hucd hutk huwi huuu huw huun hufk hML hPS h1 X exl exD excy hnL hX hret _ _ _ _ _ _ _ (by omega) (by omega) (by omega) (by omega) (by omega) hI699 hF711 hk704 hk705 hk706 hk707 hk708 hk709 hk710 (by first | assumption | rfl) hq701 (by first | assumption | omega) (by first | assumption | omega) (by first | assumption | omega) (by first | assumption | omega) (by first | exact fun h => absurd h (by omega) | exact fun _ => h6 (by omega)) (by first | exact fun h => absurd h (by omega) | exact fun _ => by omega | exact fun _ => by have := h3 (by omega); omega | exact fun _ => by have := h5 (by omega); omega | exact fun _ => by have := h4 (by omega); omega) (by first | exact fun h => absurd h (by omega) | exact fun _ => by omega)
