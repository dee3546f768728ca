set_option maxHeartbeats 2000000 in
set_option maxRecDepth 20000 in
theorem k_X11_unit_57 (l : Launch) (D : va_G) (cy : Nat → ClassId) (B N : Nat) (m : Int) (lo : Int) (np : Int) (cd : Int) (tk : Int) (wi : Int) (uu : Int) (w : Int) (un : Int) (fk : Int) (M : MM) (hN : 257 ≤ N) (hI0 : Iv M) (hunp : M.1 210 44 = np) (hucd : M.1 210 42 = cd) (hutk : M.1 210 8 = tk) (huwi : M.1 210 43 = wi) (huuu : M.1 210 45 = uu) (huw : M.1 210 41 = w) (huun : M.1 216 w = un) (hufk : M.1 210 4 = fk) (hML : ML m M) (hPS : PS 0 lo M) (h1 : 0 ≤ lo ∧ lo ≤ 560 ∧ fk = 0) (X : CT) (exl : xl X = l) (exD : xD X = D) (excy : xcy X = cy) (hnL : xnL X = 7) (hX : Cx X B 3 cX11_unit yX11_unit.cls) (hret : ∀ (pc : Nat) (lv : List (Nat × Value)) (z : Int) (M' : MM), decode cX11_unit pc = .ok (.ireturn, 1) → narrow .boolean (iv z) = iv z → I32 z → (fun z M' => Iv M' ∧ Fr (fun a b => (a = 210 ∧ 4 ≤ b ∧ b ≤ 10) ∨ (a = 210 ∧ 42 ≤ b ∧ b ≤ 45) ∨ (a = 237 ∧ cd ≤ b ∧ b ≤ cd) ∨ (a = 238 ∧ cd ≤ b ∧ b ≤ cd) ∨ (a = 239 ∧ np ≤ b ∧ b ≤ np) ∨ (a = 240 ∧ np ≤ b ∧ b ≤ np) ∨ (a = 216)) M M' ∧ (0 ≤ z ∧ z ≤ 1) ∧ (ML (m - 1) M') ∧ (M'.1 210 44 ≤ np + 1) ∧ (M'.1 210 4 = 0 → PT z lo M')) z M' → J X B N 0 0 pc lv [iv z] M') : ∀ (x1 x2 : Int), ∀ (Mc : MM), I32 x1 → I32 x2 → Iv Mc → Fr (fun a b => (a = 210 ∧ 4 ≤ b ∧ b ≤ 10) ∨ (a = 210 ∧ 42 ≤ b ∧ b ≤ 45) ∨ (a = 237 ∧ cd ≤ b ∧ b ≤ cd) ∨ (a = 238 ∧ cd ≤ b ∧ b ≤ cd) ∨ (a = 239 ∧ np ≤ b ∧ b ≤ np) ∨ (a = 240 ∧ np ≤ b ∧ b ≤ np) ∨ (a = 216)) M Mc → Mc.1 210 44 = np → Mc.1 210 42 = cd → Mc.1 210 8 = tk → Mc.1 210 43 = wi → Mc.1 210 45 = uu → Mc.1 210 41 = w → Mc.1 216 w = un → Mc.1 210 4 = fk → ML m Mc → (0 ≤ x2 ∧ x2 ≤ 1) → (Imp (x2 = 1) (tk = 3)) → J X B N 0 0 57 [(0, rv B 210), (1, iv x1), (2, iv x2)] [] Mc := by
  have hI := hI0
  have hce : 0 + 0 ≤ (xR X).cells ∧ 0 + 0 ≤ (xR X).slots := ⟨Nat.zero_le _, Nat.zero_le _⟩
  have hwr : 0 ≤ wi ∧ wi ≤ 7 := by have := hI.at 210 43 ro_210_43; omega
  have hur : 0 ≤ uu ∧ uu ≤ 30 := by have := hI.at 210 45 ro_210_45; omega
  have hpb := PS_b hPS (Or.inl rfl) (by omega) (by omega)
  have htkr : -2147483648 ≤ tk ∧ tk ≤ 2147483647 := by have := hI.at 210 8 ro_210_8; omega
  have hwb : 0 ≤ w ∧ w ≤ 1 := by have := hI.at 210 41 ro_210_41; omega
  have hunb : 0 ≤ un ∧ un ≤ 60 := by have := hI.at 216 w (ra_216 _); omega
  intro x1 x2 Mc hxx1 hxx2 hI hF hk_0 hk_1 hk_2 hk_3 hk_4 hk_5 hk_6 hk_7 hV_0 h2 h3
  refine j_aload_n hX dX11_unit_57 rfl 0 rfl ?_
  refine j_bipush hX dX11_unit_58 rfl ?_
  refine j_callVI hX lk_X11_311 (c_X11_isSignHere _ _ _ _ _ _ _ (by omega) hI (by omega)) (by omega) hce rfl rfl (by omega) (by omega) kc_210 rfl rfl (Nat.le_of_ble_eq_true rfl) dX11_unit_60 (fun z712 M713 hz715 hp714 => ?_)
  obtain ⟨hE716, hb717, hq718, hq719⟩ := hp714
  replace hE716 := hE716.symm
  subst hE716
  have hbr : Imp (z712 = 1) (tk = 5) := fun h => by have := hq719 h; omega
  refine j_istore_n (lv' := [(3, _), (0, _), (1, _), (2, _)]) hX dX11_unit_63 rfl (by rw [hnL]; decide) rfl ?_
  refine j_aload_n hX dX11_unit_64 rfl 1 rfl ?_
  refine j_callVI hX lk_X11_353 (c_X11_wordHere _ _ _ _ _ _ (by omega) hI) (by omega) hce rfl rfl (by omega) (by omega) kc_210 rfl rfl (Nat.le_of_ble_eq_true rfl) dX11_unit_65 (fun z720 M721 hz723 hp722 => ?_)
  obtain ⟨hE724, hq725⟩ := hp722
  replace hE724 := hE724.symm
  subst hE724
  have hwd : Imp (z720 ≠ 0) (97 ≤ z720 ∧ z720 ≤ 122 ∧ tk = 3) := fun h => by have := hq725 h; omega
  refine j_istore (lv' := [(4, _), (3, _), (0, _), (1, _), (2, _)]) hX dX11_unit_68 (by rw [hnL]; decide) rfl ?_
  refine j_aload_n hX dX11_unit_70 rfl 2 rfl ?_
  refine gf_X11_30 hX (by omega) (by omega) kc_210 (fc_210_14 hI) (by decide) dX11_unit_71 ?_
  refine j_aload_n hX dX11_unit_74 rfl 2 rfl ?_
  refine gf_X11_270 hX (by omega) (by omega) kc_210 dX11_unit_75 ?_
  refine j_top hk_5 ?_
  refine j_iald hX (by omega) (by omega) kc_216 (by omega) (by omega) (by omega) dX11_unit_78 ?_
  refine j_top hk_6 ?_
  refine j_bipush hX dX11_unit_79 rfl ?_
  refine j_icmp_eq (tgt := 93) hX dX11_unit_81 (by decide) (by omega) (by omega) (fun hc726 => ?_) (fun hc726 => ?_)
  · skip
    refine j_iconst hX dX11_unit_93 ?_
    refine j_goto (tgt := 98) hX dX11_unit_94 (by decide) ?_
    refine j_istore (lv' := [(5, _), (4, _), (3, _), (0, _), (1, _), (2, _)]) hX dX11_unit_98 (by rw [hnL]; decide) rfl ?_
    refine j_sub [3, 4, 5, 2, 1, 0] rfl ?_
    exact k_X11_unit_100 l D cy B N m lo np cd tk wi uu w un fk  M hN hI0 hunp hucd hutk huwi huuu huw huun hufk hML hPS h1 X exl exD excy hnL hX hret _ _ _ _ _ _ (by omega) (by omega) (by omega) (by omega) (by omega) hI hF hk_0 hk_1 hk_2 hk_3 hk_4 hk_5 hk_6 hk_7 hV_0 (by first | assumption | omega) (by first | assumption | exact fun h => absurd h (by omega) | exact fun _ => by omega) (by first | assumption | exact fun h => hbr h) (by first | assumption | exact fun h => by have := hwd h; omega) (by first | assumption | exact fun h => absurd h (by omega) | exact fun _ => by omega)
  · skip
    refine j_aload_n hX dX11_unit_84 rfl 2 rfl ?_
    refine gf_X11_332 hX (by omega) (by omega) kc_210 dX11_unit_85 ?_
    refine j_top hk_4 ?_
    refine j_bipush hX dX11_unit_88 rfl ?_
    refine j_icmp_ne (tgt := 97) hX dX11_unit_90 (by decide) (by omega) (by omega) (fun hc727 => ?_) (fun hc727 => ?_)
    · skip
      refine j_iconst hX dX11_unit_97 ?_
      refine j_istore (lv' := [(5, _), (4, _), (3, _), (0, _), (1, _), (2, _)]) hX dX11_unit_98 (by rw [hnL]; decide) rfl ?_
      refine j_sub [3, 4, 5, 2, 1, 0] rfl ?_
      exact k_X11_unit_100 l D cy B N m lo np cd tk wi uu w un fk  M hN hI0 hunp hucd hutk huwi huuu huw huun hufk hML hPS h1 X exl exD excy hnL hX hret _ _ _ _ _ _ (by omega) (by omega) (by omega) (by omega) (by omega) hI hF hk_0 hk_1 hk_2 hk_3 hk_4 hk_5 hk_6 hk_7 hV_0 (by first | assumption | omega) (by first | assumption | exact fun h => absurd h (by omega) | exact fun _ => by omega) (by first | assumption | exact fun h => hbr h) (by first | assumption | exact fun h => by have := hwd h; omega) (by first | assumption | exact fun h => absurd h (by omega) | exact fun _ => by omega)
    · skip
      refine j_iconst hX dX11_unit_93 ?_
      refine j_goto (tgt := 98) hX dX11_unit_94 (by decide) ?_
      refine j_istore (lv' := [(5, _), (4, _), (3, _), (0, _), (1, _), (2, _)]) hX dX11_unit_98 (by rw [hnL]; decide) rfl ?_
      refine j_sub [3, 4, 5, 2, 1, 0] rfl ?_
      exact k_X11_unit_100 l D cy B N m lo np cd tk wi uu w un fk  M hN hI0 hunp hucd hutk huwi huuu huw huun hufk hML hPS h1 X exl exD excy hnL hX hret _ _ _ _ _ _ (by omega) (by omega) (by omega) (by omega) (by omega) hI hF hk_0 hk_1 hk_2 hk_3 hk_4 hk_5 hk_6 hk_7 hV_0 (by first | assumption | omega) (by first | assumption | exact fun h => absurd h (by omega) | exact fun _ => by omega) (by first | assumption | exact fun h => hbr h) (by first | assumption | exact fun h => by have := hwd h; omega) (by first | assumption | exact fun h => absurd h (by omega) | exact fun _ => by omega)
set_option maxHeartbeats 2000000 in
set_option maxRecDepth 20000 in
theorem k_X11_unit_37 (l : Launch) (D : va_G) (cy : Nat → ClassId) (B N : Nat) (m : Int) (lo : Int) (np : Int) (cd : Int) (tk : Int) (wi : Int) (uu : Int) (w : Int) (un : Int) (fk : Int) (M : MM) (hN : 257 ≤ N) (hI0 : Iv M) (hunp : M.1 210 44 = np) (hucd : M.1 210 42 = cd) (hutk : M.1 210 8 = tk) (huwi : M.1 210 43 = wi) (huuu : M.1 210 45 = uu) (huw : M.1 210 41 = w) (huun : M.1 216 w = un) (hufk : M.1 210 4 = fk) (hML : ML m M) (hPS : PS 0 lo M) (h1 : 0 ≤ lo ∧ lo ≤ 560 ∧ fk = 0) (X : CT) (exl : xl X = l) (exD : xD X = D) (excy : xcy X = cy) (hnL : xnL X = 7) (hX : Cx X B 3 cX11_unit yX11_unit.cls) (hret : ∀ (pc : Nat) (lv : List (Nat × Value)) (z : Int) (M' : MM), decode cX11_unit pc = .ok (.ireturn, 1) → narrow .boolean (iv z) = iv z → I32 z → (fun z M' => Iv M' ∧ Fr (fun a b => (a = 210 ∧ 4 ≤ b ∧ b ≤ 10) ∨ (a = 210 ∧ 42 ≤ b ∧ b ≤ 45) ∨ (a = 237 ∧ cd ≤ b ∧ b ≤ cd) ∨ (a = 238 ∧ cd ≤ b ∧ b ≤ cd) ∨ (a = 239 ∧ np ≤ b ∧ b ≤ np) ∨ (a = 240 ∧ np ≤ b ∧ b ≤ np) ∨ (a = 216)) M M' ∧ (0 ≤ z ∧ z ≤ 1) ∧ (ML (m - 1) M') ∧ (M'.1 210 44 ≤ np + 1) ∧ (M'.1 210 4 = 0 → PT z lo M')) z M' → J X B N 0 0 pc lv [iv z] M') : ∀ (x1 : Int), ∀ (Mc : MM), I32 x1 → Iv Mc → Fr (fun a b => (a = 210 ∧ 4 ≤ b ∧ b ≤ 10) ∨ (a = 210 ∧ 42 ≤ b ∧ b ≤ 45) ∨ (a = 237 ∧ cd ≤ b ∧ b ≤ cd) ∨ (a = 238 ∧ cd ≤ b ∧ b ≤ cd) ∨ (a = 239 ∧ np ≤ b ∧ b ≤ np) ∨ (a = 240 ∧ np ≤ b ∧ b ≤ np) ∨ (a = 216)) M Mc → Mc.1 210 44 = np → Mc.1 210 42 = cd → Mc.1 210 8 = tk → Mc.1 210 43 = wi → Mc.1 210 45 = uu → Mc.1 210 41 = w → Mc.1 216 w = un → Mc.1 210 4 = fk → ML m Mc → (0 ≤ x1 ∧ x1 ≤ 1) → J X B N 0 0 37 [(0, rv B 210), (1, iv x1)] [] Mc := by
  have hI := hI0
  have hce : 0 + 0 ≤ (xR X).cells ∧ 0 + 0 ≤ (xR X).slots := ⟨Nat.zero_le _, Nat.zero_le _⟩
  have hwr : 0 ≤ wi ∧ wi ≤ 7 := by have := hI.at 210 43 ro_210_43; omega
  have hur : 0 ≤ uu ∧ uu ≤ 30 := by have := hI.at 210 45 ro_210_45; omega
  have hpb := PS_b hPS (Or.inl rfl) (by omega) (by omega)
  have htkr : -2147483648 ≤ tk ∧ tk ≤ 2147483647 := by have := hI.at 210 8 ro_210_8; omega
  have hwb : 0 ≤ w ∧ w ≤ 1 := by have := hI.at 210 41 ro_210_41; omega
  have hunb : 0 ≤ un ∧ un ≤ 60 := by have := hI.at 216 w (ra_216 _); omega
  intro x1 Mc hxx1 hI hF hk_0 hk_1 hk_2 hk_3 hk_4 hk_5 hk_6 hk_7 hV_0 h2
  refine j_iload_n hX dX11_unit_37 rfl 1 rfl ?_
  refine j_if_eq (tgt := 55) hX dX11_unit_38 (by decide) (by omega) (fun hc728 => ?_) (fun hc728 => ?_)
  · skip
    refine j_iconst hX dX11_unit_55 ?_
    refine j_istore_n (lv' := [(2, _), (0, _), (1, _)]) hX dX11_unit_56 rfl (by rw [hnL]; decide) rfl ?_
    refine j_sub [1, 2, 0] rfl ?_
    exact k_X11_unit_57 l D cy B N m lo np cd tk wi uu w un fk  M hN hI0 hunp hucd hutk huwi huuu huw huun hufk hML hPS h1 X exl exD excy hnL hX hret _ _ _ (by omega) (by omega) hI hF hk_0 hk_1 hk_2 hk_3 hk_4 hk_5 hk_6 hk_7 hV_0 (by first | assumption | omega) (by first | assumption | exact fun h => absurd h (by omega) | exact fun _ => by omega)
  · skip
    refine j_aload_n hX dX11_unit_41 rfl 0 rfl ?_
    refine j_ldc2 hX (in_6 209 (by first | rfl | decide +kernel) rfl) dX11_unit_42 ?_
    refine j_callVI hX lk_X11_259 (c_X11_isWord _ _ _ _ _ _ _ (by omega) hI) (by omega) hce rfl rfl (by omega) (by omega) kc_210 rfl rfl (Nat.le_of_ble_eq_true rfl) dX11_unit_45 (fun z729 M730 hz732 hp731 => ?_)
    obtain ⟨hE733, hb734, hq735, hq736⟩ := hp731
    replace hE733 := hE733.symm
    subst hE733
    refine j_if_eq (tgt := 55) hX dX11_unit_48 (by decide) (by omega) (fun hc737 => ?_) (fun hc737 => ?_)
    · skip
      clear hq735
      have hi738 := hq736 (by omega)
      clear hq736
      refine j_iconst hX dX11_unit_55 ?_
      refine j_istore_n (lv' := [(2, _), (0, _), (1, _)]) hX dX11_unit_56 rfl (by rw [hnL]; decide) rfl ?_
      refine j_sub [1, 2, 0] rfl ?_
      exact k_X11_unit_57 l D cy B N m lo np cd tk wi uu w un fk  M hN hI0 hunp hucd hutk huwi huuu huw huun hufk hML hPS h1 X exl exD excy hnL hX hret _ _ _ (by omega) (by omega) hI hF hk_0 hk_1 hk_2 hk_3 hk_4 hk_5 hk_6 hk_7 hV_0 (by first | assumption | omega) (by first | assumption | exact fun h => absurd h (by omega) | exact fun _ => by omega)
    · skip
      have hi739 := hq735 (by omega)
      clear hq735
      clear hq736
      refine j_iconst hX dX11_unit_51 ?_
      refine j_goto (tgt := 56) hX dX11_unit_52 (by decide) ?_
      refine j_istore_n (lv' := [(2, _), (0, _), (1, _)]) hX dX11_unit_56 rfl (by rw [hnL]; decide) rfl ?_
      refine j_sub [1, 2, 0] rfl ?_
      exact k_X11_unit_57 l D cy B N m lo np cd tk wi uu w un fk  M hN hI0 hunp hucd hutk huwi huuu huw huun hufk hML hPS h1 X exl exD excy hnL hX hret _ _ _ (by omega) (by omega) hI hF hk_0 hk_1 hk_2 hk_3 hk_4 hk_5 hk_6 hk_7 hV_0 (by first | assumption | omega) (by first | assumption | exact fun h => absurd h (by omega) | exact fun _ => by omega)
set_option maxHeartbeats 2000000 in
set_option maxRecDepth 20000 in
theorem c_X11_unit (l : Launch) (D : va_G) (cy : Nat → ClassId) (B N : Nat) (m : Int) (lo : Int) (np : Int) (cd : Int) (tk : Int) (wi : Int) (uu : Int) (w : Int) (un : Int) (fk : Int) (M : MM) (hN : 257 ≤ N) (hI : Iv M) (hunp : M.1 210 44 = np) (hucd : M.1 210 42 = cd) (hutk : M.1 210 8 = tk) (huwi : M.1 210 43 = wi) (huuu : M.1 210 45 = uu) (huw : M.1 210 41 = w) (huun : M.1 216 w = un) (hufk : M.1 210 4 = fk) (hML : ML m M) (hPS : PS 0 lo M) (h1 : 0 ≤ lo ∧ lo ≤ 560 ∧ fk = 0) : CI l D cy B N 3 yX11_unit cX11_unit 7 (some .boolean) [rv B 210] M (fun z M' => Iv M' ∧ Fr (fun a b => (a = 210 ∧ 4 ≤ b ∧ b ≤ 10) ∨ (a = 210 ∧ 42 ≤ b ∧ b ≤ 45) ∨ (a = 237 ∧ cd ≤ b ∧ b ≤ cd) ∨ (a = 238 ∧ cd ≤ b ∧ b ≤ cd) ∨ (a = 239 ∧ np ≤ b ∧ b ≤ np) ∨ (a = 240 ∧ np ≤ b ∧ b ≤ np) ∨ (a = 216)) M M' ∧ (0 ≤ z ∧ z ≤ 1) ∧ (ML (m - 1) M') ∧ (M'.1 210 44 ≤ np + 1) ∧ (M'.1 210 4 = 0 → PT z lo M')) := by
  refine mk_CI (by decide) (Nat.le_of_ble_eq_true rfl) ?_
  intro X exl exD excy hnL hX hret
  have hce : 0 + 0 ≤ (xR X).cells ∧ 0 + 0 ≤ (xR X).slots := ⟨Nat.zero_le _, Nat.zero_le _⟩
  have hF : Fr (fun a b => (a = 210 ∧ 4 ≤ b ∧ b ≤ 10) ∨ (a = 210 ∧ 42 ≤ b ∧ b ≤ 45) ∨ (a = 237 ∧ cd ≤ b ∧ b ≤ cd) ∨ (a = 238 ∧ cd ≤ b ∧ b ≤ cd) ∨ (a = 239 ∧ np ≤ b ∧ b ≤ np) ∨ (a = 240 ∧ np ≤ b ∧ b ≤ np) ∨ (a = 216)) M M := Fr.rf
  have hwr : 0 ≤ wi ∧ wi ≤ 7 := by have := hI.at 210 43 ro_210_43; omega
  have hur : 0 ≤ uu ∧ uu ≤ 30 := by have := hI.at 210 45 ro_210_45; omega
  have hpb := PS_b hPS (Or.inl rfl) (by omega) (by omega)
  have htkr : -2147483648 ≤ tk ∧ tk ≤ 2147483647 := by have := hI.at 210 8 ro_210_8; omega
  have hwb : 0 ≤ w ∧ w ≤ 1 := by have := hI.at 210 41 ro_210_41; omega
  have hunb : 0 ≤ un ∧ un ≤ 60 := by have := hI.at 216 w (ra_216 _); omega
  show J X B N 0 0 0 [(0, rv B 210)] [] M
  refine j_aload_n hX dX11_unit_0 rfl 0 rfl ?_
  refine gf_X11_101 hX (by omega) (by omega) kc_210 (fc_210_37 hI) (by decide) dX11_unit_1 ?_
  refine j_aload_n hX dX11_unit_4 rfl 0 rfl ?_
  refine gf_X11_338 hX (by omega) (by omega) kc_210 dX11_unit_5 ?_
  refine j_top hunp ?_
  refine j_iconst hX dX11_unit_8 ?_
  refine j_isub hX dX11_unit_9 ?_
  refine j_iald hX (by omega) (by omega) kc_239 (by omega) (by omega) (by omega) dX11_unit_10 ?_
  refine j_name hI (ra_239 _) (fun v740 hv741 hl742 hh743 => ?_)
  refine j_iconst hX dX11_unit_11 ?_
  refine j_icmp_le (tgt := 31) hX dX11_unit_12 (by decide) (by omega) (by omega) (fun hc744 => ?_) (fun hc744 => ?_)
  · skip
    refine j_iconst hX dX11_unit_31 ?_
    refine j_goto (tgt := 36) hX dX11_unit_32 (by decide) ?_
    refine j_istore_n (lv' := [(1, _), (0, _)]) hX dX11_unit_36 rfl (by rw [hnL]; decide) rfl ?_
    refine j_sub [1, 0] rfl ?_
    exact k_X11_unit_37 l D cy B N m lo np cd tk wi uu w un fk  M hN hI hunp hucd hutk huwi huuu huw huun hufk hML hPS h1 X exl exD excy hnL hX hret _ _ (by omega) hI hF hunp hucd hutk huwi huuu huw huun hufk hML (by first | assumption | omega)
  · skip
    refine j_aload_n hX dX11_unit_15 rfl 0 rfl ?_
    refine gf_X11_101 hX (by omega) (by omega) kc_210 (fc_210_37 hI) (by decide) dX11_unit_16 ?_
    refine j_aload_n hX dX11_unit_19 rfl 0 rfl ?_
    refine gf_X11_338 hX (by omega) (by omega) kc_210 dX11_unit_20 ?_
    refine j_top hunp ?_
    refine j_iconst hX dX11_unit_23 ?_
    refine j_isub hX dX11_unit_24 ?_
    refine j_iald hX (by omega) (by omega) kc_239 (by omega) (by omega) (by omega) dX11_unit_25 ?_
    refine j_name hI (ra_239 _) (fun v745 hv746 hl747 hh748 => ?_)
    refine j_bipush hX dX11_unit_26 rfl ?_
    refine j_icmp_lt (tgt := 35) hX dX11_unit_28 (by decide) (by omega) (by omega) (fun hc749 => ?_) (fun hc749 => ?_)
    · skip
      refine j_iconst hX dX11_unit_35 ?_
      refine j_istore_n (lv' := [(1, _), (0, _)]) hX dX11_unit_36 rfl (by rw [hnL]; decide) rfl ?_
      refine j_sub [1, 0] rfl ?_
      exact k_X11_unit_37 l D cy B N m lo np cd tk wi uu w un fk  M hN hI hunp hucd hutk huwi huuu huw huun hufk hML hPS h1 X exl exD excy hnL hX hret _ _ (by omega) hI hF hunp hucd hutk huwi huuu huw huun hufk hML (by first | assumption | omega)
    · skip
      refine j_iconst hX dX11_unit_31 ?_
      refine j_goto (tgt := 36) hX dX11_unit_32 (by decide) ?_
      refine j_istore_n (lv' := [(1, _), (0, _)]) hX dX11_unit_36 rfl (by rw [hnL]; decide) rfl ?_
      refine j_sub [1, 0] rfl ?_
      exact k_X11_unit_37 l D cy B N m lo np cd tk wi uu w un fk  M hN hI hunp hucd hutk huwi huuu huw huun hufk hML hPS h1 X exl exD excy hnL hX hret _ _ (by omega) hI hF hunp hucd hutk huwi huuu huw huun hufk hML (by first | assumption | omega)
