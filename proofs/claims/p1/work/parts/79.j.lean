set_option maxHeartbeats 2000000 in
set_option maxRecDepth 20000 in
theorem cv_X9_init (l : Launch) (D : va_G) (cy : Nat → ClassId) (B N : Nat) (M : MM) (hN : (N : Int) = 2 + 1) (hd : DF 2 5 M) : CN l D cy B N (N + 2) 20 2 1622 yX9_init cX9_init 4 [rv B 2] M (fun M' => RR 2 5 M' ∧ F2 2 5 M M' ∧ (M'.1 2 4 = 0) ∧ (M'.1 2 2 = 0)) := by
  refine mk_CN (by decide) rfl (Nat.le_of_ble_eq_true rfl) ?_
  intro X exl exD excy hnL hX hin hRc hRs hret
  have hpl : pl 2 = ((8 : Nat) : Int) := pl_o (r := (RX9, TX9, 8)) (by decide +kernel : kd 2 = .inl 9) rfl
  have hG : F2 2 5 M M := F2.rf
  have hD : DF 3 5 M := hd.sub (by omega) (Int.le_refl _)
  have hU : UL 2 [] M := UL_0 (hd.at _ (by omega) (by omega))
  have hR : RR 3 3 M := RR_0
  show J X B N 0 0 0 [(0, rv B 2)] [] M
  refine j_aload_n hX dX9_init_0 rfl 0 rfl ?_
  refine j_objInit hX (in_1 41 (by first | rfl | decide +kernel) rfl) (in_1 28 (by first | rfl | decide +kernel) rfl) (in_1 29 (by first | rfl | decide +kernel) rfl) (by omega) (Nat.le_of_ble_eq_true rfl) dX9_init_1 ?_
  refine j_aload_n hX dX9_init_4 rfl 0 rfl ?_
  refine j_sipush hX dX9_init_5 rfl ?_
  refine j_newa hX (k := 3) (by omega) (t := 1) (n := 1600) rfl (by decide) (in_1 126 (by first | rfl | decide +kernel) rfl) (by decide +kernel : kd 3 = .inr (1, 1600)) rfl (by decide) (hD.at _ (by omega) (by omega)) ⟨by omega, by omega⟩ dX9_init_8 ?_
  have hR1 : RR 3 4 M := RR_s hR (Rg_plain (by omega) (by omega) (by decide +kernel : kd 3 = .inr (1, 1600)) (by decide) (hD.at _ (by omega) (by omega))) (by omega)
  refine pfF_X9_9 hX hin (by omega) (by omega) (by decide +kernel : kd 2 = .inl 9) (by omega) (by omega) dX9_init_10 ?_
  refine j_upN (fun M2 hM3 hf4 => ?_)
  have hG5 := F2.put hG hM3 ⟨by omega, by omega⟩
  have hD6 := DF_up hD hM3 (by omega)
  have hU7 := UL_up hU hM3
  have hR8 := RR_up hR1 hM3 (Or.inl (by omega))
  refine j_aload_n hX dX9_init_13 rfl 0 rfl ?_
  refine j_bipush hX dX9_init_14 rfl ?_
  refine j_newa hX (k := 4) (by omega) (t := 3) (n := 22) rfl (by decide) (in_1 127 (by first | rfl | decide +kernel) rfl) (by decide +kernel : kd 4 = .inr (3, 22)) rfl (by decide) (hD6.at _ (by omega) (by omega)) ⟨by omega, by omega⟩ dX9_init_16 ?_
  have hR9 : RR 3 5 M2 := RR_s hR8 (Rg_plain (by omega) (by omega) (by decide +kernel : kd 4 = .inr (3, 22)) (by decide) (hD6.at _ (by omega) (by omega))) (by omega)
  refine pfF_X9_15 hX hin (by omega) (by omega) (by decide +kernel : kd 2 = .inl 9) (by omega) (by omega) dX9_init_18 ?_
  refine j_upN (fun M10 hM11 hf12 => ?_)
  have hG13 := F2.put hG5 hM11 ⟨by omega, by omega⟩
  have hD14 := DF_up hD6 hM11 (by omega)
  have hU15 := UL_up hU7 hM11
  have hR16 := RR_up hR9 hM11 (Or.inl (by omega))
  have hk17 := kp_up hM11 (fun h => absurd h.2 (by decide)) hf4
  clear hf4
  refine j_aload_n hX dX9_init_21 rfl 0 rfl ?_
  refine j_iconst hX dX9_init_22 ?_
  refine pf_X9_19 hX (by omega) (by omega) (by decide +kernel : kd 2 = .inl 9) (by omega) dX9_init_23 ?_
  refine j_upN (fun M18 hM19 hf20 => ?_)
  have hG21 := F2.put hG13 hM19 ⟨by omega, by omega⟩
  have hD22 := DF_up hD14 hM19 (by omega)
  have hU23 := UL_up hU15 hM19
  have hR24 := RR_up hR16 hM19 (Or.inl (by omega))
  have hk25 := kp_up hM19 (fun h => absurd h.2 (by decide)) hk17
  have hk26 := kp_up hM19 (fun h => absurd h.2 (by decide)) hf12
  clear hk17 hf12
  refine j_aload_n hX dX9_init_26 rfl 0 rfl ?_
  refine j_iconst hX dX9_init_27 ?_
  refine pf_X9_23 hX (by omega) (by omega) (by decide +kernel : kd 2 = .inl 9) (by omega) dX9_init_28 ?_
  refine j_upN (fun M27 hM28 hf29 => ?_)
  have hG30 := F2.put hG21 hM28 ⟨by omega, by omega⟩
  have hD31 := DF_up hD22 hM28 (by omega)
  have hU32 := UL_up hU23 hM28
  have hR33 := RR_up hR24 hM28 (Or.inl (by omega))
  have hk34 := kp_up hM28 (fun h => absurd h.2 (by decide)) hk25
  have hk35 := kp_up hM28 (fun h => absurd h.2 (by decide)) hk26
  have hk36 := kp_up hM28 (fun h => absurd h.2 (by decide)) hf20
  clear hk25 hk26 hf20
  refine j_aload_n hX dX9_init_31 rfl 0 rfl ?_
  refine j_iconst hX dX9_init_32 ?_
  refine pf_X9_26 hX (by omega) (by omega) (by decide +kernel : kd 2 = .inl 9) (by omega) dX9_init_33 ?_
  refine j_upN (fun M37 hM38 hf39 => ?_)
  have hG40 := F2.put hG30 hM38 ⟨by omega, by omega⟩
  have hD41 := DF_up hD31 hM38 (by omega)
  have hU42 := UL_up hU32 hM38
  have hR43 := RR_up hR33 hM38 (Or.inl (by omega))
  have hk44 := kp_up hM38 (fun h => absurd h.2 (by decide)) hk34
  have hk45 := kp_up hM38 (fun h => absurd h.2 (by decide)) hk35
  have hk46 := kp_up hM38 (fun h => absurd h.2 (by decide)) hk36
  have hk47 := kp_up hM38 (fun h => absurd h.2 (by decide)) hf29
  clear hk34 hk35 hk36 hf29
  refine j_aload_n hX dX9_init_36 rfl 0 rfl ?_
  refine j_iconst hX dX9_init_37 ?_
  refine pf_X9_29 hX (by omega) (by omega) (by decide +kernel : kd 2 = .inl 9) (by omega) dX9_init_38 ?_
  refine j_upN (fun M48 hM49 hf50 => ?_)
  have hG51 := F2.put hG40 hM49 ⟨by omega, by omega⟩
  have hD52 := DF_up hD41 hM49 (by omega)
  have hU53 := UL_up hU42 hM49
  have hR54 := RR_up hR43 hM49 (Or.inl (by omega))
  have hk55 := kp_up hM49 (fun h => absurd h.2 (by decide)) hk44
  have hk56 := kp_up hM49 (fun h => absurd h.2 (by decide)) hk45
  have hk57 := kp_up hM49 (fun h => absurd h.2 (by decide)) hk46
  have hk58 := kp_up hM49 (fun h => absurd h.2 (by decide)) hk47
  have hk59 := kp_up hM49 (fun h => absurd h.2 (by decide)) hf39
  clear hk44 hk45 hk46 hk47 hf39
  refine j_aload_n hX dX9_init_41 rfl 0 rfl ?_
  refine j_iconst hX dX9_init_42 ?_
  refine pf_X9_32 hX (by omega) (by omega) (by decide +kernel : kd 2 = .inl 9) (by omega) dX9_init_43 ?_
  refine j_upN (fun M60 hM61 hf62 => ?_)
  have hG63 := F2.put hG51 hM61 ⟨by omega, by omega⟩
  have hD64 := DF_up hD52 hM61 (by omega)
  have hU65 := UL_up hU53 hM61
  have hR66 := RR_up hR54 hM61 (Or.inl (by omega))
  have hk67 := kp_up hM61 (fun h => absurd h.2 (by decide)) hk55
  have hk68 := kp_up hM61 (fun h => absurd h.2 (by decide)) hk56
  have hk69 := kp_up hM61 (fun h => absurd h.2 (by decide)) hk57
  have hk70 := kp_up hM61 (fun h => absurd h.2 (by decide)) hk58
  have hk71 := kp_up hM61 (fun h => absurd h.2 (by decide)) hk59
  have hk72 := kp_up hM61 (fun h => absurd h.2 (by decide)) hf50
  clear hk55 hk56 hk57 hk58 hk59 hf50
  refine j_aload_n hX dX9_init_46 rfl 0 rfl ?_
  refine j_lconst hX dX9_init_47 ?_
  refine pf_X9_35 hX (by omega) (by omega) (by decide +kernel : kd 2 = .inl 9) dX9_init_48 ?_
  refine j_upLN (fun M73 hM74 => ?_)
  have hM74l : M73.1 = M60.1 := by rw [hM74]; rfl
  have hG75 := F2.lng hG63 hM74 ⟨by omega, by omega⟩
  have hD76 := DF_upL hD64 hM74 (by omega)
  have hU77 := UL_1 hU65 hM74l
  have hR78 := RR_1 hR66 hM74l
  have hk79 := kp_l hM74l hk67
  have hk80 := kp_l hM74l hk68
  have hk81 := kp_l hM74l hk69
  have hk82 := kp_l hM74l hk70
  have hk83 := kp_l hM74l hk71
  have hk84 := kp_l hM74l hk72
  have hk85 := kp_l hM74l hf62
  clear hk67 hk68 hk69 hk70 hk71 hk72 hf62
  refine j_iconst hX dX9_init_51 ?_
  refine j_istore_n (lv' := [(1, _), (0, _)]) hX dX9_init_52 rfl (by rw [hnL]; decide) rfl ?_
  refine j_iconst hX dX9_init_53 ?_
  refine j_istore_n (lv' := [(2, _), (1, _), (0, _)]) hX dX9_init_54 rfl (by rw [hnL]; decide) rfl ?_
  have hRo : Rg 2 M73 := by
    refine Rg_obj (n := 8) hpl hU77 (by decide) (by omega) (fun j hj => ?_)
    rcases (by omega : j = 0 ∨ j = 1 ∨ j = 2 ∨ j = 3 ∨ j = 4 ∨ j = 5 ∨ j = 6 ∨ j = 7) with h | h | h | h | h | h | h | h
    · subst h
      show (rg 2 0).1 ≤ M73.1 2 0 ∧ M73.1 2 0 ≤ (rg 2 0).2
      rw [rz_2_0, hk79]; exact ⟨by dsimp only; omega, by dsimp only; omega⟩
    · subst h
      show (rg 2 1).1 ≤ M73.1 2 1 ∧ M73.1 2 1 ≤ (rg 2 1).2
      rw [rz_2_1, hk80]; exact ⟨by dsimp only; omega, by dsimp only; omega⟩
    · subst h
      show (rg 2 2).1 ≤ M73.1 2 2 ∧ M73.1 2 2 ≤ (rg 2 2).2
      rw [rz_2_2, hk81]; exact ⟨by dsimp only; omega, by dsimp only; omega⟩
    · subst h
      show (rg 2 3).1 ≤ M73.1 2 3 ∧ M73.1 2 3 ≤ (rg 2 3).2
      rw [rz_2_3, hk82]; exact ⟨by dsimp only; omega, by dsimp only; omega⟩
    · subst h
      show (rg 2 4).1 ≤ M73.1 2 4 ∧ M73.1 2 4 ≤ (rg 2 4).2
      rw [rz_2_4, hk83]; exact ⟨by dsimp only; omega, by dsimp only; omega⟩
    · subst h
      show (rg 2 5).1 ≤ M73.1 2 5 ∧ M73.1 2 5 ≤ (rg 2 5).2
      rw [rz_2_5, hk84]; exact ⟨by dsimp only; omega, by dsimp only; omega⟩
    · subst h
      show (rg 2 6).1 ≤ M73.1 2 6 ∧ M73.1 2 6 ≤ (rg 2 6).2
      rw [rz_2_6, hk85]; exact ⟨by dsimp only; omega, by dsimp only; omega⟩
    · subst h
      show (rg 2 7).1 ≤ M73.1 2 7 ∧ M73.1 2 7 ≤ (rg 2 7).2
      rw [rz_2_7, hU77 7 (by decide), (by decide +kernel : dv 2 7 = 0)]; exact ⟨by dsimp only; omega, by dsimp only; omega⟩
  have hRa : RR 2 5 M73 := RR_j (RR_s RR_0 hRo (by omega : (3 : Int) = 2 + 1)) hR78
  have cp : ∀ q : Nat, ∀ (x y : Int) (Mc : MM), 0 ≤ x → x ≤ y → 0 ≤ y → y ≤ 103 → F2 2 5 M Mc ∧ Mc.1 = M73.1 → 103 - y < (q : Int) → J X B (N + 1 + 1) (0 + 1 + 1) (0 + 1600 + 22) 55 [(0, rv B 2), (1, iv x), (2, iv y)] [] Mc := by
    intro q
    induction q with
    | zero => intros; exfalso; omega
    | succ q ih =>
      intro x y Mc hx0 hxy hy0 hy1 hF hm
      have hkk : Mc.1 2 1 = 4 := by rw [hF.2]; exact hk80
      refine j_iload_n hX dX9_init_55 rfl 2 rfl ?_
      refine j_ldcS hX (i := 0) (Or.inl ⟨rfl, rfl⟩) dX9_init_56 (fun a v hK => ?_)
      refine j_callKV hX hK lk_X9_41 rfl (c_J0_length_8abf5 _ _ _ _ _ _ _ _ _ _ (by decide)) (by omega) ⟨by omega, by omega⟩ rfl rfl (Nat.le_of_ble_eq_true rfl) dX9_init_58 (fun z hz hp => ?_)
      have hz3 : z = 103 := hp
      refine j_icmp_ge (tgt := 111) hX dX9_init_61 (by decide) (by omega) (by omega) (fun _ => ?_) (fun _ => ?_)
      · exact j_widen (by omega) (by omega) (hret _ _ _ dX9_init_111 ⟨RR_1 hRa hF.2, hF.1, by rw [hF.2]; exact hk83, by rw [hF.2]; exact hk81⟩)
      · refine j_ldcS hX (i := 0) (Or.inl ⟨rfl, rfl⟩) dX9_init_64 (fun a2 v2 hK2 => ?_)
        refine j_iload_n hX dX9_init_66 rfl 2 rfl ?_
        refine j_callKV hX hK2 ln_X9_46 rfl (c_J0_charAt_5068e _ _ _ _ _ _ _ _ _ y _ (by decide) hy0 (show y < (103 : Int) by omega)) (by omega) ⟨by omega, by omega⟩ rfl rfl (Nat.le_of_ble_eq_true rfl) dX9_init_67 (fun c hc hp2 => ?_)
        refine j_istore_n (lv' := [(3, _), (0, _), (1, _), (2, _)]) hX dX9_init_70 rfl (by rw [hnL]; decide) rfl ?_
        refine j_iload_n hX dX9_init_71 rfl 0 rfl ?_
        refine j_bipush hX dX9_init_72 rfl ?_
        refine j_icmp_ne (tgt := 83) hX dX9_init_74 (by decide) (by omega) (by omega) (fun _ => ?_) (fun _ => ?_)
        · refine j_iload_n hX dX9_init_83 rfl 2 rfl ?_
          refine j_bipush hX dX9_init_84 rfl ?_
          refine j_icmp_ge (tgt := 105) hX dX9_init_86 (by decide) (by omega) (by omega) (fun _ => ?_) (fun _ => ?_)
          · refine j_iinc (lv' := [(2, _), (3, _), (0, _), (1, _)]) hX dX9_init_105 3 rfl (by rw [hnL]; decide) rfl ?_
            refine j_goto (tgt := 55) hX dX9_init_108 (by decide) ?_
            refine j_sub [2, 3, 0] rfl ?_
            exact ih _ _ _ (by omega) (by omega) (by omega) (by omega) hF (by omega)
          · refine j_aload_n hX dX9_init_89 rfl 1 rfl ?_
            refine gf_X9_15 hX (by omega) (by omega) (by decide +kernel : kd 2 = .inl 9) hkk (by omega) dX9_init_90 ?_
            refine j_iload_n hX dX9_init_93 rfl 2 rfl ?_
            refine j_aload_n hX dX9_init_94 rfl 1 rfl ?_
            refine gf_X9_15 hX (by omega) (by omega) (by decide +kernel : kd 2 = .inl 9) hkk (by omega) dX9_init_95 ?_
            refine j_iload_n hX dX9_init_98 rfl 2 rfl ?_
            refine j_lald hX (by omega) (by omega) (by decide +kernel : kd 4 = .inr (3, 22)) (by omega) (by omega) (by decide) dX9_init_99 ?_
            refine j_iload_n hX dX9_init_100 rfl 0 rfl ?_
            refine j_callSL hX lk_X9_50 (c_X9_withLetter _ _ _ _ _ _ _ _ (by omega)) (by omega) ⟨by omega, by omega⟩ rfl rfl (Nat.le_of_ble_eq_true rfl) dX9_init_101 (fun zl M5 hp5 => ?_)
            subst hp5
            refine j_last hX (by omega) (by omega) (by decide +kernel : kd 4 = .inr (3, 22)) (by omega) (by omega) (by decide) dX9_init_104 ?_
            refine j_upLN (fun M6 hM6 => ?_)
            have hF6 : F2 2 5 M M6 ∧ M6.1 = M73.1 := ⟨F2.lng hF.1 hM6 ⟨by omega, by omega⟩, by rw [hM6]; exact hF.2⟩
            refine j_iinc (lv' := [(2, _), (3, _), (0, _), (1, _)]) hX dX9_init_105 3 rfl (by rw [hnL]; decide) rfl ?_
            refine j_goto (tgt := 55) hX dX9_init_108 (by decide) ?_
            refine j_sub [2, 3, 0] rfl ?_
            exact ih _ _ _ (by omega) (by omega) (by omega) (by omega) hF6 (by omega)
        · refine j_iinc (lv' := [(1, _), (3, _), (0, _), (2, _)]) hX dX9_init_77 2 rfl (by rw [hnL]; decide) rfl ?_
          refine j_goto (tgt := 105) hX dX9_init_80 (by decide) ?_
          refine j_iinc (lv' := [(2, _), (1, _), (3, _), (0, _)]) hX dX9_init_105 3 rfl (by rw [hnL]; decide) rfl ?_
          refine j_goto (tgt := 55) hX dX9_init_108 (by decide) ?_
          refine j_sub [3, 1, 0] rfl ?_
          exact ih _ _ _ (by omega) (by omega) (by omega) (by omega) hF (by omega)
  refine j_sub [2, 1, 0] rfl ?_
  exact cp 200 0 0 _ (by omega) (by omega) (by omega) (by omega) ⟨hG75, rfl⟩ (by omega)
set_option maxHeartbeats 2000000 in
set_option maxRecDepth 20000 in
theorem cv_X7_init (l : Launch) (D : va_G) (cy : Nat → ClassId) (B N : Nat) (M : MM) (hN : (N : Int) = 1 + 1) (hd : DF 1 26 M) : CN l D cy B N (N + 24) 21 24 2116 yX7_init cX7_init 1 [rv B 1] M (fun M' => RR 1 26 M' ∧ F2 1 26 M M' ∧ (M'.1 1 1 = 5) ∧ (M'.1 2 4 = 0) ∧ (M'.1 1 2 = 0) ∧ (M'.1 1 3 = -1) ∧ (M'.1 2 2 = 0)) := by
  refine mk_CN (by decide) rfl (Nat.le_of_ble_eq_true rfl) ?_
  intro X exl exD excy hnL hX hin hRc hRs hret
  have hpl : pl 1 = ((5 : Nat) : Int) := pl_o (r := (RX7, TX7, 5)) (by decide +kernel : kd 1 = .inl 7) rfl
  have hG : F2 1 26 M M := F2.rf
  have hD : DF 2 26 M := hd.sub (by omega) (Int.le_refl _)
  have hU : UL 1 [] M := UL_0 (hd.at _ (by omega) (by omega))
  have hR : RR 2 2 M := RR_0
  show J X B N 0 0 0 [(0, rv B 1)] [] M
  refine j_aload_n hX dX7_init_0 rfl 0 rfl ?_
  refine j_objInit hX (in_1 35 (by first | rfl | decide +kernel) rfl) (in_1 28 (by first | rfl | decide +kernel) rfl) (in_1 29 (by first | rfl | decide +kernel) rfl) (by omega) (Nat.le_of_ble_eq_true rfl) dX7_init_1 ?_
  refine j_aload_n hX dX7_init_4 rfl 0 rfl ?_
  refine j_new hX (k := 2) (by omega) hin_9 tyX9_ok rfl (in_1 36 (by first | rfl | decide +kernel) rfl) (in_1 37 (by first | rfl | decide +kernel) rfl) (in_1 3 (by first | rfl | decide +kernel) rfl) (by decide +kernel : kd 2 = .inl 9) (fun _ => rfl) okX9 (hD.at _ (by omega) (by omega)) ⟨by omega, by omega⟩ dX7_init_5 ?_
  refine j_dup hX dX7_init_8 rfl ?_
  refine j_callP hX (in_1 38 (by first | rfl | decide +kernel) rfl) lkI_9 (cv_X9_init _ _ _ _ _ _ (by omega) (hD.sub (by omega) (by omega))) (by omega) ⟨by omega, by omega⟩ (Nat.le_of_ble_eq_true rfl) dX7_init_9 (fun M1 hp2 => ?_)
  obtain ⟨hRn3, hGn4, hx5, hx6⟩ := hp2
  have hG7 := F2.trans hG hGn4 (by omega) (by omega)
  have hD8 := DF_f2 (hD.sub (lo' := 5) (by omega) (Int.le_refl _)) hGn4 (by omega)
  have hU9 := UL_f2 hU hGn4 (by omega)
  have hR10 := RR_f2 hR hGn4 (Or.inl (by omega))
  have hR11 : RR 2 5 M1 := RR_j hR10 hRn3
  refine pfF_X7_12 hX hin (by omega) (by omega) (by decide +kernel : kd 1 = .inl 7) (by omega) (by omega) dX7_init_12 ?_
  refine j_upN (fun M12 hM13 hf14 => ?_)
  have hG15 := F2.put hG7 hM13 ⟨by omega, by omega⟩
  have hD16 := DF_up hD8 hM13 (by omega)
  have hU17 := UL_up hU9 hM13
  have hR18 := RR_up hR11 hM13 (Or.inl (by omega))
  have hx19 := kp_up hM13 (fun h => absurd h.1 (by omega)) hx5
  have hx20 := kp_up hM13 (fun h => absurd h.1 (by omega)) hx6
  refine j_aload_n hX dX7_init_15 rfl 0 rfl ?_
  refine j_new hX (k := 5) (by omega) hin_6 tyX6_ok rfl (in_1 128 (by first | rfl | decide +kernel) rfl) (in_1 129 (by first | rfl | decide +kernel) rfl) (in_1 8 (by first | rfl | decide +kernel) rfl) (by decide +kernel : kd 5 = .inl 6) (fun _ => rfl) okX6 (hD16.at _ (by omega) (by omega)) ⟨by omega, by omega⟩ dX7_init_16 ?_
  refine j_dup hX dX7_init_19 rfl ?_
  refine j_callN hX (List.mem_of_getElem? (i := 1) rfl) lkI_6 (cv_X6_init _ _ _ _ _ 5 _ (by omega) (by omega) (hD16.sub (by omega) (by omega))) (by omega) ⟨by omega, by omega⟩ (Nat.le_of_ble_eq_true rfl) dX7_init_20 (fun M21 hp22 => ?_)
  obtain ⟨hRn23, hGn24, hx25, hx26, hx27, hx28, hx29, hx30⟩ := hp22
  have hG31 := F2.trans hG15 hGn24 (by omega) (by omega)
  have hD32 := DF_f2 (hD16.sub (lo' := 26) (by omega) (Int.le_refl _)) hGn24 (by omega)
  have hU33 := UL_f2 hU17 hGn24 (by omega)
  have hR34 := RR_f2 hR18 hGn24 (Or.inl (by omega))
  have hk35 := kp_f2 hGn24 (by omega) hf14
  clear hf14
  have hx36 := kp_f2 hGn24 (by omega) hx19
  have hx37 := kp_f2 hGn24 (by omega) hx20
  have hR38 : RR 2 26 M21 := RR_j hR34 hRn23
  refine pf_X7_21 hX (by omega) (by omega) (by decide +kernel : kd 1 = .inl 7) (by omega) (by omega) dX7_init_23 ?_
  refine j_upN (fun M39 hM40 hf41 => ?_)
  have hG42 := F2.put hG31 hM40 ⟨by omega, by omega⟩
  have hD43 := DF_up hD32 hM40 (by omega)
  have hU44 := UL_up hU33 hM40
  have hR45 := RR_up hR38 hM40 (Or.inl (by omega))
  have hk46 := kp_up hM40 (fun h => absurd h.2 (by decide)) hk35
  clear hk35
  have hx47 := kp_up hM40 (fun h => absurd h.1 (by omega)) hx36
  have hx48 := kp_up hM40 (fun h => absurd h.1 (by omega)) hx37
  refine j_aload_n hX dX7_init_26 rfl 0 rfl ?_
  refine j_iconst hX dX7_init_27 ?_
  refine pf_X7_25 hX (by omega) (by omega) (by decide +kernel : kd 1 = .inl 7) (by omega) dX7_init_28 ?_
  refine j_upN (fun M49 hM50 hf51 => ?_)
  have hG52 := F2.put hG42 hM50 ⟨by omega, by omega⟩
  have hD53 := DF_up hD43 hM50 (by omega)
  have hU54 := UL_up hU44 hM50
  have hR55 := RR_up hR45 hM50 (Or.inl (by omega))
  have hk56 := kp_up hM50 (fun h => absurd h.2 (by decide)) hk46
  have hk57 := kp_up hM50 (fun h => absurd h.2 (by decide)) hf41
  clear hk46 hf41
  have hx58 := kp_up hM50 (fun h => absurd h.1 (by omega)) hx47
  have hx59 := kp_up hM50 (fun h => absurd h.1 (by omega)) hx48
  refine j_aload_n hX dX7_init_31 rfl 0 rfl ?_
  refine j_iconst hX dX7_init_32 ?_
  refine pf_X7_29 hX (by omega) (by omega) (by decide +kernel : kd 1 = .inl 7) (by omega) dX7_init_33 ?_
  refine j_upN (fun M60 hM61 hf62 => ?_)
  have hG63 := F2.put hG52 hM61 ⟨by omega, by omega⟩
  have hD64 := DF_up hD53 hM61 (by omega)
  have hU65 := UL_up hU54 hM61
  have hR66 := RR_up hR55 hM61 (Or.inl (by omega))
  have hk67 := kp_up hM61 (fun h => absurd h.2 (by decide)) hk56
  have hk68 := kp_up hM61 (fun h => absurd h.2 (by decide)) hk57
  have hk69 := kp_up hM61 (fun h => absurd h.2 (by decide)) hf51
  clear hk56 hk57 hf51
  have hx70 := kp_up hM61 (fun h => absurd h.1 (by omega)) hx58
  have hx71 := kp_up hM61 (fun h => absurd h.1 (by omega)) hx59
  refine j_aload_n hX dX7_init_36 rfl 0 rfl ?_
  refine j_iconst hX dX7_init_37 ?_
  refine pf_X7_32 hX (by omega) (by omega) (by decide +kernel : kd 1 = .inl 7) (by omega) dX7_init_38 ?_
  refine j_upN (fun M72 hM73 hf74 => ?_)
  have hG75 := F2.put hG63 hM73 ⟨by omega, by omega⟩
  have hD76 := DF_up hD64 hM73 (by omega)
  have hU77 := UL_up hU65 hM73
  have hR78 := RR_up hR66 hM73 (Or.inl (by omega))
  have hk79 := kp_up hM73 (fun h => absurd h.2 (by decide)) hk67
  have hk80 := kp_up hM73 (fun h => absurd h.2 (by decide)) hk68
  have hk81 := kp_up hM73 (fun h => absurd h.2 (by decide)) hk69
  have hk82 := kp_up hM73 (fun h => absurd h.2 (by decide)) hf62
  clear hk67 hk68 hk69 hf62
  have hx83 := kp_up hM73 (fun h => absurd h.1 (by omega)) hx70
  have hx84 := kp_up hM73 (fun h => absurd h.1 (by omega)) hx71
  have hRo : Rg 1 M72 := by
    refine Rg_obj (n := 5) hpl hU77 (by decide) (by omega) (fun j hj => ?_)
    rcases (by omega : j = 0 ∨ j = 1 ∨ j = 2 ∨ j = 3 ∨ j = 4) with h | h | h | h | h
    · subst h
      show (rg 1 0).1 ≤ M72.1 1 0 ∧ M72.1 1 0 ≤ (rg 1 0).2
      rw [rz_1_0, hk79]; exact ⟨by dsimp only; omega, by dsimp only; omega⟩
    · subst h
      show (rg 1 1).1 ≤ M72.1 1 1 ∧ M72.1 1 1 ≤ (rg 1 1).2
      rw [rz_1_1, hk80]; exact ⟨by dsimp only; omega, by dsimp only; omega⟩
    · subst h
      show (rg 1 2).1 ≤ M72.1 1 2 ∧ M72.1 1 2 ≤ (rg 1 2).2
      rw [rz_1_2, hk81]; exact ⟨by dsimp only; omega, by dsimp only; omega⟩
    · subst h
      show (rg 1 3).1 ≤ M72.1 1 3 ∧ M72.1 1 3 ≤ (rg 1 3).2
      rw [rz_1_3, hk82]; exact ⟨by dsimp only; omega, by dsimp only; omega⟩
    · subst h
      show (rg 1 4).1 ≤ M72.1 1 4 ∧ M72.1 1 4 ≤ (rg 1 4).2
      rw [rz_1_4, hf74]; exact ⟨by dsimp only; omega, by dsimp only; omega⟩
  have hRa : RR 1 26 M72 := RR_j (RR_s RR_0 hRo (by omega)) hR78
  exact j_widen (by omega) (by omega) (hret _ _ _ dX7_init_41 ⟨hRa, hG75, hk80, hx83, hk81, hk82, hx84⟩)
set_option maxHeartbeats 2000000 in
set_option maxRecDepth 20000 in
theorem cv_X10_init (l : Launch) (D : va_G) (cy : Nat → ClassId) (B N : Nat) (M : MM) (hN : (N : Int) = 0 + 1) (hd : DF 0 210 M) (hq : ∀ k, ¬ (0 ≤ k ∧ k < 210) → Rg k M) : CN l D cy B N (N + 209) 22 209 3699 yX10_init cX10_init 2 [rv B 0] M (fun M' => Iv M' ∧ CIv M' ∧ M'.1 0 11 = 0 ∧ FC M') := by
  refine mk_CN (by decide) rfl (Nat.le_of_ble_eq_true rfl) ?_
  intro X exl exD excy hnL hX hin hRc hRs hret
  have hpl : pl 0 = ((12 : Nat) : Int) := pl_o (r := (RX10, TX10, 12)) (by decide +kernel : kd 0 = .inl 10) rfl
  have hG : F2 0 210 M M := F2.rf
  have hD : DF 1 210 M := hd.sub (by omega) (Int.le_refl _)
  have hU : UL 0 [] M := UL_0 (hd.at _ (by omega) (by omega))
  have hR : RR 1 1 M := RR_0
  show J X B N 0 0 0 [(0, rv B 0)] [] M
  refine j_aload_n hX dX10_init_0 rfl 0 rfl ?_
  refine j_objInit hX (in_1 27 (by first | rfl | decide +kernel) rfl) (in_1 28 (by first | rfl | decide +kernel) rfl) (in_1 29 (by first | rfl | decide +kernel) rfl) (by omega) (Nat.le_of_ble_eq_true rfl) dX10_init_1 ?_
  refine j_aload_n hX dX10_init_4 rfl 0 rfl ?_
  refine j_new hX (k := 1) (by omega) hin_7 tyX7_ok rfl (in_1 30 (by first | rfl | decide +kernel) rfl) (in_1 31 (by first | rfl | decide +kernel) rfl) (in_1 2 (by first | rfl | decide +kernel) rfl) (by decide +kernel : kd 1 = .inl 7) (fun _ => rfl) okX7 (hD.at _ (by omega) (by omega)) ⟨by omega, by omega⟩ dX10_init_5 ?_
  refine j_dup hX dX10_init_8 rfl ?_
  refine j_callN hX (List.mem_of_getElem? (i := 0) rfl) lkI_7 (cv_X7_init _ _ _ _ _ _ (by omega) (hD.sub (by omega) (by omega))) (by omega) ⟨by omega, by omega⟩ (Nat.le_of_ble_eq_true rfl) dX10_init_9 (fun M1 hp2 => ?_)
  obtain ⟨hRn3, hGn4, hx5, hx6, hx7, hx8, hx9⟩ := hp2
  have hG10 := F2.trans hG hGn4 (by omega) (by omega)
  have hD11 := DF_f2 (hD.sub (lo' := 26) (by omega) (Int.le_refl _)) hGn4 (by omega)
  have hU12 := UL_f2 hU hGn4 (by omega)
  have hR13 := RR_f2 hR hGn4 (Or.inl (by omega))
  have hR14 : RR 1 26 M1 := RR_j hR13 hRn3
  refine pfF_X10_10 hX hin (by omega) (by omega) (by decide +kernel : kd 0 = .inl 10) (by omega) (by omega) dX10_init_12 ?_
  refine j_upN (fun M15 hM16 hf17 => ?_)
  have hG18 := F2.put hG10 hM16 ⟨by omega, by omega⟩
  have hD19 := DF_up hD11 hM16 (by omega)
  have hU20 := UL_up hU12 hM16
  have hR21 := RR_up hR14 hM16 (Or.inl (by omega))
  have hq22 := kp_up hM16 (by omega) hx5
  have hq23 := kp_up hM16 (by omega) hx6
  have hq24 := kp_up hM16 (by omega) hx7
  have hq25 := kp_up hM16 (by omega) hx8
  have hq26 := kp_up hM16 (by omega) hx9
  refine j_aload_n hX dX10_init_15 rfl 0 rfl ?_
  refine j_new hX (k := 26) (by omega) hin_0 tyX0_ok rfl (in_2 41 (by first | rfl | decide +kernel) rfl) (in_2 42 (by first | rfl | decide +kernel) rfl) (in_1 10 (by first | rfl | decide +kernel) rfl) (by decide +kernel : kd 26 = .inl 0) (fun _ => rfl) okX0 (hD19.at _ (by omega) (by omega)) ⟨by omega, by omega⟩ dX10_init_16 ?_
  refine j_dup hX dX10_init_19 rfl ?_
  refine j_callP hX (in_2 43 (by first | rfl | decide +kernel) rfl) lkI_0 (cv_X0_init _ _ _ _ _ _ (by omega) (hD19.sub (by omega) (by omega))) (by omega) ⟨by omega, by omega⟩ (Nat.le_of_ble_eq_true rfl) dX10_init_20 (fun M27 hp28 => ?_)
  obtain ⟨hRn29, hGn30, hx31, hx32, hx33, hx34⟩ := hp28
  have hG35 := F2.trans hG18 hGn30 (by omega) (by omega)
  have hD36 := DF_f2 (hD19.sub (lo' := 151) (by omega) (Int.le_refl _)) hGn30 (by omega)
  have hU37 := UL_f2 hU20 hGn30 (by omega)
  have hR38 := RR_f2 hR21 hGn30 (Or.inl (by omega))
  have hk39 := kp_f2 hGn30 (by omega) hf17
  clear hf17
  have hq40 := kp_f2 hGn30 (by omega) hq22
  have hq41 := kp_f2 hGn30 (by omega) hq23
  have hq42 := kp_f2 hGn30 (by omega) hq24
  have hq43 := kp_f2 hGn30 (by omega) hq25
  have hq44 := kp_f2 hGn30 (by omega) hq26
  have hR45 : RR 1 151 M27 := RR_j hR38 hRn29
  refine pfF_X10_19 hX hin (by omega) (by omega) (by decide +kernel : kd 0 = .inl 10) (by omega) (by omega) dX10_init_23 ?_
  refine j_upN (fun M46 hM47 hf48 => ?_)
  have hG49 := F2.put hG35 hM47 ⟨by omega, by omega⟩
  have hD50 := DF_up hD36 hM47 (by omega)
  have hU51 := UL_up hU37 hM47
  have hR52 := RR_up hR45 hM47 (Or.inl (by omega))
  have hk53 := kp_up hM47 (fun h => absurd h.2 (by decide)) hk39
  clear hk39
  have hq54 := kp_up hM47 (by omega) hq40
  have hq55 := kp_up hM47 (by omega) hq41
  have hq56 := kp_up hM47 (by omega) hq42
  have hq57 := kp_up hM47 (by omega) hq43
  have hq58 := kp_up hM47 (by omega) hq44
  have hq59 := kp_up hM47 (by omega) hx31
  have hq60 := kp_up hM47 (by omega) hx32
  have hq61 := SS_up hx33 hM47 (by omega)
  have hq62 := kp_up hM47 (by omega) hx34
  refine j_aload_n hX dX10_init_26 rfl 0 rfl ?_
  refine j_new hX (k := 151) (by omega) hin_1 tyX1_ok rfl (in_2 96 (by first | rfl | decide +kernel) rfl) (in_2 97 (by first | rfl | decide +kernel) rfl) (in_1 12 (by first | rfl | decide +kernel) rfl) (by decide +kernel : kd 151 = .inl 1) (fun _ => rfl) okX1 (hD50.at _ (by omega) (by omega)) ⟨by omega, by omega⟩ dX10_init_27 ?_
  refine j_dup hX dX10_init_30 rfl ?_
  refine j_callN hX (List.mem_of_getElem? (i := 4) rfl) lkI_1 (c_X1_init _ _ _ _ _ _ (by omega) (hD50.sub (by omega) (by omega))) (by omega) ⟨by omega, by omega⟩ (Nat.le_of_ble_eq_true rfl) dX10_init_31 (fun M63 hp64 => ?_)
  obtain ⟨hRn65, hGn66⟩ := hp64
  have hG67 := F2.trans hG49 hGn66 (by omega) (by omega)
  have hD68 := DF_f2 (hD50.sub (lo' := 153) (by omega) (Int.le_refl _)) hGn66 (by omega)
  have hU69 := UL_f2 hU51 hGn66 (by omega)
  have hR70 := RR_f2 hR52 hGn66 (Or.inl (by omega))
  have hk71 := kp_f2 hGn66 (by omega) hk53
  have hk72 := kp_f2 hGn66 (by omega) hf48
  clear hk53 hf48
  have hq73 := kp_f2 hGn66 (by omega) hq54
  have hq74 := kp_f2 hGn66 (by omega) hq55
  have hq75 := kp_f2 hGn66 (by omega) hq56
  have hq76 := kp_f2 hGn66 (by omega) hq57
  have hq77 := kp_f2 hGn66 (by omega) hq58
  have hq78 := kp_f2 hGn66 (by omega) hq59
  have hq79 := kp_f2 hGn66 (by omega) hq60
  have hq80 := SS_f2 hq61 hGn66 (by omega)
  have hq81 := kp_f2 hGn66 (by omega) hq62
  have hR82 : RR 1 153 M63 := RR_j hR70 hRn65
  refine pfF_X10_26 hX hin (by omega) (by omega) (by decide +kernel : kd 0 = .inl 10) (by omega) (by omega) dX10_init_34 ?_
  refine j_upN (fun M83 hM84 hf85 => ?_)
  have hG86 := F2.put hG67 hM84 ⟨by omega, by omega⟩
  have hD87 := DF_up hD68 hM84 (by omega)
  have hU88 := UL_up hU69 hM84
  have hR89 := RR_up hR82 hM84 (Or.inl (by omega))
  have hk90 := kp_up hM84 (fun h => absurd h.2 (by decide)) hk71
  have hk91 := kp_up hM84 (fun h => absurd h.2 (by decide)) hk72
  clear hk71 hk72
  have hq92 := kp_up hM84 (by omega) hq73
  have hq93 := kp_up hM84 (by omega) hq74
  have hq94 := kp_up hM84 (by omega) hq75
  have hq95 := kp_up hM84 (by omega) hq76
  have hq96 := kp_up hM84 (by omega) hq77
  have hq97 := kp_up hM84 (by omega) hq78
  have hq98 := kp_up hM84 (by omega) hq79
  have hq99 := SS_up hq80 hM84 (by omega)
  have hq100 := kp_up hM84 (by omega) hq81
  refine j_aload_n hX dX10_init_37 rfl 0 rfl ?_
  refine j_new hX (k := 153) (by omega) hin_8 tyX8_ok rfl (in_2 106 (by first | rfl | decide +kernel) rfl) (in_2 49 (by first | rfl | decide +kernel) rfl) (in_1 11 (by first | rfl | decide +kernel) rfl) (by decide +kernel : kd 153 = .inl 8) (fun _ => rfl) okX8 (hD87.at _ (by omega) (by omega)) ⟨by omega, by omega⟩ dX10_init_38 ?_
  refine j_dup hX dX10_init_41 rfl ?_
  refine j_callN hX (List.mem_of_getElem? (i := 5) rfl) lkI_8 (c_X8_init _ _ _ _ _ 153 _ (by unfold Sc; omega) (by omega) (hD87.sub (by omega) (by omega))) (by omega) ⟨by omega, by omega⟩ (Nat.le_of_ble_eq_true rfl) dX10_init_42 (fun M101 hp102 => ?_)
  obtain ⟨hRn103, hGn104⟩ := hp102
  have hG105 := F2.trans hG86 hGn104 (by omega) (by omega)
  have hD106 := DF_f2 (hD87.sub (lo' := 156) (by omega) (Int.le_refl _)) hGn104 (by omega)
  have hU107 := UL_f2 hU88 hGn104 (by omega)
  have hR108 := RR_f2 hR89 hGn104 (Or.inl (by omega))
  have hk109 := kp_f2 hGn104 (by omega) hk90
  have hk110 := kp_f2 hGn104 (by omega) hk91
  have hk111 := kp_f2 hGn104 (by omega) hf85
  clear hk90 hk91 hf85
  have hq112 := kp_f2 hGn104 (by omega) hq92
  have hq113 := kp_f2 hGn104 (by omega) hq93
  have hq114 := kp_f2 hGn104 (by omega) hq94
  have hq115 := kp_f2 hGn104 (by omega) hq95
  have hq116 := kp_f2 hGn104 (by omega) hq96
  have hq117 := kp_f2 hGn104 (by omega) hq97
  have hq118 := kp_f2 hGn104 (by omega) hq98
  have hq119 := SS_f2 hq99 hGn104 (by omega)
  have hq120 := kp_f2 hGn104 (by omega) hq100
  have hR121 : RR 1 156 M101 := RR_j hR108 hRn103
  refine pfF_X10_33 hX hin (by omega) (by omega) (by decide +kernel : kd 0 = .inl 10) (by omega) (by omega) dX10_init_45 ?_
  refine j_upN (fun M122 hM123 hf124 => ?_)
  have hG125 := F2.put hG105 hM123 ⟨by omega, by omega⟩
  have hD126 := DF_up hD106 hM123 (by omega)
  have hU127 := UL_up hU107 hM123
  have hR128 := RR_up hR121 hM123 (Or.inl (by omega))
  have hk129 := kp_up hM123 (fun h => absurd h.2 (by decide)) hk109
  have hk130 := kp_up hM123 (fun h => absurd h.2 (by decide)) hk110
  have hk131 := kp_up hM123 (fun h => absurd h.2 (by decide)) hk111
  clear hk109 hk110 hk111
  have hq132 := kp_up hM123 (by omega) hq112
  have hq133 := kp_up hM123 (by omega) hq113
  have hq134 := kp_up hM123 (by omega) hq114
  have hq135 := kp_up hM123 (by omega) hq115
  have hq136 := kp_up hM123 (by omega) hq116
  have hq137 := kp_up hM123 (by omega) hq117
  have hq138 := kp_up hM123 (by omega) hq118
  have hq139 := SS_up hq119 hM123 (by omega)
  have hq140 := kp_up hM123 (by omega) hq120
  refine j_aload_n hX dX10_init_48 rfl 0 rfl ?_
  refine j_iconst hX dX10_init_49 ?_
  refine j_newq hX (k := 156) (by omega) (n := 3) (in_2 106 (by first | rfl | decide +kernel) rfl) (by decide +kernel : kd 156 = .inr (4, 3)) rfl (by decide) (hD126.at _ (by omega) (by omega)) ⟨by omega, by omega⟩ dX10_init_50 ?_
  have hU2 : UL 156 [] M122 := UL_0 (hD126.at 156 (by omega) (by omega))
  have hR141 : RR 157 157 M122 := RR_0
  refine pfF_X10_37 hX hin (by omega) (by omega) (by decide +kernel : kd 0 = .inl 10) (by omega) (by omega) dX10_init_53 ?_
  refine j_upN (fun M142 hM143 hf144 => ?_)
  have hG145 := F2.put hG125 hM143 ⟨by omega, by omega⟩
  have hD146 := DF_up hD126 hM143 (by omega)
  have hU147 := UL_up hU127 hM143
  have hR148 := RR_up hR141 hM143 (Or.inl (by omega))
  have hk149 := kp_up hM143 (fun h => absurd h.2 (by decide)) hk129
  have hk150 := kp_up hM143 (fun h => absurd h.2 (by decide)) hk130
  have hk151 := kp_up hM143 (fun h => absurd h.2 (by decide)) hk131
  have hk152 := kp_up hM143 (fun h => absurd h.2 (by decide)) hf124
  clear hk129 hk130 hk131 hf124
  have hq153 := kp_up hM143 (by omega) hq132
  have hq154 := kp_up hM143 (by omega) hq133
  have hq155 := kp_up hM143 (by omega) hq134
  have hq156 := kp_up hM143 (by omega) hq135
  have hq157 := kp_up hM143 (by omega) hq136
  have hq158 := kp_up hM143 (by omega) hq137
  have hq159 := kp_up hM143 (by omega) hq138
  have hq160 := SS_up hq139 hM143 (by omega)
  have hq161 := kp_up hM143 (by omega) hq140
  have hR162 := RR_up hR128 hM143 (Or.inl (by omega))
  have hU163 := UL_ne hU2 hM143 (by omega)
  refine j_aload_n hX dX10_init_56 rfl 0 rfl ?_
  refine j_new hX (k := 157) (by omega) hin_5 tyX5_ok rfl (in_2 108 (by first | rfl | decide +kernel) rfl) (in_2 109 (by first | rfl | decide +kernel) rfl) (in_1 13 (by first | rfl | decide +kernel) rfl) (by decide +kernel : kd 157 = .inl 5) (fun _ => rfl) okX5 (hD146.at _ (by omega) (by omega)) ⟨by omega, by omega⟩ dX10_init_57 ?_
  refine j_dup hX dX10_init_60 rfl ?_
  refine j_callP hX (in_2 110 (by first | rfl | decide +kernel) rfl) lkI_5 (cv_X5_init _ _ _ _ _ _ (by omega) (hD146.sub (by omega) (by omega))) (by omega) ⟨by omega, by omega⟩ (Nat.le_of_ble_eq_true rfl) dX10_init_61 (fun M164 hp165 => ?_)
  obtain ⟨hRn166, hGn167, hx168⟩ := hp165
  have hG169 := F2.trans hG145 hGn167 (by omega) (by omega)
  have hD170 := DF_f2 (hD146.sub (lo' := 164) (by omega) (Int.le_refl _)) hGn167 (by omega)
  have hU171 := UL_f2 hU147 hGn167 (by omega)
  have hR172 := RR_f2 hR148 hGn167 (Or.inl (by omega))
  have hk173 := kp_f2 hGn167 (by omega) hk149
  have hk174 := kp_f2 hGn167 (by omega) hk150
  have hk175 := kp_f2 hGn167 (by omega) hk151
  have hk176 := kp_f2 hGn167 (by omega) hk152
  have hk177 := kp_f2 hGn167 (by omega) hf144
  clear hk149 hk150 hk151 hk152 hf144
  have hq178 := kp_f2 hGn167 (by omega) hq153
  have hq179 := kp_f2 hGn167 (by omega) hq154
  have hq180 := kp_f2 hGn167 (by omega) hq155
  have hq181 := kp_f2 hGn167 (by omega) hq156
  have hq182 := kp_f2 hGn167 (by omega) hq157
  have hq183 := kp_f2 hGn167 (by omega) hq158
  have hq184 := kp_f2 hGn167 (by omega) hq159
  have hq185 := SS_f2 hq160 hGn167 (by omega)
  have hq186 := kp_f2 hGn167 (by omega) hq161
  have hR187 := RR_f2 hR162 hGn167 (Or.inl (by omega))
  have hU188 := UL_f2 hU163 hGn167 (by omega)
  have hR189 : RR 157 164 M164 := RR_j hR172 hRn166
  refine pfF_X10_44 hX hin (by omega) (by omega) (by decide +kernel : kd 0 = .inl 10) (by omega) (by omega) dX10_init_64 ?_
  refine j_upN (fun M190 hM191 hf192 => ?_)
  have hG193 := F2.put hG169 hM191 ⟨by omega, by omega⟩
  have hD194 := DF_up hD170 hM191 (by omega)
  have hU195 := UL_up hU171 hM191
  have hR196 := RR_up hR189 hM191 (Or.inl (by omega))
  have hk197 := kp_up hM191 (fun h => absurd h.2 (by decide)) hk173
  have hk198 := kp_up hM191 (fun h => absurd h.2 (by decide)) hk174
  have hk199 := kp_up hM191 (fun h => absurd h.2 (by decide)) hk175
  have hk200 := kp_up hM191 (fun h => absurd h.2 (by decide)) hk176
  have hk201 := kp_up hM191 (fun h => absurd h.2 (by decide)) hk177
  clear hk173 hk174 hk175 hk176 hk177
  have hq202 := kp_up hM191 (by omega) hq178
  have hq203 := kp_up hM191 (by omega) hq179
  have hq204 := kp_up hM191 (by omega) hq180
  have hq205 := kp_up hM191 (by omega) hq181
  have hq206 := kp_up hM191 (by omega) hq182
  have hq207 := kp_up hM191 (by omega) hq183
  have hq208 := kp_up hM191 (by omega) hq184
  have hq209 := SS_up hq185 hM191 (by omega)
  have hq210 := kp_up hM191 (by omega) hq186
  have hq211 := KA_up hx168 hM191 (by omega)
  have hR212 := RR_up hR187 hM191 (Or.inl (by omega))
  have hU213 := UL_ne hU188 hM191 (by omega)
  refine j_aload_n hX dX10_init_67 rfl 0 rfl ?_
  refine j_new hX (k := 164) (by omega) hin_3 tyX3_ok rfl (in_2 149 (by first | rfl | decide +kernel) rfl) (in_2 150 (by first | rfl | decide +kernel) rfl) (in_1 16 (by first | rfl | decide +kernel) rfl) (by decide +kernel : kd 164 = .inl 3) (fun _ => rfl) okX3 (hD194.at _ (by omega) (by omega)) ⟨by omega, by omega⟩ dX10_init_68 ?_
  refine j_dup hX dX10_init_71 rfl ?_
  refine j_callN hX (List.mem_of_getElem? (i := 7) rfl) lkI_3 (cv_X3_init _ _ _ _ _ _ (by omega) (hD194.sub (by omega) (by omega))) (by omega) ⟨by omega, by omega⟩ (Nat.le_of_ble_eq_true rfl) dX10_init_72 (fun M214 hp215 => ?_)
  obtain ⟨hRn216, hGn217, hx218⟩ := hp215
  have hG219 := F2.trans hG193 hGn217 (by omega) (by omega)
  have hD220 := DF_f2 (hD194.sub (lo' := 179) (by omega) (Int.le_refl _)) hGn217 (by omega)
  have hU221 := UL_f2 hU195 hGn217 (by omega)
  have hR222 := RR_f2 hR196 hGn217 (Or.inl (by omega))
  have hk223 := kp_f2 hGn217 (by omega) hk197
  have hk224 := kp_f2 hGn217 (by omega) hk198
  have hk225 := kp_f2 hGn217 (by omega) hk199
  have hk226 := kp_f2 hGn217 (by omega) hk200
  have hk227 := kp_f2 hGn217 (by omega) hk201
  have hk228 := kp_f2 hGn217 (by omega) hf192
  clear hk197 hk198 hk199 hk200 hk201 hf192
  have hq229 := kp_f2 hGn217 (by omega) hq202
  have hq230 := kp_f2 hGn217 (by omega) hq203
  have hq231 := kp_f2 hGn217 (by omega) hq204
  have hq232 := kp_f2 hGn217 (by omega) hq205
  have hq233 := kp_f2 hGn217 (by omega) hq206
  have hq234 := kp_f2 hGn217 (by omega) hq207
  have hq235 := kp_f2 hGn217 (by omega) hq208
  have hq236 := SS_f2 hq209 hGn217 (by omega)
  have hq237 := kp_f2 hGn217 (by omega) hq210
  have hq238 := KA_f2 hq211 hGn217 (by omega)
  have hR239 := RR_f2 hR212 hGn217 (Or.inl (by omega))
  have hU240 := UL_f2 hU213 hGn217 (by omega)
  have hR241 : RR 157 179 M214 := RR_j hR222 hRn216
  refine pfF_X10_51 hX hin (by omega) (by omega) (by decide +kernel : kd 0 = .inl 10) (by omega) (by omega) dX10_init_75 ?_
  refine j_upN (fun M242 hM243 hf244 => ?_)
  have hG245 := F2.put hG219 hM243 ⟨by omega, by omega⟩
  have hD246 := DF_up hD220 hM243 (by omega)
  have hU247 := UL_up hU221 hM243
  have hR248 := RR_up hR241 hM243 (Or.inl (by omega))
  have hk249 := kp_up hM243 (fun h => absurd h.2 (by decide)) hk223
  have hk250 := kp_up hM243 (fun h => absurd h.2 (by decide)) hk224
  have hk251 := kp_up hM243 (fun h => absurd h.2 (by decide)) hk225
  have hk252 := kp_up hM243 (fun h => absurd h.2 (by decide)) hk226
  have hk253 := kp_up hM243 (fun h => absurd h.2 (by decide)) hk227
  have hk254 := kp_up hM243 (fun h => absurd h.2 (by decide)) hk228
  clear hk223 hk224 hk225 hk226 hk227 hk228
  have hq255 := kp_up hM243 (by omega) hq229
  have hq256 := kp_up hM243 (by omega) hq230
  have hq257 := kp_up hM243 (by omega) hq231
  have hq258 := kp_up hM243 (by omega) hq232
  have hq259 := kp_up hM243 (by omega) hq233
  have hq260 := kp_up hM243 (by omega) hq234
  have hq261 := kp_up hM243 (by omega) hq235
  have hq262 := SS_up hq236 hM243 (by omega)
  have hq263 := kp_up hM243 (by omega) hq237
  have hq264 := KA_up hq238 hM243 (by omega)
  have hq265 := kp_up hM243 (by omega) hx218
  have hR266 := RR_up hR239 hM243 (Or.inl (by omega))
  have hU267 := UL_ne hU240 hM243 (by omega)
  refine j_aload_n hX dX10_init_78 rfl 0 rfl ?_
  refine j_bipush hX dX10_init_79 rfl ?_
  refine j_newa hX (k := 179) (by omega) (t := 0) (n := 6) rfl (by decide) (in_1 163 (by first | rfl | decide +kernel) rfl) (by decide +kernel : kd 179 = .inr (0, 6)) rfl (by decide) (hD246.at _ (by omega) (by omega)) ⟨by omega, by omega⟩ dX10_init_81 ?_
  have hR268 : RR 157 180 M242 := RR_s hR248 (Rg_plain (by omega) (by omega) (by decide +kernel : kd 179 = .inr (0, 6)) (by decide) (hD246.at _ (by omega) (by omega))) (by omega)
  refine pfF_X10_55 hX hin (by omega) (by omega) (by decide +kernel : kd 0 = .inl 10) (by omega) (by omega) dX10_init_83 ?_
  refine j_upN (fun M269 hM270 hf271 => ?_)
  have hG272 := F2.put hG245 hM270 ⟨by omega, by omega⟩
  have hD273 := DF_up hD246 hM270 (by omega)
  have hU274 := UL_up hU247 hM270
  have hR275 := RR_up hR268 hM270 (Or.inl (by omega))
  have hk276 := kp_up hM270 (fun h => absurd h.2 (by decide)) hk249
  have hk277 := kp_up hM270 (fun h => absurd h.2 (by decide)) hk250
  have hk278 := kp_up hM270 (fun h => absurd h.2 (by decide)) hk251
  have hk279 := kp_up hM270 (fun h => absurd h.2 (by decide)) hk252
  have hk280 := kp_up hM270 (fun h => absurd h.2 (by decide)) hk253
  have hk281 := kp_up hM270 (fun h => absurd h.2 (by decide)) hk254
  have hk282 := kp_up hM270 (fun h => absurd h.2 (by decide)) hf244
  clear hk249 hk250 hk251 hk252 hk253 hk254 hf244
  have hq283 := kp_up hM270 (by omega) hq255
  have hq284 := kp_up hM270 (by omega) hq256
  have hq285 := kp_up hM270 (by omega) hq257
  have hq286 := kp_up hM270 (by omega) hq258
  have hq287 := kp_up hM270 (by omega) hq259
  have hq288 := kp_up hM270 (by omega) hq260
  have hq289 := kp_up hM270 (by omega) hq261
  have hq290 := SS_up hq262 hM270 (by omega)
  have hq291 := kp_up hM270 (by omega) hq263
  have hq292 := KA_up hq264 hM270 (by omega)
  have hq293 := kp_up hM270 (by omega) hq265
  have hR294 := RR_up hR266 hM270 (Or.inl (by omega))
  have hU295 := UL_ne hU267 hM270 (by omega)
  refine j_aload_n hX dX10_init_86 rfl 0 rfl ?_
  refine j_new hX (k := 180) (by omega) hin_6 tyX6_ok rfl (in_2 187 (by first | rfl | decide +kernel) rfl) (in_1 129 (by first | rfl | decide +kernel) rfl) (in_1 8 (by first | rfl | decide +kernel) rfl) (by decide +kernel : kd 180 = .inl 6) (fun _ => rfl) okX6 (hD273.at _ (by omega) (by omega)) ⟨by omega, by omega⟩ dX10_init_87 ?_
  refine j_dup hX dX10_init_90 rfl ?_
  refine j_callN hX (List.mem_of_getElem? (i := 9) rfl) lkI_6 (cv_X6_init _ _ _ _ _ 180 _ (by omega) (by omega) (hD273.sub (by omega) (by omega))) (by omega) ⟨by omega, by omega⟩ (Nat.le_of_ble_eq_true rfl) dX10_init_91 (fun M296 hp297 => ?_)
  obtain ⟨hRn298, hGn299, hx300, hx301, hx302, hx303, hx304, hx305⟩ := hp297
  have hG306 := F2.trans hG272 hGn299 (by omega) (by omega)
  have hD307 := DF_f2 (hD273.sub (lo' := 201) (by omega) (Int.le_refl _)) hGn299 (by omega)
  have hU308 := UL_f2 hU274 hGn299 (by omega)
  have hR309 := RR_f2 hR275 hGn299 (Or.inl (by omega))
  have hk310 := kp_f2 hGn299 (by omega) hk276
  have hk311 := kp_f2 hGn299 (by omega) hk277
  have hk312 := kp_f2 hGn299 (by omega) hk278
  have hk313 := kp_f2 hGn299 (by omega) hk279
  have hk314 := kp_f2 hGn299 (by omega) hk280
  have hk315 := kp_f2 hGn299 (by omega) hk281
  have hk316 := kp_f2 hGn299 (by omega) hk282
  have hk317 := kp_f2 hGn299 (by omega) hf271
  clear hk276 hk277 hk278 hk279 hk280 hk281 hk282 hf271
  have hq318 := kp_f2 hGn299 (by omega) hq283
  have hq319 := kp_f2 hGn299 (by omega) hq284
  have hq320 := kp_f2 hGn299 (by omega) hq285
  have hq321 := kp_f2 hGn299 (by omega) hq286
  have hq322 := kp_f2 hGn299 (by omega) hq287
  have hq323 := kp_f2 hGn299 (by omega) hq288
  have hq324 := kp_f2 hGn299 (by omega) hq289
  have hq325 := SS_f2 hq290 hGn299 (by omega)
  have hq326 := kp_f2 hGn299 (by omega) hq291
  have hq327 := KA_f2 hq292 hGn299 (by omega)
  have hq328 := kp_f2 hGn299 (by omega) hq293
  have hR329 := RR_f2 hR294 hGn299 (Or.inl (by omega))
  have hU330 := UL_f2 hU295 hGn299 (by omega)
  have hR331 : RR 157 201 M296 := RR_j hR309 hRn298
  refine pf_X10_62 hX (by omega) (by omega) (by decide +kernel : kd 0 = .inl 10) (by omega) (by omega) dX10_init_94 ?_
  refine j_upN (fun M332 hM333 hf334 => ?_)
  have hG335 := F2.put hG306 hM333 ⟨by omega, by omega⟩
  have hD336 := DF_up hD307 hM333 (by omega)
  have hU337 := UL_up hU308 hM333
  have hR338 := RR_up hR331 hM333 (Or.inl (by omega))
  have hk339 := kp_up hM333 (fun h => absurd h.2 (by decide)) hk310
  have hk340 := kp_up hM333 (fun h => absurd h.2 (by decide)) hk311
  have hk341 := kp_up hM333 (fun h => absurd h.2 (by decide)) hk312
  have hk342 := kp_up hM333 (fun h => absurd h.2 (by decide)) hk313
  have hk343 := kp_up hM333 (fun h => absurd h.2 (by decide)) hk314
  have hk344 := kp_up hM333 (fun h => absurd h.2 (by decide)) hk315
  have hk345 := kp_up hM333 (fun h => absurd h.2 (by decide)) hk316
  have hk346 := kp_up hM333 (fun h => absurd h.2 (by decide)) hk317
  clear hk310 hk311 hk312 hk313 hk314 hk315 hk316 hk317
  have hq347 := kp_up hM333 (by omega) hq318
  have hq348 := kp_up hM333 (by omega) hq319
  have hq349 := kp_up hM333 (by omega) hq320
  have hq350 := kp_up hM333 (by omega) hq321
  have hq351 := kp_up hM333 (by omega) hq322
  have hq352 := kp_up hM333 (by omega) hq323
  have hq353 := kp_up hM333 (by omega) hq324
  have hq354 := SS_up hq325 hM333 (by omega)
  have hq355 := kp_up hM333 (by omega) hq326
  have hq356 := KA_up hq327 hM333 (by omega)
  have hq357 := kp_up hM333 (by omega) hq328
  have hq358 := kp_up hM333 (by omega) hx300
  have hq359 := kp_up hM333 (by omega) hx301
  have hq360 := kp_up hM333 (by omega) hx302
  have hq361 := kp_up hM333 (by omega) hx303
  have hq362 := kp_up hM333 (by omega) hx304
  have hq363 := kp_up hM333 (by omega) hx305
  have hR364 := RR_up hR329 hM333 (Or.inl (by omega))
  have hU365 := UL_ne hU330 hM333 (by omega)
  refine j_aload_n hX dX10_init_97 rfl 0 rfl ?_
  refine j_iconst hX dX10_init_98 ?_
  refine pf_X10_66 hX (by omega) (by omega) (by decide +kernel : kd 0 = .inl 10) (by omega) dX10_init_99 ?_
  refine j_upN (fun M366 hM367 hf368 => ?_)
  have hG369 := F2.put hG335 hM367 ⟨by omega, by omega⟩
  have hD370 := DF_up hD336 hM367 (by omega)
  have hU371 := UL_up hU337 hM367
  have hR372 := RR_up hR338 hM367 (Or.inl (by omega))
  have hk373 := kp_up hM367 (fun h => absurd h.2 (by decide)) hk339
  have hk374 := kp_up hM367 (fun h => absurd h.2 (by decide)) hk340
  have hk375 := kp_up hM367 (fun h => absurd h.2 (by decide)) hk341
  have hk376 := kp_up hM367 (fun h => absurd h.2 (by decide)) hk342
  have hk377 := kp_up hM367 (fun h => absurd h.2 (by decide)) hk343
  have hk378 := kp_up hM367 (fun h => absurd h.2 (by decide)) hk344
  have hk379 := kp_up hM367 (fun h => absurd h.2 (by decide)) hk345
  have hk380 := kp_up hM367 (fun h => absurd h.2 (by decide)) hk346
  have hk381 := kp_up hM367 (fun h => absurd h.2 (by decide)) hf334
  clear hk339 hk340 hk341 hk342 hk343 hk344 hk345 hk346 hf334
  have hq382 := kp_up hM367 (by omega) hq347
  have hq383 := kp_up hM367 (by omega) hq348
  have hq384 := kp_up hM367 (by omega) hq349
  have hq385 := kp_up hM367 (by omega) hq350
  have hq386 := kp_up hM367 (by omega) hq351
  have hq387 := kp_up hM367 (by omega) hq352
  have hq388 := kp_up hM367 (by omega) hq353
  have hq389 := SS_up hq354 hM367 (by omega)
  have hq390 := kp_up hM367 (by omega) hq355
  have hq391 := KA_up hq356 hM367 (by omega)
  have hq392 := kp_up hM367 (by omega) hq357
  have hq393 := kp_up hM367 (by omega) hq358
  have hq394 := kp_up hM367 (by omega) hq359
  have hq395 := kp_up hM367 (by omega) hq360
  have hq396 := kp_up hM367 (by omega) hq361
  have hq397 := kp_up hM367 (by omega) hq362
  have hq398 := kp_up hM367 (by omega) hq363
  have hR399 := RR_up hR364 hM367 (Or.inl (by omega))
  have hU400 := UL_ne hU365 hM367 (by omega)
  refine j_aload_n hX dX10_init_102 rfl 0 rfl ?_
  refine j_iconst hX dX10_init_103 ?_
  refine pf_X10_70 hX (by omega) (by omega) (by decide +kernel : kd 0 = .inl 10) (by omega) dX10_init_104 ?_
  refine j_upN (fun M401 hM402 hf403 => ?_)
  have hG404 := F2.put hG369 hM402 ⟨by omega, by omega⟩
  have hD405 := DF_up hD370 hM402 (by omega)
  have hU406 := UL_up hU371 hM402
  have hR407 := RR_up hR372 hM402 (Or.inl (by omega))
  have hk408 := kp_up hM402 (fun h => absurd h.2 (by decide)) hk373
  have hk409 := kp_up hM402 (fun h => absurd h.2 (by decide)) hk374
  have hk410 := kp_up hM402 (fun h => absurd h.2 (by decide)) hk375
  have hk411 := kp_up hM402 (fun h => absurd h.2 (by decide)) hk376
  have hk412 := kp_up hM402 (fun h => absurd h.2 (by decide)) hk377
  have hk413 := kp_up hM402 (fun h => absurd h.2 (by decide)) hk378
  have hk414 := kp_up hM402 (fun h => absurd h.2 (by decide)) hk379
  have hk415 := kp_up hM402 (fun h => absurd h.2 (by decide)) hk380
  have hk416 := kp_up hM402 (fun h => absurd h.2 (by decide)) hk381
  have hk417 := kp_up hM402 (fun h => absurd h.2 (by decide)) hf368
  clear hk373 hk374 hk375 hk376 hk377 hk378 hk379 hk380 hk381 hf368
  have hq418 := kp_up hM402 (by omega) hq382
  have hq419 := kp_up hM402 (by omega) hq383
  have hq420 := kp_up hM402 (by omega) hq384
  have hq421 := kp_up hM402 (by omega) hq385
  have hq422 := kp_up hM402 (by omega) hq386
  have hq423 := kp_up hM402 (by omega) hq387
  have hq424 := kp_up hM402 (by omega) hq388
  have hq425 := SS_up hq389 hM402 (by omega)
  have hq426 := kp_up hM402 (by omega) hq390
  have hq427 := KA_up hq391 hM402 (by omega)
  have hq428 := kp_up hM402 (by omega) hq392
  have hq429 := kp_up hM402 (by omega) hq393
  have hq430 := kp_up hM402 (by omega) hq394
  have hq431 := kp_up hM402 (by omega) hq395
  have hq432 := kp_up hM402 (by omega) hq396
  have hq433 := kp_up hM402 (by omega) hq397
  have hq434 := kp_up hM402 (by omega) hq398
  have hR435 := RR_up hR399 hM402 (Or.inl (by omega))
  have hU436 := UL_ne hU400 hM402 (by omega)
  refine j_aload_n hX dX10_init_107 rfl 0 rfl ?_
  refine j_iconst hX dX10_init_108 ?_
  refine pf_X10_73 hX (by omega) (by omega) (by decide +kernel : kd 0 = .inl 10) (by omega) dX10_init_109 ?_
  refine j_upN (fun M437 hM438 hf439 => ?_)
  have hG440 := F2.put hG404 hM438 ⟨by omega, by omega⟩
  have hD441 := DF_up hD405 hM438 (by omega)
  have hU442 := UL_up hU406 hM438
  have hR443 := RR_up hR407 hM438 (Or.inl (by omega))
  have hk444 := kp_up hM438 (fun h => absurd h.2 (by decide)) hk408
  have hk445 := kp_up hM438 (fun h => absurd h.2 (by decide)) hk409
  have hk446 := kp_up hM438 (fun h => absurd h.2 (by decide)) hk410
  have hk447 := kp_up hM438 (fun h => absurd h.2 (by decide)) hk411
  have hk448 := kp_up hM438 (fun h => absurd h.2 (by decide)) hk412
  have hk449 := kp_up hM438 (fun h => absurd h.2 (by decide)) hk413
  have hk450 := kp_up hM438 (fun h => absurd h.2 (by decide)) hk414
  have hk451 := kp_up hM438 (fun h => absurd h.2 (by decide)) hk415
  have hk452 := kp_up hM438 (fun h => absurd h.2 (by decide)) hk416
  have hk453 := kp_up hM438 (fun h => absurd h.2 (by decide)) hk417
  have hk454 := kp_up hM438 (fun h => absurd h.2 (by decide)) hf403
  clear hk408 hk409 hk410 hk411 hk412 hk413 hk414 hk415 hk416 hk417 hf403
  have hq455 := kp_up hM438 (by omega) hq418
  have hq456 := kp_up hM438 (by omega) hq419
  have hq457 := kp_up hM438 (by omega) hq420
  have hq458 := kp_up hM438 (by omega) hq421
  have hq459 := kp_up hM438 (by omega) hq422
  have hq460 := kp_up hM438 (by omega) hq423
  have hq461 := kp_up hM438 (by omega) hq424
  have hq462 := SS_up hq425 hM438 (by omega)
  have hq463 := kp_up hM438 (by omega) hq426
  have hq464 := KA_up hq427 hM438 (by omega)
  have hq465 := kp_up hM438 (by omega) hq428
  have hq466 := kp_up hM438 (by omega) hq429
  have hq467 := kp_up hM438 (by omega) hq430
  have hq468 := kp_up hM438 (by omega) hq431
  have hq469 := kp_up hM438 (by omega) hq432
  have hq470 := kp_up hM438 (by omega) hq433
  have hq471 := kp_up hM438 (by omega) hq434
  have hR472 := RR_up hR435 hM438 (Or.inl (by omega))
  have hU473 := UL_ne hU436 hM438 (by omega)
  refine j_iconst hX dX10_init_112 ?_
  refine j_istore_n (lv' := [(1, _), (0, _)]) hX dX10_init_113 rfl (by rw [hnL]; decide) rfl ?_
  refine j_iload_n hX dX10_init_114 rfl 0 rfl ?_
  refine j_iconst hX dX10_init_115 ?_
  refine j_icmp_ge (tgt := 138) hX dX10_init_116 (by decide) (by omega) (by omega) (fun h => absurd h (by omega)) (fun _ => ?_)
  refine j_aload_n hX dX10_init_119 rfl 1 rfl ?_
  refine gf_X10_37 hX (by omega) (by omega) (by decide +kernel : kd 0 = .inl 10) hk448 (by omega) dX10_init_120 ?_
  refine j_iload_n hX dX10_init_123 rfl 0 rfl ?_
  refine j_new hX (k := 201) (by omega) hin_8 tyX8_ok rfl (in_2 106 (by first | rfl | decide +kernel) rfl) (in_2 49 (by first | rfl | decide +kernel) rfl) (in_1 11 (by first | rfl | decide +kernel) rfl) (by decide +kernel : kd 201 = .inl 8) (fun _ => rfl) okX8 (hD441.at _ (by omega) (by omega)) ⟨by omega, by omega⟩ dX10_init_124 ?_
  refine j_dup hX dX10_init_127 rfl ?_
  refine j_callN hX (List.mem_of_getElem? (i := 5) rfl) lkI_8 (c_X8_init _ _ _ _ _ 201 _ (by unfold Sc; omega) (by omega) (hD441.sub (by omega) (by omega))) (by omega) ⟨by omega, by omega⟩ (Nat.le_of_ble_eq_true rfl) dX10_init_128 (fun M474 hp475 => ?_)
  obtain ⟨hRn476, hGn477⟩ := hp475
  have hG478 := F2.trans hG440 hGn477 (by omega) (by omega)
  have hD479 := DF_f2 (hD441.sub (lo' := 204) (by omega) (Int.le_refl _)) hGn477 (by omega)
  have hU480 := UL_f2 hU442 hGn477 (by omega)
  have hR481 := RR_f2 hR443 hGn477 (Or.inl (by omega))
  have hk482 := kp_f2 hGn477 (by omega) hk444
  have hk483 := kp_f2 hGn477 (by omega) hk445
  have hk484 := kp_f2 hGn477 (by omega) hk446
  have hk485 := kp_f2 hGn477 (by omega) hk447
  have hk486 := kp_f2 hGn477 (by omega) hk448
  have hk487 := kp_f2 hGn477 (by omega) hk449
  have hk488 := kp_f2 hGn477 (by omega) hk450
  have hk489 := kp_f2 hGn477 (by omega) hk451
  have hk490 := kp_f2 hGn477 (by omega) hk452
  have hk491 := kp_f2 hGn477 (by omega) hk453
  have hk492 := kp_f2 hGn477 (by omega) hk454
  have hk493 := kp_f2 hGn477 (by omega) hf439
  clear hk444 hk445 hk446 hk447 hk448 hk449 hk450 hk451 hk452 hk453 hk454 hf439
  have hq494 := kp_f2 hGn477 (by omega) hq455
  have hq495 := kp_f2 hGn477 (by omega) hq456
  have hq496 := kp_f2 hGn477 (by omega) hq457
  have hq497 := kp_f2 hGn477 (by omega) hq458
  have hq498 := kp_f2 hGn477 (by omega) hq459
  have hq499 := kp_f2 hGn477 (by omega) hq460
  have hq500 := kp_f2 hGn477 (by omega) hq461
  have hq501 := SS_f2 hq462 hGn477 (by omega)
  have hq502 := kp_f2 hGn477 (by omega) hq463
  have hq503 := KA_f2 hq464 hGn477 (by omega)
  have hq504 := kp_f2 hGn477 (by omega) hq465
  have hq505 := kp_f2 hGn477 (by omega) hq466
  have hq506 := kp_f2 hGn477 (by omega) hq467
  have hq507 := kp_f2 hGn477 (by omega) hq468
  have hq508 := kp_f2 hGn477 (by omega) hq469
  have hq509 := kp_f2 hGn477 (by omega) hq470
  have hq510 := kp_f2 hGn477 (by omega) hq471
  have hR511 := RR_f2 hR472 hGn477 (Or.inl (by omega))
  have hU512 := UL_f2 hU473 hGn477 (by omega)
  have hR513 : RR 157 204 M474 := RR_j hR481 hRn476
  refine j_aast4 hX (by omega) (by omega) (by decide +kernel : kd 156 = .inr (4, 3)) (by omega) (by omega) (by decide) (by omega) (by omega) (by omega) (by decide +kernel) dX10_init_131 ?_
  refine j_upN (fun M514 hM515 hf516 => ?_)
  have hG517 := F2.put hG478 hM515 ⟨by omega, by omega⟩
  have hD518 := DF_up hD479 hM515 (by omega)
  have hU519 := UL_ne hU480 hM515 (by omega)
  have hR520 := RR_up hR513 hM515 (Or.inl (by omega))
  have hU521 := UL_up hU512 hM515
  have hk522 := kp_up hM515 (fun h => absurd h.1 (by decide)) hk482
  have hk523 := kp_up hM515 (fun h => absurd h.1 (by decide)) hk483
  have hk524 := kp_up hM515 (fun h => absurd h.1 (by decide)) hk484
  have hk525 := kp_up hM515 (fun h => absurd h.1 (by decide)) hk485
  have hk526 := kp_up hM515 (fun h => absurd h.1 (by decide)) hk486
  have hk527 := kp_up hM515 (fun h => absurd h.1 (by decide)) hk487
  have hk528 := kp_up hM515 (fun h => absurd h.1 (by decide)) hk488
  have hk529 := kp_up hM515 (fun h => absurd h.1 (by decide)) hk489
  have hk530 := kp_up hM515 (fun h => absurd h.1 (by decide)) hk490
  have hk531 := kp_up hM515 (fun h => absurd h.1 (by decide)) hk491
  have hk532 := kp_up hM515 (fun h => absurd h.1 (by decide)) hk492
  have hk533 := kp_up hM515 (fun h => absurd h.1 (by decide)) hk493
  clear hk482 hk483 hk484 hk485 hk486 hk487 hk488 hk489 hk490 hk491 hk492 hk493
  have hq534 := kp_up hM515 (by omega) hq494
  have hq535 := kp_up hM515 (by omega) hq495
  have hq536 := kp_up hM515 (by omega) hq496
  have hq537 := kp_up hM515 (by omega) hq497
  have hq538 := kp_up hM515 (by omega) hq498
  have hq539 := kp_up hM515 (by omega) hq499
  have hq540 := kp_up hM515 (by omega) hq500
  have hq541 := SS_up hq501 hM515 (by omega)
  have hq542 := kp_up hM515 (by omega) hq502
  have hq543 := KA_up hq503 hM515 (by omega)
  have hq544 := kp_up hM515 (by omega) hq504
  have hq545 := kp_up hM515 (by omega) hq505
  have hq546 := kp_up hM515 (by omega) hq506
  have hq547 := kp_up hM515 (by omega) hq507
  have hq548 := kp_up hM515 (by omega) hq508
  have hq549 := kp_up hM515 (by omega) hq509
  have hq550 := kp_up hM515 (by omega) hq510
  have hR551 := RR_up hR511 hM515 (Or.inr (by omega))
  refine j_iinc (lv' := [(1, _), (0, _)]) hX dX10_init_132 0 rfl (by rw [hnL]; decide) rfl ?_
  refine j_locE (show _ = (1 : Int) by decide) ?_
  refine j_goto (tgt := 114) hX dX10_init_135 (by decide) ?_
  refine j_iload_n hX dX10_init_114 rfl 0 rfl ?_
  refine j_iconst hX dX10_init_115 ?_
  refine j_icmp_ge (tgt := 138) hX dX10_init_116 (by decide) (by omega) (by omega) (fun h => absurd h (by omega)) (fun _ => ?_)
  refine j_aload_n hX dX10_init_119 rfl 1 rfl ?_
  refine gf_X10_37 hX (by omega) (by omega) (by decide +kernel : kd 0 = .inl 10) hk526 (by omega) dX10_init_120 ?_
  refine j_iload_n hX dX10_init_123 rfl 0 rfl ?_
  refine j_new hX (k := 204) (by omega) hin_8 tyX8_ok rfl (in_2 106 (by first | rfl | decide +kernel) rfl) (in_2 49 (by first | rfl | decide +kernel) rfl) (in_1 11 (by first | rfl | decide +kernel) rfl) (by decide +kernel : kd 204 = .inl 8) (fun _ => rfl) okX8 (hD518.at _ (by omega) (by omega)) ⟨by omega, by omega⟩ dX10_init_124 ?_
  refine j_dup hX dX10_init_127 rfl ?_
  refine j_callN hX (List.mem_of_getElem? (i := 5) rfl) lkI_8 (c_X8_init _ _ _ _ _ 204 _ (by unfold Sc; omega) (by omega) (hD518.sub (by omega) (by omega))) (by omega) ⟨by omega, by omega⟩ (Nat.le_of_ble_eq_true rfl) dX10_init_128 (fun M552 hp553 => ?_)
  obtain ⟨hRn554, hGn555⟩ := hp553
  have hG556 := F2.trans hG517 hGn555 (by omega) (by omega)
  have hD557 := DF_f2 (hD518.sub (lo' := 207) (by omega) (Int.le_refl _)) hGn555 (by omega)
  have hU558 := UL_f2 hU519 hGn555 (by omega)
  have hR559 := RR_f2 hR520 hGn555 (Or.inl (by omega))
  have hk560 := kp_f2 hGn555 (by omega) hk522
  have hk561 := kp_f2 hGn555 (by omega) hk523
  have hk562 := kp_f2 hGn555 (by omega) hk524
  have hk563 := kp_f2 hGn555 (by omega) hk525
  have hk564 := kp_f2 hGn555 (by omega) hk526
  have hk565 := kp_f2 hGn555 (by omega) hk527
  have hk566 := kp_f2 hGn555 (by omega) hk528
  have hk567 := kp_f2 hGn555 (by omega) hk529
  have hk568 := kp_f2 hGn555 (by omega) hk530
  have hk569 := kp_f2 hGn555 (by omega) hk531
  have hk570 := kp_f2 hGn555 (by omega) hk532
  have hk571 := kp_f2 hGn555 (by omega) hk533
  clear hk522 hk523 hk524 hk525 hk526 hk527 hk528 hk529 hk530 hk531 hk532 hk533
  have hq572 := kp_f2 hGn555 (by omega) hq534
  have hq573 := kp_f2 hGn555 (by omega) hq535
  have hq574 := kp_f2 hGn555 (by omega) hq536
  have hq575 := kp_f2 hGn555 (by omega) hq537
  have hq576 := kp_f2 hGn555 (by omega) hq538
  have hq577 := kp_f2 hGn555 (by omega) hq539
  have hq578 := kp_f2 hGn555 (by omega) hq540
  have hq579 := SS_f2 hq541 hGn555 (by omega)
  have hq580 := kp_f2 hGn555 (by omega) hq542
  have hq581 := KA_f2 hq543 hGn555 (by omega)
  have hq582 := kp_f2 hGn555 (by omega) hq544
  have hq583 := kp_f2 hGn555 (by omega) hq545
  have hq584 := kp_f2 hGn555 (by omega) hq546
  have hq585 := kp_f2 hGn555 (by omega) hq547
  have hq586 := kp_f2 hGn555 (by omega) hq548
  have hq587 := kp_f2 hGn555 (by omega) hq549
  have hq588 := kp_f2 hGn555 (by omega) hq550
  have hq589 := kp_f2 hGn555 (by omega) hf516
  have hR590 := RR_f2 hR551 hGn555 (Or.inl (by omega))
  have hU591 := UL_f2 hU521 hGn555 (by omega)
  have hR592 : RR 157 207 M552 := RR_j hR559 hRn554
  refine j_aast4 hX (by omega) (by omega) (by decide +kernel : kd 156 = .inr (4, 3)) (by omega) (by omega) (by decide) (by omega) (by omega) (by omega) (by decide +kernel) dX10_init_131 ?_
  refine j_upN (fun M593 hM594 hf595 => ?_)
  have hG596 := F2.put hG556 hM594 ⟨by omega, by omega⟩
  have hD597 := DF_up hD557 hM594 (by omega)
  have hU598 := UL_ne hU558 hM594 (by omega)
  have hR599 := RR_up hR592 hM594 (Or.inl (by omega))
  have hU600 := UL_up hU591 hM594
  have hk601 := kp_up hM594 (fun h => absurd h.1 (by decide)) hk560
  have hk602 := kp_up hM594 (fun h => absurd h.1 (by decide)) hk561
  have hk603 := kp_up hM594 (fun h => absurd h.1 (by decide)) hk562
  have hk604 := kp_up hM594 (fun h => absurd h.1 (by decide)) hk563
  have hk605 := kp_up hM594 (fun h => absurd h.1 (by decide)) hk564
  have hk606 := kp_up hM594 (fun h => absurd h.1 (by decide)) hk565
  have hk607 := kp_up hM594 (fun h => absurd h.1 (by decide)) hk566
  have hk608 := kp_up hM594 (fun h => absurd h.1 (by decide)) hk567
  have hk609 := kp_up hM594 (fun h => absurd h.1 (by decide)) hk568
  have hk610 := kp_up hM594 (fun h => absurd h.1 (by decide)) hk569
  have hk611 := kp_up hM594 (fun h => absurd h.1 (by decide)) hk570
  have hk612 := kp_up hM594 (fun h => absurd h.1 (by decide)) hk571
  clear hk560 hk561 hk562 hk563 hk564 hk565 hk566 hk567 hk568 hk569 hk570 hk571
  have hq613 := kp_up hM594 (by omega) hq572
  have hq614 := kp_up hM594 (by omega) hq573
  have hq615 := kp_up hM594 (by omega) hq574
  have hq616 := kp_up hM594 (by omega) hq575
  have hq617 := kp_up hM594 (by omega) hq576
  have hq618 := kp_up hM594 (by omega) hq577
  have hq619 := kp_up hM594 (by omega) hq578
  have hq620 := SS_up hq579 hM594 (by omega)
  have hq621 := kp_up hM594 (by omega) hq580
  have hq622 := KA_up hq581 hM594 (by omega)
  have hq623 := kp_up hM594 (by omega) hq582
  have hq624 := kp_up hM594 (by omega) hq583
  have hq625 := kp_up hM594 (by omega) hq584
  have hq626 := kp_up hM594 (by omega) hq585
  have hq627 := kp_up hM594 (by omega) hq586
  have hq628 := kp_up hM594 (by omega) hq587
  have hq629 := kp_up hM594 (by omega) hq588
  have hq630 := kp_up hM594 (by omega) hq589
  have hR631 := RR_up hR590 hM594 (Or.inr (by omega))
  refine j_iinc (lv' := [(1, _), (0, _)]) hX dX10_init_132 0 rfl (by rw [hnL]; decide) rfl ?_
  refine j_locE (show _ = (2 : Int) by decide) ?_
  refine j_goto (tgt := 114) hX dX10_init_135 (by decide) ?_
  refine j_iload_n hX dX10_init_114 rfl 0 rfl ?_
  refine j_iconst hX dX10_init_115 ?_
  refine j_icmp_ge (tgt := 138) hX dX10_init_116 (by decide) (by omega) (by omega) (fun h => absurd h (by omega)) (fun _ => ?_)
  refine j_aload_n hX dX10_init_119 rfl 1 rfl ?_
  refine gf_X10_37 hX (by omega) (by omega) (by decide +kernel : kd 0 = .inl 10) hk605 (by omega) dX10_init_120 ?_
  refine j_iload_n hX dX10_init_123 rfl 0 rfl ?_
  refine j_new hX (k := 207) (by omega) hin_8 tyX8_ok rfl (in_2 106 (by first | rfl | decide +kernel) rfl) (in_2 49 (by first | rfl | decide +kernel) rfl) (in_1 11 (by first | rfl | decide +kernel) rfl) (by decide +kernel : kd 207 = .inl 8) (fun _ => rfl) okX8 (hD597.at _ (by omega) (by omega)) ⟨by omega, by omega⟩ dX10_init_124 ?_
  refine j_dup hX dX10_init_127 rfl ?_
  refine j_callN hX (List.mem_of_getElem? (i := 5) rfl) lkI_8 (c_X8_init _ _ _ _ _ 207 _ (by unfold Sc; omega) (by omega) (hD597.sub (by omega) (by omega))) (by omega) ⟨by omega, by omega⟩ (Nat.le_of_ble_eq_true rfl) dX10_init_128 (fun M632 hp633 => ?_)
  obtain ⟨hRn634, hGn635⟩ := hp633
  have hG636 := F2.trans hG596 hGn635 (by omega) (by omega)
  have hD637 := DF_f2 (hD597.sub (lo' := 210) (by omega) (Int.le_refl _)) hGn635 (by omega)
  have hU638 := UL_f2 hU598 hGn635 (by omega)
  have hR639 := RR_f2 hR599 hGn635 (Or.inl (by omega))
  have hk640 := kp_f2 hGn635 (by omega) hk601
  have hk641 := kp_f2 hGn635 (by omega) hk602
  have hk642 := kp_f2 hGn635 (by omega) hk603
  have hk643 := kp_f2 hGn635 (by omega) hk604
  have hk644 := kp_f2 hGn635 (by omega) hk605
  have hk645 := kp_f2 hGn635 (by omega) hk606
  have hk646 := kp_f2 hGn635 (by omega) hk607
  have hk647 := kp_f2 hGn635 (by omega) hk608
  have hk648 := kp_f2 hGn635 (by omega) hk609
  have hk649 := kp_f2 hGn635 (by omega) hk610
  have hk650 := kp_f2 hGn635 (by omega) hk611
  have hk651 := kp_f2 hGn635 (by omega) hk612
  clear hk601 hk602 hk603 hk604 hk605 hk606 hk607 hk608 hk609 hk610 hk611 hk612
  have hq652 := kp_f2 hGn635 (by omega) hq613
  have hq653 := kp_f2 hGn635 (by omega) hq614
  have hq654 := kp_f2 hGn635 (by omega) hq615
  have hq655 := kp_f2 hGn635 (by omega) hq616
  have hq656 := kp_f2 hGn635 (by omega) hq617
  have hq657 := kp_f2 hGn635 (by omega) hq618
  have hq658 := kp_f2 hGn635 (by omega) hq619
  have hq659 := SS_f2 hq620 hGn635 (by omega)
  have hq660 := kp_f2 hGn635 (by omega) hq621
  have hq661 := KA_f2 hq622 hGn635 (by omega)
  have hq662 := kp_f2 hGn635 (by omega) hq623
  have hq663 := kp_f2 hGn635 (by omega) hq624
  have hq664 := kp_f2 hGn635 (by omega) hq625
  have hq665 := kp_f2 hGn635 (by omega) hq626
  have hq666 := kp_f2 hGn635 (by omega) hq627
  have hq667 := kp_f2 hGn635 (by omega) hq628
  have hq668 := kp_f2 hGn635 (by omega) hq629
  have hq669 := kp_f2 hGn635 (by omega) hq630
  have hq670 := kp_f2 hGn635 (by omega) hf595
  have hR671 := RR_f2 hR631 hGn635 (Or.inl (by omega))
  have hU672 := UL_f2 hU600 hGn635 (by omega)
  have hR673 : RR 157 210 M632 := RR_j hR639 hRn634
  refine j_aast4 hX (by omega) (by omega) (by decide +kernel : kd 156 = .inr (4, 3)) (by omega) (by omega) (by decide) (by omega) (by omega) (by omega) (by decide +kernel) dX10_init_131 ?_
  refine j_upN (fun M674 hM675 hf676 => ?_)
  have hG677 := F2.put hG636 hM675 ⟨by omega, by omega⟩
  have hD678 := DF_up hD637 hM675 (by omega)
  have hU679 := UL_ne hU638 hM675 (by omega)
  have hR680 := RR_up hR673 hM675 (Or.inl (by omega))
  have hU681 := UL_up hU672 hM675
  have hk682 := kp_up hM675 (fun h => absurd h.1 (by decide)) hk640
  have hk683 := kp_up hM675 (fun h => absurd h.1 (by decide)) hk641
  have hk684 := kp_up hM675 (fun h => absurd h.1 (by decide)) hk642
  have hk685 := kp_up hM675 (fun h => absurd h.1 (by decide)) hk643
  have hk686 := kp_up hM675 (fun h => absurd h.1 (by decide)) hk644
  have hk687 := kp_up hM675 (fun h => absurd h.1 (by decide)) hk645
  have hk688 := kp_up hM675 (fun h => absurd h.1 (by decide)) hk646
  have hk689 := kp_up hM675 (fun h => absurd h.1 (by decide)) hk647
  have hk690 := kp_up hM675 (fun h => absurd h.1 (by decide)) hk648
  have hk691 := kp_up hM675 (fun h => absurd h.1 (by decide)) hk649
  have hk692 := kp_up hM675 (fun h => absurd h.1 (by decide)) hk650
  have hk693 := kp_up hM675 (fun h => absurd h.1 (by decide)) hk651
  clear hk640 hk641 hk642 hk643 hk644 hk645 hk646 hk647 hk648 hk649 hk650 hk651
  have hq694 := kp_up hM675 (by omega) hq652
  have hq695 := kp_up hM675 (by omega) hq653
  have hq696 := kp_up hM675 (by omega) hq654
  have hq697 := kp_up hM675 (by omega) hq655
  have hq698 := kp_up hM675 (by omega) hq656
  have hq699 := kp_up hM675 (by omega) hq657
  have hq700 := kp_up hM675 (by omega) hq658
  have hq701 := SS_up hq659 hM675 (by omega)
  have hq702 := kp_up hM675 (by omega) hq660
  have hq703 := KA_up hq661 hM675 (by omega)
  have hq704 := kp_up hM675 (by omega) hq662
  have hq705 := kp_up hM675 (by omega) hq663
  have hq706 := kp_up hM675 (by omega) hq664
  have hq707 := kp_up hM675 (by omega) hq665
  have hq708 := kp_up hM675 (by omega) hq666
  have hq709 := kp_up hM675 (by omega) hq667
  have hq710 := kp_up hM675 (by omega) hq668
  have hq711 := kp_up hM675 (by omega) hq669
  have hq712 := kp_up hM675 (by omega) hq670
  have hR713 := RR_up hR671 hM675 (Or.inr (by omega))
  refine j_iinc (lv' := [(1, _), (0, _)]) hX dX10_init_132 0 rfl (by rw [hnL]; decide) rfl ?_
  refine j_locE (show _ = (3 : Int) by decide) ?_
  refine j_goto (tgt := 114) hX dX10_init_135 (by decide) ?_
  refine j_iload_n hX dX10_init_114 rfl 0 rfl ?_
  refine j_iconst hX dX10_init_115 ?_
  refine j_icmp_ge (tgt := 138) hX dX10_init_116 (by decide) (by omega) (by omega) (fun _ => ?_) (fun h => absurd h (by omega))
  refine j_aload_n hX dX10_init_138 rfl 1 rfl ?_
  refine gf_X10_19 hX (by omega) (by omega) (by decide +kernel : kd 0 = .inl 10) hk683 (by omega) dX10_init_139 ?_
  refine j_aload_n hX dX10_init_142 rfl 1 rfl ?_
  refine gf_X10_62 hX (by omega) (by omega) (by decide +kernel : kd 0 = .inl 10) hk690 (by omega) dX10_init_143 ?_
  have hRo : Rg 0 M674 := by
    refine Rg_obj (n := 12) hpl hU679 (by decide) (by omega) (fun j hj => ?_)
    rcases (by omega : j = 0 ∨ j = 1 ∨ j = 2 ∨ j = 3 ∨ j = 4 ∨ j = 5 ∨ j = 6 ∨ j = 7 ∨ j = 8 ∨ j = 9 ∨ j = 10 ∨ j = 11) with h | h | h | h | h | h | h | h | h | h | h | h
    · subst h
      show (rg 0 0).1 ≤ M674.1 0 0 ∧ M674.1 0 0 ≤ (rg 0 0).2
      rw [rz_0_0, hk682]; exact ⟨by dsimp only; omega, by dsimp only; omega⟩
    · subst h
      show (rg 0 1).1 ≤ M674.1 0 1 ∧ M674.1 0 1 ≤ (rg 0 1).2
      rw [rz_0_1, hk683]; exact ⟨by dsimp only; omega, by dsimp only; omega⟩
    · subst h
      show (rg 0 2).1 ≤ M674.1 0 2 ∧ M674.1 0 2 ≤ (rg 0 2).2
      rw [rz_0_2, hk684]; exact ⟨by dsimp only; omega, by dsimp only; omega⟩
    · subst h
      show (rg 0 3).1 ≤ M674.1 0 3 ∧ M674.1 0 3 ≤ (rg 0 3).2
      rw [rz_0_3, hk685]; exact ⟨by dsimp only; omega, by dsimp only; omega⟩
    · subst h
      show (rg 0 4).1 ≤ M674.1 0 4 ∧ M674.1 0 4 ≤ (rg 0 4).2
      rw [rz_0_4, hk686]; exact ⟨by dsimp only; omega, by dsimp only; omega⟩
    · subst h
      show (rg 0 5).1 ≤ M674.1 0 5 ∧ M674.1 0 5 ≤ (rg 0 5).2
      rw [rz_0_5, hk687]; exact ⟨by dsimp only; omega, by dsimp only; omega⟩
    · subst h
      show (rg 0 6).1 ≤ M674.1 0 6 ∧ M674.1 0 6 ≤ (rg 0 6).2
      rw [rz_0_6, hk688]; exact ⟨by dsimp only; omega, by dsimp only; omega⟩
    · subst h
      show (rg 0 7).1 ≤ M674.1 0 7 ∧ M674.1 0 7 ≤ (rg 0 7).2
      rw [rz_0_7, hk689]; exact ⟨by dsimp only; omega, by dsimp only; omega⟩
    · subst h
      show (rg 0 8).1 ≤ M674.1 0 8 ∧ M674.1 0 8 ≤ (rg 0 8).2
      rw [rz_0_8, hk690]; exact ⟨by dsimp only; omega, by dsimp only; omega⟩
    · subst h
      show (rg 0 9).1 ≤ M674.1 0 9 ∧ M674.1 0 9 ≤ (rg 0 9).2
      rw [rz_0_9, hk691]; exact ⟨by dsimp only; omega, by dsimp only; omega⟩
    · subst h
      show (rg 0 10).1 ≤ M674.1 0 10 ∧ M674.1 0 10 ≤ (rg 0 10).2
      rw [rz_0_10, hk692]; exact ⟨by dsimp only; omega, by dsimp only; omega⟩
    · subst h
      show (rg 0 11).1 ≤ M674.1 0 11 ∧ M674.1 0 11 ≤ (rg 0 11).2
      rw [rz_0_11, hk693]; exact ⟨by dsimp only; omega, by dsimp only; omega⟩
  have hRb : Rg 156 M674 := by
    refine Rg_obj (n := 3) (pl_a (by decide +kernel : kd 156 = .inr (4, 3))) hU681 (by decide) (by omega) (fun j hj => ?_)
    rcases (by omega : j = 0 ∨ j = 1 ∨ j = 2) with h | h | h
    · subst h
      show (rg 156 0).1 ≤ M674.1 156 0 ∧ M674.1 156 0 ≤ (rg 156 0).2
      rw [(by decide +kernel : rg 156 0 = (201, 201)), hq711]; exact ⟨by decide, by decide⟩
    · subst h
      show (rg 156 1).1 ≤ M674.1 156 1 ∧ M674.1 156 1 ≤ (rg 156 1).2
      rw [(by decide +kernel : rg 156 1 = (204, 204)), hq712]; exact ⟨by decide, by decide⟩
    · subst h
      show (rg 156 2).1 ≤ M674.1 156 2 ∧ M674.1 156 2 ≤ (rg 156 2).2
      rw [(by decide +kernel : rg 156 2 = (207, 207)), hf676]; exact ⟨by decide, by decide⟩
  have hRa : RR 0 210 M674 := RR_j (RR_s (RR_j (RR_s RR_0 hRo (by omega : (1 : Int) = 0 + 1)) hR713) hRb (by omega : (157 : Int) = 156 + 1)) hR680
  have hIv : Iv M674 := Iv_of (fun k => by
    by_cases c : 0 ≤ k ∧ k < 210
    · exact hRa k c.1 c.2
    · intro j
      rw [(hG677 k j c).1]
      exact hq k c j) hq701
  refine j_callVV hX lk_X10_76 (cv_X0_restart _ _ _ _ _ 180 0 (-1) _ (by omega) hIv (by omega) hq705 hq709 (fun r h0 h1 => absurd h1 (by omega)) (by omega) rfl rfl hq702) (by omega) ⟨by omega, by omega⟩ rfl rfl (by omega) (by omega) (by decide +kernel : kd 26 = .inl 0) rfl rfl (Nat.le_of_ble_eq_true rfl) dX10_init_146 (fun M714 hp715 => ?_)
  obtain ⟨hIz, hFz, hZz, hVz, hK30, h28z⟩ := hp715
  have hK8 : M714.1 0 8 = 180 := (hFz 0 8 (by omega)).trans hk690
  have hK9 : M714.1 0 9 = 0 := (hFz 0 9 (by omega)).trans hk691
  have hKt : M714.1 0 11 = 0 := (hFz 0 11 (by omega)).trans hk693
  have hKr : M714.1 1 1 = 5 := (hFz 1 1 (by omega)).trans hq694
  have hKk : M714.1 2 4 = 0 := (hFz 2 4 (by omega)).trans hq695
  have hKn : M714.1 180 0 = 0 := (hFz 180 0 (by omega)).trans hq705
  have hCI : CIv M714 := CI_mk (q := 180) (n := 0) hK8 (by omega) hKn (by omega) (fun h => absurd h (by omega)) (by omega) (RV_0 hVz hZz.2) (BF_0 hK9)
  have hFC : FC M714 := ⟨⟨hK8, hK9, (hFz 0 10 (by omega)).trans hk692, hKt⟩, ⟨hKn, (hFz 180 4 (by omega)).trans hq706, (hFz 180 11 (by omega)).trans hq707, (hFz 180 14 (by omega)).trans hq708, (hFz 195 4 (by omega)).trans hq710⟩, ⟨hKr, (hFz 1 2 (by omega)).trans hq696, (hFz 1 3 (by omega)).trans hq697, (hFz 2 2 (by omega)).trans hq698⟩, ⟨hZz.1, hZz.2, (hFz 27 0 (by omega)).trans hq702, (hFz 164 8 (by omega)).trans hq704⟩, h28z, hK30, KA_fr hq703 hFz (fun b h => by omega)⟩
  exact j_widen (by omega) (by omega) (hret _ _ _ dX10_init_149 ⟨hIz, hCI, hKt, hFC⟩)
set_option maxHeartbeats 2000000 in
set_option maxRecDepth 20000 in
theorem cv_X11_init (l : Launch) (D : va_G) (cy : Nat → ClassId) (B N : Nat) (M : MM) (hN : (N : Int) = 210 + 1) (hd : DF 210 257 M) (hq : ∀ k, ¬ (210 ≤ k ∧ k < 257) → Rg k M) (hss : SS M) : CN l D cy B N (N + 46) 3 46 6872 yX11_init cX11_init 1 [rv B 210] M (fun M' => Iv M' ∧ RI M' ∧ M'.1 210 64 = 0 ∧ (∀ a b, a < 210 → M'.1 a b = M.1 a b) ∧ FM M') := by
  refine mk_CN (by decide) rfl (Nat.le_of_ble_eq_true rfl) ?_
  intro X exl exD excy hnL hX hin hRc hRs hret
  have hpl : pl 210 = ((68 : Nat) : Int) := pl_o (r := (RX11, TX11, 68)) (by decide +kernel : kd 210 = .inl 11) rfl
  have hG : F2 210 257 M M := F2.rf
  have hD : DF 211 257 M := hd.sub (by omega) (Int.le_refl _)
  have hU : UL 210 [] M := UL_0 (hd.at _ (by omega) (by omega))
  have hR : RR 211 211 M := RR_0
  show J X B N 0 0 0 [(0, rv B 210)] [] M
  refine j_aload_n hX dX11_init_0 rfl 0 rfl ?_
  refine j_objInit hX (in_5 187 (by first | rfl | decide +kernel) rfl) (in_1 28 (by first | rfl | decide +kernel) rfl) (in_1 29 (by first | rfl | decide +kernel) rfl) (by omega) (Nat.le_of_ble_eq_true rfl) dX11_init_1 ?_
  refine j_aload_n hX dX11_init_4 rfl 0 rfl ?_
  refine j_sipush hX dX11_init_5 rfl ?_
  refine j_newa hX (k := 211) (by omega) (t := 1) (n := 1620) rfl (by decide) (in_1 126 (by first | rfl | decide +kernel) rfl) (by decide +kernel : kd 211 = .inr (1, 1620)) rfl (by decide) (hD.at _ (by omega) (by omega)) ⟨by omega, by omega⟩ dX11_init_8 ?_
  have hR1 : RR 211 212 M := RR_s hR (Rg_plain (by omega) (by omega) (by decide +kernel : kd 211 = .inr (1, 1620)) (by decide) (hD.at _ (by omega) (by omega))) (by omega)
  refine pfF_X11_7 hX hin (by omega) (by omega) (by decide +kernel : kd 210 = .inl 11) (by omega) (by omega) dX11_init_10 ?_
  refine j_upN (fun M2 hM3 hf4 => ?_)
  have hG5 := F2.put hG hM3 ⟨by omega, by omega⟩
  have hD6 := DF_up hD hM3 (by omega)
  have hU7 := UL_up hU hM3
  have hR8 := RR_up hR1 hM3 (Or.inl (by omega))
  refine j_aload_n hX dX11_init_13 rfl 0 rfl ?_
  refine j_sipush hX dX11_init_14 rfl ?_
  refine j_newa hX (k := 212) (by omega) (t := 1) (n := 1600) rfl (by decide) (in_1 126 (by first | rfl | decide +kernel) rfl) (by decide +kernel : kd 212 = .inr (1, 1600)) rfl (by decide) (hD6.at _ (by omega) (by omega)) ⟨by omega, by omega⟩ dX11_init_17 ?_
  have hR9 : RR 211 213 M2 := RR_s hR8 (Rg_plain (by omega) (by omega) (by decide +kernel : kd 212 = .inr (1, 1600)) (by decide) (hD6.at _ (by omega) (by omega))) (by omega)
  refine pfF_X11_13 hX hin (by omega) (by omega) (by decide +kernel : kd 210 = .inl 11) (by omega) (by omega) dX11_init_19 ?_
  refine j_upN (fun M10 hM11 hf12 => ?_)
  have hG13 := F2.put hG5 hM11 ⟨by omega, by omega⟩
  have hD14 := DF_up hD6 hM11 (by omega)
  have hU15 := UL_up hU7 hM11
  have hR16 := RR_up hR9 hM11 (Or.inl (by omega))
  have hk17 := kp_up hM11 (fun h => absurd h.2 (by decide)) hf4
  clear hf4
  refine j_aload_n hX dX11_init_22 rfl 0 rfl ?_
  refine j_iconst hX dX11_init_23 ?_
  refine pf_X11_16 hX (by omega) (by omega) (by decide +kernel : kd 210 = .inl 11) (by omega) dX11_init_24 ?_
  refine j_upN (fun M18 hM19 hf20 => ?_)
  have hG21 := F2.put hG13 hM19 ⟨by omega, by omega⟩
  have hD22 := DF_up hD14 hM19 (by omega)
  have hU23 := UL_up hU15 hM19
  have hR24 := RR_up hR16 hM19 (Or.inl (by omega))
  have hk25 := kp_up hM19 (fun h => absurd h.2 (by decide)) hk17
  have hk26 := kp_up hM19 (fun h => absurd h.2 (by decide)) hf12
  clear hk17 hf12
  refine j_aload_n hX dX11_init_27 rfl 0 rfl ?_
  refine j_iconst hX dX11_init_28 ?_
  refine j_newa hX (k := 213) (by omega) (t := 0) (n := 2) rfl (by decide) (in_1 163 (by first | rfl | decide +kernel) rfl) (by decide +kernel : kd 213 = .inr (0, 2)) rfl (by decide) (hD22.at _ (by omega) (by omega)) ⟨by omega, by omega⟩ dX11_init_29 ?_
  have hR27 : RR 211 214 M18 := RR_s hR24 (Rg_plain (by omega) (by omega) (by decide +kernel : kd 213 = .inr (0, 2)) (by decide) (hD22.at _ (by omega) (by omega))) (by omega)
  refine pfF_X11_20 hX hin (by omega) (by omega) (by decide +kernel : kd 210 = .inl 11) (by omega) (by omega) dX11_init_31 ?_
  refine j_upN (fun M28 hM29 hf30 => ?_)
  have hG31 := F2.put hG21 hM29 ⟨by omega, by omega⟩
  have hD32 := DF_up hD22 hM29 (by omega)
  have hU33 := UL_up hU23 hM29
  have hR34 := RR_up hR27 hM29 (Or.inl (by omega))
  have hk35 := kp_up hM29 (fun h => absurd h.2 (by decide)) hk25
  have hk36 := kp_up hM29 (fun h => absurd h.2 (by decide)) hk26
  have hk37 := kp_up hM29 (fun h => absurd h.2 (by decide)) hf20
  clear hk25 hk26 hf20
  refine j_aload_n hX dX11_init_34 rfl 0 rfl ?_
  refine j_iconst hX dX11_init_35 ?_
  refine j_newa hX (k := 214) (by omega) (t := 0) (n := 2) rfl (by decide) (in_1 163 (by first | rfl | decide +kernel) rfl) (by decide +kernel : kd 214 = .inr (0, 2)) rfl (by decide) (hD32.at _ (by omega) (by omega)) ⟨by omega, by omega⟩ dX11_init_36 ?_
  have hR38 : RR 211 215 M28 := RR_s hR34 (Rg_plain (by omega) (by omega) (by decide +kernel : kd 214 = .inr (0, 2)) (by decide) (hD32.at _ (by omega) (by omega))) (by omega)
  refine pfF_X11_24 hX hin (by omega) (by omega) (by decide +kernel : kd 210 = .inl 11) (by omega) (by omega) dX11_init_38 ?_
  refine j_upN (fun M39 hM40 hf41 => ?_)
  have hG42 := F2.put hG31 hM40 ⟨by omega, by omega⟩
  have hD43 := DF_up hD32 hM40 (by omega)
  have hU44 := UL_up hU33 hM40
  have hR45 := RR_up hR38 hM40 (Or.inl (by omega))
  have hk46 := kp_up hM40 (fun h => absurd h.2 (by decide)) hk35
  have hk47 := kp_up hM40 (fun h => absurd h.2 (by decide)) hk36
  have hk48 := kp_up hM40 (fun h => absurd h.2 (by decide)) hk37
  have hk49 := kp_up hM40 (fun h => absurd h.2 (by decide)) hf30
  clear hk35 hk36 hk37 hf30
  refine j_aload_n hX dX11_init_41 rfl 0 rfl ?_
  refine j_iconst hX dX11_init_42 ?_
  refine j_newa hX (k := 215) (by omega) (t := 0) (n := 2) rfl (by decide) (in_1 163 (by first | rfl | decide +kernel) rfl) (by decide +kernel : kd 215 = .inr (0, 2)) rfl (by decide) (hD43.at _ (by omega) (by omega)) ⟨by omega, by omega⟩ dX11_init_43 ?_
  have hR50 : RR 211 216 M39 := RR_s hR45 (Rg_plain (by omega) (by omega) (by decide +kernel : kd 215 = .inr (0, 2)) (by decide) (hD43.at _ (by omega) (by omega))) (by omega)
  refine pfF_X11_27 hX hin (by omega) (by omega) (by decide +kernel : kd 210 = .inl 11) (by omega) (by omega) dX11_init_45 ?_
  refine j_upN (fun M51 hM52 hf53 => ?_)
  have hG54 := F2.put hG42 hM52 ⟨by omega, by omega⟩
  have hD55 := DF_up hD43 hM52 (by omega)
  have hU56 := UL_up hU44 hM52
  have hR57 := RR_up hR50 hM52 (Or.inl (by omega))
  have hk58 := kp_up hM52 (fun h => absurd h.2 (by decide)) hk46
  have hk59 := kp_up hM52 (fun h => absurd h.2 (by decide)) hk47
  have hk60 := kp_up hM52 (fun h => absurd h.2 (by decide)) hk48
  have hk61 := kp_up hM52 (fun h => absurd h.2 (by decide)) hk49
  have hk62 := kp_up hM52 (fun h => absurd h.2 (by decide)) hf41
  clear hk46 hk47 hk48 hk49 hf41
  refine j_aload_n hX dX11_init_48 rfl 0 rfl ?_
  refine j_iconst hX dX11_init_49 ?_
  refine j_newa hX (k := 216) (by omega) (t := 0) (n := 2) rfl (by decide) (in_1 163 (by first | rfl | decide +kernel) rfl) (by decide +kernel : kd 216 = .inr (0, 2)) rfl (by decide) (hD55.at _ (by omega) (by omega)) ⟨by omega, by omega⟩ dX11_init_50 ?_
  have hR63 : RR 211 217 M51 := RR_s hR57 (Rg_plain (by omega) (by omega) (by decide +kernel : kd 216 = .inr (0, 2)) (by decide) (hD55.at _ (by omega) (by omega))) (by omega)
  refine pfF_X11_30 hX hin (by omega) (by omega) (by decide +kernel : kd 210 = .inl 11) (by omega) (by omega) dX11_init_52 ?_
  refine j_upN (fun M64 hM65 hf66 => ?_)
  have hG67 := F2.put hG54 hM65 ⟨by omega, by omega⟩
  have hD68 := DF_up hD55 hM65 (by omega)
  have hU69 := UL_up hU56 hM65
  have hR70 := RR_up hR63 hM65 (Or.inl (by omega))
  have hk71 := kp_up hM65 (fun h => absurd h.2 (by decide)) hk58
  have hk72 := kp_up hM65 (fun h => absurd h.2 (by decide)) hk59
  have hk73 := kp_up hM65 (fun h => absurd h.2 (by decide)) hk60
  have hk74 := kp_up hM65 (fun h => absurd h.2 (by decide)) hk61
  have hk75 := kp_up hM65 (fun h => absurd h.2 (by decide)) hk62
  have hk76 := kp_up hM65 (fun h => absurd h.2 (by decide)) hf53
  clear hk58 hk59 hk60 hk61 hk62 hf53
  refine j_aload_n hX dX11_init_55 rfl 0 rfl ?_
  refine j_iconst hX dX11_init_56 ?_
  refine j_newa hX (k := 217) (by omega) (t := 0) (n := 2) rfl (by decide) (in_1 163 (by first | rfl | decide +kernel) rfl) (by decide +kernel : kd 217 = .inr (0, 2)) rfl (by decide) (hD68.at _ (by omega) (by omega)) ⟨by omega, by omega⟩ dX11_init_57 ?_
  have hR77 : RR 211 218 M64 := RR_s hR70 (Rg_plain (by omega) (by omega) (by decide +kernel : kd 217 = .inr (0, 2)) (by decide) (hD68.at _ (by omega) (by omega))) (by omega)
  refine pfF_X11_33 hX hin (by omega) (by omega) (by decide +kernel : kd 210 = .inl 11) (by omega) (by omega) dX11_init_59 ?_
  refine j_upN (fun M78 hM79 hf80 => ?_)
  have hG81 := F2.put hG67 hM79 ⟨by omega, by omega⟩
  have hD82 := DF_up hD68 hM79 (by omega)
  have hU83 := UL_up hU69 hM79
  have hR84 := RR_up hR77 hM79 (Or.inl (by omega))
  have hk85 := kp_up hM79 (fun h => absurd h.2 (by decide)) hk71
  have hk86 := kp_up hM79 (fun h => absurd h.2 (by decide)) hk72
  have hk87 := kp_up hM79 (fun h => absurd h.2 (by decide)) hk73
  have hk88 := kp_up hM79 (fun h => absurd h.2 (by decide)) hk74
  have hk89 := kp_up hM79 (fun h => absurd h.2 (by decide)) hk75
  have hk90 := kp_up hM79 (fun h => absurd h.2 (by decide)) hk76
  have hk91 := kp_up hM79 (fun h => absurd h.2 (by decide)) hf66
  clear hk71 hk72 hk73 hk74 hk75 hk76 hf66
  refine j_aload_n hX dX11_init_62 rfl 0 rfl ?_
  refine j_iconst hX dX11_init_63 ?_
  refine j_newa hX (k := 218) (by omega) (t := 0) (n := 2) rfl (by decide) (in_1 163 (by first | rfl | decide +kernel) rfl) (by decide +kernel : kd 218 = .inr (0, 2)) rfl (by decide) (hD82.at _ (by omega) (by omega)) ⟨by omega, by omega⟩ dX11_init_64 ?_
  have hR92 : RR 211 219 M78 := RR_s hR84 (Rg_plain (by omega) (by omega) (by decide +kernel : kd 218 = .inr (0, 2)) (by decide) (hD82.at _ (by omega) (by omega))) (by omega)
  refine pfF_X11_36 hX hin (by omega) (by omega) (by decide +kernel : kd 210 = .inl 11) (by omega) (by omega) dX11_init_66 ?_
  refine j_upN (fun M93 hM94 hf95 => ?_)
  have hG96 := F2.put hG81 hM94 ⟨by omega, by omega⟩
  have hD97 := DF_up hD82 hM94 (by omega)
  have hU98 := UL_up hU83 hM94
  have hR99 := RR_up hR92 hM94 (Or.inl (by omega))
  have hk100 := kp_up hM94 (fun h => absurd h.2 (by decide)) hk85
  have hk101 := kp_up hM94 (fun h => absurd h.2 (by decide)) hk86
  have hk102 := kp_up hM94 (fun h => absurd h.2 (by decide)) hk87
  have hk103 := kp_up hM94 (fun h => absurd h.2 (by decide)) hk88
  have hk104 := kp_up hM94 (fun h => absurd h.2 (by decide)) hk89
  have hk105 := kp_up hM94 (fun h => absurd h.2 (by decide)) hk90
  have hk106 := kp_up hM94 (fun h => absurd h.2 (by decide)) hk91
  have hk107 := kp_up hM94 (fun h => absurd h.2 (by decide)) hf80
  clear hk85 hk86 hk87 hk88 hk89 hk90 hk91 hf80
  refine j_aload_n hX dX11_init_69 rfl 0 rfl ?_
  refine j_iconst hX dX11_init_70 ?_
  refine j_newa hX (k := 219) (by omega) (t := 0) (n := 2) rfl (by decide) (in_1 163 (by first | rfl | decide +kernel) rfl) (by decide +kernel : kd 219 = .inr (0, 2)) rfl (by decide) (hD97.at _ (by omega) (by omega)) ⟨by omega, by omega⟩ dX11_init_71 ?_
  have hR108 : RR 211 220 M93 := RR_s hR99 (Rg_plain (by omega) (by omega) (by decide +kernel : kd 219 = .inr (0, 2)) (by decide) (hD97.at _ (by omega) (by omega))) (by omega)
  refine pfF_X11_39 hX hin (by omega) (by omega) (by decide +kernel : kd 210 = .inl 11) (by omega) (by omega) dX11_init_73 ?_
  refine j_upN (fun M109 hM110 hf111 => ?_)
  have hG112 := F2.put hG96 hM110 ⟨by omega, by omega⟩
  have hD113 := DF_up hD97 hM110 (by omega)
  have hU114 := UL_up hU98 hM110
  have hR115 := RR_up hR108 hM110 (Or.inl (by omega))
  have hk116 := kp_up hM110 (fun h => absurd h.2 (by decide)) hk100
  have hk117 := kp_up hM110 (fun h => absurd h.2 (by decide)) hk101
  have hk118 := kp_up hM110 (fun h => absurd h.2 (by decide)) hk102
  have hk119 := kp_up hM110 (fun h => absurd h.2 (by decide)) hk103
  have hk120 := kp_up hM110 (fun h => absurd h.2 (by decide)) hk104
  have hk121 := kp_up hM110 (fun h => absurd h.2 (by decide)) hk105
  have hk122 := kp_up hM110 (fun h => absurd h.2 (by decide)) hk106
  have hk123 := kp_up hM110 (fun h => absurd h.2 (by decide)) hk107
  have hk124 := kp_up hM110 (fun h => absurd h.2 (by decide)) hf95
  clear hk100 hk101 hk102 hk103 hk104 hk105 hk106 hk107 hf95
  refine j_aload_n hX dX11_init_76 rfl 0 rfl ?_
  refine j_iconst hX dX11_init_77 ?_
  refine j_newa hX (k := 220) (by omega) (t := 0) (n := 2) rfl (by decide) (in_1 163 (by first | rfl | decide +kernel) rfl) (by decide +kernel : kd 220 = .inr (0, 2)) rfl (by decide) (hD113.at _ (by omega) (by omega)) ⟨by omega, by omega⟩ dX11_init_78 ?_
  have hR125 : RR 211 221 M109 := RR_s hR115 (Rg_plain (by omega) (by omega) (by decide +kernel : kd 220 = .inr (0, 2)) (by decide) (hD113.at _ (by omega) (by omega))) (by omega)
  refine pfF_X11_42 hX hin (by omega) (by omega) (by decide +kernel : kd 210 = .inl 11) (by omega) (by omega) dX11_init_80 ?_
  refine j_upN (fun M126 hM127 hf128 => ?_)
  have hG129 := F2.put hG112 hM127 ⟨by omega, by omega⟩
  have hD130 := DF_up hD113 hM127 (by omega)
  have hU131 := UL_up hU114 hM127
  have hR132 := RR_up hR125 hM127 (Or.inl (by omega))
  have hk133 := kp_up hM127 (fun h => absurd h.2 (by decide)) hk116
  have hk134 := kp_up hM127 (fun h => absurd h.2 (by decide)) hk117
  have hk135 := kp_up hM127 (fun h => absurd h.2 (by decide)) hk118
  have hk136 := kp_up hM127 (fun h => absurd h.2 (by decide)) hk119
  have hk137 := kp_up hM127 (fun h => absurd h.2 (by decide)) hk120
  have hk138 := kp_up hM127 (fun h => absurd h.2 (by decide)) hk121
  have hk139 := kp_up hM127 (fun h => absurd h.2 (by decide)) hk122
  have hk140 := kp_up hM127 (fun h => absurd h.2 (by decide)) hk123
  have hk141 := kp_up hM127 (fun h => absurd h.2 (by decide)) hk124
  have hk142 := kp_up hM127 (fun h => absurd h.2 (by decide)) hf111
  clear hk116 hk117 hk118 hk119 hk120 hk121 hk122 hk123 hk124 hf111
  refine j_aload_n hX dX11_init_83 rfl 0 rfl ?_
  refine j_bipush hX dX11_init_84 rfl ?_
  refine j_newa hX (k := 221) (by omega) (t := 0) (n := 12) rfl (by decide) (in_1 163 (by first | rfl | decide +kernel) rfl) (by decide +kernel : kd 221 = .inr (0, 12)) rfl (by decide) (hD130.at _ (by omega) (by omega)) ⟨by omega, by omega⟩ dX11_init_86 ?_
  have hR143 : RR 211 222 M126 := RR_s hR132 (Rg_plain (by omega) (by omega) (by decide +kernel : kd 221 = .inr (0, 12)) (by decide) (hD130.at _ (by omega) (by omega))) (by omega)
  refine pfF_X11_45 hX hin (by omega) (by omega) (by decide +kernel : kd 210 = .inl 11) (by omega) (by omega) dX11_init_88 ?_
  refine j_upN (fun M144 hM145 hf146 => ?_)
  have hG147 := F2.put hG129 hM145 ⟨by omega, by omega⟩
  have hD148 := DF_up hD130 hM145 (by omega)
  have hU149 := UL_up hU131 hM145
  have hR150 := RR_up hR143 hM145 (Or.inl (by omega))
  have hk151 := kp_up hM145 (fun h => absurd h.2 (by decide)) hk133
  have hk152 := kp_up hM145 (fun h => absurd h.2 (by decide)) hk134
  have hk153 := kp_up hM145 (fun h => absurd h.2 (by decide)) hk135
  have hk154 := kp_up hM145 (fun h => absurd h.2 (by decide)) hk136
  have hk155 := kp_up hM145 (fun h => absurd h.2 (by decide)) hk137
  have hk156 := kp_up hM145 (fun h => absurd h.2 (by decide)) hk138
  have hk157 := kp_up hM145 (fun h => absurd h.2 (by decide)) hk139
  have hk158 := kp_up hM145 (fun h => absurd h.2 (by decide)) hk140
  have hk159 := kp_up hM145 (fun h => absurd h.2 (by decide)) hk141
  have hk160 := kp_up hM145 (fun h => absurd h.2 (by decide)) hk142
  have hk161 := kp_up hM145 (fun h => absurd h.2 (by decide)) hf128
  clear hk133 hk134 hk135 hk136 hk137 hk138 hk139 hk140 hk141 hk142 hf128
  refine j_aload_n hX dX11_init_91 rfl 0 rfl ?_
  refine j_bipush hX dX11_init_92 rfl ?_
  refine j_newa hX (k := 222) (by omega) (t := 0) (n := 12) rfl (by decide) (in_1 163 (by first | rfl | decide +kernel) rfl) (by decide +kernel : kd 222 = .inr (0, 12)) rfl (by decide) (hD148.at _ (by omega) (by omega)) ⟨by omega, by omega⟩ dX11_init_94 ?_
  have hR162 : RR 211 223 M144 := RR_s hR150 (Rg_plain (by omega) (by omega) (by decide +kernel : kd 222 = .inr (0, 12)) (by decide) (hD148.at _ (by omega) (by omega))) (by omega)
  refine pfF_X11_48 hX hin (by omega) (by omega) (by decide +kernel : kd 210 = .inl 11) (by omega) (by omega) dX11_init_96 ?_
  refine j_upN (fun M163 hM164 hf165 => ?_)
  have hG166 := F2.put hG147 hM164 ⟨by omega, by omega⟩
  have hD167 := DF_up hD148 hM164 (by omega)
  have hU168 := UL_up hU149 hM164
  have hR169 := RR_up hR162 hM164 (Or.inl (by omega))
  have hk170 := kp_up hM164 (fun h => absurd h.2 (by decide)) hk151
  have hk171 := kp_up hM164 (fun h => absurd h.2 (by decide)) hk152
  have hk172 := kp_up hM164 (fun h => absurd h.2 (by decide)) hk153
  have hk173 := kp_up hM164 (fun h => absurd h.2 (by decide)) hk154
  have hk174 := kp_up hM164 (fun h => absurd h.2 (by decide)) hk155
  have hk175 := kp_up hM164 (fun h => absurd h.2 (by decide)) hk156
  have hk176 := kp_up hM164 (fun h => absurd h.2 (by decide)) hk157
  have hk177 := kp_up hM164 (fun h => absurd h.2 (by decide)) hk158
  have hk178 := kp_up hM164 (fun h => absurd h.2 (by decide)) hk159
  have hk179 := kp_up hM164 (fun h => absurd h.2 (by decide)) hk160
  have hk180 := kp_up hM164 (fun h => absurd h.2 (by decide)) hk161
  have hk181 := kp_up hM164 (fun h => absurd h.2 (by decide)) hf146
  clear hk151 hk152 hk153 hk154 hk155 hk156 hk157 hk158 hk159 hk160 hk161 hf146
  refine j_aload_n hX dX11_init_99 rfl 0 rfl ?_
  refine j_bipush hX dX11_init_100 rfl ?_
  refine j_newa hX (k := 223) (by omega) (t := 0) (n := 20) rfl (by decide) (in_1 163 (by first | rfl | decide +kernel) rfl) (by decide +kernel : kd 223 = .inr (0, 20)) rfl (by decide) (hD167.at _ (by omega) (by omega)) ⟨by omega, by omega⟩ dX11_init_102 ?_
  have hR182 : RR 211 224 M163 := RR_s hR169 (Rg_plain (by omega) (by omega) (by decide +kernel : kd 223 = .inr (0, 20)) (by decide) (hD167.at _ (by omega) (by omega))) (by omega)
  refine pfF_X11_51 hX hin (by omega) (by omega) (by decide +kernel : kd 210 = .inl 11) (by omega) (by omega) dX11_init_104 ?_
  refine j_upN (fun M183 hM184 hf185 => ?_)
  have hG186 := F2.put hG166 hM184 ⟨by omega, by omega⟩
  have hD187 := DF_up hD167 hM184 (by omega)
  have hU188 := UL_up hU168 hM184
  have hR189 := RR_up hR182 hM184 (Or.inl (by omega))
  have hk190 := kp_up hM184 (fun h => absurd h.2 (by decide)) hk170
  have hk191 := kp_up hM184 (fun h => absurd h.2 (by decide)) hk171
  have hk192 := kp_up hM184 (fun h => absurd h.2 (by decide)) hk172
  have hk193 := kp_up hM184 (fun h => absurd h.2 (by decide)) hk173
  have hk194 := kp_up hM184 (fun h => absurd h.2 (by decide)) hk174
  have hk195 := kp_up hM184 (fun h => absurd h.2 (by decide)) hk175
  have hk196 := kp_up hM184 (fun h => absurd h.2 (by decide)) hk176
  have hk197 := kp_up hM184 (fun h => absurd h.2 (by decide)) hk177
  have hk198 := kp_up hM184 (fun h => absurd h.2 (by decide)) hk178
  have hk199 := kp_up hM184 (fun h => absurd h.2 (by decide)) hk179
  have hk200 := kp_up hM184 (fun h => absurd h.2 (by decide)) hk180
  have hk201 := kp_up hM184 (fun h => absurd h.2 (by decide)) hk181
  have hk202 := kp_up hM184 (fun h => absurd h.2 (by decide)) hf165
  clear hk170 hk171 hk172 hk173 hk174 hk175 hk176 hk177 hk178 hk179 hk180 hk181 hf165
  refine j_aload_n hX dX11_init_107 rfl 0 rfl ?_
  refine j_bipush hX dX11_init_108 rfl ?_
  refine j_newa hX (k := 224) (by omega) (t := 0) (n := 20) rfl (by decide) (in_1 163 (by first | rfl | decide +kernel) rfl) (by decide +kernel : kd 224 = .inr (0, 20)) rfl (by decide) (hD187.at _ (by omega) (by omega)) ⟨by omega, by omega⟩ dX11_init_110 ?_
  have hR203 : RR 211 225 M183 := RR_s hR189 (Rg_plain (by omega) (by omega) (by decide +kernel : kd 224 = .inr (0, 20)) (by decide) (hD187.at _ (by omega) (by omega))) (by omega)
  refine pfF_X11_54 hX hin (by omega) (by omega) (by decide +kernel : kd 210 = .inl 11) (by omega) (by omega) dX11_init_112 ?_
  refine j_upN (fun M204 hM205 hf206 => ?_)
  have hG207 := F2.put hG186 hM205 ⟨by omega, by omega⟩
  have hD208 := DF_up hD187 hM205 (by omega)
  have hU209 := UL_up hU188 hM205
  have hR210 := RR_up hR203 hM205 (Or.inl (by omega))
  have hk211 := kp_up hM205 (fun h => absurd h.2 (by decide)) hk190
  have hk212 := kp_up hM205 (fun h => absurd h.2 (by decide)) hk191
  have hk213 := kp_up hM205 (fun h => absurd h.2 (by decide)) hk192
  have hk214 := kp_up hM205 (fun h => absurd h.2 (by decide)) hk193
  have hk215 := kp_up hM205 (fun h => absurd h.2 (by decide)) hk194
  have hk216 := kp_up hM205 (fun h => absurd h.2 (by decide)) hk195
  have hk217 := kp_up hM205 (fun h => absurd h.2 (by decide)) hk196
  have hk218 := kp_up hM205 (fun h => absurd h.2 (by decide)) hk197
  have hk219 := kp_up hM205 (fun h => absurd h.2 (by decide)) hk198
  have hk220 := kp_up hM205 (fun h => absurd h.2 (by decide)) hk199
  have hk221 := kp_up hM205 (fun h => absurd h.2 (by decide)) hk200
  have hk222 := kp_up hM205 (fun h => absurd h.2 (by decide)) hk201
  have hk223 := kp_up hM205 (fun h => absurd h.2 (by decide)) hk202
  have hk224 := kp_up hM205 (fun h => absurd h.2 (by decide)) hf185
  clear hk190 hk191 hk192 hk193 hk194 hk195 hk196 hk197 hk198 hk199 hk200 hk201 hk202 hf185
  refine j_aload_n hX dX11_init_115 rfl 0 rfl ?_
  refine j_iconst hX dX11_init_116 ?_
  refine j_newa hX (k := 225) (by omega) (t := 0) (n := 2) rfl (by decide) (in_1 163 (by first | rfl | decide +kernel) rfl) (by decide +kernel : kd 225 = .inr (0, 2)) rfl (by decide) (hD208.at _ (by omega) (by omega)) ⟨by omega, by omega⟩ dX11_init_117 ?_
  have hR225 : RR 211 226 M204 := RR_s hR210 (Rg_plain (by omega) (by omega) (by decide +kernel : kd 225 = .inr (0, 2)) (by decide) (hD208.at _ (by omega) (by omega))) (by omega)
  refine pfF_X11_57 hX hin (by omega) (by omega) (by decide +kernel : kd 210 = .inl 11) (by omega) (by omega) dX11_init_119 ?_
  refine j_upN (fun M226 hM227 hf228 => ?_)
  have hG229 := F2.put hG207 hM227 ⟨by omega, by omega⟩
  have hD230 := DF_up hD208 hM227 (by omega)
  have hU231 := UL_up hU209 hM227
  have hR232 := RR_up hR225 hM227 (Or.inl (by omega))
  have hk233 := kp_up hM227 (fun h => absurd h.2 (by decide)) hk211
  have hk234 := kp_up hM227 (fun h => absurd h.2 (by decide)) hk212
  have hk235 := kp_up hM227 (fun h => absurd h.2 (by decide)) hk213
  have hk236 := kp_up hM227 (fun h => absurd h.2 (by decide)) hk214
  have hk237 := kp_up hM227 (fun h => absurd h.2 (by decide)) hk215
  have hk238 := kp_up hM227 (fun h => absurd h.2 (by decide)) hk216
  have hk239 := kp_up hM227 (fun h => absurd h.2 (by decide)) hk217
  have hk240 := kp_up hM227 (fun h => absurd h.2 (by decide)) hk218
  have hk241 := kp_up hM227 (fun h => absurd h.2 (by decide)) hk219
  have hk242 := kp_up hM227 (fun h => absurd h.2 (by decide)) hk220
  have hk243 := kp_up hM227 (fun h => absurd h.2 (by decide)) hk221
  have hk244 := kp_up hM227 (fun h => absurd h.2 (by decide)) hk222
  have hk245 := kp_up hM227 (fun h => absurd h.2 (by decide)) hk223
  have hk246 := kp_up hM227 (fun h => absurd h.2 (by decide)) hk224
  have hk247 := kp_up hM227 (fun h => absurd h.2 (by decide)) hf206
  clear hk211 hk212 hk213 hk214 hk215 hk216 hk217 hk218 hk219 hk220 hk221 hk222 hk223 hk224 hf206
  refine j_aload_n hX dX11_init_122 rfl 0 rfl ?_
  refine j_bipush hX dX11_init_123 rfl ?_
  refine j_newa hX (k := 226) (by omega) (t := 0) (n := 12) rfl (by decide) (in_1 163 (by first | rfl | decide +kernel) rfl) (by decide +kernel : kd 226 = .inr (0, 12)) rfl (by decide) (hD230.at _ (by omega) (by omega)) ⟨by omega, by omega⟩ dX11_init_125 ?_
  have hR248 : RR 211 227 M226 := RR_s hR232 (Rg_plain (by omega) (by omega) (by decide +kernel : kd 226 = .inr (0, 12)) (by decide) (hD230.at _ (by omega) (by omega))) (by omega)
  refine pfF_X11_60 hX hin (by omega) (by omega) (by decide +kernel : kd 210 = .inl 11) (by omega) (by omega) dX11_init_127 ?_
  refine j_upN (fun M249 hM250 hf251 => ?_)
  have hG252 := F2.put hG229 hM250 ⟨by omega, by omega⟩
  have hD253 := DF_up hD230 hM250 (by omega)
  have hU254 := UL_up hU231 hM250
  have hR255 := RR_up hR248 hM250 (Or.inl (by omega))
  have hk256 := kp_up hM250 (fun h => absurd h.2 (by decide)) hk233
  have hk257 := kp_up hM250 (fun h => absurd h.2 (by decide)) hk234
  have hk258 := kp_up hM250 (fun h => absurd h.2 (by decide)) hk235
  have hk259 := kp_up hM250 (fun h => absurd h.2 (by decide)) hk236
  have hk260 := kp_up hM250 (fun h => absurd h.2 (by decide)) hk237
  have hk261 := kp_up hM250 (fun h => absurd h.2 (by decide)) hk238
  have hk262 := kp_up hM250 (fun h => absurd h.2 (by decide)) hk239
  have hk263 := kp_up hM250 (fun h => absurd h.2 (by decide)) hk240
  have hk264 := kp_up hM250 (fun h => absurd h.2 (by decide)) hk241
  have hk265 := kp_up hM250 (fun h => absurd h.2 (by decide)) hk242
  have hk266 := kp_up hM250 (fun h => absurd h.2 (by decide)) hk243
  have hk267 := kp_up hM250 (fun h => absurd h.2 (by decide)) hk244
  have hk268 := kp_up hM250 (fun h => absurd h.2 (by decide)) hk245
  have hk269 := kp_up hM250 (fun h => absurd h.2 (by decide)) hk246
  have hk270 := kp_up hM250 (fun h => absurd h.2 (by decide)) hk247
  have hk271 := kp_up hM250 (fun h => absurd h.2 (by decide)) hf228
  clear hk233 hk234 hk235 hk236 hk237 hk238 hk239 hk240 hk241 hk242 hk243 hk244 hk245 hk246 hk247 hf228
  refine j_aload_n hX dX11_init_130 rfl 0 rfl ?_
  refine j_bipush hX dX11_init_131 rfl ?_
  refine j_newa hX (k := 227) (by omega) (t := 0) (n := 72) rfl (by decide) (in_1 163 (by first | rfl | decide +kernel) rfl) (by decide +kernel : kd 227 = .inr (0, 72)) rfl (by decide) (hD253.at _ (by omega) (by omega)) ⟨by omega, by omega⟩ dX11_init_133 ?_
  have hR272 : RR 211 228 M249 := RR_s hR255 (Rg_plain (by omega) (by omega) (by decide +kernel : kd 227 = .inr (0, 72)) (by decide) (hD253.at _ (by omega) (by omega))) (by omega)
  refine pfF_X11_63 hX hin (by omega) (by omega) (by decide +kernel : kd 210 = .inl 11) (by omega) (by omega) dX11_init_135 ?_
  refine j_upN (fun M273 hM274 hf275 => ?_)
  have hG276 := F2.put hG252 hM274 ⟨by omega, by omega⟩
  have hD277 := DF_up hD253 hM274 (by omega)
  have hU278 := UL_up hU254 hM274
  have hR279 := RR_up hR272 hM274 (Or.inl (by omega))
  have hk280 := kp_up hM274 (fun h => absurd h.2 (by decide)) hk256
  have hk281 := kp_up hM274 (fun h => absurd h.2 (by decide)) hk257
  have hk282 := kp_up hM274 (fun h => absurd h.2 (by decide)) hk258
  have hk283 := kp_up hM274 (fun h => absurd h.2 (by decide)) hk259
  have hk284 := kp_up hM274 (fun h => absurd h.2 (by decide)) hk260
  have hk285 := kp_up hM274 (fun h => absurd h.2 (by decide)) hk261
  have hk286 := kp_up hM274 (fun h => absurd h.2 (by decide)) hk262
  have hk287 := kp_up hM274 (fun h => absurd h.2 (by decide)) hk263
  have hk288 := kp_up hM274 (fun h => absurd h.2 (by decide)) hk264
  have hk289 := kp_up hM274 (fun h => absurd h.2 (by decide)) hk265
  have hk290 := kp_up hM274 (fun h => absurd h.2 (by decide)) hk266
  have hk291 := kp_up hM274 (fun h => absurd h.2 (by decide)) hk267
  have hk292 := kp_up hM274 (fun h => absurd h.2 (by decide)) hk268
  have hk293 := kp_up hM274 (fun h => absurd h.2 (by decide)) hk269
  have hk294 := kp_up hM274 (fun h => absurd h.2 (by decide)) hk270
  have hk295 := kp_up hM274 (fun h => absurd h.2 (by decide)) hk271
  have hk296 := kp_up hM274 (fun h => absurd h.2 (by decide)) hf251
  clear hk256 hk257 hk258 hk259 hk260 hk261 hk262 hk263 hk264 hk265 hk266 hk267 hk268 hk269 hk270 hk271 hf251
  refine j_aload_n hX dX11_init_138 rfl 0 rfl ?_
  refine j_bipush hX dX11_init_139 rfl ?_
  refine j_newa hX (k := 228) (by omega) (t := 0) (n := 12) rfl (by decide) (in_1 163 (by first | rfl | decide +kernel) rfl) (by decide +kernel : kd 228 = .inr (0, 12)) rfl (by decide) (hD277.at _ (by omega) (by omega)) ⟨by omega, by omega⟩ dX11_init_141 ?_
  have hR297 : RR 211 229 M273 := RR_s hR279 (Rg_plain (by omega) (by omega) (by decide +kernel : kd 228 = .inr (0, 12)) (by decide) (hD277.at _ (by omega) (by omega))) (by omega)
  refine pfF_X11_66 hX hin (by omega) (by omega) (by decide +kernel : kd 210 = .inl 11) (by omega) (by omega) dX11_init_143 ?_
  refine j_upN (fun M298 hM299 hf300 => ?_)
  have hG301 := F2.put hG276 hM299 ⟨by omega, by omega⟩
  have hD302 := DF_up hD277 hM299 (by omega)
  have hU303 := UL_up hU278 hM299
  have hR304 := RR_up hR297 hM299 (Or.inl (by omega))
  have hk305 := kp_up hM299 (fun h => absurd h.2 (by decide)) hk280
  have hk306 := kp_up hM299 (fun h => absurd h.2 (by decide)) hk281
  have hk307 := kp_up hM299 (fun h => absurd h.2 (by decide)) hk282
  have hk308 := kp_up hM299 (fun h => absurd h.2 (by decide)) hk283
  have hk309 := kp_up hM299 (fun h => absurd h.2 (by decide)) hk284
  have hk310 := kp_up hM299 (fun h => absurd h.2 (by decide)) hk285
  have hk311 := kp_up hM299 (fun h => absurd h.2 (by decide)) hk286
  have hk312 := kp_up hM299 (fun h => absurd h.2 (by decide)) hk287
  have hk313 := kp_up hM299 (fun h => absurd h.2 (by decide)) hk288
  have hk314 := kp_up hM299 (fun h => absurd h.2 (by decide)) hk289
  have hk315 := kp_up hM299 (fun h => absurd h.2 (by decide)) hk290
  have hk316 := kp_up hM299 (fun h => absurd h.2 (by decide)) hk291
  have hk317 := kp_up hM299 (fun h => absurd h.2 (by decide)) hk292
  have hk318 := kp_up hM299 (fun h => absurd h.2 (by decide)) hk293
  have hk319 := kp_up hM299 (fun h => absurd h.2 (by decide)) hk294
  have hk320 := kp_up hM299 (fun h => absurd h.2 (by decide)) hk295
  have hk321 := kp_up hM299 (fun h => absurd h.2 (by decide)) hk296
  have hk322 := kp_up hM299 (fun h => absurd h.2 (by decide)) hf275
  clear hk280 hk281 hk282 hk283 hk284 hk285 hk286 hk287 hk288 hk289 hk290 hk291 hk292 hk293 hk294 hk295 hk296 hf275
  refine j_aload_n hX dX11_init_146 rfl 0 rfl ?_
  refine j_iconst hX dX11_init_147 ?_
  refine j_newa hX (k := 229) (by omega) (t := 0) (n := 2) rfl (by decide) (in_1 163 (by first | rfl | decide +kernel) rfl) (by decide +kernel : kd 229 = .inr (0, 2)) rfl (by decide) (hD302.at _ (by omega) (by omega)) ⟨by omega, by omega⟩ dX11_init_148 ?_
  have hR323 : RR 211 230 M298 := RR_s hR304 (Rg_plain (by omega) (by omega) (by decide +kernel : kd 229 = .inr (0, 2)) (by decide) (hD302.at _ (by omega) (by omega))) (by omega)
  refine pfF_X11_69 hX hin (by omega) (by omega) (by decide +kernel : kd 210 = .inl 11) (by omega) (by omega) dX11_init_150 ?_
  refine j_upN (fun M324 hM325 hf326 => ?_)
  have hG327 := F2.put hG301 hM325 ⟨by omega, by omega⟩
  have hD328 := DF_up hD302 hM325 (by omega)
  have hU329 := UL_up hU303 hM325
  have hR330 := RR_up hR323 hM325 (Or.inl (by omega))
  have hk331 := kp_up hM325 (fun h => absurd h.2 (by decide)) hk305
  have hk332 := kp_up hM325 (fun h => absurd h.2 (by decide)) hk306
  have hk333 := kp_up hM325 (fun h => absurd h.2 (by decide)) hk307
  have hk334 := kp_up hM325 (fun h => absurd h.2 (by decide)) hk308
  have hk335 := kp_up hM325 (fun h => absurd h.2 (by decide)) hk309
  have hk336 := kp_up hM325 (fun h => absurd h.2 (by decide)) hk310
  have hk337 := kp_up hM325 (fun h => absurd h.2 (by decide)) hk311
  have hk338 := kp_up hM325 (fun h => absurd h.2 (by decide)) hk312
  have hk339 := kp_up hM325 (fun h => absurd h.2 (by decide)) hk313
  have hk340 := kp_up hM325 (fun h => absurd h.2 (by decide)) hk314
  have hk341 := kp_up hM325 (fun h => absurd h.2 (by decide)) hk315
  have hk342 := kp_up hM325 (fun h => absurd h.2 (by decide)) hk316
  have hk343 := kp_up hM325 (fun h => absurd h.2 (by decide)) hk317
  have hk344 := kp_up hM325 (fun h => absurd h.2 (by decide)) hk318
  have hk345 := kp_up hM325 (fun h => absurd h.2 (by decide)) hk319
  have hk346 := kp_up hM325 (fun h => absurd h.2 (by decide)) hk320
  have hk347 := kp_up hM325 (fun h => absurd h.2 (by decide)) hk321
  have hk348 := kp_up hM325 (fun h => absurd h.2 (by decide)) hk322
  have hk349 := kp_up hM325 (fun h => absurd h.2 (by decide)) hf300
  clear hk305 hk306 hk307 hk308 hk309 hk310 hk311 hk312 hk313 hk314 hk315 hk316 hk317 hk318 hk319 hk320 hk321 hk322 hf300
  refine j_aload_n hX dX11_init_153 rfl 0 rfl ?_
  refine j_iconst hX dX11_init_154 ?_
  refine j_newa hX (k := 230) (by omega) (t := 0) (n := 2) rfl (by decide) (in_1 163 (by first | rfl | decide +kernel) rfl) (by decide +kernel : kd 230 = .inr (0, 2)) rfl (by decide) (hD328.at _ (by omega) (by omega)) ⟨by omega, by omega⟩ dX11_init_155 ?_
  have hR350 : RR 211 231 M324 := RR_s hR330 (Rg_plain (by omega) (by omega) (by decide +kernel : kd 230 = .inr (0, 2)) (by decide) (hD328.at _ (by omega) (by omega))) (by omega)
  refine pfF_X11_72 hX hin (by omega) (by omega) (by decide +kernel : kd 210 = .inl 11) (by omega) (by omega) dX11_init_157 ?_
  refine j_upN (fun M351 hM352 hf353 => ?_)
  have hG354 := F2.put hG327 hM352 ⟨by omega, by omega⟩
  have hD355 := DF_up hD328 hM352 (by omega)
  have hU356 := UL_up hU329 hM352
  have hR357 := RR_up hR350 hM352 (Or.inl (by omega))
  have hk358 := kp_up hM352 (fun h => absurd h.2 (by decide)) hk331
  have hk359 := kp_up hM352 (fun h => absurd h.2 (by decide)) hk332
  have hk360 := kp_up hM352 (fun h => absurd h.2 (by decide)) hk333
  have hk361 := kp_up hM352 (fun h => absurd h.2 (by decide)) hk334
  have hk362 := kp_up hM352 (fun h => absurd h.2 (by decide)) hk335
  have hk363 := kp_up hM352 (fun h => absurd h.2 (by decide)) hk336
  have hk364 := kp_up hM352 (fun h => absurd h.2 (by decide)) hk337
  have hk365 := kp_up hM352 (fun h => absurd h.2 (by decide)) hk338
  have hk366 := kp_up hM352 (fun h => absurd h.2 (by decide)) hk339
  have hk367 := kp_up hM352 (fun h => absurd h.2 (by decide)) hk340
  have hk368 := kp_up hM352 (fun h => absurd h.2 (by decide)) hk341
  have hk369 := kp_up hM352 (fun h => absurd h.2 (by decide)) hk342
  have hk370 := kp_up hM352 (fun h => absurd h.2 (by decide)) hk343
  have hk371 := kp_up hM352 (fun h => absurd h.2 (by decide)) hk344
  have hk372 := kp_up hM352 (fun h => absurd h.2 (by decide)) hk345
  have hk373 := kp_up hM352 (fun h => absurd h.2 (by decide)) hk346
  have hk374 := kp_up hM352 (fun h => absurd h.2 (by decide)) hk347
  have hk375 := kp_up hM352 (fun h => absurd h.2 (by decide)) hk348
  have hk376 := kp_up hM352 (fun h => absurd h.2 (by decide)) hk349
  have hk377 := kp_up hM352 (fun h => absurd h.2 (by decide)) hf326
  clear hk331 hk332 hk333 hk334 hk335 hk336 hk337 hk338 hk339 hk340 hk341 hk342 hk343 hk344 hk345 hk346 hk347 hk348 hk349 hf326
  refine j_aload_n hX dX11_init_160 rfl 0 rfl ?_
  refine j_iconst hX dX11_init_161 ?_
  refine j_newa hX (k := 231) (by omega) (t := 2) (n := 2) rfl (by decide) (in_6 169 (by first | rfl | decide +kernel) rfl) (by decide +kernel : kd 231 = .inr (2, 2)) rfl (by decide) (hD355.at _ (by omega) (by omega)) ⟨by omega, by omega⟩ dX11_init_162 ?_
  have hR378 : RR 211 232 M351 := RR_s hR357 (Rg_plain (by omega) (by omega) (by decide +kernel : kd 231 = .inr (2, 2)) (by decide) (hD355.at _ (by omega) (by omega))) (by omega)
  refine pfF_X11_75 hX hin (by omega) (by omega) (by decide +kernel : kd 210 = .inl 11) (by omega) (by omega) dX11_init_164 ?_
  refine j_upN (fun M379 hM380 hf381 => ?_)
  have hG382 := F2.put hG354 hM380 ⟨by omega, by omega⟩
  have hD383 := DF_up hD355 hM380 (by omega)
  have hU384 := UL_up hU356 hM380
  have hR385 := RR_up hR378 hM380 (Or.inl (by omega))
  have hk386 := kp_up hM380 (fun h => absurd h.2 (by decide)) hk358
  have hk387 := kp_up hM380 (fun h => absurd h.2 (by decide)) hk359
  have hk388 := kp_up hM380 (fun h => absurd h.2 (by decide)) hk360
  have hk389 := kp_up hM380 (fun h => absurd h.2 (by decide)) hk361
  have hk390 := kp_up hM380 (fun h => absurd h.2 (by decide)) hk362
  have hk391 := kp_up hM380 (fun h => absurd h.2 (by decide)) hk363
  have hk392 := kp_up hM380 (fun h => absurd h.2 (by decide)) hk364
  have hk393 := kp_up hM380 (fun h => absurd h.2 (by decide)) hk365
  have hk394 := kp_up hM380 (fun h => absurd h.2 (by decide)) hk366
  have hk395 := kp_up hM380 (fun h => absurd h.2 (by decide)) hk367
  have hk396 := kp_up hM380 (fun h => absurd h.2 (by decide)) hk368
  have hk397 := kp_up hM380 (fun h => absurd h.2 (by decide)) hk369
  have hk398 := kp_up hM380 (fun h => absurd h.2 (by decide)) hk370
  have hk399 := kp_up hM380 (fun h => absurd h.2 (by decide)) hk371
  have hk400 := kp_up hM380 (fun h => absurd h.2 (by decide)) hk372
  have hk401 := kp_up hM380 (fun h => absurd h.2 (by decide)) hk373
  have hk402 := kp_up hM380 (fun h => absurd h.2 (by decide)) hk374
  have hk403 := kp_up hM380 (fun h => absurd h.2 (by decide)) hk375
  have hk404 := kp_up hM380 (fun h => absurd h.2 (by decide)) hk376
  have hk405 := kp_up hM380 (fun h => absurd h.2 (by decide)) hk377
  have hk406 := kp_up hM380 (fun h => absurd h.2 (by decide)) hf353
  clear hk358 hk359 hk360 hk361 hk362 hk363 hk364 hk365 hk366 hk367 hk368 hk369 hk370 hk371 hk372 hk373 hk374 hk375 hk376 hk377 hf353
  refine j_aload_n hX dX11_init_167 rfl 0 rfl ?_
  refine j_iconst hX dX11_init_168 ?_
  refine j_newa hX (k := 232) (by omega) (t := 2) (n := 2) rfl (by decide) (in_6 169 (by first | rfl | decide +kernel) rfl) (by decide +kernel : kd 232 = .inr (2, 2)) rfl (by decide) (hD383.at _ (by omega) (by omega)) ⟨by omega, by omega⟩ dX11_init_169 ?_
  have hR407 : RR 211 233 M379 := RR_s hR385 (Rg_plain (by omega) (by omega) (by decide +kernel : kd 232 = .inr (2, 2)) (by decide) (hD383.at _ (by omega) (by omega))) (by omega)
  refine pfF_X11_79 hX hin (by omega) (by omega) (by decide +kernel : kd 210 = .inl 11) (by omega) (by omega) dX11_init_171 ?_
  refine j_upN (fun M408 hM409 hf410 => ?_)
  have hG411 := F2.put hG382 hM409 ⟨by omega, by omega⟩
  have hD412 := DF_up hD383 hM409 (by omega)
  have hU413 := UL_up hU384 hM409
  have hR414 := RR_up hR407 hM409 (Or.inl (by omega))
  have hk415 := kp_up hM409 (fun h => absurd h.2 (by decide)) hk386
  have hk416 := kp_up hM409 (fun h => absurd h.2 (by decide)) hk387
  have hk417 := kp_up hM409 (fun h => absurd h.2 (by decide)) hk388
  have hk418 := kp_up hM409 (fun h => absurd h.2 (by decide)) hk389
  have hk419 := kp_up hM409 (fun h => absurd h.2 (by decide)) hk390
  have hk420 := kp_up hM409 (fun h => absurd h.2 (by decide)) hk391
  have hk421 := kp_up hM409 (fun h => absurd h.2 (by decide)) hk392
  have hk422 := kp_up hM409 (fun h => absurd h.2 (by decide)) hk393
  have hk423 := kp_up hM409 (fun h => absurd h.2 (by decide)) hk394
  have hk424 := kp_up hM409 (fun h => absurd h.2 (by decide)) hk395
  have hk425 := kp_up hM409 (fun h => absurd h.2 (by decide)) hk396
  have hk426 := kp_up hM409 (fun h => absurd h.2 (by decide)) hk397
  have hk427 := kp_up hM409 (fun h => absurd h.2 (by decide)) hk398
  have hk428 := kp_up hM409 (fun h => absurd h.2 (by decide)) hk399
  have hk429 := kp_up hM409 (fun h => absurd h.2 (by decide)) hk400
  have hk430 := kp_up hM409 (fun h => absurd h.2 (by decide)) hk401
  have hk431 := kp_up hM409 (fun h => absurd h.2 (by decide)) hk402
  have hk432 := kp_up hM409 (fun h => absurd h.2 (by decide)) hk403
  have hk433 := kp_up hM409 (fun h => absurd h.2 (by decide)) hk404
  have hk434 := kp_up hM409 (fun h => absurd h.2 (by decide)) hk405
  have hk435 := kp_up hM409 (fun h => absurd h.2 (by decide)) hk406
  have hk436 := kp_up hM409 (fun h => absurd h.2 (by decide)) hf381
  clear hk386 hk387 hk388 hk389 hk390 hk391 hk392 hk393 hk394 hk395 hk396 hk397 hk398 hk399 hk400 hk401 hk402 hk403 hk404 hk405 hk406 hf381
  refine j_aload_n hX dX11_init_174 rfl 0 rfl ?_
  refine j_iconst hX dX11_init_175 ?_
  refine j_newa hX (k := 233) (by omega) (t := 2) (n := 2) rfl (by decide) (in_6 169 (by first | rfl | decide +kernel) rfl) (by decide +kernel : kd 233 = .inr (2, 2)) rfl (by decide) (hD412.at _ (by omega) (by omega)) ⟨by omega, by omega⟩ dX11_init_176 ?_
  have hR437 : RR 211 234 M408 := RR_s hR414 (Rg_plain (by omega) (by omega) (by decide +kernel : kd 233 = .inr (2, 2)) (by decide) (hD412.at _ (by omega) (by omega))) (by omega)
  refine pfF_X11_82 hX hin (by omega) (by omega) (by decide +kernel : kd 210 = .inl 11) (by omega) (by omega) dX11_init_178 ?_
  refine j_upN (fun M438 hM439 hf440 => ?_)
  have hG441 := F2.put hG411 hM439 ⟨by omega, by omega⟩
  have hD442 := DF_up hD412 hM439 (by omega)
  have hU443 := UL_up hU413 hM439
  have hR444 := RR_up hR437 hM439 (Or.inl (by omega))
  have hk445 := kp_up hM439 (fun h => absurd h.2 (by decide)) hk415
  have hk446 := kp_up hM439 (fun h => absurd h.2 (by decide)) hk416
  have hk447 := kp_up hM439 (fun h => absurd h.2 (by decide)) hk417
  have hk448 := kp_up hM439 (fun h => absurd h.2 (by decide)) hk418
  have hk449 := kp_up hM439 (fun h => absurd h.2 (by decide)) hk419
  have hk450 := kp_up hM439 (fun h => absurd h.2 (by decide)) hk420
  have hk451 := kp_up hM439 (fun h => absurd h.2 (by decide)) hk421
  have hk452 := kp_up hM439 (fun h => absurd h.2 (by decide)) hk422
  have hk453 := kp_up hM439 (fun h => absurd h.2 (by decide)) hk423
  have hk454 := kp_up hM439 (fun h => absurd h.2 (by decide)) hk424
  have hk455 := kp_up hM439 (fun h => absurd h.2 (by decide)) hk425
  have hk456 := kp_up hM439 (fun h => absurd h.2 (by decide)) hk426
  have hk457 := kp_up hM439 (fun h => absurd h.2 (by decide)) hk427
  have hk458 := kp_up hM439 (fun h => absurd h.2 (by decide)) hk428
  have hk459 := kp_up hM439 (fun h => absurd h.2 (by decide)) hk429
  have hk460 := kp_up hM439 (fun h => absurd h.2 (by decide)) hk430
  have hk461 := kp_up hM439 (fun h => absurd h.2 (by decide)) hk431
  have hk462 := kp_up hM439 (fun h => absurd h.2 (by decide)) hk432
  have hk463 := kp_up hM439 (fun h => absurd h.2 (by decide)) hk433
  have hk464 := kp_up hM439 (fun h => absurd h.2 (by decide)) hk434
  have hk465 := kp_up hM439 (fun h => absurd h.2 (by decide)) hk435
  have hk466 := kp_up hM439 (fun h => absurd h.2 (by decide)) hk436
  have hk467 := kp_up hM439 (fun h => absurd h.2 (by decide)) hf410
  clear hk415 hk416 hk417 hk418 hk419 hk420 hk421 hk422 hk423 hk424 hk425 hk426 hk427 hk428 hk429 hk430 hk431 hk432 hk433 hk434 hk435 hk436 hf410
  refine j_aload_n hX dX11_init_181 rfl 0 rfl ?_
  refine j_iconst hX dX11_init_182 ?_
  refine j_newa hX (k := 234) (by omega) (t := 2) (n := 2) rfl (by decide) (in_6 169 (by first | rfl | decide +kernel) rfl) (by decide +kernel : kd 234 = .inr (2, 2)) rfl (by decide) (hD442.at _ (by omega) (by omega)) ⟨by omega, by omega⟩ dX11_init_183 ?_
  have hR468 : RR 211 235 M438 := RR_s hR444 (Rg_plain (by omega) (by omega) (by decide +kernel : kd 234 = .inr (2, 2)) (by decide) (hD442.at _ (by omega) (by omega))) (by omega)
  refine pfF_X11_85 hX hin (by omega) (by omega) (by decide +kernel : kd 210 = .inl 11) (by omega) (by omega) dX11_init_185 ?_
  refine j_upN (fun M469 hM470 hf471 => ?_)
  have hG472 := F2.put hG441 hM470 ⟨by omega, by omega⟩
  have hD473 := DF_up hD442 hM470 (by omega)
  have hU474 := UL_up hU443 hM470
  have hR475 := RR_up hR468 hM470 (Or.inl (by omega))
  have hk476 := kp_up hM470 (fun h => absurd h.2 (by decide)) hk445
  have hk477 := kp_up hM470 (fun h => absurd h.2 (by decide)) hk446
  have hk478 := kp_up hM470 (fun h => absurd h.2 (by decide)) hk447
  have hk479 := kp_up hM470 (fun h => absurd h.2 (by decide)) hk448
  have hk480 := kp_up hM470 (fun h => absurd h.2 (by decide)) hk449
  have hk481 := kp_up hM470 (fun h => absurd h.2 (by decide)) hk450
  have hk482 := kp_up hM470 (fun h => absurd h.2 (by decide)) hk451
  have hk483 := kp_up hM470 (fun h => absurd h.2 (by decide)) hk452
  have hk484 := kp_up hM470 (fun h => absurd h.2 (by decide)) hk453
  have hk485 := kp_up hM470 (fun h => absurd h.2 (by decide)) hk454
  have hk486 := kp_up hM470 (fun h => absurd h.2 (by decide)) hk455
  have hk487 := kp_up hM470 (fun h => absurd h.2 (by decide)) hk456
  have hk488 := kp_up hM470 (fun h => absurd h.2 (by decide)) hk457
  have hk489 := kp_up hM470 (fun h => absurd h.2 (by decide)) hk458
  have hk490 := kp_up hM470 (fun h => absurd h.2 (by decide)) hk459
  have hk491 := kp_up hM470 (fun h => absurd h.2 (by decide)) hk460
  have hk492 := kp_up hM470 (fun h => absurd h.2 (by decide)) hk461
  have hk493 := kp_up hM470 (fun h => absurd h.2 (by decide)) hk462
  have hk494 := kp_up hM470 (fun h => absurd h.2 (by decide)) hk463
  have hk495 := kp_up hM470 (fun h => absurd h.2 (by decide)) hk464
  have hk496 := kp_up hM470 (fun h => absurd h.2 (by decide)) hk465
  have hk497 := kp_up hM470 (fun h => absurd h.2 (by decide)) hk466
  have hk498 := kp_up hM470 (fun h => absurd h.2 (by decide)) hk467
  have hk499 := kp_up hM470 (fun h => absurd h.2 (by decide)) hf440
  clear hk445 hk446 hk447 hk448 hk449 hk450 hk451 hk452 hk453 hk454 hk455 hk456 hk457 hk458 hk459 hk460 hk461 hk462 hk463 hk464 hk465 hk466 hk467 hf440
  refine j_aload_n hX dX11_init_188 rfl 0 rfl ?_
  refine j_bipush hX dX11_init_189 rfl ?_
  refine j_newa hX (k := 235) (by omega) (t := 3) (n := 12) rfl (by decide) (in_1 127 (by first | rfl | decide +kernel) rfl) (by decide +kernel : kd 235 = .inr (3, 12)) rfl (by decide) (hD473.at _ (by omega) (by omega)) ⟨by omega, by omega⟩ dX11_init_191 ?_
  have hR500 : RR 211 236 M469 := RR_s hR475 (Rg_plain (by omega) (by omega) (by decide +kernel : kd 235 = .inr (3, 12)) (by decide) (hD473.at _ (by omega) (by omega))) (by omega)
  refine pfF_X11_88 hX hin (by omega) (by omega) (by decide +kernel : kd 210 = .inl 11) (by omega) (by omega) dX11_init_193 ?_
  refine j_upN (fun M501 hM502 hf503 => ?_)
  have hG504 := F2.put hG472 hM502 ⟨by omega, by omega⟩
  have hD505 := DF_up hD473 hM502 (by omega)
  have hU506 := UL_up hU474 hM502
  have hR507 := RR_up hR500 hM502 (Or.inl (by omega))
  have hk508 := kp_up hM502 (fun h => absurd h.2 (by decide)) hk476
  have hk509 := kp_up hM502 (fun h => absurd h.2 (by decide)) hk477
  have hk510 := kp_up hM502 (fun h => absurd h.2 (by decide)) hk478
  have hk511 := kp_up hM502 (fun h => absurd h.2 (by decide)) hk479
  have hk512 := kp_up hM502 (fun h => absurd h.2 (by decide)) hk480
  have hk513 := kp_up hM502 (fun h => absurd h.2 (by decide)) hk481
  have hk514 := kp_up hM502 (fun h => absurd h.2 (by decide)) hk482
  have hk515 := kp_up hM502 (fun h => absurd h.2 (by decide)) hk483
  have hk516 := kp_up hM502 (fun h => absurd h.2 (by decide)) hk484
  have hk517 := kp_up hM502 (fun h => absurd h.2 (by decide)) hk485
  have hk518 := kp_up hM502 (fun h => absurd h.2 (by decide)) hk486
  have hk519 := kp_up hM502 (fun h => absurd h.2 (by decide)) hk487
  have hk520 := kp_up hM502 (fun h => absurd h.2 (by decide)) hk488
  have hk521 := kp_up hM502 (fun h => absurd h.2 (by decide)) hk489
  have hk522 := kp_up hM502 (fun h => absurd h.2 (by decide)) hk490
  have hk523 := kp_up hM502 (fun h => absurd h.2 (by decide)) hk491
  have hk524 := kp_up hM502 (fun h => absurd h.2 (by decide)) hk492
  have hk525 := kp_up hM502 (fun h => absurd h.2 (by decide)) hk493
  have hk526 := kp_up hM502 (fun h => absurd h.2 (by decide)) hk494
  have hk527 := kp_up hM502 (fun h => absurd h.2 (by decide)) hk495
  have hk528 := kp_up hM502 (fun h => absurd h.2 (by decide)) hk496
  have hk529 := kp_up hM502 (fun h => absurd h.2 (by decide)) hk497
  have hk530 := kp_up hM502 (fun h => absurd h.2 (by decide)) hk498
  have hk531 := kp_up hM502 (fun h => absurd h.2 (by decide)) hk499
  have hk532 := kp_up hM502 (fun h => absurd h.2 (by decide)) hf471
  clear hk476 hk477 hk478 hk479 hk480 hk481 hk482 hk483 hk484 hk485 hk486 hk487 hk488 hk489 hk490 hk491 hk492 hk493 hk494 hk495 hk496 hk497 hk498 hk499 hf471
  refine j_aload_n hX dX11_init_196 rfl 0 rfl ?_
  refine j_bipush hX dX11_init_197 rfl ?_
  refine j_newa hX (k := 236) (by omega) (t := 3) (n := 20) rfl (by decide) (in_1 127 (by first | rfl | decide +kernel) rfl) (by decide +kernel : kd 236 = .inr (3, 20)) rfl (by decide) (hD505.at _ (by omega) (by omega)) ⟨by omega, by omega⟩ dX11_init_199 ?_
  have hR533 : RR 211 237 M501 := RR_s hR507 (Rg_plain (by omega) (by omega) (by decide +kernel : kd 236 = .inr (3, 20)) (by decide) (hD505.at _ (by omega) (by omega))) (by omega)
  refine pfF_X11_92 hX hin (by omega) (by omega) (by decide +kernel : kd 210 = .inl 11) (by omega) (by omega) dX11_init_201 ?_
  refine j_upN (fun M534 hM535 hf536 => ?_)
  have hG537 := F2.put hG504 hM535 ⟨by omega, by omega⟩
  have hD538 := DF_up hD505 hM535 (by omega)
  have hU539 := UL_up hU506 hM535
  have hR540 := RR_up hR533 hM535 (Or.inl (by omega))
  have hk541 := kp_up hM535 (fun h => absurd h.2 (by decide)) hk508
  have hk542 := kp_up hM535 (fun h => absurd h.2 (by decide)) hk509
  have hk543 := kp_up hM535 (fun h => absurd h.2 (by decide)) hk510
  have hk544 := kp_up hM535 (fun h => absurd h.2 (by decide)) hk511
  have hk545 := kp_up hM535 (fun h => absurd h.2 (by decide)) hk512
  have hk546 := kp_up hM535 (fun h => absurd h.2 (by decide)) hk513
  have hk547 := kp_up hM535 (fun h => absurd h.2 (by decide)) hk514
  have hk548 := kp_up hM535 (fun h => absurd h.2 (by decide)) hk515
  have hk549 := kp_up hM535 (fun h => absurd h.2 (by decide)) hk516
  have hk550 := kp_up hM535 (fun h => absurd h.2 (by decide)) hk517
  have hk551 := kp_up hM535 (fun h => absurd h.2 (by decide)) hk518
  have hk552 := kp_up hM535 (fun h => absurd h.2 (by decide)) hk519
  have hk553 := kp_up hM535 (fun h => absurd h.2 (by decide)) hk520
  have hk554 := kp_up hM535 (fun h => absurd h.2 (by decide)) hk521
  have hk555 := kp_up hM535 (fun h => absurd h.2 (by decide)) hk522
  have hk556 := kp_up hM535 (fun h => absurd h.2 (by decide)) hk523
  have hk557 := kp_up hM535 (fun h => absurd h.2 (by decide)) hk524
  have hk558 := kp_up hM535 (fun h => absurd h.2 (by decide)) hk525
  have hk559 := kp_up hM535 (fun h => absurd h.2 (by decide)) hk526
  have hk560 := kp_up hM535 (fun h => absurd h.2 (by decide)) hk527
  have hk561 := kp_up hM535 (fun h => absurd h.2 (by decide)) hk528
  have hk562 := kp_up hM535 (fun h => absurd h.2 (by decide)) hk529
  have hk563 := kp_up hM535 (fun h => absurd h.2 (by decide)) hk530
  have hk564 := kp_up hM535 (fun h => absurd h.2 (by decide)) hk531
  have hk565 := kp_up hM535 (fun h => absurd h.2 (by decide)) hk532
  have hk566 := kp_up hM535 (fun h => absurd h.2 (by decide)) hf503
  clear hk508 hk509 hk510 hk511 hk512 hk513 hk514 hk515 hk516 hk517 hk518 hk519 hk520 hk521 hk522 hk523 hk524 hk525 hk526 hk527 hk528 hk529 hk530 hk531 hk532 hf503
  refine j_aload_n hX dX11_init_204 rfl 0 rfl ?_
  refine j_sipush hX dX11_init_205 rfl ?_
  refine j_newa hX (k := 237) (by omega) (t := 0) (n := 1120) rfl (by decide) (in_1 163 (by first | rfl | decide +kernel) rfl) (by decide +kernel : kd 237 = .inr (0, 1120)) rfl (by decide) (hD538.at _ (by omega) (by omega)) ⟨by omega, by omega⟩ dX11_init_208 ?_
  have hR567 : RR 211 238 M534 := RR_s hR540 (Rg_plain (by omega) (by omega) (by decide +kernel : kd 237 = .inr (0, 1120)) (by decide) (hD538.at _ (by omega) (by omega))) (by omega)
  refine pfF_X11_95 hX hin (by omega) (by omega) (by decide +kernel : kd 210 = .inl 11) (by omega) (by omega) dX11_init_210 ?_
  refine j_upN (fun M568 hM569 hf570 => ?_)
  have hG571 := F2.put hG537 hM569 ⟨by omega, by omega⟩
  have hD572 := DF_up hD538 hM569 (by omega)
  have hU573 := UL_up hU539 hM569
  have hR574 := RR_up hR567 hM569 (Or.inl (by omega))
  have hk575 := kp_up hM569 (fun h => absurd h.2 (by decide)) hk541
  have hk576 := kp_up hM569 (fun h => absurd h.2 (by decide)) hk542
  have hk577 := kp_up hM569 (fun h => absurd h.2 (by decide)) hk543
  have hk578 := kp_up hM569 (fun h => absurd h.2 (by decide)) hk544
  have hk579 := kp_up hM569 (fun h => absurd h.2 (by decide)) hk545
  have hk580 := kp_up hM569 (fun h => absurd h.2 (by decide)) hk546
  have hk581 := kp_up hM569 (fun h => absurd h.2 (by decide)) hk547
  have hk582 := kp_up hM569 (fun h => absurd h.2 (by decide)) hk548
  have hk583 := kp_up hM569 (fun h => absurd h.2 (by decide)) hk549
  have hk584 := kp_up hM569 (fun h => absurd h.2 (by decide)) hk550
  have hk585 := kp_up hM569 (fun h => absurd h.2 (by decide)) hk551
  have hk586 := kp_up hM569 (fun h => absurd h.2 (by decide)) hk552
  have hk587 := kp_up hM569 (fun h => absurd h.2 (by decide)) hk553
  have hk588 := kp_up hM569 (fun h => absurd h.2 (by decide)) hk554
  have hk589 := kp_up hM569 (fun h => absurd h.2 (by decide)) hk555
  have hk590 := kp_up hM569 (fun h => absurd h.2 (by decide)) hk556
  have hk591 := kp_up hM569 (fun h => absurd h.2 (by decide)) hk557
  have hk592 := kp_up hM569 (fun h => absurd h.2 (by decide)) hk558
  have hk593 := kp_up hM569 (fun h => absurd h.2 (by decide)) hk559
  have hk594 := kp_up hM569 (fun h => absurd h.2 (by decide)) hk560
  have hk595 := kp_up hM569 (fun h => absurd h.2 (by decide)) hk561
  have hk596 := kp_up hM569 (fun h => absurd h.2 (by decide)) hk562
  have hk597 := kp_up hM569 (fun h => absurd h.2 (by decide)) hk563
  have hk598 := kp_up hM569 (fun h => absurd h.2 (by decide)) hk564
  have hk599 := kp_up hM569 (fun h => absurd h.2 (by decide)) hk565
  have hk600 := kp_up hM569 (fun h => absurd h.2 (by decide)) hk566
  have hk601 := kp_up hM569 (fun h => absurd h.2 (by decide)) hf536
  clear hk541 hk542 hk543 hk544 hk545 hk546 hk547 hk548 hk549 hk550 hk551 hk552 hk553 hk554 hk555 hk556 hk557 hk558 hk559 hk560 hk561 hk562 hk563 hk564 hk565 hk566 hf536
  refine j_aload_n hX dX11_init_213 rfl 0 rfl ?_
  refine j_sipush hX dX11_init_214 rfl ?_
  refine j_newa hX (k := 238) (by omega) (t := 0) (n := 1120) rfl (by decide) (in_1 163 (by first | rfl | decide +kernel) rfl) (by decide +kernel : kd 238 = .inr (0, 1120)) rfl (by decide) (hD572.at _ (by omega) (by omega)) ⟨by omega, by omega⟩ dX11_init_217 ?_
  have hR602 : RR 211 239 M568 := RR_s hR574 (Rg_plain (by omega) (by omega) (by decide +kernel : kd 238 = .inr (0, 1120)) (by decide) (hD572.at _ (by omega) (by omega))) (by omega)
  refine pfF_X11_98 hX hin (by omega) (by omega) (by decide +kernel : kd 210 = .inl 11) (by omega) (by omega) dX11_init_219 ?_
  refine j_upN (fun M603 hM604 hf605 => ?_)
  have hG606 := F2.put hG571 hM604 ⟨by omega, by omega⟩
  have hD607 := DF_up hD572 hM604 (by omega)
  have hU608 := UL_up hU573 hM604
  have hR609 := RR_up hR602 hM604 (Or.inl (by omega))
  have hk610 := kp_up hM604 (fun h => absurd h.2 (by decide)) hk575
  have hk611 := kp_up hM604 (fun h => absurd h.2 (by decide)) hk576
  have hk612 := kp_up hM604 (fun h => absurd h.2 (by decide)) hk577
  have hk613 := kp_up hM604 (fun h => absurd h.2 (by decide)) hk578
  have hk614 := kp_up hM604 (fun h => absurd h.2 (by decide)) hk579
  have hk615 := kp_up hM604 (fun h => absurd h.2 (by decide)) hk580
  have hk616 := kp_up hM604 (fun h => absurd h.2 (by decide)) hk581
  have hk617 := kp_up hM604 (fun h => absurd h.2 (by decide)) hk582
  have hk618 := kp_up hM604 (fun h => absurd h.2 (by decide)) hk583
  have hk619 := kp_up hM604 (fun h => absurd h.2 (by decide)) hk584
  have hk620 := kp_up hM604 (fun h => absurd h.2 (by decide)) hk585
  have hk621 := kp_up hM604 (fun h => absurd h.2 (by decide)) hk586
  have hk622 := kp_up hM604 (fun h => absurd h.2 (by decide)) hk587
  have hk623 := kp_up hM604 (fun h => absurd h.2 (by decide)) hk588
  have hk624 := kp_up hM604 (fun h => absurd h.2 (by decide)) hk589
  have hk625 := kp_up hM604 (fun h => absurd h.2 (by decide)) hk590
  have hk626 := kp_up hM604 (fun h => absurd h.2 (by decide)) hk591
  have hk627 := kp_up hM604 (fun h => absurd h.2 (by decide)) hk592
  have hk628 := kp_up hM604 (fun h => absurd h.2 (by decide)) hk593
  have hk629 := kp_up hM604 (fun h => absurd h.2 (by decide)) hk594
  have hk630 := kp_up hM604 (fun h => absurd h.2 (by decide)) hk595
  have hk631 := kp_up hM604 (fun h => absurd h.2 (by decide)) hk596
  have hk632 := kp_up hM604 (fun h => absurd h.2 (by decide)) hk597
  have hk633 := kp_up hM604 (fun h => absurd h.2 (by decide)) hk598
  have hk634 := kp_up hM604 (fun h => absurd h.2 (by decide)) hk599
  have hk635 := kp_up hM604 (fun h => absurd h.2 (by decide)) hk600
  have hk636 := kp_up hM604 (fun h => absurd h.2 (by decide)) hk601
  have hk637 := kp_up hM604 (fun h => absurd h.2 (by decide)) hf570
  clear hk575 hk576 hk577 hk578 hk579 hk580 hk581 hk582 hk583 hk584 hk585 hk586 hk587 hk588 hk589 hk590 hk591 hk592 hk593 hk594 hk595 hk596 hk597 hk598 hk599 hk600 hk601 hf570
  refine j_aload_n hX dX11_init_222 rfl 0 rfl ?_
  refine j_bipush hX dX11_init_223 rfl ?_
  refine j_newa hX (k := 239) (by omega) (t := 0) (n := 90) rfl (by decide) (in_1 163 (by first | rfl | decide +kernel) rfl) (by decide +kernel : kd 239 = .inr (0, 90)) rfl (by decide) (hD607.at _ (by omega) (by omega)) ⟨by omega, by omega⟩ dX11_init_225 ?_
  have hR638 : RR 211 240 M603 := RR_s hR609 (Rg_plain (by omega) (by omega) (by decide +kernel : kd 239 = .inr (0, 90)) (by decide) (hD607.at _ (by omega) (by omega))) (by omega)
  refine pfF_X11_101 hX hin (by omega) (by omega) (by decide +kernel : kd 210 = .inl 11) (by omega) (by omega) dX11_init_227 ?_
  refine j_upN (fun M639 hM640 hf641 => ?_)
  have hG642 := F2.put hG606 hM640 ⟨by omega, by omega⟩
  have hD643 := DF_up hD607 hM640 (by omega)
  have hU644 := UL_up hU608 hM640
  have hR645 := RR_up hR638 hM640 (Or.inl (by omega))
  have hk646 := kp_up hM640 (fun h => absurd h.2 (by decide)) hk610
  have hk647 := kp_up hM640 (fun h => absurd h.2 (by decide)) hk611
  have hk648 := kp_up hM640 (fun h => absurd h.2 (by decide)) hk612
  have hk649 := kp_up hM640 (fun h => absurd h.2 (by decide)) hk613
  have hk650 := kp_up hM640 (fun h => absurd h.2 (by decide)) hk614
  have hk651 := kp_up hM640 (fun h => absurd h.2 (by decide)) hk615
  have hk652 := kp_up hM640 (fun h => absurd h.2 (by decide)) hk616
  have hk653 := kp_up hM640 (fun h => absurd h.2 (by decide)) hk617
  have hk654 := kp_up hM640 (fun h => absurd h.2 (by decide)) hk618
  have hk655 := kp_up hM640 (fun h => absurd h.2 (by decide)) hk619
  have hk656 := kp_up hM640 (fun h => absurd h.2 (by decide)) hk620
  have hk657 := kp_up hM640 (fun h => absurd h.2 (by decide)) hk621
  have hk658 := kp_up hM640 (fun h => absurd h.2 (by decide)) hk622
  have hk659 := kp_up hM640 (fun h => absurd h.2 (by decide)) hk623
  have hk660 := kp_up hM640 (fun h => absurd h.2 (by decide)) hk624
  have hk661 := kp_up hM640 (fun h => absurd h.2 (by decide)) hk625
  have hk662 := kp_up hM640 (fun h => absurd h.2 (by decide)) hk626
  have hk663 := kp_up hM640 (fun h => absurd h.2 (by decide)) hk627
  have hk664 := kp_up hM640 (fun h => absurd h.2 (by decide)) hk628
  have hk665 := kp_up hM640 (fun h => absurd h.2 (by decide)) hk629
  have hk666 := kp_up hM640 (fun h => absurd h.2 (by decide)) hk630
  have hk667 := kp_up hM640 (fun h => absurd h.2 (by decide)) hk631
  have hk668 := kp_up hM640 (fun h => absurd h.2 (by decide)) hk632
  have hk669 := kp_up hM640 (fun h => absurd h.2 (by decide)) hk633
  have hk670 := kp_up hM640 (fun h => absurd h.2 (by decide)) hk634
  have hk671 := kp_up hM640 (fun h => absurd h.2 (by decide)) hk635
  have hk672 := kp_up hM640 (fun h => absurd h.2 (by decide)) hk636
  have hk673 := kp_up hM640 (fun h => absurd h.2 (by decide)) hk637
  have hk674 := kp_up hM640 (fun h => absurd h.2 (by decide)) hf605
  clear hk610 hk611 hk612 hk613 hk614 hk615 hk616 hk617 hk618 hk619 hk620 hk621 hk622 hk623 hk624 hk625 hk626 hk627 hk628 hk629 hk630 hk631 hk632 hk633 hk634 hk635 hk636 hk637 hf605
  refine j_aload_n hX dX11_init_230 rfl 0 rfl ?_
  refine j_bipush hX dX11_init_231 rfl ?_
  refine j_newa hX (k := 240) (by omega) (t := 0) (n := 90) rfl (by decide) (in_1 163 (by first | rfl | decide +kernel) rfl) (by decide +kernel : kd 240 = .inr (0, 90)) rfl (by decide) (hD643.at _ (by omega) (by omega)) ⟨by omega, by omega⟩ dX11_init_233 ?_
  have hR675 : RR 211 241 M639 := RR_s hR645 (Rg_plain (by omega) (by omega) (by decide +kernel : kd 240 = .inr (0, 90)) (by decide) (hD643.at _ (by omega) (by omega))) (by omega)
  refine pfF_X11_104 hX hin (by omega) (by omega) (by decide +kernel : kd 210 = .inl 11) (by omega) (by omega) dX11_init_235 ?_
  refine j_upN (fun M676 hM677 hf678 => ?_)
  have hG679 := F2.put hG642 hM677 ⟨by omega, by omega⟩
  have hD680 := DF_up hD643 hM677 (by omega)
  have hU681 := UL_up hU644 hM677
  have hR682 := RR_up hR675 hM677 (Or.inl (by omega))
  have hk683 := kp_up hM677 (fun h => absurd h.2 (by decide)) hk646
  have hk684 := kp_up hM677 (fun h => absurd h.2 (by decide)) hk647
  have hk685 := kp_up hM677 (fun h => absurd h.2 (by decide)) hk648
  have hk686 := kp_up hM677 (fun h => absurd h.2 (by decide)) hk649
  have hk687 := kp_up hM677 (fun h => absurd h.2 (by decide)) hk650
  have hk688 := kp_up hM677 (fun h => absurd h.2 (by decide)) hk651
  have hk689 := kp_up hM677 (fun h => absurd h.2 (by decide)) hk652
  have hk690 := kp_up hM677 (fun h => absurd h.2 (by decide)) hk653
  have hk691 := kp_up hM677 (fun h => absurd h.2 (by decide)) hk654
  have hk692 := kp_up hM677 (fun h => absurd h.2 (by decide)) hk655
  have hk693 := kp_up hM677 (fun h => absurd h.2 (by decide)) hk656
  have hk694 := kp_up hM677 (fun h => absurd h.2 (by decide)) hk657
  have hk695 := kp_up hM677 (fun h => absurd h.2 (by decide)) hk658
  have hk696 := kp_up hM677 (fun h => absurd h.2 (by decide)) hk659
  have hk697 := kp_up hM677 (fun h => absurd h.2 (by decide)) hk660
  have hk698 := kp_up hM677 (fun h => absurd h.2 (by decide)) hk661
  have hk699 := kp_up hM677 (fun h => absurd h.2 (by decide)) hk662
  have hk700 := kp_up hM677 (fun h => absurd h.2 (by decide)) hk663
  have hk701 := kp_up hM677 (fun h => absurd h.2 (by decide)) hk664
  have hk702 := kp_up hM677 (fun h => absurd h.2 (by decide)) hk665
  have hk703 := kp_up hM677 (fun h => absurd h.2 (by decide)) hk666
  have hk704 := kp_up hM677 (fun h => absurd h.2 (by decide)) hk667
  have hk705 := kp_up hM677 (fun h => absurd h.2 (by decide)) hk668
  have hk706 := kp_up hM677 (fun h => absurd h.2 (by decide)) hk669
  have hk707 := kp_up hM677 (fun h => absurd h.2 (by decide)) hk670
  have hk708 := kp_up hM677 (fun h => absurd h.2 (by decide)) hk671
  have hk709 := kp_up hM677 (fun h => absurd h.2 (by decide)) hk672
  have hk710 := kp_up hM677 (fun h => absurd h.2 (by decide)) hk673
  have hk711 := kp_up hM677 (fun h => absurd h.2 (by decide)) hk674
  have hk712 := kp_up hM677 (fun h => absurd h.2 (by decide)) hf641
  clear hk646 hk647 hk648 hk649 hk650 hk651 hk652 hk653 hk654 hk655 hk656 hk657 hk658 hk659 hk660 hk661 hk662 hk663 hk664 hk665 hk666 hk667 hk668 hk669 hk670 hk671 hk672 hk673 hk674 hf641
  refine j_aload_n hX dX11_init_238 rfl 0 rfl ?_
  refine j_bipush hX dX11_init_239 rfl ?_
  refine j_newa hX (k := 241) (by omega) (t := 0) (n := 60) rfl (by decide) (in_1 163 (by first | rfl | decide +kernel) rfl) (by decide +kernel : kd 241 = .inr (0, 60)) rfl (by decide) (hD680.at _ (by omega) (by omega)) ⟨by omega, by omega⟩ dX11_init_241 ?_
  have hR713 : RR 211 242 M676 := RR_s hR682 (Rg_plain (by omega) (by omega) (by decide +kernel : kd 241 = .inr (0, 60)) (by decide) (hD680.at _ (by omega) (by omega))) (by omega)
  refine pfF_X11_107 hX hin (by omega) (by omega) (by decide +kernel : kd 210 = .inl 11) (by omega) (by omega) dX11_init_243 ?_
  refine j_upN (fun M714 hM715 hf716 => ?_)
  have hG717 := F2.put hG679 hM715 ⟨by omega, by omega⟩
  have hD718 := DF_up hD680 hM715 (by omega)
  have hU719 := UL_up hU681 hM715
  have hR720 := RR_up hR713 hM715 (Or.inl (by omega))
  have hk721 := kp_up hM715 (fun h => absurd h.2 (by decide)) hk683
  have hk722 := kp_up hM715 (fun h => absurd h.2 (by decide)) hk684
  have hk723 := kp_up hM715 (fun h => absurd h.2 (by decide)) hk685
  have hk724 := kp_up hM715 (fun h => absurd h.2 (by decide)) hk686
  have hk725 := kp_up hM715 (fun h => absurd h.2 (by decide)) hk687
  have hk726 := kp_up hM715 (fun h => absurd h.2 (by decide)) hk688
  have hk727 := kp_up hM715 (fun h => absurd h.2 (by decide)) hk689
  have hk728 := kp_up hM715 (fun h => absurd h.2 (by decide)) hk690
  have hk729 := kp_up hM715 (fun h => absurd h.2 (by decide)) hk691
  have hk730 := kp_up hM715 (fun h => absurd h.2 (by decide)) hk692
  have hk731 := kp_up hM715 (fun h => absurd h.2 (by decide)) hk693
  have hk732 := kp_up hM715 (fun h => absurd h.2 (by decide)) hk694
  have hk733 := kp_up hM715 (fun h => absurd h.2 (by decide)) hk695
  have hk734 := kp_up hM715 (fun h => absurd h.2 (by decide)) hk696
  have hk735 := kp_up hM715 (fun h => absurd h.2 (by decide)) hk697
  have hk736 := kp_up hM715 (fun h => absurd h.2 (by decide)) hk698
  have hk737 := kp_up hM715 (fun h => absurd h.2 (by decide)) hk699
  have hk738 := kp_up hM715 (fun h => absurd h.2 (by decide)) hk700
  have hk739 := kp_up hM715 (fun h => absurd h.2 (by decide)) hk701
  have hk740 := kp_up hM715 (fun h => absurd h.2 (by decide)) hk702
  have hk741 := kp_up hM715 (fun h => absurd h.2 (by decide)) hk703
  have hk742 := kp_up hM715 (fun h => absurd h.2 (by decide)) hk704
  have hk743 := kp_up hM715 (fun h => absurd h.2 (by decide)) hk705
  have hk744 := kp_up hM715 (fun h => absurd h.2 (by decide)) hk706
  have hk745 := kp_up hM715 (fun h => absurd h.2 (by decide)) hk707
  have hk746 := kp_up hM715 (fun h => absurd h.2 (by decide)) hk708
  have hk747 := kp_up hM715 (fun h => absurd h.2 (by decide)) hk709
  have hk748 := kp_up hM715 (fun h => absurd h.2 (by decide)) hk710
  have hk749 := kp_up hM715 (fun h => absurd h.2 (by decide)) hk711
  have hk750 := kp_up hM715 (fun h => absurd h.2 (by decide)) hk712
  have hk751 := kp_up hM715 (fun h => absurd h.2 (by decide)) hf678
  clear hk683 hk684 hk685 hk686 hk687 hk688 hk689 hk690 hk691 hk692 hk693 hk694 hk695 hk696 hk697 hk698 hk699 hk700 hk701 hk702 hk703 hk704 hk705 hk706 hk707 hk708 hk709 hk710 hk711 hk712 hf678
  refine j_aload_n hX dX11_init_246 rfl 0 rfl ?_
  refine j_bipush hX dX11_init_247 rfl ?_
  refine j_newa hX (k := 242) (by omega) (t := 0) (n := 16) rfl (by decide) (in_1 163 (by first | rfl | decide +kernel) rfl) (by decide +kernel : kd 242 = .inr (0, 16)) rfl (by decide) (hD718.at _ (by omega) (by omega)) ⟨by omega, by omega⟩ dX11_init_249 ?_
  have hR752 : RR 211 243 M714 := RR_s hR720 (Rg_plain (by omega) (by omega) (by decide +kernel : kd 242 = .inr (0, 16)) (by decide) (hD718.at _ (by omega) (by omega))) (by omega)
  refine pfF_X11_110 hX hin (by omega) (by omega) (by decide +kernel : kd 210 = .inl 11) (by omega) (by omega) dX11_init_251 ?_
  refine j_upN (fun M753 hM754 hf755 => ?_)
  have hG756 := F2.put hG717 hM754 ⟨by omega, by omega⟩
  have hD757 := DF_up hD718 hM754 (by omega)
  have hU758 := UL_up hU719 hM754
  have hR759 := RR_up hR752 hM754 (Or.inl (by omega))
  have hk760 := kp_up hM754 (fun h => absurd h.2 (by decide)) hk721
  have hk761 := kp_up hM754 (fun h => absurd h.2 (by decide)) hk722
  have hk762 := kp_up hM754 (fun h => absurd h.2 (by decide)) hk723
  have hk763 := kp_up hM754 (fun h => absurd h.2 (by decide)) hk724
  have hk764 := kp_up hM754 (fun h => absurd h.2 (by decide)) hk725
  have hk765 := kp_up hM754 (fun h => absurd h.2 (by decide)) hk726
  have hk766 := kp_up hM754 (fun h => absurd h.2 (by decide)) hk727
  have hk767 := kp_up hM754 (fun h => absurd h.2 (by decide)) hk728
  have hk768 := kp_up hM754 (fun h => absurd h.2 (by decide)) hk729
  have hk769 := kp_up hM754 (fun h => absurd h.2 (by decide)) hk730
  have hk770 := kp_up hM754 (fun h => absurd h.2 (by decide)) hk731
  have hk771 := kp_up hM754 (fun h => absurd h.2 (by decide)) hk732
  have hk772 := kp_up hM754 (fun h => absurd h.2 (by decide)) hk733
  have hk773 := kp_up hM754 (fun h => absurd h.2 (by decide)) hk734
  have hk774 := kp_up hM754 (fun h => absurd h.2 (by decide)) hk735
  have hk775 := kp_up hM754 (fun h => absurd h.2 (by decide)) hk736
  have hk776 := kp_up hM754 (fun h => absurd h.2 (by decide)) hk737
  have hk777 := kp_up hM754 (fun h => absurd h.2 (by decide)) hk738
  have hk778 := kp_up hM754 (fun h => absurd h.2 (by decide)) hk739
  have hk779 := kp_up hM754 (fun h => absurd h.2 (by decide)) hk740
  have hk780 := kp_up hM754 (fun h => absurd h.2 (by decide)) hk741
  have hk781 := kp_up hM754 (fun h => absurd h.2 (by decide)) hk742
  have hk782 := kp_up hM754 (fun h => absurd h.2 (by decide)) hk743
  have hk783 := kp_up hM754 (fun h => absurd h.2 (by decide)) hk744
  have hk784 := kp_up hM754 (fun h => absurd h.2 (by decide)) hk745
  have hk785 := kp_up hM754 (fun h => absurd h.2 (by decide)) hk746
  have hk786 := kp_up hM754 (fun h => absurd h.2 (by decide)) hk747
  have hk787 := kp_up hM754 (fun h => absurd h.2 (by decide)) hk748
  have hk788 := kp_up hM754 (fun h => absurd h.2 (by decide)) hk749
  have hk789 := kp_up hM754 (fun h => absurd h.2 (by decide)) hk750
  have hk790 := kp_up hM754 (fun h => absurd h.2 (by decide)) hk751
  have hk791 := kp_up hM754 (fun h => absurd h.2 (by decide)) hf716
  clear hk721 hk722 hk723 hk724 hk725 hk726 hk727 hk728 hk729 hk730 hk731 hk732 hk733 hk734 hk735 hk736 hk737 hk738 hk739 hk740 hk741 hk742 hk743 hk744 hk745 hk746 hk747 hk748 hk749 hk750 hk751 hf716
  refine j_aload_n hX dX11_init_254 rfl 0 rfl ?_
  refine j_bipush hX dX11_init_255 rfl ?_
  refine j_newa hX (k := 243) (by omega) (t := 0) (n := 6) rfl (by decide) (in_1 163 (by first | rfl | decide +kernel) rfl) (by decide +kernel : kd 243 = .inr (0, 6)) rfl (by decide) (hD757.at _ (by omega) (by omega)) ⟨by omega, by omega⟩ dX11_init_257 ?_
  have hR792 : RR 211 244 M753 := RR_s hR759 (Rg_plain (by omega) (by omega) (by decide +kernel : kd 243 = .inr (0, 6)) (by decide) (hD757.at _ (by omega) (by omega))) (by omega)
  refine pfF_X11_113 hX hin (by omega) (by omega) (by decide +kernel : kd 210 = .inl 11) (by omega) (by omega) dX11_init_259 ?_
  refine j_upN (fun M793 hM794 hf795 => ?_)
  have hG796 := F2.put hG756 hM794 ⟨by omega, by omega⟩
  have hD797 := DF_up hD757 hM794 (by omega)
  have hU798 := UL_up hU758 hM794
  have hR799 := RR_up hR792 hM794 (Or.inl (by omega))
  have hk800 := kp_up hM794 (fun h => absurd h.2 (by decide)) hk760
  have hk801 := kp_up hM794 (fun h => absurd h.2 (by decide)) hk761
  have hk802 := kp_up hM794 (fun h => absurd h.2 (by decide)) hk762
  have hk803 := kp_up hM794 (fun h => absurd h.2 (by decide)) hk763
  have hk804 := kp_up hM794 (fun h => absurd h.2 (by decide)) hk764
  have hk805 := kp_up hM794 (fun h => absurd h.2 (by decide)) hk765
  have hk806 := kp_up hM794 (fun h => absurd h.2 (by decide)) hk766
  have hk807 := kp_up hM794 (fun h => absurd h.2 (by decide)) hk767
  have hk808 := kp_up hM794 (fun h => absurd h.2 (by decide)) hk768
  have hk809 := kp_up hM794 (fun h => absurd h.2 (by decide)) hk769
  have hk810 := kp_up hM794 (fun h => absurd h.2 (by decide)) hk770
  have hk811 := kp_up hM794 (fun h => absurd h.2 (by decide)) hk771
  have hk812 := kp_up hM794 (fun h => absurd h.2 (by decide)) hk772
  have hk813 := kp_up hM794 (fun h => absurd h.2 (by decide)) hk773
  have hk814 := kp_up hM794 (fun h => absurd h.2 (by decide)) hk774
  have hk815 := kp_up hM794 (fun h => absurd h.2 (by decide)) hk775
  have hk816 := kp_up hM794 (fun h => absurd h.2 (by decide)) hk776
  have hk817 := kp_up hM794 (fun h => absurd h.2 (by decide)) hk777
  have hk818 := kp_up hM794 (fun h => absurd h.2 (by decide)) hk778
  have hk819 := kp_up hM794 (fun h => absurd h.2 (by decide)) hk779
  have hk820 := kp_up hM794 (fun h => absurd h.2 (by decide)) hk780
  have hk821 := kp_up hM794 (fun h => absurd h.2 (by decide)) hk781
  have hk822 := kp_up hM794 (fun h => absurd h.2 (by decide)) hk782
  have hk823 := kp_up hM794 (fun h => absurd h.2 (by decide)) hk783
  have hk824 := kp_up hM794 (fun h => absurd h.2 (by decide)) hk784
  have hk825 := kp_up hM794 (fun h => absurd h.2 (by decide)) hk785
  have hk826 := kp_up hM794 (fun h => absurd h.2 (by decide)) hk786
  have hk827 := kp_up hM794 (fun h => absurd h.2 (by decide)) hk787
  have hk828 := kp_up hM794 (fun h => absurd h.2 (by decide)) hk788
  have hk829 := kp_up hM794 (fun h => absurd h.2 (by decide)) hk789
  have hk830 := kp_up hM794 (fun h => absurd h.2 (by decide)) hk790
  have hk831 := kp_up hM794 (fun h => absurd h.2 (by decide)) hk791
  have hk832 := kp_up hM794 (fun h => absurd h.2 (by decide)) hf755
  clear hk760 hk761 hk762 hk763 hk764 hk765 hk766 hk767 hk768 hk769 hk770 hk771 hk772 hk773 hk774 hk775 hk776 hk777 hk778 hk779 hk780 hk781 hk782 hk783 hk784 hk785 hk786 hk787 hk788 hk789 hk790 hk791 hf755
  refine j_aload_n hX dX11_init_262 rfl 0 rfl ?_
  refine j_sipush hX dX11_init_263 rfl ?_
  refine j_newa hX (k := 244) (by omega) (t := 0) (n := 656) rfl (by decide) (in_1 163 (by first | rfl | decide +kernel) rfl) (by decide +kernel : kd 244 = .inr (0, 656)) rfl (by decide) (hD797.at _ (by omega) (by omega)) ⟨by omega, by omega⟩ dX11_init_266 ?_
  have hR833 : RR 211 245 M793 := RR_s hR799 (Rg_plain (by omega) (by omega) (by decide +kernel : kd 244 = .inr (0, 656)) (by decide) (hD797.at _ (by omega) (by omega))) (by omega)
  refine pfF_X11_116 hX hin (by omega) (by omega) (by decide +kernel : kd 210 = .inl 11) (by omega) (by omega) dX11_init_268 ?_
  refine j_upN (fun M834 hM835 hf836 => ?_)
  have hG837 := F2.put hG796 hM835 ⟨by omega, by omega⟩
  have hD838 := DF_up hD797 hM835 (by omega)
  have hU839 := UL_up hU798 hM835
  have hR840 := RR_up hR833 hM835 (Or.inl (by omega))
  have hk841 := kp_up hM835 (fun h => absurd h.2 (by decide)) hk800
  have hk842 := kp_up hM835 (fun h => absurd h.2 (by decide)) hk801
  have hk843 := kp_up hM835 (fun h => absurd h.2 (by decide)) hk802
  have hk844 := kp_up hM835 (fun h => absurd h.2 (by decide)) hk803
  have hk845 := kp_up hM835 (fun h => absurd h.2 (by decide)) hk804
  have hk846 := kp_up hM835 (fun h => absurd h.2 (by decide)) hk805
  have hk847 := kp_up hM835 (fun h => absurd h.2 (by decide)) hk806
  have hk848 := kp_up hM835 (fun h => absurd h.2 (by decide)) hk807
  have hk849 := kp_up hM835 (fun h => absurd h.2 (by decide)) hk808
  have hk850 := kp_up hM835 (fun h => absurd h.2 (by decide)) hk809
  have hk851 := kp_up hM835 (fun h => absurd h.2 (by decide)) hk810
  have hk852 := kp_up hM835 (fun h => absurd h.2 (by decide)) hk811
  have hk853 := kp_up hM835 (fun h => absurd h.2 (by decide)) hk812
  have hk854 := kp_up hM835 (fun h => absurd h.2 (by decide)) hk813
  have hk855 := kp_up hM835 (fun h => absurd h.2 (by decide)) hk814
  have hk856 := kp_up hM835 (fun h => absurd h.2 (by decide)) hk815
  have hk857 := kp_up hM835 (fun h => absurd h.2 (by decide)) hk816
  have hk858 := kp_up hM835 (fun h => absurd h.2 (by decide)) hk817
  have hk859 := kp_up hM835 (fun h => absurd h.2 (by decide)) hk818
  have hk860 := kp_up hM835 (fun h => absurd h.2 (by decide)) hk819
  have hk861 := kp_up hM835 (fun h => absurd h.2 (by decide)) hk820
  have hk862 := kp_up hM835 (fun h => absurd h.2 (by decide)) hk821
  have hk863 := kp_up hM835 (fun h => absurd h.2 (by decide)) hk822
  have hk864 := kp_up hM835 (fun h => absurd h.2 (by decide)) hk823
  have hk865 := kp_up hM835 (fun h => absurd h.2 (by decide)) hk824
  have hk866 := kp_up hM835 (fun h => absurd h.2 (by decide)) hk825
  have hk867 := kp_up hM835 (fun h => absurd h.2 (by decide)) hk826
  have hk868 := kp_up hM835 (fun h => absurd h.2 (by decide)) hk827
  have hk869 := kp_up hM835 (fun h => absurd h.2 (by decide)) hk828
  have hk870 := kp_up hM835 (fun h => absurd h.2 (by decide)) hk829
  have hk871 := kp_up hM835 (fun h => absurd h.2 (by decide)) hk830
  have hk872 := kp_up hM835 (fun h => absurd h.2 (by decide)) hk831
  have hk873 := kp_up hM835 (fun h => absurd h.2 (by decide)) hk832
  have hk874 := kp_up hM835 (fun h => absurd h.2 (by decide)) hf795
  clear hk800 hk801 hk802 hk803 hk804 hk805 hk806 hk807 hk808 hk809 hk810 hk811 hk812 hk813 hk814 hk815 hk816 hk817 hk818 hk819 hk820 hk821 hk822 hk823 hk824 hk825 hk826 hk827 hk828 hk829 hk830 hk831 hk832 hf795
  refine j_aload_n hX dX11_init_271 rfl 0 rfl ?_
  refine j_bipush hX dX11_init_272 rfl ?_
  refine j_newa hX (k := 245) (by omega) (t := 0) (n := 16) rfl (by decide) (in_1 163 (by first | rfl | decide +kernel) rfl) (by decide +kernel : kd 245 = .inr (0, 16)) rfl (by decide) (hD838.at _ (by omega) (by omega)) ⟨by omega, by omega⟩ dX11_init_274 ?_
  have hR875 : RR 211 246 M834 := RR_s hR840 (Rg_plain (by omega) (by omega) (by decide +kernel : kd 245 = .inr (0, 16)) (by decide) (hD838.at _ (by omega) (by omega))) (by omega)
  refine pfF_X11_119 hX hin (by omega) (by omega) (by decide +kernel : kd 210 = .inl 11) (by omega) (by omega) dX11_init_276 ?_
  refine j_upN (fun M876 hM877 hf878 => ?_)
  have hG879 := F2.put hG837 hM877 ⟨by omega, by omega⟩
  have hD880 := DF_up hD838 hM877 (by omega)
  have hU881 := UL_up hU839 hM877
  have hR882 := RR_up hR875 hM877 (Or.inl (by omega))
  have hk883 := kp_up hM877 (fun h => absurd h.2 (by decide)) hk841
  have hk884 := kp_up hM877 (fun h => absurd h.2 (by decide)) hk842
  have hk885 := kp_up hM877 (fun h => absurd h.2 (by decide)) hk843
  have hk886 := kp_up hM877 (fun h => absurd h.2 (by decide)) hk844
  have hk887 := kp_up hM877 (fun h => absurd h.2 (by decide)) hk845
  have hk888 := kp_up hM877 (fun h => absurd h.2 (by decide)) hk846
  have hk889 := kp_up hM877 (fun h => absurd h.2 (by decide)) hk847
  have hk890 := kp_up hM877 (fun h => absurd h.2 (by decide)) hk848
  have hk891 := kp_up hM877 (fun h => absurd h.2 (by decide)) hk849
  have hk892 := kp_up hM877 (fun h => absurd h.2 (by decide)) hk850
  have hk893 := kp_up hM877 (fun h => absurd h.2 (by decide)) hk851
  have hk894 := kp_up hM877 (fun h => absurd h.2 (by decide)) hk852
  have hk895 := kp_up hM877 (fun h => absurd h.2 (by decide)) hk853
  have hk896 := kp_up hM877 (fun h => absurd h.2 (by decide)) hk854
  have hk897 := kp_up hM877 (fun h => absurd h.2 (by decide)) hk855
  have hk898 := kp_up hM877 (fun h => absurd h.2 (by decide)) hk856
  have hk899 := kp_up hM877 (fun h => absurd h.2 (by decide)) hk857
  have hk900 := kp_up hM877 (fun h => absurd h.2 (by decide)) hk858
  have hk901 := kp_up hM877 (fun h => absurd h.2 (by decide)) hk859
  have hk902 := kp_up hM877 (fun h => absurd h.2 (by decide)) hk860
  have hk903 := kp_up hM877 (fun h => absurd h.2 (by decide)) hk861
  have hk904 := kp_up hM877 (fun h => absurd h.2 (by decide)) hk862
  have hk905 := kp_up hM877 (fun h => absurd h.2 (by decide)) hk863
  have hk906 := kp_up hM877 (fun h => absurd h.2 (by decide)) hk864
  have hk907 := kp_up hM877 (fun h => absurd h.2 (by decide)) hk865
  have hk908 := kp_up hM877 (fun h => absurd h.2 (by decide)) hk866
  have hk909 := kp_up hM877 (fun h => absurd h.2 (by decide)) hk867
  have hk910 := kp_up hM877 (fun h => absurd h.2 (by decide)) hk868
  have hk911 := kp_up hM877 (fun h => absurd h.2 (by decide)) hk869
  have hk912 := kp_up hM877 (fun h => absurd h.2 (by decide)) hk870
  have hk913 := kp_up hM877 (fun h => absurd h.2 (by decide)) hk871
  have hk914 := kp_up hM877 (fun h => absurd h.2 (by decide)) hk872
  have hk915 := kp_up hM877 (fun h => absurd h.2 (by decide)) hk873
  have hk916 := kp_up hM877 (fun h => absurd h.2 (by decide)) hk874
  have hk917 := kp_up hM877 (fun h => absurd h.2 (by decide)) hf836
  clear hk841 hk842 hk843 hk844 hk845 hk846 hk847 hk848 hk849 hk850 hk851 hk852 hk853 hk854 hk855 hk856 hk857 hk858 hk859 hk860 hk861 hk862 hk863 hk864 hk865 hk866 hk867 hk868 hk869 hk870 hk871 hk872 hk873 hk874 hf836
  refine j_aload_n hX dX11_init_279 rfl 0 rfl ?_
  refine j_bipush hX dX11_init_280 rfl ?_
  refine j_newa hX (k := 246) (by omega) (t := 0) (n := 7) rfl (by decide) (in_1 163 (by first | rfl | decide +kernel) rfl) (by decide +kernel : kd 246 = .inr (0, 7)) rfl (by decide) (hD880.at _ (by omega) (by omega)) ⟨by omega, by omega⟩ dX11_init_282 ?_
  have hR918 : RR 211 247 M876 := RR_s hR882 (Rg_plain (by omega) (by omega) (by decide +kernel : kd 246 = .inr (0, 7)) (by decide) (hD880.at _ (by omega) (by omega))) (by omega)
  refine pfF_X11_122 hX hin (by omega) (by omega) (by decide +kernel : kd 210 = .inl 11) (by omega) (by omega) dX11_init_284 ?_
  refine j_upN (fun M919 hM920 hf921 => ?_)
  have hG922 := F2.put hG879 hM920 ⟨by omega, by omega⟩
  have hD923 := DF_up hD880 hM920 (by omega)
  have hU924 := UL_up hU881 hM920
  have hR925 := RR_up hR918 hM920 (Or.inl (by omega))
  have hk926 := kp_up hM920 (fun h => absurd h.2 (by decide)) hk883
  have hk927 := kp_up hM920 (fun h => absurd h.2 (by decide)) hk884
  have hk928 := kp_up hM920 (fun h => absurd h.2 (by decide)) hk885
  have hk929 := kp_up hM920 (fun h => absurd h.2 (by decide)) hk886
  have hk930 := kp_up hM920 (fun h => absurd h.2 (by decide)) hk887
  have hk931 := kp_up hM920 (fun h => absurd h.2 (by decide)) hk888
  have hk932 := kp_up hM920 (fun h => absurd h.2 (by decide)) hk889
  have hk933 := kp_up hM920 (fun h => absurd h.2 (by decide)) hk890
  have hk934 := kp_up hM920 (fun h => absurd h.2 (by decide)) hk891
  have hk935 := kp_up hM920 (fun h => absurd h.2 (by decide)) hk892
  have hk936 := kp_up hM920 (fun h => absurd h.2 (by decide)) hk893
  have hk937 := kp_up hM920 (fun h => absurd h.2 (by decide)) hk894
  have hk938 := kp_up hM920 (fun h => absurd h.2 (by decide)) hk895
  have hk939 := kp_up hM920 (fun h => absurd h.2 (by decide)) hk896
  have hk940 := kp_up hM920 (fun h => absurd h.2 (by decide)) hk897
  have hk941 := kp_up hM920 (fun h => absurd h.2 (by decide)) hk898
  have hk942 := kp_up hM920 (fun h => absurd h.2 (by decide)) hk899
  have hk943 := kp_up hM920 (fun h => absurd h.2 (by decide)) hk900
  have hk944 := kp_up hM920 (fun h => absurd h.2 (by decide)) hk901
  have hk945 := kp_up hM920 (fun h => absurd h.2 (by decide)) hk902
  have hk946 := kp_up hM920 (fun h => absurd h.2 (by decide)) hk903
  have hk947 := kp_up hM920 (fun h => absurd h.2 (by decide)) hk904
  have hk948 := kp_up hM920 (fun h => absurd h.2 (by decide)) hk905
  have hk949 := kp_up hM920 (fun h => absurd h.2 (by decide)) hk906
  have hk950 := kp_up hM920 (fun h => absurd h.2 (by decide)) hk907
  have hk951 := kp_up hM920 (fun h => absurd h.2 (by decide)) hk908
  have hk952 := kp_up hM920 (fun h => absurd h.2 (by decide)) hk909
  have hk953 := kp_up hM920 (fun h => absurd h.2 (by decide)) hk910
  have hk954 := kp_up hM920 (fun h => absurd h.2 (by decide)) hk911
  have hk955 := kp_up hM920 (fun h => absurd h.2 (by decide)) hk912
  have hk956 := kp_up hM920 (fun h => absurd h.2 (by decide)) hk913
  have hk957 := kp_up hM920 (fun h => absurd h.2 (by decide)) hk914
  have hk958 := kp_up hM920 (fun h => absurd h.2 (by decide)) hk915
  have hk959 := kp_up hM920 (fun h => absurd h.2 (by decide)) hk916
  have hk960 := kp_up hM920 (fun h => absurd h.2 (by decide)) hk917
  have hk961 := kp_up hM920 (fun h => absurd h.2 (by decide)) hf878
  clear hk883 hk884 hk885 hk886 hk887 hk888 hk889 hk890 hk891 hk892 hk893 hk894 hk895 hk896 hk897 hk898 hk899 hk900 hk901 hk902 hk903 hk904 hk905 hk906 hk907 hk908 hk909 hk910 hk911 hk912 hk913 hk914 hk915 hk916 hk917 hf878
  refine j_aload_n hX dX11_init_287 rfl 0 rfl ?_
  refine j_bipush hX dX11_init_288 rfl ?_
  refine j_newa hX (k := 247) (by omega) (t := 0) (n := 6) rfl (by decide) (in_1 163 (by first | rfl | decide +kernel) rfl) (by decide +kernel : kd 247 = .inr (0, 6)) rfl (by decide) (hD923.at _ (by omega) (by omega)) ⟨by omega, by omega⟩ dX11_init_290 ?_
  have hR962 : RR 211 248 M919 := RR_s hR925 (Rg_plain (by omega) (by omega) (by decide +kernel : kd 247 = .inr (0, 6)) (by decide) (hD923.at _ (by omega) (by omega))) (by omega)
  refine pfF_X11_125 hX hin (by omega) (by omega) (by decide +kernel : kd 210 = .inl 11) (by omega) (by omega) dX11_init_292 ?_
  refine j_upN (fun M963 hM964 hf965 => ?_)
  have hG966 := F2.put hG922 hM964 ⟨by omega, by omega⟩
  have hD967 := DF_up hD923 hM964 (by omega)
  have hU968 := UL_up hU924 hM964
  have hR969 := RR_up hR962 hM964 (Or.inl (by omega))
  have hk970 := kp_up hM964 (fun h => absurd h.2 (by decide)) hk926
  have hk971 := kp_up hM964 (fun h => absurd h.2 (by decide)) hk927
  have hk972 := kp_up hM964 (fun h => absurd h.2 (by decide)) hk928
  have hk973 := kp_up hM964 (fun h => absurd h.2 (by decide)) hk929
  have hk974 := kp_up hM964 (fun h => absurd h.2 (by decide)) hk930
  have hk975 := kp_up hM964 (fun h => absurd h.2 (by decide)) hk931
  have hk976 := kp_up hM964 (fun h => absurd h.2 (by decide)) hk932
  have hk977 := kp_up hM964 (fun h => absurd h.2 (by decide)) hk933
  have hk978 := kp_up hM964 (fun h => absurd h.2 (by decide)) hk934
  have hk979 := kp_up hM964 (fun h => absurd h.2 (by decide)) hk935
  have hk980 := kp_up hM964 (fun h => absurd h.2 (by decide)) hk936
  have hk981 := kp_up hM964 (fun h => absurd h.2 (by decide)) hk937
  have hk982 := kp_up hM964 (fun h => absurd h.2 (by decide)) hk938
  have hk983 := kp_up hM964 (fun h => absurd h.2 (by decide)) hk939
  have hk984 := kp_up hM964 (fun h => absurd h.2 (by decide)) hk940
  have hk985 := kp_up hM964 (fun h => absurd h.2 (by decide)) hk941
  have hk986 := kp_up hM964 (fun h => absurd h.2 (by decide)) hk942
  have hk987 := kp_up hM964 (fun h => absurd h.2 (by decide)) hk943
  have hk988 := kp_up hM964 (fun h => absurd h.2 (by decide)) hk944
  have hk989 := kp_up hM964 (fun h => absurd h.2 (by decide)) hk945
  have hk990 := kp_up hM964 (fun h => absurd h.2 (by decide)) hk946
  have hk991 := kp_up hM964 (fun h => absurd h.2 (by decide)) hk947
  have hk992 := kp_up hM964 (fun h => absurd h.2 (by decide)) hk948
  have hk993 := kp_up hM964 (fun h => absurd h.2 (by decide)) hk949
  have hk994 := kp_up hM964 (fun h => absurd h.2 (by decide)) hk950
  have hk995 := kp_up hM964 (fun h => absurd h.2 (by decide)) hk951
  have hk996 := kp_up hM964 (fun h => absurd h.2 (by decide)) hk952
  have hk997 := kp_up hM964 (fun h => absurd h.2 (by decide)) hk953
  have hk998 := kp_up hM964 (fun h => absurd h.2 (by decide)) hk954
  have hk999 := kp_up hM964 (fun h => absurd h.2 (by decide)) hk955
  have hk1000 := kp_up hM964 (fun h => absurd h.2 (by decide)) hk956
  have hk1001 := kp_up hM964 (fun h => absurd h.2 (by decide)) hk957
  have hk1002 := kp_up hM964 (fun h => absurd h.2 (by decide)) hk958
  have hk1003 := kp_up hM964 (fun h => absurd h.2 (by decide)) hk959
  have hk1004 := kp_up hM964 (fun h => absurd h.2 (by decide)) hk960
  have hk1005 := kp_up hM964 (fun h => absurd h.2 (by decide)) hk961
  have hk1006 := kp_up hM964 (fun h => absurd h.2 (by decide)) hf921
  clear hk926 hk927 hk928 hk929 hk930 hk931 hk932 hk933 hk934 hk935 hk936 hk937 hk938 hk939 hk940 hk941 hk942 hk943 hk944 hk945 hk946 hk947 hk948 hk949 hk950 hk951 hk952 hk953 hk954 hk955 hk956 hk957 hk958 hk959 hk960 hk961 hf921
  refine j_aload_n hX dX11_init_295 rfl 0 rfl ?_
  refine j_bipush hX dX11_init_296 rfl ?_
  refine j_newa hX (k := 248) (by omega) (t := 0) (n := 6) rfl (by decide) (in_1 163 (by first | rfl | decide +kernel) rfl) (by decide +kernel : kd 248 = .inr (0, 6)) rfl (by decide) (hD967.at _ (by omega) (by omega)) ⟨by omega, by omega⟩ dX11_init_298 ?_
  have hR1007 : RR 211 249 M963 := RR_s hR969 (Rg_plain (by omega) (by omega) (by decide +kernel : kd 248 = .inr (0, 6)) (by decide) (hD967.at _ (by omega) (by omega))) (by omega)
  refine pfF_X11_128 hX hin (by omega) (by omega) (by decide +kernel : kd 210 = .inl 11) (by omega) (by omega) dX11_init_300 ?_
  refine j_upN (fun M1008 hM1009 hf1010 => ?_)
  have hG1011 := F2.put hG966 hM1009 ⟨by omega, by omega⟩
  have hD1012 := DF_up hD967 hM1009 (by omega)
  have hU1013 := UL_up hU968 hM1009
  have hR1014 := RR_up hR1007 hM1009 (Or.inl (by omega))
  have hk1015 := kp_up hM1009 (fun h => absurd h.2 (by decide)) hk970
  have hk1016 := kp_up hM1009 (fun h => absurd h.2 (by decide)) hk971
  have hk1017 := kp_up hM1009 (fun h => absurd h.2 (by decide)) hk972
  have hk1018 := kp_up hM1009 (fun h => absurd h.2 (by decide)) hk973
  have hk1019 := kp_up hM1009 (fun h => absurd h.2 (by decide)) hk974
  have hk1020 := kp_up hM1009 (fun h => absurd h.2 (by decide)) hk975
  have hk1021 := kp_up hM1009 (fun h => absurd h.2 (by decide)) hk976
  have hk1022 := kp_up hM1009 (fun h => absurd h.2 (by decide)) hk977
  have hk1023 := kp_up hM1009 (fun h => absurd h.2 (by decide)) hk978
  have hk1024 := kp_up hM1009 (fun h => absurd h.2 (by decide)) hk979
  have hk1025 := kp_up hM1009 (fun h => absurd h.2 (by decide)) hk980
  have hk1026 := kp_up hM1009 (fun h => absurd h.2 (by decide)) hk981
  have hk1027 := kp_up hM1009 (fun h => absurd h.2 (by decide)) hk982
  have hk1028 := kp_up hM1009 (fun h => absurd h.2 (by decide)) hk983
  have hk1029 := kp_up hM1009 (fun h => absurd h.2 (by decide)) hk984
  have hk1030 := kp_up hM1009 (fun h => absurd h.2 (by decide)) hk985
  have hk1031 := kp_up hM1009 (fun h => absurd h.2 (by decide)) hk986
  have hk1032 := kp_up hM1009 (fun h => absurd h.2 (by decide)) hk987
  have hk1033 := kp_up hM1009 (fun h => absurd h.2 (by decide)) hk988
  have hk1034 := kp_up hM1009 (fun h => absurd h.2 (by decide)) hk989
  have hk1035 := kp_up hM1009 (fun h => absurd h.2 (by decide)) hk990
  have hk1036 := kp_up hM1009 (fun h => absurd h.2 (by decide)) hk991
  have hk1037 := kp_up hM1009 (fun h => absurd h.2 (by decide)) hk992
  have hk1038 := kp_up hM1009 (fun h => absurd h.2 (by decide)) hk993
  have hk1039 := kp_up hM1009 (fun h => absurd h.2 (by decide)) hk994
  have hk1040 := kp_up hM1009 (fun h => absurd h.2 (by decide)) hk995
  have hk1041 := kp_up hM1009 (fun h => absurd h.2 (by decide)) hk996
  have hk1042 := kp_up hM1009 (fun h => absurd h.2 (by decide)) hk997
  have hk1043 := kp_up hM1009 (fun h => absurd h.2 (by decide)) hk998
  have hk1044 := kp_up hM1009 (fun h => absurd h.2 (by decide)) hk999
  have hk1045 := kp_up hM1009 (fun h => absurd h.2 (by decide)) hk1000
  have hk1046 := kp_up hM1009 (fun h => absurd h.2 (by decide)) hk1001
  have hk1047 := kp_up hM1009 (fun h => absurd h.2 (by decide)) hk1002
  have hk1048 := kp_up hM1009 (fun h => absurd h.2 (by decide)) hk1003
  have hk1049 := kp_up hM1009 (fun h => absurd h.2 (by decide)) hk1004
  have hk1050 := kp_up hM1009 (fun h => absurd h.2 (by decide)) hk1005
  have hk1051 := kp_up hM1009 (fun h => absurd h.2 (by decide)) hk1006
  have hk1052 := kp_up hM1009 (fun h => absurd h.2 (by decide)) hf965
  clear hk970 hk971 hk972 hk973 hk974 hk975 hk976 hk977 hk978 hk979 hk980 hk981 hk982 hk983 hk984 hk985 hk986 hk987 hk988 hk989 hk990 hk991 hk992 hk993 hk994 hk995 hk996 hk997 hk998 hk999 hk1000 hk1001 hk1002 hk1003 hk1004 hk1005 hk1006 hf965
  refine j_aload_n hX dX11_init_303 rfl 0 rfl ?_
  refine j_bipush hX dX11_init_304 rfl ?_
  refine j_newa hX (k := 249) (by omega) (t := 0) (n := 30) rfl (by decide) (in_1 163 (by first | rfl | decide +kernel) rfl) (by decide +kernel : kd 249 = .inr (0, 30)) rfl (by decide) (hD1012.at _ (by omega) (by omega)) ⟨by omega, by omega⟩ dX11_init_306 ?_
  have hR1053 : RR 211 250 M1008 := RR_s hR1014 (Rg_plain (by omega) (by omega) (by decide +kernel : kd 249 = .inr (0, 30)) (by decide) (hD1012.at _ (by omega) (by omega))) (by omega)
  refine pfF_X11_131 hX hin (by omega) (by omega) (by decide +kernel : kd 210 = .inl 11) (by omega) (by omega) dX11_init_308 ?_
  refine j_upN (fun M1054 hM1055 hf1056 => ?_)
  have hG1057 := F2.put hG1011 hM1055 ⟨by omega, by omega⟩
  have hD1058 := DF_up hD1012 hM1055 (by omega)
  have hU1059 := UL_up hU1013 hM1055
  have hR1060 := RR_up hR1053 hM1055 (Or.inl (by omega))
  have hk1061 := kp_up hM1055 (fun h => absurd h.2 (by decide)) hk1015
  have hk1062 := kp_up hM1055 (fun h => absurd h.2 (by decide)) hk1016
  have hk1063 := kp_up hM1055 (fun h => absurd h.2 (by decide)) hk1017
  have hk1064 := kp_up hM1055 (fun h => absurd h.2 (by decide)) hk1018
  have hk1065 := kp_up hM1055 (fun h => absurd h.2 (by decide)) hk1019
  have hk1066 := kp_up hM1055 (fun h => absurd h.2 (by decide)) hk1020
  have hk1067 := kp_up hM1055 (fun h => absurd h.2 (by decide)) hk1021
  have hk1068 := kp_up hM1055 (fun h => absurd h.2 (by decide)) hk1022
  have hk1069 := kp_up hM1055 (fun h => absurd h.2 (by decide)) hk1023
  have hk1070 := kp_up hM1055 (fun h => absurd h.2 (by decide)) hk1024
  have hk1071 := kp_up hM1055 (fun h => absurd h.2 (by decide)) hk1025
  have hk1072 := kp_up hM1055 (fun h => absurd h.2 (by decide)) hk1026
  have hk1073 := kp_up hM1055 (fun h => absurd h.2 (by decide)) hk1027
  have hk1074 := kp_up hM1055 (fun h => absurd h.2 (by decide)) hk1028
  have hk1075 := kp_up hM1055 (fun h => absurd h.2 (by decide)) hk1029
  have hk1076 := kp_up hM1055 (fun h => absurd h.2 (by decide)) hk1030
  have hk1077 := kp_up hM1055 (fun h => absurd h.2 (by decide)) hk1031
  have hk1078 := kp_up hM1055 (fun h => absurd h.2 (by decide)) hk1032
  have hk1079 := kp_up hM1055 (fun h => absurd h.2 (by decide)) hk1033
  have hk1080 := kp_up hM1055 (fun h => absurd h.2 (by decide)) hk1034
  have hk1081 := kp_up hM1055 (fun h => absurd h.2 (by decide)) hk1035
  have hk1082 := kp_up hM1055 (fun h => absurd h.2 (by decide)) hk1036
  have hk1083 := kp_up hM1055 (fun h => absurd h.2 (by decide)) hk1037
  have hk1084 := kp_up hM1055 (fun h => absurd h.2 (by decide)) hk1038
  have hk1085 := kp_up hM1055 (fun h => absurd h.2 (by decide)) hk1039
  have hk1086 := kp_up hM1055 (fun h => absurd h.2 (by decide)) hk1040
  have hk1087 := kp_up hM1055 (fun h => absurd h.2 (by decide)) hk1041
  have hk1088 := kp_up hM1055 (fun h => absurd h.2 (by decide)) hk1042
  have hk1089 := kp_up hM1055 (fun h => absurd h.2 (by decide)) hk1043
  have hk1090 := kp_up hM1055 (fun h => absurd h.2 (by decide)) hk1044
  have hk1091 := kp_up hM1055 (fun h => absurd h.2 (by decide)) hk1045
  have hk1092 := kp_up hM1055 (fun h => absurd h.2 (by decide)) hk1046
  have hk1093 := kp_up hM1055 (fun h => absurd h.2 (by decide)) hk1047
  have hk1094 := kp_up hM1055 (fun h => absurd h.2 (by decide)) hk1048
  have hk1095 := kp_up hM1055 (fun h => absurd h.2 (by decide)) hk1049
  have hk1096 := kp_up hM1055 (fun h => absurd h.2 (by decide)) hk1050
  have hk1097 := kp_up hM1055 (fun h => absurd h.2 (by decide)) hk1051
  have hk1098 := kp_up hM1055 (fun h => absurd h.2 (by decide)) hk1052
  have hk1099 := kp_up hM1055 (fun h => absurd h.2 (by decide)) hf1010
  clear hk1015 hk1016 hk1017 hk1018 hk1019 hk1020 hk1021 hk1022 hk1023 hk1024 hk1025 hk1026 hk1027 hk1028 hk1029 hk1030 hk1031 hk1032 hk1033 hk1034 hk1035 hk1036 hk1037 hk1038 hk1039 hk1040 hk1041 hk1042 hk1043 hk1044 hk1045 hk1046 hk1047 hk1048 hk1049 hk1050 hk1051 hk1052 hf1010
  refine j_aload_n hX dX11_init_311 rfl 0 rfl ?_
  refine j_bipush hX dX11_init_312 rfl ?_
  refine j_newa hX (k := 250) (by omega) (t := 0) (n := 30) rfl (by decide) (in_1 163 (by first | rfl | decide +kernel) rfl) (by decide +kernel : kd 250 = .inr (0, 30)) rfl (by decide) (hD1058.at _ (by omega) (by omega)) ⟨by omega, by omega⟩ dX11_init_314 ?_
  have hR1100 : RR 211 251 M1054 := RR_s hR1060 (Rg_plain (by omega) (by omega) (by decide +kernel : kd 250 = .inr (0, 30)) (by decide) (hD1058.at _ (by omega) (by omega))) (by omega)
  refine pfF_X11_134 hX hin (by omega) (by omega) (by decide +kernel : kd 210 = .inl 11) (by omega) (by omega) dX11_init_316 ?_
  refine j_upN (fun M1101 hM1102 hf1103 => ?_)
  have hG1104 := F2.put hG1057 hM1102 ⟨by omega, by omega⟩
  have hD1105 := DF_up hD1058 hM1102 (by omega)
  have hU1106 := UL_up hU1059 hM1102
  have hR1107 := RR_up hR1100 hM1102 (Or.inl (by omega))
  have hk1108 := kp_up hM1102 (fun h => absurd h.2 (by decide)) hk1061
  have hk1109 := kp_up hM1102 (fun h => absurd h.2 (by decide)) hk1062
  have hk1110 := kp_up hM1102 (fun h => absurd h.2 (by decide)) hk1063
  have hk1111 := kp_up hM1102 (fun h => absurd h.2 (by decide)) hk1064
  have hk1112 := kp_up hM1102 (fun h => absurd h.2 (by decide)) hk1065
  have hk1113 := kp_up hM1102 (fun h => absurd h.2 (by decide)) hk1066
  have hk1114 := kp_up hM1102 (fun h => absurd h.2 (by decide)) hk1067
  have hk1115 := kp_up hM1102 (fun h => absurd h.2 (by decide)) hk1068
  have hk1116 := kp_up hM1102 (fun h => absurd h.2 (by decide)) hk1069
  have hk1117 := kp_up hM1102 (fun h => absurd h.2 (by decide)) hk1070
  have hk1118 := kp_up hM1102 (fun h => absurd h.2 (by decide)) hk1071
  have hk1119 := kp_up hM1102 (fun h => absurd h.2 (by decide)) hk1072
  have hk1120 := kp_up hM1102 (fun h => absurd h.2 (by decide)) hk1073
  have hk1121 := kp_up hM1102 (fun h => absurd h.2 (by decide)) hk1074
  have hk1122 := kp_up hM1102 (fun h => absurd h.2 (by decide)) hk1075
  have hk1123 := kp_up hM1102 (fun h => absurd h.2 (by decide)) hk1076
  have hk1124 := kp_up hM1102 (fun h => absurd h.2 (by decide)) hk1077
  have hk1125 := kp_up hM1102 (fun h => absurd h.2 (by decide)) hk1078
  have hk1126 := kp_up hM1102 (fun h => absurd h.2 (by decide)) hk1079
  have hk1127 := kp_up hM1102 (fun h => absurd h.2 (by decide)) hk1080
  have hk1128 := kp_up hM1102 (fun h => absurd h.2 (by decide)) hk1081
  have hk1129 := kp_up hM1102 (fun h => absurd h.2 (by decide)) hk1082
  have hk1130 := kp_up hM1102 (fun h => absurd h.2 (by decide)) hk1083
  have hk1131 := kp_up hM1102 (fun h => absurd h.2 (by decide)) hk1084
  have hk1132 := kp_up hM1102 (fun h => absurd h.2 (by decide)) hk1085
  have hk1133 := kp_up hM1102 (fun h => absurd h.2 (by decide)) hk1086
  have hk1134 := kp_up hM1102 (fun h => absurd h.2 (by decide)) hk1087
  have hk1135 := kp_up hM1102 (fun h => absurd h.2 (by decide)) hk1088
  have hk1136 := kp_up hM1102 (fun h => absurd h.2 (by decide)) hk1089
  have hk1137 := kp_up hM1102 (fun h => absurd h.2 (by decide)) hk1090
  have hk1138 := kp_up hM1102 (fun h => absurd h.2 (by decide)) hk1091
  have hk1139 := kp_up hM1102 (fun h => absurd h.2 (by decide)) hk1092
  have hk1140 := kp_up hM1102 (fun h => absurd h.2 (by decide)) hk1093
  have hk1141 := kp_up hM1102 (fun h => absurd h.2 (by decide)) hk1094
  have hk1142 := kp_up hM1102 (fun h => absurd h.2 (by decide)) hk1095
  have hk1143 := kp_up hM1102 (fun h => absurd h.2 (by decide)) hk1096
  have hk1144 := kp_up hM1102 (fun h => absurd h.2 (by decide)) hk1097
  have hk1145 := kp_up hM1102 (fun h => absurd h.2 (by decide)) hk1098
  have hk1146 := kp_up hM1102 (fun h => absurd h.2 (by decide)) hk1099
  have hk1147 := kp_up hM1102 (fun h => absurd h.2 (by decide)) hf1056
  clear hk1061 hk1062 hk1063 hk1064 hk1065 hk1066 hk1067 hk1068 hk1069 hk1070 hk1071 hk1072 hk1073 hk1074 hk1075 hk1076 hk1077 hk1078 hk1079 hk1080 hk1081 hk1082 hk1083 hk1084 hk1085 hk1086 hk1087 hk1088 hk1089 hk1090 hk1091 hk1092 hk1093 hk1094 hk1095 hk1096 hk1097 hk1098 hk1099 hf1056
  refine j_aload_n hX dX11_init_319 rfl 0 rfl ?_
  refine j_bipush hX dX11_init_320 rfl ?_
  refine j_newa hX (k := 251) (by omega) (t := 0) (n := 30) rfl (by decide) (in_1 163 (by first | rfl | decide +kernel) rfl) (by decide +kernel : kd 251 = .inr (0, 30)) rfl (by decide) (hD1105.at _ (by omega) (by omega)) ⟨by omega, by omega⟩ dX11_init_322 ?_
  have hR1148 : RR 211 252 M1101 := RR_s hR1107 (Rg_plain (by omega) (by omega) (by decide +kernel : kd 251 = .inr (0, 30)) (by decide) (hD1105.at _ (by omega) (by omega))) (by omega)
  refine pfF_X11_137 hX hin (by omega) (by omega) (by decide +kernel : kd 210 = .inl 11) (by omega) (by omega) dX11_init_324 ?_
  refine j_upN (fun M1149 hM1150 hf1151 => ?_)
  have hG1152 := F2.put hG1104 hM1150 ⟨by omega, by omega⟩
  have hD1153 := DF_up hD1105 hM1150 (by omega)
  have hU1154 := UL_up hU1106 hM1150
  have hR1155 := RR_up hR1148 hM1150 (Or.inl (by omega))
  have hk1156 := kp_up hM1150 (fun h => absurd h.2 (by decide)) hk1108
  have hk1157 := kp_up hM1150 (fun h => absurd h.2 (by decide)) hk1109
  have hk1158 := kp_up hM1150 (fun h => absurd h.2 (by decide)) hk1110
  have hk1159 := kp_up hM1150 (fun h => absurd h.2 (by decide)) hk1111
  have hk1160 := kp_up hM1150 (fun h => absurd h.2 (by decide)) hk1112
  have hk1161 := kp_up hM1150 (fun h => absurd h.2 (by decide)) hk1113
  have hk1162 := kp_up hM1150 (fun h => absurd h.2 (by decide)) hk1114
  have hk1163 := kp_up hM1150 (fun h => absurd h.2 (by decide)) hk1115
  have hk1164 := kp_up hM1150 (fun h => absurd h.2 (by decide)) hk1116
  have hk1165 := kp_up hM1150 (fun h => absurd h.2 (by decide)) hk1117
  have hk1166 := kp_up hM1150 (fun h => absurd h.2 (by decide)) hk1118
  have hk1167 := kp_up hM1150 (fun h => absurd h.2 (by decide)) hk1119
  have hk1168 := kp_up hM1150 (fun h => absurd h.2 (by decide)) hk1120
  have hk1169 := kp_up hM1150 (fun h => absurd h.2 (by decide)) hk1121
  have hk1170 := kp_up hM1150 (fun h => absurd h.2 (by decide)) hk1122
  have hk1171 := kp_up hM1150 (fun h => absurd h.2 (by decide)) hk1123
  have hk1172 := kp_up hM1150 (fun h => absurd h.2 (by decide)) hk1124
  have hk1173 := kp_up hM1150 (fun h => absurd h.2 (by decide)) hk1125
  have hk1174 := kp_up hM1150 (fun h => absurd h.2 (by decide)) hk1126
  have hk1175 := kp_up hM1150 (fun h => absurd h.2 (by decide)) hk1127
  have hk1176 := kp_up hM1150 (fun h => absurd h.2 (by decide)) hk1128
  have hk1177 := kp_up hM1150 (fun h => absurd h.2 (by decide)) hk1129
  have hk1178 := kp_up hM1150 (fun h => absurd h.2 (by decide)) hk1130
  have hk1179 := kp_up hM1150 (fun h => absurd h.2 (by decide)) hk1131
  have hk1180 := kp_up hM1150 (fun h => absurd h.2 (by decide)) hk1132
  have hk1181 := kp_up hM1150 (fun h => absurd h.2 (by decide)) hk1133
  have hk1182 := kp_up hM1150 (fun h => absurd h.2 (by decide)) hk1134
  have hk1183 := kp_up hM1150 (fun h => absurd h.2 (by decide)) hk1135
  have hk1184 := kp_up hM1150 (fun h => absurd h.2 (by decide)) hk1136
  have hk1185 := kp_up hM1150 (fun h => absurd h.2 (by decide)) hk1137
  have hk1186 := kp_up hM1150 (fun h => absurd h.2 (by decide)) hk1138
  have hk1187 := kp_up hM1150 (fun h => absurd h.2 (by decide)) hk1139
  have hk1188 := kp_up hM1150 (fun h => absurd h.2 (by decide)) hk1140
  have hk1189 := kp_up hM1150 (fun h => absurd h.2 (by decide)) hk1141
  have hk1190 := kp_up hM1150 (fun h => absurd h.2 (by decide)) hk1142
  have hk1191 := kp_up hM1150 (fun h => absurd h.2 (by decide)) hk1143
  have hk1192 := kp_up hM1150 (fun h => absurd h.2 (by decide)) hk1144
  have hk1193 := kp_up hM1150 (fun h => absurd h.2 (by decide)) hk1145
  have hk1194 := kp_up hM1150 (fun h => absurd h.2 (by decide)) hk1146
  have hk1195 := kp_up hM1150 (fun h => absurd h.2 (by decide)) hk1147
  have hk1196 := kp_up hM1150 (fun h => absurd h.2 (by decide)) hf1103
  clear hk1108 hk1109 hk1110 hk1111 hk1112 hk1113 hk1114 hk1115 hk1116 hk1117 hk1118 hk1119 hk1120 hk1121 hk1122 hk1123 hk1124 hk1125 hk1126 hk1127 hk1128 hk1129 hk1130 hk1131 hk1132 hk1133 hk1134 hk1135 hk1136 hk1137 hk1138 hk1139 hk1140 hk1141 hk1142 hk1143 hk1144 hk1145 hk1146 hk1147 hf1103
  refine j_aload_n hX dX11_init_327 rfl 0 rfl ?_
  refine j_bipush hX dX11_init_328 rfl ?_
  refine j_newa hX (k := 252) (by omega) (t := 0) (n := 30) rfl (by decide) (in_1 163 (by first | rfl | decide +kernel) rfl) (by decide +kernel : kd 252 = .inr (0, 30)) rfl (by decide) (hD1153.at _ (by omega) (by omega)) ⟨by omega, by omega⟩ dX11_init_330 ?_
  have hR1197 : RR 211 253 M1149 := RR_s hR1155 (Rg_plain (by omega) (by omega) (by decide +kernel : kd 252 = .inr (0, 30)) (by decide) (hD1153.at _ (by omega) (by omega))) (by omega)
  refine pfF_X11_140 hX hin (by omega) (by omega) (by decide +kernel : kd 210 = .inl 11) (by omega) (by omega) dX11_init_332 ?_
  refine j_upN (fun M1198 hM1199 hf1200 => ?_)
  have hG1201 := F2.put hG1152 hM1199 ⟨by omega, by omega⟩
  have hD1202 := DF_up hD1153 hM1199 (by omega)
  have hU1203 := UL_up hU1154 hM1199
  have hR1204 := RR_up hR1197 hM1199 (Or.inl (by omega))
  have hk1205 := kp_up hM1199 (fun h => absurd h.2 (by decide)) hk1156
  have hk1206 := kp_up hM1199 (fun h => absurd h.2 (by decide)) hk1157
  have hk1207 := kp_up hM1199 (fun h => absurd h.2 (by decide)) hk1158
  have hk1208 := kp_up hM1199 (fun h => absurd h.2 (by decide)) hk1159
  have hk1209 := kp_up hM1199 (fun h => absurd h.2 (by decide)) hk1160
  have hk1210 := kp_up hM1199 (fun h => absurd h.2 (by decide)) hk1161
  have hk1211 := kp_up hM1199 (fun h => absurd h.2 (by decide)) hk1162
  have hk1212 := kp_up hM1199 (fun h => absurd h.2 (by decide)) hk1163
  have hk1213 := kp_up hM1199 (fun h => absurd h.2 (by decide)) hk1164
  have hk1214 := kp_up hM1199 (fun h => absurd h.2 (by decide)) hk1165
  have hk1215 := kp_up hM1199 (fun h => absurd h.2 (by decide)) hk1166
  have hk1216 := kp_up hM1199 (fun h => absurd h.2 (by decide)) hk1167
  have hk1217 := kp_up hM1199 (fun h => absurd h.2 (by decide)) hk1168
  have hk1218 := kp_up hM1199 (fun h => absurd h.2 (by decide)) hk1169
  have hk1219 := kp_up hM1199 (fun h => absurd h.2 (by decide)) hk1170
  have hk1220 := kp_up hM1199 (fun h => absurd h.2 (by decide)) hk1171
  have hk1221 := kp_up hM1199 (fun h => absurd h.2 (by decide)) hk1172
  have hk1222 := kp_up hM1199 (fun h => absurd h.2 (by decide)) hk1173
  have hk1223 := kp_up hM1199 (fun h => absurd h.2 (by decide)) hk1174
  have hk1224 := kp_up hM1199 (fun h => absurd h.2 (by decide)) hk1175
  have hk1225 := kp_up hM1199 (fun h => absurd h.2 (by decide)) hk1176
  have hk1226 := kp_up hM1199 (fun h => absurd h.2 (by decide)) hk1177
  have hk1227 := kp_up hM1199 (fun h => absurd h.2 (by decide)) hk1178
  have hk1228 := kp_up hM1199 (fun h => absurd h.2 (by decide)) hk1179
  have hk1229 := kp_up hM1199 (fun h => absurd h.2 (by decide)) hk1180
  have hk1230 := kp_up hM1199 (fun h => absurd h.2 (by decide)) hk1181
  have hk1231 := kp_up hM1199 (fun h => absurd h.2 (by decide)) hk1182
  have hk1232 := kp_up hM1199 (fun h => absurd h.2 (by decide)) hk1183
  have hk1233 := kp_up hM1199 (fun h => absurd h.2 (by decide)) hk1184
  have hk1234 := kp_up hM1199 (fun h => absurd h.2 (by decide)) hk1185
  have hk1235 := kp_up hM1199 (fun h => absurd h.2 (by decide)) hk1186
  have hk1236 := kp_up hM1199 (fun h => absurd h.2 (by decide)) hk1187
  have hk1237 := kp_up hM1199 (fun h => absurd h.2 (by decide)) hk1188
  have hk1238 := kp_up hM1199 (fun h => absurd h.2 (by decide)) hk1189
  have hk1239 := kp_up hM1199 (fun h => absurd h.2 (by decide)) hk1190
  have hk1240 := kp_up hM1199 (fun h => absurd h.2 (by decide)) hk1191
  have hk1241 := kp_up hM1199 (fun h => absurd h.2 (by decide)) hk1192
  have hk1242 := kp_up hM1199 (fun h => absurd h.2 (by decide)) hk1193
  have hk1243 := kp_up hM1199 (fun h => absurd h.2 (by decide)) hk1194
  have hk1244 := kp_up hM1199 (fun h => absurd h.2 (by decide)) hk1195
  have hk1245 := kp_up hM1199 (fun h => absurd h.2 (by decide)) hk1196
  have hk1246 := kp_up hM1199 (fun h => absurd h.2 (by decide)) hf1151
  clear hk1156 hk1157 hk1158 hk1159 hk1160 hk1161 hk1162 hk1163 hk1164 hk1165 hk1166 hk1167 hk1168 hk1169 hk1170 hk1171 hk1172 hk1173 hk1174 hk1175 hk1176 hk1177 hk1178 hk1179 hk1180 hk1181 hk1182 hk1183 hk1184 hk1185 hk1186 hk1187 hk1188 hk1189 hk1190 hk1191 hk1192 hk1193 hk1194 hk1195 hk1196 hf1151
  refine j_aload_n hX dX11_init_335 rfl 0 rfl ?_
  refine j_bipush hX dX11_init_336 rfl ?_
  refine j_newa hX (k := 253) (by omega) (t := 0) (n := 30) rfl (by decide) (in_1 163 (by first | rfl | decide +kernel) rfl) (by decide +kernel : kd 253 = .inr (0, 30)) rfl (by decide) (hD1202.at _ (by omega) (by omega)) ⟨by omega, by omega⟩ dX11_init_338 ?_
  have hR1247 : RR 211 254 M1198 := RR_s hR1204 (Rg_plain (by omega) (by omega) (by decide +kernel : kd 253 = .inr (0, 30)) (by decide) (hD1202.at _ (by omega) (by omega))) (by omega)
  refine pfF_X11_143 hX hin (by omega) (by omega) (by decide +kernel : kd 210 = .inl 11) (by omega) (by omega) dX11_init_340 ?_
  refine j_upN (fun M1248 hM1249 hf1250 => ?_)
  have hG1251 := F2.put hG1201 hM1249 ⟨by omega, by omega⟩
  have hD1252 := DF_up hD1202 hM1249 (by omega)
  have hU1253 := UL_up hU1203 hM1249
  have hR1254 := RR_up hR1247 hM1249 (Or.inl (by omega))
  have hk1255 := kp_up hM1249 (fun h => absurd h.2 (by decide)) hk1205
  have hk1256 := kp_up hM1249 (fun h => absurd h.2 (by decide)) hk1206
  have hk1257 := kp_up hM1249 (fun h => absurd h.2 (by decide)) hk1207
  have hk1258 := kp_up hM1249 (fun h => absurd h.2 (by decide)) hk1208
  have hk1259 := kp_up hM1249 (fun h => absurd h.2 (by decide)) hk1209
  have hk1260 := kp_up hM1249 (fun h => absurd h.2 (by decide)) hk1210
  have hk1261 := kp_up hM1249 (fun h => absurd h.2 (by decide)) hk1211
  have hk1262 := kp_up hM1249 (fun h => absurd h.2 (by decide)) hk1212
  have hk1263 := kp_up hM1249 (fun h => absurd h.2 (by decide)) hk1213
  have hk1264 := kp_up hM1249 (fun h => absurd h.2 (by decide)) hk1214
  have hk1265 := kp_up hM1249 (fun h => absurd h.2 (by decide)) hk1215
  have hk1266 := kp_up hM1249 (fun h => absurd h.2 (by decide)) hk1216
  have hk1267 := kp_up hM1249 (fun h => absurd h.2 (by decide)) hk1217
  have hk1268 := kp_up hM1249 (fun h => absurd h.2 (by decide)) hk1218
  have hk1269 := kp_up hM1249 (fun h => absurd h.2 (by decide)) hk1219
  have hk1270 := kp_up hM1249 (fun h => absurd h.2 (by decide)) hk1220
  have hk1271 := kp_up hM1249 (fun h => absurd h.2 (by decide)) hk1221
  have hk1272 := kp_up hM1249 (fun h => absurd h.2 (by decide)) hk1222
  have hk1273 := kp_up hM1249 (fun h => absurd h.2 (by decide)) hk1223
  have hk1274 := kp_up hM1249 (fun h => absurd h.2 (by decide)) hk1224
  have hk1275 := kp_up hM1249 (fun h => absurd h.2 (by decide)) hk1225
  have hk1276 := kp_up hM1249 (fun h => absurd h.2 (by decide)) hk1226
  have hk1277 := kp_up hM1249 (fun h => absurd h.2 (by decide)) hk1227
  have hk1278 := kp_up hM1249 (fun h => absurd h.2 (by decide)) hk1228
  have hk1279 := kp_up hM1249 (fun h => absurd h.2 (by decide)) hk1229
  have hk1280 := kp_up hM1249 (fun h => absurd h.2 (by decide)) hk1230
  have hk1281 := kp_up hM1249 (fun h => absurd h.2 (by decide)) hk1231
  have hk1282 := kp_up hM1249 (fun h => absurd h.2 (by decide)) hk1232
  have hk1283 := kp_up hM1249 (fun h => absurd h.2 (by decide)) hk1233
  have hk1284 := kp_up hM1249 (fun h => absurd h.2 (by decide)) hk1234
  have hk1285 := kp_up hM1249 (fun h => absurd h.2 (by decide)) hk1235
  have hk1286 := kp_up hM1249 (fun h => absurd h.2 (by decide)) hk1236
  have hk1287 := kp_up hM1249 (fun h => absurd h.2 (by decide)) hk1237
  have hk1288 := kp_up hM1249 (fun h => absurd h.2 (by decide)) hk1238
  have hk1289 := kp_up hM1249 (fun h => absurd h.2 (by decide)) hk1239
  have hk1290 := kp_up hM1249 (fun h => absurd h.2 (by decide)) hk1240
  have hk1291 := kp_up hM1249 (fun h => absurd h.2 (by decide)) hk1241
  have hk1292 := kp_up hM1249 (fun h => absurd h.2 (by decide)) hk1242
  have hk1293 := kp_up hM1249 (fun h => absurd h.2 (by decide)) hk1243
  have hk1294 := kp_up hM1249 (fun h => absurd h.2 (by decide)) hk1244
  have hk1295 := kp_up hM1249 (fun h => absurd h.2 (by decide)) hk1245
  have hk1296 := kp_up hM1249 (fun h => absurd h.2 (by decide)) hk1246
  have hk1297 := kp_up hM1249 (fun h => absurd h.2 (by decide)) hf1200
  clear hk1205 hk1206 hk1207 hk1208 hk1209 hk1210 hk1211 hk1212 hk1213 hk1214 hk1215 hk1216 hk1217 hk1218 hk1219 hk1220 hk1221 hk1222 hk1223 hk1224 hk1225 hk1226 hk1227 hk1228 hk1229 hk1230 hk1231 hk1232 hk1233 hk1234 hk1235 hk1236 hk1237 hk1238 hk1239 hk1240 hk1241 hk1242 hk1243 hk1244 hk1245 hk1246 hf1200
  refine j_aload_n hX dX11_init_343 rfl 0 rfl ?_
  refine j_bipush hX dX11_init_344 rfl ?_
  refine j_newa hX (k := 254) (by omega) (t := 0) (n := 36) rfl (by decide) (in_1 163 (by first | rfl | decide +kernel) rfl) (by decide +kernel : kd 254 = .inr (0, 36)) rfl (by decide) (hD1252.at _ (by omega) (by omega)) ⟨by omega, by omega⟩ dX11_init_346 ?_
  have hR1298 : RR 211 255 M1248 := RR_s hR1254 (Rg_plain (by omega) (by omega) (by decide +kernel : kd 254 = .inr (0, 36)) (by decide) (hD1252.at _ (by omega) (by omega))) (by omega)
  refine pfF_X11_146 hX hin (by omega) (by omega) (by decide +kernel : kd 210 = .inl 11) (by omega) (by omega) dX11_init_348 ?_
  refine j_upN (fun M1299 hM1300 hf1301 => ?_)
  have hG1302 := F2.put hG1251 hM1300 ⟨by omega, by omega⟩
  have hD1303 := DF_up hD1252 hM1300 (by omega)
  have hU1304 := UL_up hU1253 hM1300
  have hR1305 := RR_up hR1298 hM1300 (Or.inl (by omega))
  have hk1306 := kp_up hM1300 (fun h => absurd h.2 (by decide)) hk1255
  have hk1307 := kp_up hM1300 (fun h => absurd h.2 (by decide)) hk1256
  have hk1308 := kp_up hM1300 (fun h => absurd h.2 (by decide)) hk1257
  have hk1309 := kp_up hM1300 (fun h => absurd h.2 (by decide)) hk1258
  have hk1310 := kp_up hM1300 (fun h => absurd h.2 (by decide)) hk1259
  have hk1311 := kp_up hM1300 (fun h => absurd h.2 (by decide)) hk1260
  have hk1312 := kp_up hM1300 (fun h => absurd h.2 (by decide)) hk1261
  have hk1313 := kp_up hM1300 (fun h => absurd h.2 (by decide)) hk1262
  have hk1314 := kp_up hM1300 (fun h => absurd h.2 (by decide)) hk1263
  have hk1315 := kp_up hM1300 (fun h => absurd h.2 (by decide)) hk1264
  have hk1316 := kp_up hM1300 (fun h => absurd h.2 (by decide)) hk1265
  have hk1317 := kp_up hM1300 (fun h => absurd h.2 (by decide)) hk1266
  have hk1318 := kp_up hM1300 (fun h => absurd h.2 (by decide)) hk1267
  have hk1319 := kp_up hM1300 (fun h => absurd h.2 (by decide)) hk1268
  have hk1320 := kp_up hM1300 (fun h => absurd h.2 (by decide)) hk1269
  have hk1321 := kp_up hM1300 (fun h => absurd h.2 (by decide)) hk1270
  have hk1322 := kp_up hM1300 (fun h => absurd h.2 (by decide)) hk1271
  have hk1323 := kp_up hM1300 (fun h => absurd h.2 (by decide)) hk1272
  have hk1324 := kp_up hM1300 (fun h => absurd h.2 (by decide)) hk1273
  have hk1325 := kp_up hM1300 (fun h => absurd h.2 (by decide)) hk1274
  have hk1326 := kp_up hM1300 (fun h => absurd h.2 (by decide)) hk1275
  have hk1327 := kp_up hM1300 (fun h => absurd h.2 (by decide)) hk1276
  have hk1328 := kp_up hM1300 (fun h => absurd h.2 (by decide)) hk1277
  have hk1329 := kp_up hM1300 (fun h => absurd h.2 (by decide)) hk1278
  have hk1330 := kp_up hM1300 (fun h => absurd h.2 (by decide)) hk1279
  have hk1331 := kp_up hM1300 (fun h => absurd h.2 (by decide)) hk1280
  have hk1332 := kp_up hM1300 (fun h => absurd h.2 (by decide)) hk1281
  have hk1333 := kp_up hM1300 (fun h => absurd h.2 (by decide)) hk1282
  have hk1334 := kp_up hM1300 (fun h => absurd h.2 (by decide)) hk1283
  have hk1335 := kp_up hM1300 (fun h => absurd h.2 (by decide)) hk1284
  have hk1336 := kp_up hM1300 (fun h => absurd h.2 (by decide)) hk1285
  have hk1337 := kp_up hM1300 (fun h => absurd h.2 (by decide)) hk1286
  have hk1338 := kp_up hM1300 (fun h => absurd h.2 (by decide)) hk1287
  have hk1339 := kp_up hM1300 (fun h => absurd h.2 (by decide)) hk1288
  have hk1340 := kp_up hM1300 (fun h => absurd h.2 (by decide)) hk1289
  have hk1341 := kp_up hM1300 (fun h => absurd h.2 (by decide)) hk1290
  have hk1342 := kp_up hM1300 (fun h => absurd h.2 (by decide)) hk1291
  have hk1343 := kp_up hM1300 (fun h => absurd h.2 (by decide)) hk1292
  have hk1344 := kp_up hM1300 (fun h => absurd h.2 (by decide)) hk1293
  have hk1345 := kp_up hM1300 (fun h => absurd h.2 (by decide)) hk1294
  have hk1346 := kp_up hM1300 (fun h => absurd h.2 (by decide)) hk1295
  have hk1347 := kp_up hM1300 (fun h => absurd h.2 (by decide)) hk1296
  have hk1348 := kp_up hM1300 (fun h => absurd h.2 (by decide)) hk1297
  have hk1349 := kp_up hM1300 (fun h => absurd h.2 (by decide)) hf1250
  clear hk1255 hk1256 hk1257 hk1258 hk1259 hk1260 hk1261 hk1262 hk1263 hk1264 hk1265 hk1266 hk1267 hk1268 hk1269 hk1270 hk1271 hk1272 hk1273 hk1274 hk1275 hk1276 hk1277 hk1278 hk1279 hk1280 hk1281 hk1282 hk1283 hk1284 hk1285 hk1286 hk1287 hk1288 hk1289 hk1290 hk1291 hk1292 hk1293 hk1294 hk1295 hk1296 hk1297 hf1250
  refine j_aload_n hX dX11_init_351 rfl 0 rfl ?_
  refine j_bipush hX dX11_init_352 rfl ?_
  refine j_newa hX (k := 255) (by omega) (t := 0) (n := 48) rfl (by decide) (in_1 163 (by first | rfl | decide +kernel) rfl) (by decide +kernel : kd 255 = .inr (0, 48)) rfl (by decide) (hD1303.at _ (by omega) (by omega)) ⟨by omega, by omega⟩ dX11_init_354 ?_
  have hR1350 : RR 211 256 M1299 := RR_s hR1305 (Rg_plain (by omega) (by omega) (by decide +kernel : kd 255 = .inr (0, 48)) (by decide) (hD1303.at _ (by omega) (by omega))) (by omega)
  refine pfF_X11_149 hX hin (by omega) (by omega) (by decide +kernel : kd 210 = .inl 11) (by omega) (by omega) dX11_init_356 ?_
  refine j_upN (fun M1351 hM1352 hf1353 => ?_)
  have hG1354 := F2.put hG1302 hM1352 ⟨by omega, by omega⟩
  have hD1355 := DF_up hD1303 hM1352 (by omega)
  have hU1356 := UL_up hU1304 hM1352
  have hR1357 := RR_up hR1350 hM1352 (Or.inl (by omega))
  have hk1358 := kp_up hM1352 (fun h => absurd h.2 (by decide)) hk1306
  have hk1359 := kp_up hM1352 (fun h => absurd h.2 (by decide)) hk1307
  have hk1360 := kp_up hM1352 (fun h => absurd h.2 (by decide)) hk1308
  have hk1361 := kp_up hM1352 (fun h => absurd h.2 (by decide)) hk1309
  have hk1362 := kp_up hM1352 (fun h => absurd h.2 (by decide)) hk1310
  have hk1363 := kp_up hM1352 (fun h => absurd h.2 (by decide)) hk1311
  have hk1364 := kp_up hM1352 (fun h => absurd h.2 (by decide)) hk1312
  have hk1365 := kp_up hM1352 (fun h => absurd h.2 (by decide)) hk1313
  have hk1366 := kp_up hM1352 (fun h => absurd h.2 (by decide)) hk1314
  have hk1367 := kp_up hM1352 (fun h => absurd h.2 (by decide)) hk1315
  have hk1368 := kp_up hM1352 (fun h => absurd h.2 (by decide)) hk1316
  have hk1369 := kp_up hM1352 (fun h => absurd h.2 (by decide)) hk1317
  have hk1370 := kp_up hM1352 (fun h => absurd h.2 (by decide)) hk1318
  have hk1371 := kp_up hM1352 (fun h => absurd h.2 (by decide)) hk1319
  have hk1372 := kp_up hM1352 (fun h => absurd h.2 (by decide)) hk1320
  have hk1373 := kp_up hM1352 (fun h => absurd h.2 (by decide)) hk1321
  have hk1374 := kp_up hM1352 (fun h => absurd h.2 (by decide)) hk1322
  have hk1375 := kp_up hM1352 (fun h => absurd h.2 (by decide)) hk1323
  have hk1376 := kp_up hM1352 (fun h => absurd h.2 (by decide)) hk1324
  have hk1377 := kp_up hM1352 (fun h => absurd h.2 (by decide)) hk1325
  have hk1378 := kp_up hM1352 (fun h => absurd h.2 (by decide)) hk1326
  have hk1379 := kp_up hM1352 (fun h => absurd h.2 (by decide)) hk1327
  have hk1380 := kp_up hM1352 (fun h => absurd h.2 (by decide)) hk1328
  have hk1381 := kp_up hM1352 (fun h => absurd h.2 (by decide)) hk1329
  have hk1382 := kp_up hM1352 (fun h => absurd h.2 (by decide)) hk1330
  have hk1383 := kp_up hM1352 (fun h => absurd h.2 (by decide)) hk1331
  have hk1384 := kp_up hM1352 (fun h => absurd h.2 (by decide)) hk1332
  have hk1385 := kp_up hM1352 (fun h => absurd h.2 (by decide)) hk1333
  have hk1386 := kp_up hM1352 (fun h => absurd h.2 (by decide)) hk1334
  have hk1387 := kp_up hM1352 (fun h => absurd h.2 (by decide)) hk1335
  have hk1388 := kp_up hM1352 (fun h => absurd h.2 (by decide)) hk1336
  have hk1389 := kp_up hM1352 (fun h => absurd h.2 (by decide)) hk1337
  have hk1390 := kp_up hM1352 (fun h => absurd h.2 (by decide)) hk1338
  have hk1391 := kp_up hM1352 (fun h => absurd h.2 (by decide)) hk1339
  have hk1392 := kp_up hM1352 (fun h => absurd h.2 (by decide)) hk1340
  have hk1393 := kp_up hM1352 (fun h => absurd h.2 (by decide)) hk1341
  have hk1394 := kp_up hM1352 (fun h => absurd h.2 (by decide)) hk1342
  have hk1395 := kp_up hM1352 (fun h => absurd h.2 (by decide)) hk1343
  have hk1396 := kp_up hM1352 (fun h => absurd h.2 (by decide)) hk1344
  have hk1397 := kp_up hM1352 (fun h => absurd h.2 (by decide)) hk1345
  have hk1398 := kp_up hM1352 (fun h => absurd h.2 (by decide)) hk1346
  have hk1399 := kp_up hM1352 (fun h => absurd h.2 (by decide)) hk1347
  have hk1400 := kp_up hM1352 (fun h => absurd h.2 (by decide)) hk1348
  have hk1401 := kp_up hM1352 (fun h => absurd h.2 (by decide)) hk1349
  have hk1402 := kp_up hM1352 (fun h => absurd h.2 (by decide)) hf1301
  clear hk1306 hk1307 hk1308 hk1309 hk1310 hk1311 hk1312 hk1313 hk1314 hk1315 hk1316 hk1317 hk1318 hk1319 hk1320 hk1321 hk1322 hk1323 hk1324 hk1325 hk1326 hk1327 hk1328 hk1329 hk1330 hk1331 hk1332 hk1333 hk1334 hk1335 hk1336 hk1337 hk1338 hk1339 hk1340 hk1341 hk1342 hk1343 hk1344 hk1345 hk1346 hk1347 hk1348 hk1349 hf1301
  refine j_aload_n hX dX11_init_359 rfl 0 rfl ?_
  refine j_iconst hX dX11_init_360 ?_
  refine j_newa hX (k := 256) (by omega) (t := 2) (n := 3) rfl (by decide) (in_6 169 (by first | rfl | decide +kernel) rfl) (by decide +kernel : kd 256 = .inr (2, 3)) rfl (by decide) (hD1355.at _ (by omega) (by omega)) ⟨by omega, by omega⟩ dX11_init_361 ?_
  have hR1403 : RR 211 257 M1351 := RR_s hR1357 (Rg_plain (by omega) (by omega) (by decide +kernel : kd 256 = .inr (2, 3)) (by decide) (hD1355.at _ (by omega) (by omega))) (by omega)
  refine pfF_X11_152 hX hin (by omega) (by omega) (by decide +kernel : kd 210 = .inl 11) (by omega) (by omega) dX11_init_363 ?_
  refine j_upN (fun M1404 hM1405 hf1406 => ?_)
  have hG1407 := F2.put hG1354 hM1405 ⟨by omega, by omega⟩
  have hD1408 := DF_up hD1355 hM1405 (by omega)
  have hU1409 := UL_up hU1356 hM1405
  have hR1410 := RR_up hR1403 hM1405 (Or.inl (by omega))
  have hk1411 := kp_up hM1405 (fun h => absurd h.2 (by decide)) hk1358
  have hk1412 := kp_up hM1405 (fun h => absurd h.2 (by decide)) hk1359
  have hk1413 := kp_up hM1405 (fun h => absurd h.2 (by decide)) hk1360
  have hk1414 := kp_up hM1405 (fun h => absurd h.2 (by decide)) hk1361
  have hk1415 := kp_up hM1405 (fun h => absurd h.2 (by decide)) hk1362
  have hk1416 := kp_up hM1405 (fun h => absurd h.2 (by decide)) hk1363
  have hk1417 := kp_up hM1405 (fun h => absurd h.2 (by decide)) hk1364
  have hk1418 := kp_up hM1405 (fun h => absurd h.2 (by decide)) hk1365
  have hk1419 := kp_up hM1405 (fun h => absurd h.2 (by decide)) hk1366
  have hk1420 := kp_up hM1405 (fun h => absurd h.2 (by decide)) hk1367
  have hk1421 := kp_up hM1405 (fun h => absurd h.2 (by decide)) hk1368
  have hk1422 := kp_up hM1405 (fun h => absurd h.2 (by decide)) hk1369
  have hk1423 := kp_up hM1405 (fun h => absurd h.2 (by decide)) hk1370
  have hk1424 := kp_up hM1405 (fun h => absurd h.2 (by decide)) hk1371
  have hk1425 := kp_up hM1405 (fun h => absurd h.2 (by decide)) hk1372
  have hk1426 := kp_up hM1405 (fun h => absurd h.2 (by decide)) hk1373
  have hk1427 := kp_up hM1405 (fun h => absurd h.2 (by decide)) hk1374
  have hk1428 := kp_up hM1405 (fun h => absurd h.2 (by decide)) hk1375
  have hk1429 := kp_up hM1405 (fun h => absurd h.2 (by decide)) hk1376
  have hk1430 := kp_up hM1405 (fun h => absurd h.2 (by decide)) hk1377
  have hk1431 := kp_up hM1405 (fun h => absurd h.2 (by decide)) hk1378
  have hk1432 := kp_up hM1405 (fun h => absurd h.2 (by decide)) hk1379
  have hk1433 := kp_up hM1405 (fun h => absurd h.2 (by decide)) hk1380
  have hk1434 := kp_up hM1405 (fun h => absurd h.2 (by decide)) hk1381
  have hk1435 := kp_up hM1405 (fun h => absurd h.2 (by decide)) hk1382
  have hk1436 := kp_up hM1405 (fun h => absurd h.2 (by decide)) hk1383
  have hk1437 := kp_up hM1405 (fun h => absurd h.2 (by decide)) hk1384
  have hk1438 := kp_up hM1405 (fun h => absurd h.2 (by decide)) hk1385
  have hk1439 := kp_up hM1405 (fun h => absurd h.2 (by decide)) hk1386
  have hk1440 := kp_up hM1405 (fun h => absurd h.2 (by decide)) hk1387
  have hk1441 := kp_up hM1405 (fun h => absurd h.2 (by decide)) hk1388
  have hk1442 := kp_up hM1405 (fun h => absurd h.2 (by decide)) hk1389
  have hk1443 := kp_up hM1405 (fun h => absurd h.2 (by decide)) hk1390
  have hk1444 := kp_up hM1405 (fun h => absurd h.2 (by decide)) hk1391
  have hk1445 := kp_up hM1405 (fun h => absurd h.2 (by decide)) hk1392
  have hk1446 := kp_up hM1405 (fun h => absurd h.2 (by decide)) hk1393
  have hk1447 := kp_up hM1405 (fun h => absurd h.2 (by decide)) hk1394
  have hk1448 := kp_up hM1405 (fun h => absurd h.2 (by decide)) hk1395
  have hk1449 := kp_up hM1405 (fun h => absurd h.2 (by decide)) hk1396
  have hk1450 := kp_up hM1405 (fun h => absurd h.2 (by decide)) hk1397
  have hk1451 := kp_up hM1405 (fun h => absurd h.2 (by decide)) hk1398
  have hk1452 := kp_up hM1405 (fun h => absurd h.2 (by decide)) hk1399
  have hk1453 := kp_up hM1405 (fun h => absurd h.2 (by decide)) hk1400
  have hk1454 := kp_up hM1405 (fun h => absurd h.2 (by decide)) hk1401
  have hk1455 := kp_up hM1405 (fun h => absurd h.2 (by decide)) hk1402
  have hk1456 := kp_up hM1405 (fun h => absurd h.2 (by decide)) hf1353
  clear hk1358 hk1359 hk1360 hk1361 hk1362 hk1363 hk1364 hk1365 hk1366 hk1367 hk1368 hk1369 hk1370 hk1371 hk1372 hk1373 hk1374 hk1375 hk1376 hk1377 hk1378 hk1379 hk1380 hk1381 hk1382 hk1383 hk1384 hk1385 hk1386 hk1387 hk1388 hk1389 hk1390 hk1391 hk1392 hk1393 hk1394 hk1395 hk1396 hk1397 hk1398 hk1399 hk1400 hk1401 hk1402 hf1353
  refine j_aload_n hX dX11_init_366 rfl 0 rfl ?_
  have hRo : Rg 210 M1404 := by
    refine Rg_obj (n := 68) hpl hU1409 (by decide) (by omega) (fun j hj => ?_)
    rcases (by omega : j = 0 ∨ j = 1 ∨ j = 2 ∨ j = 3 ∨ j = 4 ∨ j = 5 ∨ j = 6 ∨ j = 7 ∨ j = 8 ∨ j = 9 ∨ j = 10 ∨ j = 11 ∨ j = 12 ∨ j = 13 ∨ j = 14 ∨ j = 15 ∨ j = 16 ∨ j = 17 ∨ j = 18 ∨ j = 19 ∨ j = 20 ∨ j = 21 ∨ j = 22 ∨ j = 23 ∨ j = 24 ∨ j = 25 ∨ j = 26 ∨ j = 27 ∨ j = 28 ∨ j = 29 ∨ j = 30 ∨ j = 31 ∨ j = 32 ∨ j = 33 ∨ j = 34 ∨ j = 35 ∨ j = 36 ∨ j = 37 ∨ j = 38 ∨ j = 39 ∨ j = 40 ∨ j = 41 ∨ j = 42 ∨ j = 43 ∨ j = 44 ∨ j = 45 ∨ j = 46 ∨ j = 47 ∨ j = 48 ∨ j = 49 ∨ j = 50 ∨ j = 51 ∨ j = 52 ∨ j = 53 ∨ j = 54 ∨ j = 55 ∨ j = 56 ∨ j = 57 ∨ j = 58 ∨ j = 59 ∨ j = 60 ∨ j = 61 ∨ j = 62 ∨ j = 63 ∨ j = 64 ∨ j = 65 ∨ j = 66 ∨ j = 67) with h | h | h | h | h | h | h | h | h | h | h | h | h | h | h | h | h | h | h | h | h | h | h | h | h | h | h | h | h | h | h | h | h | h | h | h | h | h | h | h | h | h | h | h | h | h | h | h | h | h | h | h | h | h | h | h | h | h | h | h | h | h | h | h | h | h | h | h
    · subst h
      show (rg 210 0).1 ≤ M1404.1 210 0 ∧ M1404.1 210 0 ≤ (rg 210 0).2
      rw [rz_210_0, hk1411]; exact ⟨by dsimp only; omega, by dsimp only; omega⟩
    · subst h
      show (rg 210 1).1 ≤ M1404.1 210 1 ∧ M1404.1 210 1 ≤ (rg 210 1).2
      rw [rz_210_1, hk1412]; exact ⟨by dsimp only; omega, by dsimp only; omega⟩
    · subst h
      show (rg 210 2).1 ≤ M1404.1 210 2 ∧ M1404.1 210 2 ≤ (rg 210 2).2
      rw [rz_210_2, hU1409 2 (by decide), (by decide +kernel : dv 210 2 = 0)]; exact ⟨by dsimp only; omega, by dsimp only; omega⟩
    · subst h
      show (rg 210 3).1 ≤ M1404.1 210 3 ∧ M1404.1 210 3 ≤ (rg 210 3).2
      rw [rz_210_3, hU1409 3 (by decide), (by decide +kernel : dv 210 3 = 0)]; exact ⟨by dsimp only; omega, by dsimp only; omega⟩
    · subst h
      show (rg 210 4).1 ≤ M1404.1 210 4 ∧ M1404.1 210 4 ≤ (rg 210 4).2
      rw [rz_210_4, hU1409 4 (by decide), (by decide +kernel : dv 210 4 = 0)]; exact ⟨by dsimp only; omega, by dsimp only; omega⟩
    · subst h
      show (rg 210 5).1 ≤ M1404.1 210 5 ∧ M1404.1 210 5 ≤ (rg 210 5).2
      rw [rz_210_5, hk1413]; exact ⟨by dsimp only; omega, by dsimp only; omega⟩
    · subst h
      show (rg 210 6).1 ≤ M1404.1 210 6 ∧ M1404.1 210 6 ≤ (rg 210 6).2
      rw [rz_210_6, hU1409 6 (by decide), (by decide +kernel : dv 210 6 = 0)]; exact ⟨by dsimp only; omega, by dsimp only; omega⟩
    · subst h
      show (rg 210 7).1 ≤ M1404.1 210 7 ∧ M1404.1 210 7 ≤ (rg 210 7).2
      rw [rz_210_7, hU1409 7 (by decide), (by decide +kernel : dv 210 7 = 0)]; exact ⟨by dsimp only; omega, by dsimp only; omega⟩
    · subst h
      show (rg 210 8).1 ≤ M1404.1 210 8 ∧ M1404.1 210 8 ≤ (rg 210 8).2
      rw [rz_210_8, hU1409 8 (by decide), (by decide +kernel : dv 210 8 = 0)]; exact ⟨by dsimp only; omega, by dsimp only; omega⟩
    · subst h
      show (rg 210 9).1 ≤ M1404.1 210 9 ∧ M1404.1 210 9 ≤ (rg 210 9).2
      rw [rz_210_9, hU1409 9 (by decide), (by decide +kernel : dv 210 9 = 0)]; exact ⟨by dsimp only; omega, by dsimp only; omega⟩
    · subst h
      show (rg 210 10).1 ≤ M1404.1 210 10 ∧ M1404.1 210 10 ≤ (rg 210 10).2
      rw [rz_210_10, hU1409 10 (by decide), (by decide +kernel : dv 210 10 = 0)]; exact ⟨by dsimp only; omega, by dsimp only; omega⟩
    · subst h
      show (rg 210 11).1 ≤ M1404.1 210 11 ∧ M1404.1 210 11 ≤ (rg 210 11).2
      rw [rz_210_11, hk1414]; exact ⟨by dsimp only; omega, by dsimp only; omega⟩
    · subst h
      show (rg 210 12).1 ≤ M1404.1 210 12 ∧ M1404.1 210 12 ≤ (rg 210 12).2
      rw [rz_210_12, hk1415]; exact ⟨by dsimp only; omega, by dsimp only; omega⟩
    · subst h
      show (rg 210 13).1 ≤ M1404.1 210 13 ∧ M1404.1 210 13 ≤ (rg 210 13).2
      rw [rz_210_13, hk1416]; exact ⟨by dsimp only; omega, by dsimp only; omega⟩
    · subst h
      show (rg 210 14).1 ≤ M1404.1 210 14 ∧ M1404.1 210 14 ≤ (rg 210 14).2
      rw [rz_210_14, hk1417]; exact ⟨by dsimp only; omega, by dsimp only; omega⟩
    · subst h
      show (rg 210 15).1 ≤ M1404.1 210 15 ∧ M1404.1 210 15 ≤ (rg 210 15).2
      rw [rz_210_15, hk1418]; exact ⟨by dsimp only; omega, by dsimp only; omega⟩
    · subst h
      show (rg 210 16).1 ≤ M1404.1 210 16 ∧ M1404.1 210 16 ≤ (rg 210 16).2
      rw [rz_210_16, hk1419]; exact ⟨by dsimp only; omega, by dsimp only; omega⟩
    · subst h
      show (rg 210 17).1 ≤ M1404.1 210 17 ∧ M1404.1 210 17 ≤ (rg 210 17).2
      rw [rz_210_17, hk1420]; exact ⟨by dsimp only; omega, by dsimp only; omega⟩
    · subst h
      show (rg 210 18).1 ≤ M1404.1 210 18 ∧ M1404.1 210 18 ≤ (rg 210 18).2
      rw [rz_210_18, hk1421]; exact ⟨by dsimp only; omega, by dsimp only; omega⟩
    · subst h
      show (rg 210 19).1 ≤ M1404.1 210 19 ∧ M1404.1 210 19 ≤ (rg 210 19).2
      rw [rz_210_19, hk1422]; exact ⟨by dsimp only; omega, by dsimp only; omega⟩
    · subst h
      show (rg 210 20).1 ≤ M1404.1 210 20 ∧ M1404.1 210 20 ≤ (rg 210 20).2
      rw [rz_210_20, hk1423]; exact ⟨by dsimp only; omega, by dsimp only; omega⟩
    · subst h
      show (rg 210 21).1 ≤ M1404.1 210 21 ∧ M1404.1 210 21 ≤ (rg 210 21).2
      rw [rz_210_21, hk1424]; exact ⟨by dsimp only; omega, by dsimp only; omega⟩
    · subst h
      show (rg 210 22).1 ≤ M1404.1 210 22 ∧ M1404.1 210 22 ≤ (rg 210 22).2
      rw [rz_210_22, hk1425]; exact ⟨by dsimp only; omega, by dsimp only; omega⟩
    · subst h
      show (rg 210 23).1 ≤ M1404.1 210 23 ∧ M1404.1 210 23 ≤ (rg 210 23).2
      rw [rz_210_23, hk1426]; exact ⟨by dsimp only; omega, by dsimp only; omega⟩
    · subst h
      show (rg 210 24).1 ≤ M1404.1 210 24 ∧ M1404.1 210 24 ≤ (rg 210 24).2
      rw [rz_210_24, hk1427]; exact ⟨by dsimp only; omega, by dsimp only; omega⟩
    · subst h
      show (rg 210 25).1 ≤ M1404.1 210 25 ∧ M1404.1 210 25 ≤ (rg 210 25).2
      rw [rz_210_25, hk1428]; exact ⟨by dsimp only; omega, by dsimp only; omega⟩
    · subst h
      show (rg 210 26).1 ≤ M1404.1 210 26 ∧ M1404.1 210 26 ≤ (rg 210 26).2
      rw [rz_210_26, hk1429]; exact ⟨by dsimp only; omega, by dsimp only; omega⟩
    · subst h
      show (rg 210 27).1 ≤ M1404.1 210 27 ∧ M1404.1 210 27 ≤ (rg 210 27).2
      rw [rz_210_27, hk1430]; exact ⟨by dsimp only; omega, by dsimp only; omega⟩
    · subst h
      show (rg 210 28).1 ≤ M1404.1 210 28 ∧ M1404.1 210 28 ≤ (rg 210 28).2
      rw [rz_210_28, hk1431]; exact ⟨by dsimp only; omega, by dsimp only; omega⟩
    · subst h
      show (rg 210 29).1 ≤ M1404.1 210 29 ∧ M1404.1 210 29 ≤ (rg 210 29).2
      rw [rz_210_29, hk1432]; exact ⟨by dsimp only; omega, by dsimp only; omega⟩
    · subst h
      show (rg 210 30).1 ≤ M1404.1 210 30 ∧ M1404.1 210 30 ≤ (rg 210 30).2
      rw [rz_210_30, hk1433]; exact ⟨by dsimp only; omega, by dsimp only; omega⟩
    · subst h
      show (rg 210 31).1 ≤ M1404.1 210 31 ∧ M1404.1 210 31 ≤ (rg 210 31).2
      rw [rz_210_31, hk1434]; exact ⟨by dsimp only; omega, by dsimp only; omega⟩
    · subst h
      show (rg 210 32).1 ≤ M1404.1 210 32 ∧ M1404.1 210 32 ≤ (rg 210 32).2
      rw [rz_210_32, hk1435]; exact ⟨by dsimp only; omega, by dsimp only; omega⟩
    · subst h
      show (rg 210 33).1 ≤ M1404.1 210 33 ∧ M1404.1 210 33 ≤ (rg 210 33).2
      rw [rz_210_33, hk1436]; exact ⟨by dsimp only; omega, by dsimp only; omega⟩
    · subst h
      show (rg 210 34).1 ≤ M1404.1 210 34 ∧ M1404.1 210 34 ≤ (rg 210 34).2
      rw [rz_210_34, hk1437]; exact ⟨by dsimp only; omega, by dsimp only; omega⟩
    · subst h
      show (rg 210 35).1 ≤ M1404.1 210 35 ∧ M1404.1 210 35 ≤ (rg 210 35).2
      rw [rz_210_35, hk1438]; exact ⟨by dsimp only; omega, by dsimp only; omega⟩
    · subst h
      show (rg 210 36).1 ≤ M1404.1 210 36 ∧ M1404.1 210 36 ≤ (rg 210 36).2
      rw [rz_210_36, hk1439]; exact ⟨by dsimp only; omega, by dsimp only; omega⟩
    · subst h
      show (rg 210 37).1 ≤ M1404.1 210 37 ∧ M1404.1 210 37 ≤ (rg 210 37).2
      rw [rz_210_37, hk1440]; exact ⟨by dsimp only; omega, by dsimp only; omega⟩
    · subst h
      show (rg 210 38).1 ≤ M1404.1 210 38 ∧ M1404.1 210 38 ≤ (rg 210 38).2
      rw [rz_210_38, hk1441]; exact ⟨by dsimp only; omega, by dsimp only; omega⟩
    · subst h
      show (rg 210 39).1 ≤ M1404.1 210 39 ∧ M1404.1 210 39 ≤ (rg 210 39).2
      rw [rz_210_39, hk1442]; exact ⟨by dsimp only; omega, by dsimp only; omega⟩
    · subst h
      show (rg 210 40).1 ≤ M1404.1 210 40 ∧ M1404.1 210 40 ≤ (rg 210 40).2
      rw [rz_210_40, hU1409 40 (by decide), (by decide +kernel : dv 210 40 = 0)]; exact ⟨by dsimp only; omega, by dsimp only; omega⟩
    · subst h
      show (rg 210 41).1 ≤ M1404.1 210 41 ∧ M1404.1 210 41 ≤ (rg 210 41).2
      rw [rz_210_41, hU1409 41 (by decide), (by decide +kernel : dv 210 41 = 0)]; exact ⟨by dsimp only; omega, by dsimp only; omega⟩
    · subst h
      show (rg 210 42).1 ≤ M1404.1 210 42 ∧ M1404.1 210 42 ≤ (rg 210 42).2
      rw [rz_210_42, hU1409 42 (by decide), (by decide +kernel : dv 210 42 = 0)]; exact ⟨by dsimp only; omega, by dsimp only; omega⟩
    · subst h
      show (rg 210 43).1 ≤ M1404.1 210 43 ∧ M1404.1 210 43 ≤ (rg 210 43).2
      rw [rz_210_43, hU1409 43 (by decide), (by decide +kernel : dv 210 43 = 0)]; exact ⟨by dsimp only; omega, by dsimp only; omega⟩
    · subst h
      show (rg 210 44).1 ≤ M1404.1 210 44 ∧ M1404.1 210 44 ≤ (rg 210 44).2
      rw [rz_210_44, hU1409 44 (by decide), (by decide +kernel : dv 210 44 = 0)]; exact ⟨by dsimp only; omega, by dsimp only; omega⟩
    · subst h
      show (rg 210 45).1 ≤ M1404.1 210 45 ∧ M1404.1 210 45 ≤ (rg 210 45).2
      rw [rz_210_45, hU1409 45 (by decide), (by decide +kernel : dv 210 45 = 0)]; exact ⟨by dsimp only; omega, by dsimp only; omega⟩
    · subst h
      show (rg 210 46).1 ≤ M1404.1 210 46 ∧ M1404.1 210 46 ≤ (rg 210 46).2
      rw [rz_210_46, hU1409 46 (by decide), (by decide +kernel : dv 210 46 = 0)]; exact ⟨by dsimp only; omega, by dsimp only; omega⟩
    · subst h
      show (rg 210 47).1 ≤ M1404.1 210 47 ∧ M1404.1 210 47 ≤ (rg 210 47).2
      rw [rz_210_47, hk1443]; exact ⟨by dsimp only; omega, by dsimp only; omega⟩
    · subst h
      show (rg 210 48).1 ≤ M1404.1 210 48 ∧ M1404.1 210 48 ≤ (rg 210 48).2
      rw [rz_210_48, hk1444]; exact ⟨by dsimp only; omega, by dsimp only; omega⟩
    · subst h
      show (rg 210 49).1 ≤ M1404.1 210 49 ∧ M1404.1 210 49 ≤ (rg 210 49).2
      rw [rz_210_49, hk1445]; exact ⟨by dsimp only; omega, by dsimp only; omega⟩
    · subst h
      show (rg 210 50).1 ≤ M1404.1 210 50 ∧ M1404.1 210 50 ≤ (rg 210 50).2
      rw [rz_210_50, hU1409 50 (by decide), (by decide +kernel : dv 210 50 = 0)]; exact ⟨by dsimp only; omega, by dsimp only; omega⟩
    · subst h
      show (rg 210 51).1 ≤ M1404.1 210 51 ∧ M1404.1 210 51 ≤ (rg 210 51).2
      rw [rz_210_51, hU1409 51 (by decide), (by decide +kernel : dv 210 51 = 0)]; exact ⟨by dsimp only; omega, by dsimp only; omega⟩
    · subst h
      show (rg 210 52).1 ≤ M1404.1 210 52 ∧ M1404.1 210 52 ≤ (rg 210 52).2
      rw [rz_210_52, hk1446]; exact ⟨by dsimp only; omega, by dsimp only; omega⟩
    · subst h
      show (rg 210 53).1 ≤ M1404.1 210 53 ∧ M1404.1 210 53 ≤ (rg 210 53).2
      rw [rz_210_53, hk1447]; exact ⟨by dsimp only; omega, by dsimp only; omega⟩
    · subst h
      show (rg 210 54).1 ≤ M1404.1 210 54 ∧ M1404.1 210 54 ≤ (rg 210 54).2
      rw [rz_210_54, hU1409 54 (by decide), (by decide +kernel : dv 210 54 = 0)]; exact ⟨by dsimp only; omega, by dsimp only; omega⟩
    · subst h
      show (rg 210 55).1 ≤ M1404.1 210 55 ∧ M1404.1 210 55 ≤ (rg 210 55).2
      rw [rz_210_55, hk1448]; exact ⟨by dsimp only; omega, by dsimp only; omega⟩
    · subst h
      show (rg 210 56).1 ≤ M1404.1 210 56 ∧ M1404.1 210 56 ≤ (rg 210 56).2
      rw [rz_210_56, hk1449]; exact ⟨by dsimp only; omega, by dsimp only; omega⟩
    · subst h
      show (rg 210 57).1 ≤ M1404.1 210 57 ∧ M1404.1 210 57 ≤ (rg 210 57).2
      rw [rz_210_57, hk1450]; exact ⟨by dsimp only; omega, by dsimp only; omega⟩
    · subst h
      show (rg 210 58).1 ≤ M1404.1 210 58 ∧ M1404.1 210 58 ≤ (rg 210 58).2
      rw [rz_210_58, hk1451]; exact ⟨by dsimp only; omega, by dsimp only; omega⟩
    · subst h
      show (rg 210 59).1 ≤ M1404.1 210 59 ∧ M1404.1 210 59 ≤ (rg 210 59).2
      rw [rz_210_59, hk1452]; exact ⟨by dsimp only; omega, by dsimp only; omega⟩
    · subst h
      show (rg 210 60).1 ≤ M1404.1 210 60 ∧ M1404.1 210 60 ≤ (rg 210 60).2
      rw [rz_210_60, hk1453]; exact ⟨by dsimp only; omega, by dsimp only; omega⟩
    · subst h
      show (rg 210 61).1 ≤ M1404.1 210 61 ∧ M1404.1 210 61 ≤ (rg 210 61).2
      rw [rz_210_61, hk1454]; exact ⟨by dsimp only; omega, by dsimp only; omega⟩
    · subst h
      show (rg 210 62).1 ≤ M1404.1 210 62 ∧ M1404.1 210 62 ≤ (rg 210 62).2
      rw [rz_210_62, hk1455]; exact ⟨by dsimp only; omega, by dsimp only; omega⟩
    · subst h
      show (rg 210 63).1 ≤ M1404.1 210 63 ∧ M1404.1 210 63 ≤ (rg 210 63).2
      rw [rz_210_63, hU1409 63 (by decide), (by decide +kernel : dv 210 63 = 0)]; exact ⟨by dsimp only; omega, by dsimp only; omega⟩
    · subst h
      show (rg 210 64).1 ≤ M1404.1 210 64 ∧ M1404.1 210 64 ≤ (rg 210 64).2
      rw [rz_210_64, hU1409 64 (by decide), (by decide +kernel : dv 210 64 = 0)]; exact ⟨by dsimp only; omega, by dsimp only; omega⟩
    · subst h
      show (rg 210 65).1 ≤ M1404.1 210 65 ∧ M1404.1 210 65 ≤ (rg 210 65).2
      rw [rz_210_65, hU1409 65 (by decide), (by decide +kernel : dv 210 65 = 0)]; exact ⟨by dsimp only; omega, by dsimp only; omega⟩
    · subst h
      show (rg 210 66).1 ≤ M1404.1 210 66 ∧ M1404.1 210 66 ≤ (rg 210 66).2
      rw [rz_210_66, hk1456]; exact ⟨by dsimp only; omega, by dsimp only; omega⟩
    · subst h
      show (rg 210 67).1 ≤ M1404.1 210 67 ∧ M1404.1 210 67 ≤ (rg 210 67).2
      rw [rz_210_67, hf1406]; exact ⟨by dsimp only; omega, by dsimp only; omega⟩
  have hRa : RR 210 257 M1404 := RR_j (RR_s RR_0 hRo (by omega : (211 : Int) = 210 + 1)) hR1410
  have hIv : Iv M1404 := Iv_of (fun k => by
    by_cases c : 210 ≤ k ∧ k < 257
    · exact hRa k c.1 c.2
    · intro j
      rw [(hG1407 k j c).1]
      exact hq k c j) (SS_f2 hss hG1407 (by omega))
  have h40 : M1404.1 210 40 = 0 := (hU1409 40 (by decide)).trans (by decide +kernel)
  have h41 : M1404.1 210 41 = 0 := (hU1409 41 (by decide)).trans (by decide +kernel)
  have h64 : M1404.1 210 64 = 0 := (hU1409 64 (by decide)).trans (by decide +kernel)
  refine j_callVV hX lk_X11_155 (cv_X11_clearBank _ _ _ _ _ 0 _ (by omega) hIv h41) (by omega) ⟨by omega, by omega⟩ rfl rfl (by omega) (by omega) (by decide +kernel : kd 210 = .inl 11) rfl rfl (Nat.le_of_ble_eq_true rfl) dX11_init_367 (fun M1457 hp1458 => ?_)
  obtain ⟨hI1, hF1, ⟨hz1, hz2, hz3, hz4⟩, hy1, hy2, hy3, hy4, hy5⟩ := hp1458
  have h40b : M1457.1 210 40 = 0 := (hF1 210 40 (by omega)).trans h40
  have h64b : M1457.1 210 64 = 0 := (hF1 210 64 (by omega)).trans h64
  have h212 : M1457.1 210 2 = 0 := (hF1 210 2 (by omega)).trans ((hU1409 2 (by decide)).trans (by decide +kernel))
  have h214 : M1457.1 210 4 = 0 := (hF1 210 4 (by omega)).trans ((hU1409 4 (by decide)).trans (by decide +kernel))
  have h215 : M1457.1 210 5 = -1 := (hF1 210 5 (by omega)).trans (hk1413)
  refine j_aload_n hX dX11_init_370 rfl 0 rfl ?_
  refine j_callVV hX lk_X11_158 (cv_X11_startAnew _ _ _ _ _ 0 0 0 _ (by omega) hI1 h40b hz1 hy4 (fun h => absurd h (by omega)) rfl rfl) (by omega) ⟨by omega, by omega⟩ rfl rfl (by omega) (by omega) (by decide +kernel : kd 210 = .inl 11) rfl rfl (Nat.le_of_ble_eq_true rfl) dX11_init_371 (fun M1459 hp1460 => ?_)
  obtain ⟨hI2, hF2, hr1, hr2, hA0, hA5, hB0, hC0⟩ := hp1460
  have hRI : RI M1459 := RI_mk (w := 0) (n := 0) ((hF2 210 40 (by omega)).trans h40b) ⟨(hF2 213 0 (by omega)).trans hz1, hr1, hr2, fun h => absurd h (by rw [hF2 232 0 (by omega), hz3]; decide)⟩
  have hcl : ∀ a b, a < 210 → M1459.1 a b = M.1 a b := fun a b h => ((hF2 a b (by omega)).trans (hF1 a b (by omega))).trans (hG1407 a b (by omega)).1
  have h64c : M1459.1 210 64 = 0 := (hF2 210 64 (by omega)).trans h64b
  have hFM : FM M1459 := ⟨⟨(hF2 210 40 (by omega)).trans h40b, (hF2 213 0 (by omega)).trans hz1, (hF2 214 0 (by omega)).trans hy1, (hF2 215 0 (by omega)).trans hy2, (hF2 216 0 (by omega)).trans hy3, (hF2 233 0 (by omega)).trans hy5⟩, ⟨(hF2 210 2 (by omega)).trans h212, (hF2 210 4 (by omega)).trans h214, (hF2 210 5 (by omega)).trans h215⟩, ⟨hA0.1, hA0.2, hA5⟩, ⟨hB0.1, hB0.2.1, hB0.2.2.1, hB0.2.2.2, h64c⟩, hC0⟩
  exact j_widen (by omega) (by omega) (hret _ _ _ dX11_init_374 ⟨hI2, hRI, h64c, hcl, hFM⟩)
