theorem dX9_init_0 : decode cX9_init 0 = .ok (.aload_n 0, 1) := by decide +kernel
theorem dX9_init_1 : decode cX9_init 1 = .ok (.invokespecial 3, 3) := by decide +kernel
theorem dX9_init_4 : decode cX9_init 4 = .ok (.aload_n 0, 1) := by decide +kernel
theorem dX9_init_5 : decode cX9_init 5 = .ok (.sipush 1600, 3) := by decide +kernel
theorem dX9_init_8 : decode cX9_init 8 = .ok (.newarray .byte, 2) := by decide +kernel
theorem dX9_init_10 : decode cX9_init 10 = .ok (.putfield 9, 3) := by decide +kernel
theorem dX9_init_13 : decode cX9_init 13 = .ok (.aload_n 0, 1) := by decide +kernel
theorem dX9_init_14 : decode cX9_init 14 = .ok (.bipush 22, 2) := by decide +kernel
theorem dX9_init_16 : decode cX9_init 16 = .ok (.newarray .long, 2) := by decide +kernel
theorem dX9_init_18 : decode cX9_init 18 = .ok (.putfield 15, 3) := by decide +kernel
theorem dX9_init_21 : decode cX9_init 21 = .ok (.aload_n 0, 1) := by decide +kernel
theorem dX9_init_22 : decode cX9_init 22 = .ok (.iconst 0, 1) := by decide +kernel
theorem dX9_init_23 : decode cX9_init 23 = .ok (.putfield 19, 3) := by decide +kernel
theorem dX9_init_26 : decode cX9_init 26 = .ok (.aload_n 0, 1) := by decide +kernel
theorem dX9_init_27 : decode cX9_init 27 = .ok (.iconst 0, 1) := by decide +kernel
theorem dX9_init_28 : decode cX9_init 28 = .ok (.putfield 23, 3) := by decide +kernel
theorem dX9_init_31 : decode cX9_init 31 = .ok (.aload_n 0, 1) := by decide +kernel
theorem dX9_init_32 : decode cX9_init 32 = .ok (.iconst 0, 1) := by decide +kernel
theorem dX9_init_33 : decode cX9_init 33 = .ok (.putfield 26, 3) := by decide +kernel
theorem dX9_init_36 : decode cX9_init 36 = .ok (.aload_n 0, 1) := by decide +kernel
theorem dX9_init_37 : decode cX9_init 37 = .ok (.iconst 0, 1) := by decide +kernel
theorem dX9_init_38 : decode cX9_init 38 = .ok (.putfield 29, 3) := by decide +kernel
theorem dX9_init_41 : decode cX9_init 41 = .ok (.aload_n 0, 1) := by decide +kernel
theorem dX9_init_42 : decode cX9_init 42 = .ok (.iconst 0, 1) := by decide +kernel
theorem dX9_init_43 : decode cX9_init 43 = .ok (.putfield 32, 3) := by decide +kernel
theorem dX9_init_46 : decode cX9_init 46 = .ok (.aload_n 0, 1) := by decide +kernel
theorem dX9_init_47 : decode cX9_init 47 = .ok (.lconst 0, 1) := by decide +kernel
theorem dX9_init_48 : decode cX9_init 48 = .ok (.putfield 35, 3) := by decide +kernel
theorem dX9_init_51 : decode cX9_init 51 = .ok (.iconst 0, 1) := by decide +kernel
theorem dX9_init_52 : decode cX9_init 52 = .ok (.istore_n 1, 1) := by decide +kernel
theorem dX9_init_53 : decode cX9_init 53 = .ok (.iconst 0, 1) := by decide +kernel
theorem dX9_init_54 : decode cX9_init 54 = .ok (.istore_n 2, 1) := by decide +kernel
theorem dX9_init_55 : decode cX9_init 55 = .ok (.iload_n 2, 1) := by decide +kernel
theorem dX9_init_56 : decode cX9_init 56 = .ok (.ldc 39, 2) := by decide +kernel
theorem dX9_init_58 : decode cX9_init 58 = .ok (.invokevirtual 41, 3) := by decide +kernel
theorem dX9_init_61 : decode cX9_init 61 = .ok (.if_icmp .ge 50, 3) := by decide +kernel
theorem dX9_init_64 : decode cX9_init 64 = .ok (.ldc 39, 2) := by decide +kernel
theorem dX9_init_66 : decode cX9_init 66 = .ok (.iload_n 2, 1) := by decide +kernel
theorem dX9_init_67 : decode cX9_init 67 = .ok (.invokevirtual 46, 3) := by decide +kernel
theorem dX9_init_70 : decode cX9_init 70 = .ok (.istore_n 3, 1) := by decide +kernel
theorem dX9_init_71 : decode cX9_init 71 = .ok (.iload_n 3, 1) := by decide +kernel
theorem dX9_init_72 : decode cX9_init 72 = .ok (.bipush 32, 2) := by decide +kernel
theorem dX9_init_74 : decode cX9_init 74 = .ok (.if_icmp .ne 9, 3) := by decide +kernel
theorem dX9_init_77 : decode cX9_init 77 = .ok (.iinc 1 1, 3) := by decide +kernel
theorem dX9_init_80 : decode cX9_init 80 = .ok (.goto 25, 3) := by decide +kernel
theorem dX9_init_83 : decode cX9_init 83 = .ok (.iload_n 1, 1) := by decide +kernel
theorem dX9_init_84 : decode cX9_init 84 = .ok (.bipush 22, 2) := by decide +kernel
theorem dX9_init_86 : decode cX9_init 86 = .ok (.if_icmp .ge 19, 3) := by decide +kernel
theorem dX9_init_89 : decode cX9_init 89 = .ok (.aload_n 0, 1) := by decide +kernel
theorem dX9_init_90 : decode cX9_init 90 = .ok (.getfield 15, 3) := by decide +kernel
theorem dX9_init_93 : decode cX9_init 93 = .ok (.iload_n 1, 1) := by decide +kernel
theorem dX9_init_94 : decode cX9_init 94 = .ok (.aload_n 0, 1) := by decide +kernel
theorem dX9_init_95 : decode cX9_init 95 = .ok (.getfield 15, 3) := by decide +kernel
theorem dX9_init_98 : decode cX9_init 98 = .ok (.iload_n 1, 1) := by decide +kernel
theorem dX9_init_99 : decode cX9_init 99 = .ok (.laload, 1) := by decide +kernel
theorem dX9_init_100 : decode cX9_init 100 = .ok (.iload_n 3, 1) := by decide +kernel
theorem dX9_init_101 : decode cX9_init 101 = .ok (.invokestatic 50, 3) := by decide +kernel
theorem dX9_init_104 : decode cX9_init 104 = .ok (.lastore, 1) := by decide +kernel
theorem dX9_init_105 : decode cX9_init 105 = .ok (.iinc 2 1, 3) := by decide +kernel
theorem dX9_init_108 : decode cX9_init 108 = .ok (.goto (-53), 3) := by decide +kernel
theorem dX9_init_111 : decode cX9_init 111 = .ok (.return_, 1) := by decide +kernel
set_option maxHeartbeats 2000000 in
set_option maxRecDepth 20000 in
theorem c_X9_init (l : Launch) (D : va_G) (cy : Nat → ClassId) (B N : Nat) (M : MM) (hN : (N : Int) = 2 + 1) (hd : DF 2 5 M) : CN l D cy B N (N + 2) 20 2 1622 yX9_init cX9_init 4 [rv B 2] M (fun M' => RR 2 5 M' ∧ F2 2 5 M M' ∧ (M'.1 2 4 = 0)) := by
  refine mk_CN (by decide) rfl (Nat.le_of_ble_eq_true rfl) ?_
  intro X exl exD excy hnL hX hin hRc hRs hret
  have hpl : pl 2 = ((8 : Nat) : Int) := pl_o (r := (RX9, TX9, 8)) (by decide +kernel : kd 2 = .inl 9) rfl
  have hG : F2 2 5 M M := F2.rf
  have hD : DF 3 5 M := hd.sub (by omega) (Int.le_refl _)
  have hU : UL 2 [] M := UL_0 (hd.at _ (by omega) (by omega))
  have hR : RR 3 3 M := RR_0
  show J X B N 0 0 0 [(0, rv B 2)] [] M
  refine j_aload_n hX dX9_init_0 rfl 0 rfl ?_
  refine j_objInit hX (in_1 41 (by first | rfl | decide +kernel) rfl) (in_1 28 (by first | rfl | decide +kernel) rfl) (in_1 29 (by first | rfl | decide +kernel) rfl) (by omega) (Nat.le_of_ble_eq_true rfl) dX9_init_1 ?_
  refine j_aload_n hX dX9_init_4 rfl 0 rfl ?_
  refine j_sipush hX dX9_init_5 rfl ?_
  refine j_newa hX (k := 3) (by omega) (t := 1) (n := 1600) rfl (by decide) (in_1 126 (by first | rfl | decide +kernel) rfl) (by decide +kernel : kd 3 = .inr (1, 1600)) rfl (by decide) (hD.at _ (by omega) (by omega)) ⟨by omega, by omega⟩ dX9_init_8 ?_
  have hR1 : RR 3 4 M := RR_s hR (Rg_plain (by omega) (by omega) (by decide +kernel : kd 3 = .inr (1, 1600)) (by decide) (hD.at _ (by omega) (by omega))) (by omega)
  refine pfF_X9_9 hX hin (by omega) (by omega) (by decide +kernel : kd 2 = .inl 9) (by omega) (by omega) dX9_init_10 ?_
  refine j_upN (fun M2 hM3 hf4 => ?_)
  have hG5 := F2.put hG hM3 ⟨by omega, by omega⟩
  have hD6 := DF_up hD hM3 (by omega)
  have hU7 := UL_up hU hM3
  have hR8 := RR_up hR1 hM3 (Or.inl (by omega))
  refine j_aload_n hX dX9_init_13 rfl 0 rfl ?_
  refine j_bipush hX dX9_init_14 rfl ?_
  refine j_newa hX (k := 4) (by omega) (t := 3) (n := 22) rfl (by decide) (in_1 127 (by first | rfl | decide +kernel) rfl) (by decide +kernel : kd 4 = .inr (3, 22)) rfl (by decide) (hD6.at _ (by omega) (by omega)) ⟨by omega, by omega⟩ dX9_init_16 ?_
  have hR9 : RR 3 5 M2 := RR_s hR8 (Rg_plain (by omega) (by omega) (by decide +kernel : kd 4 = .inr (3, 22)) (by decide) (hD6.at _ (by omega) (by omega))) (by omega)
  refine pfF_X9_15 hX hin (by omega) (by omega) (by decide +kernel : kd 2 = .inl 9) (by omega) (by omega) dX9_init_18 ?_
  refine j_upN (fun M10 hM11 hf12 => ?_)
  have hG13 := F2.put hG5 hM11 ⟨by omega, by omega⟩
  have hD14 := DF_up hD6 hM11 (by omega)
  have hU15 := UL_up hU7 hM11
  have hR16 := RR_up hR9 hM11 (Or.inl (by omega))
  have hk17 := kp_up hM11 (fun h => absurd h.2 (by decide)) hf4
  clear hf4
  refine j_aload_n hX dX9_init_21 rfl 0 rfl ?_
  refine j_iconst hX dX9_init_22 ?_
  refine pf_X9_19 hX (by omega) (by omega) (by decide +kernel : kd 2 = .inl 9) (by omega) dX9_init_23 ?_
  refine j_upN (fun M18 hM19 hf20 => ?_)
  have hG21 := F2.put hG13 hM19 ⟨by omega, by omega⟩
  have hD22 := DF_up hD14 hM19 (by omega)
  have hU23 := UL_up hU15 hM19
  have hR24 := RR_up hR16 hM19 (Or.inl (by omega))
  have hk25 := kp_up hM19 (fun h => absurd h.2 (by decide)) hk17
  have hk26 := kp_up hM19 (fun h => absurd h.2 (by decide)) hf12
  clear hk17 hf12
  refine j_aload_n hX dX9_init_26 rfl 0 rfl ?_
  refine j_iconst hX dX9_init_27 ?_
  refine pf_X9_23 hX (by omega) (by omega) (by decide +kernel : kd 2 = .inl 9) (by omega) dX9_init_28 ?_
  refine j_upN (fun M27 hM28 hf29 => ?_)
  have hG30 := F2.put hG21 hM28 ⟨by omega, by omega⟩
  have hD31 := DF_up hD22 hM28 (by omega)
  have hU32 := UL_up hU23 hM28
  have hR33 := RR_up hR24 hM28 (Or.inl (by omega))
  have hk34 := kp_up hM28 (fun h => absurd h.2 (by decide)) hk25
  have hk35 := kp_up hM28 (fun h => absurd h.2 (by decide)) hk26
  have hk36 := kp_up hM28 (fun h => absurd h.2 (by decide)) hf20
  clear hk25 hk26 hf20
  refine j_aload_n hX dX9_init_31 rfl 0 rfl ?_
  refine j_iconst hX dX9_init_32 ?_
  refine pf_X9_26 hX (by omega) (by omega) (by decide +kernel : kd 2 = .inl 9) (by omega) dX9_init_33 ?_
  refine j_upN (fun M37 hM38 hf39 => ?_)
  have hG40 := F2.put hG30 hM38 ⟨by omega, by omega⟩
  have hD41 := DF_up hD31 hM38 (by omega)
  have hU42 := UL_up hU32 hM38
  have hR43 := RR_up hR33 hM38 (Or.inl (by omega))
  have hk44 := kp_up hM38 (fun h => absurd h.2 (by decide)) hk34
  have hk45 := kp_up hM38 (fun h => absurd h.2 (by decide)) hk35
  have hk46 := kp_up hM38 (fun h => absurd h.2 (by decide)) hk36
  have hk47 := kp_up hM38 (fun h => absurd h.2 (by decide)) hf29
  clear hk34 hk35 hk36 hf29
  refine j_aload_n hX dX9_init_36 rfl 0 rfl ?_
  refine j_iconst hX dX9_init_37 ?_
  refine pf_X9_29 hX (by omega) (by omega) (by decide +kernel : kd 2 = .inl 9) (by omega) dX9_init_38 ?_
  refine j_upN (fun M48 hM49 hf50 => ?_)
  have hG51 := F2.put hG40 hM49 ⟨by omega, by omega⟩
  have hD52 := DF_up hD41 hM49 (by omega)
  have hU53 := UL_up hU42 hM49
  have hR54 := RR_up hR43 hM49 (Or.inl (by omega))
  have hk55 := kp_up hM49 (fun h => absurd h.2 (by decide)) hk44
  have hk56 := kp_up hM49 (fun h => absurd h.2 (by decide)) hk45
  have hk57 := kp_up hM49 (fun h => absurd h.2 (by decide)) hk46
  have hk58 := kp_up hM49 (fun h => absurd h.2 (by decide)) hk47
  have hk59 := kp_up hM49 (fun h => absurd h.2 (by decide)) hf39
  clear hk44 hk45 hk46 hk47 hf39
  refine j_aload_n hX dX9_init_41 rfl 0 rfl ?_
  refine j_iconst hX dX9_init_42 ?_
  refine pf_X9_32 hX (by omega) (by omega) (by decide +kernel : kd 2 = .inl 9) (by omega) dX9_init_43 ?_
  refine j_upN (fun M60 hM61 hf62 => ?_)
  have hG63 := F2.put hG51 hM61 ⟨by omega, by omega⟩
  have hD64 := DF_up hD52 hM61 (by omega)
  have hU65 := UL_up hU53 hM61
  have hR66 := RR_up hR54 hM61 (Or.inl (by omega))
  have hk67 := kp_up hM61 (fun h => absurd h.2 (by decide)) hk55
  have hk68 := kp_up hM61 (fun h => absurd h.2 (by decide)) hk56
  have hk69 := kp_up hM61 (fun h => absurd h.2 (by decide)) hk57
  have hk70 := kp_up hM61 (fun h => absurd h.2 (by decide)) hk58
  have hk71 := kp_up hM61 (fun h => absurd h.2 (by decide)) hk59
  have hk72 := kp_up hM61 (fun h => absurd h.2 (by decide)) hf50
  clear hk55 hk56 hk57 hk58 hk59 hf50
  refine j_aload_n hX dX9_init_46 rfl 0 rfl ?_
  refine j_lconst hX dX9_init_47 ?_
  refine pf_X9_35 hX (by omega) (by omega) (by decide +kernel : kd 2 = .inl 9) dX9_init_48 ?_
  refine j_upLN (fun M73 hM74 => ?_)
  have hM74l : M73.1 = M60.1 := by rw [hM74]; rfl
  have hG75 := F2.lng hG63 hM74 ⟨by omega, by omega⟩
  have hD76 := DF_upL hD64 hM74 (by omega)
  have hU77 := UL_1 hU65 hM74l
  have hR78 := RR_1 hR66 hM74l
  have hk79 := kp_l hM74l hk67
  have hk80 := kp_l hM74l hk68
  have hk81 := kp_l hM74l hk69
  have hk82 := kp_l hM74l hk70
  have hk83 := kp_l hM74l hk71
  have hk84 := kp_l hM74l hk72
  have hk85 := kp_l hM74l hf62
  clear hk67 hk68 hk69 hk70 hk71 hk72 hf62
  refine j_iconst hX dX9_init_51 ?_
  refine j_istore_n (lv' := [(1, _), (0, _)]) hX dX9_init_52 rfl (by rw [hnL]; decide) rfl ?_
  refine j_iconst hX dX9_init_53 ?_
  refine j_istore_n (lv' := [(2, _), (1, _), (0, _)]) hX dX9_init_54 rfl (by rw [hnL]; decide) rfl ?_
  have hRo : Rg 2 M73 := by
    refine Rg_obj (n := 8) hpl hU77 (by decide) (by omega) (fun j hj => ?_)
    rcases (by omega : j = 0 ∨ j = 1 ∨ j = 2 ∨ j = 3 ∨ j = 4 ∨ j = 5 ∨ j = 6 ∨ j = 7) with h | h | h | h | h | h | h | h
    · subst h
      show (rg 2 0).1 ≤ M73.1 2 0 ∧ M73.1 2 0 ≤ (rg 2 0).2
      rw [rz_2_0, hk79]; exact ⟨by dsimp only; omega, by dsimp only; omega⟩
    · subst h
      show (rg 2 1).1 ≤ M73.1 2 1 ∧ M73.1 2 1 ≤ (rg 2 1).2
      rw [rz_2_1, hk80]; exact ⟨by dsimp only; omega, by dsimp only; omega⟩
    · subst h
      show (rg 2 2).1 ≤ M73.1 2 2 ∧ M73.1 2 2 ≤ (rg 2 2).2
      rw [rz_2_2, hk81]; exact ⟨by dsimp only; omega, by dsimp only; omega⟩
    · subst h
      show (rg 2 3).1 ≤ M73.1 2 3 ∧ M73.1 2 3 ≤ (rg 2 3).2
      rw [rz_2_3, hk82]; exact ⟨by dsimp only; omega, by dsimp only; omega⟩
    · subst h
      show (rg 2 4).1 ≤ M73.1 2 4 ∧ M73.1 2 4 ≤ (rg 2 4).2
      rw [rz_2_4, hk83]; exact ⟨by dsimp only; omega, by dsimp only; omega⟩
    · subst h
      show (rg 2 5).1 ≤ M73.1 2 5 ∧ M73.1 2 5 ≤ (rg 2 5).2
      rw [rz_2_5, hk84]; exact ⟨by dsimp only; omega, by dsimp only; omega⟩
    · subst h
      show (rg 2 6).1 ≤ M73.1 2 6 ∧ M73.1 2 6 ≤ (rg 2 6).2
      rw [rz_2_6, hk85]; exact ⟨by dsimp only; omega, by dsimp only; omega⟩
    · subst h
      show (rg 2 7).1 ≤ M73.1 2 7 ∧ M73.1 2 7 ≤ (rg 2 7).2
      rw [rz_2_7, hU77 7 (by decide), (by decide +kernel : dv 2 7 = 0)]; exact ⟨by dsimp only; omega, by dsimp only; omega⟩
  have hRa : RR 2 5 M73 := RR_j (RR_s RR_0 hRo (by omega : (3 : Int) = 2 + 1)) hR78
  have cp : ∀ q : Nat, ∀ (x y : Int) (Mc : MM), 0 ≤ x → x ≤ y → 0 ≤ y → y ≤ 103 → F2 2 5 M Mc ∧ Mc.1 = M73.1 → 103 - y < (q : Int) → J X B (N + 1 + 1) (0 + 1 + 1) (0 + 1600 + 22) 55 [(0, rv B 2), (1, iv x), (2, iv y)] [] Mc := by
    intro q
    induction q with
    | zero => intros; exfalso; omega
    | succ q ih =>
      intro x y Mc hx0 hxy hy0 hy1 hF hm
      have hkk : Mc.1 2 1 = 4 := by rw [hF.2]; exact hk80
      refine j_iload_n hX dX9_init_55 rfl 2 rfl ?_
      refine j_ldcS hX (i := 0) (Or.inl ⟨rfl, rfl⟩) dX9_init_56 (fun a v hK => ?_)
      refine j_callKV hX hK lk_X9_41 rfl (c_J0_length_8abf5 _ _ _ _ _ _ _ _ _ _ (by decide)) (by omega) ⟨by omega, by omega⟩ rfl rfl (Nat.le_of_ble_eq_true rfl) dX9_init_58 (fun z hz hp => ?_)
      have hz3 : z = 103 := hp
      refine j_icmp_ge (tgt := 111) hX dX9_init_61 (by decide) (by omega) (by omega) (fun _ => ?_) (fun _ => ?_)
      · exact j_widen (by omega) (by omega) (hret _ _ _ dX9_init_111 ⟨RR_1 hRa hF.2, hF.1, by rw [hF.2]; exact hk83⟩)
      · refine j_ldcS hX (i := 0) (Or.inl ⟨rfl, rfl⟩) dX9_init_64 (fun a2 v2 hK2 => ?_)
        refine j_iload_n hX dX9_init_66 rfl 2 rfl ?_
        refine j_callKV hX hK2 ln_X9_46 rfl (c_J0_charAt_5068e _ _ _ _ _ _ _ _ _ y _ (by decide) hy0 (show y < (103 : Int) by omega)) (by omega) ⟨by omega, by omega⟩ rfl rfl (Nat.le_of_ble_eq_true rfl) dX9_init_67 (fun c hc hp2 => ?_)
        refine j_istore_n (lv' := [(3, _), (0, _), (1, _), (2, _)]) hX dX9_init_70 rfl (by rw [hnL]; decide) rfl ?_
        refine j_iload_n hX dX9_init_71 rfl 0 rfl ?_
        refine j_bipush hX dX9_init_72 rfl ?_
        refine j_icmp_ne (tgt := 83) hX dX9_init_74 (by decide) (by omega) (by omega) (fun _ => ?_) (fun _ => ?_)
        · refine j_iload_n hX dX9_init_83 rfl 2 rfl ?_
          refine j_bipush hX dX9_init_84 rfl ?_
          refine j_icmp_ge (tgt := 105) hX dX9_init_86 (by decide) (by omega) (by omega) (fun _ => ?_) (fun _ => ?_)
          · refine j_iinc (lv' := [(2, _), (3, _), (0, _), (1, _)]) hX dX9_init_105 3 rfl (by rw [hnL]; decide) rfl ?_
            refine j_goto (tgt := 55) hX dX9_init_108 (by decide) ?_
            refine j_sub [2, 3, 0] rfl ?_
            exact ih _ _ _ (by omega) (by omega) (by omega) (by omega) hF (by omega)
          · refine j_aload_n hX dX9_init_89 rfl 1 rfl ?_
            refine gf_X9_15 hX (by omega) (by omega) (by decide +kernel : kd 2 = .inl 9) hkk (by omega) dX9_init_90 ?_
            refine j_iload_n hX dX9_init_93 rfl 2 rfl ?_
            refine j_aload_n hX dX9_init_94 rfl 1 rfl ?_
            refine gf_X9_15 hX (by omega) (by omega) (by decide +kernel : kd 2 = .inl 9) hkk (by omega) dX9_init_95 ?_
            refine j_iload_n hX dX9_init_98 rfl 2 rfl ?_
            refine j_lald hX (by omega) (by omega) (by decide +kernel : kd 4 = .inr (3, 22)) (by omega) (by omega) (by decide) dX9_init_99 ?_
            refine j_iload_n hX dX9_init_100 rfl 0 rfl ?_
            refine j_callSL hX lk_X9_50 (c_X9_withLetter _ _ _ _ _ _ _ _ (by omega)) (by omega) ⟨by omega, by omega⟩ rfl rfl (Nat.le_of_ble_eq_true rfl) dX9_init_101 (fun zl M5 hp5 => ?_)
            subst hp5
            refine j_last hX (by omega) (by omega) (by decide +kernel : kd 4 = .inr (3, 22)) (by omega) (by omega) (by decide) dX9_init_104 ?_
            refine j_upLN (fun M6 hM6 => ?_)
            have hF6 : F2 2 5 M M6 ∧ M6.1 = M73.1 := ⟨F2.lng hF.1 hM6 ⟨by omega, by omega⟩, by rw [hM6]; exact hF.2⟩
            refine j_iinc (lv' := [(2, _), (3, _), (0, _), (1, _)]) hX dX9_init_105 3 rfl (by rw [hnL]; decide) rfl ?_
            refine j_goto (tgt := 55) hX dX9_init_108 (by decide) ?_
            refine j_sub [2, 3, 0] rfl ?_
            exact ih _ _ _ (by omega) (by omega) (by omega) (by omega) hF6 (by omega)
        · refine j_iinc (lv' := [(1, _), (3, _), (0, _), (2, _)]) hX dX9_init_77 2 rfl (by rw [hnL]; decide) rfl ?_
          refine j_goto (tgt := 105) hX dX9_init_80 (by decide) ?_
          refine j_iinc (lv' := [(2, _), (1, _), (3, _), (0, _)]) hX dX9_init_105 3 rfl (by rw [hnL]; decide) rfl ?_
          refine j_goto (tgt := 55) hX dX9_init_108 (by decide) ?_
          refine j_sub [3, 1, 0] rfl ?_
          exact ih _ _ _ (by omega) (by omega) (by omega) (by omega) hF (by omega)
  refine j_sub [2, 1, 0] rfl ?_
  exact cp 200 0 0 _ (by omega) (by omega) (by omega) (by omega) ⟨hG75, rfl⟩ (by omega)
