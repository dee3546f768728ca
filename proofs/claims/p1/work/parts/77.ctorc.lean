theorem dX7_init_0 : decode cX7_init 0 = .ok (.aload_n 0, 1) := by decide +kernel
theorem dX7_init_1 : decode cX7_init 1 = .ok (.invokespecial 3, 3) := by decide +kernel
theorem dX7_init_4 : decode cX7_init 4 = .ok (.aload_n 0, 1) := by decide +kernel
theorem dX7_init_5 : decode cX7_init 5 = .ok (.new 9, 3) := by decide +kernel
theorem dX7_init_8 : decode cX7_init 8 = .ok (.dup, 1) := by decide +kernel
theorem dX7_init_9 : decode cX7_init 9 = .ok (.invokespecial 11, 3) := by decide +kernel
theorem dX7_init_12 : decode cX7_init 12 = .ok (.putfield 12, 3) := by decide +kernel
theorem dX7_init_15 : decode cX7_init 15 = .ok (.aload_n 0, 1) := by decide +kernel
theorem dX7_init_16 : decode cX7_init 16 = .ok (.new 18, 3) := by decide +kernel
theorem dX7_init_19 : decode cX7_init 19 = .ok (.dup, 1) := by decide +kernel
theorem dX7_init_20 : decode cX7_init 20 = .ok (.invokespecial 20, 3) := by decide +kernel
theorem dX7_init_23 : decode cX7_init 23 = .ok (.putfield 21, 3) := by decide +kernel
theorem dX7_init_26 : decode cX7_init 26 = .ok (.aload_n 0, 1) := by decide +kernel
theorem dX7_init_27 : decode cX7_init 27 = .ok (.iconst 0, 1) := by decide +kernel
theorem dX7_init_28 : decode cX7_init 28 = .ok (.putfield 25, 3) := by decide +kernel
theorem dX7_init_31 : decode cX7_init 31 = .ok (.aload_n 0, 1) := by decide +kernel
theorem dX7_init_32 : decode cX7_init 32 = .ok (.iconst (-1), 1) := by decide +kernel
theorem dX7_init_33 : decode cX7_init 33 = .ok (.putfield 29, 3) := by decide +kernel
theorem dX7_init_36 : decode cX7_init 36 = .ok (.aload_n 0, 1) := by decide +kernel
theorem dX7_init_37 : decode cX7_init 37 = .ok (.iconst 0, 1) := by decide +kernel
theorem dX7_init_38 : decode cX7_init 38 = .ok (.putfield 32, 3) := by decide +kernel
theorem dX7_init_41 : decode cX7_init 41 = .ok (.return_, 1) := by decide +kernel
set_option maxHeartbeats 2000000 in
set_option maxRecDepth 20000 in
theorem c_X7_init (l : Launch) (D : va_G) (cy : Nat → ClassId) (B N : Nat) (M : MM) (hN : (N : Int) = 1 + 1) (hd : DF 1 26 M) : CN l D cy B N (N + 24) 21 24 2116 yX7_init cX7_init 1 [rv B 1] M (fun M' => RR 1 26 M' ∧ F2 1 26 M M' ∧ (M'.1 1 1 = 5) ∧ (M'.1 2 4 = 0)) := by
  refine mk_CN (by decide) rfl (Nat.le_of_ble_eq_true rfl) ?_
  intro X exl exD excy hnL hX hin hRc hRs hret
  have hpl : pl 1 = ((5 : Nat) : Int) := pl_o (r := (RX7, TX7, 5)) (by decide +kernel : kd 1 = .inl 7) rfl
  have hG : F2 1 26 M M := F2.rf
  have hD : DF 2 26 M := hd.sub (by omega) (Int.le_refl _)
  have hU : UL 1 [] M := UL_0 (hd.at _ (by omega) (by omega))
  have hR : RR 2 2 M := RR_0
  show J X B N 0 0 0 [(0, rv B 1)] [] M
  refine j_aload_n hX dX7_init_0 rfl 0 rfl ?_
  refine j_objInit hX (in_1 35 (by first | rfl | decide +kernel) rfl) (in_1 28 (by first | rfl | decide +kernel) rfl) (in_1 29 (by first | rfl | decide +kernel) rfl) (by omega) (Nat.le_of_ble_eq_true rfl) dX7_init_1 ?_
  refine j_aload_n hX dX7_init_4 rfl 0 rfl ?_
  refine j_new hX (k := 2) (by omega) hin_9 tyX9_ok rfl (in_1 36 (by first | rfl | decide +kernel) rfl) (in_1 37 (by first | rfl | decide +kernel) rfl) (in_1 3 (by first | rfl | decide +kernel) rfl) (by decide +kernel : kd 2 = .inl 9) (fun _ => rfl) okX9 (hD.at _ (by omega) (by omega)) ⟨by omega, by omega⟩ dX7_init_5 ?_
  refine j_dup hX dX7_init_8 rfl ?_
  refine j_callP hX (in_1 38 (by first | rfl | decide +kernel) rfl) lkI_9 (c_X9_init _ _ _ _ _ _ (by omega) (hD.sub (by omega) (by omega))) (by omega) ⟨by omega, by omega⟩ (Nat.le_of_ble_eq_true rfl) dX7_init_9 (fun M1 hp2 => ?_)
  obtain ⟨hRn3, hGn4, hx5⟩ := hp2
  have hG6 := F2.trans hG hGn4 (by omega) (by omega)
  have hD7 := DF_f2 (hD.sub (lo' := 5) (by omega) (Int.le_refl _)) hGn4 (by omega)
  have hU8 := UL_f2 hU hGn4 (by omega)
  have hR9 := RR_f2 hR hGn4 (Or.inl (by omega))
  have hR10 : RR 2 5 M1 := RR_j hR9 hRn3
  refine pfF_X7_12 hX hin (by omega) (by omega) (by decide +kernel : kd 1 = .inl 7) (by omega) (by omega) dX7_init_12 ?_
  refine j_upN (fun M11 hM12 hf13 => ?_)
  have hG14 := F2.put hG6 hM12 ⟨by omega, by omega⟩
  have hD15 := DF_up hD7 hM12 (by omega)
  have hU16 := UL_up hU8 hM12
  have hR17 := RR_up hR10 hM12 (Or.inl (by omega))
  have hx218 := kp_up hM12 (fun h => absurd h.1 (by decide)) hx5
  refine j_aload_n hX dX7_init_15 rfl 0 rfl ?_
  refine j_new hX (k := 5) (by omega) hin_6 tyX6_ok rfl (in_1 128 (by first | rfl | decide +kernel) rfl) (in_1 129 (by first | rfl | decide +kernel) rfl) (in_1 8 (by first | rfl | decide +kernel) rfl) (by decide +kernel : kd 5 = .inl 6) (fun _ => rfl) okX6 (hD15.at _ (by omega) (by omega)) ⟨by omega, by omega⟩ dX7_init_16 ?_
  refine j_dup hX dX7_init_19 rfl ?_
  refine j_callN hX (List.mem_of_getElem? (i := 1) rfl) lkI_6 (c_X6_init _ _ _ _ _ 5 _ (by omega) (by omega) (hD15.sub (by omega) (by omega))) (by omega) ⟨by omega, by omega⟩ (Nat.le_of_ble_eq_true rfl) dX7_init_20 (fun M19 hp20 => ?_)
  obtain ⟨hRn21, hGn22, hx23⟩ := hp20
  have hG24 := F2.trans hG14 hGn22 (by omega) (by omega)
  have hD25 := DF_f2 (hD15.sub (lo' := 26) (by omega) (Int.le_refl _)) hGn22 (by omega)
  have hU26 := UL_f2 hU16 hGn22 (by omega)
  have hR27 := RR_f2 hR17 hGn22 (Or.inl (by omega))
  have hk28 := kp_f2 hGn22 (by omega) hf13
  clear hf13
  have hx229 := kp_f2 hGn22 (by omega) hx218
  have hR30 : RR 2 26 M19 := RR_j hR27 hRn21
  refine pf_X7_21 hX (by omega) (by omega) (by decide +kernel : kd 1 = .inl 7) (by omega) (by omega) dX7_init_23 ?_
  refine j_upN (fun M31 hM32 hf33 => ?_)
  have hG34 := F2.put hG24 hM32 ⟨by omega, by omega⟩
  have hD35 := DF_up hD25 hM32 (by omega)
  have hU36 := UL_up hU26 hM32
  have hR37 := RR_up hR30 hM32 (Or.inl (by omega))
  have hk38 := kp_up hM32 (fun h => absurd h.2 (by decide)) hk28
  clear hk28
  have hx239 := kp_up hM32 (fun h => absurd h.1 (by decide)) hx229
  refine j_aload_n hX dX7_init_26 rfl 0 rfl ?_
  refine j_iconst hX dX7_init_27 ?_
  refine pf_X7_25 hX (by omega) (by omega) (by decide +kernel : kd 1 = .inl 7) (by omega) dX7_init_28 ?_
  refine j_upN (fun M40 hM41 hf42 => ?_)
  have hG43 := F2.put hG34 hM41 ⟨by omega, by omega⟩
  have hD44 := DF_up hD35 hM41 (by omega)
  have hU45 := UL_up hU36 hM41
  have hR46 := RR_up hR37 hM41 (Or.inl (by omega))
  have hk47 := kp_up hM41 (fun h => absurd h.2 (by decide)) hk38
  have hk48 := kp_up hM41 (fun h => absurd h.2 (by decide)) hf33
  clear hk38 hf33
  have hx249 := kp_up hM41 (fun h => absurd h.1 (by decide)) hx239
  refine j_aload_n hX dX7_init_31 rfl 0 rfl ?_
  refine j_iconst hX dX7_init_32 ?_
  refine pf_X7_29 hX (by omega) (by omega) (by decide +kernel : kd 1 = .inl 7) (by omega) dX7_init_33 ?_
  refine j_upN (fun M50 hM51 hf52 => ?_)
  have hG53 := F2.put hG43 hM51 ⟨by omega, by omega⟩
  have hD54 := DF_up hD44 hM51 (by omega)
  have hU55 := UL_up hU45 hM51
  have hR56 := RR_up hR46 hM51 (Or.inl (by omega))
  have hk57 := kp_up hM51 (fun h => absurd h.2 (by decide)) hk47
  have hk58 := kp_up hM51 (fun h => absurd h.2 (by decide)) hk48
  have hk59 := kp_up hM51 (fun h => absurd h.2 (by decide)) hf42
  clear hk47 hk48 hf42
  have hx260 := kp_up hM51 (fun h => absurd h.1 (by decide)) hx249
  refine j_aload_n hX dX7_init_36 rfl 0 rfl ?_
  refine j_iconst hX dX7_init_37 ?_
  refine pf_X7_32 hX (by omega) (by omega) (by decide +kernel : kd 1 = .inl 7) (by omega) dX7_init_38 ?_
  refine j_upN (fun M61 hM62 hf63 => ?_)
  have hG64 := F2.put hG53 hM62 ⟨by omega, by omega⟩
  have hD65 := DF_up hD54 hM62 (by omega)
  have hU66 := UL_up hU55 hM62
  have hR67 := RR_up hR56 hM62 (Or.inl (by omega))
  have hk68 := kp_up hM62 (fun h => absurd h.2 (by decide)) hk57
  have hk69 := kp_up hM62 (fun h => absurd h.2 (by decide)) hk58
  have hk70 := kp_up hM62 (fun h => absurd h.2 (by decide)) hk59
  have hk71 := kp_up hM62 (fun h => absurd h.2 (by decide)) hf52
  clear hk57 hk58 hk59 hf52
  have hx272 := kp_up hM62 (fun h => absurd h.1 (by decide)) hx260
  have hRo : Rg 1 M61 := by
    refine Rg_obj (n := 5) hpl hU66 (by decide) (by omega) (fun j hj => ?_)
    rcases (by omega : j = 0 ∨ j = 1 ∨ j = 2 ∨ j = 3 ∨ j = 4) with h | h | h | h | h
    · subst h
      show (rg 1 0).1 ≤ M61.1 1 0 ∧ M61.1 1 0 ≤ (rg 1 0).2
      rw [rz_1_0, hk68]; exact ⟨by dsimp only; omega, by dsimp only; omega⟩
    · subst h
      show (rg 1 1).1 ≤ M61.1 1 1 ∧ M61.1 1 1 ≤ (rg 1 1).2
      rw [rz_1_1, hk69]; exact ⟨by dsimp only; omega, by dsimp only; omega⟩
    · subst h
      show (rg 1 2).1 ≤ M61.1 1 2 ∧ M61.1 1 2 ≤ (rg 1 2).2
      rw [rz_1_2, hk70]; exact ⟨by dsimp only; omega, by dsimp only; omega⟩
    · subst h
      show (rg 1 3).1 ≤ M61.1 1 3 ∧ M61.1 1 3 ≤ (rg 1 3).2
      rw [rz_1_3, hk71]; exact ⟨by dsimp only; omega, by dsimp only; omega⟩
    · subst h
      show (rg 1 4).1 ≤ M61.1 1 4 ∧ M61.1 1 4 ≤ (rg 1 4).2
      rw [rz_1_4, hf63]; exact ⟨by dsimp only; omega, by dsimp only; omega⟩
  have hRa : RR 1 26 M61 := RR_j (RR_s RR_0 hRo (by omega)) hR67
  exact j_widen (by omega) (by omega) (hret _ _ _ dX7_init_41 ⟨hRa, hG64, hk69, hx272⟩)
theorem dX10_init_0 : decode cX10_init 0 = .ok (.aload_n 0, 1) := by decide +kernel
theorem dX10_init_1 : decode cX10_init 1 = .ok (.invokespecial 1, 3) := by decide +kernel
theorem dX10_init_4 : decode cX10_init 4 = .ok (.aload_n 0, 1) := by decide +kernel
theorem dX10_init_5 : decode cX10_init 5 = .ok (.new 7, 3) := by decide +kernel
theorem dX10_init_8 : decode cX10_init 8 = .ok (.dup, 1) := by decide +kernel
theorem dX10_init_9 : decode cX10_init 9 = .ok (.invokespecial 9, 3) := by decide +kernel
theorem dX10_init_12 : decode cX10_init 12 = .ok (.putfield 10, 3) := by decide +kernel
theorem dX10_init_15 : decode cX10_init 15 = .ok (.aload_n 0, 1) := by decide +kernel
theorem dX10_init_16 : decode cX10_init 16 = .ok (.new 16, 3) := by decide +kernel
theorem dX10_init_19 : decode cX10_init 19 = .ok (.dup, 1) := by decide +kernel
theorem dX10_init_20 : decode cX10_init 20 = .ok (.invokespecial 18, 3) := by decide +kernel
theorem dX10_init_23 : decode cX10_init 23 = .ok (.putfield 19, 3) := by decide +kernel
theorem dX10_init_26 : decode cX10_init 26 = .ok (.aload_n 0, 1) := by decide +kernel
theorem dX10_init_27 : decode cX10_init 27 = .ok (.new 23, 3) := by decide +kernel
theorem dX10_init_30 : decode cX10_init 30 = .ok (.dup, 1) := by decide +kernel
theorem dX10_init_31 : decode cX10_init 31 = .ok (.invokespecial 25, 3) := by decide +kernel
theorem dX10_init_34 : decode cX10_init 34 = .ok (.putfield 26, 3) := by decide +kernel
theorem dX10_init_37 : decode cX10_init 37 = .ok (.aload_n 0, 1) := by decide +kernel
theorem dX10_init_38 : decode cX10_init 38 = .ok (.new 30, 3) := by decide +kernel
theorem dX10_init_41 : decode cX10_init 41 = .ok (.dup, 1) := by decide +kernel
theorem dX10_init_42 : decode cX10_init 42 = .ok (.invokespecial 32, 3) := by decide +kernel
theorem dX10_init_45 : decode cX10_init 45 = .ok (.putfield 33, 3) := by decide +kernel
theorem dX10_init_48 : decode cX10_init 48 = .ok (.aload_n 0, 1) := by decide +kernel
theorem dX10_init_49 : decode cX10_init 49 = .ok (.iconst 3, 1) := by decide +kernel
theorem dX10_init_50 : decode cX10_init 50 = .ok (.anewarray 30, 3) := by decide +kernel
theorem dX10_init_53 : decode cX10_init 53 = .ok (.putfield 37, 3) := by decide +kernel
theorem dX10_init_56 : decode cX10_init 56 = .ok (.aload_n 0, 1) := by decide +kernel
theorem dX10_init_57 : decode cX10_init 57 = .ok (.new 41, 3) := by decide +kernel
theorem dX10_init_60 : decode cX10_init 60 = .ok (.dup, 1) := by decide +kernel
theorem dX10_init_61 : decode cX10_init 61 = .ok (.invokespecial 43, 3) := by decide +kernel
theorem dX10_init_64 : decode cX10_init 64 = .ok (.putfield 44, 3) := by decide +kernel
theorem dX10_init_67 : decode cX10_init 67 = .ok (.aload_n 0, 1) := by decide +kernel
theorem dX10_init_68 : decode cX10_init 68 = .ok (.new 48, 3) := by decide +kernel
theorem dX10_init_71 : decode cX10_init 71 = .ok (.dup, 1) := by decide +kernel
theorem dX10_init_72 : decode cX10_init 72 = .ok (.invokespecial 50, 3) := by decide +kernel
theorem dX10_init_75 : decode cX10_init 75 = .ok (.putfield 51, 3) := by decide +kernel
theorem dX10_init_78 : decode cX10_init 78 = .ok (.aload_n 0, 1) := by decide +kernel
theorem dX10_init_79 : decode cX10_init 79 = .ok (.bipush 6, 2) := by decide +kernel
theorem dX10_init_81 : decode cX10_init 81 = .ok (.newarray .int, 2) := by decide +kernel
theorem dX10_init_83 : decode cX10_init 83 = .ok (.putfield 55, 3) := by decide +kernel
theorem dX10_init_86 : decode cX10_init 86 = .ok (.aload_n 0, 1) := by decide +kernel
theorem dX10_init_87 : decode cX10_init 87 = .ok (.new 59, 3) := by decide +kernel
theorem dX10_init_90 : decode cX10_init 90 = .ok (.dup, 1) := by decide +kernel
theorem dX10_init_91 : decode cX10_init 91 = .ok (.invokespecial 61, 3) := by decide +kernel
theorem dX10_init_94 : decode cX10_init 94 = .ok (.putfield 62, 3) := by decide +kernel
theorem dX10_init_97 : decode cX10_init 97 = .ok (.aload_n 0, 1) := by decide +kernel
theorem dX10_init_98 : decode cX10_init 98 = .ok (.iconst 0, 1) := by decide +kernel
theorem dX10_init_99 : decode cX10_init 99 = .ok (.putfield 66, 3) := by decide +kernel
theorem dX10_init_102 : decode cX10_init 102 = .ok (.aload_n 0, 1) := by decide +kernel
theorem dX10_init_103 : decode cX10_init 103 = .ok (.iconst 0, 1) := by decide +kernel
theorem dX10_init_104 : decode cX10_init 104 = .ok (.putfield 70, 3) := by decide +kernel
theorem dX10_init_107 : decode cX10_init 107 = .ok (.aload_n 0, 1) := by decide +kernel
theorem dX10_init_108 : decode cX10_init 108 = .ok (.iconst 0, 1) := by decide +kernel
theorem dX10_init_109 : decode cX10_init 109 = .ok (.putfield 73, 3) := by decide +kernel
theorem dX10_init_112 : decode cX10_init 112 = .ok (.iconst 0, 1) := by decide +kernel
theorem dX10_init_113 : decode cX10_init 113 = .ok (.istore_n 1, 1) := by decide +kernel
theorem dX10_init_114 : decode cX10_init 114 = .ok (.iload_n 1, 1) := by decide +kernel
theorem dX10_init_115 : decode cX10_init 115 = .ok (.iconst 3, 1) := by decide +kernel
theorem dX10_init_116 : decode cX10_init 116 = .ok (.if_icmp .ge 22, 3) := by decide +kernel
theorem dX10_init_119 : decode cX10_init 119 = .ok (.aload_n 0, 1) := by decide +kernel
theorem dX10_init_120 : decode cX10_init 120 = .ok (.getfield 37, 3) := by decide +kernel
theorem dX10_init_123 : decode cX10_init 123 = .ok (.iload_n 1, 1) := by decide +kernel
theorem dX10_init_124 : decode cX10_init 124 = .ok (.new 30, 3) := by decide +kernel
theorem dX10_init_127 : decode cX10_init 127 = .ok (.dup, 1) := by decide +kernel
theorem dX10_init_128 : decode cX10_init 128 = .ok (.invokespecial 32, 3) := by decide +kernel
theorem dX10_init_131 : decode cX10_init 131 = .ok (.aastore, 1) := by decide +kernel
theorem dX10_init_132 : decode cX10_init 132 = .ok (.iinc 1 1, 3) := by decide +kernel
theorem dX10_init_135 : decode cX10_init 135 = .ok (.goto (-21), 3) := by decide +kernel
theorem dX10_init_138 : decode cX10_init 138 = .ok (.aload_n 0, 1) := by decide +kernel
theorem dX10_init_139 : decode cX10_init 139 = .ok (.getfield 19, 3) := by decide +kernel
theorem dX10_init_142 : decode cX10_init 142 = .ok (.aload_n 0, 1) := by decide +kernel
theorem dX10_init_143 : decode cX10_init 143 = .ok (.getfield 62, 3) := by decide +kernel
theorem dX10_init_146 : decode cX10_init 146 = .ok (.invokevirtual 76, 3) := by decide +kernel
theorem dX10_init_149 : decode cX10_init 149 = .ok (.return_, 1) := by decide +kernel
set_option maxHeartbeats 2000000 in
set_option maxRecDepth 20000 in
theorem c_X10_init (l : Launch) (D : va_G) (cy : Nat → ClassId) (B N : Nat) (M : MM) (hN : (N : Int) = 0 + 1) (hd : DF 0 210 M) (hq : ∀ k, ¬ (0 ≤ k ∧ k < 210) → Rg k M) : CN l D cy B N (N + 209) 22 209 3699 yX10_init cX10_init 2 [rv B 0] M (fun M' => Iv M' ∧ CIv M' ∧ M'.1 0 11 = 0) := by
  refine mk_CN (by decide) rfl (Nat.le_of_ble_eq_true rfl) ?_
  intro X exl exD excy hnL hX hin hRc hRs hret
  have hpl : pl 0 = ((12 : Nat) : Int) := pl_o (r := (RX10, TX10, 12)) (by decide +kernel : kd 0 = .inl 10) rfl
  have hG : F2 0 210 M M := F2.rf
  have hD : DF 1 210 M := hd.sub (by omega) (Int.le_refl _)
  have hU : UL 0 [] M := UL_0 (hd.at _ (by omega) (by omega))
  have hR : RR 1 1 M := RR_0
  show J X B N 0 0 0 [(0, rv B 0)] [] M
  refine j_aload_n hX dX10_init_0 rfl 0 rfl ?_
  refine j_objInit hX (in_1 27 (by first | rfl | decide +kernel) rfl) (in_1 28 (by first | rfl | decide +kernel) rfl) (in_1 29 (by first | rfl | decide +kernel) rfl) (by omega) (Nat.le_of_ble_eq_true rfl) dX10_init_1 ?_
  refine j_aload_n hX dX10_init_4 rfl 0 rfl ?_
  refine j_new hX (k := 1) (by omega) hin_7 tyX7_ok rfl (in_1 30 (by first | rfl | decide +kernel) rfl) (in_1 31 (by first | rfl | decide +kernel) rfl) (in_1 2 (by first | rfl | decide +kernel) rfl) (by decide +kernel : kd 1 = .inl 7) (fun _ => rfl) okX7 (hD.at _ (by omega) (by omega)) ⟨by omega, by omega⟩ dX10_init_5 ?_
  refine j_dup hX dX10_init_8 rfl ?_
  refine j_callN hX (List.mem_of_getElem? (i := 0) rfl) lkI_7 (c_X7_init _ _ _ _ _ _ (by omega) (hD.sub (by omega) (by omega))) (by omega) ⟨by omega, by omega⟩ (Nat.le_of_ble_eq_true rfl) dX10_init_9 (fun M1 hp2 => ?_)
  obtain ⟨hRn3, hGn4, hx5, hx6⟩ := hp2
  have hG7 := F2.trans hG hGn4 (by omega) (by omega)
  have hD8 := DF_f2 (hD.sub (lo' := 26) (by omega) (Int.le_refl _)) hGn4 (by omega)
  have hU9 := UL_f2 hU hGn4 (by omega)
  have hR10 := RR_f2 hR hGn4 (Or.inl (by omega))
  have hR11 : RR 1 26 M1 := RR_j hR10 hRn3
  refine pfF_X10_10 hX hin (by omega) (by omega) (by decide +kernel : kd 0 = .inl 10) (by omega) (by omega) dX10_init_12 ?_
  refine j_upN (fun M12 hM13 hf14 => ?_)
  have hG15 := F2.put hG7 hM13 ⟨by omega, by omega⟩
  have hD16 := DF_up hD8 hM13 (by omega)
  have hU17 := UL_up hU9 hM13
  have hR18 := RR_up hR11 hM13 (Or.inl (by omega))
  have hq19 := kp_up hM13 (by omega) hx5
  have hq20 := kp_up hM13 (by omega) hx6
  refine j_aload_n hX dX10_init_15 rfl 0 rfl ?_
  refine j_new hX (k := 26) (by omega) hin_0 tyX0_ok rfl (in_2 41 (by first | rfl | decide +kernel) rfl) (in_2 42 (by first | rfl | decide +kernel) rfl) (in_1 10 (by first | rfl | decide +kernel) rfl) (by decide +kernel : kd 26 = .inl 0) (fun _ => rfl) okX0 (hD16.at _ (by omega) (by omega)) ⟨by omega, by omega⟩ dX10_init_16 ?_
  refine j_dup hX dX10_init_19 rfl ?_
  refine j_callP hX (in_2 43 (by first | rfl | decide +kernel) rfl) lkI_0 (c_X0_init _ _ _ _ _ _ (by omega) (hD16.sub (by omega) (by omega))) (by omega) ⟨by omega, by omega⟩ (Nat.le_of_ble_eq_true rfl) dX10_init_20 (fun M21 hp22 => ?_)
  obtain ⟨hRn23, hGn24, hx25, hx26, hx27⟩ := hp22
  have hG28 := F2.trans hG15 hGn24 (by omega) (by omega)
  have hD29 := DF_f2 (hD16.sub (lo' := 151) (by omega) (Int.le_refl _)) hGn24 (by omega)
  have hU30 := UL_f2 hU17 hGn24 (by omega)
  have hR31 := RR_f2 hR18 hGn24 (Or.inl (by omega))
  have hk32 := kp_f2 hGn24 (by omega) hf14
  clear hf14
  have hq33 := kp_f2 hGn24 (by omega) hq19
  have hq34 := kp_f2 hGn24 (by omega) hq20
  have hR35 : RR 1 151 M21 := RR_j hR31 hRn23
  refine pfF_X10_19 hX hin (by omega) (by omega) (by decide +kernel : kd 0 = .inl 10) (by omega) (by omega) dX10_init_23 ?_
  refine j_upN (fun M36 hM37 hf38 => ?_)
  have hG39 := F2.put hG28 hM37 ⟨by omega, by omega⟩
  have hD40 := DF_up hD29 hM37 (by omega)
  have hU41 := UL_up hU30 hM37
  have hR42 := RR_up hR35 hM37 (Or.inl (by omega))
  have hk43 := kp_up hM37 (fun h => absurd h.2 (by decide)) hk32
  clear hk32
  have hq44 := kp_up hM37 (by omega) hq33
  have hq45 := kp_up hM37 (by omega) hq34
  have hq46 := kp_up hM37 (by omega) hx25
  have hq47 := kp_up hM37 (by omega) hx26
  have hq48 := SS_up hx27 hM37 (by omega)
  refine j_aload_n hX dX10_init_26 rfl 0 rfl ?_
  refine j_new hX (k := 151) (by omega) hin_1 tyX1_ok rfl (in_2 96 (by first | rfl | decide +kernel) rfl) (in_2 97 (by first | rfl | decide +kernel) rfl) (in_1 12 (by first | rfl | decide +kernel) rfl) (by decide +kernel : kd 151 = .inl 1) (fun _ => rfl) okX1 (hD40.at _ (by omega) (by omega)) ⟨by omega, by omega⟩ dX10_init_27 ?_
  refine j_dup hX dX10_init_30 rfl ?_
  refine j_callN hX (List.mem_of_getElem? (i := 4) rfl) lkI_1 (c_X1_init _ _ _ _ _ _ (by omega) (hD40.sub (by omega) (by omega))) (by omega) ⟨by omega, by omega⟩ (Nat.le_of_ble_eq_true rfl) dX10_init_31 (fun M49 hp50 => ?_)
  obtain ⟨hRn51, hGn52⟩ := hp50
  have hG53 := F2.trans hG39 hGn52 (by omega) (by omega)
  have hD54 := DF_f2 (hD40.sub (lo' := 153) (by omega) (Int.le_refl _)) hGn52 (by omega)
  have hU55 := UL_f2 hU41 hGn52 (by omega)
  have hR56 := RR_f2 hR42 hGn52 (Or.inl (by omega))
  have hk57 := kp_f2 hGn52 (by omega) hk43
  have hk58 := kp_f2 hGn52 (by omega) hf38
  clear hk43 hf38
  have hq59 := kp_f2 hGn52 (by omega) hq44
  have hq60 := kp_f2 hGn52 (by omega) hq45
  have hq61 := kp_f2 hGn52 (by omega) hq46
  have hq62 := kp_f2 hGn52 (by omega) hq47
  have hq63 := SS_f2 hq48 hGn52 (by omega)
  have hR64 : RR 1 153 M49 := RR_j hR56 hRn51
  refine pfF_X10_26 hX hin (by omega) (by omega) (by decide +kernel : kd 0 = .inl 10) (by omega) (by omega) dX10_init_34 ?_
  refine j_upN (fun M65 hM66 hf67 => ?_)
  have hG68 := F2.put hG53 hM66 ⟨by omega, by omega⟩
  have hD69 := DF_up hD54 hM66 (by omega)
  have hU70 := UL_up hU55 hM66
  have hR71 := RR_up hR64 hM66 (Or.inl (by omega))
  have hk72 := kp_up hM66 (fun h => absurd h.2 (by decide)) hk57
  have hk73 := kp_up hM66 (fun h => absurd h.2 (by decide)) hk58
  clear hk57 hk58
  have hq74 := kp_up hM66 (by omega) hq59
  have hq75 := kp_up hM66 (by omega) hq60
  have hq76 := kp_up hM66 (by omega) hq61
  have hq77 := kp_up hM66 (by omega) hq62
  have hq78 := SS_up hq63 hM66 (by omega)
  refine j_aload_n hX dX10_init_37 rfl 0 rfl ?_
  refine j_new hX (k := 153) (by omega) hin_8 tyX8_ok rfl (in_2 106 (by first | rfl | decide +kernel) rfl) (in_2 49 (by first | rfl | decide +kernel) rfl) (in_1 11 (by first | rfl | decide +kernel) rfl) (by decide +kernel : kd 153 = .inl 8) (fun _ => rfl) okX8 (hD69.at _ (by omega) (by omega)) ⟨by omega, by omega⟩ dX10_init_38 ?_
  refine j_dup hX dX10_init_41 rfl ?_
  refine j_callN hX (List.mem_of_getElem? (i := 5) rfl) lkI_8 (c_X8_init _ _ _ _ _ 153 _ (by unfold Sc; omega) (by omega) (hD69.sub (by omega) (by omega))) (by omega) ⟨by omega, by omega⟩ (Nat.le_of_ble_eq_true rfl) dX10_init_42 (fun M79 hp80 => ?_)
  obtain ⟨hRn81, hGn82⟩ := hp80
  have hG83 := F2.trans hG68 hGn82 (by omega) (by omega)
  have hD84 := DF_f2 (hD69.sub (lo' := 156) (by omega) (Int.le_refl _)) hGn82 (by omega)
  have hU85 := UL_f2 hU70 hGn82 (by omega)
  have hR86 := RR_f2 hR71 hGn82 (Or.inl (by omega))
  have hk87 := kp_f2 hGn82 (by omega) hk72
  have hk88 := kp_f2 hGn82 (by omega) hk73
  have hk89 := kp_f2 hGn82 (by omega) hf67
  clear hk72 hk73 hf67
  have hq90 := kp_f2 hGn82 (by omega) hq74
  have hq91 := kp_f2 hGn82 (by omega) hq75
  have hq92 := kp_f2 hGn82 (by omega) hq76
  have hq93 := kp_f2 hGn82 (by omega) hq77
  have hq94 := SS_f2 hq78 hGn82 (by omega)
  have hR95 : RR 1 156 M79 := RR_j hR86 hRn81
  refine pfF_X10_33 hX hin (by omega) (by omega) (by decide +kernel : kd 0 = .inl 10) (by omega) (by omega) dX10_init_45 ?_
  refine j_upN (fun M96 hM97 hf98 => ?_)
  have hG99 := F2.put hG83 hM97 ⟨by omega, by omega⟩
  have hD100 := DF_up hD84 hM97 (by omega)
  have hU101 := UL_up hU85 hM97
  have hR102 := RR_up hR95 hM97 (Or.inl (by omega))
  have hk103 := kp_up hM97 (fun h => absurd h.2 (by decide)) hk87
  have hk104 := kp_up hM97 (fun h => absurd h.2 (by decide)) hk88
  have hk105 := kp_up hM97 (fun h => absurd h.2 (by decide)) hk89
  clear hk87 hk88 hk89
  have hq106 := kp_up hM97 (by omega) hq90
  have hq107 := kp_up hM97 (by omega) hq91
  have hq108 := kp_up hM97 (by omega) hq92
  have hq109 := kp_up hM97 (by omega) hq93
  have hq110 := SS_up hq94 hM97 (by omega)
  refine j_aload_n hX dX10_init_48 rfl 0 rfl ?_
  refine j_iconst hX dX10_init_49 ?_
  refine j_newq hX (k := 156) (by omega) (n := 3) (in_2 106 (by first | rfl | decide +kernel) rfl) (by decide +kernel : kd 156 = .inr (4, 3)) rfl (by decide) (hD100.at _ (by omega) (by omega)) ⟨by omega, by omega⟩ dX10_init_50 ?_
  have hU2 : UL 156 [] M96 := UL_0 (hD100.at 156 (by omega) (by omega))
  have hR111 : RR 157 157 M96 := RR_0
  refine pfF_X10_37 hX hin (by omega) (by omega) (by decide +kernel : kd 0 = .inl 10) (by omega) (by omega) dX10_init_53 ?_
  refine j_upN (fun M112 hM113 hf114 => ?_)
  have hG115 := F2.put hG99 hM113 ⟨by omega, by omega⟩
  have hD116 := DF_up hD100 hM113 (by omega)
  have hU117 := UL_up hU101 hM113
  have hR118 := RR_up hR111 hM113 (Or.inl (by omega))
  have hk119 := kp_up hM113 (fun h => absurd h.2 (by decide)) hk103
  have hk120 := kp_up hM113 (fun h => absurd h.2 (by decide)) hk104
  have hk121 := kp_up hM113 (fun h => absurd h.2 (by decide)) hk105
  have hk122 := kp_up hM113 (fun h => absurd h.2 (by decide)) hf98
  clear hk103 hk104 hk105 hf98
  have hq123 := kp_up hM113 (by omega) hq106
  have hq124 := kp_up hM113 (by omega) hq107
  have hq125 := kp_up hM113 (by omega) hq108
  have hq126 := kp_up hM113 (by omega) hq109
  have hq127 := SS_up hq110 hM113 (by omega)
  have hR128 := RR_up hR102 hM113 (Or.inl (by omega))
  have hU129 := UL_ne hU2 hM113 (by omega)
  refine j_aload_n hX dX10_init_56 rfl 0 rfl ?_
  refine j_new hX (k := 157) (by omega) hin_5 tyX5_ok rfl (in_2 108 (by first | rfl | decide +kernel) rfl) (in_2 109 (by first | rfl | decide +kernel) rfl) (in_1 13 (by first | rfl | decide +kernel) rfl) (by decide +kernel : kd 157 = .inl 5) (fun _ => rfl) okX5 (hD116.at _ (by omega) (by omega)) ⟨by omega, by omega⟩ dX10_init_57 ?_
  refine j_dup hX dX10_init_60 rfl ?_
  refine j_callP hX (in_2 110 (by first | rfl | decide +kernel) rfl) lkI_5 (c_X5_init _ _ _ _ _ _ (by omega) (hD116.sub (by omega) (by omega))) (by omega) ⟨by omega, by omega⟩ (Nat.le_of_ble_eq_true rfl) dX10_init_61 (fun M130 hp131 => ?_)
  obtain ⟨hRn132, hGn133⟩ := hp131
  have hG134 := F2.trans hG115 hGn133 (by omega) (by omega)
  have hD135 := DF_f2 (hD116.sub (lo' := 164) (by omega) (Int.le_refl _)) hGn133 (by omega)
  have hU136 := UL_f2 hU117 hGn133 (by omega)
  have hR137 := RR_f2 hR118 hGn133 (Or.inl (by omega))
  have hk138 := kp_f2 hGn133 (by omega) hk119
  have hk139 := kp_f2 hGn133 (by omega) hk120
  have hk140 := kp_f2 hGn133 (by omega) hk121
  have hk141 := kp_f2 hGn133 (by omega) hk122
  have hk142 := kp_f2 hGn133 (by omega) hf114
  clear hk119 hk120 hk121 hk122 hf114
  have hq143 := kp_f2 hGn133 (by omega) hq123
  have hq144 := kp_f2 hGn133 (by omega) hq124
  have hq145 := kp_f2 hGn133 (by omega) hq125
  have hq146 := kp_f2 hGn133 (by omega) hq126
  have hq147 := SS_f2 hq127 hGn133 (by omega)
  have hR148 := RR_f2 hR128 hGn133 (Or.inl (by omega))
  have hU149 := UL_f2 hU129 hGn133 (by omega)
  have hR150 : RR 157 164 M130 := RR_j hR137 hRn132
  refine pfF_X10_44 hX hin (by omega) (by omega) (by decide +kernel : kd 0 = .inl 10) (by omega) (by omega) dX10_init_64 ?_
  refine j_upN (fun M151 hM152 hf153 => ?_)
  have hG154 := F2.put hG134 hM152 ⟨by omega, by omega⟩
  have hD155 := DF_up hD135 hM152 (by omega)
  have hU156 := UL_up hU136 hM152
  have hR157 := RR_up hR150 hM152 (Or.inl (by omega))
  have hk158 := kp_up hM152 (fun h => absurd h.2 (by decide)) hk138
  have hk159 := kp_up hM152 (fun h => absurd h.2 (by decide)) hk139
  have hk160 := kp_up hM152 (fun h => absurd h.2 (by decide)) hk140
  have hk161 := kp_up hM152 (fun h => absurd h.2 (by decide)) hk141
  have hk162 := kp_up hM152 (fun h => absurd h.2 (by decide)) hk142
  clear hk138 hk139 hk140 hk141 hk142
  have hq163 := kp_up hM152 (by omega) hq143
  have hq164 := kp_up hM152 (by omega) hq144
  have hq165 := kp_up hM152 (by omega) hq145
  have hq166 := kp_up hM152 (by omega) hq146
  have hq167 := SS_up hq147 hM152 (by omega)
  have hR168 := RR_up hR148 hM152 (Or.inl (by omega))
  have hU169 := UL_ne hU149 hM152 (by omega)
  refine j_aload_n hX dX10_init_67 rfl 0 rfl ?_
  refine j_new hX (k := 164) (by omega) hin_3 tyX3_ok rfl (in_2 149 (by first | rfl | decide +kernel) rfl) (in_2 150 (by first | rfl | decide +kernel) rfl) (in_1 16 (by first | rfl | decide +kernel) rfl) (by decide +kernel : kd 164 = .inl 3) (fun _ => rfl) okX3 (hD155.at _ (by omega) (by omega)) ⟨by omega, by omega⟩ dX10_init_68 ?_
  refine j_dup hX dX10_init_71 rfl ?_
  refine j_callN hX (List.mem_of_getElem? (i := 7) rfl) lkI_3 (c_X3_init _ _ _ _ _ _ (by omega) (hD155.sub (by omega) (by omega))) (by omega) ⟨by omega, by omega⟩ (Nat.le_of_ble_eq_true rfl) dX10_init_72 (fun M170 hp171 => ?_)
  obtain ⟨hRn172, hGn173⟩ := hp171
  have hG174 := F2.trans hG154 hGn173 (by omega) (by omega)
  have hD175 := DF_f2 (hD155.sub (lo' := 179) (by omega) (Int.le_refl _)) hGn173 (by omega)
  have hU176 := UL_f2 hU156 hGn173 (by omega)
  have hR177 := RR_f2 hR157 hGn173 (Or.inl (by omega))
  have hk178 := kp_f2 hGn173 (by omega) hk158
  have hk179 := kp_f2 hGn173 (by omega) hk159
  have hk180 := kp_f2 hGn173 (by omega) hk160
  have hk181 := kp_f2 hGn173 (by omega) hk161
  have hk182 := kp_f2 hGn173 (by omega) hk162
  have hk183 := kp_f2 hGn173 (by omega) hf153
  clear hk158 hk159 hk160 hk161 hk162 hf153
  have hq184 := kp_f2 hGn173 (by omega) hq163
  have hq185 := kp_f2 hGn173 (by omega) hq164
  have hq186 := kp_f2 hGn173 (by omega) hq165
  have hq187 := kp_f2 hGn173 (by omega) hq166
  have hq188 := SS_f2 hq167 hGn173 (by omega)
  have hR189 := RR_f2 hR168 hGn173 (Or.inl (by omega))
  have hU190 := UL_f2 hU169 hGn173 (by omega)
  have hR191 : RR 157 179 M170 := RR_j hR177 hRn172
  refine pfF_X10_51 hX hin (by omega) (by omega) (by decide +kernel : kd 0 = .inl 10) (by omega) (by omega) dX10_init_75 ?_
  refine j_upN (fun M192 hM193 hf194 => ?_)
  have hG195 := F2.put hG174 hM193 ⟨by omega, by omega⟩
  have hD196 := DF_up hD175 hM193 (by omega)
  have hU197 := UL_up hU176 hM193
  have hR198 := RR_up hR191 hM193 (Or.inl (by omega))
  have hk199 := kp_up hM193 (fun h => absurd h.2 (by decide)) hk178
  have hk200 := kp_up hM193 (fun h => absurd h.2 (by decide)) hk179
  have hk201 := kp_up hM193 (fun h => absurd h.2 (by decide)) hk180
  have hk202 := kp_up hM193 (fun h => absurd h.2 (by decide)) hk181
  have hk203 := kp_up hM193 (fun h => absurd h.2 (by decide)) hk182
  have hk204 := kp_up hM193 (fun h => absurd h.2 (by decide)) hk183
  clear hk178 hk179 hk180 hk181 hk182 hk183
  have hq205 := kp_up hM193 (by omega) hq184
  have hq206 := kp_up hM193 (by omega) hq185
  have hq207 := kp_up hM193 (by omega) hq186
  have hq208 := kp_up hM193 (by omega) hq187
  have hq209 := SS_up hq188 hM193 (by omega)
  have hR210 := RR_up hR189 hM193 (Or.inl (by omega))
  have hU211 := UL_ne hU190 hM193 (by omega)
  refine j_aload_n hX dX10_init_78 rfl 0 rfl ?_
  refine j_bipush hX dX10_init_79 rfl ?_
  refine j_newa hX (k := 179) (by omega) (t := 0) (n := 6) rfl (by decide) (in_1 163 (by first | rfl | decide +kernel) rfl) (by decide +kernel : kd 179 = .inr (0, 6)) rfl (by decide) (hD196.at _ (by omega) (by omega)) ⟨by omega, by omega⟩ dX10_init_81 ?_
  have hR212 : RR 157 180 M192 := RR_s hR198 (Rg_plain (by omega) (by omega) (by decide +kernel : kd 179 = .inr (0, 6)) (by decide) (hD196.at _ (by omega) (by omega))) (by omega)
  refine pfF_X10_55 hX hin (by omega) (by omega) (by decide +kernel : kd 0 = .inl 10) (by omega) (by omega) dX10_init_83 ?_
  refine j_upN (fun M213 hM214 hf215 => ?_)
  have hG216 := F2.put hG195 hM214 ⟨by omega, by omega⟩
  have hD217 := DF_up hD196 hM214 (by omega)
  have hU218 := UL_up hU197 hM214
  have hR219 := RR_up hR212 hM214 (Or.inl (by omega))
  have hk220 := kp_up hM214 (fun h => absurd h.2 (by decide)) hk199
  have hk221 := kp_up hM214 (fun h => absurd h.2 (by decide)) hk200
  have hk222 := kp_up hM214 (fun h => absurd h.2 (by decide)) hk201
  have hk223 := kp_up hM214 (fun h => absurd h.2 (by decide)) hk202
  have hk224 := kp_up hM214 (fun h => absurd h.2 (by decide)) hk203
  have hk225 := kp_up hM214 (fun h => absurd h.2 (by decide)) hk204
  have hk226 := kp_up hM214 (fun h => absurd h.2 (by decide)) hf194
  clear hk199 hk200 hk201 hk202 hk203 hk204 hf194
  have hq227 := kp_up hM214 (by omega) hq205
  have hq228 := kp_up hM214 (by omega) hq206
  have hq229 := kp_up hM214 (by omega) hq207
  have hq230 := kp_up hM214 (by omega) hq208
  have hq231 := SS_up hq209 hM214 (by omega)
  have hR232 := RR_up hR210 hM214 (Or.inl (by omega))
  have hU233 := UL_ne hU211 hM214 (by omega)
  refine j_aload_n hX dX10_init_86 rfl 0 rfl ?_
  refine j_new hX (k := 180) (by omega) hin_6 tyX6_ok rfl (in_2 187 (by first | rfl | decide +kernel) rfl) (in_1 129 (by first | rfl | decide +kernel) rfl) (in_1 8 (by first | rfl | decide +kernel) rfl) (by decide +kernel : kd 180 = .inl 6) (fun _ => rfl) okX6 (hD217.at _ (by omega) (by omega)) ⟨by omega, by omega⟩ dX10_init_87 ?_
  refine j_dup hX dX10_init_90 rfl ?_
  refine j_callN hX (List.mem_of_getElem? (i := 9) rfl) lkI_6 (c_X6_init _ _ _ _ _ 180 _ (by omega) (by omega) (hD217.sub (by omega) (by omega))) (by omega) ⟨by omega, by omega⟩ (Nat.le_of_ble_eq_true rfl) dX10_init_91 (fun M234 hp235 => ?_)
  obtain ⟨hRn236, hGn237, hx238⟩ := hp235
  have hG239 := F2.trans hG216 hGn237 (by omega) (by omega)
  have hD240 := DF_f2 (hD217.sub (lo' := 201) (by omega) (Int.le_refl _)) hGn237 (by omega)
  have hU241 := UL_f2 hU218 hGn237 (by omega)
  have hR242 := RR_f2 hR219 hGn237 (Or.inl (by omega))
  have hk243 := kp_f2 hGn237 (by omega) hk220
  have hk244 := kp_f2 hGn237 (by omega) hk221
  have hk245 := kp_f2 hGn237 (by omega) hk222
  have hk246 := kp_f2 hGn237 (by omega) hk223
  have hk247 := kp_f2 hGn237 (by omega) hk224
  have hk248 := kp_f2 hGn237 (by omega) hk225
  have hk249 := kp_f2 hGn237 (by omega) hk226
  have hk250 := kp_f2 hGn237 (by omega) hf215
  clear hk220 hk221 hk222 hk223 hk224 hk225 hk226 hf215
  have hq251 := kp_f2 hGn237 (by omega) hq227
  have hq252 := kp_f2 hGn237 (by omega) hq228
  have hq253 := kp_f2 hGn237 (by omega) hq229
  have hq254 := kp_f2 hGn237 (by omega) hq230
  have hq255 := SS_f2 hq231 hGn237 (by omega)
  have hR256 := RR_f2 hR232 hGn237 (Or.inl (by omega))
  have hU257 := UL_f2 hU233 hGn237 (by omega)
  have hR258 : RR 157 201 M234 := RR_j hR242 hRn236
  refine pf_X10_62 hX (by omega) (by omega) (by decide +kernel : kd 0 = .inl 10) (by omega) (by omega) dX10_init_94 ?_
  refine j_upN (fun M259 hM260 hf261 => ?_)
  have hG262 := F2.put hG239 hM260 ⟨by omega, by omega⟩
  have hD263 := DF_up hD240 hM260 (by omega)
  have hU264 := UL_up hU241 hM260
  have hR265 := RR_up hR258 hM260 (Or.inl (by omega))
  have hk266 := kp_up hM260 (fun h => absurd h.2 (by decide)) hk243
  have hk267 := kp_up hM260 (fun h => absurd h.2 (by decide)) hk244
  have hk268 := kp_up hM260 (fun h => absurd h.2 (by decide)) hk245
  have hk269 := kp_up hM260 (fun h => absurd h.2 (by decide)) hk246
  have hk270 := kp_up hM260 (fun h => absurd h.2 (by decide)) hk247
  have hk271 := kp_up hM260 (fun h => absurd h.2 (by decide)) hk248
  have hk272 := kp_up hM260 (fun h => absurd h.2 (by decide)) hk249
  have hk273 := kp_up hM260 (fun h => absurd h.2 (by decide)) hk250
  clear hk243 hk244 hk245 hk246 hk247 hk248 hk249 hk250
  have hq274 := kp_up hM260 (by omega) hq251
  have hq275 := kp_up hM260 (by omega) hq252
  have hq276 := kp_up hM260 (by omega) hq253
  have hq277 := kp_up hM260 (by omega) hq254
  have hq278 := SS_up hq255 hM260 (by omega)
  have hq279 := kp_up hM260 (by omega) hx238
  have hR280 := RR_up hR256 hM260 (Or.inl (by omega))
  have hU281 := UL_ne hU257 hM260 (by omega)
  refine j_aload_n hX dX10_init_97 rfl 0 rfl ?_
  refine j_iconst hX dX10_init_98 ?_
  refine pf_X10_66 hX (by omega) (by omega) (by decide +kernel : kd 0 = .inl 10) (by omega) dX10_init_99 ?_
  refine j_upN (fun M282 hM283 hf284 => ?_)
  have hG285 := F2.put hG262 hM283 ⟨by omega, by omega⟩
  have hD286 := DF_up hD263 hM283 (by omega)
  have hU287 := UL_up hU264 hM283
  have hR288 := RR_up hR265 hM283 (Or.inl (by omega))
  have hk289 := kp_up hM283 (fun h => absurd h.2 (by decide)) hk266
  have hk290 := kp_up hM283 (fun h => absurd h.2 (by decide)) hk267
  have hk291 := kp_up hM283 (fun h => absurd h.2 (by decide)) hk268
  have hk292 := kp_up hM283 (fun h => absurd h.2 (by decide)) hk269
  have hk293 := kp_up hM283 (fun h => absurd h.2 (by decide)) hk270
  have hk294 := kp_up hM283 (fun h => absurd h.2 (by decide)) hk271
  have hk295 := kp_up hM283 (fun h => absurd h.2 (by decide)) hk272
  have hk296 := kp_up hM283 (fun h => absurd h.2 (by decide)) hk273
  have hk297 := kp_up hM283 (fun h => absurd h.2 (by decide)) hf261
  clear hk266 hk267 hk268 hk269 hk270 hk271 hk272 hk273 hf261
  have hq298 := kp_up hM283 (by omega) hq274
  have hq299 := kp_up hM283 (by omega) hq275
  have hq300 := kp_up hM283 (by omega) hq276
  have hq301 := kp_up hM283 (by omega) hq277
  have hq302 := SS_up hq278 hM283 (by omega)
  have hq303 := kp_up hM283 (by omega) hq279
  have hR304 := RR_up hR280 hM283 (Or.inl (by omega))
  have hU305 := UL_ne hU281 hM283 (by omega)
  refine j_aload_n hX dX10_init_102 rfl 0 rfl ?_
  refine j_iconst hX dX10_init_103 ?_
  refine pf_X10_70 hX (by omega) (by omega) (by decide +kernel : kd 0 = .inl 10) (by omega) dX10_init_104 ?_
  refine j_upN (fun M306 hM307 hf308 => ?_)
  have hG309 := F2.put hG285 hM307 ⟨by omega, by omega⟩
  have hD310 := DF_up hD286 hM307 (by omega)
  have hU311 := UL_up hU287 hM307
  have hR312 := RR_up hR288 hM307 (Or.inl (by omega))
  have hk313 := kp_up hM307 (fun h => absurd h.2 (by decide)) hk289
  have hk314 := kp_up hM307 (fun h => absurd h.2 (by decide)) hk290
  have hk315 := kp_up hM307 (fun h => absurd h.2 (by decide)) hk291
  have hk316 := kp_up hM307 (fun h => absurd h.2 (by decide)) hk292
  have hk317 := kp_up hM307 (fun h => absurd h.2 (by decide)) hk293
  have hk318 := kp_up hM307 (fun h => absurd h.2 (by decide)) hk294
  have hk319 := kp_up hM307 (fun h => absurd h.2 (by decide)) hk295
  have hk320 := kp_up hM307 (fun h => absurd h.2 (by decide)) hk296
  have hk321 := kp_up hM307 (fun h => absurd h.2 (by decide)) hk297
  have hk322 := kp_up hM307 (fun h => absurd h.2 (by decide)) hf284
  clear hk289 hk290 hk291 hk292 hk293 hk294 hk295 hk296 hk297 hf284
  have hq323 := kp_up hM307 (by omega) hq298
  have hq324 := kp_up hM307 (by omega) hq299
  have hq325 := kp_up hM307 (by omega) hq300
  have hq326 := kp_up hM307 (by omega) hq301
  have hq327 := SS_up hq302 hM307 (by omega)
  have hq328 := kp_up hM307 (by omega) hq303
  have hR329 := RR_up hR304 hM307 (Or.inl (by omega))
  have hU330 := UL_ne hU305 hM307 (by omega)
  refine j_aload_n hX dX10_init_107 rfl 0 rfl ?_
  refine j_iconst hX dX10_init_108 ?_
  refine pf_X10_73 hX (by omega) (by omega) (by decide +kernel : kd 0 = .inl 10) (by omega) dX10_init_109 ?_
  refine j_upN (fun M331 hM332 hf333 => ?_)
  have hG334 := F2.put hG309 hM332 ⟨by omega, by omega⟩
  have hD335 := DF_up hD310 hM332 (by omega)
  have hU336 := UL_up hU311 hM332
  have hR337 := RR_up hR312 hM332 (Or.inl (by omega))
  have hk338 := kp_up hM332 (fun h => absurd h.2 (by decide)) hk313
  have hk339 := kp_up hM332 (fun h => absurd h.2 (by decide)) hk314
  have hk340 := kp_up hM332 (fun h => absurd h.2 (by decide)) hk315
  have hk341 := kp_up hM332 (fun h => absurd h.2 (by decide)) hk316
  have hk342 := kp_up hM332 (fun h => absurd h.2 (by decide)) hk317
  have hk343 := kp_up hM332 (fun h => absurd h.2 (by decide)) hk318
  have hk344 := kp_up hM332 (fun h => absurd h.2 (by decide)) hk319
  have hk345 := kp_up hM332 (fun h => absurd h.2 (by decide)) hk320
  have hk346 := kp_up hM332 (fun h => absurd h.2 (by decide)) hk321
  have hk347 := kp_up hM332 (fun h => absurd h.2 (by decide)) hk322
  have hk348 := kp_up hM332 (fun h => absurd h.2 (by decide)) hf308
  clear hk313 hk314 hk315 hk316 hk317 hk318 hk319 hk320 hk321 hk322 hf308
  have hq349 := kp_up hM332 (by omega) hq323
  have hq350 := kp_up hM332 (by omega) hq324
  have hq351 := kp_up hM332 (by omega) hq325
  have hq352 := kp_up hM332 (by omega) hq326
  have hq353 := SS_up hq327 hM332 (by omega)
  have hq354 := kp_up hM332 (by omega) hq328
  have hR355 := RR_up hR329 hM332 (Or.inl (by omega))
  have hU356 := UL_ne hU330 hM332 (by omega)
  refine j_iconst hX dX10_init_112 ?_
  refine j_istore_n (lv' := [(1, _), (0, _)]) hX dX10_init_113 rfl (by rw [hnL]; decide) rfl ?_
  refine j_iload_n hX dX10_init_114 rfl 0 rfl ?_
  refine j_iconst hX dX10_init_115 ?_
  refine j_icmp_ge (tgt := 138) hX dX10_init_116 (by decide) (by omega) (by omega) (fun h => absurd h (by omega)) (fun _ => ?_)
  refine j_aload_n hX dX10_init_119 rfl 1 rfl ?_
  refine gf_X10_37 hX (by omega) (by omega) (by decide +kernel : kd 0 = .inl 10) hk342 (by omega) dX10_init_120 ?_
  refine j_iload_n hX dX10_init_123 rfl 0 rfl ?_
  refine j_new hX (k := 201) (by omega) hin_8 tyX8_ok rfl (in_2 106 (by first | rfl | decide +kernel) rfl) (in_2 49 (by first | rfl | decide +kernel) rfl) (in_1 11 (by first | rfl | decide +kernel) rfl) (by decide +kernel : kd 201 = .inl 8) (fun _ => rfl) okX8 (hD335.at _ (by omega) (by omega)) ⟨by omega, by omega⟩ dX10_init_124 ?_
  refine j_dup hX dX10_init_127 rfl ?_
  refine j_callN hX (List.mem_of_getElem? (i := 5) rfl) lkI_8 (c_X8_init _ _ _ _ _ 201 _ (by unfold Sc; omega) (by omega) (hD335.sub (by omega) (by omega))) (by omega) ⟨by omega, by omega⟩ (Nat.le_of_ble_eq_true rfl) dX10_init_128 (fun M357 hp358 => ?_)
  obtain ⟨hRn359, hGn360⟩ := hp358
  have hG361 := F2.trans hG334 hGn360 (by omega) (by omega)
  have hD362 := DF_f2 (hD335.sub (lo' := 204) (by omega) (Int.le_refl _)) hGn360 (by omega)
  have hU363 := UL_f2 hU336 hGn360 (by omega)
  have hR364 := RR_f2 hR337 hGn360 (Or.inl (by omega))
  have hk365 := kp_f2 hGn360 (by omega) hk338
  have hk366 := kp_f2 hGn360 (by omega) hk339
  have hk367 := kp_f2 hGn360 (by omega) hk340
  have hk368 := kp_f2 hGn360 (by omega) hk341
  have hk369 := kp_f2 hGn360 (by omega) hk342
  have hk370 := kp_f2 hGn360 (by omega) hk343
  have hk371 := kp_f2 hGn360 (by omega) hk344
  have hk372 := kp_f2 hGn360 (by omega) hk345
  have hk373 := kp_f2 hGn360 (by omega) hk346
  have hk374 := kp_f2 hGn360 (by omega) hk347
  have hk375 := kp_f2 hGn360 (by omega) hk348
  have hk376 := kp_f2 hGn360 (by omega) hf333
  clear hk338 hk339 hk340 hk341 hk342 hk343 hk344 hk345 hk346 hk347 hk348 hf333
  have hq377 := kp_f2 hGn360 (by omega) hq349
  have hq378 := kp_f2 hGn360 (by omega) hq350
  have hq379 := kp_f2 hGn360 (by omega) hq351
  have hq380 := kp_f2 hGn360 (by omega) hq352
  have hq381 := SS_f2 hq353 hGn360 (by omega)
  have hq382 := kp_f2 hGn360 (by omega) hq354
  have hR383 := RR_f2 hR355 hGn360 (Or.inl (by omega))
  have hU384 := UL_f2 hU356 hGn360 (by omega)
  have hR385 : RR 157 204 M357 := RR_j hR364 hRn359
  refine j_aast4 hX (by omega) (by omega) (by decide +kernel : kd 156 = .inr (4, 3)) (by omega) (by omega) (by decide) (by omega) (by omega) (by omega) (by decide +kernel) dX10_init_131 ?_
  refine j_upN (fun M386 hM387 hf388 => ?_)
  have hG389 := F2.put hG361 hM387 ⟨by omega, by omega⟩
  have hD390 := DF_up hD362 hM387 (by omega)
  have hU391 := UL_ne hU363 hM387 (by omega)
  have hR392 := RR_up hR385 hM387 (Or.inl (by omega))
  have hU393 := UL_up hU384 hM387
  have hk394 := kp_up hM387 (fun h => absurd h.1 (by decide)) hk365
  have hk395 := kp_up hM387 (fun h => absurd h.1 (by decide)) hk366
  have hk396 := kp_up hM387 (fun h => absurd h.1 (by decide)) hk367
  have hk397 := kp_up hM387 (fun h => absurd h.1 (by decide)) hk368
  have hk398 := kp_up hM387 (fun h => absurd h.1 (by decide)) hk369
  have hk399 := kp_up hM387 (fun h => absurd h.1 (by decide)) hk370
  have hk400 := kp_up hM387 (fun h => absurd h.1 (by decide)) hk371
  have hk401 := kp_up hM387 (fun h => absurd h.1 (by decide)) hk372
  have hk402 := kp_up hM387 (fun h => absurd h.1 (by decide)) hk373
  have hk403 := kp_up hM387 (fun h => absurd h.1 (by decide)) hk374
  have hk404 := kp_up hM387 (fun h => absurd h.1 (by decide)) hk375
  have hk405 := kp_up hM387 (fun h => absurd h.1 (by decide)) hk376
  clear hk365 hk366 hk367 hk368 hk369 hk370 hk371 hk372 hk373 hk374 hk375 hk376
  have hq406 := kp_up hM387 (by omega) hq377
  have hq407 := kp_up hM387 (by omega) hq378
  have hq408 := kp_up hM387 (by omega) hq379
  have hq409 := kp_up hM387 (by omega) hq380
  have hq410 := SS_up hq381 hM387 (by omega)
  have hq411 := kp_up hM387 (by omega) hq382
  have hR412 := RR_up hR383 hM387 (Or.inr (by omega))
  refine j_iinc (lv' := [(1, _), (0, _)]) hX dX10_init_132 0 rfl (by rw [hnL]; decide) rfl ?_
  refine j_locE (show _ = (1 : Int) by decide) ?_
  refine j_goto (tgt := 114) hX dX10_init_135 (by decide) ?_
  refine j_iload_n hX dX10_init_114 rfl 0 rfl ?_
  refine j_iconst hX dX10_init_115 ?_
  refine j_icmp_ge (tgt := 138) hX dX10_init_116 (by decide) (by omega) (by omega) (fun h => absurd h (by omega)) (fun _ => ?_)
  refine j_aload_n hX dX10_init_119 rfl 1 rfl ?_
  refine gf_X10_37 hX (by omega) (by omega) (by decide +kernel : kd 0 = .inl 10) hk398 (by omega) dX10_init_120 ?_
  refine j_iload_n hX dX10_init_123 rfl 0 rfl ?_
  refine j_new hX (k := 204) (by omega) hin_8 tyX8_ok rfl (in_2 106 (by first | rfl | decide +kernel) rfl) (in_2 49 (by first | rfl | decide +kernel) rfl) (in_1 11 (by first | rfl | decide +kernel) rfl) (by decide +kernel : kd 204 = .inl 8) (fun _ => rfl) okX8 (hD390.at _ (by omega) (by omega)) ⟨by omega, by omega⟩ dX10_init_124 ?_
  refine j_dup hX dX10_init_127 rfl ?_
  refine j_callN hX (List.mem_of_getElem? (i := 5) rfl) lkI_8 (c_X8_init _ _ _ _ _ 204 _ (by unfold Sc; omega) (by omega) (hD390.sub (by omega) (by omega))) (by omega) ⟨by omega, by omega⟩ (Nat.le_of_ble_eq_true rfl) dX10_init_128 (fun M413 hp414 => ?_)
  obtain ⟨hRn415, hGn416⟩ := hp414
  have hG417 := F2.trans hG389 hGn416 (by omega) (by omega)
  have hD418 := DF_f2 (hD390.sub (lo' := 207) (by omega) (Int.le_refl _)) hGn416 (by omega)
  have hU419 := UL_f2 hU391 hGn416 (by omega)
  have hR420 := RR_f2 hR392 hGn416 (Or.inl (by omega))
  have hk421 := kp_f2 hGn416 (by omega) hk394
  have hk422 := kp_f2 hGn416 (by omega) hk395
  have hk423 := kp_f2 hGn416 (by omega) hk396
  have hk424 := kp_f2 hGn416 (by omega) hk397
  have hk425 := kp_f2 hGn416 (by omega) hk398
  have hk426 := kp_f2 hGn416 (by omega) hk399
  have hk427 := kp_f2 hGn416 (by omega) hk400
  have hk428 := kp_f2 hGn416 (by omega) hk401
  have hk429 := kp_f2 hGn416 (by omega) hk402
  have hk430 := kp_f2 hGn416 (by omega) hk403
  have hk431 := kp_f2 hGn416 (by omega) hk404
  have hk432 := kp_f2 hGn416 (by omega) hk405
  clear hk394 hk395 hk396 hk397 hk398 hk399 hk400 hk401 hk402 hk403 hk404 hk405
  have hq433 := kp_f2 hGn416 (by omega) hq406
  have hq434 := kp_f2 hGn416 (by omega) hq407
  have hq435 := kp_f2 hGn416 (by omega) hq408
  have hq436 := kp_f2 hGn416 (by omega) hq409
  have hq437 := SS_f2 hq410 hGn416 (by omega)
  have hq438 := kp_f2 hGn416 (by omega) hq411
  have hq439 := kp_f2 hGn416 (by omega) hf388
  have hR440 := RR_f2 hR412 hGn416 (Or.inl (by omega))
  have hU441 := UL_f2 hU393 hGn416 (by omega)
  have hR442 : RR 157 207 M413 := RR_j hR420 hRn415
  refine j_aast4 hX (by omega) (by omega) (by decide +kernel : kd 156 = .inr (4, 3)) (by omega) (by omega) (by decide) (by omega) (by omega) (by omega) (by decide +kernel) dX10_init_131 ?_
  refine j_upN (fun M443 hM444 hf445 => ?_)
  have hG446 := F2.put hG417 hM444 ⟨by omega, by omega⟩
  have hD447 := DF_up hD418 hM444 (by omega)
  have hU448 := UL_ne hU419 hM444 (by omega)
  have hR449 := RR_up hR442 hM444 (Or.inl (by omega))
  have hU450 := UL_up hU441 hM444
  have hk451 := kp_up hM444 (fun h => absurd h.1 (by decide)) hk421
  have hk452 := kp_up hM444 (fun h => absurd h.1 (by decide)) hk422
  have hk453 := kp_up hM444 (fun h => absurd h.1 (by decide)) hk423
  have hk454 := kp_up hM444 (fun h => absurd h.1 (by decide)) hk424
  have hk455 := kp_up hM444 (fun h => absurd h.1 (by decide)) hk425
  have hk456 := kp_up hM444 (fun h => absurd h.1 (by decide)) hk426
  have hk457 := kp_up hM444 (fun h => absurd h.1 (by decide)) hk427
  have hk458 := kp_up hM444 (fun h => absurd h.1 (by decide)) hk428
  have hk459 := kp_up hM444 (fun h => absurd h.1 (by decide)) hk429
  have hk460 := kp_up hM444 (fun h => absurd h.1 (by decide)) hk430
  have hk461 := kp_up hM444 (fun h => absurd h.1 (by decide)) hk431
  have hk462 := kp_up hM444 (fun h => absurd h.1 (by decide)) hk432
  clear hk421 hk422 hk423 hk424 hk425 hk426 hk427 hk428 hk429 hk430 hk431 hk432
  have hq463 := kp_up hM444 (by omega) hq433
  have hq464 := kp_up hM444 (by omega) hq434
  have hq465 := kp_up hM444 (by omega) hq435
  have hq466 := kp_up hM444 (by omega) hq436
  have hq467 := SS_up hq437 hM444 (by omega)
  have hq468 := kp_up hM444 (by omega) hq438
  have hq469 := kp_up hM444 (by omega) hq439
  have hR470 := RR_up hR440 hM444 (Or.inr (by omega))
  refine j_iinc (lv' := [(1, _), (0, _)]) hX dX10_init_132 0 rfl (by rw [hnL]; decide) rfl ?_
  refine j_locE (show _ = (2 : Int) by decide) ?_
  refine j_goto (tgt := 114) hX dX10_init_135 (by decide) ?_
  refine j_iload_n hX dX10_init_114 rfl 0 rfl ?_
  refine j_iconst hX dX10_init_115 ?_
  refine j_icmp_ge (tgt := 138) hX dX10_init_116 (by decide) (by omega) (by omega) (fun h => absurd h (by omega)) (fun _ => ?_)
  refine j_aload_n hX dX10_init_119 rfl 1 rfl ?_
  refine gf_X10_37 hX (by omega) (by omega) (by decide +kernel : kd 0 = .inl 10) hk455 (by omega) dX10_init_120 ?_
  refine j_iload_n hX dX10_init_123 rfl 0 rfl ?_
  refine j_new hX (k := 207) (by omega) hin_8 tyX8_ok rfl (in_2 106 (by first | rfl | decide +kernel) rfl) (in_2 49 (by first | rfl | decide +kernel) rfl) (in_1 11 (by first | rfl | decide +kernel) rfl) (by decide +kernel : kd 207 = .inl 8) (fun _ => rfl) okX8 (hD447.at _ (by omega) (by omega)) ⟨by omega, by omega⟩ dX10_init_124 ?_
  refine j_dup hX dX10_init_127 rfl ?_
  refine j_callN hX (List.mem_of_getElem? (i := 5) rfl) lkI_8 (c_X8_init _ _ _ _ _ 207 _ (by unfold Sc; omega) (by omega) (hD447.sub (by omega) (by omega))) (by omega) ⟨by omega, by omega⟩ (Nat.le_of_ble_eq_true rfl) dX10_init_128 (fun M471 hp472 => ?_)
  obtain ⟨hRn473, hGn474⟩ := hp472
  have hG475 := F2.trans hG446 hGn474 (by omega) (by omega)
  have hD476 := DF_f2 (hD447.sub (lo' := 210) (by omega) (Int.le_refl _)) hGn474 (by omega)
  have hU477 := UL_f2 hU448 hGn474 (by omega)
  have hR478 := RR_f2 hR449 hGn474 (Or.inl (by omega))
  have hk479 := kp_f2 hGn474 (by omega) hk451
  have hk480 := kp_f2 hGn474 (by omega) hk452
  have hk481 := kp_f2 hGn474 (by omega) hk453
  have hk482 := kp_f2 hGn474 (by omega) hk454
  have hk483 := kp_f2 hGn474 (by omega) hk455
  have hk484 := kp_f2 hGn474 (by omega) hk456
  have hk485 := kp_f2 hGn474 (by omega) hk457
  have hk486 := kp_f2 hGn474 (by omega) hk458
  have hk487 := kp_f2 hGn474 (by omega) hk459
  have hk488 := kp_f2 hGn474 (by omega) hk460
  have hk489 := kp_f2 hGn474 (by omega) hk461
  have hk490 := kp_f2 hGn474 (by omega) hk462
  clear hk451 hk452 hk453 hk454 hk455 hk456 hk457 hk458 hk459 hk460 hk461 hk462
  have hq491 := kp_f2 hGn474 (by omega) hq463
  have hq492 := kp_f2 hGn474 (by omega) hq464
  have hq493 := kp_f2 hGn474 (by omega) hq465
  have hq494 := kp_f2 hGn474 (by omega) hq466
  have hq495 := SS_f2 hq467 hGn474 (by omega)
  have hq496 := kp_f2 hGn474 (by omega) hq468
  have hq497 := kp_f2 hGn474 (by omega) hq469
  have hq498 := kp_f2 hGn474 (by omega) hf445
  have hR499 := RR_f2 hR470 hGn474 (Or.inl (by omega))
  have hU500 := UL_f2 hU450 hGn474 (by omega)
  have hR501 : RR 157 210 M471 := RR_j hR478 hRn473
  refine j_aast4 hX (by omega) (by omega) (by decide +kernel : kd 156 = .inr (4, 3)) (by omega) (by omega) (by decide) (by omega) (by omega) (by omega) (by decide +kernel) dX10_init_131 ?_
  refine j_upN (fun M502 hM503 hf504 => ?_)
  have hG505 := F2.put hG475 hM503 ⟨by omega, by omega⟩
  have hD506 := DF_up hD476 hM503 (by omega)
  have hU507 := UL_ne hU477 hM503 (by omega)
  have hR508 := RR_up hR501 hM503 (Or.inl (by omega))
  have hU509 := UL_up hU500 hM503
  have hk510 := kp_up hM503 (fun h => absurd h.1 (by decide)) hk479
  have hk511 := kp_up hM503 (fun h => absurd h.1 (by decide)) hk480
  have hk512 := kp_up hM503 (fun h => absurd h.1 (by decide)) hk481
  have hk513 := kp_up hM503 (fun h => absurd h.1 (by decide)) hk482
  have hk514 := kp_up hM503 (fun h => absurd h.1 (by decide)) hk483
  have hk515 := kp_up hM503 (fun h => absurd h.1 (by decide)) hk484
  have hk516 := kp_up hM503 (fun h => absurd h.1 (by decide)) hk485
  have hk517 := kp_up hM503 (fun h => absurd h.1 (by decide)) hk486
  have hk518 := kp_up hM503 (fun h => absurd h.1 (by decide)) hk487
  have hk519 := kp_up hM503 (fun h => absurd h.1 (by decide)) hk488
  have hk520 := kp_up hM503 (fun h => absurd h.1 (by decide)) hk489
  have hk521 := kp_up hM503 (fun h => absurd h.1 (by decide)) hk490
  clear hk479 hk480 hk481 hk482 hk483 hk484 hk485 hk486 hk487 hk488 hk489 hk490
  have hq522 := kp_up hM503 (by omega) hq491
  have hq523 := kp_up hM503 (by omega) hq492
  have hq524 := kp_up hM503 (by omega) hq493
  have hq525 := kp_up hM503 (by omega) hq494
  have hq526 := SS_up hq495 hM503 (by omega)
  have hq527 := kp_up hM503 (by omega) hq496
  have hq528 := kp_up hM503 (by omega) hq497
  have hq529 := kp_up hM503 (by omega) hq498
  have hR530 := RR_up hR499 hM503 (Or.inr (by omega))
  refine j_iinc (lv' := [(1, _), (0, _)]) hX dX10_init_132 0 rfl (by rw [hnL]; decide) rfl ?_
  refine j_locE (show _ = (3 : Int) by decide) ?_
  refine j_goto (tgt := 114) hX dX10_init_135 (by decide) ?_
  refine j_iload_n hX dX10_init_114 rfl 0 rfl ?_
  refine j_iconst hX dX10_init_115 ?_
  refine j_icmp_ge (tgt := 138) hX dX10_init_116 (by decide) (by omega) (by omega) (fun _ => ?_) (fun h => absurd h (by omega))
  refine j_aload_n hX dX10_init_138 rfl 1 rfl ?_
  refine gf_X10_19 hX (by omega) (by omega) (by decide +kernel : kd 0 = .inl 10) hk511 (by omega) dX10_init_139 ?_
  refine j_aload_n hX dX10_init_142 rfl 1 rfl ?_
  refine gf_X10_62 hX (by omega) (by omega) (by decide +kernel : kd 0 = .inl 10) hk518 (by omega) dX10_init_143 ?_
  have hRo : Rg 0 M502 := by
    refine Rg_obj (n := 12) hpl hU507 (by decide) (by omega) (fun j hj => ?_)
    rcases (by omega : j = 0 ∨ j = 1 ∨ j = 2 ∨ j = 3 ∨ j = 4 ∨ j = 5 ∨ j = 6 ∨ j = 7 ∨ j = 8 ∨ j = 9 ∨ j = 10 ∨ j = 11) with h | h | h | h | h | h | h | h | h | h | h | h
    · subst h
      show (rg 0 0).1 ≤ M502.1 0 0 ∧ M502.1 0 0 ≤ (rg 0 0).2
      rw [rz_0_0, hk510]; exact ⟨by dsimp only; omega, by dsimp only; omega⟩
    · subst h
      show (rg 0 1).1 ≤ M502.1 0 1 ∧ M502.1 0 1 ≤ (rg 0 1).2
      rw [rz_0_1, hk511]; exact ⟨by dsimp only; omega, by dsimp only; omega⟩
    · subst h
      show (rg 0 2).1 ≤ M502.1 0 2 ∧ M502.1 0 2 ≤ (rg 0 2).2
      rw [rz_0_2, hk512]; exact ⟨by dsimp only; omega, by dsimp only; omega⟩
    · subst h
      show (rg 0 3).1 ≤ M502.1 0 3 ∧ M502.1 0 3 ≤ (rg 0 3).2
      rw [rz_0_3, hk513]; exact ⟨by dsimp only; omega, by dsimp only; omega⟩
    · subst h
      show (rg 0 4).1 ≤ M502.1 0 4 ∧ M502.1 0 4 ≤ (rg 0 4).2
      rw [rz_0_4, hk514]; exact ⟨by dsimp only; omega, by dsimp only; omega⟩
    · subst h
      show (rg 0 5).1 ≤ M502.1 0 5 ∧ M502.1 0 5 ≤ (rg 0 5).2
      rw [rz_0_5, hk515]; exact ⟨by dsimp only; omega, by dsimp only; omega⟩
    · subst h
      show (rg 0 6).1 ≤ M502.1 0 6 ∧ M502.1 0 6 ≤ (rg 0 6).2
      rw [rz_0_6, hk516]; exact ⟨by dsimp only; omega, by dsimp only; omega⟩
    · subst h
      show (rg 0 7).1 ≤ M502.1 0 7 ∧ M502.1 0 7 ≤ (rg 0 7).2
      rw [rz_0_7, hk517]; exact ⟨by dsimp only; omega, by dsimp only; omega⟩
    · subst h
      show (rg 0 8).1 ≤ M502.1 0 8 ∧ M502.1 0 8 ≤ (rg 0 8).2
      rw [rz_0_8, hk518]; exact ⟨by dsimp only; omega, by dsimp only; omega⟩
    · subst h
      show (rg 0 9).1 ≤ M502.1 0 9 ∧ M502.1 0 9 ≤ (rg 0 9).2
      rw [rz_0_9, hk519]; exact ⟨by dsimp only; omega, by dsimp only; omega⟩
    · subst h
      show (rg 0 10).1 ≤ M502.1 0 10 ∧ M502.1 0 10 ≤ (rg 0 10).2
      rw [rz_0_10, hk520]; exact ⟨by dsimp only; omega, by dsimp only; omega⟩
    · subst h
      show (rg 0 11).1 ≤ M502.1 0 11 ∧ M502.1 0 11 ≤ (rg 0 11).2
      rw [rz_0_11, hk521]; exact ⟨by dsimp only; omega, by dsimp only; omega⟩
  have hRb : Rg 156 M502 := by
    refine Rg_obj (n := 3) (pl_a (by decide +kernel : kd 156 = .inr (4, 3))) hU509 (by decide) (by omega) (fun j hj => ?_)
    rcases (by omega : j = 0 ∨ j = 1 ∨ j = 2) with h | h | h
    · subst h
      show (rg 156 0).1 ≤ M502.1 156 0 ∧ M502.1 156 0 ≤ (rg 156 0).2
      rw [(by decide +kernel : rg 156 0 = (201, 201)), hq528]; exact ⟨by decide, by decide⟩
    · subst h
      show (rg 156 1).1 ≤ M502.1 156 1 ∧ M502.1 156 1 ≤ (rg 156 1).2
      rw [(by decide +kernel : rg 156 1 = (204, 204)), hq529]; exact ⟨by decide, by decide⟩
    · subst h
      show (rg 156 2).1 ≤ M502.1 156 2 ∧ M502.1 156 2 ≤ (rg 156 2).2
      rw [(by decide +kernel : rg 156 2 = (207, 207)), hf504]; exact ⟨by decide, by decide⟩
  have hRa : RR 0 210 M502 := RR_j (RR_s (RR_j (RR_s RR_0 hRo (by omega : (1 : Int) = 0 + 1)) hR530) hRb (by omega : (157 : Int) = 156 + 1)) hR508
  have hIv : Iv M502 := Iv_of (fun k => by
    by_cases c : 0 ≤ k ∧ k < 210
    · exact hRa k c.1 c.2
    · intro j
      rw [(hG505 k j c).1]
      exact hq k c j) hq526
  refine j_callVV hX lk_X10_76 (c_X0_restart _ _ _ _ _ 180 0 _ (by omega) hIv (by omega) hq527 (fun r h0 h1 => absurd h1 (by omega)) (by omega)) (by omega) ⟨by omega, by omega⟩ rfl rfl (by omega) (by omega) (by decide +kernel : kd 26 = .inl 0) rfl rfl (Nat.le_of_ble_eq_true rfl) dX10_init_146 (fun M531 hp532 => ?_)
  obtain ⟨hIz, hFz, hZz, hVz⟩ := hp532
  have hK8 : M531.1 0 8 = 180 := (hFz 0 8 (by omega)).trans hk518
  have hK9 : M531.1 0 9 = 0 := (hFz 0 9 (by omega)).trans hk519
  have hKt : M531.1 0 11 = 0 := (hFz 0 11 (by omega)).trans hk521
  have hKr : M531.1 1 1 = 5 := (hFz 1 1 (by omega)).trans hq522
  have hKk : M531.1 2 4 = 0 := (hFz 2 4 (by omega)).trans hq523
  have hKn : M531.1 180 0 = 0 := (hFz 180 0 (by omega)).trans hq527
  have hCI : CIv M531 := CI_mk (q := 180) (n := 0) hK8 (by omega) hKn (by omega) (fun h => absurd h (by omega)) (by omega) (RV_0 hVz hZz.2) (BF_0 hK9)
  exact j_widen (by omega) (by omega) (hret _ _ _ dX10_init_149 ⟨hIz, hCI, hKt⟩)
