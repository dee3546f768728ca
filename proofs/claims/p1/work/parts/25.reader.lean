theorem dX7_refuse_0 : decode cX7_refuse 0 = .ok (.aload_n 0, 1) := by decide +kernel
theorem dX7_refuse_1 : decode cX7_refuse 1 = .ok (.aload_n 0, 1) := by decide +kernel
theorem dX7_refuse_2 : decode cX7_refuse 2 = .ok (.getfield 12, 3) := by decide +kernel
theorem dX7_refuse_5 : decode cX7_refuse 5 = .ok (.getfield 44, 3) := by decide +kernel
theorem dX7_refuse_8 : decode cX7_refuse 8 = .ok (.iconst (-1), 1) := by decide +kernel
theorem dX7_refuse_9 : decode cX7_refuse 9 = .ok (.if_icmp .ne 7, 3) := by decide +kernel
theorem dX7_refuse_12 : decode cX7_refuse 12 = .ok (.iconst 1, 1) := by decide +kernel
theorem dX7_refuse_13 : decode cX7_refuse 13 = .ok (.goto 4, 3) := by decide +kernel
theorem dX7_refuse_16 : decode cX7_refuse 16 = .ok (.iload_n 1, 1) := by decide +kernel
theorem dX7_refuse_17 : decode cX7_refuse 17 = .ok (.putfield 25, 3) := by decide +kernel
theorem dX7_refuse_20 : decode cX7_refuse 20 = .ok (.aload_n 0, 1) := by decide +kernel
theorem dX7_refuse_21 : decode cX7_refuse 21 = .ok (.aload_n 0, 1) := by decide +kernel
theorem dX7_refuse_22 : decode cX7_refuse 22 = .ok (.getfield 12, 3) := by decide +kernel
theorem dX7_refuse_25 : decode cX7_refuse 25 = .ok (.getfield 204, 3) := by decide +kernel
theorem dX7_refuse_28 : decode cX7_refuse 28 = .ok (.putfield 29, 3) := by decide +kernel
theorem dX7_refuse_31 : decode cX7_refuse 31 = .ok (.iconst 0, 1) := by decide +kernel
theorem dX7_refuse_32 : decode cX7_refuse 32 = .ok (.ireturn, 1) := by decide +kernel
theorem dX7_mayStart_0 : decode cX7_mayStart 0 = .ok (.iload_n 1, 1) := by decide +kernel
theorem dX7_mayStart_1 : decode cX7_mayStart 1 = .ok (.ifCond .ne 9, 3) := by decide +kernel
theorem dX7_mayStart_4 : decode cX7_mayStart 4 = .ok (.aload_n 0, 1) := by decide +kernel
theorem dX7_mayStart_5 : decode cX7_mayStart 5 = .ok (.iconst 2, 1) := by decide +kernel
theorem dX7_mayStart_6 : decode cX7_mayStart 6 = .ok (.invokevirtual 95, 3) := by decide +kernel
theorem dX7_mayStart_9 : decode cX7_mayStart 9 = .ok (.ireturn, 1) := by decide +kernel
theorem dX7_mayStart_10 : decode cX7_mayStart 10 = .ok (.aload_n 0, 1) := by decide +kernel
theorem dX7_mayStart_11 : decode cX7_mayStart 11 = .ok (.getfield 12, 3) := by decide +kernel
theorem dX7_mayStart_14 : decode cX7_mayStart 14 = .ok (.invokevirtual 41, 3) := by decide +kernel
theorem dX7_mayStart_17 : decode cX7_mayStart 17 = .ok (.iconst 1, 1) := by decide +kernel
theorem dX7_mayStart_18 : decode cX7_mayStart 18 = .ok (.ireturn, 1) := by decide +kernel
theorem dX7_isName_0 : decode cX7_isName 0 = .ok (.aload_n 0, 1) := by decide +kernel
theorem dX7_isName_1 : decode cX7_isName 1 = .ok (.getfield 12, 3) := by decide +kernel
theorem dX7_isName_4 : decode cX7_isName 4 = .ok (.getfield 44, 3) := by decide +kernel
theorem dX7_isName_7 : decode cX7_isName 7 = .ok (.iconst 1, 1) := by decide +kernel
theorem dX7_isName_8 : decode cX7_isName 8 = .ok (.if_icmp .eq 11, 3) := by decide +kernel
theorem dX7_isName_11 : decode cX7_isName 11 = .ok (.aload_n 0, 1) := by decide +kernel
theorem dX7_isName_12 : decode cX7_isName 12 = .ok (.iconst 2, 1) := by decide +kernel
theorem dX7_isName_13 : decode cX7_isName 13 = .ok (.invokevirtual 95, 3) := by decide +kernel
theorem dX7_isName_16 : decode cX7_isName 16 = .ok (.ifCond .eq 7, 3) := by decide +kernel
theorem dX7_isName_19 : decode cX7_isName 19 = .ok (.iconst 1, 1) := by decide +kernel
theorem dX7_isName_20 : decode cX7_isName 20 = .ok (.goto 4, 3) := by decide +kernel
theorem dX7_isName_23 : decode cX7_isName 23 = .ok (.iconst 0, 1) := by decide +kernel
theorem dX7_isName_24 : decode cX7_isName 24 = .ok (.ireturn, 1) := by decide +kernel
theorem dX7_isRoom_0 : decode cX7_isRoom 0 = .ok (.aload_n 0, 1) := by decide +kernel
theorem dX7_isRoom_1 : decode cX7_isRoom 1 = .ok (.invokevirtual 105, 3) := by decide +kernel
theorem dX7_isRoom_4 : decode cX7_isRoom 4 = .ok (.ifCond .ne 5, 3) := by decide +kernel
theorem dX7_isRoom_7 : decode cX7_isRoom 7 = .ok (.iconst 0, 1) := by decide +kernel
theorem dX7_isRoom_8 : decode cX7_isRoom 8 = .ok (.ireturn, 1) := by decide +kernel
theorem dX7_isRoom_9 : decode cX7_isRoom 9 = .ok (.aload_n 0, 1) := by decide +kernel
theorem dX7_isRoom_10 : decode cX7_isRoom 10 = .ok (.aload_n 0, 1) := by decide +kernel
theorem dX7_isRoom_11 : decode cX7_isRoom 11 = .ok (.getfield 21, 3) := by decide +kernel
theorem dX7_isRoom_14 : decode cX7_isRoom 14 = .ok (.aload_n 0, 1) := by decide +kernel
theorem dX7_isRoom_15 : decode cX7_isRoom 15 = .ok (.getfield 12, 3) := by decide +kernel
theorem dX7_isRoom_18 : decode cX7_isRoom 18 = .ok (.getfield 108, 3) := by decide +kernel
theorem dX7_isRoom_21 : decode cX7_isRoom 21 = .ok (.invokevirtual 112, 3) := by decide +kernel
theorem dX7_isRoom_24 : decode cX7_isRoom 24 = .ok (.putfield 32, 3) := by decide +kernel
theorem dX7_isRoom_27 : decode cX7_isRoom 27 = .ok (.aload_n 0, 1) := by decide +kernel
theorem dX7_isRoom_28 : decode cX7_isRoom 28 = .ok (.getfield 32, 3) := by decide +kernel
theorem dX7_isRoom_31 : decode cX7_isRoom 31 = .ok (.iconst (-1), 1) := by decide +kernel
theorem dX7_isRoom_32 : decode cX7_isRoom 32 = .ok (.if_icmp .ne 11, 3) := by decide +kernel
theorem dX7_isRoom_35 : decode cX7_isRoom 35 = .ok (.aload_n 0, 1) := by decide +kernel
theorem dX7_isRoom_36 : decode cX7_isRoom 36 = .ok (.iconst 5, 1) := by decide +kernel
theorem dX7_isRoom_37 : decode cX7_isRoom 37 = .ok (.invokevirtual 95, 3) := by decide +kernel
theorem dX7_isRoom_40 : decode cX7_isRoom 40 = .ok (.ifCond .eq 7, 3) := by decide +kernel
theorem dX7_isRoom_43 : decode cX7_isRoom 43 = .ok (.iconst 1, 1) := by decide +kernel
theorem dX7_isRoom_44 : decode cX7_isRoom 44 = .ok (.goto 4, 3) := by decide +kernel
theorem dX7_isRoom_47 : decode cX7_isRoom 47 = .ok (.iconst 0, 1) := by decide +kernel
theorem dX7_isRoom_48 : decode cX7_isRoom 48 = .ok (.ireturn, 1) := by decide +kernel
theorem dX7_takeNumber_0 : decode cX7_takeNumber 0 = .ok (.aload_n 0, 1) := by decide +kernel
theorem dX7_takeNumber_1 : decode cX7_takeNumber 1 = .ok (.getfield 12, 3) := by decide +kernel
theorem dX7_takeNumber_4 : decode cX7_takeNumber 4 = .ok (.getfield 44, 3) := by decide +kernel
theorem dX7_takeNumber_7 : decode cX7_takeNumber 7 = .ok (.iconst 2, 1) := by decide +kernel
theorem dX7_takeNumber_8 : decode cX7_takeNumber 8 = .ok (.if_icmp .eq 9, 3) := by decide +kernel
theorem dX7_takeNumber_11 : decode cX7_takeNumber 11 = .ok (.aload_n 0, 1) := by decide +kernel
theorem dX7_takeNumber_12 : decode cX7_takeNumber 12 = .ok (.iconst 2, 1) := by decide +kernel
theorem dX7_takeNumber_13 : decode cX7_takeNumber 13 = .ok (.invokevirtual 95, 3) := by decide +kernel
theorem dX7_takeNumber_16 : decode cX7_takeNumber 16 = .ok (.ireturn, 1) := by decide +kernel
theorem dX7_takeNumber_17 : decode cX7_takeNumber 17 = .ok (.aload_n 0, 1) := by decide +kernel
theorem dX7_takeNumber_18 : decode cX7_takeNumber 18 = .ok (.aload_n 0, 1) := by decide +kernel
theorem dX7_takeNumber_19 : decode cX7_takeNumber 19 = .ok (.getfield 12, 3) := by decide +kernel
theorem dX7_takeNumber_22 : decode cX7_takeNumber 22 = .ok (.getfield 198, 3) := by decide +kernel
theorem dX7_takeNumber_25 : decode cX7_takeNumber 25 = .ok (.putfield 32, 3) := by decide +kernel
theorem dX7_takeNumber_28 : decode cX7_takeNumber 28 = .ok (.aload_n 0, 1) := by decide +kernel
theorem dX7_takeNumber_29 : decode cX7_takeNumber 29 = .ok (.getfield 32, 3) := by decide +kernel
theorem dX7_takeNumber_32 : decode cX7_takeNumber 32 = .ok (.iload_n 1, 1) := by decide +kernel
theorem dX7_takeNumber_33 : decode cX7_takeNumber 33 = .ok (.if_icmp .le 9, 3) := by decide +kernel
theorem dX7_takeNumber_36 : decode cX7_takeNumber 36 = .ok (.aload_n 0, 1) := by decide +kernel
theorem dX7_takeNumber_37 : decode cX7_takeNumber 37 = .ok (.iconst 4, 1) := by decide +kernel
theorem dX7_takeNumber_38 : decode cX7_takeNumber 38 = .ok (.invokevirtual 95, 3) := by decide +kernel
theorem dX7_takeNumber_41 : decode cX7_takeNumber 41 = .ok (.ireturn, 1) := by decide +kernel
theorem dX7_takeNumber_42 : decode cX7_takeNumber 42 = .ok (.aload_n 0, 1) := by decide +kernel
theorem dX7_takeNumber_43 : decode cX7_takeNumber 43 = .ok (.getfield 12, 3) := by decide +kernel
theorem dX7_takeNumber_46 : decode cX7_takeNumber 46 = .ok (.invokevirtual 41, 3) := by decide +kernel
theorem dX7_takeNumber_49 : decode cX7_takeNumber 49 = .ok (.iconst 1, 1) := by decide +kernel
theorem dX7_takeNumber_50 : decode cX7_takeNumber 50 = .ok (.ireturn, 1) := by decide +kernel
theorem dX7_take_0 : decode cX7_take 0 = .ok (.aload_n 0, 1) := by decide +kernel
theorem dX7_take_1 : decode cX7_take 1 = .ok (.getfield 12, 3) := by decide +kernel
theorem dX7_take_4 : decode cX7_take 4 = .ok (.getfield 44, 3) := by decide +kernel
theorem dX7_take_7 : decode cX7_take 7 = .ok (.iload_n 1, 1) := by decide +kernel
theorem dX7_take_8 : decode cX7_take 8 = .ok (.if_icmp .eq 9, 3) := by decide +kernel
theorem dX7_take_11 : decode cX7_take 11 = .ok (.aload_n 0, 1) := by decide +kernel
theorem dX7_take_12 : decode cX7_take 12 = .ok (.iconst 2, 1) := by decide +kernel
theorem dX7_take_13 : decode cX7_take 13 = .ok (.invokevirtual 95, 3) := by decide +kernel
theorem dX7_take_16 : decode cX7_take 16 = .ok (.ireturn, 1) := by decide +kernel
theorem dX7_take_17 : decode cX7_take 17 = .ok (.aload_n 0, 1) := by decide +kernel
theorem dX7_take_18 : decode cX7_take 18 = .ok (.getfield 12, 3) := by decide +kernel
theorem dX7_take_21 : decode cX7_take 21 = .ok (.invokevirtual 41, 3) := by decide +kernel
theorem dX7_take_24 : decode cX7_take 24 = .ok (.iconst 1, 1) := by decide +kernel
theorem dX7_take_25 : decode cX7_take 25 = .ok (.ireturn, 1) := by decide +kernel
theorem dX7_takeIf_0 : decode cX7_takeIf 0 = .ok (.aload_n 0, 1) := by decide +kernel
theorem dX7_takeIf_1 : decode cX7_takeIf 1 = .ok (.getfield 12, 3) := by decide +kernel
theorem dX7_takeIf_4 : decode cX7_takeIf 4 = .ok (.getfield 44, 3) := by decide +kernel
theorem dX7_takeIf_7 : decode cX7_takeIf 7 = .ok (.iload_n 1, 1) := by decide +kernel
theorem dX7_takeIf_8 : decode cX7_takeIf 8 = .ok (.if_icmp .eq 5, 3) := by decide +kernel
theorem dX7_takeIf_11 : decode cX7_takeIf 11 = .ok (.iconst 0, 1) := by decide +kernel
theorem dX7_takeIf_12 : decode cX7_takeIf 12 = .ok (.ireturn, 1) := by decide +kernel
theorem dX7_takeIf_13 : decode cX7_takeIf 13 = .ok (.aload_n 0, 1) := by decide +kernel
theorem dX7_takeIf_14 : decode cX7_takeIf 14 = .ok (.getfield 12, 3) := by decide +kernel
theorem dX7_takeIf_17 : decode cX7_takeIf 17 = .ok (.invokevirtual 41, 3) := by decide +kernel
theorem dX7_takeIf_20 : decode cX7_takeIf 20 = .ok (.iconst 1, 1) := by decide +kernel
theorem dX7_takeIf_21 : decode cX7_takeIf 21 = .ok (.ireturn, 1) := by decide +kernel
theorem dX7_isTermSign_0 : decode cX7_isTermSign 0 = .ok (.iload_n 0, 1) := by decide +kernel
theorem dX7_isTermSign_1 : decode cX7_isTermSign 1 = .ok (.bipush 42, 2) := by decide +kernel
theorem dX7_isTermSign_3 : decode cX7_isTermSign 3 = .ok (.if_icmp .eq 15, 3) := by decide +kernel
theorem dX7_isTermSign_6 : decode cX7_isTermSign 6 = .ok (.iload_n 0, 1) := by decide +kernel
theorem dX7_isTermSign_7 : decode cX7_isTermSign 7 = .ok (.bipush 47, 2) := by decide +kernel
theorem dX7_isTermSign_9 : decode cX7_isTermSign 9 = .ok (.if_icmp .eq 9, 3) := by decide +kernel
theorem dX7_isTermSign_12 : decode cX7_isTermSign 12 = .ok (.iload_n 0, 1) := by decide +kernel
theorem dX7_isTermSign_13 : decode cX7_isTermSign 13 = .ok (.bipush 37, 2) := by decide +kernel
theorem dX7_isTermSign_15 : decode cX7_isTermSign 15 = .ok (.if_icmp .ne 7, 3) := by decide +kernel
theorem dX7_isTermSign_18 : decode cX7_isTermSign 18 = .ok (.iconst 1, 1) := by decide +kernel
theorem dX7_isTermSign_19 : decode cX7_isTermSign 19 = .ok (.goto 4, 3) := by decide +kernel
theorem dX7_isTermSign_22 : decode cX7_isTermSign 22 = .ok (.iconst 0, 1) := by decide +kernel
theorem dX7_isTermSign_23 : decode cX7_isTermSign 23 = .ok (.ireturn, 1) := by decide +kernel
set_option maxHeartbeats 2000000 in
set_option maxRecDepth 20000 in
theorem c_X7_refuse (l : Launch) (D : va_G) (cy : Nat → ClassId) (B N : Nat) (q : Int) (a : Int) (M : MM) (hN : 210 ≤ N) (hI : Iv M) (hpa : I32 a) (hq : q = 5 ∨ q = 180) (hto : M.1 1 1 = q) : CI l D cy B N 1 yX7_refuse cX7_refuse 2 (some .boolean) [rv B 1, iv a] M (fun z M' => Iv M' ∧ Fr (fun a b => (a = 1 ∧ 2 ≤ b ∧ b ≤ 3)) M M' ∧ (0 ≤ z ∧ z ≤ 1) ∧ (z = 0)) := by
  refine mk_CI (by decide) (Nat.le_of_ble_eq_true rfl) ?_
  intro X exl exD excy hnL hX hret
  have hce : 0 + 0 ≤ (xR X).cells ∧ 0 + 0 ≤ (xR X).slots := ⟨Nat.zero_le _, Nat.zero_le _⟩
  have hF : Fr (fun a b => (a = 1 ∧ 2 ≤ b ∧ b ≤ 3)) M M := Fr.rf
  show J X B N 0 0 0 [(0, rv B 1), (1, iv a)] [] M
  refine j_aload_n hX dX7_refuse_0 rfl 0 rfl ?_
  refine j_aload_n hX dX7_refuse_1 rfl 0 rfl ?_
  refine gf_X7_12 hX (by omega) (by omega) kc_1 (fc_1_0 hI) (by decide) dX7_refuse_2 ?_
  refine gf_X7_44 hX (by omega) (by omega) kc_2 dX7_refuse_5 ?_
  refine j_name hI ro_2_4 (fun v1 hv2 hl3 hh4 => ?_)
  have hk5 := hv2.symm
  refine j_iconst hX dX7_refuse_8 ?_
  refine j_icmp_ne (tgt := 16) hX dX7_refuse_9 (by decide) (by omega) (by omega) (fun hc6 => ?_) (fun hc6 => ?_)
  · skip
    refine j_iload_n hX dX7_refuse_16 rfl 1 rfl ?_
    refine pf_X7_25 hX (by omega) (by omega) kc_1 (by omega) dX7_refuse_17 ?_
    refine j_up hI ro_1_2 (by omega) (by omega) (Or.inl (by omega)) (fun M7 w8 hw9 hM10 hI11 hf12 => ?_)
    have hk13 := kp_up hM10 (fun h => absurd h.2 (by decide)) hto
    have hk14 := kp_up hM10 (by decide) hk5
    have hF15 := Fr.put hF hM10 (by omega)
    refine j_aload_n hX dX7_refuse_20 rfl 0 rfl ?_
    refine j_aload_n hX dX7_refuse_21 rfl 0 rfl ?_
    refine gf_X7_12 hX (by omega) (by omega) kc_1 (fc_1_0 hI11) (by decide) dX7_refuse_22 ?_
    refine gf_X7_204 hX (by omega) (by omega) kc_2 dX7_refuse_25 ?_
    refine j_name hI11 ro_2_5 (fun v16 hv17 hl18 hh19 => ?_)
    have hk20 := hv17.symm
    refine pf_X7_29 hX (by omega) (by omega) kc_1 (by omega) dX7_refuse_28 ?_
    refine j_up hI11 ro_1_3 (by omega) (by omega) (Or.inl (by omega)) (fun M21 w22 hw23 hM24 hI25 hf26 => ?_)
    have hk27 := kp_up hM24 (fun h => absurd h.2 (by decide)) hk13
    have hk28 := kp_up hM24 (by decide) hk14
    have hk29 := kp_up hM24 (fun h => absurd h.2 (by decide)) hf12
    have hk30 := kp_up hM24 (by decide) hk20
    have hF31 := Fr.put hF15 hM24 (by omega)
    refine j_iconst hX dX7_refuse_31 ?_
    exact hret _ _ _ _ dX7_refuse_32 (nb (by omega)) (by omega) ⟨hI25, hF31, by omega, by first | assumption | omega⟩
  · skip
    refine j_iconst hX dX7_refuse_12 ?_
    refine j_goto (tgt := 17) hX dX7_refuse_13 (by decide) ?_
    refine pf_X7_25 hX (by omega) (by omega) kc_1 (by omega) dX7_refuse_17 ?_
    refine j_up hI ro_1_2 (by omega) (by omega) (Or.inl (by omega)) (fun M32 w33 hw34 hM35 hI36 hf37 => ?_)
    have hk38 := kp_up hM35 (fun h => absurd h.2 (by decide)) hto
    have hk39 := kp_up hM35 (by decide) hk5
    have hF40 := Fr.put hF hM35 (by omega)
    refine j_aload_n hX dX7_refuse_20 rfl 0 rfl ?_
    refine j_aload_n hX dX7_refuse_21 rfl 0 rfl ?_
    refine gf_X7_12 hX (by omega) (by omega) kc_1 (fc_1_0 hI36) (by decide) dX7_refuse_22 ?_
    refine gf_X7_204 hX (by omega) (by omega) kc_2 dX7_refuse_25 ?_
    refine j_name hI36 ro_2_5 (fun v41 hv42 hl43 hh44 => ?_)
    have hk45 := hv42.symm
    refine pf_X7_29 hX (by omega) (by omega) kc_1 (by omega) dX7_refuse_28 ?_
    refine j_up hI36 ro_1_3 (by omega) (by omega) (Or.inl (by omega)) (fun M46 w47 hw48 hM49 hI50 hf51 => ?_)
    have hk52 := kp_up hM49 (fun h => absurd h.2 (by decide)) hk38
    have hk53 := kp_up hM49 (by decide) hk39
    have hk54 := kp_up hM49 (fun h => absurd h.2 (by decide)) hf37
    have hk55 := kp_up hM49 (by decide) hk45
    have hF56 := Fr.put hF40 hM49 (by omega)
    refine j_iconst hX dX7_refuse_31 ?_
    exact hret _ _ _ _ dX7_refuse_32 (nb (by omega)) (by omega) ⟨hI50, hF56, by omega, by first | assumption | omega⟩
set_option maxHeartbeats 2000000 in
set_option maxRecDepth 20000 in
theorem c_X7_mayStart (l : Launch) (D : va_G) (cy : Nat → ClassId) (B N : Nat) (q : Int) (a : Int) (M : MM) (hN : 210 ≤ N) (hI : Iv M) (hpa : I32 a) (hq : q = 5 ∨ q = 180) (hto : M.1 1 1 = q) (hkn : KNo M) (h1 : 0 ≤ a ∧ a ≤ 1) : CI l D cy B N 10 yX7_mayStart cX7_mayStart 2 (some .boolean) [rv B 1, iv a] M (fun z M' => Iv M' ∧ Fr (fun a b => (a = 1 ∧ 2 ≤ b ∧ b ≤ 3) ∨ (a = 2 ∧ 3 ≤ b ∧ b ≤ 6)) M M' ∧ (0 ≤ z ∧ z ≤ 1) ∧ (KNo M') ∧ (z = 1 → a = 1)) := by
  refine mk_CI (by decide) (Nat.le_of_ble_eq_true rfl) ?_
  intro X exl exD excy hnL hX hret
  have hce : 0 + 0 ≤ (xR X).cells ∧ 0 + 0 ≤ (xR X).slots := ⟨Nat.zero_le _, Nat.zero_le _⟩
  have hF : Fr (fun a b => (a = 1 ∧ 2 ≤ b ∧ b ≤ 3) ∨ (a = 2 ∧ 3 ≤ b ∧ b ≤ 6)) M M := Fr.rf
  show J X B N 0 0 0 [(0, rv B 1), (1, iv a)] [] M
  refine j_iload_n hX dX7_mayStart_0 rfl 1 rfl ?_
  refine j_if_ne (tgt := 10) hX dX7_mayStart_1 (by decide) (by omega) (fun hc1 => ?_) (fun hc1 => ?_)
  · skip
    refine j_aload_n hX dX7_mayStart_10 rfl 0 rfl ?_
    refine gf_X7_12 hX (by omega) (by omega) kc_1 (fc_1_0 hI) (by decide) dX7_mayStart_11 ?_
    refine j_callVV hX lk_X7_41 (c_X9_advance _ _ _ _ _ _ (by omega) hI (by first | assumption | omega)) (by omega) hce rfl rfl (by omega) (by omega) kc_2 rfl rfl (Nat.le_of_ble_eq_true rfl) dX7_mayStart_14 (fun M3 hp4 => ?_)
    obtain ⟨hI6, hG7, hq8⟩ := hp4
    have hk10 := kp_fr hG7 (by omega) hto
    have hF11 := Fr.trans hF hG7 (fun a b h => by omega)
    refine j_iconst hX dX7_mayStart_17 ?_
    exact hret _ _ _ _ dX7_mayStart_18 (nb (by omega)) (by omega) ⟨hI6, hF11, by omega, by first | assumption | omega, by first | assumption | omega⟩
  · skip
    refine j_aload_n hX dX7_mayStart_4 rfl 0 rfl ?_
    refine j_iconst hX dX7_mayStart_5 ?_
    refine j_callVI hX lk_X7_95 (c_X7_refuse _ _ _ _ _ _ _ _ (by omega) hI (by omega) (by assumption) hto) (by omega) hce rfl rfl (by omega) (by omega) kc_1 rfl rfl (Nat.le_of_ble_eq_true rfl) dX7_mayStart_6 (fun z12 M13 hz15 hp14 => ?_)
    obtain ⟨hI16, hG17, hb18, hq19⟩ := hp14
    have hV20 := KN_fr hkn hG17 (by omega) (by omega)
    have hk21 := kp_fr hG17 (by omega) hto
    have hF22 := Fr.trans hF hG17 (fun a b h => by omega)
    exact hret _ _ _ _ dX7_mayStart_9 (nb (by omega)) (by omega) ⟨hI16, hF22, by omega, by first | assumption | omega, by first | assumption | omega⟩
set_option maxHeartbeats 2000000 in
set_option maxRecDepth 20000 in
theorem c_X7_isName (l : Launch) (D : va_G) (cy : Nat → ClassId) (B N : Nat) (q : Int) (M : MM) (hN : 210 ≤ N) (hI : Iv M) (hq : q = 5 ∨ q = 180) (hto : M.1 1 1 = q) : CI l D cy B N 2 yX7_isName cX7_isName 1 (some .boolean) [rv B 1] M (fun z M' => Iv M' ∧ Fr (fun a b => (a = 1 ∧ 2 ≤ b ∧ b ≤ 3)) M M' ∧ (0 ≤ z ∧ z ≤ 1)) := by
  refine mk_CI (by decide) (Nat.le_of_ble_eq_true rfl) ?_
  intro X exl exD excy hnL hX hret
  have hce : 0 + 0 ≤ (xR X).cells ∧ 0 + 0 ≤ (xR X).slots := ⟨Nat.zero_le _, Nat.zero_le _⟩
  have hF : Fr (fun a b => (a = 1 ∧ 2 ≤ b ∧ b ≤ 3)) M M := Fr.rf
  show J X B N 0 0 0 [(0, rv B 1)] [] M
  refine j_aload_n hX dX7_isName_0 rfl 0 rfl ?_
  refine gf_X7_12 hX (by omega) (by omega) kc_1 (fc_1_0 hI) (by decide) dX7_isName_1 ?_
  refine gf_X7_44 hX (by omega) (by omega) kc_2 dX7_isName_4 ?_
  refine j_name hI ro_2_4 (fun v1 hv2 hl3 hh4 => ?_)
  have hk5 := hv2.symm
  refine j_iconst hX dX7_isName_7 ?_
  refine j_icmp_eq (tgt := 19) hX dX7_isName_8 (by decide) (by omega) (by omega) (fun hc6 => ?_) (fun hc6 => ?_)
  · skip
    refine j_iconst hX dX7_isName_19 ?_
    refine j_goto (tgt := 24) hX dX7_isName_20 (by decide) ?_
    exact hret _ _ _ _ dX7_isName_24 (nb (by omega)) (by omega) ⟨hI, hF, by omega⟩
  · skip
    refine j_aload_n hX dX7_isName_11 rfl 0 rfl ?_
    refine j_iconst hX dX7_isName_12 ?_
    refine j_callVI hX lk_X7_95 (c_X7_refuse _ _ _ _ _ _ _ _ (by omega) hI (by omega) (by assumption) hto) (by omega) hce rfl rfl (by omega) (by omega) kc_1 rfl rfl (Nat.le_of_ble_eq_true rfl) dX7_isName_13 (fun z7 M8 hz10 hp9 => ?_)
    obtain ⟨hI11, hG12, hb13, hq14⟩ := hp9
    have hk15 := kp_fr hG12 (by omega) hto
    have hk16 := kp_fr hG12 (by omega) hk5
    have hF17 := Fr.trans hF hG12 (fun a b h => by omega)
    refine j_if_eq (tgt := 23) hX dX7_isName_16 (by decide) (by omega) (fun hc18 => ?_) (fun hc18 => ?_)
    · skip
      refine j_iconst hX dX7_isName_23 ?_
      exact hret _ _ _ _ dX7_isName_24 (nb (by omega)) (by omega) ⟨hI11, hF17, by omega⟩
    · skip
      refine j_iconst hX dX7_isName_19 ?_
      refine j_goto (tgt := 24) hX dX7_isName_20 (by decide) ?_
      exact hret _ _ _ _ dX7_isName_24 (nb (by omega)) (by omega) ⟨hI11, hF17, by omega⟩
set_option maxHeartbeats 2000000 in
set_option maxRecDepth 20000 in
theorem c_X7_isRoom (l : Launch) (D : va_G) (cy : Nat → ClassId) (B N : Nat) (q : Int) (M : MM) (hN : 210 ≤ N) (hI : Iv M) (hq : q = 5 ∨ q = 180) (hto : M.1 1 1 = q) : CI l D cy B N 3 yX7_isRoom cX7_isRoom 1 (some .boolean) [rv B 1] M (fun z M' => Iv M' ∧ Fr (fun a b => (a = 1 ∧ 2 ≤ b ∧ b ≤ 4)) M M' ∧ (0 ≤ z ∧ z ≤ 1) ∧ (z = 1 → 0 ≤ M'.1 1 4 ∧ M'.1 1 4 < M.1 q 0 ∧ M'.1 1 4 < 6)) := by
  refine mk_CI (by decide) (Nat.le_of_ble_eq_true rfl) ?_
  intro X exl exD excy hnL hX hret
  have hce : 0 + 0 ≤ (xR X).cells ∧ 0 + 0 ≤ (xR X).slots := ⟨Nat.zero_le _, Nat.zero_le _⟩
  have hF : Fr (fun a b => (a = 1 ∧ 2 ≤ b ∧ b ≤ 4)) M M := Fr.rf
  have hk1 : M.1 q 0 = M.1 q 0 := rfl
  have hq0 := hI.at q 0 (rq_0 hq)
  show J X B N 0 0 0 [(0, rv B 1)] [] M
  refine j_aload_n hX dX7_isRoom_0 rfl 0 rfl ?_
  refine j_callVI hX lk_X7_105 (c_X7_isName _ _ _ _ _ _ _ (by omega) hI (by assumption) hto) (by omega) hce rfl rfl (by omega) (by omega) kc_1 rfl rfl (Nat.le_of_ble_eq_true rfl) dX7_isRoom_1 (fun z2 M3 hz5 hp4 => ?_)
  obtain ⟨hI6, hG7, hb8⟩ := hp4
  have hk9 := kp_fr hG7 (by omega) hto
  have hk10 := kp_fr hG7 (by omega) hk1
  have hF11 := Fr.trans hF hG7 (fun a b h => by omega)
  refine j_if_ne (tgt := 9) hX dX7_isRoom_4 (by decide) (by omega) (fun hc12 => ?_) (fun hc12 => ?_)
  · skip
    refine j_aload_n hX dX7_isRoom_9 rfl 0 rfl ?_
    refine j_aload_n hX dX7_isRoom_10 rfl 0 rfl ?_
    refine gf_X7_21 hX (by omega) (by omega) kc_1 hk9 (by omega) dX7_isRoom_11 ?_
    refine j_aload_n hX dX7_isRoom_14 rfl 0 rfl ?_
    refine gf_X7_12 hX (by omega) (by omega) kc_1 (fc_1_0 hI6) (by decide) dX7_isRoom_15 ?_
    refine gf_X7_108 hX (by omega) (by omega) kc_2 dX7_isRoom_18 ?_
    refine j_callVI hX lk_X7_112 (c_X6_roomNamed _ _ _ _ _ q _ _ (by omega) hI6 hq) (by omega) hce rfl rfl (by omega) (by omega) (kq hq) rfl rfl (Nat.le_of_ble_eq_true rfl) dX7_isRoom_21 (fun z13 M14 hz16 hp15 => ?_)
    obtain ⟨rfl, hq17⟩ := hp15
    refine pf_X7_32 hX (by omega) (by omega) kc_1 (by omega) dX7_isRoom_24 ?_
    refine j_up hI6 ro_1_4 (by omega) (by omega) (Or.inl (by omega)) (fun M18 w19 hw20 hM21 hI22 hf23 => ?_)
    have hk24 := kp_up hM21 (fun h => absurd h.2 (by decide)) hk9
    have hk25 := kp_up hM21 (by omega) hk10
    have hF26 := Fr.put hF11 hM21 (by omega)
    refine j_aload_n hX dX7_isRoom_27 rfl 0 rfl ?_
    refine gf_X7_32 hX (by omega) (by omega) kc_1 dX7_isRoom_28 ?_
    refine j_top hf23 ?_
    refine j_iconst hX dX7_isRoom_31 ?_
    refine j_icmp_ne (tgt := 43) hX dX7_isRoom_32 (by decide) (by omega) (by omega) (fun hc27 => ?_) (fun hc27 => ?_)
    · skip
      refine j_iconst hX dX7_isRoom_43 ?_
      refine j_goto (tgt := 48) hX dX7_isRoom_44 (by decide) ?_
      exact hret _ _ _ _ dX7_isRoom_48 (nb (by omega)) (by omega) ⟨hI22, hF26, by omega, by first | assumption | omega⟩
    · skip
      refine j_aload_n hX dX7_isRoom_35 rfl 0 rfl ?_
      refine j_iconst hX dX7_isRoom_36 ?_
      refine j_callVI hX lk_X7_95 (c_X7_refuse _ _ _ _ _ _ _ _ (by omega) hI22 (by omega) (by assumption) hk24) (by omega) hce rfl rfl (by omega) (by omega) kc_1 rfl rfl (Nat.le_of_ble_eq_true rfl) dX7_isRoom_37 (fun z28 M29 hz31 hp30 => ?_)
      obtain ⟨hI32, hG33, hb34, hq35⟩ := hp30
      have hk36 := kp_fr hG33 (by omega) hk24
      have hk37 := kp_fr hG33 (by omega) hk25
      have hk38 := kp_fr hG33 (by omega) hf23
      have hF39 := Fr.trans hF26 hG33 (fun a b h => by omega)
      refine j_if_eq (tgt := 47) hX dX7_isRoom_40 (by decide) (by omega) (fun hc40 => ?_) (fun hc40 => ?_)
      · skip
        refine j_iconst hX dX7_isRoom_47 ?_
        exact hret _ _ _ _ dX7_isRoom_48 (nb (by omega)) (by omega) ⟨hI32, hF39, by omega, by first | assumption | omega⟩
      · skip
        refine j_iconst hX dX7_isRoom_43 ?_
        refine j_goto (tgt := 48) hX dX7_isRoom_44 (by decide) ?_
        exact hret _ _ _ _ dX7_isRoom_48 (nb (by omega)) (by omega) ⟨hI32, hF39, by omega, by first | assumption | omega⟩
  · skip
    refine j_iconst hX dX7_isRoom_7 ?_
    exact hret _ _ _ _ dX7_isRoom_8 (nb (by omega)) (by omega) ⟨hI6, hF11, by omega, by first | assumption | omega⟩
set_option maxHeartbeats 2000000 in
set_option maxRecDepth 20000 in
theorem c_X7_takeNumber (l : Launch) (D : va_G) (cy : Nat → ClassId) (B N : Nat) (q : Int) (a : Int) (M : MM) (hN : 210 ≤ N) (hI : Iv M) (hpa : I32 a) (hq : q = 5 ∨ q = 180) (hto : M.1 1 1 = q) (hkn : KNo M) : CI l D cy B N 10 yX7_takeNumber cX7_takeNumber 2 (some .boolean) [rv B 1, iv a] M (fun z M' => Iv M' ∧ Fr (fun a b => (a = 1 ∧ 2 ≤ b ∧ b ≤ 4) ∨ (a = 2 ∧ 3 ≤ b ∧ b ≤ 6)) M M' ∧ (0 ≤ z ∧ z ≤ 1) ∧ (KNo M') ∧ (z = 1 → 0 ≤ M'.1 1 4 ∧ M'.1 1 4 ≤ a)) := by
  refine mk_CI (by decide) (Nat.le_of_ble_eq_true rfl) ?_
  intro X exl exD excy hnL hX hret
  have hce : 0 + 0 ≤ (xR X).cells ∧ 0 + 0 ≤ (xR X).slots := ⟨Nat.zero_le _, Nat.zero_le _⟩
  have hF : Fr (fun a b => (a = 1 ∧ 2 ≤ b ∧ b ≤ 4) ∨ (a = 2 ∧ 3 ≤ b ∧ b ≤ 6)) M M := Fr.rf
  have hkn2 : M.1 2 4 = 2 → 0 ≤ M.1 2 6 := hkn
  show J X B N 0 0 0 [(0, rv B 1), (1, iv a)] [] M
  refine j_aload_n hX dX7_takeNumber_0 rfl 0 rfl ?_
  refine gf_X7_12 hX (by omega) (by omega) kc_1 (fc_1_0 hI) (by decide) dX7_takeNumber_1 ?_
  refine gf_X7_44 hX (by omega) (by omega) kc_2 dX7_takeNumber_4 ?_
  refine j_name hI ro_2_4 (fun v1 hv2 hl3 hh4 => ?_)
  have hk5 := hv2.symm
  refine j_iconst hX dX7_takeNumber_7 ?_
  refine j_icmp_eq (tgt := 17) hX dX7_takeNumber_8 (by decide) (by omega) (by omega) (fun hc6 => ?_) (fun hc6 => ?_)
  · skip
    refine j_aload_n hX dX7_takeNumber_17 rfl 0 rfl ?_
    refine j_aload_n hX dX7_takeNumber_18 rfl 0 rfl ?_
    refine gf_X7_12 hX (by omega) (by omega) kc_1 (fc_1_0 hI) (by decide) dX7_takeNumber_19 ?_
    refine gf_X7_198 hX (by omega) (by omega) kc_2 dX7_takeNumber_22 ?_
    refine j_name hI ro_2_6 (fun v7 hv8 hl9 hh10 => ?_)
    have hk11 := hv8.symm
    refine pf_X7_32 hX (by omega) (by omega) kc_1 (by omega) dX7_takeNumber_25 ?_
    refine j_up hI ro_1_4 (by omega) (by omega) (Or.inl (by omega)) (fun M12 w13 hw14 hM15 hI16 hf17 => ?_)
    have hV18 := KN_up hkn hM15 (by omega)
    have hk19 := kp_up hM15 (fun h => absurd h.2 (by decide)) hto
    have hk20 := kp_up hM15 (by decide) hk5
    have hk21 := kp_up hM15 (by decide) hk11
    have hF22 := Fr.put hF hM15 (by omega)
    refine j_aload_n hX dX7_takeNumber_28 rfl 0 rfl ?_
    refine gf_X7_32 hX (by omega) (by omega) kc_1 dX7_takeNumber_29 ?_
    refine j_top hf17 ?_
    refine j_iload_n hX dX7_takeNumber_32 rfl 1 rfl ?_
    refine j_icmp_le (tgt := 42) hX dX7_takeNumber_33 (by decide) (by omega) (by omega) (fun hc23 => ?_) (fun hc23 => ?_)
    · skip
      refine j_aload_n hX dX7_takeNumber_42 rfl 0 rfl ?_
      refine gf_X7_12 hX (by omega) (by omega) kc_1 (fc_1_0 hI16) (by decide) dX7_takeNumber_43 ?_
      refine j_callVV hX lk_X7_41 (c_X9_advance _ _ _ _ _ _ (by omega) hI16 (by first | assumption | omega)) (by omega) hce rfl rfl (by omega) (by omega) kc_2 rfl rfl (Nat.le_of_ble_eq_true rfl) dX7_takeNumber_46 (fun M25 hp26 => ?_)
      obtain ⟨hI28, hG29, hq30⟩ := hp26
      have hk32 := kp_fr hG29 (by omega) hk19
      have hk33 := kp_fr hG29 (by omega) hf17
      have hF34 := Fr.trans hF22 hG29 (fun a b h => by omega)
      refine j_iconst hX dX7_takeNumber_49 ?_
      exact hret _ _ _ _ dX7_takeNumber_50 (nb (by omega)) (by omega) ⟨hI28, hF34, by omega, by first | assumption | omega, by first | assumption | omega⟩
    · skip
      refine j_aload_n hX dX7_takeNumber_36 rfl 0 rfl ?_
      refine j_iconst hX dX7_takeNumber_37 ?_
      refine j_callVI hX lk_X7_95 (c_X7_refuse _ _ _ _ _ _ _ _ (by omega) hI16 (by omega) (by assumption) hk19) (by omega) hce rfl rfl (by omega) (by omega) kc_1 rfl rfl (Nat.le_of_ble_eq_true rfl) dX7_takeNumber_38 (fun z35 M36 hz38 hp37 => ?_)
      obtain ⟨hI39, hG40, hb41, hq42⟩ := hp37
      have hV43 := KN_fr hV18 hG40 (by omega) (by omega)
      have hk44 := kp_fr hG40 (by omega) hk19
      have hk45 := kp_fr hG40 (by omega) hk20
      have hk46 := kp_fr hG40 (by omega) hk21
      have hk47 := kp_fr hG40 (by omega) hf17
      have hF48 := Fr.trans hF22 hG40 (fun a b h => by omega)
      exact hret _ _ _ _ dX7_takeNumber_41 (nb (by omega)) (by omega) ⟨hI39, hF48, by omega, by first | assumption | omega, by first | assumption | omega⟩
  · skip
    refine j_aload_n hX dX7_takeNumber_11 rfl 0 rfl ?_
    refine j_iconst hX dX7_takeNumber_12 ?_
    refine j_callVI hX lk_X7_95 (c_X7_refuse _ _ _ _ _ _ _ _ (by omega) hI (by omega) (by assumption) hto) (by omega) hce rfl rfl (by omega) (by omega) kc_1 rfl rfl (Nat.le_of_ble_eq_true rfl) dX7_takeNumber_13 (fun z49 M50 hz52 hp51 => ?_)
    obtain ⟨hI53, hG54, hb55, hq56⟩ := hp51
    have hV57 := KN_fr hkn hG54 (by omega) (by omega)
    have hk58 := kp_fr hG54 (by omega) hto
    have hk59 := kp_fr hG54 (by omega) hk5
    have hF60 := Fr.trans hF hG54 (fun a b h => by omega)
    exact hret _ _ _ _ dX7_takeNumber_16 (nb (by omega)) (by omega) ⟨hI53, hF60, by omega, by first | assumption | omega, by first | assumption | omega⟩
set_option maxHeartbeats 2000000 in
set_option maxRecDepth 20000 in
theorem c_X7_take (l : Launch) (D : va_G) (cy : Nat → ClassId) (B N : Nat) (q : Int) (a : Int) (M : MM) (hN : 210 ≤ N) (hI : Iv M) (hpa : I32 a) (hq : q = 5 ∨ q = 180) (hto : M.1 1 1 = q) (hkn : KNo M) : CI l D cy B N 10 yX7_take cX7_take 2 (some .boolean) [rv B 1, iv a] M (fun z M' => Iv M' ∧ Fr (fun a b => (a = 1 ∧ 2 ≤ b ∧ b ≤ 3) ∨ (a = 2 ∧ 3 ≤ b ∧ b ≤ 6)) M M' ∧ (0 ≤ z ∧ z ≤ 1) ∧ (KNo M')) := by
  refine mk_CI (by decide) (Nat.le_of_ble_eq_true rfl) ?_
  intro X exl exD excy hnL hX hret
  have hce : 0 + 0 ≤ (xR X).cells ∧ 0 + 0 ≤ (xR X).slots := ⟨Nat.zero_le _, Nat.zero_le _⟩
  have hF : Fr (fun a b => (a = 1 ∧ 2 ≤ b ∧ b ≤ 3) ∨ (a = 2 ∧ 3 ≤ b ∧ b ≤ 6)) M M := Fr.rf
  show J X B N 0 0 0 [(0, rv B 1), (1, iv a)] [] M
  refine j_aload_n hX dX7_take_0 rfl 0 rfl ?_
  refine gf_X7_12 hX (by omega) (by omega) kc_1 (fc_1_0 hI) (by decide) dX7_take_1 ?_
  refine gf_X7_44 hX (by omega) (by omega) kc_2 dX7_take_4 ?_
  refine j_name hI ro_2_4 (fun v1 hv2 hl3 hh4 => ?_)
  have hk5 := hv2.symm
  refine j_iload_n hX dX7_take_7 rfl 1 rfl ?_
  refine j_icmp_eq (tgt := 17) hX dX7_take_8 (by decide) (by omega) (by omega) (fun hc6 => ?_) (fun hc6 => ?_)
  · skip
    refine j_aload_n hX dX7_take_17 rfl 0 rfl ?_
    refine gf_X7_12 hX (by omega) (by omega) kc_1 (fc_1_0 hI) (by decide) dX7_take_18 ?_
    refine j_callVV hX lk_X7_41 (c_X9_advance _ _ _ _ _ _ (by omega) hI (by first | assumption | omega)) (by omega) hce rfl rfl (by omega) (by omega) kc_2 rfl rfl (Nat.le_of_ble_eq_true rfl) dX7_take_21 (fun M8 hp9 => ?_)
    obtain ⟨hI11, hG12, hq13⟩ := hp9
    have hk15 := kp_fr hG12 (by omega) hto
    have hF16 := Fr.trans hF hG12 (fun a b h => by omega)
    refine j_iconst hX dX7_take_24 ?_
    exact hret _ _ _ _ dX7_take_25 (nb (by omega)) (by omega) ⟨hI11, hF16, by omega, by first | assumption | omega⟩
  · skip
    refine j_aload_n hX dX7_take_11 rfl 0 rfl ?_
    refine j_iconst hX dX7_take_12 ?_
    refine j_callVI hX lk_X7_95 (c_X7_refuse _ _ _ _ _ _ _ _ (by omega) hI (by omega) (by assumption) hto) (by omega) hce rfl rfl (by omega) (by omega) kc_1 rfl rfl (Nat.le_of_ble_eq_true rfl) dX7_take_13 (fun z17 M18 hz20 hp19 => ?_)
    obtain ⟨hI21, hG22, hb23, hq24⟩ := hp19
    have hV25 := KN_fr hkn hG22 (by omega) (by omega)
    have hk26 := kp_fr hG22 (by omega) hto
    have hk27 := kp_fr hG22 (by omega) hk5
    have hF28 := Fr.trans hF hG22 (fun a b h => by omega)
    exact hret _ _ _ _ dX7_take_16 (nb (by omega)) (by omega) ⟨hI21, hF28, by omega, by first | assumption | omega⟩
set_option maxHeartbeats 2000000 in
set_option maxRecDepth 20000 in
theorem c_X7_takeIf (l : Launch) (D : va_G) (cy : Nat → ClassId) (B N : Nat) (q : Int) (a : Int) (M : MM) (hN : 210 ≤ N) (hI : Iv M) (hpa : I32 a) (hq : q = 5 ∨ q = 180) (hto : M.1 1 1 = q) (hkn : KNo M) : CI l D cy B N 10 yX7_takeIf cX7_takeIf 2 (some .boolean) [rv B 1, iv a] M (fun z M' => Iv M' ∧ Fr (fun a b => (a = 2 ∧ 3 ≤ b ∧ b ≤ 6)) M M' ∧ (0 ≤ z ∧ z ≤ 1) ∧ (KNo M')) := by
  refine mk_CI (by decide) (Nat.le_of_ble_eq_true rfl) ?_
  intro X exl exD excy hnL hX hret
  have hce : 0 + 0 ≤ (xR X).cells ∧ 0 + 0 ≤ (xR X).slots := ⟨Nat.zero_le _, Nat.zero_le _⟩
  have hF : Fr (fun a b => (a = 2 ∧ 3 ≤ b ∧ b ≤ 6)) M M := Fr.rf
  show J X B N 0 0 0 [(0, rv B 1), (1, iv a)] [] M
  refine j_aload_n hX dX7_takeIf_0 rfl 0 rfl ?_
  refine gf_X7_12 hX (by omega) (by omega) kc_1 (fc_1_0 hI) (by decide) dX7_takeIf_1 ?_
  refine gf_X7_44 hX (by omega) (by omega) kc_2 dX7_takeIf_4 ?_
  refine j_name hI ro_2_4 (fun v1 hv2 hl3 hh4 => ?_)
  have hk5 := hv2.symm
  refine j_iload_n hX dX7_takeIf_7 rfl 1 rfl ?_
  refine j_icmp_eq (tgt := 13) hX dX7_takeIf_8 (by decide) (by omega) (by omega) (fun hc6 => ?_) (fun hc6 => ?_)
  · skip
    refine j_aload_n hX dX7_takeIf_13 rfl 0 rfl ?_
    refine gf_X7_12 hX (by omega) (by omega) kc_1 (fc_1_0 hI) (by decide) dX7_takeIf_14 ?_
    refine j_callVV hX lk_X7_41 (c_X9_advance _ _ _ _ _ _ (by omega) hI (by first | assumption | omega)) (by omega) hce rfl rfl (by omega) (by omega) kc_2 rfl rfl (Nat.le_of_ble_eq_true rfl) dX7_takeIf_17 (fun M8 hp9 => ?_)
    obtain ⟨hI11, hG12, hq13⟩ := hp9
    have hk15 := kp_fr hG12 (by omega) hto
    have hF16 := Fr.trans hF hG12 (fun a b h => by omega)
    refine j_iconst hX dX7_takeIf_20 ?_
    exact hret _ _ _ _ dX7_takeIf_21 (nb (by omega)) (by omega) ⟨hI11, hF16, by omega, by first | assumption | omega⟩
  · skip
    refine j_iconst hX dX7_takeIf_11 ?_
    exact hret _ _ _ _ dX7_takeIf_12 (nb (by omega)) (by omega) ⟨hI, hF, by omega, by first | assumption | omega⟩
set_option maxHeartbeats 2000000 in
set_option maxRecDepth 20000 in
theorem c_X7_isTermSign (l : Launch) (D : va_G) (cy : Nat → ClassId) (B N : Nat) (a : Int) (M : MM) (hpa : I32 a) : CI l D cy B N 1 yX7_isTermSign cX7_isTermSign 1 (some .boolean) [iv a] M (fun z M' => M' = M ∧ (0 ≤ z ∧ z ≤ 1)) := by
  refine mk_CI (by decide) (Nat.le_of_ble_eq_true rfl) ?_
  intro X exl exD excy hnL hX hret
  have hce : 0 + 0 ≤ (xR X).cells ∧ 0 + 0 ≤ (xR X).slots := ⟨Nat.zero_le _, Nat.zero_le _⟩
  show J X B N 0 0 0 [(0, iv a)] [] M
  refine j_iload_n hX dX7_isTermSign_0 rfl 0 rfl ?_
  refine j_bipush hX dX7_isTermSign_1 rfl ?_
  refine j_icmp_eq (tgt := 18) hX dX7_isTermSign_3 (by decide) (by omega) (by omega) (fun hc1 => ?_) (fun hc1 => ?_)
  · skip
    refine j_iconst hX dX7_isTermSign_18 ?_
    refine j_goto (tgt := 23) hX dX7_isTermSign_19 (by decide) ?_
    exact hret _ _ _ _ dX7_isTermSign_23 (nb (by omega)) (by omega) ⟨rfl, by omega⟩
  · skip
    refine j_iload_n hX dX7_isTermSign_6 rfl 0 rfl ?_
    refine j_bipush hX dX7_isTermSign_7 rfl ?_
    refine j_icmp_eq (tgt := 18) hX dX7_isTermSign_9 (by decide) (by omega) (by omega) (fun hc2 => ?_) (fun hc2 => ?_)
    · skip
      refine j_iconst hX dX7_isTermSign_18 ?_
      refine j_goto (tgt := 23) hX dX7_isTermSign_19 (by decide) ?_
      exact hret _ _ _ _ dX7_isTermSign_23 (nb (by omega)) (by omega) ⟨rfl, by omega⟩
    · skip
      refine j_iload_n hX dX7_isTermSign_12 rfl 0 rfl ?_
      refine j_bipush hX dX7_isTermSign_13 rfl ?_
      refine j_icmp_ne (tgt := 22) hX dX7_isTermSign_15 (by decide) (by omega) (by omega) (fun hc3 => ?_) (fun hc3 => ?_)
      · skip
        refine j_iconst hX dX7_isTermSign_22 ?_
        exact hret _ _ _ _ dX7_isTermSign_23 (nb (by omega)) (by omega) ⟨rfl, by omega⟩
      · skip
        refine j_iconst hX dX7_isTermSign_18 ?_
        refine j_goto (tgt := 23) hX dX7_isTermSign_19 (by decide) ?_
        exact hret _ _ _ _ dX7_isTermSign_23 (nb (by omega)) (by omega) ⟨rfl, by omega⟩
