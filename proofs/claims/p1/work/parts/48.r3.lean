theorem dX11_must_0 : decode cX11_must 0 = .ok (.aload_n 0, 1) := by decide +kernel
theorem dX11_must_1 : decode cX11_must 1 = .ok (.invokevirtual 249, 3) := by decide +kernel
theorem dX11_must_4 : decode cX11_must 4 = .ok (.ifCond .ne 4, 3) := by decide +kernel
theorem dX11_must_7 : decode cX11_must 7 = .ok (.return_, 1) := by decide +kernel
theorem dX11_must_8 : decode cX11_must 8 = .ok (.iload_n 1, 1) := by decide +kernel
theorem dX11_must_9 : decode cX11_must 9 = .ok (.ifCond .eq 10, 3) := by decide +kernel
theorem dX11_must_12 : decode cX11_must 12 = .ok (.aload_n 0, 1) := by decide +kernel
theorem dX11_must_13 : decode cX11_must 13 = .ok (.invokevirtual 253, 3) := by decide +kernel
theorem dX11_must_16 : decode cX11_must 16 = .ok (.goto 7, 3) := by decide +kernel
theorem dX11_must_19 : decode cX11_must 19 = .ok (.aload_n 0, 1) := by decide +kernel
theorem dX11_must_20 : decode cX11_must 20 = .ok (.invokevirtual 256, 3) := by decide +kernel
theorem dX11_must_23 : decode cX11_must 23 = .ok (.return_, 1) := by decide +kernel
theorem dX11_numeral_0 : decode cX11_numeral 0 = .ok (.aload_n 0, 1) := by decide +kernel
theorem dX11_numeral_1 : decode cX11_numeral 1 = .ok (.invokevirtual 249, 3) := by decide +kernel
theorem dX11_numeral_4 : decode cX11_numeral 4 = .ok (.ifCond .ne 5, 3) := by decide +kernel
theorem dX11_numeral_7 : decode cX11_numeral 7 = .ok (.iload_n 1, 1) := by decide +kernel
theorem dX11_numeral_8 : decode cX11_numeral 8 = .ok (.ireturn, 1) := by decide +kernel
theorem dX11_numeral_9 : decode cX11_numeral 9 = .ok (.aload_n 0, 1) := by decide +kernel
theorem dX11_numeral_10 : decode cX11_numeral 10 = .ok (.getfield 221, 3) := by decide +kernel
theorem dX11_numeral_13 : decode cX11_numeral 13 = .ok (.iconst 4, 1) := by decide +kernel
theorem dX11_numeral_14 : decode cX11_numeral 14 = .ok (.if_icmp .eq 7, 3) := by decide +kernel
theorem dX11_numeral_17 : decode cX11_numeral 17 = .ok (.aload_n 0, 1) := by decide +kernel
theorem dX11_numeral_18 : decode cX11_numeral 18 = .ok (.invokevirtual 256, 3) := by decide +kernel
theorem dX11_numeral_21 : decode cX11_numeral 21 = .ok (.aload_n 0, 1) := by decide +kernel
theorem dX11_numeral_22 : decode cX11_numeral 22 = .ok (.invokevirtual 249, 3) := by decide +kernel
theorem dX11_numeral_25 : decode cX11_numeral 25 = .ok (.ifCond .eq 28, 3) := by decide +kernel
theorem dX11_numeral_28 : decode cX11_numeral 28 = .ok (.aload_n 0, 1) := by decide +kernel
theorem dX11_numeral_29 : decode cX11_numeral 29 = .ok (.getfield 239, 3) := by decide +kernel
theorem dX11_numeral_32 : decode cX11_numeral 32 = .ok (.iload_n 1, 1) := by decide +kernel
theorem dX11_numeral_33 : decode cX11_numeral 33 = .ok (.if_icmp .lt 11, 3) := by decide +kernel
theorem dX11_numeral_36 : decode cX11_numeral 36 = .ok (.aload_n 0, 1) := by decide +kernel
theorem dX11_numeral_37 : decode cX11_numeral 37 = .ok (.getfield 239, 3) := by decide +kernel
theorem dX11_numeral_40 : decode cX11_numeral 40 = .ok (.iload_n 2, 1) := by decide +kernel
theorem dX11_numeral_41 : decode cX11_numeral 41 = .ok (.if_icmp .le 12, 3) := by decide +kernel
theorem dX11_numeral_44 : decode cX11_numeral 44 = .ok (.aload_n 0, 1) := by decide +kernel
theorem dX11_numeral_45 : decode cX11_numeral 45 = .ok (.iconst 4, 1) := by decide +kernel
theorem dX11_numeral_46 : decode cX11_numeral 46 = .ok (.aload_n 0, 1) := by decide +kernel
theorem dX11_numeral_47 : decode cX11_numeral 47 = .ok (.getfield 214, 3) := by decide +kernel
theorem dX11_numeral_50 : decode cX11_numeral 50 = .ok (.invokevirtual 245, 3) := by decide +kernel
theorem dX11_numeral_53 : decode cX11_numeral 53 = .ok (.aload_n 0, 1) := by decide +kernel
theorem dX11_numeral_54 : decode cX11_numeral 54 = .ok (.getfield 239, 3) := by decide +kernel
theorem dX11_numeral_57 : decode cX11_numeral 57 = .ok (.istore_n 3, 1) := by decide +kernel
theorem dX11_numeral_58 : decode cX11_numeral 58 = .ok (.aload_n 0, 1) := by decide +kernel
theorem dX11_numeral_59 : decode cX11_numeral 59 = .ok (.invokevirtual 249, 3) := by decide +kernel
theorem dX11_numeral_62 : decode cX11_numeral 62 = .ok (.ifCond .eq 7, 3) := by decide +kernel
theorem dX11_numeral_65 : decode cX11_numeral 65 = .ok (.aload_n 0, 1) := by decide +kernel
theorem dX11_numeral_66 : decode cX11_numeral 66 = .ok (.invokevirtual 253, 3) := by decide +kernel
theorem dX11_numeral_69 : decode cX11_numeral 69 = .ok (.aload_n 0, 1) := by decide +kernel
theorem dX11_numeral_70 : decode cX11_numeral 70 = .ok (.invokevirtual 249, 3) := by decide +kernel
theorem dX11_numeral_73 : decode cX11_numeral 73 = .ok (.ifCond .eq 7, 3) := by decide +kernel
theorem dX11_numeral_76 : decode cX11_numeral 76 = .ok (.iload_n 3, 1) := by decide +kernel
theorem dX11_numeral_77 : decode cX11_numeral 77 = .ok (.goto 4, 3) := by decide +kernel
theorem dX11_numeral_80 : decode cX11_numeral 80 = .ok (.iload_n 1, 1) := by decide +kernel
theorem dX11_numeral_81 : decode cX11_numeral 81 = .ok (.ireturn, 1) := by decide +kernel
theorem dX11_after_0 : decode cX11_after 0 = .ok (.aload_n 0, 1) := by decide +kernel
theorem dX11_after_1 : decode cX11_after 1 = .ok (.aload_n 0, 1) := by decide +kernel
theorem dX11_after_2 : decode cX11_after 2 = .ok (.lload_n 1, 1) := by decide +kernel
theorem dX11_after_3 : decode cX11_after 3 = .ok (.invokevirtual 259, 3) := by decide +kernel
theorem dX11_after_6 : decode cX11_after 6 = .ok (.invokevirtual 262, 3) := by decide +kernel
theorem dX11_after_9 : decode cX11_after 9 = .ok (.aload_n 0, 1) := by decide +kernel
theorem dX11_after_10 : decode cX11_after 10 = .ok (.iload_n 3, 1) := by decide +kernel
theorem dX11_after_11 : decode cX11_after 11 = .ok (.iload 4, 2) := by decide +kernel
theorem dX11_after_13 : decode cX11_after 13 = .ok (.invokevirtual 266, 3) := by decide +kernel
theorem dX11_after_16 : decode cX11_after 16 = .ok (.ireturn, 1) := by decide +kernel
theorem dX11_here_0 : decode cX11_here 0 = .ok (.iconst 0, 1) := by decide +kernel
theorem dX11_here_1 : decode cX11_here 1 = .ok (.istore 4, 2) := by decide +kernel
theorem dX11_here_3 : decode cX11_here 3 = .ok (.iload 4, 2) := by decide +kernel
theorem dX11_here_5 : decode cX11_here 5 = .ok (.iload_n 3, 1) := by decide +kernel
theorem dX11_here_6 : decode cX11_here 6 = .ok (.if_icmp .ge 34, 3) := by decide +kernel
theorem dX11_here_9 : decode cX11_here 9 = .ok (.aload_n 0, 1) := by decide +kernel
theorem dX11_here_10 : decode cX11_here 10 = .ok (.getfield 221, 3) := by decide +kernel
theorem dX11_here_13 : decode cX11_here 13 = .ok (.iconst 2, 1) := by decide +kernel
theorem dX11_here_14 : decode cX11_here 14 = .ok (.if_icmp .ne 20, 3) := by decide +kernel
theorem dX11_here_17 : decode cX11_here 17 = .ok (.aload_n 1, 1) := by decide +kernel
theorem dX11_here_18 : decode cX11_here 18 = .ok (.iload_n 2, 1) := by decide +kernel
theorem dX11_here_19 : decode cX11_here 19 = .ok (.iload 4, 2) := by decide +kernel
theorem dX11_here_21 : decode cX11_here 21 = .ok (.iadd, 1) := by decide +kernel
theorem dX11_here_22 : decode cX11_here 22 = .ok (.laload, 1) := by decide +kernel
theorem dX11_here_23 : decode cX11_here 23 = .ok (.aload_n 0, 1) := by decide +kernel
theorem dX11_here_24 : decode cX11_here 24 = .ok (.getfield 228, 3) := by decide +kernel
theorem dX11_here_27 : decode cX11_here 27 = .ok (.lcmp, 1) := by decide +kernel
theorem dX11_here_28 : decode cX11_here 28 = .ok (.ifCond .ne 6, 3) := by decide +kernel
theorem dX11_here_31 : decode cX11_here 31 = .ok (.iload 4, 2) := by decide +kernel
theorem dX11_here_33 : decode cX11_here 33 = .ok (.ireturn, 1) := by decide +kernel
theorem dX11_here_34 : decode cX11_here 34 = .ok (.iinc 4 1, 3) := by decide +kernel
theorem dX11_here_37 : decode cX11_here 37 = .ok (.goto (-34), 3) := by decide +kernel
theorem dX11_here_40 : decode cX11_here 40 = .ok (.iconst (-1), 1) := by decide +kernel
theorem dX11_here_41 : decode cX11_here 41 = .ok (.ireturn, 1) := by decide +kernel
theorem dX11_roomHere_0 : decode cX11_roomHere 0 = .ok (.aload_n 0, 1) := by decide +kernel
theorem dX11_roomHere_1 : decode cX11_roomHere 1 = .ok (.aload_n 0, 1) := by decide +kernel
theorem dX11_roomHere_2 : decode cX11_roomHere 2 = .ok (.getfield 88, 3) := by decide +kernel
theorem dX11_roomHere_5 : decode cX11_roomHere 5 = .ok (.bipush 6, 2) := by decide +kernel
theorem dX11_roomHere_7 : decode cX11_roomHere 7 = .ok (.aload_n 0, 1) := by decide +kernel
theorem dX11_roomHere_8 : decode cX11_roomHere 8 = .ok (.getfield 270, 3) := by decide +kernel
theorem dX11_roomHere_11 : decode cX11_roomHere 11 = .ok (.imul, 1) := by decide +kernel
theorem dX11_roomHere_12 : decode cX11_roomHere 12 = .ok (.aload_n 0, 1) := by decide +kernel
theorem dX11_roomHere_13 : decode cX11_roomHere 13 = .ok (.getfield 20, 3) := by decide +kernel
theorem dX11_roomHere_16 : decode cX11_roomHere 16 = .ok (.aload_n 0, 1) := by decide +kernel
theorem dX11_roomHere_17 : decode cX11_roomHere 17 = .ok (.getfield 270, 3) := by decide +kernel
theorem dX11_roomHere_20 : decode cX11_roomHere 20 = .ok (.iaload, 1) := by decide +kernel
theorem dX11_roomHere_21 : decode cX11_roomHere 21 = .ok (.invokevirtual 314, 3) := by decide +kernel
theorem dX11_roomHere_24 : decode cX11_roomHere 24 = .ok (.ireturn, 1) := by decide +kernel
theorem dX11_factHere_0 : decode cX11_factHere 0 = .ok (.aload_n 0, 1) := by decide +kernel
theorem dX11_factHere_1 : decode cX11_factHere 1 = .ok (.aload_n 0, 1) := by decide +kernel
theorem dX11_factHere_2 : decode cX11_factHere 2 = .ok (.getfield 92, 3) := by decide +kernel
theorem dX11_factHere_5 : decode cX11_factHere 5 = .ok (.bipush 10, 2) := by decide +kernel
theorem dX11_factHere_7 : decode cX11_factHere 7 = .ok (.aload_n 0, 1) := by decide +kernel
theorem dX11_factHere_8 : decode cX11_factHere 8 = .ok (.getfield 270, 3) := by decide +kernel
theorem dX11_factHere_11 : decode cX11_factHere 11 = .ok (.imul, 1) := by decide +kernel
theorem dX11_factHere_12 : decode cX11_factHere 12 = .ok (.aload_n 0, 1) := by decide +kernel
theorem dX11_factHere_13 : decode cX11_factHere 13 = .ok (.getfield 24, 3) := by decide +kernel
theorem dX11_factHere_16 : decode cX11_factHere 16 = .ok (.aload_n 0, 1) := by decide +kernel
theorem dX11_factHere_17 : decode cX11_factHere 17 = .ok (.getfield 270, 3) := by decide +kernel
theorem dX11_factHere_20 : decode cX11_factHere 20 = .ok (.iaload, 1) := by decide +kernel
theorem dX11_factHere_21 : decode cX11_factHere 21 = .ok (.invokevirtual 314, 3) := by decide +kernel
theorem dX11_factHere_24 : decode cX11_factHere 24 = .ok (.ireturn, 1) := by decide +kernel
theorem dX11_fresh_0 : decode cX11_fresh 0 = .ok (.aload_n 0, 1) := by decide +kernel
theorem dX11_fresh_1 : decode cX11_fresh 1 = .ok (.invokevirtual 249, 3) := by decide +kernel
theorem dX11_fresh_4 : decode cX11_fresh 4 = .ok (.ifCond .ne 5, 3) := by decide +kernel
theorem dX11_fresh_7 : decode cX11_fresh 7 = .ok (.lconst 0, 1) := by decide +kernel
theorem dX11_fresh_8 : decode cX11_fresh 8 = .ok (.lreturn, 1) := by decide +kernel
theorem dX11_fresh_9 : decode cX11_fresh 9 = .ok (.aload_n 0, 1) := by decide +kernel
theorem dX11_fresh_10 : decode cX11_fresh 10 = .ok (.getfield 221, 3) := by decide +kernel
theorem dX11_fresh_13 : decode cX11_fresh 13 = .ok (.iconst 2, 1) := by decide +kernel
theorem dX11_fresh_14 : decode cX11_fresh 14 = .ok (.if_icmp .eq 10, 3) := by decide +kernel
theorem dX11_fresh_17 : decode cX11_fresh 17 = .ok (.aload_n 0, 1) := by decide +kernel
theorem dX11_fresh_18 : decode cX11_fresh 18 = .ok (.invokevirtual 256, 3) := by decide +kernel
theorem dX11_fresh_21 : decode cX11_fresh 21 = .ok (.goto 16, 3) := by decide +kernel
theorem dX11_fresh_24 : decode cX11_fresh 24 = .ok (.iload_n 1, 1) := by decide +kernel
theorem dX11_fresh_25 : decode cX11_fresh 25 = .ok (.ifCond .lt 12, 3) := by decide +kernel
theorem dX11_fresh_28 : decode cX11_fresh 28 = .ok (.aload_n 0, 1) := by decide +kernel
theorem dX11_fresh_29 : decode cX11_fresh 29 = .ok (.iconst 3, 1) := by decide +kernel
theorem dX11_fresh_30 : decode cX11_fresh 30 = .ok (.aload_n 0, 1) := by decide +kernel
theorem dX11_fresh_31 : decode cX11_fresh 31 = .ok (.getfield 214, 3) := by decide +kernel
theorem dX11_fresh_34 : decode cX11_fresh 34 = .ok (.invokevirtual 245, 3) := by decide +kernel
theorem dX11_fresh_37 : decode cX11_fresh 37 = .ok (.aload_n 0, 1) := by decide +kernel
theorem dX11_fresh_38 : decode cX11_fresh 38 = .ok (.getfield 228, 3) := by decide +kernel
theorem dX11_fresh_41 : decode cX11_fresh 41 = .ok (.lstore_n 2, 1) := by decide +kernel
theorem dX11_fresh_42 : decode cX11_fresh 42 = .ok (.aload_n 0, 1) := by decide +kernel
theorem dX11_fresh_43 : decode cX11_fresh 43 = .ok (.invokevirtual 249, 3) := by decide +kernel
theorem dX11_fresh_46 : decode cX11_fresh 46 = .ok (.ifCond .eq 7, 3) := by decide +kernel
theorem dX11_fresh_49 : decode cX11_fresh 49 = .ok (.aload_n 0, 1) := by decide +kernel
theorem dX11_fresh_50 : decode cX11_fresh 50 = .ok (.invokevirtual 253, 3) := by decide +kernel
theorem dX11_fresh_53 : decode cX11_fresh 53 = .ok (.lload_n 2, 1) := by decide +kernel
theorem dX11_fresh_54 : decode cX11_fresh 54 = .ok (.lreturn, 1) := by decide +kernel
theorem dX11_known_0 : decode cX11_known 0 = .ok (.aload_n 0, 1) := by decide +kernel
theorem dX11_known_1 : decode cX11_known 1 = .ok (.invokevirtual 249, 3) := by decide +kernel
theorem dX11_known_4 : decode cX11_known 4 = .ok (.ifCond .ne 5, 3) := by decide +kernel
theorem dX11_known_7 : decode cX11_known 7 = .ok (.iconst 0, 1) := by decide +kernel
theorem dX11_known_8 : decode cX11_known 8 = .ok (.ireturn, 1) := by decide +kernel
theorem dX11_known_9 : decode cX11_known 9 = .ok (.aload_n 0, 1) := by decide +kernel
theorem dX11_known_10 : decode cX11_known 10 = .ok (.getfield 221, 3) := by decide +kernel
theorem dX11_known_13 : decode cX11_known 13 = .ok (.iconst 2, 1) := by decide +kernel
theorem dX11_known_14 : decode cX11_known 14 = .ok (.if_icmp .eq 10, 3) := by decide +kernel
theorem dX11_known_17 : decode cX11_known 17 = .ok (.aload_n 0, 1) := by decide +kernel
theorem dX11_known_18 : decode cX11_known 18 = .ok (.invokevirtual 256, 3) := by decide +kernel
theorem dX11_known_21 : decode cX11_known 21 = .ok (.goto 23, 3) := by decide +kernel
theorem dX11_known_24 : decode cX11_known 24 = .ok (.iload_n 1, 1) := by decide +kernel
theorem dX11_known_25 : decode cX11_known 25 = .ok (.ifCond .ge 15, 3) := by decide +kernel
theorem dX11_known_28 : decode cX11_known 28 = .ok (.aload_n 0, 1) := by decide +kernel
theorem dX11_known_29 : decode cX11_known 29 = .ok (.iconst 5, 1) := by decide +kernel
theorem dX11_known_30 : decode cX11_known 30 = .ok (.aload_n 0, 1) := by decide +kernel
theorem dX11_known_31 : decode cX11_known 31 = .ok (.getfield 214, 3) := by decide +kernel
theorem dX11_known_34 : decode cX11_known 34 = .ok (.invokevirtual 245, 3) := by decide +kernel
theorem dX11_known_37 : decode cX11_known 37 = .ok (.goto 7, 3) := by decide +kernel
theorem dX11_known_40 : decode cX11_known 40 = .ok (.aload_n 0, 1) := by decide +kernel
theorem dX11_known_41 : decode cX11_known 41 = .ok (.invokevirtual 253, 3) := by decide +kernel
theorem dX11_known_44 : decode cX11_known 44 = .ok (.iload_n 1, 1) := by decide +kernel
theorem dX11_known_45 : decode cX11_known 45 = .ok (.ifCond .ge 7, 3) := by decide +kernel
theorem dX11_known_48 : decode cX11_known 48 = .ok (.iconst 0, 1) := by decide +kernel
theorem dX11_known_49 : decode cX11_known 49 = .ok (.goto 4, 3) := by decide +kernel
theorem dX11_known_52 : decode cX11_known 52 = .ok (.iload_n 1, 1) := by decide +kernel
theorem dX11_known_53 : decode cX11_known 53 = .ok (.ireturn, 1) := by decide +kernel
set_option maxHeartbeats 2000000 in
set_option maxRecDepth 20000 in
theorem c_X11_must (l : Launch) (D : va_G) (cy : Nat → ClassId) (B N : Nat) (m : Int) (a : Int) (M : MM) (hN : 257 ≤ N) (hI : Iv M) (hpa : I32 a) (hML : ML m M) (h1 : 0 ≤ a ∧ a ≤ 1) : CV l D cy B N 3 yX11_must cX11_must 2 none [rv B 210, iv a] M (fun M' => Iv M' ∧ Fr (fun a b => (a = 210 ∧ 4 ≤ b ∧ b ≤ 10)) M M' ∧ (ML m M') ∧ (M'.1 210 4 = 0 → M.1 210 4 = 0) ∧ (M.1 210 4 = 0 → (a = 1 → M.1 210 8 ≠ 0) → ML (m - 1) M')) := by
  refine mk_CV (by decide) (Nat.le_of_ble_eq_true rfl) ?_
  intro X exl exD excy hnL hX hret
  have hce : 0 + 0 ≤ (xR X).cells ∧ 0 + 0 ≤ (xR X).slots := ⟨Nat.zero_le _, Nat.zero_le _⟩
  have hF : Fr (fun a b => (a = 210 ∧ 4 ≤ b ∧ b ≤ 10)) M M := Fr.rf
  have hk1 : M.1 210 4 = M.1 210 4 := rfl
  show J X B N 0 0 0 [(0, rv B 210), (1, iv a)] [] M
  refine j_aload_n hX dX11_must_0 rfl 0 rfl ?_
  refine j_callVI hX lk_X11_249 (c_X11_isGood _ _ _ _ _ _ (by omega) hI) (by omega) hce rfl rfl (by omega) (by omega) kc_210 rfl rfl (Nat.le_of_ble_eq_true rfl) dX11_must_1 (fun z2 M3 hz5 hp4 => ?_)
  obtain ⟨hE6, hb7, hq8, hq9⟩ := hp4
  replace hE6 := hE6.symm
  subst hE6
  refine j_if_ne (tgt := 8) hX dX11_must_4 (by decide) (by omega) (fun hc10 => ?_) (fun hc10 => ?_)
  · skip
    have hi11 := hq8 (by omega)
    clear hq8
    clear hq9
    refine j_iload_n hX dX11_must_8 rfl 1 rfl ?_
    refine j_if_eq (tgt := 19) hX dX11_must_9 (by decide) (by omega) (fun hc12 => ?_) (fun hc12 => ?_)
    · skip
      refine j_aload_n hX dX11_must_19 rfl 0 rfl ?_
      refine j_callVV hX lk_X11_256 (c_X11_misplaced _ _ _ _ _ _ _ (by omega) hI hML) (by omega) hce rfl rfl (by omega) (by omega) kc_210 rfl rfl (Nat.le_of_ble_eq_true rfl) dX11_must_20 (fun M14 hp15 => ?_)
      obtain ⟨hI18, hG19, hq20, hq21⟩ := hp15
      clear hk1
      have hF23 := Fr.trans hF hG19 (fun a b h => by omega)
      have hk24 : M14.1 210 4 = M14.1 210 4 := rfl
      exact hret _ _ _ dX11_must_23 ⟨hI18, hF23, by first | assumption | omega, by first | assumption | omega, by first | exact fun h => absurd h (by omega) | exact fun h4 h8 => hgo h4 (h8 (by omega)) | exact fun h4 _ => ML_bad (by have := ML_1 hML h4; omega) (by omega)⟩
    · skip
      refine j_aload_n hX dX11_must_12 rfl 0 rfl ?_
      refine j_callVV hX lk_X11_253 (c_X11_goOn _ _ _ _ _ _ _ _ (by omega) hI (by first | assumption | rfl) hML) (by omega) hce rfl rfl (by omega) (by omega) kc_210 rfl rfl (Nat.le_of_ble_eq_true rfl) dX11_must_13 (fun M26 hp27 => ?_)
      obtain ⟨hI30, hG31, hq32, hq33⟩ := hp27
      have hk35 := kp_fr hG31 (by omega) hk1
      clear hk1
      have hF36 := Fr.trans hF hG31 (fun a b h => by omega)
      have hgo := hq33
      refine j_goto (tgt := 23) hX dX11_must_16 (by decide) ?_
      exact hret _ _ _ dX11_must_23 ⟨hI30, hF36, by first | assumption | omega, by first | assumption | omega, by first | exact fun h => absurd h (by omega) | exact fun h4 h8 => hgo h4 (h8 (by omega)) | exact fun h4 _ => ML_bad (by have := ML_1 hML h4; omega) (by omega)⟩
  · skip
    clear hq8
    have hi37 := hq9 (by omega)
    clear hq9
    exact hret _ _ _ dX11_must_7 ⟨hI, hF, by first | assumption | omega, by first | assumption | omega, by first | exact fun h => absurd h (by omega) | exact fun h4 h8 => hgo h4 (h8 (by omega)) | exact fun h4 _ => ML_bad (by have := ML_1 hML h4; omega) (by omega)⟩
set_option maxHeartbeats 2000000 in
set_option maxRecDepth 20000 in
theorem c_X11_numeral (l : Launch) (D : va_G) (cy : Nat → ClassId) (B N : Nat) (m : Int) (b : Int) (c : Int) (M : MM) (hN : 257 ≤ N) (hI : Iv M) (hpb : I32 b) (hpc : I32 c) (hML : ML m M) (h1 : b ≤ c) : CI l D cy B N 3 yX11_numeral cX11_numeral 4 (some .int) [rv B 210, iv b, iv c] M (fun z M' => Iv M' ∧ Fr (fun a b => (a = 210 ∧ 4 ≤ b ∧ b ≤ 10)) M M' ∧ (ML m M') ∧ (b ≤ z ∧ z ≤ c) ∧ (M'.1 210 4 = 0 → M.1 210 4 = 0)) := by
  refine mk_CI (by decide) (Nat.le_of_ble_eq_true rfl) ?_
  intro X exl exD excy hnL hX hret
  have hce : 0 + 0 ≤ (xR X).cells ∧ 0 + 0 ≤ (xR X).slots := ⟨Nat.zero_le _, Nat.zero_le _⟩
  have hF : Fr (fun a b => (a = 210 ∧ 4 ≤ b ∧ b ≤ 10)) M M := Fr.rf
  have hk1 : M.1 210 4 = M.1 210 4 := rfl
  show J X B N 0 0 0 [(0, rv B 210), (1, iv b), (2, iv c)] [] M
  refine j_aload_n hX dX11_numeral_0 rfl 0 rfl ?_
  refine j_callVI hX lk_X11_249 (c_X11_isGood _ _ _ _ _ _ (by omega) hI) (by omega) hce rfl rfl (by omega) (by omega) kc_210 rfl rfl (Nat.le_of_ble_eq_true rfl) dX11_numeral_1 (fun z2 M3 hz5 hp4 => ?_)
  obtain ⟨hE6, hb7, hq8, hq9⟩ := hp4
  replace hE6 := hE6.symm
  subst hE6
  refine j_if_ne (tgt := 9) hX dX11_numeral_4 (by decide) (by omega) (fun hc10 => ?_) (fun hc10 => ?_)
  · skip
    have hi11 := hq8 (by omega)
    clear hq8
    clear hq9
    refine j_aload_n hX dX11_numeral_9 rfl 0 rfl ?_
    refine gf_X11_221 hX (by omega) (by omega) kc_210 dX11_numeral_10 ?_
    refine j_name hI ro_210_8 (fun v12 hv13 hl14 hh15 => ?_)
    have hk16 := hv13.symm
    refine j_iconst hX dX11_numeral_13 ?_
    refine j_icmp_eq (tgt := 21) hX dX11_numeral_14 (by decide) (by omega) (by omega) (fun hc17 => ?_) (fun hc17 => ?_)
    · skip
      refine j_aload_n hX dX11_numeral_21 rfl 0 rfl ?_
      refine j_callVI hX lk_X11_249 (c_X11_isGood _ _ _ _ _ _ (by omega) hI) (by omega) hce rfl rfl (by omega) (by omega) kc_210 rfl rfl (Nat.le_of_ble_eq_true rfl) dX11_numeral_22 (fun z18 M19 hz21 hp20 => ?_)
      obtain ⟨hE22, hb23, hq24, hq25⟩ := hp20
      replace hE22 := hE22.symm
      subst hE22
      refine j_if_eq (tgt := 53) hX dX11_numeral_25 (by decide) (by omega) (fun hc26 => ?_) (fun hc26 => ?_)
      · skip
        clear hq24
        have hi27 := hq25 (by omega)
        clear hq25
        refine j_aload_n hX dX11_numeral_53 rfl 0 rfl ?_
        refine gf_X11_239 hX (by omega) (by omega) kc_210 dX11_numeral_54 ?_
        refine j_name hI ro_210_9 (fun v28 hv29 hl30 hh31 => ?_)
        have hk32 := hv29.symm
        refine j_istore_n (lv' := [(3, _), (0, _), (1, _), (2, _)]) hX dX11_numeral_57 rfl (by rw [hnL]; decide) rfl ?_
        refine j_aload_n hX dX11_numeral_58 rfl 1 rfl ?_
        refine j_callVI hX lk_X11_249 (c_X11_isGood _ _ _ _ _ _ (by omega) hI) (by omega) hce rfl rfl (by omega) (by omega) kc_210 rfl rfl (Nat.le_of_ble_eq_true rfl) dX11_numeral_59 (fun z33 M34 hz36 hp35 => ?_)
        obtain ⟨hE37, hb38, hq39, hq40⟩ := hp35
        replace hE37 := hE37.symm
        subst hE37
        refine j_if_eq (tgt := 69) hX dX11_numeral_62 (by decide) (by omega) (fun hc41 => ?_) (fun hc41 => ?_)
        · skip
          clear hq39
          have hi42 := hq40 (by omega)
          clear hq40
          refine j_aload_n hX dX11_numeral_69 rfl 1 rfl ?_
          refine j_callVI hX lk_X11_249 (c_X11_isGood _ _ _ _ _ _ (by omega) hI) (by omega) hce rfl rfl (by omega) (by omega) kc_210 rfl rfl (Nat.le_of_ble_eq_true rfl) dX11_numeral_70 (fun z43 M44 hz46 hp45 => ?_)
          obtain ⟨hE47, hb48, hq49, hq50⟩ := hp45
          replace hE47 := hE47.symm
          subst hE47
          refine j_if_eq (tgt := 80) hX dX11_numeral_73 (by decide) (by omega) (fun hc51 => ?_) (fun hc51 => ?_)
          · skip
            clear hq49
            have hi52 := hq50 (by omega)
            clear hq50
            refine j_iload_n hX dX11_numeral_80 rfl 2 rfl ?_
            exact hret _ _ _ _ dX11_numeral_81 rfl (by omega) ⟨hI, hF, by first | assumption | omega, by first | assumption | omega, by first | assumption | omega⟩
          · skip
            have hi53 := hq49 (by omega)
            clear hq49
            clear hq50
            refine j_iload_n hX dX11_numeral_76 rfl 0 rfl ?_
            refine j_goto (tgt := 81) hX dX11_numeral_77 (by decide) ?_
            exact hret _ _ _ _ dX11_numeral_81 rfl (by omega) ⟨hI, hF, by first | assumption | omega, by first | assumption | omega, by first | assumption | omega⟩
        · skip
          have hi54 := hq39 (by omega)
          clear hq39
          clear hq40
          refine j_aload_n hX dX11_numeral_65 rfl 1 rfl ?_
          refine j_callVV hX lk_X11_253 (c_X11_goOn _ _ _ _ _ _ _ _ (by omega) hI (by first | assumption | rfl) hML) (by omega) hce rfl rfl (by omega) (by omega) kc_210 rfl rfl (Nat.le_of_ble_eq_true rfl) dX11_numeral_66 (fun M56 hp57 => ?_)
          obtain ⟨hI60, hG61, hq62, hq63⟩ := hp57
          have hk65 := kp_fr hG61 (by omega) hk1
          clear hk1 hk16 hk32
          have hF66 := Fr.trans hF hG61 (fun a b h => by omega)
          refine j_aload_n hX dX11_numeral_69 rfl 1 rfl ?_
          refine j_callVI hX lk_X11_249 (c_X11_isGood _ _ _ _ _ _ (by omega) hI60) (by omega) hce rfl rfl (by omega) (by omega) kc_210 rfl rfl (Nat.le_of_ble_eq_true rfl) dX11_numeral_70 (fun z67 M68 hz70 hp69 => ?_)
          obtain ⟨hE71, hb72, hq73, hq74⟩ := hp69
          replace hE71 := hE71.symm
          subst hE71
          refine j_if_eq (tgt := 80) hX dX11_numeral_73 (by decide) (by omega) (fun hc75 => ?_) (fun hc75 => ?_)
          · skip
            clear hq73
            have hi76 := hq74 (by omega)
            clear hq74
            refine j_iload_n hX dX11_numeral_80 rfl 2 rfl ?_
            exact hret _ _ _ _ dX11_numeral_81 rfl (by omega) ⟨hI60, hF66, by first | assumption | omega, by first | assumption | omega, by first | assumption | omega⟩
          · skip
            have hi77 := hq73 (by omega)
            clear hq73
            clear hq74
            refine j_iload_n hX dX11_numeral_76 rfl 0 rfl ?_
            refine j_goto (tgt := 81) hX dX11_numeral_77 (by decide) ?_
            exact hret _ _ _ _ dX11_numeral_81 rfl (by omega) ⟨hI60, hF66, by first | assumption | omega, by first | assumption | omega, by first | assumption | omega⟩
      · skip
        have hi78 := hq24 (by omega)
        clear hq24
        clear hq25
        refine j_aload_n hX dX11_numeral_28 rfl 0 rfl ?_
        refine gf_X11_239 hX (by omega) (by omega) kc_210 dX11_numeral_29 ?_
        refine j_name hI ro_210_9 (fun v79 hv80 hl81 hh82 => ?_)
        have hk83 := hv80.symm
        refine j_iload_n hX dX11_numeral_32 rfl 1 rfl ?_
        refine j_icmp_lt (tgt := 44) hX dX11_numeral_33 (by decide) (by omega) (by omega) (fun hc84 => ?_) (fun hc84 => ?_)
        · skip
          refine j_aload_n hX dX11_numeral_44 rfl 0 rfl ?_
          refine j_iconst hX dX11_numeral_45 ?_
          refine j_aload_n hX dX11_numeral_46 rfl 0 rfl ?_
          refine gf_X11_214 hX (by omega) (by omega) kc_210 dX11_numeral_47 ?_
          refine j_name hI ro_210_6 (fun v85 hv86 hl87 hh88 => ?_)
          have hk89 := hv86.symm
          refine j_callVV hX lk_X11_245 (c_X11_fails _ _ _ _ _ _ _ _ _ (by omega) hI (by omega) (by omega) hML (by first | assumption | omega)) (by omega) hce rfl rfl (by omega) (by omega) kc_210 rfl rfl (Nat.le_of_ble_eq_true rfl) dX11_numeral_50 (fun M91 hp92 => ?_)
          obtain ⟨hI95, hG96, hq97, hq98⟩ := hp92
          have hk100 := kp_fr hG96 (by omega) hk16
          have hk101 := kp_fr hG96 (by omega) hk83
          have hk102 := kp_fr hG96 (by omega) hk89
          clear hk1 hk16 hk83 hk89
          have hF103 := Fr.trans hF hG96 (fun a b h => by omega)
          have hk104 : M91.1 210 4 = M91.1 210 4 := rfl
          refine j_aload_n hX dX11_numeral_53 rfl 0 rfl ?_
          refine gf_X11_239 hX (by omega) (by omega) kc_210 dX11_numeral_54 ?_
          refine j_top hk101 ?_
          refine j_istore_n (lv' := [(3, _), (0, _), (1, _), (2, _)]) hX dX11_numeral_57 rfl (by rw [hnL]; decide) rfl ?_
          refine j_aload_n hX dX11_numeral_58 rfl 1 rfl ?_
          refine j_callVI hX lk_X11_249 (c_X11_isGood _ _ _ _ _ _ (by omega) hI95) (by omega) hce rfl rfl (by omega) (by omega) kc_210 rfl rfl (Nat.le_of_ble_eq_true rfl) dX11_numeral_59 (fun z105 M106 hz108 hp107 => ?_)
          obtain ⟨hE109, hb110, hq111, hq112⟩ := hp107
          replace hE109 := hE109.symm
          subst hE109
          refine j_if_eq (tgt := 69) hX dX11_numeral_62 (by decide) (by omega) (fun hc113 => ?_) (fun hc113 => ?_)
          · skip
            clear hq111
            have hi114 := hq112 (by omega)
            clear hq112
            refine j_aload_n hX dX11_numeral_69 rfl 1 rfl ?_
            refine j_callVI hX lk_X11_249 (c_X11_isGood _ _ _ _ _ _ (by omega) hI95) (by omega) hce rfl rfl (by omega) (by omega) kc_210 rfl rfl (Nat.le_of_ble_eq_true rfl) dX11_numeral_70 (fun z115 M116 hz118 hp117 => ?_)
            obtain ⟨hE119, hb120, hq121, hq122⟩ := hp117
            replace hE119 := hE119.symm
            subst hE119
            refine j_if_eq (tgt := 80) hX dX11_numeral_73 (by decide) (by omega) (fun hc123 => ?_) (fun hc123 => ?_)
            · skip
              clear hq121
              have hi124 := hq122 (by omega)
              clear hq122
              refine j_iload_n hX dX11_numeral_80 rfl 2 rfl ?_
              exact hret _ _ _ _ dX11_numeral_81 rfl (by omega) ⟨hI95, hF103, by first | assumption | omega, by first | assumption | omega, by first | assumption | omega⟩
            · skip
              have hi125 := hq121 (by omega)
              clear hq121
              clear hq122
              refine j_iload_n hX dX11_numeral_76 rfl 0 rfl ?_
              refine j_goto (tgt := 81) hX dX11_numeral_77 (by decide) ?_
              exact hret _ _ _ _ dX11_numeral_81 rfl (by omega) ⟨hI95, hF103, by first | assumption | omega, by first | assumption | omega, by first | assumption | omega⟩
          · skip
            have hi126 := hq111 (by omega)
            clear hq111
            clear hq112
            refine j_aload_n hX dX11_numeral_65 rfl 1 rfl ?_
            refine j_callVV hX lk_X11_253 (c_X11_goOn _ _ _ _ _ _ _ _ (by omega) hI95 (by first | assumption | rfl) hq97) (by omega) hce rfl rfl (by omega) (by omega) kc_210 rfl rfl (Nat.le_of_ble_eq_true rfl) dX11_numeral_66 (fun M128 hp129 => ?_)
            obtain ⟨hI132, hG133, hq134, hq135⟩ := hp129
            have hk137 := kp_fr hG133 (by omega) hk104
            clear hk100 hk101 hk102 hk104
            have hF138 := Fr.trans hF103 hG133 (fun a b h => by omega)
            refine j_aload_n hX dX11_numeral_69 rfl 1 rfl ?_
            refine j_callVI hX lk_X11_249 (c_X11_isGood _ _ _ _ _ _ (by omega) hI132) (by omega) hce rfl rfl (by omega) (by omega) kc_210 rfl rfl (Nat.le_of_ble_eq_true rfl) dX11_numeral_70 (fun z139 M140 hz142 hp141 => ?_)
            obtain ⟨hE143, hb144, hq145, hq146⟩ := hp141
            replace hE143 := hE143.symm
            subst hE143
            refine j_if_eq (tgt := 80) hX dX11_numeral_73 (by decide) (by omega) (fun hc147 => ?_) (fun hc147 => ?_)
            · skip
              clear hq145
              have hi148 := hq146 (by omega)
              clear hq146
              refine j_iload_n hX dX11_numeral_80 rfl 2 rfl ?_
              exact hret _ _ _ _ dX11_numeral_81 rfl (by omega) ⟨hI132, hF138, by first | assumption | omega, by first | assumption | omega, by first | assumption | omega⟩
            · skip
              have hi149 := hq145 (by omega)
              clear hq145
              clear hq146
              refine j_iload_n hX dX11_numeral_76 rfl 0 rfl ?_
              refine j_goto (tgt := 81) hX dX11_numeral_77 (by decide) ?_
              exact hret _ _ _ _ dX11_numeral_81 rfl (by omega) ⟨hI132, hF138, by first | assumption | omega, by first | assumption | omega, by first | assumption | omega⟩
        · skip
          refine j_aload_n hX dX11_numeral_36 rfl 0 rfl ?_
          refine gf_X11_239 hX (by omega) (by omega) kc_210 dX11_numeral_37 ?_
          refine j_top hk83 ?_
          refine j_iload_n hX dX11_numeral_40 rfl 2 rfl ?_
          refine j_icmp_le (tgt := 53) hX dX11_numeral_41 (by decide) (by omega) (by omega) (fun hc150 => ?_) (fun hc150 => ?_)
          · skip
            refine j_aload_n hX dX11_numeral_53 rfl 0 rfl ?_
            refine gf_X11_239 hX (by omega) (by omega) kc_210 dX11_numeral_54 ?_
            refine j_top hk83 ?_
            refine j_istore_n (lv' := [(3, _), (0, _), (1, _), (2, _)]) hX dX11_numeral_57 rfl (by rw [hnL]; decide) rfl ?_
            refine j_aload_n hX dX11_numeral_58 rfl 1 rfl ?_
            refine j_callVI hX lk_X11_249 (c_X11_isGood _ _ _ _ _ _ (by omega) hI) (by omega) hce rfl rfl (by omega) (by omega) kc_210 rfl rfl (Nat.le_of_ble_eq_true rfl) dX11_numeral_59 (fun z151 M152 hz154 hp153 => ?_)
            obtain ⟨hE155, hb156, hq157, hq158⟩ := hp153
            replace hE155 := hE155.symm
            subst hE155
            refine j_if_eq (tgt := 69) hX dX11_numeral_62 (by decide) (by omega) (fun hc159 => ?_) (fun hc159 => ?_)
            · skip
              clear hq157
              have hi160 := hq158 (by omega)
              clear hq158
              refine j_aload_n hX dX11_numeral_69 rfl 1 rfl ?_
              refine j_callVI hX lk_X11_249 (c_X11_isGood _ _ _ _ _ _ (by omega) hI) (by omega) hce rfl rfl (by omega) (by omega) kc_210 rfl rfl (Nat.le_of_ble_eq_true rfl) dX11_numeral_70 (fun z161 M162 hz164 hp163 => ?_)
              obtain ⟨hE165, hb166, hq167, hq168⟩ := hp163
              replace hE165 := hE165.symm
              subst hE165
              refine j_if_eq (tgt := 80) hX dX11_numeral_73 (by decide) (by omega) (fun hc169 => ?_) (fun hc169 => ?_)
              · skip
                clear hq167
                have hi170 := hq168 (by omega)
                clear hq168
                refine j_iload_n hX dX11_numeral_80 rfl 2 rfl ?_
                exact hret _ _ _ _ dX11_numeral_81 rfl (by omega) ⟨hI, hF, by first | assumption | omega, by first | assumption | omega, by first | assumption | omega⟩
              · skip
                have hi171 := hq167 (by omega)
                clear hq167
                clear hq168
                refine j_iload_n hX dX11_numeral_76 rfl 0 rfl ?_
                refine j_goto (tgt := 81) hX dX11_numeral_77 (by decide) ?_
                exact hret _ _ _ _ dX11_numeral_81 rfl (by omega) ⟨hI, hF, by first | assumption | omega, by first | assumption | omega, by first | assumption | omega⟩
            · skip
              have hi172 := hq157 (by omega)
              clear hq157
              clear hq158
              refine j_aload_n hX dX11_numeral_65 rfl 1 rfl ?_
              refine j_callVV hX lk_X11_253 (c_X11_goOn _ _ _ _ _ _ _ _ (by omega) hI (by first | assumption | rfl) hML) (by omega) hce rfl rfl (by omega) (by omega) kc_210 rfl rfl (Nat.le_of_ble_eq_true rfl) dX11_numeral_66 (fun M174 hp175 => ?_)
              obtain ⟨hI178, hG179, hq180, hq181⟩ := hp175
              have hk183 := kp_fr hG179 (by omega) hk1
              clear hk1 hk16 hk83
              have hF184 := Fr.trans hF hG179 (fun a b h => by omega)
              refine j_aload_n hX dX11_numeral_69 rfl 1 rfl ?_
              refine j_callVI hX lk_X11_249 (c_X11_isGood _ _ _ _ _ _ (by omega) hI178) (by omega) hce rfl rfl (by omega) (by omega) kc_210 rfl rfl (Nat.le_of_ble_eq_true rfl) dX11_numeral_70 (fun z185 M186 hz188 hp187 => ?_)
              obtain ⟨hE189, hb190, hq191, hq192⟩ := hp187
              replace hE189 := hE189.symm
              subst hE189
              refine j_if_eq (tgt := 80) hX dX11_numeral_73 (by decide) (by omega) (fun hc193 => ?_) (fun hc193 => ?_)
              · skip
                clear hq191
                have hi194 := hq192 (by omega)
                clear hq192
                refine j_iload_n hX dX11_numeral_80 rfl 2 rfl ?_
                exact hret _ _ _ _ dX11_numeral_81 rfl (by omega) ⟨hI178, hF184, by first | assumption | omega, by first | assumption | omega, by first | assumption | omega⟩
              · skip
                have hi195 := hq191 (by omega)
                clear hq191
                clear hq192
                refine j_iload_n hX dX11_numeral_76 rfl 0 rfl ?_
                refine j_goto (tgt := 81) hX dX11_numeral_77 (by decide) ?_
                exact hret _ _ _ _ dX11_numeral_81 rfl (by omega) ⟨hI178, hF184, by first | assumption | omega, by first | assumption | omega, by first | assumption | omega⟩
          · skip
            refine j_aload_n hX dX11_numeral_44 rfl 0 rfl ?_
            refine j_iconst hX dX11_numeral_45 ?_
            refine j_aload_n hX dX11_numeral_46 rfl 0 rfl ?_
            refine gf_X11_214 hX (by omega) (by omega) kc_210 dX11_numeral_47 ?_
            refine j_name hI ro_210_6 (fun v196 hv197 hl198 hh199 => ?_)
            have hk200 := hv197.symm
            refine j_callVV hX lk_X11_245 (c_X11_fails _ _ _ _ _ _ _ _ _ (by omega) hI (by omega) (by omega) hML (by first | assumption | omega)) (by omega) hce rfl rfl (by omega) (by omega) kc_210 rfl rfl (Nat.le_of_ble_eq_true rfl) dX11_numeral_50 (fun M202 hp203 => ?_)
            obtain ⟨hI206, hG207, hq208, hq209⟩ := hp203
            have hk211 := kp_fr hG207 (by omega) hk16
            have hk212 := kp_fr hG207 (by omega) hk83
            have hk213 := kp_fr hG207 (by omega) hk200
            clear hk1 hk16 hk83 hk200
            have hF214 := Fr.trans hF hG207 (fun a b h => by omega)
            have hk215 : M202.1 210 4 = M202.1 210 4 := rfl
            refine j_aload_n hX dX11_numeral_53 rfl 0 rfl ?_
            refine gf_X11_239 hX (by omega) (by omega) kc_210 dX11_numeral_54 ?_
            refine j_top hk212 ?_
            refine j_istore_n (lv' := [(3, _), (0, _), (1, _), (2, _)]) hX dX11_numeral_57 rfl (by rw [hnL]; decide) rfl ?_
            refine j_aload_n hX dX11_numeral_58 rfl 1 rfl ?_
            refine j_callVI hX lk_X11_249 (c_X11_isGood _ _ _ _ _ _ (by omega) hI206) (by omega) hce rfl rfl (by omega) (by omega) kc_210 rfl rfl (Nat.le_of_ble_eq_true rfl) dX11_numeral_59 (fun z216 M217 hz219 hp218 => ?_)
            obtain ⟨hE220, hb221, hq222, hq223⟩ := hp218
            replace hE220 := hE220.symm
            subst hE220
            refine j_if_eq (tgt := 69) hX dX11_numeral_62 (by decide) (by omega) (fun hc224 => ?_) (fun hc224 => ?_)
            · skip
              clear hq222
              have hi225 := hq223 (by omega)
              clear hq223
              refine j_aload_n hX dX11_numeral_69 rfl 1 rfl ?_
              refine j_callVI hX lk_X11_249 (c_X11_isGood _ _ _ _ _ _ (by omega) hI206) (by omega) hce rfl rfl (by omega) (by omega) kc_210 rfl rfl (Nat.le_of_ble_eq_true rfl) dX11_numeral_70 (fun z226 M227 hz229 hp228 => ?_)
              obtain ⟨hE230, hb231, hq232, hq233⟩ := hp228
              replace hE230 := hE230.symm
              subst hE230
              refine j_if_eq (tgt := 80) hX dX11_numeral_73 (by decide) (by omega) (fun hc234 => ?_) (fun hc234 => ?_)
              · skip
                clear hq232
                have hi235 := hq233 (by omega)
                clear hq233
                refine j_iload_n hX dX11_numeral_80 rfl 2 rfl ?_
                exact hret _ _ _ _ dX11_numeral_81 rfl (by omega) ⟨hI206, hF214, by first | assumption | omega, by first | assumption | omega, by first | assumption | omega⟩
              · skip
                have hi236 := hq232 (by omega)
                clear hq232
                clear hq233
                refine j_iload_n hX dX11_numeral_76 rfl 0 rfl ?_
                refine j_goto (tgt := 81) hX dX11_numeral_77 (by decide) ?_
                exact hret _ _ _ _ dX11_numeral_81 rfl (by omega) ⟨hI206, hF214, by first | assumption | omega, by first | assumption | omega, by first | assumption | omega⟩
            · skip
              have hi237 := hq222 (by omega)
              clear hq222
              clear hq223
              refine j_aload_n hX dX11_numeral_65 rfl 1 rfl ?_
              refine j_callVV hX lk_X11_253 (c_X11_goOn _ _ _ _ _ _ _ _ (by omega) hI206 (by first | assumption | rfl) hq208) (by omega) hce rfl rfl (by omega) (by omega) kc_210 rfl rfl (Nat.le_of_ble_eq_true rfl) dX11_numeral_66 (fun M239 hp240 => ?_)
              obtain ⟨hI243, hG244, hq245, hq246⟩ := hp240
              have hk248 := kp_fr hG244 (by omega) hk215
              clear hk211 hk212 hk213 hk215
              have hF249 := Fr.trans hF214 hG244 (fun a b h => by omega)
              refine j_aload_n hX dX11_numeral_69 rfl 1 rfl ?_
              refine j_callVI hX lk_X11_249 (c_X11_isGood _ _ _ _ _ _ (by omega) hI243) (by omega) hce rfl rfl (by omega) (by omega) kc_210 rfl rfl (Nat.le_of_ble_eq_true rfl) dX11_numeral_70 (fun z250 M251 hz253 hp252 => ?_)
              obtain ⟨hE254, hb255, hq256, hq257⟩ := hp252
              replace hE254 := hE254.symm
              subst hE254
              refine j_if_eq (tgt := 80) hX dX11_numeral_73 (by decide) (by omega) (fun hc258 => ?_) (fun hc258 => ?_)
              · skip
                clear hq256
                have hi259 := hq257 (by omega)
                clear hq257
                refine j_iload_n hX dX11_numeral_80 rfl 2 rfl ?_
                exact hret _ _ _ _ dX11_numeral_81 rfl (by omega) ⟨hI243, hF249, by first | assumption | omega, by first | assumption | omega, by first | assumption | omega⟩
              · skip
                have hi260 := hq256 (by omega)
                clear hq256
                clear hq257
                refine j_iload_n hX dX11_numeral_76 rfl 0 rfl ?_
                refine j_goto (tgt := 81) hX dX11_numeral_77 (by decide) ?_
                exact hret _ _ _ _ dX11_numeral_81 rfl (by omega) ⟨hI243, hF249, by first | assumption | omega, by first | assumption | omega, by first | assumption | omega⟩
    · skip
      refine j_aload_n hX dX11_numeral_17 rfl 0 rfl ?_
      refine j_callVV hX lk_X11_256 (c_X11_misplaced _ _ _ _ _ _ _ (by omega) hI hML) (by omega) hce rfl rfl (by omega) (by omega) kc_210 rfl rfl (Nat.le_of_ble_eq_true rfl) dX11_numeral_18 (fun M262 hp263 => ?_)
      obtain ⟨hI266, hG267, hq268, hq269⟩ := hp263
      have hk271 := kp_fr hG267 (by omega) hk16
      clear hk1 hk16
      have hF272 := Fr.trans hF hG267 (fun a b h => by omega)
      have hk273 : M262.1 210 4 = M262.1 210 4 := rfl
      refine j_aload_n hX dX11_numeral_21 rfl 0 rfl ?_
      refine j_callVI hX lk_X11_249 (c_X11_isGood _ _ _ _ _ _ (by omega) hI266) (by omega) hce rfl rfl (by omega) (by omega) kc_210 rfl rfl (Nat.le_of_ble_eq_true rfl) dX11_numeral_22 (fun z274 M275 hz277 hp276 => ?_)
      obtain ⟨hE278, hb279, hq280, hq281⟩ := hp276
      replace hE278 := hE278.symm
      subst hE278
      refine j_if_eq (tgt := 53) hX dX11_numeral_25 (by decide) (by omega) (fun hc282 => ?_) (fun hc282 => ?_)
      · skip
        clear hq280
        have hi283 := hq281 (by omega)
        clear hq281
        refine j_aload_n hX dX11_numeral_53 rfl 0 rfl ?_
        refine gf_X11_239 hX (by omega) (by omega) kc_210 dX11_numeral_54 ?_
        refine j_name hI266 ro_210_9 (fun v284 hv285 hl286 hh287 => ?_)
        have hk288 := hv285.symm
        refine j_istore_n (lv' := [(3, _), (0, _), (1, _), (2, _)]) hX dX11_numeral_57 rfl (by rw [hnL]; decide) rfl ?_
        refine j_aload_n hX dX11_numeral_58 rfl 1 rfl ?_
        refine j_callVI hX lk_X11_249 (c_X11_isGood _ _ _ _ _ _ (by omega) hI266) (by omega) hce rfl rfl (by omega) (by omega) kc_210 rfl rfl (Nat.le_of_ble_eq_true rfl) dX11_numeral_59 (fun z289 M290 hz292 hp291 => ?_)
        obtain ⟨hE293, hb294, hq295, hq296⟩ := hp291
        replace hE293 := hE293.symm
        subst hE293
        refine j_if_eq (tgt := 69) hX dX11_numeral_62 (by decide) (by omega) (fun hc297 => ?_) (fun hc297 => ?_)
        · skip
          clear hq295
          have hi298 := hq296 (by omega)
          clear hq296
          refine j_aload_n hX dX11_numeral_69 rfl 1 rfl ?_
          refine j_callVI hX lk_X11_249 (c_X11_isGood _ _ _ _ _ _ (by omega) hI266) (by omega) hce rfl rfl (by omega) (by omega) kc_210 rfl rfl (Nat.le_of_ble_eq_true rfl) dX11_numeral_70 (fun z299 M300 hz302 hp301 => ?_)
          obtain ⟨hE303, hb304, hq305, hq306⟩ := hp301
          replace hE303 := hE303.symm
          subst hE303
          refine j_if_eq (tgt := 80) hX dX11_numeral_73 (by decide) (by omega) (fun hc307 => ?_) (fun hc307 => ?_)
          · skip
            clear hq305
            have hi308 := hq306 (by omega)
            clear hq306
            refine j_iload_n hX dX11_numeral_80 rfl 2 rfl ?_
            exact hret _ _ _ _ dX11_numeral_81 rfl (by omega) ⟨hI266, hF272, by first | assumption | omega, by first | assumption | omega, by first | assumption | omega⟩
          · skip
            have hi309 := hq305 (by omega)
            clear hq305
            clear hq306
            refine j_iload_n hX dX11_numeral_76 rfl 0 rfl ?_
            refine j_goto (tgt := 81) hX dX11_numeral_77 (by decide) ?_
            exact hret _ _ _ _ dX11_numeral_81 rfl (by omega) ⟨hI266, hF272, by first | assumption | omega, by first | assumption | omega, by first | assumption | omega⟩
        · skip
          have hi310 := hq295 (by omega)
          clear hq295
          clear hq296
          refine j_aload_n hX dX11_numeral_65 rfl 1 rfl ?_
          refine j_callVV hX lk_X11_253 (c_X11_goOn _ _ _ _ _ _ _ _ (by omega) hI266 (by first | assumption | rfl) hq268) (by omega) hce rfl rfl (by omega) (by omega) kc_210 rfl rfl (Nat.le_of_ble_eq_true rfl) dX11_numeral_66 (fun M312 hp313 => ?_)
          obtain ⟨hI316, hG317, hq318, hq319⟩ := hp313
          have hk321 := kp_fr hG317 (by omega) hk273
          clear hk271 hk273 hk288
          have hF322 := Fr.trans hF272 hG317 (fun a b h => by omega)
          refine j_aload_n hX dX11_numeral_69 rfl 1 rfl ?_
          refine j_callVI hX lk_X11_249 (c_X11_isGood _ _ _ _ _ _ (by omega) hI316) (by omega) hce rfl rfl (by omega) (by omega) kc_210 rfl rfl (Nat.le_of_ble_eq_true rfl) dX11_numeral_70 (fun z323 M324 hz326 hp325 => ?_)
          obtain ⟨hE327, hb328, hq329, hq330⟩ := hp325
          replace hE327 := hE327.symm
          subst hE327
          refine j_if_eq (tgt := 80) hX dX11_numeral_73 (by decide) (by omega) (fun hc331 => ?_) (fun hc331 => ?_)
          · skip
            clear hq329
            have hi332 := hq330 (by omega)
            clear hq330
            refine j_iload_n hX dX11_numeral_80 rfl 2 rfl ?_
            exact hret _ _ _ _ dX11_numeral_81 rfl (by omega) ⟨hI316, hF322, by first | assumption | omega, by first | assumption | omega, by first | assumption | omega⟩
          · skip
            have hi333 := hq329 (by omega)
            clear hq329
            clear hq330
            refine j_iload_n hX dX11_numeral_76 rfl 0 rfl ?_
            refine j_goto (tgt := 81) hX dX11_numeral_77 (by decide) ?_
            exact hret _ _ _ _ dX11_numeral_81 rfl (by omega) ⟨hI316, hF322, by first | assumption | omega, by first | assumption | omega, by first | assumption | omega⟩
      · skip
        have hi334 := hq280 (by omega)
        clear hq280
        clear hq281
        refine j_aload_n hX dX11_numeral_28 rfl 0 rfl ?_
        refine gf_X11_239 hX (by omega) (by omega) kc_210 dX11_numeral_29 ?_
        refine j_name hI266 ro_210_9 (fun v335 hv336 hl337 hh338 => ?_)
        have hk339 := hv336.symm
        refine j_iload_n hX dX11_numeral_32 rfl 1 rfl ?_
        refine j_icmp_lt (tgt := 44) hX dX11_numeral_33 (by decide) (by omega) (by omega) (fun hc340 => ?_) (fun hc340 => ?_)
        · skip
          refine j_aload_n hX dX11_numeral_44 rfl 0 rfl ?_
          refine j_iconst hX dX11_numeral_45 ?_
          refine j_aload_n hX dX11_numeral_46 rfl 0 rfl ?_
          refine gf_X11_214 hX (by omega) (by omega) kc_210 dX11_numeral_47 ?_
          refine j_name hI266 ro_210_6 (fun v341 hv342 hl343 hh344 => ?_)
          have hk345 := hv342.symm
          refine j_callVV hX lk_X11_245 (c_X11_fails _ _ _ _ _ _ _ _ _ (by omega) hI266 (by omega) (by omega) hq268 (by first | assumption | omega)) (by omega) hce rfl rfl (by omega) (by omega) kc_210 rfl rfl (Nat.le_of_ble_eq_true rfl) dX11_numeral_50 (fun M347 hp348 => ?_)
          obtain ⟨hI351, hG352, hq353, hq354⟩ := hp348
          have hk356 := kp_fr hG352 (by omega) hk271
          have hk357 := kp_fr hG352 (by omega) hk339
          have hk358 := kp_fr hG352 (by omega) hk345
          clear hk271 hk273 hk339 hk345
          have hF359 := Fr.trans hF272 hG352 (fun a b h => by omega)
          have hk360 : M347.1 210 4 = M347.1 210 4 := rfl
          refine j_aload_n hX dX11_numeral_53 rfl 0 rfl ?_
          refine gf_X11_239 hX (by omega) (by omega) kc_210 dX11_numeral_54 ?_
          refine j_top hk357 ?_
          refine j_istore_n (lv' := [(3, _), (0, _), (1, _), (2, _)]) hX dX11_numeral_57 rfl (by rw [hnL]; decide) rfl ?_
          refine j_aload_n hX dX11_numeral_58 rfl 1 rfl ?_
          refine j_callVI hX lk_X11_249 (c_X11_isGood _ _ _ _ _ _ (by omega) hI351) (by omega) hce rfl rfl (by omega) (by omega) kc_210 rfl rfl (Nat.le_of_ble_eq_true rfl) dX11_numeral_59 (fun z361 M362 hz364 hp363 => ?_)
          obtain ⟨hE365, hb366, hq367, hq368⟩ := hp363
          replace hE365 := hE365.symm
          subst hE365
          refine j_if_eq (tgt := 69) hX dX11_numeral_62 (by decide) (by omega) (fun hc369 => ?_) (fun hc369 => ?_)
          · skip
            clear hq367
            have hi370 := hq368 (by omega)
            clear hq368
            refine j_aload_n hX dX11_numeral_69 rfl 1 rfl ?_
            refine j_callVI hX lk_X11_249 (c_X11_isGood _ _ _ _ _ _ (by omega) hI351) (by omega) hce rfl rfl (by omega) (by omega) kc_210 rfl rfl (Nat.le_of_ble_eq_true rfl) dX11_numeral_70 (fun z371 M372 hz374 hp373 => ?_)
            obtain ⟨hE375, hb376, hq377, hq378⟩ := hp373
            replace hE375 := hE375.symm
            subst hE375
            refine j_if_eq (tgt := 80) hX dX11_numeral_73 (by decide) (by omega) (fun hc379 => ?_) (fun hc379 => ?_)
            · skip
              clear hq377
              have hi380 := hq378 (by omega)
              clear hq378
              refine j_iload_n hX dX11_numeral_80 rfl 2 rfl ?_
              exact hret _ _ _ _ dX11_numeral_81 rfl (by omega) ⟨hI351, hF359, by first | assumption | omega, by first | assumption | omega, by first | assumption | omega⟩
            · skip
              have hi381 := hq377 (by omega)
              clear hq377
              clear hq378
              refine j_iload_n hX dX11_numeral_76 rfl 0 rfl ?_
              refine j_goto (tgt := 81) hX dX11_numeral_77 (by decide) ?_
              exact hret _ _ _ _ dX11_numeral_81 rfl (by omega) ⟨hI351, hF359, by first | assumption | omega, by first | assumption | omega, by first | assumption | omega⟩
          · skip
            have hi382 := hq367 (by omega)
            clear hq367
            clear hq368
            refine j_aload_n hX dX11_numeral_65 rfl 1 rfl ?_
            refine j_callVV hX lk_X11_253 (c_X11_goOn _ _ _ _ _ _ _ _ (by omega) hI351 (by first | assumption | rfl) hq353) (by omega) hce rfl rfl (by omega) (by omega) kc_210 rfl rfl (Nat.le_of_ble_eq_true rfl) dX11_numeral_66 (fun M384 hp385 => ?_)
            obtain ⟨hI388, hG389, hq390, hq391⟩ := hp385
            have hk393 := kp_fr hG389 (by omega) hk360
            clear hk356 hk357 hk358 hk360
            have hF394 := Fr.trans hF359 hG389 (fun a b h => by omega)
            refine j_aload_n hX dX11_numeral_69 rfl 1 rfl ?_
            refine j_callVI hX lk_X11_249 (c_X11_isGood _ _ _ _ _ _ (by omega) hI388) (by omega) hce rfl rfl (by omega) (by omega) kc_210 rfl rfl (Nat.le_of_ble_eq_true rfl) dX11_numeral_70 (fun z395 M396 hz398 hp397 => ?_)
            obtain ⟨hE399, hb400, hq401, hq402⟩ := hp397
            replace hE399 := hE399.symm
            subst hE399
            refine j_if_eq (tgt := 80) hX dX11_numeral_73 (by decide) (by omega) (fun hc403 => ?_) (fun hc403 => ?_)
            · skip
              clear hq401
              have hi404 := hq402 (by omega)
              clear hq402
              refine j_iload_n hX dX11_numeral_80 rfl 2 rfl ?_
              exact hret _ _ _ _ dX11_numeral_81 rfl (by omega) ⟨hI388, hF394, by first | assumption | omega, by first | assumption | omega, by first | assumption | omega⟩
            · skip
              have hi405 := hq401 (by omega)
              clear hq401
              clear hq402
              refine j_iload_n hX dX11_numeral_76 rfl 0 rfl ?_
              refine j_goto (tgt := 81) hX dX11_numeral_77 (by decide) ?_
              exact hret _ _ _ _ dX11_numeral_81 rfl (by omega) ⟨hI388, hF394, by first | assumption | omega, by first | assumption | omega, by first | assumption | omega⟩
        · skip
          refine j_aload_n hX dX11_numeral_36 rfl 0 rfl ?_
          refine gf_X11_239 hX (by omega) (by omega) kc_210 dX11_numeral_37 ?_
          refine j_top hk339 ?_
          refine j_iload_n hX dX11_numeral_40 rfl 2 rfl ?_
          refine j_icmp_le (tgt := 53) hX dX11_numeral_41 (by decide) (by omega) (by omega) (fun hc406 => ?_) (fun hc406 => ?_)
          · skip
            refine j_aload_n hX dX11_numeral_53 rfl 0 rfl ?_
            refine gf_X11_239 hX (by omega) (by omega) kc_210 dX11_numeral_54 ?_
            refine j_top hk339 ?_
            refine j_istore_n (lv' := [(3, _), (0, _), (1, _), (2, _)]) hX dX11_numeral_57 rfl (by rw [hnL]; decide) rfl ?_
            refine j_aload_n hX dX11_numeral_58 rfl 1 rfl ?_
            refine j_callVI hX lk_X11_249 (c_X11_isGood _ _ _ _ _ _ (by omega) hI266) (by omega) hce rfl rfl (by omega) (by omega) kc_210 rfl rfl (Nat.le_of_ble_eq_true rfl) dX11_numeral_59 (fun z407 M408 hz410 hp409 => ?_)
            obtain ⟨hE411, hb412, hq413, hq414⟩ := hp409
            replace hE411 := hE411.symm
            subst hE411
            refine j_if_eq (tgt := 69) hX dX11_numeral_62 (by decide) (by omega) (fun hc415 => ?_) (fun hc415 => ?_)
            · skip
              clear hq413
              have hi416 := hq414 (by omega)
              clear hq414
              refine j_aload_n hX dX11_numeral_69 rfl 1 rfl ?_
              refine j_callVI hX lk_X11_249 (c_X11_isGood _ _ _ _ _ _ (by omega) hI266) (by omega) hce rfl rfl (by omega) (by omega) kc_210 rfl rfl (Nat.le_of_ble_eq_true rfl) dX11_numeral_70 (fun z417 M418 hz420 hp419 => ?_)
              obtain ⟨hE421, hb422, hq423, hq424⟩ := hp419
              replace hE421 := hE421.symm
              subst hE421
              refine j_if_eq (tgt := 80) hX dX11_numeral_73 (by decide) (by omega) (fun hc425 => ?_) (fun hc425 => ?_)
              · skip
                clear hq423
                have hi426 := hq424 (by omega)
                clear hq424
                refine j_iload_n hX dX11_numeral_80 rfl 2 rfl ?_
                exact hret _ _ _ _ dX11_numeral_81 rfl (by omega) ⟨hI266, hF272, by first | assumption | omega, by first | assumption | omega, by first | assumption | omega⟩
              · skip
                have hi427 := hq423 (by omega)
                clear hq423
                clear hq424
                refine j_iload_n hX dX11_numeral_76 rfl 0 rfl ?_
                refine j_goto (tgt := 81) hX dX11_numeral_77 (by decide) ?_
                exact hret _ _ _ _ dX11_numeral_81 rfl (by omega) ⟨hI266, hF272, by first | assumption | omega, by first | assumption | omega, by first | assumption | omega⟩
            · skip
              have hi428 := hq413 (by omega)
              clear hq413
              clear hq414
              refine j_aload_n hX dX11_numeral_65 rfl 1 rfl ?_
              refine j_callVV hX lk_X11_253 (c_X11_goOn _ _ _ _ _ _ _ _ (by omega) hI266 (by first | assumption | rfl) hq268) (by omega) hce rfl rfl (by omega) (by omega) kc_210 rfl rfl (Nat.le_of_ble_eq_true rfl) dX11_numeral_66 (fun M430 hp431 => ?_)
              obtain ⟨hI434, hG435, hq436, hq437⟩ := hp431
              have hk439 := kp_fr hG435 (by omega) hk273
              clear hk271 hk273 hk339
              have hF440 := Fr.trans hF272 hG435 (fun a b h => by omega)
              refine j_aload_n hX dX11_numeral_69 rfl 1 rfl ?_
              refine j_callVI hX lk_X11_249 (c_X11_isGood _ _ _ _ _ _ (by omega) hI434) (by omega) hce rfl rfl (by omega) (by omega) kc_210 rfl rfl (Nat.le_of_ble_eq_true rfl) dX11_numeral_70 (fun z441 M442 hz444 hp443 => ?_)
              obtain ⟨hE445, hb446, hq447, hq448⟩ := hp443
              replace hE445 := hE445.symm
              subst hE445
              refine j_if_eq (tgt := 80) hX dX11_numeral_73 (by decide) (by omega) (fun hc449 => ?_) (fun hc449 => ?_)
              · skip
                clear hq447
                have hi450 := hq448 (by omega)
                clear hq448
                refine j_iload_n hX dX11_numeral_80 rfl 2 rfl ?_
                exact hret _ _ _ _ dX11_numeral_81 rfl (by omega) ⟨hI434, hF440, by first | assumption | omega, by first | assumption | omega, by first | assumption | omega⟩
              · skip
                have hi451 := hq447 (by omega)
                clear hq447
                clear hq448
                refine j_iload_n hX dX11_numeral_76 rfl 0 rfl ?_
                refine j_goto (tgt := 81) hX dX11_numeral_77 (by decide) ?_
                exact hret _ _ _ _ dX11_numeral_81 rfl (by omega) ⟨hI434, hF440, by first | assumption | omega, by first | assumption | omega, by first | assumption | omega⟩
          · skip
            refine j_aload_n hX dX11_numeral_44 rfl 0 rfl ?_
            refine j_iconst hX dX11_numeral_45 ?_
            refine j_aload_n hX dX11_numeral_46 rfl 0 rfl ?_
            refine gf_X11_214 hX (by omega) (by omega) kc_210 dX11_numeral_47 ?_
            refine j_name hI266 ro_210_6 (fun v452 hv453 hl454 hh455 => ?_)
            have hk456 := hv453.symm
            refine j_callVV hX lk_X11_245 (c_X11_fails _ _ _ _ _ _ _ _ _ (by omega) hI266 (by omega) (by omega) hq268 (by first | assumption | omega)) (by omega) hce rfl rfl (by omega) (by omega) kc_210 rfl rfl (Nat.le_of_ble_eq_true rfl) dX11_numeral_50 (fun M458 hp459 => ?_)
            obtain ⟨hI462, hG463, hq464, hq465⟩ := hp459
            have hk467 := kp_fr hG463 (by omega) hk271
            have hk468 := kp_fr hG463 (by omega) hk339
            have hk469 := kp_fr hG463 (by omega) hk456
            clear hk271 hk273 hk339 hk456
            have hF470 := Fr.trans hF272 hG463 (fun a b h => by omega)
            have hk471 : M458.1 210 4 = M458.1 210 4 := rfl
            refine j_aload_n hX dX11_numeral_53 rfl 0 rfl ?_
            refine gf_X11_239 hX (by omega) (by omega) kc_210 dX11_numeral_54 ?_
            refine j_top hk468 ?_
            refine j_istore_n (lv' := [(3, _), (0, _), (1, _), (2, _)]) hX dX11_numeral_57 rfl (by rw [hnL]; decide) rfl ?_
            refine j_aload_n hX dX11_numeral_58 rfl 1 rfl ?_
            refine j_callVI hX lk_X11_249 (c_X11_isGood _ _ _ _ _ _ (by omega) hI462) (by omega) hce rfl rfl (by omega) (by omega) kc_210 rfl rfl (Nat.le_of_ble_eq_true rfl) dX11_numeral_59 (fun z472 M473 hz475 hp474 => ?_)
            obtain ⟨hE476, hb477, hq478, hq479⟩ := hp474
            replace hE476 := hE476.symm
            subst hE476
            refine j_if_eq (tgt := 69) hX dX11_numeral_62 (by decide) (by omega) (fun hc480 => ?_) (fun hc480 => ?_)
            · skip
              clear hq478
              have hi481 := hq479 (by omega)
              clear hq479
              refine j_aload_n hX dX11_numeral_69 rfl 1 rfl ?_
              refine j_callVI hX lk_X11_249 (c_X11_isGood _ _ _ _ _ _ (by omega) hI462) (by omega) hce rfl rfl (by omega) (by omega) kc_210 rfl rfl (Nat.le_of_ble_eq_true rfl) dX11_numeral_70 (fun z482 M483 hz485 hp484 => ?_)
              obtain ⟨hE486, hb487, hq488, hq489⟩ := hp484
              replace hE486 := hE486.symm
              subst hE486
              refine j_if_eq (tgt := 80) hX dX11_numeral_73 (by decide) (by omega) (fun hc490 => ?_) (fun hc490 => ?_)
              · skip
                clear hq488
                have hi491 := hq489 (by omega)
                clear hq489
                refine j_iload_n hX dX11_numeral_80 rfl 2 rfl ?_
                exact hret _ _ _ _ dX11_numeral_81 rfl (by omega) ⟨hI462, hF470, by first | assumption | omega, by first | assumption | omega, by first | assumption | omega⟩
              · skip
                have hi492 := hq488 (by omega)
                clear hq488
                clear hq489
                refine j_iload_n hX dX11_numeral_76 rfl 0 rfl ?_
                refine j_goto (tgt := 81) hX dX11_numeral_77 (by decide) ?_
                exact hret _ _ _ _ dX11_numeral_81 rfl (by omega) ⟨hI462, hF470, by first | assumption | omega, by first | assumption | omega, by first | assumption | omega⟩
            · skip
              have hi493 := hq478 (by omega)
              clear hq478
              clear hq479
              refine j_aload_n hX dX11_numeral_65 rfl 1 rfl ?_
              refine j_callVV hX lk_X11_253 (c_X11_goOn _ _ _ _ _ _ _ _ (by omega) hI462 (by first | assumption | rfl) hq464) (by omega) hce rfl rfl (by omega) (by omega) kc_210 rfl rfl (Nat.le_of_ble_eq_true rfl) dX11_numeral_66 (fun M495 hp496 => ?_)
              obtain ⟨hI499, hG500, hq501, hq502⟩ := hp496
              have hk504 := kp_fr hG500 (by omega) hk471
              clear hk467 hk468 hk469 hk471
              have hF505 := Fr.trans hF470 hG500 (fun a b h => by omega)
              refine j_aload_n hX dX11_numeral_69 rfl 1 rfl ?_
              refine j_callVI hX lk_X11_249 (c_X11_isGood _ _ _ _ _ _ (by omega) hI499) (by omega) hce rfl rfl (by omega) (by omega) kc_210 rfl rfl (Nat.le_of_ble_eq_true rfl) dX11_numeral_70 (fun z506 M507 hz509 hp508 => ?_)
              obtain ⟨hE510, hb511, hq512, hq513⟩ := hp508
              replace hE510 := hE510.symm
              subst hE510
              refine j_if_eq (tgt := 80) hX dX11_numeral_73 (by decide) (by omega) (fun hc514 => ?_) (fun hc514 => ?_)
              · skip
                clear hq512
                have hi515 := hq513 (by omega)
                clear hq513
                refine j_iload_n hX dX11_numeral_80 rfl 2 rfl ?_
                exact hret _ _ _ _ dX11_numeral_81 rfl (by omega) ⟨hI499, hF505, by first | assumption | omega, by first | assumption | omega, by first | assumption | omega⟩
              · skip
                have hi516 := hq512 (by omega)
                clear hq512
                clear hq513
                refine j_iload_n hX dX11_numeral_76 rfl 0 rfl ?_
                refine j_goto (tgt := 81) hX dX11_numeral_77 (by decide) ?_
                exact hret _ _ _ _ dX11_numeral_81 rfl (by omega) ⟨hI499, hF505, by first | assumption | omega, by first | assumption | omega, by first | assumption | omega⟩
  · skip
    clear hq8
    have hi517 := hq9 (by omega)
    clear hq9
    refine j_iload_n hX dX11_numeral_7 rfl 1 rfl ?_
    exact hret _ _ _ _ dX11_numeral_8 rfl (by omega) ⟨hI, hF, by first | assumption | omega, by first | assumption | omega, by first | assumption | omega⟩
set_option maxHeartbeats 2000000 in
set_option maxRecDepth 20000 in
theorem c_X11_after (l : Launch) (D : va_G) (cy : Nat → ClassId) (B N : Nat) (m : Int) (a : Int64) (b : Int) (c : Int) (M : MM) (hN : 257 ≤ N) (hI : Iv M) (hpb : I32 b) (hpc : I32 c) (hML : ML m M) (h1 : b ≤ c) : CI l D cy B N 4 yX11_after cX11_after 5 (some .int) [rv B 210, .long a, iv b, iv c] M (fun z M' => Iv M' ∧ Fr (fun a b => (a = 210 ∧ 4 ≤ b ∧ b ≤ 10)) M M' ∧ (ML m M') ∧ (b ≤ z ∧ z ≤ c) ∧ (M'.1 210 4 = 0 → M.1 210 4 = 0)) := by
  refine mk_CI (by decide) (Nat.le_of_ble_eq_true rfl) ?_
  intro X exl exD excy hnL hX hret
  have hce : 0 + 0 ≤ (xR X).cells ∧ 0 + 0 ≤ (xR X).slots := ⟨Nat.zero_le _, Nat.zero_le _⟩
  have hF : Fr (fun a b => (a = 210 ∧ 4 ≤ b ∧ b ≤ 10)) M M := Fr.rf
  have hk1 : M.1 210 4 = M.1 210 4 := rfl
  show J X B N 0 0 0 [(0, rv B 210), (1, .long a), (3, iv b), (4, iv c)] [] M
  refine j_aload_n hX dX11_after_0 rfl 0 rfl ?_
  refine j_aload_n hX dX11_after_1 rfl 0 rfl ?_
  refine j_lload_n hX dX11_after_2 rfl 1 rfl ?_
  refine j_callVI hX lk_X11_259 (c_X11_isWord _ _ _ _ _ _ _ (by omega) hI) (by omega) hce rfl rfl (by omega) (by omega) kc_210 rfl rfl (Nat.le_of_ble_eq_true rfl) dX11_after_3 (fun z2 M3 hz5 hp4 => ?_)
  obtain ⟨hE6, hb7, hq8, hq9⟩ := hp4
  replace hE6 := hE6.symm
  subst hE6
  refine j_callVV hX lk_X11_262 (c_X11_must _ _ _ _ _ _ _ _ (by omega) hI (by omega) hML (by first | assumption | omega)) (by omega) hce rfl rfl (by omega) (by omega) kc_210 rfl rfl (Nat.le_of_ble_eq_true rfl) dX11_after_6 (fun M11 hp12 => ?_)
  obtain ⟨hI15, hG16, hq17, hq18, hq19⟩ := hp12
  clear hk1
  have hF21 := Fr.trans hF hG16 (fun a b h => by omega)
  have hk22 : M11.1 210 4 = M11.1 210 4 := rfl
  refine j_aload_n hX dX11_after_9 rfl 0 rfl ?_
  refine j_iload_n hX dX11_after_10 rfl 2 rfl ?_
  refine j_iload hX dX11_after_11 3 rfl ?_
  refine j_callVI hX lk_X11_266 (c_X11_numeral _ _ _ _ _ _ _ _ _ (by omega) hI15 (by omega) (by omega) hq17 (by first | assumption | omega)) (by omega) hce rfl rfl (by omega) (by omega) kc_210 rfl rfl (Nat.le_of_ble_eq_true rfl) dX11_after_13 (fun z23 M24 hz26 hp25 => ?_)
  obtain ⟨hI28, hG29, hq30, hq31, hq32⟩ := hp25
  clear hk22
  have hF34 := Fr.trans hF21 hG29 (fun a b h => by omega)
  have hk35 : M24.1 210 4 = M24.1 210 4 := rfl
  exact hret _ _ _ _ dX11_after_16 rfl (by omega) ⟨hI28, hF34, by first | assumption | omega, by first | assumption | omega, by first | assumption | omega⟩
set_option maxHeartbeats 2000000 in
set_option maxRecDepth 20000 in
theorem c_X11_here (l : Launch) (D : va_G) (cy : Nat → ClassId) (B N : Nat) (k : Int) (ln : Nat) (a : Int) (b : Int) (M : MM) (hN : 257 ≤ N) (hI : Iv M) (hpa : I32 a) (hpb : I32 b) (hkd : kd k = .inr (3, ln)) (hk0 : 0 ≤ k ∧ k < N) (hnn : 0 ≤ a ∧ 0 ≤ b ∧ a + b ≤ ln ∧ (ln : Int) ≤ 1000 ∧ b ≤ 1000) : CI l D cy B N 1 yX11_here cX11_here 5 (some .int) [rv B 210, rv B k, iv a, iv b] M (fun z M' => M' = M ∧ (-1 ≤ z ∧ z < b)) := by
  refine mk_CI (by decide) (Nat.le_of_ble_eq_true rfl) ?_
  intro X exl exD excy hnL hX hret
  have hce : 0 + 0 ≤ (xR X).cells ∧ 0 + 0 ≤ (xR X).slots := ⟨Nat.zero_le _, Nat.zero_le _⟩
  have cp : ∀ n : Nat, (∀ (x4 : Int), I32 x4 → (0 ≤ x4 ∧ x4 ≤ b) → 0 ≤ 32 * (1000 - x4) + 1 → 32 * (1000 - x4) + 1 < (n : Int) → J X B N 0 0 3 [(0, rv B 210), (1, rv B k), (2, iv a), (3, iv b), (4, iv x4)] [] M) := by
    intro n
    induction n with
    | zero => exact by intros; exfalso; omega
    | succ n ih =>
      · intro x4 hxx4 h2 hm0 hm1
        refine j_iload hX dX11_here_3 4 rfl ?_
        refine j_iload_n hX dX11_here_5 rfl 3 rfl ?_
        refine j_icmp_ge (tgt := 40) hX dX11_here_6 (by decide) (by omega) (by omega) (fun hc1 => ?_) (fun hc1 => ?_)
        · skip
          refine j_iconst hX dX11_here_40 ?_
          exact hret _ _ _ _ dX11_here_41 rfl (by omega) ⟨rfl, by first | assumption | omega⟩
        · skip
          refine j_aload_n hX dX11_here_9 rfl 0 rfl ?_
          refine gf_X11_221 hX (by omega) (by omega) kc_210 dX11_here_10 ?_
          refine j_name hI ro_210_8 (fun v2 hv3 hl4 hh5 => ?_)
          have hk6 := hv3.symm
          refine j_iconst hX dX11_here_13 ?_
          refine j_icmp_ne (tgt := 34) hX dX11_here_14 (by decide) (by omega) (by omega) (fun hc7 => ?_) (fun hc7 => ?_)
          · skip
            refine j_iinc (lv' := [(4, _), (0, _), (1, _), (2, _), (3, _)]) hX dX11_here_34 4 rfl (by rw [hnL]; decide) rfl ?_
            refine j_goto (tgt := 3) hX dX11_here_37 (by decide) ?_
            refine j_sub [1, 2, 3, 4, 0] rfl ?_
            exact ih _ (by omega) (by first | assumption | omega) (by omega) (by omega)
          · skip
            refine j_aload_n hX dX11_here_17 rfl 1 rfl ?_
            refine j_iload_n hX dX11_here_18 rfl 2 rfl ?_
            refine j_iload hX dX11_here_19 4 rfl ?_
            refine j_iadd hX dX11_here_21 ?_
            refine j_lald hX (by omega) (by omega) hkd (by omega) (by omega) (by omega) dX11_here_22 ?_
            refine j_aload_n hX dX11_here_23 rfl 0 rfl ?_
            refine gf_X11_228 hX (by omega) (by omega) kc_210 dX11_here_24 ?_
            refine j_lcmp hX dX11_here_27 (fun z8 hz9 hy10 he11 => ?_)
            refine j_if_ne (tgt := 34) hX dX11_here_28 (by decide) (by omega) (fun hc12 => ?_) (fun hc12 => ?_)
            · skip
              refine j_iinc (lv' := [(4, _), (0, _), (1, _), (2, _), (3, _)]) hX dX11_here_34 4 rfl (by rw [hnL]; decide) rfl ?_
              refine j_goto (tgt := 3) hX dX11_here_37 (by decide) ?_
              refine j_sub [1, 2, 3, 4, 0] rfl ?_
              exact ih _ (by omega) (by first | assumption | omega) (by omega) (by omega)
            · skip
              refine j_iload hX dX11_here_31 4 rfl ?_
              exact hret _ _ _ _ dX11_here_33 rfl (by omega) ⟨rfl, by first | assumption | omega⟩
  show J X B N 0 0 0 [(0, rv B 210), (1, rv B k), (2, iv a), (3, iv b)] [] M
  refine j_iconst hX dX11_here_0 ?_
  refine j_istore (lv' := [(4, _), (0, _), (1, _), (2, _), (3, _)]) hX dX11_here_1 (by rw [hnL]; decide) rfl ?_
  refine j_sub [1, 2, 3, 4, 0] rfl ?_
  refine (cp (Int.toNat (32064 + 1))) _ (by omega) (by first | assumption | omega) ?_ ?_
  · omega
  · omega
set_option maxHeartbeats 2000000 in
set_option maxRecDepth 20000 in
theorem c_X11_roomHere (l : Launch) (D : va_G) (cy : Nat → ClassId) (B N : Nat) (w : Int) (nw : Int) (M : MM) (hN : 257 ≤ N) (hI : Iv M) (hw : M.1 210 41 = w) (hnw : M.1 213 w = nw) : CI l D cy B N 2 yX11_roomHere cX11_roomHere 1 (some .int) [rv B 210] M (fun z M' => M' = M ∧ (-1 ≤ z ∧ z < nw)) := by
  refine mk_CI (by decide) (Nat.le_of_ble_eq_true rfl) ?_
  intro X exl exD excy hnL hX hret
  have hce : 0 + 0 ≤ (xR X).cells ∧ 0 + 0 ≤ (xR X).slots := ⟨Nat.zero_le _, Nat.zero_le _⟩
  have hw2 : 0 ≤ w ∧ w ≤ 1 := by have := hI.at 210 41 ro_210_41; omega
  have hnw2 : 0 ≤ nw ∧ nw ≤ 6 := by have := hI.at 213 w (ra_213 _); omega
  show J X B N 0 0 0 [(0, rv B 210)] [] M
  refine j_aload_n hX dX11_roomHere_0 rfl 0 rfl ?_
  refine j_aload_n hX dX11_roomHere_1 rfl 0 rfl ?_
  refine gf_X11_88 hX (by omega) (by omega) kc_210 (fc_210_33 hI) (by decide) dX11_roomHere_2 ?_
  refine j_bipush hX dX11_roomHere_5 rfl ?_
  refine j_aload_n hX dX11_roomHere_7 rfl 0 rfl ?_
  refine gf_X11_270 hX (by omega) (by omega) kc_210 dX11_roomHere_8 ?_
  refine j_top hw ?_
  refine j_imul hX dX11_roomHere_11 ?_
  refine j_aload_n hX dX11_roomHere_12 rfl 0 rfl ?_
  refine gf_X11_20 hX (by omega) (by omega) kc_210 (fc_210_11 hI) (by decide) dX11_roomHere_13 ?_
  refine j_aload_n hX dX11_roomHere_16 rfl 0 rfl ?_
  refine gf_X11_270 hX (by omega) (by omega) kc_210 dX11_roomHere_17 ?_
  refine j_top hw ?_
  refine j_iald hX (by omega) (by omega) kc_213 (by omega) (by omega) (by omega) dX11_roomHere_20 ?_
  refine j_top hnw ?_
  refine j_callVI hX lk_X11_314 (c_X11_here _ _ _ _ _ 235 _ _ _ _ (by omega) hI (by omega) (by omega) (kc_235) (⟨by omega, by omega⟩) (by omega)) (by omega) hce rfl rfl (by omega) (by omega) kc_210 rfl rfl (Nat.le_of_ble_eq_true rfl) dX11_roomHere_21 (fun z1 M2 hz4 hp3 => ?_)
  obtain ⟨hE5, hq6⟩ := hp3
  replace hE5 := hE5.symm
  subst hE5
  exact hret _ _ _ _ dX11_roomHere_24 rfl (by omega) ⟨rfl, by first | assumption | omega⟩
set_option maxHeartbeats 2000000 in
set_option maxRecDepth 20000 in
theorem c_X11_factHere (l : Launch) (D : va_G) (cy : Nat → ClassId) (B N : Nat) (w : Int) (M : MM) (hN : 257 ≤ N) (hI : Iv M) (hw : M.1 210 41 = w) : CI l D cy B N 2 yX11_factHere cX11_factHere 1 (some .int) [rv B 210] M (fun z M' => M' = M) := by
  refine mk_CI (by decide) (Nat.le_of_ble_eq_true rfl) ?_
  intro X exl exD excy hnL hX hret
  have hce : 0 + 0 ≤ (xR X).cells ∧ 0 + 0 ≤ (xR X).slots := ⟨Nat.zero_le _, Nat.zero_le _⟩
  have hw2 : 0 ≤ w ∧ w ≤ 1 := by have := hI.at 210 41 ro_210_41; omega
  show J X B N 0 0 0 [(0, rv B 210)] [] M
  refine j_aload_n hX dX11_factHere_0 rfl 0 rfl ?_
  refine j_aload_n hX dX11_factHere_1 rfl 0 rfl ?_
  refine gf_X11_92 hX (by omega) (by omega) kc_210 (fc_210_34 hI) (by decide) dX11_factHere_2 ?_
  refine j_bipush hX dX11_factHere_5 rfl ?_
  refine j_aload_n hX dX11_factHere_7 rfl 0 rfl ?_
  refine gf_X11_270 hX (by omega) (by omega) kc_210 dX11_factHere_8 ?_
  refine j_top hw ?_
  refine j_imul hX dX11_factHere_11 ?_
  refine j_aload_n hX dX11_factHere_12 rfl 0 rfl ?_
  refine gf_X11_24 hX (by omega) (by omega) kc_210 (fc_210_12 hI) (by decide) dX11_factHere_13 ?_
  refine j_aload_n hX dX11_factHere_16 rfl 0 rfl ?_
  refine gf_X11_270 hX (by omega) (by omega) kc_210 dX11_factHere_17 ?_
  refine j_top hw ?_
  refine j_iald hX (by omega) (by omega) kc_214 (by omega) (by omega) (by omega) dX11_factHere_20 ?_
  refine j_name hI (ra_214 _) (fun v1 hv2 hl3 hh4 => ?_)
  refine j_callVI hX lk_X11_314 (c_X11_here _ _ _ _ _ 236 _ _ _ _ (by omega) hI (by omega) (by omega) (kc_236) (⟨by omega, by omega⟩) (by omega)) (by omega) hce rfl rfl (by omega) (by omega) kc_210 rfl rfl (Nat.le_of_ble_eq_true rfl) dX11_factHere_21 (fun z5 M6 hz8 hp7 => ?_)
  obtain ⟨hE9, hq10⟩ := hp7
  replace hE9 := hE9.symm
  subst hE9
  exact hret _ _ _ _ dX11_factHere_24 rfl (by omega) rfl
set_option maxHeartbeats 2000000 in
set_option maxRecDepth 20000 in
theorem c_X11_fresh (l : Launch) (D : va_G) (cy : Nat → ClassId) (B N : Nat) (m : Int) (a : Int) (M : MM) (hN : 257 ≤ N) (hI : Iv M) (hpa : I32 a) (hML : ML m M) : CL l D cy B N 3 yX11_fresh cX11_fresh 4 (some .long) [rv B 210, iv a] M (fun z M' => Iv M' ∧ Fr (fun a b => (a = 210 ∧ 4 ≤ b ∧ b ≤ 10)) M M' ∧ (ML m M') ∧ (M'.1 210 4 = 0 → M.1 210 4 = 0)) := by
  refine mk_CL (by decide) (Nat.le_of_ble_eq_true rfl) ?_
  intro X exl exD excy hnL hX hret
  have hce : 0 + 0 ≤ (xR X).cells ∧ 0 + 0 ≤ (xR X).slots := ⟨Nat.zero_le _, Nat.zero_le _⟩
  have hF : Fr (fun a b => (a = 210 ∧ 4 ≤ b ∧ b ≤ 10)) M M := Fr.rf
  have hk1 : M.1 210 4 = M.1 210 4 := rfl
  show J X B N 0 0 0 [(0, rv B 210), (1, iv a)] [] M
  refine j_aload_n hX dX11_fresh_0 rfl 0 rfl ?_
  refine j_callVI hX lk_X11_249 (c_X11_isGood _ _ _ _ _ _ (by omega) hI) (by omega) hce rfl rfl (by omega) (by omega) kc_210 rfl rfl (Nat.le_of_ble_eq_true rfl) dX11_fresh_1 (fun z2 M3 hz5 hp4 => ?_)
  obtain ⟨hE6, hb7, hq8, hq9⟩ := hp4
  replace hE6 := hE6.symm
  subst hE6
  refine j_if_ne (tgt := 9) hX dX11_fresh_4 (by decide) (by omega) (fun hc10 => ?_) (fun hc10 => ?_)
  · skip
    have hi11 := hq8 (by omega)
    clear hq8
    clear hq9
    refine j_aload_n hX dX11_fresh_9 rfl 0 rfl ?_
    refine gf_X11_221 hX (by omega) (by omega) kc_210 dX11_fresh_10 ?_
    refine j_name hI ro_210_8 (fun v12 hv13 hl14 hh15 => ?_)
    have hk16 := hv13.symm
    refine j_iconst hX dX11_fresh_13 ?_
    refine j_icmp_eq (tgt := 24) hX dX11_fresh_14 (by decide) (by omega) (by omega) (fun hc17 => ?_) (fun hc17 => ?_)
    · skip
      refine j_iload_n hX dX11_fresh_24 rfl 1 rfl ?_
      refine j_if_lt (tgt := 37) hX dX11_fresh_25 (by decide) (by omega) (fun hc18 => ?_) (fun hc18 => ?_)
      · skip
        refine j_aload_n hX dX11_fresh_37 rfl 0 rfl ?_
        refine gf_X11_228 hX (by omega) (by omega) kc_210 dX11_fresh_38 ?_
        refine j_lstore_n (lv' := [(2, _), (0, _), (1, _)]) hX dX11_fresh_41 rfl (by rw [hnL]; decide) rfl ?_
        refine j_aload_n hX dX11_fresh_42 rfl 1 rfl ?_
        refine j_callVI hX lk_X11_249 (c_X11_isGood _ _ _ _ _ _ (by omega) hI) (by omega) hce rfl rfl (by omega) (by omega) kc_210 rfl rfl (Nat.le_of_ble_eq_true rfl) dX11_fresh_43 (fun z19 M20 hz22 hp21 => ?_)
        obtain ⟨hE23, hb24, hq25, hq26⟩ := hp21
        replace hE23 := hE23.symm
        subst hE23
        refine j_if_eq (tgt := 53) hX dX11_fresh_46 (by decide) (by omega) (fun hc27 => ?_) (fun hc27 => ?_)
        · skip
          clear hq25
          have hi28 := hq26 (by omega)
          clear hq26
          refine j_lload_n hX dX11_fresh_53 rfl 0 rfl ?_
          exact hret _ _ _ _ dX11_fresh_54 ⟨hI, hF, by first | assumption | omega, by first | assumption | omega⟩
        · skip
          have hi29 := hq25 (by omega)
          clear hq25
          clear hq26
          refine j_aload_n hX dX11_fresh_49 rfl 1 rfl ?_
          refine j_callVV hX lk_X11_253 (c_X11_goOn _ _ _ _ _ _ _ _ (by omega) hI (by first | assumption | rfl) hML) (by omega) hce rfl rfl (by omega) (by omega) kc_210 rfl rfl (Nat.le_of_ble_eq_true rfl) dX11_fresh_50 (fun M31 hp32 => ?_)
          obtain ⟨hI35, hG36, hq37, hq38⟩ := hp32
          have hk40 := kp_fr hG36 (by omega) hk1
          clear hk1 hk16
          have hF41 := Fr.trans hF hG36 (fun a b h => by omega)
          refine j_lload_n hX dX11_fresh_53 rfl 0 rfl ?_
          exact hret _ _ _ _ dX11_fresh_54 ⟨hI35, hF41, by first | assumption | omega, by first | assumption | omega⟩
      · skip
        refine j_aload_n hX dX11_fresh_28 rfl 0 rfl ?_
        refine j_iconst hX dX11_fresh_29 ?_
        refine j_aload_n hX dX11_fresh_30 rfl 0 rfl ?_
        refine gf_X11_214 hX (by omega) (by omega) kc_210 dX11_fresh_31 ?_
        refine j_name hI ro_210_6 (fun v42 hv43 hl44 hh45 => ?_)
        have hk46 := hv43.symm
        refine j_callVV hX lk_X11_245 (c_X11_fails _ _ _ _ _ _ _ _ _ (by omega) hI (by omega) (by omega) hML (by first | assumption | omega)) (by omega) hce rfl rfl (by omega) (by omega) kc_210 rfl rfl (Nat.le_of_ble_eq_true rfl) dX11_fresh_34 (fun M48 hp49 => ?_)
        obtain ⟨hI52, hG53, hq54, hq55⟩ := hp49
        have hk57 := kp_fr hG53 (by omega) hk16
        have hk58 := kp_fr hG53 (by omega) hk46
        clear hk1 hk16 hk46
        have hF59 := Fr.trans hF hG53 (fun a b h => by omega)
        have hk60 : M48.1 210 4 = M48.1 210 4 := rfl
        refine j_aload_n hX dX11_fresh_37 rfl 0 rfl ?_
        refine gf_X11_228 hX (by omega) (by omega) kc_210 dX11_fresh_38 ?_
        refine j_lstore_n (lv' := [(2, _), (0, _), (1, _)]) hX dX11_fresh_41 rfl (by rw [hnL]; decide) rfl ?_
        refine j_aload_n hX dX11_fresh_42 rfl 1 rfl ?_
        refine j_callVI hX lk_X11_249 (c_X11_isGood _ _ _ _ _ _ (by omega) hI52) (by omega) hce rfl rfl (by omega) (by omega) kc_210 rfl rfl (Nat.le_of_ble_eq_true rfl) dX11_fresh_43 (fun z61 M62 hz64 hp63 => ?_)
        obtain ⟨hE65, hb66, hq67, hq68⟩ := hp63
        replace hE65 := hE65.symm
        subst hE65
        refine j_if_eq (tgt := 53) hX dX11_fresh_46 (by decide) (by omega) (fun hc69 => ?_) (fun hc69 => ?_)
        · skip
          clear hq67
          have hi70 := hq68 (by omega)
          clear hq68
          refine j_lload_n hX dX11_fresh_53 rfl 0 rfl ?_
          exact hret _ _ _ _ dX11_fresh_54 ⟨hI52, hF59, by first | assumption | omega, by first | assumption | omega⟩
        · skip
          have hi71 := hq67 (by omega)
          clear hq67
          clear hq68
          refine j_aload_n hX dX11_fresh_49 rfl 1 rfl ?_
          refine j_callVV hX lk_X11_253 (c_X11_goOn _ _ _ _ _ _ _ _ (by omega) hI52 (by first | assumption | rfl) hq54) (by omega) hce rfl rfl (by omega) (by omega) kc_210 rfl rfl (Nat.le_of_ble_eq_true rfl) dX11_fresh_50 (fun M73 hp74 => ?_)
          obtain ⟨hI77, hG78, hq79, hq80⟩ := hp74
          have hk82 := kp_fr hG78 (by omega) hk60
          clear hk57 hk58 hk60
          have hF83 := Fr.trans hF59 hG78 (fun a b h => by omega)
          refine j_lload_n hX dX11_fresh_53 rfl 0 rfl ?_
          exact hret _ _ _ _ dX11_fresh_54 ⟨hI77, hF83, by first | assumption | omega, by first | assumption | omega⟩
    · skip
      refine j_aload_n hX dX11_fresh_17 rfl 0 rfl ?_
      refine j_callVV hX lk_X11_256 (c_X11_misplaced _ _ _ _ _ _ _ (by omega) hI hML) (by omega) hce rfl rfl (by omega) (by omega) kc_210 rfl rfl (Nat.le_of_ble_eq_true rfl) dX11_fresh_18 (fun M85 hp86 => ?_)
      obtain ⟨hI89, hG90, hq91, hq92⟩ := hp86
      have hk94 := kp_fr hG90 (by omega) hk16
      clear hk1 hk16
      have hF95 := Fr.trans hF hG90 (fun a b h => by omega)
      have hk96 : M85.1 210 4 = M85.1 210 4 := rfl
      refine j_goto (tgt := 37) hX dX11_fresh_21 (by decide) ?_
      refine j_aload_n hX dX11_fresh_37 rfl 0 rfl ?_
      refine gf_X11_228 hX (by omega) (by omega) kc_210 dX11_fresh_38 ?_
      refine j_lstore_n (lv' := [(2, _), (0, _), (1, _)]) hX dX11_fresh_41 rfl (by rw [hnL]; decide) rfl ?_
      refine j_aload_n hX dX11_fresh_42 rfl 1 rfl ?_
      refine j_callVI hX lk_X11_249 (c_X11_isGood _ _ _ _ _ _ (by omega) hI89) (by omega) hce rfl rfl (by omega) (by omega) kc_210 rfl rfl (Nat.le_of_ble_eq_true rfl) dX11_fresh_43 (fun z97 M98 hz100 hp99 => ?_)
      obtain ⟨hE101, hb102, hq103, hq104⟩ := hp99
      replace hE101 := hE101.symm
      subst hE101
      refine j_if_eq (tgt := 53) hX dX11_fresh_46 (by decide) (by omega) (fun hc105 => ?_) (fun hc105 => ?_)
      · skip
        clear hq103
        have hi106 := hq104 (by omega)
        clear hq104
        refine j_lload_n hX dX11_fresh_53 rfl 0 rfl ?_
        exact hret _ _ _ _ dX11_fresh_54 ⟨hI89, hF95, by first | assumption | omega, by first | assumption | omega⟩
      · skip
        have hi107 := hq103 (by omega)
        clear hq103
        clear hq104
        refine j_aload_n hX dX11_fresh_49 rfl 1 rfl ?_
        refine j_callVV hX lk_X11_253 (c_X11_goOn _ _ _ _ _ _ _ _ (by omega) hI89 (by first | assumption | rfl) hq91) (by omega) hce rfl rfl (by omega) (by omega) kc_210 rfl rfl (Nat.le_of_ble_eq_true rfl) dX11_fresh_50 (fun M109 hp110 => ?_)
        obtain ⟨hI113, hG114, hq115, hq116⟩ := hp110
        have hk118 := kp_fr hG114 (by omega) hk96
        clear hk94 hk96
        have hF119 := Fr.trans hF95 hG114 (fun a b h => by omega)
        refine j_lload_n hX dX11_fresh_53 rfl 0 rfl ?_
        exact hret _ _ _ _ dX11_fresh_54 ⟨hI113, hF119, by first | assumption | omega, by first | assumption | omega⟩
  · skip
    clear hq8
    have hi120 := hq9 (by omega)
    clear hq9
    refine j_lconst hX dX11_fresh_7 ?_
    exact hret _ _ _ _ dX11_fresh_8 ⟨hI, hF, by first | assumption | omega, by first | assumption | omega⟩
set_option maxHeartbeats 2000000 in
set_option maxRecDepth 20000 in
theorem c_X11_known (l : Launch) (D : va_G) (cy : Nat → ClassId) (B N : Nat) (m : Int) (a : Int) (M : MM) (hN : 257 ≤ N) (hI : Iv M) (hpa : I32 a) (hML : ML m M) : CI l D cy B N 3 yX11_known cX11_known 2 (some .int) [rv B 210, iv a] M (fun z M' => Iv M' ∧ Fr (fun a b => (a = 210 ∧ 4 ≤ b ∧ b ≤ 10)) M M' ∧ (ML m M') ∧ (M'.1 210 4 = 0 → M.1 210 4 = 0 ∧ 0 ≤ a) ∧ (z = a ∨ (z = 0 ∧ a < 0) ∨ z = 0) ∧ (0 ≤ z) ∧ (M'.1 210 4 = 0 → z = a)) := by
  refine mk_CI (by decide) (Nat.le_of_ble_eq_true rfl) ?_
  intro X exl exD excy hnL hX hret
  have hce : 0 + 0 ≤ (xR X).cells ∧ 0 + 0 ≤ (xR X).slots := ⟨Nat.zero_le _, Nat.zero_le _⟩
  have hF : Fr (fun a b => (a = 210 ∧ 4 ≤ b ∧ b ≤ 10)) M M := Fr.rf
  have hk1 : M.1 210 4 = M.1 210 4 := rfl
  show J X B N 0 0 0 [(0, rv B 210), (1, iv a)] [] M
  refine j_aload_n hX dX11_known_0 rfl 0 rfl ?_
  refine j_callVI hX lk_X11_249 (c_X11_isGood _ _ _ _ _ _ (by omega) hI) (by omega) hce rfl rfl (by omega) (by omega) kc_210 rfl rfl (Nat.le_of_ble_eq_true rfl) dX11_known_1 (fun z2 M3 hz5 hp4 => ?_)
  obtain ⟨hE6, hb7, hq8, hq9⟩ := hp4
  replace hE6 := hE6.symm
  subst hE6
  refine j_if_ne (tgt := 9) hX dX11_known_4 (by decide) (by omega) (fun hc10 => ?_) (fun hc10 => ?_)
  · skip
    have hi11 := hq8 (by omega)
    clear hq8
    clear hq9
    refine j_aload_n hX dX11_known_9 rfl 0 rfl ?_
    refine gf_X11_221 hX (by omega) (by omega) kc_210 dX11_known_10 ?_
    refine j_name hI ro_210_8 (fun v12 hv13 hl14 hh15 => ?_)
    have hk16 := hv13.symm
    refine j_iconst hX dX11_known_13 ?_
    refine j_icmp_eq (tgt := 24) hX dX11_known_14 (by decide) (by omega) (by omega) (fun hc17 => ?_) (fun hc17 => ?_)
    · skip
      refine j_iload_n hX dX11_known_24 rfl 1 rfl ?_
      refine j_if_ge (tgt := 40) hX dX11_known_25 (by decide) (by omega) (fun hc18 => ?_) (fun hc18 => ?_)
      · skip
        refine j_aload_n hX dX11_known_40 rfl 0 rfl ?_
        refine j_callVV hX lk_X11_253 (c_X11_goOn _ _ _ _ _ _ _ _ (by omega) hI (by first | assumption | rfl) hML) (by omega) hce rfl rfl (by omega) (by omega) kc_210 rfl rfl (Nat.le_of_ble_eq_true rfl) dX11_known_41 (fun M20 hp21 => ?_)
        obtain ⟨hI24, hG25, hq26, hq27⟩ := hp21
        have hk29 := kp_fr hG25 (by omega) hk1
        clear hk1 hk16
        have hF30 := Fr.trans hF hG25 (fun a b h => by omega)
        refine j_iload_n hX dX11_known_44 rfl 1 rfl ?_
        refine j_if_ge (tgt := 52) hX dX11_known_45 (by decide) (by omega) (fun hc31 => ?_) (fun hc31 => ?_)
        · skip
          refine j_iload_n hX dX11_known_52 rfl 1 rfl ?_
          exact hret _ _ _ _ dX11_known_53 rfl (by omega) ⟨hI24, hF30, by first | assumption | omega, by first | assumption | omega, by first | assumption | omega, by first | assumption | omega, by first | assumption | omega⟩
        · skip
          refine j_iconst hX dX11_known_48 ?_
          refine j_goto (tgt := 53) hX dX11_known_49 (by decide) ?_
          exact hret _ _ _ _ dX11_known_53 rfl (by omega) ⟨hI24, hF30, by first | assumption | omega, by first | assumption | omega, by first | assumption | omega, by first | assumption | omega, by first | assumption | omega⟩
      · skip
        refine j_aload_n hX dX11_known_28 rfl 0 rfl ?_
        refine j_iconst hX dX11_known_29 ?_
        refine j_aload_n hX dX11_known_30 rfl 0 rfl ?_
        refine gf_X11_214 hX (by omega) (by omega) kc_210 dX11_known_31 ?_
        refine j_name hI ro_210_6 (fun v32 hv33 hl34 hh35 => ?_)
        have hk36 := hv33.symm
        refine j_callVV hX lk_X11_245 (c_X11_fails _ _ _ _ _ _ _ _ _ (by omega) hI (by omega) (by omega) hML (by first | assumption | omega)) (by omega) hce rfl rfl (by omega) (by omega) kc_210 rfl rfl (Nat.le_of_ble_eq_true rfl) dX11_known_34 (fun M38 hp39 => ?_)
        obtain ⟨hI42, hG43, hq44, hq45⟩ := hp39
        have hk47 := kp_fr hG43 (by omega) hk16
        have hk48 := kp_fr hG43 (by omega) hk36
        clear hk1 hk16 hk36
        have hF49 := Fr.trans hF hG43 (fun a b h => by omega)
        have hk50 : M38.1 210 4 = M38.1 210 4 := rfl
        refine j_goto (tgt := 44) hX dX11_known_37 (by decide) ?_
        refine j_iload_n hX dX11_known_44 rfl 1 rfl ?_
        refine j_if_ge (tgt := 52) hX dX11_known_45 (by decide) (by omega) (fun hc51 => ?_) (fun hc51 => ?_)
        · skip
          refine j_iload_n hX dX11_known_52 rfl 1 rfl ?_
          exact hret _ _ _ _ dX11_known_53 rfl (by omega) ⟨hI42, hF49, by first | assumption | omega, by first | assumption | omega, by first | assumption | omega, by first | assumption | omega, by first | assumption | omega⟩
        · skip
          refine j_iconst hX dX11_known_48 ?_
          refine j_goto (tgt := 53) hX dX11_known_49 (by decide) ?_
          exact hret _ _ _ _ dX11_known_53 rfl (by omega) ⟨hI42, hF49, by first | assumption | omega, by first | assumption | omega, by first | assumption | omega, by first | assumption | omega, by first | assumption | omega⟩
    · skip
      refine j_aload_n hX dX11_known_17 rfl 0 rfl ?_
      refine j_callVV hX lk_X11_256 (c_X11_misplaced _ _ _ _ _ _ _ (by omega) hI hML) (by omega) hce rfl rfl (by omega) (by omega) kc_210 rfl rfl (Nat.le_of_ble_eq_true rfl) dX11_known_18 (fun M53 hp54 => ?_)
      obtain ⟨hI57, hG58, hq59, hq60⟩ := hp54
      have hk62 := kp_fr hG58 (by omega) hk16
      clear hk1 hk16
      have hF63 := Fr.trans hF hG58 (fun a b h => by omega)
      have hk64 : M53.1 210 4 = M53.1 210 4 := rfl
      refine j_goto (tgt := 44) hX dX11_known_21 (by decide) ?_
      refine j_iload_n hX dX11_known_44 rfl 1 rfl ?_
      refine j_if_ge (tgt := 52) hX dX11_known_45 (by decide) (by omega) (fun hc65 => ?_) (fun hc65 => ?_)
      · skip
        refine j_iload_n hX dX11_known_52 rfl 1 rfl ?_
        exact hret _ _ _ _ dX11_known_53 rfl (by omega) ⟨hI57, hF63, by first | assumption | omega, by first | assumption | omega, by first | assumption | omega, by first | assumption | omega, by first | assumption | omega⟩
      · skip
        refine j_iconst hX dX11_known_48 ?_
        refine j_goto (tgt := 53) hX dX11_known_49 (by decide) ?_
        exact hret _ _ _ _ dX11_known_53 rfl (by omega) ⟨hI57, hF63, by first | assumption | omega, by first | assumption | omega, by first | assumption | omega, by first | assumption | omega, by first | assumption | omega⟩
  · skip
    clear hq8
    have hi66 := hq9 (by omega)
    clear hq9
    refine j_iconst hX dX11_known_7 ?_
    exact hret _ _ _ _ dX11_known_8 rfl (by omega) ⟨hI, hF, by first | assumption | omega, by first | assumption | omega, by first | assumption | omega, by first | assumption | omega, by first | assumption | omega⟩
