theorem dX11_emit_0 : decode cX11_emit 0 = .ok (.aload_n 0, 1) := by decide +kernel
theorem dX11_emit_1 : decode cX11_emit 1 = .ok (.getfield 95, 3) := by decide +kernel
theorem dX11_emit_4 : decode cX11_emit 4 = .ok (.aload_n 0, 1) := by decide +kernel
theorem dX11_emit_5 : decode cX11_emit 5 = .ok (.getfield 273, 3) := by decide +kernel
theorem dX11_emit_8 : decode cX11_emit 8 = .ok (.iload_n 1, 1) := by decide +kernel
theorem dX11_emit_9 : decode cX11_emit 9 = .ok (.iastore, 1) := by decide +kernel
theorem dX11_emit_10 : decode cX11_emit 10 = .ok (.aload_n 0, 1) := by decide +kernel
theorem dX11_emit_11 : decode cX11_emit 11 = .ok (.getfield 98, 3) := by decide +kernel
theorem dX11_emit_14 : decode cX11_emit 14 = .ok (.aload_n 0, 1) := by decide +kernel
theorem dX11_emit_15 : decode cX11_emit 15 = .ok (.getfield 273, 3) := by decide +kernel
theorem dX11_emit_18 : decode cX11_emit 18 = .ok (.iload_n 2, 1) := by decide +kernel
theorem dX11_emit_19 : decode cX11_emit 19 = .ok (.iastore, 1) := by decide +kernel
theorem dX11_emit_20 : decode cX11_emit 20 = .ok (.aload_n 0, 1) := by decide +kernel
theorem dX11_emit_21 : decode cX11_emit 21 = .ok (.dup, 1) := by decide +kernel
theorem dX11_emit_22 : decode cX11_emit 22 = .ok (.getfield 273, 3) := by decide +kernel
theorem dX11_emit_25 : decode cX11_emit 25 = .ok (.iconst 1, 1) := by decide +kernel
theorem dX11_emit_26 : decode cX11_emit 26 = .ok (.iadd, 1) := by decide +kernel
theorem dX11_emit_27 : decode cX11_emit 27 = .ok (.putfield 273, 3) := by decide +kernel
theorem dX11_emit_30 : decode cX11_emit 30 = .ok (.return_, 1) := by decide +kernel
theorem dX11_pushE_0 : decode cX11_pushE 0 = .ok (.aload_n 0, 1) := by decide +kernel
theorem dX11_pushE_1 : decode cX11_pushE 1 = .ok (.getfield 101, 3) := by decide +kernel
theorem dX11_pushE_4 : decode cX11_pushE 4 = .ok (.aload_n 0, 1) := by decide +kernel
theorem dX11_pushE_5 : decode cX11_pushE 5 = .ok (.getfield 338, 3) := by decide +kernel
theorem dX11_pushE_8 : decode cX11_pushE 8 = .ok (.iload_n 1, 1) := by decide +kernel
theorem dX11_pushE_9 : decode cX11_pushE 9 = .ok (.iastore, 1) := by decide +kernel
theorem dX11_pushE_10 : decode cX11_pushE 10 = .ok (.aload_n 0, 1) := by decide +kernel
theorem dX11_pushE_11 : decode cX11_pushE 11 = .ok (.getfield 104, 3) := by decide +kernel
theorem dX11_pushE_14 : decode cX11_pushE 14 = .ok (.aload_n 0, 1) := by decide +kernel
theorem dX11_pushE_15 : decode cX11_pushE 15 = .ok (.getfield 338, 3) := by decide +kernel
theorem dX11_pushE_18 : decode cX11_pushE 18 = .ok (.iload_n 2, 1) := by decide +kernel
theorem dX11_pushE_19 : decode cX11_pushE 19 = .ok (.iastore, 1) := by decide +kernel
theorem dX11_pushE_20 : decode cX11_pushE 20 = .ok (.aload_n 0, 1) := by decide +kernel
theorem dX11_pushE_21 : decode cX11_pushE 21 = .ok (.dup, 1) := by decide +kernel
theorem dX11_pushE_22 : decode cX11_pushE 22 = .ok (.getfield 338, 3) := by decide +kernel
theorem dX11_pushE_25 : decode cX11_pushE 25 = .ok (.iconst 1, 1) := by decide +kernel
theorem dX11_pushE_26 : decode cX11_pushE 26 = .ok (.iadd, 1) := by decide +kernel
theorem dX11_pushE_27 : decode cX11_pushE 27 = .ok (.putfield 338, 3) := by decide +kernel
theorem dX11_pushE_30 : decode cX11_pushE 30 = .ok (.return_, 1) := by decide +kernel
theorem dX11_wordHere_0 : decode cX11_wordHere 0 = .ok (.aload_n 0, 1) := by decide +kernel
theorem dX11_wordHere_1 : decode cX11_wordHere 1 = .ok (.ldc2_w 169, 3) := by decide +kernel
theorem dX11_wordHere_4 : decode cX11_wordHere 4 = .ok (.invokevirtual 259, 3) := by decide +kernel
theorem dX11_wordHere_7 : decode cX11_wordHere 7 = .ok (.ifCond .eq 6, 3) := by decide +kernel
theorem dX11_wordHere_10 : decode cX11_wordHere 10 = .ok (.bipush 106, 2) := by decide +kernel
theorem dX11_wordHere_12 : decode cX11_wordHere 12 = .ok (.ireturn, 1) := by decide +kernel
theorem dX11_wordHere_13 : decode cX11_wordHere 13 = .ok (.aload_n 0, 1) := by decide +kernel
theorem dX11_wordHere_14 : decode cX11_wordHere 14 = .ok (.ldc2_w 195, 3) := by decide +kernel
theorem dX11_wordHere_17 : decode cX11_wordHere 17 = .ok (.invokevirtual 259, 3) := by decide +kernel
theorem dX11_wordHere_20 : decode cX11_wordHere 20 = .ok (.ifCond .eq 6, 3) := by decide +kernel
theorem dX11_wordHere_23 : decode cX11_wordHere 23 = .ok (.bipush 115, 2) := by decide +kernel
theorem dX11_wordHere_25 : decode cX11_wordHere 25 = .ok (.ireturn, 1) := by decide +kernel
theorem dX11_wordHere_26 : decode cX11_wordHere 26 = .ok (.aload_n 0, 1) := by decide +kernel
theorem dX11_wordHere_27 : decode cX11_wordHere 27 = .ok (.ldc2_w 197, 3) := by decide +kernel
theorem dX11_wordHere_30 : decode cX11_wordHere 30 = .ok (.invokevirtual 259, 3) := by decide +kernel
theorem dX11_wordHere_33 : decode cX11_wordHere 33 = .ok (.ifCond .eq 6, 3) := by decide +kernel
theorem dX11_wordHere_36 : decode cX11_wordHere 36 = .ok (.bipush 107, 2) := by decide +kernel
theorem dX11_wordHere_38 : decode cX11_wordHere 38 = .ok (.ireturn, 1) := by decide +kernel
theorem dX11_wordHere_39 : decode cX11_wordHere 39 = .ok (.aload_n 0, 1) := by decide +kernel
theorem dX11_wordHere_40 : decode cX11_wordHere 40 = .ok (.ldc2_w 199, 3) := by decide +kernel
theorem dX11_wordHere_43 : decode cX11_wordHere 43 = .ok (.invokevirtual 259, 3) := by decide +kernel
theorem dX11_wordHere_46 : decode cX11_wordHere 46 = .ok (.ifCond .eq 6, 3) := by decide +kernel
theorem dX11_wordHere_49 : decode cX11_wordHere 49 = .ok (.bipush 119, 2) := by decide +kernel
theorem dX11_wordHere_51 : decode cX11_wordHere 51 = .ok (.ireturn, 1) := by decide +kernel
theorem dX11_wordHere_52 : decode cX11_wordHere 52 = .ok (.aload_n 0, 1) := by decide +kernel
theorem dX11_wordHere_53 : decode cX11_wordHere 53 = .ok (.ldc2_w 201, 3) := by decide +kernel
theorem dX11_wordHere_56 : decode cX11_wordHere 56 = .ok (.invokevirtual 259, 3) := by decide +kernel
theorem dX11_wordHere_59 : decode cX11_wordHere 59 = .ok (.ifCond .eq 6, 3) := by decide +kernel
theorem dX11_wordHere_62 : decode cX11_wordHere 62 = .ok (.bipush 100, 2) := by decide +kernel
theorem dX11_wordHere_64 : decode cX11_wordHere 64 = .ok (.ireturn, 1) := by decide +kernel
theorem dX11_wordHere_65 : decode cX11_wordHere 65 = .ok (.aload_n 0, 1) := by decide +kernel
theorem dX11_wordHere_66 : decode cX11_wordHere 66 = .ok (.ldc2_w 203, 3) := by decide +kernel
theorem dX11_wordHere_69 : decode cX11_wordHere 69 = .ok (.invokevirtual 259, 3) := by decide +kernel
theorem dX11_wordHere_72 : decode cX11_wordHere 72 = .ok (.ifCond .eq 8, 3) := by decide +kernel
theorem dX11_wordHere_75 : decode cX11_wordHere 75 = .ok (.bipush 105, 2) := by decide +kernel
theorem dX11_wordHere_77 : decode cX11_wordHere 77 = .ok (.goto 4, 3) := by decide +kernel
theorem dX11_wordHere_80 : decode cX11_wordHere 80 = .ok (.iconst 0, 1) := by decide +kernel
theorem dX11_wordHere_81 : decode cX11_wordHere 81 = .ok (.ireturn, 1) := by decide +kernel
theorem dX11_rankHere_0 : decode cX11_rankHere 0 = .ok (.aload_n 0, 1) := by decide +kernel
theorem dX11_rankHere_1 : decode cX11_rankHere 1 = .ok (.ldc2_w 207, 3) := by decide +kernel
theorem dX11_rankHere_4 : decode cX11_rankHere 4 = .ok (.invokevirtual 259, 3) := by decide +kernel
theorem dX11_rankHere_7 : decode cX11_rankHere 7 = .ok (.ifCond .eq 5, 3) := by decide +kernel
theorem dX11_rankHere_10 : decode cX11_rankHere 10 = .ok (.iconst 2, 1) := by decide +kernel
theorem dX11_rankHere_11 : decode cX11_rankHere 11 = .ok (.ireturn, 1) := by decide +kernel
theorem dX11_rankHere_12 : decode cX11_rankHere 12 = .ok (.aload_n 0, 1) := by decide +kernel
theorem dX11_rankHere_13 : decode cX11_rankHere 13 = .ok (.ldc2_w 205, 3) := by decide +kernel
theorem dX11_rankHere_16 : decode cX11_rankHere 16 = .ok (.invokevirtual 259, 3) := by decide +kernel
theorem dX11_rankHere_19 : decode cX11_rankHere 19 = .ok (.ifCond .eq 5, 3) := by decide +kernel
theorem dX11_rankHere_22 : decode cX11_rankHere 22 = .ok (.iconst 1, 1) := by decide +kernel
theorem dX11_rankHere_23 : decode cX11_rankHere 23 = .ok (.ireturn, 1) := by decide +kernel
theorem dX11_rankHere_24 : decode cX11_rankHere 24 = .ok (.aload_n 0, 1) := by decide +kernel
theorem dX11_rankHere_25 : decode cX11_rankHere 25 = .ok (.bipush 60, 2) := by decide +kernel
theorem dX11_rankHere_27 : decode cX11_rankHere 27 = .ok (.invokevirtual 311, 3) := by decide +kernel
theorem dX11_rankHere_30 : decode cX11_rankHere 30 = .ok (.ifCond .ne 21, 3) := by decide +kernel
theorem dX11_rankHere_33 : decode cX11_rankHere 33 = .ok (.aload_n 0, 1) := by decide +kernel
theorem dX11_rankHere_34 : decode cX11_rankHere 34 = .ok (.bipush 62, 2) := by decide +kernel
theorem dX11_rankHere_36 : decode cX11_rankHere 36 = .ok (.invokevirtual 311, 3) := by decide +kernel
theorem dX11_rankHere_39 : decode cX11_rankHere 39 = .ok (.ifCond .ne 12, 3) := by decide +kernel
theorem dX11_rankHere_42 : decode cX11_rankHere 42 = .ok (.aload_n 0, 1) := by decide +kernel
theorem dX11_rankHere_43 : decode cX11_rankHere 43 = .ok (.bipush 61, 2) := by decide +kernel
theorem dX11_rankHere_45 : decode cX11_rankHere 45 = .ok (.invokevirtual 311, 3) := by decide +kernel
theorem dX11_rankHere_48 : decode cX11_rankHere 48 = .ok (.ifCond .eq 5, 3) := by decide +kernel
theorem dX11_rankHere_51 : decode cX11_rankHere 51 = .ok (.iconst 4, 1) := by decide +kernel
theorem dX11_rankHere_52 : decode cX11_rankHere 52 = .ok (.ireturn, 1) := by decide +kernel
theorem dX11_rankHere_53 : decode cX11_rankHere 53 = .ok (.aload_n 0, 1) := by decide +kernel
theorem dX11_rankHere_54 : decode cX11_rankHere 54 = .ok (.bipush 43, 2) := by decide +kernel
theorem dX11_rankHere_56 : decode cX11_rankHere 56 = .ok (.invokevirtual 311, 3) := by decide +kernel
theorem dX11_rankHere_59 : decode cX11_rankHere 59 = .ok (.ifCond .ne 12, 3) := by decide +kernel
theorem dX11_rankHere_62 : decode cX11_rankHere 62 = .ok (.aload_n 0, 1) := by decide +kernel
theorem dX11_rankHere_63 : decode cX11_rankHere 63 = .ok (.bipush 45, 2) := by decide +kernel
theorem dX11_rankHere_65 : decode cX11_rankHere 65 = .ok (.invokevirtual 311, 3) := by decide +kernel
theorem dX11_rankHere_68 : decode cX11_rankHere 68 = .ok (.ifCond .eq 5, 3) := by decide +kernel
theorem dX11_rankHere_71 : decode cX11_rankHere 71 = .ok (.iconst 5, 1) := by decide +kernel
theorem dX11_rankHere_72 : decode cX11_rankHere 72 = .ok (.ireturn, 1) := by decide +kernel
theorem dX11_rankHere_73 : decode cX11_rankHere 73 = .ok (.aload_n 0, 1) := by decide +kernel
theorem dX11_rankHere_74 : decode cX11_rankHere 74 = .ok (.bipush 42, 2) := by decide +kernel
theorem dX11_rankHere_76 : decode cX11_rankHere 76 = .ok (.invokevirtual 311, 3) := by decide +kernel
theorem dX11_rankHere_79 : decode cX11_rankHere 79 = .ok (.ifCond .ne 21, 3) := by decide +kernel
theorem dX11_rankHere_82 : decode cX11_rankHere 82 = .ok (.aload_n 0, 1) := by decide +kernel
theorem dX11_rankHere_83 : decode cX11_rankHere 83 = .ok (.bipush 47, 2) := by decide +kernel
theorem dX11_rankHere_85 : decode cX11_rankHere 85 = .ok (.invokevirtual 311, 3) := by decide +kernel
theorem dX11_rankHere_88 : decode cX11_rankHere 88 = .ok (.ifCond .ne 12, 3) := by decide +kernel
theorem dX11_rankHere_91 : decode cX11_rankHere 91 = .ok (.aload_n 0, 1) := by decide +kernel
theorem dX11_rankHere_92 : decode cX11_rankHere 92 = .ok (.bipush 37, 2) := by decide +kernel
theorem dX11_rankHere_94 : decode cX11_rankHere 94 = .ok (.invokevirtual 311, 3) := by decide +kernel
theorem dX11_rankHere_97 : decode cX11_rankHere 97 = .ok (.ifCond .eq 8, 3) := by decide +kernel
theorem dX11_rankHere_100 : decode cX11_rankHere 100 = .ok (.bipush 6, 2) := by decide +kernel
theorem dX11_rankHere_102 : decode cX11_rankHere 102 = .ok (.goto 4, 3) := by decide +kernel
theorem dX11_rankHere_105 : decode cX11_rankHere 105 = .ok (.iconst 0, 1) := by decide +kernel
theorem dX11_rankHere_106 : decode cX11_rankHere 106 = .ok (.ireturn, 1) := by decide +kernel
theorem dX11_isCompared_0 : decode cX11_isCompared 0 = .ok (.aload_n 0, 1) := by decide +kernel
theorem dX11_isCompared_1 : decode cX11_isCompared 1 = .ok (.getfield 338, 3) := by decide +kernel
theorem dX11_isCompared_4 : decode cX11_isCompared 4 = .ok (.iconst 1, 1) := by decide +kernel
theorem dX11_isCompared_5 : decode cX11_isCompared 5 = .ok (.isub, 1) := by decide +kernel
theorem dX11_isCompared_6 : decode cX11_isCompared 6 = .ok (.istore_n 1, 1) := by decide +kernel
theorem dX11_isCompared_7 : decode cX11_isCompared 7 = .ok (.aload_n 0, 1) := by decide +kernel
theorem dX11_isCompared_8 : decode cX11_isCompared 8 = .ok (.getfield 101, 3) := by decide +kernel
theorem dX11_isCompared_11 : decode cX11_isCompared 11 = .ok (.iload_n 1, 1) := by decide +kernel
theorem dX11_isCompared_12 : decode cX11_isCompared 12 = .ok (.iaload, 1) := by decide +kernel
theorem dX11_isCompared_13 : decode cX11_isCompared 13 = .ok (.iconst 5, 1) := by decide +kernel
theorem dX11_isCompared_14 : decode cX11_isCompared 14 = .ok (.if_icmp .eq 14, 3) := by decide +kernel
theorem dX11_isCompared_17 : decode cX11_isCompared 17 = .ok (.aload_n 0, 1) := by decide +kernel
theorem dX11_isCompared_18 : decode cX11_isCompared 18 = .ok (.getfield 101, 3) := by decide +kernel
theorem dX11_isCompared_21 : decode cX11_isCompared 21 = .ok (.iload_n 1, 1) := by decide +kernel
theorem dX11_isCompared_22 : decode cX11_isCompared 22 = .ok (.iaload, 1) := by decide +kernel
theorem dX11_isCompared_23 : decode cX11_isCompared 23 = .ok (.bipush 6, 2) := by decide +kernel
theorem dX11_isCompared_25 : decode cX11_isCompared 25 = .ok (.if_icmp .ne 9, 3) := by decide +kernel
theorem dX11_isCompared_28 : decode cX11_isCompared 28 = .ok (.iinc 1 (-1), 3) := by decide +kernel
theorem dX11_isCompared_31 : decode cX11_isCompared 31 = .ok (.goto (-24), 3) := by decide +kernel
theorem dX11_isCompared_34 : decode cX11_isCompared 34 = .ok (.aload_n 0, 1) := by decide +kernel
theorem dX11_isCompared_35 : decode cX11_isCompared 35 = .ok (.getfield 101, 3) := by decide +kernel
theorem dX11_isCompared_38 : decode cX11_isCompared 38 = .ok (.iload_n 1, 1) := by decide +kernel
theorem dX11_isCompared_39 : decode cX11_isCompared 39 = .ok (.iaload, 1) := by decide +kernel
theorem dX11_isCompared_40 : decode cX11_isCompared 40 = .ok (.iconst 4, 1) := by decide +kernel
theorem dX11_isCompared_41 : decode cX11_isCompared 41 = .ok (.if_icmp .ne 7, 3) := by decide +kernel
theorem dX11_isCompared_44 : decode cX11_isCompared 44 = .ok (.iconst 1, 1) := by decide +kernel
theorem dX11_isCompared_45 : decode cX11_isCompared 45 = .ok (.goto 4, 3) := by decide +kernel
theorem dX11_isCompared_48 : decode cX11_isCompared 48 = .ok (.iconst 0, 1) := by decide +kernel
theorem dX11_isCompared_49 : decode cX11_isCompared 49 = .ok (.ireturn, 1) := by decide +kernel
set_option maxHeartbeats 2000000 in
set_option maxRecDepth 20000 in
theorem c_X11_emit (l : Launch) (D : va_G) (cy : Nat → ClassId) (B N : Nat) (cd : Int) (a : Int) (b : Int) (M : MM) (hN : 257 ≤ N) (hI : Iv M) (hpa : I32 a) (hpb : I32 b) (hcd : M.1 210 42 = cd) (h1 : 0 ≤ cd ∧ cd ≤ 1119) : CV l D cy B N 1 yX11_emit cX11_emit 3 none [rv B 210, iv a, iv b] M (fun M' => Iv M' ∧ Fr (fun a b => (a = 237 ∧ cd ≤ b ∧ b ≤ cd) ∨ (a = 238 ∧ cd ≤ b ∧ b ≤ cd) ∨ (a = 210 ∧ 42 ≤ b ∧ b ≤ 42)) M M' ∧ (M'.1 237 cd = a ∧ M'.1 210 42 = cd + 1)) := by
  refine mk_CV (by decide) (Nat.le_of_ble_eq_true rfl) ?_
  intro X exl exD excy hnL hX hret
  have hce : 0 + 0 ≤ (xR X).cells ∧ 0 + 0 ≤ (xR X).slots := ⟨Nat.zero_le _, Nat.zero_le _⟩
  have hF : Fr (fun a b => (a = 237 ∧ cd ≤ b ∧ b ≤ cd) ∨ (a = 238 ∧ cd ≤ b ∧ b ≤ cd) ∨ (a = 210 ∧ 42 ≤ b ∧ b ≤ 42)) M M := Fr.rf
  show J X B N 0 0 0 [(0, rv B 210), (1, iv a), (2, iv b)] [] M
  refine j_aload_n hX dX11_emit_0 rfl 0 rfl ?_
  refine gf_X11_95 hX (by omega) (by omega) kc_210 (fc_210_35 hI) (by decide) dX11_emit_1 ?_
  refine j_aload_n hX dX11_emit_4 rfl 0 rfl ?_
  refine gf_X11_273 hX (by omega) (by omega) kc_210 dX11_emit_5 ?_
  refine j_top hcd ?_
  refine j_iload_n hX dX11_emit_8 rfl 1 rfl ?_
  refine j_iast hX (by omega) (by omega) kc_237 (by omega) (by omega) (by omega) (by omega) dX11_emit_9 ?_
  refine j_up hI (ra_237 _) (by omega) (by omega) (Or.inl (by omega)) (fun M1 w2 hw3 hM4 hI5 hf6 => ?_)
  have hk7 := kp_up hM4 (fun h => absurd h.1 (by decide)) hcd
  have hF8 := Fr.put hF hM4 ((Or.inl ⟨rfl, by omega, by omega⟩))
  refine j_aload_n hX dX11_emit_10 rfl 0 rfl ?_
  refine gf_X11_98 hX (by omega) (by omega) kc_210 (fc_210_36 hI5) (by decide) dX11_emit_11 ?_
  refine j_aload_n hX dX11_emit_14 rfl 0 rfl ?_
  refine gf_X11_273 hX (by omega) (by omega) kc_210 dX11_emit_15 ?_
  refine j_top hk7 ?_
  refine j_iload_n hX dX11_emit_18 rfl 2 rfl ?_
  refine j_iast hX (by omega) (by omega) kc_238 (by omega) (by omega) (by omega) (by omega) dX11_emit_19 ?_
  refine j_up hI5 (ra_238 _) (by omega) (by omega) (Or.inl (by omega)) (fun M9 w10 hw11 hM12 hI13 hf14 => ?_)
  have hk15 := kp_up hM12 (fun h => absurd h.1 (by decide)) hk7
  have hk16 := kp_up hM12 (fun h => absurd h.1 (by decide)) hf6
  clear hk7 hf6
  have hF17 := Fr.put hF8 hM12 ((Or.inr (Or.inl ⟨rfl, by omega, by omega⟩)))
  refine j_aload_n hX dX11_emit_20 rfl 0 rfl ?_
  refine j_dup hX dX11_emit_21 rfl ?_
  refine gf_X11_273 hX (by omega) (by omega) kc_210 dX11_emit_22 ?_
  refine j_top hk15 ?_
  refine j_iconst hX dX11_emit_25 ?_
  refine j_iadd hX dX11_emit_26 ?_
  refine pf_X11_273 hX (by omega) (by omega) kc_210 (by omega) dX11_emit_27 ?_
  refine j_up hI13 ro_210_42 (by omega) (by omega) (Or.inl (by omega)) (fun M18 w19 hw20 hM21 hI22 hf23 => ?_)
  have hk24 := kp_up hM21 (fun h => absurd h.1 (by decide)) hk16
  clear hk15 hk16
  have hF25 := Fr.put hF17 hM21 ((Or.inr (Or.inr ⟨rfl, by decide, by decide⟩)))
  exact hret _ _ _ dX11_emit_30 ⟨hI22, hF25, by first | assumption | omega⟩
set_option maxHeartbeats 2000000 in
set_option maxRecDepth 20000 in
theorem c_X11_pushE (l : Launch) (D : va_G) (cy : Nat → ClassId) (B N : Nat) (np : Int) (a : Int) (b : Int) (M : MM) (hN : 257 ≤ N) (hI : Iv M) (hpa : I32 a) (hpb : I32 b) (hpd : M.1 210 44 = np) (h1 : 0 ≤ np ∧ np ≤ 89 ∧ 0 ≤ a ∧ a ≤ 8) : CV l D cy B N 1 yX11_pushE cX11_pushE 3 none [rv B 210, iv a, iv b] M (fun M' => Iv M' ∧ Fr (fun a b => (a = 239 ∧ np ≤ b ∧ b ≤ np) ∨ (a = 240 ∧ np ≤ b ∧ b ≤ np) ∨ (a = 210 ∧ 44 ≤ b ∧ b ≤ 44)) M M' ∧ (M'.1 239 np = a ∧ M'.1 240 np = b ∧ M'.1 210 44 = np + 1)) := by
  refine mk_CV (by decide) (Nat.le_of_ble_eq_true rfl) ?_
  intro X exl exD excy hnL hX hret
  have hce : 0 + 0 ≤ (xR X).cells ∧ 0 + 0 ≤ (xR X).slots := ⟨Nat.zero_le _, Nat.zero_le _⟩
  have hF : Fr (fun a b => (a = 239 ∧ np ≤ b ∧ b ≤ np) ∨ (a = 240 ∧ np ≤ b ∧ b ≤ np) ∨ (a = 210 ∧ 44 ≤ b ∧ b ≤ 44)) M M := Fr.rf
  show J X B N 0 0 0 [(0, rv B 210), (1, iv a), (2, iv b)] [] M
  refine j_aload_n hX dX11_pushE_0 rfl 0 rfl ?_
  refine gf_X11_101 hX (by omega) (by omega) kc_210 (fc_210_37 hI) (by decide) dX11_pushE_1 ?_
  refine j_aload_n hX dX11_pushE_4 rfl 0 rfl ?_
  refine gf_X11_338 hX (by omega) (by omega) kc_210 dX11_pushE_5 ?_
  refine j_top hpd ?_
  refine j_iload_n hX dX11_pushE_8 rfl 1 rfl ?_
  refine j_iast hX (by omega) (by omega) kc_239 (by omega) (by omega) (by omega) (by omega) dX11_pushE_9 ?_
  refine j_up hI (ra_239 _) (by omega) (by omega) (Or.inl (by omega)) (fun M1 w2 hw3 hM4 hI5 hf6 => ?_)
  have hk7 := kp_up hM4 (fun h => absurd h.1 (by decide)) hpd
  have hF8 := Fr.put hF hM4 ((Or.inl ⟨rfl, by omega, by omega⟩))
  refine j_aload_n hX dX11_pushE_10 rfl 0 rfl ?_
  refine gf_X11_104 hX (by omega) (by omega) kc_210 (fc_210_38 hI5) (by decide) dX11_pushE_11 ?_
  refine j_aload_n hX dX11_pushE_14 rfl 0 rfl ?_
  refine gf_X11_338 hX (by omega) (by omega) kc_210 dX11_pushE_15 ?_
  refine j_top hk7 ?_
  refine j_iload_n hX dX11_pushE_18 rfl 2 rfl ?_
  refine j_iast hX (by omega) (by omega) kc_240 (by omega) (by omega) (by omega) (by omega) dX11_pushE_19 ?_
  refine j_up hI5 (ra_240 _) (by omega) (by omega) (Or.inl (by omega)) (fun M9 w10 hw11 hM12 hI13 hf14 => ?_)
  have hk15 := kp_up hM12 (fun h => absurd h.1 (by decide)) hk7
  have hk16 := kp_up hM12 (fun h => absurd h.1 (by decide)) hf6
  clear hk7 hf6
  have hF17 := Fr.put hF8 hM12 ((Or.inr (Or.inl ⟨rfl, by omega, by omega⟩)))
  refine j_aload_n hX dX11_pushE_20 rfl 0 rfl ?_
  refine j_dup hX dX11_pushE_21 rfl ?_
  refine gf_X11_338 hX (by omega) (by omega) kc_210 dX11_pushE_22 ?_
  refine j_top hk15 ?_
  refine j_iconst hX dX11_pushE_25 ?_
  refine j_iadd hX dX11_pushE_26 ?_
  refine pf_X11_338 hX (by omega) (by omega) kc_210 (by omega) dX11_pushE_27 ?_
  refine j_up hI13 ro_210_44 (by omega) (by omega) (Or.inl (by omega)) (fun M18 w19 hw20 hM21 hI22 hf23 => ?_)
  have hk24 := kp_up hM21 (fun h => absurd h.1 (by decide)) hk16
  have hk25 := kp_up hM21 (fun h => absurd h.1 (by decide)) hf14
  clear hk15 hk16 hf14
  have hF26 := Fr.put hF17 hM21 ((Or.inr (Or.inr ⟨rfl, by decide, by decide⟩)))
  exact hret _ _ _ dX11_pushE_30 ⟨hI22, hF26, by first | assumption | omega⟩
set_option maxHeartbeats 2000000 in
set_option maxRecDepth 20000 in
theorem c_X11_wordHere (l : Launch) (D : va_G) (cy : Nat → ClassId) (B N : Nat) (M : MM) (hN : 257 ≤ N) (hI : Iv M) : CI l D cy B N 2 yX11_wordHere cX11_wordHere 1 (some .int) [rv B 210] M (fun z M' => M' = M ∧ (Imp (z ≠ 0) (97 ≤ z ∧ z ≤ 122 ∧ M.1 210 8 = 3))) := by
  refine mk_CI (by decide) (Nat.le_of_ble_eq_true rfl) ?_
  intro X exl exD excy hnL hX hret
  have hce : 0 + 0 ≤ (xR X).cells ∧ 0 + 0 ≤ (xR X).slots := ⟨Nat.zero_le _, Nat.zero_le _⟩
  show J X B N 0 0 0 [(0, rv B 210)] [] M
  refine j_aload_n hX dX11_wordHere_0 rfl 0 rfl ?_
  refine j_ldc2 hX (in_6 189 (by first | rfl | decide +kernel) rfl) dX11_wordHere_1 ?_
  refine j_callVI hX lk_X11_259 (c_X11_isWord _ _ _ _ _ _ _ (by omega) hI) (by omega) hce rfl rfl (by omega) (by omega) kc_210 rfl rfl (Nat.le_of_ble_eq_true rfl) dX11_wordHere_4 (fun z1 M2 hz4 hp3 => ?_)
  obtain ⟨hE5, hb6, hq7, hq8⟩ := hp3
  replace hE5 := hE5.symm
  subst hE5
  refine j_if_eq (tgt := 13) hX dX11_wordHere_7 (by decide) (by omega) (fun hc9 => ?_) (fun hc9 => ?_)
  · skip
    clear hq7
    have hi10 := hq8 (by omega)
    clear hq8
    refine j_aload_n hX dX11_wordHere_13 rfl 0 rfl ?_
    refine j_ldc2 hX (in_6 202 (by first | rfl | decide +kernel) rfl) dX11_wordHere_14 ?_
    refine j_callVI hX lk_X11_259 (c_X11_isWord _ _ _ _ _ _ _ (by omega) hI) (by omega) hce rfl rfl (by omega) (by omega) kc_210 rfl rfl (Nat.le_of_ble_eq_true rfl) dX11_wordHere_17 (fun z11 M12 hz14 hp13 => ?_)
    obtain ⟨hE15, hb16, hq17, hq18⟩ := hp13
    replace hE15 := hE15.symm
    subst hE15
    refine j_if_eq (tgt := 26) hX dX11_wordHere_20 (by decide) (by omega) (fun hc19 => ?_) (fun hc19 => ?_)
    · skip
      clear hq17
      have hi20 := hq18 (by omega)
      clear hq18
      refine j_aload_n hX dX11_wordHere_26 rfl 0 rfl ?_
      refine j_ldc2 hX (in_6 203 (by first | rfl | decide +kernel) rfl) dX11_wordHere_27 ?_
      refine j_callVI hX lk_X11_259 (c_X11_isWord _ _ _ _ _ _ _ (by omega) hI) (by omega) hce rfl rfl (by omega) (by omega) kc_210 rfl rfl (Nat.le_of_ble_eq_true rfl) dX11_wordHere_30 (fun z21 M22 hz24 hp23 => ?_)
      obtain ⟨hE25, hb26, hq27, hq28⟩ := hp23
      replace hE25 := hE25.symm
      subst hE25
      refine j_if_eq (tgt := 39) hX dX11_wordHere_33 (by decide) (by omega) (fun hc29 => ?_) (fun hc29 => ?_)
      · skip
        clear hq27
        have hi30 := hq28 (by omega)
        clear hq28
        refine j_aload_n hX dX11_wordHere_39 rfl 0 rfl ?_
        refine j_ldc2 hX (in_6 204 (by first | rfl | decide +kernel) rfl) dX11_wordHere_40 ?_
        refine j_callVI hX lk_X11_259 (c_X11_isWord _ _ _ _ _ _ _ (by omega) hI) (by omega) hce rfl rfl (by omega) (by omega) kc_210 rfl rfl (Nat.le_of_ble_eq_true rfl) dX11_wordHere_43 (fun z31 M32 hz34 hp33 => ?_)
        obtain ⟨hE35, hb36, hq37, hq38⟩ := hp33
        replace hE35 := hE35.symm
        subst hE35
        refine j_if_eq (tgt := 52) hX dX11_wordHere_46 (by decide) (by omega) (fun hc39 => ?_) (fun hc39 => ?_)
        · skip
          clear hq37
          have hi40 := hq38 (by omega)
          clear hq38
          refine j_aload_n hX dX11_wordHere_52 rfl 0 rfl ?_
          refine j_ldc2 hX (in_6 205 (by first | rfl | decide +kernel) rfl) dX11_wordHere_53 ?_
          refine j_callVI hX lk_X11_259 (c_X11_isWord _ _ _ _ _ _ _ (by omega) hI) (by omega) hce rfl rfl (by omega) (by omega) kc_210 rfl rfl (Nat.le_of_ble_eq_true rfl) dX11_wordHere_56 (fun z41 M42 hz44 hp43 => ?_)
          obtain ⟨hE45, hb46, hq47, hq48⟩ := hp43
          replace hE45 := hE45.symm
          subst hE45
          refine j_if_eq (tgt := 65) hX dX11_wordHere_59 (by decide) (by omega) (fun hc49 => ?_) (fun hc49 => ?_)
          · skip
            clear hq47
            have hi50 := hq48 (by omega)
            clear hq48
            refine j_aload_n hX dX11_wordHere_65 rfl 0 rfl ?_
            refine j_ldc2 hX (in_6 206 (by first | rfl | decide +kernel) rfl) dX11_wordHere_66 ?_
            refine j_callVI hX lk_X11_259 (c_X11_isWord _ _ _ _ _ _ _ (by omega) hI) (by omega) hce rfl rfl (by omega) (by omega) kc_210 rfl rfl (Nat.le_of_ble_eq_true rfl) dX11_wordHere_69 (fun z51 M52 hz54 hp53 => ?_)
            obtain ⟨hE55, hb56, hq57, hq58⟩ := hp53
            replace hE55 := hE55.symm
            subst hE55
            refine j_if_eq (tgt := 80) hX dX11_wordHere_72 (by decide) (by omega) (fun hc59 => ?_) (fun hc59 => ?_)
            · skip
              clear hq57
              have hi60 := hq58 (by omega)
              clear hq58
              refine j_iconst hX dX11_wordHere_80 ?_
              exact hret _ _ _ _ dX11_wordHere_81 rfl (by omega) ⟨rfl, by first | exact fun h => absurd rfl h | exact fun _ => ⟨by omega, by omega, by omega⟩⟩
            · skip
              have hi61 := hq57 (by omega)
              clear hq57
              clear hq58
              refine j_bipush hX dX11_wordHere_75 rfl ?_
              refine j_goto (tgt := 81) hX dX11_wordHere_77 (by decide) ?_
              exact hret _ _ _ _ dX11_wordHere_81 rfl (by omega) ⟨rfl, by first | exact fun h => absurd rfl h | exact fun _ => ⟨by omega, by omega, by omega⟩⟩
          · skip
            have hi62 := hq47 (by omega)
            clear hq47
            clear hq48
            refine j_bipush hX dX11_wordHere_62 rfl ?_
            exact hret _ _ _ _ dX11_wordHere_64 rfl (by omega) ⟨rfl, by first | exact fun h => absurd rfl h | exact fun _ => ⟨by omega, by omega, by omega⟩⟩
        · skip
          have hi63 := hq37 (by omega)
          clear hq37
          clear hq38
          refine j_bipush hX dX11_wordHere_49 rfl ?_
          exact hret _ _ _ _ dX11_wordHere_51 rfl (by omega) ⟨rfl, by first | exact fun h => absurd rfl h | exact fun _ => ⟨by omega, by omega, by omega⟩⟩
      · skip
        have hi64 := hq27 (by omega)
        clear hq27
        clear hq28
        refine j_bipush hX dX11_wordHere_36 rfl ?_
        exact hret _ _ _ _ dX11_wordHere_38 rfl (by omega) ⟨rfl, by first | exact fun h => absurd rfl h | exact fun _ => ⟨by omega, by omega, by omega⟩⟩
    · skip
      have hi65 := hq17 (by omega)
      clear hq17
      clear hq18
      refine j_bipush hX dX11_wordHere_23 rfl ?_
      exact hret _ _ _ _ dX11_wordHere_25 rfl (by omega) ⟨rfl, by first | exact fun h => absurd rfl h | exact fun _ => ⟨by omega, by omega, by omega⟩⟩
  · skip
    have hi66 := hq7 (by omega)
    clear hq7
    clear hq8
    refine j_bipush hX dX11_wordHere_10 rfl ?_
    exact hret _ _ _ _ dX11_wordHere_12 rfl (by omega) ⟨rfl, by first | exact fun h => absurd rfl h | exact fun _ => ⟨by omega, by omega, by omega⟩⟩
set_option maxHeartbeats 2000000 in
set_option maxRecDepth 20000 in
theorem c_X11_rankHere (l : Launch) (D : va_G) (cy : Nat → ClassId) (B N : Nat) (M : MM) (hN : 257 ≤ N) (hI : Iv M) : CI l D cy B N 3 yX11_rankHere cX11_rankHere 1 (some .int) [rv B 210] M (fun z M' => M' = M ∧ (0 ≤ z ∧ z ≤ 6) ∧ (Imp (3 ≤ z) (4 ≤ z)) ∧ (Imp (z ≠ 0) (M.1 210 8 ≠ 0)) ∧ (SQ z M)) := by
  refine mk_CI (by decide) (Nat.le_of_ble_eq_true rfl) ?_
  intro X exl exD excy hnL hX hret
  have hce : 0 + 0 ≤ (xR X).cells ∧ 0 + 0 ≤ (xR X).slots := ⟨Nat.zero_le _, Nat.zero_le _⟩
  show J X B N 0 0 0 [(0, rv B 210)] [] M
  refine j_aload_n hX dX11_rankHere_0 rfl 0 rfl ?_
  refine j_ldc2 hX (in_6 208 (by first | rfl | decide +kernel) rfl) dX11_rankHere_1 ?_
  refine j_callVI hX lk_X11_259 (c_X11_isWord _ _ _ _ _ _ _ (by omega) hI) (by omega) hce rfl rfl (by omega) (by omega) kc_210 rfl rfl (Nat.le_of_ble_eq_true rfl) dX11_rankHere_4 (fun z1 M2 hz4 hp3 => ?_)
  obtain ⟨hE5, hb6, hq7, hq8⟩ := hp3
  replace hE5 := hE5.symm
  subst hE5
  refine j_if_eq (tgt := 12) hX dX11_rankHere_7 (by decide) (by omega) (fun hc9 => ?_) (fun hc9 => ?_)
  · skip
    clear hq7
    have hi10 := hq8 (by omega)
    clear hq8
    refine j_aload_n hX dX11_rankHere_12 rfl 0 rfl ?_
    refine j_ldc2 hX (in_6 207 (by first | rfl | decide +kernel) rfl) dX11_rankHere_13 ?_
    refine j_callVI hX lk_X11_259 (c_X11_isWord _ _ _ _ _ _ _ (by omega) hI) (by omega) hce rfl rfl (by omega) (by omega) kc_210 rfl rfl (Nat.le_of_ble_eq_true rfl) dX11_rankHere_16 (fun z11 M12 hz14 hp13 => ?_)
    obtain ⟨hE15, hb16, hq17, hq18⟩ := hp13
    replace hE15 := hE15.symm
    subst hE15
    refine j_if_eq (tgt := 24) hX dX11_rankHere_19 (by decide) (by omega) (fun hc19 => ?_) (fun hc19 => ?_)
    · skip
      clear hq17
      have hi20 := hq18 (by omega)
      clear hq18
      refine j_aload_n hX dX11_rankHere_24 rfl 0 rfl ?_
      refine j_bipush hX dX11_rankHere_25 rfl ?_
      refine j_callVI hX lk_X11_311 (c_X11_isSignHere _ _ _ _ _ _ _ (by omega) hI (by omega)) (by omega) hce rfl rfl (by omega) (by omega) kc_210 rfl rfl (Nat.le_of_ble_eq_true rfl) dX11_rankHere_27 (fun z21 M22 hz24 hp23 => ?_)
      obtain ⟨hE25, hb26, hq27, hq28⟩ := hp23
      replace hE25 := hE25.symm
      subst hE25
      refine j_if_ne (tgt := 51) hX dX11_rankHere_30 (by decide) (by omega) (fun hc29 => ?_) (fun hc29 => ?_)
      · skip
        have hi30 := hq27 (by omega)
        clear hq27
        have hi31 := hq28 (by omega)
        clear hq28
        refine j_iconst hX dX11_rankHere_51 ?_
        exact hret _ _ _ _ dX11_rankHere_52 rfl (by omega) ⟨rfl, by first | assumption | omega, fun h => by omega, by first | exact fun h => absurd rfl h | exact fun _ => by omega, by first | (intro h; exfalso; omega) | (intro h; omega)⟩
      · skip
        clear hq27
        clear hq28
        refine j_aload_n hX dX11_rankHere_33 rfl 0 rfl ?_
        refine j_bipush hX dX11_rankHere_34 rfl ?_
        refine j_callVI hX lk_X11_311 (c_X11_isSignHere _ _ _ _ _ _ _ (by omega) hI (by omega)) (by omega) hce rfl rfl (by omega) (by omega) kc_210 rfl rfl (Nat.le_of_ble_eq_true rfl) dX11_rankHere_36 (fun z32 M33 hz35 hp34 => ?_)
        obtain ⟨hE36, hb37, hq38, hq39⟩ := hp34
        replace hE36 := hE36.symm
        subst hE36
        refine j_if_ne (tgt := 51) hX dX11_rankHere_39 (by decide) (by omega) (fun hc40 => ?_) (fun hc40 => ?_)
        · skip
          have hi41 := hq38 (by omega)
          clear hq38
          have hi42 := hq39 (by omega)
          clear hq39
          refine j_iconst hX dX11_rankHere_51 ?_
          exact hret _ _ _ _ dX11_rankHere_52 rfl (by omega) ⟨rfl, by first | assumption | omega, fun h => by omega, by first | exact fun h => absurd rfl h | exact fun _ => by omega, by first | (intro h; exfalso; omega) | (intro h; omega)⟩
        · skip
          clear hq38
          clear hq39
          refine j_aload_n hX dX11_rankHere_42 rfl 0 rfl ?_
          refine j_bipush hX dX11_rankHere_43 rfl ?_
          refine j_callVI hX lk_X11_311 (c_X11_isSignHere _ _ _ _ _ _ _ (by omega) hI (by omega)) (by omega) hce rfl rfl (by omega) (by omega) kc_210 rfl rfl (Nat.le_of_ble_eq_true rfl) dX11_rankHere_45 (fun z43 M44 hz46 hp45 => ?_)
          obtain ⟨hE47, hb48, hq49, hq50⟩ := hp45
          replace hE47 := hE47.symm
          subst hE47
          refine j_if_eq (tgt := 53) hX dX11_rankHere_48 (by decide) (by omega) (fun hc51 => ?_) (fun hc51 => ?_)
          · skip
            clear hq49
            clear hq50
            refine j_aload_n hX dX11_rankHere_53 rfl 0 rfl ?_
            refine j_bipush hX dX11_rankHere_54 rfl ?_
            refine j_callVI hX lk_X11_311 (c_X11_isSignHere _ _ _ _ _ _ _ (by omega) hI (by omega)) (by omega) hce rfl rfl (by omega) (by omega) kc_210 rfl rfl (Nat.le_of_ble_eq_true rfl) dX11_rankHere_56 (fun z52 M53 hz55 hp54 => ?_)
            obtain ⟨hE56, hb57, hq58, hq59⟩ := hp54
            replace hE56 := hE56.symm
            subst hE56
            refine j_if_ne (tgt := 71) hX dX11_rankHere_59 (by decide) (by omega) (fun hc60 => ?_) (fun hc60 => ?_)
            · skip
              have hi61 := hq58 (by omega)
              clear hq58
              have hi62 := hq59 (by omega)
              clear hq59
              refine j_iconst hX dX11_rankHere_71 ?_
              exact hret _ _ _ _ dX11_rankHere_72 rfl (by omega) ⟨rfl, by first | assumption | omega, fun h => by omega, by first | exact fun h => absurd rfl h | exact fun _ => by omega, by first | (intro h; exfalso; omega) | (intro h; omega)⟩
            · skip
              clear hq58
              clear hq59
              refine j_aload_n hX dX11_rankHere_62 rfl 0 rfl ?_
              refine j_bipush hX dX11_rankHere_63 rfl ?_
              refine j_callVI hX lk_X11_311 (c_X11_isSignHere _ _ _ _ _ _ _ (by omega) hI (by omega)) (by omega) hce rfl rfl (by omega) (by omega) kc_210 rfl rfl (Nat.le_of_ble_eq_true rfl) dX11_rankHere_65 (fun z63 M64 hz66 hp65 => ?_)
              obtain ⟨hE67, hb68, hq69, hq70⟩ := hp65
              replace hE67 := hE67.symm
              subst hE67
              refine j_if_eq (tgt := 73) hX dX11_rankHere_68 (by decide) (by omega) (fun hc71 => ?_) (fun hc71 => ?_)
              · skip
                clear hq69
                clear hq70
                refine j_aload_n hX dX11_rankHere_73 rfl 0 rfl ?_
                refine j_bipush hX dX11_rankHere_74 rfl ?_
                refine j_callVI hX lk_X11_311 (c_X11_isSignHere _ _ _ _ _ _ _ (by omega) hI (by omega)) (by omega) hce rfl rfl (by omega) (by omega) kc_210 rfl rfl (Nat.le_of_ble_eq_true rfl) dX11_rankHere_76 (fun z72 M73 hz75 hp74 => ?_)
                obtain ⟨hE76, hb77, hq78, hq79⟩ := hp74
                replace hE76 := hE76.symm
                subst hE76
                refine j_if_ne (tgt := 100) hX dX11_rankHere_79 (by decide) (by omega) (fun hc80 => ?_) (fun hc80 => ?_)
                · skip
                  have hi81 := hq78 (by omega)
                  clear hq78
                  have hi82 := hq79 (by omega)
                  clear hq79
                  refine j_bipush hX dX11_rankHere_100 rfl ?_
                  refine j_goto (tgt := 106) hX dX11_rankHere_102 (by decide) ?_
                  exact hret _ _ _ _ dX11_rankHere_106 rfl (by omega) ⟨rfl, by first | assumption | omega, fun h => by omega, by first | exact fun h => absurd rfl h | exact fun _ => by omega, by first | (intro h; exfalso; omega) | (intro h; omega)⟩
                · skip
                  clear hq78
                  clear hq79
                  refine j_aload_n hX dX11_rankHere_82 rfl 0 rfl ?_
                  refine j_bipush hX dX11_rankHere_83 rfl ?_
                  refine j_callVI hX lk_X11_311 (c_X11_isSignHere _ _ _ _ _ _ _ (by omega) hI (by omega)) (by omega) hce rfl rfl (by omega) (by omega) kc_210 rfl rfl (Nat.le_of_ble_eq_true rfl) dX11_rankHere_85 (fun z83 M84 hz86 hp85 => ?_)
                  obtain ⟨hE87, hb88, hq89, hq90⟩ := hp85
                  replace hE87 := hE87.symm
                  subst hE87
                  refine j_if_ne (tgt := 100) hX dX11_rankHere_88 (by decide) (by omega) (fun hc91 => ?_) (fun hc91 => ?_)
                  · skip
                    have hi92 := hq89 (by omega)
                    clear hq89
                    have hi93 := hq90 (by omega)
                    clear hq90
                    refine j_bipush hX dX11_rankHere_100 rfl ?_
                    refine j_goto (tgt := 106) hX dX11_rankHere_102 (by decide) ?_
                    exact hret _ _ _ _ dX11_rankHere_106 rfl (by omega) ⟨rfl, by first | assumption | omega, fun h => by omega, by first | exact fun h => absurd rfl h | exact fun _ => by omega, by first | (intro h; exfalso; omega) | (intro h; omega)⟩
                  · skip
                    clear hq89
                    clear hq90
                    refine j_aload_n hX dX11_rankHere_91 rfl 0 rfl ?_
                    refine j_bipush hX dX11_rankHere_92 rfl ?_
                    refine j_callVI hX lk_X11_311 (c_X11_isSignHere _ _ _ _ _ _ _ (by omega) hI (by omega)) (by omega) hce rfl rfl (by omega) (by omega) kc_210 rfl rfl (Nat.le_of_ble_eq_true rfl) dX11_rankHere_94 (fun z94 M95 hz97 hp96 => ?_)
                    obtain ⟨hE98, hb99, hq100, hq101⟩ := hp96
                    replace hE98 := hE98.symm
                    subst hE98
                    refine j_if_eq (tgt := 105) hX dX11_rankHere_97 (by decide) (by omega) (fun hc102 => ?_) (fun hc102 => ?_)
                    · skip
                      clear hq100
                      clear hq101
                      refine j_iconst hX dX11_rankHere_105 ?_
                      exact hret _ _ _ _ dX11_rankHere_106 rfl (by omega) ⟨rfl, by first | assumption | omega, fun h => by omega, by first | exact fun h => absurd rfl h | exact fun _ => by omega, by first | (intro h; exfalso; omega) | (intro h; omega)⟩
                    · skip
                      have hi103 := hq100 (by omega)
                      clear hq100
                      have hi104 := hq101 (by omega)
                      clear hq101
                      refine j_bipush hX dX11_rankHere_100 rfl ?_
                      refine j_goto (tgt := 106) hX dX11_rankHere_102 (by decide) ?_
                      exact hret _ _ _ _ dX11_rankHere_106 rfl (by omega) ⟨rfl, by first | assumption | omega, fun h => by omega, by first | exact fun h => absurd rfl h | exact fun _ => by omega, by first | (intro h; exfalso; omega) | (intro h; omega)⟩
              · skip
                have hi105 := hq69 (by omega)
                clear hq69
                have hi106 := hq70 (by omega)
                clear hq70
                refine j_iconst hX dX11_rankHere_71 ?_
                exact hret _ _ _ _ dX11_rankHere_72 rfl (by omega) ⟨rfl, by first | assumption | omega, fun h => by omega, by first | exact fun h => absurd rfl h | exact fun _ => by omega, by first | (intro h; exfalso; omega) | (intro h; omega)⟩
          · skip
            have hi107 := hq49 (by omega)
            clear hq49
            have hi108 := hq50 (by omega)
            clear hq50
            refine j_iconst hX dX11_rankHere_51 ?_
            exact hret _ _ _ _ dX11_rankHere_52 rfl (by omega) ⟨rfl, by first | assumption | omega, fun h => by omega, by first | exact fun h => absurd rfl h | exact fun _ => by omega, by first | (intro h; exfalso; omega) | (intro h; omega)⟩
    · skip
      have hi109 := hq17 (by omega)
      clear hq17
      clear hq18
      refine j_iconst hX dX11_rankHere_22 ?_
      exact hret _ _ _ _ dX11_rankHere_23 rfl (by omega) ⟨rfl, by first | assumption | omega, fun h => by omega, by first | exact fun h => absurd rfl h | exact fun _ => by omega, by first | (intro h; exfalso; omega) | (intro h; omega)⟩
  · skip
    have hi110 := hq7 (by omega)
    clear hq7
    clear hq8
    refine j_iconst hX dX11_rankHere_10 ?_
    exact hret _ _ _ _ dX11_rankHere_11 rfl (by omega) ⟨rfl, by first | assumption | omega, fun h => by omega, by first | exact fun h => absurd rfl h | exact fun _ => by omega, by first | (intro h; exfalso; omega) | (intro h; omega)⟩
set_option maxHeartbeats 2000000 in
set_option maxRecDepth 20000 in
theorem c_X11_isCompared (l : Launch) (D : va_G) (cy : Nat → ClassId) (B N : Nat) (lo : Int) (M : MM) (hN : 257 ≤ N) (hI : Iv M) (hPS : PS 1 lo M) : CI l D cy B N 1 yX11_isCompared cX11_isCompared 2 (some .boolean) [rv B 210] M (fun z M' => M' = M ∧ (0 ≤ z ∧ z ≤ 1)) := by
  refine mk_CI (by decide) (Nat.le_of_ble_eq_true rfl) ?_
  intro X exl exD excy hnL hX hret
  have hce : 0 + 0 ≤ (xR X).cells ∧ 0 + 0 ≤ (xR X).slots := ⟨Nat.zero_le _, Nat.zero_le _⟩
  have hf0 := hPS.1.2.1
  have hp1 := hPS.1.1
  have cp : ∀ n : Nat, (∀ (x1 : Int), I32 x1 → (0 ≤ x1 ∧ x1 ≤ 89) → 0 ≤ 32 * (x1) + 1 → 32 * (x1) + 1 < (n : Int) → J X B N 0 0 7 [(0, rv B 210), (1, iv x1)] [] M) := by
    intro n
    induction n with
    | zero => exact by intros; exfalso; omega
    | succ n ih =>
      · intro x1 hxx1 h2 hm0 hm1
        refine j_aload_n hX dX11_isCompared_7 rfl 0 rfl ?_
        refine gf_X11_101 hX (by omega) (by omega) kc_210 (fc_210_37 hI) (by decide) dX11_isCompared_8 ?_
        refine j_iload_n hX dX11_isCompared_11 rfl 1 rfl ?_
        refine j_iald hX (by omega) (by omega) kc_239 (by omega) (by omega) (by omega) dX11_isCompared_12 ?_
        refine j_name hI (ra_239 _) (fun v1 hv2 hl3 hh4 => ?_)
        refine j_iconst hX dX11_isCompared_13 ?_
        refine j_icmp_eq (tgt := 28) hX dX11_isCompared_14 (by decide) (by omega) (by omega) (fun hc5 => ?_) (fun hc5 => ?_)
        · skip
          have hx1 : x1 ≠ 0 := fun e => by subst e; omega
          refine j_iinc (lv' := [(1, _), (0, _)]) hX dX11_isCompared_28 1 rfl (by rw [hnL]; decide) rfl ?_
          refine j_goto (tgt := 7) hX dX11_isCompared_31 (by decide) ?_
          refine j_sub [1, 0] rfl ?_
          exact ih _ (by omega) (by first | assumption | omega) (by omega) (by omega)
        · skip
          refine j_aload_n hX dX11_isCompared_17 rfl 0 rfl ?_
          refine gf_X11_101 hX (by omega) (by omega) kc_210 (fc_210_37 hI) (by decide) dX11_isCompared_18 ?_
          refine j_iload_n hX dX11_isCompared_21 rfl 1 rfl ?_
          refine j_iald hX (by omega) (by omega) kc_239 (by omega) (by omega) (by omega) dX11_isCompared_22 ?_
          refine j_name hI (ra_239 _) (fun v6 hv7 hl8 hh9 => ?_)
          refine j_bipush hX dX11_isCompared_23 rfl ?_
          refine j_icmp_ne (tgt := 34) hX dX11_isCompared_25 (by decide) (by omega) (by omega) (fun hc10 => ?_) (fun hc10 => ?_)
          · skip
            refine j_aload_n hX dX11_isCompared_34 rfl 0 rfl ?_
            refine gf_X11_101 hX (by omega) (by omega) kc_210 (fc_210_37 hI) (by decide) dX11_isCompared_35 ?_
            refine j_iload_n hX dX11_isCompared_38 rfl 1 rfl ?_
            refine j_iald hX (by omega) (by omega) kc_239 (by omega) (by omega) (by omega) dX11_isCompared_39 ?_
            refine j_name hI (ra_239 _) (fun v11 hv12 hl13 hh14 => ?_)
            refine j_iconst hX dX11_isCompared_40 ?_
            refine j_icmp_ne (tgt := 48) hX dX11_isCompared_41 (by decide) (by omega) (by omega) (fun hc15 => ?_) (fun hc15 => ?_)
            · skip
              refine j_iconst hX dX11_isCompared_48 ?_
              exact hret _ _ _ _ dX11_isCompared_49 (nb (by omega)) (by omega) ⟨rfl, by omega⟩
            · skip
              refine j_iconst hX dX11_isCompared_44 ?_
              refine j_goto (tgt := 49) hX dX11_isCompared_45 (by decide) ?_
              exact hret _ _ _ _ dX11_isCompared_49 (nb (by omega)) (by omega) ⟨rfl, by omega⟩
          · skip
            have hx1 : x1 ≠ 0 := fun e => by subst e; omega
            refine j_iinc (lv' := [(1, _), (0, _)]) hX dX11_isCompared_28 1 rfl (by rw [hnL]; decide) rfl ?_
            refine j_goto (tgt := 7) hX dX11_isCompared_31 (by decide) ?_
            refine j_sub [1, 0] rfl ?_
            exact ih _ (by omega) (by first | assumption | omega) (by omega) (by omega)
  show J X B N 0 0 0 [(0, rv B 210)] [] M
  refine j_aload_n hX dX11_isCompared_0 rfl 0 rfl ?_
  refine gf_X11_338 hX (by omega) (by omega) kc_210 dX11_isCompared_1 ?_
  refine j_name hI ro_210_44 (fun v16 hv17 hl18 hh19 => ?_)
  have hk20 := hv17.symm
  refine j_iconst hX dX11_isCompared_4 ?_
  refine j_isub hX dX11_isCompared_5 ?_
  refine j_istore_n (lv' := [(1, _), (0, _)]) hX dX11_isCompared_6 rfl (by rw [hnL]; decide) rfl ?_
  refine j_sub [1, 0] rfl ?_
  refine (cp (Int.toNat (2944 + 1))) _ (by omega) (by first | assumption | omega) ?_ ?_
  · omega
  · omega
