theorem dX11_feed_0 : decode cX11_feed 0 = .ok (.aload_n 0, 1) := by decide +kernel
theorem dX11_feed_1 : decode cX11_feed 1 = .ok (.getfield 276, 3) := by decide +kernel
theorem dX11_feed_4 : decode cX11_feed 4 = .ok (.bipush 20, 2) := by decide +kernel
theorem dX11_feed_6 : decode cX11_feed 6 = .ok (.iadd, 1) := by decide +kernel
theorem dX11_feed_7 : decode cX11_feed 7 = .ok (.sipush 1600, 3) := by decide +kernel
theorem dX11_feed_10 : decode cX11_feed 10 = .ok (.if_icmp .le 5, 3) := by decide +kernel
theorem dX11_feed_13 : decode cX11_feed 13 = .ok (.iconst (-1), 1) := by decide +kernel
theorem dX11_feed_14 : decode cX11_feed 14 = .ok (.ireturn, 1) := by decide +kernel
theorem dX11_feed_15 : decode cX11_feed 15 = .ok (.iconst 0, 1) := by decide +kernel
theorem dX11_feed_16 : decode cX11_feed 16 = .ok (.istore 6, 2) := by decide +kernel
theorem dX11_feed_18 : decode cX11_feed 18 = .ok (.iload 6, 2) := by decide +kernel
theorem dX11_feed_20 : decode cX11_feed 20 = .ok (.bipush 20, 2) := by decide +kernel
theorem dX11_feed_22 : decode cX11_feed 22 = .ok (.if_icmp .ge 83, 3) := by decide +kernel
theorem dX11_feed_25 : decode cX11_feed 25 = .ok (.iload 6, 2) := by decide +kernel
theorem dX11_feed_27 : decode cX11_feed 27 = .ok (.iconst 4, 1) := by decide +kernel
theorem dX11_feed_28 : decode cX11_feed 28 = .ok (.if_icmp .ge 7, 3) := by decide +kernel
theorem dX11_feed_31 : decode cX11_feed 31 = .ok (.iload_n 1, 1) := by decide +kernel
theorem dX11_feed_32 : decode cX11_feed 32 = .ok (.goto 39, 3) := by decide +kernel
theorem dX11_feed_35 : decode cX11_feed 35 = .ok (.iload 6, 2) := by decide +kernel
theorem dX11_feed_37 : decode cX11_feed 37 = .ok (.bipush 8, 2) := by decide +kernel
theorem dX11_feed_39 : decode cX11_feed 39 = .ok (.if_icmp .ge 7, 3) := by decide +kernel
theorem dX11_feed_42 : decode cX11_feed 42 = .ok (.iload_n 2, 1) := by decide +kernel
theorem dX11_feed_43 : decode cX11_feed 43 = .ok (.goto 28, 3) := by decide +kernel
theorem dX11_feed_46 : decode cX11_feed 46 = .ok (.iload 6, 2) := by decide +kernel
theorem dX11_feed_48 : decode cX11_feed 48 = .ok (.bipush 12, 2) := by decide +kernel
theorem dX11_feed_50 : decode cX11_feed 50 = .ok (.if_icmp .ge 7, 3) := by decide +kernel
theorem dX11_feed_53 : decode cX11_feed 53 = .ok (.iload_n 3, 1) := by decide +kernel
theorem dX11_feed_54 : decode cX11_feed 54 = .ok (.goto 17, 3) := by decide +kernel
theorem dX11_feed_57 : decode cX11_feed 57 = .ok (.iload 6, 2) := by decide +kernel
theorem dX11_feed_59 : decode cX11_feed 59 = .ok (.bipush 16, 2) := by decide +kernel
theorem dX11_feed_61 : decode cX11_feed 61 = .ok (.if_icmp .ge 8, 3) := by decide +kernel
theorem dX11_feed_64 : decode cX11_feed 64 = .ok (.iload 4, 2) := by decide +kernel
theorem dX11_feed_66 : decode cX11_feed 66 = .ok (.goto 5, 3) := by decide +kernel
theorem dX11_feed_69 : decode cX11_feed 69 = .ok (.iload 5, 2) := by decide +kernel
theorem dX11_feed_71 : decode cX11_feed 71 = .ok (.istore 7, 2) := by decide +kernel
theorem dX11_feed_73 : decode cX11_feed 73 = .ok (.aload_n 0, 1) := by decide +kernel
theorem dX11_feed_74 : decode cX11_feed 74 = .ok (.getfield 7, 3) := by decide +kernel
theorem dX11_feed_77 : decode cX11_feed 77 = .ok (.aload_n 0, 1) := by decide +kernel
theorem dX11_feed_78 : decode cX11_feed 78 = .ok (.getfield 276, 3) := by decide +kernel
theorem dX11_feed_81 : decode cX11_feed 81 = .ok (.iload 6, 2) := by decide +kernel
theorem dX11_feed_83 : decode cX11_feed 83 = .ok (.iadd, 1) := by decide +kernel
theorem dX11_feed_84 : decode cX11_feed 84 = .ok (.iload 7, 2) := by decide +kernel
theorem dX11_feed_86 : decode cX11_feed 86 = .ok (.bipush 24, 2) := by decide +kernel
theorem dX11_feed_88 : decode cX11_feed 88 = .ok (.bipush 8, 2) := by decide +kernel
theorem dX11_feed_90 : decode cX11_feed 90 = .ok (.iload 6, 2) := by decide +kernel
theorem dX11_feed_92 : decode cX11_feed 92 = .ok (.iconst 3, 1) := by decide +kernel
theorem dX11_feed_93 : decode cX11_feed 93 = .ok (.iand, 1) := by decide +kernel
theorem dX11_feed_94 : decode cX11_feed 94 = .ok (.imul, 1) := by decide +kernel
theorem dX11_feed_95 : decode cX11_feed 95 = .ok (.isub, 1) := by decide +kernel
theorem dX11_feed_96 : decode cX11_feed 96 = .ok (.ishr, 1) := by decide +kernel
theorem dX11_feed_97 : decode cX11_feed 97 = .ok (.i2b, 1) := by decide +kernel
theorem dX11_feed_98 : decode cX11_feed 98 = .ok (.bastore, 1) := by decide +kernel
theorem dX11_feed_99 : decode cX11_feed 99 = .ok (.iinc 6 1, 3) := by decide +kernel
theorem dX11_feed_102 : decode cX11_feed 102 = .ok (.goto (-84), 3) := by decide +kernel
theorem dX11_feed_105 : decode cX11_feed 105 = .ok (.aload_n 0, 1) := by decide +kernel
theorem dX11_feed_106 : decode cX11_feed 106 = .ok (.dup, 1) := by decide +kernel
theorem dX11_feed_107 : decode cX11_feed 107 = .ok (.getfield 276, 3) := by decide +kernel
theorem dX11_feed_110 : decode cX11_feed 110 = .ok (.bipush 20, 2) := by decide +kernel
theorem dX11_feed_112 : decode cX11_feed 112 = .ok (.iadd, 1) := by decide +kernel
theorem dX11_feed_113 : decode cX11_feed 113 = .ok (.putfield 276, 3) := by decide +kernel
theorem dX11_feed_116 : decode cX11_feed 116 = .ok (.aload_n 0, 1) := by decide +kernel
theorem dX11_feed_117 : decode cX11_feed 117 = .ok (.getfield 276, 3) := by decide +kernel
theorem dX11_feed_120 : decode cX11_feed 120 = .ok (.ireturn, 1) := by decide +kernel
theorem dX11_end_0 : decode cX11_end 0 = .ok (.iload_n 1, 1) := by decide +kernel
theorem dX11_end_1 : decode cX11_end 1 = .ok (.ifCond .lt 11, 3) := by decide +kernel
theorem dX11_end_4 : decode cX11_end 4 = .ok (.iload_n 1, 1) := by decide +kernel
theorem dX11_end_5 : decode cX11_end 5 = .ok (.aload_n 0, 1) := by decide +kernel
theorem dX11_end_6 : decode cX11_end 6 = .ok (.getfield 276, 3) := by decide +kernel
theorem dX11_end_9 : decode cX11_end 9 = .ok (.if_icmp .le 5, 3) := by decide +kernel
theorem dX11_end_12 : decode cX11_end 12 = .ok (.iconst (-1), 1) := by decide +kernel
theorem dX11_end_13 : decode cX11_end 13 = .ok (.ireturn, 1) := by decide +kernel
theorem dX11_end_14 : decode cX11_end 14 = .ok (.aload_n 0, 1) := by decide +kernel
theorem dX11_end_15 : decode cX11_end 15 = .ok (.iload_n 1, 1) := by decide +kernel
theorem dX11_end_16 : decode cX11_end 16 = .ok (.putfield 276, 3) := by decide +kernel
theorem dX11_end_19 : decode cX11_end 19 = .ok (.iload_n 1, 1) := by decide +kernel
theorem dX11_end_20 : decode cX11_end 20 = .ok (.ireturn, 1) := by decide +kernel
theorem dX11_glimpse_0 : decode cX11_glimpse 0 = .ok (.aload_n 0, 1) := by decide +kernel
theorem dX11_glimpse_1 : decode cX11_glimpse 1 = .ok (.iload_n 1, 1) := by decide +kernel
theorem dX11_glimpse_2 : decode cX11_glimpse 2 = .ok (.invokevirtual 419, 3) := by decide +kernel
theorem dX11_glimpse_5 : decode cX11_glimpse 5 = .ok (.ifCond .eq 20, 3) := by decide +kernel
theorem dX11_glimpse_8 : decode cX11_glimpse 8 = .ok (.aload_n 0, 1) := by decide +kernel
theorem dX11_glimpse_9 : decode cX11_glimpse 9 = .ok (.iload_n 2, 1) := by decide +kernel
theorem dX11_glimpse_10 : decode cX11_glimpse 10 = .ok (.invokevirtual 419, 3) := by decide +kernel
theorem dX11_glimpse_13 : decode cX11_glimpse 13 = .ok (.ifCond .eq 12, 3) := by decide +kernel
theorem dX11_glimpse_16 : decode cX11_glimpse 16 = .ok (.aload_n 0, 1) := by decide +kernel
theorem dX11_glimpse_17 : decode cX11_glimpse 17 = .ok (.getfield 401, 3) := by decide +kernel
theorem dX11_glimpse_20 : decode cX11_glimpse 20 = .ok (.bipush 30, 2) := by decide +kernel
theorem dX11_glimpse_22 : decode cX11_glimpse 22 = .ok (.if_icmp .ne 5, 3) := by decide +kernel
theorem dX11_glimpse_25 : decode cX11_glimpse 25 = .ok (.iconst (-1), 1) := by decide +kernel
theorem dX11_glimpse_26 : decode cX11_glimpse 26 = .ok (.ireturn, 1) := by decide +kernel
theorem dX11_glimpse_27 : decode cX11_glimpse 27 = .ok (.aload_n 0, 1) := by decide +kernel
theorem dX11_glimpse_28 : decode cX11_glimpse 28 = .ok (.getfield 131, 3) := by decide +kernel
theorem dX11_glimpse_31 : decode cX11_glimpse 31 = .ok (.aload_n 0, 1) := by decide +kernel
theorem dX11_glimpse_32 : decode cX11_glimpse 32 = .ok (.getfield 401, 3) := by decide +kernel
theorem dX11_glimpse_35 : decode cX11_glimpse 35 = .ok (.iload_n 1, 1) := by decide +kernel
theorem dX11_glimpse_36 : decode cX11_glimpse 36 = .ok (.iastore, 1) := by decide +kernel
theorem dX11_glimpse_37 : decode cX11_glimpse 37 = .ok (.aload_n 0, 1) := by decide +kernel
theorem dX11_glimpse_38 : decode cX11_glimpse 38 = .ok (.getfield 134, 3) := by decide +kernel
theorem dX11_glimpse_41 : decode cX11_glimpse 41 = .ok (.aload_n 0, 1) := by decide +kernel
theorem dX11_glimpse_42 : decode cX11_glimpse 42 = .ok (.getfield 401, 3) := by decide +kernel
theorem dX11_glimpse_45 : decode cX11_glimpse 45 = .ok (.iload_n 2, 1) := by decide +kernel
theorem dX11_glimpse_46 : decode cX11_glimpse 46 = .ok (.iastore, 1) := by decide +kernel
theorem dX11_glimpse_47 : decode cX11_glimpse 47 = .ok (.aload_n 0, 1) := by decide +kernel
theorem dX11_glimpse_48 : decode cX11_glimpse 48 = .ok (.getfield 137, 3) := by decide +kernel
theorem dX11_glimpse_51 : decode cX11_glimpse 51 = .ok (.aload_n 0, 1) := by decide +kernel
theorem dX11_glimpse_52 : decode cX11_glimpse 52 = .ok (.getfield 401, 3) := by decide +kernel
theorem dX11_glimpse_55 : decode cX11_glimpse 55 = .ok (.iload_n 3, 1) := by decide +kernel
theorem dX11_glimpse_56 : decode cX11_glimpse 56 = .ok (.ifCond .eq 7, 3) := by decide +kernel
theorem dX11_glimpse_59 : decode cX11_glimpse 59 = .ok (.iconst 1, 1) := by decide +kernel
theorem dX11_glimpse_60 : decode cX11_glimpse 60 = .ok (.goto 4, 3) := by decide +kernel
theorem dX11_glimpse_63 : decode cX11_glimpse 63 = .ok (.iconst 0, 1) := by decide +kernel
theorem dX11_glimpse_64 : decode cX11_glimpse 64 = .ok (.iastore, 1) := by decide +kernel
theorem dX11_glimpse_65 : decode cX11_glimpse 65 = .ok (.aload_n 0, 1) := by decide +kernel
theorem dX11_glimpse_66 : decode cX11_glimpse 66 = .ok (.getfield 140, 3) := by decide +kernel
theorem dX11_glimpse_69 : decode cX11_glimpse 69 = .ok (.aload_n 0, 1) := by decide +kernel
theorem dX11_glimpse_70 : decode cX11_glimpse 70 = .ok (.getfield 401, 3) := by decide +kernel
theorem dX11_glimpse_73 : decode cX11_glimpse 73 = .ok (.aload_n 0, 1) := by decide +kernel
theorem dX11_glimpse_74 : decode cX11_glimpse 74 = .ok (.getfield 489, 3) := by decide +kernel
theorem dX11_glimpse_77 : decode cX11_glimpse 77 = .ok (.iastore, 1) := by decide +kernel
theorem dX11_glimpse_78 : decode cX11_glimpse 78 = .ok (.aload_n 0, 1) := by decide +kernel
theorem dX11_glimpse_79 : decode cX11_glimpse 79 = .ok (.getfield 143, 3) := by decide +kernel
theorem dX11_glimpse_82 : decode cX11_glimpse 82 = .ok (.aload_n 0, 1) := by decide +kernel
theorem dX11_glimpse_83 : decode cX11_glimpse 83 = .ok (.getfield 401, 3) := by decide +kernel
theorem dX11_glimpse_86 : decode cX11_glimpse 86 = .ok (.iconst (-1), 1) := by decide +kernel
theorem dX11_glimpse_87 : decode cX11_glimpse 87 = .ok (.iastore, 1) := by decide +kernel
theorem dX11_glimpse_88 : decode cX11_glimpse 88 = .ok (.aload_n 0, 1) := by decide +kernel
theorem dX11_glimpse_89 : decode cX11_glimpse 89 = .ok (.dup, 1) := by decide +kernel
theorem dX11_glimpse_90 : decode cX11_glimpse 90 = .ok (.getfield 401, 3) := by decide +kernel
theorem dX11_glimpse_93 : decode cX11_glimpse 93 = .ok (.iconst 1, 1) := by decide +kernel
theorem dX11_glimpse_94 : decode cX11_glimpse 94 = .ok (.iadd, 1) := by decide +kernel
theorem dX11_glimpse_95 : decode cX11_glimpse 95 = .ok (.putfield 401, 3) := by decide +kernel
theorem dX11_glimpse_98 : decode cX11_glimpse 98 = .ok (.aload_n 0, 1) := by decide +kernel
theorem dX11_glimpse_99 : decode cX11_glimpse 99 = .ok (.getfield 401, 3) := by decide +kernel
theorem dX11_glimpse_102 : decode cX11_glimpse 102 = .ok (.iconst 1, 1) := by decide +kernel
theorem dX11_glimpse_103 : decode cX11_glimpse 103 = .ok (.isub, 1) := by decide +kernel
theorem dX11_glimpse_104 : decode cX11_glimpse 104 = .ok (.ireturn, 1) := by decide +kernel
theorem dX11_untell_0 : decode cX11_untell 0 = .ok (.iload_n 1, 1) := by decide +kernel
theorem dX11_untell_1 : decode cX11_untell 1 = .ok (.iconst 0, 1) := by decide +kernel
theorem dX11_untell_2 : decode cX11_untell 2 = .ok (.aload_n 0, 1) := by decide +kernel
theorem dX11_untell_3 : decode cX11_untell 3 = .ok (.getfield 401, 3) := by decide +kernel
theorem dX11_untell_6 : decode cX11_untell 6 = .ok (.iconst 1, 1) := by decide +kernel
theorem dX11_untell_7 : decode cX11_untell 7 = .ok (.isub, 1) := by decide +kernel
theorem dX11_untell_8 : decode cX11_untell 8 = .ok (.invokestatic 388, 3) := by decide +kernel
theorem dX11_untell_11 : decode cX11_untell 11 = .ok (.ifCond .eq 12, 3) := by decide +kernel
theorem dX11_untell_14 : decode cX11_untell 14 = .ok (.aload_n 0, 1) := by decide +kernel
theorem dX11_untell_15 : decode cX11_untell 15 = .ok (.getfield 143, 3) := by decide +kernel
theorem dX11_untell_18 : decode cX11_untell 18 = .ok (.iload_n 1, 1) := by decide +kernel
theorem dX11_untell_19 : decode cX11_untell 19 = .ok (.iaload, 1) := by decide +kernel
theorem dX11_untell_20 : decode cX11_untell 20 = .ok (.ifCond .lt 5, 3) := by decide +kernel
theorem dX11_untell_23 : decode cX11_untell 23 = .ok (.iconst 0, 1) := by decide +kernel
theorem dX11_untell_24 : decode cX11_untell 24 = .ok (.ireturn, 1) := by decide +kernel
theorem dX11_untell_25 : decode cX11_untell 25 = .ok (.aload_n 0, 1) := by decide +kernel
theorem dX11_untell_26 : decode cX11_untell 26 = .ok (.getfield 143, 3) := by decide +kernel
theorem dX11_untell_29 : decode cX11_untell 29 = .ok (.iload_n 1, 1) := by decide +kernel
theorem dX11_untell_30 : decode cX11_untell 30 = .ok (.aload_n 0, 1) := by decide +kernel
theorem dX11_untell_31 : decode cX11_untell 31 = .ok (.getfield 489, 3) := by decide +kernel
theorem dX11_untell_34 : decode cX11_untell 34 = .ok (.iastore, 1) := by decide +kernel
theorem dX11_untell_35 : decode cX11_untell 35 = .ok (.iconst 1, 1) := by decide +kernel
theorem dX11_untell_36 : decode cX11_untell 36 = .ok (.ireturn, 1) := by decide +kernel
theorem dX11_later_0 : decode cX11_later 0 = .ok (.iload_n 1, 1) := by decide +kernel
theorem dX11_later_1 : decode cX11_later 1 = .ok (.iconst 0, 1) := by decide +kernel
theorem dX11_later_2 : decode cX11_later 2 = .ok (.sipush 1000, 3) := by decide +kernel
theorem dX11_later_5 : decode cX11_later 5 = .ok (.invokestatic 388, 3) := by decide +kernel
theorem dX11_later_8 : decode cX11_later 8 = .ok (.ifCond .eq 15, 3) := by decide +kernel
theorem dX11_later_11 : decode cX11_later 11 = .ok (.aload_n 0, 1) := by decide +kernel
theorem dX11_later_12 : decode cX11_later 12 = .ok (.getfield 489, 3) := by decide +kernel
theorem dX11_later_15 : decode cX11_later 15 = .ok (.iload_n 1, 1) := by decide +kernel
theorem dX11_later_16 : decode cX11_later 16 = .ok (.iadd, 1) := by decide +kernel
theorem dX11_later_17 : decode cX11_later 17 = .ok (.ldc_w 492, 3) := by decide +kernel
theorem dX11_later_20 : decode cX11_later 20 = .ok (.if_icmp .le 5, 3) := by decide +kernel
theorem dX11_later_23 : decode cX11_later 23 = .ok (.iconst (-1), 1) := by decide +kernel
theorem dX11_later_24 : decode cX11_later 24 = .ok (.ireturn, 1) := by decide +kernel
theorem dX11_later_25 : decode cX11_later 25 = .ok (.aload_n 0, 1) := by decide +kernel
theorem dX11_later_26 : decode cX11_later 26 = .ok (.dup, 1) := by decide +kernel
theorem dX11_later_27 : decode cX11_later 27 = .ok (.getfield 489, 3) := by decide +kernel
theorem dX11_later_30 : decode cX11_later 30 = .ok (.iload_n 1, 1) := by decide +kernel
theorem dX11_later_31 : decode cX11_later 31 = .ok (.iadd, 1) := by decide +kernel
theorem dX11_later_32 : decode cX11_later 32 = .ok (.putfield 489, 3) := by decide +kernel
theorem dX11_later_35 : decode cX11_later 35 = .ok (.aload_n 0, 1) := by decide +kernel
theorem dX11_later_36 : decode cX11_later 36 = .ok (.getfield 489, 3) := by decide +kernel
theorem dX11_later_39 : decode cX11_later 39 = .ok (.ireturn, 1) := by decide +kernel
set_option maxHeartbeats 2000000 in
set_option maxRecDepth 20000 in
theorem c_X11_feed (l : Launch) (D : va_G) (cy : Nat → ClassId) (B N : Nat) (a : Int) (b : Int) (c : Int) (d : Int) (e : Int) (M : MM) (hN : 257 ≤ N) (hI : Iv M) (hpa : I32 a) (hpb : I32 b) (hpc : I32 c) (hpd : I32 d) (hpe : I32 e) : CI l D cy B N 1 yX11_feed cX11_feed 8 (some .int) [rv B 210, iv a, iv b, iv c, iv d, iv e] M (fun z M' => Iv M' ∧ Fr (fun a b => (a = 210 ∧ 2 ≤ b ∧ b ≤ 2) ∨ (a = 211)) M M') := by
  refine mk_CI (by decide) (Nat.le_of_ble_eq_true rfl) ?_
  intro X exl exD excy hnL hX hret
  have hce : 0 + 0 ≤ (xR X).cells ∧ 0 + 0 ≤ (xR X).slots := ⟨Nat.zero_le _, Nat.zero_le _⟩
  have hF : Fr (fun a b => (a = 210 ∧ 2 ≤ b ∧ b ≤ 2) ∨ (a = 211)) M M := Fr.rf
  have cp : ∀ n : Nat, (∀ (x6 : Int), ∀ (tp : Int), ∀ (Mc : MM), I32 x6 → Iv Mc → Fr (fun a b => (a = 210 ∧ 2 ≤ b ∧ b ≤ 2) ∨ (a = 211)) M Mc → Mc.1 210 2 = tp → (0 ≤ x6 ∧ x6 ≤ 20 ∧ 0 ≤ tp ∧ tp ≤ 1580) → 0 ≤ 32 * (20 - x6) + 1 → 32 * (20 - x6) + 1 < (n : Int) → J X B N 0 0 18 [(0, rv B 210), (1, iv a), (2, iv b), (3, iv c), (4, iv d), (5, iv e), (6, iv x6)] [] Mc) := by
    intro n
    induction n with
    | zero => exact by intros; exfalso; omega
    | succ n ih =>
      · intro x6 tp Mc hxx6 hI hF hk_0 h2 hm0 hm1
        refine j_iload hX dX11_feed_18 6 rfl ?_
        refine j_bipush hX dX11_feed_20 rfl ?_
        refine j_icmp_ge (tgt := 105) hX dX11_feed_22 (by decide) (by omega) (by omega) (fun hc1 => ?_) (fun hc1 => ?_)
        · skip
          refine j_aload_n hX dX11_feed_105 rfl 0 rfl ?_
          refine j_dup hX dX11_feed_106 rfl ?_
          refine gf_X11_276 hX (by omega) (by omega) kc_210 dX11_feed_107 ?_
          refine j_top hk_0 ?_
          refine j_bipush hX dX11_feed_110 rfl ?_
          refine j_iadd hX dX11_feed_112 ?_
          refine pf_X11_276 hX (by omega) (by omega) kc_210 (by omega) dX11_feed_113 ?_
          refine j_up hI ro_210_2 (by omega) (by omega) (Or.inl (by omega)) (fun M2 w3 hw4 hM5 hI6 hf7 => ?_)
          have hF8 := Fr.put hF hM5 (by omega)
          refine j_aload_n hX dX11_feed_116 rfl 0 rfl ?_
          refine gf_X11_276 hX (by omega) (by omega) kc_210 dX11_feed_117 ?_
          refine j_top hf7 ?_
          exact hret _ _ _ _ dX11_feed_120 rfl (by omega) ⟨hI6, hF8⟩
        · skip
          refine j_iload hX dX11_feed_25 6 rfl ?_
          refine j_iconst hX dX11_feed_27 ?_
          refine j_icmp_ge (tgt := 35) hX dX11_feed_28 (by decide) (by omega) (by omega) (fun hc9 => ?_) (fun hc9 => ?_)
          · skip
            refine j_iload hX dX11_feed_35 6 rfl ?_
            refine j_bipush hX dX11_feed_37 rfl ?_
            refine j_icmp_ge (tgt := 46) hX dX11_feed_39 (by decide) (by omega) (by omega) (fun hc10 => ?_) (fun hc10 => ?_)
            · skip
              refine j_iload hX dX11_feed_46 6 rfl ?_
              refine j_bipush hX dX11_feed_48 rfl ?_
              refine j_icmp_ge (tgt := 57) hX dX11_feed_50 (by decide) (by omega) (by omega) (fun hc11 => ?_) (fun hc11 => ?_)
              · skip
                refine j_iload hX dX11_feed_57 6 rfl ?_
                refine j_bipush hX dX11_feed_59 rfl ?_
                refine j_icmp_ge (tgt := 69) hX dX11_feed_61 (by decide) (by omega) (by omega) (fun hc12 => ?_) (fun hc12 => ?_)
                · skip
                  refine j_iload hX dX11_feed_69 5 rfl ?_
                  refine j_istore (lv' := [(7, _), (0, _), (1, _), (2, _), (3, _), (4, _), (5, _), (6, _)]) hX dX11_feed_71 (by rw [hnL]; decide) rfl ?_
                  refine j_aload_n hX dX11_feed_73 rfl 1 rfl ?_
                  refine gf_X11_7 hX (by omega) (by omega) kc_210 (fc_210_0 hI) (by decide) dX11_feed_74 ?_
                  refine j_aload_n hX dX11_feed_77 rfl 1 rfl ?_
                  refine gf_X11_276 hX (by omega) (by omega) kc_210 dX11_feed_78 ?_
                  refine j_top hk_0 ?_
                  refine j_iload hX dX11_feed_81 7 rfl ?_
                  refine j_iadd hX dX11_feed_83 ?_
                  refine j_iload hX dX11_feed_84 0 rfl ?_
                  refine j_bipush hX dX11_feed_86 rfl ?_
                  refine j_bipush hX dX11_feed_88 rfl ?_
                  refine j_iload hX dX11_feed_90 7 rfl ?_
                  refine j_iconst hX dX11_feed_92 ?_
                  refine j_iand hX dX11_feed_93 (fun z13 hz14 hy15 => ?_)
                  have ha16 := (and_f hz14 (by omega) (by omega)).2 (by omega)
                  refine j_imul hX dX11_feed_94 ?_
                  refine j_isub hX dX11_feed_95 ?_
                  refine j_ishr hX dX11_feed_96 (fun z17 hz18 hy19 => ?_)
                  refine j_i2b hX dX11_feed_97 (fun z20 hz21 hy22 => ?_)
                  refine j_bast hX (by omega) (by omega) kc_211 (by omega) (by omega) (by omega) (by omega) (by omega) dX11_feed_98 ?_
                  refine j_up hI (ra_211 _) (by omega) (by omega) (Or.inl (by omega)) (fun M23 w24 hw25 hM26 hI27 hf28 => ?_)
                  have hk29 := kp_up hM26 (fun h => absurd h.1 (by decide)) hk_0
                  have hF30 := Fr.put hF hM26 (by omega)
                  refine j_iinc (lv' := [(6, _), (7, _), (0, _), (1, _), (2, _), (3, _), (4, _), (5, _)]) hX dX11_feed_99 7 rfl (by rw [hnL]; decide) rfl ?_
                  refine j_goto (tgt := 18) hX dX11_feed_102 (by decide) ?_
                  refine j_sub [2, 3, 4, 5, 6, 7, 0] rfl ?_
                  exact ih _ _ _ (by omega) hI27 hF30 hk29 (by first | assumption | omega) (by omega) (by omega)
                · skip
                  refine j_iload hX dX11_feed_64 4 rfl ?_
                  refine j_goto (tgt := 71) hX dX11_feed_66 (by decide) ?_
                  refine j_istore (lv' := [(7, _), (0, _), (1, _), (2, _), (3, _), (4, _), (5, _), (6, _)]) hX dX11_feed_71 (by rw [hnL]; decide) rfl ?_
                  refine j_aload_n hX dX11_feed_73 rfl 1 rfl ?_
                  refine gf_X11_7 hX (by omega) (by omega) kc_210 (fc_210_0 hI) (by decide) dX11_feed_74 ?_
                  refine j_aload_n hX dX11_feed_77 rfl 1 rfl ?_
                  refine gf_X11_276 hX (by omega) (by omega) kc_210 dX11_feed_78 ?_
                  refine j_top hk_0 ?_
                  refine j_iload hX dX11_feed_81 7 rfl ?_
                  refine j_iadd hX dX11_feed_83 ?_
                  refine j_iload hX dX11_feed_84 0 rfl ?_
                  refine j_bipush hX dX11_feed_86 rfl ?_
                  refine j_bipush hX dX11_feed_88 rfl ?_
                  refine j_iload hX dX11_feed_90 7 rfl ?_
                  refine j_iconst hX dX11_feed_92 ?_
                  refine j_iand hX dX11_feed_93 (fun z31 hz32 hy33 => ?_)
                  have ha34 := (and_f hz32 (by omega) (by omega)).2 (by omega)
                  refine j_imul hX dX11_feed_94 ?_
                  refine j_isub hX dX11_feed_95 ?_
                  refine j_ishr hX dX11_feed_96 (fun z35 hz36 hy37 => ?_)
                  refine j_i2b hX dX11_feed_97 (fun z38 hz39 hy40 => ?_)
                  refine j_bast hX (by omega) (by omega) kc_211 (by omega) (by omega) (by omega) (by omega) (by omega) dX11_feed_98 ?_
                  refine j_up hI (ra_211 _) (by omega) (by omega) (Or.inl (by omega)) (fun M41 w42 hw43 hM44 hI45 hf46 => ?_)
                  have hk47 := kp_up hM44 (fun h => absurd h.1 (by decide)) hk_0
                  have hF48 := Fr.put hF hM44 (by omega)
                  refine j_iinc (lv' := [(6, _), (7, _), (0, _), (1, _), (2, _), (3, _), (4, _), (5, _)]) hX dX11_feed_99 7 rfl (by rw [hnL]; decide) rfl ?_
                  refine j_goto (tgt := 18) hX dX11_feed_102 (by decide) ?_
                  refine j_sub [2, 3, 4, 5, 6, 7, 0] rfl ?_
                  exact ih _ _ _ (by omega) hI45 hF48 hk47 (by first | assumption | omega) (by omega) (by omega)
              · skip
                refine j_iload_n hX dX11_feed_53 rfl 3 rfl ?_
                refine j_goto (tgt := 71) hX dX11_feed_54 (by decide) ?_
                refine j_istore (lv' := [(7, _), (0, _), (1, _), (2, _), (3, _), (4, _), (5, _), (6, _)]) hX dX11_feed_71 (by rw [hnL]; decide) rfl ?_
                refine j_aload_n hX dX11_feed_73 rfl 1 rfl ?_
                refine gf_X11_7 hX (by omega) (by omega) kc_210 (fc_210_0 hI) (by decide) dX11_feed_74 ?_
                refine j_aload_n hX dX11_feed_77 rfl 1 rfl ?_
                refine gf_X11_276 hX (by omega) (by omega) kc_210 dX11_feed_78 ?_
                refine j_top hk_0 ?_
                refine j_iload hX dX11_feed_81 7 rfl ?_
                refine j_iadd hX dX11_feed_83 ?_
                refine j_iload hX dX11_feed_84 0 rfl ?_
                refine j_bipush hX dX11_feed_86 rfl ?_
                refine j_bipush hX dX11_feed_88 rfl ?_
                refine j_iload hX dX11_feed_90 7 rfl ?_
                refine j_iconst hX dX11_feed_92 ?_
                refine j_iand hX dX11_feed_93 (fun z49 hz50 hy51 => ?_)
                have ha52 := (and_f hz50 (by omega) (by omega)).2 (by omega)
                refine j_imul hX dX11_feed_94 ?_
                refine j_isub hX dX11_feed_95 ?_
                refine j_ishr hX dX11_feed_96 (fun z53 hz54 hy55 => ?_)
                refine j_i2b hX dX11_feed_97 (fun z56 hz57 hy58 => ?_)
                refine j_bast hX (by omega) (by omega) kc_211 (by omega) (by omega) (by omega) (by omega) (by omega) dX11_feed_98 ?_
                refine j_up hI (ra_211 _) (by omega) (by omega) (Or.inl (by omega)) (fun M59 w60 hw61 hM62 hI63 hf64 => ?_)
                have hk65 := kp_up hM62 (fun h => absurd h.1 (by decide)) hk_0
                have hF66 := Fr.put hF hM62 (by omega)
                refine j_iinc (lv' := [(6, _), (7, _), (0, _), (1, _), (2, _), (3, _), (4, _), (5, _)]) hX dX11_feed_99 7 rfl (by rw [hnL]; decide) rfl ?_
                refine j_goto (tgt := 18) hX dX11_feed_102 (by decide) ?_
                refine j_sub [2, 3, 4, 5, 6, 7, 0] rfl ?_
                exact ih _ _ _ (by omega) hI63 hF66 hk65 (by first | assumption | omega) (by omega) (by omega)
            · skip
              refine j_iload_n hX dX11_feed_42 rfl 2 rfl ?_
              refine j_goto (tgt := 71) hX dX11_feed_43 (by decide) ?_
              refine j_istore (lv' := [(7, _), (0, _), (1, _), (2, _), (3, _), (4, _), (5, _), (6, _)]) hX dX11_feed_71 (by rw [hnL]; decide) rfl ?_
              refine j_aload_n hX dX11_feed_73 rfl 1 rfl ?_
              refine gf_X11_7 hX (by omega) (by omega) kc_210 (fc_210_0 hI) (by decide) dX11_feed_74 ?_
              refine j_aload_n hX dX11_feed_77 rfl 1 rfl ?_
              refine gf_X11_276 hX (by omega) (by omega) kc_210 dX11_feed_78 ?_
              refine j_top hk_0 ?_
              refine j_iload hX dX11_feed_81 7 rfl ?_
              refine j_iadd hX dX11_feed_83 ?_
              refine j_iload hX dX11_feed_84 0 rfl ?_
              refine j_bipush hX dX11_feed_86 rfl ?_
              refine j_bipush hX dX11_feed_88 rfl ?_
              refine j_iload hX dX11_feed_90 7 rfl ?_
              refine j_iconst hX dX11_feed_92 ?_
              refine j_iand hX dX11_feed_93 (fun z67 hz68 hy69 => ?_)
              have ha70 := (and_f hz68 (by omega) (by omega)).2 (by omega)
              refine j_imul hX dX11_feed_94 ?_
              refine j_isub hX dX11_feed_95 ?_
              refine j_ishr hX dX11_feed_96 (fun z71 hz72 hy73 => ?_)
              refine j_i2b hX dX11_feed_97 (fun z74 hz75 hy76 => ?_)
              refine j_bast hX (by omega) (by omega) kc_211 (by omega) (by omega) (by omega) (by omega) (by omega) dX11_feed_98 ?_
              refine j_up hI (ra_211 _) (by omega) (by omega) (Or.inl (by omega)) (fun M77 w78 hw79 hM80 hI81 hf82 => ?_)
              have hk83 := kp_up hM80 (fun h => absurd h.1 (by decide)) hk_0
              have hF84 := Fr.put hF hM80 (by omega)
              refine j_iinc (lv' := [(6, _), (7, _), (0, _), (1, _), (2, _), (3, _), (4, _), (5, _)]) hX dX11_feed_99 7 rfl (by rw [hnL]; decide) rfl ?_
              refine j_goto (tgt := 18) hX dX11_feed_102 (by decide) ?_
              refine j_sub [2, 3, 4, 5, 6, 7, 0] rfl ?_
              exact ih _ _ _ (by omega) hI81 hF84 hk83 (by first | assumption | omega) (by omega) (by omega)
          · skip
            refine j_iload_n hX dX11_feed_31 rfl 1 rfl ?_
            refine j_goto (tgt := 71) hX dX11_feed_32 (by decide) ?_
            refine j_istore (lv' := [(7, _), (0, _), (1, _), (2, _), (3, _), (4, _), (5, _), (6, _)]) hX dX11_feed_71 (by rw [hnL]; decide) rfl ?_
            refine j_aload_n hX dX11_feed_73 rfl 1 rfl ?_
            refine gf_X11_7 hX (by omega) (by omega) kc_210 (fc_210_0 hI) (by decide) dX11_feed_74 ?_
            refine j_aload_n hX dX11_feed_77 rfl 1 rfl ?_
            refine gf_X11_276 hX (by omega) (by omega) kc_210 dX11_feed_78 ?_
            refine j_top hk_0 ?_
            refine j_iload hX dX11_feed_81 7 rfl ?_
            refine j_iadd hX dX11_feed_83 ?_
            refine j_iload hX dX11_feed_84 0 rfl ?_
            refine j_bipush hX dX11_feed_86 rfl ?_
            refine j_bipush hX dX11_feed_88 rfl ?_
            refine j_iload hX dX11_feed_90 7 rfl ?_
            refine j_iconst hX dX11_feed_92 ?_
            refine j_iand hX dX11_feed_93 (fun z85 hz86 hy87 => ?_)
            have ha88 := (and_f hz86 (by omega) (by omega)).2 (by omega)
            refine j_imul hX dX11_feed_94 ?_
            refine j_isub hX dX11_feed_95 ?_
            refine j_ishr hX dX11_feed_96 (fun z89 hz90 hy91 => ?_)
            refine j_i2b hX dX11_feed_97 (fun z92 hz93 hy94 => ?_)
            refine j_bast hX (by omega) (by omega) kc_211 (by omega) (by omega) (by omega) (by omega) (by omega) dX11_feed_98 ?_
            refine j_up hI (ra_211 _) (by omega) (by omega) (Or.inl (by omega)) (fun M95 w96 hw97 hM98 hI99 hf100 => ?_)
            have hk101 := kp_up hM98 (fun h => absurd h.1 (by decide)) hk_0
            have hF102 := Fr.put hF hM98 (by omega)
            refine j_iinc (lv' := [(6, _), (7, _), (0, _), (1, _), (2, _), (3, _), (4, _), (5, _)]) hX dX11_feed_99 7 rfl (by rw [hnL]; decide) rfl ?_
            refine j_goto (tgt := 18) hX dX11_feed_102 (by decide) ?_
            refine j_sub [2, 3, 4, 5, 6, 7, 0] rfl ?_
            exact ih _ _ _ (by omega) hI99 hF102 hk101 (by first | assumption | omega) (by omega) (by omega)
  show J X B N 0 0 0 [(0, rv B 210), (1, iv a), (2, iv b), (3, iv c), (4, iv d), (5, iv e)] [] M
  refine j_aload_n hX dX11_feed_0 rfl 0 rfl ?_
  refine gf_X11_276 hX (by omega) (by omega) kc_210 dX11_feed_1 ?_
  refine j_name hI ro_210_2 (fun v103 hv104 hl105 hh106 => ?_)
  have hk107 := hv104.symm
  refine j_bipush hX dX11_feed_4 rfl ?_
  refine j_iadd hX dX11_feed_6 ?_
  refine j_sipush hX dX11_feed_7 rfl ?_
  refine j_icmp_le (tgt := 15) hX dX11_feed_10 (by decide) (by omega) (by omega) (fun hc108 => ?_) (fun hc108 => ?_)
  · skip
    refine j_iconst hX dX11_feed_15 ?_
    refine j_istore (lv' := [(6, _), (0, _), (1, _), (2, _), (3, _), (4, _), (5, _)]) hX dX11_feed_16 (by rw [hnL]; decide) rfl ?_
    refine j_sub [1, 2, 3, 4, 5, 6, 0] rfl ?_
    refine (cp (Int.toNat (704 + 1))) _ _ _ (by omega) hI hF hk107 (by first | assumption | omega) ?_ ?_
    · omega
    · omega
  · skip
    refine j_iconst hX dX11_feed_13 ?_
    exact hret _ _ _ _ dX11_feed_14 rfl (by omega) ⟨hI, hF⟩
set_option maxHeartbeats 2000000 in
set_option maxRecDepth 20000 in
theorem c_X11_end (l : Launch) (D : va_G) (cy : Nat → ClassId) (B N : Nat) (a : Int) (M : MM) (hN : 257 ≤ N) (hI : Iv M) (hpa : I32 a) : CI l D cy B N 1 yX11_end cX11_end 2 (some .int) [rv B 210, iv a] M (fun z M' => Iv M' ∧ Fr (fun a b => (a = 210 ∧ 2 ≤ b ∧ b ≤ 2)) M M') := by
  refine mk_CI (by decide) (Nat.le_of_ble_eq_true rfl) ?_
  intro X exl exD excy hnL hX hret
  have hce : 0 + 0 ≤ (xR X).cells ∧ 0 + 0 ≤ (xR X).slots := ⟨Nat.zero_le _, Nat.zero_le _⟩
  have hF : Fr (fun a b => (a = 210 ∧ 2 ≤ b ∧ b ≤ 2)) M M := Fr.rf
  show J X B N 0 0 0 [(0, rv B 210), (1, iv a)] [] M
  refine j_iload_n hX dX11_end_0 rfl 1 rfl ?_
  refine j_if_lt (tgt := 12) hX dX11_end_1 (by decide) (by omega) (fun hc1 => ?_) (fun hc1 => ?_)
  · skip
    refine j_iconst hX dX11_end_12 ?_
    exact hret _ _ _ _ dX11_end_13 rfl (by omega) ⟨hI, hF⟩
  · skip
    refine j_iload_n hX dX11_end_4 rfl 1 rfl ?_
    refine j_aload_n hX dX11_end_5 rfl 0 rfl ?_
    refine gf_X11_276 hX (by omega) (by omega) kc_210 dX11_end_6 ?_
    refine j_name hI ro_210_2 (fun v2 hv3 hl4 hh5 => ?_)
    have hk6 := hv3.symm
    refine j_icmp_le (tgt := 14) hX dX11_end_9 (by decide) (by omega) (by omega) (fun hc7 => ?_) (fun hc7 => ?_)
    · skip
      refine j_aload_n hX dX11_end_14 rfl 0 rfl ?_
      refine j_iload_n hX dX11_end_15 rfl 1 rfl ?_
      refine pf_X11_276 hX (by omega) (by omega) kc_210 (by omega) dX11_end_16 ?_
      refine j_up hI ro_210_2 (by omega) (by omega) (Or.inl (by omega)) (fun M8 w9 hw10 hM11 hI12 hf13 => ?_)
      clear hk6
      have hF14 := Fr.put hF hM11 (by omega)
      refine j_iload_n hX dX11_end_19 rfl 1 rfl ?_
      exact hret _ _ _ _ dX11_end_20 rfl (by omega) ⟨hI12, hF14⟩
    · skip
      refine j_iconst hX dX11_end_12 ?_
      exact hret _ _ _ _ dX11_end_13 rfl (by omega) ⟨hI, hF⟩
set_option maxHeartbeats 2000000 in
set_option maxRecDepth 20000 in
theorem c_X11_glimpse (l : Launch) (D : va_G) (cy : Nat → ClassId) (B N : Nat) (bk : Int) (nr : Int) (a : Int) (b : Int) (c : Int) (M : MM) (hN : 257 ≤ N) (hI : Iv M) (hpa : I32 a) (hpb : I32 b) (hpc : I32 c) (hbk : M.1 210 40 = bk) (hnr : M.1 213 bk = nr) : CI l D cy B N 3 yX11_glimpse cX11_glimpse 4 (some .int) [rv B 210, iv a, iv b, iv c] M (fun z M' => Iv M' ∧ Fr (fun a b => (a = 210 ∧ 63 ≤ b ∧ b ≤ 63) ∨ (249 ≤ a ∧ a ≤ 253)) M M') := by
  refine mk_CI (by decide) (Nat.le_of_ble_eq_true rfl) ?_
  intro X exl exD excy hnL hX hret
  have hce : 0 + 0 ≤ (xR X).cells ∧ 0 + 0 ≤ (xR X).slots := ⟨Nat.zero_le _, Nat.zero_le _⟩
  have hF : Fr (fun a b => (a = 210 ∧ 63 ≤ b ∧ b ≤ 63) ∨ (249 ≤ a ∧ a ≤ 253)) M M := Fr.rf
  have hbk2 : 0 ≤ bk ∧ bk ≤ 1 := by have := hI.at 210 40 ro_210_40; omega
  have hnr2 : 0 ≤ nr ∧ nr ≤ 6 := by have := hI.at 213 bk (ra_213 _); omega
  show J X B N 0 0 0 [(0, rv B 210), (1, iv a), (2, iv b), (3, iv c)] [] M
  refine j_aload_n hX dX11_glimpse_0 rfl 0 rfl ?_
  refine j_iload_n hX dX11_glimpse_1 rfl 1 rfl ?_
  refine j_callVI hX lk_X11_419 (c_X11_isRoom _ _ _ _ _ _ _ _ _ (by omega) hI (by omega) hbk hnr) (by omega) hce rfl rfl (by omega) (by omega) kc_210 rfl rfl (Nat.le_of_ble_eq_true rfl) dX11_glimpse_2 (fun z1 M2 hz4 hp3 => ?_)
  obtain ⟨hE5, hb6, hq7⟩ := hp3
  replace hE5 := hE5.symm
  subst hE5
  refine j_if_eq (tgt := 25) hX dX11_glimpse_5 (by decide) (by omega) (fun hc8 => ?_) (fun hc8 => ?_)
  · skip
    clear hq7
    refine j_iconst hX dX11_glimpse_25 ?_
    exact hret _ _ _ _ dX11_glimpse_26 rfl (by omega) ⟨hI, hF⟩
  · skip
    have hi9 := hq7 (by omega)
    clear hq7
    refine j_aload_n hX dX11_glimpse_8 rfl 0 rfl ?_
    refine j_iload_n hX dX11_glimpse_9 rfl 2 rfl ?_
    refine j_callVI hX lk_X11_419 (c_X11_isRoom _ _ _ _ _ _ _ _ _ (by omega) hI (by omega) hbk hnr) (by omega) hce rfl rfl (by omega) (by omega) kc_210 rfl rfl (Nat.le_of_ble_eq_true rfl) dX11_glimpse_10 (fun z10 M11 hz13 hp12 => ?_)
    obtain ⟨hE14, hb15, hq16⟩ := hp12
    replace hE14 := hE14.symm
    subst hE14
    refine j_if_eq (tgt := 25) hX dX11_glimpse_13 (by decide) (by omega) (fun hc17 => ?_) (fun hc17 => ?_)
    · skip
      clear hq16
      refine j_iconst hX dX11_glimpse_25 ?_
      exact hret _ _ _ _ dX11_glimpse_26 rfl (by omega) ⟨hI, hF⟩
    · skip
      have hi18 := hq16 (by omega)
      clear hq16
      refine j_aload_n hX dX11_glimpse_16 rfl 0 rfl ?_
      refine gf_X11_401 hX (by omega) (by omega) kc_210 dX11_glimpse_17 ?_
      refine j_name hI ro_210_63 (fun v19 hv20 hl21 hh22 => ?_)
      have hk23 := hv20.symm
      refine j_bipush hX dX11_glimpse_20 rfl ?_
      refine j_icmp_ne (tgt := 27) hX dX11_glimpse_22 (by decide) (by omega) (by omega) (fun hc24 => ?_) (fun hc24 => ?_)
      · skip
        refine j_aload_n hX dX11_glimpse_27 rfl 0 rfl ?_
        refine gf_X11_131 hX (by omega) (by omega) kc_210 (fc_210_57 hI) (by decide) dX11_glimpse_28 ?_
        refine j_aload_n hX dX11_glimpse_31 rfl 0 rfl ?_
        refine gf_X11_401 hX (by omega) (by omega) kc_210 dX11_glimpse_32 ?_
        refine j_top hk23 ?_
        refine j_iload_n hX dX11_glimpse_35 rfl 1 rfl ?_
        refine j_iast hX (by omega) (by omega) kc_249 (by omega) (by omega) (by omega) (by omega) dX11_glimpse_36 ?_
        refine j_up hI (ra_249 _) (by omega) (by omega) (Or.inl (by omega)) (fun M25 w26 hw27 hM28 hI29 hf30 => ?_)
        have hk31 := kp_up hM28 (fun h => absurd h.1 (by decide)) hbk
        have hk32 := kp_up hM28 (fun h => absurd h.1 (by decide)) hnr
        have hk33 := kp_up hM28 (fun h => absurd h.1 (by decide)) hk23
        clear hk23
        have hF34 := Fr.put hF hM28 (by omega)
        refine j_aload_n hX dX11_glimpse_37 rfl 0 rfl ?_
        refine gf_X11_134 hX (by omega) (by omega) kc_210 (fc_210_58 hI29) (by decide) dX11_glimpse_38 ?_
        refine j_aload_n hX dX11_glimpse_41 rfl 0 rfl ?_
        refine gf_X11_401 hX (by omega) (by omega) kc_210 dX11_glimpse_42 ?_
        refine j_top hk33 ?_
        refine j_iload_n hX dX11_glimpse_45 rfl 2 rfl ?_
        refine j_iast hX (by omega) (by omega) kc_250 (by omega) (by omega) (by omega) (by omega) dX11_glimpse_46 ?_
        refine j_up hI29 (ra_250 _) (by omega) (by omega) (Or.inl (by omega)) (fun M35 w36 hw37 hM38 hI39 hf40 => ?_)
        have hk41 := kp_up hM38 (fun h => absurd h.1 (by decide)) hk31
        have hk42 := kp_up hM38 (fun h => absurd h.1 (by decide)) hk32
        have hk43 := kp_up hM38 (fun h => absurd h.1 (by decide)) hk33
        clear hk31 hk32 hk33
        have hF44 := Fr.put hF34 hM38 (by omega)
        refine j_aload_n hX dX11_glimpse_47 rfl 0 rfl ?_
        refine gf_X11_137 hX (by omega) (by omega) kc_210 (fc_210_59 hI39) (by decide) dX11_glimpse_48 ?_
        refine j_aload_n hX dX11_glimpse_51 rfl 0 rfl ?_
        refine gf_X11_401 hX (by omega) (by omega) kc_210 dX11_glimpse_52 ?_
        refine j_top hk43 ?_
        refine j_iload_n hX dX11_glimpse_55 rfl 3 rfl ?_
        refine j_if_eq (tgt := 63) hX dX11_glimpse_56 (by decide) (by omega) (fun hc45 => ?_) (fun hc45 => ?_)
        · skip
          refine j_iconst hX dX11_glimpse_63 ?_
          refine j_iast hX (by omega) (by omega) kc_251 (by omega) (by omega) (by omega) (by omega) dX11_glimpse_64 ?_
          refine j_up hI39 (ra_251 _) (by omega) (by omega) (Or.inl (by omega)) (fun M46 w47 hw48 hM49 hI50 hf51 => ?_)
          have hk52 := kp_up hM49 (fun h => absurd h.1 (by decide)) hk41
          have hk53 := kp_up hM49 (fun h => absurd h.1 (by decide)) hk42
          have hk54 := kp_up hM49 (fun h => absurd h.1 (by decide)) hk43
          clear hk41 hk42 hk43
          have hF55 := Fr.put hF44 hM49 (by omega)
          refine j_aload_n hX dX11_glimpse_65 rfl 0 rfl ?_
          refine gf_X11_140 hX (by omega) (by omega) kc_210 (fc_210_60 hI50) (by decide) dX11_glimpse_66 ?_
          refine j_aload_n hX dX11_glimpse_69 rfl 0 rfl ?_
          refine gf_X11_401 hX (by omega) (by omega) kc_210 dX11_glimpse_70 ?_
          refine j_top hk54 ?_
          refine j_aload_n hX dX11_glimpse_73 rfl 0 rfl ?_
          refine gf_X11_489 hX (by omega) (by omega) kc_210 dX11_glimpse_74 ?_
          refine j_name hI50 ro_210_64 (fun v56 hv57 hl58 hh59 => ?_)
          have hk60 := hv57.symm
          refine j_iast hX (by omega) (by omega) kc_252 (by omega) (by omega) (by omega) (by omega) dX11_glimpse_77 ?_
          refine j_up hI50 (ra_252 _) (by omega) (by omega) (Or.inl (by omega)) (fun M61 w62 hw63 hM64 hI65 hf66 => ?_)
          have hk67 := kp_up hM64 (fun h => absurd h.1 (by decide)) hk52
          have hk68 := kp_up hM64 (fun h => absurd h.1 (by decide)) hk53
          have hk69 := kp_up hM64 (fun h => absurd h.1 (by decide)) hk54
          have hk70 := kp_up hM64 (fun h => absurd h.1 (by decide)) hk60
          clear hk52 hk53 hk54 hk60
          have hF71 := Fr.put hF55 hM64 (by omega)
          refine j_aload_n hX dX11_glimpse_78 rfl 0 rfl ?_
          refine gf_X11_143 hX (by omega) (by omega) kc_210 (fc_210_61 hI65) (by decide) dX11_glimpse_79 ?_
          refine j_aload_n hX dX11_glimpse_82 rfl 0 rfl ?_
          refine gf_X11_401 hX (by omega) (by omega) kc_210 dX11_glimpse_83 ?_
          refine j_top hk69 ?_
          refine j_iconst hX dX11_glimpse_86 ?_
          refine j_iast hX (by omega) (by omega) kc_253 (by omega) (by omega) (by omega) (by omega) dX11_glimpse_87 ?_
          refine j_up hI65 (ra_253 _) (by omega) (by omega) (Or.inl (by omega)) (fun M72 w73 hw74 hM75 hI76 hf77 => ?_)
          have hk78 := kp_up hM75 (fun h => absurd h.1 (by decide)) hk67
          have hk79 := kp_up hM75 (fun h => absurd h.1 (by decide)) hk68
          have hk80 := kp_up hM75 (fun h => absurd h.1 (by decide)) hk69
          have hk81 := kp_up hM75 (fun h => absurd h.1 (by decide)) hk70
          clear hk67 hk68 hk69 hk70
          have hF82 := Fr.put hF71 hM75 (by omega)
          refine j_aload_n hX dX11_glimpse_88 rfl 0 rfl ?_
          refine j_dup hX dX11_glimpse_89 rfl ?_
          refine gf_X11_401 hX (by omega) (by omega) kc_210 dX11_glimpse_90 ?_
          refine j_top hk80 ?_
          refine j_iconst hX dX11_glimpse_93 ?_
          refine j_iadd hX dX11_glimpse_94 ?_
          refine pf_X11_401 hX (by omega) (by omega) kc_210 (by omega) dX11_glimpse_95 ?_
          refine j_up hI76 ro_210_63 (by omega) (by omega) (Or.inl (by omega)) (fun M83 w84 hw85 hM86 hI87 hf88 => ?_)
          have hk89 := kp_up hM86 (fun h => absurd h.2 (by decide)) hk78
          have hk90 := kp_up hM86 (fun h => absurd h.1 (by decide)) hk79
          have hk91 := kp_up hM86 (fun h => absurd h.2 (by decide)) hk81
          clear hk78 hk79 hk80 hk81
          have hF92 := Fr.put hF82 hM86 (by omega)
          refine j_aload_n hX dX11_glimpse_98 rfl 0 rfl ?_
          refine gf_X11_401 hX (by omega) (by omega) kc_210 dX11_glimpse_99 ?_
          refine j_top hf88 ?_
          refine j_iconst hX dX11_glimpse_102 ?_
          refine j_isub hX dX11_glimpse_103 ?_
          exact hret _ _ _ _ dX11_glimpse_104 rfl (by omega) ⟨hI87, hF92⟩
        · skip
          refine j_iconst hX dX11_glimpse_59 ?_
          refine j_goto (tgt := 64) hX dX11_glimpse_60 (by decide) ?_
          refine j_iast hX (by omega) (by omega) kc_251 (by omega) (by omega) (by omega) (by omega) dX11_glimpse_64 ?_
          refine j_up hI39 (ra_251 _) (by omega) (by omega) (Or.inl (by omega)) (fun M93 w94 hw95 hM96 hI97 hf98 => ?_)
          have hk99 := kp_up hM96 (fun h => absurd h.1 (by decide)) hk41
          have hk100 := kp_up hM96 (fun h => absurd h.1 (by decide)) hk42
          have hk101 := kp_up hM96 (fun h => absurd h.1 (by decide)) hk43
          clear hk41 hk42 hk43
          have hF102 := Fr.put hF44 hM96 (by omega)
          refine j_aload_n hX dX11_glimpse_65 rfl 0 rfl ?_
          refine gf_X11_140 hX (by omega) (by omega) kc_210 (fc_210_60 hI97) (by decide) dX11_glimpse_66 ?_
          refine j_aload_n hX dX11_glimpse_69 rfl 0 rfl ?_
          refine gf_X11_401 hX (by omega) (by omega) kc_210 dX11_glimpse_70 ?_
          refine j_top hk101 ?_
          refine j_aload_n hX dX11_glimpse_73 rfl 0 rfl ?_
          refine gf_X11_489 hX (by omega) (by omega) kc_210 dX11_glimpse_74 ?_
          refine j_name hI97 ro_210_64 (fun v103 hv104 hl105 hh106 => ?_)
          have hk107 := hv104.symm
          refine j_iast hX (by omega) (by omega) kc_252 (by omega) (by omega) (by omega) (by omega) dX11_glimpse_77 ?_
          refine j_up hI97 (ra_252 _) (by omega) (by omega) (Or.inl (by omega)) (fun M108 w109 hw110 hM111 hI112 hf113 => ?_)
          have hk114 := kp_up hM111 (fun h => absurd h.1 (by decide)) hk99
          have hk115 := kp_up hM111 (fun h => absurd h.1 (by decide)) hk100
          have hk116 := kp_up hM111 (fun h => absurd h.1 (by decide)) hk101
          have hk117 := kp_up hM111 (fun h => absurd h.1 (by decide)) hk107
          clear hk99 hk100 hk101 hk107
          have hF118 := Fr.put hF102 hM111 (by omega)
          refine j_aload_n hX dX11_glimpse_78 rfl 0 rfl ?_
          refine gf_X11_143 hX (by omega) (by omega) kc_210 (fc_210_61 hI112) (by decide) dX11_glimpse_79 ?_
          refine j_aload_n hX dX11_glimpse_82 rfl 0 rfl ?_
          refine gf_X11_401 hX (by omega) (by omega) kc_210 dX11_glimpse_83 ?_
          refine j_top hk116 ?_
          refine j_iconst hX dX11_glimpse_86 ?_
          refine j_iast hX (by omega) (by omega) kc_253 (by omega) (by omega) (by omega) (by omega) dX11_glimpse_87 ?_
          refine j_up hI112 (ra_253 _) (by omega) (by omega) (Or.inl (by omega)) (fun M119 w120 hw121 hM122 hI123 hf124 => ?_)
          have hk125 := kp_up hM122 (fun h => absurd h.1 (by decide)) hk114
          have hk126 := kp_up hM122 (fun h => absurd h.1 (by decide)) hk115
          have hk127 := kp_up hM122 (fun h => absurd h.1 (by decide)) hk116
          have hk128 := kp_up hM122 (fun h => absurd h.1 (by decide)) hk117
          clear hk114 hk115 hk116 hk117
          have hF129 := Fr.put hF118 hM122 (by omega)
          refine j_aload_n hX dX11_glimpse_88 rfl 0 rfl ?_
          refine j_dup hX dX11_glimpse_89 rfl ?_
          refine gf_X11_401 hX (by omega) (by omega) kc_210 dX11_glimpse_90 ?_
          refine j_top hk127 ?_
          refine j_iconst hX dX11_glimpse_93 ?_
          refine j_iadd hX dX11_glimpse_94 ?_
          refine pf_X11_401 hX (by omega) (by omega) kc_210 (by omega) dX11_glimpse_95 ?_
          refine j_up hI123 ro_210_63 (by omega) (by omega) (Or.inl (by omega)) (fun M130 w131 hw132 hM133 hI134 hf135 => ?_)
          have hk136 := kp_up hM133 (fun h => absurd h.2 (by decide)) hk125
          have hk137 := kp_up hM133 (fun h => absurd h.1 (by decide)) hk126
          have hk138 := kp_up hM133 (fun h => absurd h.2 (by decide)) hk128
          clear hk125 hk126 hk127 hk128
          have hF139 := Fr.put hF129 hM133 (by omega)
          refine j_aload_n hX dX11_glimpse_98 rfl 0 rfl ?_
          refine gf_X11_401 hX (by omega) (by omega) kc_210 dX11_glimpse_99 ?_
          refine j_top hf135 ?_
          refine j_iconst hX dX11_glimpse_102 ?_
          refine j_isub hX dX11_glimpse_103 ?_
          exact hret _ _ _ _ dX11_glimpse_104 rfl (by omega) ⟨hI134, hF139⟩
      · skip
        refine j_iconst hX dX11_glimpse_25 ?_
        exact hret _ _ _ _ dX11_glimpse_26 rfl (by omega) ⟨hI, hF⟩
set_option maxHeartbeats 2000000 in
set_option maxRecDepth 20000 in
theorem c_X11_untell (l : Launch) (D : va_G) (cy : Nat → ClassId) (B N : Nat) (a : Int) (M : MM) (hN : 257 ≤ N) (hI : Iv M) (hpa : I32 a) : CI l D cy B N 2 yX11_untell cX11_untell 2 (some .boolean) [rv B 210, iv a] M (fun z M' => Iv M' ∧ Fr (fun a (_ : Int) => (a = 253)) M M' ∧ (0 ≤ z ∧ z ≤ 1)) := by
  refine mk_CI (by decide) (Nat.le_of_ble_eq_true rfl) ?_
  intro X exl exD excy hnL hX hret
  have hce : 0 + 0 ≤ (xR X).cells ∧ 0 + 0 ≤ (xR X).slots := ⟨Nat.zero_le _, Nat.zero_le _⟩
  have hF : Fr (fun a (_ : Int) => (a = 253)) M M := Fr.rf
  show J X B N 0 0 0 [(0, rv B 210), (1, iv a)] [] M
  refine j_iload_n hX dX11_untell_0 rfl 1 rfl ?_
  refine j_iconst hX dX11_untell_1 ?_
  refine j_aload_n hX dX11_untell_2 rfl 0 rfl ?_
  refine gf_X11_401 hX (by omega) (by omega) kc_210 dX11_untell_3 ?_
  refine j_name hI ro_210_63 (fun v1 hv2 hl3 hh4 => ?_)
  have hk5 := hv2.symm
  refine j_iconst hX dX11_untell_6 ?_
  refine j_isub hX dX11_untell_7 ?_
  refine j_callSI hX lk_X11_388 (c_X11_isIn _ _ _ _ _ _ _ _ _ (by omega) (by omega) (by omega)) (by omega) hce rfl rfl (Nat.le_of_ble_eq_true rfl) dX11_untell_8 (fun z6 M7 hz9 hp8 => ?_)
  obtain ⟨hE10, hb11, hq12, hq13⟩ := hp8
  replace hE10 := hE10.symm
  subst hE10
  refine j_if_eq (tgt := 23) hX dX11_untell_11 (by decide) (by omega) (fun hc14 => ?_) (fun hc14 => ?_)
  · skip
    clear hq12
    have hi15 := hq13 (by omega)
    clear hq13
    refine j_iconst hX dX11_untell_23 ?_
    exact hret _ _ _ _ dX11_untell_24 (nb (by omega)) (by omega) ⟨hI, hF, by omega⟩
  · skip
    have hi16 := hq12 (by omega)
    clear hq12
    clear hq13
    refine j_aload_n hX dX11_untell_14 rfl 0 rfl ?_
    refine gf_X11_143 hX (by omega) (by omega) kc_210 (fc_210_61 hI) (by decide) dX11_untell_15 ?_
    refine j_iload_n hX dX11_untell_18 rfl 1 rfl ?_
    refine j_iald hX (by omega) (by omega) kc_253 (by omega) (by omega) (by omega) dX11_untell_19 ?_
    refine j_name hI (ra_253 _) (fun v17 hv18 hl19 hh20 => ?_)
    refine j_if_lt (tgt := 25) hX dX11_untell_20 (by decide) (by omega) (fun hc21 => ?_) (fun hc21 => ?_)
    · skip
      refine j_aload_n hX dX11_untell_25 rfl 0 rfl ?_
      refine gf_X11_143 hX (by omega) (by omega) kc_210 (fc_210_61 hI) (by decide) dX11_untell_26 ?_
      refine j_iload_n hX dX11_untell_29 rfl 1 rfl ?_
      refine j_aload_n hX dX11_untell_30 rfl 0 rfl ?_
      refine gf_X11_489 hX (by omega) (by omega) kc_210 dX11_untell_31 ?_
      refine j_name hI ro_210_64 (fun v22 hv23 hl24 hh25 => ?_)
      have hk26 := hv23.symm
      refine j_iast hX (by omega) (by omega) kc_253 (by omega) (by omega) (by omega) (by omega) dX11_untell_34 ?_
      refine j_up hI (ra_253 _) (by omega) (by omega) (Or.inl (by omega)) (fun M27 w28 hw29 hM30 hI31 hf32 => ?_)
      have hk33 := kp_up hM30 (fun h => absurd h.1 (by decide)) hk5
      have hk34 := kp_up hM30 (fun h => absurd h.1 (by decide)) hk26
      clear hk5 hk26
      have hF35 := Fr.put hF hM30 (by omega)
      refine j_iconst hX dX11_untell_35 ?_
      exact hret _ _ _ _ dX11_untell_36 (nb (by omega)) (by omega) ⟨hI31, hF35, by omega⟩
    · skip
      refine j_iconst hX dX11_untell_23 ?_
      exact hret _ _ _ _ dX11_untell_24 (nb (by omega)) (by omega) ⟨hI, hF, by omega⟩
set_option maxHeartbeats 2000000 in
set_option maxRecDepth 20000 in
theorem c_X11_later (l : Launch) (D : va_G) (cy : Nat → ClassId) (B N : Nat) (a : Int) (M : MM) (hN : 257 ≤ N) (hI : Iv M) (hpa : I32 a) : CI l D cy B N 2 yX11_later cX11_later 2 (some .int) [rv B 210, iv a] M (fun z M' => Iv M' ∧ Fr (fun a b => (a = 210 ∧ 64 ≤ b ∧ b ≤ 64)) M M' ∧ ((0 ≤ a ∧ a ≤ 1000 ∧ M.1 210 64 + a ≤ 100000 → z = M.1 210 64 + a ∧ M'.1 210 64 = M.1 210 64 + a) ∧ (¬ (0 ≤ a ∧ a ≤ 1000 ∧ M.1 210 64 + a ≤ 100000) → z = -1 ∧ M'.1 210 64 = M.1 210 64))) := by
  refine mk_CI (by decide) (Nat.le_of_ble_eq_true rfl) ?_
  intro X exl exD excy hnL hX hret
  have hce : 0 + 0 ≤ (xR X).cells ∧ 0 + 0 ≤ (xR X).slots := ⟨Nat.zero_le _, Nat.zero_le _⟩
  have hF : Fr (fun a b => (a = 210 ∧ 64 ≤ b ∧ b ≤ 64)) M M := Fr.rf
  have hk1 : M.1 210 64 = M.1 210 64 := rfl
  have ht0 := hI.at 210 64 ro_210_64
  show J X B N 0 0 0 [(0, rv B 210), (1, iv a)] [] M
  refine j_iload_n hX dX11_later_0 rfl 1 rfl ?_
  refine j_iconst hX dX11_later_1 ?_
  refine j_sipush hX dX11_later_2 rfl ?_
  refine j_callSI hX lk_X11_388 (c_X11_isIn _ _ _ _ _ _ _ _ _ (by omega) (by omega) (by omega)) (by omega) hce rfl rfl (Nat.le_of_ble_eq_true rfl) dX11_later_5 (fun z2 M3 hz5 hp4 => ?_)
  obtain ⟨hE6, hb7, hq8, hq9⟩ := hp4
  replace hE6 := hE6.symm
  subst hE6
  refine j_if_eq (tgt := 23) hX dX11_later_8 (by decide) (by omega) (fun hc10 => ?_) (fun hc10 => ?_)
  · skip
    clear hq8
    have hi11 := hq9 (by omega)
    clear hq9
    refine j_iconst hX dX11_later_23 ?_
    exact hret _ _ _ _ dX11_later_24 rfl (by omega) ⟨hI, hF, by first | assumption | omega⟩
  · skip
    have hi12 := hq8 (by omega)
    clear hq8
    clear hq9
    refine j_aload_n hX dX11_later_11 rfl 0 rfl ?_
    refine gf_X11_489 hX (by omega) (by omega) kc_210 dX11_later_12 ?_
    refine j_name hI ro_210_64 (fun v13 hv14 hl15 hh16 => ?_)
    have hk17 := hv14.symm
    refine j_iload_n hX dX11_later_15 rfl 1 rfl ?_
    refine j_iadd hX dX11_later_16 ?_
    refine j_ldcw (n := 100000) hX (in_8 112 (by first | rfl | decide +kernel) rfl) dX11_later_17 ?_
    refine j_icmp_le (tgt := 25) hX dX11_later_20 (by decide) (by omega) (by omega) (fun hc18 => ?_) (fun hc18 => ?_)
    · skip
      refine j_aload_n hX dX11_later_25 rfl 0 rfl ?_
      refine j_dup hX dX11_later_26 rfl ?_
      refine gf_X11_489 hX (by omega) (by omega) kc_210 dX11_later_27 ?_
      refine j_top hk17 ?_
      refine j_iload_n hX dX11_later_30 rfl 1 rfl ?_
      refine j_iadd hX dX11_later_31 ?_
      refine pf_X11_489 hX (by omega) (by omega) kc_210 (by omega) dX11_later_32 ?_
      refine j_up hI ro_210_64 (by omega) (by omega) (Or.inl (by omega)) (fun M19 w20 hw21 hM22 hI23 hf24 => ?_)
      clear hk17
      have hF25 := Fr.put hF hM22 (by omega)
      refine j_aload_n hX dX11_later_35 rfl 0 rfl ?_
      refine gf_X11_489 hX (by omega) (by omega) kc_210 dX11_later_36 ?_
      refine j_top hf24 ?_
      exact hret _ _ _ _ dX11_later_39 rfl (by omega) ⟨hI23, hF25, by first | assumption | omega⟩
    · skip
      refine j_iconst hX dX11_later_23 ?_
      exact hret _ _ _ _ dX11_later_24 rfl (by omega) ⟨hI, hF, by first | assumption | omega⟩
