theorem dX11_swapBoth_0 : decode cX11_swapBoth 0 = .ok (.aload_n 0, 1) := by decide +kernel
theorem dX11_swapBoth_1 : decode cX11_swapBoth 1 = .ok (.getfield 110, 3) := by decide +kernel
theorem dX11_swapBoth_4 : decode cX11_swapBoth 4 = .ok (.iconst 0, 1) := by decide +kernel
theorem dX11_swapBoth_5 : decode cX11_swapBoth 5 = .ok (.iload_n 1, 1) := by decide +kernel
theorem dX11_swapBoth_6 : decode cX11_swapBoth 6 = .ok (.iadd, 1) := by decide +kernel
theorem dX11_swapBoth_7 : decode cX11_swapBoth 7 = .ok (.iaload, 1) := by decide +kernel
theorem dX11_swapBoth_8 : decode cX11_swapBoth 8 = .ok (.istore_n 3, 1) := by decide +kernel
theorem dX11_swapBoth_9 : decode cX11_swapBoth 9 = .ok (.aload_n 0, 1) := by decide +kernel
theorem dX11_swapBoth_10 : decode cX11_swapBoth 10 = .ok (.getfield 110, 3) := by decide +kernel
theorem dX11_swapBoth_13 : decode cX11_swapBoth 13 = .ok (.iconst 0, 1) := by decide +kernel
theorem dX11_swapBoth_14 : decode cX11_swapBoth 14 = .ok (.iload_n 1, 1) := by decide +kernel
theorem dX11_swapBoth_15 : decode cX11_swapBoth 15 = .ok (.iadd, 1) := by decide +kernel
theorem dX11_swapBoth_16 : decode cX11_swapBoth 16 = .ok (.aload_n 0, 1) := by decide +kernel
theorem dX11_swapBoth_17 : decode cX11_swapBoth 17 = .ok (.getfield 110, 3) := by decide +kernel
theorem dX11_swapBoth_20 : decode cX11_swapBoth 20 = .ok (.iconst 0, 1) := by decide +kernel
theorem dX11_swapBoth_21 : decode cX11_swapBoth 21 = .ok (.iload_n 2, 1) := by decide +kernel
theorem dX11_swapBoth_22 : decode cX11_swapBoth 22 = .ok (.iadd, 1) := by decide +kernel
theorem dX11_swapBoth_23 : decode cX11_swapBoth 23 = .ok (.iaload, 1) := by decide +kernel
theorem dX11_swapBoth_24 : decode cX11_swapBoth 24 = .ok (.iastore, 1) := by decide +kernel
theorem dX11_swapBoth_25 : decode cX11_swapBoth 25 = .ok (.aload_n 0, 1) := by decide +kernel
theorem dX11_swapBoth_26 : decode cX11_swapBoth 26 = .ok (.getfield 110, 3) := by decide +kernel
theorem dX11_swapBoth_29 : decode cX11_swapBoth 29 = .ok (.iconst 0, 1) := by decide +kernel
theorem dX11_swapBoth_30 : decode cX11_swapBoth 30 = .ok (.iload_n 2, 1) := by decide +kernel
theorem dX11_swapBoth_31 : decode cX11_swapBoth 31 = .ok (.iadd, 1) := by decide +kernel
theorem dX11_swapBoth_32 : decode cX11_swapBoth 32 = .ok (.iload_n 3, 1) := by decide +kernel
theorem dX11_swapBoth_33 : decode cX11_swapBoth 33 = .ok (.iastore, 1) := by decide +kernel
theorem dX11_swapBoth_34 : decode cX11_swapBoth 34 = .ok (.return_, 1) := by decide +kernel
theorem dX11_keepAct_0 : decode cX11_keepAct 0 = .ok (.aload_n 0, 1) := by decide +kernel
theorem dX11_keepAct_1 : decode cX11_keepAct 1 = .ok (.getfield 395, 3) := by decide +kernel
theorem dX11_keepAct_4 : decode cX11_keepAct 4 = .ok (.bipush 40, 2) := by decide +kernel
theorem dX11_keepAct_6 : decode cX11_keepAct 6 = .ok (.if_icmp .ne 43, 3) := by decide +kernel
theorem dX11_keepAct_9 : decode cX11_keepAct 9 = .ok (.iconst 0, 1) := by decide +kernel
theorem dX11_keepAct_10 : decode cX11_keepAct 10 = .ok (.istore_n 1, 1) := by decide +kernel
theorem dX11_keepAct_11 : decode cX11_keepAct 11 = .ok (.iload_n 1, 1) := by decide +kernel
theorem dX11_keepAct_12 : decode cX11_keepAct 12 = .ok (.sipush 640, 3) := by decide +kernel
theorem dX11_keepAct_15 : decode cX11_keepAct 15 = .ok (.if_icmp .ge 24, 3) := by decide +kernel
theorem dX11_keepAct_18 : decode cX11_keepAct 18 = .ok (.aload_n 0, 1) := by decide +kernel
theorem dX11_keepAct_19 : decode cX11_keepAct 19 = .ok (.getfield 116, 3) := by decide +kernel
theorem dX11_keepAct_22 : decode cX11_keepAct 22 = .ok (.iload_n 1, 1) := by decide +kernel
theorem dX11_keepAct_23 : decode cX11_keepAct 23 = .ok (.aload_n 0, 1) := by decide +kernel
theorem dX11_keepAct_24 : decode cX11_keepAct 24 = .ok (.getfield 116, 3) := by decide +kernel
theorem dX11_keepAct_27 : decode cX11_keepAct 27 = .ok (.iload_n 1, 1) := by decide +kernel
theorem dX11_keepAct_28 : decode cX11_keepAct 28 = .ok (.bipush 16, 2) := by decide +kernel
theorem dX11_keepAct_30 : decode cX11_keepAct 30 = .ok (.iadd, 1) := by decide +kernel
theorem dX11_keepAct_31 : decode cX11_keepAct 31 = .ok (.iaload, 1) := by decide +kernel
theorem dX11_keepAct_32 : decode cX11_keepAct 32 = .ok (.iastore, 1) := by decide +kernel
theorem dX11_keepAct_33 : decode cX11_keepAct 33 = .ok (.iinc 1 1, 3) := by decide +kernel
theorem dX11_keepAct_36 : decode cX11_keepAct 36 = .ok (.goto (-25), 3) := by decide +kernel
theorem dX11_keepAct_39 : decode cX11_keepAct 39 = .ok (.aload_n 0, 1) := by decide +kernel
theorem dX11_keepAct_40 : decode cX11_keepAct 40 = .ok (.dup, 1) := by decide +kernel
theorem dX11_keepAct_41 : decode cX11_keepAct 41 = .ok (.getfield 395, 3) := by decide +kernel
theorem dX11_keepAct_44 : decode cX11_keepAct 44 = .ok (.iconst 1, 1) := by decide +kernel
theorem dX11_keepAct_45 : decode cX11_keepAct 45 = .ok (.isub, 1) := by decide +kernel
theorem dX11_keepAct_46 : decode cX11_keepAct 46 = .ok (.putfield 395, 3) := by decide +kernel
theorem dX11_keepAct_49 : decode cX11_keepAct 49 = .ok (.iconst 0, 1) := by decide +kernel
theorem dX11_keepAct_50 : decode cX11_keepAct 50 = .ok (.istore_n 1, 1) := by decide +kernel
theorem dX11_keepAct_51 : decode cX11_keepAct 51 = .ok (.iload_n 1, 1) := by decide +kernel
theorem dX11_keepAct_52 : decode cX11_keepAct 52 = .ok (.bipush 16, 2) := by decide +kernel
theorem dX11_keepAct_54 : decode cX11_keepAct 54 = .ok (.if_icmp .ge 29, 3) := by decide +kernel
theorem dX11_keepAct_57 : decode cX11_keepAct 57 = .ok (.aload_n 0, 1) := by decide +kernel
theorem dX11_keepAct_58 : decode cX11_keepAct 58 = .ok (.getfield 116, 3) := by decide +kernel
theorem dX11_keepAct_61 : decode cX11_keepAct 61 = .ok (.bipush 16, 2) := by decide +kernel
theorem dX11_keepAct_63 : decode cX11_keepAct 63 = .ok (.aload_n 0, 1) := by decide +kernel
theorem dX11_keepAct_64 : decode cX11_keepAct 64 = .ok (.getfield 395, 3) := by decide +kernel
theorem dX11_keepAct_67 : decode cX11_keepAct 67 = .ok (.imul, 1) := by decide +kernel
theorem dX11_keepAct_68 : decode cX11_keepAct 68 = .ok (.iload_n 1, 1) := by decide +kernel
theorem dX11_keepAct_69 : decode cX11_keepAct 69 = .ok (.iadd, 1) := by decide +kernel
theorem dX11_keepAct_70 : decode cX11_keepAct 70 = .ok (.aload_n 0, 1) := by decide +kernel
theorem dX11_keepAct_71 : decode cX11_keepAct 71 = .ok (.getfield 110, 3) := by decide +kernel
theorem dX11_keepAct_74 : decode cX11_keepAct 74 = .ok (.iload_n 1, 1) := by decide +kernel
theorem dX11_keepAct_75 : decode cX11_keepAct 75 = .ok (.iaload, 1) := by decide +kernel
theorem dX11_keepAct_76 : decode cX11_keepAct 76 = .ok (.iastore, 1) := by decide +kernel
theorem dX11_keepAct_77 : decode cX11_keepAct 77 = .ok (.iinc 1 1, 3) := by decide +kernel
theorem dX11_keepAct_80 : decode cX11_keepAct 80 = .ok (.goto (-29), 3) := by decide +kernel
theorem dX11_keepAct_83 : decode cX11_keepAct 83 = .ok (.aload_n 0, 1) := by decide +kernel
theorem dX11_keepAct_84 : decode cX11_keepAct 84 = .ok (.dup, 1) := by decide +kernel
theorem dX11_keepAct_85 : decode cX11_keepAct 85 = .ok (.getfield 395, 3) := by decide +kernel
theorem dX11_keepAct_88 : decode cX11_keepAct 88 = .ok (.iconst 1, 1) := by decide +kernel
theorem dX11_keepAct_89 : decode cX11_keepAct 89 = .ok (.iadd, 1) := by decide +kernel
theorem dX11_keepAct_90 : decode cX11_keepAct 90 = .ok (.putfield 395, 3) := by decide +kernel
theorem dX11_keepAct_93 : decode cX11_keepAct 93 = .ok (.aload_n 0, 1) := by decide +kernel
theorem dX11_keepAct_94 : decode cX11_keepAct 94 = .ok (.iconst 0, 1) := by decide +kernel
theorem dX11_keepAct_95 : decode cX11_keepAct 95 = .ok (.putfield 398, 3) := by decide +kernel
theorem dX11_keepAct_98 : decode cX11_keepAct 98 = .ok (.return_, 1) := by decide +kernel
theorem dX11_exchange_0 : decode cX11_exchange 0 = .ok (.iconst 0, 1) := by decide +kernel
theorem dX11_exchange_1 : decode cX11_exchange 1 = .ok (.istore_n 1, 1) := by decide +kernel
theorem dX11_exchange_2 : decode cX11_exchange 2 = .ok (.iload_n 1, 1) := by decide +kernel
theorem dX11_exchange_3 : decode cX11_exchange 3 = .ok (.bipush 16, 2) := by decide +kernel
theorem dX11_exchange_5 : decode cX11_exchange 5 = .ok (.if_icmp .ge 51, 3) := by decide +kernel
theorem dX11_exchange_8 : decode cX11_exchange 8 = .ok (.aload_n 0, 1) := by decide +kernel
theorem dX11_exchange_9 : decode cX11_exchange 9 = .ok (.getfield 116, 3) := by decide +kernel
theorem dX11_exchange_12 : decode cX11_exchange 12 = .ok (.bipush 16, 2) := by decide +kernel
theorem dX11_exchange_14 : decode cX11_exchange 14 = .ok (.aload_n 0, 1) := by decide +kernel
theorem dX11_exchange_15 : decode cX11_exchange 15 = .ok (.getfield 395, 3) := by decide +kernel
theorem dX11_exchange_18 : decode cX11_exchange 18 = .ok (.imul, 1) := by decide +kernel
theorem dX11_exchange_19 : decode cX11_exchange 19 = .ok (.iload_n 1, 1) := by decide +kernel
theorem dX11_exchange_20 : decode cX11_exchange 20 = .ok (.iadd, 1) := by decide +kernel
theorem dX11_exchange_21 : decode cX11_exchange 21 = .ok (.iaload, 1) := by decide +kernel
theorem dX11_exchange_22 : decode cX11_exchange 22 = .ok (.istore_n 2, 1) := by decide +kernel
theorem dX11_exchange_23 : decode cX11_exchange 23 = .ok (.aload_n 0, 1) := by decide +kernel
theorem dX11_exchange_24 : decode cX11_exchange 24 = .ok (.getfield 116, 3) := by decide +kernel
theorem dX11_exchange_27 : decode cX11_exchange 27 = .ok (.bipush 16, 2) := by decide +kernel
theorem dX11_exchange_29 : decode cX11_exchange 29 = .ok (.aload_n 0, 1) := by decide +kernel
theorem dX11_exchange_30 : decode cX11_exchange 30 = .ok (.getfield 395, 3) := by decide +kernel
theorem dX11_exchange_33 : decode cX11_exchange 33 = .ok (.imul, 1) := by decide +kernel
theorem dX11_exchange_34 : decode cX11_exchange 34 = .ok (.iload_n 1, 1) := by decide +kernel
theorem dX11_exchange_35 : decode cX11_exchange 35 = .ok (.iadd, 1) := by decide +kernel
theorem dX11_exchange_36 : decode cX11_exchange 36 = .ok (.aload_n 0, 1) := by decide +kernel
theorem dX11_exchange_37 : decode cX11_exchange 37 = .ok (.getfield 110, 3) := by decide +kernel
theorem dX11_exchange_40 : decode cX11_exchange 40 = .ok (.iload_n 1, 1) := by decide +kernel
theorem dX11_exchange_41 : decode cX11_exchange 41 = .ok (.iaload, 1) := by decide +kernel
theorem dX11_exchange_42 : decode cX11_exchange 42 = .ok (.iastore, 1) := by decide +kernel
theorem dX11_exchange_43 : decode cX11_exchange 43 = .ok (.aload_n 0, 1) := by decide +kernel
theorem dX11_exchange_44 : decode cX11_exchange 44 = .ok (.getfield 110, 3) := by decide +kernel
theorem dX11_exchange_47 : decode cX11_exchange 47 = .ok (.iload_n 1, 1) := by decide +kernel
theorem dX11_exchange_48 : decode cX11_exchange 48 = .ok (.iload_n 2, 1) := by decide +kernel
theorem dX11_exchange_49 : decode cX11_exchange 49 = .ok (.iastore, 1) := by decide +kernel
theorem dX11_exchange_50 : decode cX11_exchange 50 = .ok (.iinc 1 1, 3) := by decide +kernel
theorem dX11_exchange_53 : decode cX11_exchange 53 = .ok (.goto (-51), 3) := by decide +kernel
theorem dX11_exchange_56 : decode cX11_exchange 56 = .ok (.return_, 1) := by decide +kernel
theorem dX11_curtain_0 : decode cX11_curtain 0 = .ok (.aload_n 0, 1) := by decide +kernel
theorem dX11_curtain_1 : decode cX11_curtain 1 = .ok (.iload_n 1, 1) := by decide +kernel
theorem dX11_curtain_2 : decode cX11_curtain 2 = .ok (.invokevirtual 419, 3) := by decide +kernel
theorem dX11_curtain_5 : decode cX11_curtain 5 = .ok (.ifCond .ne 5, 3) := by decide +kernel
theorem dX11_curtain_8 : decode cX11_curtain 8 = .ok (.iconst (-1), 1) := by decide +kernel
theorem dX11_curtain_9 : decode cX11_curtain 9 = .ok (.ireturn, 1) := by decide +kernel
theorem dX11_curtain_10 : decode cX11_curtain 10 = .ok (.aload_n 0, 1) := by decide +kernel
theorem dX11_curtain_11 : decode cX11_curtain 11 = .ok (.invokevirtual 435, 3) := by decide +kernel
theorem dX11_curtain_14 : decode cX11_curtain 14 = .ok (.aload_n 0, 1) := by decide +kernel
theorem dX11_curtain_15 : decode cX11_curtain 15 = .ok (.getfield 110, 3) := by decide +kernel
theorem dX11_curtain_18 : decode cX11_curtain 18 = .ok (.bipush 6, 2) := by decide +kernel
theorem dX11_curtain_20 : decode cX11_curtain 20 = .ok (.dup2, 1) := by decide +kernel
theorem dX11_curtain_21 : decode cX11_curtain 21 = .ok (.iaload, 1) := by decide +kernel
theorem dX11_curtain_22 : decode cX11_curtain 22 = .ok (.iconst 1, 1) := by decide +kernel
theorem dX11_curtain_23 : decode cX11_curtain 23 = .ok (.iload_n 1, 1) := by decide +kernel
theorem dX11_curtain_24 : decode cX11_curtain 24 = .ok (.ishl, 1) := by decide +kernel
theorem dX11_curtain_25 : decode cX11_curtain 25 = .ok (.ixor, 1) := by decide +kernel
theorem dX11_curtain_26 : decode cX11_curtain 26 = .ok (.iastore, 1) := by decide +kernel
theorem dX11_curtain_27 : decode cX11_curtain 27 = .ok (.aload_n 0, 1) := by decide +kernel
theorem dX11_curtain_28 : decode cX11_curtain 28 = .ok (.getfield 110, 3) := by decide +kernel
theorem dX11_curtain_31 : decode cX11_curtain 31 = .ok (.bipush 6, 2) := by decide +kernel
theorem dX11_curtain_33 : decode cX11_curtain 33 = .ok (.iaload, 1) := by decide +kernel
theorem dX11_curtain_34 : decode cX11_curtain 34 = .ok (.iload_n 1, 1) := by decide +kernel
theorem dX11_curtain_35 : decode cX11_curtain 35 = .ok (.ishr, 1) := by decide +kernel
theorem dX11_curtain_36 : decode cX11_curtain 36 = .ok (.iconst 1, 1) := by decide +kernel
theorem dX11_curtain_37 : decode cX11_curtain 37 = .ok (.iand, 1) := by decide +kernel
theorem dX11_curtain_38 : decode cX11_curtain 38 = .ok (.ireturn, 1) := by decide +kernel
theorem dX11_swap_0 : decode cX11_swap 0 = .ok (.aload_n 0, 1) := by decide +kernel
theorem dX11_swap_1 : decode cX11_swap 1 = .ok (.iload_n 1, 1) := by decide +kernel
theorem dX11_swap_2 : decode cX11_swap 2 = .ok (.invokevirtual 419, 3) := by decide +kernel
theorem dX11_swap_5 : decode cX11_swap 5 = .ok (.ifCond .eq 16, 3) := by decide +kernel
theorem dX11_swap_8 : decode cX11_swap 8 = .ok (.aload_n 0, 1) := by decide +kernel
theorem dX11_swap_9 : decode cX11_swap 9 = .ok (.iload_n 2, 1) := by decide +kernel
theorem dX11_swap_10 : decode cX11_swap 10 = .ok (.invokevirtual 419, 3) := by decide +kernel
theorem dX11_swap_13 : decode cX11_swap 13 = .ok (.ifCond .eq 8, 3) := by decide +kernel
theorem dX11_swap_16 : decode cX11_swap 16 = .ok (.iload_n 1, 1) := by decide +kernel
theorem dX11_swap_17 : decode cX11_swap 17 = .ok (.iload_n 2, 1) := by decide +kernel
theorem dX11_swap_18 : decode cX11_swap 18 = .ok (.if_icmp .ne 5, 3) := by decide +kernel
theorem dX11_swap_21 : decode cX11_swap 21 = .ok (.iconst (-1), 1) := by decide +kernel
theorem dX11_swap_22 : decode cX11_swap 22 = .ok (.ireturn, 1) := by decide +kernel
theorem dX11_swap_23 : decode cX11_swap 23 = .ok (.aload_n 0, 1) := by decide +kernel
theorem dX11_swap_24 : decode cX11_swap 24 = .ok (.invokevirtual 435, 3) := by decide +kernel
theorem dX11_swap_27 : decode cX11_swap 27 = .ok (.aload_n 0, 1) := by decide +kernel
theorem dX11_swap_28 : decode cX11_swap 28 = .ok (.iload_n 1, 1) := by decide +kernel
theorem dX11_swap_29 : decode cX11_swap 29 = .ok (.iload_n 2, 1) := by decide +kernel
theorem dX11_swap_30 : decode cX11_swap 30 = .ok (.invokevirtual 438, 3) := by decide +kernel
theorem dX11_swap_33 : decode cX11_swap 33 = .ok (.aload_n 0, 1) := by decide +kernel
theorem dX11_swap_34 : decode cX11_swap 34 = .ok (.getfield 110, 3) := by decide +kernel
theorem dX11_swap_37 : decode cX11_swap 37 = .ok (.iconst 0, 1) := by decide +kernel
theorem dX11_swap_38 : decode cX11_swap 38 = .ok (.iload_n 1, 1) := by decide +kernel
theorem dX11_swap_39 : decode cX11_swap 39 = .ok (.iadd, 1) := by decide +kernel
theorem dX11_swap_40 : decode cX11_swap 40 = .ok (.iaload, 1) := by decide +kernel
theorem dX11_swap_41 : decode cX11_swap 41 = .ok (.ireturn, 1) := by decide +kernel
theorem dX11_cast_0 : decode cX11_cast 0 = .ok (.aload_n 0, 1) := by decide +kernel
theorem dX11_cast_1 : decode cX11_cast 1 = .ok (.invokevirtual 435, 3) := by decide +kernel
theorem dX11_cast_4 : decode cX11_cast 4 = .ok (.aload_n 0, 1) := by decide +kernel
theorem dX11_cast_5 : decode cX11_cast 5 = .ok (.invokevirtual 385, 3) := by decide +kernel
theorem dX11_cast_8 : decode cX11_cast 8 = .ok (.iconst 1, 1) := by decide +kernel
theorem dX11_cast_9 : decode cX11_cast 9 = .ok (.isub, 1) := by decide +kernel
theorem dX11_cast_10 : decode cX11_cast 10 = .ok (.istore_n 1, 1) := by decide +kernel
theorem dX11_cast_11 : decode cX11_cast 11 = .ok (.iload_n 1, 1) := by decide +kernel
theorem dX11_cast_12 : decode cX11_cast 12 = .ok (.ifCond .le 50, 3) := by decide +kernel
theorem dX11_cast_15 : decode cX11_cast 15 = .ok (.aload_n 0, 1) := by decide +kernel
theorem dX11_cast_16 : decode cX11_cast 16 = .ok (.getfield 110, 3) := by decide +kernel
theorem dX11_cast_19 : decode cX11_cast 19 = .ok (.bipush 15, 2) := by decide +kernel
theorem dX11_cast_21 : decode cX11_cast 21 = .ok (.sipush 137, 3) := by decide +kernel
theorem dX11_cast_24 : decode cX11_cast 24 = .ok (.aload_n 0, 1) := by decide +kernel
theorem dX11_cast_25 : decode cX11_cast 25 = .ok (.getfield 110, 3) := by decide +kernel
theorem dX11_cast_28 : decode cX11_cast 28 = .ok (.bipush 15, 2) := by decide +kernel
theorem dX11_cast_30 : decode cX11_cast 30 = .ok (.iaload, 1) := by decide +kernel
theorem dX11_cast_31 : decode cX11_cast 31 = .ok (.imul, 1) := by decide +kernel
theorem dX11_cast_32 : decode cX11_cast 32 = .ok (.bipush 71, 2) := by decide +kernel
theorem dX11_cast_34 : decode cX11_cast 34 = .ok (.iadd, 1) := by decide +kernel
theorem dX11_cast_35 : decode cX11_cast 35 = .ok (.sipush 1000, 3) := by decide +kernel
theorem dX11_cast_38 : decode cX11_cast 38 = .ok (.irem, 1) := by decide +kernel
theorem dX11_cast_39 : decode cX11_cast 39 = .ok (.iastore, 1) := by decide +kernel
theorem dX11_cast_40 : decode cX11_cast 40 = .ok (.aload_n 0, 1) := by decide +kernel
theorem dX11_cast_41 : decode cX11_cast 41 = .ok (.iload_n 1, 1) := by decide +kernel
theorem dX11_cast_42 : decode cX11_cast 42 = .ok (.aload_n 0, 1) := by decide +kernel
theorem dX11_cast_43 : decode cX11_cast 43 = .ok (.getfield 110, 3) := by decide +kernel
theorem dX11_cast_46 : decode cX11_cast 46 = .ok (.bipush 15, 2) := by decide +kernel
theorem dX11_cast_48 : decode cX11_cast 48 = .ok (.iaload, 1) := by decide +kernel
theorem dX11_cast_49 : decode cX11_cast 49 = .ok (.iload_n 1, 1) := by decide +kernel
theorem dX11_cast_50 : decode cX11_cast 50 = .ok (.iconst 1, 1) := by decide +kernel
theorem dX11_cast_51 : decode cX11_cast 51 = .ok (.iadd, 1) := by decide +kernel
theorem dX11_cast_52 : decode cX11_cast 52 = .ok (.irem, 1) := by decide +kernel
theorem dX11_cast_53 : decode cX11_cast 53 = .ok (.invokevirtual 438, 3) := by decide +kernel
theorem dX11_cast_56 : decode cX11_cast 56 = .ok (.iinc 1 (-1), 3) := by decide +kernel
theorem dX11_cast_59 : decode cX11_cast 59 = .ok (.goto (-48), 3) := by decide +kernel
theorem dX11_cast_62 : decode cX11_cast 62 = .ok (.iconst 0, 1) := by decide +kernel
theorem dX11_cast_63 : decode cX11_cast 63 = .ok (.istore_n 1, 1) := by decide +kernel
theorem dX11_cast_64 : decode cX11_cast 64 = .ok (.iconst 0, 1) := by decide +kernel
theorem dX11_cast_65 : decode cX11_cast 65 = .ok (.istore_n 2, 1) := by decide +kernel
theorem dX11_cast_66 : decode cX11_cast 66 = .ok (.iload_n 2, 1) := by decide +kernel
theorem dX11_cast_67 : decode cX11_cast 67 = .ok (.aload_n 0, 1) := by decide +kernel
theorem dX11_cast_68 : decode cX11_cast 68 = .ok (.invokevirtual 385, 3) := by decide +kernel
theorem dX11_cast_71 : decode cX11_cast 71 = .ok (.if_icmp .ge 29, 3) := by decide +kernel
theorem dX11_cast_74 : decode cX11_cast 74 = .ok (.iload_n 1, 1) := by decide +kernel
theorem dX11_cast_75 : decode cX11_cast 75 = .ok (.aload_n 0, 1) := by decide +kernel
theorem dX11_cast_76 : decode cX11_cast 76 = .ok (.getfield 110, 3) := by decide +kernel
theorem dX11_cast_79 : decode cX11_cast 79 = .ok (.iconst 0, 1) := by decide +kernel
theorem dX11_cast_80 : decode cX11_cast 80 = .ok (.iload_n 2, 1) := by decide +kernel
theorem dX11_cast_81 : decode cX11_cast 81 = .ok (.iadd, 1) := by decide +kernel
theorem dX11_cast_82 : decode cX11_cast 82 = .ok (.iaload, 1) := by decide +kernel
theorem dX11_cast_83 : decode cX11_cast 83 = .ok (.iload_n 2, 1) := by decide +kernel
theorem dX11_cast_84 : decode cX11_cast 84 = .ok (.if_icmp .ne 7, 3) := by decide +kernel
theorem dX11_cast_87 : decode cX11_cast 87 = .ok (.iconst 1, 1) := by decide +kernel
theorem dX11_cast_88 : decode cX11_cast 88 = .ok (.goto 4, 3) := by decide +kernel
theorem dX11_cast_91 : decode cX11_cast 91 = .ok (.iconst 0, 1) := by decide +kernel
theorem dX11_cast_92 : decode cX11_cast 92 = .ok (.iadd, 1) := by decide +kernel
theorem dX11_cast_93 : decode cX11_cast 93 = .ok (.istore_n 1, 1) := by decide +kernel
theorem dX11_cast_94 : decode cX11_cast 94 = .ok (.iinc 2 1, 3) := by decide +kernel
theorem dX11_cast_97 : decode cX11_cast 97 = .ok (.goto (-31), 3) := by decide +kernel
theorem dX11_cast_100 : decode cX11_cast 100 = .ok (.iload_n 1, 1) := by decide +kernel
theorem dX11_cast_101 : decode cX11_cast 101 = .ok (.ireturn, 1) := by decide +kernel
theorem dX11_hour_0 : decode cX11_hour 0 = .ok (.aload_n 0, 1) := by decide +kernel
theorem dX11_hour_1 : decode cX11_hour 1 = .ok (.getfield 110, 3) := by decide +kernel
theorem dX11_hour_4 : decode cX11_hour 4 = .ok (.bipush 14, 2) := by decide +kernel
theorem dX11_hour_6 : decode cX11_hour 6 = .ok (.iaload, 1) := by decide +kernel
theorem dX11_hour_7 : decode cX11_hour 7 = .ok (.sipush 999, 3) := by decide +kernel
theorem dX11_hour_10 : decode cX11_hour 10 = .ok (.if_icmp .le 5, 3) := by decide +kernel
theorem dX11_hour_13 : decode cX11_hour 13 = .ok (.iconst (-1), 1) := by decide +kernel
theorem dX11_hour_14 : decode cX11_hour 14 = .ok (.ireturn, 1) := by decide +kernel
theorem dX11_hour_15 : decode cX11_hour 15 = .ok (.aload_n 0, 1) := by decide +kernel
theorem dX11_hour_16 : decode cX11_hour 16 = .ok (.invokevirtual 435, 3) := by decide +kernel
theorem dX11_hour_19 : decode cX11_hour 19 = .ok (.aload_n 0, 1) := by decide +kernel
theorem dX11_hour_20 : decode cX11_hour 20 = .ok (.invokevirtual 441, 3) := by decide +kernel
theorem dX11_hour_23 : decode cX11_hour 23 = .ok (.istore_n 1, 1) := by decide +kernel
theorem dX11_hour_24 : decode cX11_hour 24 = .ok (.aload_n 0, 1) := by decide +kernel
theorem dX11_hour_25 : decode cX11_hour 25 = .ok (.invokevirtual 444, 3) := by decide +kernel
theorem dX11_hour_28 : decode cX11_hour 28 = .ok (.aload_n 0, 1) := by decide +kernel
theorem dX11_hour_29 : decode cX11_hour 29 = .ok (.invokevirtual 441, 3) := by decide +kernel
theorem dX11_hour_32 : decode cX11_hour 32 = .ok (.iload_n 1, 1) := by decide +kernel
theorem dX11_hour_33 : decode cX11_hour 33 = .ok (.isub, 1) := by decide +kernel
theorem dX11_hour_34 : decode cX11_hour 34 = .ok (.ireturn, 1) := by decide +kernel
theorem dX11_undo_0 : decode cX11_undo 0 = .ok (.aload_n 0, 1) := by decide +kernel
theorem dX11_undo_1 : decode cX11_undo 1 = .ok (.getfield 395, 3) := by decide +kernel
theorem dX11_undo_4 : decode cX11_undo 4 = .ok (.ifCond .ne 5, 3) := by decide +kernel
theorem dX11_undo_7 : decode cX11_undo 7 = .ok (.iconst 0, 1) := by decide +kernel
theorem dX11_undo_8 : decode cX11_undo 8 = .ok (.ireturn, 1) := by decide +kernel
theorem dX11_undo_9 : decode cX11_undo 9 = .ok (.aload_n 0, 1) := by decide +kernel
theorem dX11_undo_10 : decode cX11_undo 10 = .ok (.dup, 1) := by decide +kernel
theorem dX11_undo_11 : decode cX11_undo 11 = .ok (.getfield 395, 3) := by decide +kernel
theorem dX11_undo_14 : decode cX11_undo 14 = .ok (.iconst 1, 1) := by decide +kernel
theorem dX11_undo_15 : decode cX11_undo 15 = .ok (.isub, 1) := by decide +kernel
theorem dX11_undo_16 : decode cX11_undo 16 = .ok (.putfield 395, 3) := by decide +kernel
theorem dX11_undo_19 : decode cX11_undo 19 = .ok (.aload_n 0, 1) := by decide +kernel
theorem dX11_undo_20 : decode cX11_undo 20 = .ok (.dup, 1) := by decide +kernel
theorem dX11_undo_21 : decode cX11_undo 21 = .ok (.getfield 398, 3) := by decide +kernel
theorem dX11_undo_24 : decode cX11_undo 24 = .ok (.iconst 1, 1) := by decide +kernel
theorem dX11_undo_25 : decode cX11_undo 25 = .ok (.iadd, 1) := by decide +kernel
theorem dX11_undo_26 : decode cX11_undo 26 = .ok (.putfield 398, 3) := by decide +kernel
theorem dX11_undo_29 : decode cX11_undo 29 = .ok (.aload_n 0, 1) := by decide +kernel
theorem dX11_undo_30 : decode cX11_undo 30 = .ok (.invokevirtual 447, 3) := by decide +kernel
theorem dX11_undo_33 : decode cX11_undo 33 = .ok (.iconst 1, 1) := by decide +kernel
theorem dX11_undo_34 : decode cX11_undo 34 = .ok (.ireturn, 1) := by decide +kernel
theorem dX11_redo_0 : decode cX11_redo 0 = .ok (.aload_n 0, 1) := by decide +kernel
theorem dX11_redo_1 : decode cX11_redo 1 = .ok (.getfield 398, 3) := by decide +kernel
theorem dX11_redo_4 : decode cX11_redo 4 = .ok (.ifCond .ne 5, 3) := by decide +kernel
theorem dX11_redo_7 : decode cX11_redo 7 = .ok (.iconst 0, 1) := by decide +kernel
theorem dX11_redo_8 : decode cX11_redo 8 = .ok (.ireturn, 1) := by decide +kernel
theorem dX11_redo_9 : decode cX11_redo 9 = .ok (.aload_n 0, 1) := by decide +kernel
theorem dX11_redo_10 : decode cX11_redo 10 = .ok (.invokevirtual 447, 3) := by decide +kernel
theorem dX11_redo_13 : decode cX11_redo 13 = .ok (.aload_n 0, 1) := by decide +kernel
theorem dX11_redo_14 : decode cX11_redo 14 = .ok (.dup, 1) := by decide +kernel
theorem dX11_redo_15 : decode cX11_redo 15 = .ok (.getfield 395, 3) := by decide +kernel
theorem dX11_redo_18 : decode cX11_redo 18 = .ok (.iconst 1, 1) := by decide +kernel
theorem dX11_redo_19 : decode cX11_redo 19 = .ok (.iadd, 1) := by decide +kernel
theorem dX11_redo_20 : decode cX11_redo 20 = .ok (.putfield 395, 3) := by decide +kernel
theorem dX11_redo_23 : decode cX11_redo 23 = .ok (.aload_n 0, 1) := by decide +kernel
theorem dX11_redo_24 : decode cX11_redo 24 = .ok (.dup, 1) := by decide +kernel
theorem dX11_redo_25 : decode cX11_redo 25 = .ok (.getfield 398, 3) := by decide +kernel
theorem dX11_redo_28 : decode cX11_redo 28 = .ok (.iconst 1, 1) := by decide +kernel
theorem dX11_redo_29 : decode cX11_redo 29 = .ok (.isub, 1) := by decide +kernel
theorem dX11_redo_30 : decode cX11_redo 30 = .ok (.putfield 398, 3) := by decide +kernel
theorem dX11_redo_33 : decode cX11_redo 33 = .ok (.iconst 1, 1) := by decide +kernel
theorem dX11_redo_34 : decode cX11_redo 34 = .ok (.ireturn, 1) := by decide +kernel
theorem dX11_image_0 : decode cX11_image 0 = .ok (.iload_n 1, 1) := by decide +kernel
theorem dX11_image_1 : decode cX11_image 1 = .ok (.iconst 0, 1) := by decide +kernel
theorem dX11_image_2 : decode cX11_image 2 = .ok (.iconst 2, 1) := by decide +kernel
theorem dX11_image_3 : decode cX11_image 3 = .ok (.invokestatic 388, 3) := by decide +kernel
theorem dX11_image_6 : decode cX11_image 6 = .ok (.ifCond .ne 5, 3) := by decide +kernel
theorem dX11_image_9 : decode cX11_image 9 = .ok (.iconst (-1), 1) := by decide +kernel
theorem dX11_image_10 : decode cX11_image 10 = .ok (.ireturn, 1) := by decide +kernel
theorem dX11_image_11 : decode cX11_image 11 = .ok (.iconst 0, 1) := by decide +kernel
theorem dX11_image_12 : decode cX11_image 12 = .ok (.istore_n 2, 1) := by decide +kernel
theorem dX11_image_13 : decode cX11_image 13 = .ok (.iload_n 2, 1) := by decide +kernel
theorem dX11_image_14 : decode cX11_image 14 = .ok (.bipush 16, 2) := by decide +kernel
theorem dX11_image_16 : decode cX11_image 16 = .ok (.if_icmp .ge 26, 3) := by decide +kernel
theorem dX11_image_19 : decode cX11_image 19 = .ok (.aload_n 0, 1) := by decide +kernel
theorem dX11_image_20 : decode cX11_image 20 = .ok (.getfield 149, 3) := by decide +kernel
theorem dX11_image_23 : decode cX11_image 23 = .ok (.bipush 16, 2) := by decide +kernel
theorem dX11_image_25 : decode cX11_image 25 = .ok (.iload_n 1, 1) := by decide +kernel
theorem dX11_image_26 : decode cX11_image 26 = .ok (.imul, 1) := by decide +kernel
theorem dX11_image_27 : decode cX11_image 27 = .ok (.iload_n 2, 1) := by decide +kernel
theorem dX11_image_28 : decode cX11_image 28 = .ok (.iadd, 1) := by decide +kernel
theorem dX11_image_29 : decode cX11_image 29 = .ok (.aload_n 0, 1) := by decide +kernel
theorem dX11_image_30 : decode cX11_image 30 = .ok (.getfield 110, 3) := by decide +kernel
theorem dX11_image_33 : decode cX11_image 33 = .ok (.iload_n 2, 1) := by decide +kernel
theorem dX11_image_34 : decode cX11_image 34 = .ok (.iaload, 1) := by decide +kernel
theorem dX11_image_35 : decode cX11_image 35 = .ok (.iastore, 1) := by decide +kernel
theorem dX11_image_36 : decode cX11_image 36 = .ok (.iinc 2 1, 3) := by decide +kernel
theorem dX11_image_39 : decode cX11_image 39 = .ok (.goto (-26), 3) := by decide +kernel
theorem dX11_image_42 : decode cX11_image 42 = .ok (.aload_n 0, 1) := by decide +kernel
theorem dX11_image_43 : decode cX11_image 43 = .ok (.getfield 152, 3) := by decide +kernel
theorem dX11_image_46 : decode cX11_image 46 = .ok (.iload_n 1, 1) := by decide +kernel
theorem dX11_image_47 : decode cX11_image 47 = .ok (.iconst 1, 1) := by decide +kernel
theorem dX11_image_48 : decode cX11_image 48 = .ok (.bastore, 1) := by decide +kernel
theorem dX11_image_49 : decode cX11_image 49 = .ok (.aload_n 0, 1) := by decide +kernel
theorem dX11_image_50 : decode cX11_image 50 = .ok (.getfield 110, 3) := by decide +kernel
theorem dX11_image_53 : decode cX11_image 53 = .ok (.bipush 14, 2) := by decide +kernel
theorem dX11_image_55 : decode cX11_image 55 = .ok (.iaload, 1) := by decide +kernel
theorem dX11_image_56 : decode cX11_image 56 = .ok (.ireturn, 1) := by decide +kernel
theorem dX11_back_0 : decode cX11_back 0 = .ok (.iload_n 1, 1) := by decide +kernel
theorem dX11_back_1 : decode cX11_back 1 = .ok (.iconst 0, 1) := by decide +kernel
theorem dX11_back_2 : decode cX11_back 2 = .ok (.iconst 2, 1) := by decide +kernel
theorem dX11_back_3 : decode cX11_back 3 = .ok (.invokestatic 388, 3) := by decide +kernel
theorem dX11_back_6 : decode cX11_back 6 = .ok (.ifCond .eq 12, 3) := by decide +kernel
theorem dX11_back_9 : decode cX11_back 9 = .ok (.aload_n 0, 1) := by decide +kernel
theorem dX11_back_10 : decode cX11_back 10 = .ok (.getfield 152, 3) := by decide +kernel
theorem dX11_back_13 : decode cX11_back 13 = .ok (.iload_n 1, 1) := by decide +kernel
theorem dX11_back_14 : decode cX11_back 14 = .ok (.baload, 1) := by decide +kernel
theorem dX11_back_15 : decode cX11_back 15 = .ok (.ifCond .ne 5, 3) := by decide +kernel
theorem dX11_back_18 : decode cX11_back 18 = .ok (.iconst (-1), 1) := by decide +kernel
theorem dX11_back_19 : decode cX11_back 19 = .ok (.ireturn, 1) := by decide +kernel
theorem dX11_back_20 : decode cX11_back 20 = .ok (.iconst 0, 1) := by decide +kernel
theorem dX11_back_21 : decode cX11_back 21 = .ok (.istore_n 2, 1) := by decide +kernel
theorem dX11_back_22 : decode cX11_back 22 = .ok (.iload_n 2, 1) := by decide +kernel
theorem dX11_back_23 : decode cX11_back 23 = .ok (.bipush 16, 2) := by decide +kernel
theorem dX11_back_25 : decode cX11_back 25 = .ok (.if_icmp .ge 26, 3) := by decide +kernel
theorem dX11_back_28 : decode cX11_back 28 = .ok (.aload_n 0, 1) := by decide +kernel
theorem dX11_back_29 : decode cX11_back 29 = .ok (.getfield 110, 3) := by decide +kernel
theorem dX11_back_32 : decode cX11_back 32 = .ok (.iload_n 2, 1) := by decide +kernel
theorem dX11_back_33 : decode cX11_back 33 = .ok (.aload_n 0, 1) := by decide +kernel
theorem dX11_back_34 : decode cX11_back 34 = .ok (.getfield 149, 3) := by decide +kernel
theorem dX11_back_37 : decode cX11_back 37 = .ok (.bipush 16, 2) := by decide +kernel
theorem dX11_back_39 : decode cX11_back 39 = .ok (.iload_n 1, 1) := by decide +kernel
theorem dX11_back_40 : decode cX11_back 40 = .ok (.imul, 1) := by decide +kernel
theorem dX11_back_41 : decode cX11_back 41 = .ok (.iload_n 2, 1) := by decide +kernel
theorem dX11_back_42 : decode cX11_back 42 = .ok (.iadd, 1) := by decide +kernel
theorem dX11_back_43 : decode cX11_back 43 = .ok (.iaload, 1) := by decide +kernel
theorem dX11_back_44 : decode cX11_back 44 = .ok (.iastore, 1) := by decide +kernel
theorem dX11_back_45 : decode cX11_back 45 = .ok (.iinc 2 1, 3) := by decide +kernel
theorem dX11_back_48 : decode cX11_back 48 = .ok (.goto (-26), 3) := by decide +kernel
theorem dX11_back_51 : decode cX11_back 51 = .ok (.aload_n 0, 1) := by decide +kernel
theorem dX11_back_52 : decode cX11_back 52 = .ok (.iconst 0, 1) := by decide +kernel
theorem dX11_back_53 : decode cX11_back 53 = .ok (.putfield 395, 3) := by decide +kernel
theorem dX11_back_56 : decode cX11_back 56 = .ok (.aload_n 0, 1) := by decide +kernel
theorem dX11_back_57 : decode cX11_back 57 = .ok (.iconst 0, 1) := by decide +kernel
theorem dX11_back_58 : decode cX11_back 58 = .ok (.putfield 398, 3) := by decide +kernel
theorem dX11_back_61 : decode cX11_back 61 = .ok (.aload_n 0, 1) := by decide +kernel
theorem dX11_back_62 : decode cX11_back 62 = .ok (.getfield 110, 3) := by decide +kernel
theorem dX11_back_65 : decode cX11_back 65 = .ok (.bipush 14, 2) := by decide +kernel
theorem dX11_back_67 : decode cX11_back 67 = .ok (.iaload, 1) := by decide +kernel
theorem dX11_back_68 : decode cX11_back 68 = .ok (.ireturn, 1) := by decide +kernel
theorem dX11_startAnew_0 : decode cX11_startAnew 0 = .ok (.iconst 0, 1) := by decide +kernel
theorem dX11_startAnew_1 : decode cX11_startAnew 1 = .ok (.istore_n 1, 1) := by decide +kernel
theorem dX11_startAnew_2 : decode cX11_startAnew 2 = .ok (.iload_n 1, 1) := by decide +kernel
theorem dX11_startAnew_3 : decode cX11_startAnew 3 = .ok (.bipush 16, 2) := by decide +kernel
theorem dX11_startAnew_5 : decode cX11_startAnew 5 = .ok (.if_icmp .ge 16, 3) := by decide +kernel
theorem dX11_startAnew_8 : decode cX11_startAnew 8 = .ok (.aload_n 0, 1) := by decide +kernel
theorem dX11_startAnew_9 : decode cX11_startAnew 9 = .ok (.getfield 110, 3) := by decide +kernel
theorem dX11_startAnew_12 : decode cX11_startAnew 12 = .ok (.iload_n 1, 1) := by decide +kernel
theorem dX11_startAnew_13 : decode cX11_startAnew 13 = .ok (.iconst 0, 1) := by decide +kernel
theorem dX11_startAnew_14 : decode cX11_startAnew 14 = .ok (.iastore, 1) := by decide +kernel
theorem dX11_startAnew_15 : decode cX11_startAnew 15 = .ok (.iinc 1 1, 3) := by decide +kernel
theorem dX11_startAnew_18 : decode cX11_startAnew 18 = .ok (.goto (-16), 3) := by decide +kernel
theorem dX11_startAnew_21 : decode cX11_startAnew 21 = .ok (.iconst 0, 1) := by decide +kernel
theorem dX11_startAnew_22 : decode cX11_startAnew 22 = .ok (.istore_n 1, 1) := by decide +kernel
theorem dX11_startAnew_23 : decode cX11_startAnew 23 = .ok (.iload_n 1, 1) := by decide +kernel
theorem dX11_startAnew_24 : decode cX11_startAnew 24 = .ok (.aload_n 0, 1) := by decide +kernel
theorem dX11_startAnew_25 : decode cX11_startAnew 25 = .ok (.invokevirtual 385, 3) := by decide +kernel
theorem dX11_startAnew_28 : decode cX11_startAnew 28 = .ok (.if_icmp .ge 68, 3) := by decide +kernel
theorem dX11_startAnew_31 : decode cX11_startAnew 31 = .ok (.aload_n 0, 1) := by decide +kernel
theorem dX11_startAnew_32 : decode cX11_startAnew 32 = .ok (.getfield 110, 3) := by decide +kernel
theorem dX11_startAnew_35 : decode cX11_startAnew 35 = .ok (.iconst 0, 1) := by decide +kernel
theorem dX11_startAnew_36 : decode cX11_startAnew 36 = .ok (.iload_n 1, 1) := by decide +kernel
theorem dX11_startAnew_37 : decode cX11_startAnew 37 = .ok (.iadd, 1) := by decide +kernel
theorem dX11_startAnew_38 : decode cX11_startAnew 38 = .ok (.aload_n 0, 1) := by decide +kernel
theorem dX11_startAnew_39 : decode cX11_startAnew 39 = .ok (.getfield 75, 3) := by decide +kernel
theorem dX11_startAnew_42 : decode cX11_startAnew 42 = .ok (.aload_n 0, 1) := by decide +kernel
theorem dX11_startAnew_43 : decode cX11_startAnew 43 = .ok (.getfield 279, 3) := by decide +kernel
theorem dX11_startAnew_46 : decode cX11_startAnew 46 = .ok (.baload, 1) := by decide +kernel
theorem dX11_startAnew_47 : decode cX11_startAnew 47 = .ok (.ifCond .eq 20, 3) := by decide +kernel
theorem dX11_startAnew_50 : decode cX11_startAnew 50 = .ok (.aload_n 0, 1) := by decide +kernel
theorem dX11_startAnew_51 : decode cX11_startAnew 51 = .ok (.getfield 48, 3) := by decide +kernel
theorem dX11_startAnew_54 : decode cX11_startAnew 54 = .ok (.bipush 6, 2) := by decide +kernel
theorem dX11_startAnew_56 : decode cX11_startAnew 56 = .ok (.aload_n 0, 1) := by decide +kernel
theorem dX11_startAnew_57 : decode cX11_startAnew 57 = .ok (.getfield 279, 3) := by decide +kernel
theorem dX11_startAnew_60 : decode cX11_startAnew 60 = .ok (.imul, 1) := by decide +kernel
theorem dX11_startAnew_61 : decode cX11_startAnew 61 = .ok (.iload_n 1, 1) := by decide +kernel
theorem dX11_startAnew_62 : decode cX11_startAnew 62 = .ok (.iadd, 1) := by decide +kernel
theorem dX11_startAnew_63 : decode cX11_startAnew 63 = .ok (.iaload, 1) := by decide +kernel
theorem dX11_startAnew_64 : decode cX11_startAnew 64 = .ok (.goto 11, 3) := by decide +kernel
theorem dX11_startAnew_67 : decode cX11_startAnew 67 = .ok (.iload_n 1, 1) := by decide +kernel
theorem dX11_startAnew_68 : decode cX11_startAnew 68 = .ok (.iconst 1, 1) := by decide +kernel
theorem dX11_startAnew_69 : decode cX11_startAnew 69 = .ok (.iadd, 1) := by decide +kernel
theorem dX11_startAnew_70 : decode cX11_startAnew 70 = .ok (.aload_n 0, 1) := by decide +kernel
theorem dX11_startAnew_71 : decode cX11_startAnew 71 = .ok (.invokevirtual 385, 3) := by decide +kernel
theorem dX11_startAnew_74 : decode cX11_startAnew 74 = .ok (.irem, 1) := by decide +kernel
theorem dX11_startAnew_75 : decode cX11_startAnew 75 = .ok (.iastore, 1) := by decide +kernel
theorem dX11_startAnew_76 : decode cX11_startAnew 76 = .ok (.aload_n 0, 1) := by decide +kernel
theorem dX11_startAnew_77 : decode cX11_startAnew 77 = .ok (.getfield 110, 3) := by decide +kernel
theorem dX11_startAnew_80 : decode cX11_startAnew 80 = .ok (.bipush 7, 2) := by decide +kernel
theorem dX11_startAnew_82 : decode cX11_startAnew 82 = .ok (.iload_n 1, 1) := by decide +kernel
theorem dX11_startAnew_83 : decode cX11_startAnew 83 = .ok (.iadd, 1) := by decide +kernel
theorem dX11_startAnew_84 : decode cX11_startAnew 84 = .ok (.aload_n 0, 1) := by decide +kernel
theorem dX11_startAnew_85 : decode cX11_startAnew 85 = .ok (.iload_n 1, 1) := by decide +kernel
theorem dX11_startAnew_86 : decode cX11_startAnew 86 = .ok (.invokevirtual 392, 3) := by decide +kernel
theorem dX11_startAnew_89 : decode cX11_startAnew 89 = .ok (.iastore, 1) := by decide +kernel
theorem dX11_startAnew_90 : decode cX11_startAnew 90 = .ok (.iinc 1 1, 3) := by decide +kernel
theorem dX11_startAnew_93 : decode cX11_startAnew 93 = .ok (.goto (-70), 3) := by decide +kernel
theorem dX11_startAnew_96 : decode cX11_startAnew 96 = .ok (.aload_n 0, 1) := by decide +kernel
theorem dX11_startAnew_97 : decode cX11_startAnew 97 = .ok (.getfield 110, 3) := by decide +kernel
theorem dX11_startAnew_100 : decode cX11_startAnew 100 = .ok (.bipush 6, 2) := by decide +kernel
theorem dX11_startAnew_102 : decode cX11_startAnew 102 = .ok (.aload_n 0, 1) := by decide +kernel
theorem dX11_startAnew_103 : decode cX11_startAnew 103 = .ok (.getfield 36, 3) := by decide +kernel
theorem dX11_startAnew_106 : decode cX11_startAnew 106 = .ok (.aload_n 0, 1) := by decide +kernel
theorem dX11_startAnew_107 : decode cX11_startAnew 107 = .ok (.getfield 279, 3) := by decide +kernel
theorem dX11_startAnew_110 : decode cX11_startAnew 110 = .ok (.iaload, 1) := by decide +kernel
theorem dX11_startAnew_111 : decode cX11_startAnew 111 = .ok (.iastore, 1) := by decide +kernel
theorem dX11_startAnew_112 : decode cX11_startAnew 112 = .ok (.aload_n 0, 1) := by decide +kernel
theorem dX11_startAnew_113 : decode cX11_startAnew 113 = .ok (.getfield 110, 3) := by decide +kernel
theorem dX11_startAnew_116 : decode cX11_startAnew 116 = .ok (.bipush 15, 2) := by decide +kernel
theorem dX11_startAnew_118 : decode cX11_startAnew 118 = .ok (.aload_n 0, 1) := by decide +kernel
theorem dX11_startAnew_119 : decode cX11_startAnew 119 = .ok (.getfield 33, 3) := by decide +kernel
theorem dX11_startAnew_122 : decode cX11_startAnew 122 = .ok (.aload_n 0, 1) := by decide +kernel
theorem dX11_startAnew_123 : decode cX11_startAnew 123 = .ok (.getfield 279, 3) := by decide +kernel
theorem dX11_startAnew_126 : decode cX11_startAnew 126 = .ok (.iaload, 1) := by decide +kernel
theorem dX11_startAnew_127 : decode cX11_startAnew 127 = .ok (.iastore, 1) := by decide +kernel
theorem dX11_startAnew_128 : decode cX11_startAnew 128 = .ok (.iconst 0, 1) := by decide +kernel
theorem dX11_startAnew_129 : decode cX11_startAnew 129 = .ok (.istore_n 1, 1) := by decide +kernel
theorem dX11_startAnew_130 : decode cX11_startAnew 130 = .ok (.iload_n 1, 1) := by decide +kernel
theorem dX11_startAnew_131 : decode cX11_startAnew 131 = .ok (.bipush 6, 2) := by decide +kernel
theorem dX11_startAnew_133 : decode cX11_startAnew 133 = .ok (.if_icmp .ge 16, 3) := by decide +kernel
theorem dX11_startAnew_136 : decode cX11_startAnew 136 = .ok (.aload_n 0, 1) := by decide +kernel
theorem dX11_startAnew_137 : decode cX11_startAnew 137 = .ok (.getfield 125, 3) := by decide +kernel
theorem dX11_startAnew_140 : decode cX11_startAnew 140 = .ok (.iload_n 1, 1) := by decide +kernel
theorem dX11_startAnew_141 : decode cX11_startAnew 141 = .ok (.iconst (-1), 1) := by decide +kernel
theorem dX11_startAnew_142 : decode cX11_startAnew 142 = .ok (.iastore, 1) := by decide +kernel
theorem dX11_startAnew_143 : decode cX11_startAnew 143 = .ok (.iinc 1 1, 3) := by decide +kernel
theorem dX11_startAnew_146 : decode cX11_startAnew 146 = .ok (.goto (-16), 3) := by decide +kernel
theorem dX11_startAnew_149 : decode cX11_startAnew 149 = .ok (.aload_n 0, 1) := by decide +kernel
theorem dX11_startAnew_150 : decode cX11_startAnew 150 = .ok (.iconst 0, 1) := by decide +kernel
theorem dX11_startAnew_151 : decode cX11_startAnew 151 = .ok (.putfield 395, 3) := by decide +kernel
theorem dX11_startAnew_154 : decode cX11_startAnew 154 = .ok (.aload_n 0, 1) := by decide +kernel
theorem dX11_startAnew_155 : decode cX11_startAnew 155 = .ok (.iconst 0, 1) := by decide +kernel
theorem dX11_startAnew_156 : decode cX11_startAnew 156 = .ok (.putfield 398, 3) := by decide +kernel
theorem dX11_startAnew_159 : decode cX11_startAnew 159 = .ok (.aload_n 0, 1) := by decide +kernel
theorem dX11_startAnew_160 : decode cX11_startAnew 160 = .ok (.iconst 0, 1) := by decide +kernel
theorem dX11_startAnew_161 : decode cX11_startAnew 161 = .ok (.putfield 401, 3) := by decide +kernel
theorem dX11_startAnew_164 : decode cX11_startAnew 164 = .ok (.aload_n 0, 1) := by decide +kernel
theorem dX11_startAnew_165 : decode cX11_startAnew 165 = .ok (.iconst 0, 1) := by decide +kernel
theorem dX11_startAnew_166 : decode cX11_startAnew 166 = .ok (.putfield 404, 3) := by decide +kernel
theorem dX11_startAnew_169 : decode cX11_startAnew 169 = .ok (.iconst 0, 1) := by decide +kernel
theorem dX11_startAnew_170 : decode cX11_startAnew 170 = .ok (.istore_n 1, 1) := by decide +kernel
theorem dX11_startAnew_171 : decode cX11_startAnew 171 = .ok (.iload_n 1, 1) := by decide +kernel
theorem dX11_startAnew_172 : decode cX11_startAnew 172 = .ok (.iconst 3, 1) := by decide +kernel
theorem dX11_startAnew_173 : decode cX11_startAnew 173 = .ok (.if_icmp .ge 16, 3) := by decide +kernel
theorem dX11_startAnew_176 : decode cX11_startAnew 176 = .ok (.aload_n 0, 1) := by decide +kernel
theorem dX11_startAnew_177 : decode cX11_startAnew 177 = .ok (.getfield 152, 3) := by decide +kernel
theorem dX11_startAnew_180 : decode cX11_startAnew 180 = .ok (.iload_n 1, 1) := by decide +kernel
theorem dX11_startAnew_181 : decode cX11_startAnew 181 = .ok (.iconst 0, 1) := by decide +kernel
theorem dX11_startAnew_182 : decode cX11_startAnew 182 = .ok (.bastore, 1) := by decide +kernel
theorem dX11_startAnew_183 : decode cX11_startAnew 183 = .ok (.iinc 1 1, 3) := by decide +kernel
theorem dX11_startAnew_186 : decode cX11_startAnew 186 = .ok (.goto (-15), 3) := by decide +kernel
theorem dX11_startAnew_189 : decode cX11_startAnew 189 = .ok (.return_, 1) := by decide +kernel
set_option maxHeartbeats 2000000 in
set_option maxRecDepth 20000 in
theorem c_X11_swapBoth (l : Launch) (D : va_G) (cy : Nat → ClassId) (B N : Nat) (bk : Int) (nr : Int) (a : Int) (b : Int) (M : MM) (hN : 257 ≤ N) (hI : Iv M) (hpa : I32 a) (hpb : I32 b) (hbk : M.1 210 40 = bk) (hnr : M.1 213 bk = nr) (hRS : RS nr M) (h1 : 0 ≤ a ∧ a < nr ∧ 0 ≤ b ∧ b < nr) : CV l D cy B N 1 yX11_swapBoth cX11_swapBoth 4 none [rv B 210, iv a, iv b] M (fun M' => Iv M' ∧ Fr (fun a b => (a = 242 ∧ 0 ≤ b ∧ b ≤ 5)) M M' ∧ (RS nr M')) := by
  refine mk_CV (by decide) (Nat.le_of_ble_eq_true rfl) ?_
  intro X exl exD excy hnL hX hret
  have hce : 0 + 0 ≤ (xR X).cells ∧ 0 + 0 ≤ (xR X).slots := ⟨Nat.zero_le _, Nat.zero_le _⟩
  have hF : Fr (fun a b => (a = 242 ∧ 0 ≤ b ∧ b ≤ 5)) M M := Fr.rf
  have hbk2 : 0 ≤ bk ∧ bk ≤ 1 := by have := hI.at 210 40 ro_210_40; omega
  have hnr2 : 0 ≤ nr ∧ nr ≤ 6 := by have := hI.at 213 bk (ra_213 _); omega
  show J X B N 0 0 0 [(0, rv B 210), (1, iv a), (2, iv b)] [] M
  refine j_aload_n hX dX11_swapBoth_0 rfl 0 rfl ?_
  refine gf_X11_110 hX (by omega) (by omega) kc_210 (fc_210_47 hI) (by decide) dX11_swapBoth_1 ?_
  refine j_iconst hX dX11_swapBoth_4 ?_
  refine j_iload_n hX dX11_swapBoth_5 rfl 1 rfl ?_
  refine j_iadd hX dX11_swapBoth_6 ?_
  refine j_iald hX (by omega) (by omega) kc_242 (by omega) (by omega) (by omega) dX11_swapBoth_7 ?_
  refine j_name hI (rs_242 (by omega) (by omega)) (fun v1 hv2 hl3 hh4 => ?_)
  have hq1 := hv2
  refine j_istore_n (lv' := [(3, _), (0, _), (1, _), (2, _)]) hX dX11_swapBoth_8 rfl (by rw [hnL]; decide) rfl ?_
  refine j_aload_n hX dX11_swapBoth_9 rfl 1 rfl ?_
  refine gf_X11_110 hX (by omega) (by omega) kc_210 (fc_210_47 hI) (by decide) dX11_swapBoth_10 ?_
  refine j_iconst hX dX11_swapBoth_13 ?_
  refine j_iload_n hX dX11_swapBoth_14 rfl 2 rfl ?_
  refine j_iadd hX dX11_swapBoth_15 ?_
  refine j_aload_n hX dX11_swapBoth_16 rfl 1 rfl ?_
  refine gf_X11_110 hX (by omega) (by omega) kc_210 (fc_210_47 hI) (by decide) dX11_swapBoth_17 ?_
  refine j_iconst hX dX11_swapBoth_20 ?_
  refine j_iload_n hX dX11_swapBoth_21 rfl 3 rfl ?_
  refine j_iadd hX dX11_swapBoth_22 ?_
  refine j_iald hX (by omega) (by omega) kc_242 (by omega) (by omega) (by omega) dX11_swapBoth_23 ?_
  refine j_name hI (rs_242 (by omega) (by omega)) (fun v5 hv6 hl7 hh8 => ?_)
  have hq2 := hv6
  refine j_iast hX (by omega) (by omega) kc_242 (by omega) (by omega) (by omega) (by omega) dX11_swapBoth_24 ?_
  refine j_up hI (rs_242 (by omega) (by omega)) (by omega) (by omega) (Or.inl (by omega)) (fun M9 w10 hw11 hM12 hI13 hf14 => ?_)
  have hk16 := kp_up hM12 (fun h => absurd h.1 (by decide)) hbk
  have hk17 := kp_up hM12 (fun h => absurd h.1 (by decide)) hnr
  have hF18 := Fr.put hF hM12 (by omega)
  have he1 := hM12
  have hr1 := hw11
  refine j_aload_n hX dX11_swapBoth_25 rfl 1 rfl ?_
  refine gf_X11_110 hX (by omega) (by omega) kc_210 (fc_210_47 hI13) (by decide) dX11_swapBoth_26 ?_
  refine j_iconst hX dX11_swapBoth_29 ?_
  refine j_iload_n hX dX11_swapBoth_30 rfl 3 rfl ?_
  refine j_iadd hX dX11_swapBoth_31 ?_
  refine j_iload_n hX dX11_swapBoth_32 rfl 0 rfl ?_
  refine j_iast hX (by omega) (by omega) kc_242 (by omega) (by omega) (by omega) (by omega) dX11_swapBoth_33 ?_
  refine j_up hI13 (rs_242 (by omega) (by omega)) (by omega) (by omega) (Or.inl (by omega)) (fun M19 w20 hw21 hM22 hI23 hf24 => ?_)
  have hk25 := kp_up hM22 (fun h => absurd h.1 (by decide)) hk16
  have hk26 := kp_up hM22 (fun h => absurd h.1 (by decide)) hk17
  clear hk16 hk17
  have hF27 := Fr.put hF18 hM22 (by omega)
  have hlp := LQ_sw hRS.1 (by omega) (by omega) hq1 hq2 he1 hr1 hM22 hw21
  have hrs : RS nr M19 := RS_of hRS hlp (fun a b h => hF27 a b (by omega))
  exact hret _ _ _ dX11_swapBoth_34 ⟨hI23, hF27, hrs⟩
set_option maxHeartbeats 2000000 in
set_option maxRecDepth 20000 in
theorem c_X11_keepAct (l : Launch) (D : va_G) (cy : Nat → ClassId) (B N : Nat) (bk : Int) (nr : Int) (M : MM) (hN : 257 ≤ N) (hI : Iv M) (hbk : M.1 210 40 = bk) (hnr : M.1 213 bk = nr) (hRS : RS nr M) : CV l D cy B N 1 yX11_keepAct cX11_keepAct 2 none [rv B 210] M (fun M' => Iv M' ∧ Fr (fun a b => (a = 210 ∧ 50 ≤ b ∧ b ≤ 51) ∨ (a = 244)) M M' ∧ (RS nr M')) := by
  refine mk_CV (by decide) (Nat.le_of_ble_eq_true rfl) ?_
  intro X exl exD excy hnL hX hret
  have hce : 0 + 0 ≤ (xR X).cells ∧ 0 + 0 ≤ (xR X).slots := ⟨Nat.zero_le _, Nat.zero_le _⟩
  have hF : Fr (fun a b => (a = 210 ∧ 50 ≤ b ∧ b ≤ 51) ∨ (a = 244)) M M := Fr.rf
  have hbk2 : 0 ≤ bk ∧ bk ≤ 1 := by have := hI.at 210 40 ro_210_40; omega
  have hnr2 : 0 ≤ nr ∧ nr ≤ 6 := by have := hI.at 213 bk (ra_213 _); omega
  have hle := hRS.2.1
  have hun := hI.at 210 51 ro_210_51
  have cp : ∀ n : Nat, (∀ (x1 : Int), ∀ (ad : Int), ∀ (Mc : MM), I32 x1 → Iv Mc → Fr (fun a b => (a = 210 ∧ 50 ≤ b ∧ b ≤ 51) ∨ (a = 244)) M Mc → Mc.1 210 40 = bk → Mc.1 210 50 = ad → Mc.1 213 bk = nr → (0 ≤ x1 ∧ x1 ≤ 640 ∧ ad = 40 ∧ M.1 210 50 = 40) → (CP M Mc 244 0 244 16 x1) → (∀ j, x1 ≤ j → Mc.1 244 j = M.1 244 j) → 0 ≤ 32 * (1000 + 640 - x1) + 2 → 32 * (1000 + 640 - x1) + 2 < (n : Int) → J X B N 0 0 11 [(0, rv B 210), (1, iv x1)] [] Mc) ∧ (∀ (x1 : Int), ∀ (ad : Int), ∀ (Mc : MM), I32 x1 → Iv Mc → Fr (fun a b => (a = 210 ∧ 50 ≤ b ∧ b ≤ 51) ∨ (a = 244)) M Mc → Mc.1 210 40 = bk → Mc.1 210 50 = ad → Mc.1 213 bk = nr → WS nr ad Mc → (0 ≤ x1 ∧ x1 ≤ 16 ∧ 0 ≤ ad ∧ ad ≤ 39) → (CP M Mc 244 (16 * ad) 242 0 x1) → 0 ≤ 32 * (16 - x1) + 1 → 32 * (16 - x1) + 1 < (n : Int) → J X B N 0 0 51 [(0, rv B 210), (1, iv x1)] [] Mc) := by
    intro n
    induction n with
    | zero => exact ⟨by intros; exfalso; omega, by intros; exfalso; omega⟩
    | succ n ih =>
      refine ⟨?_, ?_⟩
      · intro x1 ad Mc hxx1 hI hF hk_0 hk_1 hk_2 h2 h3 h4 hm0 hm1
        refine j_iload_n hX dX11_keepAct_11 rfl 1 rfl ?_
        refine j_sipush hX dX11_keepAct_12 rfl ?_
        refine j_icmp_ge (tgt := 39) hX dX11_keepAct_15 (by decide) (by omega) (by omega) (fun hc1 => ?_) (fun hc1 => ?_)
        · skip
          have hV2 := WS_sh hRS.2.2 h3 (by omega) (by omega)
          refine j_aload_n hX dX11_keepAct_39 rfl 0 rfl ?_
          refine j_dup hX dX11_keepAct_40 rfl ?_
          refine gf_X11_395 hX (by omega) (by omega) kc_210 dX11_keepAct_41 ?_
          refine j_top hk_1 ?_
          refine j_iconst hX dX11_keepAct_44 ?_
          refine j_isub hX dX11_keepAct_45 ?_
          refine pf_X11_395 hX (by omega) (by omega) kc_210 (by omega) dX11_keepAct_46 ?_
          refine j_up hI ro_210_50 (by omega) (by omega) (Or.inl (by omega)) (fun M3 w4 hw5 hM6 hI7 hf8 => ?_)
          have hV9 := WS_dp (M' := M3) hV2 (fun a b h => by rw [hM6]; exact up_ne (by omega))
          have hk10 := kp_up hM6 (fun h => absurd h.2 (by decide)) hk_0
          have hk11 := kp_up hM6 (fun h => absurd h.1 (by decide)) hk_2
          have hF12 := Fr.put hF hM6 (by omega)
          refine j_iconst hX dX11_keepAct_49 ?_
          refine j_istore_n (lv' := [(1, _), (0, _)]) hX dX11_keepAct_50 rfl (by rw [hnL]; decide) rfl ?_
          refine j_sub [1, 0] rfl ?_
          exact ih.2 _ _ _ (by omega) hI7 hF12 hk10 hf8 hk11 (WS_mono hV9 (by omega)) (by first | assumption | omega) (by first | exact CP_0 | assumption) (by omega) (by omega)
        · skip
          refine j_aload_n hX dX11_keepAct_18 rfl 0 rfl ?_
          refine gf_X11_116 hX (by omega) (by omega) kc_210 (fc_210_49 hI) (by decide) dX11_keepAct_19 ?_
          refine j_iload_n hX dX11_keepAct_22 rfl 1 rfl ?_
          refine j_aload_n hX dX11_keepAct_23 rfl 0 rfl ?_
          refine gf_X11_116 hX (by omega) (by omega) kc_210 (fc_210_49 hI) (by decide) dX11_keepAct_24 ?_
          refine j_iload_n hX dX11_keepAct_27 rfl 1 rfl ?_
          refine j_bipush hX dX11_keepAct_28 rfl ?_
          refine j_iadd hX dX11_keepAct_30 ?_
          refine j_iald hX (by omega) (by omega) kc_244 (by omega) (by omega) (by omega) dX11_keepAct_31 ?_
          refine j_name hI (rps _) (fun v13 hv14 hl15 hh16 => ?_)
          have hval : v13 = M.1 244 (16 + x1) := by rw [hv14, h4 _ (by omega), Int.add_comm x1 16]
          have hri := rAi x1
          refine j_iast hX (by omega) (by omega) kc_244 (by omega) (by omega) (by omega) (by omega) dX11_keepAct_32 ?_
          refine j_up hI (rpx_244 _) (by omega) (by omega) (Or.inl (by omega)) (fun M17 w18 hw19 hM20 hI21 hf22 => ?_)
          have hk23 := kp_up hM20 (fun h => absurd h.1 (by decide)) hk_0
          have hk24 := kp_up hM20 (fun h => absurd h.1 (by decide)) hk_1
          have hk25 := kp_up hM20 (fun h => absurd h.1 (by decide)) hk_2
          have hF26 := Fr.put hF hM20 (by omega)
          have hcp := CP_s h3 hM20 (by omega) (hw19.trans hval)
          have hcq : ∀ j, x1 + 1 ≤ j → M17.1 244 j = M.1 244 j := fun j hj => by rw [hM20, up_ne (by omega)]; exact h4 j (by omega)
          refine j_iinc (lv' := [(1, _), (0, _)]) hX dX11_keepAct_33 1 rfl (by rw [hnL]; decide) rfl ?_
          refine j_goto (tgt := 11) hX dX11_keepAct_36 (by decide) ?_
          refine j_sub [1, 0] rfl ?_
          exact ih.1 _ _ _ (by omega) hI21 hF26 hk23 hk24 hk25 (by first | assumption | omega) (by first | exact CP_0 | assumption) (by first | exact fun _ _ => rfl | assumption) (by omega) (by omega)
      · intro x1 ad Mc hxx1 hI hF hk_0 hk_1 hk_2 hV_0 h2 h3 hm0 hm1
        refine j_iload_n hX dX11_keepAct_51 rfl 1 rfl ?_
        refine j_bipush hX dX11_keepAct_52 rfl ?_
        refine j_icmp_ge (tgt := 83) hX dX11_keepAct_54 (by decide) (by omega) (by omega) (fun hc27 => ?_) (fun hc27 => ?_)
        · skip
          have hV28 := WS_add hV_0 h3 (by omega) hRS.1
          refine j_aload_n hX dX11_keepAct_83 rfl 0 rfl ?_
          refine j_dup hX dX11_keepAct_84 rfl ?_
          refine gf_X11_395 hX (by omega) (by omega) kc_210 dX11_keepAct_85 ?_
          refine j_top hk_1 ?_
          refine j_iconst hX dX11_keepAct_88 ?_
          refine j_iadd hX dX11_keepAct_89 ?_
          refine pf_X11_395 hX (by omega) (by omega) kc_210 (by omega) dX11_keepAct_90 ?_
          refine j_up hI ro_210_50 (by omega) (by omega) (Or.inl (by omega)) (fun M29 w30 hw31 hM32 hI33 hf34 => ?_)
          have hV35 := WS_dp (M' := M29) hV_0 (fun a b h => by rw [hM32]; exact up_ne (by omega))
          have hV36 := WS_dp (M' := M29) hV28 (fun a b h => by rw [hM32]; exact up_ne (by omega))
          have hk37 := kp_up hM32 (fun h => absurd h.2 (by decide)) hk_0
          have hk38 := kp_up hM32 (fun h => absurd h.1 (by decide)) hk_2
          have hF39 := Fr.put hF hM32 (by omega)
          refine j_aload_n hX dX11_keepAct_93 rfl 0 rfl ?_
          refine j_iconst hX dX11_keepAct_94 ?_
          refine pf_X11_398 hX (by omega) (by omega) kc_210 (by omega) dX11_keepAct_95 ?_
          refine j_up hI33 ro_210_51 (by omega) (by omega) (Or.inl (by omega)) (fun M40 w41 hw42 hM43 hI44 hf45 => ?_)
          have hV46 := WS_dp (M' := M40) hV35 (fun a b h => by rw [hM43]; exact up_ne (by omega))
          have hV47 := WS_dp (M' := M40) hV36 (fun a b h => by rw [hM43]; exact up_ne (by omega))
          have hk48 := kp_up hM43 (fun h => absurd h.2 (by decide)) hk37
          have hk49 := kp_up hM43 (fun h => absurd h.1 (by decide)) hk38
          have hk50 := kp_up hM43 (fun h => absurd h.2 (by decide)) hf34
          clear hk37 hk38 hf34
          have hF51 := Fr.put hF39 hM43 (by omega)
          exact hret _ _ _ dX11_keepAct_98 ⟨hI44, hF51, RS_mk (LQ_dp hRS.1 (fun a b h => hF51 a b (by omega))) hV47 (by omega) (by omega)⟩
        · skip
          refine j_aload_n hX dX11_keepAct_57 rfl 0 rfl ?_
          refine gf_X11_116 hX (by omega) (by omega) kc_210 (fc_210_49 hI) (by decide) dX11_keepAct_58 ?_
          refine j_bipush hX dX11_keepAct_61 rfl ?_
          refine j_aload_n hX dX11_keepAct_63 rfl 0 rfl ?_
          refine gf_X11_395 hX (by omega) (by omega) kc_210 dX11_keepAct_64 ?_
          refine j_top hk_1 ?_
          refine j_imul hX dX11_keepAct_67 ?_
          refine j_iload_n hX dX11_keepAct_68 rfl 1 rfl ?_
          refine j_iadd hX dX11_keepAct_69 ?_
          refine j_aload_n hX dX11_keepAct_70 rfl 0 rfl ?_
          refine gf_X11_110 hX (by omega) (by omega) kc_210 (fc_210_47 hI) (by decide) dX11_keepAct_71 ?_
          refine j_iload_n hX dX11_keepAct_74 rfl 1 rfl ?_
          refine j_iald hX (by omega) (by omega) kc_242 (by omega) (by omega) (by omega) dX11_keepAct_75 ?_
          refine j_name hI (rpx_242 _) (fun v52 hv53 hl54 hh55 => ?_)
          have hval : v52 = M.1 242 (0 + x1) := by rw [hv53, Int.zero_add]; exact hF _ _ (by omega)
          have hri := rAi x1
          refine j_iast hX (by omega) (by omega) kc_244 (by omega) (by omega) (by omega) (by omega) dX11_keepAct_76 ?_
          refine j_up hI (rpw _ _) (by omega) (by omega) (Or.inl (by omega)) (fun M56 w57 hw58 hM59 hI60 hf61 => ?_)
          have hk63 := kp_up hM59 (fun h => absurd h.1 (by decide)) hk_0
          have hk64 := kp_up hM59 (fun h => absurd h.1 (by decide)) hk_1
          have hk65 := kp_up hM59 (fun h => absurd h.1 (by decide)) hk_2
          have hF66 := Fr.put hF hM59 (by omega)
          have hcp := CP_s h3 hM59 (by omega) (hw58.trans hval)
          have hV67 := WS_up hV_0 hM59 (by omega)
          refine j_iinc (lv' := [(1, _), (0, _)]) hX dX11_keepAct_77 1 rfl (by rw [hnL]; decide) rfl ?_
          refine j_goto (tgt := 51) hX dX11_keepAct_80 (by decide) ?_
          refine j_sub [1, 0] rfl ?_
          exact ih.2 _ _ _ (by omega) hI60 hF66 hk63 hk64 hk65 (WS_mono hV67 (by omega)) (by first | assumption | omega) (by first | exact CP_0 | assumption) (by omega) (by omega)
  show J X B N 0 0 0 [(0, rv B 210)] [] M
  refine j_aload_n hX dX11_keepAct_0 rfl 0 rfl ?_
  refine gf_X11_395 hX (by omega) (by omega) kc_210 dX11_keepAct_1 ?_
  refine j_name hI ro_210_50 (fun v68 hv69 hl70 hh71 => ?_)
  have hk72 := hv69.symm
  refine j_bipush hX dX11_keepAct_4 rfl ?_
  refine j_icmp_ne (tgt := 49) hX dX11_keepAct_6 (by decide) (by omega) (by omega) (fun hc73 => ?_) (fun hc73 => ?_)
  · skip
    refine j_iconst hX dX11_keepAct_49 ?_
    refine j_istore_n (lv' := [(1, _), (0, _)]) hX dX11_keepAct_50 rfl (by rw [hnL]; decide) rfl ?_
    refine j_sub [1, 0] rfl ?_
    refine (cp (Int.toNat (64064 + 1))).2 _ _ _ (by omega) hI hF hbk hk72 hnr (WS_mono hRS.2.2 (by omega)) (by first | assumption | omega) (by first | exact CP_0 | assumption) ?_ ?_
    · omega
    · omega
  · skip
    refine j_iconst hX dX11_keepAct_9 ?_
    refine j_istore_n (lv' := [(1, _), (0, _)]) hX dX11_keepAct_10 rfl (by rw [hnL]; decide) rfl ?_
    refine j_sub [1, 0] rfl ?_
    refine (cp (Int.toNat (64064 + 1))).1 _ _ _ (by omega) hI hF hbk hk72 hnr (by first | assumption | omega) (by first | exact CP_0 | assumption) (by first | exact fun _ _ => rfl | assumption) ?_ ?_
    · omega
    · omega
set_option maxHeartbeats 2000000 in
set_option maxRecDepth 20000 in
theorem c_X11_exchange (l : Launch) (D : va_G) (cy : Nat → ClassId) (B N : Nat) (bk : Int) (t : Int) (ac : Int) (nr : Int) (M : MM) (hN : 257 ≤ N) (hI : Iv M) (hbk : M.1 210 40 = bk) (hac : M.1 210 50 = ac) (hnr : M.1 213 bk = nr) (hLP : LQ nr 242 0 M) (hWS : WS nr t M) (h1 : 0 ≤ ac ∧ ac < t ∧ t ≤ 40) : CV l D cy B N 1 yX11_exchange cX11_exchange 3 none [rv B 210] M (fun M' => Iv M' ∧ Fr (fun a b => (a = 244 ∧ 16 * ac ≤ b ∧ b ≤ 16 * ac + 15) ∨ (a = 242)) M M' ∧ (LQ nr 242 0 M') ∧ (WS nr t M')) := by
  refine mk_CV (by decide) (Nat.le_of_ble_eq_true rfl) ?_
  intro X exl exD excy hnL hX hret
  have hce : 0 + 0 ≤ (xR X).cells ∧ 0 + 0 ≤ (xR X).slots := ⟨Nat.zero_le _, Nat.zero_le _⟩
  have hF : Fr (fun a b => (a = 244 ∧ 16 * ac ≤ b ∧ b ≤ 16 * ac + 15) ∨ (a = 242)) M M := Fr.rf
  have hbk2 : 0 ≤ bk ∧ bk ≤ 1 := by have := hI.at 210 40 ro_210_40; omega
  have hnr2 : 0 ≤ nr ∧ nr ≤ 6 := by have := hI.at 213 bk (ra_213 _); omega
  have cp : ∀ n : Nat, (∀ (x1 : Int), ∀ (Mc : MM), I32 x1 → Iv Mc → Fr (fun a b => (a = 244 ∧ 16 * ac ≤ b ∧ b ≤ 16 * ac + 15) ∨ (a = 242)) M Mc → Mc.1 210 40 = bk → Mc.1 210 50 = ac → Mc.1 213 bk = nr → (0 ≤ x1 ∧ x1 ≤ 16) → (EX M Mc ac x1) → 0 ≤ 32 * (16 - x1) + 1 → 32 * (16 - x1) + 1 < (n : Int) → J X B N 0 0 2 [(0, rv B 210), (1, iv x1)] [] Mc) := by
    intro n
    induction n with
    | zero => exact by intros; exfalso; omega
    | succ n ih =>
      · intro x1 Mc hxx1 hI hF hk_0 hk_1 hk_2 h2 h3 hm0 hm1
        refine j_iload_n hX dX11_exchange_2 rfl 1 rfl ?_
        refine j_bipush hX dX11_exchange_3 rfl ?_
        refine j_icmp_ge (tgt := 56) hX dX11_exchange_5 (by decide) (by omega) (by omega) (fun hc1 => ?_) (fun hc1 => ?_)
        · skip
          exact hret _ _ _ dX11_exchange_56 ⟨hI, hF, EX_l h3 (by omega) (by omega) h1.2.1 hWS, EX_w h3 (by omega) hLP hWS hF (fun b h => by omega)⟩
        · skip
          refine j_aload_n hX dX11_exchange_8 rfl 0 rfl ?_
          refine gf_X11_116 hX (by omega) (by omega) kc_210 (fc_210_49 hI) (by decide) dX11_exchange_9 ?_
          refine j_bipush hX dX11_exchange_12 rfl ?_
          refine j_aload_n hX dX11_exchange_14 rfl 0 rfl ?_
          refine gf_X11_395 hX (by omega) (by omega) kc_210 dX11_exchange_15 ?_
          refine j_top hk_1 ?_
          refine j_imul hX dX11_exchange_18 ?_
          refine j_iload_n hX dX11_exchange_19 rfl 1 rfl ?_
          refine j_iadd hX dX11_exchange_20 ?_
          refine j_iald hX (by omega) (by omega) kc_244 (by omega) (by omega) (by omega) dX11_exchange_21 ?_
          refine j_name hI (rpw _ _) (fun v2 hv3 hl4 hh5 => ?_)
          have hq1 := hv3
          have hri := rAi x1
          refine j_istore_n (lv' := [(2, _), (0, _), (1, _)]) hX dX11_exchange_22 rfl (by rw [hnL]; decide) rfl ?_
          refine j_aload_n hX dX11_exchange_23 rfl 1 rfl ?_
          refine gf_X11_116 hX (by omega) (by omega) kc_210 (fc_210_49 hI) (by decide) dX11_exchange_24 ?_
          refine j_bipush hX dX11_exchange_27 rfl ?_
          refine j_aload_n hX dX11_exchange_29 rfl 1 rfl ?_
          refine gf_X11_395 hX (by omega) (by omega) kc_210 dX11_exchange_30 ?_
          refine j_top hk_1 ?_
          refine j_imul hX dX11_exchange_33 ?_
          refine j_iload_n hX dX11_exchange_34 rfl 2 rfl ?_
          refine j_iadd hX dX11_exchange_35 ?_
          refine j_aload_n hX dX11_exchange_36 rfl 1 rfl ?_
          refine gf_X11_110 hX (by omega) (by omega) kc_210 (fc_210_47 hI) (by decide) dX11_exchange_37 ?_
          refine j_iload_n hX dX11_exchange_40 rfl 2 rfl ?_
          refine j_iald hX (by omega) (by omega) kc_242 (by omega) (by omega) (by omega) dX11_exchange_41 ?_
          refine j_name hI (rpx_242 _) (fun v6 hv7 hl8 hh9 => ?_)
          have hq2 := hv7
          refine j_iast hX (by omega) (by omega) kc_244 (by omega) (by omega) (by omega) (by omega) dX11_exchange_42 ?_
          refine j_up hI (rpw _ _) (by omega) (by omega) (Or.inl (by omega)) (fun M10 w11 hw12 hM13 hI14 hf15 => ?_)
          have hk16 := kp_up hM13 (fun h => absurd h.1 (by decide)) hk_0
          have hk17 := kp_up hM13 (fun h => absurd h.1 (by decide)) hk_1
          have hk18 := kp_up hM13 (fun h => absurd h.1 (by decide)) hk_2
          have hF19 := Fr.put hF hM13 (by omega)
          have he1 := hM13
          have hr1 := hw12
          refine j_aload_n hX dX11_exchange_43 rfl 1 rfl ?_
          refine gf_X11_110 hX (by omega) (by omega) kc_210 (fc_210_47 hI14) (by decide) dX11_exchange_44 ?_
          refine j_iload_n hX dX11_exchange_47 rfl 2 rfl ?_
          refine j_iload_n hX dX11_exchange_48 rfl 0 rfl ?_
          refine j_iast hX (by omega) (by omega) kc_242 (by omega) (by omega) (by omega) (by omega) dX11_exchange_49 ?_
          refine j_up hI14 (rpx_242 _) (by omega) (by omega) (Or.inl (by omega)) (fun M20 w21 hw22 hM23 hI24 hf25 => ?_)
          have hk26 := kp_up hM23 (fun h => absurd h.1 (by decide)) hk16
          have hk27 := kp_up hM23 (fun h => absurd h.1 (by decide)) hk17
          have hk28 := kp_up hM23 (fun h => absurd h.1 (by decide)) hk18
          clear hk16 hk17 hk18
          have hF29 := Fr.put hF19 hM23 (by omega)
          have hex := EX_s h3 (by omega) (by omega) hq1 hq2 he1 hr1 hM23 hw22
          refine j_iinc (lv' := [(1, _), (2, _), (0, _)]) hX dX11_exchange_50 2 rfl (by rw [hnL]; decide) rfl ?_
          refine j_goto (tgt := 2) hX dX11_exchange_53 (by decide) ?_
          refine j_sub [2, 0] rfl ?_
          exact ih _ _ (by omega) hI24 hF29 hk26 hk27 hk28 (by first | assumption | omega) (by first | exact EX_0 | assumption) (by omega) (by omega)
  show J X B N 0 0 0 [(0, rv B 210)] [] M
  refine j_iconst hX dX11_exchange_0 ?_
  refine j_istore_n (lv' := [(1, _), (0, _)]) hX dX11_exchange_1 rfl (by rw [hnL]; decide) rfl ?_
  refine j_sub [1, 0] rfl ?_
  refine (cp (Int.toNat (576 + 1))) _ _ (by omega) hI hF hbk hac hnr (by first | assumption | omega) (by first | exact EX_0 | assumption) ?_ ?_
  · omega
  · omega
set_option maxHeartbeats 2000000 in
set_option maxRecDepth 20000 in
theorem c_X11_curtain (l : Launch) (D : va_G) (cy : Nat → ClassId) (B N : Nat) (bk : Int) (nr : Int) (a : Int) (M : MM) (hN : 257 ≤ N) (hI : Iv M) (hpa : I32 a) (hbk : M.1 210 40 = bk) (hnr : M.1 213 bk = nr) (hRS : RS nr M) : CI l D cy B N 3 yX11_curtain cX11_curtain 2 (some .int) [rv B 210, iv a] M (fun z M' => Iv M' ∧ Fr (fun a b => (a = 210 ∧ 50 ≤ b ∧ b ≤ 51) ∨ (a = 244) ∨ (242 ≤ a ∧ a ≤ 243)) M M' ∧ (RS nr M')) := by
  refine mk_CI (by decide) (Nat.le_of_ble_eq_true rfl) ?_
  intro X exl exD excy hnL hX hret
  have hce : 0 + 0 ≤ (xR X).cells ∧ 0 + 0 ≤ (xR X).slots := ⟨Nat.zero_le _, Nat.zero_le _⟩
  have hF : Fr (fun a b => (a = 210 ∧ 50 ≤ b ∧ b ≤ 51) ∨ (a = 244) ∨ (242 ≤ a ∧ a ≤ 243)) M M := Fr.rf
  have hbk2 : 0 ≤ bk ∧ bk ≤ 1 := by have := hI.at 210 40 ro_210_40; omega
  have hnr2 : 0 ≤ nr ∧ nr ≤ 6 := by have := hI.at 213 bk (ra_213 _); omega
  show J X B N 0 0 0 [(0, rv B 210), (1, iv a)] [] M
  refine j_aload_n hX dX11_curtain_0 rfl 0 rfl ?_
  refine j_iload_n hX dX11_curtain_1 rfl 1 rfl ?_
  refine j_callVI hX lk_X11_419 (c_X11_isRoom _ _ _ _ _ _ _ _ _ (by omega) hI (by omega) hbk hnr) (by omega) hce rfl rfl (by omega) (by omega) kc_210 rfl rfl (Nat.le_of_ble_eq_true rfl) dX11_curtain_2 (fun z1 M2 hz4 hp3 => ?_)
  obtain ⟨hE5, hb6, hq7⟩ := hp3
  replace hE5 := hE5.symm
  subst hE5
  refine j_if_ne (tgt := 10) hX dX11_curtain_5 (by decide) (by omega) (fun hc8 => ?_) (fun hc8 => ?_)
  · skip
    have hi9 := hq7 (by omega)
    clear hq7
    refine j_aload_n hX dX11_curtain_10 rfl 0 rfl ?_
    refine j_callVV hX lk_X11_435 (c_X11_keepAct _ _ _ _ _ _ _ _ (by omega) hI hbk hnr hRS) (by omega) hce rfl rfl (by omega) (by omega) kc_210 rfl rfl (Nat.le_of_ble_eq_true rfl) dX11_curtain_11 (fun M11 hp12 => ?_)
    obtain ⟨hI15, hG16, hq17⟩ := hp12
    have hk19 := kp_fr hG16 (by omega) hbk
    have hk20 := kp_fr hG16 (by omega) hnr
    have hF21 := Fr.trans hF hG16 (fun a b h => by omega)
    refine j_aload_n hX dX11_curtain_14 rfl 0 rfl ?_
    refine gf_X11_110 hX (by omega) (by omega) kc_210 (fc_210_47 hI15) (by decide) dX11_curtain_15 ?_
    refine j_bipush hX dX11_curtain_18 rfl ?_
    refine j_dup2 hX dX11_curtain_20 rfl rfl ?_
    refine j_iald hX (by omega) (by omega) kc_242 (by omega) (by omega) (by omega) dX11_curtain_21 ?_
    refine j_name hI15 ro_242_6 (fun v22 hv23 hl24 hh25 => ?_)
    have hk26 := hv23.symm
    refine j_iconst hX dX11_curtain_22 ?_
    refine j_iload_n hX dX11_curtain_23 rfl 1 rfl ?_
    refine j_ishl hX dX11_curtain_24 (fun z27 hz28 hy29 => ?_)
    refine j_ixor hX dX11_curtain_25 (fun z30 hz31 hy32 => ?_)
    refine j_iast hX (by omega) (by omega) kc_242 (by omega) (by omega) (by omega) (by omega) dX11_curtain_26 ?_
    refine j_up hI15 ro_242_6 (by omega) (by omega) (Or.inl (by omega)) (fun M33 w34 hw35 hM36 hI37 hf38 => ?_)
    have hV39 := RS_dp (M' := M33) hq17 (fun a b h => by rw [hM36]; exact up_ne (by omega))
    have hk40 := kp_up hM36 (by decide) hk19
    have hk41 := kp_up hM36 (fun h => absurd h.1 (by decide)) hk20
    clear hk19 hk20 hk26
    have hF42 := Fr.put hF21 hM36 (by omega)
    refine j_aload_n hX dX11_curtain_27 rfl 0 rfl ?_
    refine gf_X11_110 hX (by omega) (by omega) kc_210 (fc_210_47 hI37) (by decide) dX11_curtain_28 ?_
    refine j_bipush hX dX11_curtain_31 rfl ?_
    refine j_iald hX (by omega) (by omega) kc_242 (by omega) (by omega) (by omega) dX11_curtain_33 ?_
    refine j_top hf38 ?_
    refine j_iload_n hX dX11_curtain_34 rfl 1 rfl ?_
    refine j_ishr hX dX11_curtain_35 (fun z43 hz44 hy45 => ?_)
    refine j_iconst hX dX11_curtain_36 ?_
    refine j_iand hX dX11_curtain_37 (fun z46 hz47 hy48 => ?_)
    have ha49 := (and_f hz47 (by omega) (by omega)).2 (by omega)
    exact hret _ _ _ _ dX11_curtain_38 rfl (by omega) ⟨hI37, hF42, hV39⟩
  · skip
    clear hq7
    refine j_iconst hX dX11_curtain_8 ?_
    exact hret _ _ _ _ dX11_curtain_9 rfl (by omega) ⟨hI, hF, hRS⟩
set_option maxHeartbeats 2000000 in
set_option maxRecDepth 20000 in
theorem c_X11_swap (l : Launch) (D : va_G) (cy : Nat → ClassId) (B N : Nat) (bk : Int) (nr : Int) (a : Int) (b : Int) (M : MM) (hN : 257 ≤ N) (hI : Iv M) (hpa : I32 a) (hpb : I32 b) (hbk : M.1 210 40 = bk) (hnr : M.1 213 bk = nr) (hRS : RS nr M) : CI l D cy B N 3 yX11_swap cX11_swap 3 (some .int) [rv B 210, iv a, iv b] M (fun z M' => Iv M' ∧ Fr (fun a b => (a = 210 ∧ 50 ≤ b ∧ b ≤ 51) ∨ (a = 244) ∨ (242 ≤ a ∧ a ≤ 243)) M M' ∧ (RS nr M')) := by
  refine mk_CI (by decide) (Nat.le_of_ble_eq_true rfl) ?_
  intro X exl exD excy hnL hX hret
  have hce : 0 + 0 ≤ (xR X).cells ∧ 0 + 0 ≤ (xR X).slots := ⟨Nat.zero_le _, Nat.zero_le _⟩
  have hF : Fr (fun a b => (a = 210 ∧ 50 ≤ b ∧ b ≤ 51) ∨ (a = 244) ∨ (242 ≤ a ∧ a ≤ 243)) M M := Fr.rf
  have hbk2 : 0 ≤ bk ∧ bk ≤ 1 := by have := hI.at 210 40 ro_210_40; omega
  have hnr2 : 0 ≤ nr ∧ nr ≤ 6 := by have := hI.at 213 bk (ra_213 _); omega
  show J X B N 0 0 0 [(0, rv B 210), (1, iv a), (2, iv b)] [] M
  refine j_aload_n hX dX11_swap_0 rfl 0 rfl ?_
  refine j_iload_n hX dX11_swap_1 rfl 1 rfl ?_
  refine j_callVI hX lk_X11_419 (c_X11_isRoom _ _ _ _ _ _ _ _ _ (by omega) hI (by omega) hbk hnr) (by omega) hce rfl rfl (by omega) (by omega) kc_210 rfl rfl (Nat.le_of_ble_eq_true rfl) dX11_swap_2 (fun z1 M2 hz4 hp3 => ?_)
  obtain ⟨hE5, hb6, hq7⟩ := hp3
  replace hE5 := hE5.symm
  subst hE5
  refine j_if_eq (tgt := 21) hX dX11_swap_5 (by decide) (by omega) (fun hc8 => ?_) (fun hc8 => ?_)
  · skip
    clear hq7
    refine j_iconst hX dX11_swap_21 ?_
    exact hret _ _ _ _ dX11_swap_22 rfl (by omega) ⟨hI, hF, hRS⟩
  · skip
    have hi9 := hq7 (by omega)
    clear hq7
    refine j_aload_n hX dX11_swap_8 rfl 0 rfl ?_
    refine j_iload_n hX dX11_swap_9 rfl 2 rfl ?_
    refine j_callVI hX lk_X11_419 (c_X11_isRoom _ _ _ _ _ _ _ _ _ (by omega) hI (by omega) hbk hnr) (by omega) hce rfl rfl (by omega) (by omega) kc_210 rfl rfl (Nat.le_of_ble_eq_true rfl) dX11_swap_10 (fun z10 M11 hz13 hp12 => ?_)
    obtain ⟨hE14, hb15, hq16⟩ := hp12
    replace hE14 := hE14.symm
    subst hE14
    refine j_if_eq (tgt := 21) hX dX11_swap_13 (by decide) (by omega) (fun hc17 => ?_) (fun hc17 => ?_)
    · skip
      clear hq16
      refine j_iconst hX dX11_swap_21 ?_
      exact hret _ _ _ _ dX11_swap_22 rfl (by omega) ⟨hI, hF, hRS⟩
    · skip
      have hi18 := hq16 (by omega)
      clear hq16
      refine j_iload_n hX dX11_swap_16 rfl 1 rfl ?_
      refine j_iload_n hX dX11_swap_17 rfl 2 rfl ?_
      refine j_icmp_ne (tgt := 23) hX dX11_swap_18 (by decide) (by omega) (by omega) (fun hc19 => ?_) (fun hc19 => ?_)
      · skip
        refine j_aload_n hX dX11_swap_23 rfl 0 rfl ?_
        refine j_callVV hX lk_X11_435 (c_X11_keepAct _ _ _ _ _ _ _ _ (by omega) hI hbk hnr hRS) (by omega) hce rfl rfl (by omega) (by omega) kc_210 rfl rfl (Nat.le_of_ble_eq_true rfl) dX11_swap_24 (fun M21 hp22 => ?_)
        obtain ⟨hI25, hG26, hq27⟩ := hp22
        have hk29 := kp_fr hG26 (by omega) hbk
        have hk30 := kp_fr hG26 (by omega) hnr
        have hF31 := Fr.trans hF hG26 (fun a b h => by omega)
        refine j_aload_n hX dX11_swap_27 rfl 0 rfl ?_
        refine j_iload_n hX dX11_swap_28 rfl 1 rfl ?_
        refine j_iload_n hX dX11_swap_29 rfl 2 rfl ?_
        refine j_callVV hX lk_X11_438 (c_X11_swapBoth _ _ _ _ _ _ _ _ _ _ (by omega) hI25 (by omega) (by omega) hk29 hk30 hq27 (by first | assumption | omega)) (by omega) hce rfl rfl (by omega) (by omega) kc_210 rfl rfl (Nat.le_of_ble_eq_true rfl) dX11_swap_30 (fun M33 hp34 => ?_)
        obtain ⟨hI37, hG38, hq39⟩ := hp34
        have hk41 := kp_fr hG38 (by omega) hk29
        have hk42 := kp_fr hG38 (by omega) hk30
        clear hk29 hk30
        have hF43 := Fr.trans hF31 hG38 (fun a b h => by omega)
        refine j_aload_n hX dX11_swap_33 rfl 0 rfl ?_
        refine gf_X11_110 hX (by omega) (by omega) kc_210 (fc_210_47 hI37) (by decide) dX11_swap_34 ?_
        refine j_iconst hX dX11_swap_37 ?_
        refine j_iload_n hX dX11_swap_38 rfl 1 rfl ?_
        refine j_iadd hX dX11_swap_39 ?_
        refine j_iald hX (by omega) (by omega) kc_242 (by omega) (by omega) (by omega) dX11_swap_40 ?_
        refine j_name hI37 (rs_242 (by omega) (by omega)) (fun v44 hv45 hl46 hh47 => ?_)
        exact hret _ _ _ _ dX11_swap_41 rfl (by omega) ⟨hI37, hF43, hq39⟩
      · skip
        refine j_iconst hX dX11_swap_21 ?_
        exact hret _ _ _ _ dX11_swap_22 rfl (by omega) ⟨hI, hF, hRS⟩
set_option maxHeartbeats 2000000 in
set_option maxRecDepth 20000 in
theorem c_X11_cast (l : Launch) (D : va_G) (cy : Nat → ClassId) (B N : Nat) (bk : Int) (nr : Int) (M : MM) (hN : 257 ≤ N) (hI : Iv M) (hbk : M.1 210 40 = bk) (hnr : M.1 213 bk = nr) (hRS : RS nr M) : CI l D cy B N 2 yX11_cast cX11_cast 3 (some .int) [rv B 210] M (fun z M' => Iv M' ∧ Fr (fun a b => (a = 210 ∧ 50 ≤ b ∧ b ≤ 51) ∨ (a = 244) ∨ (242 ≤ a ∧ a ≤ 243)) M M' ∧ (RS nr M')) := by
  refine mk_CI (by decide) (Nat.le_of_ble_eq_true rfl) ?_
  intro X exl exD excy hnL hX hret
  have hce : 0 + 0 ≤ (xR X).cells ∧ 0 + 0 ≤ (xR X).slots := ⟨Nat.zero_le _, Nat.zero_le _⟩
  have hF : Fr (fun a b => (a = 210 ∧ 50 ≤ b ∧ b ≤ 51) ∨ (a = 244) ∨ (242 ≤ a ∧ a ≤ 243)) M M := Fr.rf
  have hbk2 : 0 ≤ bk ∧ bk ≤ 1 := by have := hI.at 210 40 ro_210_40; omega
  have hnr2 : 0 ≤ nr ∧ nr ≤ 6 := by have := hI.at 213 bk (ra_213 _); omega
  have cp : ∀ n : Nat, (∀ (x1 : Int), ∀ (Mc : MM), I32 x1 → Iv Mc → Fr (fun a b => (a = 210 ∧ 50 ≤ b ∧ b ≤ 51) ∨ (a = 244) ∨ (242 ≤ a ∧ a ≤ 243)) M Mc → Mc.1 210 40 = bk → Mc.1 213 bk = nr → RS nr Mc → (-1 ≤ x1 ∧ x1 < nr) → 0 ≤ 32 * (100 + x1) + 2 → 32 * (100 + x1) + 2 < (n : Int) → J X B N 0 0 11 [(0, rv B 210), (1, iv x1)] [] Mc) ∧ (∀ (x1 x2 : Int), ∀ (Mc : MM), I32 x1 → I32 x2 → Iv Mc → Fr (fun a b => (a = 210 ∧ 50 ≤ b ∧ b ≤ 51) ∨ (a = 244) ∨ (242 ≤ a ∧ a ≤ 243)) M Mc → Mc.1 210 40 = bk → Mc.1 213 bk = nr → RS nr Mc → (0 ≤ x2 ∧ x2 ≤ 6 ∧ 0 ≤ x1 ∧ x1 ≤ x2) → 0 ≤ 32 * (6 - x2) + 1 → 32 * (6 - x2) + 1 < (n : Int) → J X B N 0 0 66 [(0, rv B 210), (1, iv x1), (2, iv x2)] [] Mc) := by
    intro n
    induction n with
    | zero => exact ⟨by intros; exfalso; omega, by intros; exfalso; omega⟩
    | succ n ih =>
      refine ⟨?_, ?_⟩
      · intro x1 Mc hxx1 hI hF hk_0 hk_1 hV_0 h2 hm0 hm1
        refine j_iload_n hX dX11_cast_11 rfl 1 rfl ?_
        refine j_if_le (tgt := 62) hX dX11_cast_12 (by decide) (by omega) (fun hc1 => ?_) (fun hc1 => ?_)
        · skip
          refine j_iconst hX dX11_cast_62 ?_
          refine j_istore_n (lv' := [(1, _), (0, _)]) hX dX11_cast_63 rfl (by rw [hnL]; decide) rfl ?_
          refine j_iconst hX dX11_cast_64 ?_
          refine j_istore_n (lv' := [(2, _), (1, _), (0, _)]) hX dX11_cast_65 rfl (by rw [hnL]; decide) rfl ?_
          refine j_sub [2, 1, 0] rfl ?_
          exact ih.2 _ _ _ (by omega) (by omega) hI hF hk_0 hk_1 hV_0 (by first | assumption | omega) (by omega) (by omega)
        · skip
          refine j_aload_n hX dX11_cast_15 rfl 0 rfl ?_
          refine gf_X11_110 hX (by omega) (by omega) kc_210 (fc_210_47 hI) (by decide) dX11_cast_16 ?_
          refine j_bipush hX dX11_cast_19 rfl ?_
          refine j_sipush hX dX11_cast_21 rfl ?_
          refine j_aload_n hX dX11_cast_24 rfl 0 rfl ?_
          refine gf_X11_110 hX (by omega) (by omega) kc_210 (fc_210_47 hI) (by decide) dX11_cast_25 ?_
          refine j_bipush hX dX11_cast_28 rfl ?_
          refine j_iald hX (by omega) (by omega) kc_242 (by omega) (by omega) (by omega) dX11_cast_30 ?_
          refine j_name hI ro_242_15 (fun v2 hv3 hl4 hh5 => ?_)
          have hk6 := hv3.symm
          refine j_imul hX dX11_cast_31 ?_
          refine j_bipush hX dX11_cast_32 rfl ?_
          refine j_iadd hX dX11_cast_34 ?_
          refine j_sipush hX dX11_cast_35 rfl ?_
          refine j_irem hX dX11_cast_38 (by omega) (by omega) (by omega) (fun z7 hz8 hy9 => ?_)
          have ha10 := tmod_p hz8 (by omega) (by omega)
          refine j_iast hX (by omega) (by omega) kc_242 (by omega) (by omega) (by omega) (by omega) dX11_cast_39 ?_
          refine j_up hI ro_242_15 (by omega) (by omega) (Or.inl (by omega)) (fun M11 w12 hw13 hM14 hI15 hf16 => ?_)
          have hV17 := RS_dp (M' := M11) hV_0 (fun a b h => by rw [hM14]; exact up_ne (by omega))
          have hk18 := kp_up hM14 (by decide) hk_0
          have hk19 := kp_up hM14 (fun h => absurd h.1 (by decide)) hk_1
          clear hk6
          have hF20 := Fr.put hF hM14 (by omega)
          refine j_aload_n hX dX11_cast_40 rfl 0 rfl ?_
          refine j_iload_n hX dX11_cast_41 rfl 1 rfl ?_
          refine j_aload_n hX dX11_cast_42 rfl 0 rfl ?_
          refine gf_X11_110 hX (by omega) (by omega) kc_210 (fc_210_47 hI15) (by decide) dX11_cast_43 ?_
          refine j_bipush hX dX11_cast_46 rfl ?_
          refine j_iald hX (by omega) (by omega) kc_242 (by omega) (by omega) (by omega) dX11_cast_48 ?_
          refine j_top hf16 ?_
          refine j_iload_n hX dX11_cast_49 rfl 1 rfl ?_
          refine j_iconst hX dX11_cast_50 ?_
          refine j_iadd hX dX11_cast_51 ?_
          refine j_irem hX dX11_cast_52 (by omega) (by omega) (by omega) (fun z21 hz22 hy23 => ?_)
          have ha24 := tmod_p hz22 (by omega) (by omega)
          refine j_callVV hX lk_X11_438 (c_X11_swapBoth _ _ _ _ _ _ _ _ _ _ (by omega) hI15 (by omega) (by omega) hk18 hk19 hV17 (by first | assumption | omega)) (by omega) hce rfl rfl (by omega) (by omega) kc_210 rfl rfl (Nat.le_of_ble_eq_true rfl) dX11_cast_53 (fun M26 hp27 => ?_)
          obtain ⟨hI30, hG31, hq32⟩ := hp27
          have hk34 := kp_fr hG31 (by omega) hk18
          have hk35 := kp_fr hG31 (by omega) hk19
          have hk36 := kp_fr hG31 (by omega) hf16
          clear hk18 hk19 hf16
          have hF37 := Fr.trans hF20 hG31 (fun a b h => by omega)
          refine j_iinc (lv' := [(1, _), (0, _)]) hX dX11_cast_56 1 rfl (by rw [hnL]; decide) rfl ?_
          refine j_goto (tgt := 11) hX dX11_cast_59 (by decide) ?_
          refine j_sub [1, 0] rfl ?_
          exact ih.1 _ _ (by omega) hI30 hF37 hk34 hk35 hq32 (by first | assumption | omega) (by omega) (by omega)
      · intro x1 x2 Mc hxx1 hxx2 hI hF hk_0 hk_1 hV_0 h2 hm0 hm1
        refine j_iload_n hX dX11_cast_66 rfl 2 rfl ?_
        refine j_aload_n hX dX11_cast_67 rfl 0 rfl ?_
        refine j_callVI hX lk_X11_385 (c_X11_many _ _ _ _ _ _ _ _ (by omega) hI hk_0 hk_1) (by omega) hce rfl rfl (by omega) (by omega) kc_210 rfl rfl (Nat.le_of_ble_eq_true rfl) dX11_cast_68 (fun z38 M39 hz41 hp40 => ?_)
        obtain ⟨hE42, hq43⟩ := hp40
        replace hE42 := hE42.symm
        subst hE42
        refine j_icmp_ge (tgt := 100) hX dX11_cast_71 (by decide) (by omega) (by omega) (fun hc44 => ?_) (fun hc44 => ?_)
        · skip
          refine j_iload_n hX dX11_cast_100 rfl 1 rfl ?_
          exact hret _ _ _ _ dX11_cast_101 rfl (by omega) ⟨hI, hF, hV_0⟩
        · skip
          refine j_iload_n hX dX11_cast_74 rfl 1 rfl ?_
          refine j_aload_n hX dX11_cast_75 rfl 0 rfl ?_
          refine gf_X11_110 hX (by omega) (by omega) kc_210 (fc_210_47 hI) (by decide) dX11_cast_76 ?_
          refine j_iconst hX dX11_cast_79 ?_
          refine j_iload_n hX dX11_cast_80 rfl 2 rfl ?_
          refine j_iadd hX dX11_cast_81 ?_
          refine j_iald hX (by omega) (by omega) kc_242 (by omega) (by omega) (by omega) dX11_cast_82 ?_
          refine j_name hI (rs_242 (by omega) (by omega)) (fun v45 hv46 hl47 hh48 => ?_)
          refine j_iload_n hX dX11_cast_83 rfl 2 rfl ?_
          refine j_icmp_ne (tgt := 91) hX dX11_cast_84 (by decide) (by omega) (by omega) (fun hc49 => ?_) (fun hc49 => ?_)
          · skip
            refine j_iconst hX dX11_cast_91 ?_
            refine j_iadd hX dX11_cast_92 ?_
            refine j_istore_n (lv' := [(1, _), (0, _), (2, _)]) hX dX11_cast_93 rfl (by rw [hnL]; decide) rfl ?_
            refine j_iinc (lv' := [(2, _), (1, _), (0, _)]) hX dX11_cast_94 2 rfl (by rw [hnL]; decide) rfl ?_
            refine j_goto (tgt := 66) hX dX11_cast_97 (by decide) ?_
            refine j_sub [2, 1, 0] rfl ?_
            exact ih.2 _ _ _ (by omega) (by omega) hI hF hk_0 hk_1 hV_0 (by first | assumption | omega) (by omega) (by omega)
          · skip
            refine j_iconst hX dX11_cast_87 ?_
            refine j_goto (tgt := 92) hX dX11_cast_88 (by decide) ?_
            refine j_iadd hX dX11_cast_92 ?_
            refine j_istore_n (lv' := [(1, _), (0, _), (2, _)]) hX dX11_cast_93 rfl (by rw [hnL]; decide) rfl ?_
            refine j_iinc (lv' := [(2, _), (1, _), (0, _)]) hX dX11_cast_94 2 rfl (by rw [hnL]; decide) rfl ?_
            refine j_goto (tgt := 66) hX dX11_cast_97 (by decide) ?_
            refine j_sub [2, 1, 0] rfl ?_
            exact ih.2 _ _ _ (by omega) (by omega) hI hF hk_0 hk_1 hV_0 (by first | assumption | omega) (by omega) (by omega)
  show J X B N 0 0 0 [(0, rv B 210)] [] M
  refine j_aload_n hX dX11_cast_0 rfl 0 rfl ?_
  refine j_callVV hX lk_X11_435 (c_X11_keepAct _ _ _ _ _ _ _ _ (by omega) hI hbk hnr hRS) (by omega) hce rfl rfl (by omega) (by omega) kc_210 rfl rfl (Nat.le_of_ble_eq_true rfl) dX11_cast_1 (fun M51 hp52 => ?_)
  obtain ⟨hI55, hG56, hq57⟩ := hp52
  have hk59 := kp_fr hG56 (by omega) hbk
  have hk60 := kp_fr hG56 (by omega) hnr
  have hF61 := Fr.trans hF hG56 (fun a b h => by omega)
  refine j_aload_n hX dX11_cast_4 rfl 0 rfl ?_
  refine j_callVI hX lk_X11_385 (c_X11_many _ _ _ _ _ _ _ _ (by omega) hI55 hk59 hk60) (by omega) hce rfl rfl (by omega) (by omega) kc_210 rfl rfl (Nat.le_of_ble_eq_true rfl) dX11_cast_5 (fun z62 M63 hz65 hp64 => ?_)
  obtain ⟨hE66, hq67⟩ := hp64
  replace hE66 := hE66.symm
  subst hE66
  refine j_iconst hX dX11_cast_8 ?_
  refine j_isub hX dX11_cast_9 ?_
  refine j_istore_n (lv' := [(1, _), (0, _)]) hX dX11_cast_10 rfl (by rw [hnL]; decide) rfl ?_
  refine j_sub [1, 0] rfl ?_
  refine (cp (Int.toNat (6464 + 1))).1 _ _ (by omega) hI55 hF61 hk59 hk60 hq57 (by first | assumption | omega) ?_ ?_
  · omega
  · omega
set_option maxHeartbeats 2000000 in
set_option maxRecDepth 20000 in
theorem c_X11_hour (l : Launch) (D : va_G) (cy : Nat → ClassId) (B N : Nat) (bk : Int) (nr : Int) (M : MM) (hN : 257 ≤ N) (hI : Iv M) (hbk : M.1 210 40 = bk) (hnr : M.1 213 bk = nr) (hRS : RS nr M) : CI l D cy B N 4 yX11_hour cX11_hour 2 (some .int) [rv B 210] M (fun z M' => Iv M' ∧ Fr (fun a b => (a = 210 ∧ 50 ≤ b ∧ b ≤ 51) ∨ (a = 244) ∨ (242 ≤ a ∧ a ≤ 243)) M M' ∧ (RS nr M')) := by
  refine mk_CI (by decide) (Nat.le_of_ble_eq_true rfl) ?_
  intro X exl exD excy hnL hX hret
  have hce : 0 + 0 ≤ (xR X).cells ∧ 0 + 0 ≤ (xR X).slots := ⟨Nat.zero_le _, Nat.zero_le _⟩
  have hF : Fr (fun a b => (a = 210 ∧ 50 ≤ b ∧ b ≤ 51) ∨ (a = 244) ∨ (242 ≤ a ∧ a ≤ 243)) M M := Fr.rf
  have hbk2 : 0 ≤ bk ∧ bk ≤ 1 := by have := hI.at 210 40 ro_210_40; omega
  have hnr2 : 0 ≤ nr ∧ nr ≤ 6 := by have := hI.at 213 bk (ra_213 _); omega
  show J X B N 0 0 0 [(0, rv B 210)] [] M
  refine j_aload_n hX dX11_hour_0 rfl 0 rfl ?_
  refine gf_X11_110 hX (by omega) (by omega) kc_210 (fc_210_47 hI) (by decide) dX11_hour_1 ?_
  refine j_bipush hX dX11_hour_4 rfl ?_
  refine j_iald hX (by omega) (by omega) kc_242 (by omega) (by omega) (by omega) dX11_hour_6 ?_
  refine j_name hI ro_242_14 (fun v1 hv2 hl3 hh4 => ?_)
  have hk5 := hv2.symm
  refine j_sipush hX dX11_hour_7 rfl ?_
  refine j_icmp_le (tgt := 15) hX dX11_hour_10 (by decide) (by omega) (by omega) (fun hc6 => ?_) (fun hc6 => ?_)
  · skip
    refine j_aload_n hX dX11_hour_15 rfl 0 rfl ?_
    refine j_callVV hX lk_X11_435 (c_X11_keepAct _ _ _ _ _ _ _ _ (by omega) hI hbk hnr hRS) (by omega) hce rfl rfl (by omega) (by omega) kc_210 rfl rfl (Nat.le_of_ble_eq_true rfl) dX11_hour_16 (fun M8 hp9 => ?_)
    obtain ⟨hI12, hG13, hq14⟩ := hp9
    have hk16 := kp_fr hG13 (by omega) hbk
    have hk17 := kp_fr hG13 (by omega) hnr
    have hk18 := kp_fr hG13 (by omega) hk5
    clear hk5
    have hF19 := Fr.trans hF hG13 (fun a b h => by omega)
    refine j_aload_n hX dX11_hour_19 rfl 0 rfl ?_
    refine j_callVI hX lk_X11_441 (c_X11_knownToAll _ _ _ _ _ _ _ _ (by omega) hI12 hk16 hk17) (by omega) hce rfl rfl (by omega) (by omega) kc_210 rfl rfl (Nat.le_of_ble_eq_true rfl) dX11_hour_20 (fun z20 M21 hz23 hp22 => ?_)
    have hE24 := hp22.symm
    subst hE24
    refine j_istore_n (lv' := [(1, _), (0, _)]) hX dX11_hour_23 rfl (by rw [hnL]; decide) rfl ?_
    refine j_aload_n hX dX11_hour_24 rfl 1 rfl ?_
    refine j_callVV hX lk_X11_444 (c_X11_goHour _ _ _ _ _ _ _ _ (by omega) hI12 hk16 hk17) (by omega) hce rfl rfl (by omega) (by omega) kc_210 rfl rfl (Nat.le_of_ble_eq_true rfl) dX11_hour_25 (fun M26 hp27 => ?_)
    obtain ⟨hI30, hG31⟩ := hp27
    have hV32 := RS_dp hq14 (fun a b h => hG31 a b (by omega))
    have hk33 := kp_fr hG31 (by omega) hk16
    have hk34 := kp_fr hG31 (by omega) hk17
    clear hk16 hk17 hk18
    have hF35 := Fr.trans hF19 hG31 (fun a b h => by omega)
    refine j_aload_n hX dX11_hour_28 rfl 1 rfl ?_
    refine j_callVI hX lk_X11_441 (c_X11_knownToAll _ _ _ _ _ _ _ _ (by omega) hI30 hk33 hk34) (by omega) hce rfl rfl (by omega) (by omega) kc_210 rfl rfl (Nat.le_of_ble_eq_true rfl) dX11_hour_29 (fun z36 M37 hz39 hp38 => ?_)
    have hE40 := hp38.symm
    subst hE40
    refine j_iload_n hX dX11_hour_32 rfl 0 rfl ?_
    refine j_isub hX dX11_hour_33 ?_
    refine j_norm (fun z41 hz42 hy43 => ?_)
    exact hret _ _ _ _ dX11_hour_34 rfl (by omega) ⟨hI30, hF35, hV32⟩
  · skip
    refine j_iconst hX dX11_hour_13 ?_
    exact hret _ _ _ _ dX11_hour_14 rfl (by omega) ⟨hI, hF, hRS⟩
set_option maxHeartbeats 2000000 in
set_option maxRecDepth 20000 in
theorem c_X11_undo (l : Launch) (D : va_G) (cy : Nat → ClassId) (B N : Nat) (bk : Int) (nr : Int) (M : MM) (hN : 257 ≤ N) (hI : Iv M) (hbk : M.1 210 40 = bk) (hnr : M.1 213 bk = nr) (hRS : RS nr M) : CI l D cy B N 2 yX11_undo cX11_undo 1 (some .boolean) [rv B 210] M (fun z M' => Iv M' ∧ Fr (fun a b => (a = 210 ∧ 50 ≤ b ∧ b ≤ 51) ∨ (a = 244) ∨ (242 ≤ a ∧ a ≤ 243)) M M' ∧ (0 ≤ z ∧ z ≤ 1) ∧ (RS nr M')) := by
  refine mk_CI (by decide) (Nat.le_of_ble_eq_true rfl) ?_
  intro X exl exD excy hnL hX hret
  have hce : 0 + 0 ≤ (xR X).cells ∧ 0 + 0 ≤ (xR X).slots := ⟨Nat.zero_le _, Nat.zero_le _⟩
  have hF : Fr (fun a b => (a = 210 ∧ 50 ≤ b ∧ b ≤ 51) ∨ (a = 244) ∨ (242 ≤ a ∧ a ≤ 243)) M M := Fr.rf
  have hk1 : M.1 210 50 = M.1 210 50 := rfl
  have hk2 : M.1 210 51 = M.1 210 51 := rfl
  have hbk2 : 0 ≤ bk ∧ bk ≤ 1 := by have := hI.at 210 40 ro_210_40; omega
  have hnr2 : 0 ≤ nr ∧ nr ≤ 6 := by have := hI.at 213 bk (ra_213 _); omega
  have hle := hRS.2.1
  have hun := hI.at 210 51 ro_210_51
  have hac := hI.at 210 50 ro_210_50
  show J X B N 0 0 0 [(0, rv B 210)] [] M
  have hV3 := hRS.1
  have hV4 := hRS.2.2
  refine j_aload_n hX dX11_undo_0 rfl 0 rfl ?_
  refine gf_X11_395 hX (by omega) (by omega) kc_210 dX11_undo_1 ?_
  refine j_name hI ro_210_50 (fun v5 hv6 hl7 hh8 => ?_)
  have hk9 := hv6.symm
  refine j_if_ne (tgt := 9) hX dX11_undo_4 (by decide) (by omega) (fun hc10 => ?_) (fun hc10 => ?_)
  · skip
    refine j_aload_n hX dX11_undo_9 rfl 0 rfl ?_
    refine j_dup hX dX11_undo_10 rfl ?_
    refine gf_X11_395 hX (by omega) (by omega) kc_210 dX11_undo_11 ?_
    refine j_top hk9 ?_
    refine j_iconst hX dX11_undo_14 ?_
    refine j_isub hX dX11_undo_15 ?_
    refine pf_X11_395 hX (by omega) (by omega) kc_210 (by omega) dX11_undo_16 ?_
    refine j_up hI ro_210_50 (by omega) (by omega) (Or.inl (by omega)) (fun M11 w12 hw13 hM14 hI15 hf16 => ?_)
    have hV18 := LQ_dp (M' := M11) hV3 (fun a b h => by rw [hM14]; exact up_ne (by omega))
    have hV19 := WS_dp (M' := M11) hV4 (fun a b h => by rw [hM14]; exact up_ne (by omega))
    have hk20 := kp_up hM14 (fun h => absurd h.2 (by decide)) hbk
    have hk21 := kp_up hM14 (fun h => absurd h.1 (by decide)) hnr
    have hk22 := kp_up hM14 (fun h => absurd h.2 (by decide)) hk2
    clear hk9 hk2
    have hF23 := Fr.put hF hM14 (by omega)
    refine j_aload_n hX dX11_undo_19 rfl 0 rfl ?_
    refine j_dup hX dX11_undo_20 rfl ?_
    refine gf_X11_398 hX (by omega) (by omega) kc_210 dX11_undo_21 ?_
    refine j_name hI15 ro_210_51 (fun v24 hv25 hl26 hh27 => ?_)
    have hk28 := hv25.symm
    refine j_iconst hX dX11_undo_24 ?_
    refine j_iadd hX dX11_undo_25 ?_
    refine pf_X11_398 hX (by omega) (by omega) kc_210 (by omega) dX11_undo_26 ?_
    refine j_up hI15 ro_210_51 (by omega) (by omega) (Or.inl (by omega)) (fun M29 w30 hw31 hM32 hI33 hf34 => ?_)
    have hV35 := LQ_dp (M' := M29) hV18 (fun a b h => by rw [hM32]; exact up_ne (by omega))
    have hV36 := WS_dp (M' := M29) hV19 (fun a b h => by rw [hM32]; exact up_ne (by omega))
    have hk37 := kp_up hM32 (fun h => absurd h.2 (by decide)) hk20
    have hk38 := kp_up hM32 (fun h => absurd h.1 (by decide)) hk21
    have hk39 := kp_up hM32 (fun h => absurd h.2 (by decide)) hf16
    clear hk20 hk21 hk28 hf16
    have hF40 := Fr.put hF23 hM32 (by omega)
    refine j_aload_n hX dX11_undo_29 rfl 0 rfl ?_
    refine j_callVV hX lk_X11_447 (c_X11_exchange _ _ _ _ _ _ _ _ _ _ (by omega) hI33 hk37 hk39 hk38 hV35 hV36 (by first | assumption | omega)) (by omega) hce rfl rfl (by omega) (by omega) kc_210 rfl rfl (Nat.le_of_ble_eq_true rfl) dX11_undo_30 (fun M42 hp43 => ?_)
    obtain ⟨hI46, hG47, hq48, hq49⟩ := hp43
    have hk52 := kp_fr hG47 (by omega) hk37
    have hk53 := kp_fr hG47 (by omega) hk38
    have hk54 := kp_fr hG47 (by omega) hk39
    have hk55 := kp_fr hG47 (by omega) hf34
    clear hk37 hk38 hk39 hf34
    have hF56 := Fr.trans hF40 hG47 (fun a b h => by omega)
    refine j_iconst hX dX11_undo_33 ?_
    exact hret _ _ _ _ dX11_undo_34 (nb (by omega)) (by omega) ⟨hI46, hF56, by omega, by first | exact {g:RS} | exact RS_mk hq48 hq49 (by omega) (by omega)⟩
  · skip
    refine j_iconst hX dX11_undo_7 ?_
    exact hret _ _ _ _ dX11_undo_8 (nb (by omega)) (by omega) ⟨hI, hF, by omega, by first | exact hRS | exact RS_mk hV3 hV4 (by omega) (by omega)⟩
set_option maxHeartbeats 2000000 in
set_option maxRecDepth 20000 in
theorem c_X11_redo (l : Launch) (D : va_G) (cy : Nat → ClassId) (B N : Nat) (bk : Int) (nr : Int) (M : MM) (hN : 257 ≤ N) (hI : Iv M) (hbk : M.1 210 40 = bk) (hnr : M.1 213 bk = nr) (hRS : RS nr M) : CI l D cy B N 2 yX11_redo cX11_redo 1 (some .boolean) [rv B 210] M (fun z M' => Iv M' ∧ Fr (fun a b => (a = 210 ∧ 50 ≤ b ∧ b ≤ 51) ∨ (a = 244) ∨ (242 ≤ a ∧ a ≤ 243)) M M' ∧ (0 ≤ z ∧ z ≤ 1) ∧ (RS nr M')) := by
  refine mk_CI (by decide) (Nat.le_of_ble_eq_true rfl) ?_
  intro X exl exD excy hnL hX hret
  have hce : 0 + 0 ≤ (xR X).cells ∧ 0 + 0 ≤ (xR X).slots := ⟨Nat.zero_le _, Nat.zero_le _⟩
  have hF : Fr (fun a b => (a = 210 ∧ 50 ≤ b ∧ b ≤ 51) ∨ (a = 244) ∨ (242 ≤ a ∧ a ≤ 243)) M M := Fr.rf
  have hk1 : M.1 210 50 = M.1 210 50 := rfl
  have hk2 : M.1 210 51 = M.1 210 51 := rfl
  have hbk2 : 0 ≤ bk ∧ bk ≤ 1 := by have := hI.at 210 40 ro_210_40; omega
  have hnr2 : 0 ≤ nr ∧ nr ≤ 6 := by have := hI.at 213 bk (ra_213 _); omega
  have hle := hRS.2.1
  have hun := hI.at 210 51 ro_210_51
  have hac := hI.at 210 50 ro_210_50
  show J X B N 0 0 0 [(0, rv B 210)] [] M
  have hV3 := hRS.1
  have hV4 := hRS.2.2
  refine j_aload_n hX dX11_redo_0 rfl 0 rfl ?_
  refine gf_X11_398 hX (by omega) (by omega) kc_210 dX11_redo_1 ?_
  refine j_name hI ro_210_51 (fun v5 hv6 hl7 hh8 => ?_)
  have hk9 := hv6.symm
  refine j_if_ne (tgt := 9) hX dX11_redo_4 (by decide) (by omega) (fun hc10 => ?_) (fun hc10 => ?_)
  · skip
    refine j_aload_n hX dX11_redo_9 rfl 0 rfl ?_
    refine j_callVV hX lk_X11_447 (c_X11_exchange _ _ _ _ _ _ _ _ _ _ (by omega) hI hbk hk1 hnr hV3 hV4 (by first | assumption | omega)) (by omega) hce rfl rfl (by omega) (by omega) kc_210 rfl rfl (Nat.le_of_ble_eq_true rfl) dX11_redo_10 (fun M12 hp13 => ?_)
    obtain ⟨hI16, hG17, hq18, hq19⟩ := hp13
    have hk23 := kp_fr hG17 (by omega) hbk
    have hk24 := kp_fr hG17 (by omega) hnr
    have hk25 := kp_fr hG17 (by omega) hk1
    have hk26 := kp_fr hG17 (by omega) hk9
    clear hk1 hk9
    have hF27 := Fr.trans hF hG17 (fun a b h => by omega)
    refine j_aload_n hX dX11_redo_13 rfl 0 rfl ?_
    refine j_dup hX dX11_redo_14 rfl ?_
    refine gf_X11_395 hX (by omega) (by omega) kc_210 dX11_redo_15 ?_
    refine j_name hI16 ro_210_50 (fun v28 hv29 hl30 hh31 => ?_)
    have hk32 := hv29.symm
    refine j_iconst hX dX11_redo_18 ?_
    refine j_iadd hX dX11_redo_19 ?_
    refine pf_X11_395 hX (by omega) (by omega) kc_210 (by omega) dX11_redo_20 ?_
    refine j_up hI16 ro_210_50 (by omega) (by omega) (Or.inl (by omega)) (fun M33 w34 hw35 hM36 hI37 hf38 => ?_)
    have hV39 := LQ_dp (M' := M33) hq18 (fun a b h => by rw [hM36]; exact up_ne (by omega))
    have hV40 := WS_dp (M' := M33) hq19 (fun a b h => by rw [hM36]; exact up_ne (by omega))
    have hk41 := kp_up hM36 (fun h => absurd h.2 (by decide)) hk23
    have hk42 := kp_up hM36 (fun h => absurd h.1 (by decide)) hk24
    have hk43 := kp_up hM36 (fun h => absurd h.2 (by decide)) hk26
    clear hk23 hk24 hk32 hk26
    have hF44 := Fr.put hF27 hM36 (by omega)
    refine j_aload_n hX dX11_redo_23 rfl 0 rfl ?_
    refine j_dup hX dX11_redo_24 rfl ?_
    refine gf_X11_398 hX (by omega) (by omega) kc_210 dX11_redo_25 ?_
    refine j_top hk43 ?_
    refine j_iconst hX dX11_redo_28 ?_
    refine j_isub hX dX11_redo_29 ?_
    refine pf_X11_398 hX (by omega) (by omega) kc_210 (by omega) dX11_redo_30 ?_
    refine j_up hI37 ro_210_51 (by omega) (by omega) (Or.inl (by omega)) (fun M45 w46 hw47 hM48 hI49 hf50 => ?_)
    have hV51 := LQ_dp (M' := M45) hV39 (fun a b h => by rw [hM48]; exact up_ne (by omega))
    have hV52 := WS_dp (M' := M45) hV40 (fun a b h => by rw [hM48]; exact up_ne (by omega))
    have hk53 := kp_up hM48 (fun h => absurd h.2 (by decide)) hk41
    have hk54 := kp_up hM48 (fun h => absurd h.1 (by decide)) hk42
    have hk55 := kp_up hM48 (fun h => absurd h.2 (by decide)) hf38
    clear hk41 hk42 hk43 hf38
    have hF56 := Fr.put hF44 hM48 (by omega)
    refine j_iconst hX dX11_redo_33 ?_
    exact hret _ _ _ _ dX11_redo_34 (nb (by omega)) (by omega) ⟨hI49, hF56, by omega, by first | exact {g:RS} | exact RS_mk hV51 hV52 (by omega) (by omega)⟩
  · skip
    refine j_iconst hX dX11_redo_7 ?_
    exact hret _ _ _ _ dX11_redo_8 (nb (by omega)) (by omega) ⟨hI, hF, by omega, by first | exact hRS | exact RS_mk hV3 hV4 (by omega) (by omega)⟩
set_option maxHeartbeats 2000000 in
set_option maxRecDepth 20000 in
theorem c_X11_image (l : Launch) (D : va_G) (cy : Nat → ClassId) (B N : Nat) (bk : Int) (nr : Int) (d : Int) (M : MM) (hN : 257 ≤ N) (hI : Iv M) (hpd : I32 d) (hbk : M.1 210 40 = bk) (hnr : M.1 213 bk = nr) (hLP : LQ nr 242 0 M) (hBX : BX nr M) : CI l D cy B N 2 yX11_image cX11_image 3 (some .int) [rv B 210, iv d] M (fun z M' => Iv M' ∧ Fr (fun a b => (a = 255 ∧ 16 * d ≤ b ∧ b ≤ 16 * d + 15) ∨ (a = 256 ∧ d ≤ b ∧ b ≤ d)) M M' ∧ (BX nr M')) := by
  refine mk_CI (by decide) (Nat.le_of_ble_eq_true rfl) ?_
  intro X exl exD excy hnL hX hret
  have hce : 0 + 0 ≤ (xR X).cells ∧ 0 + 0 ≤ (xR X).slots := ⟨Nat.zero_le _, Nat.zero_le _⟩
  have hF : Fr (fun a b => (a = 255 ∧ 16 * d ≤ b ∧ b ≤ 16 * d + 15) ∨ (a = 256 ∧ d ≤ b ∧ b ≤ d)) M M := Fr.rf
  have hbk2 : 0 ≤ bk ∧ bk ≤ 1 := by have := hI.at 210 40 ro_210_40; omega
  have hnr2 : 0 ≤ nr ∧ nr ≤ 6 := by have := hI.at 213 bk (ra_213 _); omega
  have cp : ∀ n : Nat, (∀ (x2 : Int), ∀ (Mc : MM), I32 x2 → Iv Mc → Fr (fun a b => (a = 255 ∧ 16 * d ≤ b ∧ b ≤ 16 * d + 15) ∨ (a = 256 ∧ d ≤ b ∧ b ≤ d)) M Mc → Mc.1 210 40 = bk → Mc.1 213 bk = nr → (0 ≤ x2 ∧ x2 ≤ 16 ∧ 0 ≤ d ∧ d ≤ 2) → (CP M Mc 255 (16 * d) 242 0 x2) → 0 ≤ 32 * (16 - x2) + 1 → 32 * (16 - x2) + 1 < (n : Int) → J X B N 0 0 13 [(0, rv B 210), (1, iv d), (2, iv x2)] [] Mc) := by
    intro n
    induction n with
    | zero => exact by intros; exfalso; omega
    | succ n ih =>
      · intro x2 Mc hxx2 hI hF hk_0 hk_1 h2 h3 hm0 hm1
        refine j_iload_n hX dX11_image_13 rfl 2 rfl ?_
        refine j_bipush hX dX11_image_14 rfl ?_
        refine j_icmp_ge (tgt := 42) hX dX11_image_16 (by decide) (by omega) (by omega) (fun hc1 => ?_) (fun hc1 => ?_)
        · skip
          refine j_aload_n hX dX11_image_42 rfl 0 rfl ?_
          refine gf_X11_152 hX (by omega) (by omega) kc_210 (fc_210_67 hI) (by decide) dX11_image_43 ?_
          refine j_iload_n hX dX11_image_46 rfl 1 rfl ?_
          refine j_iconst hX dX11_image_47 ?_
          refine j_zast hX (by omega) (by omega) kc_256 (by omega) (by omega) (by omega) (by omega) dX11_image_48 ?_
          refine j_up hI (ra_256 _) (by omega) (by omega) (Or.inl (by omega)) (fun M2 w3 hw4 hM5 hI6 hf7 => ?_)
          have hk8 := kp_up hM5 (fun h => absurd h.1 (by decide)) hk_0
          have hk9 := kp_up hM5 (fun h => absurd h.1 (by decide)) hk_1
          have hF10 := Fr.put hF hM5 (by omega)
          have hcp2 := CP_up h3 hM5 (by decide)
          have hbx : BX nr M2 := BX_im hBX hLP (fun i p q => hcp2 i p (by omega)) hF10 (fun c b h => by omega)
          refine j_aload_n hX dX11_image_49 rfl 0 rfl ?_
          refine gf_X11_110 hX (by omega) (by omega) kc_210 (fc_210_47 hI6) (by decide) dX11_image_50 ?_
          refine j_bipush hX dX11_image_53 rfl ?_
          refine j_iald hX (by omega) (by omega) kc_242 (by omega) (by omega) (by omega) dX11_image_55 ?_
          refine j_name hI6 ro_242_14 (fun v11 hv12 hl13 hh14 => ?_)
          have hk15 := hv12.symm
          exact hret _ _ _ _ dX11_image_56 rfl (by omega) ⟨hI6, hF10, by first | exact hbx | exact hBX⟩
        · skip
          refine j_aload_n hX dX11_image_19 rfl 0 rfl ?_
          refine gf_X11_149 hX (by omega) (by omega) kc_210 (fc_210_66 hI) (by decide) dX11_image_20 ?_
          refine j_bipush hX dX11_image_23 rfl ?_
          refine j_iload_n hX dX11_image_25 rfl 1 rfl ?_
          refine j_imul hX dX11_image_26 ?_
          refine j_iload_n hX dX11_image_27 rfl 2 rfl ?_
          refine j_iadd hX dX11_image_28 ?_
          refine j_aload_n hX dX11_image_29 rfl 0 rfl ?_
          refine gf_X11_110 hX (by omega) (by omega) kc_210 (fc_210_47 hI) (by decide) dX11_image_30 ?_
          refine j_iload_n hX dX11_image_33 rfl 2 rfl ?_
          refine j_iald hX (by omega) (by omega) kc_242 (by omega) (by omega) (by omega) dX11_image_34 ?_
          refine j_name hI (rpx_242 _) (fun v16 hv17 hl18 hh19 => ?_)
          have hval : v16 = M.1 242 (0 + x2) := by rw [hv17, Int.zero_add]; exact hF _ _ (by omega)
          have hri := rAi x2
          refine j_iast hX (by omega) (by omega) kc_255 (by omega) (by omega) (by omega) (by omega) dX11_image_35 ?_
          refine j_up hI (rpb _ _) (by omega) (by omega) (Or.inl (by omega)) (fun M20 w21 hw22 hM23 hI24 hf25 => ?_)
          have hk26 := kp_up hM23 (fun h => absurd h.1 (by decide)) hk_0
          have hk27 := kp_up hM23 (fun h => absurd h.1 (by decide)) hk_1
          have hF28 := Fr.put hF hM23 (by omega)
          have hcp := CP_s h3 hM23 (by omega) (hw22.trans hval)
          refine j_iinc (lv' := [(2, _), (0, _), (1, _)]) hX dX11_image_36 2 rfl (by rw [hnL]; decide) rfl ?_
          refine j_goto (tgt := 13) hX dX11_image_39 (by decide) ?_
          refine j_sub [1, 2, 0] rfl ?_
          exact ih _ _ (by omega) hI24 hF28 hk26 hk27 (by first | assumption | omega) (by first | exact CP_0 | assumption) (by omega) (by omega)
  show J X B N 0 0 0 [(0, rv B 210), (1, iv d)] [] M
  refine j_iload_n hX dX11_image_0 rfl 1 rfl ?_
  refine j_iconst hX dX11_image_1 ?_
  refine j_iconst hX dX11_image_2 ?_
  refine j_callSI hX lk_X11_388 (c_X11_isIn _ _ _ _ _ _ _ _ _ (by omega) (by omega) (by omega)) (by omega) hce rfl rfl (Nat.le_of_ble_eq_true rfl) dX11_image_3 (fun z29 M30 hz32 hp31 => ?_)
  obtain ⟨hE33, hb34, hq35, hq36⟩ := hp31
  replace hE33 := hE33.symm
  subst hE33
  refine j_if_ne (tgt := 11) hX dX11_image_6 (by decide) (by omega) (fun hc37 => ?_) (fun hc37 => ?_)
  · skip
    have hi38 := hq35 (by omega)
    clear hq35
    clear hq36
    refine j_iconst hX dX11_image_11 ?_
    refine j_istore_n (lv' := [(2, _), (0, _), (1, _)]) hX dX11_image_12 rfl (by rw [hnL]; decide) rfl ?_
    refine j_sub [1, 2, 0] rfl ?_
    refine (cp (Int.toNat (576 + 1))) _ _ (by omega) hI hF hbk hnr (by first | assumption | omega) (by first | exact CP_0 | assumption) ?_ ?_
    · omega
    · omega
  · skip
    clear hq35
    have hi39 := hq36 (by omega)
    clear hq36
    refine j_iconst hX dX11_image_9 ?_
    exact hret _ _ _ _ dX11_image_10 rfl (by omega) ⟨hI, hF, by first | exact hbx | exact hBX⟩
set_option maxHeartbeats 2000000 in
set_option maxRecDepth 20000 in
theorem c_X11_back (l : Launch) (D : va_G) (cy : Nat → ClassId) (B N : Nat) (bk : Int) (nr : Int) (a : Int) (M : MM) (hN : 257 ≤ N) (hI : Iv M) (hpa : I32 a) (hbk : M.1 210 40 = bk) (hnr : M.1 213 bk = nr) (hRS : RS nr M) (hBX : BX nr M) : CI l D cy B N 2 yX11_back cX11_back 3 (some .int) [rv B 210, iv a] M (fun z M' => Iv M' ∧ Fr (fun a b => (a = 210 ∧ 50 ≤ b ∧ b ≤ 51) ∨ (a = 242)) M M' ∧ (RS nr M')) := by
  refine mk_CI (by decide) (Nat.le_of_ble_eq_true rfl) ?_
  intro X exl exD excy hnL hX hret
  have hce : 0 + 0 ≤ (xR X).cells ∧ 0 + 0 ≤ (xR X).slots := ⟨Nat.zero_le _, Nat.zero_le _⟩
  have hF : Fr (fun a b => (a = 210 ∧ 50 ≤ b ∧ b ≤ 51) ∨ (a = 242)) M M := Fr.rf
  have hbk2 : 0 ≤ bk ∧ bk ≤ 1 := by have := hI.at 210 40 ro_210_40; omega
  have hnr2 : 0 ≤ nr ∧ nr ≤ 6 := by have := hI.at 213 bk (ra_213 _); omega
  have cp : ∀ n : Nat, (∀ (x2 : Int), ∀ (Mc : MM), I32 x2 → Iv Mc → Fr (fun a b => (a = 210 ∧ 50 ≤ b ∧ b ≤ 51) ∨ (a = 242)) M Mc → Mc.1 210 40 = bk → Mc.1 213 bk = nr → (0 ≤ x2 ∧ x2 ≤ 16 ∧ 0 ≤ a ∧ a ≤ 2 ∧ M.1 256 a = 1) → (CP M Mc 242 0 255 (16 * a) x2) → 0 ≤ 32 * (16 - x2) + 1 → 32 * (16 - x2) + 1 < (n : Int) → J X B N 0 0 22 [(0, rv B 210), (1, iv a), (2, iv x2)] [] Mc) := by
    intro n
    induction n with
    | zero => exact by intros; exfalso; omega
    | succ n ih =>
      · intro x2 Mc hxx2 hI hF hk_0 hk_1 h2 h3 hm0 hm1
        refine j_iload_n hX dX11_back_22 rfl 2 rfl ?_
        refine j_bipush hX dX11_back_23 rfl ?_
        refine j_icmp_ge (tgt := 51) hX dX11_back_25 (by decide) (by omega) (by omega) (fun hc1 => ?_) (fun hc1 => ?_)
        · skip
          have hV2 := LQ_cp (hBX a (by omega) (by omega) (by omega)) (fun i p q => h3 i p (by omega))
          refine j_aload_n hX dX11_back_51 rfl 0 rfl ?_
          refine j_iconst hX dX11_back_52 ?_
          refine pf_X11_395 hX (by omega) (by omega) kc_210 (by omega) dX11_back_53 ?_
          refine j_up hI ro_210_50 (by omega) (by omega) (Or.inl (by omega)) (fun M3 w4 hw5 hM6 hI7 hf8 => ?_)
          have hV9 := LQ_dp (M' := M3) hV2 (fun a b h => by rw [hM6]; exact up_ne (by omega))
          have hk10 := kp_up hM6 (fun h => absurd h.2 (by decide)) hk_0
          have hk11 := kp_up hM6 (fun h => absurd h.1 (by decide)) hk_1
          have hF12 := Fr.put hF hM6 (by omega)
          refine j_aload_n hX dX11_back_56 rfl 0 rfl ?_
          refine j_iconst hX dX11_back_57 ?_
          refine pf_X11_398 hX (by omega) (by omega) kc_210 (by omega) dX11_back_58 ?_
          refine j_up hI7 ro_210_51 (by omega) (by omega) (Or.inl (by omega)) (fun M13 w14 hw15 hM16 hI17 hf18 => ?_)
          have hV19 := LQ_dp (M' := M13) hV9 (fun a b h => by rw [hM16]; exact up_ne (by omega))
          have hk20 := kp_up hM16 (fun h => absurd h.2 (by decide)) hk10
          have hk21 := kp_up hM16 (fun h => absurd h.1 (by decide)) hk11
          have hk22 := kp_up hM16 (fun h => absurd h.2 (by decide)) hf8
          clear hk10 hk11 hf8
          have hF23 := Fr.put hF12 hM16 (by omega)
          refine j_aload_n hX dX11_back_61 rfl 0 rfl ?_
          refine gf_X11_110 hX (by omega) (by omega) kc_210 (fc_210_47 hI17) (by decide) dX11_back_62 ?_
          refine j_bipush hX dX11_back_65 rfl ?_
          refine j_iald hX (by omega) (by omega) kc_242 (by omega) (by omega) (by omega) dX11_back_67 ?_
          refine j_name hI17 ro_242_14 (fun v24 hv25 hl26 hh27 => ?_)
          have hk28 := hv25.symm
          exact hret _ _ _ _ dX11_back_68 rfl (by omega) ⟨hI17, hF23, by first | exact hRS | exact RS_mk hV19 WS_0 (by omega) (by omega)⟩
        · skip
          refine j_aload_n hX dX11_back_28 rfl 0 rfl ?_
          refine gf_X11_110 hX (by omega) (by omega) kc_210 (fc_210_47 hI) (by decide) dX11_back_29 ?_
          refine j_iload_n hX dX11_back_32 rfl 2 rfl ?_
          refine j_aload_n hX dX11_back_33 rfl 0 rfl ?_
          refine gf_X11_149 hX (by omega) (by omega) kc_210 (fc_210_66 hI) (by decide) dX11_back_34 ?_
          refine j_bipush hX dX11_back_37 rfl ?_
          refine j_iload_n hX dX11_back_39 rfl 1 rfl ?_
          refine j_imul hX dX11_back_40 ?_
          refine j_iload_n hX dX11_back_41 rfl 2 rfl ?_
          refine j_iadd hX dX11_back_42 ?_
          refine j_iald hX (by omega) (by omega) kc_255 (by omega) (by omega) (by omega) dX11_back_43 ?_
          refine j_name hI (rpb _ _) (fun v29 hv30 hl31 hh32 => ?_)
          have hval : v29 = M.1 255 (16 * a + x2) := by rw [hv30]; exact hF _ _ (by omega)
          have hri := rAi x2
          refine j_iast hX (by omega) (by omega) kc_242 (by omega) (by omega) (by omega) (by omega) dX11_back_44 ?_
          refine j_up hI (rpx_242 _) (by omega) (by omega) (Or.inl (by omega)) (fun M33 w34 hw35 hM36 hI37 hf38 => ?_)
          have hk39 := kp_up hM36 (fun h => absurd h.1 (by decide)) hk_0
          have hk40 := kp_up hM36 (fun h => absurd h.1 (by decide)) hk_1
          have hF41 := Fr.put hF hM36 (by omega)
          have hcp := CP_s h3 hM36 (by omega) (hw35.trans hval)
          refine j_iinc (lv' := [(2, _), (0, _), (1, _)]) hX dX11_back_45 2 rfl (by rw [hnL]; decide) rfl ?_
          refine j_goto (tgt := 22) hX dX11_back_48 (by decide) ?_
          refine j_sub [1, 2, 0] rfl ?_
          exact ih _ _ (by omega) hI37 hF41 hk39 hk40 (by first | assumption | omega) (by first | exact CP_0 | assumption) (by omega) (by omega)
  show J X B N 0 0 0 [(0, rv B 210), (1, iv a)] [] M
  refine j_iload_n hX dX11_back_0 rfl 1 rfl ?_
  refine j_iconst hX dX11_back_1 ?_
  refine j_iconst hX dX11_back_2 ?_
  refine j_callSI hX lk_X11_388 (c_X11_isIn _ _ _ _ _ _ _ _ _ (by omega) (by omega) (by omega)) (by omega) hce rfl rfl (Nat.le_of_ble_eq_true rfl) dX11_back_3 (fun z42 M43 hz45 hp44 => ?_)
  obtain ⟨hE46, hb47, hq48, hq49⟩ := hp44
  replace hE46 := hE46.symm
  subst hE46
  refine j_if_eq (tgt := 18) hX dX11_back_6 (by decide) (by omega) (fun hc50 => ?_) (fun hc50 => ?_)
  · skip
    clear hq48
    have hi51 := hq49 (by omega)
    clear hq49
    refine j_iconst hX dX11_back_18 ?_
    exact hret _ _ _ _ dX11_back_19 rfl (by omega) ⟨hI, hF, by first | exact hRS | exact RS_mk {g:LPA} WS_0 (by omega) (by omega)⟩
  · skip
    have hi52 := hq48 (by omega)
    clear hq48
    clear hq49
    refine j_aload_n hX dX11_back_9 rfl 0 rfl ?_
    refine gf_X11_152 hX (by omega) (by omega) kc_210 (fc_210_67 hI) (by decide) dX11_back_10 ?_
    refine j_iload_n hX dX11_back_13 rfl 1 rfl ?_
    refine j_zald hX (by omega) (by omega) kc_256 (by omega) (by omega) (by omega) dX11_back_14 ?_
    refine j_name hI (ra_256 _) (fun v53 hv54 hl55 hh56 => ?_)
    refine j_if_ne (tgt := 20) hX dX11_back_15 (by decide) (by omega) (fun hc57 => ?_) (fun hc57 => ?_)
    · skip
      refine j_iconst hX dX11_back_20 ?_
      refine j_istore_n (lv' := [(2, _), (0, _), (1, _)]) hX dX11_back_21 rfl (by rw [hnL]; decide) rfl ?_
      refine j_sub [1, 2, 0] rfl ?_
      refine (cp (Int.toNat (576 + 1))) _ _ (by omega) hI hF hbk hnr (by first | assumption | omega) (by first | exact CP_0 | assumption) ?_ ?_
      · omega
      · omega
    · skip
      refine j_iconst hX dX11_back_18 ?_
      exact hret _ _ _ _ dX11_back_19 rfl (by omega) ⟨hI, hF, by first | exact hRS | exact RS_mk {g:LPA} WS_0 (by omega) (by omega)⟩
set_option maxHeartbeats 2000000 in
set_option maxRecDepth 20000 in
theorem c_X11_startAnew (l : Launch) (D : va_G) (cy : Nat → ClassId) (B N : Nat) (bk : Int) (nr : Int) (M : MM) (hN : 257 ≤ N) (hI : Iv M) (hbk : M.1 210 40 = bk) (hnr : M.1 213 bk = nr) (hLT : M.1 231 bk = 1 → LQ nr 222 (6 * bk) M) : CV l D cy B N 2 yX11_startAnew cX11_startAnew 2 none [rv B 210] M (fun M' => Iv M' ∧ Fr (fun a b => (a = 242) ∨ (a = 247) ∨ (a = 210 ∧ 50 ≤ b ∧ b ≤ 54) ∨ (a = 210 ∧ 63 ≤ b ∧ b ≤ 63) ∨ (a = 256)) M M' ∧ (RS nr M') ∧ (BX nr M')) := by
  refine mk_CV (by decide) (Nat.le_of_ble_eq_true rfl) ?_
  intro X exl exD excy hnL hX hret
  have hce : 0 + 0 ≤ (xR X).cells ∧ 0 + 0 ≤ (xR X).slots := ⟨Nat.zero_le _, Nat.zero_le _⟩
  have hF : Fr (fun a b => (a = 242) ∨ (a = 247) ∨ (a = 210 ∧ 50 ≤ b ∧ b ≤ 54) ∨ (a = 210 ∧ 63 ≤ b ∧ b ≤ 63) ∨ (a = 256)) M M := Fr.rf
  have hbk2 : 0 ≤ bk ∧ bk ≤ 1 := by have := hI.at 210 40 ro_210_40; omega
  have hnr2 : 0 ≤ nr ∧ nr ≤ 6 := by have := hI.at 213 bk (ra_213 _); omega
  have hl2 := hI.at 231 bk (ra_231 _)
  have cp : ∀ n : Nat, (∀ (x1 : Int), ∀ (Mc : MM), I32 x1 → Iv Mc → Fr (fun a b => (a = 242) ∨ (a = 247) ∨ (a = 210 ∧ 50 ≤ b ∧ b ≤ 54) ∨ (a = 210 ∧ 63 ≤ b ∧ b ≤ 63) ∨ (a = 256)) M Mc → Mc.1 210 40 = bk → Mc.1 213 bk = nr → (0 ≤ x1 ∧ x1 ≤ 16) → 0 ≤ 32 * (1000 + 16 - x1) + 4 → 32 * (1000 + 16 - x1) + 4 < (n : Int) → J X B N 0 0 2 [(0, rv B 210), (1, iv x1)] [] Mc) ∧ (∀ (x1 : Int), ∀ (Mc : MM), I32 x1 → Iv Mc → Fr (fun a b => (a = 242) ∨ (a = 247) ∨ (a = 210 ∧ 50 ≤ b ∧ b ≤ 54) ∨ (a = 210 ∧ 63 ≤ b ∧ b ≤ 63) ∨ (a = 256)) M Mc → Mc.1 210 40 = bk → Mc.1 213 bk = nr → (0 ≤ x1 ∧ x1 ≤ 6) → (SA M Mc bk nr x1) → 0 ≤ 32 * (500 + 6 - x1) + 3 → 32 * (500 + 6 - x1) + 3 < (n : Int) → J X B N 0 0 23 [(0, rv B 210), (1, iv x1)] [] Mc) ∧ (∀ (x1 : Int), ∀ (Mc : MM), I32 x1 → Iv Mc → Fr (fun a b => (a = 242) ∨ (a = 247) ∨ (a = 210 ∧ 50 ≤ b ∧ b ≤ 54) ∨ (a = 210 ∧ 63 ≤ b ∧ b ≤ 63) ∨ (a = 256)) M Mc → Mc.1 210 40 = bk → Mc.1 213 bk = nr → LQ nr 242 0 Mc → (0 ≤ x1 ∧ x1 ≤ 6) → 0 ≤ 32 * (100 + 6 - x1) + 2 → 32 * (100 + 6 - x1) + 2 < (n : Int) → J X B N 0 0 130 [(0, rv B 210), (1, iv x1)] [] Mc) ∧ (∀ (x1 : Int), ∀ (k0 k1 : Int), ∀ (Mc : MM), I32 x1 → Iv Mc → Fr (fun a b => (a = 242) ∨ (a = 247) ∨ (a = 210 ∧ 50 ≤ b ∧ b ≤ 54) ∨ (a = 210 ∧ 63 ≤ b ∧ b ≤ 63) ∨ (a = 256)) M Mc → Mc.1 210 40 = bk → Mc.1 210 50 = k0 → Mc.1 210 51 = k1 → Mc.1 213 bk = nr → LQ nr 242 0 Mc → (0 ≤ x1 ∧ x1 ≤ 3 ∧ k0 = 0 ∧ k1 = 0) → (∀ k, 0 ≤ k → k < x1 → Mc.1 256 k = 0) → 0 ≤ 32 * (3 - x1) + 1 → 32 * (3 - x1) + 1 < (n : Int) → J X B N 0 0 171 [(0, rv B 210), (1, iv x1)] [] Mc) := by
    intro n
    induction n with
    | zero => exact ⟨by intros; exfalso; omega, by intros; exfalso; omega, by intros; exfalso; omega, by intros; exfalso; omega⟩
    | succ n ih =>
      refine ⟨?_, ?_, ?_, ?_⟩
      · intro x1 Mc hxx1 hI hF hk_0 hk_1 h2 hm0 hm1
        refine j_iload_n hX dX11_startAnew_2 rfl 1 rfl ?_
        refine j_bipush hX dX11_startAnew_3 rfl ?_
        refine j_icmp_ge (tgt := 21) hX dX11_startAnew_5 (by decide) (by omega) (by omega) (fun hc1 => ?_) (fun hc1 => ?_)
        · skip
          refine j_iconst hX dX11_startAnew_21 ?_
          refine j_istore_n (lv' := [(1, _), (0, _)]) hX dX11_startAnew_22 rfl (by rw [hnL]; decide) rfl ?_
          refine j_sub [1, 0] rfl ?_
          exact ih.2.1 _ _ (by omega) hI hF hk_0 hk_1 (by first | assumption | omega) (by first | exact SA_0 | assumption) (by omega) (by omega)
        · skip
          refine j_aload_n hX dX11_startAnew_8 rfl 0 rfl ?_
          refine gf_X11_110 hX (by omega) (by omega) kc_210 (fc_210_47 hI) (by decide) dX11_startAnew_9 ?_
          refine j_iload_n hX dX11_startAnew_12 rfl 1 rfl ?_
          have hr0 := rA0 x1
          refine j_iconst hX dX11_startAnew_13 ?_
          refine j_iast hX (by omega) (by omega) kc_242 (by omega) (by omega) (by omega) (by omega) dX11_startAnew_14 ?_
          refine j_up hI (rpx_242 _) (by omega) (by omega) (Or.inl (by omega)) (fun M2 w3 hw4 hM5 hI6 hf7 => ?_)
          have hk8 := kp_up hM5 (fun h => absurd h.1 (by decide)) hk_0
          have hk9 := kp_up hM5 (fun h => absurd h.1 (by decide)) hk_1
          have hF10 := Fr.put hF hM5 (by omega)
          refine j_iinc (lv' := [(1, _), (0, _)]) hX dX11_startAnew_15 1 rfl (by rw [hnL]; decide) rfl ?_
          refine j_goto (tgt := 2) hX dX11_startAnew_18 (by decide) ?_
          refine j_sub [1, 0] rfl ?_
          exact ih.1 _ _ (by omega) hI6 hF10 hk8 hk9 (by first | assumption | omega) (by omega) (by omega)
      · intro x1 Mc hxx1 hI hF hk_0 hk_1 h2 h3 hm0 hm1
        refine j_iload_n hX dX11_startAnew_23 rfl 1 rfl ?_
        refine j_aload_n hX dX11_startAnew_24 rfl 0 rfl ?_
        refine j_callVI hX lk_X11_385 (c_X11_many _ _ _ _ _ _ _ _ (by omega) hI hk_0 hk_1) (by omega) hce rfl rfl (by omega) (by omega) kc_210 rfl rfl (Nat.le_of_ble_eq_true rfl) dX11_startAnew_25 (fun z11 M12 hz14 hp13 => ?_)
        obtain ⟨hE15, hq16⟩ := hp13
        replace hE15 := hE15.symm
        subst hE15
        refine j_icmp_ge (tgt := 96) hX dX11_startAnew_28 (by decide) (by omega) (by omega) (fun hc17 => ?_) (fun hc17 => ?_)
        · skip
          have hV18 := SA_end hLT h3 (by omega) hl2 hnr2
          refine j_aload_n hX dX11_startAnew_96 rfl 0 rfl ?_
          refine gf_X11_110 hX (by omega) (by omega) kc_210 (fc_210_47 hI) (by decide) dX11_startAnew_97 ?_
          refine j_bipush hX dX11_startAnew_100 rfl ?_
          refine j_aload_n hX dX11_startAnew_102 rfl 0 rfl ?_
          refine gf_X11_36 hX (by omega) (by omega) kc_210 (fc_210_16 hI) (by decide) dX11_startAnew_103 ?_
          refine j_aload_n hX dX11_startAnew_106 rfl 0 rfl ?_
          refine gf_X11_279 hX (by omega) (by omega) kc_210 dX11_startAnew_107 ?_
          refine j_top hk_0 ?_
          refine j_iald hX (by omega) (by omega) kc_218 (by omega) (by omega) (by omega) dX11_startAnew_110 ?_
          refine j_name hI (ra_218 _) (fun v19 hv20 hl21 hh22 => ?_)
          refine j_iast hX (by omega) (by omega) kc_242 (by omega) (by omega) (by omega) (by omega) dX11_startAnew_111 ?_
          refine j_up hI ro_242_6 (by omega) (by omega) (Or.inl (by omega)) (fun M23 w24 hw25 hM26 hI27 hf28 => ?_)
          have hV29 := LQ_dp (M' := M23) hV18 (fun a b h => by rw [hM26]; exact up_ne (by omega))
          have hk30 := kp_up hM26 (by decide) hk_0
          have hk31 := kp_up hM26 (fun h => absurd h.1 (by decide)) hk_1
          have hF32 := Fr.put hF hM26 (by omega)
          refine j_aload_n hX dX11_startAnew_112 rfl 0 rfl ?_
          refine gf_X11_110 hX (by omega) (by omega) kc_210 (fc_210_47 hI27) (by decide) dX11_startAnew_113 ?_
          refine j_bipush hX dX11_startAnew_116 rfl ?_
          refine j_aload_n hX dX11_startAnew_118 rfl 0 rfl ?_
          refine gf_X11_33 hX (by omega) (by omega) kc_210 (fc_210_15 hI27) (by decide) dX11_startAnew_119 ?_
          refine j_aload_n hX dX11_startAnew_122 rfl 0 rfl ?_
          refine gf_X11_279 hX (by omega) (by omega) kc_210 dX11_startAnew_123 ?_
          refine j_top hk30 ?_
          refine j_iald hX (by omega) (by omega) kc_217 (by omega) (by omega) (by omega) dX11_startAnew_126 ?_
          refine j_name hI27 (ra_217 _) (fun v33 hv34 hl35 hh36 => ?_)
          refine j_iast hX (by omega) (by omega) kc_242 (by omega) (by omega) (by omega) (by omega) dX11_startAnew_127 ?_
          refine j_up hI27 ro_242_15 (by omega) (by omega) (Or.inl (by omega)) (fun M37 w38 hw39 hM40 hI41 hf42 => ?_)
          have hV43 := LQ_dp (M' := M37) hV29 (fun a b h => by rw [hM40]; exact up_ne (by omega))
          have hk44 := kp_up hM40 (by decide) hk30
          have hk45 := kp_up hM40 (fun h => absurd h.1 (by decide)) hk31
          have hk46 := kp_up hM40 (fun h => absurd h.2 (by decide)) hf28
          clear hk30 hk31 hf28
          have hF47 := Fr.put hF32 hM40 (by omega)
          refine j_iconst hX dX11_startAnew_128 ?_
          refine j_istore_n (lv' := [(1, _), (0, _)]) hX dX11_startAnew_129 rfl (by rw [hnL]; decide) rfl ?_
          refine j_sub [1, 0] rfl ?_
          exact ih.2.2.1 _ _ (by omega) hI41 hF47 hk44 hk45 hV43 (by first | assumption | omega) (by omega) (by omega)
        · skip
          refine j_aload_n hX dX11_startAnew_31 rfl 0 rfl ?_
          refine gf_X11_110 hX (by omega) (by omega) kc_210 (fc_210_47 hI) (by decide) dX11_startAnew_32 ?_
          refine j_iconst hX dX11_startAnew_35 ?_
          refine j_iload_n hX dX11_startAnew_36 rfl 1 rfl ?_
          refine j_iadd hX dX11_startAnew_37 ?_
          refine j_aload_n hX dX11_startAnew_38 rfl 0 rfl ?_
          refine gf_X11_75 hX (by omega) (by omega) kc_210 (fc_210_29 hI) (by decide) dX11_startAnew_39 ?_
          refine j_aload_n hX dX11_startAnew_42 rfl 0 rfl ?_
          refine gf_X11_279 hX (by omega) (by omega) kc_210 dX11_startAnew_43 ?_
          refine j_top hk_0 ?_
          refine j_zald hX (by omega) (by omega) kc_231 (by omega) (by omega) (by omega) dX11_startAnew_46 ?_
          refine j_name hI (ra_231 _) (fun v48 hv49 hl50 hh51 => ?_)
          have hhl : v48 = M.1 231 bk := by rw [hv49]; exact hF _ _ (by omega)
          refine j_if_eq (tgt := 67) hX dX11_startAnew_47 (by decide) (by omega) (fun hc52 => ?_) (fun hc52 => ?_)
          · skip
            refine j_iload_n hX dX11_startAnew_67 rfl 1 rfl ?_
            refine j_iconst hX dX11_startAnew_68 ?_
            refine j_iadd hX dX11_startAnew_69 ?_
            refine j_aload_n hX dX11_startAnew_70 rfl 0 rfl ?_
            refine j_callVI hX lk_X11_385 (c_X11_many _ _ _ _ _ _ _ _ (by omega) hI hk_0 hk_1) (by omega) hce rfl rfl (by omega) (by omega) kc_210 rfl rfl (Nat.le_of_ble_eq_true rfl) dX11_startAnew_71 (fun z53 M54 hz56 hp55 => ?_)
            obtain ⟨hE57, hq58⟩ := hp55
            replace hE57 := hE57.symm
            subst hE57
            refine j_irem hX dX11_startAnew_74 (by omega) (by omega) (by omega) (fun z59 hz60 hy61 => ?_)
            have ha62 := tmod_p hz60 (by omega) (by omega)
            refine j_iast hX (by omega) (by omega) kc_242 (by omega) (by omega) (by omega) (by omega) dX11_startAnew_75 ?_
            refine j_up hI (rs_242 (by omega) (by omega)) (by omega) (by omega) (Or.inl (by omega)) (fun M63 w64 hw65 hM66 hI67 hf68 => ?_)
            have hk69 := kp_up hM66 (fun h => absurd h.1 (by decide)) hk_0
            have hk70 := kp_up hM66 (fun h => absurd h.1 (by decide)) hk_1
            have hF71 := Fr.put hF hM66 (by omega)
            have hsa := SA_s h3 hM66 (by omega) (by first | exact fun _ => hw65.trans hval | exact fun h => absurd h (by omega)) (by first | exact fun h => absurd h (by omega) | exact fun _ => hw65.trans (tm_e (by assumption) (by assumption) (by omega)))
            refine j_aload_n hX dX11_startAnew_76 rfl 0 rfl ?_
            refine gf_X11_110 hX (by omega) (by omega) kc_210 (fc_210_47 hI67) (by decide) dX11_startAnew_77 ?_
            refine j_bipush hX dX11_startAnew_80 rfl ?_
            refine j_iload_n hX dX11_startAnew_82 rfl 1 rfl ?_
            refine j_iadd hX dX11_startAnew_83 ?_
            refine j_aload_n hX dX11_startAnew_84 rfl 0 rfl ?_
            refine j_iload_n hX dX11_startAnew_85 rfl 1 rfl ?_
            refine j_callVI hX lk_X11_392 (c_X11_factsOf _ _ _ _ _ _ _ _ (by omega) hI67 (by omega) hk69) (by omega) hce rfl rfl (by omega) (by omega) kc_210 rfl rfl (Nat.le_of_ble_eq_true rfl) dX11_startAnew_86 (fun z72 M73 hz75 hp74 => ?_)
            have hE76 := hp74.symm
            subst hE76
            refine j_iast hX (by omega) (by omega) kc_242 (by omega) (by omega) (by omega) (by omega) dX11_startAnew_89 ?_
            refine j_up hI67 (rk_242 (by omega) (by omega)) (by omega) (by omega) (Or.inl (by omega)) (fun M77 w78 hw79 hM80 hI81 hf82 => ?_)
            have hk83 := kp_up hM80 (fun h => absurd h.1 (by decide)) hk69
            have hk84 := kp_up hM80 (fun h => absurd h.1 (by decide)) hk70
            clear hk69 hk70
            have hF85 := Fr.put hF71 hM80 (by omega)
            have hsa2 := SA_up hsa hM80 (by omega)
            refine j_iinc (lv' := [(1, _), (0, _)]) hX dX11_startAnew_90 1 rfl (by rw [hnL]; decide) rfl ?_
            refine j_goto (tgt := 23) hX dX11_startAnew_93 (by decide) ?_
            refine j_sub [1, 0] rfl ?_
            exact ih.2.1 _ _ (by omega) hI81 hF85 hk83 hk84 (by first | assumption | omega) (by first | exact SA_0 | assumption) (by omega) (by omega)
          · skip
            refine j_aload_n hX dX11_startAnew_50 rfl 0 rfl ?_
            refine gf_X11_48 hX (by omega) (by omega) kc_210 (fc_210_20 hI) (by decide) dX11_startAnew_51 ?_
            refine j_bipush hX dX11_startAnew_54 rfl ?_
            refine j_aload_n hX dX11_startAnew_56 rfl 0 rfl ?_
            refine gf_X11_279 hX (by omega) (by omega) kc_210 dX11_startAnew_57 ?_
            refine j_top hk_0 ?_
            refine j_imul hX dX11_startAnew_60 ?_
            refine j_iload_n hX dX11_startAnew_61 rfl 1 rfl ?_
            refine j_iadd hX dX11_startAnew_62 ?_
            refine j_iald hX (by omega) (by omega) kc_222 (by omega) (by omega) (by omega) dX11_startAnew_63 ?_
            refine j_name hI (ra_222 _) (fun v86 hv87 hl88 hh89 => ?_)
            have hval : v86 = M.1 222 (6 * bk + x1) := by rw [hv87]; exact hF _ _ (by omega)
            refine j_goto (tgt := 75) hX dX11_startAnew_64 (by decide) ?_
            refine j_iast hX (by omega) (by omega) kc_242 (by omega) (by omega) (by omega) (by omega) dX11_startAnew_75 ?_
            refine j_up hI (rs_242 (by omega) (by omega)) (by omega) (by omega) (Or.inl (by omega)) (fun M90 w91 hw92 hM93 hI94 hf95 => ?_)
            have hk96 := kp_up hM93 (fun h => absurd h.1 (by decide)) hk_0
            have hk97 := kp_up hM93 (fun h => absurd h.1 (by decide)) hk_1
            have hF98 := Fr.put hF hM93 (by omega)
            have hsa := SA_s h3 hM93 (by omega) (by first | exact fun _ => hw92.trans hval | exact fun h => absurd h (by omega)) (by first | exact fun h => absurd h (by omega) | exact fun _ => hw92.trans (tm_e (by assumption) (by assumption) (by omega)))
            refine j_aload_n hX dX11_startAnew_76 rfl 0 rfl ?_
            refine gf_X11_110 hX (by omega) (by omega) kc_210 (fc_210_47 hI94) (by decide) dX11_startAnew_77 ?_
            refine j_bipush hX dX11_startAnew_80 rfl ?_
            refine j_iload_n hX dX11_startAnew_82 rfl 1 rfl ?_
            refine j_iadd hX dX11_startAnew_83 ?_
            refine j_aload_n hX dX11_startAnew_84 rfl 0 rfl ?_
            refine j_iload_n hX dX11_startAnew_85 rfl 1 rfl ?_
            refine j_callVI hX lk_X11_392 (c_X11_factsOf _ _ _ _ _ _ _ _ (by omega) hI94 (by omega) hk96) (by omega) hce rfl rfl (by omega) (by omega) kc_210 rfl rfl (Nat.le_of_ble_eq_true rfl) dX11_startAnew_86 (fun z99 M100 hz102 hp101 => ?_)
            have hE103 := hp101.symm
            subst hE103
            refine j_iast hX (by omega) (by omega) kc_242 (by omega) (by omega) (by omega) (by omega) dX11_startAnew_89 ?_
            refine j_up hI94 (rk_242 (by omega) (by omega)) (by omega) (by omega) (Or.inl (by omega)) (fun M104 w105 hw106 hM107 hI108 hf109 => ?_)
            have hk110 := kp_up hM107 (fun h => absurd h.1 (by decide)) hk96
            have hk111 := kp_up hM107 (fun h => absurd h.1 (by decide)) hk97
            clear hk96 hk97
            have hF112 := Fr.put hF98 hM107 (by omega)
            have hsa2 := SA_up hsa hM107 (by omega)
            refine j_iinc (lv' := [(1, _), (0, _)]) hX dX11_startAnew_90 1 rfl (by rw [hnL]; decide) rfl ?_
            refine j_goto (tgt := 23) hX dX11_startAnew_93 (by decide) ?_
            refine j_sub [1, 0] rfl ?_
            exact ih.2.1 _ _ (by omega) hI108 hF112 hk110 hk111 (by first | assumption | omega) (by first | exact SA_0 | assumption) (by omega) (by omega)
      · intro x1 Mc hxx1 hI hF hk_0 hk_1 hV_0 h2 hm0 hm1
        refine j_iload_n hX dX11_startAnew_130 rfl 1 rfl ?_
        refine j_bipush hX dX11_startAnew_131 rfl ?_
        refine j_icmp_ge (tgt := 149) hX dX11_startAnew_133 (by decide) (by omega) (by omega) (fun hc113 => ?_) (fun hc113 => ?_)
        · skip
          refine j_aload_n hX dX11_startAnew_149 rfl 0 rfl ?_
          refine j_iconst hX dX11_startAnew_150 ?_
          refine pf_X11_395 hX (by omega) (by omega) kc_210 (by omega) dX11_startAnew_151 ?_
          refine j_up hI ro_210_50 (by omega) (by omega) (Or.inl (by omega)) (fun M114 w115 hw116 hM117 hI118 hf119 => ?_)
          have hV120 := LQ_dp (M' := M114) hV_0 (fun a b h => by rw [hM117]; exact up_ne (by omega))
          have hk121 := kp_up hM117 (fun h => absurd h.2 (by decide)) hk_0
          have hk122 := kp_up hM117 (fun h => absurd h.1 (by decide)) hk_1
          have hF123 := Fr.put hF hM117 (by omega)
          refine j_aload_n hX dX11_startAnew_154 rfl 0 rfl ?_
          refine j_iconst hX dX11_startAnew_155 ?_
          refine pf_X11_398 hX (by omega) (by omega) kc_210 (by omega) dX11_startAnew_156 ?_
          refine j_up hI118 ro_210_51 (by omega) (by omega) (Or.inl (by omega)) (fun M124 w125 hw126 hM127 hI128 hf129 => ?_)
          have hV130 := LQ_dp (M' := M124) hV120 (fun a b h => by rw [hM127]; exact up_ne (by omega))
          have hk131 := kp_up hM127 (fun h => absurd h.2 (by decide)) hk121
          have hk132 := kp_up hM127 (fun h => absurd h.1 (by decide)) hk122
          have hk133 := kp_up hM127 (fun h => absurd h.2 (by decide)) hf119
          clear hk121 hk122 hf119
          have hF134 := Fr.put hF123 hM127 (by omega)
          refine j_aload_n hX dX11_startAnew_159 rfl 0 rfl ?_
          refine j_iconst hX dX11_startAnew_160 ?_
          refine pf_X11_401 hX (by omega) (by omega) kc_210 (by omega) dX11_startAnew_161 ?_
          refine j_up hI128 ro_210_63 (by omega) (by omega) (Or.inl (by omega)) (fun M135 w136 hw137 hM138 hI139 hf140 => ?_)
          have hV141 := LQ_dp (M' := M135) hV130 (fun a b h => by rw [hM138]; exact up_ne (by omega))
          have hk142 := kp_up hM138 (fun h => absurd h.2 (by decide)) hk131
          have hk143 := kp_up hM138 (fun h => absurd h.1 (by decide)) hk132
          have hk144 := kp_up hM138 (fun h => absurd h.2 (by decide)) hk133
          have hk145 := kp_up hM138 (fun h => absurd h.2 (by decide)) hf129
          clear hk131 hk132 hk133 hf129
          have hF146 := Fr.put hF134 hM138 (by omega)
          refine j_aload_n hX dX11_startAnew_164 rfl 0 rfl ?_
          refine j_iconst hX dX11_startAnew_165 ?_
          refine pf_X11_404 hX (by omega) (by omega) kc_210 (by omega) dX11_startAnew_166 ?_
          refine j_up hI139 ro_210_54 (by omega) (by omega) (Or.inl (by omega)) (fun M147 w148 hw149 hM150 hI151 hf152 => ?_)
          have hV153 := LQ_dp (M' := M147) hV141 (fun a b h => by rw [hM150]; exact up_ne (by omega))
          have hk154 := kp_up hM150 (fun h => absurd h.2 (by decide)) hk142
          have hk155 := kp_up hM150 (fun h => absurd h.1 (by decide)) hk143
          have hk156 := kp_up hM150 (fun h => absurd h.2 (by decide)) hk144
          have hk157 := kp_up hM150 (fun h => absurd h.2 (by decide)) hk145
          have hk158 := kp_up hM150 (fun h => absurd h.2 (by decide)) hf140
          clear hk142 hk143 hk144 hk145 hf140
          have hF159 := Fr.put hF146 hM150 (by omega)
          refine j_iconst hX dX11_startAnew_169 ?_
          refine j_istore_n (lv' := [(1, _), (0, _)]) hX dX11_startAnew_170 rfl (by rw [hnL]; decide) rfl ?_
          refine j_sub [1, 0] rfl ?_
          exact ih.2.2.2 _ _ _ _ (by omega) hI151 hF159 hk154 hk156 hk157 hk155 hV153 (by first | assumption | omega) (by first | exact fun k p q => absurd q (by omega) | assumption) (by omega) (by omega)
        · skip
          refine j_aload_n hX dX11_startAnew_136 rfl 0 rfl ?_
          refine gf_X11_125 hX (by omega) (by omega) kc_210 (fc_210_55 hI) (by decide) dX11_startAnew_137 ?_
          refine j_iload_n hX dX11_startAnew_140 rfl 1 rfl ?_
          refine j_iconst hX dX11_startAnew_141 ?_
          refine j_iast hX (by omega) (by omega) kc_247 (by omega) (by omega) (by omega) (by omega) dX11_startAnew_142 ?_
          refine j_up hI (ra_247 _) (by omega) (by omega) (Or.inl (by omega)) (fun M160 w161 hw162 hM163 hI164 hf165 => ?_)
          have hV166 := LQ_dp (M' := M160) hV_0 (fun a b h => by rw [hM163]; exact up_ne (by omega))
          have hk167 := kp_up hM163 (fun h => absurd h.1 (by decide)) hk_0
          have hk168 := kp_up hM163 (fun h => absurd h.1 (by decide)) hk_1
          have hF169 := Fr.put hF hM163 (by omega)
          refine j_iinc (lv' := [(1, _), (0, _)]) hX dX11_startAnew_143 1 rfl (by rw [hnL]; decide) rfl ?_
          refine j_goto (tgt := 130) hX dX11_startAnew_146 (by decide) ?_
          refine j_sub [1, 0] rfl ?_
          exact ih.2.2.1 _ _ (by omega) hI164 hF169 hk167 hk168 hV166 (by first | assumption | omega) (by omega) (by omega)
      · intro x1 k0 k1 Mc hxx1 hI hF hk_0 hk_1 hk_2 hk_3 hV_0 h2 h3 hm0 hm1
        refine j_iload_n hX dX11_startAnew_171 rfl 1 rfl ?_
        refine j_iconst hX dX11_startAnew_172 ?_
        refine j_icmp_ge (tgt := 189) hX dX11_startAnew_173 (by decide) (by omega) (by omega) (fun hc170 => ?_) (fun hc170 => ?_)
        · skip
          exact hret _ _ _ dX11_startAnew_189 ⟨hI, hF, RS_mk hV_0 WS_0 (by omega) (by omega), fun k p q r => absurd r (by rw [h3 k p (by omega)]; decide)⟩
        · skip
          refine j_aload_n hX dX11_startAnew_176 rfl 0 rfl ?_
          refine gf_X11_152 hX (by omega) (by omega) kc_210 (fc_210_67 hI) (by decide) dX11_startAnew_177 ?_
          refine j_iload_n hX dX11_startAnew_180 rfl 1 rfl ?_
          refine j_iconst hX dX11_startAnew_181 ?_
          refine j_zast hX (by omega) (by omega) kc_256 (by omega) (by omega) (by omega) (by omega) dX11_startAnew_182 ?_
          refine j_up hI (ra_256 _) (by omega) (by omega) (Or.inl (by omega)) (fun M171 w172 hw173 hM174 hI175 hf176 => ?_)
          have hV177 := LQ_dp (M' := M171) hV_0 (fun a b h => by rw [hM174]; exact up_ne (by omega))
          have hk178 := kp_up hM174 (fun h => absurd h.1 (by decide)) hk_0
          have hk179 := kp_up hM174 (fun h => absurd h.1 (by decide)) hk_1
          have hk180 := kp_up hM174 (fun h => absurd h.1 (by decide)) hk_2
          have hk181 := kp_up hM174 (fun h => absurd h.1 (by decide)) hk_3
          have hF182 := Fr.put hF hM174 (by omega)
          have hbz : ∀ k, 0 ≤ k → k < x1 + 1 → M171.1 256 k = 0 := fun k p q => by
                  by_cases c : k = x1
                  · rw [hM174, c, up_eq]; exact hw173
                  · rw [hM174, up_ne (by omega)]; exact h3 k p (by omega)
          refine j_iinc (lv' := [(1, _), (0, _)]) hX dX11_startAnew_183 1 rfl (by rw [hnL]; decide) rfl ?_
          refine j_goto (tgt := 171) hX dX11_startAnew_186 (by decide) ?_
          refine j_sub [1, 0] rfl ?_
          exact ih.2.2.2 _ _ _ _ (by omega) hI175 hF182 hk178 hk179 hk180 hk181 hV177 (by first | assumption | omega) (by first | exact fun k p q => absurd q (by omega) | assumption) (by omega) (by omega)
  show J X B N 0 0 0 [(0, rv B 210)] [] M
  refine j_iconst hX dX11_startAnew_0 ?_
  refine j_istore_n (lv' := [(1, _), (0, _)]) hX dX11_startAnew_1 rfl (by rw [hnL]; decide) rfl ?_
  refine j_sub [1, 0] rfl ?_
  refine (cp (Int.toNat (64064 + 1))).1 _ _ (by omega) hI hF hbk hnr (by first | assumption | omega) ?_ ?_
  · omega
  · omega
