theorem dX11_swapsTo_0 : decode cX11_swapsTo 0 = .ok (.iconst 0, 1) := by decide +kernel
theorem dX11_swapsTo_1 : decode cX11_swapsTo 1 = .ok (.istore_n 1, 1) := by decide +kernel
theorem dX11_swapsTo_2 : decode cX11_swapsTo 2 = .ok (.iconst 0, 1) := by decide +kernel
theorem dX11_swapsTo_3 : decode cX11_swapsTo 3 = .ok (.istore_n 2, 1) := by decide +kernel
theorem dX11_swapsTo_4 : decode cX11_swapsTo 4 = .ok (.iconst 0, 1) := by decide +kernel
theorem dX11_swapsTo_5 : decode cX11_swapsTo 5 = .ok (.istore_n 3, 1) := by decide +kernel
theorem dX11_swapsTo_6 : decode cX11_swapsTo 6 = .ok (.iload_n 3, 1) := by decide +kernel
theorem dX11_swapsTo_7 : decode cX11_swapsTo 7 = .ok (.aload_n 0, 1) := by decide +kernel
theorem dX11_swapsTo_8 : decode cX11_swapsTo 8 = .ok (.invokevirtual 385, 3) := by decide +kernel
theorem dX11_swapsTo_11 : decode cX11_swapsTo 11 = .ok (.if_icmp .ge 77, 3) := by decide +kernel
theorem dX11_swapsTo_14 : decode cX11_swapsTo 14 = .ok (.iload_n 1, 1) := by decide +kernel
theorem dX11_swapsTo_15 : decode cX11_swapsTo 15 = .ok (.iload_n 3, 1) := by decide +kernel
theorem dX11_swapsTo_16 : decode cX11_swapsTo 16 = .ok (.invokestatic 368, 3) := by decide +kernel
theorem dX11_swapsTo_19 : decode cX11_swapsTo 19 = .ok (.ifCond .eq 6, 3) := by decide +kernel
theorem dX11_swapsTo_22 : decode cX11_swapsTo 22 = .ok (.goto 60, 3) := by decide +kernel
theorem dX11_swapsTo_25 : decode cX11_swapsTo 25 = .ok (.iinc 2 1, 3) := by decide +kernel
theorem dX11_swapsTo_28 : decode cX11_swapsTo 28 = .ok (.iload_n 3, 1) := by decide +kernel
theorem dX11_swapsTo_29 : decode cX11_swapsTo 29 = .ok (.istore 4, 2) := by decide +kernel
theorem dX11_swapsTo_31 : decode cX11_swapsTo 31 = .ok (.iload_n 1, 1) := by decide +kernel
theorem dX11_swapsTo_32 : decode cX11_swapsTo 32 = .ok (.iload 4, 2) := by decide +kernel
theorem dX11_swapsTo_34 : decode cX11_swapsTo 34 = .ok (.invokestatic 368, 3) := by decide +kernel
theorem dX11_swapsTo_37 : decode cX11_swapsTo 37 = .ok (.ifCond .ne 45, 3) := by decide +kernel
theorem dX11_swapsTo_40 : decode cX11_swapsTo 40 = .ok (.iload_n 1, 1) := by decide +kernel
theorem dX11_swapsTo_41 : decode cX11_swapsTo 41 = .ok (.iconst 1, 1) := by decide +kernel
theorem dX11_swapsTo_42 : decode cX11_swapsTo 42 = .ok (.iload 4, 2) := by decide +kernel
theorem dX11_swapsTo_44 : decode cX11_swapsTo 44 = .ok (.ishl, 1) := by decide +kernel
theorem dX11_swapsTo_45 : decode cX11_swapsTo 45 = .ok (.ior, 1) := by decide +kernel
theorem dX11_swapsTo_46 : decode cX11_swapsTo 46 = .ok (.istore_n 1, 1) := by decide +kernel
theorem dX11_swapsTo_47 : decode cX11_swapsTo 47 = .ok (.iconst 0, 1) := by decide +kernel
theorem dX11_swapsTo_48 : decode cX11_swapsTo 48 = .ok (.istore 5, 2) := by decide +kernel
theorem dX11_swapsTo_50 : decode cX11_swapsTo 50 = .ok (.aload_n 0, 1) := by decide +kernel
theorem dX11_swapsTo_51 : decode cX11_swapsTo 51 = .ok (.getfield 128, 3) := by decide +kernel
theorem dX11_swapsTo_54 : decode cX11_swapsTo 54 = .ok (.iload 5, 2) := by decide +kernel
theorem dX11_swapsTo_56 : decode cX11_swapsTo 56 = .ok (.iaload, 1) := by decide +kernel
theorem dX11_swapsTo_57 : decode cX11_swapsTo 57 = .ok (.aload_n 0, 1) := by decide +kernel
theorem dX11_swapsTo_58 : decode cX11_swapsTo 58 = .ok (.getfield 110, 3) := by decide +kernel
theorem dX11_swapsTo_61 : decode cX11_swapsTo 61 = .ok (.iconst 0, 1) := by decide +kernel
theorem dX11_swapsTo_62 : decode cX11_swapsTo 62 = .ok (.iload 4, 2) := by decide +kernel
theorem dX11_swapsTo_64 : decode cX11_swapsTo 64 = .ok (.iadd, 1) := by decide +kernel
theorem dX11_swapsTo_65 : decode cX11_swapsTo 65 = .ok (.iaload, 1) := by decide +kernel
theorem dX11_swapsTo_66 : decode cX11_swapsTo 66 = .ok (.if_icmp .eq 9, 3) := by decide +kernel
theorem dX11_swapsTo_69 : decode cX11_swapsTo 69 = .ok (.iinc 5 1, 3) := by decide +kernel
theorem dX11_swapsTo_72 : decode cX11_swapsTo 72 = .ok (.goto (-22), 3) := by decide +kernel
theorem dX11_swapsTo_75 : decode cX11_swapsTo 75 = .ok (.iload 5, 2) := by decide +kernel
theorem dX11_swapsTo_77 : decode cX11_swapsTo 77 = .ok (.istore 4, 2) := by decide +kernel
theorem dX11_swapsTo_79 : decode cX11_swapsTo 79 = .ok (.goto (-48), 3) := by decide +kernel
theorem dX11_swapsTo_82 : decode cX11_swapsTo 82 = .ok (.iinc 3 1, 3) := by decide +kernel
theorem dX11_swapsTo_85 : decode cX11_swapsTo 85 = .ok (.goto (-79), 3) := by decide +kernel
theorem dX11_swapsTo_88 : decode cX11_swapsTo 88 = .ok (.aload_n 0, 1) := by decide +kernel
theorem dX11_swapsTo_89 : decode cX11_swapsTo 89 = .ok (.invokevirtual 385, 3) := by decide +kernel
theorem dX11_swapsTo_92 : decode cX11_swapsTo 92 = .ok (.iload_n 2, 1) := by decide +kernel
theorem dX11_swapsTo_93 : decode cX11_swapsTo 93 = .ok (.isub, 1) := by decide +kernel
theorem dX11_swapsTo_94 : decode cX11_swapsTo 94 = .ok (.ireturn, 1) := by decide +kernel
theorem dX11_swaps_0 : decode cX11_swaps 0 = .ok (.iconst (-1), 1) := by decide +kernel
theorem dX11_swaps_1 : decode cX11_swaps 1 = .ok (.istore_n 1, 1) := by decide +kernel
theorem dX11_swaps_2 : decode cX11_swaps 2 = .ok (.iconst 0, 1) := by decide +kernel
theorem dX11_swaps_3 : decode cX11_swaps 3 = .ok (.istore_n 2, 1) := by decide +kernel
theorem dX11_swaps_4 : decode cX11_swaps 4 = .ok (.iload_n 2, 1) := by decide +kernel
theorem dX11_swaps_5 : decode cX11_swaps 5 = .ok (.aload_n 0, 1) := by decide +kernel
theorem dX11_swaps_6 : decode cX11_swaps 6 = .ok (.invokevirtual 459, 3) := by decide +kernel
theorem dX11_swaps_9 : decode cX11_swaps 9 = .ok (.if_icmp .ge 50, 3) := by decide +kernel
theorem dX11_swaps_12 : decode cX11_swaps 12 = .ok (.aload_n 0, 1) := by decide +kernel
theorem dX11_swaps_13 : decode cX11_swaps 13 = .ok (.iload_n 2, 1) := by decide +kernel
theorem dX11_swaps_14 : decode cX11_swaps 14 = .ok (.invokevirtual 462, 3) := by decide +kernel
theorem dX11_swaps_17 : decode cX11_swaps 17 = .ok (.ifCond .eq 36, 3) := by decide +kernel
theorem dX11_swaps_20 : decode cX11_swaps 20 = .ok (.aload_n 0, 1) := by decide +kernel
theorem dX11_swaps_21 : decode cX11_swaps 21 = .ok (.invokevirtual 465, 3) := by decide +kernel
theorem dX11_swaps_24 : decode cX11_swaps 24 = .ok (.ifCond .ne 6, 3) := by decide +kernel
theorem dX11_swaps_27 : decode cX11_swaps 27 = .ok (.goto 26, 3) := by decide +kernel
theorem dX11_swaps_30 : decode cX11_swaps 30 = .ok (.aload_n 0, 1) := by decide +kernel
theorem dX11_swaps_31 : decode cX11_swaps 31 = .ok (.invokevirtual 468, 3) := by decide +kernel
theorem dX11_swaps_34 : decode cX11_swaps 34 = .ok (.istore_n 3, 1) := by decide +kernel
theorem dX11_swaps_35 : decode cX11_swaps 35 = .ok (.iload_n 1, 1) := by decide +kernel
theorem dX11_swaps_36 : decode cX11_swaps 36 = .ok (.ifCond .lt 11, 3) := by decide +kernel
theorem dX11_swaps_39 : decode cX11_swaps 39 = .ok (.iload_n 3, 1) := by decide +kernel
theorem dX11_swaps_40 : decode cX11_swaps 40 = .ok (.iload_n 1, 1) := by decide +kernel
theorem dX11_swaps_41 : decode cX11_swaps 41 = .ok (.if_icmp .lt 6, 3) := by decide +kernel
theorem dX11_swaps_44 : decode cX11_swaps 44 = .ok (.goto 9, 3) := by decide +kernel
theorem dX11_swaps_47 : decode cX11_swaps 47 = .ok (.iload_n 3, 1) := by decide +kernel
theorem dX11_swaps_48 : decode cX11_swaps 48 = .ok (.istore_n 1, 1) := by decide +kernel
theorem dX11_swaps_49 : decode cX11_swaps 49 = .ok (.aload_n 0, 1) := by decide +kernel
theorem dX11_swaps_50 : decode cX11_swaps 50 = .ok (.invokevirtual 471, 3) := by decide +kernel
theorem dX11_swaps_53 : decode cX11_swaps 53 = .ok (.iinc 2 1, 3) := by decide +kernel
theorem dX11_swaps_56 : decode cX11_swaps 56 = .ok (.goto (-52), 3) := by decide +kernel
theorem dX11_swaps_59 : decode cX11_swaps 59 = .ok (.iload_n 1, 1) := by decide +kernel
theorem dX11_swaps_60 : decode cX11_swaps 60 = .ok (.ireturn, 1) := by decide +kernel
theorem dX11_pointsTo_0 : decode cX11_pointsTo 0 = .ok (.iconst (-1), 1) := by decide +kernel
theorem dX11_pointsTo_1 : decode cX11_pointsTo 1 = .ok (.istore_n 3, 1) := by decide +kernel
theorem dX11_pointsTo_2 : decode cX11_pointsTo 2 = .ok (.iconst 0, 1) := by decide +kernel
theorem dX11_pointsTo_3 : decode cX11_pointsTo 3 = .ok (.istore 4, 2) := by decide +kernel
theorem dX11_pointsTo_5 : decode cX11_pointsTo 5 = .ok (.iload 4, 2) := by decide +kernel
theorem dX11_pointsTo_7 : decode cX11_pointsTo 7 = .ok (.aload_n 0, 1) := by decide +kernel
theorem dX11_pointsTo_8 : decode cX11_pointsTo 8 = .ok (.invokevirtual 385, 3) := by decide +kernel
theorem dX11_pointsTo_11 : decode cX11_pointsTo 11 = .ok (.if_icmp .ge 100, 3) := by decide +kernel
theorem dX11_pointsTo_14 : decode cX11_pointsTo 14 = .ok (.iload_n 2, 1) := by decide +kernel
theorem dX11_pointsTo_15 : decode cX11_pointsTo 15 = .ok (.iload 4, 2) := by decide +kernel
theorem dX11_pointsTo_17 : decode cX11_pointsTo 17 = .ok (.invokestatic 368, 3) := by decide +kernel
theorem dX11_pointsTo_20 : decode cX11_pointsTo 20 = .ok (.ifCond .ne 6, 3) := by decide +kernel
theorem dX11_pointsTo_23 : decode cX11_pointsTo 23 = .ok (.goto 82, 3) := by decide +kernel
theorem dX11_pointsTo_26 : decode cX11_pointsTo 26 = .ok (.aload_n 0, 1) := by decide +kernel
theorem dX11_pointsTo_27 : decode cX11_pointsTo 27 = .ok (.getfield 110, 3) := by decide +kernel
theorem dX11_pointsTo_30 : decode cX11_pointsTo 30 = .ok (.iconst 0, 1) := by decide +kernel
theorem dX11_pointsTo_31 : decode cX11_pointsTo 31 = .ok (.iload 4, 2) := by decide +kernel
theorem dX11_pointsTo_33 : decode cX11_pointsTo 33 = .ok (.iadd, 1) := by decide +kernel
theorem dX11_pointsTo_34 : decode cX11_pointsTo 34 = .ok (.iaload, 1) := by decide +kernel
theorem dX11_pointsTo_35 : decode cX11_pointsTo 35 = .ok (.istore 5, 2) := by decide +kernel
theorem dX11_pointsTo_37 : decode cX11_pointsTo 37 = .ok (.aload_n 0, 1) := by decide +kernel
theorem dX11_pointsTo_38 : decode cX11_pointsTo 38 = .ok (.iload_n 1, 1) := by decide +kernel
theorem dX11_pointsTo_39 : decode cX11_pointsTo 39 = .ok (.iload 5, 2) := by decide +kernel
theorem dX11_pointsTo_41 : decode cX11_pointsTo 41 = .ok (.invokevirtual 375, 3) := by decide +kernel
theorem dX11_pointsTo_44 : decode cX11_pointsTo 44 = .ok (.istore 6, 2) := by decide +kernel
theorem dX11_pointsTo_46 : decode cX11_pointsTo 46 = .ok (.iload_n 3, 1) := by decide +kernel
theorem dX11_pointsTo_47 : decode cX11_pointsTo 47 = .ok (.ifCond .lt 55, 3) := by decide +kernel
theorem dX11_pointsTo_50 : decode cX11_pointsTo 50 = .ok (.iload 6, 2) := by decide +kernel
theorem dX11_pointsTo_52 : decode cX11_pointsTo 52 = .ok (.aload_n 0, 1) := by decide +kernel
theorem dX11_pointsTo_53 : decode cX11_pointsTo 53 = .ok (.iload_n 1, 1) := by decide +kernel
theorem dX11_pointsTo_54 : decode cX11_pointsTo 54 = .ok (.aload_n 0, 1) := by decide +kernel
theorem dX11_pointsTo_55 : decode cX11_pointsTo 55 = .ok (.getfield 110, 3) := by decide +kernel
theorem dX11_pointsTo_58 : decode cX11_pointsTo 58 = .ok (.iconst 0, 1) := by decide +kernel
theorem dX11_pointsTo_59 : decode cX11_pointsTo 59 = .ok (.iload_n 3, 1) := by decide +kernel
theorem dX11_pointsTo_60 : decode cX11_pointsTo 60 = .ok (.iadd, 1) := by decide +kernel
theorem dX11_pointsTo_61 : decode cX11_pointsTo 61 = .ok (.iaload, 1) := by decide +kernel
theorem dX11_pointsTo_62 : decode cX11_pointsTo 62 = .ok (.invokevirtual 375, 3) := by decide +kernel
theorem dX11_pointsTo_65 : decode cX11_pointsTo 65 = .ok (.if_icmp .lt 40, 3) := by decide +kernel
theorem dX11_pointsTo_68 : decode cX11_pointsTo 68 = .ok (.iload 6, 2) := by decide +kernel
theorem dX11_pointsTo_70 : decode cX11_pointsTo 70 = .ok (.aload_n 0, 1) := by decide +kernel
theorem dX11_pointsTo_71 : decode cX11_pointsTo 71 = .ok (.iload_n 1, 1) := by decide +kernel
theorem dX11_pointsTo_72 : decode cX11_pointsTo 72 = .ok (.aload_n 0, 1) := by decide +kernel
theorem dX11_pointsTo_73 : decode cX11_pointsTo 73 = .ok (.getfield 110, 3) := by decide +kernel
theorem dX11_pointsTo_76 : decode cX11_pointsTo 76 = .ok (.iconst 0, 1) := by decide +kernel
theorem dX11_pointsTo_77 : decode cX11_pointsTo 77 = .ok (.iload_n 3, 1) := by decide +kernel
theorem dX11_pointsTo_78 : decode cX11_pointsTo 78 = .ok (.iadd, 1) := by decide +kernel
theorem dX11_pointsTo_79 : decode cX11_pointsTo 79 = .ok (.iaload, 1) := by decide +kernel
theorem dX11_pointsTo_80 : decode cX11_pointsTo 80 = .ok (.invokevirtual 375, 3) := by decide +kernel
theorem dX11_pointsTo_83 : decode cX11_pointsTo 83 = .ok (.if_icmp .ne 19, 3) := by decide +kernel
theorem dX11_pointsTo_86 : decode cX11_pointsTo 86 = .ok (.iload 5, 2) := by decide +kernel
theorem dX11_pointsTo_88 : decode cX11_pointsTo 88 = .ok (.aload_n 0, 1) := by decide +kernel
theorem dX11_pointsTo_89 : decode cX11_pointsTo 89 = .ok (.getfield 110, 3) := by decide +kernel
theorem dX11_pointsTo_92 : decode cX11_pointsTo 92 = .ok (.iconst 0, 1) := by decide +kernel
theorem dX11_pointsTo_93 : decode cX11_pointsTo 93 = .ok (.iload_n 3, 1) := by decide +kernel
theorem dX11_pointsTo_94 : decode cX11_pointsTo 94 = .ok (.iadd, 1) := by decide +kernel
theorem dX11_pointsTo_95 : decode cX11_pointsTo 95 = .ok (.iaload, 1) := by decide +kernel
theorem dX11_pointsTo_96 : decode cX11_pointsTo 96 = .ok (.if_icmp .le 6, 3) := by decide +kernel
theorem dX11_pointsTo_99 : decode cX11_pointsTo 99 = .ok (.goto 6, 3) := by decide +kernel
theorem dX11_pointsTo_102 : decode cX11_pointsTo 102 = .ok (.iload 4, 2) := by decide +kernel
theorem dX11_pointsTo_104 : decode cX11_pointsTo 104 = .ok (.istore_n 3, 1) := by decide +kernel
theorem dX11_pointsTo_105 : decode cX11_pointsTo 105 = .ok (.iinc 4 1, 3) := by decide +kernel
theorem dX11_pointsTo_108 : decode cX11_pointsTo 108 = .ok (.goto (-103), 3) := by decide +kernel
theorem dX11_pointsTo_111 : decode cX11_pointsTo 111 = .ok (.iload_n 3, 1) := by decide +kernel
theorem dX11_pointsTo_112 : decode cX11_pointsTo 112 = .ok (.ireturn, 1) := by decide +kernel
theorem dX11_ringOf_0 : decode cX11_ringOf 0 = .ok (.iconst 0, 1) := by decide +kernel
theorem dX11_ringOf_1 : decode cX11_ringOf 1 = .ok (.istore_n 2, 1) := by decide +kernel
theorem dX11_ringOf_2 : decode cX11_ringOf 2 = .ok (.iload_n 1, 1) := by decide +kernel
theorem dX11_ringOf_3 : decode cX11_ringOf 3 = .ok (.iload_n 2, 1) := by decide +kernel
theorem dX11_ringOf_4 : decode cX11_ringOf 4 = .ok (.invokestatic 368, 3) := by decide +kernel
theorem dX11_ringOf_7 : decode cX11_ringOf 7 = .ok (.ifCond .ne 9, 3) := by decide +kernel
theorem dX11_ringOf_10 : decode cX11_ringOf 10 = .ok (.iinc 2 1, 3) := by decide +kernel
theorem dX11_ringOf_13 : decode cX11_ringOf 13 = .ok (.goto (-11), 3) := by decide +kernel
theorem dX11_ringOf_16 : decode cX11_ringOf 16 = .ok (.iconst 0, 1) := by decide +kernel
theorem dX11_ringOf_17 : decode cX11_ringOf 17 = .ok (.istore_n 3, 1) := by decide +kernel
theorem dX11_ringOf_18 : decode cX11_ringOf 18 = .ok (.iload_n 3, 1) := by decide +kernel
theorem dX11_ringOf_19 : decode cX11_ringOf 19 = .ok (.aload_n 0, 1) := by decide +kernel
theorem dX11_ringOf_20 : decode cX11_ringOf 20 = .ok (.invokevirtual 385, 3) := by decide +kernel
theorem dX11_ringOf_23 : decode cX11_ringOf 23 = .ok (.if_icmp .ge 16, 3) := by decide +kernel
theorem dX11_ringOf_26 : decode cX11_ringOf 26 = .ok (.aload_n 0, 1) := by decide +kernel
theorem dX11_ringOf_27 : decode cX11_ringOf 27 = .ok (.iload_n 2, 1) := by decide +kernel
theorem dX11_ringOf_28 : decode cX11_ringOf 28 = .ok (.iload_n 1, 1) := by decide +kernel
theorem dX11_ringOf_29 : decode cX11_ringOf 29 = .ok (.invokevirtual 483, 3) := by decide +kernel
theorem dX11_ringOf_32 : decode cX11_ringOf 32 = .ok (.istore_n 2, 1) := by decide +kernel
theorem dX11_ringOf_33 : decode cX11_ringOf 33 = .ok (.iinc 3 1, 3) := by decide +kernel
theorem dX11_ringOf_36 : decode cX11_ringOf 36 = .ok (.goto (-18), 3) := by decide +kernel
theorem dX11_ringOf_39 : decode cX11_ringOf 39 = .ok (.iconst 0, 1) := by decide +kernel
theorem dX11_ringOf_40 : decode cX11_ringOf 40 = .ok (.istore_n 3, 1) := by decide +kernel
theorem dX11_ringOf_41 : decode cX11_ringOf 41 = .ok (.iload_n 3, 1) := by decide +kernel
theorem dX11_ringOf_42 : decode cX11_ringOf 42 = .ok (.iload_n 2, 1) := by decide +kernel
theorem dX11_ringOf_43 : decode cX11_ringOf 43 = .ok (.invokestatic 368, 3) := by decide +kernel
theorem dX11_ringOf_46 : decode cX11_ringOf 46 = .ok (.ifCond .ne 19, 3) := by decide +kernel
theorem dX11_ringOf_49 : decode cX11_ringOf 49 = .ok (.iload_n 3, 1) := by decide +kernel
theorem dX11_ringOf_50 : decode cX11_ringOf 50 = .ok (.iconst 1, 1) := by decide +kernel
theorem dX11_ringOf_51 : decode cX11_ringOf 51 = .ok (.iload_n 2, 1) := by decide +kernel
theorem dX11_ringOf_52 : decode cX11_ringOf 52 = .ok (.ishl, 1) := by decide +kernel
theorem dX11_ringOf_53 : decode cX11_ringOf 53 = .ok (.ior, 1) := by decide +kernel
theorem dX11_ringOf_54 : decode cX11_ringOf 54 = .ok (.istore_n 3, 1) := by decide +kernel
theorem dX11_ringOf_55 : decode cX11_ringOf 55 = .ok (.aload_n 0, 1) := by decide +kernel
theorem dX11_ringOf_56 : decode cX11_ringOf 56 = .ok (.iload_n 2, 1) := by decide +kernel
theorem dX11_ringOf_57 : decode cX11_ringOf 57 = .ok (.iload_n 1, 1) := by decide +kernel
theorem dX11_ringOf_58 : decode cX11_ringOf 58 = .ok (.invokevirtual 483, 3) := by decide +kernel
theorem dX11_ringOf_61 : decode cX11_ringOf 61 = .ok (.istore_n 2, 1) := by decide +kernel
theorem dX11_ringOf_62 : decode cX11_ringOf 62 = .ok (.goto (-21), 3) := by decide +kernel
theorem dX11_ringOf_65 : decode cX11_ringOf 65 = .ok (.iload_n 3, 1) := by decide +kernel
theorem dX11_ringOf_66 : decode cX11_ringOf 66 = .ok (.ireturn, 1) := by decide +kernel
theorem dX11_rings_0 : decode cX11_rings 0 = .ok (.iconst 1, 1) := by decide +kernel
theorem dX11_rings_1 : decode cX11_rings 1 = .ok (.aload_n 0, 1) := by decide +kernel
theorem dX11_rings_2 : decode cX11_rings 2 = .ok (.invokevirtual 385, 3) := by decide +kernel
theorem dX11_rings_5 : decode cX11_rings 5 = .ok (.ishl, 1) := by decide +kernel
theorem dX11_rings_6 : decode cX11_rings 6 = .ok (.iconst 1, 1) := by decide +kernel
theorem dX11_rings_7 : decode cX11_rings 7 = .ok (.isub, 1) := by decide +kernel
theorem dX11_rings_8 : decode cX11_rings 8 = .ok (.istore_n 1, 1) := by decide +kernel
theorem dX11_rings_9 : decode cX11_rings 9 = .ok (.iload_n 1, 1) := by decide +kernel
theorem dX11_rings_10 : decode cX11_rings 10 = .ok (.ifCond .eq 61, 3) := by decide +kernel
theorem dX11_rings_13 : decode cX11_rings 13 = .ok (.aload_n 0, 1) := by decide +kernel
theorem dX11_rings_14 : decode cX11_rings 14 = .ok (.iload_n 1, 1) := by decide +kernel
theorem dX11_rings_15 : decode cX11_rings 15 = .ok (.invokevirtual 486, 3) := by decide +kernel
theorem dX11_rings_18 : decode cX11_rings 18 = .ok (.istore_n 2, 1) := by decide +kernel
theorem dX11_rings_19 : decode cX11_rings 19 = .ok (.iconst 0, 1) := by decide +kernel
theorem dX11_rings_20 : decode cX11_rings 20 = .ok (.istore_n 3, 1) := by decide +kernel
theorem dX11_rings_21 : decode cX11_rings 21 = .ok (.iload_n 3, 1) := by decide +kernel
theorem dX11_rings_22 : decode cX11_rings 22 = .ok (.aload_n 0, 1) := by decide +kernel
theorem dX11_rings_23 : decode cX11_rings 23 = .ok (.invokevirtual 385, 3) := by decide +kernel
theorem dX11_rings_26 : decode cX11_rings 26 = .ok (.if_icmp .ge 36, 3) := by decide +kernel
theorem dX11_rings_29 : decode cX11_rings 29 = .ok (.iload_n 2, 1) := by decide +kernel
theorem dX11_rings_30 : decode cX11_rings 30 = .ok (.iload_n 3, 1) := by decide +kernel
theorem dX11_rings_31 : decode cX11_rings 31 = .ok (.invokestatic 368, 3) := by decide +kernel
theorem dX11_rings_34 : decode cX11_rings 34 = .ok (.ifCond .eq 22, 3) := by decide +kernel
theorem dX11_rings_37 : decode cX11_rings 37 = .ok (.aload_n 0, 1) := by decide +kernel
theorem dX11_rings_38 : decode cX11_rings 38 = .ok (.getfield 128, 3) := by decide +kernel
theorem dX11_rings_41 : decode cX11_rings 41 = .ok (.iload_n 3, 1) := by decide +kernel
theorem dX11_rings_42 : decode cX11_rings 42 = .ok (.aload_n 0, 1) := by decide +kernel
theorem dX11_rings_43 : decode cX11_rings 43 = .ok (.getfield 110, 3) := by decide +kernel
theorem dX11_rings_46 : decode cX11_rings 46 = .ok (.iconst 0, 1) := by decide +kernel
theorem dX11_rings_47 : decode cX11_rings 47 = .ok (.aload_n 0, 1) := by decide +kernel
theorem dX11_rings_48 : decode cX11_rings 48 = .ok (.iload_n 3, 1) := by decide +kernel
theorem dX11_rings_49 : decode cX11_rings 49 = .ok (.iload_n 1, 1) := by decide +kernel
theorem dX11_rings_50 : decode cX11_rings 50 = .ok (.invokevirtual 483, 3) := by decide +kernel
theorem dX11_rings_53 : decode cX11_rings 53 = .ok (.iadd, 1) := by decide +kernel
theorem dX11_rings_54 : decode cX11_rings 54 = .ok (.iaload, 1) := by decide +kernel
theorem dX11_rings_55 : decode cX11_rings 55 = .ok (.iastore, 1) := by decide +kernel
theorem dX11_rings_56 : decode cX11_rings 56 = .ok (.iinc 3 1, 3) := by decide +kernel
theorem dX11_rings_59 : decode cX11_rings 59 = .ok (.goto (-38), 3) := by decide +kernel
theorem dX11_rings_62 : decode cX11_rings 62 = .ok (.iload_n 1, 1) := by decide +kernel
theorem dX11_rings_63 : decode cX11_rings 63 = .ok (.iload_n 2, 1) := by decide +kernel
theorem dX11_rings_64 : decode cX11_rings 64 = .ok (.iconst (-1), 1) := by decide +kernel
theorem dX11_rings_65 : decode cX11_rings 65 = .ok (.ixor, 1) := by decide +kernel
theorem dX11_rings_66 : decode cX11_rings 66 = .ok (.iand, 1) := by decide +kernel
theorem dX11_rings_67 : decode cX11_rings 67 = .ok (.istore_n 1, 1) := by decide +kernel
theorem dX11_rings_68 : decode cX11_rings 68 = .ok (.goto (-59), 3) := by decide +kernel
theorem dX11_rings_71 : decode cX11_rings 71 = .ok (.aload_n 0, 1) := by decide +kernel
theorem dX11_rings_72 : decode cX11_rings 72 = .ok (.invokevirtual 471, 3) := by decide +kernel
theorem dX11_rings_75 : decode cX11_rings 75 = .ok (.aload_n 0, 1) := by decide +kernel
theorem dX11_rings_76 : decode cX11_rings 76 = .ok (.invokevirtual 474, 3) := by decide +kernel
theorem dX11_rings_79 : decode cX11_rings 79 = .ok (.ireturn, 1) := by decide +kernel
set_option maxHeartbeats 2000000 in
set_option maxRecDepth 20000 in
theorem c_X11_swapsTo (l : Launch) (D : va_G) (cy : Nat → ClassId) (B N : Nat) (bk : Int) (nr : Int) (M : MM) (hN : 257 ≤ N) (hI : Iv M) (hbk : M.1 210 40 = bk) (hnr : M.1 213 bk = nr) (hLP : LQ nr 242 0 M) (hLR : LQ nr 248 0 M) : CI l D cy B N 2 yX11_swapsTo cX11_swapsTo 6 (some .int) [rv B 210] M (fun z M' => M' = M) := by
  refine mk_CI (by decide) (Nat.le_of_ble_eq_true rfl) ?_
  intro X exl exD excy hnL hX hret
  have hce : 0 + 0 ≤ (xR X).cells ∧ 0 + 0 ≤ (xR X).slots := ⟨Nat.zero_le _, Nat.zero_le _⟩
  have hbk2 : 0 ≤ bk ∧ bk ≤ 1 := by have := hI.at 210 40 ro_210_40; omega
  have hnr2 : 0 ≤ nr ∧ nr ≤ 6 := by have := hI.at 213 bk (ra_213 _); omega
  have cp : ∀ n : Nat, (∀ (x1 x2 x3 : Int), I32 x1 → I32 x2 → I32 x3 → (0 ≤ x3 ∧ x3 ≤ 6 ∧ 0 ≤ x1 ∧ x1 < 64 ∧ 0 ≤ x2 ∧ x2 ≤ x3) → 0 ≤ 32 * (1000 * (6 - x3) + 500) + 3 → 32 * (1000 * (6 - x3) + 500) + 3 < (n : Int) → J X B N 0 0 6 [(0, rv B 210), (1, iv x1), (2, iv x2), (3, iv x3)] [] M) ∧ (∀ (x1 x2 x3 x4 : Int), I32 x1 → I32 x2 → I32 x3 → I32 x4 → (0 ≤ x3 ∧ x3 < nr ∧ 0 ≤ x1 ∧ x1 < 64 ∧ 0 ≤ x2 ∧ x2 ≤ x3 + 1 ∧ 0 ≤ x4 ∧ x4 < nr) → 0 ≤ 32 * (1000 * (6 - x3) + 20 * (6 - cn x1)) + 2 → 32 * (1000 * (6 - x3) + 20 * (6 - cn x1)) + 2 < (n : Int) → J X B N 0 0 31 [(0, rv B 210), (1, iv x1), (2, iv x2), (3, iv x3), (4, iv x4)] [] M) ∧ (∀ (x1 x2 x3 x4 x5 : Int), I32 x1 → I32 x2 → I32 x3 → I32 x4 → I32 x5 → (0 ≤ x3 ∧ x3 < nr ∧ 0 ≤ x1 ∧ x1 < 64 ∧ 0 ≤ x2 ∧ x2 ≤ x3 + 1 ∧ 0 ≤ x4 ∧ x4 < nr ∧ 0 ≤ x5) → (∃ i, x5 ≤ i ∧ i < nr ∧ M.1 248 i = M.1 242 (0 + x4)) → 0 ≤ 32 * (1000 * (6 - x3) + 20 * (6 - cn x1) + 10 - x5) + 1 → 32 * (1000 * (6 - x3) + 20 * (6 - cn x1) + 10 - x5) + 1 < (n : Int) → J X B N 0 0 50 [(0, rv B 210), (1, iv x1), (2, iv x2), (3, iv x3), (4, iv x4), (5, iv x5)] [] M) := by
    intro n
    induction n with
    | zero => exact ⟨by intros; exfalso; omega, by intros; exfalso; omega, by intros; exfalso; omega⟩
    | succ n ih =>
      refine ⟨?_, ?_, ?_⟩
      · intro x1 x2 x3 hxx1 hxx2 hxx3 h2 hm0 hm1
        refine j_iload_n hX dX11_swapsTo_6 rfl 3 rfl ?_
        refine j_aload_n hX dX11_swapsTo_7 rfl 0 rfl ?_
        refine j_callVI hX lk_X11_385 (c_X11_many _ _ _ _ _ _ _ _ (by omega) hI hbk hnr) (by omega) hce rfl rfl (by omega) (by omega) kc_210 rfl rfl (Nat.le_of_ble_eq_true rfl) dX11_swapsTo_8 (fun z1 M2 hz4 hp3 => ?_)
        obtain ⟨hE5, hq6⟩ := hp3
        replace hE5 := hE5.symm
        subst hE5
        refine j_icmp_ge (tgt := 88) hX dX11_swapsTo_11 (by decide) (by omega) (by omega) (fun hc7 => ?_) (fun hc7 => ?_)
        · skip
          refine j_aload_n hX dX11_swapsTo_88 rfl 0 rfl ?_
          refine j_callVI hX lk_X11_385 (c_X11_many _ _ _ _ _ _ _ _ (by omega) hI hbk hnr) (by omega) hce rfl rfl (by omega) (by omega) kc_210 rfl rfl (Nat.le_of_ble_eq_true rfl) dX11_swapsTo_89 (fun z8 M9 hz11 hp10 => ?_)
          obtain ⟨hE12, hq13⟩ := hp10
          replace hE12 := hE12.symm
          subst hE12
          refine j_iload_n hX dX11_swapsTo_92 rfl 2 rfl ?_
          refine j_isub hX dX11_swapsTo_93 ?_
          refine j_norm (fun z14 hz15 hy16 => ?_)
          exact hret _ _ _ _ dX11_swapsTo_94 rfl (by omega) rfl
        · skip
          refine j_iload_n hX dX11_swapsTo_14 rfl 1 rfl ?_
          refine j_iload_n hX dX11_swapsTo_15 rfl 3 rfl ?_
          refine j_callSI hX lk_X11_368 (c_X11_has _ _ _ _ _ _ _ _ (by omega) (by omega)) (by omega) hce rfl rfl (Nat.le_of_ble_eq_true rfl) dX11_swapsTo_16 (fun z17 M18 hz20 hp19 => ?_)
          obtain ⟨hE21, hb22, hq23⟩ := hp19
          replace hE21 := hE21.symm
          subst hE21
          refine j_if_eq (tgt := 25) hX dX11_swapsTo_19 (by decide) (by omega) (fun hc24 => ?_) (fun hc24 => ?_)
          · skip
            refine j_iinc (lv' := [(2, _), (0, _), (1, _), (3, _)]) hX dX11_swapsTo_25 2 rfl (by rw [hnL]; decide) rfl ?_
            have hcn0 := cn_b x1
            refine j_iload_n hX dX11_swapsTo_28 rfl 3 rfl ?_
            refine j_istore (lv' := [(4, _), (2, _), (0, _), (1, _), (3, _)]) hX dX11_swapsTo_29 (by rw [hnL]; decide) rfl ?_
            refine j_sub [2, 3, 1, 4, 0] rfl ?_
            exact ih.2.1 _ _ _ _ (by omega) (by omega) (by omega) (by omega) (by first | assumption | omega) (by omega) (by omega)
          · skip
            refine j_goto (tgt := 82) hX dX11_swapsTo_22 (by decide) ?_
            refine j_iinc (lv' := [(3, _), (0, _), (1, _), (2, _)]) hX dX11_swapsTo_82 3 rfl (by rw [hnL]; decide) rfl ?_
            refine j_goto (tgt := 6) hX dX11_swapsTo_85 (by decide) ?_
            refine j_sub [1, 2, 3, 0] rfl ?_
            exact ih.1 _ _ _ (by omega) (by omega) (by omega) (by first | assumption | omega) (by omega) (by omega)
      · intro x1 x2 x3 x4 hxx1 hxx2 hxx3 hxx4 h2 hm0 hm1
        have hcn := cn_b x1
        refine j_iload_n hX dX11_swapsTo_31 rfl 1 rfl ?_
        refine j_iload hX dX11_swapsTo_32 4 rfl ?_
        refine j_callSI hX lk_X11_368 (c_X11_has _ _ _ _ _ _ _ _ (by omega) (by omega)) (by omega) hce rfl rfl (Nat.le_of_ble_eq_true rfl) dX11_swapsTo_34 (fun z25 M26 hz28 hp27 => ?_)
        obtain ⟨hE29, hb30, hq31⟩ := hp27
        replace hE29 := hE29.symm
        subst hE29
        refine j_if_ne (tgt := 82) hX dX11_swapsTo_37 (by decide) (by omega) (fun hc32 => ?_) (fun hc32 => ?_)
        · skip
          refine j_iinc (lv' := [(3, _), (0, _), (1, _), (2, _), (4, _)]) hX dX11_swapsTo_82 3 rfl (by rw [hnL]; decide) rfl ?_
          refine j_goto (tgt := 6) hX dX11_swapsTo_85 (by decide) ?_
          refine j_sub [1, 2, 3, 0] rfl ?_
          exact ih.1 _ _ _ (by omega) (by omega) (by omega) (by first | assumption | omega) (by omega) (by omega)
        · skip
          refine j_iload_n hX dX11_swapsTo_40 rfl 1 rfl ?_
          refine j_iconst hX dX11_swapsTo_41 ?_
          refine j_iload hX dX11_swapsTo_42 4 rfl ?_
          refine j_ishl hX dX11_swapsTo_44 (fun z33 hz34 hy35 => ?_)
          refine j_ior hX dX11_swapsTo_45 (fun z36 hz37 hy38 => ?_)
          have hor := orb_of (by assumption) hz37
          have hoc := orb_c hor (by omega) (by omega) (by omega) (by omega) (by omega)
          have hcn1 := cn_b z36
          refine j_istore_n (lv' := [(1, _), (0, _), (2, _), (3, _), (4, _)]) hX dX11_swapsTo_46 rfl (by rw [hnL]; decide) rfl ?_
          refine j_iconst hX dX11_swapsTo_47 ?_
          refine j_istore (lv' := [(5, _), (1, _), (0, _), (2, _), (3, _), (4, _)]) hX dX11_swapsTo_48 (by rw [hnL]; decide) rfl ?_
          refine j_sub [2, 1, 3, 4, 5, 0] rfl ?_
          exact ih.2.2 _ _ _ _ _ (by omega) (by omega) (by omega) (by omega) (by omega) (by first | assumption | omega) (by first | exact ex_0 hLR hLP (by omega) (by omega) | exact ex_s h3 (by assumption) (by assumption) (by assumption)) (by omega) (by omega)
      · intro x1 x2 x3 x4 x5 hxx1 hxx2 hxx3 hxx4 hxx5 h2 h3 hm0 hm1
        have hcn := cn_b x1
        obtain ⟨i0, hi1, hi2, hi3⟩ := h3
        have h3 : ∃ i, x5 ≤ i ∧ i < nr ∧ M.1 248 i = M.1 242 (0 + x4) := ⟨i0, hi1, hi2, hi3⟩
        refine j_aload_n hX dX11_swapsTo_50 rfl 0 rfl ?_
        refine gf_X11_128 hX (by omega) (by omega) kc_210 (fc_210_56 hI) (by decide) dX11_swapsTo_51 ?_
        refine j_iload hX dX11_swapsTo_54 5 rfl ?_
        refine j_iald hX (by omega) (by omega) kc_248 (by omega) (by omega) (by omega) dX11_swapsTo_56 ?_
        refine j_name hI (ra_248 _) (fun v39 hv40 hl41 hh42 => ?_)
        refine j_aload_n hX dX11_swapsTo_57 rfl 0 rfl ?_
        refine gf_X11_110 hX (by omega) (by omega) kc_210 (fc_210_47 hI) (by decide) dX11_swapsTo_58 ?_
        refine j_iconst hX dX11_swapsTo_61 ?_
        refine j_iload hX dX11_swapsTo_62 4 rfl ?_
        refine j_iadd hX dX11_swapsTo_64 ?_
        refine j_iald hX (by omega) (by omega) kc_242 (by omega) (by omega) (by omega) dX11_swapsTo_65 ?_
        refine j_name hI (rs_242 (by omega) (by omega)) (fun v43 hv44 hl45 hh46 => ?_)
        refine j_icmp_eq (tgt := 75) hX dX11_swapsTo_66 (by decide) (by omega) (by omega) (fun hc47 => ?_) (fun hc47 => ?_)
        · skip
          refine j_iload hX dX11_swapsTo_75 5 rfl ?_
          refine j_istore (lv' := [(4, _), (0, _), (1, _), (2, _), (3, _), (5, _)]) hX dX11_swapsTo_77 (by rw [hnL]; decide) rfl ?_
          refine j_goto (tgt := 31) hX dX11_swapsTo_79 (by decide) ?_
          refine j_sub [1, 2, 3, 4, 0] rfl ?_
          exact ih.2.1 _ _ _ _ (by omega) (by omega) (by omega) (by omega) (by first | assumption | omega) (by omega) (by omega)
        · skip
          refine j_iinc (lv' := [(5, _), (0, _), (1, _), (2, _), (3, _), (4, _)]) hX dX11_swapsTo_69 5 rfl (by rw [hnL]; decide) rfl ?_
          refine j_goto (tgt := 50) hX dX11_swapsTo_72 (by decide) ?_
          refine j_sub [1, 2, 3, 4, 5, 0] rfl ?_
          exact ih.2.2 _ _ _ _ _ (by omega) (by omega) (by omega) (by omega) (by omega) (by first | assumption | omega) (by first | exact ex_0 hLR hLP (by omega) (by omega) | exact ex_s h3 (by assumption) (by assumption) (by assumption)) (by omega) (by omega)
  show J X B N 0 0 0 [(0, rv B 210)] [] M
  refine j_iconst hX dX11_swapsTo_0 ?_
  refine j_istore_n (lv' := [(1, _), (0, _)]) hX dX11_swapsTo_1 rfl (by rw [hnL]; decide) rfl ?_
  refine j_iconst hX dX11_swapsTo_2 ?_
  refine j_istore_n (lv' := [(2, _), (1, _), (0, _)]) hX dX11_swapsTo_3 rfl (by rw [hnL]; decide) rfl ?_
  refine j_iconst hX dX11_swapsTo_4 ?_
  refine j_istore_n (lv' := [(3, _), (2, _), (1, _), (0, _)]) hX dX11_swapsTo_5 rfl (by rw [hnL]; decide) rfl ?_
  refine j_sub [3, 2, 1, 0] rfl ?_
  refine (cp (Int.toNat (320064 + 1))).1 _ _ _ (by omega) (by omega) (by omega) (by first | assumption | omega) ?_ ?_
  · omega
  · omega
set_option maxHeartbeats 2000000 in
set_option maxRecDepth 20000 in
theorem c_X11_swaps (l : Launch) (D : va_G) (cy : Nat → ClassId) (B N : Nat) (bk : Int) (nr : Int) (M : MM) (hN : 257 ≤ N) (hI : Iv M) (hbk : M.1 210 40 = bk) (hnr : M.1 213 bk = nr) (hLP : LQ nr 242 0 M) : CI l D cy B N 3 yX11_swaps cX11_swaps 4 (some .int) [rv B 210] M (fun z M' => Iv M' ∧ Fr (fun a b => (a = 248) ∨ (a = 210 ∧ 54 ≤ b ∧ b ≤ 54) ∨ (a = 246)) M M') := by
  refine mk_CI (by decide) (Nat.le_of_ble_eq_true rfl) ?_
  intro X exl exD excy hnL hX hret
  have hce : 0 + 0 ≤ (xR X).cells ∧ 0 + 0 ≤ (xR X).slots := ⟨Nat.zero_le _, Nat.zero_le _⟩
  have hF : Fr (fun a b => (a = 248) ∨ (a = 210 ∧ 54 ≤ b ∧ b ≤ 54) ∨ (a = 246)) M M := Fr.rf
  have hbk2 : 0 ≤ bk ∧ bk ≤ 1 := by have := hI.at 210 40 ro_210_40; omega
  have hnr2 : 0 ≤ nr ∧ nr ≤ 6 := by have := hI.at 213 bk (ra_213 _); omega
  have cp : ∀ n : Nat, (∀ (x1 x2 : Int), ∀ (Mc : MM), I32 x1 → I32 x2 → Iv Mc → Fr (fun a b => (a = 248) ∨ (a = 210 ∧ 54 ≤ b ∧ b ≤ 54) ∨ (a = 246)) M Mc → Mc.1 210 40 = bk → Mc.1 213 bk = nr → LQ nr 242 0 Mc → (0 ≤ x2) → 0 ≤ 32 * (2147483648 - x2) + 1 → 32 * (2147483648 - x2) + 1 < (n : Int) → J X B N 0 0 4 [(0, rv B 210), (1, iv x1), (2, iv x2)] [] Mc) := by
    intro n
    induction n with
    | zero => exact by intros; exfalso; omega
    | succ n ih =>
      · intro x1 x2 Mc hxx1 hxx2 hI hF hk_0 hk_1 hV_0 h2 hm0 hm1
        refine j_iload_n hX dX11_swaps_4 rfl 2 rfl ?_
        refine j_aload_n hX dX11_swaps_5 rfl 0 rfl ?_
        refine j_callVI hX lk_X11_459 (c_X11_rowsOfRooms _ _ _ _ _ _ _ _ (by omega) hI hk_0 hk_1) (by omega) hce rfl rfl (by omega) (by omega) kc_210 rfl rfl (Nat.le_of_ble_eq_true rfl) dX11_swaps_6 (fun z1 M2 hz4 hp3 => ?_)
        obtain ⟨hE5, hq6, hq7⟩ := hp3
        replace hE5 := hE5.symm
        subst hE5
        refine j_icmp_ge (tgt := 59) hX dX11_swaps_9 (by decide) (by omega) (by omega) (fun hc8 => ?_) (fun hc8 => ?_)
        · skip
          refine j_iload_n hX dX11_swaps_59 rfl 1 rfl ?_
          exact hret _ _ _ _ dX11_swaps_60 rfl (by omega) ⟨hI, hF⟩
        · skip
          refine j_aload_n hX dX11_swaps_12 rfl 0 rfl ?_
          refine j_iload_n hX dX11_swaps_13 rfl 2 rfl ?_
          refine j_callVI hX lk_X11_462 (c_X11_layLot _ _ _ _ _ _ _ _ _ (by omega) hI (by omega) hk_0 hk_1 (by first | assumption | omega)) (by omega) hce rfl rfl (by omega) (by omega) kc_210 rfl rfl (Nat.le_of_ble_eq_true rfl) dX11_swaps_14 (fun z9 M10 hz12 hp11 => ?_)
          obtain ⟨hI14, hG15, hb16, hq17, hq18⟩ := hp11
          have hV19 := LQ_dp hV_0 (fun a b h => hG15 a b (by omega))
          have hk20 := kp_fr hG15 (by omega) hk_0
          have hk21 := kp_fr hG15 (by omega) hk_1
          have hF22 := Fr.trans hF hG15 (fun a b h => by omega)
          refine j_if_eq (tgt := 53) hX dX11_swaps_17 (by decide) (by omega) (fun hc23 => ?_) (fun hc23 => ?_)
          · skip
            clear hq17
            refine j_iinc (lv' := [(2, _), (0, _), (1, _)]) hX dX11_swaps_53 2 rfl (by rw [hnL]; decide) rfl ?_
            refine j_goto (tgt := 4) hX dX11_swaps_56 (by decide) ?_
            refine j_sub [1, 2, 0] rfl ?_
            exact ih _ _ _ (by omega) (by omega) hI14 hF22 hk20 hk21 hV19 (by first | assumption | omega) (by omega) (by omega)
          · skip
            have hi24 := hq17 (by omega)
            clear hq17
            refine j_aload_n hX dX11_swaps_20 rfl 0 rfl ?_
            refine j_callVI hX lk_X11_465 (c_X11_doAimsHold _ _ _ _ _ _ _ _ (by omega) hI14 hk20 hk21) (by omega) hce rfl rfl (by omega) (by omega) kc_210 rfl rfl (Nat.le_of_ble_eq_true rfl) dX11_swaps_21 (fun z25 M26 hz28 hp27 => ?_)
            obtain ⟨hE29, hb30⟩ := hp27
            replace hE29 := hE29.symm
            subst hE29
            refine j_if_ne (tgt := 30) hX dX11_swaps_24 (by decide) (by omega) (fun hc31 => ?_) (fun hc31 => ?_)
            · skip
              refine j_aload_n hX dX11_swaps_30 rfl 0 rfl ?_
              refine j_callVI hX lk_X11_468 (c_X11_swapsTo _ _ _ _ _ _ _ _ (by omega) hI14 hk20 hk21 hV19 (by first | assumption | omega)) (by omega) hce rfl rfl (by omega) (by omega) kc_210 rfl rfl (Nat.le_of_ble_eq_true rfl) dX11_swaps_31 (fun z32 M33 hz35 hp34 => ?_)
              have hE36 := hp34.symm
              subst hE36
              refine j_istore_n (lv' := [(3, _), (0, _), (1, _), (2, _)]) hX dX11_swaps_34 rfl (by rw [hnL]; decide) rfl ?_
              refine j_iload_n hX dX11_swaps_35 rfl 2 rfl ?_
              refine j_if_lt (tgt := 47) hX dX11_swaps_36 (by decide) (by omega) (fun hc37 => ?_) (fun hc37 => ?_)
              · skip
                refine j_iload_n hX dX11_swaps_47 rfl 0 rfl ?_
                refine j_istore_n (lv' := [(1, _), (3, _), (0, _), (2, _)]) hX dX11_swaps_48 rfl (by rw [hnL]; decide) rfl ?_
                refine j_aload_n hX dX11_swaps_49 rfl 2 rfl ?_
                refine j_callVV hX lk_X11_471 (c_X11_layRow _ _ _ _ _ _ _ _ (by omega) hI14 hk20 hk21) (by omega) hce rfl rfl (by omega) (by omega) kc_210 rfl rfl (Nat.le_of_ble_eq_true rfl) dX11_swaps_50 (fun M39 hp40 => ?_)
                obtain ⟨hI43, hG44⟩ := hp40
                have hV45 := LQ_dp hV19 (fun a b h => hG44 a b (by omega))
                have hk46 := kp_fr hG44 (by omega) hk20
                have hk47 := kp_fr hG44 (by omega) hk21
                clear hk20 hk21
                have hF48 := Fr.trans hF22 hG44 (fun a b h => by omega)
                refine j_iinc (lv' := [(2, _), (1, _), (3, _), (0, _)]) hX dX11_swaps_53 3 rfl (by rw [hnL]; decide) rfl ?_
                refine j_goto (tgt := 4) hX dX11_swaps_56 (by decide) ?_
                refine j_sub [3, 1, 0] rfl ?_
                exact ih _ _ _ (by omega) (by omega) hI43 hF48 hk46 hk47 hV45 (by first | assumption | omega) (by omega) (by omega)
              · skip
                refine j_iload_n hX dX11_swaps_39 rfl 0 rfl ?_
                refine j_iload_n hX dX11_swaps_40 rfl 2 rfl ?_
                refine j_icmp_lt (tgt := 47) hX dX11_swaps_41 (by decide) (by omega) (by omega) (fun hc49 => ?_) (fun hc49 => ?_)
                · skip
                  refine j_iload_n hX dX11_swaps_47 rfl 0 rfl ?_
                  refine j_istore_n (lv' := [(1, _), (3, _), (0, _), (2, _)]) hX dX11_swaps_48 rfl (by rw [hnL]; decide) rfl ?_
                  refine j_aload_n hX dX11_swaps_49 rfl 2 rfl ?_
                  refine j_callVV hX lk_X11_471 (c_X11_layRow _ _ _ _ _ _ _ _ (by omega) hI14 hk20 hk21) (by omega) hce rfl rfl (by omega) (by omega) kc_210 rfl rfl (Nat.le_of_ble_eq_true rfl) dX11_swaps_50 (fun M51 hp52 => ?_)
                  obtain ⟨hI55, hG56⟩ := hp52
                  have hV57 := LQ_dp hV19 (fun a b h => hG56 a b (by omega))
                  have hk58 := kp_fr hG56 (by omega) hk20
                  have hk59 := kp_fr hG56 (by omega) hk21
                  clear hk20 hk21
                  have hF60 := Fr.trans hF22 hG56 (fun a b h => by omega)
                  refine j_iinc (lv' := [(2, _), (1, _), (3, _), (0, _)]) hX dX11_swaps_53 3 rfl (by rw [hnL]; decide) rfl ?_
                  refine j_goto (tgt := 4) hX dX11_swaps_56 (by decide) ?_
                  refine j_sub [3, 1, 0] rfl ?_
                  exact ih _ _ _ (by omega) (by omega) hI55 hF60 hk58 hk59 hV57 (by first | assumption | omega) (by omega) (by omega)
                · skip
                  refine j_goto (tgt := 53) hX dX11_swaps_44 (by decide) ?_
                  refine j_iinc (lv' := [(2, _), (3, _), (0, _), (1, _)]) hX dX11_swaps_53 3 rfl (by rw [hnL]; decide) rfl ?_
                  refine j_goto (tgt := 4) hX dX11_swaps_56 (by decide) ?_
                  refine j_sub [2, 3, 0] rfl ?_
                  exact ih _ _ _ (by omega) (by omega) hI14 hF22 hk20 hk21 hV19 (by first | assumption | omega) (by omega) (by omega)
            · skip
              refine j_goto (tgt := 53) hX dX11_swaps_27 (by decide) ?_
              refine j_iinc (lv' := [(2, _), (0, _), (1, _)]) hX dX11_swaps_53 2 rfl (by rw [hnL]; decide) rfl ?_
              refine j_goto (tgt := 4) hX dX11_swaps_56 (by decide) ?_
              refine j_sub [1, 2, 0] rfl ?_
              exact ih _ _ _ (by omega) (by omega) hI14 hF22 hk20 hk21 hV19 (by first | assumption | omega) (by omega) (by omega)
  show J X B N 0 0 0 [(0, rv B 210)] [] M
  refine j_iconst hX dX11_swaps_0 ?_
  refine j_istore_n (lv' := [(1, _), (0, _)]) hX dX11_swaps_1 rfl (by rw [hnL]; decide) rfl ?_
  refine j_iconst hX dX11_swaps_2 ?_
  refine j_istore_n (lv' := [(2, _), (1, _), (0, _)]) hX dX11_swaps_3 rfl (by rw [hnL]; decide) rfl ?_
  refine j_sub [2, 1, 0] rfl ?_
  refine (cp (Int.toNat (68719476800 + 1))) _ _ _ (by omega) (by omega) hI hF hbk hnr hLP (by first | assumption | omega) ?_ ?_
  · omega
  · omega
set_option maxHeartbeats 2000000 in
set_option maxRecDepth 20000 in
theorem c_X11_pointsTo (l : Launch) (D : va_G) (cy : Nat → ClassId) (B N : Nat) (bk : Int) (nr : Int) (a : Int) (b : Int) (M : MM) (hN : 257 ≤ N) (hI : Iv M) (hpa : I32 a) (hpb : I32 b) (hbk : M.1 210 40 = bk) (hnr : M.1 213 bk = nr) (h1 : 0 ≤ a ∧ a < 6) (hbe : ∃ o, 0 ≤ o ∧ o < nr ∧ bt b o = 1) : CI l D cy B N 2 yX11_pointsTo cX11_pointsTo 7 (some .int) [rv B 210, iv a, iv b] M (fun z M' => M' = M ∧ (0 ≤ z ∧ z < nr) ∧ (bt b z = 1)) := by
  refine mk_CI (by decide) (Nat.le_of_ble_eq_true rfl) ?_
  intro X exl exD excy hnL hX hret
  have hce : 0 + 0 ≤ (xR X).cells ∧ 0 + 0 ≤ (xR X).slots := ⟨Nat.zero_le _, Nat.zero_le _⟩
  have hbk2 : 0 ≤ bk ∧ bk ≤ 1 := by have := hI.at 210 40 ro_210_40; omega
  have hnr2 : 0 ≤ nr ∧ nr ≤ 6 := by have := hI.at 213 bk (ra_213 _); omega
  have cp : ∀ n : Nat, (∀ (x3 x4 : Int), I32 x3 → I32 x4 → (-1 ≤ x3 ∧ x3 < nr ∧ 0 ≤ x4 ∧ x4 ≤ 6) → (x3 = -1 → ∃ o, x4 ≤ o ∧ o < nr ∧ bt b o = 1) → (0 ≤ x3 → bt b x3 = 1) → 0 ≤ 32 * (6 - x4) + 1 → 32 * (6 - x4) + 1 < (n : Int) → J X B N 0 0 5 [(0, rv B 210), (1, iv a), (2, iv b), (3, iv x3), (4, iv x4)] [] M) := by
    intro n
    induction n with
    | zero => exact by intros; exfalso; omega
    | succ n ih =>
      · intro x3 x4 hxx3 hxx4 h2 h3 h4 hm0 hm1
        refine j_iload hX dX11_pointsTo_5 4 rfl ?_
        refine j_aload_n hX dX11_pointsTo_7 rfl 0 rfl ?_
        refine j_callVI hX lk_X11_385 (c_X11_many _ _ _ _ _ _ _ _ (by omega) hI hbk hnr) (by omega) hce rfl rfl (by omega) (by omega) kc_210 rfl rfl (Nat.le_of_ble_eq_true rfl) dX11_pointsTo_8 (fun z1 M2 hz4 hp3 => ?_)
        obtain ⟨hE5, hq6⟩ := hp3
        replace hE5 := hE5.symm
        subst hE5
        refine j_icmp_ge (tgt := 111) hX dX11_pointsTo_11 (by decide) (by omega) (by omega) (fun hc7 => ?_) (fun hc7 => ?_)
        · skip
          have hx3 : 0 ≤ x3 := (Int.lt_or_le x3 0).elim (fun h => by obtain ⟨o, p, q, _⟩ := h3 (by omega); omega) id
          refine j_iload_n hX dX11_pointsTo_111 rfl 3 rfl ?_
          exact hret _ _ _ _ dX11_pointsTo_112 rfl (by omega) ⟨rfl, by first | assumption | omega, h4 hx3⟩
        · skip
          refine j_iload_n hX dX11_pointsTo_14 rfl 2 rfl ?_
          refine j_iload hX dX11_pointsTo_15 4 rfl ?_
          refine j_callSI hX lk_X11_368 (c_X11_has _ _ _ _ _ _ _ _ (by omega) (by omega)) (by omega) hce rfl rfl (Nat.le_of_ble_eq_true rfl) dX11_pointsTo_17 (fun z8 M9 hz11 hp10 => ?_)
          obtain ⟨hE12, hb13, hq14⟩ := hp10
          replace hE12 := hE12.symm
          subst hE12
          refine j_if_ne (tgt := 26) hX dX11_pointsTo_20 (by decide) (by omega) (fun hc15 => ?_) (fun hc15 => ?_)
          · skip
            refine j_aload_n hX dX11_pointsTo_26 rfl 0 rfl ?_
            refine gf_X11_110 hX (by omega) (by omega) kc_210 (fc_210_47 hI) (by decide) dX11_pointsTo_27 ?_
            refine j_iconst hX dX11_pointsTo_30 ?_
            refine j_iload hX dX11_pointsTo_31 4 rfl ?_
            refine j_iadd hX dX11_pointsTo_33 ?_
            refine j_iald hX (by omega) (by omega) kc_242 (by omega) (by omega) (by omega) dX11_pointsTo_34 ?_
            refine j_name hI (rs_242 (by omega) (by omega)) (fun v16 hv17 hl18 hh19 => ?_)
            refine j_istore (lv' := [(5, _), (0, _), (1, _), (2, _), (3, _), (4, _)]) hX dX11_pointsTo_35 (by rw [hnL]; decide) rfl ?_
            refine j_aload_n hX dX11_pointsTo_37 rfl 1 rfl ?_
            refine j_iload_n hX dX11_pointsTo_38 rfl 2 rfl ?_
            refine j_iload hX dX11_pointsTo_39 0 rfl ?_
            refine j_callVI hX lk_X11_375 (c_X11_wantBy _ _ _ _ _ _ _ _ _ (by omega) hI (by omega) (by omega) hbk (by first | assumption | omega)) (by omega) hce rfl rfl (by omega) (by omega) kc_210 rfl rfl (Nat.le_of_ble_eq_true rfl) dX11_pointsTo_41 (fun z20 M21 hz23 hp22 => ?_)
            have hE24 := hp22.symm
            subst hE24
            refine j_istore (lv' := [(6, _), (5, _), (0, _), (1, _), (2, _), (3, _), (4, _)]) hX dX11_pointsTo_44 (by rw [hnL]; decide) rfl ?_
            refine j_iload_n hX dX11_pointsTo_46 rfl 5 rfl ?_
            refine j_if_lt (tgt := 102) hX dX11_pointsTo_47 (by decide) (by omega) (fun hc25 => ?_) (fun hc25 => ?_)
            · skip
              refine j_iload hX dX11_pointsTo_102 6 rfl ?_
              refine j_istore_n (lv' := [(3, _), (6, _), (5, _), (0, _), (1, _), (2, _), (4, _)]) hX dX11_pointsTo_104 rfl (by rw [hnL]; decide) rfl ?_
              refine j_iinc (lv' := [(4, _), (3, _), (6, _), (5, _), (0, _), (1, _), (2, _)]) hX dX11_pointsTo_105 6 rfl (by rw [hnL]; decide) rfl ?_
              refine j_goto (tgt := 5) hX dX11_pointsTo_108 (by decide) ?_
              refine j_sub [4, 5, 6, 1, 0] rfl ?_
              exact ih _ _ (by omega) (by omega) (by first | assumption | omega) (by first | exact fun e => absurd e (by omega) | exact fun _ => hbe | exact fun e => pt_s (h3 e) (by omega)) (by first | assumption | exact fun e => absurd e (by omega) | exact fun _ => by omega) (by omega) (by omega)
            · skip
              refine j_iload hX dX11_pointsTo_50 0 rfl ?_
              refine j_aload_n hX dX11_pointsTo_52 rfl 2 rfl ?_
              refine j_iload_n hX dX11_pointsTo_53 rfl 3 rfl ?_
              refine j_aload_n hX dX11_pointsTo_54 rfl 2 rfl ?_
              refine gf_X11_110 hX (by omega) (by omega) kc_210 (fc_210_47 hI) (by decide) dX11_pointsTo_55 ?_
              refine j_iconst hX dX11_pointsTo_58 ?_
              refine j_iload_n hX dX11_pointsTo_59 rfl 5 rfl ?_
              refine j_iadd hX dX11_pointsTo_60 ?_
              refine j_iald hX (by omega) (by omega) kc_242 (by omega) (by omega) (by omega) dX11_pointsTo_61 ?_
              refine j_name hI (rs_242 (by omega) (by omega)) (fun v26 hv27 hl28 hh29 => ?_)
              refine j_callVI hX lk_X11_375 (c_X11_wantBy _ _ _ _ _ _ _ _ _ (by omega) hI (by omega) (by omega) hbk (by first | assumption | omega)) (by omega) hce rfl rfl (by omega) (by omega) kc_210 rfl rfl (Nat.le_of_ble_eq_true rfl) dX11_pointsTo_62 (fun z30 M31 hz33 hp32 => ?_)
              have hE34 := hp32.symm
              subst hE34
              refine j_icmp_lt (tgt := 105) hX dX11_pointsTo_65 (by decide) (by omega) (by omega) (fun hc35 => ?_) (fun hc35 => ?_)
              · skip
                refine j_iinc (lv' := [(4, _), (6, _), (5, _), (0, _), (1, _), (2, _), (3, _)]) hX dX11_pointsTo_105 6 rfl (by rw [hnL]; decide) rfl ?_
                refine j_goto (tgt := 5) hX dX11_pointsTo_108 (by decide) ?_
                refine j_sub [3, 4, 5, 6, 0] rfl ?_
                exact ih _ _ (by omega) (by omega) (by first | assumption | omega) (by first | exact fun e => absurd e (by omega) | exact fun _ => hbe | exact fun e => pt_s (h3 e) (by omega)) (by first | assumption | exact fun e => absurd e (by omega) | exact fun _ => by omega) (by omega) (by omega)
              · skip
                refine j_iload hX dX11_pointsTo_68 0 rfl ?_
                refine j_aload_n hX dX11_pointsTo_70 rfl 2 rfl ?_
                refine j_iload_n hX dX11_pointsTo_71 rfl 3 rfl ?_
                refine j_aload_n hX dX11_pointsTo_72 rfl 2 rfl ?_
                refine gf_X11_110 hX (by omega) (by omega) kc_210 (fc_210_47 hI) (by decide) dX11_pointsTo_73 ?_
                refine j_iconst hX dX11_pointsTo_76 ?_
                refine j_iload_n hX dX11_pointsTo_77 rfl 5 rfl ?_
                refine j_iadd hX dX11_pointsTo_78 ?_
                refine j_iald hX (by omega) (by omega) kc_242 (by omega) (by omega) (by omega) dX11_pointsTo_79 ?_
                refine j_name hI (rs_242 (by omega) (by omega)) (fun v36 hv37 hl38 hh39 => ?_)
                refine j_callVI hX lk_X11_375 (c_X11_wantBy _ _ _ _ _ _ _ _ _ (by omega) hI (by omega) (by omega) hbk (by first | assumption | omega)) (by omega) hce rfl rfl (by omega) (by omega) kc_210 rfl rfl (Nat.le_of_ble_eq_true rfl) dX11_pointsTo_80 (fun z40 M41 hz43 hp42 => ?_)
                have hE44 := hp42.symm
                subst hE44
                refine j_icmp_ne (tgt := 102) hX dX11_pointsTo_83 (by decide) (by omega) (by omega) (fun hc45 => ?_) (fun hc45 => ?_)
                · skip
                  refine j_iload hX dX11_pointsTo_102 6 rfl ?_
                  refine j_istore_n (lv' := [(3, _), (6, _), (5, _), (0, _), (1, _), (2, _), (4, _)]) hX dX11_pointsTo_104 rfl (by rw [hnL]; decide) rfl ?_
                  refine j_iinc (lv' := [(4, _), (3, _), (6, _), (5, _), (0, _), (1, _), (2, _)]) hX dX11_pointsTo_105 6 rfl (by rw [hnL]; decide) rfl ?_
                  refine j_goto (tgt := 5) hX dX11_pointsTo_108 (by decide) ?_
                  refine j_sub [4, 5, 6, 1, 0] rfl ?_
                  exact ih _ _ (by omega) (by omega) (by first | assumption | omega) (by first | exact fun e => absurd e (by omega) | exact fun _ => hbe | exact fun e => pt_s (h3 e) (by omega)) (by first | assumption | exact fun e => absurd e (by omega) | exact fun _ => by omega) (by omega) (by omega)
                · skip
                  refine j_iload hX dX11_pointsTo_86 1 rfl ?_
                  refine j_aload_n hX dX11_pointsTo_88 rfl 2 rfl ?_
                  refine gf_X11_110 hX (by omega) (by omega) kc_210 (fc_210_47 hI) (by decide) dX11_pointsTo_89 ?_
                  refine j_iconst hX dX11_pointsTo_92 ?_
                  refine j_iload_n hX dX11_pointsTo_93 rfl 5 rfl ?_
                  refine j_iadd hX dX11_pointsTo_94 ?_
                  refine j_iald hX (by omega) (by omega) kc_242 (by omega) (by omega) (by omega) dX11_pointsTo_95 ?_
                  refine j_name hI (rs_242 (by omega) (by omega)) (fun v46 hv47 hl48 hh49 => ?_)
                  refine j_icmp_le (tgt := 102) hX dX11_pointsTo_96 (by decide) (by omega) (by omega) (fun hc50 => ?_) (fun hc50 => ?_)
                  · skip
                    refine j_iload hX dX11_pointsTo_102 6 rfl ?_
                    refine j_istore_n (lv' := [(3, _), (6, _), (5, _), (0, _), (1, _), (2, _), (4, _)]) hX dX11_pointsTo_104 rfl (by rw [hnL]; decide) rfl ?_
                    refine j_iinc (lv' := [(4, _), (3, _), (6, _), (5, _), (0, _), (1, _), (2, _)]) hX dX11_pointsTo_105 6 rfl (by rw [hnL]; decide) rfl ?_
                    refine j_goto (tgt := 5) hX dX11_pointsTo_108 (by decide) ?_
                    refine j_sub [4, 5, 6, 1, 0] rfl ?_
                    exact ih _ _ (by omega) (by omega) (by first | assumption | omega) (by first | exact fun e => absurd e (by omega) | exact fun _ => hbe | exact fun e => pt_s (h3 e) (by omega)) (by first | assumption | exact fun e => absurd e (by omega) | exact fun _ => by omega) (by omega) (by omega)
                  · skip
                    refine j_goto (tgt := 105) hX dX11_pointsTo_99 (by decide) ?_
                    refine j_iinc (lv' := [(4, _), (6, _), (5, _), (0, _), (1, _), (2, _), (3, _)]) hX dX11_pointsTo_105 6 rfl (by rw [hnL]; decide) rfl ?_
                    refine j_goto (tgt := 5) hX dX11_pointsTo_108 (by decide) ?_
                    refine j_sub [3, 4, 5, 6, 0] rfl ?_
                    exact ih _ _ (by omega) (by omega) (by first | assumption | omega) (by first | exact fun e => absurd e (by omega) | exact fun _ => hbe | exact fun e => pt_s (h3 e) (by omega)) (by first | assumption | exact fun e => absurd e (by omega) | exact fun _ => by omega) (by omega) (by omega)
          · skip
            refine j_goto (tgt := 105) hX dX11_pointsTo_23 (by decide) ?_
            refine j_iinc (lv' := [(4, _), (0, _), (1, _), (2, _), (3, _)]) hX dX11_pointsTo_105 4 rfl (by rw [hnL]; decide) rfl ?_
            refine j_goto (tgt := 5) hX dX11_pointsTo_108 (by decide) ?_
            refine j_sub [1, 2, 3, 4, 0] rfl ?_
            exact ih _ _ (by omega) (by omega) (by first | assumption | omega) (by first | exact fun e => absurd e (by omega) | exact fun _ => hbe | exact fun e => pt_s (h3 e) (by omega)) (by first | assumption | exact fun e => absurd e (by omega) | exact fun _ => by omega) (by omega) (by omega)
  show J X B N 0 0 0 [(0, rv B 210), (1, iv a), (2, iv b)] [] M
  refine j_iconst hX dX11_pointsTo_0 ?_
  refine j_istore_n (lv' := [(3, _), (0, _), (1, _), (2, _)]) hX dX11_pointsTo_1 rfl (by rw [hnL]; decide) rfl ?_
  refine j_iconst hX dX11_pointsTo_2 ?_
  refine j_istore (lv' := [(4, _), (3, _), (0, _), (1, _), (2, _)]) hX dX11_pointsTo_3 (by rw [hnL]; decide) rfl ?_
  refine j_sub [2, 3, 4, 1, 0] rfl ?_
  refine (cp (Int.toNat (256 + 1))) _ _ (by omega) (by omega) (by first | assumption | omega) (by first | exact fun e => absurd e (by omega) | exact fun _ => hbe | exact fun e => pt_s (h3 e) (by omega)) (by first | assumption | exact fun e => absurd e (by omega) | exact fun _ => by omega) ?_ ?_
  · omega
  · omega
set_option maxHeartbeats 2000000 in
set_option maxRecDepth 20000 in
theorem c_X11_ringOf (l : Launch) (D : va_G) (cy : Nat → ClassId) (B N : Nat) (bk : Int) (nr : Int) (a : Int) (M : MM) (hN : 257 ≤ N) (hI : Iv M) (hpa : I32 a) (hbk : M.1 210 40 = bk) (hnr : M.1 213 bk = nr) (hbe : ∃ o, 0 ≤ o ∧ o < nr ∧ bt a o = 1) : CI l D cy B N 3 yX11_ringOf cX11_ringOf 4 (some .int) [rv B 210, iv a] M (fun z M' => M' = M ∧ (0 ≤ z ∧ z < 64) ∧ (∃ o, 0 ≤ o ∧ o < 6 ∧ bt z o = 1 ∧ bt a o = 1)) := by
  refine mk_CI (by decide) (Nat.le_of_ble_eq_true rfl) ?_
  intro X exl exD excy hnL hX hret
  have hce : 0 + 0 ≤ (xR X).cells ∧ 0 + 0 ≤ (xR X).slots := ⟨Nat.zero_le _, Nat.zero_le _⟩
  have hbk2 : 0 ≤ bk ∧ bk ≤ 1 := by have := hI.at 210 40 ro_210_40; omega
  have hnr2 : 0 ≤ nr ∧ nr ≤ 6 := by have := hI.at 213 bk (ra_213 _); omega
  have cp : ∀ n : Nat, (∀ (x2 : Int), I32 x2 → (0 ≤ x2) → (∃ o, x2 ≤ o ∧ o < nr ∧ bt a o = 1) → 0 ≤ 32 * (1000 + 10 - x2) + 3 → 32 * (1000 + 10 - x2) + 3 < (n : Int) → J X B N 0 0 2 [(0, rv B 210), (1, iv a), (2, iv x2)] [] M) ∧ (∀ (x2 x3 : Int), I32 x2 → I32 x3 → (0 ≤ x2 ∧ x2 < nr ∧ 0 ≤ x3 ∧ x3 ≤ 6) → (bt a x2 = 1) → 0 ≤ 32 * (500 + 6 - x3) + 2 → 32 * (500 + 6 - x3) + 2 < (n : Int) → J X B N 0 0 18 [(0, rv B 210), (1, iv a), (2, iv x2), (3, iv x3)] [] M) ∧ (∀ (x2 x3 : Int), I32 x2 → I32 x3 → (0 ≤ x2 ∧ x2 < nr ∧ 0 ≤ x3 ∧ x3 < 64) → (bt a x2 = 1) → 0 ≤ 32 * (6 - cn x3) + 1 → 32 * (6 - cn x3) + 1 < (n : Int) → J X B N 0 0 41 [(0, rv B 210), (1, iv a), (2, iv x2), (3, iv x3)] [] M) := by
    intro n
    induction n with
    | zero => exact ⟨by intros; exfalso; omega, by intros; exfalso; omega, by intros; exfalso; omega⟩
    | succ n ih =>
      refine ⟨?_, ?_, ?_⟩
      · intro x2 hxx2 h2 h3 hm0 hm1
        obtain ⟨i0, hi1, hi2, hi3⟩ := h3
        have h3 : ∃ o, x2 ≤ o ∧ o < nr ∧ bt a o = 1 := ⟨i0, hi1, hi2, hi3⟩
        refine j_iload_n hX dX11_ringOf_2 rfl 1 rfl ?_
        refine j_iload_n hX dX11_ringOf_3 rfl 2 rfl ?_
        refine j_callSI hX lk_X11_368 (c_X11_has _ _ _ _ _ _ _ _ (by omega) (by omega)) (by omega) hce rfl rfl (Nat.le_of_ble_eq_true rfl) dX11_ringOf_4 (fun z1 M2 hz4 hp3 => ?_)
        obtain ⟨hE5, hb6, hq7⟩ := hp3
        replace hE5 := hE5.symm
        subst hE5
        refine j_if_ne (tgt := 16) hX dX11_ringOf_7 (by decide) (by omega) (fun hc8 => ?_) (fun hc8 => ?_)
        · skip
          refine j_iconst hX dX11_ringOf_16 ?_
          refine j_istore_n (lv' := [(3, _), (0, _), (1, _), (2, _)]) hX dX11_ringOf_17 rfl (by rw [hnL]; decide) rfl ?_
          refine j_sub [1, 2, 3, 0] rfl ?_
          exact ih.2.1 _ _ (by omega) (by omega) (by first | assumption | omega) (by first | assumption | omega) (by omega) (by omega)
        · skip
          refine j_iinc (lv' := [(2, _), (0, _), (1, _)]) hX dX11_ringOf_10 2 rfl (by rw [hnL]; decide) rfl ?_
          refine j_goto (tgt := 2) hX dX11_ringOf_13 (by decide) ?_
          refine j_sub [1, 2, 0] rfl ?_
          exact ih.1 _ (by omega) (by first | assumption | omega) (by first | exact hbe | exact pt_s h3 (by omega)) (by omega) (by omega)
      · intro x2 x3 hxx2 hxx3 h2 h4 hm0 hm1
        refine j_iload_n hX dX11_ringOf_18 rfl 3 rfl ?_
        refine j_aload_n hX dX11_ringOf_19 rfl 0 rfl ?_
        refine j_callVI hX lk_X11_385 (c_X11_many _ _ _ _ _ _ _ _ (by omega) hI hbk hnr) (by omega) hce rfl rfl (by omega) (by omega) kc_210 rfl rfl (Nat.le_of_ble_eq_true rfl) dX11_ringOf_20 (fun z9 M10 hz12 hp11 => ?_)
        obtain ⟨hE13, hq14⟩ := hp11
        replace hE13 := hE13.symm
        subst hE13
        refine j_icmp_ge (tgt := 39) hX dX11_ringOf_23 (by decide) (by omega) (by omega) (fun hc15 => ?_) (fun hc15 => ?_)
        · skip
          have hcz := cn_b 0
          refine j_iconst hX dX11_ringOf_39 ?_
          refine j_istore_n (lv' := [(3, _), (0, _), (1, _), (2, _)]) hX dX11_ringOf_40 rfl (by rw [hnL]; decide) rfl ?_
          refine j_sub [1, 2, 3, 0] rfl ?_
          exact ih.2.2 _ _ (by omega) (by omega) (by first | assumption | omega) (by first | assumption | omega) (by omega) (by omega)
        · skip
          refine j_aload_n hX dX11_ringOf_26 rfl 0 rfl ?_
          refine j_iload_n hX dX11_ringOf_27 rfl 2 rfl ?_
          refine j_iload_n hX dX11_ringOf_28 rfl 1 rfl ?_
          refine j_callVI hX lk_X11_483 (c_X11_pointsTo _ _ _ _ _ _ _ _ _ _ (by omega) hI (by omega) (by omega) hbk hnr (by first | assumption | omega) (by first | assumption | omega)) (by omega) hce rfl rfl (by omega) (by omega) kc_210 rfl rfl (Nat.le_of_ble_eq_true rfl) dX11_ringOf_29 (fun z16 M17 hz19 hp18 => ?_)
          obtain ⟨hE20, hq21, hq22⟩ := hp18
          replace hE20 := hE20.symm
          subst hE20
          refine j_istore_n (lv' := [(2, _), (0, _), (1, _), (3, _)]) hX dX11_ringOf_32 rfl (by rw [hnL]; decide) rfl ?_
          refine j_iinc (lv' := [(3, _), (2, _), (0, _), (1, _)]) hX dX11_ringOf_33 3 rfl (by rw [hnL]; decide) rfl ?_
          refine j_goto (tgt := 18) hX dX11_ringOf_36 (by decide) ?_
          refine j_sub [2, 3, 1, 0] rfl ?_
          exact ih.2.1 _ _ (by omega) (by omega) (by first | assumption | omega) (by first | assumption | omega) (by omega) (by omega)
      · intro x2 x3 hxx2 hxx3 h2 h4 hm0 hm1
        have hcn := cn_b x3
        refine j_iload_n hX dX11_ringOf_41 rfl 3 rfl ?_
        refine j_iload_n hX dX11_ringOf_42 rfl 2 rfl ?_
        refine j_callSI hX lk_X11_368 (c_X11_has _ _ _ _ _ _ _ _ (by omega) (by omega)) (by omega) hce rfl rfl (Nat.le_of_ble_eq_true rfl) dX11_ringOf_43 (fun z23 M24 hz26 hp25 => ?_)
        obtain ⟨hE27, hb28, hq29⟩ := hp25
        replace hE27 := hE27.symm
        subst hE27
        refine j_if_ne (tgt := 65) hX dX11_ringOf_46 (by decide) (by omega) (fun hc30 => ?_) (fun hc30 => ?_)
        · skip
          refine j_iload_n hX dX11_ringOf_65 rfl 3 rfl ?_
          exact hret _ _ _ _ dX11_ringOf_66 rfl (by omega) ⟨rfl, by first | assumption | omega, ⟨x2, by omega, by omega, by omega, by assumption⟩⟩
        · skip
          refine j_iload_n hX dX11_ringOf_49 rfl 3 rfl ?_
          refine j_iconst hX dX11_ringOf_50 ?_
          refine j_iload_n hX dX11_ringOf_51 rfl 2 rfl ?_
          refine j_ishl hX dX11_ringOf_52 (fun z31 hz32 hy33 => ?_)
          refine j_ior hX dX11_ringOf_53 (fun z34 hz35 hy36 => ?_)
          have hor := orb_of (by assumption) hz35
          have hoc := orb_c hor (by omega) (by omega) (by omega) (by omega) (by omega)
          have hcn1 := cn_b z34
          refine j_istore_n (lv' := [(3, _), (0, _), (1, _), (2, _)]) hX dX11_ringOf_54 rfl (by rw [hnL]; decide) rfl ?_
          refine j_aload_n hX dX11_ringOf_55 rfl 1 rfl ?_
          refine j_iload_n hX dX11_ringOf_56 rfl 3 rfl ?_
          refine j_iload_n hX dX11_ringOf_57 rfl 2 rfl ?_
          refine j_callVI hX lk_X11_483 (c_X11_pointsTo _ _ _ _ _ _ _ _ _ _ (by omega) hI (by omega) (by omega) hbk hnr (by first | assumption | omega) (by first | assumption | omega)) (by omega) hce rfl rfl (by omega) (by omega) kc_210 rfl rfl (Nat.le_of_ble_eq_true rfl) dX11_ringOf_58 (fun z37 M38 hz40 hp39 => ?_)
          obtain ⟨hE41, hq42, hq43⟩ := hp39
          replace hE41 := hE41.symm
          subst hE41
          refine j_istore_n (lv' := [(2, _), (3, _), (0, _), (1, _)]) hX dX11_ringOf_61 rfl (by rw [hnL]; decide) rfl ?_
          refine j_goto (tgt := 41) hX dX11_ringOf_62 (by decide) ?_
          refine j_sub [2, 3, 0, 1] rfl ?_
          exact ih.2.2 _ _ (by omega) (by omega) (by first | assumption | omega) (by first | assumption | omega) (by omega) (by omega)
  show J X B N 0 0 0 [(0, rv B 210), (1, iv a)] [] M
  refine j_iconst hX dX11_ringOf_0 ?_
  refine j_istore_n (lv' := [(2, _), (0, _), (1, _)]) hX dX11_ringOf_1 rfl (by rw [hnL]; decide) rfl ?_
  refine j_sub [1, 2, 0] rfl ?_
  refine (cp (Int.toNat (64064 + 1))).1 _ (by omega) (by first | assumption | omega) (by first | exact hbe | exact pt_s h3 (by omega)) ?_ ?_
  · omega
  · omega
set_option maxHeartbeats 2000000 in
set_option maxRecDepth 20000 in
theorem c_X11_rings (l : Launch) (D : va_G) (cy : Nat → ClassId) (B N : Nat) (bk : Int) (nr : Int) (M : MM) (hN : 257 ≤ N) (hI : Iv M) (hbk : M.1 210 40 = bk) (hnr : M.1 213 bk = nr) : CI l D cy B N 4 yX11_rings cX11_rings 4 (some .int) [rv B 210] M (fun z M' => Iv M' ∧ Fr (fun a b => (a = 248) ∨ (a = 210 ∧ 54 ≤ b ∧ b ≤ 54) ∨ (a = 246)) M M') := by
  refine mk_CI (by decide) (Nat.le_of_ble_eq_true rfl) ?_
  intro X exl exD excy hnL hX hret
  have hce : 0 + 0 ≤ (xR X).cells ∧ 0 + 0 ≤ (xR X).slots := ⟨Nat.zero_le _, Nat.zero_le _⟩
  have hF : Fr (fun a b => (a = 248) ∨ (a = 210 ∧ 54 ≤ b ∧ b ≤ 54) ∨ (a = 246)) M M := Fr.rf
  have hbk2 : 0 ≤ bk ∧ bk ≤ 1 := by have := hI.at 210 40 ro_210_40; omega
  have hnr2 : 0 ≤ nr ∧ nr ≤ 6 := by have := hI.at 213 bk (ra_213 _); omega
  have cp : ∀ n : Nat, (∀ (x1 : Int), ∀ (Mc : MM), I32 x1 → Iv Mc → Fr (fun a b => (a = 248) ∨ (a = 210 ∧ 54 ≤ b ∧ b ≤ 54) ∨ (a = 246)) M Mc → Mc.1 210 40 = bk → Mc.1 213 bk = nr → (0 ≤ x1 ∧ x1 < 64) → (RB nr x1) → 0 ≤ 32 * (100 * cn x1 + 50) + 2 → 32 * (100 * cn x1 + 50) + 2 < (n : Int) → J X B N 0 0 9 [(0, rv B 210), (1, iv x1)] [] Mc) ∧ (∀ (x1 x2 x3 : Int), ∀ (Mc : MM), I32 x1 → I32 x2 → I32 x3 → Iv Mc → Fr (fun a b => (a = 248) ∨ (a = 210 ∧ 54 ≤ b ∧ b ≤ 54) ∨ (a = 246)) M Mc → Mc.1 210 40 = bk → Mc.1 213 bk = nr → (0 ≤ x1 ∧ x1 < 64 ∧ 0 ≤ x2 ∧ x2 < 64 ∧ 0 ≤ x3 ∧ x3 ≤ 6) → (RB nr x1) → (∃ o, 0 ≤ o ∧ o < nr ∧ bt x1 o = 1) → (∃ o, 0 ≤ o ∧ o < 6 ∧ bt x2 o = 1 ∧ bt x1 o = 1) → 0 ≤ 32 * (100 * cn x1 + 10 - x3) + 1 → 32 * (100 * cn x1 + 10 - x3) + 1 < (n : Int) → J X B N 0 0 21 [(0, rv B 210), (1, iv x1), (2, iv x2), (3, iv x3)] [] Mc) := by
    intro n
    induction n with
    | zero => exact ⟨by intros; exfalso; omega, by intros; exfalso; omega⟩
    | succ n ih =>
      refine ⟨?_, ?_⟩
      · intro x1 Mc hxx1 hI hF hk_0 hk_1 h2 h3 hm0 hm1
        have hcn := cn_b x1
        refine j_iload_n hX dX11_rings_9 rfl 1 rfl ?_
        refine j_if_eq (tgt := 71) hX dX11_rings_10 (by decide) (by omega) (fun hc1 => ?_) (fun hc1 => ?_)
        · skip
          refine j_aload_n hX dX11_rings_71 rfl 0 rfl ?_
          refine j_callVV hX lk_X11_471 (c_X11_layRow _ _ _ _ _ _ _ _ (by omega) hI hk_0 hk_1) (by omega) hce rfl rfl (by omega) (by omega) kc_210 rfl rfl (Nat.le_of_ble_eq_true rfl) dX11_rings_72 (fun M3 hp4 => ?_)
          obtain ⟨hI7, hG8⟩ := hp4
          have hk9 := kp_fr hG8 (by omega) hk_0
          have hk10 := kp_fr hG8 (by omega) hk_1
          have hF11 := Fr.trans hF hG8 (fun a b h => by omega)
          refine j_aload_n hX dX11_rings_75 rfl 0 rfl ?_
          refine j_callVI hX lk_X11_474 (c_X11_wantsInRow _ _ _ _ _ _ _ _ (by omega) hI7 hk9 hk10) (by omega) hce rfl rfl (by omega) (by omega) kc_210 rfl rfl (Nat.le_of_ble_eq_true rfl) dX11_rings_76 (fun z12 M13 hz15 hp14 => ?_)
          have hE16 := hp14.symm
          subst hE16
          exact hret _ _ _ _ dX11_rings_79 rfl (by omega) ⟨hI7, hF11⟩
        · skip
          refine j_aload_n hX dX11_rings_13 rfl 0 rfl ?_
          refine j_iload_n hX dX11_rings_14 rfl 1 rfl ?_
          refine j_callVI hX lk_X11_486 (c_X11_ringOf _ _ _ _ _ _ _ _ _ (by omega) hI (by omega) hk_0 hk_1 (RB_ex h3 (by omega) (by omega) (by assumption))) (by omega) hce rfl rfl (by omega) (by omega) kc_210 rfl rfl (Nat.le_of_ble_eq_true rfl) dX11_rings_15 (fun z17 M18 hz20 hp19 => ?_)
          obtain ⟨hE21, hq22, hq23⟩ := hp19
          replace hE21 := hE21.symm
          subst hE21
          refine j_istore_n (lv' := [(2, _), (0, _), (1, _)]) hX dX11_rings_18 rfl (by rw [hnL]; decide) rfl ?_
          refine j_iconst hX dX11_rings_19 ?_
          refine j_istore_n (lv' := [(3, _), (2, _), (0, _), (1, _)]) hX dX11_rings_20 rfl (by rw [hnL]; decide) rfl ?_
          refine j_sub [2, 3, 1, 0] rfl ?_
          exact ih.2 _ _ _ _ (by omega) (by omega) (by omega) hI hF hk_0 hk_1 (by first | assumption | omega) (by first | assumption | omega) (by first | assumption | exact RB_ex h3 (by omega) (by omega) (by assumption)) (by first | assumption | omega) (by omega) (by omega)
      · intro x1 x2 x3 Mc hxx1 hxx2 hxx3 hI hF hk_0 hk_1 h2 h3 h4 h5 hm0 hm1
        have hcn := cn_b x1
        refine j_iload_n hX dX11_rings_21 rfl 3 rfl ?_
        refine j_aload_n hX dX11_rings_22 rfl 0 rfl ?_
        refine j_callVI hX lk_X11_385 (c_X11_many _ _ _ _ _ _ _ _ (by omega) hI hk_0 hk_1) (by omega) hce rfl rfl (by omega) (by omega) kc_210 rfl rfl (Nat.le_of_ble_eq_true rfl) dX11_rings_23 (fun z24 M25 hz27 hp26 => ?_)
        obtain ⟨hE28, hq29⟩ := hp26
        replace hE28 := hE28.symm
        subst hE28
        refine j_icmp_ge (tgt := 62) hX dX11_rings_26 (by decide) (by omega) (by omega) (fun hc30 => ?_) (fun hc30 => ?_)
        · skip
          refine j_iload_n hX dX11_rings_62 rfl 1 rfl ?_
          refine j_iload_n hX dX11_rings_63 rfl 2 rfl ?_
          refine j_iconst hX dX11_rings_64 ?_
          refine j_ixor hX dX11_rings_65 (fun z31 hz32 hy33 => ?_)
          refine j_iand hX dX11_rings_66 (fun z34 hz35 hy36 => ?_)
          have han := anb_of (by assumption) hz35
          have haf := anb_f han (by omega) (by omega) (by omega) (by omega) h3 h5
          obtain ⟨⟨hz0, hz1⟩, hrb, hcc⟩ := haf
          clear han h4 h5
          have hcn2 := cn_b z34
          refine j_istore_n (lv' := [(1, _), (0, _), (2, _), (3, _)]) hX dX11_rings_67 rfl (by rw [hnL]; decide) rfl ?_
          refine j_goto (tgt := 9) hX dX11_rings_68 (by decide) ?_
          refine j_sub [1, 0] rfl ?_
          exact ih.1 _ _ (by omega) hI hF hk_0 hk_1 (by omega) (by first | exact hrb | exact RB_full (by assumption) (by assumption) hnr2) (by omega) (by omega)
        · skip
          refine j_iload_n hX dX11_rings_29 rfl 2 rfl ?_
          refine j_iload_n hX dX11_rings_30 rfl 3 rfl ?_
          refine j_callSI hX lk_X11_368 (c_X11_has _ _ _ _ _ _ _ _ (by omega) (by omega)) (by omega) hce rfl rfl (Nat.le_of_ble_eq_true rfl) dX11_rings_31 (fun z37 M38 hz40 hp39 => ?_)
          obtain ⟨hE41, hb42, hq43⟩ := hp39
          replace hE41 := hE41.symm
          subst hE41
          refine j_if_eq (tgt := 56) hX dX11_rings_34 (by decide) (by omega) (fun hc44 => ?_) (fun hc44 => ?_)
          · skip
            refine j_iinc (lv' := [(3, _), (0, _), (1, _), (2, _)]) hX dX11_rings_56 3 rfl (by rw [hnL]; decide) rfl ?_
            refine j_goto (tgt := 21) hX dX11_rings_59 (by decide) ?_
            refine j_sub [1, 2, 3, 0] rfl ?_
            exact ih.2 _ _ _ _ (by omega) (by omega) (by omega) hI hF hk_0 hk_1 (by first | assumption | omega) (by first | assumption | omega) (by first | assumption | exact RB_ex h3 (by omega) (by omega) (by assumption)) (by first | assumption | omega) (by omega) (by omega)
          · skip
            refine j_aload_n hX dX11_rings_37 rfl 0 rfl ?_
            refine gf_X11_128 hX (by omega) (by omega) kc_210 (fc_210_56 hI) (by decide) dX11_rings_38 ?_
            refine j_iload_n hX dX11_rings_41 rfl 3 rfl ?_
            refine j_aload_n hX dX11_rings_42 rfl 0 rfl ?_
            refine gf_X11_110 hX (by omega) (by omega) kc_210 (fc_210_47 hI) (by decide) dX11_rings_43 ?_
            refine j_iconst hX dX11_rings_46 ?_
            refine j_aload_n hX dX11_rings_47 rfl 0 rfl ?_
            refine j_iload_n hX dX11_rings_48 rfl 3 rfl ?_
            refine j_iload_n hX dX11_rings_49 rfl 1 rfl ?_
            refine j_callVI hX lk_X11_483 (c_X11_pointsTo _ _ _ _ _ _ _ _ _ _ (by omega) hI (by omega) (by omega) hk_0 hk_1 (by first | assumption | omega) (by first | assumption | omega)) (by omega) hce rfl rfl (by omega) (by omega) kc_210 rfl rfl (Nat.le_of_ble_eq_true rfl) dX11_rings_50 (fun z45 M46 hz48 hp47 => ?_)
            obtain ⟨hE49, hq50, hq51⟩ := hp47
            replace hE49 := hE49.symm
            subst hE49
            refine j_iadd hX dX11_rings_53 ?_
            refine j_iald hX (by omega) (by omega) kc_242 (by omega) (by omega) (by omega) dX11_rings_54 ?_
            refine j_name hI (rs_242 (by omega) (by omega)) (fun v52 hv53 hl54 hh55 => ?_)
            refine j_iast hX (by omega) (by omega) kc_248 (by omega) (by omega) (by omega) (by omega) dX11_rings_55 ?_
            refine j_up hI (ra_248 _) (by omega) (by omega) (Or.inl (by omega)) (fun M56 w57 hw58 hM59 hI60 hf61 => ?_)
            have hk62 := kp_up hM59 (fun h => absurd h.1 (by decide)) hk_0
            have hk63 := kp_up hM59 (fun h => absurd h.1 (by decide)) hk_1
            have hF64 := Fr.put hF hM59 (by omega)
            refine j_iinc (lv' := [(3, _), (0, _), (1, _), (2, _)]) hX dX11_rings_56 3 rfl (by rw [hnL]; decide) rfl ?_
            refine j_goto (tgt := 21) hX dX11_rings_59 (by decide) ?_
            refine j_sub [1, 2, 3, 0] rfl ?_
            exact ih.2 _ _ _ _ (by omega) (by omega) (by omega) hI60 hF64 hk62 hk63 (by first | assumption | omega) (by first | assumption | omega) (by first | assumption | exact RB_ex h3 (by omega) (by omega) (by assumption)) (by first | assumption | omega) (by omega) (by omega)
  show J X B N 0 0 0 [(0, rv B 210)] [] M
  refine j_iconst hX dX11_rings_0 ?_
  refine j_aload_n hX dX11_rings_1 rfl 0 rfl ?_
  refine j_callVI hX lk_X11_385 (c_X11_many _ _ _ _ _ _ _ _ (by omega) hI hbk hnr) (by omega) hce rfl rfl (by omega) (by omega) kc_210 rfl rfl (Nat.le_of_ble_eq_true rfl) dX11_rings_2 (fun z65 M66 hz68 hp67 => ?_)
  obtain ⟨hE69, hq70⟩ := hp67
  replace hE69 := hE69.symm
  subst hE69
  refine j_ishl hX dX11_rings_5 (fun z71 hz72 hy73 => ?_)
  have hfr := full_r hz72 (by assumption) hnr2
  have hcf := cn_b (z71 - 1)
  refine j_iconst hX dX11_rings_6 ?_
  refine j_isub hX dX11_rings_7 ?_
  refine j_istore_n (lv' := [(1, _), (0, _)]) hX dX11_rings_8 rfl (by rw [hnL]; decide) rfl ?_
  refine j_sub [1, 0] rfl ?_
  refine (cp (Int.toNat (32064 + 1))).1 _ _ (by omega) hI hF hbk hnr (by omega) (by first | exact hrb | exact RB_full (by assumption) (by assumption) hnr2) ?_ ?_
  · omega
  · omega
