theorem dX8_isDrawn_0 : decode cX8_isDrawn 0 = .ok (.aload_n 0, 1) := by decide +kernel
theorem dX8_isDrawn_1 : decode cX8_isDrawn 1 = .ok (.getfield 18, 3) := by decide +kernel
theorem dX8_isDrawn_4 : decode cX8_isDrawn 4 = .ok (.iload_n 1, 1) := by decide +kernel
theorem dX8_isDrawn_5 : decode cX8_isDrawn 5 = .ok (.ishr, 1) := by decide +kernel
theorem dX8_isDrawn_6 : decode cX8_isDrawn 6 = .ok (.iconst 1, 1) := by decide +kernel
theorem dX8_isDrawn_7 : decode cX8_isDrawn 7 = .ok (.iand, 1) := by decide +kernel
theorem dX8_isDrawn_8 : decode cX8_isDrawn 8 = .ok (.ifCond .eq 7, 3) := by decide +kernel
theorem dX8_isDrawn_11 : decode cX8_isDrawn 11 = .ok (.iconst 1, 1) := by decide +kernel
theorem dX8_isDrawn_12 : decode cX8_isDrawn 12 = .ok (.goto 4, 3) := by decide +kernel
theorem dX8_isDrawn_15 : decode cX8_isDrawn 15 = .ok (.iconst 0, 1) := by decide +kernel
theorem dX8_isDrawn_16 : decode cX8_isDrawn 16 = .ok (.ireturn, 1) := by decide +kernel
theorem dX8_seesOne_0 : decode cX8_seesOne 0 = .ok (.aload_n 0, 1) := by decide +kernel
theorem dX8_seesOne_1 : decode cX8_seesOne 1 = .ok (.aload_n 0, 1) := by decide +kernel
theorem dX8_seesOne_2 : decode cX8_seesOne 2 = .ok (.getfield 9, 3) := by decide +kernel
theorem dX8_seesOne_5 : decode cX8_seesOne 5 = .ok (.iload_n 1, 1) := by decide +kernel
theorem dX8_seesOne_6 : decode cX8_seesOne 6 = .ok (.iaload, 1) := by decide +kernel
theorem dX8_seesOne_7 : decode cX8_seesOne 7 = .ok (.invokevirtual 56, 3) := by decide +kernel
theorem dX8_seesOne_10 : decode cX8_seesOne 10 = .ok (.ifCond .ne 7, 3) := by decide +kernel
theorem dX8_seesOne_13 : decode cX8_seesOne 13 = .ok (.iconst 1, 1) := by decide +kernel
theorem dX8_seesOne_14 : decode cX8_seesOne 14 = .ok (.goto 4, 3) := by decide +kernel
theorem dX8_seesOne_17 : decode cX8_seesOne 17 = .ok (.iconst 0, 1) := by decide +kernel
theorem dX8_seesOne_18 : decode cX8_seesOne 18 = .ok (.ireturn, 1) := by decide +kernel
theorem dX8_holderOf_0 : decode cX8_holderOf 0 = .ok (.iconst 0, 1) := by decide +kernel
theorem dX8_holderOf_1 : decode cX8_holderOf 1 = .ok (.istore_n 2, 1) := by decide +kernel
theorem dX8_holderOf_2 : decode cX8_holderOf 2 = .ok (.iload_n 2, 1) := by decide +kernel
theorem dX8_holderOf_3 : decode cX8_holderOf 3 = .ok (.bipush 6, 2) := by decide +kernel
theorem dX8_holderOf_5 : decode cX8_holderOf 5 = .ok (.if_icmp .ge 21, 3) := by decide +kernel
theorem dX8_holderOf_8 : decode cX8_holderOf 8 = .ok (.aload_n 0, 1) := by decide +kernel
theorem dX8_holderOf_9 : decode cX8_holderOf 9 = .ok (.getfield 9, 3) := by decide +kernel
theorem dX8_holderOf_12 : decode cX8_holderOf 12 = .ok (.iload_n 2, 1) := by decide +kernel
theorem dX8_holderOf_13 : decode cX8_holderOf 13 = .ok (.iaload, 1) := by decide +kernel
theorem dX8_holderOf_14 : decode cX8_holderOf 14 = .ok (.iload_n 1, 1) := by decide +kernel
theorem dX8_holderOf_15 : decode cX8_holderOf 15 = .ok (.if_icmp .ne 5, 3) := by decide +kernel
theorem dX8_holderOf_18 : decode cX8_holderOf 18 = .ok (.iload_n 2, 1) := by decide +kernel
theorem dX8_holderOf_19 : decode cX8_holderOf 19 = .ok (.ireturn, 1) := by decide +kernel
theorem dX8_holderOf_20 : decode cX8_holderOf 20 = .ok (.iinc 2 1, 3) := by decide +kernel
theorem dX8_holderOf_23 : decode cX8_holderOf 23 = .ok (.goto (-21), 3) := by decide +kernel
theorem dX8_holderOf_26 : decode cX8_holderOf 26 = .ok (.iload_n 1, 1) := by decide +kernel
theorem dX8_holderOf_27 : decode cX8_holderOf 27 = .ok (.ireturn, 1) := by decide +kernel
theorem dX8_swapWindows_0 : decode cX8_swapWindows 0 = .ok (.aload_n 0, 1) := by decide +kernel
theorem dX8_swapWindows_1 : decode cX8_swapWindows 1 = .ok (.getfield 9, 3) := by decide +kernel
theorem dX8_swapWindows_4 : decode cX8_swapWindows 4 = .ok (.iload_n 1, 1) := by decide +kernel
theorem dX8_swapWindows_5 : decode cX8_swapWindows 5 = .ok (.iaload, 1) := by decide +kernel
theorem dX8_swapWindows_6 : decode cX8_swapWindows 6 = .ok (.istore_n 3, 1) := by decide +kernel
theorem dX8_swapWindows_7 : decode cX8_swapWindows 7 = .ok (.aload_n 0, 1) := by decide +kernel
theorem dX8_swapWindows_8 : decode cX8_swapWindows 8 = .ok (.getfield 9, 3) := by decide +kernel
theorem dX8_swapWindows_11 : decode cX8_swapWindows 11 = .ok (.iload_n 1, 1) := by decide +kernel
theorem dX8_swapWindows_12 : decode cX8_swapWindows 12 = .ok (.aload_n 0, 1) := by decide +kernel
theorem dX8_swapWindows_13 : decode cX8_swapWindows 13 = .ok (.getfield 9, 3) := by decide +kernel
theorem dX8_swapWindows_16 : decode cX8_swapWindows 16 = .ok (.iload_n 2, 1) := by decide +kernel
theorem dX8_swapWindows_17 : decode cX8_swapWindows 17 = .ok (.iaload, 1) := by decide +kernel
theorem dX8_swapWindows_18 : decode cX8_swapWindows 18 = .ok (.iastore, 1) := by decide +kernel
theorem dX8_swapWindows_19 : decode cX8_swapWindows 19 = .ok (.aload_n 0, 1) := by decide +kernel
theorem dX8_swapWindows_20 : decode cX8_swapWindows 20 = .ok (.getfield 9, 3) := by decide +kernel
theorem dX8_swapWindows_23 : decode cX8_swapWindows 23 = .ok (.iload_n 2, 1) := by decide +kernel
theorem dX8_swapWindows_24 : decode cX8_swapWindows 24 = .ok (.iload_n 3, 1) := by decide +kernel
theorem dX8_swapWindows_25 : decode cX8_swapWindows 25 = .ok (.iastore, 1) := by decide +kernel
theorem dX8_swapWindows_26 : decode cX8_swapWindows 26 = .ok (.return_, 1) := by decide +kernel
theorem dX8_castLot_0 : decode cX8_castLot 0 = .ok (.iload_n 1, 1) := by decide +kernel
theorem dX8_castLot_1 : decode cX8_castLot 1 = .ok (.iconst 1, 1) := by decide +kernel
theorem dX8_castLot_2 : decode cX8_castLot 2 = .ok (.isub, 1) := by decide +kernel
theorem dX8_castLot_3 : decode cX8_castLot 3 = .ok (.istore_n 2, 1) := by decide +kernel
theorem dX8_castLot_4 : decode cX8_castLot 4 = .ok (.iload_n 2, 1) := by decide +kernel
theorem dX8_castLot_5 : decode cX8_castLot 5 = .ok (.ifCond .le 41, 3) := by decide +kernel
theorem dX8_castLot_8 : decode cX8_castLot 8 = .ok (.aload_n 0, 1) := by decide +kernel
theorem dX8_castLot_9 : decode cX8_castLot 9 = .ok (.aload_n 0, 1) := by decide +kernel
theorem dX8_castLot_10 : decode cX8_castLot 10 = .ok (.getfield 28, 3) := by decide +kernel
theorem dX8_castLot_13 : decode cX8_castLot 13 = .ok (.sipush 137, 3) := by decide +kernel
theorem dX8_castLot_16 : decode cX8_castLot 16 = .ok (.imul, 1) := by decide +kernel
theorem dX8_castLot_17 : decode cX8_castLot 17 = .ok (.bipush 71, 2) := by decide +kernel
theorem dX8_castLot_19 : decode cX8_castLot 19 = .ok (.iadd, 1) := by decide +kernel
theorem dX8_castLot_20 : decode cX8_castLot 20 = .ok (.sipush 1000, 3) := by decide +kernel
theorem dX8_castLot_23 : decode cX8_castLot 23 = .ok (.irem, 1) := by decide +kernel
theorem dX8_castLot_24 : decode cX8_castLot 24 = .ok (.putfield 28, 3) := by decide +kernel
theorem dX8_castLot_27 : decode cX8_castLot 27 = .ok (.aload_n 0, 1) := by decide +kernel
theorem dX8_castLot_28 : decode cX8_castLot 28 = .ok (.iload_n 2, 1) := by decide +kernel
theorem dX8_castLot_29 : decode cX8_castLot 29 = .ok (.aload_n 0, 1) := by decide +kernel
theorem dX8_castLot_30 : decode cX8_castLot 30 = .ok (.getfield 28, 3) := by decide +kernel
theorem dX8_castLot_33 : decode cX8_castLot 33 = .ok (.iload_n 2, 1) := by decide +kernel
theorem dX8_castLot_34 : decode cX8_castLot 34 = .ok (.iconst 1, 1) := by decide +kernel
theorem dX8_castLot_35 : decode cX8_castLot 35 = .ok (.iadd, 1) := by decide +kernel
theorem dX8_castLot_36 : decode cX8_castLot 36 = .ok (.irem, 1) := by decide +kernel
theorem dX8_castLot_37 : decode cX8_castLot 37 = .ok (.invokevirtual 60, 3) := by decide +kernel
theorem dX8_castLot_40 : decode cX8_castLot 40 = .ok (.iinc 2 (-1), 3) := by decide +kernel
theorem dX8_castLot_43 : decode cX8_castLot 43 = .ok (.goto (-39), 3) := by decide +kernel
theorem dX8_castLot_46 : decode cX8_castLot 46 = .ok (.return_, 1) := by decide +kernel
theorem dX8_showThemselves_0 : decode cX8_showThemselves 0 = .ok (.iconst 0, 1) := by decide +kernel
theorem dX8_showThemselves_1 : decode cX8_showThemselves 1 = .ok (.istore_n 2, 1) := by decide +kernel
theorem dX8_showThemselves_2 : decode cX8_showThemselves 2 = .ok (.iconst 0, 1) := by decide +kernel
theorem dX8_showThemselves_3 : decode cX8_showThemselves 3 = .ok (.istore_n 3, 1) := by decide +kernel
theorem dX8_showThemselves_4 : decode cX8_showThemselves 4 = .ok (.iload_n 3, 1) := by decide +kernel
theorem dX8_showThemselves_5 : decode cX8_showThemselves 5 = .ok (.iload_n 1, 1) := by decide +kernel
theorem dX8_showThemselves_6 : decode cX8_showThemselves 6 = .ok (.if_icmp .ge 22, 3) := by decide +kernel
theorem dX8_showThemselves_9 : decode cX8_showThemselves 9 = .ok (.aload_n 0, 1) := by decide +kernel
theorem dX8_showThemselves_10 : decode cX8_showThemselves 10 = .ok (.getfield 9, 3) := by decide +kernel
theorem dX8_showThemselves_13 : decode cX8_showThemselves 13 = .ok (.iload_n 3, 1) := by decide +kernel
theorem dX8_showThemselves_14 : decode cX8_showThemselves 14 = .ok (.iaload, 1) := by decide +kernel
theorem dX8_showThemselves_15 : decode cX8_showThemselves 15 = .ok (.iload_n 3, 1) := by decide +kernel
theorem dX8_showThemselves_16 : decode cX8_showThemselves 16 = .ok (.if_icmp .ne 6, 3) := by decide +kernel
theorem dX8_showThemselves_19 : decode cX8_showThemselves 19 = .ok (.iinc 2 1, 3) := by decide +kernel
theorem dX8_showThemselves_22 : decode cX8_showThemselves 22 = .ok (.iinc 3 1, 3) := by decide +kernel
theorem dX8_showThemselves_25 : decode cX8_showThemselves 25 = .ok (.goto (-21), 3) := by decide +kernel
theorem dX8_showThemselves_28 : decode cX8_showThemselves 28 = .ok (.iload_n 2, 1) := by decide +kernel
theorem dX8_showThemselves_29 : decode cX8_showThemselves 29 = .ok (.ireturn, 1) := by decide +kernel
theorem dX8_doesKnow_0 : decode cX8_doesKnow 0 = .ok (.aload_n 0, 1) := by decide +kernel
theorem dX8_doesKnow_1 : decode cX8_doesKnow 1 = .ok (.getfield 15, 3) := by decide +kernel
theorem dX8_doesKnow_4 : decode cX8_doesKnow 4 = .ok (.iload_n 1, 1) := by decide +kernel
theorem dX8_doesKnow_5 : decode cX8_doesKnow 5 = .ok (.iaload, 1) := by decide +kernel
theorem dX8_doesKnow_6 : decode cX8_doesKnow 6 = .ok (.iload_n 2, 1) := by decide +kernel
theorem dX8_doesKnow_7 : decode cX8_doesKnow 7 = .ok (.ishr, 1) := by decide +kernel
theorem dX8_doesKnow_8 : decode cX8_doesKnow 8 = .ok (.iconst 1, 1) := by decide +kernel
theorem dX8_doesKnow_9 : decode cX8_doesKnow 9 = .ok (.iand, 1) := by decide +kernel
theorem dX8_doesKnow_10 : decode cX8_doesKnow 10 = .ok (.ifCond .eq 7, 3) := by decide +kernel
theorem dX8_doesKnow_13 : decode cX8_doesKnow 13 = .ok (.iconst 1, 1) := by decide +kernel
theorem dX8_doesKnow_14 : decode cX8_doesKnow 14 = .ok (.goto 4, 3) := by decide +kernel
theorem dX8_doesKnow_17 : decode cX8_doesKnow 17 = .ok (.iconst 0, 1) := by decide +kernel
theorem dX8_doesKnow_18 : decode cX8_doesKnow 18 = .ok (.ireturn, 1) := by decide +kernel
theorem dX8_learn_0 : decode cX8_learn 0 = .ok (.iload_n 2, 1) := by decide +kernel
theorem dX8_learn_1 : decode cX8_learn 1 = .ok (.aload_n 0, 1) := by decide +kernel
theorem dX8_learn_2 : decode cX8_learn 2 = .ok (.getfield 15, 3) := by decide +kernel
theorem dX8_learn_5 : decode cX8_learn 5 = .ok (.iload_n 1, 1) := by decide +kernel
theorem dX8_learn_6 : decode cX8_learn 6 = .ok (.iaload, 1) := by decide +kernel
theorem dX8_learn_7 : decode cX8_learn 7 = .ok (.iconst (-1), 1) := by decide +kernel
theorem dX8_learn_8 : decode cX8_learn 8 = .ok (.ixor, 1) := by decide +kernel
theorem dX8_learn_9 : decode cX8_learn 9 = .ok (.iand, 1) := by decide +kernel
theorem dX8_learn_10 : decode cX8_learn 10 = .ok (.istore_n 3, 1) := by decide +kernel
theorem dX8_learn_11 : decode cX8_learn 11 = .ok (.aload_n 0, 1) := by decide +kernel
theorem dX8_learn_12 : decode cX8_learn 12 = .ok (.getfield 15, 3) := by decide +kernel
theorem dX8_learn_15 : decode cX8_learn 15 = .ok (.iload_n 1, 1) := by decide +kernel
theorem dX8_learn_16 : decode cX8_learn 16 = .ok (.dup2, 1) := by decide +kernel
theorem dX8_learn_17 : decode cX8_learn 17 = .ok (.iaload, 1) := by decide +kernel
theorem dX8_learn_18 : decode cX8_learn 18 = .ok (.iload_n 3, 1) := by decide +kernel
theorem dX8_learn_19 : decode cX8_learn 19 = .ok (.ior, 1) := by decide +kernel
theorem dX8_learn_20 : decode cX8_learn 20 = .ok (.iastore, 1) := by decide +kernel
theorem dX8_learn_21 : decode cX8_learn 21 = .ok (.iload_n 3, 1) := by decide +kernel
theorem dX8_learn_22 : decode cX8_learn 22 = .ok (.invokestatic 64, 3) := by decide +kernel
theorem dX8_learn_25 : decode cX8_learn 25 = .ok (.ireturn, 1) := by decide +kernel
theorem dX8_knowersOf_0 : decode cX8_knowersOf 0 = .ok (.iconst 0, 1) := by decide +kernel
theorem dX8_knowersOf_1 : decode cX8_knowersOf 1 = .ok (.istore_n 2, 1) := by decide +kernel
theorem dX8_knowersOf_2 : decode cX8_knowersOf 2 = .ok (.iconst 0, 1) := by decide +kernel
theorem dX8_knowersOf_3 : decode cX8_knowersOf 3 = .ok (.istore_n 3, 1) := by decide +kernel
theorem dX8_knowersOf_4 : decode cX8_knowersOf 4 = .ok (.iload_n 3, 1) := by decide +kernel
theorem dX8_knowersOf_5 : decode cX8_knowersOf 5 = .ok (.bipush 6, 2) := by decide +kernel
theorem dX8_knowersOf_7 : decode cX8_knowersOf 7 = .ok (.if_icmp .ge 24, 3) := by decide +kernel
theorem dX8_knowersOf_10 : decode cX8_knowersOf 10 = .ok (.aload_n 0, 1) := by decide +kernel
theorem dX8_knowersOf_11 : decode cX8_knowersOf 11 = .ok (.iload_n 3, 1) := by decide +kernel
theorem dX8_knowersOf_12 : decode cX8_knowersOf 12 = .ok (.iload_n 1, 1) := by decide +kernel
theorem dX8_knowersOf_13 : decode cX8_knowersOf 13 = .ok (.invokevirtual 70, 3) := by decide +kernel
theorem dX8_knowersOf_16 : decode cX8_knowersOf 16 = .ok (.ifCond .eq 9, 3) := by decide +kernel
theorem dX8_knowersOf_19 : decode cX8_knowersOf 19 = .ok (.iload_n 2, 1) := by decide +kernel
theorem dX8_knowersOf_20 : decode cX8_knowersOf 20 = .ok (.iconst 1, 1) := by decide +kernel
theorem dX8_knowersOf_21 : decode cX8_knowersOf 21 = .ok (.iload_n 3, 1) := by decide +kernel
theorem dX8_knowersOf_22 : decode cX8_knowersOf 22 = .ok (.ishl, 1) := by decide +kernel
theorem dX8_knowersOf_23 : decode cX8_knowersOf 23 = .ok (.ior, 1) := by decide +kernel
theorem dX8_knowersOf_24 : decode cX8_knowersOf 24 = .ok (.istore_n 2, 1) := by decide +kernel
theorem dX8_knowersOf_25 : decode cX8_knowersOf 25 = .ok (.iinc 3 1, 3) := by decide +kernel
theorem dX8_knowersOf_28 : decode cX8_knowersOf 28 = .ok (.goto (-24), 3) := by decide +kernel
theorem dX8_knowersOf_31 : decode cX8_knowersOf 31 = .ok (.iload_n 2, 1) := by decide +kernel
theorem dX8_knowersOf_32 : decode cX8_knowersOf 32 = .ok (.ireturn, 1) := by decide +kernel
theorem dX8_knownTogether_0 : decode cX8_knownTogether 0 = .ok (.iconst 0, 1) := by decide +kernel
theorem dX8_knownTogether_1 : decode cX8_knownTogether 1 = .ok (.istore_n 2, 1) := by decide +kernel
theorem dX8_knownTogether_2 : decode cX8_knownTogether 2 = .ok (.iconst 0, 1) := by decide +kernel
theorem dX8_knownTogether_3 : decode cX8_knownTogether 3 = .ok (.istore_n 3, 1) := by decide +kernel
theorem dX8_knownTogether_4 : decode cX8_knownTogether 4 = .ok (.iload_n 3, 1) := by decide +kernel
theorem dX8_knownTogether_5 : decode cX8_knownTogether 5 = .ok (.bipush 6, 2) := by decide +kernel
theorem dX8_knownTogether_7 : decode cX8_knownTogether 7 = .ok (.if_icmp .ge 26, 3) := by decide +kernel
theorem dX8_knownTogether_10 : decode cX8_knownTogether 10 = .ok (.iload_n 1, 1) := by decide +kernel
theorem dX8_knownTogether_11 : decode cX8_knownTogether 11 = .ok (.iload_n 3, 1) := by decide +kernel
theorem dX8_knownTogether_12 : decode cX8_knownTogether 12 = .ok (.ishr, 1) := by decide +kernel
theorem dX8_knownTogether_13 : decode cX8_knownTogether 13 = .ok (.iconst 1, 1) := by decide +kernel
theorem dX8_knownTogether_14 : decode cX8_knownTogether 14 = .ok (.iand, 1) := by decide +kernel
theorem dX8_knownTogether_15 : decode cX8_knownTogether 15 = .ok (.ifCond .eq 12, 3) := by decide +kernel
theorem dX8_knownTogether_18 : decode cX8_knownTogether 18 = .ok (.iload_n 2, 1) := by decide +kernel
theorem dX8_knownTogether_19 : decode cX8_knownTogether 19 = .ok (.aload_n 0, 1) := by decide +kernel
theorem dX8_knownTogether_20 : decode cX8_knownTogether 20 = .ok (.getfield 15, 3) := by decide +kernel
theorem dX8_knownTogether_23 : decode cX8_knownTogether 23 = .ok (.iload_n 3, 1) := by decide +kernel
theorem dX8_knownTogether_24 : decode cX8_knownTogether 24 = .ok (.iaload, 1) := by decide +kernel
theorem dX8_knownTogether_25 : decode cX8_knownTogether 25 = .ok (.ior, 1) := by decide +kernel
theorem dX8_knownTogether_26 : decode cX8_knownTogether 26 = .ok (.istore_n 2, 1) := by decide +kernel
theorem dX8_knownTogether_27 : decode cX8_knownTogether 27 = .ok (.iinc 3 1, 3) := by decide +kernel
theorem dX8_knownTogether_30 : decode cX8_knownTogether 30 = .ok (.goto (-26), 3) := by decide +kernel
theorem dX8_knownTogether_33 : decode cX8_knownTogether 33 = .ok (.iload_n 2, 1) := by decide +kernel
theorem dX8_knownTogether_34 : decode cX8_knownTogether 34 = .ok (.ireturn, 1) := by decide +kernel
theorem dX8_knownInAll_0 : decode cX8_knownInAll 0 = .ok (.iconst 0, 1) := by decide +kernel
theorem dX8_knownInAll_1 : decode cX8_knownInAll 1 = .ok (.istore_n 1, 1) := by decide +kernel
theorem dX8_knownInAll_2 : decode cX8_knownInAll 2 = .ok (.iconst 0, 1) := by decide +kernel
theorem dX8_knownInAll_3 : decode cX8_knownInAll 3 = .ok (.istore_n 2, 1) := by decide +kernel
theorem dX8_knownInAll_4 : decode cX8_knownInAll 4 = .ok (.iload_n 2, 1) := by decide +kernel
theorem dX8_knownInAll_5 : decode cX8_knownInAll 5 = .ok (.bipush 6, 2) := by decide +kernel
theorem dX8_knownInAll_7 : decode cX8_knownInAll 7 = .ok (.if_icmp .ge 21, 3) := by decide +kernel
theorem dX8_knownInAll_10 : decode cX8_knownInAll 10 = .ok (.iload_n 1, 1) := by decide +kernel
theorem dX8_knownInAll_11 : decode cX8_knownInAll 11 = .ok (.aload_n 0, 1) := by decide +kernel
theorem dX8_knownInAll_12 : decode cX8_knownInAll 12 = .ok (.getfield 15, 3) := by decide +kernel
theorem dX8_knownInAll_15 : decode cX8_knownInAll 15 = .ok (.iload_n 2, 1) := by decide +kernel
theorem dX8_knownInAll_16 : decode cX8_knownInAll 16 = .ok (.iaload, 1) := by decide +kernel
theorem dX8_knownInAll_17 : decode cX8_knownInAll 17 = .ok (.invokestatic 64, 3) := by decide +kernel
theorem dX8_knownInAll_20 : decode cX8_knownInAll 20 = .ok (.iadd, 1) := by decide +kernel
theorem dX8_knownInAll_21 : decode cX8_knownInAll 21 = .ok (.istore_n 1, 1) := by decide +kernel
theorem dX8_knownInAll_22 : decode cX8_knownInAll 22 = .ok (.iinc 2 1, 3) := by decide +kernel
theorem dX8_knownInAll_25 : decode cX8_knownInAll 25 = .ok (.goto (-21), 3) := by decide +kernel
theorem dX8_knownInAll_28 : decode cX8_knownInAll 28 = .ok (.iload_n 1, 1) := by decide +kernel
theorem dX8_knownInAll_29 : decode cX8_knownInAll 29 = .ok (.ireturn, 1) := by decide +kernel
theorem dX8_start_0 : decode cX8_start 0 = .ok (.iconst 0, 1) := by decide +kernel
theorem dX8_start_1 : decode cX8_start 1 = .ok (.istore_n 2, 1) := by decide +kernel
theorem dX8_start_2 : decode cX8_start 2 = .ok (.iload_n 2, 1) := by decide +kernel
theorem dX8_start_3 : decode cX8_start 3 = .ok (.bipush 6, 2) := by decide +kernel
theorem dX8_start_5 : decode cX8_start 5 = .ok (.if_icmp .ge 63, 3) := by decide +kernel
theorem dX8_start_8 : decode cX8_start 8 = .ok (.iload_n 2, 1) := by decide +kernel
theorem dX8_start_9 : decode cX8_start 9 = .ok (.aload_n 1, 1) := by decide +kernel
theorem dX8_start_10 : decode cX8_start 10 = .ok (.getfield 31, 3) := by decide +kernel
theorem dX8_start_13 : decode cX8_start 13 = .ok (.if_icmp .ge 7, 3) := by decide +kernel
theorem dX8_start_16 : decode cX8_start 16 = .ok (.iconst 1, 1) := by decide +kernel
theorem dX8_start_17 : decode cX8_start 17 = .ok (.goto 4, 3) := by decide +kernel
theorem dX8_start_20 : decode cX8_start 20 = .ok (.iconst 0, 1) := by decide +kernel
theorem dX8_start_21 : decode cX8_start 21 = .ok (.istore_n 3, 1) := by decide +kernel
theorem dX8_start_22 : decode cX8_start 22 = .ok (.aload_n 0, 1) := by decide +kernel
theorem dX8_start_23 : decode cX8_start 23 = .ok (.getfield 9, 3) := by decide +kernel
theorem dX8_start_26 : decode cX8_start 26 = .ok (.iload_n 2, 1) := by decide +kernel
theorem dX8_start_27 : decode cX8_start 27 = .ok (.iload_n 3, 1) := by decide +kernel
theorem dX8_start_28 : decode cX8_start 28 = .ok (.ifCond .eq 12, 3) := by decide +kernel
theorem dX8_start_31 : decode cX8_start 31 = .ok (.aload_n 1, 1) := by decide +kernel
theorem dX8_start_32 : decode cX8_start 32 = .ok (.getfield 36, 3) := by decide +kernel
theorem dX8_start_35 : decode cX8_start 35 = .ok (.iload_n 2, 1) := by decide +kernel
theorem dX8_start_36 : decode cX8_start 36 = .ok (.iaload, 1) := by decide +kernel
theorem dX8_start_37 : decode cX8_start 37 = .ok (.goto 4, 3) := by decide +kernel
theorem dX8_start_40 : decode cX8_start 40 = .ok (.iconst (-1), 1) := by decide +kernel
theorem dX8_start_41 : decode cX8_start 41 = .ok (.iastore, 1) := by decide +kernel
theorem dX8_start_42 : decode cX8_start 42 = .ok (.aload_n 0, 1) := by decide +kernel
theorem dX8_start_43 : decode cX8_start 43 = .ok (.getfield 15, 3) := by decide +kernel
theorem dX8_start_46 : decode cX8_start 46 = .ok (.iload_n 2, 1) := by decide +kernel
theorem dX8_start_47 : decode cX8_start 47 = .ok (.iload_n 3, 1) := by decide +kernel
theorem dX8_start_48 : decode cX8_start 48 = .ok (.ifCond .eq 12, 3) := by decide +kernel
theorem dX8_start_51 : decode cX8_start 51 = .ok (.aload_n 1, 1) := by decide +kernel
theorem dX8_start_52 : decode cX8_start 52 = .ok (.getfield 37, 3) := by decide +kernel
theorem dX8_start_55 : decode cX8_start 55 = .ok (.iload_n 2, 1) := by decide +kernel
theorem dX8_start_56 : decode cX8_start 56 = .ok (.iaload, 1) := by decide +kernel
theorem dX8_start_57 : decode cX8_start 57 = .ok (.goto 4, 3) := by decide +kernel
theorem dX8_start_60 : decode cX8_start 60 = .ok (.iconst 0, 1) := by decide +kernel
theorem dX8_start_61 : decode cX8_start 61 = .ok (.iastore, 1) := by decide +kernel
theorem dX8_start_62 : decode cX8_start 62 = .ok (.iinc 2 1, 3) := by decide +kernel
theorem dX8_start_65 : decode cX8_start 65 = .ok (.goto (-63), 3) := by decide +kernel
theorem dX8_start_68 : decode cX8_start 68 = .ok (.aload_n 0, 1) := by decide +kernel
theorem dX8_start_69 : decode cX8_start 69 = .ok (.aload_n 1, 1) := by decide +kernel
theorem dX8_start_70 : decode cX8_start 70 = .ok (.getfield 40, 3) := by decide +kernel
theorem dX8_start_73 : decode cX8_start 73 = .ok (.putfield 18, 3) := by decide +kernel
theorem dX8_start_76 : decode cX8_start 76 = .ok (.aload_n 0, 1) := by decide +kernel
theorem dX8_start_77 : decode cX8_start 77 = .ok (.iconst 0, 1) := by decide +kernel
theorem dX8_start_78 : decode cX8_start 78 = .ok (.putfield 22, 3) := by decide +kernel
theorem dX8_start_81 : decode cX8_start 81 = .ok (.aload_n 0, 1) := by decide +kernel
theorem dX8_start_82 : decode cX8_start 82 = .ok (.iconst 0, 1) := by decide +kernel
theorem dX8_start_83 : decode cX8_start 83 = .ok (.putfield 25, 3) := by decide +kernel
theorem dX8_start_86 : decode cX8_start 86 = .ok (.aload_n 0, 1) := by decide +kernel
theorem dX8_start_87 : decode cX8_start 87 = .ok (.aload_n 1, 1) := by decide +kernel
theorem dX8_start_88 : decode cX8_start 88 = .ok (.getfield 41, 3) := by decide +kernel
theorem dX8_start_91 : decode cX8_start 91 = .ok (.iconst 0, 1) := by decide +kernel
theorem dX8_start_92 : decode cX8_start 92 = .ok (.invokestatic 44, 3) := by decide +kernel
theorem dX8_start_95 : decode cX8_start 95 = .ok (.putfield 28, 3) := by decide +kernel
theorem dX8_start_98 : decode cX8_start 98 = .ok (.return_, 1) := by decide +kernel
theorem dX8_copyFrom_0 : decode cX8_copyFrom 0 = .ok (.aload_n 1, 1) := by decide +kernel
theorem dX8_copyFrom_1 : decode cX8_copyFrom 1 = .ok (.getfield 9, 3) := by decide +kernel
theorem dX8_copyFrom_4 : decode cX8_copyFrom 4 = .ok (.iconst 0, 1) := by decide +kernel
theorem dX8_copyFrom_5 : decode cX8_copyFrom 5 = .ok (.aload_n 0, 1) := by decide +kernel
theorem dX8_copyFrom_6 : decode cX8_copyFrom 6 = .ok (.getfield 9, 3) := by decide +kernel
theorem dX8_copyFrom_9 : decode cX8_copyFrom 9 = .ok (.iconst 0, 1) := by decide +kernel
theorem dX8_copyFrom_10 : decode cX8_copyFrom 10 = .ok (.bipush 6, 2) := by decide +kernel
theorem dX8_copyFrom_12 : decode cX8_copyFrom 12 = .ok (.invokestatic 50, 3) := by decide +kernel
theorem dX8_copyFrom_15 : decode cX8_copyFrom 15 = .ok (.aload_n 1, 1) := by decide +kernel
theorem dX8_copyFrom_16 : decode cX8_copyFrom 16 = .ok (.getfield 15, 3) := by decide +kernel
theorem dX8_copyFrom_19 : decode cX8_copyFrom 19 = .ok (.iconst 0, 1) := by decide +kernel
theorem dX8_copyFrom_20 : decode cX8_copyFrom 20 = .ok (.aload_n 0, 1) := by decide +kernel
theorem dX8_copyFrom_21 : decode cX8_copyFrom 21 = .ok (.getfield 15, 3) := by decide +kernel
theorem dX8_copyFrom_24 : decode cX8_copyFrom 24 = .ok (.iconst 0, 1) := by decide +kernel
theorem dX8_copyFrom_25 : decode cX8_copyFrom 25 = .ok (.bipush 6, 2) := by decide +kernel
theorem dX8_copyFrom_27 : decode cX8_copyFrom 27 = .ok (.invokestatic 50, 3) := by decide +kernel
theorem dX8_copyFrom_30 : decode cX8_copyFrom 30 = .ok (.aload_n 0, 1) := by decide +kernel
theorem dX8_copyFrom_31 : decode cX8_copyFrom 31 = .ok (.aload_n 1, 1) := by decide +kernel
theorem dX8_copyFrom_32 : decode cX8_copyFrom 32 = .ok (.getfield 18, 3) := by decide +kernel
theorem dX8_copyFrom_35 : decode cX8_copyFrom 35 = .ok (.putfield 18, 3) := by decide +kernel
theorem dX8_copyFrom_38 : decode cX8_copyFrom 38 = .ok (.aload_n 0, 1) := by decide +kernel
theorem dX8_copyFrom_39 : decode cX8_copyFrom 39 = .ok (.aload_n 1, 1) := by decide +kernel
theorem dX8_copyFrom_40 : decode cX8_copyFrom 40 = .ok (.getfield 22, 3) := by decide +kernel
theorem dX8_copyFrom_43 : decode cX8_copyFrom 43 = .ok (.putfield 22, 3) := by decide +kernel
theorem dX8_copyFrom_46 : decode cX8_copyFrom 46 = .ok (.aload_n 0, 1) := by decide +kernel
theorem dX8_copyFrom_47 : decode cX8_copyFrom 47 = .ok (.aload_n 1, 1) := by decide +kernel
theorem dX8_copyFrom_48 : decode cX8_copyFrom 48 = .ok (.getfield 25, 3) := by decide +kernel
theorem dX8_copyFrom_51 : decode cX8_copyFrom 51 = .ok (.putfield 25, 3) := by decide +kernel
theorem dX8_copyFrom_54 : decode cX8_copyFrom 54 = .ok (.aload_n 0, 1) := by decide +kernel
theorem dX8_copyFrom_55 : decode cX8_copyFrom 55 = .ok (.aload_n 1, 1) := by decide +kernel
theorem dX8_copyFrom_56 : decode cX8_copyFrom 56 = .ok (.getfield 28, 3) := by decide +kernel
theorem dX8_copyFrom_59 : decode cX8_copyFrom 59 = .ok (.putfield 28, 3) := by decide +kernel
theorem dX8_copyFrom_62 : decode cX8_copyFrom 62 = .ok (.return_, 1) := by decide +kernel
set_option maxHeartbeats 2000000 in
set_option maxRecDepth 20000 in
theorem c_X8_isDrawn (l : Launch) (D : va_G) (cy : Nat → ClassId) (B N : Nat) (s : Int) (a : Int) (M : MM) (hN : 210 ≤ N) (hI : Iv M) (hpa : I32 a) (hs : Sc s) : CI l D cy B N 1 yX8_isDrawn cX8_isDrawn 2 (some .boolean) [rv B s, iv a] M (fun z M' => M' = M ∧ (0 ≤ z ∧ z ≤ 1)) := by
  refine mk_CI (by decide) (Nat.le_of_ble_eq_true rfl) ?_
  intro X exl exD excy hnL hX hret
  have hce : 0 + 0 ≤ (xR X).cells ∧ 0 + 0 ≤ (xR X).slots := ⟨Nat.zero_le _, Nat.zero_le _⟩
  have hbs := sc_b hs
  show J X B N 0 0 0 [(0, rv B s), (1, iv a)] [] M
  refine j_aload_n hX dX8_isDrawn_0 rfl 0 rfl ?_
  refine gf_X8_18 hX (by omega) (by omega) (sc_k0 hs) dX8_isDrawn_1 ?_
  refine j_name hI (sc_r2 hs) (fun v1 hv2 hl3 hh4 => ?_)
  have hk5 := hv2.symm
  refine j_iload_n hX dX8_isDrawn_4 rfl 1 rfl ?_
  refine j_ishr hX dX8_isDrawn_5 (fun z6 hz7 hy8 => ?_)
  refine j_iconst hX dX8_isDrawn_6 ?_
  refine j_iand hX dX8_isDrawn_7 (fun z9 hz10 hy11 => ?_)
  have ha12 := (and_f hz10 (by omega) (by omega)).2 (by omega)
  refine j_if_eq (tgt := 15) hX dX8_isDrawn_8 (by decide) (by omega) (fun hc13 => ?_) (fun hc13 => ?_)
  · skip
    refine j_iconst hX dX8_isDrawn_15 ?_
    exact hret _ _ _ _ dX8_isDrawn_16 (nb (by omega)) (by omega) ⟨rfl, by omega⟩
  · skip
    refine j_iconst hX dX8_isDrawn_11 ?_
    refine j_goto (tgt := 16) hX dX8_isDrawn_12 (by decide) ?_
    exact hret _ _ _ _ dX8_isDrawn_16 (nb (by omega)) (by omega) ⟨rfl, by omega⟩
set_option maxHeartbeats 2000000 in
set_option maxRecDepth 20000 in
theorem c_X8_seesOne (l : Launch) (D : va_G) (cy : Nat → ClassId) (B N : Nat) (s : Int) (a : Int) (M : MM) (hN : 210 ≤ N) (hI : Iv M) (hpa : I32 a) (hs : Sc s) (h1 : 0 ≤ a ∧ a < 6) : CI l D cy B N 2 yX8_seesOne cX8_seesOne 2 (some .boolean) [rv B s, iv a] M (fun z M' => M' = M ∧ (0 ≤ z ∧ z ≤ 1)) := by
  refine mk_CI (by decide) (Nat.le_of_ble_eq_true rfl) ?_
  intro X exl exD excy hnL hX hret
  have hce : 0 + 0 ≤ (xR X).cells ∧ 0 + 0 ≤ (xR X).slots := ⟨Nat.zero_le _, Nat.zero_le _⟩
  have hbs := sc_b hs
  show J X B N 0 0 0 [(0, rv B s), (1, iv a)] [] M
  refine j_aload_n hX dX8_seesOne_0 rfl 0 rfl ?_
  refine j_aload_n hX dX8_seesOne_1 rfl 0 rfl ?_
  refine gf_X8_9 hX (by omega) (by omega) (sc_k0 hs) (sc_f0 hI hs) (by omega) dX8_seesOne_2 ?_
  refine j_iload_n hX dX8_seesOne_5 rfl 1 rfl ?_
  refine j_iald hX (by omega) (by omega) (sc_k1 hs) (by omega) (by omega) (by omega) dX8_seesOne_6 ?_
  refine j_name hI (sc_w hs _) (fun v1 hv2 hl3 hh4 => ?_)
  refine j_callVI hX lk_X8_56 (c_X8_isDrawn _ _ _ _ _ s _ _ (by omega) hI (by omega) hs) (by omega) hce rfl rfl (by omega) (by omega) (sc_k0 hs) rfl rfl (Nat.le_of_ble_eq_true rfl) dX8_seesOne_7 (fun z5 M6 hz8 hp7 => ?_)
  obtain ⟨rfl, hb9⟩ := hp7
  refine j_if_ne (tgt := 17) hX dX8_seesOne_10 (by decide) (by omega) (fun hc10 => ?_) (fun hc10 => ?_)
  · skip
    refine j_iconst hX dX8_seesOne_17 ?_
    exact hret _ _ _ _ dX8_seesOne_18 (nb (by omega)) (by omega) ⟨rfl, by omega⟩
  · skip
    refine j_iconst hX dX8_seesOne_13 ?_
    refine j_goto (tgt := 18) hX dX8_seesOne_14 (by decide) ?_
    exact hret _ _ _ _ dX8_seesOne_18 (nb (by omega)) (by omega) ⟨rfl, by omega⟩
set_option maxHeartbeats 2000000 in
set_option maxRecDepth 20000 in
theorem c_X8_holderOf (l : Launch) (D : va_G) (cy : Nat → ClassId) (B N : Nat) (s : Int) (nr : Int) (a : Int) (M : MM) (hN : 210 ≤ N) (hI : Iv M) (hpa : I32 a) (hs : Sc s) (hV : V nr s M) (h1 : 0 ≤ a ∧ a < nr ∧ nr ≤ 6) : CI l D cy B N 1 yX8_holderOf cX8_holderOf 3 (some .int) [rv B s, iv a] M (fun z M' => M' = M ∧ (0 ≤ z ∧ z < nr)) := by
  refine mk_CI (by decide) (Nat.le_of_ble_eq_true rfl) ?_
  intro X exl exD excy hnL hX hret
  have hce : 0 + 0 ≤ (xR X).cells ∧ 0 + 0 ≤ (xR X).slots := ⟨Nat.zero_le _, Nat.zero_le _⟩
  have hbs := sc_b hs
  have cp : ∀ n : Nat, (∀ (x2 : Int), I32 x2 → (0 ≤ x2 ∧ x2 ≤ 6) → 0 ≤ 32 * (6 - x2) + 1 → 32 * (6 - x2) + 1 < (n : Int) → J X B N 0 0 2 [(0, rv B s), (1, iv a), (2, iv x2)] [] M) := by
    intro n
    induction n with
    | zero => exact by intros; exfalso; omega
    | succ n ih =>
      · intro x2 hxx2 h2 hm0 hm1
        refine j_iload_n hX dX8_holderOf_2 rfl 2 rfl ?_
        refine j_bipush hX dX8_holderOf_3 rfl ?_
        refine j_icmp_ge (tgt := 26) hX dX8_holderOf_5 (by decide) (by omega) (by omega) (fun hc1 => ?_) (fun hc1 => ?_)
        · skip
          refine j_iload_n hX dX8_holderOf_26 rfl 1 rfl ?_
          exact hret _ _ _ _ dX8_holderOf_27 rfl (by omega) ⟨rfl, by first | assumption | omega⟩
        · skip
          refine j_aload_n hX dX8_holderOf_8 rfl 0 rfl ?_
          refine gf_X8_9 hX (by omega) (by omega) (sc_k0 hs) (sc_f0 hI hs) (by omega) dX8_holderOf_9 ?_
          refine j_iload_n hX dX8_holderOf_12 rfl 2 rfl ?_
          refine j_iald hX (by omega) (by omega) (sc_k1 hs) (by omega) (by omega) (by omega) dX8_holderOf_13 ?_
          refine j_name hI (sc_w hs _) (fun v2 hv3 hl4 hh5 => ?_)
          have hva6 := V_at hV hv3 (by omega) (by omega)
          refine j_iload_n hX dX8_holderOf_14 rfl 1 rfl ?_
          refine j_icmp_ne (tgt := 20) hX dX8_holderOf_15 (by decide) (by omega) (by omega) (fun hc7 => ?_) (fun hc7 => ?_)
          · skip
            refine j_iinc (lv' := [(2, _), (0, _), (1, _)]) hX dX8_holderOf_20 2 rfl (by rw [hnL]; decide) rfl ?_
            refine j_goto (tgt := 2) hX dX8_holderOf_23 (by decide) ?_
            refine j_sub [1, 2, 0] rfl ?_
            exact ih _ (by omega) (by first | assumption | omega) (by omega) (by omega)
          · skip
            refine j_iload_n hX dX8_holderOf_18 rfl 2 rfl ?_
            exact hret _ _ _ _ dX8_holderOf_19 rfl (by omega) ⟨rfl, by first | assumption | omega⟩
  show J X B N 0 0 0 [(0, rv B s), (1, iv a)] [] M
  refine j_iconst hX dX8_holderOf_0 ?_
  refine j_istore_n (lv' := [(2, _), (0, _), (1, _)]) hX dX8_holderOf_1 rfl (by rw [hnL]; decide) rfl ?_
  refine j_sub [1, 2, 0] rfl ?_
  refine (cp (Int.toNat (256 + 1))) _ (by omega) (by first | assumption | omega) ?_ ?_
  · omega
  · omega
set_option maxHeartbeats 2000000 in
set_option maxRecDepth 20000 in
theorem c_X8_swapWindows (l : Launch) (D : va_G) (cy : Nat → ClassId) (B N : Nat) (s : Int) (nr : Int) (a : Int) (b : Int) (M : MM) (hN : 210 ≤ N) (hI : Iv M) (hpa : I32 a) (hpb : I32 b) (hs : Sc s) (hV : V nr s M) (h1 : 0 ≤ a ∧ a < nr ∧ 0 ≤ b ∧ b < nr ∧ nr ≤ 6) : CV l D cy B N 1 yX8_swapWindows cX8_swapWindows 4 none [rv B s, iv a, iv b] M (fun M' => Iv M' ∧ Fr (fun a (_ : Int) => (a = s + 1)) M M' ∧ (V nr s M')) := by
  refine mk_CV (by decide) (Nat.le_of_ble_eq_true rfl) ?_
  intro X exl exD excy hnL hX hret
  have hce : 0 + 0 ≤ (xR X).cells ∧ 0 + 0 ≤ (xR X).slots := ⟨Nat.zero_le _, Nat.zero_le _⟩
  have hbs := sc_b hs
  have hF : Fr (fun a (_ : Int) => (a = s + 1)) M M := Fr.rf
  show J X B N 0 0 0 [(0, rv B s), (1, iv a), (2, iv b)] [] M
  refine j_aload_n hX dX8_swapWindows_0 rfl 0 rfl ?_
  refine gf_X8_9 hX (by omega) (by omega) (sc_k0 hs) (sc_f0 hI hs) (by omega) dX8_swapWindows_1 ?_
  refine j_iload_n hX dX8_swapWindows_4 rfl 1 rfl ?_
  refine j_iald hX (by omega) (by omega) (sc_k1 hs) (by omega) (by omega) (by omega) dX8_swapWindows_5 ?_
  refine j_name hI (sc_w hs _) (fun v1 hv2 hl3 hh4 => ?_)
  have hva5 := V_at hV hv2 (by omega) (by omega)
  refine j_istore_n (lv' := [(3, _), (0, _), (1, _), (2, _)]) hX dX8_swapWindows_6 rfl (by rw [hnL]; decide) rfl ?_
  refine j_aload_n hX dX8_swapWindows_7 rfl 1 rfl ?_
  refine gf_X8_9 hX (by omega) (by omega) (sc_k0 hs) (sc_f0 hI hs) (by omega) dX8_swapWindows_8 ?_
  refine j_iload_n hX dX8_swapWindows_11 rfl 2 rfl ?_
  refine j_aload_n hX dX8_swapWindows_12 rfl 1 rfl ?_
  refine gf_X8_9 hX (by omega) (by omega) (sc_k0 hs) (sc_f0 hI hs) (by omega) dX8_swapWindows_13 ?_
  refine j_iload_n hX dX8_swapWindows_16 rfl 3 rfl ?_
  refine j_iald hX (by omega) (by omega) (sc_k1 hs) (by omega) (by omega) (by omega) dX8_swapWindows_17 ?_
  refine j_name hI (sc_w hs _) (fun v6 hv7 hl8 hh9 => ?_)
  have hva10 := V_at hV hv7 (by omega) (by omega)
  refine j_iast hX (by omega) (by omega) (sc_k1 hs) (by omega) (by omega) (by omega) (by omega) dX8_swapWindows_18 ?_
  refine j_up hI (sc_w hs _) (by omega) (by omega) (Or.inl (by omega)) (fun M11 w12 hw13 hM14 hI15 hf16 => ?_)
  have hV17 := V_put hV hM14 (by omega)
  have hF18 := Fr.put hF hM14 (by omega)
  refine j_aload_n hX dX8_swapWindows_19 rfl 1 rfl ?_
  refine gf_X8_9 hX (by omega) (by omega) (sc_k0 hs) (sc_f0 hI15 hs) (by omega) dX8_swapWindows_20 ?_
  refine j_iload_n hX dX8_swapWindows_23 rfl 3 rfl ?_
  refine j_iload_n hX dX8_swapWindows_24 rfl 0 rfl ?_
  refine j_iast hX (by omega) (by omega) (sc_k1 hs) (by omega) (by omega) (by omega) (by omega) dX8_swapWindows_25 ?_
  refine j_up hI15 (sc_w hs _) (by omega) (by omega) (Or.inl (by omega)) (fun M19 w20 hw21 hM22 hI23 hf24 => ?_)
  have hV25 := V_put hV17 hM22 (by omega)
  have hF26 := Fr.put hF18 hM22 (by omega)
  exact hret _ _ _ dX8_swapWindows_26 ⟨hI23, hF26, by assumption⟩
set_option maxHeartbeats 2000000 in
set_option maxRecDepth 20000 in
theorem c_X8_castLot (l : Launch) (D : va_G) (cy : Nat → ClassId) (B N : Nat) (s : Int) (a : Int) (M : MM) (hN : 210 ≤ N) (hI : Iv M) (hpa : I32 a) (hs : Sc s) (hV : V a s M) (h1 : 0 ≤ a ∧ a ≤ 6) : CV l D cy B N 2 yX8_castLot cX8_castLot 3 none [rv B s, iv a] M (fun M' => Iv M' ∧ Fr (fun a b => (a = s + 1) ∨ (a = s ∧ 5 ≤ b ∧ b ≤ 5)) M M' ∧ (V a s M')) := by
  refine mk_CV (by decide) (Nat.le_of_ble_eq_true rfl) ?_
  intro X exl exD excy hnL hX hret
  have hce : 0 + 0 ≤ (xR X).cells ∧ 0 + 0 ≤ (xR X).slots := ⟨Nat.zero_le _, Nat.zero_le _⟩
  have hbs := sc_b hs
  have hF : Fr (fun a b => (a = s + 1) ∨ (a = s ∧ 5 ≤ b ∧ b ≤ 5)) M M := Fr.rf
  have cp : ∀ n : Nat, (∀ (x2 : Int), ∀ (Mc : MM), I32 x2 → Iv Mc → Fr (fun a b => (a = s + 1) ∨ (a = s ∧ 5 ≤ b ∧ b ≤ 5)) M Mc → V a s Mc → (-1 ≤ x2 ∧ x2 ≤ 5 ∧ x2 ≤ a - 1) → 0 ≤ 32 * (x2 + 1) + 1 → 32 * (x2 + 1) + 1 < (n : Int) → J X B N 0 0 4 [(0, rv B s), (1, iv a), (2, iv x2)] [] Mc) := by
    intro n
    induction n with
    | zero => exact by intros; exfalso; omega
    | succ n ih =>
      · intro x2 Mc hxx2 hI hF hV_0 h2 hm0 hm1
        refine j_iload_n hX dX8_castLot_4 rfl 2 rfl ?_
        refine j_if_le (tgt := 46) hX dX8_castLot_5 (by decide) (by omega) (fun hc1 => ?_) (fun hc1 => ?_)
        · skip
          exact hret _ _ _ dX8_castLot_46 ⟨hI, hF, by assumption⟩
        · skip
          refine j_aload_n hX dX8_castLot_8 rfl 0 rfl ?_
          refine j_aload_n hX dX8_castLot_9 rfl 0 rfl ?_
          refine gf_X8_28 hX (by omega) (by omega) (sc_k0 hs) dX8_castLot_10 ?_
          refine j_name hI (sc_r5 hs) (fun v2 hv3 hl4 hh5 => ?_)
          have hk6 := hv3.symm
          refine j_sipush hX dX8_castLot_13 rfl ?_
          refine j_imul hX dX8_castLot_16 ?_
          refine j_bipush hX dX8_castLot_17 rfl ?_
          refine j_iadd hX dX8_castLot_19 ?_
          refine j_sipush hX dX8_castLot_20 rfl ?_
          refine j_irem hX dX8_castLot_23 (by omega) (by omega) (by omega) (fun z7 hz8 hy9 => ?_)
          have ha10 := tmod_p hz8 (by omega) (by omega)
          refine pf_X8_28 hX (by omega) (by omega) (sc_k0 hs) (by omega) dX8_castLot_24 ?_
          refine j_up hI (sc_r5 hs) (by omega) (by omega) (Or.inl (by omega)) (fun M11 w12 hw13 hM14 hI15 hf16 => ?_)
          have hV17 := V_up hV_0 hM14 (by omega) (by omega)
          have hF18 := Fr.put hF hM14 (by omega)
          refine j_aload_n hX dX8_castLot_27 rfl 0 rfl ?_
          refine j_iload_n hX dX8_castLot_28 rfl 2 rfl ?_
          refine j_aload_n hX dX8_castLot_29 rfl 0 rfl ?_
          refine gf_X8_28 hX (by omega) (by omega) (sc_k0 hs) dX8_castLot_30 ?_
          refine j_top hf16 ?_
          refine j_iload_n hX dX8_castLot_33 rfl 2 rfl ?_
          refine j_iconst hX dX8_castLot_34 ?_
          refine j_iadd hX dX8_castLot_35 ?_
          refine j_irem hX dX8_castLot_36 (by omega) (by omega) (by omega) (fun z19 hz20 hy21 => ?_)
          have ha22 := tmod_p hz20 (by omega) (by omega)
          refine j_callVV hX lk_X8_60 (c_X8_swapWindows _ _ _ _ _ s _ _ _ _ (by omega) hI15 (by omega) (by omega) hs (by first | assumption | omega) (by first | assumption | omega)) (by omega) hce rfl rfl (by omega) (by omega) (sc_k0 hs) rfl rfl (Nat.le_of_ble_eq_true rfl) dX8_castLot_37 (fun M24 hp25 => ?_)
          obtain ⟨hI27, hG28, hq29⟩ := hp25
          have hk31 := kp_fr hG28 (by omega) hf16
          have hF32 := Fr.trans hF18 hG28 (fun a b h => by omega)
          refine j_iinc (lv' := [(2, _), (0, _), (1, _)]) hX dX8_castLot_40 2 rfl (by rw [hnL]; decide) rfl ?_
          refine j_goto (tgt := 4) hX dX8_castLot_43 (by decide) ?_
          refine j_sub [1, 2, 0] rfl ?_
          exact ih _ _ (by omega) hI27 hF32 hq29 (by first | assumption | omega) (by omega) (by omega)
  show J X B N 0 0 0 [(0, rv B s), (1, iv a)] [] M
  refine j_iload_n hX dX8_castLot_0 rfl 1 rfl ?_
  refine j_iconst hX dX8_castLot_1 ?_
  refine j_isub hX dX8_castLot_2 ?_
  refine j_istore_n (lv' := [(2, _), (0, _), (1, _)]) hX dX8_castLot_3 rfl (by rw [hnL]; decide) rfl ?_
  refine j_sub [1, 2, 0] rfl ?_
  refine (cp (Int.toNat (288 + 1))) _ _ (by omega) hI hF hV (by first | assumption | omega) ?_ ?_
  · omega
  · omega
set_option maxHeartbeats 2000000 in
set_option maxRecDepth 20000 in
theorem c_X8_showThemselves (l : Launch) (D : va_G) (cy : Nat → ClassId) (B N : Nat) (s : Int) (a : Int) (M : MM) (hN : 210 ≤ N) (hI : Iv M) (hpa : I32 a) (hs : Sc s) (h1 : 0 ≤ a ∧ a ≤ 6) : CI l D cy B N 1 yX8_showThemselves cX8_showThemselves 4 (some .int) [rv B s, iv a] M (fun z M' => M' = M) := by
  refine mk_CI (by decide) (Nat.le_of_ble_eq_true rfl) ?_
  intro X exl exD excy hnL hX hret
  have hce : 0 + 0 ≤ (xR X).cells ∧ 0 + 0 ≤ (xR X).slots := ⟨Nat.zero_le _, Nat.zero_le _⟩
  have hbs := sc_b hs
  have cp : ∀ n : Nat, (∀ (x2 x3 : Int), I32 x2 → I32 x3 → (0 ≤ x3 ∧ x3 ≤ 6 ∧ 0 ≤ x2 ∧ x2 ≤ x3) → 0 ≤ 32 * (6 - x3) + 1 → 32 * (6 - x3) + 1 < (n : Int) → J X B N 0 0 4 [(0, rv B s), (1, iv a), (2, iv x2), (3, iv x3)] [] M) := by
    intro n
    induction n with
    | zero => exact by intros; exfalso; omega
    | succ n ih =>
      · intro x2 x3 hxx2 hxx3 h2 hm0 hm1
        refine j_iload_n hX dX8_showThemselves_4 rfl 3 rfl ?_
        refine j_iload_n hX dX8_showThemselves_5 rfl 1 rfl ?_
        refine j_icmp_ge (tgt := 28) hX dX8_showThemselves_6 (by decide) (by omega) (by omega) (fun hc1 => ?_) (fun hc1 => ?_)
        · skip
          refine j_iload_n hX dX8_showThemselves_28 rfl 2 rfl ?_
          exact hret _ _ _ _ dX8_showThemselves_29 rfl (by omega) rfl
        · skip
          refine j_aload_n hX dX8_showThemselves_9 rfl 0 rfl ?_
          refine gf_X8_9 hX (by omega) (by omega) (sc_k0 hs) (sc_f0 hI hs) (by omega) dX8_showThemselves_10 ?_
          refine j_iload_n hX dX8_showThemselves_13 rfl 3 rfl ?_
          refine j_iald hX (by omega) (by omega) (sc_k1 hs) (by omega) (by omega) (by omega) dX8_showThemselves_14 ?_
          refine j_name hI (sc_w hs _) (fun v2 hv3 hl4 hh5 => ?_)
          refine j_iload_n hX dX8_showThemselves_15 rfl 3 rfl ?_
          refine j_icmp_ne (tgt := 22) hX dX8_showThemselves_16 (by decide) (by omega) (by omega) (fun hc6 => ?_) (fun hc6 => ?_)
          · skip
            refine j_iinc (lv' := [(3, _), (0, _), (1, _), (2, _)]) hX dX8_showThemselves_22 3 rfl (by rw [hnL]; decide) rfl ?_
            refine j_goto (tgt := 4) hX dX8_showThemselves_25 (by decide) ?_
            refine j_sub [1, 2, 3, 0] rfl ?_
            exact ih _ _ (by omega) (by omega) (by first | assumption | omega) (by omega) (by omega)
          · skip
            refine j_iinc (lv' := [(2, _), (0, _), (1, _), (3, _)]) hX dX8_showThemselves_19 2 rfl (by rw [hnL]; decide) rfl ?_
            refine j_iinc (lv' := [(3, _), (2, _), (0, _), (1, _)]) hX dX8_showThemselves_22 3 rfl (by rw [hnL]; decide) rfl ?_
            refine j_goto (tgt := 4) hX dX8_showThemselves_25 (by decide) ?_
            refine j_sub [2, 3, 1, 0] rfl ?_
            exact ih _ _ (by omega) (by omega) (by first | assumption | omega) (by omega) (by omega)
  show J X B N 0 0 0 [(0, rv B s), (1, iv a)] [] M
  refine j_iconst hX dX8_showThemselves_0 ?_
  refine j_istore_n (lv' := [(2, _), (0, _), (1, _)]) hX dX8_showThemselves_1 rfl (by rw [hnL]; decide) rfl ?_
  refine j_iconst hX dX8_showThemselves_2 ?_
  refine j_istore_n (lv' := [(3, _), (2, _), (0, _), (1, _)]) hX dX8_showThemselves_3 rfl (by rw [hnL]; decide) rfl ?_
  refine j_sub [2, 3, 1, 0] rfl ?_
  refine (cp (Int.toNat (256 + 1))) _ _ (by omega) (by omega) (by first | assumption | omega) ?_ ?_
  · omega
  · omega
set_option maxHeartbeats 2000000 in
set_option maxRecDepth 20000 in
theorem c_X8_doesKnow (l : Launch) (D : va_G) (cy : Nat → ClassId) (B N : Nat) (s : Int) (a : Int) (b : Int) (M : MM) (hN : 210 ≤ N) (hI : Iv M) (hpa : I32 a) (hpb : I32 b) (hs : Sc s) (h1 : 0 ≤ a ∧ a < 6) : CI l D cy B N 1 yX8_doesKnow cX8_doesKnow 3 (some .boolean) [rv B s, iv a, iv b] M (fun z M' => M' = M ∧ (0 ≤ z ∧ z ≤ 1)) := by
  refine mk_CI (by decide) (Nat.le_of_ble_eq_true rfl) ?_
  intro X exl exD excy hnL hX hret
  have hce : 0 + 0 ≤ (xR X).cells ∧ 0 + 0 ≤ (xR X).slots := ⟨Nat.zero_le _, Nat.zero_le _⟩
  have hbs := sc_b hs
  show J X B N 0 0 0 [(0, rv B s), (1, iv a), (2, iv b)] [] M
  refine j_aload_n hX dX8_doesKnow_0 rfl 0 rfl ?_
  refine gf_X8_15 hX (by omega) (by omega) (sc_k0 hs) (sc_f1 hI hs) (by omega) dX8_doesKnow_1 ?_
  refine j_iload_n hX dX8_doesKnow_4 rfl 1 rfl ?_
  refine j_iald hX (by omega) (by omega) (sc_k2 hs) (by omega) (by omega) (by omega) dX8_doesKnow_5 ?_
  refine j_name hI (sc_n hs _) (fun v1 hv2 hl3 hh4 => ?_)
  refine j_iload_n hX dX8_doesKnow_6 rfl 2 rfl ?_
  refine j_ishr hX dX8_doesKnow_7 (fun z5 hz6 hy7 => ?_)
  refine j_iconst hX dX8_doesKnow_8 ?_
  refine j_iand hX dX8_doesKnow_9 (fun z8 hz9 hy10 => ?_)
  have ha11 := (and_f hz9 (by omega) (by omega)).2 (by omega)
  refine j_if_eq (tgt := 17) hX dX8_doesKnow_10 (by decide) (by omega) (fun hc12 => ?_) (fun hc12 => ?_)
  · skip
    refine j_iconst hX dX8_doesKnow_17 ?_
    exact hret _ _ _ _ dX8_doesKnow_18 (nb (by omega)) (by omega) ⟨rfl, by omega⟩
  · skip
    refine j_iconst hX dX8_doesKnow_13 ?_
    refine j_goto (tgt := 18) hX dX8_doesKnow_14 (by decide) ?_
    exact hret _ _ _ _ dX8_doesKnow_18 (nb (by omega)) (by omega) ⟨rfl, by omega⟩
set_option maxHeartbeats 2000000 in
set_option maxRecDepth 20000 in
theorem c_X8_learn (l : Launch) (D : va_G) (cy : Nat → ClassId) (B N : Nat) (s : Int) (a : Int) (b : Int) (M : MM) (hN : 210 ≤ N) (hI : Iv M) (hpa : I32 a) (hpb : I32 b) (hs : Sc s) (h1 : 0 ≤ a ∧ a < 6) : CI l D cy B N 2 yX8_learn cX8_learn 4 (some .int) [rv B s, iv a, iv b] M (fun z M' => Iv M' ∧ Fr (fun a (_ : Int) => (a = s + 2)) M M') := by
  refine mk_CI (by decide) (Nat.le_of_ble_eq_true rfl) ?_
  intro X exl exD excy hnL hX hret
  have hce : 0 + 0 ≤ (xR X).cells ∧ 0 + 0 ≤ (xR X).slots := ⟨Nat.zero_le _, Nat.zero_le _⟩
  have hbs := sc_b hs
  have hF : Fr (fun a (_ : Int) => (a = s + 2)) M M := Fr.rf
  show J X B N 0 0 0 [(0, rv B s), (1, iv a), (2, iv b)] [] M
  refine j_iload_n hX dX8_learn_0 rfl 2 rfl ?_
  refine j_aload_n hX dX8_learn_1 rfl 0 rfl ?_
  refine gf_X8_15 hX (by omega) (by omega) (sc_k0 hs) (sc_f1 hI hs) (by omega) dX8_learn_2 ?_
  refine j_iload_n hX dX8_learn_5 rfl 1 rfl ?_
  refine j_iald hX (by omega) (by omega) (sc_k2 hs) (by omega) (by omega) (by omega) dX8_learn_6 ?_
  refine j_name hI (sc_n hs _) (fun v1 hv2 hl3 hh4 => ?_)
  refine j_iconst hX dX8_learn_7 ?_
  refine j_ixor hX dX8_learn_8 (fun z5 hz6 hy7 => ?_)
  refine j_iand hX dX8_learn_9 (fun z8 hz9 hy10 => ?_)
  refine j_istore_n (lv' := [(3, _), (0, _), (1, _), (2, _)]) hX dX8_learn_10 rfl (by rw [hnL]; decide) rfl ?_
  refine j_aload_n hX dX8_learn_11 rfl 1 rfl ?_
  refine gf_X8_15 hX (by omega) (by omega) (sc_k0 hs) (sc_f1 hI hs) (by omega) dX8_learn_12 ?_
  refine j_iload_n hX dX8_learn_15 rfl 2 rfl ?_
  refine j_dup2 hX dX8_learn_16 rfl rfl ?_
  refine j_iald hX (by omega) (by omega) (sc_k2 hs) (by omega) (by omega) (by omega) dX8_learn_17 ?_
  refine j_name hI (sc_n hs _) (fun v11 hv12 hl13 hh14 => ?_)
  refine j_iload_n hX dX8_learn_18 rfl 0 rfl ?_
  refine j_ior hX dX8_learn_19 (fun z15 hz16 hy17 => ?_)
  refine j_iast hX (by omega) (by omega) (sc_k2 hs) (by omega) (by omega) (by omega) (by omega) dX8_learn_20 ?_
  refine j_up hI (sc_n hs _) (by omega) (by omega) (Or.inl (by omega)) (fun M18 w19 hw20 hM21 hI22 hf23 => ?_)
  have hF24 := Fr.put hF hM21 (by omega)
  refine j_iload_n hX dX8_learn_21 rfl 0 rfl ?_
  refine j_callSI hX lk_X8_64 (c_J6_bitCount_0f7a4 _ _ _ _ _ _ _ (by omega)) (by omega) hce rfl rfl (Nat.le_of_ble_eq_true rfl) dX8_learn_22 (fun z25 M26 hz28 hp27 => ?_)
  subst hp27
  exact hret _ _ _ _ dX8_learn_25 rfl (by omega) ⟨hI22, hF24⟩
set_option maxHeartbeats 2000000 in
set_option maxRecDepth 20000 in
theorem c_X8_knowersOf (l : Launch) (D : va_G) (cy : Nat → ClassId) (B N : Nat) (s : Int) (a : Int) (M : MM) (hN : 210 ≤ N) (hI : Iv M) (hpa : I32 a) (hs : Sc s) : CI l D cy B N 2 yX8_knowersOf cX8_knowersOf 4 (some .int) [rv B s, iv a] M (fun z M' => M' = M) := by
  refine mk_CI (by decide) (Nat.le_of_ble_eq_true rfl) ?_
  intro X exl exD excy hnL hX hret
  have hce : 0 + 0 ≤ (xR X).cells ∧ 0 + 0 ≤ (xR X).slots := ⟨Nat.zero_le _, Nat.zero_le _⟩
  have hbs := sc_b hs
  have cp : ∀ n : Nat, (∀ (x2 x3 : Int), I32 x2 → I32 x3 → (0 ≤ x3 ∧ x3 ≤ 6) → 0 ≤ 32 * (6 - x3) + 1 → 32 * (6 - x3) + 1 < (n : Int) → J X B N 0 0 4 [(0, rv B s), (1, iv a), (2, iv x2), (3, iv x3)] [] M) := by
    intro n
    induction n with
    | zero => exact by intros; exfalso; omega
    | succ n ih =>
      · intro x2 x3 hxx2 hxx3 h2 hm0 hm1
        refine j_iload_n hX dX8_knowersOf_4 rfl 3 rfl ?_
        refine j_bipush hX dX8_knowersOf_5 rfl ?_
        refine j_icmp_ge (tgt := 31) hX dX8_knowersOf_7 (by decide) (by omega) (by omega) (fun hc1 => ?_) (fun hc1 => ?_)
        · skip
          refine j_iload_n hX dX8_knowersOf_31 rfl 2 rfl ?_
          exact hret _ _ _ _ dX8_knowersOf_32 rfl (by omega) rfl
        · skip
          refine j_aload_n hX dX8_knowersOf_10 rfl 0 rfl ?_
          refine j_iload_n hX dX8_knowersOf_11 rfl 3 rfl ?_
          refine j_iload_n hX dX8_knowersOf_12 rfl 1 rfl ?_
          refine j_callVI hX lk_X8_70 (c_X8_doesKnow _ _ _ _ _ s _ _ _ (by omega) hI (by omega) (by omega) hs (by first | assumption | omega)) (by omega) hce rfl rfl (by omega) (by omega) (sc_k0 hs) rfl rfl (Nat.le_of_ble_eq_true rfl) dX8_knowersOf_13 (fun z2 M3 hz5 hp4 => ?_)
          obtain ⟨rfl, hb6⟩ := hp4
          refine j_if_eq (tgt := 25) hX dX8_knowersOf_16 (by decide) (by omega) (fun hc7 => ?_) (fun hc7 => ?_)
          · skip
            refine j_iinc (lv' := [(3, _), (0, _), (1, _), (2, _)]) hX dX8_knowersOf_25 3 rfl (by rw [hnL]; decide) rfl ?_
            refine j_goto (tgt := 4) hX dX8_knowersOf_28 (by decide) ?_
            refine j_sub [1, 2, 3, 0] rfl ?_
            exact ih _ _ (by omega) (by omega) (by first | assumption | omega) (by omega) (by omega)
          · skip
            refine j_iload_n hX dX8_knowersOf_19 rfl 2 rfl ?_
            refine j_iconst hX dX8_knowersOf_20 ?_
            refine j_iload_n hX dX8_knowersOf_21 rfl 3 rfl ?_
            refine j_ishl hX dX8_knowersOf_22 (fun z8 hz9 hy10 => ?_)
            refine j_ior hX dX8_knowersOf_23 (fun z11 hz12 hy13 => ?_)
            refine j_istore_n (lv' := [(2, _), (0, _), (1, _), (3, _)]) hX dX8_knowersOf_24 rfl (by rw [hnL]; decide) rfl ?_
            refine j_iinc (lv' := [(3, _), (2, _), (0, _), (1, _)]) hX dX8_knowersOf_25 3 rfl (by rw [hnL]; decide) rfl ?_
            refine j_goto (tgt := 4) hX dX8_knowersOf_28 (by decide) ?_
            refine j_sub [2, 3, 1, 0] rfl ?_
            exact ih _ _ (by omega) (by omega) (by first | assumption | omega) (by omega) (by omega)
  show J X B N 0 0 0 [(0, rv B s), (1, iv a)] [] M
  refine j_iconst hX dX8_knowersOf_0 ?_
  refine j_istore_n (lv' := [(2, _), (0, _), (1, _)]) hX dX8_knowersOf_1 rfl (by rw [hnL]; decide) rfl ?_
  refine j_iconst hX dX8_knowersOf_2 ?_
  refine j_istore_n (lv' := [(3, _), (2, _), (0, _), (1, _)]) hX dX8_knowersOf_3 rfl (by rw [hnL]; decide) rfl ?_
  refine j_sub [2, 3, 1, 0] rfl ?_
  refine (cp (Int.toNat (256 + 1))) _ _ (by omega) (by omega) (by first | assumption | omega) ?_ ?_
  · omega
  · omega
set_option maxHeartbeats 2000000 in
set_option maxRecDepth 20000 in
theorem c_X8_knownTogether (l : Launch) (D : va_G) (cy : Nat → ClassId) (B N : Nat) (s : Int) (a : Int) (M : MM) (hN : 210 ≤ N) (hI : Iv M) (hpa : I32 a) (hs : Sc s) : CI l D cy B N 1 yX8_knownTogether cX8_knownTogether 4 (some .int) [rv B s, iv a] M (fun z M' => M' = M) := by
  refine mk_CI (by decide) (Nat.le_of_ble_eq_true rfl) ?_
  intro X exl exD excy hnL hX hret
  have hce : 0 + 0 ≤ (xR X).cells ∧ 0 + 0 ≤ (xR X).slots := ⟨Nat.zero_le _, Nat.zero_le _⟩
  have hbs := sc_b hs
  have cp : ∀ n : Nat, (∀ (x2 x3 : Int), I32 x2 → I32 x3 → (0 ≤ x3 ∧ x3 ≤ 6) → 0 ≤ 32 * (6 - x3) + 1 → 32 * (6 - x3) + 1 < (n : Int) → J X B N 0 0 4 [(0, rv B s), (1, iv a), (2, iv x2), (3, iv x3)] [] M) := by
    intro n
    induction n with
    | zero => exact by intros; exfalso; omega
    | succ n ih =>
      · intro x2 x3 hxx2 hxx3 h2 hm0 hm1
        refine j_iload_n hX dX8_knownTogether_4 rfl 3 rfl ?_
        refine j_bipush hX dX8_knownTogether_5 rfl ?_
        refine j_icmp_ge (tgt := 33) hX dX8_knownTogether_7 (by decide) (by omega) (by omega) (fun hc1 => ?_) (fun hc1 => ?_)
        · skip
          refine j_iload_n hX dX8_knownTogether_33 rfl 2 rfl ?_
          exact hret _ _ _ _ dX8_knownTogether_34 rfl (by omega) rfl
        · skip
          refine j_iload_n hX dX8_knownTogether_10 rfl 1 rfl ?_
          refine j_iload_n hX dX8_knownTogether_11 rfl 3 rfl ?_
          refine j_ishr hX dX8_knownTogether_12 (fun z2 hz3 hy4 => ?_)
          refine j_iconst hX dX8_knownTogether_13 ?_
          refine j_iand hX dX8_knownTogether_14 (fun z5 hz6 hy7 => ?_)
          have ha8 := (and_f hz6 (by omega) (by omega)).2 (by omega)
          refine j_if_eq (tgt := 27) hX dX8_knownTogether_15 (by decide) (by omega) (fun hc9 => ?_) (fun hc9 => ?_)
          · skip
            refine j_iinc (lv' := [(3, _), (0, _), (1, _), (2, _)]) hX dX8_knownTogether_27 3 rfl (by rw [hnL]; decide) rfl ?_
            refine j_goto (tgt := 4) hX dX8_knownTogether_30 (by decide) ?_
            refine j_sub [1, 2, 3, 0] rfl ?_
            exact ih _ _ (by omega) (by omega) (by first | assumption | omega) (by omega) (by omega)
          · skip
            refine j_iload_n hX dX8_knownTogether_18 rfl 2 rfl ?_
            refine j_aload_n hX dX8_knownTogether_19 rfl 0 rfl ?_
            refine gf_X8_15 hX (by omega) (by omega) (sc_k0 hs) (sc_f1 hI hs) (by omega) dX8_knownTogether_20 ?_
            refine j_iload_n hX dX8_knownTogether_23 rfl 3 rfl ?_
            refine j_iald hX (by omega) (by omega) (sc_k2 hs) (by omega) (by omega) (by omega) dX8_knownTogether_24 ?_
            refine j_name hI (sc_n hs _) (fun v10 hv11 hl12 hh13 => ?_)
            refine j_ior hX dX8_knownTogether_25 (fun z14 hz15 hy16 => ?_)
            refine j_istore_n (lv' := [(2, _), (0, _), (1, _), (3, _)]) hX dX8_knownTogether_26 rfl (by rw [hnL]; decide) rfl ?_
            refine j_iinc (lv' := [(3, _), (2, _), (0, _), (1, _)]) hX dX8_knownTogether_27 3 rfl (by rw [hnL]; decide) rfl ?_
            refine j_goto (tgt := 4) hX dX8_knownTogether_30 (by decide) ?_
            refine j_sub [2, 3, 1, 0] rfl ?_
            exact ih _ _ (by omega) (by omega) (by first | assumption | omega) (by omega) (by omega)
  show J X B N 0 0 0 [(0, rv B s), (1, iv a)] [] M
  refine j_iconst hX dX8_knownTogether_0 ?_
  refine j_istore_n (lv' := [(2, _), (0, _), (1, _)]) hX dX8_knownTogether_1 rfl (by rw [hnL]; decide) rfl ?_
  refine j_iconst hX dX8_knownTogether_2 ?_
  refine j_istore_n (lv' := [(3, _), (2, _), (0, _), (1, _)]) hX dX8_knownTogether_3 rfl (by rw [hnL]; decide) rfl ?_
  refine j_sub [2, 3, 1, 0] rfl ?_
  refine (cp (Int.toNat (256 + 1))) _ _ (by omega) (by omega) (by first | assumption | omega) ?_ ?_
  · omega
  · omega
set_option maxHeartbeats 2000000 in
set_option maxRecDepth 20000 in
theorem c_X8_knownInAll (l : Launch) (D : va_G) (cy : Nat → ClassId) (B N : Nat) (s : Int) (M : MM) (hN : 210 ≤ N) (hI : Iv M) (hs : Sc s) : CI l D cy B N 2 yX8_knownInAll cX8_knownInAll 3 (some .int) [rv B s] M (fun z M' => M' = M) := by
  refine mk_CI (by decide) (Nat.le_of_ble_eq_true rfl) ?_
  intro X exl exD excy hnL hX hret
  have hce : 0 + 0 ≤ (xR X).cells ∧ 0 + 0 ≤ (xR X).slots := ⟨Nat.zero_le _, Nat.zero_le _⟩
  have hbs := sc_b hs
  have cp : ∀ n : Nat, (∀ (x1 x2 : Int), I32 x1 → I32 x2 → (0 ≤ x2 ∧ x2 ≤ 6) → 0 ≤ 32 * (6 - x2) + 1 → 32 * (6 - x2) + 1 < (n : Int) → J X B N 0 0 4 [(0, rv B s), (1, iv x1), (2, iv x2)] [] M) := by
    intro n
    induction n with
    | zero => exact by intros; exfalso; omega
    | succ n ih =>
      · intro x1 x2 hxx1 hxx2 h2 hm0 hm1
        refine j_iload_n hX dX8_knownInAll_4 rfl 2 rfl ?_
        refine j_bipush hX dX8_knownInAll_5 rfl ?_
        refine j_icmp_ge (tgt := 28) hX dX8_knownInAll_7 (by decide) (by omega) (by omega) (fun hc1 => ?_) (fun hc1 => ?_)
        · skip
          refine j_iload_n hX dX8_knownInAll_28 rfl 1 rfl ?_
          exact hret _ _ _ _ dX8_knownInAll_29 rfl (by omega) rfl
        · skip
          refine j_iload_n hX dX8_knownInAll_10 rfl 1 rfl ?_
          refine j_aload_n hX dX8_knownInAll_11 rfl 0 rfl ?_
          refine gf_X8_15 hX (by omega) (by omega) (sc_k0 hs) (sc_f1 hI hs) (by omega) dX8_knownInAll_12 ?_
          refine j_iload_n hX dX8_knownInAll_15 rfl 2 rfl ?_
          refine j_iald hX (by omega) (by omega) (sc_k2 hs) (by omega) (by omega) (by omega) dX8_knownInAll_16 ?_
          refine j_name hI (sc_n hs _) (fun v2 hv3 hl4 hh5 => ?_)
          refine j_callSI hX lk_X8_64 (c_J6_bitCount_0f7a4 _ _ _ _ _ _ _ (by omega)) (by omega) hce rfl rfl (Nat.le_of_ble_eq_true rfl) dX8_knownInAll_17 (fun z6 M7 hz9 hp8 => ?_)
          subst hp8
          refine j_iadd hX dX8_knownInAll_20 ?_
          refine j_norm (fun z10 hz11 hy12 => ?_)
          refine j_istore_n (lv' := [(1, _), (0, _), (2, _)]) hX dX8_knownInAll_21 rfl (by rw [hnL]; decide) rfl ?_
          refine j_iinc (lv' := [(2, _), (1, _), (0, _)]) hX dX8_knownInAll_22 2 rfl (by rw [hnL]; decide) rfl ?_
          refine j_goto (tgt := 4) hX dX8_knownInAll_25 (by decide) ?_
          refine j_sub [2, 1, 0] rfl ?_
          exact ih _ _ (by omega) (by omega) (by first | assumption | omega) (by omega) (by omega)
  show J X B N 0 0 0 [(0, rv B s)] [] M
  refine j_iconst hX dX8_knownInAll_0 ?_
  refine j_istore_n (lv' := [(1, _), (0, _)]) hX dX8_knownInAll_1 rfl (by rw [hnL]; decide) rfl ?_
  refine j_iconst hX dX8_knownInAll_2 ?_
  refine j_istore_n (lv' := [(2, _), (1, _), (0, _)]) hX dX8_knownInAll_3 rfl (by rw [hnL]; decide) rfl ?_
  refine j_sub [2, 1, 0] rfl ?_
  refine (cp (Int.toNat (256 + 1))) _ _ (by omega) (by omega) (by first | assumption | omega) ?_ ?_
  · omega
  · omega
set_option maxHeartbeats 2000000 in
set_option maxRecDepth 20000 in
theorem c_X8_start (l : Launch) (D : va_G) (cy : Nat → ClassId) (B N : Nat) (s : Int) (q : Int) (nr : Int) (M : MM) (hN : 210 ≤ N) (hI : Iv M) (hs : Sc s) (hq : q = 5 ∨ q = 180) (hnr : M.1 q 0 = nr) (hVQ : VQ nr q M) (hnb : 0 ≤ nr ∧ nr ≤ 6) : CV l D cy B N 2 yX8_start cX8_start 4 none [rv B s, rv B q] M (fun M' => Iv M' ∧ Fr (fun a (_ : Int) => (s ≤ a ∧ a ≤ s + 2)) M M' ∧ (V nr s M')) := by
  refine mk_CV (by decide) (Nat.le_of_ble_eq_true rfl) ?_
  intro X exl exD excy hnL hX hret
  have hce : 0 + 0 ≤ (xR X).cells ∧ 0 + 0 ≤ (xR X).slots := ⟨Nat.zero_le _, Nat.zero_le _⟩
  have hbs := sc_b hs
  have hF : Fr (fun a (_ : Int) => (s ≤ a ∧ a ≤ s + 2)) M M := Fr.rf
  have cp : ∀ n : Nat, (∀ (x2 : Int), ∀ (Mc : MM), I32 x2 → Iv Mc → Fr (fun a (_ : Int) => (s ≤ a ∧ a ≤ s + 2)) M Mc → Mc.1 q 0 = nr → VQ nr q Mc → (0 ≤ x2 ∧ x2 ≤ 6) → (Vp x2 nr s Mc) → 0 ≤ 32 * (6 - x2) + 1 → 32 * (6 - x2) + 1 < (n : Int) → J X B N 0 0 2 [(0, rv B s), (1, rv B q), (2, iv x2)] [] Mc) := by
    intro n
    induction n with
    | zero => exact by intros; exfalso; omega
    | succ n ih =>
      · intro x2 Mc hxx2 hI hF hk_0 hV_0 h2 h3 hm0 hm1
        refine j_iload_n hX dX8_start_2 rfl 2 rfl ?_
        refine j_bipush hX dX8_start_3 rfl ?_
        refine j_icmp_ge (tgt := 68) hX dX8_start_5 (by decide) (by omega) (by omega) (fun hc1 => ?_) (fun hc1 => ?_)
        · skip
          have hV2 : VR nr s Mc := Vp_full h3 (by omega)
          refine j_aload_n hX dX8_start_68 rfl 0 rfl ?_
          refine j_aload_n hX dX8_start_69 rfl 1 rfl ?_
          refine gf_X8_40 hX (by omega) (by omega) (kq hq) dX8_start_70 ?_
          refine j_name hI (rq_3 hq) (fun v3 hv4 hl5 hh6 => ?_)
          have hk7 := hv4.symm
          refine pf_X8_18 hX (by omega) (by omega) (sc_k0 hs) (by omega) dX8_start_73 ?_
          refine j_up hI (sc_r2 hs) (by omega) (by omega) (Or.inl (by omega)) (fun M8 w9 hw10 hM11 hI12 hf13 => ?_)
          have hV14 := VQ_up hV_0 hM11 (by omega)
          have hV15 := VR_up hV2 hM11 (by omega)
          have hk16 := kp_up hM11 (by omega) hk_0
          have hk17 := kp_up hM11 (by omega) hk7
          have hF18 := Fr.put hF hM11 (by omega)
          refine j_aload_n hX dX8_start_76 rfl 0 rfl ?_
          refine j_iconst hX dX8_start_77 ?_
          refine pf_X8_22 hX (by omega) (by omega) (sc_k0 hs) (by omega) dX8_start_78 ?_
          refine j_up hI12 (sc_r3 hs) (by omega) (by omega) (Or.inl (by omega)) (fun M19 w20 hw21 hM22 hI23 hf24 => ?_)
          have hV25 := VQ_up hV14 hM22 (by omega)
          have hV26 := VR_up hV15 hM22 (by omega)
          have hk27 := kp_up hM22 (by omega) hk16
          have hk28 := kp_up hM22 (by omega) hk17
          have hk29 := kp_up hM22 (fun h => absurd h.2 (by decide)) hf13
          have hF30 := Fr.put hF18 hM22 (by omega)
          refine j_aload_n hX dX8_start_81 rfl 0 rfl ?_
          refine j_iconst hX dX8_start_82 ?_
          refine pf_X8_25 hX (by omega) (by omega) (sc_k0 hs) (by omega) dX8_start_83 ?_
          refine j_up hI23 (sc_r4 hs) (by omega) (by omega) (Or.inl (by omega)) (fun M31 w32 hw33 hM34 hI35 hf36 => ?_)
          have hV37 := VQ_up hV25 hM34 (by omega)
          have hV38 := VR_up hV26 hM34 (by omega)
          have hk39 := kp_up hM34 (by omega) hk27
          have hk40 := kp_up hM34 (by omega) hk28
          have hk41 := kp_up hM34 (fun h => absurd h.2 (by decide)) hk29
          have hk42 := kp_up hM34 (fun h => absurd h.2 (by decide)) hf24
          have hF43 := Fr.put hF30 hM34 (by omega)
          refine j_aload_n hX dX8_start_86 rfl 0 rfl ?_
          refine j_aload_n hX dX8_start_87 rfl 1 rfl ?_
          refine gf_X8_41 hX (by omega) (by omega) (kq hq) dX8_start_88 ?_
          refine j_name hI35 (rq_16 hq) (fun v44 hv45 hl46 hh47 => ?_)
          have hk48 := hv45.symm
          refine j_iconst hX dX8_start_91 ?_
          refine j_mmax hX (in_2 197 (by first | rfl | decide +kernel) rfl) (by decide) hce (by omega) (by omega) (Nat.le_of_ble_eq_true rfl) dX8_start_92 (fun z49 hz50 => ?_)
          refine pf_X8_28 hX (by omega) (by omega) (sc_k0 hs) (by omega) dX8_start_95 ?_
          refine j_up hI35 (sc_r5 hs) (by omega) (by omega) (Or.inl (by omega)) (fun M51 w52 hw53 hM54 hI55 hf56 => ?_)
          have hV57 := VQ_up hV37 hM54 (by omega)
          have hV58 := VR_up hV38 hM54 (by omega)
          have hk59 := kp_up hM54 (by omega) hk39
          have hk60 := kp_up hM54 (by omega) hk40
          have hk61 := kp_up hM54 (fun h => absurd h.2 (by decide)) hk41
          have hk62 := kp_up hM54 (fun h => absurd h.2 (by decide)) hk42
          have hk63 := kp_up hM54 (fun h => absurd h.2 (by decide)) hf36
          have hk64 := kp_up hM54 (by omega) hk48
          have hF65 := Fr.put hF43 hM54 (by omega)
          exact hret _ _ _ dX8_start_98 ⟨hI55, hF65, ⟨by assumption, by omega⟩⟩
        · skip
          refine j_iload_n hX dX8_start_8 rfl 2 rfl ?_
          refine j_aload_n hX dX8_start_9 rfl 1 rfl ?_
          refine gf_X8_31 hX (by omega) (by omega) (kq hq) dX8_start_10 ?_
          refine j_top hk_0 ?_
          refine j_icmp_ge (tgt := 20) hX dX8_start_13 (by decide) (by omega) (by omega) (fun hc66 => ?_) (fun hc66 => ?_)
          · skip
            refine j_iconst hX dX8_start_20 ?_
            refine j_istore_n (lv' := [(3, _), (0, _), (1, _), (2, _)]) hX dX8_start_21 rfl (by rw [hnL]; decide) rfl ?_
            refine j_aload_n hX dX8_start_22 rfl 1 rfl ?_
            refine gf_X8_9 hX (by omega) (by omega) (sc_k0 hs) (sc_f0 hI hs) (by omega) dX8_start_23 ?_
            refine j_iload_n hX dX8_start_26 rfl 3 rfl ?_
            refine j_iload_n hX dX8_start_27 rfl 0 rfl ?_
            refine j_if_eq (tgt := 40) hX dX8_start_28 (by decide) (by omega) (fun hc67 => ?_) (fun hc67 => ?_)
            · skip
              refine j_iconst hX dX8_start_40 ?_
              refine j_iast hX (by omega) (by omega) (sc_k1 hs) (by omega) (by omega) (by omega) (by omega) dX8_start_41 ?_
              refine j_up hI (sc_w hs _) (by omega) (by omega) (Or.inl (by omega)) (fun M68 w69 hw70 hM71 hI72 hf73 => ?_)
              have hV74 := VQ_up hV_0 hM71 (by omega)
              have hk75 := kp_up hM71 (by omega) hk_0
              have hF76 := Fr.put hF hM71 (by omega)
              have hP1 := Vp_put h3 hM71 (by omega)
              refine j_aload_n hX dX8_start_42 rfl 1 rfl ?_
              refine gf_X8_15 hX (by omega) (by omega) (sc_k0 hs) (sc_f1 hI72 hs) (by omega) dX8_start_43 ?_
              refine j_iload_n hX dX8_start_46 rfl 3 rfl ?_
              refine j_iload_n hX dX8_start_47 rfl 0 rfl ?_
              refine j_if_eq (tgt := 60) hX dX8_start_48 (by decide) (by omega) (fun hc77 => ?_) (fun hc77 => ?_)
              · skip
                refine j_iconst hX dX8_start_60 ?_
                refine j_iast hX (by omega) (by omega) (sc_k2 hs) (by omega) (by omega) (by omega) (by omega) dX8_start_61 ?_
                refine j_up hI72 (sc_n hs _) (by omega) (by omega) (Or.inl (by omega)) (fun M78 w79 hw80 hM81 hI82 hf83 => ?_)
                have hV84 := VQ_up hV74 hM81 (by omega)
                have hk85 := kp_up hM81 (by omega) hk75
                have hF86 := Fr.put hF76 hM81 (by omega)
                have hP2 : Vp (x2 + 1) nr s M78 := Vp_keep hP1 (fun b => by rw [hM81]; exact up_ne (by omega))
                refine j_iinc (lv' := [(2, _), (3, _), (0, _), (1, _)]) hX dX8_start_62 3 rfl (by rw [hnL]; decide) rfl ?_
                refine j_goto (tgt := 2) hX dX8_start_65 (by decide) ?_
                refine j_sub [2, 3, 0] rfl ?_
                exact ih _ _ (by omega) hI82 hF86 hk85 hV84 (by first | assumption | omega) (by first | exact Vp_0 | assumption) (by omega) (by omega)
              · skip
                refine j_aload_n hX dX8_start_51 rfl 2 rfl ?_
                refine gf_X8_37 hX (by omega) (by omega) (kq hq) (fq_18 hI72 hq) (by omega) dX8_start_52 ?_
                refine j_iload_n hX dX8_start_55 rfl 3 rfl ?_
                refine j_iald hX (by omega) (by omega) (kq_19 hq) (by omega) (by omega) (by omega) dX8_start_56 ?_
                refine j_name hI72 (aq_19 hq _) (fun v87 hv88 hl89 hh90 => ?_)
                refine j_goto (tgt := 61) hX dX8_start_57 (by decide) ?_
                refine j_iast hX (by omega) (by omega) (sc_k2 hs) (by omega) (by omega) (by omega) (by omega) dX8_start_61 ?_
                refine j_up hI72 (sc_n hs _) (by omega) (by omega) (Or.inl (by omega)) (fun M91 w92 hw93 hM94 hI95 hf96 => ?_)
                have hV97 := VQ_up hV74 hM94 (by omega)
                have hk98 := kp_up hM94 (by omega) hk75
                have hF99 := Fr.put hF76 hM94 (by omega)
                have hP2 : Vp (x2 + 1) nr s M91 := Vp_keep hP1 (fun b => by rw [hM94]; exact up_ne (by omega))
                refine j_iinc (lv' := [(2, _), (3, _), (0, _), (1, _)]) hX dX8_start_62 3 rfl (by rw [hnL]; decide) rfl ?_
                refine j_goto (tgt := 2) hX dX8_start_65 (by decide) ?_
                refine j_sub [2, 3, 0] rfl ?_
                exact ih _ _ (by omega) hI95 hF99 hk98 hV97 (by first | assumption | omega) (by first | exact Vp_0 | assumption) (by omega) (by omega)
            · skip
              refine j_aload_n hX dX8_start_31 rfl 2 rfl ?_
              refine gf_X8_36 hX (by omega) (by omega) (kq hq) (fq_10 hI hq) (by omega) dX8_start_32 ?_
              refine j_iload_n hX dX8_start_35 rfl 3 rfl ?_
              refine j_iald hX (by omega) (by omega) (kq_6 hq) (by omega) (by omega) (by omega) dX8_start_36 ?_
              refine j_name hI (aq_6 hq _) (fun v100 hv101 hl102 hh103 => ?_)
              have hva104 := VQ_at hV_0 hv101 (by omega)
              refine j_goto (tgt := 41) hX dX8_start_37 (by decide) ?_
              refine j_iast hX (by omega) (by omega) (sc_k1 hs) (by omega) (by omega) (by omega) (by omega) dX8_start_41 ?_
              refine j_up hI (sc_w hs _) (by omega) (by omega) (Or.inl (by omega)) (fun M105 w106 hw107 hM108 hI109 hf110 => ?_)
              have hV111 := VQ_up hV_0 hM108 (by omega)
              have hk112 := kp_up hM108 (by omega) hk_0
              have hF113 := Fr.put hF hM108 (by omega)
              have hP1 := Vp_put h3 hM108 (by omega)
              refine j_aload_n hX dX8_start_42 rfl 1 rfl ?_
              refine gf_X8_15 hX (by omega) (by omega) (sc_k0 hs) (sc_f1 hI109 hs) (by omega) dX8_start_43 ?_
              refine j_iload_n hX dX8_start_46 rfl 3 rfl ?_
              refine j_iload_n hX dX8_start_47 rfl 0 rfl ?_
              refine j_if_eq (tgt := 60) hX dX8_start_48 (by decide) (by omega) (fun hc114 => ?_) (fun hc114 => ?_)
              · skip
                refine j_iconst hX dX8_start_60 ?_
                refine j_iast hX (by omega) (by omega) (sc_k2 hs) (by omega) (by omega) (by omega) (by omega) dX8_start_61 ?_
                refine j_up hI109 (sc_n hs _) (by omega) (by omega) (Or.inl (by omega)) (fun M115 w116 hw117 hM118 hI119 hf120 => ?_)
                have hV121 := VQ_up hV111 hM118 (by omega)
                have hk122 := kp_up hM118 (by omega) hk112
                have hF123 := Fr.put hF113 hM118 (by omega)
                have hP2 : Vp (x2 + 1) nr s M115 := Vp_keep hP1 (fun b => by rw [hM118]; exact up_ne (by omega))
                refine j_iinc (lv' := [(2, _), (3, _), (0, _), (1, _)]) hX dX8_start_62 3 rfl (by rw [hnL]; decide) rfl ?_
                refine j_goto (tgt := 2) hX dX8_start_65 (by decide) ?_
                refine j_sub [2, 3, 0] rfl ?_
                exact ih _ _ (by omega) hI119 hF123 hk122 hV121 (by first | assumption | omega) (by first | exact Vp_0 | assumption) (by omega) (by omega)
              · skip
                refine j_aload_n hX dX8_start_51 rfl 2 rfl ?_
                refine gf_X8_37 hX (by omega) (by omega) (kq hq) (fq_18 hI109 hq) (by omega) dX8_start_52 ?_
                refine j_iload_n hX dX8_start_55 rfl 3 rfl ?_
                refine j_iald hX (by omega) (by omega) (kq_19 hq) (by omega) (by omega) (by omega) dX8_start_56 ?_
                refine j_name hI109 (aq_19 hq _) (fun v124 hv125 hl126 hh127 => ?_)
                refine j_goto (tgt := 61) hX dX8_start_57 (by decide) ?_
                refine j_iast hX (by omega) (by omega) (sc_k2 hs) (by omega) (by omega) (by omega) (by omega) dX8_start_61 ?_
                refine j_up hI109 (sc_n hs _) (by omega) (by omega) (Or.inl (by omega)) (fun M128 w129 hw130 hM131 hI132 hf133 => ?_)
                have hV134 := VQ_up hV111 hM131 (by omega)
                have hk135 := kp_up hM131 (by omega) hk112
                have hF136 := Fr.put hF113 hM131 (by omega)
                have hP2 : Vp (x2 + 1) nr s M128 := Vp_keep hP1 (fun b => by rw [hM131]; exact up_ne (by omega))
                refine j_iinc (lv' := [(2, _), (3, _), (0, _), (1, _)]) hX dX8_start_62 3 rfl (by rw [hnL]; decide) rfl ?_
                refine j_goto (tgt := 2) hX dX8_start_65 (by decide) ?_
                refine j_sub [2, 3, 0] rfl ?_
                exact ih _ _ (by omega) hI132 hF136 hk135 hV134 (by first | assumption | omega) (by first | exact Vp_0 | assumption) (by omega) (by omega)
          · skip
            refine j_iconst hX dX8_start_16 ?_
            refine j_goto (tgt := 21) hX dX8_start_17 (by decide) ?_
            refine j_istore_n (lv' := [(3, _), (0, _), (1, _), (2, _)]) hX dX8_start_21 rfl (by rw [hnL]; decide) rfl ?_
            refine j_aload_n hX dX8_start_22 rfl 1 rfl ?_
            refine gf_X8_9 hX (by omega) (by omega) (sc_k0 hs) (sc_f0 hI hs) (by omega) dX8_start_23 ?_
            refine j_iload_n hX dX8_start_26 rfl 3 rfl ?_
            refine j_iload_n hX dX8_start_27 rfl 0 rfl ?_
            refine j_if_eq (tgt := 40) hX dX8_start_28 (by decide) (by omega) (fun hc137 => ?_) (fun hc137 => ?_)
            · skip
              refine j_iconst hX dX8_start_40 ?_
              refine j_iast hX (by omega) (by omega) (sc_k1 hs) (by omega) (by omega) (by omega) (by omega) dX8_start_41 ?_
              refine j_up hI (sc_w hs _) (by omega) (by omega) (Or.inl (by omega)) (fun M138 w139 hw140 hM141 hI142 hf143 => ?_)
              have hV144 := VQ_up hV_0 hM141 (by omega)
              have hk145 := kp_up hM141 (by omega) hk_0
              have hF146 := Fr.put hF hM141 (by omega)
              have hP1 := Vp_put h3 hM141 (by omega)
              refine j_aload_n hX dX8_start_42 rfl 1 rfl ?_
              refine gf_X8_15 hX (by omega) (by omega) (sc_k0 hs) (sc_f1 hI142 hs) (by omega) dX8_start_43 ?_
              refine j_iload_n hX dX8_start_46 rfl 3 rfl ?_
              refine j_iload_n hX dX8_start_47 rfl 0 rfl ?_
              refine j_if_eq (tgt := 60) hX dX8_start_48 (by decide) (by omega) (fun hc147 => ?_) (fun hc147 => ?_)
              · skip
                refine j_iconst hX dX8_start_60 ?_
                refine j_iast hX (by omega) (by omega) (sc_k2 hs) (by omega) (by omega) (by omega) (by omega) dX8_start_61 ?_
                refine j_up hI142 (sc_n hs _) (by omega) (by omega) (Or.inl (by omega)) (fun M148 w149 hw150 hM151 hI152 hf153 => ?_)
                have hV154 := VQ_up hV144 hM151 (by omega)
                have hk155 := kp_up hM151 (by omega) hk145
                have hF156 := Fr.put hF146 hM151 (by omega)
                have hP2 : Vp (x2 + 1) nr s M148 := Vp_keep hP1 (fun b => by rw [hM151]; exact up_ne (by omega))
                refine j_iinc (lv' := [(2, _), (3, _), (0, _), (1, _)]) hX dX8_start_62 3 rfl (by rw [hnL]; decide) rfl ?_
                refine j_goto (tgt := 2) hX dX8_start_65 (by decide) ?_
                refine j_sub [2, 3, 0] rfl ?_
                exact ih _ _ (by omega) hI152 hF156 hk155 hV154 (by first | assumption | omega) (by first | exact Vp_0 | assumption) (by omega) (by omega)
              · skip
                refine j_aload_n hX dX8_start_51 rfl 2 rfl ?_
                refine gf_X8_37 hX (by omega) (by omega) (kq hq) (fq_18 hI142 hq) (by omega) dX8_start_52 ?_
                refine j_iload_n hX dX8_start_55 rfl 3 rfl ?_
                refine j_iald hX (by omega) (by omega) (kq_19 hq) (by omega) (by omega) (by omega) dX8_start_56 ?_
                refine j_name hI142 (aq_19 hq _) (fun v157 hv158 hl159 hh160 => ?_)
                refine j_goto (tgt := 61) hX dX8_start_57 (by decide) ?_
                refine j_iast hX (by omega) (by omega) (sc_k2 hs) (by omega) (by omega) (by omega) (by omega) dX8_start_61 ?_
                refine j_up hI142 (sc_n hs _) (by omega) (by omega) (Or.inl (by omega)) (fun M161 w162 hw163 hM164 hI165 hf166 => ?_)
                have hV167 := VQ_up hV144 hM164 (by omega)
                have hk168 := kp_up hM164 (by omega) hk145
                have hF169 := Fr.put hF146 hM164 (by omega)
                have hP2 : Vp (x2 + 1) nr s M161 := Vp_keep hP1 (fun b => by rw [hM164]; exact up_ne (by omega))
                refine j_iinc (lv' := [(2, _), (3, _), (0, _), (1, _)]) hX dX8_start_62 3 rfl (by rw [hnL]; decide) rfl ?_
                refine j_goto (tgt := 2) hX dX8_start_65 (by decide) ?_
                refine j_sub [2, 3, 0] rfl ?_
                exact ih _ _ (by omega) hI165 hF169 hk168 hV167 (by first | assumption | omega) (by first | exact Vp_0 | assumption) (by omega) (by omega)
            · skip
              refine j_aload_n hX dX8_start_31 rfl 2 rfl ?_
              refine gf_X8_36 hX (by omega) (by omega) (kq hq) (fq_10 hI hq) (by omega) dX8_start_32 ?_
              refine j_iload_n hX dX8_start_35 rfl 3 rfl ?_
              refine j_iald hX (by omega) (by omega) (kq_6 hq) (by omega) (by omega) (by omega) dX8_start_36 ?_
              refine j_name hI (aq_6 hq _) (fun v170 hv171 hl172 hh173 => ?_)
              have hva174 := VQ_at hV_0 hv171 (by omega)
              refine j_goto (tgt := 41) hX dX8_start_37 (by decide) ?_
              refine j_iast hX (by omega) (by omega) (sc_k1 hs) (by omega) (by omega) (by omega) (by omega) dX8_start_41 ?_
              refine j_up hI (sc_w hs _) (by omega) (by omega) (Or.inl (by omega)) (fun M175 w176 hw177 hM178 hI179 hf180 => ?_)
              have hV181 := VQ_up hV_0 hM178 (by omega)
              have hk182 := kp_up hM178 (by omega) hk_0
              have hF183 := Fr.put hF hM178 (by omega)
              have hP1 := Vp_put h3 hM178 (by omega)
              refine j_aload_n hX dX8_start_42 rfl 1 rfl ?_
              refine gf_X8_15 hX (by omega) (by omega) (sc_k0 hs) (sc_f1 hI179 hs) (by omega) dX8_start_43 ?_
              refine j_iload_n hX dX8_start_46 rfl 3 rfl ?_
              refine j_iload_n hX dX8_start_47 rfl 0 rfl ?_
              refine j_if_eq (tgt := 60) hX dX8_start_48 (by decide) (by omega) (fun hc184 => ?_) (fun hc184 => ?_)
              · skip
                refine j_iconst hX dX8_start_60 ?_
                refine j_iast hX (by omega) (by omega) (sc_k2 hs) (by omega) (by omega) (by omega) (by omega) dX8_start_61 ?_
                refine j_up hI179 (sc_n hs _) (by omega) (by omega) (Or.inl (by omega)) (fun M185 w186 hw187 hM188 hI189 hf190 => ?_)
                have hV191 := VQ_up hV181 hM188 (by omega)
                have hk192 := kp_up hM188 (by omega) hk182
                have hF193 := Fr.put hF183 hM188 (by omega)
                have hP2 : Vp (x2 + 1) nr s M185 := Vp_keep hP1 (fun b => by rw [hM188]; exact up_ne (by omega))
                refine j_iinc (lv' := [(2, _), (3, _), (0, _), (1, _)]) hX dX8_start_62 3 rfl (by rw [hnL]; decide) rfl ?_
                refine j_goto (tgt := 2) hX dX8_start_65 (by decide) ?_
                refine j_sub [2, 3, 0] rfl ?_
                exact ih _ _ (by omega) hI189 hF193 hk192 hV191 (by first | assumption | omega) (by first | exact Vp_0 | assumption) (by omega) (by omega)
              · skip
                refine j_aload_n hX dX8_start_51 rfl 2 rfl ?_
                refine gf_X8_37 hX (by omega) (by omega) (kq hq) (fq_18 hI179 hq) (by omega) dX8_start_52 ?_
                refine j_iload_n hX dX8_start_55 rfl 3 rfl ?_
                refine j_iald hX (by omega) (by omega) (kq_19 hq) (by omega) (by omega) (by omega) dX8_start_56 ?_
                refine j_name hI179 (aq_19 hq _) (fun v194 hv195 hl196 hh197 => ?_)
                refine j_goto (tgt := 61) hX dX8_start_57 (by decide) ?_
                refine j_iast hX (by omega) (by omega) (sc_k2 hs) (by omega) (by omega) (by omega) (by omega) dX8_start_61 ?_
                refine j_up hI179 (sc_n hs _) (by omega) (by omega) (Or.inl (by omega)) (fun M198 w199 hw200 hM201 hI202 hf203 => ?_)
                have hV204 := VQ_up hV181 hM201 (by omega)
                have hk205 := kp_up hM201 (by omega) hk182
                have hF206 := Fr.put hF183 hM201 (by omega)
                have hP2 : Vp (x2 + 1) nr s M198 := Vp_keep hP1 (fun b => by rw [hM201]; exact up_ne (by omega))
                refine j_iinc (lv' := [(2, _), (3, _), (0, _), (1, _)]) hX dX8_start_62 3 rfl (by rw [hnL]; decide) rfl ?_
                refine j_goto (tgt := 2) hX dX8_start_65 (by decide) ?_
                refine j_sub [2, 3, 0] rfl ?_
                exact ih _ _ (by omega) hI202 hF206 hk205 hV204 (by first | assumption | omega) (by first | exact Vp_0 | assumption) (by omega) (by omega)
  show J X B N 0 0 0 [(0, rv B s), (1, rv B q)] [] M
  refine j_iconst hX dX8_start_0 ?_
  refine j_istore_n (lv' := [(2, _), (0, _), (1, _)]) hX dX8_start_1 rfl (by rw [hnL]; decide) rfl ?_
  refine j_sub [1, 2, 0] rfl ?_
  refine (cp (Int.toNat (256 + 1))) _ _ (by omega) hI hF hnr hVQ (by first | assumption | omega) (by first | exact Vp_0 | assumption) ?_ ?_
  · omega
  · omega
set_option maxHeartbeats 2000000 in
set_option maxRecDepth 20000 in
theorem c_X8_copyFrom (l : Launch) (D : va_G) (cy : Nat → ClassId) (B N : Nat) (s : Int) (s2 : Int) (nr : Int) (M : MM) (hN : 210 ≤ N) (hI : Iv M) (hs : Sc s) (hs2 : Sc s2) (hV : V nr s2 M) : CV l D cy B N 1 yX8_copyFrom cX8_copyFrom 2 none [rv B s, rv B s2] M (fun M' => Iv M' ∧ Fr (fun a (_ : Int) => (s ≤ a ∧ a ≤ s + 2)) M M' ∧ (V nr s M')) := by
  refine mk_CV (by decide) (Nat.le_of_ble_eq_true rfl) ?_
  intro X exl exD excy hnL hX hret
  have hce : 0 + 0 ≤ (xR X).cells ∧ 0 + 0 ≤ (xR X).slots := ⟨Nat.zero_le _, Nat.zero_le _⟩
  have hbs := sc_b hs
  have hbs2 := sc_b hs2
  have hF : Fr (fun a (_ : Int) => (s ≤ a ∧ a ≤ s + 2)) M M := Fr.rf
  have hk1 : M.1 s2 3 = M.1 s2 3 := rfl
  have hh3 := hV.2
  have hap := sc_ap hs hs2
  show J X B N 0 0 0 [(0, rv B s), (1, rv B s2)] [] M
  refine j_aload_n hX dX8_copyFrom_0 rfl 1 rfl ?_
  refine gf_X8_9 hX (by omega) (by omega) (sc_k0 hs2) (sc_f0 hI hs2) (by omega) dX8_copyFrom_1 ?_
  refine j_iconst hX dX8_copyFrom_4 ?_
  refine j_aload_n hX dX8_copyFrom_5 rfl 0 rfl ?_
  refine gf_X8_9 hX (by omega) (by omega) (sc_k0 hs) (sc_f0 hI hs) (by omega) dX8_copyFrom_6 ?_
  refine j_iconst hX dX8_copyFrom_9 ?_
  refine j_bipush hX dX8_copyFrom_10 rfl ?_
  refine j_copy hX (in_4 110 (by first | rfl | decide +kernel) rfl) (by omega) (by omega) (sc_k1 hs2) (by omega) (by omega) (sc_k1 hs) (by omega) (by omega) (by omega) (by omega) (by omega) (by decide) (Nat.le_of_ble_eq_true rfl) dX8_copyFrom_12 ?_
  refine j_cp hI (fun b => (sc_w hs2 b)) (fun b => (sc_w hs b)) (by omega) (by omega) (by omega) (fun M2 hM3 hI4 => ?_)
  have hG5 := fr_cp hM3
  have hk6 := kp_fr hG5 (by omega) hk1
  have hF7 := Fr.trans hF hG5 (fun a b h => by omega)
  have hE : ∀ r, 0 ≤ r → r < 6 → M2.1 (s + 1) r = M.1 (s2 + 1) r := fun r h0 h1 => cp_at hM3 h0 h1
  have hV8 : VR nr s M2 := VR_copy hV.1 hE
  refine j_aload_n hX dX8_copyFrom_15 rfl 1 rfl ?_
  refine gf_X8_15 hX (by omega) (by omega) (sc_k0 hs2) (sc_f1 hI4 hs2) (by omega) dX8_copyFrom_16 ?_
  refine j_iconst hX dX8_copyFrom_19 ?_
  refine j_aload_n hX dX8_copyFrom_20 rfl 0 rfl ?_
  refine gf_X8_15 hX (by omega) (by omega) (sc_k0 hs) (sc_f1 hI4 hs) (by omega) dX8_copyFrom_21 ?_
  refine j_iconst hX dX8_copyFrom_24 ?_
  refine j_bipush hX dX8_copyFrom_25 rfl ?_
  refine j_copy hX (in_4 110 (by first | rfl | decide +kernel) rfl) (by omega) (by omega) (sc_k2 hs2) (by omega) (by omega) (sc_k2 hs) (by omega) (by omega) (by omega) (by omega) (by omega) (by decide) (Nat.le_of_ble_eq_true rfl) dX8_copyFrom_27 ?_
  refine j_cp hI4 (fun b => (sc_n hs2 b)) (fun b => (sc_n hs b)) (by omega) (by omega) (by omega) (fun M9 hM10 hI11 => ?_)
  have hG12 := fr_cp hM10
  have hV13 := VR_fr hV8 hG12 (fun b => by omega)
  have hk14 := kp_fr hG12 (by omega) hk6
  have hF15 := Fr.trans hF7 hG12 (fun a b h => by omega)
  refine j_aload_n hX dX8_copyFrom_30 rfl 0 rfl ?_
  refine j_aload_n hX dX8_copyFrom_31 rfl 1 rfl ?_
  refine gf_X8_18 hX (by omega) (by omega) (sc_k0 hs2) dX8_copyFrom_32 ?_
  refine j_name hI11 (sc_r2 hs2) (fun v16 hv17 hl18 hh19 => ?_)
  have hk20 := hv17.symm
  refine pf_X8_18 hX (by omega) (by omega) (sc_k0 hs) (by omega) dX8_copyFrom_35 ?_
  refine j_up hI11 (sc_r2 hs) (by omega) (by omega) (Or.inl (by omega)) (fun M21 w22 hw23 hM24 hI25 hf26 => ?_)
  have hV27 := VR_up hV13 hM24 (by omega)
  have hk28 := kp_up hM24 (by omega) hk14
  have hF29 := Fr.put hF15 hM24 (by omega)
  refine j_aload_n hX dX8_copyFrom_38 rfl 0 rfl ?_
  refine j_aload_n hX dX8_copyFrom_39 rfl 1 rfl ?_
  refine gf_X8_22 hX (by omega) (by omega) (sc_k0 hs2) dX8_copyFrom_40 ?_
  refine j_name hI25 (sc_r3 hs2) (fun v30 hv31 hl32 hh33 => ?_)
  have hk34 := hv31.symm
  refine pf_X8_22 hX (by omega) (by omega) (sc_k0 hs) (by omega) dX8_copyFrom_43 ?_
  refine j_up hI25 (sc_r3 hs) (by omega) (by omega) (Or.inl (by omega)) (fun M35 w36 hw37 hM38 hI39 hf40 => ?_)
  have hV41 := VR_up hV27 hM38 (by omega)
  have hk42 := kp_up hM38 (fun h => absurd h.2 (by decide)) hf26
  have hF43 := Fr.put hF29 hM38 (by omega)
  refine j_aload_n hX dX8_copyFrom_46 rfl 0 rfl ?_
  refine j_aload_n hX dX8_copyFrom_47 rfl 1 rfl ?_
  refine gf_X8_25 hX (by omega) (by omega) (sc_k0 hs2) dX8_copyFrom_48 ?_
  refine j_name hI39 (sc_r4 hs2) (fun v44 hv45 hl46 hh47 => ?_)
  have hk48 := hv45.symm
  refine pf_X8_25 hX (by omega) (by omega) (sc_k0 hs) (by omega) dX8_copyFrom_51 ?_
  refine j_up hI39 (sc_r4 hs) (by omega) (by omega) (Or.inl (by omega)) (fun M49 w50 hw51 hM52 hI53 hf54 => ?_)
  have hV55 := VR_up hV41 hM52 (by omega)
  have hk56 := kp_up hM52 (fun h => absurd h.2 (by decide)) hk42
  have hk57 := kp_up hM52 (fun h => absurd h.2 (by decide)) hf40
  have hF58 := Fr.put hF43 hM52 (by omega)
  refine j_aload_n hX dX8_copyFrom_54 rfl 0 rfl ?_
  refine j_aload_n hX dX8_copyFrom_55 rfl 1 rfl ?_
  refine gf_X8_28 hX (by omega) (by omega) (sc_k0 hs2) dX8_copyFrom_56 ?_
  refine j_name hI53 (sc_r5 hs2) (fun v59 hv60 hl61 hh62 => ?_)
  have hk63 := hv60.symm
  refine pf_X8_28 hX (by omega) (by omega) (sc_k0 hs) (by omega) dX8_copyFrom_59 ?_
  refine j_up hI53 (sc_r5 hs) (by omega) (by omega) (Or.inl (by omega)) (fun M64 w65 hw66 hM67 hI68 hf69 => ?_)
  have hV70 := VR_up hV55 hM67 (by omega)
  have hk71 := kp_up hM67 (fun h => absurd h.2 (by decide)) hk56
  have hk72 := kp_up hM67 (fun h => absurd h.2 (by decide)) hk57
  have hk73 := kp_up hM67 (fun h => absurd h.2 (by decide)) hf54
  have hF74 := Fr.put hF58 hM67 (by omega)
  exact hret _ _ _ dX8_copyFrom_62 ⟨hI68, hF74, ⟨by assumption, by omega⟩⟩
