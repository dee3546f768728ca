theorem dX11_rowsOfRooms_0 : decode cX11_rowsOfRooms 0 = .ok (.iconst 1, 1) := by decide +kernel
theorem dX11_rowsOfRooms_1 : decode cX11_rowsOfRooms 1 = .ok (.istore_n 1, 1) := by decide +kernel
theorem dX11_rowsOfRooms_2 : decode cX11_rowsOfRooms 2 = .ok (.iconst 0, 1) := by decide +kernel
theorem dX11_rowsOfRooms_3 : decode cX11_rowsOfRooms 3 = .ok (.istore_n 2, 1) := by decide +kernel
theorem dX11_rowsOfRooms_4 : decode cX11_rowsOfRooms 4 = .ok (.iload_n 2, 1) := by decide +kernel
theorem dX11_rowsOfRooms_5 : decode cX11_rowsOfRooms 5 = .ok (.aload_n 0, 1) := by decide +kernel
theorem dX11_rowsOfRooms_6 : decode cX11_rowsOfRooms 6 = .ok (.invokevirtual 385, 3) := by decide +kernel
theorem dX11_rowsOfRooms_9 : decode cX11_rowsOfRooms 9 = .ok (.if_icmp .ge 16, 3) := by decide +kernel
theorem dX11_rowsOfRooms_12 : decode cX11_rowsOfRooms 12 = .ok (.iload_n 1, 1) := by decide +kernel
theorem dX11_rowsOfRooms_13 : decode cX11_rowsOfRooms 13 = .ok (.aload_n 0, 1) := by decide +kernel
theorem dX11_rowsOfRooms_14 : decode cX11_rowsOfRooms 14 = .ok (.invokevirtual 385, 3) := by decide +kernel
theorem dX11_rowsOfRooms_17 : decode cX11_rowsOfRooms 17 = .ok (.imul, 1) := by decide +kernel
theorem dX11_rowsOfRooms_18 : decode cX11_rowsOfRooms 18 = .ok (.istore_n 1, 1) := by decide +kernel
theorem dX11_rowsOfRooms_19 : decode cX11_rowsOfRooms 19 = .ok (.iinc 2 1, 3) := by decide +kernel
theorem dX11_rowsOfRooms_22 : decode cX11_rowsOfRooms 22 = .ok (.goto (-18), 3) := by decide +kernel
theorem dX11_rowsOfRooms_25 : decode cX11_rowsOfRooms 25 = .ok (.iload_n 1, 1) := by decide +kernel
theorem dX11_rowsOfRooms_26 : decode cX11_rowsOfRooms 26 = .ok (.ireturn, 1) := by decide +kernel
theorem dX11_layLot_0 : decode cX11_layLot 0 = .ok (.iload_n 1, 1) := by decide +kernel
theorem dX11_layLot_1 : decode cX11_layLot 1 = .ok (.istore_n 2, 1) := by decide +kernel
theorem dX11_layLot_2 : decode cX11_layLot 2 = .ok (.iconst 0, 1) := by decide +kernel
theorem dX11_layLot_3 : decode cX11_layLot 3 = .ok (.istore_n 3, 1) := by decide +kernel
theorem dX11_layLot_4 : decode cX11_layLot 4 = .ok (.aload_n 0, 1) := by decide +kernel
theorem dX11_layLot_5 : decode cX11_layLot 5 = .ok (.invokevirtual 385, 3) := by decide +kernel
theorem dX11_layLot_8 : decode cX11_layLot 8 = .ok (.iconst 1, 1) := by decide +kernel
theorem dX11_layLot_9 : decode cX11_layLot 9 = .ok (.isub, 1) := by decide +kernel
theorem dX11_layLot_10 : decode cX11_layLot 10 = .ok (.istore 4, 2) := by decide +kernel
theorem dX11_layLot_12 : decode cX11_layLot 12 = .ok (.iload 4, 2) := by decide +kernel
theorem dX11_layLot_14 : decode cX11_layLot 14 = .ok (.ifCond .lt 41, 3) := by decide +kernel
theorem dX11_layLot_17 : decode cX11_layLot 17 = .ok (.aload_n 0, 1) := by decide +kernel
theorem dX11_layLot_18 : decode cX11_layLot 18 = .ok (.getfield 128, 3) := by decide +kernel
theorem dX11_layLot_21 : decode cX11_layLot 21 = .ok (.iload 4, 2) := by decide +kernel
theorem dX11_layLot_23 : decode cX11_layLot 23 = .ok (.iload_n 2, 1) := by decide +kernel
theorem dX11_layLot_24 : decode cX11_layLot 24 = .ok (.aload_n 0, 1) := by decide +kernel
theorem dX11_layLot_25 : decode cX11_layLot 25 = .ok (.invokevirtual 385, 3) := by decide +kernel
theorem dX11_layLot_28 : decode cX11_layLot 28 = .ok (.irem, 1) := by decide +kernel
theorem dX11_layLot_29 : decode cX11_layLot 29 = .ok (.iastore, 1) := by decide +kernel
theorem dX11_layLot_30 : decode cX11_layLot 30 = .ok (.iload_n 2, 1) := by decide +kernel
theorem dX11_layLot_31 : decode cX11_layLot 31 = .ok (.aload_n 0, 1) := by decide +kernel
theorem dX11_layLot_32 : decode cX11_layLot 32 = .ok (.invokevirtual 385, 3) := by decide +kernel
theorem dX11_layLot_35 : decode cX11_layLot 35 = .ok (.idiv, 1) := by decide +kernel
theorem dX11_layLot_36 : decode cX11_layLot 36 = .ok (.istore_n 2, 1) := by decide +kernel
theorem dX11_layLot_37 : decode cX11_layLot 37 = .ok (.iload_n 3, 1) := by decide +kernel
theorem dX11_layLot_38 : decode cX11_layLot 38 = .ok (.iconst 1, 1) := by decide +kernel
theorem dX11_layLot_39 : decode cX11_layLot 39 = .ok (.aload_n 0, 1) := by decide +kernel
theorem dX11_layLot_40 : decode cX11_layLot 40 = .ok (.getfield 128, 3) := by decide +kernel
theorem dX11_layLot_43 : decode cX11_layLot 43 = .ok (.iload 4, 2) := by decide +kernel
theorem dX11_layLot_45 : decode cX11_layLot 45 = .ok (.iaload, 1) := by decide +kernel
theorem dX11_layLot_46 : decode cX11_layLot 46 = .ok (.ishl, 1) := by decide +kernel
theorem dX11_layLot_47 : decode cX11_layLot 47 = .ok (.ior, 1) := by decide +kernel
theorem dX11_layLot_48 : decode cX11_layLot 48 = .ok (.istore_n 3, 1) := by decide +kernel
theorem dX11_layLot_49 : decode cX11_layLot 49 = .ok (.iinc 4 (-1), 3) := by decide +kernel
theorem dX11_layLot_52 : decode cX11_layLot 52 = .ok (.goto (-40), 3) := by decide +kernel
theorem dX11_layLot_55 : decode cX11_layLot 55 = .ok (.iload_n 3, 1) := by decide +kernel
theorem dX11_layLot_56 : decode cX11_layLot 56 = .ok (.iconst 1, 1) := by decide +kernel
theorem dX11_layLot_57 : decode cX11_layLot 57 = .ok (.aload_n 0, 1) := by decide +kernel
theorem dX11_layLot_58 : decode cX11_layLot 58 = .ok (.invokevirtual 385, 3) := by decide +kernel
theorem dX11_layLot_61 : decode cX11_layLot 61 = .ok (.ishl, 1) := by decide +kernel
theorem dX11_layLot_62 : decode cX11_layLot 62 = .ok (.iconst 1, 1) := by decide +kernel
theorem dX11_layLot_63 : decode cX11_layLot 63 = .ok (.isub, 1) := by decide +kernel
theorem dX11_layLot_64 : decode cX11_layLot 64 = .ok (.if_icmp .ne 7, 3) := by decide +kernel
theorem dX11_layLot_67 : decode cX11_layLot 67 = .ok (.iconst 1, 1) := by decide +kernel
theorem dX11_layLot_68 : decode cX11_layLot 68 = .ok (.goto 4, 3) := by decide +kernel
theorem dX11_layLot_71 : decode cX11_layLot 71 = .ok (.iconst 0, 1) := by decide +kernel
theorem dX11_layLot_72 : decode cX11_layLot 72 = .ok (.ireturn, 1) := by decide +kernel
theorem dX11_doAimsHold_0 : decode cX11_doAimsHold 0 = .ok (.iconst 0, 1) := by decide +kernel
theorem dX11_doAimsHold_1 : decode cX11_doAimsHold 1 = .ok (.istore_n 1, 1) := by decide +kernel
theorem dX11_doAimsHold_2 : decode cX11_doAimsHold 2 = .ok (.iload_n 1, 1) := by decide +kernel
theorem dX11_doAimsHold_3 : decode cX11_doAimsHold 3 = .ok (.aload_n 0, 1) := by decide +kernel
theorem dX11_doAimsHold_4 : decode cX11_doAimsHold 4 = .ok (.invokevirtual 385, 3) := by decide +kernel
theorem dX11_doAimsHold_7 : decode cX11_doAimsHold 7 = .ok (.if_icmp .ge 35, 3) := by decide +kernel
theorem dX11_doAimsHold_10 : decode cX11_doAimsHold 10 = .ok (.aload_n 0, 1) := by decide +kernel
theorem dX11_doAimsHold_11 : decode cX11_doAimsHold 11 = .ok (.getfield 125, 3) := by decide +kernel
theorem dX11_doAimsHold_14 : decode cX11_doAimsHold 14 = .ok (.iload_n 1, 1) := by decide +kernel
theorem dX11_doAimsHold_15 : decode cX11_doAimsHold 15 = .ok (.iaload, 1) := by decide +kernel
theorem dX11_doAimsHold_16 : decode cX11_doAimsHold 16 = .ok (.ifCond .lt 20, 3) := by decide +kernel
theorem dX11_doAimsHold_19 : decode cX11_doAimsHold 19 = .ok (.aload_n 0, 1) := by decide +kernel
theorem dX11_doAimsHold_20 : decode cX11_doAimsHold 20 = .ok (.getfield 128, 3) := by decide +kernel
theorem dX11_doAimsHold_23 : decode cX11_doAimsHold 23 = .ok (.iload_n 1, 1) := by decide +kernel
theorem dX11_doAimsHold_24 : decode cX11_doAimsHold 24 = .ok (.iaload, 1) := by decide +kernel
theorem dX11_doAimsHold_25 : decode cX11_doAimsHold 25 = .ok (.aload_n 0, 1) := by decide +kernel
theorem dX11_doAimsHold_26 : decode cX11_doAimsHold 26 = .ok (.getfield 125, 3) := by decide +kernel
theorem dX11_doAimsHold_29 : decode cX11_doAimsHold 29 = .ok (.iload_n 1, 1) := by decide +kernel
theorem dX11_doAimsHold_30 : decode cX11_doAimsHold 30 = .ok (.iaload, 1) := by decide +kernel
theorem dX11_doAimsHold_31 : decode cX11_doAimsHold 31 = .ok (.if_icmp .eq 5, 3) := by decide +kernel
theorem dX11_doAimsHold_34 : decode cX11_doAimsHold 34 = .ok (.iconst 0, 1) := by decide +kernel
theorem dX11_doAimsHold_35 : decode cX11_doAimsHold 35 = .ok (.ireturn, 1) := by decide +kernel
theorem dX11_doAimsHold_36 : decode cX11_doAimsHold 36 = .ok (.iinc 1 1, 3) := by decide +kernel
theorem dX11_doAimsHold_39 : decode cX11_doAimsHold 39 = .ok (.goto (-37), 3) := by decide +kernel
theorem dX11_doAimsHold_42 : decode cX11_doAimsHold 42 = .ok (.iconst 1, 1) := by decide +kernel
theorem dX11_doAimsHold_43 : decode cX11_doAimsHold 43 = .ok (.ireturn, 1) := by decide +kernel
theorem dX11_wantsInRow_0 : decode cX11_wantsInRow 0 = .ok (.iconst 0, 1) := by decide +kernel
theorem dX11_wantsInRow_1 : decode cX11_wantsInRow 1 = .ok (.istore_n 1, 1) := by decide +kernel
theorem dX11_wantsInRow_2 : decode cX11_wantsInRow 2 = .ok (.iconst 0, 1) := by decide +kernel
theorem dX11_wantsInRow_3 : decode cX11_wantsInRow 3 = .ok (.istore_n 2, 1) := by decide +kernel
theorem dX11_wantsInRow_4 : decode cX11_wantsInRow 4 = .ok (.iload_n 2, 1) := by decide +kernel
theorem dX11_wantsInRow_5 : decode cX11_wantsInRow 5 = .ok (.aload_n 0, 1) := by decide +kernel
theorem dX11_wantsInRow_6 : decode cX11_wantsInRow 6 = .ok (.invokevirtual 385, 3) := by decide +kernel
theorem dX11_wantsInRow_9 : decode cX11_wantsInRow 9 = .ok (.if_icmp .ge 23, 3) := by decide +kernel
theorem dX11_wantsInRow_12 : decode cX11_wantsInRow 12 = .ok (.iload_n 1, 1) := by decide +kernel
theorem dX11_wantsInRow_13 : decode cX11_wantsInRow 13 = .ok (.aload_n 0, 1) := by decide +kernel
theorem dX11_wantsInRow_14 : decode cX11_wantsInRow 14 = .ok (.iload_n 2, 1) := by decide +kernel
theorem dX11_wantsInRow_15 : decode cX11_wantsInRow 15 = .ok (.aload_n 0, 1) := by decide +kernel
theorem dX11_wantsInRow_16 : decode cX11_wantsInRow 16 = .ok (.getfield 128, 3) := by decide +kernel
theorem dX11_wantsInRow_19 : decode cX11_wantsInRow 19 = .ok (.iload_n 2, 1) := by decide +kernel
theorem dX11_wantsInRow_20 : decode cX11_wantsInRow 20 = .ok (.iaload, 1) := by decide +kernel
theorem dX11_wantsInRow_21 : decode cX11_wantsInRow 21 = .ok (.invokevirtual 375, 3) := by decide +kernel
theorem dX11_wantsInRow_24 : decode cX11_wantsInRow 24 = .ok (.iadd, 1) := by decide +kernel
theorem dX11_wantsInRow_25 : decode cX11_wantsInRow 25 = .ok (.istore_n 1, 1) := by decide +kernel
theorem dX11_wantsInRow_26 : decode cX11_wantsInRow 26 = .ok (.iinc 2 1, 3) := by decide +kernel
theorem dX11_wantsInRow_29 : decode cX11_wantsInRow 29 = .ok (.goto (-25), 3) := by decide +kernel
theorem dX11_wantsInRow_32 : decode cX11_wantsInRow 32 = .ok (.iload_n 1, 1) := by decide +kernel
theorem dX11_wantsInRow_33 : decode cX11_wantsInRow 33 = .ok (.ireturn, 1) := by decide +kernel
theorem dX11_layRow_0 : decode cX11_layRow 0 = .ok (.iconst 0, 1) := by decide +kernel
theorem dX11_layRow_1 : decode cX11_layRow 1 = .ok (.istore_n 1, 1) := by decide +kernel
theorem dX11_layRow_2 : decode cX11_layRow 2 = .ok (.iload_n 1, 1) := by decide +kernel
theorem dX11_layRow_3 : decode cX11_layRow 3 = .ok (.aload_n 0, 1) := by decide +kernel
theorem dX11_layRow_4 : decode cX11_layRow 4 = .ok (.invokevirtual 385, 3) := by decide +kernel
theorem dX11_layRow_7 : decode cX11_layRow 7 = .ok (.if_icmp .ge 21, 3) := by decide +kernel
theorem dX11_layRow_10 : decode cX11_layRow 10 = .ok (.aload_n 0, 1) := by decide +kernel
theorem dX11_layRow_11 : decode cX11_layRow 11 = .ok (.getfield 122, 3) := by decide +kernel
theorem dX11_layRow_14 : decode cX11_layRow 14 = .ok (.iload_n 1, 1) := by decide +kernel
theorem dX11_layRow_15 : decode cX11_layRow 15 = .ok (.aload_n 0, 1) := by decide +kernel
theorem dX11_layRow_16 : decode cX11_layRow 16 = .ok (.getfield 128, 3) := by decide +kernel
theorem dX11_layRow_19 : decode cX11_layRow 19 = .ok (.iload_n 1, 1) := by decide +kernel
theorem dX11_layRow_20 : decode cX11_layRow 20 = .ok (.iaload, 1) := by decide +kernel
theorem dX11_layRow_21 : decode cX11_layRow 21 = .ok (.iastore, 1) := by decide +kernel
theorem dX11_layRow_22 : decode cX11_layRow 22 = .ok (.iinc 1 1, 3) := by decide +kernel
theorem dX11_layRow_25 : decode cX11_layRow 25 = .ok (.goto (-23), 3) := by decide +kernel
theorem dX11_layRow_28 : decode cX11_layRow 28 = .ok (.aload_n 0, 1) := by decide +kernel
theorem dX11_layRow_29 : decode cX11_layRow 29 = .ok (.aload_n 0, 1) := by decide +kernel
theorem dX11_layRow_30 : decode cX11_layRow 30 = .ok (.invokevirtual 385, 3) := by decide +kernel
theorem dX11_layRow_33 : decode cX11_layRow 33 = .ok (.putfield 404, 3) := by decide +kernel
theorem dX11_layRow_36 : decode cX11_layRow 36 = .ok (.return_, 1) := by decide +kernel
theorem dX11_liked_0 : decode cX11_liked 0 = .ok (.iconst 0, 1) := by decide +kernel
theorem dX11_liked_1 : decode cX11_liked 1 = .ok (.istore_n 1, 1) := by decide +kernel
theorem dX11_liked_2 : decode cX11_liked 2 = .ok (.iconst 0, 1) := by decide +kernel
theorem dX11_liked_3 : decode cX11_liked 3 = .ok (.istore_n 2, 1) := by decide +kernel
theorem dX11_liked_4 : decode cX11_liked 4 = .ok (.iload_n 2, 1) := by decide +kernel
theorem dX11_liked_5 : decode cX11_liked 5 = .ok (.aload_n 0, 1) := by decide +kernel
theorem dX11_liked_6 : decode cX11_liked 6 = .ok (.invokevirtual 385, 3) := by decide +kernel
theorem dX11_liked_9 : decode cX11_liked 9 = .ok (.if_icmp .ge 31, 3) := by decide +kernel
theorem dX11_liked_12 : decode cX11_liked 12 = .ok (.iload_n 1, 1) := by decide +kernel
theorem dX11_liked_13 : decode cX11_liked 13 = .ok (.aload_n 0, 1) := by decide +kernel
theorem dX11_liked_14 : decode cX11_liked 14 = .ok (.iload_n 2, 1) := by decide +kernel
theorem dX11_liked_15 : decode cX11_liked 15 = .ok (.aload_n 0, 1) := by decide +kernel
theorem dX11_liked_16 : decode cX11_liked 16 = .ok (.getfield 128, 3) := by decide +kernel
theorem dX11_liked_19 : decode cX11_liked 19 = .ok (.iload_n 2, 1) := by decide +kernel
theorem dX11_liked_20 : decode cX11_liked 20 = .ok (.iaload, 1) := by decide +kernel
theorem dX11_liked_21 : decode cX11_liked 21 = .ok (.invokevirtual 375, 3) := by decide +kernel
theorem dX11_liked_24 : decode cX11_liked 24 = .ok (.ifCond .le 7, 3) := by decide +kernel
theorem dX11_liked_27 : decode cX11_liked 27 = .ok (.iconst 1, 1) := by decide +kernel
theorem dX11_liked_28 : decode cX11_liked 28 = .ok (.goto 4, 3) := by decide +kernel
theorem dX11_liked_31 : decode cX11_liked 31 = .ok (.iconst 0, 1) := by decide +kernel
theorem dX11_liked_32 : decode cX11_liked 32 = .ok (.iadd, 1) := by decide +kernel
theorem dX11_liked_33 : decode cX11_liked 33 = .ok (.istore_n 1, 1) := by decide +kernel
theorem dX11_liked_34 : decode cX11_liked 34 = .ok (.iinc 2 1, 3) := by decide +kernel
theorem dX11_liked_37 : decode cX11_liked 37 = .ok (.goto (-33), 3) := by decide +kernel
theorem dX11_liked_40 : decode cX11_liked 40 = .ok (.iload_n 1, 1) := by decide +kernel
theorem dX11_liked_41 : decode cX11_liked 41 = .ok (.ireturn, 1) := by decide +kernel
theorem dX11_best_0 : decode cX11_best 0 = .ok (.iconst (-1), 1) := by decide +kernel
theorem dX11_best_1 : decode cX11_best 1 = .ok (.istore_n 1, 1) := by decide +kernel
theorem dX11_best_2 : decode cX11_best 2 = .ok (.iconst 0, 1) := by decide +kernel
theorem dX11_best_3 : decode cX11_best 3 = .ok (.istore_n 2, 1) := by decide +kernel
theorem dX11_best_4 : decode cX11_best 4 = .ok (.iload_n 2, 1) := by decide +kernel
theorem dX11_best_5 : decode cX11_best 5 = .ok (.aload_n 0, 1) := by decide +kernel
theorem dX11_best_6 : decode cX11_best 6 = .ok (.invokevirtual 459, 3) := by decide +kernel
theorem dX11_best_9 : decode cX11_best 9 = .ok (.if_icmp .ge 41, 3) := by decide +kernel
theorem dX11_best_12 : decode cX11_best 12 = .ok (.aload_n 0, 1) := by decide +kernel
theorem dX11_best_13 : decode cX11_best 13 = .ok (.iload_n 2, 1) := by decide +kernel
theorem dX11_best_14 : decode cX11_best 14 = .ok (.invokevirtual 462, 3) := by decide +kernel
theorem dX11_best_17 : decode cX11_best 17 = .ok (.ifCond .eq 27, 3) := by decide +kernel
theorem dX11_best_20 : decode cX11_best 20 = .ok (.iload_n 1, 1) := by decide +kernel
theorem dX11_best_21 : decode cX11_best 21 = .ok (.ifCond .lt 14, 3) := by decide +kernel
theorem dX11_best_24 : decode cX11_best 24 = .ok (.aload_n 0, 1) := by decide +kernel
theorem dX11_best_25 : decode cX11_best 25 = .ok (.invokevirtual 474, 3) := by decide +kernel
theorem dX11_best_28 : decode cX11_best 28 = .ok (.iload_n 1, 1) := by decide +kernel
theorem dX11_best_29 : decode cX11_best 29 = .ok (.if_icmp .gt 6, 3) := by decide +kernel
theorem dX11_best_32 : decode cX11_best 32 = .ok (.goto 12, 3) := by decide +kernel
theorem dX11_best_35 : decode cX11_best 35 = .ok (.aload_n 0, 1) := by decide +kernel
theorem dX11_best_36 : decode cX11_best 36 = .ok (.invokevirtual 474, 3) := by decide +kernel
theorem dX11_best_39 : decode cX11_best 39 = .ok (.istore_n 1, 1) := by decide +kernel
theorem dX11_best_40 : decode cX11_best 40 = .ok (.aload_n 0, 1) := by decide +kernel
theorem dX11_best_41 : decode cX11_best 41 = .ok (.invokevirtual 471, 3) := by decide +kernel
theorem dX11_best_44 : decode cX11_best 44 = .ok (.iinc 2 1, 3) := by decide +kernel
theorem dX11_best_47 : decode cX11_best 47 = .ok (.goto (-43), 3) := by decide +kernel
theorem dX11_best_50 : decode cX11_best 50 = .ok (.iload_n 1, 1) := by decide +kernel
theorem dX11_best_51 : decode cX11_best 51 = .ok (.ireturn, 1) := by decide +kernel
theorem dX11_odds_0 : decode cX11_odds 0 = .ok (.iload_n 1, 1) := by decide +kernel
theorem dX11_odds_1 : decode cX11_odds 1 = .ok (.iconst 0, 1) := by decide +kernel
theorem dX11_odds_2 : decode cX11_odds 2 = .ok (.bipush 6, 2) := by decide +kernel
theorem dX11_odds_4 : decode cX11_odds 4 = .ok (.invokestatic 388, 3) := by decide +kernel
theorem dX11_odds_7 : decode cX11_odds 7 = .ok (.ifCond .eq 12, 3) := by decide +kernel
theorem dX11_odds_10 : decode cX11_odds 10 = .ok (.iload_n 2, 1) := by decide +kernel
theorem dX11_odds_11 : decode cX11_odds 11 = .ok (.iconst 0, 1) := by decide +kernel
theorem dX11_odds_12 : decode cX11_odds 12 = .ok (.iconst 1, 1) := by decide +kernel
theorem dX11_odds_13 : decode cX11_odds 13 = .ok (.invokestatic 388, 3) := by decide +kernel
theorem dX11_odds_16 : decode cX11_odds 16 = .ok (.ifCond .ne 5, 3) := by decide +kernel
theorem dX11_odds_19 : decode cX11_odds 19 = .ok (.iconst (-1), 1) := by decide +kernel
theorem dX11_odds_20 : decode cX11_odds 20 = .ok (.ireturn, 1) := by decide +kernel
theorem dX11_odds_21 : decode cX11_odds 21 = .ok (.iconst 0, 1) := by decide +kernel
theorem dX11_odds_22 : decode cX11_odds 22 = .ok (.istore_n 3, 1) := by decide +kernel
theorem dX11_odds_23 : decode cX11_odds 23 = .ok (.iconst 0, 1) := by decide +kernel
theorem dX11_odds_24 : decode cX11_odds 24 = .ok (.istore 4, 2) := by decide +kernel
theorem dX11_odds_26 : decode cX11_odds 26 = .ok (.iconst 0, 1) := by decide +kernel
theorem dX11_odds_27 : decode cX11_odds 27 = .ok (.istore 5, 2) := by decide +kernel
theorem dX11_odds_29 : decode cX11_odds 29 = .ok (.iload 5, 2) := by decide +kernel
theorem dX11_odds_31 : decode cX11_odds 31 = .ok (.aload_n 0, 1) := by decide +kernel
theorem dX11_odds_32 : decode cX11_odds 32 = .ok (.invokevirtual 459, 3) := by decide +kernel
theorem dX11_odds_35 : decode cX11_odds 35 = .ok (.if_icmp .ge 40, 3) := by decide +kernel
theorem dX11_odds_38 : decode cX11_odds 38 = .ok (.aload_n 0, 1) := by decide +kernel
theorem dX11_odds_39 : decode cX11_odds 39 = .ok (.iload 5, 2) := by decide +kernel
theorem dX11_odds_41 : decode cX11_odds 41 = .ok (.invokevirtual 462, 3) := by decide +kernel
theorem dX11_odds_44 : decode cX11_odds 44 = .ok (.ifCond .ne 6, 3) := by decide +kernel
theorem dX11_odds_47 : decode cX11_odds 47 = .ok (.goto 22, 3) := by decide +kernel
theorem dX11_odds_50 : decode cX11_odds 50 = .ok (.iinc 4 1, 3) := by decide +kernel
theorem dX11_odds_53 : decode cX11_odds 53 = .ok (.iload_n 3, 1) := by decide +kernel
theorem dX11_odds_54 : decode cX11_odds 54 = .ok (.aload_n 0, 1) := by decide +kernel
theorem dX11_odds_55 : decode cX11_odds 55 = .ok (.invokevirtual 477, 3) := by decide +kernel
theorem dX11_odds_58 : decode cX11_odds 58 = .ok (.iload_n 1, 1) := by decide +kernel
theorem dX11_odds_59 : decode cX11_odds 59 = .ok (.if_icmp .lt 7, 3) := by decide +kernel
theorem dX11_odds_62 : decode cX11_odds 62 = .ok (.iconst 1, 1) := by decide +kernel
theorem dX11_odds_63 : decode cX11_odds 63 = .ok (.goto 4, 3) := by decide +kernel
theorem dX11_odds_66 : decode cX11_odds 66 = .ok (.iconst 0, 1) := by decide +kernel
theorem dX11_odds_67 : decode cX11_odds 67 = .ok (.iadd, 1) := by decide +kernel
theorem dX11_odds_68 : decode cX11_odds 68 = .ok (.istore_n 3, 1) := by decide +kernel
theorem dX11_odds_69 : decode cX11_odds 69 = .ok (.iinc 5 1, 3) := by decide +kernel
theorem dX11_odds_72 : decode cX11_odds 72 = .ok (.goto (-43), 3) := by decide +kernel
theorem dX11_odds_75 : decode cX11_odds 75 = .ok (.iload_n 2, 1) := by decide +kernel
theorem dX11_odds_76 : decode cX11_odds 76 = .ok (.ifCond .ne 7, 3) := by decide +kernel
theorem dX11_odds_79 : decode cX11_odds 79 = .ok (.iload_n 3, 1) := by decide +kernel
theorem dX11_odds_80 : decode cX11_odds 80 = .ok (.goto 5, 3) := by decide +kernel
theorem dX11_odds_83 : decode cX11_odds 83 = .ok (.iload 4, 2) := by decide +kernel
theorem dX11_odds_85 : decode cX11_odds 85 = .ok (.iload 4, 2) := by decide +kernel
theorem dX11_odds_87 : decode cX11_odds 87 = .ok (.iload_n 3, 1) := by decide +kernel
theorem dX11_odds_88 : decode cX11_odds 88 = .ok (.invokestatic 480, 3) := by decide +kernel
theorem dX11_odds_91 : decode cX11_odds 91 = .ok (.idiv, 1) := by decide +kernel
theorem dX11_odds_92 : decode cX11_odds 92 = .ok (.ireturn, 1) := by decide +kernel
theorem dX11_fair_0 : decode cX11_fair 0 = .ok (.iconst 0, 1) := by decide +kernel
theorem dX11_fair_1 : decode cX11_fair 1 = .ok (.istore_n 1, 1) := by decide +kernel
theorem dX11_fair_2 : decode cX11_fair 2 = .ok (.iconst 0, 1) := by decide +kernel
theorem dX11_fair_3 : decode cX11_fair 3 = .ok (.istore_n 2, 1) := by decide +kernel
theorem dX11_fair_4 : decode cX11_fair 4 = .ok (.iload_n 2, 1) := by decide +kernel
theorem dX11_fair_5 : decode cX11_fair 5 = .ok (.aload_n 0, 1) := by decide +kernel
theorem dX11_fair_6 : decode cX11_fair 6 = .ok (.invokevirtual 459, 3) := by decide +kernel
theorem dX11_fair_9 : decode cX11_fair 9 = .ok (.if_icmp .ge 81, 3) := by decide +kernel
theorem dX11_fair_12 : decode cX11_fair 12 = .ok (.aload_n 0, 1) := by decide +kernel
theorem dX11_fair_13 : decode cX11_fair 13 = .ok (.iload_n 2, 1) := by decide +kernel
theorem dX11_fair_14 : decode cX11_fair 14 = .ok (.invokevirtual 462, 3) := by decide +kernel
theorem dX11_fair_17 : decode cX11_fair 17 = .ok (.ifCond .eq 67, 3) := by decide +kernel
theorem dX11_fair_20 : decode cX11_fair 20 = .ok (.aload_n 0, 1) := by decide +kernel
theorem dX11_fair_21 : decode cX11_fair 21 = .ok (.invokevirtual 465, 3) := by decide +kernel
theorem dX11_fair_24 : decode cX11_fair 24 = .ok (.ifCond .ne 6, 3) := by decide +kernel
theorem dX11_fair_27 : decode cX11_fair 27 = .ok (.goto 57, 3) := by decide +kernel
theorem dX11_fair_30 : decode cX11_fair 30 = .ok (.iconst 1, 1) := by decide +kernel
theorem dX11_fair_31 : decode cX11_fair 31 = .ok (.istore_n 3, 1) := by decide +kernel
theorem dX11_fair_32 : decode cX11_fair 32 = .ok (.iconst 0, 1) := by decide +kernel
theorem dX11_fair_33 : decode cX11_fair 33 = .ok (.istore 4, 2) := by decide +kernel
theorem dX11_fair_35 : decode cX11_fair 35 = .ok (.iload 4, 2) := by decide +kernel
theorem dX11_fair_37 : decode cX11_fair 37 = .ok (.aload_n 0, 1) := by decide +kernel
theorem dX11_fair_38 : decode cX11_fair 38 = .ok (.invokevirtual 385, 3) := by decide +kernel
theorem dX11_fair_41 : decode cX11_fair 41 = .ok (.if_icmp .ge 31, 3) := by decide +kernel
theorem dX11_fair_44 : decode cX11_fair 44 = .ok (.iload_n 3, 1) := by decide +kernel
theorem dX11_fair_45 : decode cX11_fair 45 = .ok (.ifCond .eq 19, 3) := by decide +kernel
theorem dX11_fair_48 : decode cX11_fair 48 = .ok (.aload_n 0, 1) := by decide +kernel
theorem dX11_fair_49 : decode cX11_fair 49 = .ok (.getfield 128, 3) := by decide +kernel
theorem dX11_fair_52 : decode cX11_fair 52 = .ok (.iload 4, 2) := by decide +kernel
theorem dX11_fair_54 : decode cX11_fair 54 = .ok (.iaload, 1) := by decide +kernel
theorem dX11_fair_55 : decode cX11_fair 55 = .ok (.iload 4, 2) := by decide +kernel
theorem dX11_fair_57 : decode cX11_fair 57 = .ok (.if_icmp .eq 7, 3) := by decide +kernel
theorem dX11_fair_60 : decode cX11_fair 60 = .ok (.iconst 1, 1) := by decide +kernel
theorem dX11_fair_61 : decode cX11_fair 61 = .ok (.goto 4, 3) := by decide +kernel
theorem dX11_fair_64 : decode cX11_fair 64 = .ok (.iconst 0, 1) := by decide +kernel
theorem dX11_fair_65 : decode cX11_fair 65 = .ok (.istore_n 3, 1) := by decide +kernel
theorem dX11_fair_66 : decode cX11_fair 66 = .ok (.iinc 4 1, 3) := by decide +kernel
theorem dX11_fair_69 : decode cX11_fair 69 = .ok (.goto (-34), 3) := by decide +kernel
theorem dX11_fair_72 : decode cX11_fair 72 = .ok (.iload_n 1, 1) := by decide +kernel
theorem dX11_fair_73 : decode cX11_fair 73 = .ok (.iload_n 3, 1) := by decide +kernel
theorem dX11_fair_74 : decode cX11_fair 74 = .ok (.ifCond .eq 7, 3) := by decide +kernel
theorem dX11_fair_77 : decode cX11_fair 77 = .ok (.iconst 1, 1) := by decide +kernel
theorem dX11_fair_78 : decode cX11_fair 78 = .ok (.goto 4, 3) := by decide +kernel
theorem dX11_fair_81 : decode cX11_fair 81 = .ok (.iconst 0, 1) := by decide +kernel
theorem dX11_fair_82 : decode cX11_fair 82 = .ok (.iadd, 1) := by decide +kernel
theorem dX11_fair_83 : decode cX11_fair 83 = .ok (.istore_n 1, 1) := by decide +kernel
theorem dX11_fair_84 : decode cX11_fair 84 = .ok (.iinc 2 1, 3) := by decide +kernel
theorem dX11_fair_87 : decode cX11_fair 87 = .ok (.goto (-83), 3) := by decide +kernel
theorem dX11_fair_90 : decode cX11_fair 90 = .ok (.iload_n 1, 1) := by decide +kernel
theorem dX11_fair_91 : decode cX11_fair 91 = .ok (.ireturn, 1) := by decide +kernel
theorem dX11_doesFit_0 : decode cX11_doesFit 0 = .ok (.iconst 0, 1) := by decide +kernel
theorem dX11_doesFit_1 : decode cX11_doesFit 1 = .ok (.istore_n 2, 1) := by decide +kernel
theorem dX11_doesFit_2 : decode cX11_doesFit 2 = .ok (.iload_n 2, 1) := by decide +kernel
theorem dX11_doesFit_3 : decode cX11_doesFit 3 = .ok (.aload_n 0, 1) := by decide +kernel
theorem dX11_doesFit_4 : decode cX11_doesFit 4 = .ok (.getfield 401, 3) := by decide +kernel
theorem dX11_doesFit_7 : decode cX11_doesFit 7 = .ok (.if_icmp .ge 79, 3) := by decide +kernel
theorem dX11_doesFit_10 : decode cX11_doesFit 10 = .ok (.aload_n 0, 1) := by decide +kernel
theorem dX11_doesFit_11 : decode cX11_doesFit 11 = .ok (.getfield 140, 3) := by decide +kernel
theorem dX11_doesFit_14 : decode cX11_doesFit 14 = .ok (.iload_n 2, 1) := by decide +kernel
theorem dX11_doesFit_15 : decode cX11_doesFit 15 = .ok (.iaload, 1) := by decide +kernel
theorem dX11_doesFit_16 : decode cX11_doesFit 16 = .ok (.iload_n 1, 1) := by decide +kernel
theorem dX11_doesFit_17 : decode cX11_doesFit 17 = .ok (.if_icmp .gt 63, 3) := by decide +kernel
theorem dX11_doesFit_20 : decode cX11_doesFit 20 = .ok (.aload_n 0, 1) := by decide +kernel
theorem dX11_doesFit_21 : decode cX11_doesFit 21 = .ok (.getfield 143, 3) := by decide +kernel
theorem dX11_doesFit_24 : decode cX11_doesFit 24 = .ok (.iload_n 2, 1) := by decide +kernel
theorem dX11_doesFit_25 : decode cX11_doesFit 25 = .ok (.iaload, 1) := by decide +kernel
theorem dX11_doesFit_26 : decode cX11_doesFit 26 = .ok (.ifCond .lt 16, 3) := by decide +kernel
theorem dX11_doesFit_29 : decode cX11_doesFit 29 = .ok (.aload_n 0, 1) := by decide +kernel
theorem dX11_doesFit_30 : decode cX11_doesFit 30 = .ok (.getfield 143, 3) := by decide +kernel
theorem dX11_doesFit_33 : decode cX11_doesFit 33 = .ok (.iload_n 2, 1) := by decide +kernel
theorem dX11_doesFit_34 : decode cX11_doesFit 34 = .ok (.iaload, 1) := by decide +kernel
theorem dX11_doesFit_35 : decode cX11_doesFit 35 = .ok (.iload_n 1, 1) := by decide +kernel
theorem dX11_doesFit_36 : decode cX11_doesFit 36 = .ok (.if_icmp .gt 6, 3) := by decide +kernel
theorem dX11_doesFit_39 : decode cX11_doesFit 39 = .ok (.goto 41, 3) := by decide +kernel
theorem dX11_doesFit_42 : decode cX11_doesFit 42 = .ok (.aload_n 0, 1) := by decide +kernel
theorem dX11_doesFit_43 : decode cX11_doesFit 43 = .ok (.getfield 128, 3) := by decide +kernel
theorem dX11_doesFit_46 : decode cX11_doesFit 46 = .ok (.aload_n 0, 1) := by decide +kernel
theorem dX11_doesFit_47 : decode cX11_doesFit 47 = .ok (.getfield 131, 3) := by decide +kernel
theorem dX11_doesFit_50 : decode cX11_doesFit 50 = .ok (.iload_n 2, 1) := by decide +kernel
theorem dX11_doesFit_51 : decode cX11_doesFit 51 = .ok (.iaload, 1) := by decide +kernel
theorem dX11_doesFit_52 : decode cX11_doesFit 52 = .ok (.iaload, 1) := by decide +kernel
theorem dX11_doesFit_53 : decode cX11_doesFit 53 = .ok (.aload_n 0, 1) := by decide +kernel
theorem dX11_doesFit_54 : decode cX11_doesFit 54 = .ok (.getfield 134, 3) := by decide +kernel
theorem dX11_doesFit_57 : decode cX11_doesFit 57 = .ok (.iload_n 2, 1) := by decide +kernel
theorem dX11_doesFit_58 : decode cX11_doesFit 58 = .ok (.iaload, 1) := by decide +kernel
theorem dX11_doesFit_59 : decode cX11_doesFit 59 = .ok (.if_icmp .ne 7, 3) := by decide +kernel
theorem dX11_doesFit_62 : decode cX11_doesFit 62 = .ok (.iconst 1, 1) := by decide +kernel
theorem dX11_doesFit_63 : decode cX11_doesFit 63 = .ok (.goto 4, 3) := by decide +kernel
theorem dX11_doesFit_66 : decode cX11_doesFit 66 = .ok (.iconst 0, 1) := by decide +kernel
theorem dX11_doesFit_67 : decode cX11_doesFit 67 = .ok (.istore_n 3, 1) := by decide +kernel
theorem dX11_doesFit_68 : decode cX11_doesFit 68 = .ok (.iload_n 3, 1) := by decide +kernel
theorem dX11_doesFit_69 : decode cX11_doesFit 69 = .ok (.aload_n 0, 1) := by decide +kernel
theorem dX11_doesFit_70 : decode cX11_doesFit 70 = .ok (.getfield 137, 3) := by decide +kernel
theorem dX11_doesFit_73 : decode cX11_doesFit 73 = .ok (.iload_n 2, 1) := by decide +kernel
theorem dX11_doesFit_74 : decode cX11_doesFit 74 = .ok (.iaload, 1) := by decide +kernel
theorem dX11_doesFit_75 : decode cX11_doesFit 75 = .ok (.if_icmp .eq 5, 3) := by decide +kernel
theorem dX11_doesFit_78 : decode cX11_doesFit 78 = .ok (.iconst 0, 1) := by decide +kernel
theorem dX11_doesFit_79 : decode cX11_doesFit 79 = .ok (.ireturn, 1) := by decide +kernel
theorem dX11_doesFit_80 : decode cX11_doesFit 80 = .ok (.iinc 2 1, 3) := by decide +kernel
theorem dX11_doesFit_83 : decode cX11_doesFit 83 = .ok (.goto (-81), 3) := by decide +kernel
theorem dX11_doesFit_86 : decode cX11_doesFit 86 = .ok (.iconst 1, 1) := by decide +kernel
theorem dX11_doesFit_87 : decode cX11_doesFit 87 = .ok (.ireturn, 1) := by decide +kernel
theorem dX11_layLots_0 : decode cX11_layLots 0 = .ok (.aload_n 0, 1) := by decide +kernel
theorem dX11_layLots_1 : decode cX11_layLots 1 = .ok (.iconst 0, 1) := by decide +kernel
theorem dX11_layLots_2 : decode cX11_layLots 2 = .ok (.putfield 493, 3) := by decide +kernel
theorem dX11_layLots_5 : decode cX11_layLots 5 = .ok (.iconst 0, 1) := by decide +kernel
theorem dX11_layLots_6 : decode cX11_layLots 6 = .ok (.istore_n 2, 1) := by decide +kernel
theorem dX11_layLots_7 : decode cX11_layLots 7 = .ok (.iload_n 2, 1) := by decide +kernel
theorem dX11_layLots_8 : decode cX11_layLots 8 = .ok (.bipush 36, 2) := by decide +kernel
theorem dX11_layLots_10 : decode cX11_layLots 10 = .ok (.if_icmp .ge 16, 3) := by decide +kernel
theorem dX11_layLots_13 : decode cX11_layLots 13 = .ok (.aload_n 0, 1) := by decide +kernel
theorem dX11_layLots_14 : decode cX11_layLots 14 = .ok (.getfield 146, 3) := by decide +kernel
theorem dX11_layLots_17 : decode cX11_layLots 17 = .ok (.iload_n 2, 1) := by decide +kernel
theorem dX11_layLots_18 : decode cX11_layLots 18 = .ok (.iconst 0, 1) := by decide +kernel
theorem dX11_layLots_19 : decode cX11_layLots 19 = .ok (.iastore, 1) := by decide +kernel
theorem dX11_layLots_20 : decode cX11_layLots 20 = .ok (.iinc 2 1, 3) := by decide +kernel
theorem dX11_layLots_23 : decode cX11_layLots 23 = .ok (.goto (-16), 3) := by decide +kernel
theorem dX11_layLots_26 : decode cX11_layLots 26 = .ok (.iconst 0, 1) := by decide +kernel
theorem dX11_layLots_27 : decode cX11_layLots 27 = .ok (.istore_n 2, 1) := by decide +kernel
theorem dX11_layLots_28 : decode cX11_layLots 28 = .ok (.iload_n 2, 1) := by decide +kernel
theorem dX11_layLots_29 : decode cX11_layLots 29 = .ok (.aload_n 0, 1) := by decide +kernel
theorem dX11_layLots_30 : decode cX11_layLots 30 = .ok (.invokevirtual 459, 3) := by decide +kernel
theorem dX11_layLots_33 : decode cX11_layLots 33 = .ok (.if_icmp .ge 74, 3) := by decide +kernel
theorem dX11_layLots_36 : decode cX11_layLots 36 = .ok (.aload_n 0, 1) := by decide +kernel
theorem dX11_layLots_37 : decode cX11_layLots 37 = .ok (.iload_n 2, 1) := by decide +kernel
theorem dX11_layLots_38 : decode cX11_layLots 38 = .ok (.invokevirtual 462, 3) := by decide +kernel
theorem dX11_layLots_41 : decode cX11_layLots 41 = .ok (.ifCond .eq 60, 3) := by decide +kernel
theorem dX11_layLots_44 : decode cX11_layLots 44 = .ok (.aload_n 0, 1) := by decide +kernel
theorem dX11_layLots_45 : decode cX11_layLots 45 = .ok (.iload_n 1, 1) := by decide +kernel
theorem dX11_layLots_46 : decode cX11_layLots 46 = .ok (.invokevirtual 496, 3) := by decide +kernel
theorem dX11_layLots_49 : decode cX11_layLots 49 = .ok (.ifCond .ne 6, 3) := by decide +kernel
theorem dX11_layLots_52 : decode cX11_layLots 52 = .ok (.goto 49, 3) := by decide +kernel
theorem dX11_layLots_55 : decode cX11_layLots 55 = .ok (.aload_n 0, 1) := by decide +kernel
theorem dX11_layLots_56 : decode cX11_layLots 56 = .ok (.dup, 1) := by decide +kernel
theorem dX11_layLots_57 : decode cX11_layLots 57 = .ok (.getfield 493, 3) := by decide +kernel
theorem dX11_layLots_60 : decode cX11_layLots 60 = .ok (.iconst 1, 1) := by decide +kernel
theorem dX11_layLots_61 : decode cX11_layLots 61 = .ok (.iadd, 1) := by decide +kernel
theorem dX11_layLots_62 : decode cX11_layLots 62 = .ok (.putfield 493, 3) := by decide +kernel
theorem dX11_layLots_65 : decode cX11_layLots 65 = .ok (.iconst 0, 1) := by decide +kernel
theorem dX11_layLots_66 : decode cX11_layLots 66 = .ok (.istore_n 3, 1) := by decide +kernel
theorem dX11_layLots_67 : decode cX11_layLots 67 = .ok (.iload_n 3, 1) := by decide +kernel
theorem dX11_layLots_68 : decode cX11_layLots 68 = .ok (.aload_n 0, 1) := by decide +kernel
theorem dX11_layLots_69 : decode cX11_layLots 69 = .ok (.invokevirtual 385, 3) := by decide +kernel
theorem dX11_layLots_72 : decode cX11_layLots 72 = .ok (.if_icmp .ge 29, 3) := by decide +kernel
theorem dX11_layLots_75 : decode cX11_layLots 75 = .ok (.aload_n 0, 1) := by decide +kernel
theorem dX11_layLots_76 : decode cX11_layLots 76 = .ok (.getfield 146, 3) := by decide +kernel
theorem dX11_layLots_79 : decode cX11_layLots 79 = .ok (.bipush 6, 2) := by decide +kernel
theorem dX11_layLots_81 : decode cX11_layLots 81 = .ok (.iload_n 3, 1) := by decide +kernel
theorem dX11_layLots_82 : decode cX11_layLots 82 = .ok (.imul, 1) := by decide +kernel
theorem dX11_layLots_83 : decode cX11_layLots 83 = .ok (.aload_n 0, 1) := by decide +kernel
theorem dX11_layLots_84 : decode cX11_layLots 84 = .ok (.getfield 128, 3) := by decide +kernel
theorem dX11_layLots_87 : decode cX11_layLots 87 = .ok (.iload_n 3, 1) := by decide +kernel
theorem dX11_layLots_88 : decode cX11_layLots 88 = .ok (.iaload, 1) := by decide +kernel
theorem dX11_layLots_89 : decode cX11_layLots 89 = .ok (.iadd, 1) := by decide +kernel
theorem dX11_layLots_90 : decode cX11_layLots 90 = .ok (.dup2, 1) := by decide +kernel
theorem dX11_layLots_91 : decode cX11_layLots 91 = .ok (.iaload, 1) := by decide +kernel
theorem dX11_layLots_92 : decode cX11_layLots 92 = .ok (.iconst 1, 1) := by decide +kernel
theorem dX11_layLots_93 : decode cX11_layLots 93 = .ok (.iadd, 1) := by decide +kernel
theorem dX11_layLots_94 : decode cX11_layLots 94 = .ok (.iastore, 1) := by decide +kernel
theorem dX11_layLots_95 : decode cX11_layLots 95 = .ok (.iinc 3 1, 3) := by decide +kernel
theorem dX11_layLots_98 : decode cX11_layLots 98 = .ok (.goto (-31), 3) := by decide +kernel
theorem dX11_layLots_101 : decode cX11_layLots 101 = .ok (.iinc 2 1, 3) := by decide +kernel
theorem dX11_layLots_104 : decode cX11_layLots 104 = .ok (.goto (-76), 3) := by decide +kernel
theorem dX11_layLots_107 : decode cX11_layLots 107 = .ok (.return_, 1) := by decide +kernel
theorem dX11_lots_0 : decode cX11_lots 0 = .ok (.aload_n 0, 1) := by decide +kernel
theorem dX11_lots_1 : decode cX11_lots 1 = .ok (.iload_n 1, 1) := by decide +kernel
theorem dX11_lots_2 : decode cX11_lots 2 = .ok (.invokevirtual 499, 3) := by decide +kernel
theorem dX11_lots_5 : decode cX11_lots 5 = .ok (.aload_n 0, 1) := by decide +kernel
theorem dX11_lots_6 : decode cX11_lots 6 = .ok (.getfield 493, 3) := by decide +kernel
theorem dX11_lots_9 : decode cX11_lots 9 = .ok (.ireturn, 1) := by decide +kernel
theorem dX11_sure_0 : decode cX11_sure 0 = .ok (.aload_n 0, 1) := by decide +kernel
theorem dX11_sure_1 : decode cX11_sure 1 = .ok (.iload_n 1, 1) := by decide +kernel
theorem dX11_sure_2 : decode cX11_sure 2 = .ok (.invokevirtual 419, 3) := by decide +kernel
theorem dX11_sure_5 : decode cX11_sure 5 = .ok (.ifCond .ne 5, 3) := by decide +kernel
theorem dX11_sure_8 : decode cX11_sure 8 = .ok (.iconst (-1), 1) := by decide +kernel
theorem dX11_sure_9 : decode cX11_sure 9 = .ok (.ireturn, 1) := by decide +kernel
theorem dX11_sure_10 : decode cX11_sure 10 = .ok (.aload_n 0, 1) := by decide +kernel
theorem dX11_sure_11 : decode cX11_sure 11 = .ok (.iload_n 2, 1) := by decide +kernel
theorem dX11_sure_12 : decode cX11_sure 12 = .ok (.invokevirtual 499, 3) := by decide +kernel
theorem dX11_sure_15 : decode cX11_sure 15 = .ok (.iconst 0, 1) := by decide +kernel
theorem dX11_sure_16 : decode cX11_sure 16 = .ok (.istore_n 3, 1) := by decide +kernel
theorem dX11_sure_17 : decode cX11_sure 17 = .ok (.iload_n 3, 1) := by decide +kernel
theorem dX11_sure_18 : decode cX11_sure 18 = .ok (.aload_n 0, 1) := by decide +kernel
theorem dX11_sure_19 : decode cX11_sure 19 = .ok (.invokevirtual 385, 3) := by decide +kernel
theorem dX11_sure_22 : decode cX11_sure 22 = .ok (.if_icmp .ge 36, 3) := by decide +kernel
theorem dX11_sure_25 : decode cX11_sure 25 = .ok (.aload_n 0, 1) := by decide +kernel
theorem dX11_sure_26 : decode cX11_sure 26 = .ok (.getfield 493, 3) := by decide +kernel
theorem dX11_sure_29 : decode cX11_sure 29 = .ok (.ifCond .le 29, 3) := by decide +kernel
theorem dX11_sure_32 : decode cX11_sure 32 = .ok (.aload_n 0, 1) := by decide +kernel
theorem dX11_sure_33 : decode cX11_sure 33 = .ok (.getfield 146, 3) := by decide +kernel
theorem dX11_sure_36 : decode cX11_sure 36 = .ok (.bipush 6, 2) := by decide +kernel
theorem dX11_sure_38 : decode cX11_sure 38 = .ok (.iload_n 1, 1) := by decide +kernel
theorem dX11_sure_39 : decode cX11_sure 39 = .ok (.imul, 1) := by decide +kernel
theorem dX11_sure_40 : decode cX11_sure 40 = .ok (.iload_n 3, 1) := by decide +kernel
theorem dX11_sure_41 : decode cX11_sure 41 = .ok (.iadd, 1) := by decide +kernel
theorem dX11_sure_42 : decode cX11_sure 42 = .ok (.iaload, 1) := by decide +kernel
theorem dX11_sure_43 : decode cX11_sure 43 = .ok (.aload_n 0, 1) := by decide +kernel
theorem dX11_sure_44 : decode cX11_sure 44 = .ok (.getfield 493, 3) := by decide +kernel
theorem dX11_sure_47 : decode cX11_sure 47 = .ok (.if_icmp .ne 5, 3) := by decide +kernel
theorem dX11_sure_50 : decode cX11_sure 50 = .ok (.iload_n 3, 1) := by decide +kernel
theorem dX11_sure_51 : decode cX11_sure 51 = .ok (.ireturn, 1) := by decide +kernel
theorem dX11_sure_52 : decode cX11_sure 52 = .ok (.iinc 3 1, 3) := by decide +kernel
theorem dX11_sure_55 : decode cX11_sure 55 = .ok (.goto (-38), 3) := by decide +kernel
theorem dX11_sure_58 : decode cX11_sure 58 = .ok (.aload_n 0, 1) := by decide +kernel
theorem dX11_sure_59 : decode cX11_sure 59 = .ok (.getfield 493, 3) := by decide +kernel
theorem dX11_sure_62 : decode cX11_sure 62 = .ok (.ifCond .ne 7, 3) := by decide +kernel
theorem dX11_sure_65 : decode cX11_sure 65 = .ok (.iconst (-1), 1) := by decide +kernel
theorem dX11_sure_66 : decode cX11_sure 66 = .ok (.goto 5, 3) := by decide +kernel
theorem dX11_sure_69 : decode cX11_sure 69 = .ok (.bipush (-2), 2) := by decide +kernel
theorem dX11_sure_71 : decode cX11_sure 71 = .ok (.ireturn, 1) := by decide +kernel
theorem dX11_ask_0 : decode cX11_ask 0 = .ok (.iload_n 1, 1) := by decide +kernel
theorem dX11_ask_1 : decode cX11_ask 1 = .ok (.iconst 0, 1) := by decide +kernel
theorem dX11_ask_2 : decode cX11_ask 2 = .ok (.iconst 1, 1) := by decide +kernel
theorem dX11_ask_3 : decode cX11_ask 3 = .ok (.invokestatic 388, 3) := by decide +kernel
theorem dX11_ask_6 : decode cX11_ask 6 = .ok (.ifCond .ne 5, 3) := by decide +kernel
theorem dX11_ask_9 : decode cX11_ask 9 = .ok (.iconst (-1), 1) := by decide +kernel
theorem dX11_ask_10 : decode cX11_ask 10 = .ok (.ireturn, 1) := by decide +kernel
theorem dX11_ask_11 : decode cX11_ask 11 = .ok (.aload_n 0, 1) := by decide +kernel
theorem dX11_ask_12 : decode cX11_ask 12 = .ok (.iload_n 2, 1) := by decide +kernel
theorem dX11_ask_13 : decode cX11_ask 13 = .ok (.invokevirtual 499, 3) := by decide +kernel
theorem dX11_ask_16 : decode cX11_ask 16 = .ok (.iconst (-1), 1) := by decide +kernel
theorem dX11_ask_17 : decode cX11_ask 17 = .ok (.istore_n 3, 1) := by decide +kernel
theorem dX11_ask_18 : decode cX11_ask 18 = .ok (.iconst 0, 1) := by decide +kernel
theorem dX11_ask_19 : decode cX11_ask 19 = .ok (.istore 4, 2) := by decide +kernel
theorem dX11_ask_21 : decode cX11_ask 21 = .ok (.iconst 0, 1) := by decide +kernel
theorem dX11_ask_22 : decode cX11_ask 22 = .ok (.istore 5, 2) := by decide +kernel
theorem dX11_ask_24 : decode cX11_ask 24 = .ok (.iload 5, 2) := by decide +kernel
theorem dX11_ask_26 : decode cX11_ask 26 = .ok (.aload_n 0, 1) := by decide +kernel
theorem dX11_ask_27 : decode cX11_ask 27 = .ok (.invokevirtual 385, 3) := by decide +kernel
theorem dX11_ask_30 : decode cX11_ask 30 = .ok (.if_icmp .ge 91, 3) := by decide +kernel
theorem dX11_ask_33 : decode cX11_ask 33 = .ok (.aload_n 0, 1) := by decide +kernel
theorem dX11_ask_34 : decode cX11_ask 34 = .ok (.getfield 493, 3) := by decide +kernel
theorem dX11_ask_37 : decode cX11_ask 37 = .ok (.ifCond .le 84, 3) := by decide +kernel
theorem dX11_ask_40 : decode cX11_ask 40 = .ok (.iconst 0, 1) := by decide +kernel
theorem dX11_ask_41 : decode cX11_ask 41 = .ok (.istore 6, 2) := by decide +kernel
theorem dX11_ask_43 : decode cX11_ask 43 = .ok (.iconst 0, 1) := by decide +kernel
theorem dX11_ask_44 : decode cX11_ask 44 = .ok (.istore 7, 2) := by decide +kernel
theorem dX11_ask_46 : decode cX11_ask 46 = .ok (.iload 7, 2) := by decide +kernel
theorem dX11_ask_48 : decode cX11_ask 48 = .ok (.aload_n 0, 1) := by decide +kernel
theorem dX11_ask_49 : decode cX11_ask 49 = .ok (.invokevirtual 385, 3) := by decide +kernel
theorem dX11_ask_52 : decode cX11_ask 52 = .ok (.if_icmp .ge 42, 3) := by decide +kernel
theorem dX11_ask_55 : decode cX11_ask 55 = .ok (.aload_n 0, 1) := by decide +kernel
theorem dX11_ask_56 : decode cX11_ask 56 = .ok (.getfield 146, 3) := by decide +kernel
theorem dX11_ask_59 : decode cX11_ask 59 = .ok (.bipush 6, 2) := by decide +kernel
theorem dX11_ask_61 : decode cX11_ask 61 = .ok (.iload 5, 2) := by decide +kernel
theorem dX11_ask_63 : decode cX11_ask 63 = .ok (.imul, 1) := by decide +kernel
theorem dX11_ask_64 : decode cX11_ask 64 = .ok (.iload 7, 2) := by decide +kernel
theorem dX11_ask_66 : decode cX11_ask 66 = .ok (.iadd, 1) := by decide +kernel
theorem dX11_ask_67 : decode cX11_ask 67 = .ok (.iaload, 1) := by decide +kernel
theorem dX11_ask_68 : decode cX11_ask 68 = .ok (.iload 6, 2) := by decide +kernel
theorem dX11_ask_70 : decode cX11_ask 70 = .ok (.if_icmp .le 18, 3) := by decide +kernel
theorem dX11_ask_73 : decode cX11_ask 73 = .ok (.aload_n 0, 1) := by decide +kernel
theorem dX11_ask_74 : decode cX11_ask 74 = .ok (.getfield 146, 3) := by decide +kernel
theorem dX11_ask_77 : decode cX11_ask 77 = .ok (.bipush 6, 2) := by decide +kernel
theorem dX11_ask_79 : decode cX11_ask 79 = .ok (.iload 5, 2) := by decide +kernel
theorem dX11_ask_81 : decode cX11_ask 81 = .ok (.imul, 1) := by decide +kernel
theorem dX11_ask_82 : decode cX11_ask 82 = .ok (.iload 7, 2) := by decide +kernel
theorem dX11_ask_84 : decode cX11_ask 84 = .ok (.iadd, 1) := by decide +kernel
theorem dX11_ask_85 : decode cX11_ask 85 = .ok (.iaload, 1) := by decide +kernel
theorem dX11_ask_86 : decode cX11_ask 86 = .ok (.istore 6, 2) := by decide +kernel
theorem dX11_ask_88 : decode cX11_ask 88 = .ok (.iinc 7 1, 3) := by decide +kernel
theorem dX11_ask_91 : decode cX11_ask 91 = .ok (.goto (-45), 3) := by decide +kernel
theorem dX11_ask_94 : decode cX11_ask 94 = .ok (.iload_n 3, 1) := by decide +kernel
theorem dX11_ask_95 : decode cX11_ask 95 = .ok (.ifCond .lt 13, 3) := by decide +kernel
theorem dX11_ask_98 : decode cX11_ask 98 = .ok (.iload 6, 2) := by decide +kernel
theorem dX11_ask_100 : decode cX11_ask 100 = .ok (.iload 4, 2) := by decide +kernel
theorem dX11_ask_102 : decode cX11_ask 102 = .ok (.if_icmp .lt 6, 3) := by decide +kernel
theorem dX11_ask_105 : decode cX11_ask 105 = .ok (.goto 10, 3) := by decide +kernel
theorem dX11_ask_108 : decode cX11_ask 108 = .ok (.iload 5, 2) := by decide +kernel
theorem dX11_ask_110 : decode cX11_ask 110 = .ok (.istore_n 3, 1) := by decide +kernel
theorem dX11_ask_111 : decode cX11_ask 111 = .ok (.iload 6, 2) := by decide +kernel
theorem dX11_ask_113 : decode cX11_ask 113 = .ok (.istore 4, 2) := by decide +kernel
theorem dX11_ask_115 : decode cX11_ask 115 = .ok (.iinc 5 1, 3) := by decide +kernel
theorem dX11_ask_118 : decode cX11_ask 118 = .ok (.goto (-94), 3) := by decide +kernel
theorem dX11_ask_121 : decode cX11_ask 121 = .ok (.iload_n 3, 1) := by decide +kernel
theorem dX11_ask_122 : decode cX11_ask 122 = .ok (.ifCond .ge 7, 3) := by decide +kernel
theorem dX11_ask_125 : decode cX11_ask 125 = .ok (.iconst (-1), 1) := by decide +kernel
theorem dX11_ask_126 : decode cX11_ask 126 = .ok (.goto 13, 3) := by decide +kernel
theorem dX11_ask_129 : decode cX11_ask 129 = .ok (.iload_n 1, 1) := by decide +kernel
theorem dX11_ask_130 : decode cX11_ask 130 = .ok (.ifCond .ne 7, 3) := by decide +kernel
theorem dX11_ask_133 : decode cX11_ask 133 = .ok (.iload_n 3, 1) := by decide +kernel
theorem dX11_ask_134 : decode cX11_ask 134 = .ok (.goto 5, 3) := by decide +kernel
theorem dX11_ask_137 : decode cX11_ask 137 = .ok (.iload 4, 2) := by decide +kernel
theorem dX11_ask_139 : decode cX11_ask 139 = .ok (.ireturn, 1) := by decide +kernel
theorem dX11_proof_0 : decode cX11_proof 0 = .ok (.iload_n 1, 1) := by decide +kernel
theorem dX11_proof_1 : decode cX11_proof 1 = .ok (.iconst 0, 1) := by decide +kernel
theorem dX11_proof_2 : decode cX11_proof 2 = .ok (.iconst 1, 1) := by decide +kernel
theorem dX11_proof_3 : decode cX11_proof 3 = .ok (.aload_n 0, 1) := by decide +kernel
theorem dX11_proof_4 : decode cX11_proof 4 = .ok (.getfield 24, 3) := by decide +kernel
theorem dX11_proof_7 : decode cX11_proof 7 = .ok (.aload_n 0, 1) := by decide +kernel
theorem dX11_proof_8 : decode cX11_proof 8 = .ok (.getfield 279, 3) := by decide +kernel
theorem dX11_proof_11 : decode cX11_proof 11 = .ok (.iaload, 1) := by decide +kernel
theorem dX11_proof_12 : decode cX11_proof 12 = .ok (.ishl, 1) := by decide +kernel
theorem dX11_proof_13 : decode cX11_proof 13 = .ok (.iconst 1, 1) := by decide +kernel
theorem dX11_proof_14 : decode cX11_proof 14 = .ok (.isub, 1) := by decide +kernel
theorem dX11_proof_15 : decode cX11_proof 15 = .ok (.invokestatic 388, 3) := by decide +kernel
theorem dX11_proof_18 : decode cX11_proof 18 = .ok (.ifCond .eq 12, 3) := by decide +kernel
theorem dX11_proof_21 : decode cX11_proof 21 = .ok (.iload_n 2, 1) := by decide +kernel
theorem dX11_proof_22 : decode cX11_proof 22 = .ok (.iconst 0, 1) := by decide +kernel
theorem dX11_proof_23 : decode cX11_proof 23 = .ok (.iconst 1, 1) := by decide +kernel
theorem dX11_proof_24 : decode cX11_proof 24 = .ok (.invokestatic 388, 3) := by decide +kernel
theorem dX11_proof_27 : decode cX11_proof 27 = .ok (.ifCond .ne 5, 3) := by decide +kernel
theorem dX11_proof_30 : decode cX11_proof 30 = .ok (.iconst (-1), 1) := by decide +kernel
theorem dX11_proof_31 : decode cX11_proof 31 = .ok (.ireturn, 1) := by decide +kernel
theorem dX11_proof_32 : decode cX11_proof 32 = .ok (.iconst (-1), 1) := by decide +kernel
theorem dX11_proof_33 : decode cX11_proof 33 = .ok (.istore_n 3, 1) := by decide +kernel
theorem dX11_proof_34 : decode cX11_proof 34 = .ok (.iconst 0, 1) := by decide +kernel
theorem dX11_proof_35 : decode cX11_proof 35 = .ok (.istore 4, 2) := by decide +kernel
theorem dX11_proof_37 : decode cX11_proof 37 = .ok (.iload 4, 2) := by decide +kernel
theorem dX11_proof_39 : decode cX11_proof 39 = .ok (.iconst 1, 1) := by decide +kernel
theorem dX11_proof_40 : decode cX11_proof 40 = .ok (.aload_n 0, 1) := by decide +kernel
theorem dX11_proof_41 : decode cX11_proof 41 = .ok (.invokevirtual 385, 3) := by decide +kernel
theorem dX11_proof_44 : decode cX11_proof 44 = .ok (.ishl, 1) := by decide +kernel
theorem dX11_proof_45 : decode cX11_proof 45 = .ok (.if_icmp .ge 86, 3) := by decide +kernel
theorem dX11_proof_48 : decode cX11_proof 48 = .ok (.iload_n 3, 1) := by decide +kernel
theorem dX11_proof_49 : decode cX11_proof 49 = .ok (.ifCond .lt 18, 3) := by decide +kernel
theorem dX11_proof_52 : decode cX11_proof 52 = .ok (.iload 4, 2) := by decide +kernel
theorem dX11_proof_54 : decode cX11_proof 54 = .ok (.invokestatic 372, 3) := by decide +kernel
theorem dX11_proof_57 : decode cX11_proof 57 = .ok (.iload_n 3, 1) := by decide +kernel
theorem dX11_proof_58 : decode cX11_proof 58 = .ok (.invokestatic 372, 3) := by decide +kernel
theorem dX11_proof_61 : decode cX11_proof 61 = .ok (.if_icmp .lt 6, 3) := by decide +kernel
theorem dX11_proof_64 : decode cX11_proof 64 = .ok (.goto 61, 3) := by decide +kernel
theorem dX11_proof_67 : decode cX11_proof 67 = .ok (.iconst 0, 1) := by decide +kernel
theorem dX11_proof_68 : decode cX11_proof 68 = .ok (.istore 5, 2) := by decide +kernel
theorem dX11_proof_70 : decode cX11_proof 70 = .ok (.iconst 0, 1) := by decide +kernel
theorem dX11_proof_71 : decode cX11_proof 71 = .ok (.istore 6, 2) := by decide +kernel
theorem dX11_proof_73 : decode cX11_proof 73 = .ok (.iload 6, 2) := by decide +kernel
theorem dX11_proof_75 : decode cX11_proof 75 = .ok (.aload_n 0, 1) := by decide +kernel
theorem dX11_proof_76 : decode cX11_proof 76 = .ok (.invokevirtual 385, 3) := by decide +kernel
theorem dX11_proof_79 : decode cX11_proof 79 = .ok (.if_icmp .ge 34, 3) := by decide +kernel
theorem dX11_proof_82 : decode cX11_proof 82 = .ok (.iload 4, 2) := by decide +kernel
theorem dX11_proof_84 : decode cX11_proof 84 = .ok (.iload 6, 2) := by decide +kernel
theorem dX11_proof_86 : decode cX11_proof 86 = .ok (.invokestatic 368, 3) := by decide +kernel
theorem dX11_proof_89 : decode cX11_proof 89 = .ok (.ifCond .eq 18, 3) := by decide +kernel
theorem dX11_proof_92 : decode cX11_proof 92 = .ok (.iload 5, 2) := by decide +kernel
theorem dX11_proof_94 : decode cX11_proof 94 = .ok (.aload_n 0, 1) := by decide +kernel
theorem dX11_proof_95 : decode cX11_proof 95 = .ok (.getfield 110, 3) := by decide +kernel
theorem dX11_proof_98 : decode cX11_proof 98 = .ok (.bipush 7, 2) := by decide +kernel
theorem dX11_proof_100 : decode cX11_proof 100 = .ok (.iload 6, 2) := by decide +kernel
theorem dX11_proof_102 : decode cX11_proof 102 = .ok (.iadd, 1) := by decide +kernel
theorem dX11_proof_103 : decode cX11_proof 103 = .ok (.iaload, 1) := by decide +kernel
theorem dX11_proof_104 : decode cX11_proof 104 = .ok (.ior, 1) := by decide +kernel
theorem dX11_proof_105 : decode cX11_proof 105 = .ok (.istore 5, 2) := by decide +kernel
theorem dX11_proof_107 : decode cX11_proof 107 = .ok (.iinc 6 1, 3) := by decide +kernel
theorem dX11_proof_110 : decode cX11_proof 110 = .ok (.goto (-37), 3) := by decide +kernel
theorem dX11_proof_113 : decode cX11_proof 113 = .ok (.iload_n 1, 1) := by decide +kernel
theorem dX11_proof_114 : decode cX11_proof 114 = .ok (.iload 5, 2) := by decide +kernel
theorem dX11_proof_116 : decode cX11_proof 116 = .ok (.iconst (-1), 1) := by decide +kernel
theorem dX11_proof_117 : decode cX11_proof 117 = .ok (.ixor, 1) := by decide +kernel
theorem dX11_proof_118 : decode cX11_proof 118 = .ok (.iand, 1) := by decide +kernel
theorem dX11_proof_119 : decode cX11_proof 119 = .ok (.ifCond .ne 6, 3) := by decide +kernel
theorem dX11_proof_122 : decode cX11_proof 122 = .ok (.iload 4, 2) := by decide +kernel
theorem dX11_proof_124 : decode cX11_proof 124 = .ok (.istore_n 3, 1) := by decide +kernel
theorem dX11_proof_125 : decode cX11_proof 125 = .ok (.iinc 4 1, 3) := by decide +kernel
theorem dX11_proof_128 : decode cX11_proof 128 = .ok (.goto (-91), 3) := by decide +kernel
theorem dX11_proof_131 : decode cX11_proof 131 = .ok (.iload_n 3, 1) := by decide +kernel
theorem dX11_proof_132 : decode cX11_proof 132 = .ok (.ifCond .ge 7, 3) := by decide +kernel
theorem dX11_proof_135 : decode cX11_proof 135 = .ok (.iconst (-1), 1) := by decide +kernel
theorem dX11_proof_136 : decode cX11_proof 136 = .ok (.goto 15, 3) := by decide +kernel
theorem dX11_proof_139 : decode cX11_proof 139 = .ok (.iload_n 2, 1) := by decide +kernel
theorem dX11_proof_140 : decode cX11_proof 140 = .ok (.ifCond .ne 10, 3) := by decide +kernel
theorem dX11_proof_143 : decode cX11_proof 143 = .ok (.iload_n 3, 1) := by decide +kernel
theorem dX11_proof_144 : decode cX11_proof 144 = .ok (.invokestatic 372, 3) := by decide +kernel
theorem dX11_proof_147 : decode cX11_proof 147 = .ok (.goto 4, 3) := by decide +kernel
theorem dX11_proof_150 : decode cX11_proof 150 = .ok (.iload_n 3, 1) := by decide +kernel
theorem dX11_proof_151 : decode cX11_proof 151 = .ok (.ireturn, 1) := by decide +kernel
set_option maxHeartbeats 2000000 in
set_option maxRecDepth 20000 in
theorem c_X11_rowsOfRooms (l : Launch) (D : va_G) (cy : Nat → ClassId) (B N : Nat) (bk : Int) (nr : Int) (M : MM) (hN : 257 ≤ N) (hI : Iv M) (hbk : M.1 210 40 = bk) (hnr : M.1 213 bk = nr) : CI l D cy B N 2 yX11_rowsOfRooms cX11_rowsOfRooms 3 (some .int) [rv B 210] M (fun z M' => M' = M ∧ (z = pw nr nr) ∧ (0 ≤ z ∧ z ≤ 46656)) := by
  refine mk_CI (by decide) (Nat.le_of_ble_eq_true rfl) ?_
  intro X exl exD excy hnL hX hret
  have hce : 0 + 0 ≤ (xR X).cells ∧ 0 + 0 ≤ (xR X).slots := ⟨Nat.zero_le _, Nat.zero_le _⟩
  have hbk2 : 0 ≤ bk ∧ bk ≤ 1 := by have := hI.at 210 40 ro_210_40; omega
  have hnr2 : 0 ≤ nr ∧ nr ≤ 6 := by have := hI.at 213 bk (ra_213 _); omega
  have cp : ∀ n : Nat, (∀ (x1 x2 : Int), I32 x1 → I32 x2 → (0 ≤ x2 ∧ x2 ≤ nr) → (x1 = pw nr x2) → 0 ≤ 32 * (6 - x2) + 1 → 32 * (6 - x2) + 1 < (n : Int) → J X B N 0 0 4 [(0, rv B 210), (1, iv x1), (2, iv x2)] [] M) := by
    intro n
    induction n with
    | zero => exact by intros; exfalso; omega
    | succ n ih =>
      · intro x1 x2 hxx1 hxx2 h2 h3 hm0 hm1
        have hpb := pw_b hnr2 (x := x2) (by omega)
        refine j_iload_n hX dX11_rowsOfRooms_4 rfl 2 rfl ?_
        refine j_aload_n hX dX11_rowsOfRooms_5 rfl 0 rfl ?_
        refine j_callVI hX lk_X11_385 (c_X11_many _ _ _ _ _ _ _ _ (by omega) hI hbk hnr) (by omega) hce rfl rfl (by omega) (by omega) kc_210 rfl rfl (Nat.le_of_ble_eq_true rfl) dX11_rowsOfRooms_6 (fun z1 M2 hz4 hp3 => ?_)
        obtain ⟨hE5, hq6⟩ := hp3
        replace hE5 := hE5.symm
        subst hE5
        refine j_icmp_ge (tgt := 25) hX dX11_rowsOfRooms_9 (by decide) (by omega) (by omega) (fun hc7 => ?_) (fun hc7 => ?_)
        · skip
          refine j_iload_n hX dX11_rowsOfRooms_25 rfl 1 rfl ?_
          exact hret _ _ _ _ dX11_rowsOfRooms_26 rfl (by omega) ⟨rfl, by rw [h3, (by omega : x2 = nr)], by first | assumption | omega⟩
        · skip
          refine j_iload_n hX dX11_rowsOfRooms_12 rfl 1 rfl ?_
          refine j_aload_n hX dX11_rowsOfRooms_13 rfl 0 rfl ?_
          refine j_callVI hX lk_X11_385 (c_X11_many _ _ _ _ _ _ _ _ (by omega) hI hbk hnr) (by omega) hce rfl rfl (by omega) (by omega) kc_210 rfl rfl (Nat.le_of_ble_eq_true rfl) dX11_rowsOfRooms_14 (fun z8 M9 hz11 hp10 => ?_)
          obtain ⟨hE12, hq13⟩ := hp10
          replace hE12 := hE12.symm
          subst hE12
          refine j_imul hX dX11_rowsOfRooms_17 ?_
          refine j_top (pw_st h3 (by assumption) (by omega) : _ = pw nr (x2 + 1)) ?_
          have hpc := pw_b hnr2 (x := x2 + 1) (by omega)
          refine j_istore_n (lv' := [(1, _), (0, _), (2, _)]) hX dX11_rowsOfRooms_18 rfl (by rw [hnL]; decide) rfl ?_
          refine j_iinc (lv' := [(2, _), (1, _), (0, _)]) hX dX11_rowsOfRooms_19 2 rfl (by rw [hnL]; decide) rfl ?_
          refine j_goto (tgt := 4) hX dX11_rowsOfRooms_22 (by decide) ?_
          refine j_sub [2, 1, 0] rfl ?_
          exact ih _ _ (by omega) (by omega) (by first | assumption | omega) (by first | rfl | exact pw_0 nr) (by omega) (by omega)
  show J X B N 0 0 0 [(0, rv B 210)] [] M
  refine j_iconst hX dX11_rowsOfRooms_0 ?_
  refine j_istore_n (lv' := [(1, _), (0, _)]) hX dX11_rowsOfRooms_1 rfl (by rw [hnL]; decide) rfl ?_
  refine j_iconst hX dX11_rowsOfRooms_2 ?_
  refine j_istore_n (lv' := [(2, _), (1, _), (0, _)]) hX dX11_rowsOfRooms_3 rfl (by rw [hnL]; decide) rfl ?_
  refine j_sub [2, 1, 0] rfl ?_
  refine (cp (Int.toNat (256 + 1))) _ _ (by omega) (by omega) (by first | assumption | omega) (by first | rfl | exact pw_0 nr) ?_ ?_
  · omega
  · omega
set_option maxHeartbeats 2000000 in
set_option maxRecDepth 20000 in
theorem c_X11_layLot (l : Launch) (D : va_G) (cy : Nat → ClassId) (B N : Nat) (bk : Int) (nr : Int) (a : Int) (M : MM) (hN : 257 ≤ N) (hI : Iv M) (hpa : I32 a) (hbk : M.1 210 40 = bk) (hnr : M.1 213 bk = nr) (h1 : 0 ≤ a) : CI l D cy B N 2 yX11_layLot cX11_layLot 5 (some .boolean) [rv B 210, iv a] M (fun z M' => Iv M' ∧ Fr (fun a (_ : Int) => (a = 248)) M M' ∧ (0 ≤ z ∧ z ≤ 1) ∧ (z = 1 → LQ nr 248 0 M') ∧ (a = v0 nr → z = 1)) := by
  refine mk_CI (by decide) (Nat.le_of_ble_eq_true rfl) ?_
  intro X exl exD excy hnL hX hret
  have hce : 0 + 0 ≤ (xR X).cells ∧ 0 + 0 ≤ (xR X).slots := ⟨Nat.zero_le _, Nat.zero_le _⟩
  have hF : Fr (fun a (_ : Int) => (a = 248)) M M := Fr.rf
  have hbk2 : 0 ≤ bk ∧ bk ≤ 1 := by have := hI.at 210 40 ro_210_40; omega
  have hnr2 : 0 ≤ nr ∧ nr ≤ 6 := by have := hI.at 213 bk (ra_213 _); omega
  have cp : ∀ n : Nat, (∀ (x2 x3 x4 : Int), ∀ (Mc : MM), I32 x2 → I32 x3 → I32 x4 → Iv Mc → Fr (fun a (_ : Int) => (a = 248)) M Mc → Mc.1 210 40 = bk → Mc.1 213 bk = nr → (0 ≤ x2 ∧ -1 ≤ x4 ∧ x4 < nr) → (LL Mc nr x4 x3) → (a = v0 nr → x2 = rr nr x4 ∧ x3 = ss nr x4) → 0 ≤ 32 * (10 + x4) + 1 → 32 * (10 + x4) + 1 < (n : Int) → J X B N 0 0 12 [(0, rv B 210), (1, iv a), (2, iv x2), (3, iv x3), (4, iv x4)] [] Mc) := by
    intro n
    induction n with
    | zero => exact by intros; exfalso; omega
    | succ n ih =>
      · intro x2 x3 x4 Mc hxx2 hxx3 hxx4 hI hF hk_0 hk_1 h2 h3 h5 hm0 hm1
        refine j_iload hX dX11_layLot_12 4 rfl ?_
        refine j_if_lt (tgt := 55) hX dX11_layLot_14 (by decide) (by omega) (fun hc1 => ?_) (fun hc1 => ?_)
        · skip
          refine j_iload_n hX dX11_layLot_55 rfl 3 rfl ?_
          refine j_iconst hX dX11_layLot_56 ?_
          refine j_aload_n hX dX11_layLot_57 rfl 0 rfl ?_
          refine j_callVI hX lk_X11_385 (c_X11_many _ _ _ _ _ _ _ _ (by omega) hI hk_0 hk_1) (by omega) hce rfl rfl (by omega) (by omega) kc_210 rfl rfl (Nat.le_of_ble_eq_true rfl) dX11_layLot_58 (fun z2 M3 hz5 hp4 => ?_)
          obtain ⟨hE6, hq7⟩ := hp4
          replace hE6 := hE6.symm
          subst hE6
          refine j_ishl hX dX11_layLot_61 (fun z8 hz9 hy10 => ?_)
          have hfr := full_r hz9 (by assumption) hnr2
          refine j_iconst hX dX11_layLot_62 ?_
          refine j_isub hX dX11_layLot_63 ?_
          refine j_icmp_ne (tgt := 71) hX dX11_layLot_64 (by decide) (by omega) (by omega) (fun hc11 => ?_) (fun hc11 => ?_)
          · skip
            refine j_iconst hX dX11_layLot_71 ?_
            exact hret _ _ _ _ dX11_layLot_72 (nb (by omega)) (by omega) ⟨hI, hF, by omega, by first | (intro h; exfalso; omega) | exact fun _ => LL_end h3 (by omega) hnr2 (by assumption) (by assumption) (by assumption) (by omega), by first | exact fun _ => rfl | exact fun h => absurd (ll_e hnr2 (by omega) (h5 h).2 (by assumption) (by assumption)) (by assumption)⟩
          · skip
            refine j_iconst hX dX11_layLot_67 ?_
            refine j_goto (tgt := 72) hX dX11_layLot_68 (by decide) ?_
            exact hret _ _ _ _ dX11_layLot_72 (nb (by omega)) (by omega) ⟨hI, hF, by omega, by first | (intro h; exfalso; omega) | exact fun _ => LL_end h3 (by omega) hnr2 (by assumption) (by assumption) (by assumption) (by omega), by first | exact fun _ => rfl | exact fun h => absurd (ll_e hnr2 (by omega) (h5 h).2 (by assumption) (by assumption)) (by assumption)⟩
        · skip
          refine j_aload_n hX dX11_layLot_17 rfl 0 rfl ?_
          refine gf_X11_128 hX (by omega) (by omega) kc_210 (fc_210_56 hI) (by decide) dX11_layLot_18 ?_
          refine j_iload hX dX11_layLot_21 4 rfl ?_
          refine j_iload_n hX dX11_layLot_23 rfl 2 rfl ?_
          refine j_aload_n hX dX11_layLot_24 rfl 0 rfl ?_
          refine j_callVI hX lk_X11_385 (c_X11_many _ _ _ _ _ _ _ _ (by omega) hI hk_0 hk_1) (by omega) hce rfl rfl (by omega) (by omega) kc_210 rfl rfl (Nat.le_of_ble_eq_true rfl) dX11_layLot_25 (fun z12 M13 hz15 hp14 => ?_)
          obtain ⟨hE16, hq17⟩ := hp14
          replace hE16 := hE16.symm
          subst hE16
          refine j_irem hX dX11_layLot_28 (by omega) (by omega) (by omega) (fun z18 hz19 hy20 => ?_)
          have ha21 := tmod_p hz19 (by omega) (by omega)
          refine j_iast hX (by omega) (by omega) kc_248 (by omega) (by omega) (by omega) (by omega) dX11_layLot_29 ?_
          refine j_up hI (ra_248 _) (by omega) (by omega) (Or.inl (by omega)) (fun M22 w23 hw24 hM25 hI26 hf27 => ?_)
          have hk28 := kp_up hM25 (fun h => absurd h.1 (by decide)) hk_0
          have hk29 := kp_up hM25 (fun h => absurd h.1 (by decide)) hk_1
          have hF30 := Fr.put hF hM25 (by omega)
          have he1 := hM25
          have hr1 := hw24
          refine j_iload_n hX dX11_layLot_30 rfl 2 rfl ?_
          refine j_aload_n hX dX11_layLot_31 rfl 0 rfl ?_
          refine j_callVI hX lk_X11_385 (c_X11_many _ _ _ _ _ _ _ _ (by omega) hI26 hk28 hk29) (by omega) hce rfl rfl (by omega) (by omega) kc_210 rfl rfl (Nat.le_of_ble_eq_true rfl) dX11_layLot_32 (fun z31 M32 hz34 hp33 => ?_)
          obtain ⟨hE35, hq36⟩ := hp33
          replace hE35 := hE35.symm
          subst hE35
          refine j_idiv hX dX11_layLot_35 (by omega) (by omega) (by omega) (fun z37 hz38 hy39 => ?_)
          have hdv := tdiv_f hz38 (by omega) (by omega)
          refine j_istore_n (lv' := [(2, _), (0, _), (1, _), (3, _), (4, _)]) hX dX11_layLot_36 rfl (by rw [hnL]; decide) rfl ?_
          refine j_iload_n hX dX11_layLot_37 rfl 3 rfl ?_
          refine j_iconst hX dX11_layLot_38 ?_
          refine j_aload_n hX dX11_layLot_39 rfl 1 rfl ?_
          refine gf_X11_128 hX (by omega) (by omega) kc_210 (fc_210_56 hI26) (by decide) dX11_layLot_40 ?_
          refine j_iload hX dX11_layLot_43 4 rfl ?_
          refine j_iald hX (by omega) (by omega) kc_248 (by omega) (by omega) (by omega) dX11_layLot_45 ?_
          refine j_top hf27 ?_
          refine j_ishl hX dX11_layLot_46 (fun z40 hz41 hy42 => ?_)
          refine j_ior hX dX11_layLot_47 (fun z43 hz44 hy45 => ?_)
          have hor := orb_of (by assumption) hz44
          have hll := LL_s h3 he1 (by omega) (by omega) hor
          have h5n := fun h : a = v0 nr => ll_s hnr2 (by omega) (by omega) (h5 h) (by assumption) (by assumption) (by assumption) (by assumption) hr1 hor
          refine j_istore_n (lv' := [(3, _), (2, _), (0, _), (1, _), (4, _)]) hX dX11_layLot_48 rfl (by rw [hnL]; decide) rfl ?_
          refine j_iinc (lv' := [(4, _), (3, _), (2, _), (0, _), (1, _)]) hX dX11_layLot_49 4 rfl (by rw [hnL]; decide) rfl ?_
          refine j_goto (tgt := 12) hX dX11_layLot_52 (by decide) ?_
          refine j_sub [3, 4, 2, 1, 0] rfl ?_
          exact ih _ _ _ _ (by omega) (by omega) (by omega) hI26 hF30 hk28 hk29 (by first | assumption | omega) (by first | exact LL_0 (by omega) | assumption) (by first | assumption | exact fun h => ll_0 hnr2 (by omega) h) (by omega) (by omega)
  show J X B N 0 0 0 [(0, rv B 210), (1, iv a)] [] M
  refine j_iload_n hX dX11_layLot_0 rfl 1 rfl ?_
  refine j_istore_n (lv' := [(2, _), (0, _), (1, _)]) hX dX11_layLot_1 rfl (by rw [hnL]; decide) rfl ?_
  refine j_iconst hX dX11_layLot_2 ?_
  refine j_istore_n (lv' := [(3, _), (2, _), (0, _), (1, _)]) hX dX11_layLot_3 rfl (by rw [hnL]; decide) rfl ?_
  refine j_aload_n hX dX11_layLot_4 rfl 2 rfl ?_
  refine j_callVI hX lk_X11_385 (c_X11_many _ _ _ _ _ _ _ _ (by omega) hI hbk hnr) (by omega) hce rfl rfl (by omega) (by omega) kc_210 rfl rfl (Nat.le_of_ble_eq_true rfl) dX11_layLot_5 (fun z46 M47 hz49 hp48 => ?_)
  obtain ⟨hE50, hq51⟩ := hp48
  replace hE50 := hE50.symm
  subst hE50
  refine j_iconst hX dX11_layLot_8 ?_
  refine j_isub hX dX11_layLot_9 ?_
  refine j_istore (lv' := [(4, _), (3, _), (2, _), (0, _), (1, _)]) hX dX11_layLot_10 (by rw [hnL]; decide) rfl ?_
  refine j_sub [3, 4, 2, 1, 0] rfl ?_
  refine (cp (Int.toNat (704 + 1))) _ _ _ _ (by omega) (by omega) (by omega) hI hF hbk hnr (by first | assumption | omega) (by first | exact LL_0 (by omega) | assumption) (by first | assumption | exact fun h => ll_0 hnr2 (by omega) h) ?_ ?_
  · omega
  · omega
set_option maxHeartbeats 2000000 in
set_option maxRecDepth 20000 in
theorem c_X11_doAimsHold (l : Launch) (D : va_G) (cy : Nat → ClassId) (B N : Nat) (bk : Int) (nr : Int) (M : MM) (hN : 257 ≤ N) (hI : Iv M) (hbk : M.1 210 40 = bk) (hnr : M.1 213 bk = nr) : CI l D cy B N 2 yX11_doAimsHold cX11_doAimsHold 2 (some .boolean) [rv B 210] M (fun z M' => M' = M ∧ (0 ≤ z ∧ z ≤ 1)) := by
  refine mk_CI (by decide) (Nat.le_of_ble_eq_true rfl) ?_
  intro X exl exD excy hnL hX hret
  have hce : 0 + 0 ≤ (xR X).cells ∧ 0 + 0 ≤ (xR X).slots := ⟨Nat.zero_le _, Nat.zero_le _⟩
  have hbk2 : 0 ≤ bk ∧ bk ≤ 1 := by have := hI.at 210 40 ro_210_40; omega
  have hnr2 : 0 ≤ nr ∧ nr ≤ 6 := by have := hI.at 213 bk (ra_213 _); omega
  have cp : ∀ n : Nat, (∀ (x1 : Int), I32 x1 → (0 ≤ x1 ∧ x1 ≤ 6) → 0 ≤ 32 * (6 - x1) + 1 → 32 * (6 - x1) + 1 < (n : Int) → J X B N 0 0 2 [(0, rv B 210), (1, iv x1)] [] M) := by
    intro n
    induction n with
    | zero => exact by intros; exfalso; omega
    | succ n ih =>
      · intro x1 hxx1 h2 hm0 hm1
        refine j_iload_n hX dX11_doAimsHold_2 rfl 1 rfl ?_
        refine j_aload_n hX dX11_doAimsHold_3 rfl 0 rfl ?_
        refine j_callVI hX lk_X11_385 (c_X11_many _ _ _ _ _ _ _ _ (by omega) hI hbk hnr) (by omega) hce rfl rfl (by omega) (by omega) kc_210 rfl rfl (Nat.le_of_ble_eq_true rfl) dX11_doAimsHold_4 (fun z1 M2 hz4 hp3 => ?_)
        obtain ⟨hE5, hq6⟩ := hp3
        replace hE5 := hE5.symm
        subst hE5
        refine j_icmp_ge (tgt := 42) hX dX11_doAimsHold_7 (by decide) (by omega) (by omega) (fun hc7 => ?_) (fun hc7 => ?_)
        · skip
          refine j_iconst hX dX11_doAimsHold_42 ?_
          exact hret _ _ _ _ dX11_doAimsHold_43 (nb (by omega)) (by omega) ⟨rfl, by omega⟩
        · skip
          refine j_aload_n hX dX11_doAimsHold_10 rfl 0 rfl ?_
          refine gf_X11_125 hX (by omega) (by omega) kc_210 (fc_210_55 hI) (by decide) dX11_doAimsHold_11 ?_
          refine j_iload_n hX dX11_doAimsHold_14 rfl 1 rfl ?_
          refine j_iald hX (by omega) (by omega) kc_247 (by omega) (by omega) (by omega) dX11_doAimsHold_15 ?_
          refine j_name hI (ra_247 _) (fun v8 hv9 hl10 hh11 => ?_)
          refine j_if_lt (tgt := 36) hX dX11_doAimsHold_16 (by decide) (by omega) (fun hc12 => ?_) (fun hc12 => ?_)
          · skip
            refine j_iinc (lv' := [(1, _), (0, _)]) hX dX11_doAimsHold_36 1 rfl (by rw [hnL]; decide) rfl ?_
            refine j_goto (tgt := 2) hX dX11_doAimsHold_39 (by decide) ?_
            refine j_sub [1, 0] rfl ?_
            exact ih _ (by omega) (by first | assumption | omega) (by omega) (by omega)
          · skip
            refine j_aload_n hX dX11_doAimsHold_19 rfl 0 rfl ?_
            refine gf_X11_128 hX (by omega) (by omega) kc_210 (fc_210_56 hI) (by decide) dX11_doAimsHold_20 ?_
            refine j_iload_n hX dX11_doAimsHold_23 rfl 1 rfl ?_
            refine j_iald hX (by omega) (by omega) kc_248 (by omega) (by omega) (by omega) dX11_doAimsHold_24 ?_
            refine j_name hI (ra_248 _) (fun v13 hv14 hl15 hh16 => ?_)
            refine j_aload_n hX dX11_doAimsHold_25 rfl 0 rfl ?_
            refine gf_X11_125 hX (by omega) (by omega) kc_210 (fc_210_55 hI) (by decide) dX11_doAimsHold_26 ?_
            refine j_iload_n hX dX11_doAimsHold_29 rfl 1 rfl ?_
            refine j_iald hX (by omega) (by omega) kc_247 (by omega) (by omega) (by omega) dX11_doAimsHold_30 ?_
            refine j_name hI (ra_247 _) (fun v17 hv18 hl19 hh20 => ?_)
            refine j_icmp_eq (tgt := 36) hX dX11_doAimsHold_31 (by decide) (by omega) (by omega) (fun hc21 => ?_) (fun hc21 => ?_)
            · skip
              refine j_iinc (lv' := [(1, _), (0, _)]) hX dX11_doAimsHold_36 1 rfl (by rw [hnL]; decide) rfl ?_
              refine j_goto (tgt := 2) hX dX11_doAimsHold_39 (by decide) ?_
              refine j_sub [1, 0] rfl ?_
              exact ih _ (by omega) (by first | assumption | omega) (by omega) (by omega)
            · skip
              refine j_iconst hX dX11_doAimsHold_34 ?_
              exact hret _ _ _ _ dX11_doAimsHold_35 (nb (by omega)) (by omega) ⟨rfl, by omega⟩
  show J X B N 0 0 0 [(0, rv B 210)] [] M
  refine j_iconst hX dX11_doAimsHold_0 ?_
  refine j_istore_n (lv' := [(1, _), (0, _)]) hX dX11_doAimsHold_1 rfl (by rw [hnL]; decide) rfl ?_
  refine j_sub [1, 0] rfl ?_
  refine (cp (Int.toNat (256 + 1))) _ (by omega) (by first | assumption | omega) ?_ ?_
  · omega
  · omega
set_option maxHeartbeats 2000000 in
set_option maxRecDepth 20000 in
theorem c_X11_wantsInRow (l : Launch) (D : va_G) (cy : Nat → ClassId) (B N : Nat) (bk : Int) (nr : Int) (M : MM) (hN : 257 ≤ N) (hI : Iv M) (hbk : M.1 210 40 = bk) (hnr : M.1 213 bk = nr) : CI l D cy B N 2 yX11_wantsInRow cX11_wantsInRow 3 (some .int) [rv B 210] M (fun z M' => M' = M) := by
  refine mk_CI (by decide) (Nat.le_of_ble_eq_true rfl) ?_
  intro X exl exD excy hnL hX hret
  have hce : 0 + 0 ≤ (xR X).cells ∧ 0 + 0 ≤ (xR X).slots := ⟨Nat.zero_le _, Nat.zero_le _⟩
  have hbk2 : 0 ≤ bk ∧ bk ≤ 1 := by have := hI.at 210 40 ro_210_40; omega
  have hnr2 : 0 ≤ nr ∧ nr ≤ 6 := by have := hI.at 213 bk (ra_213 _); omega
  have cp : ∀ n : Nat, (∀ (x1 x2 : Int), I32 x1 → I32 x2 → (0 ≤ x2 ∧ x2 ≤ 6) → 0 ≤ 32 * (6 - x2) + 1 → 32 * (6 - x2) + 1 < (n : Int) → J X B N 0 0 4 [(0, rv B 210), (1, iv x1), (2, iv x2)] [] M) := by
    intro n
    induction n with
    | zero => exact by intros; exfalso; omega
    | succ n ih =>
      · intro x1 x2 hxx1 hxx2 h2 hm0 hm1
        refine j_iload_n hX dX11_wantsInRow_4 rfl 2 rfl ?_
        refine j_aload_n hX dX11_wantsInRow_5 rfl 0 rfl ?_
        refine j_callVI hX lk_X11_385 (c_X11_many _ _ _ _ _ _ _ _ (by omega) hI hbk hnr) (by omega) hce rfl rfl (by omega) (by omega) kc_210 rfl rfl (Nat.le_of_ble_eq_true rfl) dX11_wantsInRow_6 (fun z1 M2 hz4 hp3 => ?_)
        obtain ⟨hE5, hq6⟩ := hp3
        replace hE5 := hE5.symm
        subst hE5
        refine j_icmp_ge (tgt := 32) hX dX11_wantsInRow_9 (by decide) (by omega) (by omega) (fun hc7 => ?_) (fun hc7 => ?_)
        · skip
          refine j_iload_n hX dX11_wantsInRow_32 rfl 1 rfl ?_
          exact hret _ _ _ _ dX11_wantsInRow_33 rfl (by omega) rfl
        · skip
          refine j_iload_n hX dX11_wantsInRow_12 rfl 1 rfl ?_
          refine j_aload_n hX dX11_wantsInRow_13 rfl 0 rfl ?_
          refine j_iload_n hX dX11_wantsInRow_14 rfl 2 rfl ?_
          refine j_aload_n hX dX11_wantsInRow_15 rfl 0 rfl ?_
          refine gf_X11_128 hX (by omega) (by omega) kc_210 (fc_210_56 hI) (by decide) dX11_wantsInRow_16 ?_
          refine j_iload_n hX dX11_wantsInRow_19 rfl 2 rfl ?_
          refine j_iald hX (by omega) (by omega) kc_248 (by omega) (by omega) (by omega) dX11_wantsInRow_20 ?_
          refine j_name hI (ra_248 _) (fun v8 hv9 hl10 hh11 => ?_)
          refine j_callVI hX lk_X11_375 (c_X11_wantBy _ _ _ _ _ _ _ _ _ (by omega) hI (by omega) (by omega) hbk (by first | assumption | omega)) (by omega) hce rfl rfl (by omega) (by omega) kc_210 rfl rfl (Nat.le_of_ble_eq_true rfl) dX11_wantsInRow_21 (fun z12 M13 hz15 hp14 => ?_)
          have hE16 := hp14.symm
          subst hE16
          refine j_iadd hX dX11_wantsInRow_24 ?_
          refine j_norm (fun z17 hz18 hy19 => ?_)
          refine j_istore_n (lv' := [(1, _), (0, _), (2, _)]) hX dX11_wantsInRow_25 rfl (by rw [hnL]; decide) rfl ?_
          refine j_iinc (lv' := [(2, _), (1, _), (0, _)]) hX dX11_wantsInRow_26 2 rfl (by rw [hnL]; decide) rfl ?_
          refine j_goto (tgt := 4) hX dX11_wantsInRow_29 (by decide) ?_
          refine j_sub [2, 1, 0] rfl ?_
          exact ih _ _ (by omega) (by omega) (by first | assumption | omega) (by omega) (by omega)
  show J X B N 0 0 0 [(0, rv B 210)] [] M
  refine j_iconst hX dX11_wantsInRow_0 ?_
  refine j_istore_n (lv' := [(1, _), (0, _)]) hX dX11_wantsInRow_1 rfl (by rw [hnL]; decide) rfl ?_
  refine j_iconst hX dX11_wantsInRow_2 ?_
  refine j_istore_n (lv' := [(2, _), (1, _), (0, _)]) hX dX11_wantsInRow_3 rfl (by rw [hnL]; decide) rfl ?_
  refine j_sub [2, 1, 0] rfl ?_
  refine (cp (Int.toNat (256 + 1))) _ _ (by omega) (by omega) (by first | assumption | omega) ?_ ?_
  · omega
  · omega
set_option maxHeartbeats 2000000 in
set_option maxRecDepth 20000 in
theorem c_X11_layRow (l : Launch) (D : va_G) (cy : Nat → ClassId) (B N : Nat) (bk : Int) (nr : Int) (M : MM) (hN : 257 ≤ N) (hI : Iv M) (hbk : M.1 210 40 = bk) (hnr : M.1 213 bk = nr) : CV l D cy B N 2 yX11_layRow cX11_layRow 2 none [rv B 210] M (fun M' => Iv M' ∧ Fr (fun a b => (a = 210 ∧ 54 ≤ b ∧ b ≤ 54) ∨ (a = 246)) M M') := by
  refine mk_CV (by decide) (Nat.le_of_ble_eq_true rfl) ?_
  intro X exl exD excy hnL hX hret
  have hce : 0 + 0 ≤ (xR X).cells ∧ 0 + 0 ≤ (xR X).slots := ⟨Nat.zero_le _, Nat.zero_le _⟩
  have hF : Fr (fun a b => (a = 210 ∧ 54 ≤ b ∧ b ≤ 54) ∨ (a = 246)) M M := Fr.rf
  have hbk2 : 0 ≤ bk ∧ bk ≤ 1 := by have := hI.at 210 40 ro_210_40; omega
  have hnr2 : 0 ≤ nr ∧ nr ≤ 6 := by have := hI.at 213 bk (ra_213 _); omega
  have cp : ∀ n : Nat, (∀ (x1 : Int), ∀ (Mc : MM), I32 x1 → Iv Mc → Fr (fun a b => (a = 210 ∧ 54 ≤ b ∧ b ≤ 54) ∨ (a = 246)) M Mc → Mc.1 210 40 = bk → Mc.1 213 bk = nr → (0 ≤ x1 ∧ x1 ≤ 6) → 0 ≤ 32 * (6 - x1) + 1 → 32 * (6 - x1) + 1 < (n : Int) → J X B N 0 0 2 [(0, rv B 210), (1, iv x1)] [] Mc) := by
    intro n
    induction n with
    | zero => exact by intros; exfalso; omega
    | succ n ih =>
      · intro x1 Mc hxx1 hI hF hk_0 hk_1 h2 hm0 hm1
        refine j_iload_n hX dX11_layRow_2 rfl 1 rfl ?_
        refine j_aload_n hX dX11_layRow_3 rfl 0 rfl ?_
        refine j_callVI hX lk_X11_385 (c_X11_many _ _ _ _ _ _ _ _ (by omega) hI hk_0 hk_1) (by omega) hce rfl rfl (by omega) (by omega) kc_210 rfl rfl (Nat.le_of_ble_eq_true rfl) dX11_layRow_4 (fun z1 M2 hz4 hp3 => ?_)
        obtain ⟨hE5, hq6⟩ := hp3
        replace hE5 := hE5.symm
        subst hE5
        refine j_icmp_ge (tgt := 28) hX dX11_layRow_7 (by decide) (by omega) (by omega) (fun hc7 => ?_) (fun hc7 => ?_)
        · skip
          refine j_aload_n hX dX11_layRow_28 rfl 0 rfl ?_
          refine j_aload_n hX dX11_layRow_29 rfl 0 rfl ?_
          refine j_callVI hX lk_X11_385 (c_X11_many _ _ _ _ _ _ _ _ (by omega) hI hk_0 hk_1) (by omega) hce rfl rfl (by omega) (by omega) kc_210 rfl rfl (Nat.le_of_ble_eq_true rfl) dX11_layRow_30 (fun z8 M9 hz11 hp10 => ?_)
          obtain ⟨hE12, hq13⟩ := hp10
          replace hE12 := hE12.symm
          subst hE12
          refine pf_X11_404 hX (by omega) (by omega) kc_210 (by omega) dX11_layRow_33 ?_
          refine j_up hI ro_210_54 (by omega) (by omega) (Or.inl (by omega)) (fun M14 w15 hw16 hM17 hI18 hf19 => ?_)
          have hk20 := kp_up hM17 (fun h => absurd h.2 (by decide)) hk_0
          have hk21 := kp_up hM17 (fun h => absurd h.1 (by decide)) hk_1
          have hF22 := Fr.put hF hM17 (by omega)
          exact hret _ _ _ dX11_layRow_36 ⟨hI18, hF22⟩
        · skip
          refine j_aload_n hX dX11_layRow_10 rfl 0 rfl ?_
          refine gf_X11_122 hX (by omega) (by omega) kc_210 (fc_210_53 hI) (by decide) dX11_layRow_11 ?_
          refine j_iload_n hX dX11_layRow_14 rfl 1 rfl ?_
          refine j_aload_n hX dX11_layRow_15 rfl 0 rfl ?_
          refine gf_X11_128 hX (by omega) (by omega) kc_210 (fc_210_56 hI) (by decide) dX11_layRow_16 ?_
          refine j_iload_n hX dX11_layRow_19 rfl 1 rfl ?_
          refine j_iald hX (by omega) (by omega) kc_248 (by omega) (by omega) (by omega) dX11_layRow_20 ?_
          refine j_name hI (ra_248 _) (fun v23 hv24 hl25 hh26 => ?_)
          refine j_iast hX (by omega) (by omega) kc_246 (by omega) (by omega) (by omega) (by omega) dX11_layRow_21 ?_
          refine j_up hI (ra_246 _) (by omega) (by omega) (Or.inl (by omega)) (fun M27 w28 hw29 hM30 hI31 hf32 => ?_)
          have hk33 := kp_up hM30 (fun h => absurd h.1 (by decide)) hk_0
          have hk34 := kp_up hM30 (fun h => absurd h.1 (by decide)) hk_1
          have hF35 := Fr.put hF hM30 (by omega)
          refine j_iinc (lv' := [(1, _), (0, _)]) hX dX11_layRow_22 1 rfl (by rw [hnL]; decide) rfl ?_
          refine j_goto (tgt := 2) hX dX11_layRow_25 (by decide) ?_
          refine j_sub [1, 0] rfl ?_
          exact ih _ _ (by omega) hI31 hF35 hk33 hk34 (by first | assumption | omega) (by omega) (by omega)
  show J X B N 0 0 0 [(0, rv B 210)] [] M
  refine j_iconst hX dX11_layRow_0 ?_
  refine j_istore_n (lv' := [(1, _), (0, _)]) hX dX11_layRow_1 rfl (by rw [hnL]; decide) rfl ?_
  refine j_sub [1, 0] rfl ?_
  refine (cp (Int.toNat (256 + 1))) _ _ (by omega) hI hF hbk hnr (by first | assumption | omega) ?_ ?_
  · omega
  · omega
set_option maxHeartbeats 2000000 in
set_option maxRecDepth 20000 in
theorem c_X11_liked (l : Launch) (D : va_G) (cy : Nat → ClassId) (B N : Nat) (bk : Int) (nr : Int) (M : MM) (hN : 257 ≤ N) (hI : Iv M) (hbk : M.1 210 40 = bk) (hnr : M.1 213 bk = nr) : CI l D cy B N 2 yX11_liked cX11_liked 3 (some .int) [rv B 210] M (fun z M' => M' = M ∧ (0 ≤ z ∧ z ≤ 6)) := by
  refine mk_CI (by decide) (Nat.le_of_ble_eq_true rfl) ?_
  intro X exl exD excy hnL hX hret
  have hce : 0 + 0 ≤ (xR X).cells ∧ 0 + 0 ≤ (xR X).slots := ⟨Nat.zero_le _, Nat.zero_le _⟩
  have hbk2 : 0 ≤ bk ∧ bk ≤ 1 := by have := hI.at 210 40 ro_210_40; omega
  have hnr2 : 0 ≤ nr ∧ nr ≤ 6 := by have := hI.at 213 bk (ra_213 _); omega
  have cp : ∀ n : Nat, (∀ (x1 x2 : Int), I32 x1 → I32 x2 → (0 ≤ x2 ∧ x2 ≤ 6) → (0 ≤ x1 ∧ x1 ≤ x2) → 0 ≤ 32 * (6 - x2) + 1 → 32 * (6 - x2) + 1 < (n : Int) → J X B N 0 0 4 [(0, rv B 210), (1, iv x1), (2, iv x2)] [] M) := by
    intro n
    induction n with
    | zero => exact by intros; exfalso; omega
    | succ n ih =>
      · intro x1 x2 hxx1 hxx2 h2 h3 hm0 hm1
        refine j_iload_n hX dX11_liked_4 rfl 2 rfl ?_
        refine j_aload_n hX dX11_liked_5 rfl 0 rfl ?_
        refine j_callVI hX lk_X11_385 (c_X11_many _ _ _ _ _ _ _ _ (by omega) hI hbk hnr) (by omega) hce rfl rfl (by omega) (by omega) kc_210 rfl rfl (Nat.le_of_ble_eq_true rfl) dX11_liked_6 (fun z1 M2 hz4 hp3 => ?_)
        obtain ⟨hE5, hq6⟩ := hp3
        replace hE5 := hE5.symm
        subst hE5
        refine j_icmp_ge (tgt := 40) hX dX11_liked_9 (by decide) (by omega) (by omega) (fun hc7 => ?_) (fun hc7 => ?_)
        · skip
          refine j_iload_n hX dX11_liked_40 rfl 1 rfl ?_
          exact hret _ _ _ _ dX11_liked_41 rfl (by omega) ⟨rfl, by first | assumption | omega⟩
        · skip
          refine j_iload_n hX dX11_liked_12 rfl 1 rfl ?_
          refine j_aload_n hX dX11_liked_13 rfl 0 rfl ?_
          refine j_iload_n hX dX11_liked_14 rfl 2 rfl ?_
          refine j_aload_n hX dX11_liked_15 rfl 0 rfl ?_
          refine gf_X11_128 hX (by omega) (by omega) kc_210 (fc_210_56 hI) (by decide) dX11_liked_16 ?_
          refine j_iload_n hX dX11_liked_19 rfl 2 rfl ?_
          refine j_iald hX (by omega) (by omega) kc_248 (by omega) (by omega) (by omega) dX11_liked_20 ?_
          refine j_name hI (ra_248 _) (fun v8 hv9 hl10 hh11 => ?_)
          refine j_callVI hX lk_X11_375 (c_X11_wantBy _ _ _ _ _ _ _ _ _ (by omega) hI (by omega) (by omega) hbk (by first | assumption | omega)) (by omega) hce rfl rfl (by omega) (by omega) kc_210 rfl rfl (Nat.le_of_ble_eq_true rfl) dX11_liked_21 (fun z12 M13 hz15 hp14 => ?_)
          have hE16 := hp14.symm
          subst hE16
          refine j_if_le (tgt := 31) hX dX11_liked_24 (by decide) (by omega) (fun hc17 => ?_) (fun hc17 => ?_)
          · skip
            refine j_iconst hX dX11_liked_31 ?_
            refine j_iadd hX dX11_liked_32 ?_
            refine j_istore_n (lv' := [(1, _), (0, _), (2, _)]) hX dX11_liked_33 rfl (by rw [hnL]; decide) rfl ?_
            refine j_iinc (lv' := [(2, _), (1, _), (0, _)]) hX dX11_liked_34 2 rfl (by rw [hnL]; decide) rfl ?_
            refine j_goto (tgt := 4) hX dX11_liked_37 (by decide) ?_
            refine j_sub [2, 1, 0] rfl ?_
            exact ih _ _ (by omega) (by omega) (by first | assumption | omega) (by first | assumption | omega) (by omega) (by omega)
          · skip
            refine j_iconst hX dX11_liked_27 ?_
            refine j_goto (tgt := 32) hX dX11_liked_28 (by decide) ?_
            refine j_iadd hX dX11_liked_32 ?_
            refine j_istore_n (lv' := [(1, _), (0, _), (2, _)]) hX dX11_liked_33 rfl (by rw [hnL]; decide) rfl ?_
            refine j_iinc (lv' := [(2, _), (1, _), (0, _)]) hX dX11_liked_34 2 rfl (by rw [hnL]; decide) rfl ?_
            refine j_goto (tgt := 4) hX dX11_liked_37 (by decide) ?_
            refine j_sub [2, 1, 0] rfl ?_
            exact ih _ _ (by omega) (by omega) (by first | assumption | omega) (by first | assumption | omega) (by omega) (by omega)
  show J X B N 0 0 0 [(0, rv B 210)] [] M
  refine j_iconst hX dX11_liked_0 ?_
  refine j_istore_n (lv' := [(1, _), (0, _)]) hX dX11_liked_1 rfl (by rw [hnL]; decide) rfl ?_
  refine j_iconst hX dX11_liked_2 ?_
  refine j_istore_n (lv' := [(2, _), (1, _), (0, _)]) hX dX11_liked_3 rfl (by rw [hnL]; decide) rfl ?_
  refine j_sub [2, 1, 0] rfl ?_
  refine (cp (Int.toNat (256 + 1))) _ _ (by omega) (by omega) (by first | assumption | omega) (by first | assumption | omega) ?_ ?_
  · omega
  · omega
set_option maxHeartbeats 2000000 in
set_option maxRecDepth 20000 in
theorem c_X11_best (l : Launch) (D : va_G) (cy : Nat → ClassId) (B N : Nat) (bk : Int) (nr : Int) (M : MM) (hN : 257 ≤ N) (hI : Iv M) (hbk : M.1 210 40 = bk) (hnr : M.1 213 bk = nr) : CI l D cy B N 3 yX11_best cX11_best 3 (some .int) [rv B 210] M (fun z M' => Iv M' ∧ Fr (fun a b => (a = 248) ∨ (a = 210 ∧ 54 ≤ b ∧ b ≤ 54) ∨ (a = 246)) M M') := by
  refine mk_CI (by decide) (Nat.le_of_ble_eq_true rfl) ?_
  intro X exl exD excy hnL hX hret
  have hce : 0 + 0 ≤ (xR X).cells ∧ 0 + 0 ≤ (xR X).slots := ⟨Nat.zero_le _, Nat.zero_le _⟩
  have hF : Fr (fun a b => (a = 248) ∨ (a = 210 ∧ 54 ≤ b ∧ b ≤ 54) ∨ (a = 246)) M M := Fr.rf
  have hbk2 : 0 ≤ bk ∧ bk ≤ 1 := by have := hI.at 210 40 ro_210_40; omega
  have hnr2 : 0 ≤ nr ∧ nr ≤ 6 := by have := hI.at 213 bk (ra_213 _); omega
  have cp : ∀ n : Nat, (∀ (x1 x2 : Int), ∀ (Mc : MM), I32 x1 → I32 x2 → Iv Mc → Fr (fun a b => (a = 248) ∨ (a = 210 ∧ 54 ≤ b ∧ b ≤ 54) ∨ (a = 246)) M Mc → Mc.1 210 40 = bk → Mc.1 213 bk = nr → (0 ≤ x2) → 0 ≤ 32 * (2147483648 - x2) + 1 → 32 * (2147483648 - x2) + 1 < (n : Int) → J X B N 0 0 4 [(0, rv B 210), (1, iv x1), (2, iv x2)] [] Mc) := by
    intro n
    induction n with
    | zero => exact by intros; exfalso; omega
    | succ n ih =>
      · intro x1 x2 Mc hxx1 hxx2 hI hF hk_0 hk_1 h2 hm0 hm1
        refine j_iload_n hX dX11_best_4 rfl 2 rfl ?_
        refine j_aload_n hX dX11_best_5 rfl 0 rfl ?_
        refine j_callVI hX lk_X11_459 (c_X11_rowsOfRooms _ _ _ _ _ _ _ _ (by omega) hI hk_0 hk_1) (by omega) hce rfl rfl (by omega) (by omega) kc_210 rfl rfl (Nat.le_of_ble_eq_true rfl) dX11_best_6 (fun z1 M2 hz4 hp3 => ?_)
        obtain ⟨hE5, hq6, hq7⟩ := hp3
        replace hE5 := hE5.symm
        subst hE5
        refine j_icmp_ge (tgt := 50) hX dX11_best_9 (by decide) (by omega) (by omega) (fun hc8 => ?_) (fun hc8 => ?_)
        · skip
          refine j_iload_n hX dX11_best_50 rfl 1 rfl ?_
          exact hret _ _ _ _ dX11_best_51 rfl (by omega) ⟨hI, hF⟩
        · skip
          refine j_aload_n hX dX11_best_12 rfl 0 rfl ?_
          refine j_iload_n hX dX11_best_13 rfl 2 rfl ?_
          refine j_callVI hX lk_X11_462 (c_X11_layLot _ _ _ _ _ _ _ _ _ (by omega) hI (by omega) hk_0 hk_1 (by first | assumption | omega)) (by omega) hce rfl rfl (by omega) (by omega) kc_210 rfl rfl (Nat.le_of_ble_eq_true rfl) dX11_best_14 (fun z9 M10 hz12 hp11 => ?_)
          obtain ⟨hI14, hG15, hb16, hq17, hq18⟩ := hp11
          have hk19 := kp_fr hG15 (by omega) hk_0
          have hk20 := kp_fr hG15 (by omega) hk_1
          have hF21 := Fr.trans hF hG15 (fun a b h => by omega)
          refine j_if_eq (tgt := 44) hX dX11_best_17 (by decide) (by omega) (fun hc22 => ?_) (fun hc22 => ?_)
          · skip
            clear hq17
            refine j_iinc (lv' := [(2, _), (0, _), (1, _)]) hX dX11_best_44 2 rfl (by rw [hnL]; decide) rfl ?_
            refine j_goto (tgt := 4) hX dX11_best_47 (by decide) ?_
            refine j_sub [1, 2, 0] rfl ?_
            exact ih _ _ _ (by omega) (by omega) hI14 hF21 hk19 hk20 (by first | assumption | omega) (by omega) (by omega)
          · skip
            have hi23 := hq17 (by omega)
            clear hq17
            refine j_iload_n hX dX11_best_20 rfl 1 rfl ?_
            refine j_if_lt (tgt := 35) hX dX11_best_21 (by decide) (by omega) (fun hc24 => ?_) (fun hc24 => ?_)
            · skip
              refine j_aload_n hX dX11_best_35 rfl 0 rfl ?_
              refine j_callVI hX lk_X11_474 (c_X11_wantsInRow _ _ _ _ _ _ _ _ (by omega) hI14 hk19 hk20) (by omega) hce rfl rfl (by omega) (by omega) kc_210 rfl rfl (Nat.le_of_ble_eq_true rfl) dX11_best_36 (fun z25 M26 hz28 hp27 => ?_)
              have hE29 := hp27.symm
              subst hE29
              refine j_istore_n (lv' := [(1, _), (0, _), (2, _)]) hX dX11_best_39 rfl (by rw [hnL]; decide) rfl ?_
              refine j_aload_n hX dX11_best_40 rfl 1 rfl ?_
              refine j_callVV hX lk_X11_471 (c_X11_layRow _ _ _ _ _ _ _ _ (by omega) hI14 hk19 hk20) (by omega) hce rfl rfl (by omega) (by omega) kc_210 rfl rfl (Nat.le_of_ble_eq_true rfl) dX11_best_41 (fun M31 hp32 => ?_)
              obtain ⟨hI35, hG36⟩ := hp32
              have hk37 := kp_fr hG36 (by omega) hk19
              have hk38 := kp_fr hG36 (by omega) hk20
              clear hk19 hk20
              have hF39 := Fr.trans hF21 hG36 (fun a b h => by omega)
              refine j_iinc (lv' := [(2, _), (1, _), (0, _)]) hX dX11_best_44 2 rfl (by rw [hnL]; decide) rfl ?_
              refine j_goto (tgt := 4) hX dX11_best_47 (by decide) ?_
              refine j_sub [2, 1, 0] rfl ?_
              exact ih _ _ _ (by omega) (by omega) hI35 hF39 hk37 hk38 (by first | assumption | omega) (by omega) (by omega)
            · skip
              refine j_aload_n hX dX11_best_24 rfl 0 rfl ?_
              refine j_callVI hX lk_X11_474 (c_X11_wantsInRow _ _ _ _ _ _ _ _ (by omega) hI14 hk19 hk20) (by omega) hce rfl rfl (by omega) (by omega) kc_210 rfl rfl (Nat.le_of_ble_eq_true rfl) dX11_best_25 (fun z40 M41 hz43 hp42 => ?_)
              have hE44 := hp42.symm
              subst hE44
              refine j_iload_n hX dX11_best_28 rfl 1 rfl ?_
              refine j_icmp_gt (tgt := 35) hX dX11_best_29 (by decide) (by omega) (by omega) (fun hc45 => ?_) (fun hc45 => ?_)
              · skip
                refine j_aload_n hX dX11_best_35 rfl 0 rfl ?_
                refine j_callVI hX lk_X11_474 (c_X11_wantsInRow _ _ _ _ _ _ _ _ (by omega) hI14 hk19 hk20) (by omega) hce rfl rfl (by omega) (by omega) kc_210 rfl rfl (Nat.le_of_ble_eq_true rfl) dX11_best_36 (fun z46 M47 hz49 hp48 => ?_)
                have hE50 := hp48.symm
                subst hE50
                refine j_istore_n (lv' := [(1, _), (0, _), (2, _)]) hX dX11_best_39 rfl (by rw [hnL]; decide) rfl ?_
                refine j_aload_n hX dX11_best_40 rfl 1 rfl ?_
                refine j_callVV hX lk_X11_471 (c_X11_layRow _ _ _ _ _ _ _ _ (by omega) hI14 hk19 hk20) (by omega) hce rfl rfl (by omega) (by omega) kc_210 rfl rfl (Nat.le_of_ble_eq_true rfl) dX11_best_41 (fun M52 hp53 => ?_)
                obtain ⟨hI56, hG57⟩ := hp53
                have hk58 := kp_fr hG57 (by omega) hk19
                have hk59 := kp_fr hG57 (by omega) hk20
                clear hk19 hk20
                have hF60 := Fr.trans hF21 hG57 (fun a b h => by omega)
                refine j_iinc (lv' := [(2, _), (1, _), (0, _)]) hX dX11_best_44 2 rfl (by rw [hnL]; decide) rfl ?_
                refine j_goto (tgt := 4) hX dX11_best_47 (by decide) ?_
                refine j_sub [2, 1, 0] rfl ?_
                exact ih _ _ _ (by omega) (by omega) hI56 hF60 hk58 hk59 (by first | assumption | omega) (by omega) (by omega)
              · skip
                refine j_goto (tgt := 44) hX dX11_best_32 (by decide) ?_
                refine j_iinc (lv' := [(2, _), (0, _), (1, _)]) hX dX11_best_44 2 rfl (by rw [hnL]; decide) rfl ?_
                refine j_goto (tgt := 4) hX dX11_best_47 (by decide) ?_
                refine j_sub [1, 2, 0] rfl ?_
                exact ih _ _ _ (by omega) (by omega) hI14 hF21 hk19 hk20 (by first | assumption | omega) (by omega) (by omega)
  show J X B N 0 0 0 [(0, rv B 210)] [] M
  refine j_iconst hX dX11_best_0 ?_
  refine j_istore_n (lv' := [(1, _), (0, _)]) hX dX11_best_1 rfl (by rw [hnL]; decide) rfl ?_
  refine j_iconst hX dX11_best_2 ?_
  refine j_istore_n (lv' := [(2, _), (1, _), (0, _)]) hX dX11_best_3 rfl (by rw [hnL]; decide) rfl ?_
  refine j_sub [2, 1, 0] rfl ?_
  refine (cp (Int.toNat (68719476800 + 1))) _ _ _ (by omega) (by omega) hI hF hbk hnr (by first | assumption | omega) ?_ ?_
  · omega
  · omega
set_option maxHeartbeats 2000000 in
set_option maxRecDepth 20000 in
theorem c_X11_odds (l : Launch) (D : va_G) (cy : Nat → ClassId) (B N : Nat) (bk : Int) (nr : Int) (a : Int) (b : Int) (M : MM) (hN : 257 ≤ N) (hI : Iv M) (hpa : I32 a) (hpb : I32 b) (hbk : M.1 210 40 = bk) (hnr : M.1 213 bk = nr) : CI l D cy B N 3 yX11_odds cX11_odds 6 (some .int) [rv B 210, iv a, iv b] M (fun z M' => Iv M' ∧ Fr (fun a (_ : Int) => (a = 248)) M M') := by
  refine mk_CI (by decide) (Nat.le_of_ble_eq_true rfl) ?_
  intro X exl exD excy hnL hX hret
  have hce : 0 + 0 ≤ (xR X).cells ∧ 0 + 0 ≤ (xR X).slots := ⟨Nat.zero_le _, Nat.zero_le _⟩
  have hF : Fr (fun a (_ : Int) => (a = 248)) M M := Fr.rf
  have hbk2 : 0 ≤ bk ∧ bk ≤ 1 := by have := hI.at 210 40 ro_210_40; omega
  have hnr2 : 0 ≤ nr ∧ nr ≤ 6 := by have := hI.at 213 bk (ra_213 _); omega
  have hv0 := v0_lt hnr2
  have cp : ∀ n : Nat, (∀ (x3 x4 x5 : Int), ∀ (Mc : MM), I32 x3 → I32 x4 → I32 x5 → Iv Mc → Fr (fun a (_ : Int) => (a = 248)) M Mc → Mc.1 210 40 = bk → Mc.1 213 bk = nr → (0 ≤ x5 ∧ x5 ≤ 46656 ∧ 0 ≤ x3 ∧ x3 ≤ x4 ∧ x4 ≤ x5) → (x5 ≤ v0 nr ∨ 1 ≤ x4) → 0 ≤ 32 * (2147483648 - x5) + 1 → 32 * (2147483648 - x5) + 1 < (n : Int) → J X B N 0 0 29 [(0, rv B 210), (1, iv a), (2, iv b), (3, iv x3), (4, iv x4), (5, iv x5)] [] Mc) := by
    intro n
    induction n with
    | zero => exact by intros; exfalso; omega
    | succ n ih =>
      · intro x3 x4 x5 Mc hxx3 hxx4 hxx5 hI hF hk_0 hk_1 h2 h3 hm0 hm1
        refine j_iload hX dX11_odds_29 5 rfl ?_
        refine j_aload_n hX dX11_odds_31 rfl 0 rfl ?_
        refine j_callVI hX lk_X11_459 (c_X11_rowsOfRooms _ _ _ _ _ _ _ _ (by omega) hI hk_0 hk_1) (by omega) hce rfl rfl (by omega) (by omega) kc_210 rfl rfl (Nat.le_of_ble_eq_true rfl) dX11_odds_32 (fun z1 M2 hz4 hp3 => ?_)
        obtain ⟨hE5, hq6, hq7⟩ := hp3
        replace hE5 := hE5.symm
        subst hE5
        refine j_icmp_ge (tgt := 75) hX dX11_odds_35 (by decide) (by omega) (by omega) (fun hc8 => ?_) (fun hc8 => ?_)
        · skip
          refine j_iload_n hX dX11_odds_75 rfl 2 rfl ?_
          refine j_if_ne (tgt := 83) hX dX11_odds_76 (by decide) (by omega) (fun hc9 => ?_) (fun hc9 => ?_)
          · skip
            refine j_iload hX dX11_odds_83 4 rfl ?_
            refine j_iload hX dX11_odds_85 4 rfl ?_
            refine j_iload_n hX dX11_odds_87 rfl 3 rfl ?_
            refine j_callSI hX lk_X11_480 (c_X11_divisor _ _ _ _ _ _ _ _ (by omega) (by omega) (by first | assumption | omega)) (by omega) hce rfl rfl (Nat.le_of_ble_eq_true rfl) dX11_odds_88 (fun z10 M11 hz13 hp12 => ?_)
            obtain ⟨hE14, hq15⟩ := hp12
            replace hE14 := hE14.symm
            subst hE14
            refine j_idiv hX dX11_odds_91 (by omega) (by omega) (by omega) (fun z16 hz17 hy18 => ?_)
            exact hret _ _ _ _ dX11_odds_92 rfl (by omega) ⟨hI, hF⟩
          · skip
            refine j_iload_n hX dX11_odds_79 rfl 3 rfl ?_
            refine j_goto (tgt := 85) hX dX11_odds_80 (by decide) ?_
            refine j_iload hX dX11_odds_85 4 rfl ?_
            refine j_iload_n hX dX11_odds_87 rfl 3 rfl ?_
            refine j_callSI hX lk_X11_480 (c_X11_divisor _ _ _ _ _ _ _ _ (by omega) (by omega) (by first | assumption | omega)) (by omega) hce rfl rfl (Nat.le_of_ble_eq_true rfl) dX11_odds_88 (fun z19 M20 hz22 hp21 => ?_)
            obtain ⟨hE23, hq24⟩ := hp21
            replace hE23 := hE23.symm
            subst hE23
            refine j_idiv hX dX11_odds_91 (by omega) (by omega) (by omega) (fun z25 hz26 hy27 => ?_)
            exact hret _ _ _ _ dX11_odds_92 rfl (by omega) ⟨hI, hF⟩
        · skip
          refine j_aload_n hX dX11_odds_38 rfl 0 rfl ?_
          refine j_iload hX dX11_odds_39 5 rfl ?_
          refine j_callVI hX lk_X11_462 (c_X11_layLot _ _ _ _ _ _ _ _ _ (by omega) hI (by omega) hk_0 hk_1 (by first | assumption | omega)) (by omega) hce rfl rfl (by omega) (by omega) kc_210 rfl rfl (Nat.le_of_ble_eq_true rfl) dX11_odds_41 (fun z28 M29 hz31 hp30 => ?_)
          obtain ⟨hI33, hG34, hb35, hq36, hq37⟩ := hp30
          have hk38 := kp_fr hG34 (by omega) hk_0
          have hk39 := kp_fr hG34 (by omega) hk_1
          have hF40 := Fr.trans hF hG34 (fun a b h => by omega)
          refine j_if_ne (tgt := 50) hX dX11_odds_44 (by decide) (by omega) (fun hc41 => ?_) (fun hc41 => ?_)
          · skip
            have hi42 := hq36 (by omega)
            clear hq36
            refine j_iinc (lv' := [(4, _), (0, _), (1, _), (2, _), (3, _), (5, _)]) hX dX11_odds_50 4 rfl (by rw [hnL]; decide) rfl ?_
            refine j_iload_n hX dX11_odds_53 rfl 4 rfl ?_
            refine j_aload_n hX dX11_odds_54 rfl 1 rfl ?_
            refine j_callVI hX lk_X11_477 (c_X11_liked _ _ _ _ _ _ _ _ (by omega) hI33 hk38 hk39) (by omega) hce rfl rfl (by omega) (by omega) kc_210 rfl rfl (Nat.le_of_ble_eq_true rfl) dX11_odds_55 (fun z43 M44 hz46 hp45 => ?_)
            obtain ⟨hE47, hq48⟩ := hp45
            replace hE47 := hE47.symm
            subst hE47
            refine j_iload_n hX dX11_odds_58 rfl 2 rfl ?_
            refine j_icmp_lt (tgt := 66) hX dX11_odds_59 (by decide) (by omega) (by omega) (fun hc49 => ?_) (fun hc49 => ?_)
            · skip
              refine j_iconst hX dX11_odds_66 ?_
              refine j_iadd hX dX11_odds_67 ?_
              refine j_istore_n (lv' := [(3, _), (4, _), (0, _), (1, _), (2, _), (5, _)]) hX dX11_odds_68 rfl (by rw [hnL]; decide) rfl ?_
              refine j_iinc (lv' := [(5, _), (3, _), (4, _), (0, _), (1, _), (2, _)]) hX dX11_odds_69 5 rfl (by rw [hnL]; decide) rfl ?_
              refine j_goto (tgt := 29) hX dX11_odds_72 (by decide) ?_
              refine j_sub [3, 4, 5, 1, 2, 0] rfl ?_
              exact ih _ _ _ _ (by omega) (by omega) (by omega) hI33 hF40 hk38 hk39 (by first | assumption | omega) (by first | assumption | omega) (by omega) (by omega)
            · skip
              refine j_iconst hX dX11_odds_62 ?_
              refine j_goto (tgt := 67) hX dX11_odds_63 (by decide) ?_
              refine j_iadd hX dX11_odds_67 ?_
              refine j_istore_n (lv' := [(3, _), (4, _), (0, _), (1, _), (2, _), (5, _)]) hX dX11_odds_68 rfl (by rw [hnL]; decide) rfl ?_
              refine j_iinc (lv' := [(5, _), (3, _), (4, _), (0, _), (1, _), (2, _)]) hX dX11_odds_69 5 rfl (by rw [hnL]; decide) rfl ?_
              refine j_goto (tgt := 29) hX dX11_odds_72 (by decide) ?_
              refine j_sub [3, 4, 5, 1, 2, 0] rfl ?_
              exact ih _ _ _ _ (by omega) (by omega) (by omega) hI33 hF40 hk38 hk39 (by first | assumption | omega) (by first | assumption | omega) (by omega) (by omega)
          · skip
            clear hq36
            refine j_goto (tgt := 69) hX dX11_odds_47 (by decide) ?_
            refine j_iinc (lv' := [(5, _), (0, _), (1, _), (2, _), (3, _), (4, _)]) hX dX11_odds_69 5 rfl (by rw [hnL]; decide) rfl ?_
            refine j_goto (tgt := 29) hX dX11_odds_72 (by decide) ?_
            refine j_sub [1, 2, 3, 4, 5, 0] rfl ?_
            exact ih _ _ _ _ (by omega) (by omega) (by omega) hI33 hF40 hk38 hk39 (by first | assumption | omega) (by first | assumption | omega) (by omega) (by omega)
  show J X B N 0 0 0 [(0, rv B 210), (1, iv a), (2, iv b)] [] M
  refine j_iload_n hX dX11_odds_0 rfl 1 rfl ?_
  refine j_iconst hX dX11_odds_1 ?_
  refine j_bipush hX dX11_odds_2 rfl ?_
  refine j_callSI hX lk_X11_388 (c_X11_isIn _ _ _ _ _ _ _ _ _ (by omega) (by omega) (by omega)) (by omega) hce rfl rfl (Nat.le_of_ble_eq_true rfl) dX11_odds_4 (fun z50 M51 hz53 hp52 => ?_)
  obtain ⟨hE54, hb55, hq56, hq57⟩ := hp52
  replace hE54 := hE54.symm
  subst hE54
  refine j_if_eq (tgt := 19) hX dX11_odds_7 (by decide) (by omega) (fun hc58 => ?_) (fun hc58 => ?_)
  · skip
    clear hq56
    have hi59 := hq57 (by omega)
    clear hq57
    refine j_iconst hX dX11_odds_19 ?_
    exact hret _ _ _ _ dX11_odds_20 rfl (by omega) ⟨hI, hF⟩
  · skip
    have hi60 := hq56 (by omega)
    clear hq56
    clear hq57
    refine j_iload_n hX dX11_odds_10 rfl 2 rfl ?_
    refine j_iconst hX dX11_odds_11 ?_
    refine j_iconst hX dX11_odds_12 ?_
    refine j_callSI hX lk_X11_388 (c_X11_isIn _ _ _ _ _ _ _ _ _ (by omega) (by omega) (by omega)) (by omega) hce rfl rfl (Nat.le_of_ble_eq_true rfl) dX11_odds_13 (fun z61 M62 hz64 hp63 => ?_)
    obtain ⟨hE65, hb66, hq67, hq68⟩ := hp63
    replace hE65 := hE65.symm
    subst hE65
    refine j_if_ne (tgt := 21) hX dX11_odds_16 (by decide) (by omega) (fun hc69 => ?_) (fun hc69 => ?_)
    · skip
      have hi70 := hq67 (by omega)
      clear hq67
      clear hq68
      refine j_iconst hX dX11_odds_21 ?_
      refine j_istore_n (lv' := [(3, _), (0, _), (1, _), (2, _)]) hX dX11_odds_22 rfl (by rw [hnL]; decide) rfl ?_
      refine j_iconst hX dX11_odds_23 ?_
      refine j_istore (lv' := [(4, _), (3, _), (0, _), (1, _), (2, _)]) hX dX11_odds_24 (by rw [hnL]; decide) rfl ?_
      refine j_iconst hX dX11_odds_26 ?_
      refine j_istore (lv' := [(5, _), (4, _), (3, _), (0, _), (1, _), (2, _)]) hX dX11_odds_27 (by rw [hnL]; decide) rfl ?_
      refine j_sub [3, 4, 5, 2, 1, 0] rfl ?_
      refine (cp (Int.toNat (68719476800 + 1))) _ _ _ _ (by omega) (by omega) (by omega) hI hF hbk hnr (by first | assumption | omega) (by first | assumption | omega) ?_ ?_
      · omega
      · omega
    · skip
      clear hq67
      have hi71 := hq68 (by omega)
      clear hq68
      refine j_iconst hX dX11_odds_19 ?_
      exact hret _ _ _ _ dX11_odds_20 rfl (by omega) ⟨hI, hF⟩
set_option maxHeartbeats 2000000 in
set_option maxRecDepth 20000 in
theorem c_X11_fair (l : Launch) (D : va_G) (cy : Nat → ClassId) (B N : Nat) (bk : Int) (nr : Int) (M : MM) (hN : 257 ≤ N) (hI : Iv M) (hbk : M.1 210 40 = bk) (hnr : M.1 213 bk = nr) : CI l D cy B N 3 yX11_fair cX11_fair 5 (some .int) [rv B 210] M (fun z M' => Iv M' ∧ Fr (fun a (_ : Int) => (a = 248)) M M') := by
  refine mk_CI (by decide) (Nat.le_of_ble_eq_true rfl) ?_
  intro X exl exD excy hnL hX hret
  have hce : 0 + 0 ≤ (xR X).cells ∧ 0 + 0 ≤ (xR X).slots := ⟨Nat.zero_le _, Nat.zero_le _⟩
  have hF : Fr (fun a (_ : Int) => (a = 248)) M M := Fr.rf
  have hbk2 : 0 ≤ bk ∧ bk ≤ 1 := by have := hI.at 210 40 ro_210_40; omega
  have hnr2 : 0 ≤ nr ∧ nr ≤ 6 := by have := hI.at 213 bk (ra_213 _); omega
  have cp : ∀ n : Nat, (∀ (x1 x2 : Int), ∀ (Mc : MM), I32 x1 → I32 x2 → Iv Mc → Fr (fun a (_ : Int) => (a = 248)) M Mc → Mc.1 210 40 = bk → Mc.1 213 bk = nr → (0 ≤ x2 ∧ 0 ≤ x1 ∧ x1 ≤ x2) → 0 ≤ 32 * (100 * (2147483648 - x2) + 50) + 2 → 32 * (100 * (2147483648 - x2) + 50) + 2 < (n : Int) → J X B N 0 0 4 [(0, rv B 210), (1, iv x1), (2, iv x2)] [] Mc) ∧ (∀ (x1 x2 x3 x4 : Int), ∀ (Mc : MM), I32 x1 → I32 x2 → I32 x3 → I32 x4 → Iv Mc → Fr (fun a (_ : Int) => (a = 248)) M Mc → Mc.1 210 40 = bk → Mc.1 213 bk = nr → (0 ≤ x2 ∧ x2 ≤ 46656 ∧ 0 ≤ x1 ∧ x1 ≤ x2 ∧ 0 ≤ x3 ∧ x3 ≤ 1 ∧ 0 ≤ x4 ∧ x4 ≤ 6) → 0 ≤ 32 * (100 * (2147483648 - x2) + 10 - x4) + 1 → 32 * (100 * (2147483648 - x2) + 10 - x4) + 1 < (n : Int) → J X B N 0 0 35 [(0, rv B 210), (1, iv x1), (2, iv x2), (3, iv x3), (4, iv x4)] [] Mc) := by
    intro n
    induction n with
    | zero => exact ⟨by intros; exfalso; omega, by intros; exfalso; omega⟩
    | succ n ih =>
      refine ⟨?_, ?_⟩
      · intro x1 x2 Mc hxx1 hxx2 hI hF hk_0 hk_1 h2 hm0 hm1
        refine j_iload_n hX dX11_fair_4 rfl 2 rfl ?_
        refine j_aload_n hX dX11_fair_5 rfl 0 rfl ?_
        refine j_callVI hX lk_X11_459 (c_X11_rowsOfRooms _ _ _ _ _ _ _ _ (by omega) hI hk_0 hk_1) (by omega) hce rfl rfl (by omega) (by omega) kc_210 rfl rfl (Nat.le_of_ble_eq_true rfl) dX11_fair_6 (fun z1 M2 hz4 hp3 => ?_)
        obtain ⟨hE5, hq6, hq7⟩ := hp3
        replace hE5 := hE5.symm
        subst hE5
        refine j_icmp_ge (tgt := 90) hX dX11_fair_9 (by decide) (by omega) (by omega) (fun hc8 => ?_) (fun hc8 => ?_)
        · skip
          refine j_iload_n hX dX11_fair_90 rfl 1 rfl ?_
          exact hret _ _ _ _ dX11_fair_91 rfl (by omega) ⟨hI, hF⟩
        · skip
          refine j_aload_n hX dX11_fair_12 rfl 0 rfl ?_
          refine j_iload_n hX dX11_fair_13 rfl 2 rfl ?_
          refine j_callVI hX lk_X11_462 (c_X11_layLot _ _ _ _ _ _ _ _ _ (by omega) hI (by omega) hk_0 hk_1 (by first | assumption | omega)) (by omega) hce rfl rfl (by omega) (by omega) kc_210 rfl rfl (Nat.le_of_ble_eq_true rfl) dX11_fair_14 (fun z9 M10 hz12 hp11 => ?_)
          obtain ⟨hI14, hG15, hb16, hq17, hq18⟩ := hp11
          have hk19 := kp_fr hG15 (by omega) hk_0
          have hk20 := kp_fr hG15 (by omega) hk_1
          have hF21 := Fr.trans hF hG15 (fun a b h => by omega)
          refine j_if_eq (tgt := 84) hX dX11_fair_17 (by decide) (by omega) (fun hc22 => ?_) (fun hc22 => ?_)
          · skip
            clear hq17
            refine j_iinc (lv' := [(2, _), (0, _), (1, _)]) hX dX11_fair_84 2 rfl (by rw [hnL]; decide) rfl ?_
            refine j_goto (tgt := 4) hX dX11_fair_87 (by decide) ?_
            refine j_sub [1, 2, 0] rfl ?_
            exact ih.1 _ _ _ (by omega) (by omega) hI14 hF21 hk19 hk20 (by first | assumption | omega) (by omega) (by omega)
          · skip
            have hi23 := hq17 (by omega)
            clear hq17
            refine j_aload_n hX dX11_fair_20 rfl 0 rfl ?_
            refine j_callVI hX lk_X11_465 (c_X11_doAimsHold _ _ _ _ _ _ _ _ (by omega) hI14 hk19 hk20) (by omega) hce rfl rfl (by omega) (by omega) kc_210 rfl rfl (Nat.le_of_ble_eq_true rfl) dX11_fair_21 (fun z24 M25 hz27 hp26 => ?_)
            obtain ⟨hE28, hb29⟩ := hp26
            replace hE28 := hE28.symm
            subst hE28
            refine j_if_ne (tgt := 30) hX dX11_fair_24 (by decide) (by omega) (fun hc30 => ?_) (fun hc30 => ?_)
            · skip
              refine j_iconst hX dX11_fair_30 ?_
              refine j_istore_n (lv' := [(3, _), (0, _), (1, _), (2, _)]) hX dX11_fair_31 rfl (by rw [hnL]; decide) rfl ?_
              refine j_iconst hX dX11_fair_32 ?_
              refine j_istore (lv' := [(4, _), (3, _), (0, _), (1, _), (2, _)]) hX dX11_fair_33 (by rw [hnL]; decide) rfl ?_
              refine j_sub [2, 3, 4, 1, 0] rfl ?_
              exact ih.2 _ _ _ _ _ (by omega) (by omega) (by omega) (by omega) hI14 hF21 hk19 hk20 (by first | assumption | omega) (by omega) (by omega)
            · skip
              refine j_goto (tgt := 84) hX dX11_fair_27 (by decide) ?_
              refine j_iinc (lv' := [(2, _), (0, _), (1, _)]) hX dX11_fair_84 2 rfl (by rw [hnL]; decide) rfl ?_
              refine j_goto (tgt := 4) hX dX11_fair_87 (by decide) ?_
              refine j_sub [1, 2, 0] rfl ?_
              exact ih.1 _ _ _ (by omega) (by omega) hI14 hF21 hk19 hk20 (by first | assumption | omega) (by omega) (by omega)
      · intro x1 x2 x3 x4 Mc hxx1 hxx2 hxx3 hxx4 hI hF hk_0 hk_1 h2 hm0 hm1
        refine j_iload hX dX11_fair_35 4 rfl ?_
        refine j_aload_n hX dX11_fair_37 rfl 0 rfl ?_
        refine j_callVI hX lk_X11_385 (c_X11_many _ _ _ _ _ _ _ _ (by omega) hI hk_0 hk_1) (by omega) hce rfl rfl (by omega) (by omega) kc_210 rfl rfl (Nat.le_of_ble_eq_true rfl) dX11_fair_38 (fun z31 M32 hz34 hp33 => ?_)
        obtain ⟨hE35, hq36⟩ := hp33
        replace hE35 := hE35.symm
        subst hE35
        refine j_icmp_ge (tgt := 72) hX dX11_fair_41 (by decide) (by omega) (by omega) (fun hc37 => ?_) (fun hc37 => ?_)
        · skip
          refine j_iload_n hX dX11_fair_72 rfl 1 rfl ?_
          refine j_iload_n hX dX11_fair_73 rfl 3 rfl ?_
          refine j_if_eq (tgt := 81) hX dX11_fair_74 (by decide) (by omega) (fun hc38 => ?_) (fun hc38 => ?_)
          · skip
            refine j_iconst hX dX11_fair_81 ?_
            refine j_iadd hX dX11_fair_82 ?_
            refine j_istore_n (lv' := [(1, _), (0, _), (2, _), (3, _), (4, _)]) hX dX11_fair_83 rfl (by rw [hnL]; decide) rfl ?_
            refine j_iinc (lv' := [(2, _), (1, _), (0, _), (3, _), (4, _)]) hX dX11_fair_84 2 rfl (by rw [hnL]; decide) rfl ?_
            refine j_goto (tgt := 4) hX dX11_fair_87 (by decide) ?_
            refine j_sub [2, 1, 0] rfl ?_
            exact ih.1 _ _ _ (by omega) (by omega) hI hF hk_0 hk_1 (by first | assumption | omega) (by omega) (by omega)
          · skip
            refine j_iconst hX dX11_fair_77 ?_
            refine j_goto (tgt := 82) hX dX11_fair_78 (by decide) ?_
            refine j_iadd hX dX11_fair_82 ?_
            refine j_istore_n (lv' := [(1, _), (0, _), (2, _), (3, _), (4, _)]) hX dX11_fair_83 rfl (by rw [hnL]; decide) rfl ?_
            refine j_iinc (lv' := [(2, _), (1, _), (0, _), (3, _), (4, _)]) hX dX11_fair_84 2 rfl (by rw [hnL]; decide) rfl ?_
            refine j_goto (tgt := 4) hX dX11_fair_87 (by decide) ?_
            refine j_sub [2, 1, 0] rfl ?_
            exact ih.1 _ _ _ (by omega) (by omega) hI hF hk_0 hk_1 (by first | assumption | omega) (by omega) (by omega)
        · skip
          refine j_iload_n hX dX11_fair_44 rfl 3 rfl ?_
          refine j_if_eq (tgt := 64) hX dX11_fair_45 (by decide) (by omega) (fun hc39 => ?_) (fun hc39 => ?_)
          · skip
            refine j_iconst hX dX11_fair_64 ?_
            refine j_istore_n (lv' := [(3, _), (0, _), (1, _), (2, _), (4, _)]) hX dX11_fair_65 rfl (by rw [hnL]; decide) rfl ?_
            refine j_iinc (lv' := [(4, _), (3, _), (0, _), (1, _), (2, _)]) hX dX11_fair_66 4 rfl (by rw [hnL]; decide) rfl ?_
            refine j_goto (tgt := 35) hX dX11_fair_69 (by decide) ?_
            refine j_sub [2, 3, 4, 1, 0] rfl ?_
            exact ih.2 _ _ _ _ _ (by omega) (by omega) (by omega) (by omega) hI hF hk_0 hk_1 (by first | assumption | omega) (by omega) (by omega)
          · skip
            refine j_aload_n hX dX11_fair_48 rfl 0 rfl ?_
            refine gf_X11_128 hX (by omega) (by omega) kc_210 (fc_210_56 hI) (by decide) dX11_fair_49 ?_
            refine j_iload hX dX11_fair_52 4 rfl ?_
            refine j_iald hX (by omega) (by omega) kc_248 (by omega) (by omega) (by omega) dX11_fair_54 ?_
            refine j_name hI (ra_248 _) (fun v40 hv41 hl42 hh43 => ?_)
            refine j_iload hX dX11_fair_55 4 rfl ?_
            refine j_icmp_eq (tgt := 64) hX dX11_fair_57 (by decide) (by omega) (by omega) (fun hc44 => ?_) (fun hc44 => ?_)
            · skip
              refine j_iconst hX dX11_fair_64 ?_
              refine j_istore_n (lv' := [(3, _), (0, _), (1, _), (2, _), (4, _)]) hX dX11_fair_65 rfl (by rw [hnL]; decide) rfl ?_
              refine j_iinc (lv' := [(4, _), (3, _), (0, _), (1, _), (2, _)]) hX dX11_fair_66 4 rfl (by rw [hnL]; decide) rfl ?_
              refine j_goto (tgt := 35) hX dX11_fair_69 (by decide) ?_
              refine j_sub [2, 3, 4, 1, 0] rfl ?_
              exact ih.2 _ _ _ _ _ (by omega) (by omega) (by omega) (by omega) hI hF hk_0 hk_1 (by first | assumption | omega) (by omega) (by omega)
            · skip
              refine j_iconst hX dX11_fair_60 ?_
              refine j_goto (tgt := 65) hX dX11_fair_61 (by decide) ?_
              refine j_istore_n (lv' := [(3, _), (0, _), (1, _), (2, _), (4, _)]) hX dX11_fair_65 rfl (by rw [hnL]; decide) rfl ?_
              refine j_iinc (lv' := [(4, _), (3, _), (0, _), (1, _), (2, _)]) hX dX11_fair_66 4 rfl (by rw [hnL]; decide) rfl ?_
              refine j_goto (tgt := 35) hX dX11_fair_69 (by decide) ?_
              refine j_sub [2, 3, 4, 1, 0] rfl ?_
              exact ih.2 _ _ _ _ _ (by omega) (by omega) (by omega) (by omega) hI hF hk_0 hk_1 (by first | assumption | omega) (by omega) (by omega)
  show J X B N 0 0 0 [(0, rv B 210)] [] M
  refine j_iconst hX dX11_fair_0 ?_
  refine j_istore_n (lv' := [(1, _), (0, _)]) hX dX11_fair_1 rfl (by rw [hnL]; decide) rfl ?_
  refine j_iconst hX dX11_fair_2 ?_
  refine j_istore_n (lv' := [(2, _), (1, _), (0, _)]) hX dX11_fair_3 rfl (by rw [hnL]; decide) rfl ?_
  refine j_sub [2, 1, 0] rfl ?_
  refine (cp (Int.toNat (9600000000064 + 1))).1 _ _ _ (by omega) (by omega) hI hF hbk hnr (by first | assumption | omega) ?_ ?_
  · omega
  · omega
set_option maxHeartbeats 2000000 in
set_option maxRecDepth 20000 in
theorem c_X11_doesFit (l : Launch) (D : va_G) (cy : Nat → ClassId) (B N : Nat) (a : Int) (M : MM) (hN : 257 ≤ N) (hI : Iv M) (hpa : I32 a) : CI l D cy B N 1 yX11_doesFit cX11_doesFit 4 (some .boolean) [rv B 210, iv a] M (fun z M' => M' = M ∧ (0 ≤ z ∧ z ≤ 1)) := by
  refine mk_CI (by decide) (Nat.le_of_ble_eq_true rfl) ?_
  intro X exl exD excy hnL hX hret
  have hce : 0 + 0 ≤ (xR X).cells ∧ 0 + 0 ≤ (xR X).slots := ⟨Nat.zero_le _, Nat.zero_le _⟩
  have cp : ∀ n : Nat, (∀ (x2 : Int), I32 x2 → (0 ≤ x2 ∧ x2 ≤ 30) → 0 ≤ 32 * (30 - x2) + 1 → 32 * (30 - x2) + 1 < (n : Int) → J X B N 0 0 2 [(0, rv B 210), (1, iv a), (2, iv x2)] [] M) := by
    intro n
    induction n with
    | zero => exact by intros; exfalso; omega
    | succ n ih =>
      · intro x2 hxx2 h2 hm0 hm1
        refine j_iload_n hX dX11_doesFit_2 rfl 2 rfl ?_
        refine j_aload_n hX dX11_doesFit_3 rfl 0 rfl ?_
        refine gf_X11_401 hX (by omega) (by omega) kc_210 dX11_doesFit_4 ?_
        refine j_name hI ro_210_63 (fun v1 hv2 hl3 hh4 => ?_)
        have hk5 := hv2.symm
        refine j_icmp_ge (tgt := 86) hX dX11_doesFit_7 (by decide) (by omega) (by omega) (fun hc6 => ?_) (fun hc6 => ?_)
        · skip
          refine j_iconst hX dX11_doesFit_86 ?_
          exact hret _ _ _ _ dX11_doesFit_87 (nb (by omega)) (by omega) ⟨rfl, by omega⟩
        · skip
          refine j_aload_n hX dX11_doesFit_10 rfl 0 rfl ?_
          refine gf_X11_140 hX (by omega) (by omega) kc_210 (fc_210_60 hI) (by decide) dX11_doesFit_11 ?_
          refine j_iload_n hX dX11_doesFit_14 rfl 2 rfl ?_
          refine j_iald hX (by omega) (by omega) kc_252 (by omega) (by omega) (by omega) dX11_doesFit_15 ?_
          refine j_name hI (ra_252 _) (fun v7 hv8 hl9 hh10 => ?_)
          refine j_iload_n hX dX11_doesFit_16 rfl 1 rfl ?_
          refine j_icmp_gt (tgt := 80) hX dX11_doesFit_17 (by decide) (by omega) (by omega) (fun hc11 => ?_) (fun hc11 => ?_)
          · skip
            refine j_iinc (lv' := [(2, _), (0, _), (1, _)]) hX dX11_doesFit_80 2 rfl (by rw [hnL]; decide) rfl ?_
            refine j_goto (tgt := 2) hX dX11_doesFit_83 (by decide) ?_
            refine j_sub [1, 2, 0] rfl ?_
            exact ih _ (by omega) (by first | assumption | omega) (by omega) (by omega)
          · skip
            refine j_aload_n hX dX11_doesFit_20 rfl 0 rfl ?_
            refine gf_X11_143 hX (by omega) (by omega) kc_210 (fc_210_61 hI) (by decide) dX11_doesFit_21 ?_
            refine j_iload_n hX dX11_doesFit_24 rfl 2 rfl ?_
            refine j_iald hX (by omega) (by omega) kc_253 (by omega) (by omega) (by omega) dX11_doesFit_25 ?_
            refine j_name hI (ra_253 _) (fun v12 hv13 hl14 hh15 => ?_)
            refine j_if_lt (tgt := 42) hX dX11_doesFit_26 (by decide) (by omega) (fun hc16 => ?_) (fun hc16 => ?_)
            · skip
              refine j_aload_n hX dX11_doesFit_42 rfl 0 rfl ?_
              refine gf_X11_128 hX (by omega) (by omega) kc_210 (fc_210_56 hI) (by decide) dX11_doesFit_43 ?_
              refine j_aload_n hX dX11_doesFit_46 rfl 0 rfl ?_
              refine gf_X11_131 hX (by omega) (by omega) kc_210 (fc_210_57 hI) (by decide) dX11_doesFit_47 ?_
              refine j_iload_n hX dX11_doesFit_50 rfl 2 rfl ?_
              refine j_iald hX (by omega) (by omega) kc_249 (by omega) (by omega) (by omega) dX11_doesFit_51 ?_
              refine j_name hI (ra_249 _) (fun v17 hv18 hl19 hh20 => ?_)
              refine j_iald hX (by omega) (by omega) kc_248 (by omega) (by omega) (by omega) dX11_doesFit_52 ?_
              refine j_name hI (ra_248 _) (fun v21 hv22 hl23 hh24 => ?_)
              refine j_aload_n hX dX11_doesFit_53 rfl 0 rfl ?_
              refine gf_X11_134 hX (by omega) (by omega) kc_210 (fc_210_58 hI) (by decide) dX11_doesFit_54 ?_
              refine j_iload_n hX dX11_doesFit_57 rfl 2 rfl ?_
              refine j_iald hX (by omega) (by omega) kc_250 (by omega) (by omega) (by omega) dX11_doesFit_58 ?_
              refine j_name hI (ra_250 _) (fun v25 hv26 hl27 hh28 => ?_)
              refine j_icmp_ne (tgt := 66) hX dX11_doesFit_59 (by decide) (by omega) (by omega) (fun hc29 => ?_) (fun hc29 => ?_)
              · skip
                refine j_iconst hX dX11_doesFit_66 ?_
                refine j_istore_n (lv' := [(3, _), (0, _), (1, _), (2, _)]) hX dX11_doesFit_67 rfl (by rw [hnL]; decide) rfl ?_
                refine j_iload_n hX dX11_doesFit_68 rfl 0 rfl ?_
                refine j_aload_n hX dX11_doesFit_69 rfl 1 rfl ?_
                refine gf_X11_137 hX (by omega) (by omega) kc_210 (fc_210_59 hI) (by decide) dX11_doesFit_70 ?_
                refine j_iload_n hX dX11_doesFit_73 rfl 3 rfl ?_
                refine j_iald hX (by omega) (by omega) kc_251 (by omega) (by omega) (by omega) dX11_doesFit_74 ?_
                refine j_name hI (ra_251 _) (fun v30 hv31 hl32 hh33 => ?_)
                refine j_icmp_eq (tgt := 80) hX dX11_doesFit_75 (by decide) (by omega) (by omega) (fun hc34 => ?_) (fun hc34 => ?_)
                · skip
                  refine j_iinc (lv' := [(2, _), (3, _), (0, _), (1, _)]) hX dX11_doesFit_80 3 rfl (by rw [hnL]; decide) rfl ?_
                  refine j_goto (tgt := 2) hX dX11_doesFit_83 (by decide) ?_
                  refine j_sub [2, 3, 0] rfl ?_
                  exact ih _ (by omega) (by first | assumption | omega) (by omega) (by omega)
                · skip
                  refine j_iconst hX dX11_doesFit_78 ?_
                  exact hret _ _ _ _ dX11_doesFit_79 (nb (by omega)) (by omega) ⟨rfl, by omega⟩
              · skip
                refine j_iconst hX dX11_doesFit_62 ?_
                refine j_goto (tgt := 67) hX dX11_doesFit_63 (by decide) ?_
                refine j_istore_n (lv' := [(3, _), (0, _), (1, _), (2, _)]) hX dX11_doesFit_67 rfl (by rw [hnL]; decide) rfl ?_
                refine j_iload_n hX dX11_doesFit_68 rfl 0 rfl ?_
                refine j_aload_n hX dX11_doesFit_69 rfl 1 rfl ?_
                refine gf_X11_137 hX (by omega) (by omega) kc_210 (fc_210_59 hI) (by decide) dX11_doesFit_70 ?_
                refine j_iload_n hX dX11_doesFit_73 rfl 3 rfl ?_
                refine j_iald hX (by omega) (by omega) kc_251 (by omega) (by omega) (by omega) dX11_doesFit_74 ?_
                refine j_name hI (ra_251 _) (fun v35 hv36 hl37 hh38 => ?_)
                refine j_icmp_eq (tgt := 80) hX dX11_doesFit_75 (by decide) (by omega) (by omega) (fun hc39 => ?_) (fun hc39 => ?_)
                · skip
                  refine j_iinc (lv' := [(2, _), (3, _), (0, _), (1, _)]) hX dX11_doesFit_80 3 rfl (by rw [hnL]; decide) rfl ?_
                  refine j_goto (tgt := 2) hX dX11_doesFit_83 (by decide) ?_
                  refine j_sub [2, 3, 0] rfl ?_
                  exact ih _ (by omega) (by first | assumption | omega) (by omega) (by omega)
                · skip
                  refine j_iconst hX dX11_doesFit_78 ?_
                  exact hret _ _ _ _ dX11_doesFit_79 (nb (by omega)) (by omega) ⟨rfl, by omega⟩
            · skip
              refine j_aload_n hX dX11_doesFit_29 rfl 0 rfl ?_
              refine gf_X11_143 hX (by omega) (by omega) kc_210 (fc_210_61 hI) (by decide) dX11_doesFit_30 ?_
              refine j_iload_n hX dX11_doesFit_33 rfl 2 rfl ?_
              refine j_iald hX (by omega) (by omega) kc_253 (by omega) (by omega) (by omega) dX11_doesFit_34 ?_
              refine j_name hI (ra_253 _) (fun v40 hv41 hl42 hh43 => ?_)
              refine j_iload_n hX dX11_doesFit_35 rfl 1 rfl ?_
              refine j_icmp_gt (tgt := 42) hX dX11_doesFit_36 (by decide) (by omega) (by omega) (fun hc44 => ?_) (fun hc44 => ?_)
              · skip
                refine j_aload_n hX dX11_doesFit_42 rfl 0 rfl ?_
                refine gf_X11_128 hX (by omega) (by omega) kc_210 (fc_210_56 hI) (by decide) dX11_doesFit_43 ?_
                refine j_aload_n hX dX11_doesFit_46 rfl 0 rfl ?_
                refine gf_X11_131 hX (by omega) (by omega) kc_210 (fc_210_57 hI) (by decide) dX11_doesFit_47 ?_
                refine j_iload_n hX dX11_doesFit_50 rfl 2 rfl ?_
                refine j_iald hX (by omega) (by omega) kc_249 (by omega) (by omega) (by omega) dX11_doesFit_51 ?_
                refine j_name hI (ra_249 _) (fun v45 hv46 hl47 hh48 => ?_)
                refine j_iald hX (by omega) (by omega) kc_248 (by omega) (by omega) (by omega) dX11_doesFit_52 ?_
                refine j_name hI (ra_248 _) (fun v49 hv50 hl51 hh52 => ?_)
                refine j_aload_n hX dX11_doesFit_53 rfl 0 rfl ?_
                refine gf_X11_134 hX (by omega) (by omega) kc_210 (fc_210_58 hI) (by decide) dX11_doesFit_54 ?_
                refine j_iload_n hX dX11_doesFit_57 rfl 2 rfl ?_
                refine j_iald hX (by omega) (by omega) kc_250 (by omega) (by omega) (by omega) dX11_doesFit_58 ?_
                refine j_name hI (ra_250 _) (fun v53 hv54 hl55 hh56 => ?_)
                refine j_icmp_ne (tgt := 66) hX dX11_doesFit_59 (by decide) (by omega) (by omega) (fun hc57 => ?_) (fun hc57 => ?_)
                · skip
                  refine j_iconst hX dX11_doesFit_66 ?_
                  refine j_istore_n (lv' := [(3, _), (0, _), (1, _), (2, _)]) hX dX11_doesFit_67 rfl (by rw [hnL]; decide) rfl ?_
                  refine j_iload_n hX dX11_doesFit_68 rfl 0 rfl ?_
                  refine j_aload_n hX dX11_doesFit_69 rfl 1 rfl ?_
                  refine gf_X11_137 hX (by omega) (by omega) kc_210 (fc_210_59 hI) (by decide) dX11_doesFit_70 ?_
                  refine j_iload_n hX dX11_doesFit_73 rfl 3 rfl ?_
                  refine j_iald hX (by omega) (by omega) kc_251 (by omega) (by omega) (by omega) dX11_doesFit_74 ?_
                  refine j_name hI (ra_251 _) (fun v58 hv59 hl60 hh61 => ?_)
                  refine j_icmp_eq (tgt := 80) hX dX11_doesFit_75 (by decide) (by omega) (by omega) (fun hc62 => ?_) (fun hc62 => ?_)
                  · skip
                    refine j_iinc (lv' := [(2, _), (3, _), (0, _), (1, _)]) hX dX11_doesFit_80 3 rfl (by rw [hnL]; decide) rfl ?_
                    refine j_goto (tgt := 2) hX dX11_doesFit_83 (by decide) ?_
                    refine j_sub [2, 3, 0] rfl ?_
                    exact ih _ (by omega) (by first | assumption | omega) (by omega) (by omega)
                  · skip
                    refine j_iconst hX dX11_doesFit_78 ?_
                    exact hret _ _ _ _ dX11_doesFit_79 (nb (by omega)) (by omega) ⟨rfl, by omega⟩
                · skip
                  refine j_iconst hX dX11_doesFit_62 ?_
                  refine j_goto (tgt := 67) hX dX11_doesFit_63 (by decide) ?_
                  refine j_istore_n (lv' := [(3, _), (0, _), (1, _), (2, _)]) hX dX11_doesFit_67 rfl (by rw [hnL]; decide) rfl ?_
                  refine j_iload_n hX dX11_doesFit_68 rfl 0 rfl ?_
                  refine j_aload_n hX dX11_doesFit_69 rfl 1 rfl ?_
                  refine gf_X11_137 hX (by omega) (by omega) kc_210 (fc_210_59 hI) (by decide) dX11_doesFit_70 ?_
                  refine j_iload_n hX dX11_doesFit_73 rfl 3 rfl ?_
                  refine j_iald hX (by omega) (by omega) kc_251 (by omega) (by omega) (by omega) dX11_doesFit_74 ?_
                  refine j_name hI (ra_251 _) (fun v63 hv64 hl65 hh66 => ?_)
                  refine j_icmp_eq (tgt := 80) hX dX11_doesFit_75 (by decide) (by omega) (by omega) (fun hc67 => ?_) (fun hc67 => ?_)
                  · skip
                    refine j_iinc (lv' := [(2, _), (3, _), (0, _), (1, _)]) hX dX11_doesFit_80 3 rfl (by rw [hnL]; decide) rfl ?_
                    refine j_goto (tgt := 2) hX dX11_doesFit_83 (by decide) ?_
                    refine j_sub [2, 3, 0] rfl ?_
                    exact ih _ (by omega) (by first | assumption | omega) (by omega) (by omega)
                  · skip
                    refine j_iconst hX dX11_doesFit_78 ?_
                    exact hret _ _ _ _ dX11_doesFit_79 (nb (by omega)) (by omega) ⟨rfl, by omega⟩
              · skip
                refine j_goto (tgt := 80) hX dX11_doesFit_39 (by decide) ?_
                refine j_iinc (lv' := [(2, _), (0, _), (1, _)]) hX dX11_doesFit_80 2 rfl (by rw [hnL]; decide) rfl ?_
                refine j_goto (tgt := 2) hX dX11_doesFit_83 (by decide) ?_
                refine j_sub [1, 2, 0] rfl ?_
                exact ih _ (by omega) (by first | assumption | omega) (by omega) (by omega)
  show J X B N 0 0 0 [(0, rv B 210), (1, iv a)] [] M
  refine j_iconst hX dX11_doesFit_0 ?_
  refine j_istore_n (lv' := [(2, _), (0, _), (1, _)]) hX dX11_doesFit_1 rfl (by rw [hnL]; decide) rfl ?_
  refine j_sub [1, 2, 0] rfl ?_
  refine (cp (Int.toNat (1024 + 1))) _ (by omega) (by first | assumption | omega) ?_ ?_
  · omega
  · omega
set_option maxHeartbeats 2000000 in
set_option maxRecDepth 20000 in
theorem c_X11_layLots (l : Launch) (D : va_G) (cy : Nat → ClassId) (B N : Nat) (bk : Int) (nr : Int) (a : Int) (M : MM) (hN : 257 ≤ N) (hI : Iv M) (hpa : I32 a) (hbk : M.1 210 40 = bk) (hnr : M.1 213 bk = nr) : CV l D cy B N 3 yX11_layLots cX11_layLots 4 none [rv B 210, iv a] M (fun M' => Iv M' ∧ Fr (fun a b => (a = 210 ∧ 65 ≤ b ∧ b ≤ 65) ∨ (a = 248) ∨ (a = 254)) M M') := by
  refine mk_CV (by decide) (Nat.le_of_ble_eq_true rfl) ?_
  intro X exl exD excy hnL hX hret
  have hce : 0 + 0 ≤ (xR X).cells ∧ 0 + 0 ≤ (xR X).slots := ⟨Nat.zero_le _, Nat.zero_le _⟩
  have hF : Fr (fun a b => (a = 210 ∧ 65 ≤ b ∧ b ≤ 65) ∨ (a = 248) ∨ (a = 254)) M M := Fr.rf
  have hbk2 : 0 ≤ bk ∧ bk ≤ 1 := by have := hI.at 210 40 ro_210_40; omega
  have hnr2 : 0 ≤ nr ∧ nr ≤ 6 := by have := hI.at 213 bk (ra_213 _); omega
  have cp : ∀ n : Nat, (∀ (x2 : Int), ∀ (Mc : MM), I32 x2 → Iv Mc → Fr (fun a b => (a = 210 ∧ 65 ≤ b ∧ b ≤ 65) ∨ (a = 248) ∨ (a = 254)) M Mc → Mc.1 210 40 = bk → Mc.1 213 bk = nr → (0 ≤ x2 ∧ x2 ≤ 36) → 0 ≤ 32 * (214748364800 + 1000 - x2) + 3 → 32 * (214748364800 + 1000 - x2) + 3 < (n : Int) → J X B N 0 0 7 [(0, rv B 210), (1, iv a), (2, iv x2)] [] Mc) ∧ (∀ (x2 : Int), ∀ (Mc : MM), I32 x2 → Iv Mc → Fr (fun a b => (a = 210 ∧ 65 ≤ b ∧ b ≤ 65) ∨ (a = 248) ∨ (a = 254)) M Mc → Mc.1 210 40 = bk → Mc.1 213 bk = nr → (0 ≤ x2) → 0 ≤ 32 * (100 * (2147483648 - x2) + 50) + 2 → 32 * (100 * (2147483648 - x2) + 50) + 2 < (n : Int) → J X B N 0 0 28 [(0, rv B 210), (1, iv a), (2, iv x2)] [] Mc) ∧ (∀ (x2 x3 : Int), ∀ (Mc : MM), I32 x2 → I32 x3 → Iv Mc → Fr (fun a b => (a = 210 ∧ 65 ≤ b ∧ b ≤ 65) ∨ (a = 248) ∨ (a = 254)) M Mc → Mc.1 210 40 = bk → Mc.1 213 bk = nr → (0 ≤ x2 ∧ x2 ≤ 46656 ∧ 0 ≤ x3 ∧ x3 ≤ 6) → 0 ≤ 32 * (100 * (2147483648 - x2) + 10 - x3) + 1 → 32 * (100 * (2147483648 - x2) + 10 - x3) + 1 < (n : Int) → J X B N 0 0 67 [(0, rv B 210), (1, iv a), (2, iv x2), (3, iv x3)] [] Mc) := by
    intro n
    induction n with
    | zero => exact ⟨by intros; exfalso; omega, by intros; exfalso; omega, by intros; exfalso; omega⟩
    | succ n ih =>
      refine ⟨?_, ?_, ?_⟩
      · intro x2 Mc hxx2 hI hF hk_0 hk_1 h2 hm0 hm1
        refine j_iload_n hX dX11_layLots_7 rfl 2 rfl ?_
        refine j_bipush hX dX11_layLots_8 rfl ?_
        refine j_icmp_ge (tgt := 26) hX dX11_layLots_10 (by decide) (by omega) (by omega) (fun hc1 => ?_) (fun hc1 => ?_)
        · skip
          refine j_iconst hX dX11_layLots_26 ?_
          refine j_istore_n (lv' := [(2, _), (0, _), (1, _)]) hX dX11_layLots_27 rfl (by rw [hnL]; decide) rfl ?_
          refine j_sub [1, 2, 0] rfl ?_
          exact ih.2.1 _ _ (by omega) hI hF hk_0 hk_1 (by first | assumption | omega) (by omega) (by omega)
        · skip
          refine j_aload_n hX dX11_layLots_13 rfl 0 rfl ?_
          refine gf_X11_146 hX (by omega) (by omega) kc_210 (fc_210_62 hI) (by decide) dX11_layLots_14 ?_
          refine j_iload_n hX dX11_layLots_17 rfl 2 rfl ?_
          refine j_iconst hX dX11_layLots_18 ?_
          refine j_iast hX (by omega) (by omega) kc_254 (by omega) (by omega) (by omega) (by omega) dX11_layLots_19 ?_
          refine j_up hI (ra_254 _) (by omega) (by omega) (Or.inl (by omega)) (fun M2 w3 hw4 hM5 hI6 hf7 => ?_)
          have hk8 := kp_up hM5 (fun h => absurd h.1 (by decide)) hk_0
          have hk9 := kp_up hM5 (fun h => absurd h.1 (by decide)) hk_1
          have hF10 := Fr.put hF hM5 (by omega)
          refine j_iinc (lv' := [(2, _), (0, _), (1, _)]) hX dX11_layLots_20 2 rfl (by rw [hnL]; decide) rfl ?_
          refine j_goto (tgt := 7) hX dX11_layLots_23 (by decide) ?_
          refine j_sub [1, 2, 0] rfl ?_
          exact ih.1 _ _ (by omega) hI6 hF10 hk8 hk9 (by first | assumption | omega) (by omega) (by omega)
      · intro x2 Mc hxx2 hI hF hk_0 hk_1 h2 hm0 hm1
        refine j_iload_n hX dX11_layLots_28 rfl 2 rfl ?_
        refine j_aload_n hX dX11_layLots_29 rfl 0 rfl ?_
        refine j_callVI hX lk_X11_459 (c_X11_rowsOfRooms _ _ _ _ _ _ _ _ (by omega) hI hk_0 hk_1) (by omega) hce rfl rfl (by omega) (by omega) kc_210 rfl rfl (Nat.le_of_ble_eq_true rfl) dX11_layLots_30 (fun z11 M12 hz14 hp13 => ?_)
        obtain ⟨hE15, hq16, hq17⟩ := hp13
        replace hE15 := hE15.symm
        subst hE15
        refine j_icmp_ge (tgt := 107) hX dX11_layLots_33 (by decide) (by omega) (by omega) (fun hc18 => ?_) (fun hc18 => ?_)
        · skip
          exact hret _ _ _ dX11_layLots_107 ⟨hI, hF⟩
        · skip
          refine j_aload_n hX dX11_layLots_36 rfl 0 rfl ?_
          refine j_iload_n hX dX11_layLots_37 rfl 2 rfl ?_
          refine j_callVI hX lk_X11_462 (c_X11_layLot _ _ _ _ _ _ _ _ _ (by omega) hI (by omega) hk_0 hk_1 (by first | assumption | omega)) (by omega) hce rfl rfl (by omega) (by omega) kc_210 rfl rfl (Nat.le_of_ble_eq_true rfl) dX11_layLots_38 (fun z19 M20 hz22 hp21 => ?_)
          obtain ⟨hI24, hG25, hb26, hq27, hq28⟩ := hp21
          have hk29 := kp_fr hG25 (by omega) hk_0
          have hk30 := kp_fr hG25 (by omega) hk_1
          have hF31 := Fr.trans hF hG25 (fun a b h => by omega)
          refine j_if_eq (tgt := 101) hX dX11_layLots_41 (by decide) (by omega) (fun hc32 => ?_) (fun hc32 => ?_)
          · skip
            clear hq27
            refine j_iinc (lv' := [(2, _), (0, _), (1, _)]) hX dX11_layLots_101 2 rfl (by rw [hnL]; decide) rfl ?_
            refine j_goto (tgt := 28) hX dX11_layLots_104 (by decide) ?_
            refine j_sub [1, 2, 0] rfl ?_
            exact ih.2.1 _ _ (by omega) hI24 hF31 hk29 hk30 (by first | assumption | omega) (by omega) (by omega)
          · skip
            have hi33 := hq27 (by omega)
            clear hq27
            refine j_aload_n hX dX11_layLots_44 rfl 0 rfl ?_
            refine j_iload_n hX dX11_layLots_45 rfl 1 rfl ?_
            refine j_callVI hX lk_X11_496 (c_X11_doesFit _ _ _ _ _ _ _ (by omega) hI24 (by omega)) (by omega) hce rfl rfl (by omega) (by omega) kc_210 rfl rfl (Nat.le_of_ble_eq_true rfl) dX11_layLots_46 (fun z34 M35 hz37 hp36 => ?_)
            obtain ⟨hE38, hb39⟩ := hp36
            replace hE38 := hE38.symm
            subst hE38
            refine j_if_ne (tgt := 55) hX dX11_layLots_49 (by decide) (by omega) (fun hc40 => ?_) (fun hc40 => ?_)
            · skip
              refine j_aload_n hX dX11_layLots_55 rfl 0 rfl ?_
              refine j_dup hX dX11_layLots_56 rfl ?_
              refine gf_X11_493 hX (by omega) (by omega) kc_210 dX11_layLots_57 ?_
              refine j_name hI24 ro_210_65 (fun v41 hv42 hl43 hh44 => ?_)
              have hk45 := hv42.symm
              refine j_iconst hX dX11_layLots_60 ?_
              refine j_iadd hX dX11_layLots_61 ?_
              refine j_norm (fun z46 hz47 hy48 => ?_)
              refine pf_X11_493 hX (by omega) (by omega) kc_210 (by omega) dX11_layLots_62 ?_
              refine j_up hI24 ro_210_65 (by omega) (by omega) (Or.inl (by omega)) (fun M49 w50 hw51 hM52 hI53 hf54 => ?_)
              have hk55 := kp_up hM52 (fun h => absurd h.2 (by decide)) hk29
              have hk56 := kp_up hM52 (fun h => absurd h.1 (by decide)) hk30
              clear hk29 hk30 hk45
              have hF57 := Fr.put hF31 hM52 (by omega)
              refine j_iconst hX dX11_layLots_65 ?_
              refine j_istore_n (lv' := [(3, _), (0, _), (1, _), (2, _)]) hX dX11_layLots_66 rfl (by rw [hnL]; decide) rfl ?_
              refine j_sub [1, 2, 3, 0] rfl ?_
              exact ih.2.2 _ _ _ (by omega) (by omega) hI53 hF57 hk55 hk56 (by first | assumption | omega) (by omega) (by omega)
            · skip
              refine j_goto (tgt := 101) hX dX11_layLots_52 (by decide) ?_
              refine j_iinc (lv' := [(2, _), (0, _), (1, _)]) hX dX11_layLots_101 2 rfl (by rw [hnL]; decide) rfl ?_
              refine j_goto (tgt := 28) hX dX11_layLots_104 (by decide) ?_
              refine j_sub [1, 2, 0] rfl ?_
              exact ih.2.1 _ _ (by omega) hI24 hF31 hk29 hk30 (by first | assumption | omega) (by omega) (by omega)
      · intro x2 x3 Mc hxx2 hxx3 hI hF hk_0 hk_1 h2 hm0 hm1
        refine j_iload_n hX dX11_layLots_67 rfl 3 rfl ?_
        refine j_aload_n hX dX11_layLots_68 rfl 0 rfl ?_
        refine j_callVI hX lk_X11_385 (c_X11_many _ _ _ _ _ _ _ _ (by omega) hI hk_0 hk_1) (by omega) hce rfl rfl (by omega) (by omega) kc_210 rfl rfl (Nat.le_of_ble_eq_true rfl) dX11_layLots_69 (fun z58 M59 hz61 hp60 => ?_)
        obtain ⟨hE62, hq63⟩ := hp60
        replace hE62 := hE62.symm
        subst hE62
        refine j_icmp_ge (tgt := 101) hX dX11_layLots_72 (by decide) (by omega) (by omega) (fun hc64 => ?_) (fun hc64 => ?_)
        · skip
          refine j_iinc (lv' := [(2, _), (0, _), (1, _), (3, _)]) hX dX11_layLots_101 2 rfl (by rw [hnL]; decide) rfl ?_
          refine j_goto (tgt := 28) hX dX11_layLots_104 (by decide) ?_
          refine j_sub [1, 2, 0] rfl ?_
          exact ih.2.1 _ _ (by omega) hI hF hk_0 hk_1 (by first | assumption | omega) (by omega) (by omega)
        · skip
          refine j_aload_n hX dX11_layLots_75 rfl 0 rfl ?_
          refine gf_X11_146 hX (by omega) (by omega) kc_210 (fc_210_62 hI) (by decide) dX11_layLots_76 ?_
          refine j_bipush hX dX11_layLots_79 rfl ?_
          refine j_iload_n hX dX11_layLots_81 rfl 3 rfl ?_
          refine j_imul hX dX11_layLots_82 ?_
          refine j_aload_n hX dX11_layLots_83 rfl 0 rfl ?_
          refine gf_X11_128 hX (by omega) (by omega) kc_210 (fc_210_56 hI) (by decide) dX11_layLots_84 ?_
          refine j_iload_n hX dX11_layLots_87 rfl 3 rfl ?_
          refine j_iald hX (by omega) (by omega) kc_248 (by omega) (by omega) (by omega) dX11_layLots_88 ?_
          refine j_name hI (ra_248 _) (fun v65 hv66 hl67 hh68 => ?_)
          refine j_iadd hX dX11_layLots_89 ?_
          refine j_dup2 hX dX11_layLots_90 rfl rfl ?_
          refine j_iald hX (by omega) (by omega) kc_254 (by omega) (by omega) (by omega) dX11_layLots_91 ?_
          refine j_name hI (ra_254 _) (fun v69 hv70 hl71 hh72 => ?_)
          refine j_iconst hX dX11_layLots_92 ?_
          refine j_iadd hX dX11_layLots_93 ?_
          refine j_norm (fun z73 hz74 hy75 => ?_)
          refine j_iast hX (by omega) (by omega) kc_254 (by omega) (by omega) (by omega) (by omega) dX11_layLots_94 ?_
          refine j_up hI (ra_254 _) (by omega) (by omega) (Or.inl (by omega)) (fun M76 w77 hw78 hM79 hI80 hf81 => ?_)
          have hk82 := kp_up hM79 (fun h => absurd h.1 (by decide)) hk_0
          have hk83 := kp_up hM79 (fun h => absurd h.1 (by decide)) hk_1
          have hF84 := Fr.put hF hM79 (by omega)
          refine j_iinc (lv' := [(3, _), (0, _), (1, _), (2, _)]) hX dX11_layLots_95 3 rfl (by rw [hnL]; decide) rfl ?_
          refine j_goto (tgt := 67) hX dX11_layLots_98 (by decide) ?_
          refine j_sub [1, 2, 3, 0] rfl ?_
          exact ih.2.2 _ _ _ (by omega) (by omega) hI80 hF84 hk82 hk83 (by first | assumption | omega) (by omega) (by omega)
  show J X B N 0 0 0 [(0, rv B 210), (1, iv a)] [] M
  refine j_aload_n hX dX11_layLots_0 rfl 0 rfl ?_
  refine j_iconst hX dX11_layLots_1 ?_
  refine pf_X11_493 hX (by omega) (by omega) kc_210 (by omega) dX11_layLots_2 ?_
  refine j_up hI ro_210_65 (by omega) (by omega) (Or.inl (by omega)) (fun M85 w86 hw87 hM88 hI89 hf90 => ?_)
  have hk91 := kp_up hM88 (fun h => absurd h.2 (by decide)) hbk
  have hk92 := kp_up hM88 (fun h => absurd h.1 (by decide)) hnr
  have hF93 := Fr.put hF hM88 (by omega)
  refine j_iconst hX dX11_layLots_5 ?_
  refine j_istore_n (lv' := [(2, _), (0, _), (1, _)]) hX dX11_layLots_6 rfl (by rw [hnL]; decide) rfl ?_
  refine j_sub [1, 2, 0] rfl ?_
  refine (cp (Int.toNat (9600000000064 + 1))).1 _ _ (by omega) hI89 hF93 hk91 hk92 (by first | assumption | omega) ?_ ?_
  · omega
  · omega
set_option maxHeartbeats 2000000 in
set_option maxRecDepth 20000 in
theorem c_X11_lots (l : Launch) (D : va_G) (cy : Nat → ClassId) (B N : Nat) (bk : Int) (nr : Int) (a : Int) (M : MM) (hN : 257 ≤ N) (hI : Iv M) (hpa : I32 a) (hbk : M.1 210 40 = bk) (hnr : M.1 213 bk = nr) : CI l D cy B N 4 yX11_lots cX11_lots 2 (some .int) [rv B 210, iv a] M (fun z M' => Iv M' ∧ Fr (fun a b => (a = 210 ∧ 65 ≤ b ∧ b ≤ 65) ∨ (a = 248) ∨ (a = 254)) M M') := by
  refine mk_CI (by decide) (Nat.le_of_ble_eq_true rfl) ?_
  intro X exl exD excy hnL hX hret
  have hce : 0 + 0 ≤ (xR X).cells ∧ 0 + 0 ≤ (xR X).slots := ⟨Nat.zero_le _, Nat.zero_le _⟩
  have hF : Fr (fun a b => (a = 210 ∧ 65 ≤ b ∧ b ≤ 65) ∨ (a = 248) ∨ (a = 254)) M M := Fr.rf
  have hbk2 : 0 ≤ bk ∧ bk ≤ 1 := by have := hI.at 210 40 ro_210_40; omega
  have hnr2 : 0 ≤ nr ∧ nr ≤ 6 := by have := hI.at 213 bk (ra_213 _); omega
  show J X B N 0 0 0 [(0, rv B 210), (1, iv a)] [] M
  refine j_aload_n hX dX11_lots_0 rfl 0 rfl ?_
  refine j_iload_n hX dX11_lots_1 rfl 1 rfl ?_
  refine j_callVV hX lk_X11_499 (c_X11_layLots _ _ _ _ _ _ _ _ _ (by omega) hI (by omega) hbk hnr) (by omega) hce rfl rfl (by omega) (by omega) kc_210 rfl rfl (Nat.le_of_ble_eq_true rfl) dX11_lots_2 (fun M2 hp3 => ?_)
  obtain ⟨hI6, hG7⟩ := hp3
  have hk8 := kp_fr hG7 (by omega) hbk
  have hk9 := kp_fr hG7 (by omega) hnr
  have hF10 := Fr.trans hF hG7 (fun a b h => by omega)
  refine j_aload_n hX dX11_lots_5 rfl 0 rfl ?_
  refine gf_X11_493 hX (by omega) (by omega) kc_210 dX11_lots_6 ?_
  refine j_name hI6 ro_210_65 (fun v11 hv12 hl13 hh14 => ?_)
  have hk15 := hv12.symm
  exact hret _ _ _ _ dX11_lots_9 rfl (by omega) ⟨hI6, hF10⟩
set_option maxHeartbeats 2000000 in
set_option maxRecDepth 20000 in
theorem c_X11_sure (l : Launch) (D : va_G) (cy : Nat → ClassId) (B N : Nat) (bk : Int) (nr : Int) (a : Int) (b : Int) (M : MM) (hN : 257 ≤ N) (hI : Iv M) (hpa : I32 a) (hpb : I32 b) (hbk : M.1 210 40 = bk) (hnr : M.1 213 bk = nr) : CI l D cy B N 4 yX11_sure cX11_sure 4 (some .int) [rv B 210, iv a, iv b] M (fun z M' => Iv M' ∧ Fr (fun a b => (a = 210 ∧ 65 ≤ b ∧ b ≤ 65) ∨ (a = 248) ∨ (a = 254)) M M') := by
  refine mk_CI (by decide) (Nat.le_of_ble_eq_true rfl) ?_
  intro X exl exD excy hnL hX hret
  have hce : 0 + 0 ≤ (xR X).cells ∧ 0 + 0 ≤ (xR X).slots := ⟨Nat.zero_le _, Nat.zero_le _⟩
  have hF : Fr (fun a b => (a = 210 ∧ 65 ≤ b ∧ b ≤ 65) ∨ (a = 248) ∨ (a = 254)) M M := Fr.rf
  have hbk2 : 0 ≤ bk ∧ bk ≤ 1 := by have := hI.at 210 40 ro_210_40; omega
  have hnr2 : 0 ≤ nr ∧ nr ≤ 6 := by have := hI.at 213 bk (ra_213 _); omega
  have cp : ∀ n : Nat, (∀ (x3 : Int), ∀ (Mc : MM), I32 x3 → Iv Mc → Fr (fun a b => (a = 210 ∧ 65 ≤ b ∧ b ≤ 65) ∨ (a = 248) ∨ (a = 254)) M Mc → Mc.1 210 40 = bk → Mc.1 213 bk = nr → (0 ≤ x3 ∧ x3 ≤ 6) → (0 ≤ a ∧ a < nr) → 0 ≤ 32 * (6 - x3) + 1 → 32 * (6 - x3) + 1 < (n : Int) → J X B N 0 0 17 [(0, rv B 210), (1, iv a), (2, iv b), (3, iv x3)] [] Mc) := by
    intro n
    induction n with
    | zero => exact by intros; exfalso; omega
    | succ n ih =>
      · intro x3 Mc hxx3 hI hF hk_0 hk_1 h2 h3 hm0 hm1
        refine j_iload_n hX dX11_sure_17 rfl 3 rfl ?_
        refine j_aload_n hX dX11_sure_18 rfl 0 rfl ?_
        refine j_callVI hX lk_X11_385 (c_X11_many _ _ _ _ _ _ _ _ (by omega) hI hk_0 hk_1) (by omega) hce rfl rfl (by omega) (by omega) kc_210 rfl rfl (Nat.le_of_ble_eq_true rfl) dX11_sure_19 (fun z1 M2 hz4 hp3 => ?_)
        obtain ⟨hE5, hq6⟩ := hp3
        replace hE5 := hE5.symm
        subst hE5
        refine j_icmp_ge (tgt := 58) hX dX11_sure_22 (by decide) (by omega) (by omega) (fun hc7 => ?_) (fun hc7 => ?_)
        · skip
          refine j_aload_n hX dX11_sure_58 rfl 0 rfl ?_
          refine gf_X11_493 hX (by omega) (by omega) kc_210 dX11_sure_59 ?_
          refine j_name hI ro_210_65 (fun v8 hv9 hl10 hh11 => ?_)
          have hk12 := hv9.symm
          refine j_if_ne (tgt := 69) hX dX11_sure_62 (by decide) (by omega) (fun hc13 => ?_) (fun hc13 => ?_)
          · skip
            refine j_bipush hX dX11_sure_69 rfl ?_
            exact hret _ _ _ _ dX11_sure_71 rfl (by omega) ⟨hI, hF⟩
          · skip
            refine j_iconst hX dX11_sure_65 ?_
            refine j_goto (tgt := 71) hX dX11_sure_66 (by decide) ?_
            exact hret _ _ _ _ dX11_sure_71 rfl (by omega) ⟨hI, hF⟩
        · skip
          refine j_aload_n hX dX11_sure_25 rfl 0 rfl ?_
          refine gf_X11_493 hX (by omega) (by omega) kc_210 dX11_sure_26 ?_
          refine j_name hI ro_210_65 (fun v14 hv15 hl16 hh17 => ?_)
          have hk18 := hv15.symm
          refine j_if_le (tgt := 58) hX dX11_sure_29 (by decide) (by omega) (fun hc19 => ?_) (fun hc19 => ?_)
          · skip
            refine j_aload_n hX dX11_sure_58 rfl 0 rfl ?_
            refine gf_X11_493 hX (by omega) (by omega) kc_210 dX11_sure_59 ?_
            refine j_top hk18 ?_
            refine j_if_ne (tgt := 69) hX dX11_sure_62 (by decide) (by omega) (fun hc20 => ?_) (fun hc20 => ?_)
            · skip
              refine j_bipush hX dX11_sure_69 rfl ?_
              exact hret _ _ _ _ dX11_sure_71 rfl (by omega) ⟨hI, hF⟩
            · skip
              refine j_iconst hX dX11_sure_65 ?_
              refine j_goto (tgt := 71) hX dX11_sure_66 (by decide) ?_
              exact hret _ _ _ _ dX11_sure_71 rfl (by omega) ⟨hI, hF⟩
          · skip
            refine j_aload_n hX dX11_sure_32 rfl 0 rfl ?_
            refine gf_X11_146 hX (by omega) (by omega) kc_210 (fc_210_62 hI) (by decide) dX11_sure_33 ?_
            refine j_bipush hX dX11_sure_36 rfl ?_
            refine j_iload_n hX dX11_sure_38 rfl 1 rfl ?_
            refine j_imul hX dX11_sure_39 ?_
            refine j_iload_n hX dX11_sure_40 rfl 3 rfl ?_
            refine j_iadd hX dX11_sure_41 ?_
            refine j_iald hX (by omega) (by omega) kc_254 (by omega) (by omega) (by omega) dX11_sure_42 ?_
            refine j_name hI (ra_254 _) (fun v21 hv22 hl23 hh24 => ?_)
            refine j_aload_n hX dX11_sure_43 rfl 0 rfl ?_
            refine gf_X11_493 hX (by omega) (by omega) kc_210 dX11_sure_44 ?_
            refine j_top hk18 ?_
            refine j_icmp_ne (tgt := 52) hX dX11_sure_47 (by decide) (by omega) (by omega) (fun hc25 => ?_) (fun hc25 => ?_)
            · skip
              refine j_iinc (lv' := [(3, _), (0, _), (1, _), (2, _)]) hX dX11_sure_52 3 rfl (by rw [hnL]; decide) rfl ?_
              refine j_goto (tgt := 17) hX dX11_sure_55 (by decide) ?_
              refine j_sub [1, 2, 3, 0] rfl ?_
              exact ih _ _ (by omega) hI hF hk_0 hk_1 (by first | assumption | omega) (by first | assumption | omega) (by omega) (by omega)
            · skip
              refine j_iload_n hX dX11_sure_50 rfl 3 rfl ?_
              exact hret _ _ _ _ dX11_sure_51 rfl (by omega) ⟨hI, hF⟩
  show J X B N 0 0 0 [(0, rv B 210), (1, iv a), (2, iv b)] [] M
  refine j_aload_n hX dX11_sure_0 rfl 0 rfl ?_
  refine j_iload_n hX dX11_sure_1 rfl 1 rfl ?_
  refine j_callVI hX lk_X11_419 (c_X11_isRoom _ _ _ _ _ _ _ _ _ (by omega) hI (by omega) hbk hnr) (by omega) hce rfl rfl (by omega) (by omega) kc_210 rfl rfl (Nat.le_of_ble_eq_true rfl) dX11_sure_2 (fun z26 M27 hz29 hp28 => ?_)
  obtain ⟨hE30, hb31, hq32⟩ := hp28
  replace hE30 := hE30.symm
  subst hE30
  refine j_if_ne (tgt := 10) hX dX11_sure_5 (by decide) (by omega) (fun hc33 => ?_) (fun hc33 => ?_)
  · skip
    have hi34 := hq32 (by omega)
    clear hq32
    refine j_aload_n hX dX11_sure_10 rfl 0 rfl ?_
    refine j_iload_n hX dX11_sure_11 rfl 2 rfl ?_
    refine j_callVV hX lk_X11_499 (c_X11_layLots _ _ _ _ _ _ _ _ _ (by omega) hI (by omega) hbk hnr) (by omega) hce rfl rfl (by omega) (by omega) kc_210 rfl rfl (Nat.le_of_ble_eq_true rfl) dX11_sure_12 (fun M36 hp37 => ?_)
    obtain ⟨hI40, hG41⟩ := hp37
    have hk42 := kp_fr hG41 (by omega) hbk
    have hk43 := kp_fr hG41 (by omega) hnr
    have hF44 := Fr.trans hF hG41 (fun a b h => by omega)
    refine j_iconst hX dX11_sure_15 ?_
    refine j_istore_n (lv' := [(3, _), (0, _), (1, _), (2, _)]) hX dX11_sure_16 rfl (by rw [hnL]; decide) rfl ?_
    refine j_sub [1, 2, 3, 0] rfl ?_
    refine (cp (Int.toNat (256 + 1))) _ _ (by omega) hI40 hF44 hk42 hk43 (by first | assumption | omega) (by first | assumption | omega) ?_ ?_
    · omega
    · omega
  · skip
    clear hq32
    refine j_iconst hX dX11_sure_8 ?_
    exact hret _ _ _ _ dX11_sure_9 rfl (by omega) ⟨hI, hF⟩
set_option maxHeartbeats 2000000 in
set_option maxRecDepth 20000 in
theorem c_X11_ask (l : Launch) (D : va_G) (cy : Nat → ClassId) (B N : Nat) (bk : Int) (nr : Int) (a : Int) (b : Int) (M : MM) (hN : 257 ≤ N) (hI : Iv M) (hpa : I32 a) (hpb : I32 b) (hbk : M.1 210 40 = bk) (hnr : M.1 213 bk = nr) : CI l D cy B N 4 yX11_ask cX11_ask 8 (some .int) [rv B 210, iv a, iv b] M (fun z M' => Iv M' ∧ Fr (fun a b => (a = 210 ∧ 65 ≤ b ∧ b ≤ 65) ∨ (a = 248) ∨ (a = 254)) M M') := by
  refine mk_CI (by decide) (Nat.le_of_ble_eq_true rfl) ?_
  intro X exl exD excy hnL hX hret
  have hce : 0 + 0 ≤ (xR X).cells ∧ 0 + 0 ≤ (xR X).slots := ⟨Nat.zero_le _, Nat.zero_le _⟩
  have hF : Fr (fun a b => (a = 210 ∧ 65 ≤ b ∧ b ≤ 65) ∨ (a = 248) ∨ (a = 254)) M M := Fr.rf
  have hbk2 : 0 ≤ bk ∧ bk ≤ 1 := by have := hI.at 210 40 ro_210_40; omega
  have hnr2 : 0 ≤ nr ∧ nr ≤ 6 := by have := hI.at 213 bk (ra_213 _); omega
  have cp : ∀ n : Nat, (∀ (x3 x4 x5 : Int), ∀ (Mc : MM), I32 x3 → I32 x4 → I32 x5 → Iv Mc → Fr (fun a b => (a = 210 ∧ 65 ≤ b ∧ b ≤ 65) ∨ (a = 248) ∨ (a = 254)) M Mc → Mc.1 210 40 = bk → Mc.1 213 bk = nr → (0 ≤ x5 ∧ x5 ≤ 6) → 0 ≤ 32 * (100 * (6 - x5) + 50) + 2 → 32 * (100 * (6 - x5) + 50) + 2 < (n : Int) → J X B N 0 0 24 [(0, rv B 210), (1, iv a), (2, iv b), (3, iv x3), (4, iv x4), (5, iv x5)] [] Mc) ∧ (∀ (x3 x4 x5 x6 x7 : Int), ∀ (Mc : MM), I32 x3 → I32 x4 → I32 x5 → I32 x6 → I32 x7 → Iv Mc → Fr (fun a b => (a = 210 ∧ 65 ≤ b ∧ b ≤ 65) ∨ (a = 248) ∨ (a = 254)) M Mc → Mc.1 210 40 = bk → Mc.1 213 bk = nr → (0 ≤ x5 ∧ x5 < nr ∧ 0 ≤ x7 ∧ x7 ≤ 6) → 0 ≤ 32 * (100 * (6 - x5) + 10 - x7) + 1 → 32 * (100 * (6 - x5) + 10 - x7) + 1 < (n : Int) → J X B N 0 0 46 [(0, rv B 210), (1, iv a), (2, iv b), (3, iv x3), (4, iv x4), (5, iv x5), (6, iv x6), (7, iv x7)] [] Mc) := by
    intro n
    induction n with
    | zero => exact ⟨by intros; exfalso; omega, by intros; exfalso; omega⟩
    | succ n ih =>
      refine ⟨?_, ?_⟩
      · intro x3 x4 x5 Mc hxx3 hxx4 hxx5 hI hF hk_0 hk_1 h2 hm0 hm1
        refine j_iload hX dX11_ask_24 5 rfl ?_
        refine j_aload_n hX dX11_ask_26 rfl 0 rfl ?_
        refine j_callVI hX lk_X11_385 (c_X11_many _ _ _ _ _ _ _ _ (by omega) hI hk_0 hk_1) (by omega) hce rfl rfl (by omega) (by omega) kc_210 rfl rfl (Nat.le_of_ble_eq_true rfl) dX11_ask_27 (fun z1 M2 hz4 hp3 => ?_)
        obtain ⟨hE5, hq6⟩ := hp3
        replace hE5 := hE5.symm
        subst hE5
        refine j_icmp_ge (tgt := 121) hX dX11_ask_30 (by decide) (by omega) (by omega) (fun hc7 => ?_) (fun hc7 => ?_)
        · skip
          refine j_iload_n hX dX11_ask_121 rfl 3 rfl ?_
          refine j_if_ge (tgt := 129) hX dX11_ask_122 (by decide) (by omega) (fun hc8 => ?_) (fun hc8 => ?_)
          · skip
            refine j_iload_n hX dX11_ask_129 rfl 1 rfl ?_
            refine j_if_ne (tgt := 137) hX dX11_ask_130 (by decide) (by omega) (fun hc9 => ?_) (fun hc9 => ?_)
            · skip
              refine j_iload hX dX11_ask_137 4 rfl ?_
              exact hret _ _ _ _ dX11_ask_139 rfl (by omega) ⟨hI, hF⟩
            · skip
              refine j_iload_n hX dX11_ask_133 rfl 3 rfl ?_
              refine j_goto (tgt := 139) hX dX11_ask_134 (by decide) ?_
              exact hret _ _ _ _ dX11_ask_139 rfl (by omega) ⟨hI, hF⟩
          · skip
            refine j_iconst hX dX11_ask_125 ?_
            refine j_goto (tgt := 139) hX dX11_ask_126 (by decide) ?_
            exact hret _ _ _ _ dX11_ask_139 rfl (by omega) ⟨hI, hF⟩
        · skip
          refine j_aload_n hX dX11_ask_33 rfl 0 rfl ?_
          refine gf_X11_493 hX (by omega) (by omega) kc_210 dX11_ask_34 ?_
          refine j_name hI ro_210_65 (fun v10 hv11 hl12 hh13 => ?_)
          have hk14 := hv11.symm
          refine j_if_le (tgt := 121) hX dX11_ask_37 (by decide) (by omega) (fun hc15 => ?_) (fun hc15 => ?_)
          · skip
            refine j_iload_n hX dX11_ask_121 rfl 3 rfl ?_
            refine j_if_ge (tgt := 129) hX dX11_ask_122 (by decide) (by omega) (fun hc16 => ?_) (fun hc16 => ?_)
            · skip
              refine j_iload_n hX dX11_ask_129 rfl 1 rfl ?_
              refine j_if_ne (tgt := 137) hX dX11_ask_130 (by decide) (by omega) (fun hc17 => ?_) (fun hc17 => ?_)
              · skip
                refine j_iload hX dX11_ask_137 4 rfl ?_
                exact hret _ _ _ _ dX11_ask_139 rfl (by omega) ⟨hI, hF⟩
              · skip
                refine j_iload_n hX dX11_ask_133 rfl 3 rfl ?_
                refine j_goto (tgt := 139) hX dX11_ask_134 (by decide) ?_
                exact hret _ _ _ _ dX11_ask_139 rfl (by omega) ⟨hI, hF⟩
            · skip
              refine j_iconst hX dX11_ask_125 ?_
              refine j_goto (tgt := 139) hX dX11_ask_126 (by decide) ?_
              exact hret _ _ _ _ dX11_ask_139 rfl (by omega) ⟨hI, hF⟩
          · skip
            refine j_iconst hX dX11_ask_40 ?_
            refine j_istore (lv' := [(6, _), (0, _), (1, _), (2, _), (3, _), (4, _), (5, _)]) hX dX11_ask_41 (by rw [hnL]; decide) rfl ?_
            refine j_iconst hX dX11_ask_43 ?_
            refine j_istore (lv' := [(7, _), (6, _), (0, _), (1, _), (2, _), (3, _), (4, _), (5, _)]) hX dX11_ask_44 (by rw [hnL]; decide) rfl ?_
            refine j_sub [2, 3, 4, 5, 6, 7, 1, 0] rfl ?_
            exact ih.2 _ _ _ _ _ _ (by omega) (by omega) (by omega) (by omega) (by omega) hI hF hk_0 hk_1 (by first | assumption | omega) (by omega) (by omega)
      · intro x3 x4 x5 x6 x7 Mc hxx3 hxx4 hxx5 hxx6 hxx7 hI hF hk_0 hk_1 h2 hm0 hm1
        refine j_iload hX dX11_ask_46 7 rfl ?_
        refine j_aload_n hX dX11_ask_48 rfl 0 rfl ?_
        refine j_callVI hX lk_X11_385 (c_X11_many _ _ _ _ _ _ _ _ (by omega) hI hk_0 hk_1) (by omega) hce rfl rfl (by omega) (by omega) kc_210 rfl rfl (Nat.le_of_ble_eq_true rfl) dX11_ask_49 (fun z18 M19 hz21 hp20 => ?_)
        obtain ⟨hE22, hq23⟩ := hp20
        replace hE22 := hE22.symm
        subst hE22
        refine j_icmp_ge (tgt := 94) hX dX11_ask_52 (by decide) (by omega) (by omega) (fun hc24 => ?_) (fun hc24 => ?_)
        · skip
          refine j_iload_n hX dX11_ask_94 rfl 3 rfl ?_
          refine j_if_lt (tgt := 108) hX dX11_ask_95 (by decide) (by omega) (fun hc25 => ?_) (fun hc25 => ?_)
          · skip
            refine j_iload hX dX11_ask_108 5 rfl ?_
            refine j_istore_n (lv' := [(3, _), (0, _), (1, _), (2, _), (4, _), (5, _), (6, _), (7, _)]) hX dX11_ask_110 rfl (by rw [hnL]; decide) rfl ?_
            refine j_iload hX dX11_ask_111 6 rfl ?_
            refine j_istore (lv' := [(4, _), (3, _), (0, _), (1, _), (2, _), (5, _), (6, _), (7, _)]) hX dX11_ask_113 (by rw [hnL]; decide) rfl ?_
            refine j_iinc (lv' := [(5, _), (4, _), (3, _), (0, _), (1, _), (2, _), (6, _), (7, _)]) hX dX11_ask_115 5 rfl (by rw [hnL]; decide) rfl ?_
            refine j_goto (tgt := 24) hX dX11_ask_118 (by decide) ?_
            refine j_sub [3, 4, 5, 2, 1, 0] rfl ?_
            exact ih.1 _ _ _ _ (by omega) (by omega) (by omega) hI hF hk_0 hk_1 (by first | assumption | omega) (by omega) (by omega)
          · skip
            refine j_iload hX dX11_ask_98 6 rfl ?_
            refine j_iload hX dX11_ask_100 4 rfl ?_
            refine j_icmp_lt (tgt := 108) hX dX11_ask_102 (by decide) (by omega) (by omega) (fun hc26 => ?_) (fun hc26 => ?_)
            · skip
              refine j_iload hX dX11_ask_108 5 rfl ?_
              refine j_istore_n (lv' := [(3, _), (0, _), (1, _), (2, _), (4, _), (5, _), (6, _), (7, _)]) hX dX11_ask_110 rfl (by rw [hnL]; decide) rfl ?_
              refine j_iload hX dX11_ask_111 6 rfl ?_
              refine j_istore (lv' := [(4, _), (3, _), (0, _), (1, _), (2, _), (5, _), (6, _), (7, _)]) hX dX11_ask_113 (by rw [hnL]; decide) rfl ?_
              refine j_iinc (lv' := [(5, _), (4, _), (3, _), (0, _), (1, _), (2, _), (6, _), (7, _)]) hX dX11_ask_115 5 rfl (by rw [hnL]; decide) rfl ?_
              refine j_goto (tgt := 24) hX dX11_ask_118 (by decide) ?_
              refine j_sub [3, 4, 5, 2, 1, 0] rfl ?_
              exact ih.1 _ _ _ _ (by omega) (by omega) (by omega) hI hF hk_0 hk_1 (by first | assumption | omega) (by omega) (by omega)
            · skip
              refine j_goto (tgt := 115) hX dX11_ask_105 (by decide) ?_
              refine j_iinc (lv' := [(5, _), (0, _), (1, _), (2, _), (3, _), (4, _), (6, _), (7, _)]) hX dX11_ask_115 5 rfl (by rw [hnL]; decide) rfl ?_
              refine j_goto (tgt := 24) hX dX11_ask_118 (by decide) ?_
              refine j_sub [1, 2, 3, 4, 5, 0] rfl ?_
              exact ih.1 _ _ _ _ (by omega) (by omega) (by omega) hI hF hk_0 hk_1 (by first | assumption | omega) (by omega) (by omega)
        · skip
          refine j_aload_n hX dX11_ask_55 rfl 0 rfl ?_
          refine gf_X11_146 hX (by omega) (by omega) kc_210 (fc_210_62 hI) (by decide) dX11_ask_56 ?_
          refine j_bipush hX dX11_ask_59 rfl ?_
          refine j_iload hX dX11_ask_61 5 rfl ?_
          refine j_imul hX dX11_ask_63 ?_
          refine j_iload hX dX11_ask_64 7 rfl ?_
          refine j_iadd hX dX11_ask_66 ?_
          refine j_iald hX (by omega) (by omega) kc_254 (by omega) (by omega) (by omega) dX11_ask_67 ?_
          refine j_name hI (ra_254 _) (fun v27 hv28 hl29 hh30 => ?_)
          refine j_iload hX dX11_ask_68 6 rfl ?_
          refine j_icmp_le (tgt := 88) hX dX11_ask_70 (by decide) (by omega) (by omega) (fun hc31 => ?_) (fun hc31 => ?_)
          · skip
            refine j_iinc (lv' := [(7, _), (0, _), (1, _), (2, _), (3, _), (4, _), (5, _), (6, _)]) hX dX11_ask_88 7 rfl (by rw [hnL]; decide) rfl ?_
            refine j_goto (tgt := 46) hX dX11_ask_91 (by decide) ?_
            refine j_sub [1, 2, 3, 4, 5, 6, 7, 0] rfl ?_
            exact ih.2 _ _ _ _ _ _ (by omega) (by omega) (by omega) (by omega) (by omega) hI hF hk_0 hk_1 (by first | assumption | omega) (by omega) (by omega)
          · skip
            refine j_aload_n hX dX11_ask_73 rfl 0 rfl ?_
            refine gf_X11_146 hX (by omega) (by omega) kc_210 (fc_210_62 hI) (by decide) dX11_ask_74 ?_
            refine j_bipush hX dX11_ask_77 rfl ?_
            refine j_iload hX dX11_ask_79 5 rfl ?_
            refine j_imul hX dX11_ask_81 ?_
            refine j_iload hX dX11_ask_82 7 rfl ?_
            refine j_iadd hX dX11_ask_84 ?_
            refine j_iald hX (by omega) (by omega) kc_254 (by omega) (by omega) (by omega) dX11_ask_85 ?_
            refine j_name hI (ra_254 _) (fun v32 hv33 hl34 hh35 => ?_)
            refine j_istore (lv' := [(6, _), (0, _), (1, _), (2, _), (3, _), (4, _), (5, _), (7, _)]) hX dX11_ask_86 (by rw [hnL]; decide) rfl ?_
            refine j_iinc (lv' := [(7, _), (6, _), (0, _), (1, _), (2, _), (3, _), (4, _), (5, _)]) hX dX11_ask_88 7 rfl (by rw [hnL]; decide) rfl ?_
            refine j_goto (tgt := 46) hX dX11_ask_91 (by decide) ?_
            refine j_sub [2, 3, 4, 5, 6, 7, 1, 0] rfl ?_
            exact ih.2 _ _ _ _ _ _ (by omega) (by omega) (by omega) (by omega) (by omega) hI hF hk_0 hk_1 (by first | assumption | omega) (by omega) (by omega)
  show J X B N 0 0 0 [(0, rv B 210), (1, iv a), (2, iv b)] [] M
  refine j_iload_n hX dX11_ask_0 rfl 1 rfl ?_
  refine j_iconst hX dX11_ask_1 ?_
  refine j_iconst hX dX11_ask_2 ?_
  refine j_callSI hX lk_X11_388 (c_X11_isIn _ _ _ _ _ _ _ _ _ (by omega) (by omega) (by omega)) (by omega) hce rfl rfl (Nat.le_of_ble_eq_true rfl) dX11_ask_3 (fun z36 M37 hz39 hp38 => ?_)
  obtain ⟨hE40, hb41, hq42, hq43⟩ := hp38
  replace hE40 := hE40.symm
  subst hE40
  refine j_if_ne (tgt := 11) hX dX11_ask_6 (by decide) (by omega) (fun hc44 => ?_) (fun hc44 => ?_)
  · skip
    have hi45 := hq42 (by omega)
    clear hq42
    clear hq43
    refine j_aload_n hX dX11_ask_11 rfl 0 rfl ?_
    refine j_iload_n hX dX11_ask_12 rfl 2 rfl ?_
    refine j_callVV hX lk_X11_499 (c_X11_layLots _ _ _ _ _ _ _ _ _ (by omega) hI (by omega) hbk hnr) (by omega) hce rfl rfl (by omega) (by omega) kc_210 rfl rfl (Nat.le_of_ble_eq_true rfl) dX11_ask_13 (fun M47 hp48 => ?_)
    obtain ⟨hI51, hG52⟩ := hp48
    have hk53 := kp_fr hG52 (by omega) hbk
    have hk54 := kp_fr hG52 (by omega) hnr
    have hF55 := Fr.trans hF hG52 (fun a b h => by omega)
    refine j_iconst hX dX11_ask_16 ?_
    refine j_istore_n (lv' := [(3, _), (0, _), (1, _), (2, _)]) hX dX11_ask_17 rfl (by rw [hnL]; decide) rfl ?_
    refine j_iconst hX dX11_ask_18 ?_
    refine j_istore (lv' := [(4, _), (3, _), (0, _), (1, _), (2, _)]) hX dX11_ask_19 (by rw [hnL]; decide) rfl ?_
    refine j_iconst hX dX11_ask_21 ?_
    refine j_istore (lv' := [(5, _), (4, _), (3, _), (0, _), (1, _), (2, _)]) hX dX11_ask_22 (by rw [hnL]; decide) rfl ?_
    refine j_sub [3, 4, 5, 2, 1, 0] rfl ?_
    refine (cp (Int.toNat (32064 + 1))).1 _ _ _ _ (by omega) (by omega) (by omega) hI51 hF55 hk53 hk54 (by first | assumption | omega) ?_ ?_
    · omega
    · omega
  · skip
    clear hq42
    have hi56 := hq43 (by omega)
    clear hq43
    refine j_iconst hX dX11_ask_9 ?_
    exact hret _ _ _ _ dX11_ask_10 rfl (by omega) ⟨hI, hF⟩
set_option maxHeartbeats 2000000 in
set_option maxRecDepth 20000 in
theorem c_X11_proof (l : Launch) (D : va_G) (cy : Nat → ClassId) (B N : Nat) (bk : Int) (nr : Int) (a : Int) (b : Int) (M : MM) (hN : 257 ≤ N) (hI : Iv M) (hpa : I32 a) (hpb : I32 b) (hbk : M.1 210 40 = bk) (hnr : M.1 213 bk = nr) : CI l D cy B N 2 yX11_proof cX11_proof 7 (some .int) [rv B 210, iv a, iv b] M (fun z M' => M' = M) := by
  refine mk_CI (by decide) (Nat.le_of_ble_eq_true rfl) ?_
  intro X exl exD excy hnL hX hret
  have hce : 0 + 0 ≤ (xR X).cells ∧ 0 + 0 ≤ (xR X).slots := ⟨Nat.zero_le _, Nat.zero_le _⟩
  have hbk2 : 0 ≤ bk ∧ bk ≤ 1 := by have := hI.at 210 40 ro_210_40; omega
  have hnr2 : 0 ≤ nr ∧ nr ≤ 6 := by have := hI.at 213 bk (ra_213 _); omega
  have cp : ∀ n : Nat, (∀ (x3 x4 : Int), I32 x3 → I32 x4 → (0 ≤ x4 ∧ x4 ≤ 64) → 0 ≤ 32 * (100 * (64 - x4) + 50) + 2 → 32 * (100 * (64 - x4) + 50) + 2 < (n : Int) → J X B N 0 0 37 [(0, rv B 210), (1, iv a), (2, iv b), (3, iv x3), (4, iv x4)] [] M) ∧ (∀ (x3 x4 x5 x6 : Int), I32 x3 → I32 x4 → I32 x5 → I32 x6 → (0 ≤ x4 ∧ x4 < 64 ∧ 0 ≤ x6 ∧ x6 ≤ 6) → 0 ≤ 32 * (100 * (64 - x4) + 10 - x6) + 1 → 32 * (100 * (64 - x4) + 10 - x6) + 1 < (n : Int) → J X B N 0 0 73 [(0, rv B 210), (1, iv a), (2, iv b), (3, iv x3), (4, iv x4), (5, iv x5), (6, iv x6)] [] M) := by
    intro n
    induction n with
    | zero => exact ⟨by intros; exfalso; omega, by intros; exfalso; omega⟩
    | succ n ih =>
      refine ⟨?_, ?_⟩
      · intro x3 x4 hxx3 hxx4 h2 hm0 hm1
        refine j_iload hX dX11_proof_37 4 rfl ?_
        refine j_iconst hX dX11_proof_39 ?_
        refine j_aload_n hX dX11_proof_40 rfl 0 rfl ?_
        refine j_callVI hX lk_X11_385 (c_X11_many _ _ _ _ _ _ _ _ (by omega) hI hbk hnr) (by omega) hce rfl rfl (by omega) (by omega) kc_210 rfl rfl (Nat.le_of_ble_eq_true rfl) dX11_proof_41 (fun z1 M2 hz4 hp3 => ?_)
        obtain ⟨hE5, hq6⟩ := hp3
        replace hE5 := hE5.symm
        subst hE5
        refine j_ishl hX dX11_proof_44 (fun z7 hz8 hy9 => ?_)
        have hs2 := (shl_b hz8).1 (by omega) (by omega)
        refine j_icmp_ge (tgt := 131) hX dX11_proof_45 (by decide) (by omega) (by omega) (fun hc10 => ?_) (fun hc10 => ?_)
        · skip
          refine j_iload_n hX dX11_proof_131 rfl 3 rfl ?_
          refine j_if_ge (tgt := 139) hX dX11_proof_132 (by decide) (by omega) (fun hc11 => ?_) (fun hc11 => ?_)
          · skip
            refine j_iload_n hX dX11_proof_139 rfl 2 rfl ?_
            refine j_if_ne (tgt := 150) hX dX11_proof_140 (by decide) (by omega) (fun hc12 => ?_) (fun hc12 => ?_)
            · skip
              refine j_iload_n hX dX11_proof_150 rfl 3 rfl ?_
              exact hret _ _ _ _ dX11_proof_151 rfl (by omega) rfl
            · skip
              refine j_iload_n hX dX11_proof_143 rfl 3 rfl ?_
              refine j_callSI hX lk_X11_372 (c_X11_bitsOf _ _ _ _ _ _ _ (by omega)) (by omega) hce rfl rfl (Nat.le_of_ble_eq_true rfl) dX11_proof_144 (fun z13 M14 hz16 hp15 => ?_)
              have hE17 := hp15.symm
              subst hE17
              refine j_goto (tgt := 151) hX dX11_proof_147 (by decide) ?_
              exact hret _ _ _ _ dX11_proof_151 rfl (by omega) rfl
          · skip
            refine j_iconst hX dX11_proof_135 ?_
            refine j_goto (tgt := 151) hX dX11_proof_136 (by decide) ?_
            exact hret _ _ _ _ dX11_proof_151 rfl (by omega) rfl
        · skip
          refine j_iload_n hX dX11_proof_48 rfl 3 rfl ?_
          refine j_if_lt (tgt := 67) hX dX11_proof_49 (by decide) (by omega) (fun hc18 => ?_) (fun hc18 => ?_)
          · skip
            refine j_iconst hX dX11_proof_67 ?_
            refine j_istore (lv' := [(5, _), (0, _), (1, _), (2, _), (3, _), (4, _)]) hX dX11_proof_68 (by rw [hnL]; decide) rfl ?_
            refine j_iconst hX dX11_proof_70 ?_
            refine j_istore (lv' := [(6, _), (5, _), (0, _), (1, _), (2, _), (3, _), (4, _)]) hX dX11_proof_71 (by rw [hnL]; decide) rfl ?_
            refine j_sub [2, 3, 4, 5, 6, 1, 0] rfl ?_
            exact ih.2 _ _ _ _ (by omega) (by omega) (by omega) (by omega) (by first | assumption | omega) (by omega) (by omega)
          · skip
            refine j_iload hX dX11_proof_52 4 rfl ?_
            refine j_callSI hX lk_X11_372 (c_X11_bitsOf _ _ _ _ _ _ _ (by omega)) (by omega) hce rfl rfl (Nat.le_of_ble_eq_true rfl) dX11_proof_54 (fun z19 M20 hz22 hp21 => ?_)
            have hE23 := hp21.symm
            subst hE23
            refine j_iload_n hX dX11_proof_57 rfl 3 rfl ?_
            refine j_callSI hX lk_X11_372 (c_X11_bitsOf _ _ _ _ _ _ _ (by omega)) (by omega) hce rfl rfl (Nat.le_of_ble_eq_true rfl) dX11_proof_58 (fun z24 M25 hz27 hp26 => ?_)
            have hE28 := hp26.symm
            subst hE28
            refine j_icmp_lt (tgt := 67) hX dX11_proof_61 (by decide) (by omega) (by omega) (fun hc29 => ?_) (fun hc29 => ?_)
            · skip
              refine j_iconst hX dX11_proof_67 ?_
              refine j_istore (lv' := [(5, _), (0, _), (1, _), (2, _), (3, _), (4, _)]) hX dX11_proof_68 (by rw [hnL]; decide) rfl ?_
              refine j_iconst hX dX11_proof_70 ?_
              refine j_istore (lv' := [(6, _), (5, _), (0, _), (1, _), (2, _), (3, _), (4, _)]) hX dX11_proof_71 (by rw [hnL]; decide) rfl ?_
              refine j_sub [2, 3, 4, 5, 6, 1, 0] rfl ?_
              exact ih.2 _ _ _ _ (by omega) (by omega) (by omega) (by omega) (by first | assumption | omega) (by omega) (by omega)
            · skip
              refine j_goto (tgt := 125) hX dX11_proof_64 (by decide) ?_
              refine j_iinc (lv' := [(4, _), (0, _), (1, _), (2, _), (3, _)]) hX dX11_proof_125 4 rfl (by rw [hnL]; decide) rfl ?_
              refine j_goto (tgt := 37) hX dX11_proof_128 (by decide) ?_
              refine j_sub [1, 2, 3, 4, 0] rfl ?_
              exact ih.1 _ _ (by omega) (by omega) (by first | assumption | omega) (by omega) (by omega)
      · intro x3 x4 x5 x6 hxx3 hxx4 hxx5 hxx6 h2 hm0 hm1
        refine j_iload hX dX11_proof_73 6 rfl ?_
        refine j_aload_n hX dX11_proof_75 rfl 0 rfl ?_
        refine j_callVI hX lk_X11_385 (c_X11_many _ _ _ _ _ _ _ _ (by omega) hI hbk hnr) (by omega) hce rfl rfl (by omega) (by omega) kc_210 rfl rfl (Nat.le_of_ble_eq_true rfl) dX11_proof_76 (fun z30 M31 hz33 hp32 => ?_)
        obtain ⟨hE34, hq35⟩ := hp32
        replace hE34 := hE34.symm
        subst hE34
        refine j_icmp_ge (tgt := 113) hX dX11_proof_79 (by decide) (by omega) (by omega) (fun hc36 => ?_) (fun hc36 => ?_)
        · skip
          refine j_iload_n hX dX11_proof_113 rfl 1 rfl ?_
          refine j_iload hX dX11_proof_114 5 rfl ?_
          refine j_iconst hX dX11_proof_116 ?_
          refine j_ixor hX dX11_proof_117 (fun z37 hz38 hy39 => ?_)
          refine j_iand hX dX11_proof_118 (fun z40 hz41 hy42 => ?_)
          refine j_if_ne (tgt := 125) hX dX11_proof_119 (by decide) (by omega) (fun hc43 => ?_) (fun hc43 => ?_)
          · skip
            refine j_iinc (lv' := [(4, _), (0, _), (1, _), (2, _), (3, _), (5, _), (6, _)]) hX dX11_proof_125 4 rfl (by rw [hnL]; decide) rfl ?_
            refine j_goto (tgt := 37) hX dX11_proof_128 (by decide) ?_
            refine j_sub [1, 2, 3, 4, 0] rfl ?_
            exact ih.1 _ _ (by omega) (by omega) (by first | assumption | omega) (by omega) (by omega)
          · skip
            refine j_iload hX dX11_proof_122 4 rfl ?_
            refine j_istore_n (lv' := [(3, _), (0, _), (1, _), (2, _), (4, _), (5, _), (6, _)]) hX dX11_proof_124 rfl (by rw [hnL]; decide) rfl ?_
            refine j_iinc (lv' := [(4, _), (3, _), (0, _), (1, _), (2, _), (5, _), (6, _)]) hX dX11_proof_125 4 rfl (by rw [hnL]; decide) rfl ?_
            refine j_goto (tgt := 37) hX dX11_proof_128 (by decide) ?_
            refine j_sub [2, 3, 4, 1, 0] rfl ?_
            exact ih.1 _ _ (by omega) (by omega) (by first | assumption | omega) (by omega) (by omega)
        · skip
          refine j_iload hX dX11_proof_82 4 rfl ?_
          refine j_iload hX dX11_proof_84 6 rfl ?_
          refine j_callSI hX lk_X11_368 (c_X11_has _ _ _ _ _ _ _ _ (by omega) (by omega)) (by omega) hce rfl rfl (Nat.le_of_ble_eq_true rfl) dX11_proof_86 (fun z44 M45 hz47 hp46 => ?_)
          obtain ⟨hE48, hb49, hq50⟩ := hp46
          replace hE48 := hE48.symm
          subst hE48
          refine j_if_eq (tgt := 107) hX dX11_proof_89 (by decide) (by omega) (fun hc51 => ?_) (fun hc51 => ?_)
          · skip
            refine j_iinc (lv' := [(6, _), (0, _), (1, _), (2, _), (3, _), (4, _), (5, _)]) hX dX11_proof_107 6 rfl (by rw [hnL]; decide) rfl ?_
            refine j_goto (tgt := 73) hX dX11_proof_110 (by decide) ?_
            refine j_sub [1, 2, 3, 4, 5, 6, 0] rfl ?_
            exact ih.2 _ _ _ _ (by omega) (by omega) (by omega) (by omega) (by first | assumption | omega) (by omega) (by omega)
          · skip
            refine j_iload hX dX11_proof_92 5 rfl ?_
            refine j_aload_n hX dX11_proof_94 rfl 0 rfl ?_
            refine gf_X11_110 hX (by omega) (by omega) kc_210 (fc_210_47 hI) (by decide) dX11_proof_95 ?_
            refine j_bipush hX dX11_proof_98 rfl ?_
            refine j_iload hX dX11_proof_100 6 rfl ?_
            refine j_iadd hX dX11_proof_102 ?_
            refine j_iald hX (by omega) (by omega) kc_242 (by omega) (by omega) (by omega) dX11_proof_103 ?_
            refine j_name hI (rk_242 (by omega) (by omega)) (fun v52 hv53 hl54 hh55 => ?_)
            refine j_ior hX dX11_proof_104 (fun z56 hz57 hy58 => ?_)
            refine j_istore (lv' := [(5, _), (0, _), (1, _), (2, _), (3, _), (4, _), (6, _)]) hX dX11_proof_105 (by rw [hnL]; decide) rfl ?_
            refine j_iinc (lv' := [(6, _), (5, _), (0, _), (1, _), (2, _), (3, _), (4, _)]) hX dX11_proof_107 6 rfl (by rw [hnL]; decide) rfl ?_
            refine j_goto (tgt := 73) hX dX11_proof_110 (by decide) ?_
            refine j_sub [2, 3, 4, 5, 6, 1, 0] rfl ?_
            exact ih.2 _ _ _ _ (by omega) (by omega) (by omega) (by omega) (by first | assumption | omega) (by omega) (by omega)
  show J X B N 0 0 0 [(0, rv B 210), (1, iv a), (2, iv b)] [] M
  refine j_iload_n hX dX11_proof_0 rfl 1 rfl ?_
  refine j_iconst hX dX11_proof_1 ?_
  refine j_iconst hX dX11_proof_2 ?_
  refine j_aload_n hX dX11_proof_3 rfl 0 rfl ?_
  refine gf_X11_24 hX (by omega) (by omega) kc_210 (fc_210_12 hI) (by decide) dX11_proof_4 ?_
  refine j_aload_n hX dX11_proof_7 rfl 0 rfl ?_
  refine gf_X11_279 hX (by omega) (by omega) kc_210 dX11_proof_8 ?_
  refine j_top hbk ?_
  refine j_iald hX (by omega) (by omega) kc_214 (by omega) (by omega) (by omega) dX11_proof_11 ?_
  refine j_name hI (ra_214 _) (fun v59 hv60 hl61 hh62 => ?_)
  refine j_ishl hX dX11_proof_12 (fun z63 hz64 hy65 => ?_)
  have hs := (shl_b hz64).2.1 (by omega) (by omega)
  refine j_iconst hX dX11_proof_13 ?_
  refine j_isub hX dX11_proof_14 ?_
  refine j_callSI hX lk_X11_388 (c_X11_isIn _ _ _ _ _ _ _ _ _ (by omega) (by omega) (by omega)) (by omega) hce rfl rfl (Nat.le_of_ble_eq_true rfl) dX11_proof_15 (fun z66 M67 hz69 hp68 => ?_)
  obtain ⟨hE70, hb71, hq72, hq73⟩ := hp68
  replace hE70 := hE70.symm
  subst hE70
  refine j_if_eq (tgt := 30) hX dX11_proof_18 (by decide) (by omega) (fun hc74 => ?_) (fun hc74 => ?_)
  · skip
    clear hq72
    have hi75 := hq73 (by omega)
    clear hq73
    refine j_iconst hX dX11_proof_30 ?_
    exact hret _ _ _ _ dX11_proof_31 rfl (by omega) rfl
  · skip
    have hi76 := hq72 (by omega)
    clear hq72
    clear hq73
    refine j_iload_n hX dX11_proof_21 rfl 2 rfl ?_
    refine j_iconst hX dX11_proof_22 ?_
    refine j_iconst hX dX11_proof_23 ?_
    refine j_callSI hX lk_X11_388 (c_X11_isIn _ _ _ _ _ _ _ _ _ (by omega) (by omega) (by omega)) (by omega) hce rfl rfl (Nat.le_of_ble_eq_true rfl) dX11_proof_24 (fun z77 M78 hz80 hp79 => ?_)
    obtain ⟨hE81, hb82, hq83, hq84⟩ := hp79
    replace hE81 := hE81.symm
    subst hE81
    refine j_if_ne (tgt := 32) hX dX11_proof_27 (by decide) (by omega) (fun hc85 => ?_) (fun hc85 => ?_)
    · skip
      have hi86 := hq83 (by omega)
      clear hq83
      clear hq84
      refine j_iconst hX dX11_proof_32 ?_
      refine j_istore_n (lv' := [(3, _), (0, _), (1, _), (2, _)]) hX dX11_proof_33 rfl (by rw [hnL]; decide) rfl ?_
      refine j_iconst hX dX11_proof_34 ?_
      refine j_istore (lv' := [(4, _), (3, _), (0, _), (1, _), (2, _)]) hX dX11_proof_35 (by rw [hnL]; decide) rfl ?_
      refine j_sub [2, 3, 4, 1, 0] rfl ?_
      refine (cp (Int.toNat (320064 + 1))).1 _ _ (by omega) (by omega) (by first | assumption | omega) ?_ ?_
      · omega
      · omega
    · skip
      clear hq83
      have hi87 := hq84 (by omega)
      clear hq84
      refine j_iconst hX dX11_proof_30 ?_
      exact hret _ _ _ _ dX11_proof_31 rfl (by omega) rfl
