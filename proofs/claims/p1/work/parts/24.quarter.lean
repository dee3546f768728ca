theorem dX6_hasRoom_0 : decode cX6_hasRoom 0 = .ok (.iload_n 1, 1) := by decide +kernel
theorem dX6_hasRoom_1 : decode cX6_hasRoom 1 = .ok (.ifCond .lt 15, 3) := by decide +kernel
theorem dX6_hasRoom_4 : decode cX6_hasRoom 4 = .ok (.iload_n 1, 1) := by decide +kernel
theorem dX6_hasRoom_5 : decode cX6_hasRoom 5 = .ok (.aload_n 0, 1) := by decide +kernel
theorem dX6_hasRoom_6 : decode cX6_hasRoom 6 = .ok (.getfield 9, 3) := by decide +kernel
theorem dX6_hasRoom_9 : decode cX6_hasRoom 9 = .ok (.if_icmp .ge 7, 3) := by decide +kernel
theorem dX6_hasRoom_12 : decode cX6_hasRoom 12 = .ok (.iconst 1, 1) := by decide +kernel
theorem dX6_hasRoom_13 : decode cX6_hasRoom 13 = .ok (.goto 4, 3) := by decide +kernel
theorem dX6_hasRoom_16 : decode cX6_hasRoom 16 = .ok (.iconst 0, 1) := by decide +kernel
theorem dX6_hasRoom_17 : decode cX6_hasRoom 17 = .ok (.ireturn, 1) := by decide +kernel
theorem dX6_hasFact_0 : decode cX6_hasFact 0 = .ok (.iload_n 1, 1) := by decide +kernel
theorem dX6_hasFact_1 : decode cX6_hasFact 1 = .ok (.ifCond .lt 15, 3) := by decide +kernel
theorem dX6_hasFact_4 : decode cX6_hasFact 4 = .ok (.iload_n 1, 1) := by decide +kernel
theorem dX6_hasFact_5 : decode cX6_hasFact 5 = .ok (.aload_n 0, 1) := by decide +kernel
theorem dX6_hasFact_6 : decode cX6_hasFact 6 = .ok (.getfield 26, 3) := by decide +kernel
theorem dX6_hasFact_9 : decode cX6_hasFact 9 = .ok (.if_icmp .ge 7, 3) := by decide +kernel
theorem dX6_hasFact_12 : decode cX6_hasFact 12 = .ok (.iconst 1, 1) := by decide +kernel
theorem dX6_hasFact_13 : decode cX6_hasFact 13 = .ok (.goto 4, 3) := by decide +kernel
theorem dX6_hasFact_16 : decode cX6_hasFact 16 = .ok (.iconst 0, 1) := by decide +kernel
theorem dX6_hasFact_17 : decode cX6_hasFact 17 = .ok (.ireturn, 1) := by decide +kernel
theorem dX6_allRooms_0 : decode cX6_allRooms 0 = .ok (.iconst 1, 1) := by decide +kernel
theorem dX6_allRooms_1 : decode cX6_allRooms 1 = .ok (.aload_n 0, 1) := by decide +kernel
theorem dX6_allRooms_2 : decode cX6_allRooms 2 = .ok (.getfield 9, 3) := by decide +kernel
theorem dX6_allRooms_5 : decode cX6_allRooms 5 = .ok (.ishl, 1) := by decide +kernel
theorem dX6_allRooms_6 : decode cX6_allRooms 6 = .ok (.iconst 1, 1) := by decide +kernel
theorem dX6_allRooms_7 : decode cX6_allRooms 7 = .ok (.isub, 1) := by decide +kernel
theorem dX6_allRooms_8 : decode cX6_allRooms 8 = .ok (.ireturn, 1) := by decide +kernel
theorem dX6_allFacts_0 : decode cX6_allFacts 0 = .ok (.iconst 1, 1) := by decide +kernel
theorem dX6_allFacts_1 : decode cX6_allFacts 1 = .ok (.aload_n 0, 1) := by decide +kernel
theorem dX6_allFacts_2 : decode cX6_allFacts 2 = .ok (.getfield 26, 3) := by decide +kernel
theorem dX6_allFacts_5 : decode cX6_allFacts 5 = .ok (.ishl, 1) := by decide +kernel
theorem dX6_allFacts_6 : decode cX6_allFacts 6 = .ok (.iconst 1, 1) := by decide +kernel
theorem dX6_allFacts_7 : decode cX6_allFacts 7 = .ok (.isub, 1) := by decide +kernel
theorem dX6_allFacts_8 : decode cX6_allFacts 8 = .ok (.ireturn, 1) := by decide +kernel
theorem dX6_placeOf_0 : decode cX6_placeOf 0 = .ok (.iconst 0, 1) := by decide +kernel
theorem dX6_placeOf_1 : decode cX6_placeOf 1 = .ok (.istore 4, 2) := by decide +kernel
theorem dX6_placeOf_3 : decode cX6_placeOf 3 = .ok (.iload 4, 2) := by decide +kernel
theorem dX6_placeOf_5 : decode cX6_placeOf 5 = .ok (.iload_n 3, 1) := by decide +kernel
theorem dX6_placeOf_6 : decode cX6_placeOf 6 = .ok (.if_icmp .ge 28, 3) := by decide +kernel
theorem dX6_placeOf_9 : decode cX6_placeOf 9 = .ok (.iload 4, 2) := by decide +kernel
theorem dX6_placeOf_11 : decode cX6_placeOf 11 = .ok (.aload_n 2, 1) := by decide +kernel
theorem dX6_placeOf_12 : decode cX6_placeOf 12 = .ok (.arraylength, 1) := by decide +kernel
theorem dX6_placeOf_13 : decode cX6_placeOf 13 = .ok (.if_icmp .ge 21, 3) := by decide +kernel
theorem dX6_placeOf_16 : decode cX6_placeOf 16 = .ok (.aload_n 2, 1) := by decide +kernel
theorem dX6_placeOf_17 : decode cX6_placeOf 17 = .ok (.iload 4, 2) := by decide +kernel
theorem dX6_placeOf_19 : decode cX6_placeOf 19 = .ok (.laload, 1) := by decide +kernel
theorem dX6_placeOf_20 : decode cX6_placeOf 20 = .ok (.lload_n 0, 1) := by decide +kernel
theorem dX6_placeOf_21 : decode cX6_placeOf 21 = .ok (.lcmp, 1) := by decide +kernel
theorem dX6_placeOf_22 : decode cX6_placeOf 22 = .ok (.ifCond .ne 6, 3) := by decide +kernel
theorem dX6_placeOf_25 : decode cX6_placeOf 25 = .ok (.iload 4, 2) := by decide +kernel
theorem dX6_placeOf_27 : decode cX6_placeOf 27 = .ok (.ireturn, 1) := by decide +kernel
theorem dX6_placeOf_28 : decode cX6_placeOf 28 = .ok (.iinc 4 1, 3) := by decide +kernel
theorem dX6_placeOf_31 : decode cX6_placeOf 31 = .ok (.goto (-28), 3) := by decide +kernel
theorem dX6_placeOf_34 : decode cX6_placeOf 34 = .ok (.iconst (-1), 1) := by decide +kernel
theorem dX6_placeOf_35 : decode cX6_placeOf 35 = .ok (.ireturn, 1) := by decide +kernel
theorem dX6_roomNamed_0 : decode cX6_roomNamed 0 = .ok (.lload_n 1, 1) := by decide +kernel
theorem dX6_roomNamed_1 : decode cX6_roomNamed 1 = .ok (.aload_n 0, 1) := by decide +kernel
theorem dX6_roomNamed_2 : decode cX6_roomNamed 2 = .ok (.getfield 15, 3) := by decide +kernel
theorem dX6_roomNamed_5 : decode cX6_roomNamed 5 = .ok (.aload_n 0, 1) := by decide +kernel
theorem dX6_roomNamed_6 : decode cX6_roomNamed 6 = .ok (.getfield 9, 3) := by decide +kernel
theorem dX6_roomNamed_9 : decode cX6_roomNamed 9 = .ok (.invokestatic 94, 3) := by decide +kernel
theorem dX6_roomNamed_12 : decode cX6_roomNamed 12 = .ok (.ireturn, 1) := by decide +kernel
theorem dX6_factNamed_0 : decode cX6_factNamed 0 = .ok (.lload_n 1, 1) := by decide +kernel
theorem dX6_factNamed_1 : decode cX6_factNamed 1 = .ok (.aload_n 0, 1) := by decide +kernel
theorem dX6_factNamed_2 : decode cX6_factNamed 2 = .ok (.getfield 29, 3) := by decide +kernel
theorem dX6_factNamed_5 : decode cX6_factNamed 5 = .ok (.aload_n 0, 1) := by decide +kernel
theorem dX6_factNamed_6 : decode cX6_factNamed 6 = .ok (.getfield 26, 3) := by decide +kernel
theorem dX6_factNamed_9 : decode cX6_factNamed 9 = .ok (.invokestatic 94, 3) := by decide +kernel
theorem dX6_factNamed_12 : decode cX6_factNamed 12 = .ok (.ireturn, 1) := by decide +kernel
theorem dX6_wantOf_0 : decode cX6_wantOf 0 = .ok (.aload_n 0, 1) := by decide +kernel
theorem dX6_wantOf_1 : decode cX6_wantOf 1 = .ok (.getfield 56, 3) := by decide +kernel
theorem dX6_wantOf_4 : decode cX6_wantOf 4 = .ok (.iload_n 1, 1) := by decide +kernel
theorem dX6_wantOf_5 : decode cX6_wantOf 5 = .ok (.aaload, 1) := by decide +kernel
theorem dX6_wantOf_6 : decode cX6_wantOf 6 = .ok (.iload_n 2, 1) := by decide +kernel
theorem dX6_wantOf_7 : decode cX6_wantOf 7 = .ok (.iaload, 1) := by decide +kernel
theorem dX6_wantOf_8 : decode cX6_wantOf 8 = .ok (.iconst 0, 1) := by decide +kernel
theorem dX6_wantOf_9 : decode cX6_wantOf 9 = .ok (.invokestatic 98, 3) := by decide +kernel
theorem dX6_wantOf_12 : decode cX6_wantOf 12 = .ok (.ireturn, 1) := by decide +kernel
theorem dX6_isDark_0 : decode cX6_isDark 0 = .ok (.aload_n 0, 1) := by decide +kernel
theorem dX6_isDark_1 : decode cX6_isDark 1 = .ok (.getfield 59, 3) := by decide +kernel
theorem dX6_isDark_4 : decode cX6_isDark 4 = .ok (.iconst (-1), 1) := by decide +kernel
theorem dX6_isDark_5 : decode cX6_isDark 5 = .ok (.if_icmp .ne 5, 3) := by decide +kernel
theorem dX6_isDark_8 : decode cX6_isDark 8 = .ok (.iconst 0, 1) := by decide +kernel
theorem dX6_isDark_9 : decode cX6_isDark 9 = .ok (.ireturn, 1) := by decide +kernel
theorem dX6_isDark_10 : decode cX6_isDark 10 = .ok (.aload_n 0, 1) := by decide +kernel
theorem dX6_isDark_11 : decode cX6_isDark 11 = .ok (.getfield 59, 3) := by decide +kernel
theorem dX6_isDark_14 : decode cX6_isDark 14 = .ok (.aload_n 0, 1) := by decide +kernel
theorem dX6_isDark_15 : decode cX6_isDark 15 = .ok (.getfield 62, 3) := by decide +kernel
theorem dX6_isDark_18 : decode cX6_isDark 18 = .ok (.if_icmp .gt 25, 3) := by decide +kernel
theorem dX6_isDark_21 : decode cX6_isDark 21 = .ok (.iload_n 1, 1) := by decide +kernel
theorem dX6_isDark_22 : decode cX6_isDark 22 = .ok (.aload_n 0, 1) := by decide +kernel
theorem dX6_isDark_23 : decode cX6_isDark 23 = .ok (.getfield 59, 3) := by decide +kernel
theorem dX6_isDark_26 : decode cX6_isDark 26 = .ok (.if_icmp .lt 15, 3) := by decide +kernel
theorem dX6_isDark_29 : decode cX6_isDark 29 = .ok (.iload_n 1, 1) := by decide +kernel
theorem dX6_isDark_30 : decode cX6_isDark 30 = .ok (.aload_n 0, 1) := by decide +kernel
theorem dX6_isDark_31 : decode cX6_isDark 31 = .ok (.getfield 62, 3) := by decide +kernel
theorem dX6_isDark_34 : decode cX6_isDark 34 = .ok (.if_icmp .gt 7, 3) := by decide +kernel
theorem dX6_isDark_37 : decode cX6_isDark 37 = .ok (.iconst 1, 1) := by decide +kernel
theorem dX6_isDark_38 : decode cX6_isDark 38 = .ok (.goto 4, 3) := by decide +kernel
theorem dX6_isDark_41 : decode cX6_isDark 41 = .ok (.iconst 0, 1) := by decide +kernel
theorem dX6_isDark_42 : decode cX6_isDark 42 = .ok (.ireturn, 1) := by decide +kernel
theorem dX6_isDark_43 : decode cX6_isDark 43 = .ok (.iload_n 1, 1) := by decide +kernel
theorem dX6_isDark_44 : decode cX6_isDark 44 = .ok (.aload_n 0, 1) := by decide +kernel
theorem dX6_isDark_45 : decode cX6_isDark 45 = .ok (.getfield 59, 3) := by decide +kernel
theorem dX6_isDark_48 : decode cX6_isDark 48 = .ok (.if_icmp .ge 11, 3) := by decide +kernel
theorem dX6_isDark_51 : decode cX6_isDark 51 = .ok (.iload_n 1, 1) := by decide +kernel
theorem dX6_isDark_52 : decode cX6_isDark 52 = .ok (.aload_n 0, 1) := by decide +kernel
theorem dX6_isDark_53 : decode cX6_isDark 53 = .ok (.getfield 62, 3) := by decide +kernel
theorem dX6_isDark_56 : decode cX6_isDark 56 = .ok (.if_icmp .gt 7, 3) := by decide +kernel
theorem dX6_isDark_59 : decode cX6_isDark 59 = .ok (.iconst 1, 1) := by decide +kernel
theorem dX6_isDark_60 : decode cX6_isDark 60 = .ok (.goto 4, 3) := by decide +kernel
theorem dX6_isDark_63 : decode cX6_isDark 63 = .ok (.iconst 0, 1) := by decide +kernel
theorem dX6_isDark_64 : decode cX6_isDark 64 = .ok (.ireturn, 1) := by decide +kernel
theorem dX6_clear_0 : decode cX6_clear 0 = .ok (.aload_n 0, 1) := by decide +kernel
theorem dX6_clear_1 : decode cX6_clear 1 = .ok (.iconst 0, 1) := by decide +kernel
theorem dX6_clear_2 : decode cX6_clear 2 = .ok (.putfield 9, 3) := by decide +kernel
theorem dX6_clear_5 : decode cX6_clear 5 = .ok (.aload_n 0, 1) := by decide +kernel
theorem dX6_clear_6 : decode cX6_clear 6 = .ok (.iconst 0, 1) := by decide +kernel
theorem dX6_clear_7 : decode cX6_clear 7 = .ok (.putfield 23, 3) := by decide +kernel
theorem dX6_clear_10 : decode cX6_clear 10 = .ok (.aload_n 0, 1) := by decide +kernel
theorem dX6_clear_11 : decode cX6_clear 11 = .ok (.iconst 0, 1) := by decide +kernel
theorem dX6_clear_12 : decode cX6_clear 12 = .ok (.putfield 26, 3) := by decide +kernel
theorem dX6_clear_15 : decode cX6_clear 15 = .ok (.aload_n 0, 1) := by decide +kernel
theorem dX6_clear_16 : decode cX6_clear 16 = .ok (.iconst 0, 1) := by decide +kernel
theorem dX6_clear_17 : decode cX6_clear 17 = .ok (.putfield 38, 3) := by decide +kernel
theorem dX6_clear_20 : decode cX6_clear 20 = .ok (.aload_n 0, 1) := by decide +kernel
theorem dX6_clear_21 : decode cX6_clear 21 = .ok (.iconst 0, 1) := by decide +kernel
theorem dX6_clear_22 : decode cX6_clear 22 = .ok (.putfield 41, 3) := by decide +kernel
theorem dX6_clear_25 : decode cX6_clear 25 = .ok (.aload_n 0, 1) := by decide +kernel
theorem dX6_clear_26 : decode cX6_clear 26 = .ok (.iconst 0, 1) := by decide +kernel
theorem dX6_clear_27 : decode cX6_clear 27 = .ok (.putfield 48, 3) := by decide +kernel
theorem dX6_clear_30 : decode cX6_clear 30 = .ok (.aload_n 0, 1) := by decide +kernel
theorem dX6_clear_31 : decode cX6_clear 31 = .ok (.getfield 51, 3) := by decide +kernel
theorem dX6_clear_34 : decode cX6_clear 34 = .ok (.iconst 0, 1) := by decide +kernel
theorem dX6_clear_35 : decode cX6_clear 35 = .ok (.invokestatic 81, 3) := by decide +kernel
theorem dX6_clear_38 : decode cX6_clear 38 = .ok (.iconst 0, 1) := by decide +kernel
theorem dX6_clear_39 : decode cX6_clear 39 = .ok (.istore_n 1, 1) := by decide +kernel
theorem dX6_clear_40 : decode cX6_clear 40 = .ok (.iload_n 1, 1) := by decide +kernel
theorem dX6_clear_41 : decode cX6_clear 41 = .ok (.bipush 6, 2) := by decide +kernel
theorem dX6_clear_43 : decode cX6_clear 43 = .ok (.if_icmp .ge 19, 3) := by decide +kernel
theorem dX6_clear_46 : decode cX6_clear 46 = .ok (.aload_n 0, 1) := by decide +kernel
theorem dX6_clear_47 : decode cX6_clear 47 = .ok (.getfield 56, 3) := by decide +kernel
theorem dX6_clear_50 : decode cX6_clear 50 = .ok (.iload_n 1, 1) := by decide +kernel
theorem dX6_clear_51 : decode cX6_clear 51 = .ok (.aaload, 1) := by decide +kernel
theorem dX6_clear_52 : decode cX6_clear 52 = .ok (.iconst (-1), 1) := by decide +kernel
theorem dX6_clear_53 : decode cX6_clear 53 = .ok (.invokestatic 81, 3) := by decide +kernel
theorem dX6_clear_56 : decode cX6_clear 56 = .ok (.iinc 1 1, 3) := by decide +kernel
theorem dX6_clear_59 : decode cX6_clear 59 = .ok (.goto (-19), 3) := by decide +kernel
theorem dX6_clear_62 : decode cX6_clear 62 = .ok (.aload_n 0, 1) := by decide +kernel
theorem dX6_clear_63 : decode cX6_clear 63 = .ok (.iconst (-1), 1) := by decide +kernel
theorem dX6_clear_64 : decode cX6_clear 64 = .ok (.putfield 59, 3) := by decide +kernel
theorem dX6_clear_67 : decode cX6_clear 67 = .ok (.aload_n 0, 1) := by decide +kernel
theorem dX6_clear_68 : decode cX6_clear 68 = .ok (.iconst (-1), 1) := by decide +kernel
theorem dX6_clear_69 : decode cX6_clear 69 = .ok (.putfield 62, 3) := by decide +kernel
theorem dX6_clear_72 : decode cX6_clear 72 = .ok (.aload_n 0, 1) := by decide +kernel
theorem dX6_clear_73 : decode cX6_clear 73 = .ok (.iconst (-1), 1) := by decide +kernel
theorem dX6_clear_74 : decode cX6_clear 74 = .ok (.putfield 65, 3) := by decide +kernel
theorem dX6_clear_77 : decode cX6_clear 77 = .ok (.aload_n 0, 1) := by decide +kernel
theorem dX6_clear_78 : decode cX6_clear 78 = .ok (.getfield 71, 3) := by decide +kernel
theorem dX6_clear_81 : decode cX6_clear 81 = .ok (.invokevirtual 87, 3) := by decide +kernel
theorem dX6_clear_84 : decode cX6_clear 84 = .ok (.return_, 1) := by decide +kernel
theorem dX6_settle_0 : decode cX6_settle 0 = .ok (.iconst 0, 1) := by decide +kernel
theorem dX6_settle_1 : decode cX6_settle 1 = .ok (.istore_n 1, 1) := by decide +kernel
theorem dX6_settle_2 : decode cX6_settle 2 = .ok (.iload_n 1, 1) := by decide +kernel
theorem dX6_settle_3 : decode cX6_settle 3 = .ok (.aload_n 0, 1) := by decide +kernel
theorem dX6_settle_4 : decode cX6_settle 4 = .ok (.getfield 9, 3) := by decide +kernel
theorem dX6_settle_7 : decode cX6_settle 7 = .ok (.if_icmp .ge 39, 3) := by decide +kernel
theorem dX6_settle_10 : decode cX6_settle 10 = .ok (.aload_n 0, 1) := by decide +kernel
theorem dX6_settle_11 : decode cX6_settle 11 = .ok (.getfield 41, 3) := by decide +kernel
theorem dX6_settle_14 : decode cX6_settle 14 = .ok (.ifCond .ne 32, 3) := by decide +kernel
theorem dX6_settle_17 : decode cX6_settle 17 = .ok (.aload_n 0, 1) := by decide +kernel
theorem dX6_settle_18 : decode cX6_settle 18 = .ok (.getfield 45, 3) := by decide +kernel
theorem dX6_settle_21 : decode cX6_settle 21 = .ok (.iload_n 1, 1) := by decide +kernel
theorem dX6_settle_22 : decode cX6_settle 22 = .ok (.iload_n 1, 1) := by decide +kernel
theorem dX6_settle_23 : decode cX6_settle 23 = .ok (.iconst 1, 1) := by decide +kernel
theorem dX6_settle_24 : decode cX6_settle 24 = .ok (.iadd, 1) := by decide +kernel
theorem dX6_settle_25 : decode cX6_settle 25 = .ok (.aload_n 0, 1) := by decide +kernel
theorem dX6_settle_26 : decode cX6_settle 26 = .ok (.getfield 9, 3) := by decide +kernel
theorem dX6_settle_29 : decode cX6_settle 29 = .ok (.if_icmp .ge 9, 3) := by decide +kernel
theorem dX6_settle_32 : decode cX6_settle 32 = .ok (.iload_n 1, 1) := by decide +kernel
theorem dX6_settle_33 : decode cX6_settle 33 = .ok (.iconst 1, 1) := by decide +kernel
theorem dX6_settle_34 : decode cX6_settle 34 = .ok (.iadd, 1) := by decide +kernel
theorem dX6_settle_35 : decode cX6_settle 35 = .ok (.goto 4, 3) := by decide +kernel
theorem dX6_settle_38 : decode cX6_settle 38 = .ok (.iconst 0, 1) := by decide +kernel
theorem dX6_settle_39 : decode cX6_settle 39 = .ok (.iastore, 1) := by decide +kernel
theorem dX6_settle_40 : decode cX6_settle 40 = .ok (.iinc 1 1, 3) := by decide +kernel
theorem dX6_settle_43 : decode cX6_settle 43 = .ok (.goto (-41), 3) := by decide +kernel
theorem dX6_settle_46 : decode cX6_settle 46 = .ok (.aload_n 0, 1) := by decide +kernel
theorem dX6_settle_47 : decode cX6_settle 47 = .ok (.getfield 75, 3) := by decide +kernel
theorem dX6_settle_50 : decode cX6_settle 50 = .ok (.iconst 0, 1) := by decide +kernel
theorem dX6_settle_51 : decode cX6_settle 51 = .ok (.invokestatic 81, 3) := by decide +kernel
theorem dX6_settle_54 : decode cX6_settle 54 = .ok (.aload_n 0, 1) := by decide +kernel
theorem dX6_settle_55 : decode cX6_settle 55 = .ok (.getfield 78, 3) := by decide +kernel
theorem dX6_settle_58 : decode cX6_settle 58 = .ok (.iconst 0, 1) := by decide +kernel
theorem dX6_settle_59 : decode cX6_settle 59 = .ok (.invokestatic 81, 3) := by decide +kernel
theorem dX6_settle_62 : decode cX6_settle 62 = .ok (.iconst 0, 1) := by decide +kernel
theorem dX6_settle_63 : decode cX6_settle 63 = .ok (.istore_n 1, 1) := by decide +kernel
theorem dX6_settle_64 : decode cX6_settle 64 = .ok (.iload_n 1, 1) := by decide +kernel
theorem dX6_settle_65 : decode cX6_settle 65 = .ok (.aload_n 0, 1) := by decide +kernel
theorem dX6_settle_66 : decode cX6_settle 66 = .ok (.getfield 26, 3) := by decide +kernel
theorem dX6_settle_69 : decode cX6_settle 69 = .ok (.if_icmp .ge 64, 3) := by decide +kernel
theorem dX6_settle_72 : decode cX6_settle 72 = .ok (.aload_n 0, 1) := by decide +kernel
theorem dX6_settle_73 : decode cX6_settle 73 = .ok (.getfield 35, 3) := by decide +kernel
theorem dX6_settle_76 : decode cX6_settle 76 = .ok (.iload_n 1, 1) := by decide +kernel
theorem dX6_settle_77 : decode cX6_settle 77 = .ok (.iaload, 1) := by decide +kernel
theorem dX6_settle_78 : decode cX6_settle 78 = .ok (.istore_n 2, 1) := by decide +kernel
theorem dX6_settle_79 : decode cX6_settle 79 = .ok (.aload_n 0, 1) := by decide +kernel
theorem dX6_settle_80 : decode cX6_settle 80 = .ok (.getfield 75, 3) := by decide +kernel
theorem dX6_settle_83 : decode cX6_settle 83 = .ok (.aload_n 0, 1) := by decide +kernel
theorem dX6_settle_84 : decode cX6_settle 84 = .ok (.getfield 32, 3) := by decide +kernel
theorem dX6_settle_87 : decode cX6_settle 87 = .ok (.iload_n 1, 1) := by decide +kernel
theorem dX6_settle_88 : decode cX6_settle 88 = .ok (.iaload, 1) := by decide +kernel
theorem dX6_settle_89 : decode cX6_settle 89 = .ok (.dup2, 1) := by decide +kernel
theorem dX6_settle_90 : decode cX6_settle 90 = .ok (.iaload, 1) := by decide +kernel
theorem dX6_settle_91 : decode cX6_settle 91 = .ok (.iconst 1, 1) := by decide +kernel
theorem dX6_settle_92 : decode cX6_settle 92 = .ok (.iload_n 1, 1) := by decide +kernel
theorem dX6_settle_93 : decode cX6_settle 93 = .ok (.ishl, 1) := by decide +kernel
theorem dX6_settle_94 : decode cX6_settle 94 = .ok (.ior, 1) := by decide +kernel
theorem dX6_settle_95 : decode cX6_settle 95 = .ok (.iastore, 1) := by decide +kernel
theorem dX6_settle_96 : decode cX6_settle 96 = .ok (.aload_n 0, 1) := by decide +kernel
theorem dX6_settle_97 : decode cX6_settle 97 = .ok (.iload_n 2, 1) := by decide +kernel
theorem dX6_settle_98 : decode cX6_settle 98 = .ok (.invokevirtual 90, 3) := by decide +kernel
theorem dX6_settle_101 : decode cX6_settle 101 = .ok (.ifCond .eq 14, 3) := by decide +kernel
theorem dX6_settle_104 : decode cX6_settle 104 = .ok (.aload_n 0, 1) := by decide +kernel
theorem dX6_settle_105 : decode cX6_settle 105 = .ok (.getfield 38, 3) := by decide +kernel
theorem dX6_settle_108 : decode cX6_settle 108 = .ok (.iload_n 1, 1) := by decide +kernel
theorem dX6_settle_109 : decode cX6_settle 109 = .ok (.ishr, 1) := by decide +kernel
theorem dX6_settle_110 : decode cX6_settle 110 = .ok (.iconst 1, 1) := by decide +kernel
theorem dX6_settle_111 : decode cX6_settle 111 = .ok (.iand, 1) := by decide +kernel
theorem dX6_settle_112 : decode cX6_settle 112 = .ok (.ifCond .eq 15, 3) := by decide +kernel
theorem dX6_settle_115 : decode cX6_settle 115 = .ok (.aload_n 0, 1) := by decide +kernel
theorem dX6_settle_116 : decode cX6_settle 116 = .ok (.getfield 78, 3) := by decide +kernel
theorem dX6_settle_119 : decode cX6_settle 119 = .ok (.iload_n 2, 1) := by decide +kernel
theorem dX6_settle_120 : decode cX6_settle 120 = .ok (.dup2, 1) := by decide +kernel
theorem dX6_settle_121 : decode cX6_settle 121 = .ok (.iaload, 1) := by decide +kernel
theorem dX6_settle_122 : decode cX6_settle 122 = .ok (.iconst 1, 1) := by decide +kernel
theorem dX6_settle_123 : decode cX6_settle 123 = .ok (.iload_n 1, 1) := by decide +kernel
theorem dX6_settle_124 : decode cX6_settle 124 = .ok (.ishl, 1) := by decide +kernel
theorem dX6_settle_125 : decode cX6_settle 125 = .ok (.ior, 1) := by decide +kernel
theorem dX6_settle_126 : decode cX6_settle 126 = .ok (.iastore, 1) := by decide +kernel
theorem dX6_settle_127 : decode cX6_settle 127 = .ok (.iinc 1 1, 3) := by decide +kernel
theorem dX6_settle_130 : decode cX6_settle 130 = .ok (.goto (-66), 3) := by decide +kernel
theorem dX6_settle_133 : decode cX6_settle 133 = .ok (.return_, 1) := by decide +kernel
set_option maxHeartbeats 2000000 in
set_option maxRecDepth 20000 in
theorem c_X6_hasRoom (l : Launch) (D : va_G) (cy : Nat → ClassId) (B N : Nat) (q : Int) (a : Int) (M : MM) (hN : 210 ≤ N) (hI : Iv M) (hpa : I32 a) (hq : q = 5 ∨ q = 180) : CI l D cy B N 1 yX6_hasRoom cX6_hasRoom 2 (some .boolean) [rv B q, iv a] M (fun z M' => M' = M ∧ (0 ≤ z ∧ z ≤ 1) ∧ (z = 1 → 0 ≤ a ∧ a < M.1 q 0)) := by
  refine mk_CI (by decide) (Nat.le_of_ble_eq_true rfl) ?_
  intro X exl exD excy hnL hX hret
  have hce : 0 + 0 ≤ (xR X).cells ∧ 0 + 0 ≤ (xR X).slots := ⟨Nat.zero_le _, Nat.zero_le _⟩
  show J X B N 0 0 0 [(0, rv B q), (1, iv a)] [] M
  refine j_iload_n hX dX6_hasRoom_0 rfl 1 rfl ?_
  refine j_if_lt (tgt := 16) hX dX6_hasRoom_1 (by decide) (by omega) (fun hc1 => ?_) (fun hc1 => ?_)
  · skip
    refine j_iconst hX dX6_hasRoom_16 ?_
    exact hret _ _ _ _ dX6_hasRoom_17 (nb (by omega)) (by omega) ⟨rfl, by omega, by first | assumption | omega⟩
  · skip
    refine j_iload_n hX dX6_hasRoom_4 rfl 1 rfl ?_
    refine j_aload_n hX dX6_hasRoom_5 rfl 0 rfl ?_
    refine gf_X6_9 hX (by omega) (by omega) (kq hq) dX6_hasRoom_6 ?_
    refine j_name hI (rq_0 hq) (fun v2 hv3 hl4 hh5 => ?_)
    have hk6 := hv3.symm
    refine j_icmp_ge (tgt := 16) hX dX6_hasRoom_9 (by decide) (by omega) (by omega) (fun hc7 => ?_) (fun hc7 => ?_)
    · skip
      refine j_iconst hX dX6_hasRoom_16 ?_
      exact hret _ _ _ _ dX6_hasRoom_17 (nb (by omega)) (by omega) ⟨rfl, by omega, by first | assumption | omega⟩
    · skip
      refine j_iconst hX dX6_hasRoom_12 ?_
      refine j_goto (tgt := 17) hX dX6_hasRoom_13 (by decide) ?_
      exact hret _ _ _ _ dX6_hasRoom_17 (nb (by omega)) (by omega) ⟨rfl, by omega, by first | assumption | omega⟩
set_option maxHeartbeats 2000000 in
set_option maxRecDepth 20000 in
theorem c_X6_hasFact (l : Launch) (D : va_G) (cy : Nat → ClassId) (B N : Nat) (q : Int) (a : Int) (M : MM) (hN : 210 ≤ N) (hI : Iv M) (hpa : I32 a) (hq : q = 5 ∨ q = 180) : CI l D cy B N 1 yX6_hasFact cX6_hasFact 2 (some .boolean) [rv B q, iv a] M (fun z M' => M' = M ∧ (0 ≤ z ∧ z ≤ 1) ∧ (z = 1 → 0 ≤ a ∧ a < M.1 q 4)) := by
  refine mk_CI (by decide) (Nat.le_of_ble_eq_true rfl) ?_
  intro X exl exD excy hnL hX hret
  have hce : 0 + 0 ≤ (xR X).cells ∧ 0 + 0 ≤ (xR X).slots := ⟨Nat.zero_le _, Nat.zero_le _⟩
  show J X B N 0 0 0 [(0, rv B q), (1, iv a)] [] M
  refine j_iload_n hX dX6_hasFact_0 rfl 1 rfl ?_
  refine j_if_lt (tgt := 16) hX dX6_hasFact_1 (by decide) (by omega) (fun hc1 => ?_) (fun hc1 => ?_)
  · skip
    refine j_iconst hX dX6_hasFact_16 ?_
    exact hret _ _ _ _ dX6_hasFact_17 (nb (by omega)) (by omega) ⟨rfl, by omega, by first | assumption | omega⟩
  · skip
    refine j_iload_n hX dX6_hasFact_4 rfl 1 rfl ?_
    refine j_aload_n hX dX6_hasFact_5 rfl 0 rfl ?_
    refine gf_X6_26 hX (by omega) (by omega) (kq hq) dX6_hasFact_6 ?_
    refine j_name hI (rq_4 hq) (fun v2 hv3 hl4 hh5 => ?_)
    have hk6 := hv3.symm
    refine j_icmp_ge (tgt := 16) hX dX6_hasFact_9 (by decide) (by omega) (by omega) (fun hc7 => ?_) (fun hc7 => ?_)
    · skip
      refine j_iconst hX dX6_hasFact_16 ?_
      exact hret _ _ _ _ dX6_hasFact_17 (nb (by omega)) (by omega) ⟨rfl, by omega, by first | assumption | omega⟩
    · skip
      refine j_iconst hX dX6_hasFact_12 ?_
      refine j_goto (tgt := 17) hX dX6_hasFact_13 (by decide) ?_
      exact hret _ _ _ _ dX6_hasFact_17 (nb (by omega)) (by omega) ⟨rfl, by omega, by first | assumption | omega⟩
set_option maxHeartbeats 2000000 in
set_option maxRecDepth 20000 in
theorem c_X6_allRooms (l : Launch) (D : va_G) (cy : Nat → ClassId) (B N : Nat) (q : Int) (M : MM) (hN : 210 ≤ N) (hI : Iv M) (hq : q = 5 ∨ q = 180) : CI l D cy B N 1 yX6_allRooms cX6_allRooms 1 (some .int) [rv B q] M (fun z M' => M' = M ∧ (0 ≤ z ∧ z ≤ 63)) := by
  refine mk_CI (by decide) (Nat.le_of_ble_eq_true rfl) ?_
  intro X exl exD excy hnL hX hret
  have hce : 0 + 0 ≤ (xR X).cells ∧ 0 + 0 ≤ (xR X).slots := ⟨Nat.zero_le _, Nat.zero_le _⟩
  show J X B N 0 0 0 [(0, rv B q)] [] M
  refine j_iconst hX dX6_allRooms_0 ?_
  refine j_aload_n hX dX6_allRooms_1 rfl 0 rfl ?_
  refine gf_X6_9 hX (by omega) (by omega) (kq hq) dX6_allRooms_2 ?_
  refine j_name hI (rq_0 hq) (fun v1 hv2 hl3 hh4 => ?_)
  have hk5 := hv2.symm
  refine j_ishl hX dX6_allRooms_5 (fun z6 hz7 hy8 => ?_)
  have hs := (shl_b hz7).1 (by omega) (by omega)
  refine j_iconst hX dX6_allRooms_6 ?_
  refine j_isub hX dX6_allRooms_7 ?_
  exact hret _ _ _ _ dX6_allRooms_8 rfl (by omega) ⟨rfl, by first | assumption | omega⟩
set_option maxHeartbeats 2000000 in
set_option maxRecDepth 20000 in
theorem c_X6_allFacts (l : Launch) (D : va_G) (cy : Nat → ClassId) (B N : Nat) (q : Int) (M : MM) (hN : 210 ≤ N) (hI : Iv M) (hq : q = 5 ∨ q = 180) : CI l D cy B N 1 yX6_allFacts cX6_allFacts 1 (some .int) [rv B q] M (fun z M' => M' = M ∧ (0 ≤ z ∧ z ≤ 1023)) := by
  refine mk_CI (by decide) (Nat.le_of_ble_eq_true rfl) ?_
  intro X exl exD excy hnL hX hret
  have hce : 0 + 0 ≤ (xR X).cells ∧ 0 + 0 ≤ (xR X).slots := ⟨Nat.zero_le _, Nat.zero_le _⟩
  show J X B N 0 0 0 [(0, rv B q)] [] M
  refine j_iconst hX dX6_allFacts_0 ?_
  refine j_aload_n hX dX6_allFacts_1 rfl 0 rfl ?_
  refine gf_X6_26 hX (by omega) (by omega) (kq hq) dX6_allFacts_2 ?_
  refine j_name hI (rq_4 hq) (fun v1 hv2 hl3 hh4 => ?_)
  have hk5 := hv2.symm
  refine j_ishl hX dX6_allFacts_5 (fun z6 hz7 hy8 => ?_)
  have hs := (shl_b hz7).2.1 (by omega) (by omega)
  refine j_iconst hX dX6_allFacts_6 ?_
  refine j_isub hX dX6_allFacts_7 ?_
  exact hret _ _ _ _ dX6_allFacts_8 rfl (by omega) ⟨rfl, by first | assumption | omega⟩
set_option maxHeartbeats 2000000 in
set_option maxRecDepth 20000 in
theorem c_X6_placeOf (l : Launch) (D : va_G) (cy : Nat → ClassId) (B N : Nat) (k : Int) (ln : Nat) (a : Int64) (b : Int) (M : MM) (hN : 210 ≤ N) (hI : Iv M) (hpb : I32 b) (hkd : kd k = .inr (3, ln)) (hk0 : 0 ≤ k ∧ k < N) (hnn : (ln : Int) ≤ 10000 ∧ 0 ≤ b) : CI l D cy B N 1 yX6_placeOf cX6_placeOf 5 (some .int) [.long a, rv B k, iv b] M (fun z M' => M' = M ∧ (-1 ≤ z ∧ z < b)) := by
  refine mk_CI (by decide) (Nat.le_of_ble_eq_true rfl) ?_
  intro X exl exD excy hnL hX hret
  have hce : 0 + 0 ≤ (xR X).cells ∧ 0 + 0 ≤ (xR X).slots := ⟨Nat.zero_le _, Nat.zero_le _⟩
  have cp : ∀ n : Nat, (∀ (x4 : Int), I32 x4 → (0 ≤ x4 ∧ x4 ≤ 10001) → 0 ≤ 32 * (10001 - x4) + 1 → 32 * (10001 - x4) + 1 < (n : Int) → J X B N 0 0 3 [(0, .long a), (2, rv B k), (3, iv b), (4, iv x4)] [] M) := by
    intro n
    induction n with
    | zero => exact by intros; exfalso; omega
    | succ n ih =>
      · intro x4 hxx4 h2 hm0 hm1
        refine j_iload hX dX6_placeOf_3 3 rfl ?_
        refine j_iload_n hX dX6_placeOf_5 rfl 2 rfl ?_
        refine j_icmp_ge (tgt := 34) hX dX6_placeOf_6 (by decide) (by omega) (by omega) (fun hc1 => ?_) (fun hc1 => ?_)
        · skip
          refine j_iconst hX dX6_placeOf_34 ?_
          exact hret _ _ _ _ dX6_placeOf_35 rfl (by omega) ⟨rfl, by first | assumption | omega⟩
        · skip
          refine j_iload hX dX6_placeOf_9 3 rfl ?_
          refine j_aload_n hX dX6_placeOf_11 rfl 1 rfl ?_
          refine j_alen hX (by decide) (by omega) (by omega) hkd dX6_placeOf_12 ?_
          refine j_icmp_ge (tgt := 34) hX dX6_placeOf_13 (by decide) (by omega) (by omega) (fun hc2 => ?_) (fun hc2 => ?_)
          · skip
            refine j_iconst hX dX6_placeOf_34 ?_
            exact hret _ _ _ _ dX6_placeOf_35 rfl (by omega) ⟨rfl, by first | assumption | omega⟩
          · skip
            refine j_aload_n hX dX6_placeOf_16 rfl 1 rfl ?_
            refine j_iload hX dX6_placeOf_17 3 rfl ?_
            refine j_lald hX (by omega) (by omega) hkd (by omega) (by omega) (by omega) dX6_placeOf_19 ?_
            refine j_lload_n hX dX6_placeOf_20 rfl 0 rfl ?_
            refine j_lcmp hX dX6_placeOf_21 (fun z3 hz4 hy5 he6 => ?_)
            refine j_if_ne (tgt := 28) hX dX6_placeOf_22 (by decide) (by omega) (fun hc7 => ?_) (fun hc7 => ?_)
            · skip
              refine j_iinc (lv' := [(4, _), (0, _), (2, _), (3, _)]) hX dX6_placeOf_28 3 rfl (by rw [hnL]; decide) rfl ?_
              refine j_goto (tgt := 3) hX dX6_placeOf_31 (by decide) ?_
              refine j_sub [1, 2, 3, 0] rfl ?_
              exact ih _ (by omega) (by first | assumption | omega) (by omega) (by omega)
            · skip
              refine j_iload hX dX6_placeOf_25 3 rfl ?_
              exact hret _ _ _ _ dX6_placeOf_27 rfl (by omega) ⟨rfl, by first | assumption | omega⟩
  show J X B N 0 0 0 [(0, .long a), (2, rv B k), (3, iv b)] [] M
  refine j_iconst hX dX6_placeOf_0 ?_
  refine j_istore (lv' := [(4, _), (0, _), (2, _), (3, _)]) hX dX6_placeOf_1 (by rw [hnL]; decide) rfl ?_
  refine j_sub [1, 2, 3, 0] rfl ?_
  refine (cp (Int.toNat (320096 + 1))) _ (by omega) (by first | assumption | omega) ?_ ?_
  · omega
  · omega
set_option maxHeartbeats 2000000 in
set_option maxRecDepth 20000 in
theorem c_X6_roomNamed (l : Launch) (D : va_G) (cy : Nat → ClassId) (B N : Nat) (q : Int) (a : Int64) (M : MM) (hN : 210 ≤ N) (hI : Iv M) (hq : q = 5 ∨ q = 180) : CI l D cy B N 2 yX6_roomNamed cX6_roomNamed 3 (some .int) [rv B q, .long a] M (fun z M' => M' = M ∧ (-1 ≤ z ∧ z < M.1 q 0)) := by
  refine mk_CI (by decide) (Nat.le_of_ble_eq_true rfl) ?_
  intro X exl exD excy hnL hX hret
  have hce : 0 + 0 ≤ (xR X).cells ∧ 0 + 0 ≤ (xR X).slots := ⟨Nat.zero_le _, Nat.zero_le _⟩
  show J X B N 0 0 0 [(0, rv B q), (1, .long a)] [] M
  refine j_lload_n hX dX6_roomNamed_0 rfl 1 rfl ?_
  refine j_aload_n hX dX6_roomNamed_1 rfl 0 rfl ?_
  refine gf_X6_15 hX (by omega) (by omega) (kq hq) (fq_1 hI hq) (by omega) dX6_roomNamed_2 ?_
  refine j_aload_n hX dX6_roomNamed_5 rfl 0 rfl ?_
  refine gf_X6_9 hX (by omega) (by omega) (kq hq) dX6_roomNamed_6 ?_
  refine j_name hI (rq_0 hq) (fun v1 hv2 hl3 hh4 => ?_)
  have hk5 := hv2.symm
  refine j_callSI hX lk_X6_94 (c_X6_placeOf _ _ _ _ _ (q + 1) _ _ _ _ (by omega) hI (by omega) (kq_1 hq) (⟨by omega, by omega⟩) (by omega)) (by omega) hce rfl rfl (Nat.le_of_ble_eq_true rfl) dX6_roomNamed_9 (fun z6 M7 hz9 hp8 => ?_)
  obtain ⟨rfl, hq10⟩ := hp8
  exact hret _ _ _ _ dX6_roomNamed_12 rfl (by omega) ⟨rfl, by first | assumption | omega⟩
set_option maxHeartbeats 2000000 in
set_option maxRecDepth 20000 in
theorem c_X6_factNamed (l : Launch) (D : va_G) (cy : Nat → ClassId) (B N : Nat) (q : Int) (a : Int64) (M : MM) (hN : 210 ≤ N) (hI : Iv M) (hq : q = 5 ∨ q = 180) : CI l D cy B N 2 yX6_factNamed cX6_factNamed 3 (some .int) [rv B q, .long a] M (fun z M' => M' = M ∧ (-1 ≤ z ∧ z < M.1 q 4)) := by
  refine mk_CI (by decide) (Nat.le_of_ble_eq_true rfl) ?_
  intro X exl exD excy hnL hX hret
  have hce : 0 + 0 ≤ (xR X).cells ∧ 0 + 0 ≤ (xR X).slots := ⟨Nat.zero_le _, Nat.zero_le _⟩
  show J X B N 0 0 0 [(0, rv B q), (1, .long a)] [] M
  refine j_lload_n hX dX6_factNamed_0 rfl 1 rfl ?_
  refine j_aload_n hX dX6_factNamed_1 rfl 0 rfl ?_
  refine gf_X6_29 hX (by omega) (by omega) (kq hq) (fq_5 hI hq) (by omega) dX6_factNamed_2 ?_
  refine j_aload_n hX dX6_factNamed_5 rfl 0 rfl ?_
  refine gf_X6_26 hX (by omega) (by omega) (kq hq) dX6_factNamed_6 ?_
  refine j_name hI (rq_4 hq) (fun v1 hv2 hl3 hh4 => ?_)
  have hk5 := hv2.symm
  refine j_callSI hX lk_X6_94 (c_X6_placeOf _ _ _ _ _ (q + 3) _ _ _ _ (by omega) hI (by omega) (kq_3 hq) (⟨by omega, by omega⟩) (by omega)) (by omega) hce rfl rfl (Nat.le_of_ble_eq_true rfl) dX6_factNamed_9 (fun z6 M7 hz9 hp8 => ?_)
  obtain ⟨rfl, hq10⟩ := hp8
  exact hret _ _ _ _ dX6_factNamed_12 rfl (by omega) ⟨rfl, by first | assumption | omega⟩
set_option maxHeartbeats 2000000 in
set_option maxRecDepth 20000 in
theorem c_X6_wantOf (l : Launch) (D : va_G) (cy : Nat → ClassId) (B N : Nat) (q : Int) (a : Int) (b : Int) (M : MM) (hN : 210 ≤ N) (hI : Iv M) (hpa : I32 a) (hpb : I32 b) (hq : q = 5 ∨ q = 180) (h1 : 0 ≤ a ∧ a < 6 ∧ 0 ≤ b ∧ b < 6) : CI l D cy B N 2 yX6_wantOf cX6_wantOf 3 (some .int) [rv B q, iv a, iv b] M (fun z M' => M' = M ∧ (0 ≤ z)) := by
  refine mk_CI (by decide) (Nat.le_of_ble_eq_true rfl) ?_
  intro X exl exD excy hnL hX hret
  have hce : 0 + 0 ≤ (xR X).cells ∧ 0 + 0 ≤ (xR X).slots := ⟨Nat.zero_le _, Nat.zero_le _⟩
  show J X B N 0 0 0 [(0, rv B q), (1, iv a), (2, iv b)] [] M
  refine j_aload_n hX dX6_wantOf_0 rfl 0 rfl ?_
  refine gf_X6_56 hX (by omega) (by omega) (kq hq) (fq_13 hI hq) (by omega) dX6_wantOf_1 ?_
  refine j_iload_n hX dX6_wantOf_4 rfl 1 rfl ?_
  refine j_aald5 hX (by omega) (by omega) (kq_8 hq) (by omega) (by omega) (by omega) (fw hI hq (by omega) (by omega)) (by omega) dX6_wantOf_5 ?_
  refine j_iload_n hX dX6_wantOf_6 rfl 2 rfl ?_
  refine j_iald hX (by omega) (by omega) (kw hq (by omega) (by omega)) (by omega) (by omega) (by omega) dX6_wantOf_7 ?_
  refine j_name hI (aw hq (by omega) (by omega) _) (fun v1 hv2 hl3 hh4 => ?_)
  refine j_iconst hX dX6_wantOf_8 ?_
  refine j_mmax hX (in_4 45 (by first | rfl | decide +kernel) rfl) (by decide) hce (by omega) (by omega) (Nat.le_of_ble_eq_true rfl) dX6_wantOf_9 (fun z5 hz6 => ?_)
  exact hret _ _ _ _ dX6_wantOf_12 rfl (by omega) ⟨rfl, by first | assumption | omega⟩
set_option maxHeartbeats 2000000 in
set_option maxRecDepth 20000 in
theorem c_X6_isDark (l : Launch) (D : va_G) (cy : Nat → ClassId) (B N : Nat) (q : Int) (a : Int) (M : MM) (hN : 210 ≤ N) (hI : Iv M) (hpa : I32 a) (hq : q = 5 ∨ q = 180) : CI l D cy B N 1 yX6_isDark cX6_isDark 2 (some .boolean) [rv B q, iv a] M (fun z M' => M' = M ∧ (0 ≤ z ∧ z ≤ 1)) := by
  refine mk_CI (by decide) (Nat.le_of_ble_eq_true rfl) ?_
  intro X exl exD excy hnL hX hret
  have hce : 0 + 0 ≤ (xR X).cells ∧ 0 + 0 ≤ (xR X).slots := ⟨Nat.zero_le _, Nat.zero_le _⟩
  show J X B N 0 0 0 [(0, rv B q), (1, iv a)] [] M
  refine j_aload_n hX dX6_isDark_0 rfl 0 rfl ?_
  refine gf_X6_59 hX (by omega) (by omega) (kq hq) dX6_isDark_1 ?_
  refine j_name hI (rq_14 hq) (fun v1 hv2 hl3 hh4 => ?_)
  have hk5 := hv2.symm
  refine j_iconst hX dX6_isDark_4 ?_
  refine j_icmp_ne (tgt := 10) hX dX6_isDark_5 (by decide) (by omega) (by omega) (fun hc6 => ?_) (fun hc6 => ?_)
  · skip
    refine j_aload_n hX dX6_isDark_10 rfl 0 rfl ?_
    refine gf_X6_59 hX (by omega) (by omega) (kq hq) dX6_isDark_11 ?_
    refine j_top hk5 ?_
    refine j_aload_n hX dX6_isDark_14 rfl 0 rfl ?_
    refine gf_X6_62 hX (by omega) (by omega) (kq hq) dX6_isDark_15 ?_
    refine j_name hI (rq_15 hq) (fun v7 hv8 hl9 hh10 => ?_)
    have hk11 := hv8.symm
    refine j_icmp_gt (tgt := 43) hX dX6_isDark_18 (by decide) (by omega) (by omega) (fun hc12 => ?_) (fun hc12 => ?_)
    · skip
      refine j_iload_n hX dX6_isDark_43 rfl 1 rfl ?_
      refine j_aload_n hX dX6_isDark_44 rfl 0 rfl ?_
      refine gf_X6_59 hX (by omega) (by omega) (kq hq) dX6_isDark_45 ?_
      refine j_top hk5 ?_
      refine j_icmp_ge (tgt := 59) hX dX6_isDark_48 (by decide) (by omega) (by omega) (fun hc13 => ?_) (fun hc13 => ?_)
      · skip
        refine j_iconst hX dX6_isDark_59 ?_
        refine j_goto (tgt := 64) hX dX6_isDark_60 (by decide) ?_
        exact hret _ _ _ _ dX6_isDark_64 (nb (by omega)) (by omega) ⟨rfl, by omega⟩
      · skip
        refine j_iload_n hX dX6_isDark_51 rfl 1 rfl ?_
        refine j_aload_n hX dX6_isDark_52 rfl 0 rfl ?_
        refine gf_X6_62 hX (by omega) (by omega) (kq hq) dX6_isDark_53 ?_
        refine j_top hk11 ?_
        refine j_icmp_gt (tgt := 63) hX dX6_isDark_56 (by decide) (by omega) (by omega) (fun hc14 => ?_) (fun hc14 => ?_)
        · skip
          refine j_iconst hX dX6_isDark_63 ?_
          exact hret _ _ _ _ dX6_isDark_64 (nb (by omega)) (by omega) ⟨rfl, by omega⟩
        · skip
          refine j_iconst hX dX6_isDark_59 ?_
          refine j_goto (tgt := 64) hX dX6_isDark_60 (by decide) ?_
          exact hret _ _ _ _ dX6_isDark_64 (nb (by omega)) (by omega) ⟨rfl, by omega⟩
    · skip
      refine j_iload_n hX dX6_isDark_21 rfl 1 rfl ?_
      refine j_aload_n hX dX6_isDark_22 rfl 0 rfl ?_
      refine gf_X6_59 hX (by omega) (by omega) (kq hq) dX6_isDark_23 ?_
      refine j_top hk5 ?_
      refine j_icmp_lt (tgt := 41) hX dX6_isDark_26 (by decide) (by omega) (by omega) (fun hc15 => ?_) (fun hc15 => ?_)
      · skip
        refine j_iconst hX dX6_isDark_41 ?_
        exact hret _ _ _ _ dX6_isDark_42 (nb (by omega)) (by omega) ⟨rfl, by omega⟩
      · skip
        refine j_iload_n hX dX6_isDark_29 rfl 1 rfl ?_
        refine j_aload_n hX dX6_isDark_30 rfl 0 rfl ?_
        refine gf_X6_62 hX (by omega) (by omega) (kq hq) dX6_isDark_31 ?_
        refine j_top hk11 ?_
        refine j_icmp_gt (tgt := 41) hX dX6_isDark_34 (by decide) (by omega) (by omega) (fun hc16 => ?_) (fun hc16 => ?_)
        · skip
          refine j_iconst hX dX6_isDark_41 ?_
          exact hret _ _ _ _ dX6_isDark_42 (nb (by omega)) (by omega) ⟨rfl, by omega⟩
        · skip
          refine j_iconst hX dX6_isDark_37 ?_
          refine j_goto (tgt := 42) hX dX6_isDark_38 (by decide) ?_
          exact hret _ _ _ _ dX6_isDark_42 (nb (by omega)) (by omega) ⟨rfl, by omega⟩
  · skip
    refine j_iconst hX dX6_isDark_8 ?_
    exact hret _ _ _ _ dX6_isDark_9 (nb (by omega)) (by omega) ⟨rfl, by omega⟩
set_option maxHeartbeats 2000000 in
set_option maxRecDepth 20000 in
theorem c_X6_clear (l : Launch) (D : va_G) (cy : Nat → ClassId) (B N : Nat) (q : Int) (M : MM) (hN : 210 ≤ N) (hI : Iv M) (hq : q = 5 ∨ q = 180) : CV l D cy B N 2 yX6_clear cX6_clear 2 none [rv B q] M (fun M' => Iv M' ∧ Fr (fun a (_ : Int) => (q ≤ a ∧ a ≤ q + 20)) M M' ∧ (M'.1 q 0 = 0 ∧ M'.1 q 4 = 0 ∧ M'.1 q 9 = 0 ∧ M'.1 (q + 15) 4 = 0)) := by
  refine mk_CV (by decide) (Nat.le_of_ble_eq_true rfl) ?_
  intro X exl exD excy hnL hX hret
  have hce : 0 + 0 ≤ (xR X).cells ∧ 0 + 0 ≤ (xR X).slots := ⟨Nat.zero_le _, Nat.zero_le _⟩
  have hF : Fr (fun a (_ : Int) => (q ≤ a ∧ a ≤ q + 20)) M M := Fr.rf
  have cp : ∀ n : Nat, (∀ (x1 : Int), ∀ (k0 k4 k9 : Int), ∀ (Mc : MM), I32 x1 → Iv Mc → Fr (fun a (_ : Int) => (q ≤ a ∧ a ≤ q + 20)) M Mc → Mc.1 q 0 = k0 → Mc.1 q 4 = k4 → Mc.1 q 9 = k9 → (0 ≤ x1 ∧ x1 ≤ 6 ∧ k0 = 0 ∧ k4 = 0 ∧ k9 = 0) → 0 ≤ 32 * (6 - x1) + 1 → 32 * (6 - x1) + 1 < (n : Int) → J X B N 0 0 40 [(0, rv B q), (1, iv x1)] [] Mc) := by
    intro n
    induction n with
    | zero => exact by intros; exfalso; omega
    | succ n ih =>
      · intro x1 k0 k4 k9 Mc hxx1 hI hF hk_0 hk_1 hk_2 h2 hm0 hm1
        refine j_iload_n hX dX6_clear_40 rfl 1 rfl ?_
        refine j_bipush hX dX6_clear_41 rfl ?_
        refine j_icmp_ge (tgt := 62) hX dX6_clear_43 (by decide) (by omega) (by omega) (fun hc1 => ?_) (fun hc1 => ?_)
        · skip
          refine j_aload_n hX dX6_clear_62 rfl 0 rfl ?_
          refine j_iconst hX dX6_clear_63 ?_
          refine pf_X6_59 hX (by omega) (by omega) (kq hq) (by omega) dX6_clear_64 ?_
          refine j_up hI (rq_14 hq) (by omega) (by omega) (Or.inl (by omega)) (fun M2 w3 hw4 hM5 hI6 hf7 => ?_)
          have hk8 := kp_up hM5 (fun h => absurd h.2 (by decide)) hk_0
          have hk9 := kp_up hM5 (fun h => absurd h.2 (by decide)) hk_1
          have hk10 := kp_up hM5 (fun h => absurd h.2 (by decide)) hk_2
          have hF11 := Fr.put hF hM5 (by omega)
          refine j_aload_n hX dX6_clear_67 rfl 0 rfl ?_
          refine j_iconst hX dX6_clear_68 ?_
          refine pf_X6_62 hX (by omega) (by omega) (kq hq) (by omega) dX6_clear_69 ?_
          refine j_up hI6 (rq_15 hq) (by omega) (by omega) (Or.inl (by omega)) (fun M12 w13 hw14 hM15 hI16 hf17 => ?_)
          have hk18 := kp_up hM15 (fun h => absurd h.2 (by decide)) hk8
          have hk19 := kp_up hM15 (fun h => absurd h.2 (by decide)) hk9
          have hk20 := kp_up hM15 (fun h => absurd h.2 (by decide)) hk10
          have hk21 := kp_up hM15 (fun h => absurd h.2 (by decide)) hf7
          have hF22 := Fr.put hF11 hM15 (by omega)
          refine j_aload_n hX dX6_clear_72 rfl 0 rfl ?_
          refine j_iconst hX dX6_clear_73 ?_
          refine pf_X6_65 hX (by omega) (by omega) (kq hq) (by omega) dX6_clear_74 ?_
          refine j_up hI16 (rq_16 hq) (by omega) (by omega) (Or.inl (by omega)) (fun M23 w24 hw25 hM26 hI27 hf28 => ?_)
          have hk29 := kp_up hM26 (fun h => absurd h.2 (by decide)) hk18
          have hk30 := kp_up hM26 (fun h => absurd h.2 (by decide)) hk19
          have hk31 := kp_up hM26 (fun h => absurd h.2 (by decide)) hk20
          have hk32 := kp_up hM26 (fun h => absurd h.2 (by decide)) hk21
          have hk33 := kp_up hM26 (fun h => absurd h.2 (by decide)) hf17
          have hF34 := Fr.put hF22 hM26 (by omega)
          refine j_aload_n hX dX6_clear_77 rfl 0 rfl ?_
          refine gf_X6_71 hX (by omega) (by omega) (kq hq) (fq_17 hI27 hq) (by omega) dX6_clear_78 ?_
          refine j_callVV hX lk_X6_87 (c_X2_clear _ _ _ _ _ q _ (by omega) hI27 hq) (by omega) hce rfl rfl (by omega) (by omega) (kq_15 hq) rfl rfl (Nat.le_of_ble_eq_true rfl) dX6_clear_81 (fun M36 hp37 => ?_)
          obtain ⟨hI39, hG40, hq41⟩ := hp37
          have hk42 := kp_fr hG40 (by omega) hk29
          have hk43 := kp_fr hG40 (by omega) hk30
          have hk44 := kp_fr hG40 (by omega) hk31
          have hk45 := kp_fr hG40 (by omega) hk32
          have hk46 := kp_fr hG40 (by omega) hk33
          have hk47 := kp_fr hG40 (by omega) hf28
          have hF48 := Fr.trans hF34 hG40 (fun a b h => by omega)
          exact hret _ _ _ dX6_clear_84 ⟨hI39, hF48, by first | assumption | omega⟩
        · skip
          refine j_aload_n hX dX6_clear_46 rfl 0 rfl ?_
          refine gf_X6_56 hX (by omega) (by omega) (kq hq) (fq_13 hI hq) (by omega) dX6_clear_47 ?_
          refine j_iload_n hX dX6_clear_50 rfl 1 rfl ?_
          refine j_aald5 hX (by omega) (by omega) (kq_8 hq) (by omega) (by omega) (by omega) (fw hI hq (by omega) (by omega)) (by omega) dX6_clear_51 ?_
          refine j_iconst hX dX6_clear_52 ?_
          refine j_callSV hX lk_X6_81 (c_J7_fill_53178 _ _ _ _ _ _ _ _ _ _ _ (by omega) hI (by omega) ((kw hq (by omega) (by omega))) (fun j => (aw hq (by omega) (by omega) j)) (⟨by omega, by omega, by omega⟩) (by omega) (by omega)) (by omega) hce rfl rfl (Nat.le_of_ble_eq_true rfl) dX6_clear_53 (fun M50 hp51 => ?_)
          obtain ⟨hI53, hG54⟩ := hp51
          have hk55 := kp_fr hG54 (by omega) hk_0
          have hk56 := kp_fr hG54 (by omega) hk_1
          have hk57 := kp_fr hG54 (by omega) hk_2
          have hF58 := Fr.trans hF hG54 (fun a b h => by omega)
          refine j_iinc (lv' := [(1, _), (0, _)]) hX dX6_clear_56 1 rfl (by rw [hnL]; decide) rfl ?_
          refine j_goto (tgt := 40) hX dX6_clear_59 (by decide) ?_
          refine j_sub [1, 0] rfl ?_
          exact ih _ _ _ _ _ (by omega) hI53 hF58 hk55 hk56 hk57 (by first | assumption | omega) (by omega) (by omega)
  show J X B N 0 0 0 [(0, rv B q)] [] M
  refine j_aload_n hX dX6_clear_0 rfl 0 rfl ?_
  refine j_iconst hX dX6_clear_1 ?_
  refine pf_X6_9 hX (by omega) (by omega) (kq hq) (by omega) dX6_clear_2 ?_
  refine j_up hI (rq_0 hq) (by omega) (by omega) (Or.inl (by omega)) (fun M59 w60 hw61 hM62 hI63 hf64 => ?_)
  have hF65 := Fr.put hF hM62 (by omega)
  refine j_aload_n hX dX6_clear_5 rfl 0 rfl ?_
  refine j_iconst hX dX6_clear_6 ?_
  refine pf_X6_23 hX (by omega) (by omega) (kq hq) (by omega) dX6_clear_7 ?_
  refine j_up hI63 (rq_3 hq) (by omega) (by omega) (Or.inl (by omega)) (fun M66 w67 hw68 hM69 hI70 hf71 => ?_)
  have hk72 := kp_up hM69 (fun h => absurd h.2 (by decide)) hf64
  have hF73 := Fr.put hF65 hM69 (by omega)
  refine j_aload_n hX dX6_clear_10 rfl 0 rfl ?_
  refine j_iconst hX dX6_clear_11 ?_
  refine pf_X6_26 hX (by omega) (by omega) (kq hq) (by omega) dX6_clear_12 ?_
  refine j_up hI70 (rq_4 hq) (by omega) (by omega) (Or.inl (by omega)) (fun M74 w75 hw76 hM77 hI78 hf79 => ?_)
  have hk80 := kp_up hM77 (fun h => absurd h.2 (by decide)) hk72
  have hk81 := kp_up hM77 (fun h => absurd h.2 (by decide)) hf71
  have hF82 := Fr.put hF73 hM77 (by omega)
  refine j_aload_n hX dX6_clear_15 rfl 0 rfl ?_
  refine j_iconst hX dX6_clear_16 ?_
  refine pf_X6_38 hX (by omega) (by omega) (kq hq) (by omega) dX6_clear_17 ?_
  refine j_up hI78 (rq_8 hq) (by omega) (by omega) (Or.inl (by omega)) (fun M83 w84 hw85 hM86 hI87 hf88 => ?_)
  have hk89 := kp_up hM86 (fun h => absurd h.2 (by decide)) hk80
  have hk90 := kp_up hM86 (fun h => absurd h.2 (by decide)) hk81
  have hk91 := kp_up hM86 (fun h => absurd h.2 (by decide)) hf79
  have hF92 := Fr.put hF82 hM86 (by omega)
  refine j_aload_n hX dX6_clear_20 rfl 0 rfl ?_
  refine j_iconst hX dX6_clear_21 ?_
  refine pf_X6_41 hX (by omega) (by omega) (kq hq) (by omega) dX6_clear_22 ?_
  refine j_up hI87 (rq_9 hq) (by omega) (by omega) (Or.inl (by omega)) (fun M93 w94 hw95 hM96 hI97 hf98 => ?_)
  have hk99 := kp_up hM96 (fun h => absurd h.2 (by decide)) hk89
  have hk100 := kp_up hM96 (fun h => absurd h.2 (by decide)) hk90
  have hk101 := kp_up hM96 (fun h => absurd h.2 (by decide)) hk91
  have hk102 := kp_up hM96 (fun h => absurd h.2 (by decide)) hf88
  have hF103 := Fr.put hF92 hM96 (by omega)
  refine j_aload_n hX dX6_clear_25 rfl 0 rfl ?_
  refine j_iconst hX dX6_clear_26 ?_
  refine pf_X6_48 hX (by omega) (by omega) (kq hq) (by omega) dX6_clear_27 ?_
  refine j_up hI97 (rq_11 hq) (by omega) (by omega) (Or.inl (by omega)) (fun M104 w105 hw106 hM107 hI108 hf109 => ?_)
  have hk110 := kp_up hM107 (fun h => absurd h.2 (by decide)) hk99
  have hk111 := kp_up hM107 (fun h => absurd h.2 (by decide)) hk100
  have hk112 := kp_up hM107 (fun h => absurd h.2 (by decide)) hk101
  have hk113 := kp_up hM107 (fun h => absurd h.2 (by decide)) hk102
  have hk114 := kp_up hM107 (fun h => absurd h.2 (by decide)) hf98
  have hF115 := Fr.put hF103 hM107 (by omega)
  refine j_aload_n hX dX6_clear_30 rfl 0 rfl ?_
  refine gf_X6_51 hX (by omega) (by omega) (kq hq) (fq_12 hI108 hq) (by omega) dX6_clear_31 ?_
  refine j_iconst hX dX6_clear_34 ?_
  refine j_callSV hX lk_X6_81 (c_J7_fill_53178 _ _ _ _ _ (q + 7) _ _ _ _ _ (by omega) hI108 (by omega) ((kq_7 hq)) (fun j => (aq_7 hq j)) (⟨by omega, by omega, by omega⟩) (by omega) (by omega)) (by omega) hce rfl rfl (Nat.le_of_ble_eq_true rfl) dX6_clear_35 (fun M117 hp118 => ?_)
  obtain ⟨hI120, hG121⟩ := hp118
  have hk122 := kp_fr hG121 (by omega) hk110
  have hk123 := kp_fr hG121 (by omega) hk111
  have hk124 := kp_fr hG121 (by omega) hk112
  have hk125 := kp_fr hG121 (by omega) hk113
  have hk126 := kp_fr hG121 (by omega) hk114
  have hk127 := kp_fr hG121 (by omega) hf109
  have hF128 := Fr.trans hF115 hG121 (fun a b h => by omega)
  refine j_iconst hX dX6_clear_38 ?_
  refine j_istore_n (lv' := [(1, _), (0, _)]) hX dX6_clear_39 rfl (by rw [hnL]; decide) rfl ?_
  refine j_sub [1, 0] rfl ?_
  refine (cp (Int.toNat (256 + 1))) _ _ _ _ _ (by omega) hI120 hF128 hk122 hk124 hk126 (by first | assumption | omega) ?_ ?_
  · omega
  · omega
set_option maxHeartbeats 2000000 in
set_option maxRecDepth 20000 in
theorem c_X6_settle (l : Launch) (D : va_G) (cy : Nat → ClassId) (B N : Nat) (q : Int) (nr : Int) (M : MM) (hN : 210 ≤ N) (hI : Iv M) (hq : q = 5 ∨ q = 180) (hnr : M.1 q 0 = nr) (hlot : M.1 q 9 = 1 → VQ nr q M) (hnb : 0 ≤ nr ∧ nr ≤ 6) : CV l D cy B N 2 yX6_settle cX6_settle 3 none [rv B q] M (fun M' => Iv M' ∧ Fr (fun a (_ : Int) => (a = q + 6) ∨ (q + 19 ≤ a ∧ a ≤ q + 20)) M M' ∧ (VQ nr q M')) := by
  refine mk_CV (by decide) (Nat.le_of_ble_eq_true rfl) ?_
  intro X exl exD excy hnL hX hret
  have hce : 0 + 0 ≤ (xR X).cells ∧ 0 + 0 ≤ (xR X).slots := ⟨Nat.zero_le _, Nat.zero_le _⟩
  have hF : Fr (fun a (_ : Int) => (a = q + 6) ∨ (q + 19 ≤ a ∧ a ≤ q + 20)) M M := Fr.rf
  have hk1 : M.1 q 9 = M.1 q 9 := rfl
  have cp : ∀ n : Nat, (∀ (x1 : Int), ∀ (hl : Int), ∀ (Mc : MM), I32 x1 → Iv Mc → Fr (fun a (_ : Int) => (a = q + 6) ∨ (q + 19 ≤ a ∧ a ≤ q + 20)) M Mc → Mc.1 q 0 = nr → Mc.1 q 9 = hl → (0 ≤ x1 ∧ x1 ≤ 6 ∧ (hl = 0 ∨ hl = 1)) → (hl = 0 → Vr x1 nr q Mc) → (hl = 1 → VQ nr q Mc) → 0 ≤ 32 * (6 - x1 + 100) + 2 → 32 * (6 - x1 + 100) + 2 < (n : Int) → J X B N 0 0 2 [(0, rv B q), (1, iv x1)] [] Mc) ∧ (∀ (x1 : Int), ∀ (Mc : MM), I32 x1 → Iv Mc → Fr (fun a (_ : Int) => (a = q + 6) ∨ (q + 19 ≤ a ∧ a ≤ q + 20)) M Mc → VQ nr q Mc → (0 ≤ x1 ∧ x1 ≤ 10) → 0 ≤ 32 * (10 - x1) + 1 → 32 * (10 - x1) + 1 < (n : Int) → J X B N 0 0 64 [(0, rv B q), (1, iv x1)] [] Mc) := by
    intro n
    induction n with
    | zero => exact ⟨by intros; exfalso; omega, by intros; exfalso; omega⟩
    | succ n ih =>
      refine ⟨?_, ?_⟩
      · intro x1 hl Mc hxx1 hI hF hk_0 hk_1 h2 h3 h4 hm0 hm1
        refine j_iload_n hX dX6_settle_2 rfl 1 rfl ?_
        refine j_aload_n hX dX6_settle_3 rfl 0 rfl ?_
        refine gf_X6_9 hX (by omega) (by omega) (kq hq) dX6_settle_4 ?_
        refine j_top hk_0 ?_
        refine j_icmp_ge (tgt := 46) hX dX6_settle_7 (by decide) (by omega) (by omega) (fun hc2 => ?_) (fun hc2 => ?_)
        · skip
          have hV3 : VQ nr q Mc := (by omega : hl = 1 ∨ hl = 0).elim h4 (fun e => Vr_full (h3 e) (by omega))
          refine j_aload_n hX dX6_settle_46 rfl 0 rfl ?_
          refine gf_X6_75 hX (by omega) (by omega) (kq hq) (fq_18 hI hq) (by omega) dX6_settle_47 ?_
          refine j_iconst hX dX6_settle_50 ?_
          refine j_callSV hX lk_X6_81 (c_J7_fill_53178 _ _ _ _ _ (q + 19) _ _ _ _ _ (by omega) hI (by omega) ((kq_19 hq)) (fun j => (aq_19 hq j)) (⟨by omega, by omega, by omega⟩) (by omega) (by omega)) (by omega) hce rfl rfl (Nat.le_of_ble_eq_true rfl) dX6_settle_51 (fun M5 hp6 => ?_)
          obtain ⟨hI8, hG9⟩ := hp6
          have hV10 := VQ_fr hV3 hG9 (fun b => by omega)
          have hk11 := kp_fr hG9 (by omega) hk_0
          have hk12 := kp_fr hG9 (by omega) hk_1
          have hF13 := Fr.trans hF hG9 (fun a b h => by omega)
          refine j_aload_n hX dX6_settle_54 rfl 0 rfl ?_
          refine gf_X6_78 hX (by omega) (by omega) (kq hq) (fq_19 hI8 hq) (by omega) dX6_settle_55 ?_
          refine j_iconst hX dX6_settle_58 ?_
          refine j_callSV hX lk_X6_81 (c_J7_fill_53178 _ _ _ _ _ (q + 20) _ _ _ _ _ (by omega) hI8 (by omega) ((kq_20 hq)) (fun j => (aq_20 hq j)) (⟨by omega, by omega, by omega⟩) (by omega) (by omega)) (by omega) hce rfl rfl (Nat.le_of_ble_eq_true rfl) dX6_settle_59 (fun M15 hp16 => ?_)
          obtain ⟨hI18, hG19⟩ := hp16
          have hV20 := VQ_fr hV10 hG19 (fun b => by omega)
          have hk21 := kp_fr hG19 (by omega) hk11
          have hk22 := kp_fr hG19 (by omega) hk12
          have hF23 := Fr.trans hF13 hG19 (fun a b h => by omega)
          refine j_iconst hX dX6_settle_62 ?_
          refine j_istore_n (lv' := [(1, _), (0, _)]) hX dX6_settle_63 rfl (by rw [hnL]; decide) rfl ?_
          refine j_sub [1, 0] rfl ?_
          exact ih.2 _ _ (by omega) hI18 hF23 hV20 (by first | assumption | omega) (by omega) (by omega)
        · skip
          refine j_aload_n hX dX6_settle_10 rfl 0 rfl ?_
          refine gf_X6_41 hX (by omega) (by omega) (kq hq) dX6_settle_11 ?_
          refine j_top hk_1 ?_
          refine j_if_ne (tgt := 46) hX dX6_settle_14 (by decide) (by omega) (fun hc24 => ?_) (fun hc24 => ?_)
          · skip
            have hV25 : VQ nr q Mc := (by omega : hl = 1 ∨ hl = 0).elim h4 (fun e => Vr_full (h3 e) (by omega))
            refine j_aload_n hX dX6_settle_46 rfl 0 rfl ?_
            refine gf_X6_75 hX (by omega) (by omega) (kq hq) (fq_18 hI hq) (by omega) dX6_settle_47 ?_
            refine j_iconst hX dX6_settle_50 ?_
            refine j_callSV hX lk_X6_81 (c_J7_fill_53178 _ _ _ _ _ (q + 19) _ _ _ _ _ (by omega) hI (by omega) ((kq_19 hq)) (fun j => (aq_19 hq j)) (⟨by omega, by omega, by omega⟩) (by omega) (by omega)) (by omega) hce rfl rfl (Nat.le_of_ble_eq_true rfl) dX6_settle_51 (fun M27 hp28 => ?_)
            obtain ⟨hI30, hG31⟩ := hp28
            have hV32 := VQ_fr hV25 hG31 (fun b => by omega)
            have hk33 := kp_fr hG31 (by omega) hk_0
            have hk34 := kp_fr hG31 (by omega) hk_1
            have hF35 := Fr.trans hF hG31 (fun a b h => by omega)
            refine j_aload_n hX dX6_settle_54 rfl 0 rfl ?_
            refine gf_X6_78 hX (by omega) (by omega) (kq hq) (fq_19 hI30 hq) (by omega) dX6_settle_55 ?_
            refine j_iconst hX dX6_settle_58 ?_
            refine j_callSV hX lk_X6_81 (c_J7_fill_53178 _ _ _ _ _ (q + 20) _ _ _ _ _ (by omega) hI30 (by omega) ((kq_20 hq)) (fun j => (aq_20 hq j)) (⟨by omega, by omega, by omega⟩) (by omega) (by omega)) (by omega) hce rfl rfl (Nat.le_of_ble_eq_true rfl) dX6_settle_59 (fun M37 hp38 => ?_)
            obtain ⟨hI40, hG41⟩ := hp38
            have hV42 := VQ_fr hV32 hG41 (fun b => by omega)
            have hk43 := kp_fr hG41 (by omega) hk33
            have hk44 := kp_fr hG41 (by omega) hk34
            have hF45 := Fr.trans hF35 hG41 (fun a b h => by omega)
            refine j_iconst hX dX6_settle_62 ?_
            refine j_istore_n (lv' := [(1, _), (0, _)]) hX dX6_settle_63 rfl (by rw [hnL]; decide) rfl ?_
            refine j_sub [1, 0] rfl ?_
            exact ih.2 _ _ (by omega) hI40 hF45 hV42 (by first | assumption | omega) (by omega) (by omega)
          · skip
            refine j_aload_n hX dX6_settle_17 rfl 0 rfl ?_
            refine gf_X6_45 hX (by omega) (by omega) (kq hq) (fq_10 hI hq) (by omega) dX6_settle_18 ?_
            refine j_iload_n hX dX6_settle_21 rfl 1 rfl ?_
            refine j_iload_n hX dX6_settle_22 rfl 1 rfl ?_
            refine j_iconst hX dX6_settle_23 ?_
            refine j_iadd hX dX6_settle_24 ?_
            refine j_aload_n hX dX6_settle_25 rfl 0 rfl ?_
            refine gf_X6_9 hX (by omega) (by omega) (kq hq) dX6_settle_26 ?_
            refine j_top hk_0 ?_
            refine j_icmp_ge (tgt := 38) hX dX6_settle_29 (by decide) (by omega) (by omega) (fun hc46 => ?_) (fun hc46 => ?_)
            · skip
              refine j_iconst hX dX6_settle_38 ?_
              refine j_iast hX (by omega) (by omega) (kq_6 hq) (by omega) (by omega) (by omega) (by omega) dX6_settle_39 ?_
              refine j_up hI (aq_6 hq _) (by omega) (by omega) (Or.inl (by omega)) (fun M47 w48 hw49 hM50 hI51 hf52 => ?_)
              have hk53 := kp_up hM50 (by omega) hk_0
              have hk54 := kp_up hM50 (by omega) hk_1
              have hF55 := Fr.put hF hM50 (by omega)
              have hP := Vr_put (h3 (by omega)) hM50 (by omega)
              refine j_iinc (lv' := [(1, _), (0, _)]) hX dX6_settle_40 1 rfl (by rw [hnL]; decide) rfl ?_
              refine j_goto (tgt := 2) hX dX6_settle_43 (by decide) ?_
              refine j_sub [1, 0] rfl ?_
              have hh9 := hI51.at q 9 (rq_9 hq)
              exact ih.1 _ _ _ (by omega) hI51 hF55 hk53 hk54 (by first | assumption | omega) (by first | (intro _; exact Vr_0) | (intro _; assumption)) (by first | assumption | (intro h; omega)) (by omega) (by omega)
            · skip
              refine j_iload_n hX dX6_settle_32 rfl 1 rfl ?_
              refine j_iconst hX dX6_settle_33 ?_
              refine j_iadd hX dX6_settle_34 ?_
              refine j_goto (tgt := 39) hX dX6_settle_35 (by decide) ?_
              refine j_iast hX (by omega) (by omega) (kq_6 hq) (by omega) (by omega) (by omega) (by omega) dX6_settle_39 ?_
              refine j_up hI (aq_6 hq _) (by omega) (by omega) (Or.inl (by omega)) (fun M56 w57 hw58 hM59 hI60 hf61 => ?_)
              have hk62 := kp_up hM59 (by omega) hk_0
              have hk63 := kp_up hM59 (by omega) hk_1
              have hF64 := Fr.put hF hM59 (by omega)
              have hP := Vr_put (h3 (by omega)) hM59 (by omega)
              refine j_iinc (lv' := [(1, _), (0, _)]) hX dX6_settle_40 1 rfl (by rw [hnL]; decide) rfl ?_
              refine j_goto (tgt := 2) hX dX6_settle_43 (by decide) ?_
              refine j_sub [1, 0] rfl ?_
              have hh9 := hI60.at q 9 (rq_9 hq)
              exact ih.1 _ _ _ (by omega) hI60 hF64 hk62 hk63 (by first | assumption | omega) (by first | (intro _; exact Vr_0) | (intro _; assumption)) (by first | assumption | (intro h; omega)) (by omega) (by omega)
      · intro x1 Mc hxx1 hI hF hV_0 h5 hm0 hm1
        have hk65 : Mc.1 q 9 = Mc.1 q 9 := rfl
        refine j_iload_n hX dX6_settle_64 rfl 1 rfl ?_
        refine j_aload_n hX dX6_settle_65 rfl 0 rfl ?_
        refine gf_X6_26 hX (by omega) (by omega) (kq hq) dX6_settle_66 ?_
        refine j_name hI (rq_4 hq) (fun v66 hv67 hl68 hh69 => ?_)
        have hk70 := hv67.symm
        refine j_icmp_ge (tgt := 133) hX dX6_settle_69 (by decide) (by omega) (by omega) (fun hc71 => ?_) (fun hc71 => ?_)
        · skip
          exact hret _ _ _ dX6_settle_133 ⟨hI, hF, by assumption⟩
        · skip
          refine j_aload_n hX dX6_settle_72 rfl 0 rfl ?_
          refine gf_X6_35 hX (by omega) (by omega) (kq hq) (fq_7 hI hq) (by omega) dX6_settle_73 ?_
          refine j_iload_n hX dX6_settle_76 rfl 1 rfl ?_
          refine j_iald hX (by omega) (by omega) (kq_5 hq) (by omega) (by omega) (by omega) dX6_settle_77 ?_
          refine j_name hI (aq_5 hq _) (fun v72 hv73 hl74 hh75 => ?_)
          refine j_istore_n (lv' := [(2, _), (0, _), (1, _)]) hX dX6_settle_78 rfl (by rw [hnL]; decide) rfl ?_
          refine j_aload_n hX dX6_settle_79 rfl 1 rfl ?_
          refine gf_X6_75 hX (by omega) (by omega) (kq hq) (fq_18 hI hq) (by omega) dX6_settle_80 ?_
          refine j_aload_n hX dX6_settle_83 rfl 1 rfl ?_
          refine gf_X6_32 hX (by omega) (by omega) (kq hq) (fq_6 hI hq) (by omega) dX6_settle_84 ?_
          refine j_iload_n hX dX6_settle_87 rfl 2 rfl ?_
          refine j_iald hX (by omega) (by omega) (kq_4 hq) (by omega) (by omega) (by omega) dX6_settle_88 ?_
          refine j_name hI (aq_4 hq _) (fun v76 hv77 hl78 hh79 => ?_)
          refine j_dup2 hX dX6_settle_89 rfl rfl ?_
          refine j_iald hX (by omega) (by omega) (kq_19 hq) (by omega) (by omega) (by omega) dX6_settle_90 ?_
          refine j_name hI (aq_19 hq _) (fun v80 hv81 hl82 hh83 => ?_)
          refine j_iconst hX dX6_settle_91 ?_
          refine j_iload_n hX dX6_settle_92 rfl 2 rfl ?_
          refine j_ishl hX dX6_settle_93 (fun z84 hz85 hy86 => ?_)
          refine j_ior hX dX6_settle_94 (fun z87 hz88 hy89 => ?_)
          refine j_iast hX (by omega) (by omega) (kq_19 hq) (by omega) (by omega) (by omega) (by omega) dX6_settle_95 ?_
          refine j_up hI (aq_19 hq _) (by omega) (by omega) (Or.inl (by omega)) (fun M90 w91 hw92 hM93 hI94 hf95 => ?_)
          have hV96 := VQ_up hV_0 hM93 (by omega)
          have hk97 := kp_up hM93 (by omega) hk65
          have hk98 := kp_up hM93 (by omega) hk70
          have hF99 := Fr.put hF hM93 (by omega)
          refine j_aload_n hX dX6_settle_96 rfl 1 rfl ?_
          refine j_iload_n hX dX6_settle_97 rfl 0 rfl ?_
          refine j_callVI hX lk_X6_90 (c_X6_isDark _ _ _ _ _ q _ _ (by omega) hI94 (by omega) hq) (by omega) hce rfl rfl (by omega) (by omega) (kq hq) rfl rfl (Nat.le_of_ble_eq_true rfl) dX6_settle_98 (fun z100 M101 hz103 hp102 => ?_)
          obtain ⟨rfl, hb104⟩ := hp102
          refine j_if_eq (tgt := 115) hX dX6_settle_101 (by decide) (by omega) (fun hc105 => ?_) (fun hc105 => ?_)
          · skip
            refine j_aload_n hX dX6_settle_115 rfl 1 rfl ?_
            refine gf_X6_78 hX (by omega) (by omega) (kq hq) (fq_19 hI94 hq) (by omega) dX6_settle_116 ?_
            refine j_iload_n hX dX6_settle_119 rfl 0 rfl ?_
            refine j_dup2 hX dX6_settle_120 rfl rfl ?_
            refine j_iald hX (by omega) (by omega) (kq_20 hq) (by omega) (by omega) (by omega) dX6_settle_121 ?_
            refine j_name hI94 (aq_20 hq _) (fun v106 hv107 hl108 hh109 => ?_)
            refine j_iconst hX dX6_settle_122 ?_
            refine j_iload_n hX dX6_settle_123 rfl 2 rfl ?_
            refine j_ishl hX dX6_settle_124 (fun z110 hz111 hy112 => ?_)
            refine j_ior hX dX6_settle_125 (fun z113 hz114 hy115 => ?_)
            refine j_iast hX (by omega) (by omega) (kq_20 hq) (by omega) (by omega) (by omega) (by omega) dX6_settle_126 ?_
            refine j_up hI94 (aq_20 hq _) (by omega) (by omega) (Or.inl (by omega)) (fun M116 w117 hw118 hM119 hI120 hf121 => ?_)
            have hV122 := VQ_up hV96 hM119 (by omega)
            have hk123 := kp_up hM119 (by omega) hk97
            have hk124 := kp_up hM119 (by omega) hk98
            have hF125 := Fr.put hF99 hM119 (by omega)
            refine j_iinc (lv' := [(1, _), (2, _), (0, _)]) hX dX6_settle_127 2 rfl (by rw [hnL]; decide) rfl ?_
            refine j_goto (tgt := 64) hX dX6_settle_130 (by decide) ?_
            refine j_sub [2, 0] rfl ?_
            exact ih.2 _ _ (by omega) hI120 hF125 hV122 (by first | assumption | omega) (by omega) (by omega)
          · skip
            refine j_aload_n hX dX6_settle_104 rfl 1 rfl ?_
            refine gf_X6_38 hX (by omega) (by omega) (kq hq) dX6_settle_105 ?_
            refine j_name hI94 (rq_8 hq) (fun v126 hv127 hl128 hh129 => ?_)
            have hk130 := hv127.symm
            refine j_iload_n hX dX6_settle_108 rfl 2 rfl ?_
            refine j_ishr hX dX6_settle_109 (fun z131 hz132 hy133 => ?_)
            refine j_iconst hX dX6_settle_110 ?_
            refine j_iand hX dX6_settle_111 (fun z134 hz135 hy136 => ?_)
            have ha137 := (and_f hz135 (by omega) (by omega)).2 (by omega)
            refine j_if_eq (tgt := 127) hX dX6_settle_112 (by decide) (by omega) (fun hc138 => ?_) (fun hc138 => ?_)
            · skip
              refine j_iinc (lv' := [(1, _), (2, _), (0, _)]) hX dX6_settle_127 2 rfl (by rw [hnL]; decide) rfl ?_
              refine j_goto (tgt := 64) hX dX6_settle_130 (by decide) ?_
              refine j_sub [2, 0] rfl ?_
              exact ih.2 _ _ (by omega) hI94 hF99 hV96 (by first | assumption | omega) (by omega) (by omega)
            · skip
              refine j_aload_n hX dX6_settle_115 rfl 1 rfl ?_
              refine gf_X6_78 hX (by omega) (by omega) (kq hq) (fq_19 hI94 hq) (by omega) dX6_settle_116 ?_
              refine j_iload_n hX dX6_settle_119 rfl 0 rfl ?_
              refine j_dup2 hX dX6_settle_120 rfl rfl ?_
              refine j_iald hX (by omega) (by omega) (kq_20 hq) (by omega) (by omega) (by omega) dX6_settle_121 ?_
              refine j_name hI94 (aq_20 hq _) (fun v139 hv140 hl141 hh142 => ?_)
              refine j_iconst hX dX6_settle_122 ?_
              refine j_iload_n hX dX6_settle_123 rfl 2 rfl ?_
              refine j_ishl hX dX6_settle_124 (fun z143 hz144 hy145 => ?_)
              refine j_ior hX dX6_settle_125 (fun z146 hz147 hy148 => ?_)
              refine j_iast hX (by omega) (by omega) (kq_20 hq) (by omega) (by omega) (by omega) (by omega) dX6_settle_126 ?_
              refine j_up hI94 (aq_20 hq _) (by omega) (by omega) (Or.inl (by omega)) (fun M149 w150 hw151 hM152 hI153 hf154 => ?_)
              have hV155 := VQ_up hV96 hM152 (by omega)
              have hk156 := kp_up hM152 (by omega) hk97
              have hk157 := kp_up hM152 (by omega) hk98
              have hk158 := kp_up hM152 (by omega) hk130
              have hF159 := Fr.put hF99 hM152 (by omega)
              refine j_iinc (lv' := [(1, _), (2, _), (0, _)]) hX dX6_settle_127 2 rfl (by rw [hnL]; decide) rfl ?_
              refine j_goto (tgt := 64) hX dX6_settle_130 (by decide) ?_
              refine j_sub [2, 0] rfl ?_
              exact ih.2 _ _ (by omega) hI153 hF159 hV155 (by first | assumption | omega) (by omega) (by omega)
  show J X B N 0 0 0 [(0, rv B q)] [] M
  refine j_iconst hX dX6_settle_0 ?_
  refine j_istore_n (lv' := [(1, _), (0, _)]) hX dX6_settle_1 rfl (by rw [hnL]; decide) rfl ?_
  refine j_sub [1, 0] rfl ?_
  have hh9 := hI.at q 9 (rq_9 hq)
  refine (cp (Int.toNat (6464 + 1))).1 _ _ _ (by omega) hI hF hnr hk1 (by first | assumption | omega) (by first | (intro _; exact Vr_0) | (intro _; assumption)) (by first | assumption | (intro h; omega)) ?_ ?_
  · omega
  · omega
