theorem dX7_refuse_0 : decode cX7_refuse 0 = .ok (.aload_n 0, 1) := by decide +kernel
theorem dX7_refuse_1 : decode cX7_refuse 1 = .ok (.aload_n 0, 1) := by decide +kernel
theorem dX7_refuse_2 : decode cX7_refuse 2 = .ok (.getfield 12, 3) := by decide +kernel
theorem dX7_refuse_5 : decode cX7_refuse 5 = .ok (.getfield 44, 3) := by decide +kernel
theorem dX7_refuse_8 : decode cX7_refuse 8 = .ok (.iconst (-1), 1) := by decide +kernel
theorem dX7_refuse_9 : decode cX7_refuse 9 = .ok (.if_icmp .ne 7, 3) := by decide +kernel
theorem dX7_refuse_12 : decode cX7_refuse 12 = .ok (.iconst 1, 1) := by decide +kernel
theorem dX7_refuse_13 : decode cX7_refuse 13 = .ok (.goto 4, 3) := by decide +kernel
theorem dX7_refuse_16 : decode cX7_refuse 16 = .ok (.iload_n 1, 1) := by decide +kernel
theorem dX7_refuse_17 : decode cX7_refuse 17 = .ok (.putfield 25, 3) := by decide +kernel
theorem dX7_refuse_20 : decode cX7_refuse 20 = .ok (.aload_n 0, 1) := by decide +kernel
theorem dX7_refuse_21 : decode cX7_refuse 21 = .ok (.aload_n 0, 1) := by decide +kernel
theorem dX7_refuse_22 : decode cX7_refuse 22 = .ok (.getfield 12, 3) := by decide +kernel
theorem dX7_refuse_25 : decode cX7_refuse 25 = .ok (.getfield 204, 3) := by decide +kernel
theorem dX7_refuse_28 : decode cX7_refuse 28 = .ok (.putfield 29, 3) := by decide +kernel
theorem dX7_refuse_31 : decode cX7_refuse 31 = .ok (.iconst 0, 1) := by decide +kernel
theorem dX7_refuse_32 : decode cX7_refuse 32 = .ok (.ireturn, 1) := by decide +kernel
theorem dX7_mayStart_0 : decode cX7_mayStart 0 = .ok (.iload_n 1, 1) := by decide +kernel
theorem dX7_mayStart_1 : decode cX7_mayStart 1 = .ok (.ifCond .ne 9, 3) := by decide +kernel
theorem dX7_mayStart_4 : decode cX7_mayStart 4 = .ok (.aload_n 0, 1) := by decide +kernel
theorem dX7_mayStart_5 : decode cX7_mayStart 5 = .ok (.iconst 2, 1) := by decide +kernel
theorem dX7_mayStart_6 : decode cX7_mayStart 6 = .ok (.invokevirtual 95, 3) := by decide +kernel
theorem dX7_mayStart_9 : decode cX7_mayStart 9 = .ok (.ireturn, 1) := by decide +kernel
theorem dX7_mayStart_10 : decode cX7_mayStart 10 = .ok (.aload_n 0, 1) := by decide +kernel
theorem dX7_mayStart_11 : decode cX7_mayStart 11 = .ok (.getfield 12, 3) := by decide +kernel
theorem dX7_mayStart_14 : decode cX7_mayStart 14 = .ok (.invokevirtual 41, 3) := by decide +kernel
theorem dX7_mayStart_17 : decode cX7_mayStart 17 = .ok (.iconst 1, 1) := by decide +kernel
theorem dX7_mayStart_18 : decode cX7_mayStart 18 = .ok (.ireturn, 1) := by decide +kernel
theorem dX7_isName_0 : decode cX7_isName 0 = .ok (.aload_n 0, 1) := by decide +kernel
theorem dX7_isName_1 : decode cX7_isName 1 = .ok (.getfield 12, 3) := by decide +kernel
theorem dX7_isName_4 : decode cX7_isName 4 = .ok (.getfield 44, 3) := by decide +kernel
theorem dX7_isName_7 : decode cX7_isName 7 = .ok (.iconst 1, 1) := by decide +kernel
theorem dX7_isName_8 : decode cX7_isName 8 = .ok (.if_icmp .eq 11, 3) := by decide +kernel
theorem dX7_isName_11 : decode cX7_isName 11 = .ok (.aload_n 0, 1) := by decide +kernel
theorem dX7_isName_12 : decode cX7_isName 12 = .ok (.iconst 2, 1) := by decide +kernel
theorem dX7_isName_13 : decode cX7_isName 13 = .ok (.invokevirtual 95, 3) := by decide +kernel
theorem dX7_isName_16 : decode cX7_isName 16 = .ok (.ifCond .eq 7, 3) := by decide +kernel
theorem dX7_isName_19 : decode cX7_isName 19 = .ok (.iconst 1, 1) := by decide +kernel
theorem dX7_isName_20 : decode cX7_isName 20 = .ok (.goto 4, 3) := by decide +kernel
theorem dX7_isName_23 : decode cX7_isName 23 = .ok (.iconst 0, 1) := by decide +kernel
theorem dX7_isName_24 : decode cX7_isName 24 = .ok (.ireturn, 1) := by decide +kernel
theorem dX7_isRoom_0 : decode cX7_isRoom 0 = .ok (.aload_n 0, 1) := by decide +kernel
theorem dX7_isRoom_1 : decode cX7_isRoom 1 = .ok (.invokevirtual 105, 3) := by decide +kernel
theorem dX7_isRoom_4 : decode cX7_isRoom 4 = .ok (.ifCond .ne 5, 3) := by decide +kernel
theorem dX7_isRoom_7 : decode cX7_isRoom 7 = .ok (.iconst 0, 1) := by decide +kernel
theorem dX7_isRoom_8 : decode cX7_isRoom 8 = .ok (.ireturn, 1) := by decide +kernel
theorem dX7_isRoom_9 : decode cX7_isRoom 9 = .ok (.aload_n 0, 1) := by decide +kernel
theorem dX7_isRoom_10 : decode cX7_isRoom 10 = .ok (.aload_n 0, 1) := by decide +kernel
theorem dX7_isRoom_11 : decode cX7_isRoom 11 = .ok (.getfield 21, 3) := by decide +kernel
theorem dX7_isRoom_14 : decode cX7_isRoom 14 = .ok (.aload_n 0, 1) := by decide +kernel
theorem dX7_isRoom_15 : decode cX7_isRoom 15 = .ok (.getfield 12, 3) := by decide +kernel
theorem dX7_isRoom_18 : decode cX7_isRoom 18 = .ok (.getfield 108, 3) := by decide +kernel
theorem dX7_isRoom_21 : decode cX7_isRoom 21 = .ok (.invokevirtual 112, 3) := by decide +kernel
theorem dX7_isRoom_24 : decode cX7_isRoom 24 = .ok (.putfield 32, 3) := by decide +kernel
theorem dX7_isRoom_27 : decode cX7_isRoom 27 = .ok (.aload_n 0, 1) := by decide +kernel
theorem dX7_isRoom_28 : decode cX7_isRoom 28 = .ok (.getfield 32, 3) := by decide +kernel
theorem dX7_isRoom_31 : decode cX7_isRoom 31 = .ok (.iconst (-1), 1) := by decide +kernel
theorem dX7_isRoom_32 : decode cX7_isRoom 32 = .ok (.if_icmp .ne 11, 3) := by decide +kernel
theorem dX7_isRoom_35 : decode cX7_isRoom 35 = .ok (.aload_n 0, 1) := by decide +kernel
theorem dX7_isRoom_36 : decode cX7_isRoom 36 = .ok (.iconst 5, 1) := by decide +kernel
theorem dX7_isRoom_37 : decode cX7_isRoom 37 = .ok (.invokevirtual 95, 3) := by decide +kernel
theorem dX7_isRoom_40 : decode cX7_isRoom 40 = .ok (.ifCond .eq 7, 3) := by decide +kernel
theorem dX7_isRoom_43 : decode cX7_isRoom 43 = .ok (.iconst 1, 1) := by decide +kernel
theorem dX7_isRoom_44 : decode cX7_isRoom 44 = .ok (.goto 4, 3) := by decide +kernel
theorem dX7_isRoom_47 : decode cX7_isRoom 47 = .ok (.iconst 0, 1) := by decide +kernel
theorem dX7_isRoom_48 : decode cX7_isRoom 48 = .ok (.ireturn, 1) := by decide +kernel
theorem dX7_takeNumber_0 : decode cX7_takeNumber 0 = .ok (.aload_n 0, 1) := by decide +kernel
theorem dX7_takeNumber_1 : decode cX7_takeNumber 1 = .ok (.getfield 12, 3) := by decide +kernel
theorem dX7_takeNumber_4 : decode cX7_takeNumber 4 = .ok (.getfield 44, 3) := by decide +kernel
theorem dX7_takeNumber_7 : decode cX7_takeNumber 7 = .ok (.iconst 2, 1) := by decide +kernel
theorem dX7_takeNumber_8 : decode cX7_takeNumber 8 = .ok (.if_icmp .eq 9, 3) := by decide +kernel
theorem dX7_takeNumber_11 : decode cX7_takeNumber 11 = .ok (.aload_n 0, 1) := by decide +kernel
theorem dX7_takeNumber_12 : decode cX7_takeNumber 12 = .ok (.iconst 2, 1) := by decide +kernel
theorem dX7_takeNumber_13 : decode cX7_takeNumber 13 = .ok (.invokevirtual 95, 3) := by decide +kernel
theorem dX7_takeNumber_16 : decode cX7_takeNumber 16 = .ok (.ireturn, 1) := by decide +kernel
theorem dX7_takeNumber_17 : decode cX7_takeNumber 17 = .ok (.aload_n 0, 1) := by decide +kernel
theorem dX7_takeNumber_18 : decode cX7_takeNumber 18 = .ok (.aload_n 0, 1) := by decide +kernel
theorem dX7_takeNumber_19 : decode cX7_takeNumber 19 = .ok (.getfield 12, 3) := by decide +kernel
theorem dX7_takeNumber_22 : decode cX7_takeNumber 22 = .ok (.getfield 198, 3) := by decide +kernel
theorem dX7_takeNumber_25 : decode cX7_takeNumber 25 = .ok (.putfield 32, 3) := by decide +kernel
theorem dX7_takeNumber_28 : decode cX7_takeNumber 28 = .ok (.aload_n 0, 1) := by decide +kernel
theorem dX7_takeNumber_29 : decode cX7_takeNumber 29 = .ok (.getfield 32, 3) := by decide +kernel
theorem dX7_takeNumber_32 : decode cX7_takeNumber 32 = .ok (.iload_n 1, 1) := by decide +kernel
theorem dX7_takeNumber_33 : decode cX7_takeNumber 33 = .ok (.if_icmp .le 9, 3) := by decide +kernel
theorem dX7_takeNumber_36 : decode cX7_takeNumber 36 = .ok (.aload_n 0, 1) := by decide +kernel
theorem dX7_takeNumber_37 : decode cX7_takeNumber 37 = .ok (.iconst 4, 1) := by decide +kernel
theorem dX7_takeNumber_38 : decode cX7_takeNumber 38 = .ok (.invokevirtual 95, 3) := by decide +kernel
theorem dX7_takeNumber_41 : decode cX7_takeNumber 41 = .ok (.ireturn, 1) := by decide +kernel
theorem dX7_takeNumber_42 : decode cX7_takeNumber 42 = .ok (.aload_n 0, 1) := by decide +kernel
theorem dX7_takeNumber_43 : decode cX7_takeNumber 43 = .ok (.getfield 12, 3) := by decide +kernel
theorem dX7_takeNumber_46 : decode cX7_takeNumber 46 = .ok (.invokevirtual 41, 3) := by decide +kernel
theorem dX7_takeNumber_49 : decode cX7_takeNumber 49 = .ok (.iconst 1, 1) := by decide +kernel
theorem dX7_takeNumber_50 : decode cX7_takeNumber 50 = .ok (.ireturn, 1) := by decide +kernel
theorem dX7_take_0 : decode cX7_take 0 = .ok (.aload_n 0, 1) := by decide +kernel
theorem dX7_take_1 : decode cX7_take 1 = .ok (.getfield 12, 3) := by decide +kernel
theorem dX7_take_4 : decode cX7_take 4 = .ok (.getfield 44, 3) := by decide +kernel
theorem dX7_take_7 : decode cX7_take 7 = .ok (.iload_n 1, 1) := by decide +kernel
theorem dX7_take_8 : decode cX7_take 8 = .ok (.if_icmp .eq 9, 3) := by decide +kernel
theorem dX7_take_11 : decode cX7_take 11 = .ok (.aload_n 0, 1) := by decide +kernel
theorem dX7_take_12 : decode cX7_take 12 = .ok (.iconst 2, 1) := by decide +kernel
theorem dX7_take_13 : decode cX7_take 13 = .ok (.invokevirtual 95, 3) := by decide +kernel
theorem dX7_take_16 : decode cX7_take 16 = .ok (.ireturn, 1) := by decide +kernel
theorem dX7_take_17 : decode cX7_take 17 = .ok (.aload_n 0, 1) := by decide +kernel
theorem dX7_take_18 : decode cX7_take 18 = .ok (.getfield 12, 3) := by decide +kernel
theorem dX7_take_21 : decode cX7_take 21 = .ok (.invokevirtual 41, 3) := by decide +kernel
theorem dX7_take_24 : decode cX7_take 24 = .ok (.iconst 1, 1) := by decide +kernel
theorem dX7_take_25 : decode cX7_take 25 = .ok (.ireturn, 1) := by decide +kernel
theorem dX7_takeIf_0 : decode cX7_takeIf 0 = .ok (.aload_n 0, 1) := by decide +kernel
theorem dX7_takeIf_1 : decode cX7_takeIf 1 = .ok (.getfield 12, 3) := by decide +kernel
theorem dX7_takeIf_4 : decode cX7_takeIf 4 = .ok (.getfield 44, 3) := by decide +kernel
theorem dX7_takeIf_7 : decode cX7_takeIf 7 = .ok (.iload_n 1, 1) := by decide +kernel
theorem dX7_takeIf_8 : decode cX7_takeIf 8 = .ok (.if_icmp .eq 5, 3) := by decide +kernel
theorem dX7_takeIf_11 : decode cX7_takeIf 11 = .ok (.iconst 0, 1) := by decide +kernel
theorem dX7_takeIf_12 : decode cX7_takeIf 12 = .ok (.ireturn, 1) := by decide +kernel
theorem dX7_takeIf_13 : decode cX7_takeIf 13 = .ok (.aload_n 0, 1) := by decide +kernel
theorem dX7_takeIf_14 : decode cX7_takeIf 14 = .ok (.getfield 12, 3) := by decide +kernel
theorem dX7_takeIf_17 : decode cX7_takeIf 17 = .ok (.invokevirtual 41, 3) := by decide +kernel
theorem dX7_takeIf_20 : decode cX7_takeIf 20 = .ok (.iconst 1, 1) := by decide +kernel
theorem dX7_takeIf_21 : decode cX7_takeIf 21 = .ok (.ireturn, 1) := by decide +kernel
theorem dX7_isTermSign_0 : decode cX7_isTermSign 0 = .ok (.iload_n 0, 1) := by decide +kernel
theorem dX7_isTermSign_1 : decode cX7_isTermSign 1 = .ok (.bipush 42, 2) := by decide +kernel
theorem dX7_isTermSign_3 : decode cX7_isTermSign 3 = .ok (.if_icmp .eq 15, 3) := by decide +kernel
theorem dX7_isTermSign_6 : decode cX7_isTermSign 6 = .ok (.iload_n 0, 1) := by decide +kernel
theorem dX7_isTermSign_7 : decode cX7_isTermSign 7 = .ok (.bipush 47, 2) := by decide +kernel
theorem dX7_isTermSign_9 : decode cX7_isTermSign 9 = .ok (.if_icmp .eq 9, 3) := by decide +kernel
theorem dX7_isTermSign_12 : decode cX7_isTermSign 12 = .ok (.iload_n 0, 1) := by decide +kernel
theorem dX7_isTermSign_13 : decode cX7_isTermSign 13 = .ok (.bipush 37, 2) := by decide +kernel
theorem dX7_isTermSign_15 : decode cX7_isTermSign 15 = .ok (.if_icmp .ne 7, 3) := by decide +kernel
theorem dX7_isTermSign_18 : decode cX7_isTermSign 18 = .ok (.iconst 1, 1) := by decide +kernel
theorem dX7_isTermSign_19 : decode cX7_isTermSign 19 = .ok (.goto 4, 3) := by decide +kernel
theorem dX7_isTermSign_22 : decode cX7_isTermSign 22 = .ok (.iconst 0, 1) := by decide +kernel
theorem dX7_isTermSign_23 : decode cX7_isTermSign 23 = .ok (.ireturn, 1) := by decide +kernel
theorem dX7_readRoom_0 : decode cX7_readRoom 0 = .ok (.aload_n 0, 1) := by decide +kernel
theorem dX7_readRoom_1 : decode cX7_readRoom 1 = .ok (.getfield 21, 3) := by decide +kernel
theorem dX7_readRoom_4 : decode cX7_readRoom 4 = .ok (.getfield 98, 3) := by decide +kernel
theorem dX7_readRoom_7 : decode cX7_readRoom 7 = .ok (.istore_n 1, 1) := by decide +kernel
theorem dX7_readRoom_8 : decode cX7_readRoom 8 = .ok (.aload_n 0, 1) := by decide +kernel
theorem dX7_readRoom_9 : decode cX7_readRoom 9 = .ok (.iload_n 1, 1) := by decide +kernel
theorem dX7_readRoom_10 : decode cX7_readRoom 10 = .ok (.bipush 6, 2) := by decide +kernel
theorem dX7_readRoom_12 : decode cX7_readRoom 12 = .ok (.if_icmp .ge 17, 3) := by decide +kernel
theorem dX7_readRoom_15 : decode cX7_readRoom 15 = .ok (.aload_n 0, 1) := by decide +kernel
theorem dX7_readRoom_16 : decode cX7_readRoom 16 = .ok (.getfield 21, 3) := by decide +kernel
theorem dX7_readRoom_19 : decode cX7_readRoom 19 = .ok (.getfield 101, 3) := by decide +kernel
theorem dX7_readRoom_22 : decode cX7_readRoom 22 = .ok (.ifCond .ne 7, 3) := by decide +kernel
theorem dX7_readRoom_25 : decode cX7_readRoom 25 = .ok (.iconst 1, 1) := by decide +kernel
theorem dX7_readRoom_26 : decode cX7_readRoom 26 = .ok (.goto 4, 3) := by decide +kernel
theorem dX7_readRoom_29 : decode cX7_readRoom 29 = .ok (.iconst 0, 1) := by decide +kernel
theorem dX7_readRoom_30 : decode cX7_readRoom 30 = .ok (.invokevirtual 82, 3) := by decide +kernel
theorem dX7_readRoom_33 : decode cX7_readRoom 33 = .ok (.ifCond .eq 10, 3) := by decide +kernel
theorem dX7_readRoom_36 : decode cX7_readRoom 36 = .ok (.aload_n 0, 1) := by decide +kernel
theorem dX7_readRoom_37 : decode cX7_readRoom 37 = .ok (.invokevirtual 105, 3) := by decide +kernel
theorem dX7_readRoom_40 : decode cX7_readRoom 40 = .ok (.ifCond .ne 5, 3) := by decide +kernel
theorem dX7_readRoom_43 : decode cX7_readRoom 43 = .ok (.iconst 0, 1) := by decide +kernel
theorem dX7_readRoom_44 : decode cX7_readRoom 44 = .ok (.ireturn, 1) := by decide +kernel
theorem dX7_readRoom_45 : decode cX7_readRoom 45 = .ok (.aload_n 0, 1) := by decide +kernel
theorem dX7_readRoom_46 : decode cX7_readRoom 46 = .ok (.getfield 21, 3) := by decide +kernel
theorem dX7_readRoom_49 : decode cX7_readRoom 49 = .ok (.aload_n 0, 1) := by decide +kernel
theorem dX7_readRoom_50 : decode cX7_readRoom 50 = .ok (.getfield 12, 3) := by decide +kernel
theorem dX7_readRoom_53 : decode cX7_readRoom 53 = .ok (.getfield 108, 3) := by decide +kernel
theorem dX7_readRoom_56 : decode cX7_readRoom 56 = .ok (.invokevirtual 112, 3) := by decide +kernel
theorem dX7_readRoom_59 : decode cX7_readRoom 59 = .ok (.iconst (-1), 1) := by decide +kernel
theorem dX7_readRoom_60 : decode cX7_readRoom 60 = .ok (.if_icmp .eq 9, 3) := by decide +kernel
theorem dX7_readRoom_63 : decode cX7_readRoom 63 = .ok (.aload_n 0, 1) := by decide +kernel
theorem dX7_readRoom_64 : decode cX7_readRoom 64 = .ok (.iconst 3, 1) := by decide +kernel
theorem dX7_readRoom_65 : decode cX7_readRoom 65 = .ok (.invokevirtual 95, 3) := by decide +kernel
theorem dX7_readRoom_68 : decode cX7_readRoom 68 = .ok (.ireturn, 1) := by decide +kernel
theorem dX7_readRoom_69 : decode cX7_readRoom 69 = .ok (.aload_n 0, 1) := by decide +kernel
theorem dX7_readRoom_70 : decode cX7_readRoom 70 = .ok (.getfield 21, 3) := by decide +kernel
theorem dX7_readRoom_73 : decode cX7_readRoom 73 = .ok (.getfield 116, 3) := by decide +kernel
theorem dX7_readRoom_76 : decode cX7_readRoom 76 = .ok (.iload_n 1, 1) := by decide +kernel
theorem dX7_readRoom_77 : decode cX7_readRoom 77 = .ok (.aload_n 0, 1) := by decide +kernel
theorem dX7_readRoom_78 : decode cX7_readRoom 78 = .ok (.getfield 12, 3) := by decide +kernel
theorem dX7_readRoom_81 : decode cX7_readRoom 81 = .ok (.getfield 108, 3) := by decide +kernel
theorem dX7_readRoom_84 : decode cX7_readRoom 84 = .ok (.lastore, 1) := by decide +kernel
theorem dX7_readRoom_85 : decode cX7_readRoom 85 = .ok (.aload_n 0, 1) := by decide +kernel
theorem dX7_readRoom_86 : decode cX7_readRoom 86 = .ok (.getfield 12, 3) := by decide +kernel
theorem dX7_readRoom_89 : decode cX7_readRoom 89 = .ok (.invokevirtual 41, 3) := by decide +kernel
theorem dX7_readRoom_92 : decode cX7_readRoom 92 = .ok (.aload_n 0, 1) := by decide +kernel
theorem dX7_readRoom_93 : decode cX7_readRoom 93 = .ok (.sipush 201, 3) := by decide +kernel
theorem dX7_readRoom_96 : decode cX7_readRoom 96 = .ok (.invokevirtual 51, 3) := by decide +kernel
theorem dX7_readRoom_99 : decode cX7_readRoom 99 = .ok (.ifCond .eq 12, 3) := by decide +kernel
theorem dX7_readRoom_102 : decode cX7_readRoom 102 = .ok (.aload_n 0, 1) := by decide +kernel
theorem dX7_readRoom_103 : decode cX7_readRoom 103 = .ok (.bipush 9, 2) := by decide +kernel
theorem dX7_readRoom_105 : decode cX7_readRoom 105 = .ok (.invokevirtual 120, 3) := by decide +kernel
theorem dX7_readRoom_108 : decode cX7_readRoom 108 = .ok (.ifCond .ne 5, 3) := by decide +kernel
theorem dX7_readRoom_111 : decode cX7_readRoom 111 = .ok (.iconst 0, 1) := by decide +kernel
theorem dX7_readRoom_112 : decode cX7_readRoom 112 = .ok (.ireturn, 1) := by decide +kernel
theorem dX7_readRoom_113 : decode cX7_readRoom 113 = .ok (.aload_n 0, 1) := by decide +kernel
theorem dX7_readRoom_114 : decode cX7_readRoom 114 = .ok (.getfield 21, 3) := by decide +kernel
theorem dX7_readRoom_117 : decode cX7_readRoom 117 = .ok (.getfield 123, 3) := by decide +kernel
theorem dX7_readRoom_120 : decode cX7_readRoom 120 = .ok (.iload_n 1, 1) := by decide +kernel
theorem dX7_readRoom_121 : decode cX7_readRoom 121 = .ok (.aload_n 0, 1) := by decide +kernel
theorem dX7_readRoom_122 : decode cX7_readRoom 122 = .ok (.getfield 32, 3) := by decide +kernel
theorem dX7_readRoom_125 : decode cX7_readRoom 125 = .ok (.iastore, 1) := by decide +kernel
theorem dX7_readRoom_126 : decode cX7_readRoom 126 = .ok (.aload_n 0, 1) := by decide +kernel
theorem dX7_readRoom_127 : decode cX7_readRoom 127 = .ok (.sipush 202, 3) := by decide +kernel
theorem dX7_readRoom_130 : decode cX7_readRoom 130 = .ok (.invokevirtual 127, 3) := by decide +kernel
theorem dX7_readRoom_133 : decode cX7_readRoom 133 = .ok (.ifCond .eq 18, 3) := by decide +kernel
theorem dX7_readRoom_136 : decode cX7_readRoom 136 = .ok (.aload_n 0, 1) := by decide +kernel
theorem dX7_readRoom_137 : decode cX7_readRoom 137 = .ok (.getfield 21, 3) := by decide +kernel
theorem dX7_readRoom_140 : decode cX7_readRoom 140 = .ok (.dup, 1) := by decide +kernel
theorem dX7_readRoom_141 : decode cX7_readRoom 141 = .ok (.getfield 130, 3) := by decide +kernel
theorem dX7_readRoom_144 : decode cX7_readRoom 144 = .ok (.iconst 1, 1) := by decide +kernel
theorem dX7_readRoom_145 : decode cX7_readRoom 145 = .ok (.iload_n 1, 1) := by decide +kernel
theorem dX7_readRoom_146 : decode cX7_readRoom 146 = .ok (.ishl, 1) := by decide +kernel
theorem dX7_readRoom_147 : decode cX7_readRoom 147 = .ok (.ior, 1) := by decide +kernel
theorem dX7_readRoom_148 : decode cX7_readRoom 148 = .ok (.putfield 130, 3) := by decide +kernel
theorem dX7_readRoom_151 : decode cX7_readRoom 151 = .ok (.aload_n 0, 1) := by decide +kernel
theorem dX7_readRoom_152 : decode cX7_readRoom 152 = .ok (.getfield 21, 3) := by decide +kernel
theorem dX7_readRoom_155 : decode cX7_readRoom 155 = .ok (.iload_n 1, 1) := by decide +kernel
theorem dX7_readRoom_156 : decode cX7_readRoom 156 = .ok (.iconst 1, 1) := by decide +kernel
theorem dX7_readRoom_157 : decode cX7_readRoom 157 = .ok (.iadd, 1) := by decide +kernel
theorem dX7_readRoom_158 : decode cX7_readRoom 158 = .ok (.putfield 98, 3) := by decide +kernel
theorem dX7_readRoom_161 : decode cX7_readRoom 161 = .ok (.iconst 1, 1) := by decide +kernel
theorem dX7_readRoom_162 : decode cX7_readRoom 162 = .ok (.ireturn, 1) := by decide +kernel
theorem dX7_readFact_0 : decode cX7_readFact 0 = .ok (.aload_n 0, 1) := by decide +kernel
theorem dX7_readFact_1 : decode cX7_readFact 1 = .ok (.getfield 21, 3) := by decide +kernel
theorem dX7_readFact_4 : decode cX7_readFact 4 = .ok (.getfield 139, 3) := by decide +kernel
theorem dX7_readFact_7 : decode cX7_readFact 7 = .ok (.istore_n 1, 1) := by decide +kernel
theorem dX7_readFact_8 : decode cX7_readFact 8 = .ok (.aload_n 0, 1) := by decide +kernel
theorem dX7_readFact_9 : decode cX7_readFact 9 = .ok (.iload_n 1, 1) := by decide +kernel
theorem dX7_readFact_10 : decode cX7_readFact 10 = .ok (.bipush 10, 2) := by decide +kernel
theorem dX7_readFact_12 : decode cX7_readFact 12 = .ok (.if_icmp .ge 7, 3) := by decide +kernel
theorem dX7_readFact_15 : decode cX7_readFact 15 = .ok (.iconst 1, 1) := by decide +kernel
theorem dX7_readFact_16 : decode cX7_readFact 16 = .ok (.goto 4, 3) := by decide +kernel
theorem dX7_readFact_19 : decode cX7_readFact 19 = .ok (.iconst 0, 1) := by decide +kernel
theorem dX7_readFact_20 : decode cX7_readFact 20 = .ok (.invokevirtual 82, 3) := by decide +kernel
theorem dX7_readFact_23 : decode cX7_readFact 23 = .ok (.ifCond .eq 10, 3) := by decide +kernel
theorem dX7_readFact_26 : decode cX7_readFact 26 = .ok (.aload_n 0, 1) := by decide +kernel
theorem dX7_readFact_27 : decode cX7_readFact 27 = .ok (.invokevirtual 105, 3) := by decide +kernel
theorem dX7_readFact_30 : decode cX7_readFact 30 = .ok (.ifCond .ne 5, 3) := by decide +kernel
theorem dX7_readFact_33 : decode cX7_readFact 33 = .ok (.iconst 0, 1) := by decide +kernel
theorem dX7_readFact_34 : decode cX7_readFact 34 = .ok (.ireturn, 1) := by decide +kernel
theorem dX7_readFact_35 : decode cX7_readFact 35 = .ok (.aload_n 0, 1) := by decide +kernel
theorem dX7_readFact_36 : decode cX7_readFact 36 = .ok (.getfield 21, 3) := by decide +kernel
theorem dX7_readFact_39 : decode cX7_readFact 39 = .ok (.aload_n 0, 1) := by decide +kernel
theorem dX7_readFact_40 : decode cX7_readFact 40 = .ok (.getfield 12, 3) := by decide +kernel
theorem dX7_readFact_43 : decode cX7_readFact 43 = .ok (.getfield 108, 3) := by decide +kernel
theorem dX7_readFact_46 : decode cX7_readFact 46 = .ok (.invokevirtual 142, 3) := by decide +kernel
theorem dX7_readFact_49 : decode cX7_readFact 49 = .ok (.iconst (-1), 1) := by decide +kernel
theorem dX7_readFact_50 : decode cX7_readFact 50 = .ok (.if_icmp .eq 9, 3) := by decide +kernel
theorem dX7_readFact_53 : decode cX7_readFact 53 = .ok (.aload_n 0, 1) := by decide +kernel
theorem dX7_readFact_54 : decode cX7_readFact 54 = .ok (.iconst 3, 1) := by decide +kernel
theorem dX7_readFact_55 : decode cX7_readFact 55 = .ok (.invokevirtual 95, 3) := by decide +kernel
theorem dX7_readFact_58 : decode cX7_readFact 58 = .ok (.ireturn, 1) := by decide +kernel
theorem dX7_readFact_59 : decode cX7_readFact 59 = .ok (.aload_n 0, 1) := by decide +kernel
theorem dX7_readFact_60 : decode cX7_readFact 60 = .ok (.getfield 21, 3) := by decide +kernel
theorem dX7_readFact_63 : decode cX7_readFact 63 = .ok (.getfield 145, 3) := by decide +kernel
theorem dX7_readFact_66 : decode cX7_readFact 66 = .ok (.iload_n 1, 1) := by decide +kernel
theorem dX7_readFact_67 : decode cX7_readFact 67 = .ok (.aload_n 0, 1) := by decide +kernel
theorem dX7_readFact_68 : decode cX7_readFact 68 = .ok (.getfield 12, 3) := by decide +kernel
theorem dX7_readFact_71 : decode cX7_readFact 71 = .ok (.getfield 108, 3) := by decide +kernel
theorem dX7_readFact_74 : decode cX7_readFact 74 = .ok (.lastore, 1) := by decide +kernel
theorem dX7_readFact_75 : decode cX7_readFact 75 = .ok (.aload_n 0, 1) := by decide +kernel
theorem dX7_readFact_76 : decode cX7_readFact 76 = .ok (.getfield 12, 3) := by decide +kernel
theorem dX7_readFact_79 : decode cX7_readFact 79 = .ok (.invokevirtual 41, 3) := by decide +kernel
theorem dX7_readFact_82 : decode cX7_readFact 82 = .ok (.aload_n 0, 1) := by decide +kernel
theorem dX7_readFact_83 : decode cX7_readFact 83 = .ok (.sipush 205, 3) := by decide +kernel
theorem dX7_readFact_86 : decode cX7_readFact 86 = .ok (.invokevirtual 51, 3) := by decide +kernel
theorem dX7_readFact_89 : decode cX7_readFact 89 = .ok (.ifCond .eq 10, 3) := by decide +kernel
theorem dX7_readFact_92 : decode cX7_readFact 92 = .ok (.aload_n 0, 1) := by decide +kernel
theorem dX7_readFact_93 : decode cX7_readFact 93 = .ok (.invokevirtual 133, 3) := by decide +kernel
theorem dX7_readFact_96 : decode cX7_readFact 96 = .ok (.ifCond .ne 5, 3) := by decide +kernel
theorem dX7_readFact_99 : decode cX7_readFact 99 = .ok (.iconst 0, 1) := by decide +kernel
theorem dX7_readFact_100 : decode cX7_readFact 100 = .ok (.ireturn, 1) := by decide +kernel
theorem dX7_readFact_101 : decode cX7_readFact 101 = .ok (.aload_n 0, 1) := by decide +kernel
theorem dX7_readFact_102 : decode cX7_readFact 102 = .ok (.getfield 21, 3) := by decide +kernel
theorem dX7_readFact_105 : decode cX7_readFact 105 = .ok (.getfield 148, 3) := by decide +kernel
theorem dX7_readFact_108 : decode cX7_readFact 108 = .ok (.iload_n 1, 1) := by decide +kernel
theorem dX7_readFact_109 : decode cX7_readFact 109 = .ok (.aload_n 0, 1) := by decide +kernel
theorem dX7_readFact_110 : decode cX7_readFact 110 = .ok (.getfield 32, 3) := by decide +kernel
theorem dX7_readFact_113 : decode cX7_readFact 113 = .ok (.iastore, 1) := by decide +kernel
theorem dX7_readFact_114 : decode cX7_readFact 114 = .ok (.aload_n 0, 1) := by decide +kernel
theorem dX7_readFact_115 : decode cX7_readFact 115 = .ok (.getfield 12, 3) := by decide +kernel
theorem dX7_readFact_118 : decode cX7_readFact 118 = .ok (.invokevirtual 41, 3) := by decide +kernel
theorem dX7_readFact_121 : decode cX7_readFact 121 = .ok (.aload_n 0, 1) := by decide +kernel
theorem dX7_readFact_122 : decode cX7_readFact 122 = .ok (.sipush 206, 3) := by decide +kernel
theorem dX7_readFact_125 : decode cX7_readFact 125 = .ok (.invokevirtual 51, 3) := by decide +kernel
theorem dX7_readFact_128 : decode cX7_readFact 128 = .ok (.ifCond .eq 12, 3) := by decide +kernel
theorem dX7_readFact_131 : decode cX7_readFact 131 = .ok (.aload_n 0, 1) := by decide +kernel
theorem dX7_readFact_132 : decode cX7_readFact 132 = .ok (.bipush 23, 2) := by decide +kernel
theorem dX7_readFact_134 : decode cX7_readFact 134 = .ok (.invokevirtual 120, 3) := by decide +kernel
theorem dX7_readFact_137 : decode cX7_readFact 137 = .ok (.ifCond .ne 5, 3) := by decide +kernel
theorem dX7_readFact_140 : decode cX7_readFact 140 = .ok (.iconst 0, 1) := by decide +kernel
theorem dX7_readFact_141 : decode cX7_readFact 141 = .ok (.ireturn, 1) := by decide +kernel
theorem dX7_readFact_142 : decode cX7_readFact 142 = .ok (.aload_n 0, 1) := by decide +kernel
theorem dX7_readFact_143 : decode cX7_readFact 143 = .ok (.getfield 21, 3) := by decide +kernel
theorem dX7_readFact_146 : decode cX7_readFact 146 = .ok (.getfield 151, 3) := by decide +kernel
theorem dX7_readFact_149 : decode cX7_readFact 149 = .ok (.iload_n 1, 1) := by decide +kernel
theorem dX7_readFact_150 : decode cX7_readFact 150 = .ok (.aload_n 0, 1) := by decide +kernel
theorem dX7_readFact_151 : decode cX7_readFact 151 = .ok (.getfield 32, 3) := by decide +kernel
theorem dX7_readFact_154 : decode cX7_readFact 154 = .ok (.iastore, 1) := by decide +kernel
theorem dX7_readFact_155 : decode cX7_readFact 155 = .ok (.aload_n 0, 1) := by decide +kernel
theorem dX7_readFact_156 : decode cX7_readFact 156 = .ok (.sipush 207, 3) := by decide +kernel
theorem dX7_readFact_159 : decode cX7_readFact 159 = .ok (.invokevirtual 127, 3) := by decide +kernel
theorem dX7_readFact_162 : decode cX7_readFact 162 = .ok (.ifCond .eq 18, 3) := by decide +kernel
theorem dX7_readFact_165 : decode cX7_readFact 165 = .ok (.aload_n 0, 1) := by decide +kernel
theorem dX7_readFact_166 : decode cX7_readFact 166 = .ok (.getfield 21, 3) := by decide +kernel
theorem dX7_readFact_169 : decode cX7_readFact 169 = .ok (.dup, 1) := by decide +kernel
theorem dX7_readFact_170 : decode cX7_readFact 170 = .ok (.getfield 154, 3) := by decide +kernel
theorem dX7_readFact_173 : decode cX7_readFact 173 = .ok (.iconst 1, 1) := by decide +kernel
theorem dX7_readFact_174 : decode cX7_readFact 174 = .ok (.iload_n 1, 1) := by decide +kernel
theorem dX7_readFact_175 : decode cX7_readFact 175 = .ok (.ishl, 1) := by decide +kernel
theorem dX7_readFact_176 : decode cX7_readFact 176 = .ok (.ior, 1) := by decide +kernel
theorem dX7_readFact_177 : decode cX7_readFact 177 = .ok (.putfield 154, 3) := by decide +kernel
theorem dX7_readFact_180 : decode cX7_readFact 180 = .ok (.aload_n 0, 1) := by decide +kernel
theorem dX7_readFact_181 : decode cX7_readFact 181 = .ok (.getfield 21, 3) := by decide +kernel
theorem dX7_readFact_184 : decode cX7_readFact 184 = .ok (.iload_n 1, 1) := by decide +kernel
theorem dX7_readFact_185 : decode cX7_readFact 185 = .ok (.iconst 1, 1) := by decide +kernel
theorem dX7_readFact_186 : decode cX7_readFact 186 = .ok (.iadd, 1) := by decide +kernel
theorem dX7_readFact_187 : decode cX7_readFact 187 = .ok (.putfield 139, 3) := by decide +kernel
theorem dX7_readFact_190 : decode cX7_readFact 190 = .ok (.iconst 1, 1) := by decide +kernel
theorem dX7_readFact_191 : decode cX7_readFact 191 = .ok (.ireturn, 1) := by decide +kernel
theorem dX7_readTells_0 : decode cX7_readTells 0 = .ok (.aload_n 0, 1) := by decide +kernel
theorem dX7_readTells_1 : decode cX7_readTells 1 = .ok (.getfield 12, 3) := by decide +kernel
theorem dX7_readTells_4 : decode cX7_readTells 4 = .ok (.invokevirtual 41, 3) := by decide +kernel
theorem dX7_readTells_7 : decode cX7_readTells 7 = .ok (.aload_n 0, 1) := by decide +kernel
theorem dX7_readTells_8 : decode cX7_readTells 8 = .ok (.invokevirtual 133, 3) := by decide +kernel
theorem dX7_readTells_11 : decode cX7_readTells 11 = .ok (.ifCond .ne 5, 3) := by decide +kernel
theorem dX7_readTells_14 : decode cX7_readTells 14 = .ok (.iconst 0, 1) := by decide +kernel
theorem dX7_readTells_15 : decode cX7_readTells 15 = .ok (.ireturn, 1) := by decide +kernel
theorem dX7_readTells_16 : decode cX7_readTells 16 = .ok (.aload_n 0, 1) := by decide +kernel
theorem dX7_readTells_17 : decode cX7_readTells 17 = .ok (.getfield 32, 3) := by decide +kernel
theorem dX7_readTells_20 : decode cX7_readTells 20 = .ok (.istore_n 1, 1) := by decide +kernel
theorem dX7_readTells_21 : decode cX7_readTells 21 = .ok (.aload_n 0, 1) := by decide +kernel
theorem dX7_readTells_22 : decode cX7_readTells 22 = .ok (.getfield 12, 3) := by decide +kernel
theorem dX7_readTells_25 : decode cX7_readTells 25 = .ok (.invokevirtual 41, 3) := by decide +kernel
theorem dX7_readTells_28 : decode cX7_readTells 28 = .ok (.aload_n 0, 1) := by decide +kernel
theorem dX7_readTells_29 : decode cX7_readTells 29 = .ok (.invokevirtual 133, 3) := by decide +kernel
theorem dX7_readTells_32 : decode cX7_readTells 32 = .ok (.ifCond .ne 5, 3) := by decide +kernel
theorem dX7_readTells_35 : decode cX7_readTells 35 = .ok (.iconst 0, 1) := by decide +kernel
theorem dX7_readTells_36 : decode cX7_readTells 36 = .ok (.ireturn, 1) := by decide +kernel
theorem dX7_readTells_37 : decode cX7_readTells 37 = .ok (.aload_n 0, 1) := by decide +kernel
theorem dX7_readTells_38 : decode cX7_readTells 38 = .ok (.getfield 32, 3) := by decide +kernel
theorem dX7_readTells_41 : decode cX7_readTells 41 = .ok (.iload_n 1, 1) := by decide +kernel
theorem dX7_readTells_42 : decode cX7_readTells 42 = .ok (.if_icmp .eq 22, 3) := by decide +kernel
theorem dX7_readTells_45 : decode cX7_readTells 45 = .ok (.aload_n 0, 1) := by decide +kernel
theorem dX7_readTells_46 : decode cX7_readTells 46 = .ok (.getfield 21, 3) := by decide +kernel
theorem dX7_readTells_49 : decode cX7_readTells 49 = .ok (.getfield 157, 3) := by decide +kernel
theorem dX7_readTells_52 : decode cX7_readTells 52 = .ok (.aload_n 0, 1) := by decide +kernel
theorem dX7_readTells_53 : decode cX7_readTells 53 = .ok (.getfield 32, 3) := by decide +kernel
theorem dX7_readTells_56 : decode cX7_readTells 56 = .ok (.iaload, 1) := by decide +kernel
theorem dX7_readTells_57 : decode cX7_readTells 57 = .ok (.iload_n 1, 1) := by decide +kernel
theorem dX7_readTells_58 : decode cX7_readTells 58 = .ok (.ishr, 1) := by decide +kernel
theorem dX7_readTells_59 : decode cX7_readTells 59 = .ok (.iconst 1, 1) := by decide +kernel
theorem dX7_readTells_60 : decode cX7_readTells 60 = .ok (.iand, 1) := by decide +kernel
theorem dX7_readTells_61 : decode cX7_readTells 61 = .ok (.ifCond .eq 9, 3) := by decide +kernel
theorem dX7_readTells_64 : decode cX7_readTells 64 = .ok (.aload_n 0, 1) := by decide +kernel
theorem dX7_readTells_65 : decode cX7_readTells 65 = .ok (.iconst 3, 1) := by decide +kernel
theorem dX7_readTells_66 : decode cX7_readTells 66 = .ok (.invokevirtual 95, 3) := by decide +kernel
theorem dX7_readTells_69 : decode cX7_readTells 69 = .ok (.ireturn, 1) := by decide +kernel
theorem dX7_readTells_70 : decode cX7_readTells 70 = .ok (.aload_n 0, 1) := by decide +kernel
theorem dX7_readTells_71 : decode cX7_readTells 71 = .ok (.getfield 21, 3) := by decide +kernel
theorem dX7_readTells_74 : decode cX7_readTells 74 = .ok (.getfield 157, 3) := by decide +kernel
theorem dX7_readTells_77 : decode cX7_readTells 77 = .ok (.aload_n 0, 1) := by decide +kernel
theorem dX7_readTells_78 : decode cX7_readTells 78 = .ok (.getfield 32, 3) := by decide +kernel
theorem dX7_readTells_81 : decode cX7_readTells 81 = .ok (.dup2, 1) := by decide +kernel
theorem dX7_readTells_82 : decode cX7_readTells 82 = .ok (.iaload, 1) := by decide +kernel
theorem dX7_readTells_83 : decode cX7_readTells 83 = .ok (.iconst 1, 1) := by decide +kernel
theorem dX7_readTells_84 : decode cX7_readTells 84 = .ok (.iload_n 1, 1) := by decide +kernel
theorem dX7_readTells_85 : decode cX7_readTells 85 = .ok (.ishl, 1) := by decide +kernel
theorem dX7_readTells_86 : decode cX7_readTells 86 = .ok (.ior, 1) := by decide +kernel
theorem dX7_readTells_87 : decode cX7_readTells 87 = .ok (.iastore, 1) := by decide +kernel
theorem dX7_readTells_88 : decode cX7_readTells 88 = .ok (.aload_n 0, 1) := by decide +kernel
theorem dX7_readTells_89 : decode cX7_readTells 89 = .ok (.getfield 21, 3) := by decide +kernel
theorem dX7_readTells_92 : decode cX7_readTells 92 = .ok (.dup, 1) := by decide +kernel
theorem dX7_readTells_93 : decode cX7_readTells 93 = .ok (.getfield 160, 3) := by decide +kernel
theorem dX7_readTells_96 : decode cX7_readTells 96 = .ok (.iconst 1, 1) := by decide +kernel
theorem dX7_readTells_97 : decode cX7_readTells 97 = .ok (.iadd, 1) := by decide +kernel
theorem dX7_readTells_98 : decode cX7_readTells 98 = .ok (.putfield 160, 3) := by decide +kernel
theorem dX7_readTells_101 : decode cX7_readTells 101 = .ok (.aload_n 0, 1) := by decide +kernel
theorem dX7_readTells_102 : decode cX7_readTells 102 = .ok (.getfield 12, 3) := by decide +kernel
theorem dX7_readTells_105 : decode cX7_readTells 105 = .ok (.invokevirtual 41, 3) := by decide +kernel
theorem dX7_readTells_108 : decode cX7_readTells 108 = .ok (.iconst 1, 1) := by decide +kernel
theorem dX7_readTells_109 : decode cX7_readTells 109 = .ok (.ireturn, 1) := by decide +kernel
theorem dX7_readWants_0 : decode cX7_readWants 0 = .ok (.aload_n 0, 1) := by decide +kernel
theorem dX7_readWants_1 : decode cX7_readWants 1 = .ok (.getfield 12, 3) := by decide +kernel
theorem dX7_readWants_4 : decode cX7_readWants 4 = .ok (.invokevirtual 41, 3) := by decide +kernel
theorem dX7_readWants_7 : decode cX7_readWants 7 = .ok (.aload_n 0, 1) := by decide +kernel
theorem dX7_readWants_8 : decode cX7_readWants 8 = .ok (.invokevirtual 133, 3) := by decide +kernel
theorem dX7_readWants_11 : decode cX7_readWants 11 = .ok (.ifCond .ne 5, 3) := by decide +kernel
theorem dX7_readWants_14 : decode cX7_readWants 14 = .ok (.iconst 0, 1) := by decide +kernel
theorem dX7_readWants_15 : decode cX7_readWants 15 = .ok (.ireturn, 1) := by decide +kernel
theorem dX7_readWants_16 : decode cX7_readWants 16 = .ok (.aload_n 0, 1) := by decide +kernel
theorem dX7_readWants_17 : decode cX7_readWants 17 = .ok (.getfield 32, 3) := by decide +kernel
theorem dX7_readWants_20 : decode cX7_readWants 20 = .ok (.istore_n 1, 1) := by decide +kernel
theorem dX7_readWants_21 : decode cX7_readWants 21 = .ok (.aload_n 0, 1) := by decide +kernel
theorem dX7_readWants_22 : decode cX7_readWants 22 = .ok (.getfield 12, 3) := by decide +kernel
theorem dX7_readWants_25 : decode cX7_readWants 25 = .ok (.invokevirtual 41, 3) := by decide +kernel
theorem dX7_readWants_28 : decode cX7_readWants 28 = .ok (.aload_n 0, 1) := by decide +kernel
theorem dX7_readWants_29 : decode cX7_readWants 29 = .ok (.invokevirtual 133, 3) := by decide +kernel
theorem dX7_readWants_32 : decode cX7_readWants 32 = .ok (.ifCond .ne 5, 3) := by decide +kernel
theorem dX7_readWants_35 : decode cX7_readWants 35 = .ok (.iconst 0, 1) := by decide +kernel
theorem dX7_readWants_36 : decode cX7_readWants 36 = .ok (.ireturn, 1) := by decide +kernel
theorem dX7_readWants_37 : decode cX7_readWants 37 = .ok (.aload_n 0, 1) := by decide +kernel
theorem dX7_readWants_38 : decode cX7_readWants 38 = .ok (.getfield 32, 3) := by decide +kernel
theorem dX7_readWants_41 : decode cX7_readWants 41 = .ok (.istore_n 2, 1) := by decide +kernel
theorem dX7_readWants_42 : decode cX7_readWants 42 = .ok (.aload_n 0, 1) := by decide +kernel
theorem dX7_readWants_43 : decode cX7_readWants 43 = .ok (.getfield 21, 3) := by decide +kernel
theorem dX7_readWants_46 : decode cX7_readWants 46 = .ok (.getfield 163, 3) := by decide +kernel
theorem dX7_readWants_49 : decode cX7_readWants 49 = .ok (.iload_n 1, 1) := by decide +kernel
theorem dX7_readWants_50 : decode cX7_readWants 50 = .ok (.aaload, 1) := by decide +kernel
theorem dX7_readWants_51 : decode cX7_readWants 51 = .ok (.iload_n 2, 1) := by decide +kernel
theorem dX7_readWants_52 : decode cX7_readWants 52 = .ok (.iaload, 1) := by decide +kernel
theorem dX7_readWants_53 : decode cX7_readWants 53 = .ok (.iconst (-1), 1) := by decide +kernel
theorem dX7_readWants_54 : decode cX7_readWants 54 = .ok (.if_icmp .eq 9, 3) := by decide +kernel
theorem dX7_readWants_57 : decode cX7_readWants 57 = .ok (.aload_n 0, 1) := by decide +kernel
theorem dX7_readWants_58 : decode cX7_readWants 58 = .ok (.iconst 3, 1) := by decide +kernel
theorem dX7_readWants_59 : decode cX7_readWants 59 = .ok (.invokevirtual 95, 3) := by decide +kernel
theorem dX7_readWants_62 : decode cX7_readWants 62 = .ok (.ireturn, 1) := by decide +kernel
theorem dX7_readWants_63 : decode cX7_readWants 63 = .ok (.aload_n 0, 1) := by decide +kernel
theorem dX7_readWants_64 : decode cX7_readWants 64 = .ok (.getfield 12, 3) := by decide +kernel
theorem dX7_readWants_67 : decode cX7_readWants 67 = .ok (.invokevirtual 41, 3) := by decide +kernel
theorem dX7_readWants_70 : decode cX7_readWants 70 = .ok (.aload_n 0, 1) := by decide +kernel
theorem dX7_readWants_71 : decode cX7_readWants 71 = .ok (.bipush 99, 2) := by decide +kernel
theorem dX7_readWants_73 : decode cX7_readWants 73 = .ok (.invokevirtual 120, 3) := by decide +kernel
theorem dX7_readWants_76 : decode cX7_readWants 76 = .ok (.ifCond .ne 5, 3) := by decide +kernel
theorem dX7_readWants_79 : decode cX7_readWants 79 = .ok (.iconst 0, 1) := by decide +kernel
theorem dX7_readWants_80 : decode cX7_readWants 80 = .ok (.ireturn, 1) := by decide +kernel
theorem dX7_readWants_81 : decode cX7_readWants 81 = .ok (.aload_n 0, 1) := by decide +kernel
theorem dX7_readWants_82 : decode cX7_readWants 82 = .ok (.getfield 21, 3) := by decide +kernel
theorem dX7_readWants_85 : decode cX7_readWants 85 = .ok (.getfield 163, 3) := by decide +kernel
theorem dX7_readWants_88 : decode cX7_readWants 88 = .ok (.iload_n 1, 1) := by decide +kernel
theorem dX7_readWants_89 : decode cX7_readWants 89 = .ok (.aaload, 1) := by decide +kernel
theorem dX7_readWants_90 : decode cX7_readWants 90 = .ok (.iload_n 2, 1) := by decide +kernel
theorem dX7_readWants_91 : decode cX7_readWants 91 = .ok (.aload_n 0, 1) := by decide +kernel
theorem dX7_readWants_92 : decode cX7_readWants 92 = .ok (.getfield 32, 3) := by decide +kernel
theorem dX7_readWants_95 : decode cX7_readWants 95 = .ok (.iastore, 1) := by decide +kernel
theorem dX7_readWants_96 : decode cX7_readWants 96 = .ok (.iconst 1, 1) := by decide +kernel
theorem dX7_readWants_97 : decode cX7_readWants 97 = .ok (.ireturn, 1) := by decide +kernel
theorem dX7_readDark_0 : decode cX7_readDark 0 = .ok (.aload_n 0, 1) := by decide +kernel
theorem dX7_readDark_1 : decode cX7_readDark 1 = .ok (.aload_n 0, 1) := by decide +kernel
theorem dX7_readDark_2 : decode cX7_readDark 2 = .ok (.getfield 21, 3) := by decide +kernel
theorem dX7_readDark_5 : decode cX7_readDark 5 = .ok (.getfield 167, 3) := by decide +kernel
theorem dX7_readDark_8 : decode cX7_readDark 8 = .ok (.iconst (-1), 1) := by decide +kernel
theorem dX7_readDark_9 : decode cX7_readDark 9 = .ok (.if_icmp .ne 7, 3) := by decide +kernel
theorem dX7_readDark_12 : decode cX7_readDark 12 = .ok (.iconst 1, 1) := by decide +kernel
theorem dX7_readDark_13 : decode cX7_readDark 13 = .ok (.goto 4, 3) := by decide +kernel
theorem dX7_readDark_16 : decode cX7_readDark 16 = .ok (.iconst 0, 1) := by decide +kernel
theorem dX7_readDark_17 : decode cX7_readDark 17 = .ok (.invokevirtual 82, 3) := by decide +kernel
theorem dX7_readDark_20 : decode cX7_readDark 20 = .ok (.ifCond .eq 12, 3) := by decide +kernel
theorem dX7_readDark_23 : decode cX7_readDark 23 = .ok (.aload_n 0, 1) := by decide +kernel
theorem dX7_readDark_24 : decode cX7_readDark 24 = .ok (.bipush 23, 2) := by decide +kernel
theorem dX7_readDark_26 : decode cX7_readDark 26 = .ok (.invokevirtual 120, 3) := by decide +kernel
theorem dX7_readDark_29 : decode cX7_readDark 29 = .ok (.ifCond .ne 5, 3) := by decide +kernel
theorem dX7_readDark_32 : decode cX7_readDark 32 = .ok (.iconst 0, 1) := by decide +kernel
theorem dX7_readDark_33 : decode cX7_readDark 33 = .ok (.ireturn, 1) := by decide +kernel
theorem dX7_readDark_34 : decode cX7_readDark 34 = .ok (.aload_n 0, 1) := by decide +kernel
theorem dX7_readDark_35 : decode cX7_readDark 35 = .ok (.getfield 21, 3) := by decide +kernel
theorem dX7_readDark_38 : decode cX7_readDark 38 = .ok (.aload_n 0, 1) := by decide +kernel
theorem dX7_readDark_39 : decode cX7_readDark 39 = .ok (.getfield 32, 3) := by decide +kernel
theorem dX7_readDark_42 : decode cX7_readDark 42 = .ok (.putfield 167, 3) := by decide +kernel
theorem dX7_readDark_45 : decode cX7_readDark 45 = .ok (.aload_n 0, 1) := by decide +kernel
theorem dX7_readDark_46 : decode cX7_readDark 46 = .ok (.sipush 212, 3) := by decide +kernel
theorem dX7_readDark_49 : decode cX7_readDark 49 = .ok (.invokevirtual 51, 3) := by decide +kernel
theorem dX7_readDark_52 : decode cX7_readDark 52 = .ok (.ifCond .eq 12, 3) := by decide +kernel
theorem dX7_readDark_55 : decode cX7_readDark 55 = .ok (.aload_n 0, 1) := by decide +kernel
theorem dX7_readDark_56 : decode cX7_readDark 56 = .ok (.bipush 23, 2) := by decide +kernel
theorem dX7_readDark_58 : decode cX7_readDark 58 = .ok (.invokevirtual 120, 3) := by decide +kernel
theorem dX7_readDark_61 : decode cX7_readDark 61 = .ok (.ifCond .ne 5, 3) := by decide +kernel
theorem dX7_readDark_64 : decode cX7_readDark 64 = .ok (.iconst 0, 1) := by decide +kernel
theorem dX7_readDark_65 : decode cX7_readDark 65 = .ok (.ireturn, 1) := by decide +kernel
theorem dX7_readDark_66 : decode cX7_readDark 66 = .ok (.aload_n 0, 1) := by decide +kernel
theorem dX7_readDark_67 : decode cX7_readDark 67 = .ok (.getfield 21, 3) := by decide +kernel
theorem dX7_readDark_70 : decode cX7_readDark 70 = .ok (.aload_n 0, 1) := by decide +kernel
theorem dX7_readDark_71 : decode cX7_readDark 71 = .ok (.getfield 32, 3) := by decide +kernel
theorem dX7_readDark_74 : decode cX7_readDark 74 = .ok (.putfield 170, 3) := by decide +kernel
theorem dX7_readDark_77 : decode cX7_readDark 77 = .ok (.iconst 1, 1) := by decide +kernel
theorem dX7_readDark_78 : decode cX7_readDark 78 = .ok (.ireturn, 1) := by decide +kernel
theorem dX7_readDraw_0 : decode cX7_readDraw 0 = .ok (.aload_n 0, 1) := by decide +kernel
theorem dX7_readDraw_1 : decode cX7_readDraw 1 = .ok (.aload_n 0, 1) := by decide +kernel
theorem dX7_readDraw_2 : decode cX7_readDraw 2 = .ok (.getfield 21, 3) := by decide +kernel
theorem dX7_readDraw_5 : decode cX7_readDraw 5 = .ok (.getfield 173, 3) := by decide +kernel
theorem dX7_readDraw_8 : decode cX7_readDraw 8 = .ok (.iconst (-1), 1) := by decide +kernel
theorem dX7_readDraw_9 : decode cX7_readDraw 9 = .ok (.if_icmp .ne 7, 3) := by decide +kernel
theorem dX7_readDraw_12 : decode cX7_readDraw 12 = .ok (.iconst 1, 1) := by decide +kernel
theorem dX7_readDraw_13 : decode cX7_readDraw 13 = .ok (.goto 4, 3) := by decide +kernel
theorem dX7_readDraw_16 : decode cX7_readDraw 16 = .ok (.iconst 0, 1) := by decide +kernel
theorem dX7_readDraw_17 : decode cX7_readDraw 17 = .ok (.invokevirtual 82, 3) := by decide +kernel
theorem dX7_readDraw_20 : decode cX7_readDraw 20 = .ok (.ifCond .eq 13, 3) := by decide +kernel
theorem dX7_readDraw_23 : decode cX7_readDraw 23 = .ok (.aload_n 0, 1) := by decide +kernel
theorem dX7_readDraw_24 : decode cX7_readDraw 24 = .ok (.sipush 999, 3) := by decide +kernel
theorem dX7_readDraw_27 : decode cX7_readDraw 27 = .ok (.invokevirtual 120, 3) := by decide +kernel
theorem dX7_readDraw_30 : decode cX7_readDraw 30 = .ok (.ifCond .ne 5, 3) := by decide +kernel
theorem dX7_readDraw_33 : decode cX7_readDraw 33 = .ok (.iconst 0, 1) := by decide +kernel
theorem dX7_readDraw_34 : decode cX7_readDraw 34 = .ok (.ireturn, 1) := by decide +kernel
theorem dX7_readDraw_35 : decode cX7_readDraw 35 = .ok (.aload_n 0, 1) := by decide +kernel
theorem dX7_readDraw_36 : decode cX7_readDraw 36 = .ok (.getfield 21, 3) := by decide +kernel
theorem dX7_readDraw_39 : decode cX7_readDraw 39 = .ok (.aload_n 0, 1) := by decide +kernel
theorem dX7_readDraw_40 : decode cX7_readDraw 40 = .ok (.getfield 32, 3) := by decide +kernel
theorem dX7_readDraw_43 : decode cX7_readDraw 43 = .ok (.putfield 173, 3) := by decide +kernel
theorem dX7_readDraw_46 : decode cX7_readDraw 46 = .ok (.iconst 1, 1) := by decide +kernel
theorem dX7_readDraw_47 : decode cX7_readDraw 47 = .ok (.ireturn, 1) := by decide +kernel
set_option maxHeartbeats 4000000 in
set_option maxRecDepth 20000 in
theorem c_X7_refuse (l : Launch) (D : va_G) (cy : Nat → ClassId) (B N : Nat) (q : Int) (a : Int) (M : MM) (hN : 210 ≤ N) (hI : Iv M) (hpa : I32 a) (hq : q = 5 ∨ q = 180) (hto : M.1 1 1 = q) : CI l D cy B N 1 yX7_refuse cX7_refuse 2 (some .boolean) [rv B 1, iv a] M (fun z M' => Iv M' ∧ Fr (fun a b => (a = 1 ∧ 2 ≤ b ∧ b ≤ 3)) M M' ∧ (z = 0 ∨ z = 1) ∧ (z = 0)) := by
  refine mk_CI (by decide) (Nat.le_of_ble_eq_true rfl) ?_
  intro X exl exD excy hnL hX hret
  have hce : 0 + 0 ≤ (xR X).cells ∧ 0 + 0 ≤ (xR X).slots := ⟨Nat.zero_le _, Nat.zero_le _⟩
  have hF : Fr (fun a b => (a = 1 ∧ 2 ≤ b ∧ b ≤ 3)) M M := Fr.rf
  show J X B N 0 0 0 [(0, rv B 1), (1, iv a)] [] M
  refine j_aload_n hX dX7_refuse_0 rfl 0 rfl ?_
  refine j_aload_n hX dX7_refuse_1 rfl 0 rfl ?_
  refine gf_X7_12 hX (by omega) (by omega) kc_1 (fc_1_0 hI) (by decide) dX7_refuse_2 ?_
  refine gf_X7_44 hX (by omega) (by omega) kc_2 dX7_refuse_5 ?_
  refine j_name hI ro_2_4 (fun v1 hv2 hl3 hh4 => ?_)
  have hk5 := hv2.symm
  refine j_iconst hX dX7_refuse_8 ?_
  refine j_icmp_ne (tgt := 16) hX dX7_refuse_9 (by decide) (by omega) (by omega) (fun hc6 => ?_) (fun hc6 => ?_)
  · skip
    refine j_iload_n hX dX7_refuse_16 rfl 1 rfl ?_
    refine pf_X7_25 hX (by omega) (by omega) kc_1 (by omega) dX7_refuse_17 ?_
    refine j_up hI ro_1_2 (by omega) (by omega) (Or.inl (by omega)) (fun M7 w8 hw9 hM10 hI11 hf12 => ?_)
    have hk13 := kp_up hM10 (fun h => absurd h.2 (by decide)) hto
    have hk14 := kp_up hM10 (by decide) hk5
    have hF15 := Fr.put hF hM10 (by omega)
    refine j_aload_n hX dX7_refuse_20 rfl 0 rfl ?_
    refine j_aload_n hX dX7_refuse_21 rfl 0 rfl ?_
    refine gf_X7_12 hX (by omega) (by omega) kc_1 (fc_1_0 hI11) (by decide) dX7_refuse_22 ?_
    refine gf_X7_204 hX (by omega) (by omega) kc_2 dX7_refuse_25 ?_
    refine j_name hI11 ro_2_5 (fun v16 hv17 hl18 hh19 => ?_)
    have hk20 := hv17.symm
    refine pf_X7_29 hX (by omega) (by omega) kc_1 (by omega) dX7_refuse_28 ?_
    refine j_up hI11 ro_1_3 (by omega) (by omega) (Or.inl (by omega)) (fun M21 w22 hw23 hM24 hI25 hf26 => ?_)
    have hk27 := kp_up hM24 (fun h => absurd h.2 (by decide)) hk13
    have hk28 := kp_up hM24 (by decide) hk14
    have hk29 := kp_up hM24 (fun h => absurd h.2 (by decide)) hf12
    have hk30 := kp_up hM24 (by decide) hk20
    have hF31 := Fr.put hF15 hM24 (by omega)
    refine j_iconst hX dX7_refuse_31 ?_
    exact hret _ _ _ _ dX7_refuse_32 (nb (by omega)) (by omega) ⟨hI25, hF31, by omega, by omega⟩
  · skip
    refine j_iconst hX dX7_refuse_12 ?_
    refine j_goto (tgt := 17) hX dX7_refuse_13 (by decide) ?_
    refine pf_X7_25 hX (by omega) (by omega) kc_1 (by omega) dX7_refuse_17 ?_
    refine j_up hI ro_1_2 (by omega) (by omega) (Or.inl (by omega)) (fun M32 w33 hw34 hM35 hI36 hf37 => ?_)
    have hk38 := kp_up hM35 (fun h => absurd h.2 (by decide)) hto
    have hk39 := kp_up hM35 (by decide) hk5
    have hF40 := Fr.put hF hM35 (by omega)
    refine j_aload_n hX dX7_refuse_20 rfl 0 rfl ?_
    refine j_aload_n hX dX7_refuse_21 rfl 0 rfl ?_
    refine gf_X7_12 hX (by omega) (by omega) kc_1 (fc_1_0 hI36) (by decide) dX7_refuse_22 ?_
    refine gf_X7_204 hX (by omega) (by omega) kc_2 dX7_refuse_25 ?_
    refine j_name hI36 ro_2_5 (fun v41 hv42 hl43 hh44 => ?_)
    have hk45 := hv42.symm
    refine pf_X7_29 hX (by omega) (by omega) kc_1 (by omega) dX7_refuse_28 ?_
    refine j_up hI36 ro_1_3 (by omega) (by omega) (Or.inl (by omega)) (fun M46 w47 hw48 hM49 hI50 hf51 => ?_)
    have hk52 := kp_up hM49 (fun h => absurd h.2 (by decide)) hk38
    have hk53 := kp_up hM49 (by decide) hk39
    have hk54 := kp_up hM49 (fun h => absurd h.2 (by decide)) hf37
    have hk55 := kp_up hM49 (by decide) hk45
    have hF56 := Fr.put hF40 hM49 (by omega)
    refine j_iconst hX dX7_refuse_31 ?_
    exact hret _ _ _ _ dX7_refuse_32 (nb (by omega)) (by omega) ⟨hI50, hF56, by omega, by omega⟩
set_option maxHeartbeats 4000000 in
set_option maxRecDepth 20000 in
theorem c_X7_mayStart (l : Launch) (D : va_G) (cy : Nat → ClassId) (B N : Nat) (q : Int) (a : Int) (M : MM) (hN : 210 ≤ N) (hI : Iv M) (hpa : I32 a) (hq : q = 5 ∨ q = 180) (hto : M.1 1 1 = q) (hkn : M.1 2 4 = 2 → 0 ≤ M.1 2 6) (h1 : a = 0 ∨ a = 1) : CI l D cy B N 10 yX7_mayStart cX7_mayStart 2 (some .boolean) [rv B 1, iv a] M (fun z M' => Iv M' ∧ Fr (fun a b => (a = 1 ∧ 2 ≤ b ∧ b ≤ 3) ∨ (a = 2 ∧ 3 ≤ b ∧ b ≤ 6)) M M' ∧ (z = 0 ∨ z = 1) ∧ (M'.1 2 4 = 2 → 0 ≤ M'.1 2 6) ∧ (z = 1 → a = 1)) := by
  refine mk_CI (by decide) (Nat.le_of_ble_eq_true rfl) ?_
  intro X exl exD excy hnL hX hret
  have hce : 0 + 0 ≤ (xR X).cells ∧ 0 + 0 ≤ (xR X).slots := ⟨Nat.zero_le _, Nat.zero_le _⟩
  have hF : Fr (fun a b => (a = 1 ∧ 2 ≤ b ∧ b ≤ 3) ∨ (a = 2 ∧ 3 ≤ b ∧ b ≤ 6)) M M := Fr.rf
  have hk1 : M.1 2 4 = M.1 2 4 := rfl
  have hk2 : M.1 2 6 = M.1 2 6 := rfl
  show J X B N 0 0 0 [(0, rv B 1), (1, iv a)] [] M
  refine j_iload_n hX dX7_mayStart_0 rfl 1 rfl ?_
  refine j_if_ne (tgt := 10) hX dX7_mayStart_1 (by decide) (by omega) (fun hc3 => ?_) (fun hc3 => ?_)
  · skip
    refine j_aload_n hX dX7_mayStart_10 rfl 0 rfl ?_
    refine gf_X7_12 hX (by omega) (by omega) kc_1 (fc_1_0 hI) (by decide) dX7_mayStart_11 ?_
    refine j_callVV hX lk_X7_41 (c_X9_advance _ _ _ _ _ _ (by omega) hI (by first | omega | assumption)) (by omega) hce rfl rfl (by omega) (by omega) kc_2 rfl rfl (Nat.le_of_ble_eq_true rfl) dX7_mayStart_14 (fun M5 hp6 => ?_)
    obtain ⟨hI8, hG9, hq10⟩ := hp6
    have hk11 := kp_fr hG9 (by omega) hto
    have hF12 := Fr.trans hF hG9 (fun a b h => by omega)
    have hk13 : M5.1 2 4 = M5.1 2 4 := rfl
    have hk14 : M5.1 2 6 = M5.1 2 6 := rfl
    refine j_iconst hX dX7_mayStart_17 ?_
    exact hret _ _ _ _ dX7_mayStart_18 (nb (by omega)) (by omega) ⟨hI8, hF12, by omega, by omega, by omega⟩
  · skip
    refine j_aload_n hX dX7_mayStart_4 rfl 0 rfl ?_
    refine j_iconst hX dX7_mayStart_5 ?_
    refine j_callVI hX lk_X7_95 (c_X7_refuse _ _ _ _ _ _ _ _ (by omega) hI (by omega) (by assumption) hto) (by omega) hce rfl rfl (by omega) (by omega) kc_1 rfl rfl (Nat.le_of_ble_eq_true rfl) dX7_mayStart_6 (fun z15 M16 hz18 hp17 => ?_)
    obtain ⟨hI19, hG20, hb21, hq22⟩ := hp17
    have hk23 := kp_fr hG20 (by omega) hto
    have hk24 := kp_fr hG20 (by omega) hk1
    have hk25 := kp_fr hG20 (by omega) hk2
    have hF26 := Fr.trans hF hG20 (fun a b h => by omega)
    exact hret _ _ _ _ dX7_mayStart_9 (nb (by omega)) (by omega) ⟨hI19, hF26, by omega, by omega, by omega⟩
set_option maxHeartbeats 4000000 in
set_option maxRecDepth 20000 in
theorem c_X7_isName (l : Launch) (D : va_G) (cy : Nat → ClassId) (B N : Nat) (q : Int) (M : MM) (hN : 210 ≤ N) (hI : Iv M) (hq : q = 5 ∨ q = 180) (hto : M.1 1 1 = q) : CI l D cy B N 2 yX7_isName cX7_isName 1 (some .boolean) [rv B 1] M (fun z M' => Iv M' ∧ Fr (fun a b => (a = 1 ∧ 2 ≤ b ∧ b ≤ 3)) M M' ∧ (z = 0 ∨ z = 1)) := by
  refine mk_CI (by decide) (Nat.le_of_ble_eq_true rfl) ?_
  intro X exl exD excy hnL hX hret
  have hce : 0 + 0 ≤ (xR X).cells ∧ 0 + 0 ≤ (xR X).slots := ⟨Nat.zero_le _, Nat.zero_le _⟩
  have hF : Fr (fun a b => (a = 1 ∧ 2 ≤ b ∧ b ≤ 3)) M M := Fr.rf
  show J X B N 0 0 0 [(0, rv B 1)] [] M
  refine j_aload_n hX dX7_isName_0 rfl 0 rfl ?_
  refine gf_X7_12 hX (by omega) (by omega) kc_1 (fc_1_0 hI) (by decide) dX7_isName_1 ?_
  refine gf_X7_44 hX (by omega) (by omega) kc_2 dX7_isName_4 ?_
  refine j_name hI ro_2_4 (fun v1 hv2 hl3 hh4 => ?_)
  have hk5 := hv2.symm
  refine j_iconst hX dX7_isName_7 ?_
  refine j_icmp_eq (tgt := 19) hX dX7_isName_8 (by decide) (by omega) (by omega) (fun hc6 => ?_) (fun hc6 => ?_)
  · skip
    refine j_iconst hX dX7_isName_19 ?_
    refine j_goto (tgt := 24) hX dX7_isName_20 (by decide) ?_
    exact hret _ _ _ _ dX7_isName_24 (nb (by omega)) (by omega) ⟨hI, hF, by omega⟩
  · skip
    refine j_aload_n hX dX7_isName_11 rfl 0 rfl ?_
    refine j_iconst hX dX7_isName_12 ?_
    refine j_callVI hX lk_X7_95 (c_X7_refuse _ _ _ _ _ _ _ _ (by omega) hI (by omega) (by assumption) hto) (by omega) hce rfl rfl (by omega) (by omega) kc_1 rfl rfl (Nat.le_of_ble_eq_true rfl) dX7_isName_13 (fun z7 M8 hz10 hp9 => ?_)
    obtain ⟨hI11, hG12, hb13, hq14⟩ := hp9
    have hk15 := kp_fr hG12 (by omega) hto
    have hk16 := kp_fr hG12 (by omega) hk5
    have hF17 := Fr.trans hF hG12 (fun a b h => by omega)
    refine j_if_eq (tgt := 23) hX dX7_isName_16 (by decide) (by omega) (fun hc18 => ?_) (fun hc18 => ?_)
    · skip
      refine j_iconst hX dX7_isName_23 ?_
      exact hret _ _ _ _ dX7_isName_24 (nb (by omega)) (by omega) ⟨hI11, hF17, by omega⟩
    · skip
      refine j_iconst hX dX7_isName_19 ?_
      refine j_goto (tgt := 24) hX dX7_isName_20 (by decide) ?_
      exact hret _ _ _ _ dX7_isName_24 (nb (by omega)) (by omega) ⟨hI11, hF17, by omega⟩
set_option maxHeartbeats 4000000 in
set_option maxRecDepth 20000 in
theorem c_X7_isRoom (l : Launch) (D : va_G) (cy : Nat → ClassId) (B N : Nat) (q : Int) (M : MM) (hN : 210 ≤ N) (hI : Iv M) (hq : q = 5 ∨ q = 180) (hto : M.1 1 1 = q) : CI l D cy B N 3 yX7_isRoom cX7_isRoom 1 (some .boolean) [rv B 1] M (fun z M' => Iv M' ∧ Fr (fun a b => (a = 1 ∧ 2 ≤ b ∧ b ≤ 4)) M M' ∧ (z = 0 ∨ z = 1) ∧ (z = 1 → 0 ≤ M'.1 1 4 ∧ M'.1 1 4 < M.1 q 0)) := by
  refine mk_CI (by decide) (Nat.le_of_ble_eq_true rfl) ?_
  intro X exl exD excy hnL hX hret
  have hce : 0 + 0 ≤ (xR X).cells ∧ 0 + 0 ≤ (xR X).slots := ⟨Nat.zero_le _, Nat.zero_le _⟩
  have hF : Fr (fun a b => (a = 1 ∧ 2 ≤ b ∧ b ≤ 4)) M M := Fr.rf
  show J X B N 0 0 0 [(0, rv B 1)] [] M
  refine j_aload_n hX dX7_isRoom_0 rfl 0 rfl ?_
  refine j_callVI hX lk_X7_105 (c_X7_isName _ _ _ _ _ _ _ (by omega) hI (by assumption) hto) (by omega) hce rfl rfl (by omega) (by omega) kc_1 rfl rfl (Nat.le_of_ble_eq_true rfl) dX7_isRoom_1 (fun z1 M2 hz4 hp3 => ?_)
  obtain ⟨hI5, hG6, hb7⟩ := hp3
  have hk8 := kp_fr hG6 (by omega) hto
  have hF9 := Fr.trans hF hG6 (fun a b h => by omega)
  refine j_if_ne (tgt := 9) hX dX7_isRoom_4 (by decide) (by omega) (fun hc10 => ?_) (fun hc10 => ?_)
  · skip
    refine j_aload_n hX dX7_isRoom_9 rfl 0 rfl ?_
    refine j_aload_n hX dX7_isRoom_10 rfl 0 rfl ?_
    refine gf_X7_21 hX (by omega) (by omega) kc_1 hk8 (by omega) dX7_isRoom_11 ?_
    refine j_aload_n hX dX7_isRoom_14 rfl 0 rfl ?_
    refine gf_X7_12 hX (by omega) (by omega) kc_1 (fc_1_0 hI5) (by decide) dX7_isRoom_15 ?_
    refine gf_X7_108 hX (by omega) (by omega) kc_2 dX7_isRoom_18 ?_
    refine j_callVI hX lk_X7_112 (c_X6_roomNamed _ _ _ _ _ q _ _ (by omega) hI5 hq) (by omega) hce rfl rfl (by omega) (by omega) (kq hq) rfl rfl (Nat.le_of_ble_eq_true rfl) dX7_isRoom_21 (fun z11 M12 hz14 hp13 => ?_)
    obtain ⟨rfl, hq15⟩ := hp13
    refine pf_X7_32 hX (by omega) (by omega) kc_1 (by omega) dX7_isRoom_24 ?_
    refine j_up hI5 ro_1_4 (by omega) (by omega) (Or.inl (by omega)) (fun M16 w17 hw18 hM19 hI20 hf21 => ?_)
    have hk22 := kp_up hM19 (fun h => absurd h.2 (by decide)) hk8
    have hF23 := Fr.put hF9 hM19 (by omega)
    refine j_aload_n hX dX7_isRoom_27 rfl 0 rfl ?_
    refine gf_X7_32 hX (by omega) (by omega) kc_1 dX7_isRoom_28 ?_
    refine j_top hf21 ?_
    refine j_iconst hX dX7_isRoom_31 ?_
    refine j_icmp_ne (tgt := 43) hX dX7_isRoom_32 (by decide) (by omega) (by omega) (fun hc24 => ?_) (fun hc24 => ?_)
    · skip
      refine j_iconst hX dX7_isRoom_43 ?_
      refine j_goto (tgt := 48) hX dX7_isRoom_44 (by decide) ?_
      exact hret _ _ _ _ dX7_isRoom_48 (nb (by omega)) (by omega) ⟨hI20, hF23, by omega, by omega⟩
    · skip
      refine j_aload_n hX dX7_isRoom_35 rfl 0 rfl ?_
      refine j_iconst hX dX7_isRoom_36 ?_
      refine j_callVI hX lk_X7_95 (c_X7_refuse _ _ _ _ _ _ _ _ (by omega) hI20 (by omega) (by assumption) hk22) (by omega) hce rfl rfl (by omega) (by omega) kc_1 rfl rfl (Nat.le_of_ble_eq_true rfl) dX7_isRoom_37 (fun z25 M26 hz28 hp27 => ?_)
      obtain ⟨hI29, hG30, hb31, hq32⟩ := hp27
      have hk33 := kp_fr hG30 (by omega) hk22
      have hk34 := kp_fr hG30 (by omega) hf21
      have hF35 := Fr.trans hF23 hG30 (fun a b h => by omega)
      refine j_if_eq (tgt := 47) hX dX7_isRoom_40 (by decide) (by omega) (fun hc36 => ?_) (fun hc36 => ?_)
      · skip
        refine j_iconst hX dX7_isRoom_47 ?_
        exact hret _ _ _ _ dX7_isRoom_48 (nb (by omega)) (by omega) ⟨hI29, hF35, by omega, by omega⟩
      · skip
        refine j_iconst hX dX7_isRoom_43 ?_
        refine j_goto (tgt := 48) hX dX7_isRoom_44 (by decide) ?_
        exact hret _ _ _ _ dX7_isRoom_48 (nb (by omega)) (by omega) ⟨hI29, hF35, by omega, by omega⟩
  · skip
    refine j_iconst hX dX7_isRoom_7 ?_
    exact hret _ _ _ _ dX7_isRoom_8 (nb (by omega)) (by omega) ⟨hI5, hF9, by omega, by omega⟩
set_option maxHeartbeats 4000000 in
set_option maxRecDepth 20000 in
theorem c_X7_takeNumber (l : Launch) (D : va_G) (cy : Nat → ClassId) (B N : Nat) (q : Int) (a : Int) (M : MM) (hN : 210 ≤ N) (hI : Iv M) (hpa : I32 a) (hq : q = 5 ∨ q = 180) (hto : M.1 1 1 = q) (hkn : M.1 2 4 = 2 → 0 ≤ M.1 2 6) : CI l D cy B N 10 yX7_takeNumber cX7_takeNumber 2 (some .boolean) [rv B 1, iv a] M (fun z M' => Iv M' ∧ Fr (fun a b => (a = 1 ∧ 2 ≤ b ∧ b ≤ 4) ∨ (a = 2 ∧ 3 ≤ b ∧ b ≤ 6)) M M' ∧ (z = 0 ∨ z = 1) ∧ (M'.1 2 4 = 2 → 0 ≤ M'.1 2 6) ∧ (z = 1 → 0 ≤ M'.1 1 4 ∧ M'.1 1 4 ≤ a)) := by
  refine mk_CI (by decide) (Nat.le_of_ble_eq_true rfl) ?_
  intro X exl exD excy hnL hX hret
  have hce : 0 + 0 ≤ (xR X).cells ∧ 0 + 0 ≤ (xR X).slots := ⟨Nat.zero_le _, Nat.zero_le _⟩
  have hF : Fr (fun a b => (a = 1 ∧ 2 ≤ b ∧ b ≤ 4) ∨ (a = 2 ∧ 3 ≤ b ∧ b ≤ 6)) M M := Fr.rf
  have hk1 : M.1 2 4 = M.1 2 4 := rfl
  have hk2 : M.1 2 6 = M.1 2 6 := rfl
  show J X B N 0 0 0 [(0, rv B 1), (1, iv a)] [] M
  refine j_aload_n hX dX7_takeNumber_0 rfl 0 rfl ?_
  refine gf_X7_12 hX (by omega) (by omega) kc_1 (fc_1_0 hI) (by decide) dX7_takeNumber_1 ?_
  refine gf_X7_44 hX (by omega) (by omega) kc_2 dX7_takeNumber_4 ?_
  refine j_name hI ro_2_4 (fun v3 hv4 hl5 hh6 => ?_)
  have hk7 := hv4.symm
  refine j_iconst hX dX7_takeNumber_7 ?_
  refine j_icmp_eq (tgt := 17) hX dX7_takeNumber_8 (by decide) (by omega) (by omega) (fun hc8 => ?_) (fun hc8 => ?_)
  · skip
    refine j_aload_n hX dX7_takeNumber_17 rfl 0 rfl ?_
    refine j_aload_n hX dX7_takeNumber_18 rfl 0 rfl ?_
    refine gf_X7_12 hX (by omega) (by omega) kc_1 (fc_1_0 hI) (by decide) dX7_takeNumber_19 ?_
    refine gf_X7_198 hX (by omega) (by omega) kc_2 dX7_takeNumber_22 ?_
    refine j_name hI ro_2_6 (fun v9 hv10 hl11 hh12 => ?_)
    have hk13 := hv10.symm
    refine pf_X7_32 hX (by omega) (by omega) kc_1 (by omega) dX7_takeNumber_25 ?_
    refine j_up hI ro_1_4 (by omega) (by omega) (Or.inl (by omega)) (fun M14 w15 hw16 hM17 hI18 hf19 => ?_)
    have hk20 := kp_up hM17 (fun h => absurd h.2 (by decide)) hto
    have hk21 := kp_up hM17 (by decide) hk7
    have hk22 := kp_up hM17 (by decide) hk13
    have hF23 := Fr.put hF hM17 (by omega)
    refine j_aload_n hX dX7_takeNumber_28 rfl 0 rfl ?_
    refine gf_X7_32 hX (by omega) (by omega) kc_1 dX7_takeNumber_29 ?_
    refine j_top hf19 ?_
    refine j_iload_n hX dX7_takeNumber_32 rfl 1 rfl ?_
    refine j_icmp_le (tgt := 42) hX dX7_takeNumber_33 (by decide) (by omega) (by omega) (fun hc24 => ?_) (fun hc24 => ?_)
    · skip
      refine j_aload_n hX dX7_takeNumber_42 rfl 0 rfl ?_
      refine gf_X7_12 hX (by omega) (by omega) kc_1 (fc_1_0 hI18) (by decide) dX7_takeNumber_43 ?_
      refine j_callVV hX lk_X7_41 (c_X9_advance _ _ _ _ _ _ (by omega) hI18 (by first | omega | assumption)) (by omega) hce rfl rfl (by omega) (by omega) kc_2 rfl rfl (Nat.le_of_ble_eq_true rfl) dX7_takeNumber_46 (fun M26 hp27 => ?_)
      obtain ⟨hI29, hG30, hq31⟩ := hp27
      have hk32 := kp_fr hG30 (by omega) hk20
      have hk33 := kp_fr hG30 (by omega) hf19
      have hF34 := Fr.trans hF23 hG30 (fun a b h => by omega)
      have hk35 : M26.1 2 4 = M26.1 2 4 := rfl
      have hk36 : M26.1 2 6 = M26.1 2 6 := rfl
      refine j_iconst hX dX7_takeNumber_49 ?_
      exact hret _ _ _ _ dX7_takeNumber_50 (nb (by omega)) (by omega) ⟨hI29, hF34, by omega, by omega, by omega⟩
    · skip
      refine j_aload_n hX dX7_takeNumber_36 rfl 0 rfl ?_
      refine j_iconst hX dX7_takeNumber_37 ?_
      refine j_callVI hX lk_X7_95 (c_X7_refuse _ _ _ _ _ _ _ _ (by omega) hI18 (by omega) (by assumption) hk20) (by omega) hce rfl rfl (by omega) (by omega) kc_1 rfl rfl (Nat.le_of_ble_eq_true rfl) dX7_takeNumber_38 (fun z37 M38 hz40 hp39 => ?_)
      obtain ⟨hI41, hG42, hb43, hq44⟩ := hp39
      have hk45 := kp_fr hG42 (by omega) hk20
      have hk46 := kp_fr hG42 (by omega) hk21
      have hk47 := kp_fr hG42 (by omega) hk22
      have hk48 := kp_fr hG42 (by omega) hf19
      have hF49 := Fr.trans hF23 hG42 (fun a b h => by omega)
      exact hret _ _ _ _ dX7_takeNumber_41 (nb (by omega)) (by omega) ⟨hI41, hF49, by omega, by omega, by omega⟩
  · skip
    refine j_aload_n hX dX7_takeNumber_11 rfl 0 rfl ?_
    refine j_iconst hX dX7_takeNumber_12 ?_
    refine j_callVI hX lk_X7_95 (c_X7_refuse _ _ _ _ _ _ _ _ (by omega) hI (by omega) (by assumption) hto) (by omega) hce rfl rfl (by omega) (by omega) kc_1 rfl rfl (Nat.le_of_ble_eq_true rfl) dX7_takeNumber_13 (fun z50 M51 hz53 hp52 => ?_)
    obtain ⟨hI54, hG55, hb56, hq57⟩ := hp52
    have hk58 := kp_fr hG55 (by omega) hto
    have hk59 := kp_fr hG55 (by omega) hk7
    have hk60 := kp_fr hG55 (by omega) hk2
    have hF61 := Fr.trans hF hG55 (fun a b h => by omega)
    exact hret _ _ _ _ dX7_takeNumber_16 (nb (by omega)) (by omega) ⟨hI54, hF61, by omega, by omega, by omega⟩
set_option maxHeartbeats 4000000 in
set_option maxRecDepth 20000 in
theorem c_X7_take (l : Launch) (D : va_G) (cy : Nat → ClassId) (B N : Nat) (q : Int) (a : Int) (M : MM) (hN : 210 ≤ N) (hI : Iv M) (hpa : I32 a) (hq : q = 5 ∨ q = 180) (hto : M.1 1 1 = q) (hkn : M.1 2 4 = 2 → 0 ≤ M.1 2 6) : CI l D cy B N 10 yX7_take cX7_take 2 (some .boolean) [rv B 1, iv a] M (fun z M' => Iv M' ∧ Fr (fun a b => (a = 1 ∧ 2 ≤ b ∧ b ≤ 3) ∨ (a = 2 ∧ 3 ≤ b ∧ b ≤ 6)) M M' ∧ (z = 0 ∨ z = 1) ∧ (M'.1 2 4 = 2 → 0 ≤ M'.1 2 6)) := by
  refine mk_CI (by decide) (Nat.le_of_ble_eq_true rfl) ?_
  intro X exl exD excy hnL hX hret
  have hce : 0 + 0 ≤ (xR X).cells ∧ 0 + 0 ≤ (xR X).slots := ⟨Nat.zero_le _, Nat.zero_le _⟩
  have hF : Fr (fun a b => (a = 1 ∧ 2 ≤ b ∧ b ≤ 3) ∨ (a = 2 ∧ 3 ≤ b ∧ b ≤ 6)) M M := Fr.rf
  have hk1 : M.1 2 4 = M.1 2 4 := rfl
  have hk2 : M.1 2 6 = M.1 2 6 := rfl
  show J X B N 0 0 0 [(0, rv B 1), (1, iv a)] [] M
  refine j_aload_n hX dX7_take_0 rfl 0 rfl ?_
  refine gf_X7_12 hX (by omega) (by omega) kc_1 (fc_1_0 hI) (by decide) dX7_take_1 ?_
  refine gf_X7_44 hX (by omega) (by omega) kc_2 dX7_take_4 ?_
  refine j_name hI ro_2_4 (fun v3 hv4 hl5 hh6 => ?_)
  have hk7 := hv4.symm
  refine j_iload_n hX dX7_take_7 rfl 1 rfl ?_
  refine j_icmp_eq (tgt := 17) hX dX7_take_8 (by decide) (by omega) (by omega) (fun hc8 => ?_) (fun hc8 => ?_)
  · skip
    refine j_aload_n hX dX7_take_17 rfl 0 rfl ?_
    refine gf_X7_12 hX (by omega) (by omega) kc_1 (fc_1_0 hI) (by decide) dX7_take_18 ?_
    refine j_callVV hX lk_X7_41 (c_X9_advance _ _ _ _ _ _ (by omega) hI (by first | omega | assumption)) (by omega) hce rfl rfl (by omega) (by omega) kc_2 rfl rfl (Nat.le_of_ble_eq_true rfl) dX7_take_21 (fun M10 hp11 => ?_)
    obtain ⟨hI13, hG14, hq15⟩ := hp11
    have hk16 := kp_fr hG14 (by omega) hto
    have hF17 := Fr.trans hF hG14 (fun a b h => by omega)
    have hk18 : M10.1 2 4 = M10.1 2 4 := rfl
    have hk19 : M10.1 2 6 = M10.1 2 6 := rfl
    refine j_iconst hX dX7_take_24 ?_
    exact hret _ _ _ _ dX7_take_25 (nb (by omega)) (by omega) ⟨hI13, hF17, by omega, by omega⟩
  · skip
    refine j_aload_n hX dX7_take_11 rfl 0 rfl ?_
    refine j_iconst hX dX7_take_12 ?_
    refine j_callVI hX lk_X7_95 (c_X7_refuse _ _ _ _ _ _ _ _ (by omega) hI (by omega) (by assumption) hto) (by omega) hce rfl rfl (by omega) (by omega) kc_1 rfl rfl (Nat.le_of_ble_eq_true rfl) dX7_take_13 (fun z20 M21 hz23 hp22 => ?_)
    obtain ⟨hI24, hG25, hb26, hq27⟩ := hp22
    have hk28 := kp_fr hG25 (by omega) hto
    have hk29 := kp_fr hG25 (by omega) hk7
    have hk30 := kp_fr hG25 (by omega) hk2
    have hF31 := Fr.trans hF hG25 (fun a b h => by omega)
    exact hret _ _ _ _ dX7_take_16 (nb (by omega)) (by omega) ⟨hI24, hF31, by omega, by omega⟩
set_option maxHeartbeats 4000000 in
set_option maxRecDepth 20000 in
theorem c_X7_takeIf (l : Launch) (D : va_G) (cy : Nat → ClassId) (B N : Nat) (q : Int) (a : Int) (M : MM) (hN : 210 ≤ N) (hI : Iv M) (hpa : I32 a) (hq : q = 5 ∨ q = 180) (hto : M.1 1 1 = q) (hkn : M.1 2 4 = 2 → 0 ≤ M.1 2 6) : CI l D cy B N 10 yX7_takeIf cX7_takeIf 2 (some .boolean) [rv B 1, iv a] M (fun z M' => Iv M' ∧ Fr (fun a b => (a = 2 ∧ 3 ≤ b ∧ b ≤ 6)) M M' ∧ (z = 0 ∨ z = 1) ∧ (M'.1 2 4 = 2 → 0 ≤ M'.1 2 6)) := by
  refine mk_CI (by decide) (Nat.le_of_ble_eq_true rfl) ?_
  intro X exl exD excy hnL hX hret
  have hce : 0 + 0 ≤ (xR X).cells ∧ 0 + 0 ≤ (xR X).slots := ⟨Nat.zero_le _, Nat.zero_le _⟩
  have hF : Fr (fun a b => (a = 2 ∧ 3 ≤ b ∧ b ≤ 6)) M M := Fr.rf
  have hk1 : M.1 2 4 = M.1 2 4 := rfl
  have hk2 : M.1 2 6 = M.1 2 6 := rfl
  show J X B N 0 0 0 [(0, rv B 1), (1, iv a)] [] M
  refine j_aload_n hX dX7_takeIf_0 rfl 0 rfl ?_
  refine gf_X7_12 hX (by omega) (by omega) kc_1 (fc_1_0 hI) (by decide) dX7_takeIf_1 ?_
  refine gf_X7_44 hX (by omega) (by omega) kc_2 dX7_takeIf_4 ?_
  refine j_name hI ro_2_4 (fun v3 hv4 hl5 hh6 => ?_)
  have hk7 := hv4.symm
  refine j_iload_n hX dX7_takeIf_7 rfl 1 rfl ?_
  refine j_icmp_eq (tgt := 13) hX dX7_takeIf_8 (by decide) (by omega) (by omega) (fun hc8 => ?_) (fun hc8 => ?_)
  · skip
    refine j_aload_n hX dX7_takeIf_13 rfl 0 rfl ?_
    refine gf_X7_12 hX (by omega) (by omega) kc_1 (fc_1_0 hI) (by decide) dX7_takeIf_14 ?_
    refine j_callVV hX lk_X7_41 (c_X9_advance _ _ _ _ _ _ (by omega) hI (by first | omega | assumption)) (by omega) hce rfl rfl (by omega) (by omega) kc_2 rfl rfl (Nat.le_of_ble_eq_true rfl) dX7_takeIf_17 (fun M10 hp11 => ?_)
    obtain ⟨hI13, hG14, hq15⟩ := hp11
    have hk16 := kp_fr hG14 (by omega) hto
    have hF17 := Fr.trans hF hG14 (fun a b h => by omega)
    have hk18 : M10.1 2 4 = M10.1 2 4 := rfl
    have hk19 : M10.1 2 6 = M10.1 2 6 := rfl
    refine j_iconst hX dX7_takeIf_20 ?_
    exact hret _ _ _ _ dX7_takeIf_21 (nb (by omega)) (by omega) ⟨hI13, hF17, by omega, by omega⟩
  · skip
    refine j_iconst hX dX7_takeIf_11 ?_
    exact hret _ _ _ _ dX7_takeIf_12 (nb (by omega)) (by omega) ⟨hI, hF, by omega, by omega⟩
set_option maxHeartbeats 4000000 in
set_option maxRecDepth 20000 in
theorem c_X7_isTermSign (l : Launch) (D : va_G) (cy : Nat → ClassId) (B N : Nat) (a : Int) (M : MM) (hpa : I32 a) : CI l D cy B N 1 yX7_isTermSign cX7_isTermSign 1 (some .boolean) [iv a] M (fun z M' => M' = M ∧ (z = 0 ∨ z = 1)) := by
  refine mk_CI (by decide) (Nat.le_of_ble_eq_true rfl) ?_
  intro X exl exD excy hnL hX hret
  have hce : 0 + 0 ≤ (xR X).cells ∧ 0 + 0 ≤ (xR X).slots := ⟨Nat.zero_le _, Nat.zero_le _⟩
  show J X B N 0 0 0 [(0, iv a)] [] M
  refine j_iload_n hX dX7_isTermSign_0 rfl 0 rfl ?_
  refine j_bipush hX dX7_isTermSign_1 rfl ?_
  refine j_icmp_eq (tgt := 18) hX dX7_isTermSign_3 (by decide) (by omega) (by omega) (fun hc1 => ?_) (fun hc1 => ?_)
  · skip
    refine j_iconst hX dX7_isTermSign_18 ?_
    refine j_goto (tgt := 23) hX dX7_isTermSign_19 (by decide) ?_
    exact hret _ _ _ _ dX7_isTermSign_23 (nb (by omega)) (by omega) ⟨rfl, by omega⟩
  · skip
    refine j_iload_n hX dX7_isTermSign_6 rfl 0 rfl ?_
    refine j_bipush hX dX7_isTermSign_7 rfl ?_
    refine j_icmp_eq (tgt := 18) hX dX7_isTermSign_9 (by decide) (by omega) (by omega) (fun hc2 => ?_) (fun hc2 => ?_)
    · skip
      refine j_iconst hX dX7_isTermSign_18 ?_
      refine j_goto (tgt := 23) hX dX7_isTermSign_19 (by decide) ?_
      exact hret _ _ _ _ dX7_isTermSign_23 (nb (by omega)) (by omega) ⟨rfl, by omega⟩
    · skip
      refine j_iload_n hX dX7_isTermSign_12 rfl 0 rfl ?_
      refine j_bipush hX dX7_isTermSign_13 rfl ?_
      refine j_icmp_ne (tgt := 22) hX dX7_isTermSign_15 (by decide) (by omega) (by omega) (fun hc3 => ?_) (fun hc3 => ?_)
      · skip
        refine j_iconst hX dX7_isTermSign_22 ?_
        exact hret _ _ _ _ dX7_isTermSign_23 (nb (by omega)) (by omega) ⟨rfl, by omega⟩
      · skip
        refine j_iconst hX dX7_isTermSign_18 ?_
        refine j_goto (tgt := 23) hX dX7_isTermSign_19 (by decide) ?_
        exact hret _ _ _ _ dX7_isTermSign_23 (nb (by omega)) (by omega) ⟨rfl, by omega⟩
set_option maxHeartbeats 4000000 in
set_option maxRecDepth 20000 in
theorem c_X7_readRoom (l : Launch) (D : va_G) (cy : Nat → ClassId) (B N : Nat) (q : Int) (M : MM) (hN : 210 ≤ N) (hI : Iv M) (hq : q = 5 ∨ q = 180) (hto : M.1 1 1 = q) (hDL : DL q M) (hkn : M.1 2 4 = 2 → 0 ≤ M.1 2 6) : CI l D cy B N 11 yX7_readRoom cX7_readRoom 2 (some .boolean) [rv B 1] M (fun z M' => Iv M' ∧ Fr (fun a b => (a = 1 ∧ 2 ≤ b ∧ b ≤ 4) ∨ (a = 2 ∧ 3 ≤ b ∧ b ≤ 6) ∨ (q ≤ a ∧ a ≤ q + 20)) M M' ∧ (z = 0 ∨ z = 1) ∧ (M'.1 2 4 = 2 → 0 ≤ M'.1 2 6) ∧ (z = 1 → DL q M')) := by
  refine mk_CI (by decide) (Nat.le_of_ble_eq_true rfl) ?_
  intro X exl exD excy hnL hX hret
  have hce : 0 + 0 ≤ (xR X).cells ∧ 0 + 0 ≤ (xR X).slots := ⟨Nat.zero_le _, Nat.zero_le _⟩
  have hF : Fr (fun a b => (a = 1 ∧ 2 ≤ b ∧ b ≤ 4) ∨ (a = 2 ∧ 3 ≤ b ∧ b ≤ 6) ∨ (q ≤ a ∧ a ≤ q + 20)) M M := Fr.rf
  have hk1 : M.1 2 4 = M.1 2 4 := rfl
  have hk2 : M.1 2 6 = M.1 2 6 := rfl
  show J X B N 0 0 0 [(0, rv B 1)] [] M
  refine j_aload_n hX dX7_readRoom_0 rfl 0 rfl ?_
  refine gf_X7_21 hX (by omega) (by omega) kc_1 hto (by omega) dX7_readRoom_1 ?_
  refine gf_X7_98 hX (by omega) (by omega) (kq hq) dX7_readRoom_4 ?_
  refine j_name hI (rq_0 hq) (fun v3 hv4 hl5 hh6 => ?_)
  have hk7 := hv4.symm
  refine j_istore_n (lv' := [(1, _), (0, _)]) hX dX7_readRoom_7 rfl (by rw [hnL]; decide) rfl ?_
  refine j_aload_n hX dX7_readRoom_8 rfl 1 rfl ?_
  refine j_iload_n hX dX7_readRoom_9 rfl 0 rfl ?_
  refine j_bipush hX dX7_readRoom_10 rfl ?_
  refine j_icmp_ge (tgt := 29) hX dX7_readRoom_12 (by decide) (by omega) (by omega) (fun hc8 => ?_) (fun hc8 => ?_)
  · skip
    refine j_iconst hX dX7_readRoom_29 ?_
    refine j_callVI hX lk_X7_82 (c_X7_mayStart _ _ _ _ _ _ _ _ (by omega) hI (by omega) (by assumption) hto (by first | omega | assumption) (by first | omega | assumption)) (by omega) hce rfl rfl (by omega) (by omega) kc_1 rfl rfl (Nat.le_of_ble_eq_true rfl) dX7_readRoom_30 (fun z9 M10 hz12 hp11 => ?_)
    obtain ⟨hI13, hG14, hb15, hq16, hq17⟩ := hp11
    have hV18 := DL_fr hDL hG14 (fun b => by omega) (by omega) (by omega)
    have hk19 := kp_fr hG14 (by omega) hto
    have hk20 := kp_fr hG14 (by omega) hk7
    have hF21 := Fr.trans hF hG14 (fun a b h => by omega)
    have hk22 : M10.1 2 4 = M10.1 2 4 := rfl
    have hk23 : M10.1 2 6 = M10.1 2 6 := rfl
    refine j_if_eq (tgt := 43) hX dX7_readRoom_33 (by decide) (by omega) (fun hc24 => ?_) (fun hc24 => ?_)
    · skip
      refine j_iconst hX dX7_readRoom_43 ?_
      exact hret _ _ _ _ dX7_readRoom_44 (nb (by omega)) (by omega) ⟨hI13, hF21, by omega, by omega, by first | (intro h; omega) | (intro _; assumption) | (intro _ h; omega)⟩
    · skip
      refine j_aload_n hX dX7_readRoom_36 rfl 1 rfl ?_
      refine j_callVI hX lk_X7_105 (c_X7_isName _ _ _ _ _ _ _ (by omega) hI13 (by assumption) hk19) (by omega) hce rfl rfl (by omega) (by omega) kc_1 rfl rfl (Nat.le_of_ble_eq_true rfl) dX7_readRoom_37 (fun z25 M26 hz28 hp27 => ?_)
      obtain ⟨hI29, hG30, hb31⟩ := hp27
      have hV32 := DL_fr hV18 hG30 (fun b => by omega) (by omega) (by omega)
      have hk33 := kp_fr hG30 (by omega) hk19
      have hk34 := kp_fr hG30 (by omega) hk20
      have hk35 := kp_fr hG30 (by omega) hk22
      have hk36 := kp_fr hG30 (by omega) hk23
      have hF37 := Fr.trans hF21 hG30 (fun a b h => by omega)
      refine j_if_ne (tgt := 45) hX dX7_readRoom_40 (by decide) (by omega) (fun hc38 => ?_) (fun hc38 => ?_)
      · skip
        refine j_aload_n hX dX7_readRoom_45 rfl 1 rfl ?_
        refine gf_X7_21 hX (by omega) (by omega) kc_1 hk33 (by omega) dX7_readRoom_46 ?_
        refine j_aload_n hX dX7_readRoom_49 rfl 1 rfl ?_
        refine gf_X7_12 hX (by omega) (by omega) kc_1 (fc_1_0 hI29) (by decide) dX7_readRoom_50 ?_
        refine gf_X7_108 hX (by omega) (by omega) kc_2 dX7_readRoom_53 ?_
        refine j_callVI hX lk_X7_112 (c_X6_roomNamed _ _ _ _ _ q _ _ (by omega) hI29 hq) (by omega) hce rfl rfl (by omega) (by omega) (kq hq) rfl rfl (Nat.le_of_ble_eq_true rfl) dX7_readRoom_56 (fun z39 M40 hz42 hp41 => ?_)
        obtain ⟨rfl, hq43⟩ := hp41
        refine j_iconst hX dX7_readRoom_59 ?_
        refine j_icmp_eq (tgt := 69) hX dX7_readRoom_60 (by decide) (by omega) (by omega) (fun hc44 => ?_) (fun hc44 => ?_)
        · skip
          refine j_aload_n hX dX7_readRoom_69 rfl 1 rfl ?_
          refine gf_X7_21 hX (by omega) (by omega) kc_1 hk33 (by omega) dX7_readRoom_70 ?_
          refine gf_X7_116 hX (by omega) (by omega) (kq hq) (fq_1 hI29 hq) (by omega) dX7_readRoom_73 ?_
          refine j_iload_n hX dX7_readRoom_76 rfl 0 rfl ?_
          refine j_aload_n hX dX7_readRoom_77 rfl 1 rfl ?_
          refine gf_X7_12 hX (by omega) (by omega) kc_1 (fc_1_0 hI29) (by decide) dX7_readRoom_78 ?_
          refine gf_X7_108 hX (by omega) (by omega) kc_2 dX7_readRoom_81 ?_
          refine j_last hX (by omega) (by omega) (kq_1 hq) (by omega) (by omega) (by omega) dX7_readRoom_84 ?_
          refine j_upL hI29 (fun M45 hM46 hI47 => ?_)
          have hV48 := DL_l hV32 hM46
          have hk49 := kp_l hM46 hk33
          have hk50 := kp_l hM46 hk34
          have hk51 := kp_l hM46 hk35
          have hk52 := kp_l hM46 hk36
          have hF53 := Fr.l hF37 hM46
          refine j_aload_n hX dX7_readRoom_85 rfl 1 rfl ?_
          refine gf_X7_12 hX (by omega) (by omega) kc_1 (fc_1_0 hI47) (by decide) dX7_readRoom_86 ?_
          refine j_callVV hX lk_X7_41 (c_X9_advance _ _ _ _ _ _ (by omega) hI47 (by first | omega | assumption)) (by omega) hce rfl rfl (by omega) (by omega) kc_2 rfl rfl (Nat.le_of_ble_eq_true rfl) dX7_readRoom_89 (fun M55 hp56 => ?_)
          obtain ⟨hI58, hG59, hq60⟩ := hp56
          have hV61 := DL_fr hV48 hG59 (fun b => by omega) (by omega) (by omega)
          have hk62 := kp_fr hG59 (by omega) hk49
          have hk63 := kp_fr hG59 (by omega) hk50
          have hF64 := Fr.trans hF53 hG59 (fun a b h => by omega)
          have hk65 : M55.1 2 4 = M55.1 2 4 := rfl
          have hk66 : M55.1 2 6 = M55.1 2 6 := rfl
          refine j_aload_n hX dX7_readRoom_92 rfl 1 rfl ?_
          refine j_sipush hX dX7_readRoom_93 rfl ?_
          refine j_callVI hX lk_X7_51 (c_X7_take _ _ _ _ _ _ _ _ (by omega) hI58 (by omega) (by assumption) hk62 (by first | omega | assumption)) (by omega) hce rfl rfl (by omega) (by omega) kc_1 rfl rfl (Nat.le_of_ble_eq_true rfl) dX7_readRoom_96 (fun z67 M68 hz70 hp69 => ?_)
          obtain ⟨hI71, hG72, hb73, hq74⟩ := hp69
          have hV75 := DL_fr hV61 hG72 (fun b => by omega) (by omega) (by omega)
          have hk76 := kp_fr hG72 (by omega) hk62
          have hk77 := kp_fr hG72 (by omega) hk63
          have hF78 := Fr.trans hF64 hG72 (fun a b h => by omega)
          have hk79 : M68.1 2 4 = M68.1 2 4 := rfl
          have hk80 : M68.1 2 6 = M68.1 2 6 := rfl
          refine j_if_eq (tgt := 111) hX dX7_readRoom_99 (by decide) (by omega) (fun hc81 => ?_) (fun hc81 => ?_)
          · skip
            refine j_iconst hX dX7_readRoom_111 ?_
            exact hret _ _ _ _ dX7_readRoom_112 (nb (by omega)) (by omega) ⟨hI71, hF78, by omega, by omega, by first | (intro h; omega) | (intro _; assumption) | (intro _ h; omega)⟩
          · skip
            refine j_aload_n hX dX7_readRoom_102 rfl 1 rfl ?_
            refine j_bipush hX dX7_readRoom_103 rfl ?_
            refine j_callVI hX lk_X7_120 (c_X7_takeNumber _ _ _ _ _ _ _ _ (by omega) hI71 (by omega) (by assumption) hk76 (by first | omega | assumption)) (by omega) hce rfl rfl (by omega) (by omega) kc_1 rfl rfl (Nat.le_of_ble_eq_true rfl) dX7_readRoom_105 (fun z82 M83 hz85 hp84 => ?_)
            obtain ⟨hI86, hG87, hb88, hq89, hq90⟩ := hp84
            have hV91 := DL_fr hV75 hG87 (fun b => by omega) (by omega) (by omega)
            have hk92 := kp_fr hG87 (by omega) hk76
            have hk93 := kp_fr hG87 (by omega) hk77
            have hF94 := Fr.trans hF78 hG87 (fun a b h => by omega)
            have hk95 : M83.1 2 4 = M83.1 2 4 := rfl
            have hk96 : M83.1 2 6 = M83.1 2 6 := rfl
            refine j_if_ne (tgt := 113) hX dX7_readRoom_108 (by decide) (by omega) (fun hc97 => ?_) (fun hc97 => ?_)
            · skip
              refine j_aload_n hX dX7_readRoom_113 rfl 1 rfl ?_
              refine gf_X7_21 hX (by omega) (by omega) kc_1 hk92 (by omega) dX7_readRoom_114 ?_
              refine gf_X7_123 hX (by omega) (by omega) (kq hq) (fq_2 hI86 hq) (by omega) dX7_readRoom_117 ?_
              refine j_iload_n hX dX7_readRoom_120 rfl 0 rfl ?_
              refine j_aload_n hX dX7_readRoom_121 rfl 1 rfl ?_
              refine gf_X7_32 hX (by omega) (by omega) kc_1 dX7_readRoom_122 ?_
              refine j_name hI86 ro_1_4 (fun v98 hv99 hl100 hh101 => ?_)
              have hk102 := hv99.symm
              refine j_iast hX (by omega) (by omega) (kq_2 hq) (by omega) (by omega) (by omega) (by omega) dX7_readRoom_125 ?_
              refine j_up hI86 (aq_2 hq _) (by omega) (by omega) (Or.inl (by omega)) (fun M103 w104 hw105 hM106 hI107 hf108 => ?_)
              have hV109 := DL_up hV91 hM106 (by omega) (by omega)
              have hk110 := kp_up hM106 (by omega) hk92
              have hk111 := kp_up hM106 (by omega) hk93
              have hk112 := kp_up hM106 (by omega) hk95
              have hk113 := kp_up hM106 (by omega) hk96
              have hk114 := kp_up hM106 (by omega) hk102
              have hF115 := Fr.put hF94 hM106 (by omega)
              refine j_aload_n hX dX7_readRoom_126 rfl 1 rfl ?_
              refine j_sipush hX dX7_readRoom_127 rfl ?_
              refine j_callVI hX lk_X7_127 (c_X7_takeIf _ _ _ _ _ _ _ _ (by omega) hI107 (by omega) (by assumption) hk110 (by first | omega | assumption)) (by omega) hce rfl rfl (by omega) (by omega) kc_1 rfl rfl (Nat.le_of_ble_eq_true rfl) dX7_readRoom_130 (fun z116 M117 hz119 hp118 => ?_)
              obtain ⟨hI120, hG121, hb122, hq123⟩ := hp118
              have hV124 := DL_fr hV109 hG121 (fun b => by omega) (by omega) (by omega)
              have hk125 := kp_fr hG121 (by omega) hk110
              have hk126 := kp_fr hG121 (by omega) hk111
              have hk127 := kp_fr hG121 (by omega) hk114
              have hF128 := Fr.trans hF115 hG121 (fun a b h => by omega)
              have hk129 : M117.1 2 4 = M117.1 2 4 := rfl
              have hk130 : M117.1 2 6 = M117.1 2 6 := rfl
              refine j_if_eq (tgt := 151) hX dX7_readRoom_133 (by decide) (by omega) (fun hc131 => ?_) (fun hc131 => ?_)
              · skip
                refine j_aload_n hX dX7_readRoom_151 rfl 1 rfl ?_
                refine gf_X7_21 hX (by omega) (by omega) kc_1 hk125 (by omega) dX7_readRoom_152 ?_
                refine j_iload_n hX dX7_readRoom_155 rfl 0 rfl ?_
                refine j_iconst hX dX7_readRoom_156 ?_
                refine j_iadd hX dX7_readRoom_157 ?_
                refine pf_X7_98 hX (by omega) (by omega) (kq hq) (by omega) dX7_readRoom_158 ?_
                refine j_up hI120 (rq_0 hq) (by omega) (by omega) (Or.inl (by omega)) (fun M132 w133 hw134 hM135 hI136 hf137 => ?_)
                have hk139 := kp_up hM135 (by omega) hk125
                have hk140 := kp_up hM135 (by omega) hk127
                have hk141 := kp_up hM135 (by omega) hk129
                have hk142 := kp_up hM135 (by omega) hk130
                have hF143 := Fr.put hF128 hM135 (by omega)
                refine j_iconst hX dX7_readRoom_161 ?_
                exact hret _ _ _ _ dX7_readRoom_162 (nb (by omega)) (by omega) ⟨hI136, hF143, by omega, by omega, by first | (intro h; omega) | (intro _; assumption) | (intro _ h; omega)⟩
              · skip
                refine j_aload_n hX dX7_readRoom_136 rfl 1 rfl ?_
                refine gf_X7_21 hX (by omega) (by omega) kc_1 hk125 (by omega) dX7_readRoom_137 ?_
                refine j_dup hX dX7_readRoom_140 rfl ?_
                refine gf_X7_130 hX (by omega) (by omega) (kq hq) dX7_readRoom_141 ?_
                refine j_name hI120 (rq_3 hq) (fun v144 hv145 hl146 hh147 => ?_)
                have hk148 := hv145.symm
                refine j_iconst hX dX7_readRoom_144 ?_
                refine j_iload_n hX dX7_readRoom_145 rfl 0 rfl ?_
                refine j_ishl hX dX7_readRoom_146 (fun z149 hz150 hy151 => ?_)
                have ha152 := shl_b hz150
                refine j_ior hX dX7_readRoom_147 (fun z153 hz154 hy155 => ?_)
                refine pf_X7_130 hX (by omega) (by omega) (kq hq) (by omega) dX7_readRoom_148 ?_
                refine j_up hI120 (rq_3 hq) (by omega) (by omega) (Or.inl (by omega)) (fun M156 w157 hw158 hM159 hI160 hf161 => ?_)
                have hV162 := DL_up hV124 hM159 (by omega) (by omega)
                have hk163 := kp_up hM159 (by omega) hk125
                have hk164 := kp_up hM159 (fun h => absurd h.2 (by decide)) hk126
                have hk165 := kp_up hM159 (by omega) hk127
                have hk166 := kp_up hM159 (by omega) hk129
                have hk167 := kp_up hM159 (by omega) hk130
                have hF168 := Fr.put hF128 hM159 (by omega)
                refine j_aload_n hX dX7_readRoom_151 rfl 1 rfl ?_
                refine gf_X7_21 hX (by omega) (by omega) kc_1 hk163 (by omega) dX7_readRoom_152 ?_
                refine j_iload_n hX dX7_readRoom_155 rfl 0 rfl ?_
                refine j_iconst hX dX7_readRoom_156 ?_
                refine j_iadd hX dX7_readRoom_157 ?_
                refine pf_X7_98 hX (by omega) (by omega) (kq hq) (by omega) dX7_readRoom_158 ?_
                refine j_up hI160 (rq_0 hq) (by omega) (by omega) (Or.inl (by omega)) (fun M169 w170 hw171 hM172 hI173 hf174 => ?_)
                have hk176 := kp_up hM172 (by omega) hk163
                have hk177 := kp_up hM172 (by omega) hk165
                have hk178 := kp_up hM172 (by omega) hk166
                have hk179 := kp_up hM172 (by omega) hk167
                have hk180 := kp_up hM172 (fun h => absurd h.2 (by decide)) hf161
                have hF181 := Fr.put hF168 hM172 (by omega)
                refine j_iconst hX dX7_readRoom_161 ?_
                exact hret _ _ _ _ dX7_readRoom_162 (nb (by omega)) (by omega) ⟨hI173, hF181, by omega, by omega, by first | (intro h; omega) | (intro _; assumption) | (intro _ h; omega)⟩
            · skip
              refine j_iconst hX dX7_readRoom_111 ?_
              exact hret _ _ _ _ dX7_readRoom_112 (nb (by omega)) (by omega) ⟨hI86, hF94, by omega, by omega, by first | (intro h; omega) | (intro _; assumption) | (intro _ h; omega)⟩
        · skip
          refine j_aload_n hX dX7_readRoom_63 rfl 1 rfl ?_
          refine j_iconst hX dX7_readRoom_64 ?_
          refine j_callVI hX lk_X7_95 (c_X7_refuse _ _ _ _ _ _ _ _ (by omega) hI29 (by omega) (by assumption) hk33) (by omega) hce rfl rfl (by omega) (by omega) kc_1 rfl rfl (Nat.le_of_ble_eq_true rfl) dX7_readRoom_65 (fun z182 M183 hz185 hp184 => ?_)
          obtain ⟨hI186, hG187, hb188, hq189⟩ := hp184
          have hV190 := DL_fr hV32 hG187 (fun b => by omega) (by omega) (by omega)
          have hk191 := kp_fr hG187 (by omega) hk33
          have hk192 := kp_fr hG187 (by omega) hk34
          have hk193 := kp_fr hG187 (by omega) hk35
          have hk194 := kp_fr hG187 (by omega) hk36
          have hF195 := Fr.trans hF37 hG187 (fun a b h => by omega)
          exact hret _ _ _ _ dX7_readRoom_68 (nb (by omega)) (by omega) ⟨hI186, hF195, by omega, by omega, by first | (intro h; omega) | (intro _; assumption) | (intro _ h; omega)⟩
      · skip
        refine j_iconst hX dX7_readRoom_43 ?_
        exact hret _ _ _ _ dX7_readRoom_44 (nb (by omega)) (by omega) ⟨hI29, hF37, by omega, by omega, by first | (intro h; omega) | (intro _; assumption) | (intro _ h; omega)⟩
  · skip
    refine j_aload_n hX dX7_readRoom_15 rfl 1 rfl ?_
    refine gf_X7_21 hX (by omega) (by omega) kc_1 hto (by omega) dX7_readRoom_16 ?_
    refine gf_X7_101 hX (by omega) (by omega) (kq hq) dX7_readRoom_19 ?_
    refine j_name hI (rq_9 hq) (fun v196 hv197 hl198 hh199 => ?_)
    have hk200 := hv197.symm
    refine j_if_ne (tgt := 29) hX dX7_readRoom_22 (by decide) (by omega) (fun hc201 => ?_) (fun hc201 => ?_)
    · skip
      refine j_iconst hX dX7_readRoom_29 ?_
      refine j_callVI hX lk_X7_82 (c_X7_mayStart _ _ _ _ _ _ _ _ (by omega) hI (by omega) (by assumption) hto (by first | omega | assumption) (by first | omega | assumption)) (by omega) hce rfl rfl (by omega) (by omega) kc_1 rfl rfl (Nat.le_of_ble_eq_true rfl) dX7_readRoom_30 (fun z202 M203 hz205 hp204 => ?_)
      obtain ⟨hI206, hG207, hb208, hq209, hq210⟩ := hp204
      have hV211 := DL_fr hDL hG207 (fun b => by omega) (by omega) (by omega)
      have hk212 := kp_fr hG207 (by omega) hto
      have hk213 := kp_fr hG207 (by omega) hk7
      have hk214 := kp_fr hG207 (by omega) hk200
      have hF215 := Fr.trans hF hG207 (fun a b h => by omega)
      have hk216 : M203.1 2 4 = M203.1 2 4 := rfl
      have hk217 : M203.1 2 6 = M203.1 2 6 := rfl
      refine j_if_eq (tgt := 43) hX dX7_readRoom_33 (by decide) (by omega) (fun hc218 => ?_) (fun hc218 => ?_)
      · skip
        refine j_iconst hX dX7_readRoom_43 ?_
        exact hret _ _ _ _ dX7_readRoom_44 (nb (by omega)) (by omega) ⟨hI206, hF215, by omega, by omega, by first | (intro h; omega) | (intro _; assumption) | (intro _ h; omega)⟩
      · skip
        refine j_aload_n hX dX7_readRoom_36 rfl 1 rfl ?_
        refine j_callVI hX lk_X7_105 (c_X7_isName _ _ _ _ _ _ _ (by omega) hI206 (by assumption) hk212) (by omega) hce rfl rfl (by omega) (by omega) kc_1 rfl rfl (Nat.le_of_ble_eq_true rfl) dX7_readRoom_37 (fun z219 M220 hz222 hp221 => ?_)
        obtain ⟨hI223, hG224, hb225⟩ := hp221
        have hV226 := DL_fr hV211 hG224 (fun b => by omega) (by omega) (by omega)
        have hk227 := kp_fr hG224 (by omega) hk212
        have hk228 := kp_fr hG224 (by omega) hk213
        have hk229 := kp_fr hG224 (by omega) hk214
        have hk230 := kp_fr hG224 (by omega) hk216
        have hk231 := kp_fr hG224 (by omega) hk217
        have hF232 := Fr.trans hF215 hG224 (fun a b h => by omega)
        refine j_if_ne (tgt := 45) hX dX7_readRoom_40 (by decide) (by omega) (fun hc233 => ?_) (fun hc233 => ?_)
        · skip
          refine j_aload_n hX dX7_readRoom_45 rfl 1 rfl ?_
          refine gf_X7_21 hX (by omega) (by omega) kc_1 hk227 (by omega) dX7_readRoom_46 ?_
          refine j_aload_n hX dX7_readRoom_49 rfl 1 rfl ?_
          refine gf_X7_12 hX (by omega) (by omega) kc_1 (fc_1_0 hI223) (by decide) dX7_readRoom_50 ?_
          refine gf_X7_108 hX (by omega) (by omega) kc_2 dX7_readRoom_53 ?_
          refine j_callVI hX lk_X7_112 (c_X6_roomNamed _ _ _ _ _ q _ _ (by omega) hI223 hq) (by omega) hce rfl rfl (by omega) (by omega) (kq hq) rfl rfl (Nat.le_of_ble_eq_true rfl) dX7_readRoom_56 (fun z234 M235 hz237 hp236 => ?_)
          obtain ⟨rfl, hq238⟩ := hp236
          refine j_iconst hX dX7_readRoom_59 ?_
          refine j_icmp_eq (tgt := 69) hX dX7_readRoom_60 (by decide) (by omega) (by omega) (fun hc239 => ?_) (fun hc239 => ?_)
          · skip
            refine j_aload_n hX dX7_readRoom_69 rfl 1 rfl ?_
            refine gf_X7_21 hX (by omega) (by omega) kc_1 hk227 (by omega) dX7_readRoom_70 ?_
            refine gf_X7_116 hX (by omega) (by omega) (kq hq) (fq_1 hI223 hq) (by omega) dX7_readRoom_73 ?_
            refine j_iload_n hX dX7_readRoom_76 rfl 0 rfl ?_
            refine j_aload_n hX dX7_readRoom_77 rfl 1 rfl ?_
            refine gf_X7_12 hX (by omega) (by omega) kc_1 (fc_1_0 hI223) (by decide) dX7_readRoom_78 ?_
            refine gf_X7_108 hX (by omega) (by omega) kc_2 dX7_readRoom_81 ?_
            refine j_last hX (by omega) (by omega) (kq_1 hq) (by omega) (by omega) (by omega) dX7_readRoom_84 ?_
            refine j_upL hI223 (fun M240 hM241 hI242 => ?_)
            have hV243 := DL_l hV226 hM241
            have hk244 := kp_l hM241 hk227
            have hk245 := kp_l hM241 hk228
            have hk246 := kp_l hM241 hk229
            have hk247 := kp_l hM241 hk230
            have hk248 := kp_l hM241 hk231
            have hF249 := Fr.l hF232 hM241
            refine j_aload_n hX dX7_readRoom_85 rfl 1 rfl ?_
            refine gf_X7_12 hX (by omega) (by omega) kc_1 (fc_1_0 hI242) (by decide) dX7_readRoom_86 ?_
            refine j_callVV hX lk_X7_41 (c_X9_advance _ _ _ _ _ _ (by omega) hI242 (by first | omega | assumption)) (by omega) hce rfl rfl (by omega) (by omega) kc_2 rfl rfl (Nat.le_of_ble_eq_true rfl) dX7_readRoom_89 (fun M251 hp252 => ?_)
            obtain ⟨hI254, hG255, hq256⟩ := hp252
            have hV257 := DL_fr hV243 hG255 (fun b => by omega) (by omega) (by omega)
            have hk258 := kp_fr hG255 (by omega) hk244
            have hk259 := kp_fr hG255 (by omega) hk245
            have hk260 := kp_fr hG255 (by omega) hk246
            have hF261 := Fr.trans hF249 hG255 (fun a b h => by omega)
            have hk262 : M251.1 2 4 = M251.1 2 4 := rfl
            have hk263 : M251.1 2 6 = M251.1 2 6 := rfl
            refine j_aload_n hX dX7_readRoom_92 rfl 1 rfl ?_
            refine j_sipush hX dX7_readRoom_93 rfl ?_
            refine j_callVI hX lk_X7_51 (c_X7_take _ _ _ _ _ _ _ _ (by omega) hI254 (by omega) (by assumption) hk258 (by first | omega | assumption)) (by omega) hce rfl rfl (by omega) (by omega) kc_1 rfl rfl (Nat.le_of_ble_eq_true rfl) dX7_readRoom_96 (fun z264 M265 hz267 hp266 => ?_)
            obtain ⟨hI268, hG269, hb270, hq271⟩ := hp266
            have hV272 := DL_fr hV257 hG269 (fun b => by omega) (by omega) (by omega)
            have hk273 := kp_fr hG269 (by omega) hk258
            have hk274 := kp_fr hG269 (by omega) hk259
            have hk275 := kp_fr hG269 (by omega) hk260
            have hF276 := Fr.trans hF261 hG269 (fun a b h => by omega)
            have hk277 : M265.1 2 4 = M265.1 2 4 := rfl
            have hk278 : M265.1 2 6 = M265.1 2 6 := rfl
            refine j_if_eq (tgt := 111) hX dX7_readRoom_99 (by decide) (by omega) (fun hc279 => ?_) (fun hc279 => ?_)
            · skip
              refine j_iconst hX dX7_readRoom_111 ?_
              exact hret _ _ _ _ dX7_readRoom_112 (nb (by omega)) (by omega) ⟨hI268, hF276, by omega, by omega, by first | (intro h; omega) | (intro _; assumption) | (intro _ h; omega)⟩
            · skip
              refine j_aload_n hX dX7_readRoom_102 rfl 1 rfl ?_
              refine j_bipush hX dX7_readRoom_103 rfl ?_
              refine j_callVI hX lk_X7_120 (c_X7_takeNumber _ _ _ _ _ _ _ _ (by omega) hI268 (by omega) (by assumption) hk273 (by first | omega | assumption)) (by omega) hce rfl rfl (by omega) (by omega) kc_1 rfl rfl (Nat.le_of_ble_eq_true rfl) dX7_readRoom_105 (fun z280 M281 hz283 hp282 => ?_)
              obtain ⟨hI284, hG285, hb286, hq287, hq288⟩ := hp282
              have hV289 := DL_fr hV272 hG285 (fun b => by omega) (by omega) (by omega)
              have hk290 := kp_fr hG285 (by omega) hk273
              have hk291 := kp_fr hG285 (by omega) hk274
              have hk292 := kp_fr hG285 (by omega) hk275
              have hF293 := Fr.trans hF276 hG285 (fun a b h => by omega)
              have hk294 : M281.1 2 4 = M281.1 2 4 := rfl
              have hk295 : M281.1 2 6 = M281.1 2 6 := rfl
              refine j_if_ne (tgt := 113) hX dX7_readRoom_108 (by decide) (by omega) (fun hc296 => ?_) (fun hc296 => ?_)
              · skip
                refine j_aload_n hX dX7_readRoom_113 rfl 1 rfl ?_
                refine gf_X7_21 hX (by omega) (by omega) kc_1 hk290 (by omega) dX7_readRoom_114 ?_
                refine gf_X7_123 hX (by omega) (by omega) (kq hq) (fq_2 hI284 hq) (by omega) dX7_readRoom_117 ?_
                refine j_iload_n hX dX7_readRoom_120 rfl 0 rfl ?_
                refine j_aload_n hX dX7_readRoom_121 rfl 1 rfl ?_
                refine gf_X7_32 hX (by omega) (by omega) kc_1 dX7_readRoom_122 ?_
                refine j_name hI284 ro_1_4 (fun v297 hv298 hl299 hh300 => ?_)
                have hk301 := hv298.symm
                refine j_iast hX (by omega) (by omega) (kq_2 hq) (by omega) (by omega) (by omega) (by omega) dX7_readRoom_125 ?_
                refine j_up hI284 (aq_2 hq _) (by omega) (by omega) (Or.inl (by omega)) (fun M302 w303 hw304 hM305 hI306 hf307 => ?_)
                have hV308 := DL_up hV289 hM305 (by omega) (by omega)
                have hk309 := kp_up hM305 (by omega) hk290
                have hk310 := kp_up hM305 (by omega) hk291
                have hk311 := kp_up hM305 (by omega) hk292
                have hk312 := kp_up hM305 (by omega) hk294
                have hk313 := kp_up hM305 (by omega) hk295
                have hk314 := kp_up hM305 (by omega) hk301
                have hF315 := Fr.put hF293 hM305 (by omega)
                refine j_aload_n hX dX7_readRoom_126 rfl 1 rfl ?_
                refine j_sipush hX dX7_readRoom_127 rfl ?_
                refine j_callVI hX lk_X7_127 (c_X7_takeIf _ _ _ _ _ _ _ _ (by omega) hI306 (by omega) (by assumption) hk309 (by first | omega | assumption)) (by omega) hce rfl rfl (by omega) (by omega) kc_1 rfl rfl (Nat.le_of_ble_eq_true rfl) dX7_readRoom_130 (fun z316 M317 hz319 hp318 => ?_)
                obtain ⟨hI320, hG321, hb322, hq323⟩ := hp318
                have hV324 := DL_fr hV308 hG321 (fun b => by omega) (by omega) (by omega)
                have hk325 := kp_fr hG321 (by omega) hk309
                have hk326 := kp_fr hG321 (by omega) hk310
                have hk327 := kp_fr hG321 (by omega) hk311
                have hk328 := kp_fr hG321 (by omega) hk314
                have hF329 := Fr.trans hF315 hG321 (fun a b h => by omega)
                have hk330 : M317.1 2 4 = M317.1 2 4 := rfl
                have hk331 : M317.1 2 6 = M317.1 2 6 := rfl
                refine j_if_eq (tgt := 151) hX dX7_readRoom_133 (by decide) (by omega) (fun hc332 => ?_) (fun hc332 => ?_)
                · skip
                  refine j_aload_n hX dX7_readRoom_151 rfl 1 rfl ?_
                  refine gf_X7_21 hX (by omega) (by omega) kc_1 hk325 (by omega) dX7_readRoom_152 ?_
                  refine j_iload_n hX dX7_readRoom_155 rfl 0 rfl ?_
                  refine j_iconst hX dX7_readRoom_156 ?_
                  refine j_iadd hX dX7_readRoom_157 ?_
                  refine pf_X7_98 hX (by omega) (by omega) (kq hq) (by omega) dX7_readRoom_158 ?_
                  refine j_up hI320 (rq_0 hq) (by omega) (by omega) (Or.inl (by omega)) (fun M333 w334 hw335 hM336 hI337 hf338 => ?_)
                  have hk340 := kp_up hM336 (by omega) hk325
                  have hk341 := kp_up hM336 (fun h => absurd h.2 (by decide)) hk327
                  have hk342 := kp_up hM336 (by omega) hk328
                  have hk343 := kp_up hM336 (by omega) hk330
                  have hk344 := kp_up hM336 (by omega) hk331
                  have hF345 := Fr.put hF329 hM336 (by omega)
                  refine j_iconst hX dX7_readRoom_161 ?_
                  exact hret _ _ _ _ dX7_readRoom_162 (nb (by omega)) (by omega) ⟨hI337, hF345, by omega, by omega, by first | (intro h; omega) | (intro _; assumption) | (intro _ h; omega)⟩
                · skip
                  refine j_aload_n hX dX7_readRoom_136 rfl 1 rfl ?_
                  refine gf_X7_21 hX (by omega) (by omega) kc_1 hk325 (by omega) dX7_readRoom_137 ?_
                  refine j_dup hX dX7_readRoom_140 rfl ?_
                  refine gf_X7_130 hX (by omega) (by omega) (kq hq) dX7_readRoom_141 ?_
                  refine j_name hI320 (rq_3 hq) (fun v346 hv347 hl348 hh349 => ?_)
                  have hk350 := hv347.symm
                  refine j_iconst hX dX7_readRoom_144 ?_
                  refine j_iload_n hX dX7_readRoom_145 rfl 0 rfl ?_
                  refine j_ishl hX dX7_readRoom_146 (fun z351 hz352 hy353 => ?_)
                  have ha354 := shl_b hz352
                  refine j_ior hX dX7_readRoom_147 (fun z355 hz356 hy357 => ?_)
                  refine pf_X7_130 hX (by omega) (by omega) (kq hq) (by omega) dX7_readRoom_148 ?_
                  refine j_up hI320 (rq_3 hq) (by omega) (by omega) (Or.inl (by omega)) (fun M358 w359 hw360 hM361 hI362 hf363 => ?_)
                  have hV364 := DL_up hV324 hM361 (by omega) (by omega)
                  have hk365 := kp_up hM361 (by omega) hk325
                  have hk366 := kp_up hM361 (fun h => absurd h.2 (by decide)) hk326
                  have hk367 := kp_up hM361 (fun h => absurd h.2 (by decide)) hk327
                  have hk368 := kp_up hM361 (by omega) hk328
                  have hk369 := kp_up hM361 (by omega) hk330
                  have hk370 := kp_up hM361 (by omega) hk331
                  have hF371 := Fr.put hF329 hM361 (by omega)
                  refine j_aload_n hX dX7_readRoom_151 rfl 1 rfl ?_
                  refine gf_X7_21 hX (by omega) (by omega) kc_1 hk365 (by omega) dX7_readRoom_152 ?_
                  refine j_iload_n hX dX7_readRoom_155 rfl 0 rfl ?_
                  refine j_iconst hX dX7_readRoom_156 ?_
                  refine j_iadd hX dX7_readRoom_157 ?_
                  refine pf_X7_98 hX (by omega) (by omega) (kq hq) (by omega) dX7_readRoom_158 ?_
                  refine j_up hI362 (rq_0 hq) (by omega) (by omega) (Or.inl (by omega)) (fun M372 w373 hw374 hM375 hI376 hf377 => ?_)
                  have hk379 := kp_up hM375 (by omega) hk365
                  have hk380 := kp_up hM375 (fun h => absurd h.2 (by decide)) hk367
                  have hk381 := kp_up hM375 (by omega) hk368
                  have hk382 := kp_up hM375 (by omega) hk369
                  have hk383 := kp_up hM375 (by omega) hk370
                  have hk384 := kp_up hM375 (fun h => absurd h.2 (by decide)) hf363
                  have hF385 := Fr.put hF371 hM375 (by omega)
                  refine j_iconst hX dX7_readRoom_161 ?_
                  exact hret _ _ _ _ dX7_readRoom_162 (nb (by omega)) (by omega) ⟨hI376, hF385, by omega, by omega, by first | (intro h; omega) | (intro _; assumption) | (intro _ h; omega)⟩
              · skip
                refine j_iconst hX dX7_readRoom_111 ?_
                exact hret _ _ _ _ dX7_readRoom_112 (nb (by omega)) (by omega) ⟨hI284, hF293, by omega, by omega, by first | (intro h; omega) | (intro _; assumption) | (intro _ h; omega)⟩
          · skip
            refine j_aload_n hX dX7_readRoom_63 rfl 1 rfl ?_
            refine j_iconst hX dX7_readRoom_64 ?_
            refine j_callVI hX lk_X7_95 (c_X7_refuse _ _ _ _ _ _ _ _ (by omega) hI223 (by omega) (by assumption) hk227) (by omega) hce rfl rfl (by omega) (by omega) kc_1 rfl rfl (Nat.le_of_ble_eq_true rfl) dX7_readRoom_65 (fun z386 M387 hz389 hp388 => ?_)
            obtain ⟨hI390, hG391, hb392, hq393⟩ := hp388
            have hV394 := DL_fr hV226 hG391 (fun b => by omega) (by omega) (by omega)
            have hk395 := kp_fr hG391 (by omega) hk227
            have hk396 := kp_fr hG391 (by omega) hk228
            have hk397 := kp_fr hG391 (by omega) hk229
            have hk398 := kp_fr hG391 (by omega) hk230
            have hk399 := kp_fr hG391 (by omega) hk231
            have hF400 := Fr.trans hF232 hG391 (fun a b h => by omega)
            exact hret _ _ _ _ dX7_readRoom_68 (nb (by omega)) (by omega) ⟨hI390, hF400, by omega, by omega, by first | (intro h; omega) | (intro _; assumption) | (intro _ h; omega)⟩
        · skip
          refine j_iconst hX dX7_readRoom_43 ?_
          exact hret _ _ _ _ dX7_readRoom_44 (nb (by omega)) (by omega) ⟨hI223, hF232, by omega, by omega, by first | (intro h; omega) | (intro _; assumption) | (intro _ h; omega)⟩
    · skip
      refine j_iconst hX dX7_readRoom_25 ?_
      refine j_goto (tgt := 30) hX dX7_readRoom_26 (by decide) ?_
      refine j_callVI hX lk_X7_82 (c_X7_mayStart _ _ _ _ _ _ _ _ (by omega) hI (by omega) (by assumption) hto (by first | omega | assumption) (by first | omega | assumption)) (by omega) hce rfl rfl (by omega) (by omega) kc_1 rfl rfl (Nat.le_of_ble_eq_true rfl) dX7_readRoom_30 (fun z401 M402 hz404 hp403 => ?_)
      obtain ⟨hI405, hG406, hb407, hq408, hq409⟩ := hp403
      have hV410 := DL_fr hDL hG406 (fun b => by omega) (by omega) (by omega)
      have hk411 := kp_fr hG406 (by omega) hto
      have hk412 := kp_fr hG406 (by omega) hk7
      have hk413 := kp_fr hG406 (by omega) hk200
      have hF414 := Fr.trans hF hG406 (fun a b h => by omega)
      have hk415 : M402.1 2 4 = M402.1 2 4 := rfl
      have hk416 : M402.1 2 6 = M402.1 2 6 := rfl
      refine j_if_eq (tgt := 43) hX dX7_readRoom_33 (by decide) (by omega) (fun hc417 => ?_) (fun hc417 => ?_)
      · skip
        refine j_iconst hX dX7_readRoom_43 ?_
        exact hret _ _ _ _ dX7_readRoom_44 (nb (by omega)) (by omega) ⟨hI405, hF414, by omega, by omega, by first | (intro h; omega) | (intro _; assumption) | (intro _ h; omega)⟩
      · skip
        refine j_aload_n hX dX7_readRoom_36 rfl 1 rfl ?_
        refine j_callVI hX lk_X7_105 (c_X7_isName _ _ _ _ _ _ _ (by omega) hI405 (by assumption) hk411) (by omega) hce rfl rfl (by omega) (by omega) kc_1 rfl rfl (Nat.le_of_ble_eq_true rfl) dX7_readRoom_37 (fun z418 M419 hz421 hp420 => ?_)
        obtain ⟨hI422, hG423, hb424⟩ := hp420
        have hV425 := DL_fr hV410 hG423 (fun b => by omega) (by omega) (by omega)
        have hk426 := kp_fr hG423 (by omega) hk411
        have hk427 := kp_fr hG423 (by omega) hk412
        have hk428 := kp_fr hG423 (by omega) hk413
        have hk429 := kp_fr hG423 (by omega) hk415
        have hk430 := kp_fr hG423 (by omega) hk416
        have hF431 := Fr.trans hF414 hG423 (fun a b h => by omega)
        refine j_if_ne (tgt := 45) hX dX7_readRoom_40 (by decide) (by omega) (fun hc432 => ?_) (fun hc432 => ?_)
        · skip
          refine j_aload_n hX dX7_readRoom_45 rfl 1 rfl ?_
          refine gf_X7_21 hX (by omega) (by omega) kc_1 hk426 (by omega) dX7_readRoom_46 ?_
          refine j_aload_n hX dX7_readRoom_49 rfl 1 rfl ?_
          refine gf_X7_12 hX (by omega) (by omega) kc_1 (fc_1_0 hI422) (by decide) dX7_readRoom_50 ?_
          refine gf_X7_108 hX (by omega) (by omega) kc_2 dX7_readRoom_53 ?_
          refine j_callVI hX lk_X7_112 (c_X6_roomNamed _ _ _ _ _ q _ _ (by omega) hI422 hq) (by omega) hce rfl rfl (by omega) (by omega) (kq hq) rfl rfl (Nat.le_of_ble_eq_true rfl) dX7_readRoom_56 (fun z433 M434 hz436 hp435 => ?_)
          obtain ⟨rfl, hq437⟩ := hp435
          refine j_iconst hX dX7_readRoom_59 ?_
          refine j_icmp_eq (tgt := 69) hX dX7_readRoom_60 (by decide) (by omega) (by omega) (fun hc438 => ?_) (fun hc438 => ?_)
          · skip
            refine j_aload_n hX dX7_readRoom_69 rfl 1 rfl ?_
            refine gf_X7_21 hX (by omega) (by omega) kc_1 hk426 (by omega) dX7_readRoom_70 ?_
            refine gf_X7_116 hX (by omega) (by omega) (kq hq) (fq_1 hI422 hq) (by omega) dX7_readRoom_73 ?_
            refine j_iload_n hX dX7_readRoom_76 rfl 0 rfl ?_
            refine j_aload_n hX dX7_readRoom_77 rfl 1 rfl ?_
            refine gf_X7_12 hX (by omega) (by omega) kc_1 (fc_1_0 hI422) (by decide) dX7_readRoom_78 ?_
            refine gf_X7_108 hX (by omega) (by omega) kc_2 dX7_readRoom_81 ?_
            refine j_last hX (by omega) (by omega) (kq_1 hq) (by omega) (by omega) (by omega) dX7_readRoom_84 ?_
            refine j_upL hI422 (fun M439 hM440 hI441 => ?_)
            have hV442 := DL_l hV425 hM440
            have hk443 := kp_l hM440 hk426
            have hk444 := kp_l hM440 hk427
            have hk445 := kp_l hM440 hk428
            have hk446 := kp_l hM440 hk429
            have hk447 := kp_l hM440 hk430
            have hF448 := Fr.l hF431 hM440
            refine j_aload_n hX dX7_readRoom_85 rfl 1 rfl ?_
            refine gf_X7_12 hX (by omega) (by omega) kc_1 (fc_1_0 hI441) (by decide) dX7_readRoom_86 ?_
            refine j_callVV hX lk_X7_41 (c_X9_advance _ _ _ _ _ _ (by omega) hI441 (by first | omega | assumption)) (by omega) hce rfl rfl (by omega) (by omega) kc_2 rfl rfl (Nat.le_of_ble_eq_true rfl) dX7_readRoom_89 (fun M450 hp451 => ?_)
            obtain ⟨hI453, hG454, hq455⟩ := hp451
            have hV456 := DL_fr hV442 hG454 (fun b => by omega) (by omega) (by omega)
            have hk457 := kp_fr hG454 (by omega) hk443
            have hk458 := kp_fr hG454 (by omega) hk444
            have hk459 := kp_fr hG454 (by omega) hk445
            have hF460 := Fr.trans hF448 hG454 (fun a b h => by omega)
            have hk461 : M450.1 2 4 = M450.1 2 4 := rfl
            have hk462 : M450.1 2 6 = M450.1 2 6 := rfl
            refine j_aload_n hX dX7_readRoom_92 rfl 1 rfl ?_
            refine j_sipush hX dX7_readRoom_93 rfl ?_
            refine j_callVI hX lk_X7_51 (c_X7_take _ _ _ _ _ _ _ _ (by omega) hI453 (by omega) (by assumption) hk457 (by first | omega | assumption)) (by omega) hce rfl rfl (by omega) (by omega) kc_1 rfl rfl (Nat.le_of_ble_eq_true rfl) dX7_readRoom_96 (fun z463 M464 hz466 hp465 => ?_)
            obtain ⟨hI467, hG468, hb469, hq470⟩ := hp465
            have hV471 := DL_fr hV456 hG468 (fun b => by omega) (by omega) (by omega)
            have hk472 := kp_fr hG468 (by omega) hk457
            have hk473 := kp_fr hG468 (by omega) hk458
            have hk474 := kp_fr hG468 (by omega) hk459
            have hF475 := Fr.trans hF460 hG468 (fun a b h => by omega)
            have hk476 : M464.1 2 4 = M464.1 2 4 := rfl
            have hk477 : M464.1 2 6 = M464.1 2 6 := rfl
            refine j_if_eq (tgt := 111) hX dX7_readRoom_99 (by decide) (by omega) (fun hc478 => ?_) (fun hc478 => ?_)
            · skip
              refine j_iconst hX dX7_readRoom_111 ?_
              exact hret _ _ _ _ dX7_readRoom_112 (nb (by omega)) (by omega) ⟨hI467, hF475, by omega, by omega, by first | (intro h; omega) | (intro _; assumption) | (intro _ h; omega)⟩
            · skip
              refine j_aload_n hX dX7_readRoom_102 rfl 1 rfl ?_
              refine j_bipush hX dX7_readRoom_103 rfl ?_
              refine j_callVI hX lk_X7_120 (c_X7_takeNumber _ _ _ _ _ _ _ _ (by omega) hI467 (by omega) (by assumption) hk472 (by first | omega | assumption)) (by omega) hce rfl rfl (by omega) (by omega) kc_1 rfl rfl (Nat.le_of_ble_eq_true rfl) dX7_readRoom_105 (fun z479 M480 hz482 hp481 => ?_)
              obtain ⟨hI483, hG484, hb485, hq486, hq487⟩ := hp481
              have hV488 := DL_fr hV471 hG484 (fun b => by omega) (by omega) (by omega)
              have hk489 := kp_fr hG484 (by omega) hk472
              have hk490 := kp_fr hG484 (by omega) hk473
              have hk491 := kp_fr hG484 (by omega) hk474
              have hF492 := Fr.trans hF475 hG484 (fun a b h => by omega)
              have hk493 : M480.1 2 4 = M480.1 2 4 := rfl
              have hk494 : M480.1 2 6 = M480.1 2 6 := rfl
              refine j_if_ne (tgt := 113) hX dX7_readRoom_108 (by decide) (by omega) (fun hc495 => ?_) (fun hc495 => ?_)
              · skip
                refine j_aload_n hX dX7_readRoom_113 rfl 1 rfl ?_
                refine gf_X7_21 hX (by omega) (by omega) kc_1 hk489 (by omega) dX7_readRoom_114 ?_
                refine gf_X7_123 hX (by omega) (by omega) (kq hq) (fq_2 hI483 hq) (by omega) dX7_readRoom_117 ?_
                refine j_iload_n hX dX7_readRoom_120 rfl 0 rfl ?_
                refine j_aload_n hX dX7_readRoom_121 rfl 1 rfl ?_
                refine gf_X7_32 hX (by omega) (by omega) kc_1 dX7_readRoom_122 ?_
                refine j_name hI483 ro_1_4 (fun v496 hv497 hl498 hh499 => ?_)
                have hk500 := hv497.symm
                refine j_iast hX (by omega) (by omega) (kq_2 hq) (by omega) (by omega) (by omega) (by omega) dX7_readRoom_125 ?_
                refine j_up hI483 (aq_2 hq _) (by omega) (by omega) (Or.inl (by omega)) (fun M501 w502 hw503 hM504 hI505 hf506 => ?_)
                have hV507 := DL_up hV488 hM504 (by omega) (by omega)
                have hk508 := kp_up hM504 (by omega) hk489
                have hk509 := kp_up hM504 (by omega) hk490
                have hk510 := kp_up hM504 (by omega) hk491
                have hk511 := kp_up hM504 (by omega) hk493
                have hk512 := kp_up hM504 (by omega) hk494
                have hk513 := kp_up hM504 (by omega) hk500
                have hF514 := Fr.put hF492 hM504 (by omega)
                refine j_aload_n hX dX7_readRoom_126 rfl 1 rfl ?_
                refine j_sipush hX dX7_readRoom_127 rfl ?_
                refine j_callVI hX lk_X7_127 (c_X7_takeIf _ _ _ _ _ _ _ _ (by omega) hI505 (by omega) (by assumption) hk508 (by first | omega | assumption)) (by omega) hce rfl rfl (by omega) (by omega) kc_1 rfl rfl (Nat.le_of_ble_eq_true rfl) dX7_readRoom_130 (fun z515 M516 hz518 hp517 => ?_)
                obtain ⟨hI519, hG520, hb521, hq522⟩ := hp517
                have hV523 := DL_fr hV507 hG520 (fun b => by omega) (by omega) (by omega)
                have hk524 := kp_fr hG520 (by omega) hk508
                have hk525 := kp_fr hG520 (by omega) hk509
                have hk526 := kp_fr hG520 (by omega) hk510
                have hk527 := kp_fr hG520 (by omega) hk513
                have hF528 := Fr.trans hF514 hG520 (fun a b h => by omega)
                have hk529 : M516.1 2 4 = M516.1 2 4 := rfl
                have hk530 : M516.1 2 6 = M516.1 2 6 := rfl
                refine j_if_eq (tgt := 151) hX dX7_readRoom_133 (by decide) (by omega) (fun hc531 => ?_) (fun hc531 => ?_)
                · skip
                  refine j_aload_n hX dX7_readRoom_151 rfl 1 rfl ?_
                  refine gf_X7_21 hX (by omega) (by omega) kc_1 hk524 (by omega) dX7_readRoom_152 ?_
                  refine j_iload_n hX dX7_readRoom_155 rfl 0 rfl ?_
                  refine j_iconst hX dX7_readRoom_156 ?_
                  refine j_iadd hX dX7_readRoom_157 ?_
                  refine pf_X7_98 hX (by omega) (by omega) (kq hq) (by omega) dX7_readRoom_158 ?_
                  refine j_up hI519 (rq_0 hq) (by omega) (by omega) (Or.inl (by omega)) (fun M532 w533 hw534 hM535 hI536 hf537 => ?_)
                  have hk539 := kp_up hM535 (by omega) hk524
                  have hk540 := kp_up hM535 (fun h => absurd h.2 (by decide)) hk526
                  have hk541 := kp_up hM535 (by omega) hk527
                  have hk542 := kp_up hM535 (by omega) hk529
                  have hk543 := kp_up hM535 (by omega) hk530
                  have hF544 := Fr.put hF528 hM535 (by omega)
                  refine j_iconst hX dX7_readRoom_161 ?_
                  exact hret _ _ _ _ dX7_readRoom_162 (nb (by omega)) (by omega) ⟨hI536, hF544, by omega, by omega, by first | (intro h; omega) | (intro _; assumption) | (intro _ h; omega)⟩
                · skip
                  refine j_aload_n hX dX7_readRoom_136 rfl 1 rfl ?_
                  refine gf_X7_21 hX (by omega) (by omega) kc_1 hk524 (by omega) dX7_readRoom_137 ?_
                  refine j_dup hX dX7_readRoom_140 rfl ?_
                  refine gf_X7_130 hX (by omega) (by omega) (kq hq) dX7_readRoom_141 ?_
                  refine j_name hI519 (rq_3 hq) (fun v545 hv546 hl547 hh548 => ?_)
                  have hk549 := hv546.symm
                  refine j_iconst hX dX7_readRoom_144 ?_
                  refine j_iload_n hX dX7_readRoom_145 rfl 0 rfl ?_
                  refine j_ishl hX dX7_readRoom_146 (fun z550 hz551 hy552 => ?_)
                  have ha553 := shl_b hz551
                  refine j_ior hX dX7_readRoom_147 (fun z554 hz555 hy556 => ?_)
                  refine pf_X7_130 hX (by omega) (by omega) (kq hq) (by omega) dX7_readRoom_148 ?_
                  refine j_up hI519 (rq_3 hq) (by omega) (by omega) (Or.inl (by omega)) (fun M557 w558 hw559 hM560 hI561 hf562 => ?_)
                  have hV563 := DL_up hV523 hM560 (by omega) (by omega)
                  have hk564 := kp_up hM560 (by omega) hk524
                  have hk565 := kp_up hM560 (fun h => absurd h.2 (by decide)) hk525
                  have hk566 := kp_up hM560 (fun h => absurd h.2 (by decide)) hk526
                  have hk567 := kp_up hM560 (by omega) hk527
                  have hk568 := kp_up hM560 (by omega) hk529
                  have hk569 := kp_up hM560 (by omega) hk530
                  have hF570 := Fr.put hF528 hM560 (by omega)
                  refine j_aload_n hX dX7_readRoom_151 rfl 1 rfl ?_
                  refine gf_X7_21 hX (by omega) (by omega) kc_1 hk564 (by omega) dX7_readRoom_152 ?_
                  refine j_iload_n hX dX7_readRoom_155 rfl 0 rfl ?_
                  refine j_iconst hX dX7_readRoom_156 ?_
                  refine j_iadd hX dX7_readRoom_157 ?_
                  refine pf_X7_98 hX (by omega) (by omega) (kq hq) (by omega) dX7_readRoom_158 ?_
                  refine j_up hI561 (rq_0 hq) (by omega) (by omega) (Or.inl (by omega)) (fun M571 w572 hw573 hM574 hI575 hf576 => ?_)
                  have hk578 := kp_up hM574 (by omega) hk564
                  have hk579 := kp_up hM574 (fun h => absurd h.2 (by decide)) hk566
                  have hk580 := kp_up hM574 (by omega) hk567
                  have hk581 := kp_up hM574 (by omega) hk568
                  have hk582 := kp_up hM574 (by omega) hk569
                  have hk583 := kp_up hM574 (fun h => absurd h.2 (by decide)) hf562
                  have hF584 := Fr.put hF570 hM574 (by omega)
                  refine j_iconst hX dX7_readRoom_161 ?_
                  exact hret _ _ _ _ dX7_readRoom_162 (nb (by omega)) (by omega) ⟨hI575, hF584, by omega, by omega, by first | (intro h; omega) | (intro _; assumption) | (intro _ h; omega)⟩
              · skip
                refine j_iconst hX dX7_readRoom_111 ?_
                exact hret _ _ _ _ dX7_readRoom_112 (nb (by omega)) (by omega) ⟨hI483, hF492, by omega, by omega, by first | (intro h; omega) | (intro _; assumption) | (intro _ h; omega)⟩
          · skip
            refine j_aload_n hX dX7_readRoom_63 rfl 1 rfl ?_
            refine j_iconst hX dX7_readRoom_64 ?_
            refine j_callVI hX lk_X7_95 (c_X7_refuse _ _ _ _ _ _ _ _ (by omega) hI422 (by omega) (by assumption) hk426) (by omega) hce rfl rfl (by omega) (by omega) kc_1 rfl rfl (Nat.le_of_ble_eq_true rfl) dX7_readRoom_65 (fun z585 M586 hz588 hp587 => ?_)
            obtain ⟨hI589, hG590, hb591, hq592⟩ := hp587
            have hV593 := DL_fr hV425 hG590 (fun b => by omega) (by omega) (by omega)
            have hk594 := kp_fr hG590 (by omega) hk426
            have hk595 := kp_fr hG590 (by omega) hk427
            have hk596 := kp_fr hG590 (by omega) hk428
            have hk597 := kp_fr hG590 (by omega) hk429
            have hk598 := kp_fr hG590 (by omega) hk430
            have hF599 := Fr.trans hF431 hG590 (fun a b h => by omega)
            exact hret _ _ _ _ dX7_readRoom_68 (nb (by omega)) (by omega) ⟨hI589, hF599, by omega, by omega, by first | (intro h; omega) | (intro _; assumption) | (intro _ h; omega)⟩
        · skip
          refine j_iconst hX dX7_readRoom_43 ?_
          exact hret _ _ _ _ dX7_readRoom_44 (nb (by omega)) (by omega) ⟨hI422, hF431, by omega, by omega, by first | (intro h; omega) | (intro _; assumption) | (intro _ h; omega)⟩
set_option maxHeartbeats 4000000 in
set_option maxRecDepth 20000 in
theorem c_X7_readFact (l : Launch) (D : va_G) (cy : Nat → ClassId) (B N : Nat) (q : Int) (M : MM) (hN : 210 ≤ N) (hI : Iv M) (hq : q = 5 ∨ q = 180) (hto : M.1 1 1 = q) (hDL : DL q M) (hkn : M.1 2 4 = 2 → 0 ≤ M.1 2 6) : CI l D cy B N 11 yX7_readFact cX7_readFact 2 (some .boolean) [rv B 1] M (fun z M' => Iv M' ∧ Fr (fun a b => (a = 1 ∧ 2 ≤ b ∧ b ≤ 4) ∨ (a = 2 ∧ 3 ≤ b ∧ b ≤ 6) ∨ (q ≤ a ∧ a ≤ q + 20)) M M' ∧ (z = 0 ∨ z = 1) ∧ (M'.1 2 4 = 2 → 0 ≤ M'.1 2 6) ∧ (z = 1 → DL q M')) := by
  refine mk_CI (by decide) (Nat.le_of_ble_eq_true rfl) ?_
  intro X exl exD excy hnL hX hret
  have hce : 0 + 0 ≤ (xR X).cells ∧ 0 + 0 ≤ (xR X).slots := ⟨Nat.zero_le _, Nat.zero_le _⟩
  have hF : Fr (fun a b => (a = 1 ∧ 2 ≤ b ∧ b ≤ 4) ∨ (a = 2 ∧ 3 ≤ b ∧ b ≤ 6) ∨ (q ≤ a ∧ a ≤ q + 20)) M M := Fr.rf
  have hk1 : M.1 2 4 = M.1 2 4 := rfl
  have hk2 : M.1 2 6 = M.1 2 6 := rfl
  show J X B N 0 0 0 [(0, rv B 1)] [] M
  refine j_aload_n hX dX7_readFact_0 rfl 0 rfl ?_
  refine gf_X7_21 hX (by omega) (by omega) kc_1 hto (by omega) dX7_readFact_1 ?_
  refine gf_X7_139 hX (by omega) (by omega) (kq hq) dX7_readFact_4 ?_
  refine j_name hI (rq_4 hq) (fun v3 hv4 hl5 hh6 => ?_)
  have hk7 := hv4.symm
  refine j_istore_n (lv' := [(1, _), (0, _)]) hX dX7_readFact_7 rfl (by rw [hnL]; decide) rfl ?_
  refine j_aload_n hX dX7_readFact_8 rfl 1 rfl ?_
  refine j_iload_n hX dX7_readFact_9 rfl 0 rfl ?_
  refine j_bipush hX dX7_readFact_10 rfl ?_
  refine j_icmp_ge (tgt := 19) hX dX7_readFact_12 (by decide) (by omega) (by omega) (fun hc8 => ?_) (fun hc8 => ?_)
  · skip
    refine j_iconst hX dX7_readFact_19 ?_
    refine j_callVI hX lk_X7_82 (c_X7_mayStart _ _ _ _ _ _ _ _ (by omega) hI (by omega) (by assumption) hto (by first | omega | assumption) (by first | omega | assumption)) (by omega) hce rfl rfl (by omega) (by omega) kc_1 rfl rfl (Nat.le_of_ble_eq_true rfl) dX7_readFact_20 (fun z9 M10 hz12 hp11 => ?_)
    obtain ⟨hI13, hG14, hb15, hq16, hq17⟩ := hp11
    have hV18 := DL_fr hDL hG14 (fun b => by omega) (by omega) (by omega)
    have hk19 := kp_fr hG14 (by omega) hto
    have hk20 := kp_fr hG14 (by omega) hk7
    have hF21 := Fr.trans hF hG14 (fun a b h => by omega)
    have hk22 : M10.1 2 4 = M10.1 2 4 := rfl
    have hk23 : M10.1 2 6 = M10.1 2 6 := rfl
    refine j_if_eq (tgt := 33) hX dX7_readFact_23 (by decide) (by omega) (fun hc24 => ?_) (fun hc24 => ?_)
    · skip
      refine j_iconst hX dX7_readFact_33 ?_
      exact hret _ _ _ _ dX7_readFact_34 (nb (by omega)) (by omega) ⟨hI13, hF21, by omega, by omega, by first | (intro h; omega) | (intro _; assumption) | (intro _ h; omega)⟩
    · skip
      refine j_aload_n hX dX7_readFact_26 rfl 1 rfl ?_
      refine j_callVI hX lk_X7_105 (c_X7_isName _ _ _ _ _ _ _ (by omega) hI13 (by assumption) hk19) (by omega) hce rfl rfl (by omega) (by omega) kc_1 rfl rfl (Nat.le_of_ble_eq_true rfl) dX7_readFact_27 (fun z25 M26 hz28 hp27 => ?_)
      obtain ⟨hI29, hG30, hb31⟩ := hp27
      have hV32 := DL_fr hV18 hG30 (fun b => by omega) (by omega) (by omega)
      have hk33 := kp_fr hG30 (by omega) hk19
      have hk34 := kp_fr hG30 (by omega) hk20
      have hk35 := kp_fr hG30 (by omega) hk22
      have hk36 := kp_fr hG30 (by omega) hk23
      have hF37 := Fr.trans hF21 hG30 (fun a b h => by omega)
      refine j_if_ne (tgt := 35) hX dX7_readFact_30 (by decide) (by omega) (fun hc38 => ?_) (fun hc38 => ?_)
      · skip
        refine j_aload_n hX dX7_readFact_35 rfl 1 rfl ?_
        refine gf_X7_21 hX (by omega) (by omega) kc_1 hk33 (by omega) dX7_readFact_36 ?_
        refine j_aload_n hX dX7_readFact_39 rfl 1 rfl ?_
        refine gf_X7_12 hX (by omega) (by omega) kc_1 (fc_1_0 hI29) (by decide) dX7_readFact_40 ?_
        refine gf_X7_108 hX (by omega) (by omega) kc_2 dX7_readFact_43 ?_
        refine j_callVI hX lk_X7_142 (c_X6_factNamed _ _ _ _ _ q _ _ (by omega) hI29 hq) (by omega) hce rfl rfl (by omega) (by omega) (kq hq) rfl rfl (Nat.le_of_ble_eq_true rfl) dX7_readFact_46 (fun z39 M40 hz42 hp41 => ?_)
        obtain ⟨rfl, hq43⟩ := hp41
        refine j_iconst hX dX7_readFact_49 ?_
        refine j_icmp_eq (tgt := 59) hX dX7_readFact_50 (by decide) (by omega) (by omega) (fun hc44 => ?_) (fun hc44 => ?_)
        · skip
          refine j_aload_n hX dX7_readFact_59 rfl 1 rfl ?_
          refine gf_X7_21 hX (by omega) (by omega) kc_1 hk33 (by omega) dX7_readFact_60 ?_
          refine gf_X7_145 hX (by omega) (by omega) (kq hq) (fq_5 hI29 hq) (by omega) dX7_readFact_63 ?_
          refine j_iload_n hX dX7_readFact_66 rfl 0 rfl ?_
          refine j_aload_n hX dX7_readFact_67 rfl 1 rfl ?_
          refine gf_X7_12 hX (by omega) (by omega) kc_1 (fc_1_0 hI29) (by decide) dX7_readFact_68 ?_
          refine gf_X7_108 hX (by omega) (by omega) kc_2 dX7_readFact_71 ?_
          refine j_last hX (by omega) (by omega) (kq_3 hq) (by omega) (by omega) (by omega) dX7_readFact_74 ?_
          refine j_upL hI29 (fun M45 hM46 hI47 => ?_)
          have hV48 := DL_l hV32 hM46
          have hk49 := kp_l hM46 hk33
          have hk50 := kp_l hM46 hk34
          have hk51 := kp_l hM46 hk35
          have hk52 := kp_l hM46 hk36
          have hF53 := Fr.l hF37 hM46
          refine j_aload_n hX dX7_readFact_75 rfl 1 rfl ?_
          refine gf_X7_12 hX (by omega) (by omega) kc_1 (fc_1_0 hI47) (by decide) dX7_readFact_76 ?_
          refine j_callVV hX lk_X7_41 (c_X9_advance _ _ _ _ _ _ (by omega) hI47 (by first | omega | assumption)) (by omega) hce rfl rfl (by omega) (by omega) kc_2 rfl rfl (Nat.le_of_ble_eq_true rfl) dX7_readFact_79 (fun M55 hp56 => ?_)
          obtain ⟨hI58, hG59, hq60⟩ := hp56
          have hV61 := DL_fr hV48 hG59 (fun b => by omega) (by omega) (by omega)
          have hk62 := kp_fr hG59 (by omega) hk49
          have hk63 := kp_fr hG59 (by omega) hk50
          have hF64 := Fr.trans hF53 hG59 (fun a b h => by omega)
          have hk65 : M55.1 2 4 = M55.1 2 4 := rfl
          have hk66 : M55.1 2 6 = M55.1 2 6 := rfl
          refine j_aload_n hX dX7_readFact_82 rfl 1 rfl ?_
          refine j_sipush hX dX7_readFact_83 rfl ?_
          refine j_callVI hX lk_X7_51 (c_X7_take _ _ _ _ _ _ _ _ (by omega) hI58 (by omega) (by assumption) hk62 (by first | omega | assumption)) (by omega) hce rfl rfl (by omega) (by omega) kc_1 rfl rfl (Nat.le_of_ble_eq_true rfl) dX7_readFact_86 (fun z67 M68 hz70 hp69 => ?_)
          obtain ⟨hI71, hG72, hb73, hq74⟩ := hp69
          have hV75 := DL_fr hV61 hG72 (fun b => by omega) (by omega) (by omega)
          have hk76 := kp_fr hG72 (by omega) hk62
          have hk77 := kp_fr hG72 (by omega) hk63
          have hF78 := Fr.trans hF64 hG72 (fun a b h => by omega)
          have hk79 : M68.1 2 4 = M68.1 2 4 := rfl
          have hk80 : M68.1 2 6 = M68.1 2 6 := rfl
          refine j_if_eq (tgt := 99) hX dX7_readFact_89 (by decide) (by omega) (fun hc81 => ?_) (fun hc81 => ?_)
          · skip
            refine j_iconst hX dX7_readFact_99 ?_
            exact hret _ _ _ _ dX7_readFact_100 (nb (by omega)) (by omega) ⟨hI71, hF78, by omega, by omega, by first | (intro h; omega) | (intro _; assumption) | (intro _ h; omega)⟩
          · skip
            refine j_aload_n hX dX7_readFact_92 rfl 1 rfl ?_
            refine j_callVI hX lk_X7_133 (c_X7_isRoom _ _ _ _ _ _ _ (by omega) hI71 (by assumption) hk76) (by omega) hce rfl rfl (by omega) (by omega) kc_1 rfl rfl (Nat.le_of_ble_eq_true rfl) dX7_readFact_93 (fun z82 M83 hz85 hp84 => ?_)
            obtain ⟨hI86, hG87, hb88, hq89⟩ := hp84
            have hV90 := DL_fr hV75 hG87 (fun b => by omega) (by omega) (by omega)
            have hk91 := kp_fr hG87 (by omega) hk76
            have hk92 := kp_fr hG87 (by omega) hk77
            have hk93 := kp_fr hG87 (by omega) hk79
            have hk94 := kp_fr hG87 (by omega) hk80
            have hF95 := Fr.trans hF78 hG87 (fun a b h => by omega)
            refine j_if_ne (tgt := 101) hX dX7_readFact_96 (by decide) (by omega) (fun hc96 => ?_) (fun hc96 => ?_)
            · skip
              refine j_aload_n hX dX7_readFact_101 rfl 1 rfl ?_
              refine gf_X7_21 hX (by omega) (by omega) kc_1 hk91 (by omega) dX7_readFact_102 ?_
              refine gf_X7_148 hX (by omega) (by omega) (kq hq) (fq_6 hI86 hq) (by omega) dX7_readFact_105 ?_
              refine j_iload_n hX dX7_readFact_108 rfl 0 rfl ?_
              refine j_aload_n hX dX7_readFact_109 rfl 1 rfl ?_
              refine gf_X7_32 hX (by omega) (by omega) kc_1 dX7_readFact_110 ?_
              refine j_name hI86 ro_1_4 (fun v97 hv98 hl99 hh100 => ?_)
              have hk101 := hv98.symm
              refine j_iast hX (by omega) (by omega) (kq_4 hq) (by omega) (by omega) (by omega) (by omega) dX7_readFact_113 ?_
              refine j_up hI86 (aq_4 hq _) (by omega) (by omega) (Or.inl (by omega)) (fun M102 w103 hw104 hM105 hI106 hf107 => ?_)
              have hV108 := DL_up hV90 hM105 (by omega) (by omega)
              have hk109 := kp_up hM105 (by omega) hk91
              have hk110 := kp_up hM105 (by omega) hk92
              have hk111 := kp_up hM105 (by omega) hk93
              have hk112 := kp_up hM105 (by omega) hk94
              have hk113 := kp_up hM105 (by omega) hk101
              have hF114 := Fr.put hF95 hM105 (by omega)
              refine j_aload_n hX dX7_readFact_114 rfl 1 rfl ?_
              refine gf_X7_12 hX (by omega) (by omega) kc_1 (fc_1_0 hI106) (by decide) dX7_readFact_115 ?_
              refine j_callVV hX lk_X7_41 (c_X9_advance _ _ _ _ _ _ (by omega) hI106 (by first | omega | assumption)) (by omega) hce rfl rfl (by omega) (by omega) kc_2 rfl rfl (Nat.le_of_ble_eq_true rfl) dX7_readFact_118 (fun M116 hp117 => ?_)
              obtain ⟨hI119, hG120, hq121⟩ := hp117
              have hV122 := DL_fr hV108 hG120 (fun b => by omega) (by omega) (by omega)
              have hk123 := kp_fr hG120 (by omega) hk109
              have hk124 := kp_fr hG120 (by omega) hk110
              have hk125 := kp_fr hG120 (by omega) hk113
              have hF126 := Fr.trans hF114 hG120 (fun a b h => by omega)
              have hk127 : M116.1 2 4 = M116.1 2 4 := rfl
              have hk128 : M116.1 2 6 = M116.1 2 6 := rfl
              refine j_aload_n hX dX7_readFact_121 rfl 1 rfl ?_
              refine j_sipush hX dX7_readFact_122 rfl ?_
              refine j_callVI hX lk_X7_51 (c_X7_take _ _ _ _ _ _ _ _ (by omega) hI119 (by omega) (by assumption) hk123 (by first | omega | assumption)) (by omega) hce rfl rfl (by omega) (by omega) kc_1 rfl rfl (Nat.le_of_ble_eq_true rfl) dX7_readFact_125 (fun z129 M130 hz132 hp131 => ?_)
              obtain ⟨hI133, hG134, hb135, hq136⟩ := hp131
              have hV137 := DL_fr hV122 hG134 (fun b => by omega) (by omega) (by omega)
              have hk138 := kp_fr hG134 (by omega) hk123
              have hk139 := kp_fr hG134 (by omega) hk124
              have hk140 := kp_fr hG134 (by omega) hk125
              have hF141 := Fr.trans hF126 hG134 (fun a b h => by omega)
              have hk142 : M130.1 2 4 = M130.1 2 4 := rfl
              have hk143 : M130.1 2 6 = M130.1 2 6 := rfl
              refine j_if_eq (tgt := 140) hX dX7_readFact_128 (by decide) (by omega) (fun hc144 => ?_) (fun hc144 => ?_)
              · skip
                refine j_iconst hX dX7_readFact_140 ?_
                exact hret _ _ _ _ dX7_readFact_141 (nb (by omega)) (by omega) ⟨hI133, hF141, by omega, by omega, by first | (intro h; omega) | (intro _; assumption) | (intro _ h; omega)⟩
              · skip
                refine j_aload_n hX dX7_readFact_131 rfl 1 rfl ?_
                refine j_bipush hX dX7_readFact_132 rfl ?_
                refine j_callVI hX lk_X7_120 (c_X7_takeNumber _ _ _ _ _ _ _ _ (by omega) hI133 (by omega) (by assumption) hk138 (by first | omega | assumption)) (by omega) hce rfl rfl (by omega) (by omega) kc_1 rfl rfl (Nat.le_of_ble_eq_true rfl) dX7_readFact_134 (fun z145 M146 hz148 hp147 => ?_)
                obtain ⟨hI149, hG150, hb151, hq152, hq153⟩ := hp147
                have hV154 := DL_fr hV137 hG150 (fun b => by omega) (by omega) (by omega)
                have hk155 := kp_fr hG150 (by omega) hk138
                have hk156 := kp_fr hG150 (by omega) hk139
                have hF157 := Fr.trans hF141 hG150 (fun a b h => by omega)
                have hk158 : M146.1 2 4 = M146.1 2 4 := rfl
                have hk159 : M146.1 2 6 = M146.1 2 6 := rfl
                refine j_if_ne (tgt := 142) hX dX7_readFact_137 (by decide) (by omega) (fun hc160 => ?_) (fun hc160 => ?_)
                · skip
                  refine j_aload_n hX dX7_readFact_142 rfl 1 rfl ?_
                  refine gf_X7_21 hX (by omega) (by omega) kc_1 hk155 (by omega) dX7_readFact_143 ?_
                  refine gf_X7_151 hX (by omega) (by omega) (kq hq) (fq_7 hI149 hq) (by omega) dX7_readFact_146 ?_
                  refine j_iload_n hX dX7_readFact_149 rfl 0 rfl ?_
                  refine j_aload_n hX dX7_readFact_150 rfl 1 rfl ?_
                  refine gf_X7_32 hX (by omega) (by omega) kc_1 dX7_readFact_151 ?_
                  refine j_name hI149 ro_1_4 (fun v161 hv162 hl163 hh164 => ?_)
                  have hk165 := hv162.symm
                  refine j_iast hX (by omega) (by omega) (kq_5 hq) (by omega) (by omega) (by omega) (by omega) dX7_readFact_154 ?_
                  refine j_up hI149 (aq_5 hq _) (by omega) (by omega) (Or.inl (by omega)) (fun M166 w167 hw168 hM169 hI170 hf171 => ?_)
                  have hV172 := DL_up hV154 hM169 (by omega) (by omega)
                  have hk173 := kp_up hM169 (by omega) hk155
                  have hk174 := kp_up hM169 (by omega) hk156
                  have hk175 := kp_up hM169 (by omega) hk158
                  have hk176 := kp_up hM169 (by omega) hk159
                  have hk177 := kp_up hM169 (by omega) hk165
                  have hF178 := Fr.put hF157 hM169 (by omega)
                  refine j_aload_n hX dX7_readFact_155 rfl 1 rfl ?_
                  refine j_sipush hX dX7_readFact_156 rfl ?_
                  refine j_callVI hX lk_X7_127 (c_X7_takeIf _ _ _ _ _ _ _ _ (by omega) hI170 (by omega) (by assumption) hk173 (by first | omega | assumption)) (by omega) hce rfl rfl (by omega) (by omega) kc_1 rfl rfl (Nat.le_of_ble_eq_true rfl) dX7_readFact_159 (fun z179 M180 hz182 hp181 => ?_)
                  obtain ⟨hI183, hG184, hb185, hq186⟩ := hp181
                  have hV187 := DL_fr hV172 hG184 (fun b => by omega) (by omega) (by omega)
                  have hk188 := kp_fr hG184 (by omega) hk173
                  have hk189 := kp_fr hG184 (by omega) hk174
                  have hk190 := kp_fr hG184 (by omega) hk177
                  have hF191 := Fr.trans hF178 hG184 (fun a b h => by omega)
                  have hk192 : M180.1 2 4 = M180.1 2 4 := rfl
                  have hk193 : M180.1 2 6 = M180.1 2 6 := rfl
                  refine j_if_eq (tgt := 180) hX dX7_readFact_162 (by decide) (by omega) (fun hc194 => ?_) (fun hc194 => ?_)
                  · skip
                    refine j_aload_n hX dX7_readFact_180 rfl 1 rfl ?_
                    refine gf_X7_21 hX (by omega) (by omega) kc_1 hk188 (by omega) dX7_readFact_181 ?_
                    refine j_iload_n hX dX7_readFact_184 rfl 0 rfl ?_
                    refine j_iconst hX dX7_readFact_185 ?_
                    refine j_iadd hX dX7_readFact_186 ?_
                    refine pf_X7_139 hX (by omega) (by omega) (kq hq) (by omega) dX7_readFact_187 ?_
                    refine j_up hI183 (rq_4 hq) (by omega) (by omega) (Or.inl (by omega)) (fun M195 w196 hw197 hM198 hI199 hf200 => ?_)
                    have hV201 := DL_up hV187 hM198 (by omega) (by omega)
                    have hk202 := kp_up hM198 (by omega) hk188
                    have hk203 := kp_up hM198 (by omega) hk190
                    have hk204 := kp_up hM198 (by omega) hk192
                    have hk205 := kp_up hM198 (by omega) hk193
                    have hF206 := Fr.put hF191 hM198 (by omega)
                    refine j_iconst hX dX7_readFact_190 ?_
                    exact hret _ _ _ _ dX7_readFact_191 (nb (by omega)) (by omega) ⟨hI199, hF206, by omega, by omega, by first | (intro h; omega) | (intro _; assumption) | (intro _ h; omega)⟩
                  · skip
                    refine j_aload_n hX dX7_readFact_165 rfl 1 rfl ?_
                    refine gf_X7_21 hX (by omega) (by omega) kc_1 hk188 (by omega) dX7_readFact_166 ?_
                    refine j_dup hX dX7_readFact_169 rfl ?_
                    refine gf_X7_154 hX (by omega) (by omega) (kq hq) dX7_readFact_170 ?_
                    refine j_name hI183 (rq_8 hq) (fun v207 hv208 hl209 hh210 => ?_)
                    have hk211 := hv208.symm
                    refine j_iconst hX dX7_readFact_173 ?_
                    refine j_iload_n hX dX7_readFact_174 rfl 0 rfl ?_
                    refine j_ishl hX dX7_readFact_175 (fun z212 hz213 hy214 => ?_)
                    have ha215 := shl_b hz213
                    refine j_ior hX dX7_readFact_176 (fun z216 hz217 hy218 => ?_)
                    refine pf_X7_154 hX (by omega) (by omega) (kq hq) (by omega) dX7_readFact_177 ?_
                    refine j_up hI183 (rq_8 hq) (by omega) (by omega) (Or.inl (by omega)) (fun M219 w220 hw221 hM222 hI223 hf224 => ?_)
                    have hV225 := DL_up hV187 hM222 (by omega) (by omega)
                    have hk226 := kp_up hM222 (by omega) hk188
                    have hk227 := kp_up hM222 (fun h => absurd h.2 (by decide)) hk189
                    have hk228 := kp_up hM222 (by omega) hk190
                    have hk229 := kp_up hM222 (by omega) hk192
                    have hk230 := kp_up hM222 (by omega) hk193
                    have hF231 := Fr.put hF191 hM222 (by omega)
                    refine j_aload_n hX dX7_readFact_180 rfl 1 rfl ?_
                    refine gf_X7_21 hX (by omega) (by omega) kc_1 hk226 (by omega) dX7_readFact_181 ?_
                    refine j_iload_n hX dX7_readFact_184 rfl 0 rfl ?_
                    refine j_iconst hX dX7_readFact_185 ?_
                    refine j_iadd hX dX7_readFact_186 ?_
                    refine pf_X7_139 hX (by omega) (by omega) (kq hq) (by omega) dX7_readFact_187 ?_
                    refine j_up hI223 (rq_4 hq) (by omega) (by omega) (Or.inl (by omega)) (fun M232 w233 hw234 hM235 hI236 hf237 => ?_)
                    have hV238 := DL_up hV225 hM235 (by omega) (by omega)
                    have hk239 := kp_up hM235 (by omega) hk226
                    have hk240 := kp_up hM235 (by omega) hk228
                    have hk241 := kp_up hM235 (by omega) hk229
                    have hk242 := kp_up hM235 (by omega) hk230
                    have hk243 := kp_up hM235 (fun h => absurd h.2 (by decide)) hf224
                    have hF244 := Fr.put hF231 hM235 (by omega)
                    refine j_iconst hX dX7_readFact_190 ?_
                    exact hret _ _ _ _ dX7_readFact_191 (nb (by omega)) (by omega) ⟨hI236, hF244, by omega, by omega, by first | (intro h; omega) | (intro _; assumption) | (intro _ h; omega)⟩
                · skip
                  refine j_iconst hX dX7_readFact_140 ?_
                  exact hret _ _ _ _ dX7_readFact_141 (nb (by omega)) (by omega) ⟨hI149, hF157, by omega, by omega, by first | (intro h; omega) | (intro _; assumption) | (intro _ h; omega)⟩
            · skip
              refine j_iconst hX dX7_readFact_99 ?_
              exact hret _ _ _ _ dX7_readFact_100 (nb (by omega)) (by omega) ⟨hI86, hF95, by omega, by omega, by first | (intro h; omega) | (intro _; assumption) | (intro _ h; omega)⟩
        · skip
          refine j_aload_n hX dX7_readFact_53 rfl 1 rfl ?_
          refine j_iconst hX dX7_readFact_54 ?_
          refine j_callVI hX lk_X7_95 (c_X7_refuse _ _ _ _ _ _ _ _ (by omega) hI29 (by omega) (by assumption) hk33) (by omega) hce rfl rfl (by omega) (by omega) kc_1 rfl rfl (Nat.le_of_ble_eq_true rfl) dX7_readFact_55 (fun z245 M246 hz248 hp247 => ?_)
          obtain ⟨hI249, hG250, hb251, hq252⟩ := hp247
          have hV253 := DL_fr hV32 hG250 (fun b => by omega) (by omega) (by omega)
          have hk254 := kp_fr hG250 (by omega) hk33
          have hk255 := kp_fr hG250 (by omega) hk34
          have hk256 := kp_fr hG250 (by omega) hk35
          have hk257 := kp_fr hG250 (by omega) hk36
          have hF258 := Fr.trans hF37 hG250 (fun a b h => by omega)
          exact hret _ _ _ _ dX7_readFact_58 (nb (by omega)) (by omega) ⟨hI249, hF258, by omega, by omega, by first | (intro h; omega) | (intro _; assumption) | (intro _ h; omega)⟩
      · skip
        refine j_iconst hX dX7_readFact_33 ?_
        exact hret _ _ _ _ dX7_readFact_34 (nb (by omega)) (by omega) ⟨hI29, hF37, by omega, by omega, by first | (intro h; omega) | (intro _; assumption) | (intro _ h; omega)⟩
  · skip
    refine j_iconst hX dX7_readFact_15 ?_
    refine j_goto (tgt := 20) hX dX7_readFact_16 (by decide) ?_
    refine j_callVI hX lk_X7_82 (c_X7_mayStart _ _ _ _ _ _ _ _ (by omega) hI (by omega) (by assumption) hto (by first | omega | assumption) (by first | omega | assumption)) (by omega) hce rfl rfl (by omega) (by omega) kc_1 rfl rfl (Nat.le_of_ble_eq_true rfl) dX7_readFact_20 (fun z259 M260 hz262 hp261 => ?_)
    obtain ⟨hI263, hG264, hb265, hq266, hq267⟩ := hp261
    have hV268 := DL_fr hDL hG264 (fun b => by omega) (by omega) (by omega)
    have hk269 := kp_fr hG264 (by omega) hto
    have hk270 := kp_fr hG264 (by omega) hk7
    have hF271 := Fr.trans hF hG264 (fun a b h => by omega)
    have hk272 : M260.1 2 4 = M260.1 2 4 := rfl
    have hk273 : M260.1 2 6 = M260.1 2 6 := rfl
    refine j_if_eq (tgt := 33) hX dX7_readFact_23 (by decide) (by omega) (fun hc274 => ?_) (fun hc274 => ?_)
    · skip
      refine j_iconst hX dX7_readFact_33 ?_
      exact hret _ _ _ _ dX7_readFact_34 (nb (by omega)) (by omega) ⟨hI263, hF271, by omega, by omega, by first | (intro h; omega) | (intro _; assumption) | (intro _ h; omega)⟩
    · skip
      refine j_aload_n hX dX7_readFact_26 rfl 1 rfl ?_
      refine j_callVI hX lk_X7_105 (c_X7_isName _ _ _ _ _ _ _ (by omega) hI263 (by assumption) hk269) (by omega) hce rfl rfl (by omega) (by omega) kc_1 rfl rfl (Nat.le_of_ble_eq_true rfl) dX7_readFact_27 (fun z275 M276 hz278 hp277 => ?_)
      obtain ⟨hI279, hG280, hb281⟩ := hp277
      have hV282 := DL_fr hV268 hG280 (fun b => by omega) (by omega) (by omega)
      have hk283 := kp_fr hG280 (by omega) hk269
      have hk284 := kp_fr hG280 (by omega) hk270
      have hk285 := kp_fr hG280 (by omega) hk272
      have hk286 := kp_fr hG280 (by omega) hk273
      have hF287 := Fr.trans hF271 hG280 (fun a b h => by omega)
      refine j_if_ne (tgt := 35) hX dX7_readFact_30 (by decide) (by omega) (fun hc288 => ?_) (fun hc288 => ?_)
      · skip
        refine j_aload_n hX dX7_readFact_35 rfl 1 rfl ?_
        refine gf_X7_21 hX (by omega) (by omega) kc_1 hk283 (by omega) dX7_readFact_36 ?_
        refine j_aload_n hX dX7_readFact_39 rfl 1 rfl ?_
        refine gf_X7_12 hX (by omega) (by omega) kc_1 (fc_1_0 hI279) (by decide) dX7_readFact_40 ?_
        refine gf_X7_108 hX (by omega) (by omega) kc_2 dX7_readFact_43 ?_
        refine j_callVI hX lk_X7_142 (c_X6_factNamed _ _ _ _ _ q _ _ (by omega) hI279 hq) (by omega) hce rfl rfl (by omega) (by omega) (kq hq) rfl rfl (Nat.le_of_ble_eq_true rfl) dX7_readFact_46 (fun z289 M290 hz292 hp291 => ?_)
        obtain ⟨rfl, hq293⟩ := hp291
        refine j_iconst hX dX7_readFact_49 ?_
        refine j_icmp_eq (tgt := 59) hX dX7_readFact_50 (by decide) (by omega) (by omega) (fun hc294 => ?_) (fun hc294 => ?_)
        · skip
          refine j_aload_n hX dX7_readFact_59 rfl 1 rfl ?_
          refine gf_X7_21 hX (by omega) (by omega) kc_1 hk283 (by omega) dX7_readFact_60 ?_
          refine gf_X7_145 hX (by omega) (by omega) (kq hq) (fq_5 hI279 hq) (by omega) dX7_readFact_63 ?_
          refine j_iload_n hX dX7_readFact_66 rfl 0 rfl ?_
          refine j_aload_n hX dX7_readFact_67 rfl 1 rfl ?_
          refine gf_X7_12 hX (by omega) (by omega) kc_1 (fc_1_0 hI279) (by decide) dX7_readFact_68 ?_
          refine gf_X7_108 hX (by omega) (by omega) kc_2 dX7_readFact_71 ?_
          refine j_last hX (by omega) (by omega) (kq_3 hq) (by omega) (by omega) (by omega) dX7_readFact_74 ?_
          refine j_upL hI279 (fun M295 hM296 hI297 => ?_)
          have hV298 := DL_l hV282 hM296
          have hk299 := kp_l hM296 hk283
          have hk300 := kp_l hM296 hk284
          have hk301 := kp_l hM296 hk285
          have hk302 := kp_l hM296 hk286
          have hF303 := Fr.l hF287 hM296
          refine j_aload_n hX dX7_readFact_75 rfl 1 rfl ?_
          refine gf_X7_12 hX (by omega) (by omega) kc_1 (fc_1_0 hI297) (by decide) dX7_readFact_76 ?_
          refine j_callVV hX lk_X7_41 (c_X9_advance _ _ _ _ _ _ (by omega) hI297 (by first | omega | assumption)) (by omega) hce rfl rfl (by omega) (by omega) kc_2 rfl rfl (Nat.le_of_ble_eq_true rfl) dX7_readFact_79 (fun M305 hp306 => ?_)
          obtain ⟨hI308, hG309, hq310⟩ := hp306
          have hV311 := DL_fr hV298 hG309 (fun b => by omega) (by omega) (by omega)
          have hk312 := kp_fr hG309 (by omega) hk299
          have hk313 := kp_fr hG309 (by omega) hk300
          have hF314 := Fr.trans hF303 hG309 (fun a b h => by omega)
          have hk315 : M305.1 2 4 = M305.1 2 4 := rfl
          have hk316 : M305.1 2 6 = M305.1 2 6 := rfl
          refine j_aload_n hX dX7_readFact_82 rfl 1 rfl ?_
          refine j_sipush hX dX7_readFact_83 rfl ?_
          refine j_callVI hX lk_X7_51 (c_X7_take _ _ _ _ _ _ _ _ (by omega) hI308 (by omega) (by assumption) hk312 (by first | omega | assumption)) (by omega) hce rfl rfl (by omega) (by omega) kc_1 rfl rfl (Nat.le_of_ble_eq_true rfl) dX7_readFact_86 (fun z317 M318 hz320 hp319 => ?_)
          obtain ⟨hI321, hG322, hb323, hq324⟩ := hp319
          have hV325 := DL_fr hV311 hG322 (fun b => by omega) (by omega) (by omega)
          have hk326 := kp_fr hG322 (by omega) hk312
          have hk327 := kp_fr hG322 (by omega) hk313
          have hF328 := Fr.trans hF314 hG322 (fun a b h => by omega)
          have hk329 : M318.1 2 4 = M318.1 2 4 := rfl
          have hk330 : M318.1 2 6 = M318.1 2 6 := rfl
          refine j_if_eq (tgt := 99) hX dX7_readFact_89 (by decide) (by omega) (fun hc331 => ?_) (fun hc331 => ?_)
          · skip
            refine j_iconst hX dX7_readFact_99 ?_
            exact hret _ _ _ _ dX7_readFact_100 (nb (by omega)) (by omega) ⟨hI321, hF328, by omega, by omega, by first | (intro h; omega) | (intro _; assumption) | (intro _ h; omega)⟩
          · skip
            refine j_aload_n hX dX7_readFact_92 rfl 1 rfl ?_
            refine j_callVI hX lk_X7_133 (c_X7_isRoom _ _ _ _ _ _ _ (by omega) hI321 (by assumption) hk326) (by omega) hce rfl rfl (by omega) (by omega) kc_1 rfl rfl (Nat.le_of_ble_eq_true rfl) dX7_readFact_93 (fun z332 M333 hz335 hp334 => ?_)
            obtain ⟨hI336, hG337, hb338, hq339⟩ := hp334
            have hV340 := DL_fr hV325 hG337 (fun b => by omega) (by omega) (by omega)
            have hk341 := kp_fr hG337 (by omega) hk326
            have hk342 := kp_fr hG337 (by omega) hk327
            have hk343 := kp_fr hG337 (by omega) hk329
            have hk344 := kp_fr hG337 (by omega) hk330
            have hF345 := Fr.trans hF328 hG337 (fun a b h => by omega)
            refine j_if_ne (tgt := 101) hX dX7_readFact_96 (by decide) (by omega) (fun hc346 => ?_) (fun hc346 => ?_)
            · skip
              refine j_aload_n hX dX7_readFact_101 rfl 1 rfl ?_
              refine gf_X7_21 hX (by omega) (by omega) kc_1 hk341 (by omega) dX7_readFact_102 ?_
              refine gf_X7_148 hX (by omega) (by omega) (kq hq) (fq_6 hI336 hq) (by omega) dX7_readFact_105 ?_
              refine j_iload_n hX dX7_readFact_108 rfl 0 rfl ?_
              refine j_aload_n hX dX7_readFact_109 rfl 1 rfl ?_
              refine gf_X7_32 hX (by omega) (by omega) kc_1 dX7_readFact_110 ?_
              refine j_name hI336 ro_1_4 (fun v347 hv348 hl349 hh350 => ?_)
              have hk351 := hv348.symm
              refine j_iast hX (by omega) (by omega) (kq_4 hq) (by omega) (by omega) (by omega) (by omega) dX7_readFact_113 ?_
              refine j_up hI336 (aq_4 hq _) (by omega) (by omega) (Or.inl (by omega)) (fun M352 w353 hw354 hM355 hI356 hf357 => ?_)
              have hV358 := DL_up hV340 hM355 (by omega) (by omega)
              have hk359 := kp_up hM355 (by omega) hk341
              have hk360 := kp_up hM355 (by omega) hk342
              have hk361 := kp_up hM355 (by omega) hk343
              have hk362 := kp_up hM355 (by omega) hk344
              have hk363 := kp_up hM355 (by omega) hk351
              have hF364 := Fr.put hF345 hM355 (by omega)
              refine j_aload_n hX dX7_readFact_114 rfl 1 rfl ?_
              refine gf_X7_12 hX (by omega) (by omega) kc_1 (fc_1_0 hI356) (by decide) dX7_readFact_115 ?_
              refine j_callVV hX lk_X7_41 (c_X9_advance _ _ _ _ _ _ (by omega) hI356 (by first | omega | assumption)) (by omega) hce rfl rfl (by omega) (by omega) kc_2 rfl rfl (Nat.le_of_ble_eq_true rfl) dX7_readFact_118 (fun M366 hp367 => ?_)
              obtain ⟨hI369, hG370, hq371⟩ := hp367
              have hV372 := DL_fr hV358 hG370 (fun b => by omega) (by omega) (by omega)
              have hk373 := kp_fr hG370 (by omega) hk359
              have hk374 := kp_fr hG370 (by omega) hk360
              have hk375 := kp_fr hG370 (by omega) hk363
              have hF376 := Fr.trans hF364 hG370 (fun a b h => by omega)
              have hk377 : M366.1 2 4 = M366.1 2 4 := rfl
              have hk378 : M366.1 2 6 = M366.1 2 6 := rfl
              refine j_aload_n hX dX7_readFact_121 rfl 1 rfl ?_
              refine j_sipush hX dX7_readFact_122 rfl ?_
              refine j_callVI hX lk_X7_51 (c_X7_take _ _ _ _ _ _ _ _ (by omega) hI369 (by omega) (by assumption) hk373 (by first | omega | assumption)) (by omega) hce rfl rfl (by omega) (by omega) kc_1 rfl rfl (Nat.le_of_ble_eq_true rfl) dX7_readFact_125 (fun z379 M380 hz382 hp381 => ?_)
              obtain ⟨hI383, hG384, hb385, hq386⟩ := hp381
              have hV387 := DL_fr hV372 hG384 (fun b => by omega) (by omega) (by omega)
              have hk388 := kp_fr hG384 (by omega) hk373
              have hk389 := kp_fr hG384 (by omega) hk374
              have hk390 := kp_fr hG384 (by omega) hk375
              have hF391 := Fr.trans hF376 hG384 (fun a b h => by omega)
              have hk392 : M380.1 2 4 = M380.1 2 4 := rfl
              have hk393 : M380.1 2 6 = M380.1 2 6 := rfl
              refine j_if_eq (tgt := 140) hX dX7_readFact_128 (by decide) (by omega) (fun hc394 => ?_) (fun hc394 => ?_)
              · skip
                refine j_iconst hX dX7_readFact_140 ?_
                exact hret _ _ _ _ dX7_readFact_141 (nb (by omega)) (by omega) ⟨hI383, hF391, by omega, by omega, by first | (intro h; omega) | (intro _; assumption) | (intro _ h; omega)⟩
              · skip
                refine j_aload_n hX dX7_readFact_131 rfl 1 rfl ?_
                refine j_bipush hX dX7_readFact_132 rfl ?_
                refine j_callVI hX lk_X7_120 (c_X7_takeNumber _ _ _ _ _ _ _ _ (by omega) hI383 (by omega) (by assumption) hk388 (by first | omega | assumption)) (by omega) hce rfl rfl (by omega) (by omega) kc_1 rfl rfl (Nat.le_of_ble_eq_true rfl) dX7_readFact_134 (fun z395 M396 hz398 hp397 => ?_)
                obtain ⟨hI399, hG400, hb401, hq402, hq403⟩ := hp397
                have hV404 := DL_fr hV387 hG400 (fun b => by omega) (by omega) (by omega)
                have hk405 := kp_fr hG400 (by omega) hk388
                have hk406 := kp_fr hG400 (by omega) hk389
                have hF407 := Fr.trans hF391 hG400 (fun a b h => by omega)
                have hk408 : M396.1 2 4 = M396.1 2 4 := rfl
                have hk409 : M396.1 2 6 = M396.1 2 6 := rfl
                refine j_if_ne (tgt := 142) hX dX7_readFact_137 (by decide) (by omega) (fun hc410 => ?_) (fun hc410 => ?_)
                · skip
                  refine j_aload_n hX dX7_readFact_142 rfl 1 rfl ?_
                  refine gf_X7_21 hX (by omega) (by omega) kc_1 hk405 (by omega) dX7_readFact_143 ?_
                  refine gf_X7_151 hX (by omega) (by omega) (kq hq) (fq_7 hI399 hq) (by omega) dX7_readFact_146 ?_
                  refine j_iload_n hX dX7_readFact_149 rfl 0 rfl ?_
                  refine j_aload_n hX dX7_readFact_150 rfl 1 rfl ?_
                  refine gf_X7_32 hX (by omega) (by omega) kc_1 dX7_readFact_151 ?_
                  refine j_name hI399 ro_1_4 (fun v411 hv412 hl413 hh414 => ?_)
                  have hk415 := hv412.symm
                  refine j_iast hX (by omega) (by omega) (kq_5 hq) (by omega) (by omega) (by omega) (by omega) dX7_readFact_154 ?_
                  refine j_up hI399 (aq_5 hq _) (by omega) (by omega) (Or.inl (by omega)) (fun M416 w417 hw418 hM419 hI420 hf421 => ?_)
                  have hV422 := DL_up hV404 hM419 (by omega) (by omega)
                  have hk423 := kp_up hM419 (by omega) hk405
                  have hk424 := kp_up hM419 (by omega) hk406
                  have hk425 := kp_up hM419 (by omega) hk408
                  have hk426 := kp_up hM419 (by omega) hk409
                  have hk427 := kp_up hM419 (by omega) hk415
                  have hF428 := Fr.put hF407 hM419 (by omega)
                  refine j_aload_n hX dX7_readFact_155 rfl 1 rfl ?_
                  refine j_sipush hX dX7_readFact_156 rfl ?_
                  refine j_callVI hX lk_X7_127 (c_X7_takeIf _ _ _ _ _ _ _ _ (by omega) hI420 (by omega) (by assumption) hk423 (by first | omega | assumption)) (by omega) hce rfl rfl (by omega) (by omega) kc_1 rfl rfl (Nat.le_of_ble_eq_true rfl) dX7_readFact_159 (fun z429 M430 hz432 hp431 => ?_)
                  obtain ⟨hI433, hG434, hb435, hq436⟩ := hp431
                  have hV437 := DL_fr hV422 hG434 (fun b => by omega) (by omega) (by omega)
                  have hk438 := kp_fr hG434 (by omega) hk423
                  have hk439 := kp_fr hG434 (by omega) hk424
                  have hk440 := kp_fr hG434 (by omega) hk427
                  have hF441 := Fr.trans hF428 hG434 (fun a b h => by omega)
                  have hk442 : M430.1 2 4 = M430.1 2 4 := rfl
                  have hk443 : M430.1 2 6 = M430.1 2 6 := rfl
                  refine j_if_eq (tgt := 180) hX dX7_readFact_162 (by decide) (by omega) (fun hc444 => ?_) (fun hc444 => ?_)
                  · skip
                    refine j_aload_n hX dX7_readFact_180 rfl 1 rfl ?_
                    refine gf_X7_21 hX (by omega) (by omega) kc_1 hk438 (by omega) dX7_readFact_181 ?_
                    refine j_iload_n hX dX7_readFact_184 rfl 0 rfl ?_
                    refine j_iconst hX dX7_readFact_185 ?_
                    refine j_iadd hX dX7_readFact_186 ?_
                    refine pf_X7_139 hX (by omega) (by omega) (kq hq) (by omega) dX7_readFact_187 ?_
                    refine j_up hI433 (rq_4 hq) (by omega) (by omega) (Or.inl (by omega)) (fun M445 w446 hw447 hM448 hI449 hf450 => ?_)
                    have hV451 := DL_up hV437 hM448 (by omega) (by omega)
                    have hk452 := kp_up hM448 (by omega) hk438
                    have hk453 := kp_up hM448 (by omega) hk440
                    have hk454 := kp_up hM448 (by omega) hk442
                    have hk455 := kp_up hM448 (by omega) hk443
                    have hF456 := Fr.put hF441 hM448 (by omega)
                    refine j_iconst hX dX7_readFact_190 ?_
                    exact hret _ _ _ _ dX7_readFact_191 (nb (by omega)) (by omega) ⟨hI449, hF456, by omega, by omega, by first | (intro h; omega) | (intro _; assumption) | (intro _ h; omega)⟩
                  · skip
                    refine j_aload_n hX dX7_readFact_165 rfl 1 rfl ?_
                    refine gf_X7_21 hX (by omega) (by omega) kc_1 hk438 (by omega) dX7_readFact_166 ?_
                    refine j_dup hX dX7_readFact_169 rfl ?_
                    refine gf_X7_154 hX (by omega) (by omega) (kq hq) dX7_readFact_170 ?_
                    refine j_name hI433 (rq_8 hq) (fun v457 hv458 hl459 hh460 => ?_)
                    have hk461 := hv458.symm
                    refine j_iconst hX dX7_readFact_173 ?_
                    refine j_iload_n hX dX7_readFact_174 rfl 0 rfl ?_
                    refine j_ishl hX dX7_readFact_175 (fun z462 hz463 hy464 => ?_)
                    have ha465 := shl_b hz463
                    refine j_ior hX dX7_readFact_176 (fun z466 hz467 hy468 => ?_)
                    refine pf_X7_154 hX (by omega) (by omega) (kq hq) (by omega) dX7_readFact_177 ?_
                    refine j_up hI433 (rq_8 hq) (by omega) (by omega) (Or.inl (by omega)) (fun M469 w470 hw471 hM472 hI473 hf474 => ?_)
                    have hV475 := DL_up hV437 hM472 (by omega) (by omega)
                    have hk476 := kp_up hM472 (by omega) hk438
                    have hk477 := kp_up hM472 (fun h => absurd h.2 (by decide)) hk439
                    have hk478 := kp_up hM472 (by omega) hk440
                    have hk479 := kp_up hM472 (by omega) hk442
                    have hk480 := kp_up hM472 (by omega) hk443
                    have hF481 := Fr.put hF441 hM472 (by omega)
                    refine j_aload_n hX dX7_readFact_180 rfl 1 rfl ?_
                    refine gf_X7_21 hX (by omega) (by omega) kc_1 hk476 (by omega) dX7_readFact_181 ?_
                    refine j_iload_n hX dX7_readFact_184 rfl 0 rfl ?_
                    refine j_iconst hX dX7_readFact_185 ?_
                    refine j_iadd hX dX7_readFact_186 ?_
                    refine pf_X7_139 hX (by omega) (by omega) (kq hq) (by omega) dX7_readFact_187 ?_
                    refine j_up hI473 (rq_4 hq) (by omega) (by omega) (Or.inl (by omega)) (fun M482 w483 hw484 hM485 hI486 hf487 => ?_)
                    have hV488 := DL_up hV475 hM485 (by omega) (by omega)
                    have hk489 := kp_up hM485 (by omega) hk476
                    have hk490 := kp_up hM485 (by omega) hk478
                    have hk491 := kp_up hM485 (by omega) hk479
                    have hk492 := kp_up hM485 (by omega) hk480
                    have hk493 := kp_up hM485 (fun h => absurd h.2 (by decide)) hf474
                    have hF494 := Fr.put hF481 hM485 (by omega)
                    refine j_iconst hX dX7_readFact_190 ?_
                    exact hret _ _ _ _ dX7_readFact_191 (nb (by omega)) (by omega) ⟨hI486, hF494, by omega, by omega, by first | (intro h; omega) | (intro _; assumption) | (intro _ h; omega)⟩
                · skip
                  refine j_iconst hX dX7_readFact_140 ?_
                  exact hret _ _ _ _ dX7_readFact_141 (nb (by omega)) (by omega) ⟨hI399, hF407, by omega, by omega, by first | (intro h; omega) | (intro _; assumption) | (intro _ h; omega)⟩
            · skip
              refine j_iconst hX dX7_readFact_99 ?_
              exact hret _ _ _ _ dX7_readFact_100 (nb (by omega)) (by omega) ⟨hI336, hF345, by omega, by omega, by first | (intro h; omega) | (intro _; assumption) | (intro _ h; omega)⟩
        · skip
          refine j_aload_n hX dX7_readFact_53 rfl 1 rfl ?_
          refine j_iconst hX dX7_readFact_54 ?_
          refine j_callVI hX lk_X7_95 (c_X7_refuse _ _ _ _ _ _ _ _ (by omega) hI279 (by omega) (by assumption) hk283) (by omega) hce rfl rfl (by omega) (by omega) kc_1 rfl rfl (Nat.le_of_ble_eq_true rfl) dX7_readFact_55 (fun z495 M496 hz498 hp497 => ?_)
          obtain ⟨hI499, hG500, hb501, hq502⟩ := hp497
          have hV503 := DL_fr hV282 hG500 (fun b => by omega) (by omega) (by omega)
          have hk504 := kp_fr hG500 (by omega) hk283
          have hk505 := kp_fr hG500 (by omega) hk284
          have hk506 := kp_fr hG500 (by omega) hk285
          have hk507 := kp_fr hG500 (by omega) hk286
          have hF508 := Fr.trans hF287 hG500 (fun a b h => by omega)
          exact hret _ _ _ _ dX7_readFact_58 (nb (by omega)) (by omega) ⟨hI499, hF508, by omega, by omega, by first | (intro h; omega) | (intro _; assumption) | (intro _ h; omega)⟩
      · skip
        refine j_iconst hX dX7_readFact_33 ?_
        exact hret _ _ _ _ dX7_readFact_34 (nb (by omega)) (by omega) ⟨hI279, hF287, by omega, by omega, by first | (intro h; omega) | (intro _; assumption) | (intro _ h; omega)⟩
set_option maxHeartbeats 4000000 in
set_option maxRecDepth 20000 in
theorem c_X7_readTells (l : Launch) (D : va_G) (cy : Nat → ClassId) (B N : Nat) (q : Int) (M : MM) (hN : 210 ≤ N) (hI : Iv M) (hq : q = 5 ∨ q = 180) (hto : M.1 1 1 = q) (hDL : DL q M) (hkn : M.1 2 4 = 2 → 0 ≤ M.1 2 6) : CI l D cy B N 10 yX7_readTells cX7_readTells 2 (some .boolean) [rv B 1] M (fun z M' => Iv M' ∧ Fr (fun a b => (a = 1 ∧ 2 ≤ b ∧ b ≤ 4) ∨ (a = 2 ∧ 3 ≤ b ∧ b ≤ 6) ∨ (q ≤ a ∧ a ≤ q + 20)) M M' ∧ (z = 0 ∨ z = 1) ∧ (M'.1 2 4 = 2 → 0 ≤ M'.1 2 6) ∧ (z = 1 → DL q M')) := by
  refine mk_CI (by decide) (Nat.le_of_ble_eq_true rfl) ?_
  intro X exl exD excy hnL hX hret
  have hce : 0 + 0 ≤ (xR X).cells ∧ 0 + 0 ≤ (xR X).slots := ⟨Nat.zero_le _, Nat.zero_le _⟩
  have hF : Fr (fun a b => (a = 1 ∧ 2 ≤ b ∧ b ≤ 4) ∨ (a = 2 ∧ 3 ≤ b ∧ b ≤ 6) ∨ (q ≤ a ∧ a ≤ q + 20)) M M := Fr.rf
  have hk1 : M.1 2 4 = M.1 2 4 := rfl
  have hk2 : M.1 2 6 = M.1 2 6 := rfl
  show J X B N 0 0 0 [(0, rv B 1)] [] M
  refine j_aload_n hX dX7_readTells_0 rfl 0 rfl ?_
  refine gf_X7_12 hX (by omega) (by omega) kc_1 (fc_1_0 hI) (by decide) dX7_readTells_1 ?_
  refine j_callVV hX lk_X7_41 (c_X9_advance _ _ _ _ _ _ (by omega) hI (by first | omega | assumption)) (by omega) hce rfl rfl (by omega) (by omega) kc_2 rfl rfl (Nat.le_of_ble_eq_true rfl) dX7_readTells_4 (fun M4 hp5 => ?_)
  obtain ⟨hI7, hG8, hq9⟩ := hp5
  have hV10 := DL_fr hDL hG8 (fun b => by omega) (by omega) (by omega)
  have hk11 := kp_fr hG8 (by omega) hto
  have hF12 := Fr.trans hF hG8 (fun a b h => by omega)
  have hk13 : M4.1 2 4 = M4.1 2 4 := rfl
  have hk14 : M4.1 2 6 = M4.1 2 6 := rfl
  refine j_aload_n hX dX7_readTells_7 rfl 0 rfl ?_
  refine j_callVI hX lk_X7_133 (c_X7_isRoom _ _ _ _ _ _ _ (by omega) hI7 (by assumption) hk11) (by omega) hce rfl rfl (by omega) (by omega) kc_1 rfl rfl (Nat.le_of_ble_eq_true rfl) dX7_readTells_8 (fun z15 M16 hz18 hp17 => ?_)
  obtain ⟨hI19, hG20, hb21, hq22⟩ := hp17
  have hV23 := DL_fr hV10 hG20 (fun b => by omega) (by omega) (by omega)
  have hk24 := kp_fr hG20 (by omega) hk11
  have hk25 := kp_fr hG20 (by omega) hk13
  have hk26 := kp_fr hG20 (by omega) hk14
  have hF27 := Fr.trans hF12 hG20 (fun a b h => by omega)
  refine j_if_ne (tgt := 16) hX dX7_readTells_11 (by decide) (by omega) (fun hc28 => ?_) (fun hc28 => ?_)
  · skip
    refine j_aload_n hX dX7_readTells_16 rfl 0 rfl ?_
    refine gf_X7_32 hX (by omega) (by omega) kc_1 dX7_readTells_17 ?_
    refine j_name hI19 ro_1_4 (fun v29 hv30 hl31 hh32 => ?_)
    have hk33 := hv30.symm
    refine j_istore_n (lv' := [(1, _), (0, _)]) hX dX7_readTells_20 rfl (by rw [hnL]; decide) rfl ?_
    refine j_aload_n hX dX7_readTells_21 rfl 1 rfl ?_
    refine gf_X7_12 hX (by omega) (by omega) kc_1 (fc_1_0 hI19) (by decide) dX7_readTells_22 ?_
    refine j_callVV hX lk_X7_41 (c_X9_advance _ _ _ _ _ _ (by omega) hI19 (by first | omega | assumption)) (by omega) hce rfl rfl (by omega) (by omega) kc_2 rfl rfl (Nat.le_of_ble_eq_true rfl) dX7_readTells_25 (fun M35 hp36 => ?_)
    obtain ⟨hI38, hG39, hq40⟩ := hp36
    have hV41 := DL_fr hV23 hG39 (fun b => by omega) (by omega) (by omega)
    have hk42 := kp_fr hG39 (by omega) hk24
    have hk43 := kp_fr hG39 (by omega) hk33
    have hF44 := Fr.trans hF27 hG39 (fun a b h => by omega)
    have hk45 : M35.1 2 4 = M35.1 2 4 := rfl
    have hk46 : M35.1 2 6 = M35.1 2 6 := rfl
    refine j_aload_n hX dX7_readTells_28 rfl 1 rfl ?_
    refine j_callVI hX lk_X7_133 (c_X7_isRoom _ _ _ _ _ _ _ (by omega) hI38 (by assumption) hk42) (by omega) hce rfl rfl (by omega) (by omega) kc_1 rfl rfl (Nat.le_of_ble_eq_true rfl) dX7_readTells_29 (fun z47 M48 hz50 hp49 => ?_)
    obtain ⟨hI51, hG52, hb53, hq54⟩ := hp49
    have hV55 := DL_fr hV41 hG52 (fun b => by omega) (by omega) (by omega)
    have hk56 := kp_fr hG52 (by omega) hk42
    have hk57 := kp_fr hG52 (by omega) hk45
    have hk58 := kp_fr hG52 (by omega) hk46
    have hF59 := Fr.trans hF44 hG52 (fun a b h => by omega)
    refine j_if_ne (tgt := 37) hX dX7_readTells_32 (by decide) (by omega) (fun hc60 => ?_) (fun hc60 => ?_)
    · skip
      refine j_aload_n hX dX7_readTells_37 rfl 1 rfl ?_
      refine gf_X7_32 hX (by omega) (by omega) kc_1 dX7_readTells_38 ?_
      refine j_name hI51 ro_1_4 (fun v61 hv62 hl63 hh64 => ?_)
      have hk65 := hv62.symm
      refine j_iload_n hX dX7_readTells_41 rfl 0 rfl ?_
      refine j_icmp_eq (tgt := 64) hX dX7_readTells_42 (by decide) (by omega) (by omega) (fun hc66 => ?_) (fun hc66 => ?_)
      · skip
        refine j_aload_n hX dX7_readTells_64 rfl 1 rfl ?_
        refine j_iconst hX dX7_readTells_65 ?_
        refine j_callVI hX lk_X7_95 (c_X7_refuse _ _ _ _ _ _ _ _ (by omega) hI51 (by omega) (by assumption) hk56) (by omega) hce rfl rfl (by omega) (by omega) kc_1 rfl rfl (Nat.le_of_ble_eq_true rfl) dX7_readTells_66 (fun z67 M68 hz70 hp69 => ?_)
        obtain ⟨hI71, hG72, hb73, hq74⟩ := hp69
        have hV75 := DL_fr hV55 hG72 (fun b => by omega) (by omega) (by omega)
        have hk76 := kp_fr hG72 (by omega) hk56
        have hk77 := kp_fr hG72 (by omega) hk57
        have hk78 := kp_fr hG72 (by omega) hk58
        have hk79 := kp_fr hG72 (by omega) hk65
        have hF80 := Fr.trans hF59 hG72 (fun a b h => by omega)
        exact hret _ _ _ _ dX7_readTells_69 (nb (by omega)) (by omega) ⟨hI71, hF80, by omega, by omega, by first | (intro h; omega) | (intro _; assumption) | (intro _ h; omega)⟩
      · skip
        refine j_aload_n hX dX7_readTells_45 rfl 1 rfl ?_
        refine gf_X7_21 hX (by omega) (by omega) kc_1 hk56 (by omega) dX7_readTells_46 ?_
        refine gf_X7_157 hX (by omega) (by omega) (kq hq) (fq_12 hI51 hq) (by omega) dX7_readTells_49 ?_
        refine j_aload_n hX dX7_readTells_52 rfl 1 rfl ?_
        refine gf_X7_32 hX (by omega) (by omega) kc_1 dX7_readTells_53 ?_
        refine j_top hk65 ?_
        refine j_iald hX (by omega) (by omega) (kq_7 hq) (by omega) (by omega) (by omega) dX7_readTells_56 ?_
        refine j_name hI51 (aq_7 hq _) (fun v81 hv82 hl83 hh84 => ?_)
        refine j_iload_n hX dX7_readTells_57 rfl 0 rfl ?_
        refine j_ishr hX dX7_readTells_58 (fun z85 hz86 hy87 => ?_)
        refine j_iconst hX dX7_readTells_59 ?_
        refine j_iand hX dX7_readTells_60 (fun z88 hz89 hy90 => ?_)
        have ha91 := and_f hz89 (by omega) (by omega)
        refine j_if_eq (tgt := 70) hX dX7_readTells_61 (by decide) (by omega) (fun hc92 => ?_) (fun hc92 => ?_)
        · skip
          refine j_aload_n hX dX7_readTells_70 rfl 1 rfl ?_
          refine gf_X7_21 hX (by omega) (by omega) kc_1 hk56 (by omega) dX7_readTells_71 ?_
          refine gf_X7_157 hX (by omega) (by omega) (kq hq) (fq_12 hI51 hq) (by omega) dX7_readTells_74 ?_
          refine j_aload_n hX dX7_readTells_77 rfl 1 rfl ?_
          refine gf_X7_32 hX (by omega) (by omega) kc_1 dX7_readTells_78 ?_
          refine j_top hk65 ?_
          refine j_dup2 hX dX7_readTells_81 rfl rfl ?_
          refine j_iald hX (by omega) (by omega) (kq_7 hq) (by omega) (by omega) (by omega) dX7_readTells_82 ?_
          refine j_name hI51 (aq_7 hq _) (fun v93 hv94 hl95 hh96 => ?_)
          refine j_iconst hX dX7_readTells_83 ?_
          refine j_iload_n hX dX7_readTells_84 rfl 0 rfl ?_
          refine j_ishl hX dX7_readTells_85 (fun z97 hz98 hy99 => ?_)
          have ha100 := shl_b hz98
          refine j_ior hX dX7_readTells_86 (fun z101 hz102 hy103 => ?_)
          refine j_iast hX (by omega) (by omega) (kq_7 hq) (by omega) (by omega) (by omega) (by omega) dX7_readTells_87 ?_
          refine j_up hI51 (aq_7 hq _) (by omega) (by omega) (Or.inl (by omega)) (fun M104 w105 hw106 hM107 hI108 hf109 => ?_)
          have hV110 := DL_up hV55 hM107 (by omega) (by omega)
          have hk111 := kp_up hM107 (by omega) hk56
          have hk112 := kp_up hM107 (by omega) hk57
          have hk113 := kp_up hM107 (by omega) hk58
          have hk114 := kp_up hM107 (by omega) hk65
          have hF115 := Fr.put hF59 hM107 (by omega)
          refine j_aload_n hX dX7_readTells_88 rfl 1 rfl ?_
          refine gf_X7_21 hX (by omega) (by omega) kc_1 hk111 (by omega) dX7_readTells_89 ?_
          refine j_dup hX dX7_readTells_92 rfl ?_
          refine gf_X7_160 hX (by omega) (by omega) (kq hq) dX7_readTells_93 ?_
          refine j_name hI108 (rq_11 hq) (fun v116 hv117 hl118 hh119 => ?_)
          have hk120 := hv117.symm
          refine j_iconst hX dX7_readTells_96 ?_
          refine j_iadd hX dX7_readTells_97 ?_
          refine j_norm (fun z121 hz122 hy123 => ?_)
          have hn124 := norm_f hz122
          refine pf_X7_160 hX (by omega) (by omega) (kq hq) (by omega) dX7_readTells_98 ?_
          refine j_up hI108 (rq_11 hq) (by omega) (by omega) (Or.inl (by omega)) (fun M125 w126 hw127 hM128 hI129 hf130 => ?_)
          have hV131 := DL_up hV110 hM128 (by omega) (by omega)
          have hk132 := kp_up hM128 (by omega) hk111
          have hk133 := kp_up hM128 (by omega) hk112
          have hk134 := kp_up hM128 (by omega) hk113
          have hk135 := kp_up hM128 (by omega) hk114
          have hF136 := Fr.put hF115 hM128 (by omega)
          refine j_aload_n hX dX7_readTells_101 rfl 1 rfl ?_
          refine gf_X7_12 hX (by omega) (by omega) kc_1 (fc_1_0 hI129) (by decide) dX7_readTells_102 ?_
          refine j_callVV hX lk_X7_41 (c_X9_advance _ _ _ _ _ _ (by omega) hI129 (by first | omega | assumption)) (by omega) hce rfl rfl (by omega) (by omega) kc_2 rfl rfl (Nat.le_of_ble_eq_true rfl) dX7_readTells_105 (fun M138 hp139 => ?_)
          obtain ⟨hI141, hG142, hq143⟩ := hp139
          have hV144 := DL_fr hV131 hG142 (fun b => by omega) (by omega) (by omega)
          have hk145 := kp_fr hG142 (by omega) hk132
          have hk146 := kp_fr hG142 (by omega) hk135
          have hk147 := kp_fr hG142 (by omega) hf130
          have hF148 := Fr.trans hF136 hG142 (fun a b h => by omega)
          have hk149 : M138.1 2 4 = M138.1 2 4 := rfl
          have hk150 : M138.1 2 6 = M138.1 2 6 := rfl
          refine j_iconst hX dX7_readTells_108 ?_
          exact hret _ _ _ _ dX7_readTells_109 (nb (by omega)) (by omega) ⟨hI141, hF148, by omega, by omega, by first | (intro h; omega) | (intro _; assumption) | (intro _ h; omega)⟩
        · skip
          refine j_aload_n hX dX7_readTells_64 rfl 1 rfl ?_
          refine j_iconst hX dX7_readTells_65 ?_
          refine j_callVI hX lk_X7_95 (c_X7_refuse _ _ _ _ _ _ _ _ (by omega) hI51 (by omega) (by assumption) hk56) (by omega) hce rfl rfl (by omega) (by omega) kc_1 rfl rfl (Nat.le_of_ble_eq_true rfl) dX7_readTells_66 (fun z151 M152 hz154 hp153 => ?_)
          obtain ⟨hI155, hG156, hb157, hq158⟩ := hp153
          have hV159 := DL_fr hV55 hG156 (fun b => by omega) (by omega) (by omega)
          have hk160 := kp_fr hG156 (by omega) hk56
          have hk161 := kp_fr hG156 (by omega) hk57
          have hk162 := kp_fr hG156 (by omega) hk58
          have hk163 := kp_fr hG156 (by omega) hk65
          have hF164 := Fr.trans hF59 hG156 (fun a b h => by omega)
          exact hret _ _ _ _ dX7_readTells_69 (nb (by omega)) (by omega) ⟨hI155, hF164, by omega, by omega, by first | (intro h; omega) | (intro _; assumption) | (intro _ h; omega)⟩
    · skip
      refine j_iconst hX dX7_readTells_35 ?_
      exact hret _ _ _ _ dX7_readTells_36 (nb (by omega)) (by omega) ⟨hI51, hF59, by omega, by omega, by first | (intro h; omega) | (intro _; assumption) | (intro _ h; omega)⟩
  · skip
    refine j_iconst hX dX7_readTells_14 ?_
    exact hret _ _ _ _ dX7_readTells_15 (nb (by omega)) (by omega) ⟨hI19, hF27, by omega, by omega, by first | (intro h; omega) | (intro _; assumption) | (intro _ h; omega)⟩
set_option maxHeartbeats 4000000 in
set_option maxRecDepth 20000 in
theorem c_X7_readWants (l : Launch) (D : va_G) (cy : Nat → ClassId) (B N : Nat) (q : Int) (M : MM) (hN : 210 ≤ N) (hI : Iv M) (hq : q = 5 ∨ q = 180) (hto : M.1 1 1 = q) (hDL : DL q M) (hkn : M.1 2 4 = 2 → 0 ≤ M.1 2 6) : CI l D cy B N 11 yX7_readWants cX7_readWants 3 (some .boolean) [rv B 1] M (fun z M' => Iv M' ∧ Fr (fun a b => (a = 1 ∧ 2 ≤ b ∧ b ≤ 4) ∨ (a = 2 ∧ 3 ≤ b ∧ b ≤ 6) ∨ (q ≤ a ∧ a ≤ q + 20)) M M' ∧ (z = 0 ∨ z = 1) ∧ (M'.1 2 4 = 2 → 0 ≤ M'.1 2 6) ∧ (z = 1 → DL q M')) := by
  refine mk_CI (by decide) (Nat.le_of_ble_eq_true rfl) ?_
  intro X exl exD excy hnL hX hret
  have hce : 0 + 0 ≤ (xR X).cells ∧ 0 + 0 ≤ (xR X).slots := ⟨Nat.zero_le _, Nat.zero_le _⟩
  have hF : Fr (fun a b => (a = 1 ∧ 2 ≤ b ∧ b ≤ 4) ∨ (a = 2 ∧ 3 ≤ b ∧ b ≤ 6) ∨ (q ≤ a ∧ a ≤ q + 20)) M M := Fr.rf
  have hk1 : M.1 2 4 = M.1 2 4 := rfl
  have hk2 : M.1 2 6 = M.1 2 6 := rfl
  show J X B N 0 0 0 [(0, rv B 1)] [] M
  refine j_aload_n hX dX7_readWants_0 rfl 0 rfl ?_
  refine gf_X7_12 hX (by omega) (by omega) kc_1 (fc_1_0 hI) (by decide) dX7_readWants_1 ?_
  refine j_callVV hX lk_X7_41 (c_X9_advance _ _ _ _ _ _ (by omega) hI (by first | omega | assumption)) (by omega) hce rfl rfl (by omega) (by omega) kc_2 rfl rfl (Nat.le_of_ble_eq_true rfl) dX7_readWants_4 (fun M4 hp5 => ?_)
  obtain ⟨hI7, hG8, hq9⟩ := hp5
  have hV10 := DL_fr hDL hG8 (fun b => by omega) (by omega) (by omega)
  have hk11 := kp_fr hG8 (by omega) hto
  have hF12 := Fr.trans hF hG8 (fun a b h => by omega)
  have hk13 : M4.1 2 4 = M4.1 2 4 := rfl
  have hk14 : M4.1 2 6 = M4.1 2 6 := rfl
  refine j_aload_n hX dX7_readWants_7 rfl 0 rfl ?_
  refine j_callVI hX lk_X7_133 (c_X7_isRoom _ _ _ _ _ _ _ (by omega) hI7 (by assumption) hk11) (by omega) hce rfl rfl (by omega) (by omega) kc_1 rfl rfl (Nat.le_of_ble_eq_true rfl) dX7_readWants_8 (fun z15 M16 hz18 hp17 => ?_)
  obtain ⟨hI19, hG20, hb21, hq22⟩ := hp17
  have hV23 := DL_fr hV10 hG20 (fun b => by omega) (by omega) (by omega)
  have hk24 := kp_fr hG20 (by omega) hk11
  have hk25 := kp_fr hG20 (by omega) hk13
  have hk26 := kp_fr hG20 (by omega) hk14
  have hF27 := Fr.trans hF12 hG20 (fun a b h => by omega)
  refine j_if_ne (tgt := 16) hX dX7_readWants_11 (by decide) (by omega) (fun hc28 => ?_) (fun hc28 => ?_)
  · skip
    refine j_aload_n hX dX7_readWants_16 rfl 0 rfl ?_
    refine gf_X7_32 hX (by omega) (by omega) kc_1 dX7_readWants_17 ?_
    refine j_name hI19 ro_1_4 (fun v29 hv30 hl31 hh32 => ?_)
    have hk33 := hv30.symm
    refine j_istore_n (lv' := [(1, _), (0, _)]) hX dX7_readWants_20 rfl (by rw [hnL]; decide) rfl ?_
    refine j_aload_n hX dX7_readWants_21 rfl 1 rfl ?_
    refine gf_X7_12 hX (by omega) (by omega) kc_1 (fc_1_0 hI19) (by decide) dX7_readWants_22 ?_
    refine j_callVV hX lk_X7_41 (c_X9_advance _ _ _ _ _ _ (by omega) hI19 (by first | omega | assumption)) (by omega) hce rfl rfl (by omega) (by omega) kc_2 rfl rfl (Nat.le_of_ble_eq_true rfl) dX7_readWants_25 (fun M35 hp36 => ?_)
    obtain ⟨hI38, hG39, hq40⟩ := hp36
    have hV41 := DL_fr hV23 hG39 (fun b => by omega) (by omega) (by omega)
    have hk42 := kp_fr hG39 (by omega) hk24
    have hk43 := kp_fr hG39 (by omega) hk33
    have hF44 := Fr.trans hF27 hG39 (fun a b h => by omega)
    have hk45 : M35.1 2 4 = M35.1 2 4 := rfl
    have hk46 : M35.1 2 6 = M35.1 2 6 := rfl
    refine j_aload_n hX dX7_readWants_28 rfl 1 rfl ?_
    refine j_callVI hX lk_X7_133 (c_X7_isRoom _ _ _ _ _ _ _ (by omega) hI38 (by assumption) hk42) (by omega) hce rfl rfl (by omega) (by omega) kc_1 rfl rfl (Nat.le_of_ble_eq_true rfl) dX7_readWants_29 (fun z47 M48 hz50 hp49 => ?_)
    obtain ⟨hI51, hG52, hb53, hq54⟩ := hp49
    have hV55 := DL_fr hV41 hG52 (fun b => by omega) (by omega) (by omega)
    have hk56 := kp_fr hG52 (by omega) hk42
    have hk57 := kp_fr hG52 (by omega) hk45
    have hk58 := kp_fr hG52 (by omega) hk46
    have hF59 := Fr.trans hF44 hG52 (fun a b h => by omega)
    refine j_if_ne (tgt := 37) hX dX7_readWants_32 (by decide) (by omega) (fun hc60 => ?_) (fun hc60 => ?_)
    · skip
      refine j_aload_n hX dX7_readWants_37 rfl 1 rfl ?_
      refine gf_X7_32 hX (by omega) (by omega) kc_1 dX7_readWants_38 ?_
      refine j_name hI51 ro_1_4 (fun v61 hv62 hl63 hh64 => ?_)
      have hk65 := hv62.symm
      refine j_istore_n (lv' := [(2, _), (1, _), (0, _)]) hX dX7_readWants_41 rfl (by rw [hnL]; decide) rfl ?_
      refine j_aload_n hX dX7_readWants_42 rfl 2 rfl ?_
      refine gf_X7_21 hX (by omega) (by omega) kc_1 hk56 (by omega) dX7_readWants_43 ?_
      refine gf_X7_163 hX (by omega) (by omega) (kq hq) (fq_13 hI51 hq) (by omega) dX7_readWants_46 ?_
      refine j_iload_n hX dX7_readWants_49 rfl 1 rfl ?_
      refine j_aald5 hX (by omega) (by omega) (kq_8 hq) (by omega) (by omega) (by omega) (fw hI51 hq (by omega) (by omega)) (by omega) dX7_readWants_50 ?_
      refine j_iload_n hX dX7_readWants_51 rfl 0 rfl ?_
      refine j_iald hX (by omega) (by omega) (kw hq (by omega) (by omega)) (by omega) (by omega) (by omega) dX7_readWants_52 ?_
      refine j_name hI51 (aw hq (by omega) (by omega) _) (fun v66 hv67 hl68 hh69 => ?_)
      refine j_iconst hX dX7_readWants_53 ?_
      refine j_icmp_eq (tgt := 63) hX dX7_readWants_54 (by decide) (by omega) (by omega) (fun hc70 => ?_) (fun hc70 => ?_)
      · skip
        refine j_aload_n hX dX7_readWants_63 rfl 2 rfl ?_
        refine gf_X7_12 hX (by omega) (by omega) kc_1 (fc_1_0 hI51) (by decide) dX7_readWants_64 ?_
        refine j_callVV hX lk_X7_41 (c_X9_advance _ _ _ _ _ _ (by omega) hI51 (by first | omega | assumption)) (by omega) hce rfl rfl (by omega) (by omega) kc_2 rfl rfl (Nat.le_of_ble_eq_true rfl) dX7_readWants_67 (fun M72 hp73 => ?_)
        obtain ⟨hI75, hG76, hq77⟩ := hp73
        have hV78 := DL_fr hV55 hG76 (fun b => by omega) (by omega) (by omega)
        have hk79 := kp_fr hG76 (by omega) hk56
        have hk80 := kp_fr hG76 (by omega) hk65
        have hF81 := Fr.trans hF59 hG76 (fun a b h => by omega)
        have hk82 : M72.1 2 4 = M72.1 2 4 := rfl
        have hk83 : M72.1 2 6 = M72.1 2 6 := rfl
        refine j_aload_n hX dX7_readWants_70 rfl 2 rfl ?_
        refine j_bipush hX dX7_readWants_71 rfl ?_
        refine j_callVI hX lk_X7_120 (c_X7_takeNumber _ _ _ _ _ _ _ _ (by omega) hI75 (by omega) (by assumption) hk79 (by first | omega | assumption)) (by omega) hce rfl rfl (by omega) (by omega) kc_1 rfl rfl (Nat.le_of_ble_eq_true rfl) dX7_readWants_73 (fun z84 M85 hz87 hp86 => ?_)
        obtain ⟨hI88, hG89, hb90, hq91, hq92⟩ := hp86
        have hV93 := DL_fr hV78 hG89 (fun b => by omega) (by omega) (by omega)
        have hk94 := kp_fr hG89 (by omega) hk79
        have hF95 := Fr.trans hF81 hG89 (fun a b h => by omega)
        have hk96 : M85.1 2 4 = M85.1 2 4 := rfl
        have hk97 : M85.1 2 6 = M85.1 2 6 := rfl
        refine j_if_ne (tgt := 81) hX dX7_readWants_76 (by decide) (by omega) (fun hc98 => ?_) (fun hc98 => ?_)
        · skip
          refine j_aload_n hX dX7_readWants_81 rfl 2 rfl ?_
          refine gf_X7_21 hX (by omega) (by omega) kc_1 hk94 (by omega) dX7_readWants_82 ?_
          refine gf_X7_163 hX (by omega) (by omega) (kq hq) (fq_13 hI88 hq) (by omega) dX7_readWants_85 ?_
          refine j_iload_n hX dX7_readWants_88 rfl 1 rfl ?_
          refine j_aald5 hX (by omega) (by omega) (kq_8 hq) (by omega) (by omega) (by omega) (fw hI88 hq (by omega) (by omega)) (by omega) dX7_readWants_89 ?_
          refine j_iload_n hX dX7_readWants_90 rfl 0 rfl ?_
          refine j_aload_n hX dX7_readWants_91 rfl 2 rfl ?_
          refine gf_X7_32 hX (by omega) (by omega) kc_1 dX7_readWants_92 ?_
          refine j_name hI88 ro_1_4 (fun v99 hv100 hl101 hh102 => ?_)
          have hk103 := hv100.symm
          refine j_iast hX (by omega) (by omega) (kw hq (by omega) (by omega)) (by omega) (by omega) (by omega) (by omega) dX7_readWants_95 ?_
          refine j_up hI88 (aw hq (by omega) (by omega) _) (by omega) (by omega) (Or.inl (by omega)) (fun M104 w105 hw106 hM107 hI108 hf109 => ?_)
          have hV110 := DL_up hV93 hM107 (by omega) (by omega)
          have hk111 := kp_up hM107 (by omega) hk94
          have hk112 := kp_up hM107 (by omega) hk96
          have hk113 := kp_up hM107 (by omega) hk97
          have hk114 := kp_up hM107 (by omega) hk103
          have hF115 := Fr.put hF95 hM107 (by omega)
          refine j_iconst hX dX7_readWants_96 ?_
          exact hret _ _ _ _ dX7_readWants_97 (nb (by omega)) (by omega) ⟨hI108, hF115, by omega, by omega, by first | (intro h; omega) | (intro _; assumption) | (intro _ h; omega)⟩
        · skip
          refine j_iconst hX dX7_readWants_79 ?_
          exact hret _ _ _ _ dX7_readWants_80 (nb (by omega)) (by omega) ⟨hI88, hF95, by omega, by omega, by first | (intro h; omega) | (intro _; assumption) | (intro _ h; omega)⟩
      · skip
        refine j_aload_n hX dX7_readWants_57 rfl 2 rfl ?_
        refine j_iconst hX dX7_readWants_58 ?_
        refine j_callVI hX lk_X7_95 (c_X7_refuse _ _ _ _ _ _ _ _ (by omega) hI51 (by omega) (by assumption) hk56) (by omega) hce rfl rfl (by omega) (by omega) kc_1 rfl rfl (Nat.le_of_ble_eq_true rfl) dX7_readWants_59 (fun z116 M117 hz119 hp118 => ?_)
        obtain ⟨hI120, hG121, hb122, hq123⟩ := hp118
        have hV124 := DL_fr hV55 hG121 (fun b => by omega) (by omega) (by omega)
        have hk125 := kp_fr hG121 (by omega) hk56
        have hk126 := kp_fr hG121 (by omega) hk57
        have hk127 := kp_fr hG121 (by omega) hk58
        have hk128 := kp_fr hG121 (by omega) hk65
        have hF129 := Fr.trans hF59 hG121 (fun a b h => by omega)
        exact hret _ _ _ _ dX7_readWants_62 (nb (by omega)) (by omega) ⟨hI120, hF129, by omega, by omega, by first | (intro h; omega) | (intro _; assumption) | (intro _ h; omega)⟩
    · skip
      refine j_iconst hX dX7_readWants_35 ?_
      exact hret _ _ _ _ dX7_readWants_36 (nb (by omega)) (by omega) ⟨hI51, hF59, by omega, by omega, by first | (intro h; omega) | (intro _; assumption) | (intro _ h; omega)⟩
  · skip
    refine j_iconst hX dX7_readWants_14 ?_
    exact hret _ _ _ _ dX7_readWants_15 (nb (by omega)) (by omega) ⟨hI19, hF27, by omega, by omega, by first | (intro h; omega) | (intro _; assumption) | (intro _ h; omega)⟩
set_option maxHeartbeats 4000000 in
set_option maxRecDepth 20000 in
theorem c_X7_readDark (l : Launch) (D : va_G) (cy : Nat → ClassId) (B N : Nat) (q : Int) (M : MM) (hN : 210 ≤ N) (hI : Iv M) (hq : q = 5 ∨ q = 180) (hto : M.1 1 1 = q) (hDL : DL q M) (hkn : M.1 2 4 = 2 → 0 ≤ M.1 2 6) : CI l D cy B N 11 yX7_readDark cX7_readDark 1 (some .boolean) [rv B 1] M (fun z M' => Iv M' ∧ Fr (fun a b => (a = 1 ∧ 2 ≤ b ∧ b ≤ 4) ∨ (a = 2 ∧ 3 ≤ b ∧ b ≤ 6) ∨ (q ≤ a ∧ a ≤ q + 20)) M M' ∧ (z = 0 ∨ z = 1) ∧ (M'.1 2 4 = 2 → 0 ≤ M'.1 2 6) ∧ (z = 1 → DL q M')) := by
  refine mk_CI (by decide) (Nat.le_of_ble_eq_true rfl) ?_
  intro X exl exD excy hnL hX hret
  have hce : 0 + 0 ≤ (xR X).cells ∧ 0 + 0 ≤ (xR X).slots := ⟨Nat.zero_le _, Nat.zero_le _⟩
  have hF : Fr (fun a b => (a = 1 ∧ 2 ≤ b ∧ b ≤ 4) ∨ (a = 2 ∧ 3 ≤ b ∧ b ≤ 6) ∨ (q ≤ a ∧ a ≤ q + 20)) M M := Fr.rf
  have hk1 : M.1 2 4 = M.1 2 4 := rfl
  have hk2 : M.1 2 6 = M.1 2 6 := rfl
  show J X B N 0 0 0 [(0, rv B 1)] [] M
  refine j_aload_n hX dX7_readDark_0 rfl 0 rfl ?_
  refine j_aload_n hX dX7_readDark_1 rfl 0 rfl ?_
  refine gf_X7_21 hX (by omega) (by omega) kc_1 hto (by omega) dX7_readDark_2 ?_
  refine gf_X7_167 hX (by omega) (by omega) (kq hq) dX7_readDark_5 ?_
  refine j_name hI (rq_14 hq) (fun v3 hv4 hl5 hh6 => ?_)
  have hk7 := hv4.symm
  refine j_iconst hX dX7_readDark_8 ?_
  refine j_icmp_ne (tgt := 16) hX dX7_readDark_9 (by decide) (by omega) (by omega) (fun hc8 => ?_) (fun hc8 => ?_)
  · skip
    refine j_iconst hX dX7_readDark_16 ?_
    refine j_callVI hX lk_X7_82 (c_X7_mayStart _ _ _ _ _ _ _ _ (by omega) hI (by omega) (by assumption) hto (by first | omega | assumption) (by first | omega | assumption)) (by omega) hce rfl rfl (by omega) (by omega) kc_1 rfl rfl (Nat.le_of_ble_eq_true rfl) dX7_readDark_17 (fun z9 M10 hz12 hp11 => ?_)
    obtain ⟨hI13, hG14, hb15, hq16, hq17⟩ := hp11
    have hV18 := DL_fr hDL hG14 (fun b => by omega) (by omega) (by omega)
    have hk19 := kp_fr hG14 (by omega) hto
    have hk20 := kp_fr hG14 (by omega) hk7
    have hF21 := Fr.trans hF hG14 (fun a b h => by omega)
    have hk22 : M10.1 2 4 = M10.1 2 4 := rfl
    have hk23 : M10.1 2 6 = M10.1 2 6 := rfl
    refine j_if_eq (tgt := 32) hX dX7_readDark_20 (by decide) (by omega) (fun hc24 => ?_) (fun hc24 => ?_)
    · skip
      refine j_iconst hX dX7_readDark_32 ?_
      exact hret _ _ _ _ dX7_readDark_33 (nb (by omega)) (by omega) ⟨hI13, hF21, by omega, by omega, by first | (intro h; omega) | (intro _; assumption) | (intro _ h; omega)⟩
    · skip
      refine j_aload_n hX dX7_readDark_23 rfl 0 rfl ?_
      refine j_bipush hX dX7_readDark_24 rfl ?_
      refine j_callVI hX lk_X7_120 (c_X7_takeNumber _ _ _ _ _ _ _ _ (by omega) hI13 (by omega) (by assumption) hk19 (by first | omega | assumption)) (by omega) hce rfl rfl (by omega) (by omega) kc_1 rfl rfl (Nat.le_of_ble_eq_true rfl) dX7_readDark_26 (fun z25 M26 hz28 hp27 => ?_)
      obtain ⟨hI29, hG30, hb31, hq32, hq33⟩ := hp27
      have hV34 := DL_fr hV18 hG30 (fun b => by omega) (by omega) (by omega)
      have hk35 := kp_fr hG30 (by omega) hk19
      have hk36 := kp_fr hG30 (by omega) hk20
      have hF37 := Fr.trans hF21 hG30 (fun a b h => by omega)
      have hk38 : M26.1 2 4 = M26.1 2 4 := rfl
      have hk39 : M26.1 2 6 = M26.1 2 6 := rfl
      refine j_if_ne (tgt := 34) hX dX7_readDark_29 (by decide) (by omega) (fun hc40 => ?_) (fun hc40 => ?_)
      · skip
        refine j_aload_n hX dX7_readDark_34 rfl 0 rfl ?_
        refine gf_X7_21 hX (by omega) (by omega) kc_1 hk35 (by omega) dX7_readDark_35 ?_
        refine j_aload_n hX dX7_readDark_38 rfl 0 rfl ?_
        refine gf_X7_32 hX (by omega) (by omega) kc_1 dX7_readDark_39 ?_
        refine j_name hI29 ro_1_4 (fun v41 hv42 hl43 hh44 => ?_)
        have hk45 := hv42.symm
        refine pf_X7_167 hX (by omega) (by omega) (kq hq) (by omega) dX7_readDark_42 ?_
        refine j_up hI29 (rq_14 hq) (by omega) (by omega) (Or.inl (by omega)) (fun M46 w47 hw48 hM49 hI50 hf51 => ?_)
        have hV52 := DL_up hV34 hM49 (by omega) (by omega)
        have hk53 := kp_up hM49 (by omega) hk35
        have hk54 := kp_up hM49 (by omega) hk38
        have hk55 := kp_up hM49 (by omega) hk39
        have hk56 := kp_up hM49 (by omega) hk45
        have hF57 := Fr.put hF37 hM49 (by omega)
        refine j_aload_n hX dX7_readDark_45 rfl 0 rfl ?_
        refine j_sipush hX dX7_readDark_46 rfl ?_
        refine j_callVI hX lk_X7_51 (c_X7_take _ _ _ _ _ _ _ _ (by omega) hI50 (by omega) (by assumption) hk53 (by first | omega | assumption)) (by omega) hce rfl rfl (by omega) (by omega) kc_1 rfl rfl (Nat.le_of_ble_eq_true rfl) dX7_readDark_49 (fun z58 M59 hz61 hp60 => ?_)
        obtain ⟨hI62, hG63, hb64, hq65⟩ := hp60
        have hV66 := DL_fr hV52 hG63 (fun b => by omega) (by omega) (by omega)
        have hk67 := kp_fr hG63 (by omega) hk53
        have hk68 := kp_fr hG63 (by omega) hk56
        have hk69 := kp_fr hG63 (by omega) hf51
        have hF70 := Fr.trans hF57 hG63 (fun a b h => by omega)
        have hk71 : M59.1 2 4 = M59.1 2 4 := rfl
        have hk72 : M59.1 2 6 = M59.1 2 6 := rfl
        refine j_if_eq (tgt := 64) hX dX7_readDark_52 (by decide) (by omega) (fun hc73 => ?_) (fun hc73 => ?_)
        · skip
          refine j_iconst hX dX7_readDark_64 ?_
          exact hret _ _ _ _ dX7_readDark_65 (nb (by omega)) (by omega) ⟨hI62, hF70, by omega, by omega, by first | (intro h; omega) | (intro _; assumption) | (intro _ h; omega)⟩
        · skip
          refine j_aload_n hX dX7_readDark_55 rfl 0 rfl ?_
          refine j_bipush hX dX7_readDark_56 rfl ?_
          refine j_callVI hX lk_X7_120 (c_X7_takeNumber _ _ _ _ _ _ _ _ (by omega) hI62 (by omega) (by assumption) hk67 (by first | omega | assumption)) (by omega) hce rfl rfl (by omega) (by omega) kc_1 rfl rfl (Nat.le_of_ble_eq_true rfl) dX7_readDark_58 (fun z74 M75 hz77 hp76 => ?_)
          obtain ⟨hI78, hG79, hb80, hq81, hq82⟩ := hp76
          have hV83 := DL_fr hV66 hG79 (fun b => by omega) (by omega) (by omega)
          have hk84 := kp_fr hG79 (by omega) hk67
          have hk85 := kp_fr hG79 (by omega) hk69
          have hF86 := Fr.trans hF70 hG79 (fun a b h => by omega)
          have hk87 : M75.1 2 4 = M75.1 2 4 := rfl
          have hk88 : M75.1 2 6 = M75.1 2 6 := rfl
          refine j_if_ne (tgt := 66) hX dX7_readDark_61 (by decide) (by omega) (fun hc89 => ?_) (fun hc89 => ?_)
          · skip
            refine j_aload_n hX dX7_readDark_66 rfl 0 rfl ?_
            refine gf_X7_21 hX (by omega) (by omega) kc_1 hk84 (by omega) dX7_readDark_67 ?_
            refine j_aload_n hX dX7_readDark_70 rfl 0 rfl ?_
            refine gf_X7_32 hX (by omega) (by omega) kc_1 dX7_readDark_71 ?_
            refine j_name hI78 ro_1_4 (fun v90 hv91 hl92 hh93 => ?_)
            have hk94 := hv91.symm
            refine pf_X7_170 hX (by omega) (by omega) (kq hq) (by omega) dX7_readDark_74 ?_
            refine j_up hI78 (rq_15 hq) (by omega) (by omega) (Or.inl (by omega)) (fun M95 w96 hw97 hM98 hI99 hf100 => ?_)
            have hV101 := DL_up hV83 hM98 (by omega) (by omega)
            have hk102 := kp_up hM98 (by omega) hk84
            have hk103 := kp_up hM98 (fun h => absurd h.2 (by decide)) hk85
            have hk104 := kp_up hM98 (by omega) hk87
            have hk105 := kp_up hM98 (by omega) hk88
            have hk106 := kp_up hM98 (by omega) hk94
            have hF107 := Fr.put hF86 hM98 (by omega)
            refine j_iconst hX dX7_readDark_77 ?_
            exact hret _ _ _ _ dX7_readDark_78 (nb (by omega)) (by omega) ⟨hI99, hF107, by omega, by omega, by first | (intro h; omega) | (intro _; assumption) | (intro _ h; omega)⟩
          · skip
            refine j_iconst hX dX7_readDark_64 ?_
            exact hret _ _ _ _ dX7_readDark_65 (nb (by omega)) (by omega) ⟨hI78, hF86, by omega, by omega, by first | (intro h; omega) | (intro _; assumption) | (intro _ h; omega)⟩
      · skip
        refine j_iconst hX dX7_readDark_32 ?_
        exact hret _ _ _ _ dX7_readDark_33 (nb (by omega)) (by omega) ⟨hI29, hF37, by omega, by omega, by first | (intro h; omega) | (intro _; assumption) | (intro _ h; omega)⟩
  · skip
    refine j_iconst hX dX7_readDark_12 ?_
    refine j_goto (tgt := 17) hX dX7_readDark_13 (by decide) ?_
    refine j_callVI hX lk_X7_82 (c_X7_mayStart _ _ _ _ _ _ _ _ (by omega) hI (by omega) (by assumption) hto (by first | omega | assumption) (by first | omega | assumption)) (by omega) hce rfl rfl (by omega) (by omega) kc_1 rfl rfl (Nat.le_of_ble_eq_true rfl) dX7_readDark_17 (fun z108 M109 hz111 hp110 => ?_)
    obtain ⟨hI112, hG113, hb114, hq115, hq116⟩ := hp110
    have hV117 := DL_fr hDL hG113 (fun b => by omega) (by omega) (by omega)
    have hk118 := kp_fr hG113 (by omega) hto
    have hk119 := kp_fr hG113 (by omega) hk7
    have hF120 := Fr.trans hF hG113 (fun a b h => by omega)
    have hk121 : M109.1 2 4 = M109.1 2 4 := rfl
    have hk122 : M109.1 2 6 = M109.1 2 6 := rfl
    refine j_if_eq (tgt := 32) hX dX7_readDark_20 (by decide) (by omega) (fun hc123 => ?_) (fun hc123 => ?_)
    · skip
      refine j_iconst hX dX7_readDark_32 ?_
      exact hret _ _ _ _ dX7_readDark_33 (nb (by omega)) (by omega) ⟨hI112, hF120, by omega, by omega, by first | (intro h; omega) | (intro _; assumption) | (intro _ h; omega)⟩
    · skip
      refine j_aload_n hX dX7_readDark_23 rfl 0 rfl ?_
      refine j_bipush hX dX7_readDark_24 rfl ?_
      refine j_callVI hX lk_X7_120 (c_X7_takeNumber _ _ _ _ _ _ _ _ (by omega) hI112 (by omega) (by assumption) hk118 (by first | omega | assumption)) (by omega) hce rfl rfl (by omega) (by omega) kc_1 rfl rfl (Nat.le_of_ble_eq_true rfl) dX7_readDark_26 (fun z124 M125 hz127 hp126 => ?_)
      obtain ⟨hI128, hG129, hb130, hq131, hq132⟩ := hp126
      have hV133 := DL_fr hV117 hG129 (fun b => by omega) (by omega) (by omega)
      have hk134 := kp_fr hG129 (by omega) hk118
      have hk135 := kp_fr hG129 (by omega) hk119
      have hF136 := Fr.trans hF120 hG129 (fun a b h => by omega)
      have hk137 : M125.1 2 4 = M125.1 2 4 := rfl
      have hk138 : M125.1 2 6 = M125.1 2 6 := rfl
      refine j_if_ne (tgt := 34) hX dX7_readDark_29 (by decide) (by omega) (fun hc139 => ?_) (fun hc139 => ?_)
      · skip
        refine j_aload_n hX dX7_readDark_34 rfl 0 rfl ?_
        refine gf_X7_21 hX (by omega) (by omega) kc_1 hk134 (by omega) dX7_readDark_35 ?_
        refine j_aload_n hX dX7_readDark_38 rfl 0 rfl ?_
        refine gf_X7_32 hX (by omega) (by omega) kc_1 dX7_readDark_39 ?_
        refine j_name hI128 ro_1_4 (fun v140 hv141 hl142 hh143 => ?_)
        have hk144 := hv141.symm
        refine pf_X7_167 hX (by omega) (by omega) (kq hq) (by omega) dX7_readDark_42 ?_
        refine j_up hI128 (rq_14 hq) (by omega) (by omega) (Or.inl (by omega)) (fun M145 w146 hw147 hM148 hI149 hf150 => ?_)
        have hV151 := DL_up hV133 hM148 (by omega) (by omega)
        have hk152 := kp_up hM148 (by omega) hk134
        have hk153 := kp_up hM148 (by omega) hk137
        have hk154 := kp_up hM148 (by omega) hk138
        have hk155 := kp_up hM148 (by omega) hk144
        have hF156 := Fr.put hF136 hM148 (by omega)
        refine j_aload_n hX dX7_readDark_45 rfl 0 rfl ?_
        refine j_sipush hX dX7_readDark_46 rfl ?_
        refine j_callVI hX lk_X7_51 (c_X7_take _ _ _ _ _ _ _ _ (by omega) hI149 (by omega) (by assumption) hk152 (by first | omega | assumption)) (by omega) hce rfl rfl (by omega) (by omega) kc_1 rfl rfl (Nat.le_of_ble_eq_true rfl) dX7_readDark_49 (fun z157 M158 hz160 hp159 => ?_)
        obtain ⟨hI161, hG162, hb163, hq164⟩ := hp159
        have hV165 := DL_fr hV151 hG162 (fun b => by omega) (by omega) (by omega)
        have hk166 := kp_fr hG162 (by omega) hk152
        have hk167 := kp_fr hG162 (by omega) hk155
        have hk168 := kp_fr hG162 (by omega) hf150
        have hF169 := Fr.trans hF156 hG162 (fun a b h => by omega)
        have hk170 : M158.1 2 4 = M158.1 2 4 := rfl
        have hk171 : M158.1 2 6 = M158.1 2 6 := rfl
        refine j_if_eq (tgt := 64) hX dX7_readDark_52 (by decide) (by omega) (fun hc172 => ?_) (fun hc172 => ?_)
        · skip
          refine j_iconst hX dX7_readDark_64 ?_
          exact hret _ _ _ _ dX7_readDark_65 (nb (by omega)) (by omega) ⟨hI161, hF169, by omega, by omega, by first | (intro h; omega) | (intro _; assumption) | (intro _ h; omega)⟩
        · skip
          refine j_aload_n hX dX7_readDark_55 rfl 0 rfl ?_
          refine j_bipush hX dX7_readDark_56 rfl ?_
          refine j_callVI hX lk_X7_120 (c_X7_takeNumber _ _ _ _ _ _ _ _ (by omega) hI161 (by omega) (by assumption) hk166 (by first | omega | assumption)) (by omega) hce rfl rfl (by omega) (by omega) kc_1 rfl rfl (Nat.le_of_ble_eq_true rfl) dX7_readDark_58 (fun z173 M174 hz176 hp175 => ?_)
          obtain ⟨hI177, hG178, hb179, hq180, hq181⟩ := hp175
          have hV182 := DL_fr hV165 hG178 (fun b => by omega) (by omega) (by omega)
          have hk183 := kp_fr hG178 (by omega) hk166
          have hk184 := kp_fr hG178 (by omega) hk168
          have hF185 := Fr.trans hF169 hG178 (fun a b h => by omega)
          have hk186 : M174.1 2 4 = M174.1 2 4 := rfl
          have hk187 : M174.1 2 6 = M174.1 2 6 := rfl
          refine j_if_ne (tgt := 66) hX dX7_readDark_61 (by decide) (by omega) (fun hc188 => ?_) (fun hc188 => ?_)
          · skip
            refine j_aload_n hX dX7_readDark_66 rfl 0 rfl ?_
            refine gf_X7_21 hX (by omega) (by omega) kc_1 hk183 (by omega) dX7_readDark_67 ?_
            refine j_aload_n hX dX7_readDark_70 rfl 0 rfl ?_
            refine gf_X7_32 hX (by omega) (by omega) kc_1 dX7_readDark_71 ?_
            refine j_name hI177 ro_1_4 (fun v189 hv190 hl191 hh192 => ?_)
            have hk193 := hv190.symm
            refine pf_X7_170 hX (by omega) (by omega) (kq hq) (by omega) dX7_readDark_74 ?_
            refine j_up hI177 (rq_15 hq) (by omega) (by omega) (Or.inl (by omega)) (fun M194 w195 hw196 hM197 hI198 hf199 => ?_)
            have hV200 := DL_up hV182 hM197 (by omega) (by omega)
            have hk201 := kp_up hM197 (by omega) hk183
            have hk202 := kp_up hM197 (fun h => absurd h.2 (by decide)) hk184
            have hk203 := kp_up hM197 (by omega) hk186
            have hk204 := kp_up hM197 (by omega) hk187
            have hk205 := kp_up hM197 (by omega) hk193
            have hF206 := Fr.put hF185 hM197 (by omega)
            refine j_iconst hX dX7_readDark_77 ?_
            exact hret _ _ _ _ dX7_readDark_78 (nb (by omega)) (by omega) ⟨hI198, hF206, by omega, by omega, by first | (intro h; omega) | (intro _; assumption) | (intro _ h; omega)⟩
          · skip
            refine j_iconst hX dX7_readDark_64 ?_
            exact hret _ _ _ _ dX7_readDark_65 (nb (by omega)) (by omega) ⟨hI177, hF185, by omega, by omega, by first | (intro h; omega) | (intro _; assumption) | (intro _ h; omega)⟩
      · skip
        refine j_iconst hX dX7_readDark_32 ?_
        exact hret _ _ _ _ dX7_readDark_33 (nb (by omega)) (by omega) ⟨hI128, hF136, by omega, by omega, by first | (intro h; omega) | (intro _; assumption) | (intro _ h; omega)⟩
set_option maxHeartbeats 4000000 in
set_option maxRecDepth 20000 in
theorem c_X7_readDraw (l : Launch) (D : va_G) (cy : Nat → ClassId) (B N : Nat) (q : Int) (M : MM) (hN : 210 ≤ N) (hI : Iv M) (hq : q = 5 ∨ q = 180) (hto : M.1 1 1 = q) (hDL : DL q M) (hkn : M.1 2 4 = 2 → 0 ≤ M.1 2 6) : CI l D cy B N 11 yX7_readDraw cX7_readDraw 1 (some .boolean) [rv B 1] M (fun z M' => Iv M' ∧ Fr (fun a b => (a = 1 ∧ 2 ≤ b ∧ b ≤ 4) ∨ (a = 2 ∧ 3 ≤ b ∧ b ≤ 6) ∨ (q ≤ a ∧ a ≤ q + 20)) M M' ∧ (z = 0 ∨ z = 1) ∧ (M'.1 2 4 = 2 → 0 ≤ M'.1 2 6) ∧ (z = 1 → DL q M')) := by
  refine mk_CI (by decide) (Nat.le_of_ble_eq_true rfl) ?_
  intro X exl exD excy hnL hX hret
  have hce : 0 + 0 ≤ (xR X).cells ∧ 0 + 0 ≤ (xR X).slots := ⟨Nat.zero_le _, Nat.zero_le _⟩
  have hF : Fr (fun a b => (a = 1 ∧ 2 ≤ b ∧ b ≤ 4) ∨ (a = 2 ∧ 3 ≤ b ∧ b ≤ 6) ∨ (q ≤ a ∧ a ≤ q + 20)) M M := Fr.rf
  have hk1 : M.1 2 4 = M.1 2 4 := rfl
  have hk2 : M.1 2 6 = M.1 2 6 := rfl
  show J X B N 0 0 0 [(0, rv B 1)] [] M
  refine j_aload_n hX dX7_readDraw_0 rfl 0 rfl ?_
  refine j_aload_n hX dX7_readDraw_1 rfl 0 rfl ?_
  refine gf_X7_21 hX (by omega) (by omega) kc_1 hto (by omega) dX7_readDraw_2 ?_
  refine gf_X7_173 hX (by omega) (by omega) (kq hq) dX7_readDraw_5 ?_
  refine j_name hI (rq_16 hq) (fun v3 hv4 hl5 hh6 => ?_)
  have hk7 := hv4.symm
  refine j_iconst hX dX7_readDraw_8 ?_
  refine j_icmp_ne (tgt := 16) hX dX7_readDraw_9 (by decide) (by omega) (by omega) (fun hc8 => ?_) (fun hc8 => ?_)
  · skip
    refine j_iconst hX dX7_readDraw_16 ?_
    refine j_callVI hX lk_X7_82 (c_X7_mayStart _ _ _ _ _ _ _ _ (by omega) hI (by omega) (by assumption) hto (by first | omega | assumption) (by first | omega | assumption)) (by omega) hce rfl rfl (by omega) (by omega) kc_1 rfl rfl (Nat.le_of_ble_eq_true rfl) dX7_readDraw_17 (fun z9 M10 hz12 hp11 => ?_)
    obtain ⟨hI13, hG14, hb15, hq16, hq17⟩ := hp11
    have hV18 := DL_fr hDL hG14 (fun b => by omega) (by omega) (by omega)
    have hk19 := kp_fr hG14 (by omega) hto
    have hk20 := kp_fr hG14 (by omega) hk7
    have hF21 := Fr.trans hF hG14 (fun a b h => by omega)
    have hk22 : M10.1 2 4 = M10.1 2 4 := rfl
    have hk23 : M10.1 2 6 = M10.1 2 6 := rfl
    refine j_if_eq (tgt := 33) hX dX7_readDraw_20 (by decide) (by omega) (fun hc24 => ?_) (fun hc24 => ?_)
    · skip
      refine j_iconst hX dX7_readDraw_33 ?_
      exact hret _ _ _ _ dX7_readDraw_34 (nb (by omega)) (by omega) ⟨hI13, hF21, by omega, by omega, by first | (intro h; omega) | (intro _; assumption) | (intro _ h; omega)⟩
    · skip
      refine j_aload_n hX dX7_readDraw_23 rfl 0 rfl ?_
      refine j_sipush hX dX7_readDraw_24 rfl ?_
      refine j_callVI hX lk_X7_120 (c_X7_takeNumber _ _ _ _ _ _ _ _ (by omega) hI13 (by omega) (by assumption) hk19 (by first | omega | assumption)) (by omega) hce rfl rfl (by omega) (by omega) kc_1 rfl rfl (Nat.le_of_ble_eq_true rfl) dX7_readDraw_27 (fun z25 M26 hz28 hp27 => ?_)
      obtain ⟨hI29, hG30, hb31, hq32, hq33⟩ := hp27
      have hV34 := DL_fr hV18 hG30 (fun b => by omega) (by omega) (by omega)
      have hk35 := kp_fr hG30 (by omega) hk19
      have hk36 := kp_fr hG30 (by omega) hk20
      have hF37 := Fr.trans hF21 hG30 (fun a b h => by omega)
      have hk38 : M26.1 2 4 = M26.1 2 4 := rfl
      have hk39 : M26.1 2 6 = M26.1 2 6 := rfl
      refine j_if_ne (tgt := 35) hX dX7_readDraw_30 (by decide) (by omega) (fun hc40 => ?_) (fun hc40 => ?_)
      · skip
        refine j_aload_n hX dX7_readDraw_35 rfl 0 rfl ?_
        refine gf_X7_21 hX (by omega) (by omega) kc_1 hk35 (by omega) dX7_readDraw_36 ?_
        refine j_aload_n hX dX7_readDraw_39 rfl 0 rfl ?_
        refine gf_X7_32 hX (by omega) (by omega) kc_1 dX7_readDraw_40 ?_
        refine j_name hI29 ro_1_4 (fun v41 hv42 hl43 hh44 => ?_)
        have hk45 := hv42.symm
        refine pf_X7_173 hX (by omega) (by omega) (kq hq) (by omega) dX7_readDraw_43 ?_
        refine j_up hI29 (rq_16 hq) (by omega) (by omega) (Or.inl (by omega)) (fun M46 w47 hw48 hM49 hI50 hf51 => ?_)
        have hV52 := DL_up hV34 hM49 (by omega) (by omega)
        have hk53 := kp_up hM49 (by omega) hk35
        have hk54 := kp_up hM49 (by omega) hk38
        have hk55 := kp_up hM49 (by omega) hk39
        have hk56 := kp_up hM49 (by omega) hk45
        have hF57 := Fr.put hF37 hM49 (by omega)
        refine j_iconst hX dX7_readDraw_46 ?_
        exact hret _ _ _ _ dX7_readDraw_47 (nb (by omega)) (by omega) ⟨hI50, hF57, by omega, by omega, by first | (intro h; omega) | (intro _; assumption) | (intro _ h; omega)⟩
      · skip
        refine j_iconst hX dX7_readDraw_33 ?_
        exact hret _ _ _ _ dX7_readDraw_34 (nb (by omega)) (by omega) ⟨hI29, hF37, by omega, by omega, by first | (intro h; omega) | (intro _; assumption) | (intro _ h; omega)⟩
  · skip
    refine j_iconst hX dX7_readDraw_12 ?_
    refine j_goto (tgt := 17) hX dX7_readDraw_13 (by decide) ?_
    refine j_callVI hX lk_X7_82 (c_X7_mayStart _ _ _ _ _ _ _ _ (by omega) hI (by omega) (by assumption) hto (by first | omega | assumption) (by first | omega | assumption)) (by omega) hce rfl rfl (by omega) (by omega) kc_1 rfl rfl (Nat.le_of_ble_eq_true rfl) dX7_readDraw_17 (fun z58 M59 hz61 hp60 => ?_)
    obtain ⟨hI62, hG63, hb64, hq65, hq66⟩ := hp60
    have hV67 := DL_fr hDL hG63 (fun b => by omega) (by omega) (by omega)
    have hk68 := kp_fr hG63 (by omega) hto
    have hk69 := kp_fr hG63 (by omega) hk7
    have hF70 := Fr.trans hF hG63 (fun a b h => by omega)
    have hk71 : M59.1 2 4 = M59.1 2 4 := rfl
    have hk72 : M59.1 2 6 = M59.1 2 6 := rfl
    refine j_if_eq (tgt := 33) hX dX7_readDraw_20 (by decide) (by omega) (fun hc73 => ?_) (fun hc73 => ?_)
    · skip
      refine j_iconst hX dX7_readDraw_33 ?_
      exact hret _ _ _ _ dX7_readDraw_34 (nb (by omega)) (by omega) ⟨hI62, hF70, by omega, by omega, by first | (intro h; omega) | (intro _; assumption) | (intro _ h; omega)⟩
    · skip
      refine j_aload_n hX dX7_readDraw_23 rfl 0 rfl ?_
      refine j_sipush hX dX7_readDraw_24 rfl ?_
      refine j_callVI hX lk_X7_120 (c_X7_takeNumber _ _ _ _ _ _ _ _ (by omega) hI62 (by omega) (by assumption) hk68 (by first | omega | assumption)) (by omega) hce rfl rfl (by omega) (by omega) kc_1 rfl rfl (Nat.le_of_ble_eq_true rfl) dX7_readDraw_27 (fun z74 M75 hz77 hp76 => ?_)
      obtain ⟨hI78, hG79, hb80, hq81, hq82⟩ := hp76
      have hV83 := DL_fr hV67 hG79 (fun b => by omega) (by omega) (by omega)
      have hk84 := kp_fr hG79 (by omega) hk68
      have hk85 := kp_fr hG79 (by omega) hk69
      have hF86 := Fr.trans hF70 hG79 (fun a b h => by omega)
      have hk87 : M75.1 2 4 = M75.1 2 4 := rfl
      have hk88 : M75.1 2 6 = M75.1 2 6 := rfl
      refine j_if_ne (tgt := 35) hX dX7_readDraw_30 (by decide) (by omega) (fun hc89 => ?_) (fun hc89 => ?_)
      · skip
        refine j_aload_n hX dX7_readDraw_35 rfl 0 rfl ?_
        refine gf_X7_21 hX (by omega) (by omega) kc_1 hk84 (by omega) dX7_readDraw_36 ?_
        refine j_aload_n hX dX7_readDraw_39 rfl 0 rfl ?_
        refine gf_X7_32 hX (by omega) (by omega) kc_1 dX7_readDraw_40 ?_
        refine j_name hI78 ro_1_4 (fun v90 hv91 hl92 hh93 => ?_)
        have hk94 := hv91.symm
        refine pf_X7_173 hX (by omega) (by omega) (kq hq) (by omega) dX7_readDraw_43 ?_
        refine j_up hI78 (rq_16 hq) (by omega) (by omega) (Or.inl (by omega)) (fun M95 w96 hw97 hM98 hI99 hf100 => ?_)
        have hV101 := DL_up hV83 hM98 (by omega) (by omega)
        have hk102 := kp_up hM98 (by omega) hk84
        have hk103 := kp_up hM98 (by omega) hk87
        have hk104 := kp_up hM98 (by omega) hk88
        have hk105 := kp_up hM98 (by omega) hk94
        have hF106 := Fr.put hF86 hM98 (by omega)
        refine j_iconst hX dX7_readDraw_46 ?_
        exact hret _ _ _ _ dX7_readDraw_47 (nb (by omega)) (by omega) ⟨hI99, hF106, by omega, by omega, by first | (intro h; omega) | (intro _; assumption) | (intro _ h; omega)⟩
      · skip
        refine j_iconst hX dX7_readDraw_33 ?_
        exact hret _ _ _ _ dX7_readDraw_34 (nb (by omega)) (by omega) ⟨hI78, hF86, by omega, by omega, by first | (intro h; omega) | (intro _; assumption) | (intro _ h; omega)⟩
