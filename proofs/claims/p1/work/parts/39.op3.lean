theorem dX10_undo_0 : decode cX10_undo 0 = .ok (.aload_n 0, 1) := by decide +kernel
theorem dX10_undo_1 : decode cX10_undo 1 = .ok (.getfield 19, 3) := by decide +kernel
theorem dX10_undo_4 : decode cX10_undo 4 = .ok (.invokevirtual 198, 3) := by decide +kernel
theorem dX10_undo_7 : decode cX10_undo 7 = .ok (.ireturn, 1) := by decide +kernel
theorem dX10_redo_0 : decode cX10_redo 0 = .ok (.aload_n 0, 1) := by decide +kernel
theorem dX10_redo_1 : decode cX10_redo 1 = .ok (.getfield 19, 3) := by decide +kernel
theorem dX10_redo_4 : decode cX10_redo 4 = .ok (.invokevirtual 201, 3) := by decide +kernel
theorem dX10_redo_7 : decode cX10_redo 7 = .ok (.ireturn, 1) := by decide +kernel
theorem dX10_room_0 : decode cX10_room 0 = .ok (.aload_n 0, 1) := by decide +kernel
theorem dX10_room_1 : decode cX10_room 1 = .ok (.getfield 62, 3) := by decide +kernel
theorem dX10_room_4 : decode cX10_room 4 = .ok (.iload_n 1, 1) := by decide +kernel
theorem dX10_room_5 : decode cX10_room 5 = .ok (.invokevirtual 120, 3) := by decide +kernel
theorem dX10_room_8 : decode cX10_room 8 = .ok (.ifCond .ne 6, 3) := by decide +kernel
theorem dX10_room_11 : decode cX10_room 11 = .ok (.ldc 123, 2) := by decide +kernel
theorem dX10_room_13 : decode cX10_room 13 = .ok (.ireturn, 1) := by decide +kernel
theorem dX10_room_14 : decode cX10_room 14 = .ok (.aload_n 0, 1) := by decide +kernel
theorem dX10_room_15 : decode cX10_room 15 = .ok (.getfield 19, 3) := by decide +kernel
theorem dX10_room_18 : decode cX10_room 18 = .ok (.invokevirtual 124, 3) := by decide +kernel
theorem dX10_room_21 : decode cX10_room 21 = .ok (.astore_n 3, 1) := by decide +kernel
theorem dX10_room_22 : decode cX10_room 22 = .ok (.iload_n 2, 1) := by decide +kernel
theorem dX10_room_23 : decode cX10_room 23 = .ok (.tableswitch 119 0 7 #[45, 52, 58, 72, 79, 85, 95, 105], 45) := by decide +kernel
theorem dX10_room_68 : decode cX10_room 68 = .ok (.aload_n 3, 1) := by decide +kernel
theorem dX10_room_69 : decode cX10_room 69 = .ok (.getfield 128, 3) := by decide +kernel
theorem dX10_room_72 : decode cX10_room 72 = .ok (.iload_n 1, 1) := by decide +kernel
theorem dX10_room_73 : decode cX10_room 73 = .ok (.iaload, 1) := by decide +kernel
theorem dX10_room_74 : decode cX10_room 74 = .ok (.ireturn, 1) := by decide +kernel
theorem dX10_room_75 : decode cX10_room 75 = .ok (.aload_n 3, 1) := by decide +kernel
theorem dX10_room_76 : decode cX10_room 76 = .ok (.iload_n 1, 1) := by decide +kernel
theorem dX10_room_77 : decode cX10_room 77 = .ok (.invokevirtual 131, 3) := by decide +kernel
theorem dX10_room_80 : decode cX10_room 80 = .ok (.ireturn, 1) := by decide +kernel
theorem dX10_room_81 : decode cX10_room 81 = .ok (.aload_n 3, 1) := by decide +kernel
theorem dX10_room_82 : decode cX10_room 82 = .ok (.iload_n 1, 1) := by decide +kernel
theorem dX10_room_83 : decode cX10_room 83 = .ok (.invokevirtual 135, 3) := by decide +kernel
theorem dX10_room_86 : decode cX10_room 86 = .ok (.ifCond .eq 7, 3) := by decide +kernel
theorem dX10_room_89 : decode cX10_room 89 = .ok (.iconst 1, 1) := by decide +kernel
theorem dX10_room_90 : decode cX10_room 90 = .ok (.goto 4, 3) := by decide +kernel
theorem dX10_room_93 : decode cX10_room 93 = .ok (.iconst 0, 1) := by decide +kernel
theorem dX10_room_94 : decode cX10_room 94 = .ok (.ireturn, 1) := by decide +kernel
theorem dX10_room_95 : decode cX10_room 95 = .ok (.aload_n 3, 1) := by decide +kernel
theorem dX10_room_96 : decode cX10_room 96 = .ok (.getfield 138, 3) := by decide +kernel
theorem dX10_room_99 : decode cX10_room 99 = .ok (.iload_n 1, 1) := by decide +kernel
theorem dX10_room_100 : decode cX10_room 100 = .ok (.iaload, 1) := by decide +kernel
theorem dX10_room_101 : decode cX10_room 101 = .ok (.ireturn, 1) := by decide +kernel
theorem dX10_room_102 : decode cX10_room 102 = .ok (.aload_n 0, 1) := by decide +kernel
theorem dX10_room_103 : decode cX10_room 103 = .ok (.iload_n 1, 1) := by decide +kernel
theorem dX10_room_104 : decode cX10_room 104 = .ok (.invokevirtual 141, 3) := by decide +kernel
theorem dX10_room_107 : decode cX10_room 107 = .ok (.ireturn, 1) := by decide +kernel
theorem dX10_room_108 : decode cX10_room 108 = .ok (.aload_n 0, 1) := by decide +kernel
theorem dX10_room_109 : decode cX10_room 109 = .ok (.getfield 62, 3) := by decide +kernel
theorem dX10_room_112 : decode cX10_room 112 = .ok (.getfield 144, 3) := by decide +kernel
theorem dX10_room_115 : decode cX10_room 115 = .ok (.iload_n 1, 1) := by decide +kernel
theorem dX10_room_116 : decode cX10_room 116 = .ok (.iaload, 1) := by decide +kernel
theorem dX10_room_117 : decode cX10_room 117 = .ok (.ireturn, 1) := by decide +kernel
theorem dX10_room_118 : decode cX10_room 118 = .ok (.aload_n 0, 1) := by decide +kernel
theorem dX10_room_119 : decode cX10_room 119 = .ok (.getfield 62, 3) := by decide +kernel
theorem dX10_room_122 : decode cX10_room 122 = .ok (.getfield 147, 3) := by decide +kernel
theorem dX10_room_125 : decode cX10_room 125 = .ok (.iload_n 1, 1) := by decide +kernel
theorem dX10_room_126 : decode cX10_room 126 = .ok (.iaload, 1) := by decide +kernel
theorem dX10_room_127 : decode cX10_room 127 = .ok (.ireturn, 1) := by decide +kernel
theorem dX10_room_128 : decode cX10_room 128 = .ok (.aload_n 3, 1) := by decide +kernel
theorem dX10_room_129 : decode cX10_room 129 = .ok (.iload_n 1, 1) := by decide +kernel
theorem dX10_room_130 : decode cX10_room 130 = .ok (.invokevirtual 150, 3) := by decide +kernel
theorem dX10_room_133 : decode cX10_room 133 = .ok (.ifCond .eq 7, 3) := by decide +kernel
theorem dX10_room_136 : decode cX10_room 136 = .ok (.iconst 1, 1) := by decide +kernel
theorem dX10_room_137 : decode cX10_room 137 = .ok (.goto 4, 3) := by decide +kernel
theorem dX10_room_140 : decode cX10_room 140 = .ok (.iconst 0, 1) := by decide +kernel
theorem dX10_room_141 : decode cX10_room 141 = .ok (.ireturn, 1) := by decide +kernel
theorem dX10_room_142 : decode cX10_room 142 = .ok (.ldc 123, 2) := by decide +kernel
theorem dX10_room_144 : decode cX10_room 144 = .ok (.ireturn, 1) := by decide +kernel
theorem dX10_fact_0 : decode cX10_fact 0 = .ok (.aload_n 0, 1) := by decide +kernel
theorem dX10_fact_1 : decode cX10_fact 1 = .ok (.getfield 62, 3) := by decide +kernel
theorem dX10_fact_4 : decode cX10_fact 4 = .ok (.iload_n 1, 1) := by decide +kernel
theorem dX10_fact_5 : decode cX10_fact 5 = .ok (.invokevirtual 153, 3) := by decide +kernel
theorem dX10_fact_8 : decode cX10_fact 8 = .ok (.ifCond .ne 5, 3) := by decide +kernel
theorem dX10_fact_11 : decode cX10_fact 11 = .ok (.iconst (-1), 1) := by decide +kernel
theorem dX10_fact_12 : decode cX10_fact 12 = .ok (.ireturn, 1) := by decide +kernel
theorem dX10_fact_13 : decode cX10_fact 13 = .ok (.iload_n 2, 1) := by decide +kernel
theorem dX10_fact_14 : decode cX10_fact 14 = .ok (.tableswitch 74 0 3 #[30, 40, 50, 62], 30) := by decide +kernel
theorem dX10_fact_44 : decode cX10_fact 44 = .ok (.aload_n 0, 1) := by decide +kernel
theorem dX10_fact_45 : decode cX10_fact 45 = .ok (.getfield 62, 3) := by decide +kernel
theorem dX10_fact_48 : decode cX10_fact 48 = .ok (.getfield 156, 3) := by decide +kernel
theorem dX10_fact_51 : decode cX10_fact 51 = .ok (.iload_n 1, 1) := by decide +kernel
theorem dX10_fact_52 : decode cX10_fact 52 = .ok (.iaload, 1) := by decide +kernel
theorem dX10_fact_53 : decode cX10_fact 53 = .ok (.ireturn, 1) := by decide +kernel
theorem dX10_fact_54 : decode cX10_fact 54 = .ok (.aload_n 0, 1) := by decide +kernel
theorem dX10_fact_55 : decode cX10_fact 55 = .ok (.getfield 62, 3) := by decide +kernel
theorem dX10_fact_58 : decode cX10_fact 58 = .ok (.getfield 159, 3) := by decide +kernel
theorem dX10_fact_61 : decode cX10_fact 61 = .ok (.iload_n 1, 1) := by decide +kernel
theorem dX10_fact_62 : decode cX10_fact 62 = .ok (.iaload, 1) := by decide +kernel
theorem dX10_fact_63 : decode cX10_fact 63 = .ok (.ireturn, 1) := by decide +kernel
theorem dX10_fact_64 : decode cX10_fact 64 = .ok (.aload_n 0, 1) := by decide +kernel
theorem dX10_fact_65 : decode cX10_fact 65 = .ok (.getfield 62, 3) := by decide +kernel
theorem dX10_fact_68 : decode cX10_fact 68 = .ok (.getfield 162, 3) := by decide +kernel
theorem dX10_fact_71 : decode cX10_fact 71 = .ok (.iload_n 1, 1) := by decide +kernel
theorem dX10_fact_72 : decode cX10_fact 72 = .ok (.ishr, 1) := by decide +kernel
theorem dX10_fact_73 : decode cX10_fact 73 = .ok (.iconst 1, 1) := by decide +kernel
theorem dX10_fact_74 : decode cX10_fact 74 = .ok (.iand, 1) := by decide +kernel
theorem dX10_fact_75 : decode cX10_fact 75 = .ok (.ireturn, 1) := by decide +kernel
theorem dX10_fact_76 : decode cX10_fact 76 = .ok (.aload_n 0, 1) := by decide +kernel
theorem dX10_fact_77 : decode cX10_fact 77 = .ok (.getfield 19, 3) := by decide +kernel
theorem dX10_fact_80 : decode cX10_fact 80 = .ok (.invokevirtual 124, 3) := by decide +kernel
theorem dX10_fact_83 : decode cX10_fact 83 = .ok (.iload_n 1, 1) := by decide +kernel
theorem dX10_fact_84 : decode cX10_fact 84 = .ok (.invokevirtual 165, 3) := by decide +kernel
theorem dX10_fact_87 : decode cX10_fact 87 = .ok (.ireturn, 1) := by decide +kernel
theorem dX10_fact_88 : decode cX10_fact 88 = .ok (.iconst (-1), 1) := by decide +kernel
theorem dX10_fact_89 : decode cX10_fact 89 = .ok (.ireturn, 1) := by decide +kernel
theorem dX10_harm_0 : decode cX10_harm 0 = .ok (.aload_n 0, 1) := by decide +kernel
theorem dX10_harm_1 : decode cX10_harm 1 = .ok (.getfield 62, 3) := by decide +kernel
theorem dX10_harm_4 : decode cX10_harm 4 = .ok (.iload_n 1, 1) := by decide +kernel
theorem dX10_harm_5 : decode cX10_harm 5 = .ok (.invokevirtual 120, 3) := by decide +kernel
theorem dX10_harm_8 : decode cX10_harm 8 = .ok (.ifCond .ne 5, 3) := by decide +kernel
theorem dX10_harm_11 : decode cX10_harm 11 = .ok (.iconst (-1), 1) := by decide +kernel
theorem dX10_harm_12 : decode cX10_harm 12 = .ok (.ireturn, 1) := by decide +kernel
theorem dX10_harm_13 : decode cX10_harm 13 = .ok (.aload_n 0, 1) := by decide +kernel
theorem dX10_harm_14 : decode cX10_harm 14 = .ok (.getfield 19, 3) := by decide +kernel
theorem dX10_harm_17 : decode cX10_harm 17 = .ok (.invokevirtual 124, 3) := by decide +kernel
theorem dX10_harm_20 : decode cX10_harm 20 = .ok (.astore_n 2, 1) := by decide +kernel
theorem dX10_harm_21 : decode cX10_harm 21 = .ok (.iconst 0, 1) := by decide +kernel
theorem dX10_harm_22 : decode cX10_harm 22 = .ok (.istore_n 3, 1) := by decide +kernel
theorem dX10_harm_23 : decode cX10_harm 23 = .ok (.iconst 0, 1) := by decide +kernel
theorem dX10_harm_24 : decode cX10_harm 24 = .ok (.istore 4, 2) := by decide +kernel
theorem dX10_harm_26 : decode cX10_harm 26 = .ok (.iload 4, 2) := by decide +kernel
theorem dX10_harm_28 : decode cX10_harm 28 = .ok (.aload_n 0, 1) := by decide +kernel
theorem dX10_harm_29 : decode cX10_harm 29 = .ok (.getfield 62, 3) := by decide +kernel
theorem dX10_harm_32 : decode cX10_harm 32 = .ok (.getfield 111, 3) := by decide +kernel
theorem dX10_harm_35 : decode cX10_harm 35 = .ok (.if_icmp .ge 38, 3) := by decide +kernel
theorem dX10_harm_38 : decode cX10_harm 38 = .ok (.iload 4, 2) := by decide +kernel
theorem dX10_harm_40 : decode cX10_harm 40 = .ok (.iload_n 1, 1) := by decide +kernel
theorem dX10_harm_41 : decode cX10_harm 41 = .ok (.if_icmp .eq 26, 3) := by decide +kernel
theorem dX10_harm_44 : decode cX10_harm 44 = .ok (.iload_n 3, 1) := by decide +kernel
theorem dX10_harm_45 : decode cX10_harm 45 = .ok (.aload_n 2, 1) := by decide +kernel
theorem dX10_harm_46 : decode cX10_harm 46 = .ok (.getfield 138, 3) := by decide +kernel
theorem dX10_harm_49 : decode cX10_harm 49 = .ok (.iload 4, 2) := by decide +kernel
theorem dX10_harm_51 : decode cX10_harm 51 = .ok (.iaload, 1) := by decide +kernel
theorem dX10_harm_52 : decode cX10_harm 52 = .ok (.aload_n 0, 1) := by decide +kernel
theorem dX10_harm_53 : decode cX10_harm 53 = .ok (.getfield 62, 3) := by decide +kernel
theorem dX10_harm_56 : decode cX10_harm 56 = .ok (.getfield 147, 3) := by decide +kernel
theorem dX10_harm_59 : decode cX10_harm 59 = .ok (.iload_n 1, 1) := by decide +kernel
theorem dX10_harm_60 : decode cX10_harm 60 = .ok (.iaload, 1) := by decide +kernel
theorem dX10_harm_61 : decode cX10_harm 61 = .ok (.iand, 1) := by decide +kernel
theorem dX10_harm_62 : decode cX10_harm 62 = .ok (.invokestatic 215, 3) := by decide +kernel
theorem dX10_harm_65 : decode cX10_harm 65 = .ok (.iadd, 1) := by decide +kernel
theorem dX10_harm_66 : decode cX10_harm 66 = .ok (.istore_n 3, 1) := by decide +kernel
theorem dX10_harm_67 : decode cX10_harm 67 = .ok (.iinc 4 1, 3) := by decide +kernel
theorem dX10_harm_70 : decode cX10_harm 70 = .ok (.goto (-44), 3) := by decide +kernel
theorem dX10_harm_73 : decode cX10_harm 73 = .ok (.iload_n 3, 1) := by decide +kernel
theorem dX10_harm_74 : decode cX10_harm 74 = .ok (.ireturn, 1) := by decide +kernel
theorem dX10_mutual_0 : decode cX10_mutual 0 = .ok (.aload_n 0, 1) := by decide +kernel
theorem dX10_mutual_1 : decode cX10_mutual 1 = .ok (.getfield 19, 3) := by decide +kernel
theorem dX10_mutual_4 : decode cX10_mutual 4 = .ok (.invokevirtual 124, 3) := by decide +kernel
theorem dX10_mutual_7 : decode cX10_mutual 7 = .ok (.astore_n 1, 1) := by decide +kernel
theorem dX10_mutual_8 : decode cX10_mutual 8 = .ok (.iconst 0, 1) := by decide +kernel
theorem dX10_mutual_9 : decode cX10_mutual 9 = .ok (.istore_n 2, 1) := by decide +kernel
theorem dX10_mutual_10 : decode cX10_mutual 10 = .ok (.iconst 0, 1) := by decide +kernel
theorem dX10_mutual_11 : decode cX10_mutual 11 = .ok (.istore_n 3, 1) := by decide +kernel
theorem dX10_mutual_12 : decode cX10_mutual 12 = .ok (.iload_n 3, 1) := by decide +kernel
theorem dX10_mutual_13 : decode cX10_mutual 13 = .ok (.aload_n 0, 1) := by decide +kernel
theorem dX10_mutual_14 : decode cX10_mutual 14 = .ok (.getfield 62, 3) := by decide +kernel
theorem dX10_mutual_17 : decode cX10_mutual 17 = .ok (.getfield 111, 3) := by decide +kernel
theorem dX10_mutual_20 : decode cX10_mutual 20 = .ok (.if_icmp .ge 66, 3) := by decide +kernel
theorem dX10_mutual_23 : decode cX10_mutual 23 = .ok (.aload_n 1, 1) := by decide +kernel
theorem dX10_mutual_24 : decode cX10_mutual 24 = .ok (.getfield 128, 3) := by decide +kernel
theorem dX10_mutual_27 : decode cX10_mutual 27 = .ok (.iload_n 3, 1) := by decide +kernel
theorem dX10_mutual_28 : decode cX10_mutual 28 = .ok (.iaload, 1) := by decide +kernel
theorem dX10_mutual_29 : decode cX10_mutual 29 = .ok (.istore 4, 2) := by decide +kernel
theorem dX10_mutual_31 : decode cX10_mutual 31 = .ok (.iload 4, 2) := by decide +kernel
theorem dX10_mutual_33 : decode cX10_mutual 33 = .ok (.iload_n 3, 1) := by decide +kernel
theorem dX10_mutual_34 : decode cX10_mutual 34 = .ok (.if_icmp .le 18, 3) := by decide +kernel
theorem dX10_mutual_37 : decode cX10_mutual 37 = .ok (.aload_n 1, 1) := by decide +kernel
theorem dX10_mutual_38 : decode cX10_mutual 38 = .ok (.getfield 128, 3) := by decide +kernel
theorem dX10_mutual_41 : decode cX10_mutual 41 = .ok (.iload 4, 2) := by decide +kernel
theorem dX10_mutual_43 : decode cX10_mutual 43 = .ok (.iaload, 1) := by decide +kernel
theorem dX10_mutual_44 : decode cX10_mutual 44 = .ok (.iload_n 3, 1) := by decide +kernel
theorem dX10_mutual_45 : decode cX10_mutual 45 = .ok (.if_icmp .ne 7, 3) := by decide +kernel
theorem dX10_mutual_48 : decode cX10_mutual 48 = .ok (.iconst 1, 1) := by decide +kernel
theorem dX10_mutual_49 : decode cX10_mutual 49 = .ok (.goto 4, 3) := by decide +kernel
theorem dX10_mutual_52 : decode cX10_mutual 52 = .ok (.iconst 0, 1) := by decide +kernel
theorem dX10_mutual_53 : decode cX10_mutual 53 = .ok (.istore 5, 2) := by decide +kernel
theorem dX10_mutual_55 : decode cX10_mutual 55 = .ok (.iload 5, 2) := by decide +kernel
theorem dX10_mutual_57 : decode cX10_mutual 57 = .ok (.ifCond .eq 23, 3) := by decide +kernel
theorem dX10_mutual_60 : decode cX10_mutual 60 = .ok (.aload_n 1, 1) := by decide +kernel
theorem dX10_mutual_61 : decode cX10_mutual 61 = .ok (.iload_n 3, 1) := by decide +kernel
theorem dX10_mutual_62 : decode cX10_mutual 62 = .ok (.invokevirtual 150, 3) := by decide +kernel
theorem dX10_mutual_65 : decode cX10_mutual 65 = .ok (.ifCond .eq 15, 3) := by decide +kernel
theorem dX10_mutual_68 : decode cX10_mutual 68 = .ok (.aload_n 1, 1) := by decide +kernel
theorem dX10_mutual_69 : decode cX10_mutual 69 = .ok (.iload 4, 2) := by decide +kernel
theorem dX10_mutual_71 : decode cX10_mutual 71 = .ok (.invokevirtual 150, 3) := by decide +kernel
theorem dX10_mutual_74 : decode cX10_mutual 74 = .ok (.ifCond .eq 6, 3) := by decide +kernel
theorem dX10_mutual_77 : decode cX10_mutual 77 = .ok (.iinc 2 1, 3) := by decide +kernel
theorem dX10_mutual_80 : decode cX10_mutual 80 = .ok (.iinc 3 1, 3) := by decide +kernel
theorem dX10_mutual_83 : decode cX10_mutual 83 = .ok (.goto (-71), 3) := by decide +kernel
theorem dX10_mutual_86 : decode cX10_mutual 86 = .ok (.iload_n 2, 1) := by decide +kernel
theorem dX10_mutual_87 : decode cX10_mutual 87 = .ok (.ireturn, 1) := by decide +kernel
theorem dX10_word_0 : decode cX10_word 0 = .ok (.aload_n 0, 1) := by decide +kernel
theorem dX10_word_1 : decode cX10_word 1 = .ok (.iconst 0, 1) := by decide +kernel
theorem dX10_word_2 : decode cX10_word 2 = .ok (.putfield 70, 3) := by decide +kernel
theorem dX10_word_5 : decode cX10_word 5 = .ok (.aload_n 0, 1) := by decide +kernel
theorem dX10_word_6 : decode cX10_word 6 = .ok (.getfield 62, 3) := by decide +kernel
theorem dX10_word_9 : decode cX10_word 9 = .ok (.iload_n 1, 1) := by decide +kernel
theorem dX10_word_10 : decode cX10_word 10 = .ok (.invokevirtual 120, 3) := by decide +kernel
theorem dX10_word_13 : decode cX10_word 13 = .ok (.ifCond .eq 14, 3) := by decide +kernel
theorem dX10_word_16 : decode cX10_word 16 = .ok (.aload_n 0, 1) := by decide +kernel
theorem dX10_word_17 : decode cX10_word 17 = .ok (.getfield 62, 3) := by decide +kernel
theorem dX10_word_20 : decode cX10_word 20 = .ok (.iload_n 2, 1) := by decide +kernel
theorem dX10_word_21 : decode cX10_word 21 = .ok (.invokevirtual 120, 3) := by decide +kernel
theorem dX10_word_24 : decode cX10_word 24 = .ok (.ifCond .ne 5, 3) := by decide +kernel
theorem dX10_word_27 : decode cX10_word 27 = .ok (.iconst (-1), 1) := by decide +kernel
theorem dX10_word_28 : decode cX10_word 28 = .ok (.ireturn, 1) := by decide +kernel
theorem dX10_word_29 : decode cX10_word 29 = .ok (.aload_n 0, 1) := by decide +kernel
theorem dX10_word_30 : decode cX10_word 30 = .ok (.getfield 19, 3) := by decide +kernel
theorem dX10_word_33 : decode cX10_word 33 = .ok (.invokevirtual 124, 3) := by decide +kernel
theorem dX10_word_36 : decode cX10_word 36 = .ok (.astore_n 3, 1) := by decide +kernel
theorem dX10_word_37 : decode cX10_word 37 = .ok (.iload_n 1, 1) := by decide +kernel
theorem dX10_word_38 : decode cX10_word 38 = .ok (.istore 4, 2) := by decide +kernel
theorem dX10_word_40 : decode cX10_word 40 = .ok (.iconst 0, 1) := by decide +kernel
theorem dX10_word_41 : decode cX10_word 41 = .ok (.istore 5, 2) := by decide +kernel
theorem dX10_word_43 : decode cX10_word 43 = .ok (.iload 5, 2) := by decide +kernel
theorem dX10_word_45 : decode cX10_word 45 = .ok (.aload_n 0, 1) := by decide +kernel
theorem dX10_word_46 : decode cX10_word 46 = .ok (.getfield 62, 3) := by decide +kernel
theorem dX10_word_49 : decode cX10_word 49 = .ok (.getfield 111, 3) := by decide +kernel
theorem dX10_word_52 : decode cX10_word 52 = .ok (.if_icmp .ge 54, 3) := by decide +kernel
theorem dX10_word_55 : decode cX10_word 55 = .ok (.aload_n 0, 1) := by decide +kernel
theorem dX10_word_56 : decode cX10_word 56 = .ok (.getfield 55, 3) := by decide +kernel
theorem dX10_word_59 : decode cX10_word 59 = .ok (.iload 5, 2) := by decide +kernel
theorem dX10_word_61 : decode cX10_word 61 = .ok (.iload 4, 2) := by decide +kernel
theorem dX10_word_63 : decode cX10_word 63 = .ok (.iastore, 1) := by decide +kernel
theorem dX10_word_64 : decode cX10_word 64 = .ok (.iload 4, 2) := by decide +kernel
theorem dX10_word_66 : decode cX10_word 66 = .ok (.iload_n 2, 1) := by decide +kernel
theorem dX10_word_67 : decode cX10_word 67 = .ok (.if_icmp .ne 14, 3) := by decide +kernel
theorem dX10_word_70 : decode cX10_word 70 = .ok (.aload_n 0, 1) := by decide +kernel
theorem dX10_word_71 : decode cX10_word 71 = .ok (.iload 5, 2) := by decide +kernel
theorem dX10_word_73 : decode cX10_word 73 = .ok (.iconst 1, 1) := by decide +kernel
theorem dX10_word_74 : decode cX10_word 74 = .ok (.iadd, 1) := by decide +kernel
theorem dX10_word_75 : decode cX10_word 75 = .ok (.putfield 70, 3) := by decide +kernel
theorem dX10_word_78 : decode cX10_word 78 = .ok (.iload 5, 2) := by decide +kernel
theorem dX10_word_80 : decode cX10_word 80 = .ok (.ireturn, 1) := by decide +kernel
theorem dX10_word_81 : decode cX10_word 81 = .ok (.aload_n 3, 1) := by decide +kernel
theorem dX10_word_82 : decode cX10_word 82 = .ok (.iload 4, 2) := by decide +kernel
theorem dX10_word_84 : decode cX10_word 84 = .ok (.invokevirtual 135, 3) := by decide +kernel
theorem dX10_word_87 : decode cX10_word 87 = .ok (.ifCond .eq 5, 3) := by decide +kernel
theorem dX10_word_90 : decode cX10_word 90 = .ok (.iconst (-1), 1) := by decide +kernel
theorem dX10_word_91 : decode cX10_word 91 = .ok (.ireturn, 1) := by decide +kernel
theorem dX10_word_92 : decode cX10_word 92 = .ok (.aload_n 3, 1) := by decide +kernel
theorem dX10_word_93 : decode cX10_word 93 = .ok (.iload 4, 2) := by decide +kernel
theorem dX10_word_95 : decode cX10_word 95 = .ok (.invokevirtual 131, 3) := by decide +kernel
theorem dX10_word_98 : decode cX10_word 98 = .ok (.istore 4, 2) := by decide +kernel
theorem dX10_word_100 : decode cX10_word 100 = .ok (.iinc 5 1, 3) := by decide +kernel
theorem dX10_word_103 : decode cX10_word 103 = .ok (.goto (-60), 3) := by decide +kernel
theorem dX10_word_106 : decode cX10_word 106 = .ok (.iconst (-1), 1) := by decide +kernel
theorem dX10_word_107 : decode cX10_word 107 = .ok (.ireturn, 1) := by decide +kernel
theorem dX10_reach_0 : decode cX10_reach 0 = .ok (.aload_n 0, 1) := by decide +kernel
theorem dX10_reach_1 : decode cX10_reach 1 = .ok (.getfield 62, 3) := by decide +kernel
theorem dX10_reach_4 : decode cX10_reach 4 = .ok (.iload_n 1, 1) := by decide +kernel
theorem dX10_reach_5 : decode cX10_reach 5 = .ok (.invokevirtual 120, 3) := by decide +kernel
theorem dX10_reach_8 : decode cX10_reach 8 = .ok (.ifCond .ne 5, 3) := by decide +kernel
theorem dX10_reach_11 : decode cX10_reach 11 = .ok (.iconst (-1), 1) := by decide +kernel
theorem dX10_reach_12 : decode cX10_reach 12 = .ok (.ireturn, 1) := by decide +kernel
theorem dX10_reach_13 : decode cX10_reach 13 = .ok (.aload_n 0, 1) := by decide +kernel
theorem dX10_reach_14 : decode cX10_reach 14 = .ok (.getfield 19, 3) := by decide +kernel
theorem dX10_reach_17 : decode cX10_reach 17 = .ok (.invokevirtual 124, 3) := by decide +kernel
theorem dX10_reach_20 : decode cX10_reach 20 = .ok (.astore_n 2, 1) := by decide +kernel
theorem dX10_reach_21 : decode cX10_reach 21 = .ok (.iconst 1, 1) := by decide +kernel
theorem dX10_reach_22 : decode cX10_reach 22 = .ok (.iload_n 1, 1) := by decide +kernel
theorem dX10_reach_23 : decode cX10_reach 23 = .ok (.ishl, 1) := by decide +kernel
theorem dX10_reach_24 : decode cX10_reach 24 = .ok (.istore_n 3, 1) := by decide +kernel
theorem dX10_reach_25 : decode cX10_reach 25 = .ok (.iload_n 1, 1) := by decide +kernel
theorem dX10_reach_26 : decode cX10_reach 26 = .ok (.istore 4, 2) := by decide +kernel
theorem dX10_reach_28 : decode cX10_reach 28 = .ok (.iconst 0, 1) := by decide +kernel
theorem dX10_reach_29 : decode cX10_reach 29 = .ok (.istore 5, 2) := by decide +kernel
theorem dX10_reach_31 : decode cX10_reach 31 = .ok (.iload 5, 2) := by decide +kernel
theorem dX10_reach_33 : decode cX10_reach 33 = .ok (.aload_n 0, 1) := by decide +kernel
theorem dX10_reach_34 : decode cX10_reach 34 = .ok (.getfield 62, 3) := by decide +kernel
theorem dX10_reach_37 : decode cX10_reach 37 = .ok (.getfield 111, 3) := by decide +kernel
theorem dX10_reach_40 : decode cX10_reach 40 = .ok (.if_icmp .ge 33, 3) := by decide +kernel
theorem dX10_reach_43 : decode cX10_reach 43 = .ok (.aload_n 2, 1) := by decide +kernel
theorem dX10_reach_44 : decode cX10_reach 44 = .ok (.iload 4, 2) := by decide +kernel
theorem dX10_reach_46 : decode cX10_reach 46 = .ok (.invokevirtual 135, 3) := by decide +kernel
theorem dX10_reach_49 : decode cX10_reach 49 = .ok (.ifCond .ne 24, 3) := by decide +kernel
theorem dX10_reach_52 : decode cX10_reach 52 = .ok (.aload_n 2, 1) := by decide +kernel
theorem dX10_reach_53 : decode cX10_reach 53 = .ok (.iload 4, 2) := by decide +kernel
theorem dX10_reach_55 : decode cX10_reach 55 = .ok (.invokevirtual 131, 3) := by decide +kernel
theorem dX10_reach_58 : decode cX10_reach 58 = .ok (.istore 4, 2) := by decide +kernel
theorem dX10_reach_60 : decode cX10_reach 60 = .ok (.iload_n 3, 1) := by decide +kernel
theorem dX10_reach_61 : decode cX10_reach 61 = .ok (.iconst 1, 1) := by decide +kernel
theorem dX10_reach_62 : decode cX10_reach 62 = .ok (.iload 4, 2) := by decide +kernel
theorem dX10_reach_64 : decode cX10_reach 64 = .ok (.ishl, 1) := by decide +kernel
theorem dX10_reach_65 : decode cX10_reach 65 = .ok (.ior, 1) := by decide +kernel
theorem dX10_reach_66 : decode cX10_reach 66 = .ok (.istore_n 3, 1) := by decide +kernel
theorem dX10_reach_67 : decode cX10_reach 67 = .ok (.iinc 5 1, 3) := by decide +kernel
theorem dX10_reach_70 : decode cX10_reach 70 = .ok (.goto (-39), 3) := by decide +kernel
theorem dX10_reach_73 : decode cX10_reach 73 = .ok (.iload_n 3, 1) := by decide +kernel
theorem dX10_reach_74 : decode cX10_reach 74 = .ok (.ireturn, 1) := by decide +kernel
theorem dX10_proof_0 : decode cX10_proof 0 = .ok (.iload_n 1, 1) := by decide +kernel
theorem dX10_proof_1 : decode cX10_proof 1 = .ok (.ifCond .lt 23, 3) := by decide +kernel
theorem dX10_proof_4 : decode cX10_proof 4 = .ok (.iload_n 1, 1) := by decide +kernel
theorem dX10_proof_5 : decode cX10_proof 5 = .ok (.aload_n 0, 1) := by decide +kernel
theorem dX10_proof_6 : decode cX10_proof 6 = .ok (.getfield 62, 3) := by decide +kernel
theorem dX10_proof_9 : decode cX10_proof 9 = .ok (.invokevirtual 263, 3) := by decide +kernel
theorem dX10_proof_12 : decode cX10_proof 12 = .ok (.if_icmp .gt 12, 3) := by decide +kernel
theorem dX10_proof_15 : decode cX10_proof 15 = .ok (.iload_n 2, 1) := by decide +kernel
theorem dX10_proof_16 : decode cX10_proof 16 = .ok (.ifCond .lt 8, 3) := by decide +kernel
theorem dX10_proof_19 : decode cX10_proof 19 = .ok (.iload_n 2, 1) := by decide +kernel
theorem dX10_proof_20 : decode cX10_proof 20 = .ok (.iconst 1, 1) := by decide +kernel
theorem dX10_proof_21 : decode cX10_proof 21 = .ok (.if_icmp .le 5, 3) := by decide +kernel
theorem dX10_proof_24 : decode cX10_proof 24 = .ok (.iconst (-1), 1) := by decide +kernel
theorem dX10_proof_25 : decode cX10_proof 25 = .ok (.ireturn, 1) := by decide +kernel
theorem dX10_proof_26 : decode cX10_proof 26 = .ok (.aload_n 0, 1) := by decide +kernel
theorem dX10_proof_27 : decode cX10_proof 27 = .ok (.getfield 19, 3) := by decide +kernel
theorem dX10_proof_30 : decode cX10_proof 30 = .ok (.invokevirtual 124, 3) := by decide +kernel
theorem dX10_proof_33 : decode cX10_proof 33 = .ok (.astore_n 3, 1) := by decide +kernel
theorem dX10_proof_34 : decode cX10_proof 34 = .ok (.iconst 0, 1) := by decide +kernel
theorem dX10_proof_35 : decode cX10_proof 35 = .ok (.istore 4, 2) := by decide +kernel
theorem dX10_proof_37 : decode cX10_proof 37 = .ok (.iload 4, 2) := by decide +kernel
theorem dX10_proof_39 : decode cX10_proof 39 = .ok (.aload_n 0, 1) := by decide +kernel
theorem dX10_proof_40 : decode cX10_proof 40 = .ok (.getfield 62, 3) := by decide +kernel
theorem dX10_proof_43 : decode cX10_proof 43 = .ok (.getfield 111, 3) := by decide +kernel
theorem dX10_proof_46 : decode cX10_proof 46 = .ok (.if_icmp .gt 65, 3) := by decide +kernel
theorem dX10_proof_49 : decode cX10_proof 49 = .ok (.iconst 0, 1) := by decide +kernel
theorem dX10_proof_50 : decode cX10_proof 50 = .ok (.istore 5, 2) := by decide +kernel
theorem dX10_proof_52 : decode cX10_proof 52 = .ok (.iload 5, 2) := by decide +kernel
theorem dX10_proof_54 : decode cX10_proof 54 = .ok (.aload_n 0, 1) := by decide +kernel
theorem dX10_proof_55 : decode cX10_proof 55 = .ok (.getfield 62, 3) := by decide +kernel
theorem dX10_proof_58 : decode cX10_proof 58 = .ok (.invokevirtual 220, 3) := by decide +kernel
theorem dX10_proof_61 : decode cX10_proof 61 = .ok (.if_icmp .gt 44, 3) := by decide +kernel
theorem dX10_proof_64 : decode cX10_proof 64 = .ok (.iload 5, 2) := by decide +kernel
theorem dX10_proof_66 : decode cX10_proof 66 = .ok (.invokestatic 215, 3) := by decide +kernel
theorem dX10_proof_69 : decode cX10_proof 69 = .ok (.iload 4, 2) := by decide +kernel
theorem dX10_proof_71 : decode cX10_proof 71 = .ok (.if_icmp .ne 28, 3) := by decide +kernel
theorem dX10_proof_74 : decode cX10_proof 74 = .ok (.iload_n 1, 1) := by decide +kernel
theorem dX10_proof_75 : decode cX10_proof 75 = .ok (.aload_n 3, 1) := by decide +kernel
theorem dX10_proof_76 : decode cX10_proof 76 = .ok (.iload 5, 2) := by decide +kernel
theorem dX10_proof_78 : decode cX10_proof 78 = .ok (.invokevirtual 266, 3) := by decide +kernel
theorem dX10_proof_81 : decode cX10_proof 81 = .ok (.iconst (-1), 1) := by decide +kernel
theorem dX10_proof_82 : decode cX10_proof 82 = .ok (.ixor, 1) := by decide +kernel
theorem dX10_proof_83 : decode cX10_proof 83 = .ok (.iand, 1) := by decide +kernel
theorem dX10_proof_84 : decode cX10_proof 84 = .ok (.ifCond .ne 15, 3) := by decide +kernel
theorem dX10_proof_87 : decode cX10_proof 87 = .ok (.iload_n 2, 1) := by decide +kernel
theorem dX10_proof_88 : decode cX10_proof 88 = .ok (.ifCond .ne 8, 3) := by decide +kernel
theorem dX10_proof_91 : decode cX10_proof 91 = .ok (.iload 4, 2) := by decide +kernel
theorem dX10_proof_93 : decode cX10_proof 93 = .ok (.goto 5, 3) := by decide +kernel
theorem dX10_proof_96 : decode cX10_proof 96 = .ok (.iload 5, 2) := by decide +kernel
theorem dX10_proof_98 : decode cX10_proof 98 = .ok (.ireturn, 1) := by decide +kernel
theorem dX10_proof_99 : decode cX10_proof 99 = .ok (.iinc 5 1, 3) := by decide +kernel
theorem dX10_proof_102 : decode cX10_proof 102 = .ok (.goto (-50), 3) := by decide +kernel
theorem dX10_proof_105 : decode cX10_proof 105 = .ok (.iinc 4 1, 3) := by decide +kernel
theorem dX10_proof_108 : decode cX10_proof 108 = .ok (.goto (-71), 3) := by decide +kernel
theorem dX10_proof_111 : decode cX10_proof 111 = .ok (.iconst (-1), 1) := by decide +kernel
theorem dX10_proof_112 : decode cX10_proof 112 = .ok (.ireturn, 1) := by decide +kernel
theorem dX10_about_0 : decode cX10_about 0 = .ok (.aload_n 0, 1) := by decide +kernel
theorem dX10_about_1 : decode cX10_about 1 = .ok (.getfield 19, 3) := by decide +kernel
theorem dX10_about_4 : decode cX10_about 4 = .ok (.invokevirtual 124, 3) := by decide +kernel
theorem dX10_about_7 : decode cX10_about 7 = .ok (.astore_n 2, 1) := by decide +kernel
theorem dX10_about_8 : decode cX10_about 8 = .ok (.iload_n 1, 1) := by decide +kernel
theorem dX10_about_9 : decode cX10_about 9 = .ok (.tableswitch 182 0 13 #[71, 79, 87, 92, 97, 102, 110, 118, 126, 142, 150, 155, 166, 177], 71) := by decide +kernel
theorem dX10_about_80 : decode cX10_about 80 = .ok (.aload_n 0, 1) := by decide +kernel
theorem dX10_about_81 : decode cX10_about 81 = .ok (.getfield 62, 3) := by decide +kernel
theorem dX10_about_84 : decode cX10_about 84 = .ok (.getfield 111, 3) := by decide +kernel
theorem dX10_about_87 : decode cX10_about 87 = .ok (.ireturn, 1) := by decide +kernel
theorem dX10_about_88 : decode cX10_about 88 = .ok (.aload_n 0, 1) := by decide +kernel
theorem dX10_about_89 : decode cX10_about 89 = .ok (.getfield 62, 3) := by decide +kernel
theorem dX10_about_92 : decode cX10_about 92 = .ok (.getfield 293, 3) := by decide +kernel
theorem dX10_about_95 : decode cX10_about 95 = .ok (.ireturn, 1) := by decide +kernel
theorem dX10_about_96 : decode cX10_about 96 = .ok (.aload_n 2, 1) := by decide +kernel
theorem dX10_about_97 : decode cX10_about 97 = .ok (.getfield 296, 3) := by decide +kernel
theorem dX10_about_100 : decode cX10_about 100 = .ok (.ireturn, 1) := by decide +kernel
theorem dX10_about_101 : decode cX10_about 101 = .ok (.aload_n 2, 1) := by decide +kernel
theorem dX10_about_102 : decode cX10_about 102 = .ok (.getfield 191, 3) := by decide +kernel
theorem dX10_about_105 : decode cX10_about 105 = .ok (.ireturn, 1) := by decide +kernel
theorem dX10_about_106 : decode cX10_about 106 = .ok (.aload_n 2, 1) := by decide +kernel
theorem dX10_about_107 : decode cX10_about 107 = .ok (.getfield 299, 3) := by decide +kernel
theorem dX10_about_110 : decode cX10_about 110 = .ok (.ireturn, 1) := by decide +kernel
theorem dX10_about_111 : decode cX10_about 111 = .ok (.aload_n 0, 1) := by decide +kernel
theorem dX10_about_112 : decode cX10_about 112 = .ok (.getfield 62, 3) := by decide +kernel
theorem dX10_about_115 : decode cX10_about 115 = .ok (.getfield 302, 3) := by decide +kernel
theorem dX10_about_118 : decode cX10_about 118 = .ok (.ireturn, 1) := by decide +kernel
theorem dX10_about_119 : decode cX10_about 119 = .ok (.aload_n 0, 1) := by decide +kernel
theorem dX10_about_120 : decode cX10_about 120 = .ok (.getfield 44, 3) := by decide +kernel
theorem dX10_about_123 : decode cX10_about 123 = .ok (.invokevirtual 305, 3) := by decide +kernel
theorem dX10_about_126 : decode cX10_about 126 = .ok (.ireturn, 1) := by decide +kernel
theorem dX10_about_127 : decode cX10_about 127 = .ok (.aload_n 0, 1) := by decide +kernel
theorem dX10_about_128 : decode cX10_about 128 = .ok (.getfield 19, 3) := by decide +kernel
theorem dX10_about_131 : decode cX10_about 131 = .ok (.getfield 308, 3) := by decide +kernel
theorem dX10_about_134 : decode cX10_about 134 = .ok (.ireturn, 1) := by decide +kernel
theorem dX10_about_135 : decode cX10_about 135 = .ok (.aload_n 0, 1) := by decide +kernel
theorem dX10_about_136 : decode cX10_about 136 = .ok (.getfield 19, 3) := by decide +kernel
theorem dX10_about_139 : decode cX10_about 139 = .ok (.getfield 311, 3) := by decide +kernel
theorem dX10_about_142 : decode cX10_about 142 = .ok (.aload_n 0, 1) := by decide +kernel
theorem dX10_about_143 : decode cX10_about 143 = .ok (.getfield 19, 3) := by decide +kernel
theorem dX10_about_146 : decode cX10_about 146 = .ok (.getfield 308, 3) := by decide +kernel
theorem dX10_about_149 : decode cX10_about 149 = .ok (.isub, 1) := by decide +kernel
theorem dX10_about_150 : decode cX10_about 150 = .ok (.ireturn, 1) := by decide +kernel
theorem dX10_about_151 : decode cX10_about 151 = .ok (.aload_n 0, 1) := by decide +kernel
theorem dX10_about_152 : decode cX10_about 152 = .ok (.getfield 51, 3) := by decide +kernel
theorem dX10_about_155 : decode cX10_about 155 = .ok (.getfield 314, 3) := by decide +kernel
theorem dX10_about_158 : decode cX10_about 158 = .ok (.ireturn, 1) := by decide +kernel
theorem dX10_about_159 : decode cX10_about 159 = .ok (.aload_n 0, 1) := by decide +kernel
theorem dX10_about_160 : decode cX10_about 160 = .ok (.getfield 73, 3) := by decide +kernel
theorem dX10_about_163 : decode cX10_about 163 = .ok (.ireturn, 1) := by decide +kernel
theorem dX10_about_164 : decode cX10_about 164 = .ok (.aload_n 0, 1) := by decide +kernel
theorem dX10_about_165 : decode cX10_about 165 = .ok (.getfield 10, 3) := by decide +kernel
theorem dX10_about_168 : decode cX10_about 168 = .ok (.getfield 80, 3) := by decide +kernel
theorem dX10_about_171 : decode cX10_about 171 = .ok (.getfield 94, 3) := by decide +kernel
theorem dX10_about_174 : decode cX10_about 174 = .ok (.ireturn, 1) := by decide +kernel
theorem dX10_about_175 : decode cX10_about 175 = .ok (.aload_n 0, 1) := by decide +kernel
theorem dX10_about_176 : decode cX10_about 176 = .ok (.getfield 62, 3) := by decide +kernel
theorem dX10_about_179 : decode cX10_about 179 = .ok (.getfield 317, 3) := by decide +kernel
theorem dX10_about_182 : decode cX10_about 182 = .ok (.getfield 321, 3) := by decide +kernel
theorem dX10_about_185 : decode cX10_about 185 = .ok (.ireturn, 1) := by decide +kernel
theorem dX10_about_186 : decode cX10_about 186 = .ok (.aload_n 0, 1) := by decide +kernel
theorem dX10_about_187 : decode cX10_about 187 = .ok (.getfield 70, 3) := by decide +kernel
theorem dX10_about_190 : decode cX10_about 190 = .ok (.ireturn, 1) := by decide +kernel
theorem dX10_about_191 : decode cX10_about 191 = .ok (.iconst (-1), 1) := by decide +kernel
theorem dX10_about_192 : decode cX10_about 192 = .ok (.ireturn, 1) := by decide +kernel
theorem dX10_swaps_0 : decode cX10_swaps 0 = .ok (.aload_n 0, 1) := by decide +kernel
theorem dX10_swaps_1 : decode cX10_swaps 1 = .ok (.aload_n 0, 1) := by decide +kernel
theorem dX10_swaps_2 : decode cX10_swaps 2 = .ok (.getfield 62, 3) := by decide +kernel
theorem dX10_swaps_5 : decode cX10_swaps 5 = .ok (.getfield 111, 3) := by decide +kernel
theorem dX10_swaps_8 : decode cX10_swaps 8 = .ok (.putfield 70, 3) := by decide +kernel
theorem dX10_swaps_11 : decode cX10_swaps 11 = .ok (.aload_n 0, 1) := by decide +kernel
theorem dX10_swaps_12 : decode cX10_swaps 12 = .ok (.getfield 44, 3) := by decide +kernel
theorem dX10_swaps_15 : decode cX10_swaps 15 = .ok (.aload_n 0, 1) := by decide +kernel
theorem dX10_swaps_16 : decode cX10_swaps 16 = .ok (.getfield 62, 3) := by decide +kernel
theorem dX10_swaps_19 : decode cX10_swaps 19 = .ok (.aload_n 0, 1) := by decide +kernel
theorem dX10_swaps_20 : decode cX10_swaps 20 = .ok (.getfield 19, 3) := by decide +kernel
theorem dX10_swaps_23 : decode cX10_swaps 23 = .ok (.invokevirtual 124, 3) := by decide +kernel
theorem dX10_swaps_26 : decode cX10_swaps 26 = .ok (.aload_n 0, 1) := by decide +kernel
theorem dX10_swaps_27 : decode cX10_swaps 27 = .ok (.getfield 55, 3) := by decide +kernel
theorem dX10_swaps_30 : decode cX10_swaps 30 = .ok (.invokevirtual 233, 3) := by decide +kernel
theorem dX10_swaps_33 : decode cX10_swaps 33 = .ok (.ireturn, 1) := by decide +kernel
theorem dX10_hide_0 : decode cX10_hide 0 = .ok (.aload_n 0, 1) := by decide +kernel
theorem dX10_hide_1 : decode cX10_hide 1 = .ok (.getfield 62, 3) := by decide +kernel
theorem dX10_hide_4 : decode cX10_hide 4 = .ok (.iload_n 1, 1) := by decide +kernel
theorem dX10_hide_5 : decode cX10_hide 5 = .ok (.invokevirtual 120, 3) := by decide +kernel
theorem dX10_hide_8 : decode cX10_hide 8 = .ok (.ifCond .eq 27, 3) := by decide +kernel
theorem dX10_hide_11 : decode cX10_hide 11 = .ok (.aload_n 0, 1) := by decide +kernel
theorem dX10_hide_12 : decode cX10_hide 12 = .ok (.getfield 62, 3) := by decide +kernel
theorem dX10_hide_15 : decode cX10_hide 15 = .ok (.iload_n 2, 1) := by decide +kernel
theorem dX10_hide_16 : decode cX10_hide 16 = .ok (.invokevirtual 153, 3) := by decide +kernel
theorem dX10_hide_19 : decode cX10_hide 19 = .ok (.ifCond .eq 16, 3) := by decide +kernel
theorem dX10_hide_22 : decode cX10_hide 22 = .ok (.iload_n 3, 1) := by decide +kernel
theorem dX10_hide_23 : decode cX10_hide 23 = .ok (.ifCond .lt 12, 3) := by decide +kernel
theorem dX10_hide_26 : decode cX10_hide 26 = .ok (.iload_n 3, 1) := by decide +kernel
theorem dX10_hide_27 : decode cX10_hide 27 = .ok (.iconst 1, 1) := by decide +kernel
theorem dX10_hide_28 : decode cX10_hide 28 = .ok (.if_icmp .gt 7, 3) := by decide +kernel
theorem dX10_hide_31 : decode cX10_hide 31 = .ok (.iconst 1, 1) := by decide +kernel
theorem dX10_hide_32 : decode cX10_hide 32 = .ok (.goto 4, 3) := by decide +kernel
theorem dX10_hide_35 : decode cX10_hide 35 = .ok (.iconst 0, 1) := by decide +kernel
theorem dX10_hide_36 : decode cX10_hide 36 = .ok (.istore 4, 2) := by decide +kernel
theorem dX10_hide_38 : decode cX10_hide 38 = .ok (.iload 4, 2) := by decide +kernel
theorem dX10_hide_40 : decode cX10_hide 40 = .ok (.ifCond .eq 18, 3) := by decide +kernel
theorem dX10_hide_43 : decode cX10_hide 43 = .ok (.aload_n 0, 1) := by decide +kernel
theorem dX10_hide_44 : decode cX10_hide 44 = .ok (.getfield 19, 3) := by decide +kernel
theorem dX10_hide_47 : decode cX10_hide 47 = .ok (.invokevirtual 124, 3) := by decide +kernel
theorem dX10_hide_50 : decode cX10_hide 50 = .ok (.iload_n 1, 1) := by decide +kernel
theorem dX10_hide_51 : decode cX10_hide 51 = .ok (.iload_n 2, 1) := by decide +kernel
theorem dX10_hide_52 : decode cX10_hide 52 = .ok (.invokevirtual 208, 3) := by decide +kernel
theorem dX10_hide_55 : decode cX10_hide 55 = .ok (.ifCond .eq 5, 3) := by decide +kernel
theorem dX10_hide_58 : decode cX10_hide 58 = .ok (.iconst (-1), 1) := by decide +kernel
theorem dX10_hide_59 : decode cX10_hide 59 = .ok (.ireturn, 1) := by decide +kernel
theorem dX10_hide_60 : decode cX10_hide 60 = .ok (.aload_n 0, 1) := by decide +kernel
theorem dX10_hide_61 : decode cX10_hide 61 = .ok (.iload_n 1, 1) := by decide +kernel
theorem dX10_hide_62 : decode cX10_hide 62 = .ok (.iload_n 2, 1) := by decide +kernel
theorem dX10_hide_63 : decode cX10_hide 63 = .ok (.iconst 0, 1) := by decide +kernel
theorem dX10_hide_64 : decode cX10_hide 64 = .ok (.invokevirtual 269, 3) := by decide +kernel
theorem dX10_hide_67 : decode cX10_hide 67 = .ok (.ifCond .eq 5, 3) := by decide +kernel
theorem dX10_hide_70 : decode cX10_hide 70 = .ok (.iconst 0, 1) := by decide +kernel
theorem dX10_hide_71 : decode cX10_hide 71 = .ok (.ireturn, 1) := by decide +kernel
theorem dX10_hide_72 : decode cX10_hide 72 = .ok (.iconst 1, 1) := by decide +kernel
theorem dX10_hide_73 : decode cX10_hide 73 = .ok (.aload_n 0, 1) := by decide +kernel
theorem dX10_hide_74 : decode cX10_hide 74 = .ok (.getfield 62, 3) := by decide +kernel
theorem dX10_hide_77 : decode cX10_hide 77 = .ok (.getfield 156, 3) := by decide +kernel
theorem dX10_hide_80 : decode cX10_hide 80 = .ok (.iload_n 2, 1) := by decide +kernel
theorem dX10_hide_81 : decode cX10_hide 81 = .ok (.iaload, 1) := by decide +kernel
theorem dX10_hide_82 : decode cX10_hide 82 = .ok (.ishl, 1) := by decide +kernel
theorem dX10_hide_83 : decode cX10_hide 83 = .ok (.istore 5, 2) := by decide +kernel
theorem dX10_hide_85 : decode cX10_hide 85 = .ok (.aload_n 0, 1) := by decide +kernel
theorem dX10_hide_86 : decode cX10_hide 86 = .ok (.getfield 19, 3) := by decide +kernel
theorem dX10_hide_89 : decode cX10_hide 89 = .ok (.invokevirtual 124, 3) := by decide +kernel
theorem dX10_hide_92 : decode cX10_hide 92 = .ok (.getfield 178, 3) := by decide +kernel
theorem dX10_hide_95 : decode cX10_hide 95 = .ok (.iload 5, 2) := by decide +kernel
theorem dX10_hide_97 : decode cX10_hide 97 = .ok (.iand, 1) := by decide +kernel
theorem dX10_hide_98 : decode cX10_hide 98 = .ok (.ifCond .ne 25, 3) := by decide +kernel
theorem dX10_hide_101 : decode cX10_hide 101 = .ok (.aload_n 0, 1) := by decide +kernel
theorem dX10_hide_102 : decode cX10_hide 102 = .ok (.iload_n 1, 1) := by decide +kernel
theorem dX10_hide_103 : decode cX10_hide 103 = .ok (.iload_n 2, 1) := by decide +kernel
theorem dX10_hide_104 : decode cX10_hide 104 = .ok (.iload 5, 2) := by decide +kernel
theorem dX10_hide_106 : decode cX10_hide 106 = .ok (.invokevirtual 269, 3) := by decide +kernel
theorem dX10_hide_109 : decode cX10_hide 109 = .ok (.ifCond .eq 14, 3) := by decide +kernel
theorem dX10_hide_112 : decode cX10_hide 112 = .ok (.iload_n 3, 1) := by decide +kernel
theorem dX10_hide_113 : decode cX10_hide 113 = .ok (.ifCond .ne 7, 3) := by decide +kernel
theorem dX10_hide_116 : decode cX10_hide 116 = .ok (.iconst 1, 1) := by decide +kernel
theorem dX10_hide_117 : decode cX10_hide 117 = .ok (.goto 5, 3) := by decide +kernel
theorem dX10_hide_120 : decode cX10_hide 120 = .ok (.iload 5, 2) := by decide +kernel
theorem dX10_hide_122 : decode cX10_hide 122 = .ok (.ireturn, 1) := by decide +kernel
theorem dX10_hide_123 : decode cX10_hide 123 = .ok (.iconst (-1), 1) := by decide +kernel
theorem dX10_hide_124 : decode cX10_hide 124 = .ok (.ireturn, 1) := by decide +kernel
theorem dX10_image_0 : decode cX10_image 0 = .ok (.iload_n 1, 1) := by decide +kernel
theorem dX10_image_1 : decode cX10_image 1 = .ok (.ifCond .lt 8, 3) := by decide +kernel
theorem dX10_image_4 : decode cX10_image 4 = .ok (.iload_n 1, 1) := by decide +kernel
theorem dX10_image_5 : decode cX10_image 5 = .ok (.iconst 3, 1) := by decide +kernel
theorem dX10_image_6 : decode cX10_image 6 = .ok (.if_icmp .lt 5, 3) := by decide +kernel
theorem dX10_image_9 : decode cX10_image 9 = .ok (.iconst (-1), 1) := by decide +kernel
theorem dX10_image_10 : decode cX10_image 10 = .ok (.ireturn, 1) := by decide +kernel
theorem dX10_image_11 : decode cX10_image 11 = .ok (.aload_n 0, 1) := by decide +kernel
theorem dX10_image_12 : decode cX10_image 12 = .ok (.getfield 37, 3) := by decide +kernel
theorem dX10_image_15 : decode cX10_image 15 = .ok (.iload_n 1, 1) := by decide +kernel
theorem dX10_image_16 : decode cX10_image 16 = .ok (.aaload, 1) := by decide +kernel
theorem dX10_image_17 : decode cX10_image 17 = .ok (.aload_n 0, 1) := by decide +kernel
theorem dX10_image_18 : decode cX10_image 18 = .ok (.getfield 19, 3) := by decide +kernel
theorem dX10_image_21 : decode cX10_image 21 = .ok (.invokevirtual 124, 3) := by decide +kernel
theorem dX10_image_24 : decode cX10_image 24 = .ok (.invokevirtual 204, 3) := by decide +kernel
theorem dX10_image_27 : decode cX10_image 27 = .ok (.aload_n 0, 1) := by decide +kernel
theorem dX10_image_28 : decode cX10_image 28 = .ok (.dup, 1) := by decide +kernel
theorem dX10_image_29 : decode cX10_image 29 = .ok (.getfield 66, 3) := by decide +kernel
theorem dX10_image_32 : decode cX10_image 32 = .ok (.iconst 1, 1) := by decide +kernel
theorem dX10_image_33 : decode cX10_image 33 = .ok (.iload_n 1, 1) := by decide +kernel
theorem dX10_image_34 : decode cX10_image 34 = .ok (.ishl, 1) := by decide +kernel
theorem dX10_image_35 : decode cX10_image 35 = .ok (.ior, 1) := by decide +kernel
theorem dX10_image_36 : decode cX10_image 36 = .ok (.putfield 66, 3) := by decide +kernel
theorem dX10_image_39 : decode cX10_image 39 = .ok (.aload_n 0, 1) := by decide +kernel
theorem dX10_image_40 : decode cX10_image 40 = .ok (.getfield 37, 3) := by decide +kernel
theorem dX10_image_43 : decode cX10_image 43 = .ok (.iload_n 1, 1) := by decide +kernel
theorem dX10_image_44 : decode cX10_image 44 = .ok (.aaload, 1) := by decide +kernel
theorem dX10_image_45 : decode cX10_image 45 = .ok (.getfield 191, 3) := by decide +kernel
theorem dX10_image_48 : decode cX10_image 48 = .ok (.ireturn, 1) := by decide +kernel
set_option maxHeartbeats 2000000 in
set_option maxRecDepth 20000 in
theorem c_X10_undo (l : Launch) (D : va_G) (cy : Nat → ClassId) (B N : Nat) (M : MM) (hN : 210 ≤ N) (hI : Iv M) (h1 : M.1 26 1 ≤ M.1 26 2) : CI l D cy B N 2 yX10_undo cX10_undo 1 (some .boolean) [rv B 0] M (fun z M' => Iv M' ∧ Fr (fun a b => (a = 26 ∧ 1 ≤ b ∧ b ≤ 1)) M M' ∧ (0 ≤ z ∧ z ≤ 1) ∧ (M'.1 26 1 ≤ M'.1 26 2)) := by
  refine mk_CI (by decide) (Nat.le_of_ble_eq_true rfl) ?_
  intro X exl exD excy hnL hX hret
  have hce : 0 + 0 ≤ (xR X).cells ∧ 0 + 0 ≤ (xR X).slots := ⟨Nat.zero_le _, Nat.zero_le _⟩
  have hF : Fr (fun a b => (a = 26 ∧ 1 ≤ b ∧ b ≤ 1)) M M := Fr.rf
  show J X B N 0 0 0 [(0, rv B 0)] [] M
  refine j_aload_n hX dX10_undo_0 rfl 0 rfl ?_
  refine gf_X10_19 hX (by omega) (by omega) kc_0 (fc_0_1 hI) (by decide) dX10_undo_1 ?_
  refine j_callVI hX lk_X10_198 (c_X0_takeBack _ _ _ _ _ _ (by omega) hI (by first | assumption | omega)) (by omega) hce rfl rfl (by omega) (by omega) kc_26 rfl rfl (Nat.le_of_ble_eq_true rfl) dX10_undo_4 (fun z1 M2 hz4 hp3 => ?_)
  obtain ⟨hI6, hG7, hb8, hq9⟩ := hp3
  have hF10 := Fr.trans hF hG7 (fun a b h => by omega)
  exact hret _ _ _ _ dX10_undo_7 (nb (by omega)) (by omega) ⟨hI6, hF10, by omega, by first | assumption | omega⟩
set_option maxHeartbeats 2000000 in
set_option maxRecDepth 20000 in
theorem c_X10_redo (l : Launch) (D : va_G) (cy : Nat → ClassId) (B N : Nat) (M : MM) (hN : 210 ≤ N) (hI : Iv M) (h1 : M.1 26 1 ≤ M.1 26 2) : CI l D cy B N 2 yX10_redo cX10_redo 1 (some .boolean) [rv B 0] M (fun z M' => Iv M' ∧ Fr (fun a b => (a = 26 ∧ 1 ≤ b ∧ b ≤ 1)) M M' ∧ (0 ≤ z ∧ z ≤ 1) ∧ (M'.1 26 1 ≤ M'.1 26 2)) := by
  refine mk_CI (by decide) (Nat.le_of_ble_eq_true rfl) ?_
  intro X exl exD excy hnL hX hret
  have hce : 0 + 0 ≤ (xR X).cells ∧ 0 + 0 ≤ (xR X).slots := ⟨Nat.zero_le _, Nat.zero_le _⟩
  have hF : Fr (fun a b => (a = 26 ∧ 1 ≤ b ∧ b ≤ 1)) M M := Fr.rf
  show J X B N 0 0 0 [(0, rv B 0)] [] M
  refine j_aload_n hX dX10_redo_0 rfl 0 rfl ?_
  refine gf_X10_19 hX (by omega) (by omega) kc_0 (fc_0_1 hI) (by decide) dX10_redo_1 ?_
  refine j_callVI hX lk_X10_201 (c_X0_doAgain _ _ _ _ _ _ (by omega) hI (by first | assumption | omega)) (by omega) hce rfl rfl (by omega) (by omega) kc_26 rfl rfl (Nat.le_of_ble_eq_true rfl) dX10_redo_4 (fun z1 M2 hz4 hp3 => ?_)
  obtain ⟨hI6, hG7, hb8, hq9⟩ := hp3
  have hF10 := Fr.trans hF hG7 (fun a b h => by omega)
  exact hret _ _ _ _ dX10_redo_7 (nb (by omega)) (by omega) ⟨hI6, hF10, by omega, by first | assumption | omega⟩
set_option maxHeartbeats 2000000 in
set_option maxRecDepth 20000 in
theorem c_X10_room (l : Launch) (D : va_G) (cy : Nat → ClassId) (B N : Nat) (q : Int) (nr : Int) (a : Int) (b : Int) (M : MM) (hN : 210 ≤ N) (hI : Iv M) (hpa : I32 a) (hpb : I32 b) (hq : q = 5 ∨ q = 180) (ht : M.1 0 8 = q) (hnr : M.1 q 0 = nr) (hVn : Vn nr M) (hnb : 0 ≤ nr ∧ nr ≤ 6) : CI l D cy B N 4 yX10_room cX10_room 4 (some .int) [rv B 0, iv a, iv b] M (fun z M' => Iv M' ∧ Fr (fun a b => (a = q + 15 ∧ 5 ≤ b ∧ b ≤ 5) ∨ (q + 17 ≤ a ∧ a ≤ q + 18)) M M') := by
  refine mk_CI (by decide) (Nat.le_of_ble_eq_true rfl) ?_
  intro X exl exD excy hnL hX hret
  have hce : 0 + 0 ≤ (xR X).cells ∧ 0 + 0 ≤ (xR X).slots := ⟨Nat.zero_le _, Nat.zero_le _⟩
  have hdq : 5 ≤ q ∧ q ≤ 180 := by omega
  have hF : Fr (fun a b => (a = q + 15 ∧ 5 ≤ b ∧ b ≤ 5) ∨ (q + 17 ≤ a ∧ a ≤ q + 18)) M M := Fr.rf
  show J X B N 0 0 0 [(0, rv B 0), (1, iv a), (2, iv b)] [] M
  refine j_aload_n hX dX10_room_0 rfl 0 rfl ?_
  refine gf_X10_62 hX (by omega) (by omega) kc_0 ht (by omega) dX10_room_1 ?_
  refine j_iload_n hX dX10_room_4 rfl 1 rfl ?_
  refine j_callVI hX lk_X10_120 (c_X6_hasRoom _ _ _ _ _ q _ _ (by omega) hI (by omega) hq) (by omega) hce rfl rfl (by omega) (by omega) (kq hq) rfl rfl (Nat.le_of_ble_eq_true rfl) dX10_room_5 (fun z1 M2 hz4 hp3 => ?_)
  obtain ⟨hE5, hb6, hq7⟩ := hp3
  replace hE5 := hE5.symm
  subst hE5
  refine j_if_ne (tgt := 14) hX dX10_room_8 (by decide) (by omega) (fun hc8 => ?_) (fun hc8 => ?_)
  · skip
    have hi9 := hq7 (by omega)
    clear hq7
    refine j_aload_n hX dX10_room_14 rfl 0 rfl ?_
    refine gf_X10_19 hX (by omega) (by omega) kc_0 (fc_0_1 hI) (by decide) dX10_room_15 ?_
    refine j_callVR hX lk_X10_124 (c_X0_now _ _ _ _ _ _ (by omega) hI) (by omega) hce rfl rfl (by omega) (by omega) kc_26 rfl rfl (Nat.le_of_ble_eq_true rfl) dX10_room_18 (fun sw M10 hz12 hp11 => ?_)
    obtain ⟨hE13, hq14, hq15⟩ := hp11
    replace hE13 := hE13.symm
    subst hE13
    have hV16 : V nr sw M := by rw [hq15]; exact hVn
    have hsw : Sc sw := hq14
    have hbsw := sc_b hsw
    have hdsw : 28 ≤ sw ∧ sw ≤ 207 := by omega
    refine j_astore_n (lv' := [(3, _), (0, _), (1, _), (2, _)]) hX dX10_room_21 rfl (by rw [hnL]; decide) rfl ?_
    refine j_iload_n hX dX10_room_22 rfl 3 rfl ?_
    refine j_table (tgd := 142) hX dX10_room_23 (by omega) (by decide) (fun hc17 => ?_) (fun hc18 hc19 => ?_)
    · skip
      refine j_ldc (n := (-1000000)) hX (in_4 14 (by first | rfl | decide +kernel) rfl) dX10_room_142 ?_
      exact hret _ _ _ _ dX10_room_144 rfl (by omega) ⟨hI, hF⟩
    · rcases (by omega : b = 0 ∨ b = 1 ∨ b = 2 ∨ b = 3 ∨ b = 4 ∨ b = 5 ∨ b = 6 ∨ b = 7) with hc20 | hc20 | hc20 | hc20 | hc20 | hc20 | hc20 | hc20
      · refine ⟨45, 68, by rw [hc20]; rfl, by decide, ?_⟩
        refine j_aload_n hX dX10_room_68 rfl 0 rfl ?_
        refine gf_X10_128 hX (by omega) (by omega) (sc_k0 hsw) (sc_f0 hI hsw) (by omega) dX10_room_69 ?_
        refine j_iload_n hX dX10_room_72 rfl 2 rfl ?_
        refine j_iald hX (by omega) (by omega) (sc_k1 hsw) (by omega) (by omega) (by omega) dX10_room_73 ?_
        refine j_name hI (sc_w hsw _) (fun v21 hv22 hl23 hh24 => ?_)
        have hva25 := V_at hV16 hv22 (by omega) (by omega)
        exact hret _ _ _ _ dX10_room_74 rfl (by omega) ⟨hI, hF⟩
      · refine ⟨52, 75, by rw [hc20]; rfl, by decide, ?_⟩
        refine j_aload_n hX dX10_room_75 rfl 0 rfl ?_
        refine j_iload_n hX dX10_room_76 rfl 2 rfl ?_
        refine j_callVI hX lk_X10_131 (c_X8_holderOf _ _ _ _ _ sw _ _ _ (by omega) hI (by omega) hsw (by first | assumption | omega) (by first | assumption | omega)) (by omega) hce rfl rfl (by omega) (by omega) (sc_k0 hsw) rfl rfl (Nat.le_of_ble_eq_true rfl) dX10_room_77 (fun z26 M27 hz29 hp28 => ?_)
        obtain ⟨hE30, hq31⟩ := hp28
        replace hE30 := hE30.symm
        subst hE30
        exact hret _ _ _ _ dX10_room_80 rfl (by omega) ⟨hI, hF⟩
      · refine ⟨58, 81, by rw [hc20]; rfl, by decide, ?_⟩
        refine j_aload_n hX dX10_room_81 rfl 0 rfl ?_
        refine j_iload_n hX dX10_room_82 rfl 2 rfl ?_
        refine j_callVI hX lk_X10_135 (c_X8_isDrawn _ _ _ _ _ sw _ _ (by omega) hI (by omega) hsw) (by omega) hce rfl rfl (by omega) (by omega) (sc_k0 hsw) rfl rfl (Nat.le_of_ble_eq_true rfl) dX10_room_83 (fun z32 M33 hz35 hp34 => ?_)
        obtain ⟨hE36, hb37⟩ := hp34
        replace hE36 := hE36.symm
        subst hE36
        refine j_if_eq (tgt := 93) hX dX10_room_86 (by decide) (by omega) (fun hc38 => ?_) (fun hc38 => ?_)
        · skip
          refine j_iconst hX dX10_room_93 ?_
          exact hret _ _ _ _ dX10_room_94 rfl (by omega) ⟨hI, hF⟩
        · skip
          refine j_iconst hX dX10_room_89 ?_
          refine j_goto (tgt := 94) hX dX10_room_90 (by decide) ?_
          exact hret _ _ _ _ dX10_room_94 rfl (by omega) ⟨hI, hF⟩
      · refine ⟨72, 95, by rw [hc20]; rfl, by decide, ?_⟩
        refine j_aload_n hX dX10_room_95 rfl 0 rfl ?_
        refine gf_X10_138 hX (by omega) (by omega) (sc_k0 hsw) (sc_f1 hI hsw) (by omega) dX10_room_96 ?_
        refine j_iload_n hX dX10_room_99 rfl 2 rfl ?_
        refine j_iald hX (by omega) (by omega) (sc_k2 hsw) (by omega) (by omega) (by omega) dX10_room_100 ?_
        refine j_name hI (sc_n hsw _) (fun v39 hv40 hl41 hh42 => ?_)
        exact hret _ _ _ _ dX10_room_101 rfl (by omega) ⟨hI, hF⟩
      · refine ⟨79, 102, by rw [hc20]; rfl, by decide, ?_⟩
        refine j_aload_n hX dX10_room_102 rfl 1 rfl ?_
        refine j_iload_n hX dX10_room_103 rfl 2 rfl ?_
        refine j_callVI hX lk_X10_141 (c_X10_rentOf _ _ _ _ _ _ _ _ _ (by omega) hI (by omega) (by assumption) ht hnr (by first | assumption | omega) (by first | assumption | omega) (by first | assumption | omega)) (by omega) hce rfl rfl (by omega) (by omega) kc_0 rfl rfl (Nat.le_of_ble_eq_true rfl) dX10_room_104 (fun z43 M44 hz46 hp45 => ?_)
        obtain ⟨hI48, hG49⟩ := hp45
        have hV50 := Vn_fr hVn hI hG49 (fun a b h => by omega)
        have hV51 := V_fr hV16 hG49 (fun b => by omega) (by omega)
        have hk52 := kp_fr hG49 (by omega) ht
        have hk53 := kp_fr hG49 (by omega) hnr
        have hF54 := Fr.trans hF hG49 (fun a b h => by omega)
        exact hret _ _ _ _ dX10_room_107 rfl (by omega) ⟨hI48, hF54⟩
      · refine ⟨85, 108, by rw [hc20]; rfl, by decide, ?_⟩
        refine j_aload_n hX dX10_room_108 rfl 1 rfl ?_
        refine gf_X10_62 hX (by omega) (by omega) kc_0 ht (by omega) dX10_room_109 ?_
        refine gf_X10_144 hX (by omega) (by omega) (kq hq) (fq_2 hI hq) (by omega) dX10_room_112 ?_
        refine j_iload_n hX dX10_room_115 rfl 2 rfl ?_
        refine j_iald hX (by omega) (by omega) (kq_2 hq) (by omega) (by omega) (by omega) dX10_room_116 ?_
        refine j_name hI (aq_2 hq _) (fun v55 hv56 hl57 hh58 => ?_)
        exact hret _ _ _ _ dX10_room_117 rfl (by omega) ⟨hI, hF⟩
      · refine ⟨95, 118, by rw [hc20]; rfl, by decide, ?_⟩
        refine j_aload_n hX dX10_room_118 rfl 1 rfl ?_
        refine gf_X10_62 hX (by omega) (by omega) kc_0 ht (by omega) dX10_room_119 ?_
        refine gf_X10_147 hX (by omega) (by omega) (kq hq) (fq_18 hI hq) (by omega) dX10_room_122 ?_
        refine j_iload_n hX dX10_room_125 rfl 2 rfl ?_
        refine j_iald hX (by omega) (by omega) (kq_19 hq) (by omega) (by omega) (by omega) dX10_room_126 ?_
        refine j_name hI (aq_19 hq _) (fun v59 hv60 hl61 hh62 => ?_)
        exact hret _ _ _ _ dX10_room_127 rfl (by omega) ⟨hI, hF⟩
      · refine ⟨105, 128, by rw [hc20]; rfl, by decide, ?_⟩
        refine j_aload_n hX dX10_room_128 rfl 0 rfl ?_
        refine j_iload_n hX dX10_room_129 rfl 2 rfl ?_
        refine j_callVI hX lk_X10_150 (c_X8_seesOne _ _ _ _ _ sw _ _ (by omega) hI (by omega) hsw (by first | assumption | omega)) (by omega) hce rfl rfl (by omega) (by omega) (sc_k0 hsw) rfl rfl (Nat.le_of_ble_eq_true rfl) dX10_room_130 (fun z63 M64 hz66 hp65 => ?_)
        obtain ⟨hE67, hb68⟩ := hp65
        replace hE67 := hE67.symm
        subst hE67
        refine j_if_eq (tgt := 140) hX dX10_room_133 (by decide) (by omega) (fun hc69 => ?_) (fun hc69 => ?_)
        · skip
          refine j_iconst hX dX10_room_140 ?_
          exact hret _ _ _ _ dX10_room_141 rfl (by omega) ⟨hI, hF⟩
        · skip
          refine j_iconst hX dX10_room_136 ?_
          refine j_goto (tgt := 141) hX dX10_room_137 (by decide) ?_
          exact hret _ _ _ _ dX10_room_141 rfl (by omega) ⟨hI, hF⟩
  · skip
    clear hq7
    refine j_ldc (n := (-1000000)) hX (in_4 14 (by first | rfl | decide +kernel) rfl) dX10_room_11 ?_
    exact hret _ _ _ _ dX10_room_13 rfl (by omega) ⟨hI, hF⟩
set_option maxHeartbeats 2000000 in
set_option maxRecDepth 20000 in
theorem c_X10_fact (l : Launch) (D : va_G) (cy : Nat → ClassId) (B N : Nat) (q : Int) (a : Int) (b : Int) (M : MM) (hN : 210 ≤ N) (hI : Iv M) (hpa : I32 a) (hpb : I32 b) (hq : q = 5 ∨ q = 180) (ht : M.1 0 8 = q) : CI l D cy B N 3 yX10_fact cX10_fact 3 (some .int) [rv B 0, iv a, iv b] M (fun z M' => M' = M) := by
  refine mk_CI (by decide) (Nat.le_of_ble_eq_true rfl) ?_
  intro X exl exD excy hnL hX hret
  have hce : 0 + 0 ≤ (xR X).cells ∧ 0 + 0 ≤ (xR X).slots := ⟨Nat.zero_le _, Nat.zero_le _⟩
  have hdq : 5 ≤ q ∧ q ≤ 180 := by omega
  have hf4 := hI.at q 4 (rq_4 hq)
  show J X B N 0 0 0 [(0, rv B 0), (1, iv a), (2, iv b)] [] M
  refine j_aload_n hX dX10_fact_0 rfl 0 rfl ?_
  refine gf_X10_62 hX (by omega) (by omega) kc_0 ht (by omega) dX10_fact_1 ?_
  refine j_iload_n hX dX10_fact_4 rfl 1 rfl ?_
  refine j_callVI hX lk_X10_153 (c_X6_hasFact _ _ _ _ _ q _ _ (by omega) hI (by omega) hq) (by omega) hce rfl rfl (by omega) (by omega) (kq hq) rfl rfl (Nat.le_of_ble_eq_true rfl) dX10_fact_5 (fun z1 M2 hz4 hp3 => ?_)
  obtain ⟨hE5, hb6, hq7⟩ := hp3
  replace hE5 := hE5.symm
  subst hE5
  refine j_if_ne (tgt := 13) hX dX10_fact_8 (by decide) (by omega) (fun hc8 => ?_) (fun hc8 => ?_)
  · skip
    have hi9 := hq7 (by omega)
    clear hq7
    refine j_iload_n hX dX10_fact_13 rfl 2 rfl ?_
    refine j_table (tgd := 88) hX dX10_fact_14 (by omega) (by decide) (fun hc10 => ?_) (fun hc11 hc12 => ?_)
    · skip
      refine j_iconst hX dX10_fact_88 ?_
      exact hret _ _ _ _ dX10_fact_89 rfl (by omega) rfl
    · rcases (by omega : b = 0 ∨ b = 1 ∨ b = 2 ∨ b = 3) with hc13 | hc13 | hc13 | hc13
      · refine ⟨30, 44, by rw [hc13]; rfl, by decide, ?_⟩
        refine j_aload_n hX dX10_fact_44 rfl 0 rfl ?_
        refine gf_X10_62 hX (by omega) (by omega) kc_0 ht (by omega) dX10_fact_45 ?_
        refine gf_X10_156 hX (by omega) (by omega) (kq hq) (fq_6 hI hq) (by omega) dX10_fact_48 ?_
        refine j_iload_n hX dX10_fact_51 rfl 1 rfl ?_
        refine j_iald hX (by omega) (by omega) (kq_4 hq) (by omega) (by omega) (by omega) dX10_fact_52 ?_
        refine j_name hI (aq_4 hq _) (fun v14 hv15 hl16 hh17 => ?_)
        exact hret _ _ _ _ dX10_fact_53 rfl (by omega) rfl
      · refine ⟨40, 54, by rw [hc13]; rfl, by decide, ?_⟩
        refine j_aload_n hX dX10_fact_54 rfl 0 rfl ?_
        refine gf_X10_62 hX (by omega) (by omega) kc_0 ht (by omega) dX10_fact_55 ?_
        refine gf_X10_159 hX (by omega) (by omega) (kq hq) (fq_7 hI hq) (by omega) dX10_fact_58 ?_
        refine j_iload_n hX dX10_fact_61 rfl 1 rfl ?_
        refine j_iald hX (by omega) (by omega) (kq_5 hq) (by omega) (by omega) (by omega) dX10_fact_62 ?_
        refine j_name hI (aq_5 hq _) (fun v18 hv19 hl20 hh21 => ?_)
        exact hret _ _ _ _ dX10_fact_63 rfl (by omega) rfl
      · refine ⟨50, 64, by rw [hc13]; rfl, by decide, ?_⟩
        refine j_aload_n hX dX10_fact_64 rfl 0 rfl ?_
        refine gf_X10_62 hX (by omega) (by omega) kc_0 ht (by omega) dX10_fact_65 ?_
        refine gf_X10_162 hX (by omega) (by omega) (kq hq) dX10_fact_68 ?_
        refine j_name hI (rq_8 hq) (fun v22 hv23 hl24 hh25 => ?_)
        have hk26 := hv23.symm
        refine j_iload_n hX dX10_fact_71 rfl 1 rfl ?_
        refine j_ishr hX dX10_fact_72 (fun z27 hz28 hy29 => ?_)
        refine j_iconst hX dX10_fact_73 ?_
        refine j_iand hX dX10_fact_74 (fun z30 hz31 hy32 => ?_)
        have ha33 := (and_f hz31 (by omega) (by omega)).2 (by omega)
        exact hret _ _ _ _ dX10_fact_75 rfl (by omega) rfl
      · refine ⟨62, 76, by rw [hc13]; rfl, by decide, ?_⟩
        refine j_aload_n hX dX10_fact_76 rfl 0 rfl ?_
        refine gf_X10_19 hX (by omega) (by omega) kc_0 (fc_0_1 hI) (by decide) dX10_fact_77 ?_
        refine j_callVR hX lk_X10_124 (c_X0_now _ _ _ _ _ _ (by omega) hI) (by omega) hce rfl rfl (by omega) (by omega) kc_26 rfl rfl (Nat.le_of_ble_eq_true rfl) dX10_fact_80 (fun sv34 M35 hz37 hp36 => ?_)
        obtain ⟨hE38, hq39, hq40⟩ := hp36
        replace hE38 := hE38.symm
        subst hE38
        have hsv34 : Sc sv34 := hq39
        have hbsv34 := sc_b hsv34
        have hdsv34 : 28 ≤ sv34 ∧ sv34 ≤ 207 := by omega
        refine j_iload_n hX dX10_fact_83 rfl 1 rfl ?_
        refine j_callVI hX lk_X10_165 (c_X8_knowersOf _ _ _ _ _ sv34 _ _ (by omega) hI (by omega) hsv34) (by omega) hce rfl rfl (by omega) (by omega) (sc_k0 hsv34) rfl rfl (Nat.le_of_ble_eq_true rfl) dX10_fact_84 (fun z41 M42 hz44 hp43 => ?_)
        have hE45 := hp43.symm
        subst hE45
        exact hret _ _ _ _ dX10_fact_87 rfl (by omega) rfl
  · skip
    clear hq7
    refine j_iconst hX dX10_fact_11 ?_
    exact hret _ _ _ _ dX10_fact_12 rfl (by omega) rfl
set_option maxHeartbeats 2000000 in
set_option maxRecDepth 20000 in
theorem c_X10_harm (l : Launch) (D : va_G) (cy : Nat → ClassId) (B N : Nat) (q : Int) (nr : Int) (a : Int) (M : MM) (hN : 210 ≤ N) (hI : Iv M) (hpa : I32 a) (hq : q = 5 ∨ q = 180) (ht : M.1 0 8 = q) (hnr : M.1 q 0 = nr) (hnb : 0 ≤ nr ∧ nr ≤ 6) : CI l D cy B N 2 yX10_harm cX10_harm 5 (some .int) [rv B 0, iv a] M (fun z M' => M' = M) := by
  refine mk_CI (by decide) (Nat.le_of_ble_eq_true rfl) ?_
  intro X exl exD excy hnL hX hret
  have hce : 0 + 0 ≤ (xR X).cells ∧ 0 + 0 ≤ (xR X).slots := ⟨Nat.zero_le _, Nat.zero_le _⟩
  have hdq : 5 ≤ q ∧ q ≤ 180 := by omega
  have cp : ∀ n : Nat, (∀ (x3 x4 : Int), ∀ (sw : Int), I32 x3 → I32 x4 → Sc sw → (0 ≤ x4 ∧ x4 ≤ 6 ∧ 0 ≤ a ∧ a < 6) → 0 ≤ 32 * (6 - x4) + 1 → 32 * (6 - x4) + 1 < (n : Int) → J X B N 0 0 26 [(0, rv B 0), (1, iv a), (2, rv B sw), (3, iv x3), (4, iv x4)] [] M) := by
    intro n
    induction n with
    | zero => exact by intros; exfalso; omega
    | succ n ih =>
      · intro x3 x4 sw hxx3 hxx4 hsw h2 hm0 hm1
        have hbsw := sc_b hsw
        refine j_iload hX dX10_harm_26 4 rfl ?_
        refine j_aload_n hX dX10_harm_28 rfl 0 rfl ?_
        refine gf_X10_62 hX (by omega) (by omega) kc_0 ht (by omega) dX10_harm_29 ?_
        refine gf_X10_111 hX (by omega) (by omega) (kq hq) dX10_harm_32 ?_
        refine j_top hnr ?_
        refine j_icmp_ge (tgt := 73) hX dX10_harm_35 (by decide) (by omega) (by omega) (fun hc1 => ?_) (fun hc1 => ?_)
        · skip
          refine j_iload_n hX dX10_harm_73 rfl 3 rfl ?_
          exact hret _ _ _ _ dX10_harm_74 rfl (by omega) rfl
        · skip
          refine j_iload hX dX10_harm_38 4 rfl ?_
          refine j_iload_n hX dX10_harm_40 rfl 1 rfl ?_
          refine j_icmp_eq (tgt := 67) hX dX10_harm_41 (by decide) (by omega) (by omega) (fun hc2 => ?_) (fun hc2 => ?_)
          · skip
            refine j_iinc (lv' := [(4, _), (0, _), (1, _), (2, _), (3, _)]) hX dX10_harm_67 4 rfl (by rw [hnL]; decide) rfl ?_
            refine j_goto (tgt := 26) hX dX10_harm_70 (by decide) ?_
            refine j_sub [1, 2, 3, 4, 0] rfl ?_
            exact ih _ _ _ (by omega) (by omega) (by assumption) (by first | assumption | omega) (by omega) (by omega)
          · skip
            refine j_iload_n hX dX10_harm_44 rfl 3 rfl ?_
            refine j_aload_n hX dX10_harm_45 rfl 2 rfl ?_
            refine gf_X10_138 hX (by omega) (by omega) (sc_k0 hsw) (sc_f1 hI hsw) (by omega) dX10_harm_46 ?_
            refine j_iload hX dX10_harm_49 4 rfl ?_
            refine j_iald hX (by omega) (by omega) (sc_k2 hsw) (by omega) (by omega) (by omega) dX10_harm_51 ?_
            refine j_name hI (sc_n hsw _) (fun v3 hv4 hl5 hh6 => ?_)
            refine j_aload_n hX dX10_harm_52 rfl 0 rfl ?_
            refine gf_X10_62 hX (by omega) (by omega) kc_0 ht (by omega) dX10_harm_53 ?_
            refine gf_X10_147 hX (by omega) (by omega) (kq hq) (fq_18 hI hq) (by omega) dX10_harm_56 ?_
            refine j_iload_n hX dX10_harm_59 rfl 1 rfl ?_
            refine j_iald hX (by omega) (by omega) (kq_19 hq) (by omega) (by omega) (by omega) dX10_harm_60 ?_
            refine j_name hI (aq_19 hq _) (fun v7 hv8 hl9 hh10 => ?_)
            refine j_iand hX dX10_harm_61 (fun z11 hz12 hy13 => ?_)
            refine j_callSI hX lk_X10_215 (c_J6_bitCount_0f7a4 _ _ _ _ _ _ _ (by omega)) (by omega) hce rfl rfl (Nat.le_of_ble_eq_true rfl) dX10_harm_62 (fun z14 M15 hz17 hp16 => ?_)
            have hE18 := hp16.symm
            subst hE18
            refine j_iadd hX dX10_harm_65 ?_
            refine j_norm (fun z19 hz20 hy21 => ?_)
            refine j_istore_n (lv' := [(3, _), (0, _), (1, _), (2, _), (4, _)]) hX dX10_harm_66 rfl (by rw [hnL]; decide) rfl ?_
            refine j_iinc (lv' := [(4, _), (3, _), (0, _), (1, _), (2, _)]) hX dX10_harm_67 4 rfl (by rw [hnL]; decide) rfl ?_
            refine j_goto (tgt := 26) hX dX10_harm_70 (by decide) ?_
            refine j_sub [2, 3, 4, 1, 0] rfl ?_
            exact ih _ _ _ (by omega) (by omega) (by assumption) (by first | assumption | omega) (by omega) (by omega)
  show J X B N 0 0 0 [(0, rv B 0), (1, iv a)] [] M
  refine j_aload_n hX dX10_harm_0 rfl 0 rfl ?_
  refine gf_X10_62 hX (by omega) (by omega) kc_0 ht (by omega) dX10_harm_1 ?_
  refine j_iload_n hX dX10_harm_4 rfl 1 rfl ?_
  refine j_callVI hX lk_X10_120 (c_X6_hasRoom _ _ _ _ _ q _ _ (by omega) hI (by omega) hq) (by omega) hce rfl rfl (by omega) (by omega) (kq hq) rfl rfl (Nat.le_of_ble_eq_true rfl) dX10_harm_5 (fun z22 M23 hz25 hp24 => ?_)
  obtain ⟨hE26, hb27, hq28⟩ := hp24
  replace hE26 := hE26.symm
  subst hE26
  refine j_if_ne (tgt := 13) hX dX10_harm_8 (by decide) (by omega) (fun hc29 => ?_) (fun hc29 => ?_)
  · skip
    have hi30 := hq28 (by omega)
    clear hq28
    refine j_aload_n hX dX10_harm_13 rfl 0 rfl ?_
    refine gf_X10_19 hX (by omega) (by omega) kc_0 (fc_0_1 hI) (by decide) dX10_harm_14 ?_
    refine j_callVR hX lk_X10_124 (c_X0_now _ _ _ _ _ _ (by omega) hI) (by omega) hce rfl rfl (by omega) (by omega) kc_26 rfl rfl (Nat.le_of_ble_eq_true rfl) dX10_harm_17 (fun sw M31 hz33 hp32 => ?_)
    obtain ⟨hE34, hq35, hq36⟩ := hp32
    replace hE34 := hE34.symm
    subst hE34
    have hsw : Sc sw := hq35
    have hbsw := sc_b hsw
    have hdsw : 28 ≤ sw ∧ sw ≤ 207 := by omega
    refine j_astore_n (lv' := [(2, _), (0, _), (1, _)]) hX dX10_harm_20 rfl (by rw [hnL]; decide) rfl ?_
    refine j_iconst hX dX10_harm_21 ?_
    refine j_istore_n (lv' := [(3, _), (2, _), (0, _), (1, _)]) hX dX10_harm_22 rfl (by rw [hnL]; decide) rfl ?_
    refine j_iconst hX dX10_harm_23 ?_
    refine j_istore (lv' := [(4, _), (3, _), (2, _), (0, _), (1, _)]) hX dX10_harm_24 (by rw [hnL]; decide) rfl ?_
    refine j_sub [3, 4, 2, 1, 0] rfl ?_
    refine (cp (Int.toNat (256 + 1))) _ _ _ (by omega) (by omega) (by assumption) (by first | assumption | omega) ?_ ?_
    · omega
    · omega
  · skip
    clear hq28
    refine j_iconst hX dX10_harm_11 ?_
    exact hret _ _ _ _ dX10_harm_12 rfl (by omega) rfl
set_option maxHeartbeats 2000000 in
set_option maxRecDepth 20000 in
theorem c_X10_mutual (l : Launch) (D : va_G) (cy : Nat → ClassId) (B N : Nat) (q : Int) (nr : Int) (M : MM) (hN : 210 ≤ N) (hI : Iv M) (hq : q = 5 ∨ q = 180) (ht : M.1 0 8 = q) (hnr : M.1 q 0 = nr) (hnb : 0 ≤ nr ∧ nr ≤ 6) : CI l D cy B N 3 yX10_mutual cX10_mutual 6 (some .int) [rv B 0] M (fun z M' => M' = M) := by
  refine mk_CI (by decide) (Nat.le_of_ble_eq_true rfl) ?_
  intro X exl exD excy hnL hX hret
  have hce : 0 + 0 ≤ (xR X).cells ∧ 0 + 0 ≤ (xR X).slots := ⟨Nat.zero_le _, Nat.zero_le _⟩
  have hdq : 5 ≤ q ∧ q ≤ 180 := by omega
  have cp : ∀ n : Nat, (∀ (x2 x3 : Int), ∀ (sw : Int), I32 x2 → I32 x3 → Sc sw → (0 ≤ x3 ∧ x3 ≤ 6 ∧ 0 ≤ x2 ∧ x2 ≤ x3) → 0 ≤ 32 * (6 - x3) + 1 → 32 * (6 - x3) + 1 < (n : Int) → J X B N 0 0 12 [(0, rv B 0), (1, rv B sw), (2, iv x2), (3, iv x3)] [] M) := by
    intro n
    induction n with
    | zero => exact by intros; exfalso; omega
    | succ n ih =>
      · intro x2 x3 sw hxx2 hxx3 hsw h2 hm0 hm1
        have hbsw := sc_b hsw
        refine j_iload_n hX dX10_mutual_12 rfl 3 rfl ?_
        refine j_aload_n hX dX10_mutual_13 rfl 0 rfl ?_
        refine gf_X10_62 hX (by omega) (by omega) kc_0 ht (by omega) dX10_mutual_14 ?_
        refine gf_X10_111 hX (by omega) (by omega) (kq hq) dX10_mutual_17 ?_
        refine j_top hnr ?_
        refine j_icmp_ge (tgt := 86) hX dX10_mutual_20 (by decide) (by omega) (by omega) (fun hc1 => ?_) (fun hc1 => ?_)
        · skip
          refine j_iload_n hX dX10_mutual_86 rfl 2 rfl ?_
          exact hret _ _ _ _ dX10_mutual_87 rfl (by omega) rfl
        · skip
          refine j_aload_n hX dX10_mutual_23 rfl 1 rfl ?_
          refine gf_X10_128 hX (by omega) (by omega) (sc_k0 hsw) (sc_f0 hI hsw) (by omega) dX10_mutual_24 ?_
          refine j_iload_n hX dX10_mutual_27 rfl 3 rfl ?_
          refine j_iald hX (by omega) (by omega) (sc_k1 hsw) (by omega) (by omega) (by omega) dX10_mutual_28 ?_
          refine j_name hI (sc_w hsw _) (fun v2 hv3 hl4 hh5 => ?_)
          refine j_istore (lv' := [(4, _), (0, _), (1, _), (2, _), (3, _)]) hX dX10_mutual_29 (by rw [hnL]; decide) rfl ?_
          refine j_iload hX dX10_mutual_31 0 rfl ?_
          refine j_iload_n hX dX10_mutual_33 rfl 4 rfl ?_
          refine j_icmp_le (tgt := 52) hX dX10_mutual_34 (by decide) (by omega) (by omega) (fun hc6 => ?_) (fun hc6 => ?_)
          · skip
            refine j_iconst hX dX10_mutual_52 ?_
            refine j_istore (lv' := [(5, _), (4, _), (0, _), (1, _), (2, _), (3, _)]) hX dX10_mutual_53 (by rw [hnL]; decide) rfl ?_
            refine j_iload hX dX10_mutual_55 0 rfl ?_
            refine j_if_eq (tgt := 80) hX dX10_mutual_57 (by decide) (by omega) (fun hc7 => ?_) (fun hc7 => ?_)
            · skip
              refine j_iinc (lv' := [(3, _), (5, _), (4, _), (0, _), (1, _), (2, _)]) hX dX10_mutual_80 5 rfl (by rw [hnL]; decide) rfl ?_
              refine j_goto (tgt := 12) hX dX10_mutual_83 (by decide) ?_
              refine j_sub [3, 4, 5, 0] rfl ?_
              exact ih _ _ _ (by omega) (by omega) (by assumption) (by first | assumption | omega) (by omega) (by omega)
            · skip
              refine j_aload_n hX dX10_mutual_60 rfl 3 rfl ?_
              refine j_iload_n hX dX10_mutual_61 rfl 5 rfl ?_
              refine j_callVI hX lk_X10_150 (c_X8_seesOne _ _ _ _ _ sw _ _ (by omega) hI (by omega) hsw (by first | assumption | omega)) (by omega) hce rfl rfl (by omega) (by omega) (sc_k0 hsw) rfl rfl (Nat.le_of_ble_eq_true rfl) dX10_mutual_62 (fun z8 M9 hz11 hp10 => ?_)
              obtain ⟨hE12, hb13⟩ := hp10
              replace hE12 := hE12.symm
              subst hE12
              refine j_if_eq (tgt := 80) hX dX10_mutual_65 (by decide) (by omega) (fun hc14 => ?_) (fun hc14 => ?_)
              · skip
                refine j_iinc (lv' := [(3, _), (5, _), (4, _), (0, _), (1, _), (2, _)]) hX dX10_mutual_80 5 rfl (by rw [hnL]; decide) rfl ?_
                refine j_goto (tgt := 12) hX dX10_mutual_83 (by decide) ?_
                refine j_sub [3, 4, 5, 0] rfl ?_
                exact ih _ _ _ (by omega) (by omega) (by assumption) (by first | assumption | omega) (by omega) (by omega)
              · skip
                refine j_aload_n hX dX10_mutual_68 rfl 3 rfl ?_
                refine j_iload hX dX10_mutual_69 1 rfl ?_
                refine j_callVI hX lk_X10_150 (c_X8_seesOne _ _ _ _ _ sw _ _ (by omega) hI (by omega) hsw (by first | assumption | omega)) (by omega) hce rfl rfl (by omega) (by omega) (sc_k0 hsw) rfl rfl (Nat.le_of_ble_eq_true rfl) dX10_mutual_71 (fun z15 M16 hz18 hp17 => ?_)
                obtain ⟨hE19, hb20⟩ := hp17
                replace hE19 := hE19.symm
                subst hE19
                refine j_if_eq (tgt := 80) hX dX10_mutual_74 (by decide) (by omega) (fun hc21 => ?_) (fun hc21 => ?_)
                · skip
                  refine j_iinc (lv' := [(3, _), (5, _), (4, _), (0, _), (1, _), (2, _)]) hX dX10_mutual_80 5 rfl (by rw [hnL]; decide) rfl ?_
                  refine j_goto (tgt := 12) hX dX10_mutual_83 (by decide) ?_
                  refine j_sub [3, 4, 5, 0] rfl ?_
                  exact ih _ _ _ (by omega) (by omega) (by assumption) (by first | assumption | omega) (by omega) (by omega)
                · skip
                  refine j_iinc (lv' := [(2, _), (5, _), (4, _), (0, _), (1, _), (3, _)]) hX dX10_mutual_77 4 rfl (by rw [hnL]; decide) rfl ?_
                  refine j_iinc (lv' := [(3, _), (2, _), (5, _), (4, _), (0, _), (1, _)]) hX dX10_mutual_80 5 rfl (by rw [hnL]; decide) rfl ?_
                  refine j_goto (tgt := 12) hX dX10_mutual_83 (by decide) ?_
                  refine j_sub [4, 5, 1, 0] rfl ?_
                  exact ih _ _ _ (by omega) (by omega) (by assumption) (by first | assumption | omega) (by omega) (by omega)
          · skip
            refine j_aload_n hX dX10_mutual_37 rfl 2 rfl ?_
            refine gf_X10_128 hX (by omega) (by omega) (sc_k0 hsw) (sc_f0 hI hsw) (by omega) dX10_mutual_38 ?_
            refine j_iload hX dX10_mutual_41 0 rfl ?_
            refine j_iald hX (by omega) (by omega) (sc_k1 hsw) (by omega) (by omega) (by omega) dX10_mutual_43 ?_
            refine j_name hI (sc_w hsw _) (fun v22 hv23 hl24 hh25 => ?_)
            refine j_iload_n hX dX10_mutual_44 rfl 4 rfl ?_
            refine j_icmp_ne (tgt := 52) hX dX10_mutual_45 (by decide) (by omega) (by omega) (fun hc26 => ?_) (fun hc26 => ?_)
            · skip
              refine j_iconst hX dX10_mutual_52 ?_
              refine j_istore (lv' := [(5, _), (4, _), (0, _), (1, _), (2, _), (3, _)]) hX dX10_mutual_53 (by rw [hnL]; decide) rfl ?_
              refine j_iload hX dX10_mutual_55 0 rfl ?_
              refine j_if_eq (tgt := 80) hX dX10_mutual_57 (by decide) (by omega) (fun hc27 => ?_) (fun hc27 => ?_)
              · skip
                refine j_iinc (lv' := [(3, _), (5, _), (4, _), (0, _), (1, _), (2, _)]) hX dX10_mutual_80 5 rfl (by rw [hnL]; decide) rfl ?_
                refine j_goto (tgt := 12) hX dX10_mutual_83 (by decide) ?_
                refine j_sub [3, 4, 5, 0] rfl ?_
                exact ih _ _ _ (by omega) (by omega) (by assumption) (by first | assumption | omega) (by omega) (by omega)
              · skip
                refine j_aload_n hX dX10_mutual_60 rfl 3 rfl ?_
                refine j_iload_n hX dX10_mutual_61 rfl 5 rfl ?_
                refine j_callVI hX lk_X10_150 (c_X8_seesOne _ _ _ _ _ sw _ _ (by omega) hI (by omega) hsw (by first | assumption | omega)) (by omega) hce rfl rfl (by omega) (by omega) (sc_k0 hsw) rfl rfl (Nat.le_of_ble_eq_true rfl) dX10_mutual_62 (fun z28 M29 hz31 hp30 => ?_)
                obtain ⟨hE32, hb33⟩ := hp30
                replace hE32 := hE32.symm
                subst hE32
                refine j_if_eq (tgt := 80) hX dX10_mutual_65 (by decide) (by omega) (fun hc34 => ?_) (fun hc34 => ?_)
                · skip
                  refine j_iinc (lv' := [(3, _), (5, _), (4, _), (0, _), (1, _), (2, _)]) hX dX10_mutual_80 5 rfl (by rw [hnL]; decide) rfl ?_
                  refine j_goto (tgt := 12) hX dX10_mutual_83 (by decide) ?_
                  refine j_sub [3, 4, 5, 0] rfl ?_
                  exact ih _ _ _ (by omega) (by omega) (by assumption) (by first | assumption | omega) (by omega) (by omega)
                · skip
                  refine j_aload_n hX dX10_mutual_68 rfl 3 rfl ?_
                  refine j_iload hX dX10_mutual_69 1 rfl ?_
                  refine j_callVI hX lk_X10_150 (c_X8_seesOne _ _ _ _ _ sw _ _ (by omega) hI (by omega) hsw (by first | assumption | omega)) (by omega) hce rfl rfl (by omega) (by omega) (sc_k0 hsw) rfl rfl (Nat.le_of_ble_eq_true rfl) dX10_mutual_71 (fun z35 M36 hz38 hp37 => ?_)
                  obtain ⟨hE39, hb40⟩ := hp37
                  replace hE39 := hE39.symm
                  subst hE39
                  refine j_if_eq (tgt := 80) hX dX10_mutual_74 (by decide) (by omega) (fun hc41 => ?_) (fun hc41 => ?_)
                  · skip
                    refine j_iinc (lv' := [(3, _), (5, _), (4, _), (0, _), (1, _), (2, _)]) hX dX10_mutual_80 5 rfl (by rw [hnL]; decide) rfl ?_
                    refine j_goto (tgt := 12) hX dX10_mutual_83 (by decide) ?_
                    refine j_sub [3, 4, 5, 0] rfl ?_
                    exact ih _ _ _ (by omega) (by omega) (by assumption) (by first | assumption | omega) (by omega) (by omega)
                  · skip
                    refine j_iinc (lv' := [(2, _), (5, _), (4, _), (0, _), (1, _), (3, _)]) hX dX10_mutual_77 4 rfl (by rw [hnL]; decide) rfl ?_
                    refine j_iinc (lv' := [(3, _), (2, _), (5, _), (4, _), (0, _), (1, _)]) hX dX10_mutual_80 5 rfl (by rw [hnL]; decide) rfl ?_
                    refine j_goto (tgt := 12) hX dX10_mutual_83 (by decide) ?_
                    refine j_sub [4, 5, 1, 0] rfl ?_
                    exact ih _ _ _ (by omega) (by omega) (by assumption) (by first | assumption | omega) (by omega) (by omega)
            · skip
              refine j_iconst hX dX10_mutual_48 ?_
              refine j_goto (tgt := 53) hX dX10_mutual_49 (by decide) ?_
              refine j_istore (lv' := [(5, _), (4, _), (0, _), (1, _), (2, _), (3, _)]) hX dX10_mutual_53 (by rw [hnL]; decide) rfl ?_
              refine j_iload hX dX10_mutual_55 0 rfl ?_
              refine j_if_eq (tgt := 80) hX dX10_mutual_57 (by decide) (by omega) (fun hc42 => ?_) (fun hc42 => ?_)
              · skip
                refine j_iinc (lv' := [(3, _), (5, _), (4, _), (0, _), (1, _), (2, _)]) hX dX10_mutual_80 5 rfl (by rw [hnL]; decide) rfl ?_
                refine j_goto (tgt := 12) hX dX10_mutual_83 (by decide) ?_
                refine j_sub [3, 4, 5, 0] rfl ?_
                exact ih _ _ _ (by omega) (by omega) (by assumption) (by first | assumption | omega) (by omega) (by omega)
              · skip
                refine j_aload_n hX dX10_mutual_60 rfl 3 rfl ?_
                refine j_iload_n hX dX10_mutual_61 rfl 5 rfl ?_
                refine j_callVI hX lk_X10_150 (c_X8_seesOne _ _ _ _ _ sw _ _ (by omega) hI (by omega) hsw (by first | assumption | omega)) (by omega) hce rfl rfl (by omega) (by omega) (sc_k0 hsw) rfl rfl (Nat.le_of_ble_eq_true rfl) dX10_mutual_62 (fun z43 M44 hz46 hp45 => ?_)
                obtain ⟨hE47, hb48⟩ := hp45
                replace hE47 := hE47.symm
                subst hE47
                refine j_if_eq (tgt := 80) hX dX10_mutual_65 (by decide) (by omega) (fun hc49 => ?_) (fun hc49 => ?_)
                · skip
                  refine j_iinc (lv' := [(3, _), (5, _), (4, _), (0, _), (1, _), (2, _)]) hX dX10_mutual_80 5 rfl (by rw [hnL]; decide) rfl ?_
                  refine j_goto (tgt := 12) hX dX10_mutual_83 (by decide) ?_
                  refine j_sub [3, 4, 5, 0] rfl ?_
                  exact ih _ _ _ (by omega) (by omega) (by assumption) (by first | assumption | omega) (by omega) (by omega)
                · skip
                  refine j_aload_n hX dX10_mutual_68 rfl 3 rfl ?_
                  refine j_iload hX dX10_mutual_69 1 rfl ?_
                  refine j_callVI hX lk_X10_150 (c_X8_seesOne _ _ _ _ _ sw _ _ (by omega) hI (by omega) hsw (by first | assumption | omega)) (by omega) hce rfl rfl (by omega) (by omega) (sc_k0 hsw) rfl rfl (Nat.le_of_ble_eq_true rfl) dX10_mutual_71 (fun z50 M51 hz53 hp52 => ?_)
                  obtain ⟨hE54, hb55⟩ := hp52
                  replace hE54 := hE54.symm
                  subst hE54
                  refine j_if_eq (tgt := 80) hX dX10_mutual_74 (by decide) (by omega) (fun hc56 => ?_) (fun hc56 => ?_)
                  · skip
                    refine j_iinc (lv' := [(3, _), (5, _), (4, _), (0, _), (1, _), (2, _)]) hX dX10_mutual_80 5 rfl (by rw [hnL]; decide) rfl ?_
                    refine j_goto (tgt := 12) hX dX10_mutual_83 (by decide) ?_
                    refine j_sub [3, 4, 5, 0] rfl ?_
                    exact ih _ _ _ (by omega) (by omega) (by assumption) (by first | assumption | omega) (by omega) (by omega)
                  · skip
                    refine j_iinc (lv' := [(2, _), (5, _), (4, _), (0, _), (1, _), (3, _)]) hX dX10_mutual_77 4 rfl (by rw [hnL]; decide) rfl ?_
                    refine j_iinc (lv' := [(3, _), (2, _), (5, _), (4, _), (0, _), (1, _)]) hX dX10_mutual_80 5 rfl (by rw [hnL]; decide) rfl ?_
                    refine j_goto (tgt := 12) hX dX10_mutual_83 (by decide) ?_
                    refine j_sub [4, 5, 1, 0] rfl ?_
                    exact ih _ _ _ (by omega) (by omega) (by assumption) (by first | assumption | omega) (by omega) (by omega)
  show J X B N 0 0 0 [(0, rv B 0)] [] M
  refine j_aload_n hX dX10_mutual_0 rfl 0 rfl ?_
  refine gf_X10_19 hX (by omega) (by omega) kc_0 (fc_0_1 hI) (by decide) dX10_mutual_1 ?_
  refine j_callVR hX lk_X10_124 (c_X0_now _ _ _ _ _ _ (by omega) hI) (by omega) hce rfl rfl (by omega) (by omega) kc_26 rfl rfl (Nat.le_of_ble_eq_true rfl) dX10_mutual_4 (fun sw M57 hz59 hp58 => ?_)
  obtain ⟨hE60, hq61, hq62⟩ := hp58
  replace hE60 := hE60.symm
  subst hE60
  have hsw : Sc sw := hq61
  have hbsw := sc_b hsw
  have hdsw : 28 ≤ sw ∧ sw ≤ 207 := by omega
  refine j_astore_n (lv' := [(1, _), (0, _)]) hX dX10_mutual_7 rfl (by rw [hnL]; decide) rfl ?_
  refine j_iconst hX dX10_mutual_8 ?_
  refine j_istore_n (lv' := [(2, _), (1, _), (0, _)]) hX dX10_mutual_9 rfl (by rw [hnL]; decide) rfl ?_
  refine j_iconst hX dX10_mutual_10 ?_
  refine j_istore_n (lv' := [(3, _), (2, _), (1, _), (0, _)]) hX dX10_mutual_11 rfl (by rw [hnL]; decide) rfl ?_
  refine j_sub [3, 2, 1, 0] rfl ?_
  refine (cp (Int.toNat (256 + 1))) _ _ _ (by omega) (by omega) (by assumption) (by first | assumption | omega) ?_ ?_
  · omega
  · omega
set_option maxHeartbeats 2000000 in
set_option maxRecDepth 20000 in
theorem c_X10_word (l : Launch) (D : va_G) (cy : Nat → ClassId) (B N : Nat) (q : Int) (nr : Int) (a : Int) (b : Int) (M : MM) (hN : 210 ≤ N) (hI : Iv M) (hpa : I32 a) (hpb : I32 b) (hq : q = 5 ∨ q = 180) (ht : M.1 0 8 = q) (hnr : M.1 q 0 = nr) (hVn : Vn nr M) (hnb : 0 ≤ nr ∧ nr ≤ 6) : CI l D cy B N 2 yX10_word cX10_word 6 (some .int) [rv B 0, iv a, iv b] M (fun z M' => Iv M' ∧ Fr (fun a b => (a = 0 ∧ 10 ≤ b ∧ b ≤ 10) ∨ (a = 179)) M M') := by
  refine mk_CI (by decide) (Nat.le_of_ble_eq_true rfl) ?_
  intro X exl exD excy hnL hX hret
  have hce : 0 + 0 ≤ (xR X).cells ∧ 0 + 0 ≤ (xR X).slots := ⟨Nat.zero_le _, Nat.zero_le _⟩
  have hdq : 5 ≤ q ∧ q ≤ 180 := by omega
  have hF : Fr (fun a b => (a = 0 ∧ 10 ≤ b ∧ b ≤ 10) ∨ (a = 179)) M M := Fr.rf
  have cp : ∀ n : Nat, (∀ (x4 x5 : Int), ∀ (sw : Int), ∀ (Mc : MM), I32 x4 → I32 x5 → Sc sw → Iv Mc → Fr (fun a b => (a = 0 ∧ 10 ≤ b ∧ b ≤ 10) ∨ (a = 179)) M Mc → Mc.1 0 8 = q → Mc.1 q 0 = nr → V nr sw Mc → (0 ≤ x4 ∧ x4 < nr ∧ 0 ≤ x5 ∧ x5 ≤ 6) → 0 ≤ 32 * (6 - x5) + 1 → 32 * (6 - x5) + 1 < (n : Int) → J X B N 0 0 43 [(0, rv B 0), (1, iv a), (2, iv b), (3, rv B sw), (4, iv x4), (5, iv x5)] [] Mc) := by
    intro n
    induction n with
    | zero => exact by intros; exfalso; omega
    | succ n ih =>
      · intro x4 x5 sw Mc hxx4 hxx5 hsw hI hF hk_0 hk_1 hV_0 h2 hm0 hm1
        have hbsw := sc_b hsw
        refine j_iload hX dX10_word_43 5 rfl ?_
        refine j_aload_n hX dX10_word_45 rfl 0 rfl ?_
        refine gf_X10_62 hX (by omega) (by omega) kc_0 hk_0 (by omega) dX10_word_46 ?_
        refine gf_X10_111 hX (by omega) (by omega) (kq hq) dX10_word_49 ?_
        refine j_top hk_1 ?_
        refine j_icmp_ge (tgt := 106) hX dX10_word_52 (by decide) (by omega) (by omega) (fun hc1 => ?_) (fun hc1 => ?_)
        · skip
          refine j_iconst hX dX10_word_106 ?_
          exact hret _ _ _ _ dX10_word_107 rfl (by omega) ⟨hI, hF⟩
        · skip
          refine j_aload_n hX dX10_word_55 rfl 0 rfl ?_
          refine gf_X10_55 hX (by omega) (by omega) kc_0 (fc_0_7 hI) (by decide) dX10_word_56 ?_
          refine j_iload hX dX10_word_59 5 rfl ?_
          refine j_iload hX dX10_word_61 4 rfl ?_
          refine j_iast hX (by omega) (by omega) kc_179 (by omega) (by omega) (by omega) (by omega) dX10_word_63 ?_
          refine j_up hI (ra_179 _) (by omega) (by omega) (Or.inl (by omega)) (fun M2 w3 hw4 hM5 hI6 hf7 => ?_)
          have hV8 := V_up hV_0 hM5 (by omega) (by omega)
          have hk9 := kp_up hM5 (fun h => absurd h.1 (by decide)) hk_0
          have hk10 := kp_up hM5 (by omega) hk_1
          have hF11 := Fr.put hF hM5 (by omega)
          refine j_iload hX dX10_word_64 4 rfl ?_
          refine j_iload_n hX dX10_word_66 rfl 2 rfl ?_
          refine j_icmp_ne (tgt := 81) hX dX10_word_67 (by decide) (by omega) (by omega) (fun hc12 => ?_) (fun hc12 => ?_)
          · skip
            refine j_aload_n hX dX10_word_81 rfl 3 rfl ?_
            refine j_iload hX dX10_word_82 4 rfl ?_
            refine j_callVI hX lk_X10_135 (c_X8_isDrawn _ _ _ _ _ sw _ _ (by omega) hI6 (by omega) hsw) (by omega) hce rfl rfl (by omega) (by omega) (sc_k0 hsw) rfl rfl (Nat.le_of_ble_eq_true rfl) dX10_word_84 (fun z13 M14 hz16 hp15 => ?_)
            obtain ⟨hE17, hb18⟩ := hp15
            replace hE17 := hE17.symm
            subst hE17
            refine j_if_eq (tgt := 92) hX dX10_word_87 (by decide) (by omega) (fun hc19 => ?_) (fun hc19 => ?_)
            · skip
              refine j_aload_n hX dX10_word_92 rfl 3 rfl ?_
              refine j_iload hX dX10_word_93 4 rfl ?_
              refine j_callVI hX lk_X10_131 (c_X8_holderOf _ _ _ _ _ sw _ _ _ (by omega) hI6 (by omega) hsw (by first | assumption | omega) (by first | assumption | omega)) (by omega) hce rfl rfl (by omega) (by omega) (sc_k0 hsw) rfl rfl (Nat.le_of_ble_eq_true rfl) dX10_word_95 (fun z20 M21 hz23 hp22 => ?_)
              obtain ⟨hE24, hq25⟩ := hp22
              replace hE24 := hE24.symm
              subst hE24
              refine j_istore (lv' := [(4, _), (0, _), (1, _), (2, _), (3, _), (5, _)]) hX dX10_word_98 (by rw [hnL]; decide) rfl ?_
              refine j_iinc (lv' := [(5, _), (4, _), (0, _), (1, _), (2, _), (3, _)]) hX dX10_word_100 5 rfl (by rw [hnL]; decide) rfl ?_
              refine j_goto (tgt := 43) hX dX10_word_103 (by decide) ?_
              refine j_sub [2, 3, 4, 5, 1, 0] rfl ?_
              exact ih _ _ _ _ (by omega) (by omega) (by assumption) hI6 hF11 hk9 hk10 hV8 (by first | assumption | omega) (by omega) (by omega)
            · skip
              refine j_iconst hX dX10_word_90 ?_
              exact hret _ _ _ _ dX10_word_91 rfl (by omega) ⟨hI6, hF11⟩
          · skip
            refine j_aload_n hX dX10_word_70 rfl 0 rfl ?_
            refine j_iload hX dX10_word_71 5 rfl ?_
            refine j_iconst hX dX10_word_73 ?_
            refine j_iadd hX dX10_word_74 ?_
            refine pf_X10_70 hX (by omega) (by omega) kc_0 (by omega) dX10_word_75 ?_
            refine j_up hI6 ro_0_10 (by omega) (by omega) (Or.inl (by omega)) (fun M26 w27 hw28 hM29 hI30 hf31 => ?_)
            have hV32 := V_up hV8 hM29 (by omega) (by omega)
            have hk33 := kp_up hM29 (fun h => absurd h.2 (by decide)) hk9
            have hk34 := kp_up hM29 (by omega) hk10
            clear hk9 hk10
            have hF35 := Fr.put hF11 hM29 (by omega)
            refine j_iload hX dX10_word_78 5 rfl ?_
            exact hret _ _ _ _ dX10_word_80 rfl (by omega) ⟨hI30, hF35⟩
  show J X B N 0 0 0 [(0, rv B 0), (1, iv a), (2, iv b)] [] M
  refine j_aload_n hX dX10_word_0 rfl 0 rfl ?_
  refine j_iconst hX dX10_word_1 ?_
  refine pf_X10_70 hX (by omega) (by omega) kc_0 (by omega) dX10_word_2 ?_
  refine j_up hI ro_0_10 (by omega) (by omega) (Or.inl (by omega)) (fun M36 w37 hw38 hM39 hI40 hf41 => ?_)
  have hV42 := Vn_up hVn hI hM39 (by omega)
  have hk43 := kp_up hM39 (fun h => absurd h.2 (by decide)) ht
  have hk44 := kp_up hM39 (by omega) hnr
  have hF45 := Fr.put hF hM39 (by omega)
  refine j_aload_n hX dX10_word_5 rfl 0 rfl ?_
  refine gf_X10_62 hX (by omega) (by omega) kc_0 hk43 (by omega) dX10_word_6 ?_
  refine j_iload_n hX dX10_word_9 rfl 1 rfl ?_
  refine j_callVI hX lk_X10_120 (c_X6_hasRoom _ _ _ _ _ q _ _ (by omega) hI40 (by omega) hq) (by omega) hce rfl rfl (by omega) (by omega) (kq hq) rfl rfl (Nat.le_of_ble_eq_true rfl) dX10_word_10 (fun z46 M47 hz49 hp48 => ?_)
  obtain ⟨hE50, hb51, hq52⟩ := hp48
  replace hE50 := hE50.symm
  subst hE50
  refine j_if_eq (tgt := 27) hX dX10_word_13 (by decide) (by omega) (fun hc53 => ?_) (fun hc53 => ?_)
  · skip
    clear hq52
    refine j_iconst hX dX10_word_27 ?_
    exact hret _ _ _ _ dX10_word_28 rfl (by omega) ⟨hI40, hF45⟩
  · skip
    have hi54 := hq52 (by omega)
    clear hq52
    refine j_aload_n hX dX10_word_16 rfl 0 rfl ?_
    refine gf_X10_62 hX (by omega) (by omega) kc_0 hk43 (by omega) dX10_word_17 ?_
    refine j_iload_n hX dX10_word_20 rfl 2 rfl ?_
    refine j_callVI hX lk_X10_120 (c_X6_hasRoom _ _ _ _ _ q _ _ (by omega) hI40 (by omega) hq) (by omega) hce rfl rfl (by omega) (by omega) (kq hq) rfl rfl (Nat.le_of_ble_eq_true rfl) dX10_word_21 (fun z55 M56 hz58 hp57 => ?_)
    obtain ⟨hE59, hb60, hq61⟩ := hp57
    replace hE59 := hE59.symm
    subst hE59
    refine j_if_ne (tgt := 29) hX dX10_word_24 (by decide) (by omega) (fun hc62 => ?_) (fun hc62 => ?_)
    · skip
      have hi63 := hq61 (by omega)
      clear hq61
      refine j_aload_n hX dX10_word_29 rfl 0 rfl ?_
      refine gf_X10_19 hX (by omega) (by omega) kc_0 (fc_0_1 hI40) (by decide) dX10_word_30 ?_
      refine j_callVR hX lk_X10_124 (c_X0_now _ _ _ _ _ _ (by omega) hI40) (by omega) hce rfl rfl (by omega) (by omega) kc_26 rfl rfl (Nat.le_of_ble_eq_true rfl) dX10_word_33 (fun sw M64 hz66 hp65 => ?_)
      obtain ⟨hE67, hq68, hq69⟩ := hp65
      replace hE67 := hE67.symm
      subst hE67
      have hV70 : V nr sw M36 := by rw [hq69]; exact hV42
      have hsw : Sc sw := hq68
      have hbsw := sc_b hsw
      have hdsw : 28 ≤ sw ∧ sw ≤ 207 := by omega
      refine j_astore_n (lv' := [(3, _), (0, _), (1, _), (2, _)]) hX dX10_word_36 rfl (by rw [hnL]; decide) rfl ?_
      refine j_iload_n hX dX10_word_37 rfl 2 rfl ?_
      refine j_istore (lv' := [(4, _), (3, _), (0, _), (1, _), (2, _)]) hX dX10_word_38 (by rw [hnL]; decide) rfl ?_
      refine j_iconst hX dX10_word_40 ?_
      refine j_istore (lv' := [(5, _), (4, _), (3, _), (0, _), (1, _), (2, _)]) hX dX10_word_41 (by rw [hnL]; decide) rfl ?_
      refine j_sub [3, 4, 5, 2, 1, 0] rfl ?_
      refine (cp (Int.toNat (256 + 1))) _ _ _ _ (by omega) (by omega) (by assumption) hI40 hF45 hk43 hk44 hV70 (by first | assumption | omega) ?_ ?_
      · omega
      · omega
    · skip
      clear hq61
      refine j_iconst hX dX10_word_27 ?_
      exact hret _ _ _ _ dX10_word_28 rfl (by omega) ⟨hI40, hF45⟩
set_option maxHeartbeats 2000000 in
set_option maxRecDepth 20000 in
theorem c_X10_reach (l : Launch) (D : va_G) (cy : Nat → ClassId) (B N : Nat) (q : Int) (nr : Int) (a : Int) (M : MM) (hN : 210 ≤ N) (hI : Iv M) (hpa : I32 a) (hq : q = 5 ∨ q = 180) (ht : M.1 0 8 = q) (hnr : M.1 q 0 = nr) (hVn : Vn nr M) (hnb : 0 ≤ nr ∧ nr ≤ 6) : CI l D cy B N 2 yX10_reach cX10_reach 6 (some .int) [rv B 0, iv a] M (fun z M' => M' = M) := by
  refine mk_CI (by decide) (Nat.le_of_ble_eq_true rfl) ?_
  intro X exl exD excy hnL hX hret
  have hce : 0 + 0 ≤ (xR X).cells ∧ 0 + 0 ≤ (xR X).slots := ⟨Nat.zero_le _, Nat.zero_le _⟩
  have hdq : 5 ≤ q ∧ q ≤ 180 := by omega
  have cp : ∀ n : Nat, (∀ (x3 x4 x5 : Int), ∀ (sw : Int), I32 x3 → I32 x4 → I32 x5 → Sc sw → V nr sw M → (0 ≤ x4 ∧ x4 < nr ∧ 0 ≤ x5 ∧ x5 ≤ 6) → 0 ≤ 32 * (6 - x5) + 1 → 32 * (6 - x5) + 1 < (n : Int) → J X B N 0 0 31 [(0, rv B 0), (1, iv a), (2, rv B sw), (3, iv x3), (4, iv x4), (5, iv x5)] [] M) := by
    intro n
    induction n with
    | zero => exact by intros; exfalso; omega
    | succ n ih =>
      · intro x3 x4 x5 sw hxx3 hxx4 hxx5 hsw hV_0 h2 hm0 hm1
        have hbsw := sc_b hsw
        refine j_iload hX dX10_reach_31 5 rfl ?_
        refine j_aload_n hX dX10_reach_33 rfl 0 rfl ?_
        refine gf_X10_62 hX (by omega) (by omega) kc_0 ht (by omega) dX10_reach_34 ?_
        refine gf_X10_111 hX (by omega) (by omega) (kq hq) dX10_reach_37 ?_
        refine j_top hnr ?_
        refine j_icmp_ge (tgt := 73) hX dX10_reach_40 (by decide) (by omega) (by omega) (fun hc1 => ?_) (fun hc1 => ?_)
        · skip
          refine j_iload_n hX dX10_reach_73 rfl 3 rfl ?_
          exact hret _ _ _ _ dX10_reach_74 rfl (by omega) rfl
        · skip
          refine j_aload_n hX dX10_reach_43 rfl 2 rfl ?_
          refine j_iload hX dX10_reach_44 4 rfl ?_
          refine j_callVI hX lk_X10_135 (c_X8_isDrawn _ _ _ _ _ sw _ _ (by omega) hI (by omega) hsw) (by omega) hce rfl rfl (by omega) (by omega) (sc_k0 hsw) rfl rfl (Nat.le_of_ble_eq_true rfl) dX10_reach_46 (fun z2 M3 hz5 hp4 => ?_)
          obtain ⟨hE6, hb7⟩ := hp4
          replace hE6 := hE6.symm
          subst hE6
          refine j_if_ne (tgt := 73) hX dX10_reach_49 (by decide) (by omega) (fun hc8 => ?_) (fun hc8 => ?_)
          · skip
            refine j_iload_n hX dX10_reach_73 rfl 3 rfl ?_
            exact hret _ _ _ _ dX10_reach_74 rfl (by omega) rfl
          · skip
            refine j_aload_n hX dX10_reach_52 rfl 2 rfl ?_
            refine j_iload hX dX10_reach_53 4 rfl ?_
            refine j_callVI hX lk_X10_131 (c_X8_holderOf _ _ _ _ _ sw _ _ _ (by omega) hI (by omega) hsw (by first | assumption | omega) (by first | assumption | omega)) (by omega) hce rfl rfl (by omega) (by omega) (sc_k0 hsw) rfl rfl (Nat.le_of_ble_eq_true rfl) dX10_reach_55 (fun z9 M10 hz12 hp11 => ?_)
            obtain ⟨hE13, hq14⟩ := hp11
            replace hE13 := hE13.symm
            subst hE13
            refine j_istore (lv' := [(4, _), (0, _), (1, _), (2, _), (3, _), (5, _)]) hX dX10_reach_58 (by rw [hnL]; decide) rfl ?_
            refine j_iload_n hX dX10_reach_60 rfl 4 rfl ?_
            refine j_iconst hX dX10_reach_61 ?_
            refine j_iload hX dX10_reach_62 0 rfl ?_
            refine j_ishl hX dX10_reach_64 (fun z15 hz16 hy17 => ?_)
            refine j_ior hX dX10_reach_65 (fun z18 hz19 hy20 => ?_)
            refine j_istore_n (lv' := [(3, _), (4, _), (0, _), (1, _), (2, _), (5, _)]) hX dX10_reach_66 rfl (by rw [hnL]; decide) rfl ?_
            refine j_iinc (lv' := [(5, _), (3, _), (4, _), (0, _), (1, _), (2, _)]) hX dX10_reach_67 5 rfl (by rw [hnL]; decide) rfl ?_
            refine j_goto (tgt := 31) hX dX10_reach_70 (by decide) ?_
            refine j_sub [3, 4, 5, 1, 2, 0] rfl ?_
            exact ih _ _ _ _ (by omega) (by omega) (by omega) (by assumption) hV_0 (by first | assumption | omega) (by omega) (by omega)
  show J X B N 0 0 0 [(0, rv B 0), (1, iv a)] [] M
  refine j_aload_n hX dX10_reach_0 rfl 0 rfl ?_
  refine gf_X10_62 hX (by omega) (by omega) kc_0 ht (by omega) dX10_reach_1 ?_
  refine j_iload_n hX dX10_reach_4 rfl 1 rfl ?_
  refine j_callVI hX lk_X10_120 (c_X6_hasRoom _ _ _ _ _ q _ _ (by omega) hI (by omega) hq) (by omega) hce rfl rfl (by omega) (by omega) (kq hq) rfl rfl (Nat.le_of_ble_eq_true rfl) dX10_reach_5 (fun z21 M22 hz24 hp23 => ?_)
  obtain ⟨hE25, hb26, hq27⟩ := hp23
  replace hE25 := hE25.symm
  subst hE25
  refine j_if_ne (tgt := 13) hX dX10_reach_8 (by decide) (by omega) (fun hc28 => ?_) (fun hc28 => ?_)
  · skip
    have hi29 := hq27 (by omega)
    clear hq27
    refine j_aload_n hX dX10_reach_13 rfl 0 rfl ?_
    refine gf_X10_19 hX (by omega) (by omega) kc_0 (fc_0_1 hI) (by decide) dX10_reach_14 ?_
    refine j_callVR hX lk_X10_124 (c_X0_now _ _ _ _ _ _ (by omega) hI) (by omega) hce rfl rfl (by omega) (by omega) kc_26 rfl rfl (Nat.le_of_ble_eq_true rfl) dX10_reach_17 (fun sw M30 hz32 hp31 => ?_)
    obtain ⟨hE33, hq34, hq35⟩ := hp31
    replace hE33 := hE33.symm
    subst hE33
    have hV36 : V nr sw M := by rw [hq35]; exact hVn
    have hsw : Sc sw := hq34
    have hbsw := sc_b hsw
    have hdsw : 28 ≤ sw ∧ sw ≤ 207 := by omega
    refine j_astore_n (lv' := [(2, _), (0, _), (1, _)]) hX dX10_reach_20 rfl (by rw [hnL]; decide) rfl ?_
    refine j_iconst hX dX10_reach_21 ?_
    refine j_iload_n hX dX10_reach_22 rfl 2 rfl ?_
    refine j_ishl hX dX10_reach_23 (fun z37 hz38 hy39 => ?_)
    refine j_istore_n (lv' := [(3, _), (2, _), (0, _), (1, _)]) hX dX10_reach_24 rfl (by rw [hnL]; decide) rfl ?_
    refine j_iload_n hX dX10_reach_25 rfl 3 rfl ?_
    refine j_istore (lv' := [(4, _), (3, _), (2, _), (0, _), (1, _)]) hX dX10_reach_26 (by rw [hnL]; decide) rfl ?_
    refine j_iconst hX dX10_reach_28 ?_
    refine j_istore (lv' := [(5, _), (4, _), (3, _), (2, _), (0, _), (1, _)]) hX dX10_reach_29 (by rw [hnL]; decide) rfl ?_
    refine j_sub [4, 5, 3, 2, 1, 0] rfl ?_
    refine (cp (Int.toNat (256 + 1))) _ _ _ _ (by omega) (by omega) (by omega) (by assumption) hV36 (by first | assumption | omega) ?_ ?_
    · omega
    · omega
  · skip
    clear hq27
    refine j_iconst hX dX10_reach_11 ?_
    exact hret _ _ _ _ dX10_reach_12 rfl (by omega) rfl
set_option maxHeartbeats 2000000 in
set_option maxRecDepth 20000 in
theorem c_X10_proof (l : Launch) (D : va_G) (cy : Nat → ClassId) (B N : Nat) (q : Int) (nr : Int) (a : Int) (b : Int) (M : MM) (hN : 210 ≤ N) (hI : Iv M) (hpa : I32 a) (hpb : I32 b) (hq : q = 5 ∨ q = 180) (ht : M.1 0 8 = q) (hnr : M.1 q 0 = nr) (hnb : 0 ≤ nr ∧ nr ≤ 6) : CI l D cy B N 2 yX10_proof cX10_proof 6 (some .int) [rv B 0, iv a, iv b] M (fun z M' => M' = M) := by
  refine mk_CI (by decide) (Nat.le_of_ble_eq_true rfl) ?_
  intro X exl exD excy hnL hX hret
  have hce : 0 + 0 ≤ (xR X).cells ∧ 0 + 0 ≤ (xR X).slots := ⟨Nat.zero_le _, Nat.zero_le _⟩
  have hdq : 5 ≤ q ∧ q ≤ 180 := by omega
  have cp : ∀ n : Nat, (∀ (x4 : Int), ∀ (sw : Int), I32 x4 → Sc sw → (0 ≤ x4 ∧ x4 ≤ 7) → 0 ≤ 32 * ((7 - x4) * 1000 + 900) + 2 → 32 * ((7 - x4) * 1000 + 900) + 2 < (n : Int) → J X B N 0 0 37 [(0, rv B 0), (1, iv a), (2, iv b), (3, rv B sw), (4, iv x4)] [] M) ∧ (∀ (x4 x5 : Int), ∀ (sw : Int), I32 x4 → I32 x5 → Sc sw → (0 ≤ x4 ∧ x4 ≤ 6 ∧ 0 ≤ x5 ∧ x5 ≤ 64) → 0 ≤ 32 * ((7 - x4) * 1000 + 64 - x5) + 1 → 32 * ((7 - x4) * 1000 + 64 - x5) + 1 < (n : Int) → J X B N 0 0 52 [(0, rv B 0), (1, iv a), (2, iv b), (3, rv B sw), (4, iv x4), (5, iv x5)] [] M) := by
    intro n
    induction n with
    | zero => exact ⟨by intros; exfalso; omega, by intros; exfalso; omega⟩
    | succ n ih =>
      refine ⟨?_, ?_⟩
      · intro x4 sw hxx4 hsw h2 hm0 hm1
        have hbsw := sc_b hsw
        refine j_iload hX dX10_proof_37 4 rfl ?_
        refine j_aload_n hX dX10_proof_39 rfl 0 rfl ?_
        refine gf_X10_62 hX (by omega) (by omega) kc_0 ht (by omega) dX10_proof_40 ?_
        refine gf_X10_111 hX (by omega) (by omega) (kq hq) dX10_proof_43 ?_
        refine j_top hnr ?_
        refine j_icmp_gt (tgt := 111) hX dX10_proof_46 (by decide) (by omega) (by omega) (fun hc1 => ?_) (fun hc1 => ?_)
        · skip
          refine j_iconst hX dX10_proof_111 ?_
          exact hret _ _ _ _ dX10_proof_112 rfl (by omega) rfl
        · skip
          refine j_iconst hX dX10_proof_49 ?_
          refine j_istore (lv' := [(5, _), (0, _), (1, _), (2, _), (3, _), (4, _)]) hX dX10_proof_50 (by rw [hnL]; decide) rfl ?_
          refine j_sub [1, 2, 3, 4, 5, 0] rfl ?_
          exact ih.2 _ _ _ (by omega) (by omega) (by assumption) (by first | assumption | omega) (by omega) (by omega)
      · intro x4 x5 sw hxx4 hxx5 hsw h2 hm0 hm1
        have hbsw := sc_b hsw
        refine j_iload hX dX10_proof_52 5 rfl ?_
        refine j_aload_n hX dX10_proof_54 rfl 0 rfl ?_
        refine gf_X10_62 hX (by omega) (by omega) kc_0 ht (by omega) dX10_proof_55 ?_
        refine j_callVI hX lk_X10_220 (c_X6_allRooms _ _ _ _ _ q _ (by omega) hI hq) (by omega) hce rfl rfl (by omega) (by omega) (kq hq) rfl rfl (Nat.le_of_ble_eq_true rfl) dX10_proof_58 (fun z2 M3 hz5 hp4 => ?_)
        obtain ⟨hE6, hq7⟩ := hp4
        replace hE6 := hE6.symm
        subst hE6
        refine j_icmp_gt (tgt := 105) hX dX10_proof_61 (by decide) (by omega) (by omega) (fun hc8 => ?_) (fun hc8 => ?_)
        · skip
          refine j_iinc (lv' := [(4, _), (0, _), (1, _), (2, _), (3, _), (5, _)]) hX dX10_proof_105 4 rfl (by rw [hnL]; decide) rfl ?_
          refine j_goto (tgt := 37) hX dX10_proof_108 (by decide) ?_
          refine j_sub [1, 2, 3, 4, 0] rfl ?_
          exact ih.1 _ _ (by omega) (by assumption) (by first | assumption | omega) (by omega) (by omega)
        · skip
          refine j_iload hX dX10_proof_64 5 rfl ?_
          refine j_callSI hX lk_X10_215 (c_J6_bitCount_0f7a4 _ _ _ _ _ _ _ (by omega)) (by omega) hce rfl rfl (Nat.le_of_ble_eq_true rfl) dX10_proof_66 (fun z9 M10 hz12 hp11 => ?_)
          have hE13 := hp11.symm
          subst hE13
          refine j_iload hX dX10_proof_69 4 rfl ?_
          refine j_icmp_ne (tgt := 99) hX dX10_proof_71 (by decide) (by omega) (by omega) (fun hc14 => ?_) (fun hc14 => ?_)
          · skip
            refine j_iinc (lv' := [(5, _), (0, _), (1, _), (2, _), (3, _), (4, _)]) hX dX10_proof_99 5 rfl (by rw [hnL]; decide) rfl ?_
            refine j_goto (tgt := 52) hX dX10_proof_102 (by decide) ?_
            refine j_sub [1, 2, 3, 4, 5, 0] rfl ?_
            exact ih.2 _ _ _ (by omega) (by omega) (by assumption) (by first | assumption | omega) (by omega) (by omega)
          · skip
            refine j_iload_n hX dX10_proof_74 rfl 1 rfl ?_
            refine j_aload_n hX dX10_proof_75 rfl 3 rfl ?_
            refine j_iload hX dX10_proof_76 5 rfl ?_
            refine j_callVI hX lk_X10_266 (c_X8_knownTogether _ _ _ _ _ sw _ _ (by omega) hI (by omega) hsw) (by omega) hce rfl rfl (by omega) (by omega) (sc_k0 hsw) rfl rfl (Nat.le_of_ble_eq_true rfl) dX10_proof_78 (fun z15 M16 hz18 hp17 => ?_)
            have hE19 := hp17.symm
            subst hE19
            refine j_iconst hX dX10_proof_81 ?_
            refine j_ixor hX dX10_proof_82 (fun z20 hz21 hy22 => ?_)
            refine j_iand hX dX10_proof_83 (fun z23 hz24 hy25 => ?_)
            refine j_if_ne (tgt := 99) hX dX10_proof_84 (by decide) (by omega) (fun hc26 => ?_) (fun hc26 => ?_)
            · skip
              refine j_iinc (lv' := [(5, _), (0, _), (1, _), (2, _), (3, _), (4, _)]) hX dX10_proof_99 5 rfl (by rw [hnL]; decide) rfl ?_
              refine j_goto (tgt := 52) hX dX10_proof_102 (by decide) ?_
              refine j_sub [1, 2, 3, 4, 5, 0] rfl ?_
              exact ih.2 _ _ _ (by omega) (by omega) (by assumption) (by first | assumption | omega) (by omega) (by omega)
            · skip
              refine j_iload_n hX dX10_proof_87 rfl 2 rfl ?_
              refine j_if_ne (tgt := 96) hX dX10_proof_88 (by decide) (by omega) (fun hc27 => ?_) (fun hc27 => ?_)
              · skip
                refine j_iload hX dX10_proof_96 5 rfl ?_
                exact hret _ _ _ _ dX10_proof_98 rfl (by omega) rfl
              · skip
                refine j_iload hX dX10_proof_91 4 rfl ?_
                refine j_goto (tgt := 98) hX dX10_proof_93 (by decide) ?_
                exact hret _ _ _ _ dX10_proof_98 rfl (by omega) rfl
  show J X B N 0 0 0 [(0, rv B 0), (1, iv a), (2, iv b)] [] M
  refine j_iload_n hX dX10_proof_0 rfl 1 rfl ?_
  refine j_if_lt (tgt := 24) hX dX10_proof_1 (by decide) (by omega) (fun hc28 => ?_) (fun hc28 => ?_)
  · skip
    refine j_iconst hX dX10_proof_24 ?_
    exact hret _ _ _ _ dX10_proof_25 rfl (by omega) rfl
  · skip
    refine j_iload_n hX dX10_proof_4 rfl 1 rfl ?_
    refine j_aload_n hX dX10_proof_5 rfl 0 rfl ?_
    refine gf_X10_62 hX (by omega) (by omega) kc_0 ht (by omega) dX10_proof_6 ?_
    refine j_callVI hX lk_X10_263 (c_X6_allFacts _ _ _ _ _ q _ (by omega) hI hq) (by omega) hce rfl rfl (by omega) (by omega) (kq hq) rfl rfl (Nat.le_of_ble_eq_true rfl) dX10_proof_9 (fun z29 M30 hz32 hp31 => ?_)
    obtain ⟨hE33, hq34⟩ := hp31
    replace hE33 := hE33.symm
    subst hE33
    refine j_icmp_gt (tgt := 24) hX dX10_proof_12 (by decide) (by omega) (by omega) (fun hc35 => ?_) (fun hc35 => ?_)
    · skip
      refine j_iconst hX dX10_proof_24 ?_
      exact hret _ _ _ _ dX10_proof_25 rfl (by omega) rfl
    · skip
      refine j_iload_n hX dX10_proof_15 rfl 2 rfl ?_
      refine j_if_lt (tgt := 24) hX dX10_proof_16 (by decide) (by omega) (fun hc36 => ?_) (fun hc36 => ?_)
      · skip
        refine j_iconst hX dX10_proof_24 ?_
        exact hret _ _ _ _ dX10_proof_25 rfl (by omega) rfl
      · skip
        refine j_iload_n hX dX10_proof_19 rfl 2 rfl ?_
        refine j_iconst hX dX10_proof_20 ?_
        refine j_icmp_le (tgt := 26) hX dX10_proof_21 (by decide) (by omega) (by omega) (fun hc37 => ?_) (fun hc37 => ?_)
        · skip
          refine j_aload_n hX dX10_proof_26 rfl 0 rfl ?_
          refine gf_X10_19 hX (by omega) (by omega) kc_0 (fc_0_1 hI) (by decide) dX10_proof_27 ?_
          refine j_callVR hX lk_X10_124 (c_X0_now _ _ _ _ _ _ (by omega) hI) (by omega) hce rfl rfl (by omega) (by omega) kc_26 rfl rfl (Nat.le_of_ble_eq_true rfl) dX10_proof_30 (fun sw M38 hz40 hp39 => ?_)
          obtain ⟨hE41, hq42, hq43⟩ := hp39
          replace hE41 := hE41.symm
          subst hE41
          have hsw : Sc sw := hq42
          have hbsw := sc_b hsw
          have hdsw : 28 ≤ sw ∧ sw ≤ 207 := by omega
          refine j_astore_n (lv' := [(3, _), (0, _), (1, _), (2, _)]) hX dX10_proof_33 rfl (by rw [hnL]; decide) rfl ?_
          refine j_iconst hX dX10_proof_34 ?_
          refine j_istore (lv' := [(4, _), (3, _), (0, _), (1, _), (2, _)]) hX dX10_proof_35 (by rw [hnL]; decide) rfl ?_
          refine j_sub [2, 3, 4, 1, 0] rfl ?_
          refine (cp (Int.toNat (3200064 + 1))).1 _ _ (by omega) (by assumption) (by first | assumption | omega) ?_ ?_
          · omega
          · omega
        · skip
          refine j_iconst hX dX10_proof_24 ?_
          exact hret _ _ _ _ dX10_proof_25 rfl (by omega) rfl
set_option maxHeartbeats 2000000 in
set_option maxRecDepth 20000 in
theorem c_X10_about (l : Launch) (D : va_G) (cy : Nat → ClassId) (B N : Nat) (q : Int) (a : Int) (M : MM) (hN : 210 ≤ N) (hI : Iv M) (hpa : I32 a) (hq : q = 5 ∨ q = 180) (ht : M.1 0 8 = q) : CI l D cy B N 2 yX10_about cX10_about 3 (some .int) [rv B 0, iv a] M (fun z M' => M' = M) := by
  refine mk_CI (by decide) (Nat.le_of_ble_eq_true rfl) ?_
  intro X exl exD excy hnL hX hret
  have hce : 0 + 0 ≤ (xR X).cells ∧ 0 + 0 ≤ (xR X).slots := ⟨Nat.zero_le _, Nat.zero_le _⟩
  have hdq : 5 ≤ q ∧ q ≤ 180 := by omega
  show J X B N 0 0 0 [(0, rv B 0), (1, iv a)] [] M
  refine j_aload_n hX dX10_about_0 rfl 0 rfl ?_
  refine gf_X10_19 hX (by omega) (by omega) kc_0 (fc_0_1 hI) (by decide) dX10_about_1 ?_
  refine j_callVR hX lk_X10_124 (c_X0_now _ _ _ _ _ _ (by omega) hI) (by omega) hce rfl rfl (by omega) (by omega) kc_26 rfl rfl (Nat.le_of_ble_eq_true rfl) dX10_about_4 (fun sw M1 hz3 hp2 => ?_)
  obtain ⟨hE4, hq5, hq6⟩ := hp2
  replace hE4 := hE4.symm
  subst hE4
  have hsw : Sc sw := hq5
  have hbsw := sc_b hsw
  have hdsw : 28 ≤ sw ∧ sw ≤ 207 := by omega
  refine j_astore_n (lv' := [(2, _), (0, _), (1, _)]) hX dX10_about_7 rfl (by rw [hnL]; decide) rfl ?_
  refine j_iload_n hX dX10_about_8 rfl 2 rfl ?_
  refine j_table (tgd := 191) hX dX10_about_9 (by omega) (by decide) (fun hc7 => ?_) (fun hc8 hc9 => ?_)
  · skip
    refine j_iconst hX dX10_about_191 ?_
    exact hret _ _ _ _ dX10_about_192 rfl (by omega) rfl
  · rcases (by omega : a = 0 ∨ a = 1 ∨ a = 2 ∨ a = 3 ∨ a = 4 ∨ a = 5 ∨ a = 6 ∨ a = 7 ∨ a = 8 ∨ a = 9 ∨ a = 10 ∨ a = 11 ∨ a = 12 ∨ a = 13) with hc10 | hc10 | hc10 | hc10 | hc10 | hc10 | hc10 | hc10 | hc10 | hc10 | hc10 | hc10 | hc10 | hc10
    · refine ⟨71, 80, by rw [hc10]; rfl, by decide, ?_⟩
      refine j_aload_n hX dX10_about_80 rfl 1 rfl ?_
      refine gf_X10_62 hX (by omega) (by omega) kc_0 ht (by omega) dX10_about_81 ?_
      refine gf_X10_111 hX (by omega) (by omega) (kq hq) dX10_about_84 ?_
      refine j_name hI (rq_0 hq) (fun v11 hv12 hl13 hh14 => ?_)
      have hk15 := hv12.symm
      exact hret _ _ _ _ dX10_about_87 rfl (by omega) rfl
    · refine ⟨79, 88, by rw [hc10]; rfl, by decide, ?_⟩
      refine j_aload_n hX dX10_about_88 rfl 1 rfl ?_
      refine gf_X10_62 hX (by omega) (by omega) kc_0 ht (by omega) dX10_about_89 ?_
      refine gf_X10_293 hX (by omega) (by omega) (kq hq) dX10_about_92 ?_
      refine j_name hI (rq_4 hq) (fun v16 hv17 hl18 hh19 => ?_)
      have hk20 := hv17.symm
      exact hret _ _ _ _ dX10_about_95 rfl (by omega) rfl
    · refine ⟨87, 96, by rw [hc10]; rfl, by decide, ?_⟩
      refine j_aload_n hX dX10_about_96 rfl 0 rfl ?_
      refine gf_X10_296 hX (by omega) (by omega) (sc_k0 hsw) dX10_about_97 ?_
      refine j_name hI (sc_r3 hsw) (fun v21 hv22 hl23 hh24 => ?_)
      have hk25 := hv22.symm
      exact hret _ _ _ _ dX10_about_100 rfl (by omega) rfl
    · refine ⟨92, 101, by rw [hc10]; rfl, by decide, ?_⟩
      refine j_aload_n hX dX10_about_101 rfl 0 rfl ?_
      refine gf_X10_191 hX (by omega) (by omega) (sc_k0 hsw) dX10_about_102 ?_
      refine j_name hI (sc_r4 hsw) (fun v26 hv27 hl28 hh29 => ?_)
      have hk30 := hv27.symm
      exact hret _ _ _ _ dX10_about_105 rfl (by omega) rfl
    · refine ⟨97, 106, by rw [hc10]; rfl, by decide, ?_⟩
      refine j_aload_n hX dX10_about_106 rfl 0 rfl ?_
      refine gf_X10_299 hX (by omega) (by omega) (sc_k0 hsw) dX10_about_107 ?_
      refine j_name hI (sc_r5 hsw) (fun v31 hv32 hl33 hh34 => ?_)
      have hk35 := hv32.symm
      exact hret _ _ _ _ dX10_about_110 rfl (by omega) rfl
    · refine ⟨102, 111, by rw [hc10]; rfl, by decide, ?_⟩
      refine j_aload_n hX dX10_about_111 rfl 1 rfl ?_
      refine gf_X10_62 hX (by omega) (by omega) kc_0 ht (by omega) dX10_about_112 ?_
      refine gf_X10_302 hX (by omega) (by omega) (kq hq) dX10_about_115 ?_
      refine j_name hI (rq_11 hq) (fun v36 hv37 hl38 hh39 => ?_)
      have hk40 := hv37.symm
      exact hret _ _ _ _ dX10_about_118 rfl (by omega) rfl
    · refine ⟨110, 119, by rw [hc10]; rfl, by decide, ?_⟩
      refine j_aload_n hX dX10_about_119 rfl 1 rfl ?_
      refine gf_X10_44 hX (by omega) (by omega) kc_0 (fc_0_5 hI) (by decide) dX10_about_120 ?_
      refine j_callVI hX lk_X10_305 (c_X5_aimCount _ _ _ _ _ _ (by omega) hI) (by omega) hce rfl rfl (by omega) (by omega) kc_157 rfl rfl (Nat.le_of_ble_eq_true rfl) dX10_about_123 (fun z41 M42 hz44 hp43 => ?_)
      have hE45 := hp43.symm
      subst hE45
      exact hret _ _ _ _ dX10_about_126 rfl (by omega) rfl
    · refine ⟨118, 127, by rw [hc10]; rfl, by decide, ?_⟩
      refine j_aload_n hX dX10_about_127 rfl 1 rfl ?_
      refine gf_X10_19 hX (by omega) (by omega) kc_0 (fc_0_1 hI) (by decide) dX10_about_128 ?_
      refine gf_X10_308 hX (by omega) (by omega) kc_26 dX10_about_131 ?_
      refine j_name hI ro_26_1 (fun v46 hv47 hl48 hh49 => ?_)
      have hk50 := hv47.symm
      exact hret _ _ _ _ dX10_about_134 rfl (by omega) rfl
    · refine ⟨126, 135, by rw [hc10]; rfl, by decide, ?_⟩
      refine j_aload_n hX dX10_about_135 rfl 1 rfl ?_
      refine gf_X10_19 hX (by omega) (by omega) kc_0 (fc_0_1 hI) (by decide) dX10_about_136 ?_
      refine gf_X10_311 hX (by omega) (by omega) kc_26 dX10_about_139 ?_
      refine j_name hI ro_26_2 (fun v51 hv52 hl53 hh54 => ?_)
      have hk55 := hv52.symm
      refine j_aload_n hX dX10_about_142 rfl 1 rfl ?_
      refine gf_X10_19 hX (by omega) (by omega) kc_0 (fc_0_1 hI) (by decide) dX10_about_143 ?_
      refine gf_X10_308 hX (by omega) (by omega) kc_26 dX10_about_146 ?_
      refine j_name hI ro_26_1 (fun v56 hv57 hl58 hh59 => ?_)
      have hk60 := hv57.symm
      refine j_isub hX dX10_about_149 ?_
      exact hret _ _ _ _ dX10_about_150 rfl (by omega) rfl
    · refine ⟨142, 151, by rw [hc10]; rfl, by decide, ?_⟩
      refine j_aload_n hX dX10_about_151 rfl 1 rfl ?_
      refine gf_X10_51 hX (by omega) (by omega) kc_0 (fc_0_6 hI) (by decide) dX10_about_152 ?_
      refine gf_X10_314 hX (by omega) (by omega) kc_164 dX10_about_155 ?_
      refine j_name hI ro_164_8 (fun v61 hv62 hl63 hh64 => ?_)
      have hk65 := hv62.symm
      exact hret _ _ _ _ dX10_about_158 rfl (by omega) rfl
    · refine ⟨150, 159, by rw [hc10]; rfl, by decide, ?_⟩
      refine j_aload_n hX dX10_about_159 rfl 1 rfl ?_
      refine gf_X10_73 hX (by omega) (by omega) kc_0 dX10_about_160 ?_
      refine j_name hI ro_0_11 (fun v66 hv67 hl68 hh69 => ?_)
      have hk70 := hv67.symm
      exact hret _ _ _ _ dX10_about_163 rfl (by omega) rfl
    · refine ⟨155, 164, by rw [hc10]; rfl, by decide, ?_⟩
      refine j_aload_n hX dX10_about_164 rfl 1 rfl ?_
      refine gf_X10_10 hX (by omega) (by omega) kc_0 (fc_0_0 hI) (by decide) dX10_about_165 ?_
      refine gf_X10_80 hX (by omega) (by omega) kc_1 (fc_1_0 hI) (by decide) dX10_about_168 ?_
      refine gf_X10_94 hX (by omega) (by omega) kc_2 dX10_about_171 ?_
      refine j_name hI ro_2_2 (fun v71 hv72 hl73 hh74 => ?_)
      have hk75 := hv72.symm
      exact hret _ _ _ _ dX10_about_174 rfl (by omega) rfl
    · refine ⟨166, 175, by rw [hc10]; rfl, by decide, ?_⟩
      refine j_aload_n hX dX10_about_175 rfl 1 rfl ?_
      refine gf_X10_62 hX (by omega) (by omega) kc_0 ht (by omega) dX10_about_176 ?_
      refine gf_X10_317 hX (by omega) (by omega) (kq hq) (fq_17 hI hq) (by omega) dX10_about_179 ?_
      refine gf_X10_321 hX (by omega) (by omega) (kq_15 hq) dX10_about_182 ?_
      refine j_name hI (rr_4 hq) (fun v76 hv77 hl78 hh79 => ?_)
      have hk80 := hv77.symm
      exact hret _ _ _ _ dX10_about_185 rfl (by omega) rfl
    · refine ⟨177, 186, by rw [hc10]; rfl, by decide, ?_⟩
      refine j_aload_n hX dX10_about_186 rfl 1 rfl ?_
      refine gf_X10_70 hX (by omega) (by omega) kc_0 dX10_about_187 ?_
      refine j_name hI ro_0_10 (fun v81 hv82 hl83 hh84 => ?_)
      have hk85 := hv82.symm
      exact hret _ _ _ _ dX10_about_190 rfl (by omega) rfl
set_option maxHeartbeats 2000000 in
set_option maxRecDepth 20000 in
theorem c_X10_swaps (l : Launch) (D : va_G) (cy : Nat → ClassId) (B N : Nat) (q : Int) (nr : Int) (M : MM) (hN : 210 ≤ N) (hI : Iv M) (hq : q = 5 ∨ q = 180) (ht : M.1 0 8 = q) (hnr : M.1 q 0 = nr) (hVn : Vn nr M) (hnb : 0 ≤ nr ∧ nr ≤ 6) : CI l D cy B N 4 yX10_swaps cX10_swaps 1 (some .int) [rv B 0] M (fun z M' => Iv M' ∧ Fr (fun a b => (a = 0 ∧ 10 ≤ b ∧ b ≤ 10) ∨ (158 ≤ a ∧ a ≤ 159) ∨ (161 ≤ a ∧ a ≤ 163) ∨ (a = 179)) M M') := by
  refine mk_CI (by decide) (Nat.le_of_ble_eq_true rfl) ?_
  intro X exl exD excy hnL hX hret
  have hce : 0 + 0 ≤ (xR X).cells ∧ 0 + 0 ≤ (xR X).slots := ⟨Nat.zero_le _, Nat.zero_le _⟩
  have hdq : 5 ≤ q ∧ q ≤ 180 := by omega
  have hF : Fr (fun a b => (a = 0 ∧ 10 ≤ b ∧ b ≤ 10) ∨ (158 ≤ a ∧ a ≤ 159) ∨ (161 ≤ a ∧ a ≤ 163) ∨ (a = 179)) M M := Fr.rf
  show J X B N 0 0 0 [(0, rv B 0)] [] M
  refine j_aload_n hX dX10_swaps_0 rfl 0 rfl ?_
  refine j_aload_n hX dX10_swaps_1 rfl 0 rfl ?_
  refine gf_X10_62 hX (by omega) (by omega) kc_0 ht (by omega) dX10_swaps_2 ?_
  refine gf_X10_111 hX (by omega) (by omega) (kq hq) dX10_swaps_5 ?_
  refine j_top hnr ?_
  refine pf_X10_70 hX (by omega) (by omega) kc_0 (by omega) dX10_swaps_8 ?_
  refine j_up hI ro_0_10 (by omega) (by omega) (Or.inl (by omega)) (fun M1 w2 hw3 hM4 hI5 hf6 => ?_)
  have hV7 := Vn_up hVn hI hM4 (by omega)
  have hk8 := kp_up hM4 (fun h => absurd h.2 (by decide)) ht
  have hk9 := kp_up hM4 (by omega) hnr
  have hF10 := Fr.put hF hM4 (by omega)
  refine j_aload_n hX dX10_swaps_11 rfl 0 rfl ?_
  refine gf_X10_44 hX (by omega) (by omega) kc_0 (fc_0_5 hI5) (by decide) dX10_swaps_12 ?_
  refine j_aload_n hX dX10_swaps_15 rfl 0 rfl ?_
  refine gf_X10_62 hX (by omega) (by omega) kc_0 hk8 (by omega) dX10_swaps_16 ?_
  refine j_aload_n hX dX10_swaps_19 rfl 0 rfl ?_
  refine gf_X10_19 hX (by omega) (by omega) kc_0 (fc_0_1 hI5) (by decide) dX10_swaps_20 ?_
  refine j_callVR hX lk_X10_124 (c_X0_now _ _ _ _ _ _ (by omega) hI5) (by omega) hce rfl rfl (by omega) (by omega) kc_26 rfl rfl (Nat.le_of_ble_eq_true rfl) dX10_swaps_23 (fun sw M11 hz13 hp12 => ?_)
  obtain ⟨hE14, hq15, hq16⟩ := hp12
  replace hE14 := hE14.symm
  subst hE14
  have hV17 : V nr sw M1 := by rw [hq16]; exact hV7
  have hsw : Sc sw := hq15
  have hbsw := sc_b hsw
  have hdsw : 28 ≤ sw ∧ sw ≤ 207 := by omega
  refine j_aload_n hX dX10_swaps_26 rfl 0 rfl ?_
  refine gf_X10_55 hX (by omega) (by omega) kc_0 (fc_0_7 hI5) (by decide) dX10_swaps_27 ?_
  refine j_callVI hX lk_X10_233 (c_X5_fewestSwaps _ _ _ _ _ q sw _ _ (by omega) hI5 hq hsw hk9 (by first | assumption | omega) (by first | assumption | omega)) (by omega) hce rfl rfl (by omega) (by omega) kc_157 rfl rfl (Nat.le_of_ble_eq_true rfl) dX10_swaps_30 (fun z18 M19 hz21 hp20 => ?_)
  obtain ⟨hI23, hG24⟩ := hp20
  have hV25 := Vn_fr hV7 hI5 hG24 (fun a b h => by omega)
  have hV26 := V_fr hV17 hG24 (fun b => by omega) (by omega)
  have hk27 := kp_fr hG24 (by omega) hk8
  have hk28 := kp_fr hG24 (by omega) hk9
  have hk29 := kp_fr hG24 (by omega) hf6
  clear hk8 hk9 hf6
  have hF30 := Fr.trans hF10 hG24 (fun a b h => by omega)
  exact hret _ _ _ _ dX10_swaps_33 rfl (by omega) ⟨hI23, hF30⟩
set_option maxHeartbeats 2000000 in
set_option maxRecDepth 20000 in
theorem c_X10_hide (l : Launch) (D : va_G) (cy : Nat → ClassId) (B N : Nat) (q : Int) (nr : Int) (a : Int) (b : Int) (c : Int) (M : MM) (hN : 210 ≤ N) (hI : Iv M) (hpa : I32 a) (hpb : I32 b) (hpc : I32 c) (hq : q = 5 ∨ q = 180) (ht : M.1 0 8 = q) (hnr : M.1 q 0 = nr) (hVn : Vn nr M) (hnb : 0 ≤ nr ∧ nr ≤ 6) : CI l D cy B N 6 yX10_hide cX10_hide 6 (some .int) [rv B 0, iv a, iv b, iv c] M (fun z M' => Iv M' ∧ Fr (fun a (_ : Int) => (152 ≤ a ∧ a ≤ 155)) M M') := by
  refine mk_CI (by decide) (Nat.le_of_ble_eq_true rfl) ?_
  intro X exl exD excy hnL hX hret
  have hce : 0 + 0 ≤ (xR X).cells ∧ 0 + 0 ≤ (xR X).slots := ⟨Nat.zero_le _, Nat.zero_le _⟩
  have hdq : 5 ≤ q ∧ q ≤ 180 := by omega
  have hF : Fr (fun a (_ : Int) => (152 ≤ a ∧ a ≤ 155)) M M := Fr.rf
  have hf4 := hI.at q 4 (rq_4 hq)
  show J X B N 0 0 0 [(0, rv B 0), (1, iv a), (2, iv b), (3, iv c)] [] M
  refine j_aload_n hX dX10_hide_0 rfl 0 rfl ?_
  refine gf_X10_62 hX (by omega) (by omega) kc_0 ht (by omega) dX10_hide_1 ?_
  refine j_iload_n hX dX10_hide_4 rfl 1 rfl ?_
  refine j_callVI hX lk_X10_120 (c_X6_hasRoom _ _ _ _ _ q _ _ (by omega) hI (by omega) hq) (by omega) hce rfl rfl (by omega) (by omega) (kq hq) rfl rfl (Nat.le_of_ble_eq_true rfl) dX10_hide_5 (fun z1 M2 hz4 hp3 => ?_)
  obtain ⟨hE5, hb6, hq7⟩ := hp3
  replace hE5 := hE5.symm
  subst hE5
  refine j_if_eq (tgt := 35) hX dX10_hide_8 (by decide) (by omega) (fun hc8 => ?_) (fun hc8 => ?_)
  · skip
    clear hq7
    refine j_iconst hX dX10_hide_35 ?_
    refine j_istore (lv' := [(4, _), (0, _), (1, _), (2, _), (3, _)]) hX dX10_hide_36 (by rw [hnL]; decide) rfl ?_
    refine j_iload hX dX10_hide_38 0 rfl ?_
    refine j_if_eq (tgt := 58) hX dX10_hide_40 (by decide) (by omega) (fun hc9 => ?_) (fun hc9 => ?_)
    · skip
      refine j_iconst hX dX10_hide_58 ?_
      exact hret _ _ _ _ dX10_hide_59 rfl (by omega) ⟨hI, hF⟩
    · skip
      refine j_aload_n hX dX10_hide_43 rfl 1 rfl ?_
      refine gf_X10_19 hX (by omega) (by omega) kc_0 (fc_0_1 hI) (by decide) dX10_hide_44 ?_
      refine j_callVR hX lk_X10_124 (c_X0_now _ _ _ _ _ _ (by omega) hI) (by omega) hce rfl rfl (by omega) (by omega) kc_26 rfl rfl (Nat.le_of_ble_eq_true rfl) dX10_hide_47 (fun sw M10 hz12 hp11 => ?_)
      obtain ⟨hE13, hq14, hq15⟩ := hp11
      replace hE13 := hE13.symm
      subst hE13
      have hsw : Sc sw := hq14
      have hbsw := sc_b hsw
      have hdsw : 28 ≤ sw ∧ sw ≤ 207 := by omega
      refine j_iload_n hX dX10_hide_50 rfl 2 rfl ?_
      refine j_iload_n hX dX10_hide_51 rfl 3 rfl ?_
      refine j_callVI hX lk_X10_208 (c_X8_doesKnow _ _ _ _ _ sw _ _ _ (by omega) hI (by omega) (by omega) hsw (by first | assumption | omega)) (by omega) hce rfl rfl (by omega) (by omega) (sc_k0 hsw) rfl rfl (Nat.le_of_ble_eq_true rfl) dX10_hide_52 (fun z16 M17 hz19 hp18 => ?_)
      obtain ⟨hE20, hb21⟩ := hp18
      replace hE20 := hE20.symm
      subst hE20
      refine j_if_eq (tgt := 60) hX dX10_hide_55 (by decide) (by omega) (fun hc22 => ?_) (fun hc22 => ?_)
      · skip
        refine j_aload_n hX dX10_hide_60 rfl 1 rfl ?_
        refine j_iload_n hX dX10_hide_61 rfl 2 rfl ?_
        refine j_iload_n hX dX10_hide_62 rfl 3 rfl ?_
        refine j_iconst hX dX10_hide_63 ?_
        refine j_callVI hX lk_X10_269 (c_X10_staysHidden _ _ _ _ _ _ _ _ _ _ _ (by omega) hI (by omega) (by omega) (by omega) (by assumption) ht hnr (by first | assumption | omega) (by first | assumption | omega) (by first | assumption | omega)) (by omega) hce rfl rfl (by omega) (by omega) kc_0 rfl rfl (Nat.le_of_ble_eq_true rfl) dX10_hide_64 (fun z23 M24 hz26 hp25 => ?_)
        obtain ⟨hI28, hG29, hb30⟩ := hp25
        have hV31 := Vn_fr hVn hI hG29 (fun a b h => by omega)
        have hk32 := kp_fr hG29 (by omega) ht
        have hk33 := kp_fr hG29 (by omega) hnr
        have hF34 := Fr.trans hF hG29 (fun a b h => by omega)
        refine j_if_eq (tgt := 72) hX dX10_hide_67 (by decide) (by omega) (fun hc35 => ?_) (fun hc35 => ?_)
        · skip
          refine j_iconst hX dX10_hide_72 ?_
          refine j_aload_n hX dX10_hide_73 rfl 1 rfl ?_
          refine gf_X10_62 hX (by omega) (by omega) kc_0 hk32 (by omega) dX10_hide_74 ?_
          refine gf_X10_156 hX (by omega) (by omega) (kq hq) (fq_6 hI28 hq) (by omega) dX10_hide_77 ?_
          refine j_iload_n hX dX10_hide_80 rfl 3 rfl ?_
          refine j_iald hX (by omega) (by omega) (kq_4 hq) (by omega) (by omega) (by omega) dX10_hide_81 ?_
          refine j_name hI28 (aq_4 hq _) (fun v36 hv37 hl38 hh39 => ?_)
          refine j_ishl hX dX10_hide_82 (fun z40 hz41 hy42 => ?_)
          refine j_istore (lv' := [(5, _), (4, _), (0, _), (1, _), (2, _), (3, _)]) hX dX10_hide_83 (by rw [hnL]; decide) rfl ?_
          refine j_aload_n hX dX10_hide_85 rfl 2 rfl ?_
          refine gf_X10_19 hX (by omega) (by omega) kc_0 (fc_0_1 hI28) (by decide) dX10_hide_86 ?_
          refine j_callVR hX lk_X10_124 (c_X0_now _ _ _ _ _ _ (by omega) hI28) (by omega) hce rfl rfl (by omega) (by omega) kc_26 rfl rfl (Nat.le_of_ble_eq_true rfl) dX10_hide_89 (fun sx M43 hz45 hp44 => ?_)
          obtain ⟨hE46, hq47, hq48⟩ := hp44
          replace hE46 := hE46.symm
          subst hE46
          have hsx : Sc sx := hq47
          have hbsx := sc_b hsx
          have hdsx : 28 ≤ sx ∧ sx ≤ 207 := by omega
          refine gf_X10_178 hX (by omega) (by omega) (sc_k0 hsx) dX10_hide_92 ?_
          refine j_name hI28 (sc_r2 hsx) (fun v49 hv50 hl51 hh52 => ?_)
          have hk53 := hv50.symm
          refine j_iload hX dX10_hide_95 0 rfl ?_
          refine j_iand hX dX10_hide_97 (fun z54 hz55 hy56 => ?_)
          refine j_if_ne (tgt := 123) hX dX10_hide_98 (by decide) (by omega) (fun hc57 => ?_) (fun hc57 => ?_)
          · skip
            refine j_iconst hX dX10_hide_123 ?_
            exact hret _ _ _ _ dX10_hide_124 rfl (by omega) ⟨hI28, hF34⟩
          · skip
            refine j_aload_n hX dX10_hide_101 rfl 2 rfl ?_
            refine j_iload_n hX dX10_hide_102 rfl 3 rfl ?_
            refine j_iload_n hX dX10_hide_103 rfl 4 rfl ?_
            refine j_iload hX dX10_hide_104 0 rfl ?_
            refine j_callVI hX lk_X10_269 (c_X10_staysHidden _ _ _ _ _ _ _ _ _ _ _ (by omega) hI28 (by omega) (by omega) (by omega) (by assumption) hk32 hk33 (by first | assumption | omega) (by first | assumption | omega) (by first | assumption | omega)) (by omega) hce rfl rfl (by omega) (by omega) kc_0 rfl rfl (Nat.le_of_ble_eq_true rfl) dX10_hide_106 (fun z58 M59 hz61 hp60 => ?_)
            obtain ⟨hI63, hG64, hb65⟩ := hp60
            have hV66 := Vn_fr hV31 hI28 hG64 (fun a b h => by omega)
            have hk67 := kp_fr hG64 (by omega) hk32
            have hk68 := kp_fr hG64 (by omega) hk33
            clear hk32 hk33 hk53
            have hF69 := Fr.trans hF34 hG64 (fun a b h => by omega)
            refine j_if_eq (tgt := 123) hX dX10_hide_109 (by decide) (by omega) (fun hc70 => ?_) (fun hc70 => ?_)
            · skip
              refine j_iconst hX dX10_hide_123 ?_
              exact hret _ _ _ _ dX10_hide_124 rfl (by omega) ⟨hI63, hF69⟩
            · skip
              refine j_iload_n hX dX10_hide_112 rfl 5 rfl ?_
              refine j_if_ne (tgt := 120) hX dX10_hide_113 (by decide) (by omega) (fun hc71 => ?_) (fun hc71 => ?_)
              · skip
                refine j_iload hX dX10_hide_120 0 rfl ?_
                exact hret _ _ _ _ dX10_hide_122 rfl (by omega) ⟨hI63, hF69⟩
              · skip
                refine j_iconst hX dX10_hide_116 ?_
                refine j_goto (tgt := 122) hX dX10_hide_117 (by decide) ?_
                exact hret _ _ _ _ dX10_hide_122 rfl (by omega) ⟨hI63, hF69⟩
        · skip
          refine j_iconst hX dX10_hide_70 ?_
          exact hret _ _ _ _ dX10_hide_71 rfl (by omega) ⟨hI28, hF34⟩
      · skip
        refine j_iconst hX dX10_hide_58 ?_
        exact hret _ _ _ _ dX10_hide_59 rfl (by omega) ⟨hI, hF⟩
  · skip
    have hi72 := hq7 (by omega)
    clear hq7
    refine j_aload_n hX dX10_hide_11 rfl 0 rfl ?_
    refine gf_X10_62 hX (by omega) (by omega) kc_0 ht (by omega) dX10_hide_12 ?_
    refine j_iload_n hX dX10_hide_15 rfl 2 rfl ?_
    refine j_callVI hX lk_X10_153 (c_X6_hasFact _ _ _ _ _ q _ _ (by omega) hI (by omega) hq) (by omega) hce rfl rfl (by omega) (by omega) (kq hq) rfl rfl (Nat.le_of_ble_eq_true rfl) dX10_hide_16 (fun z73 M74 hz76 hp75 => ?_)
    obtain ⟨hE77, hb78, hq79⟩ := hp75
    replace hE77 := hE77.symm
    subst hE77
    refine j_if_eq (tgt := 35) hX dX10_hide_19 (by decide) (by omega) (fun hc80 => ?_) (fun hc80 => ?_)
    · skip
      clear hq79
      refine j_iconst hX dX10_hide_35 ?_
      refine j_istore (lv' := [(4, _), (0, _), (1, _), (2, _), (3, _)]) hX dX10_hide_36 (by rw [hnL]; decide) rfl ?_
      refine j_iload hX dX10_hide_38 0 rfl ?_
      refine j_if_eq (tgt := 58) hX dX10_hide_40 (by decide) (by omega) (fun hc81 => ?_) (fun hc81 => ?_)
      · skip
        refine j_iconst hX dX10_hide_58 ?_
        exact hret _ _ _ _ dX10_hide_59 rfl (by omega) ⟨hI, hF⟩
      · skip
        refine j_aload_n hX dX10_hide_43 rfl 1 rfl ?_
        refine gf_X10_19 hX (by omega) (by omega) kc_0 (fc_0_1 hI) (by decide) dX10_hide_44 ?_
        refine j_callVR hX lk_X10_124 (c_X0_now _ _ _ _ _ _ (by omega) hI) (by omega) hce rfl rfl (by omega) (by omega) kc_26 rfl rfl (Nat.le_of_ble_eq_true rfl) dX10_hide_47 (fun sw M82 hz84 hp83 => ?_)
        obtain ⟨hE85, hq86, hq87⟩ := hp83
        replace hE85 := hE85.symm
        subst hE85
        have hsw : Sc sw := hq86
        have hbsw := sc_b hsw
        have hdsw : 28 ≤ sw ∧ sw ≤ 207 := by omega
        refine j_iload_n hX dX10_hide_50 rfl 2 rfl ?_
        refine j_iload_n hX dX10_hide_51 rfl 3 rfl ?_
        refine j_callVI hX lk_X10_208 (c_X8_doesKnow _ _ _ _ _ sw _ _ _ (by omega) hI (by omega) (by omega) hsw (by first | assumption | omega)) (by omega) hce rfl rfl (by omega) (by omega) (sc_k0 hsw) rfl rfl (Nat.le_of_ble_eq_true rfl) dX10_hide_52 (fun z88 M89 hz91 hp90 => ?_)
        obtain ⟨hE92, hb93⟩ := hp90
        replace hE92 := hE92.symm
        subst hE92
        refine j_if_eq (tgt := 60) hX dX10_hide_55 (by decide) (by omega) (fun hc94 => ?_) (fun hc94 => ?_)
        · skip
          refine j_aload_n hX dX10_hide_60 rfl 1 rfl ?_
          refine j_iload_n hX dX10_hide_61 rfl 2 rfl ?_
          refine j_iload_n hX dX10_hide_62 rfl 3 rfl ?_
          refine j_iconst hX dX10_hide_63 ?_
          refine j_callVI hX lk_X10_269 (c_X10_staysHidden _ _ _ _ _ _ _ _ _ _ _ (by omega) hI (by omega) (by omega) (by omega) (by assumption) ht hnr (by first | assumption | omega) (by first | assumption | omega) (by first | assumption | omega)) (by omega) hce rfl rfl (by omega) (by omega) kc_0 rfl rfl (Nat.le_of_ble_eq_true rfl) dX10_hide_64 (fun z95 M96 hz98 hp97 => ?_)
          obtain ⟨hI100, hG101, hb102⟩ := hp97
          have hV103 := Vn_fr hVn hI hG101 (fun a b h => by omega)
          have hk104 := kp_fr hG101 (by omega) ht
          have hk105 := kp_fr hG101 (by omega) hnr
          have hF106 := Fr.trans hF hG101 (fun a b h => by omega)
          refine j_if_eq (tgt := 72) hX dX10_hide_67 (by decide) (by omega) (fun hc107 => ?_) (fun hc107 => ?_)
          · skip
            refine j_iconst hX dX10_hide_72 ?_
            refine j_aload_n hX dX10_hide_73 rfl 1 rfl ?_
            refine gf_X10_62 hX (by omega) (by omega) kc_0 hk104 (by omega) dX10_hide_74 ?_
            refine gf_X10_156 hX (by omega) (by omega) (kq hq) (fq_6 hI100 hq) (by omega) dX10_hide_77 ?_
            refine j_iload_n hX dX10_hide_80 rfl 3 rfl ?_
            refine j_iald hX (by omega) (by omega) (kq_4 hq) (by omega) (by omega) (by omega) dX10_hide_81 ?_
            refine j_name hI100 (aq_4 hq _) (fun v108 hv109 hl110 hh111 => ?_)
            refine j_ishl hX dX10_hide_82 (fun z112 hz113 hy114 => ?_)
            refine j_istore (lv' := [(5, _), (4, _), (0, _), (1, _), (2, _), (3, _)]) hX dX10_hide_83 (by rw [hnL]; decide) rfl ?_
            refine j_aload_n hX dX10_hide_85 rfl 2 rfl ?_
            refine gf_X10_19 hX (by omega) (by omega) kc_0 (fc_0_1 hI100) (by decide) dX10_hide_86 ?_
            refine j_callVR hX lk_X10_124 (c_X0_now _ _ _ _ _ _ (by omega) hI100) (by omega) hce rfl rfl (by omega) (by omega) kc_26 rfl rfl (Nat.le_of_ble_eq_true rfl) dX10_hide_89 (fun sx M115 hz117 hp116 => ?_)
            obtain ⟨hE118, hq119, hq120⟩ := hp116
            replace hE118 := hE118.symm
            subst hE118
            have hsx : Sc sx := hq119
            have hbsx := sc_b hsx
            have hdsx : 28 ≤ sx ∧ sx ≤ 207 := by omega
            refine gf_X10_178 hX (by omega) (by omega) (sc_k0 hsx) dX10_hide_92 ?_
            refine j_name hI100 (sc_r2 hsx) (fun v121 hv122 hl123 hh124 => ?_)
            have hk125 := hv122.symm
            refine j_iload hX dX10_hide_95 0 rfl ?_
            refine j_iand hX dX10_hide_97 (fun z126 hz127 hy128 => ?_)
            refine j_if_ne (tgt := 123) hX dX10_hide_98 (by decide) (by omega) (fun hc129 => ?_) (fun hc129 => ?_)
            · skip
              refine j_iconst hX dX10_hide_123 ?_
              exact hret _ _ _ _ dX10_hide_124 rfl (by omega) ⟨hI100, hF106⟩
            · skip
              refine j_aload_n hX dX10_hide_101 rfl 2 rfl ?_
              refine j_iload_n hX dX10_hide_102 rfl 3 rfl ?_
              refine j_iload_n hX dX10_hide_103 rfl 4 rfl ?_
              refine j_iload hX dX10_hide_104 0 rfl ?_
              refine j_callVI hX lk_X10_269 (c_X10_staysHidden _ _ _ _ _ _ _ _ _ _ _ (by omega) hI100 (by omega) (by omega) (by omega) (by assumption) hk104 hk105 (by first | assumption | omega) (by first | assumption | omega) (by first | assumption | omega)) (by omega) hce rfl rfl (by omega) (by omega) kc_0 rfl rfl (Nat.le_of_ble_eq_true rfl) dX10_hide_106 (fun z130 M131 hz133 hp132 => ?_)
              obtain ⟨hI135, hG136, hb137⟩ := hp132
              have hV138 := Vn_fr hV103 hI100 hG136 (fun a b h => by omega)
              have hk139 := kp_fr hG136 (by omega) hk104
              have hk140 := kp_fr hG136 (by omega) hk105
              clear hk104 hk105 hk125
              have hF141 := Fr.trans hF106 hG136 (fun a b h => by omega)
              refine j_if_eq (tgt := 123) hX dX10_hide_109 (by decide) (by omega) (fun hc142 => ?_) (fun hc142 => ?_)
              · skip
                refine j_iconst hX dX10_hide_123 ?_
                exact hret _ _ _ _ dX10_hide_124 rfl (by omega) ⟨hI135, hF141⟩
              · skip
                refine j_iload_n hX dX10_hide_112 rfl 5 rfl ?_
                refine j_if_ne (tgt := 120) hX dX10_hide_113 (by decide) (by omega) (fun hc143 => ?_) (fun hc143 => ?_)
                · skip
                  refine j_iload hX dX10_hide_120 0 rfl ?_
                  exact hret _ _ _ _ dX10_hide_122 rfl (by omega) ⟨hI135, hF141⟩
                · skip
                  refine j_iconst hX dX10_hide_116 ?_
                  refine j_goto (tgt := 122) hX dX10_hide_117 (by decide) ?_
                  exact hret _ _ _ _ dX10_hide_122 rfl (by omega) ⟨hI135, hF141⟩
          · skip
            refine j_iconst hX dX10_hide_70 ?_
            exact hret _ _ _ _ dX10_hide_71 rfl (by omega) ⟨hI100, hF106⟩
        · skip
          refine j_iconst hX dX10_hide_58 ?_
          exact hret _ _ _ _ dX10_hide_59 rfl (by omega) ⟨hI, hF⟩
    · skip
      have hi144 := hq79 (by omega)
      clear hq79
      refine j_iload_n hX dX10_hide_22 rfl 3 rfl ?_
      refine j_if_lt (tgt := 35) hX dX10_hide_23 (by decide) (by omega) (fun hc145 => ?_) (fun hc145 => ?_)
      · skip
        refine j_iconst hX dX10_hide_35 ?_
        refine j_istore (lv' := [(4, _), (0, _), (1, _), (2, _), (3, _)]) hX dX10_hide_36 (by rw [hnL]; decide) rfl ?_
        refine j_iload hX dX10_hide_38 0 rfl ?_
        refine j_if_eq (tgt := 58) hX dX10_hide_40 (by decide) (by omega) (fun hc146 => ?_) (fun hc146 => ?_)
        · skip
          refine j_iconst hX dX10_hide_58 ?_
          exact hret _ _ _ _ dX10_hide_59 rfl (by omega) ⟨hI, hF⟩
        · skip
          refine j_aload_n hX dX10_hide_43 rfl 1 rfl ?_
          refine gf_X10_19 hX (by omega) (by omega) kc_0 (fc_0_1 hI) (by decide) dX10_hide_44 ?_
          refine j_callVR hX lk_X10_124 (c_X0_now _ _ _ _ _ _ (by omega) hI) (by omega) hce rfl rfl (by omega) (by omega) kc_26 rfl rfl (Nat.le_of_ble_eq_true rfl) dX10_hide_47 (fun sw M147 hz149 hp148 => ?_)
          obtain ⟨hE150, hq151, hq152⟩ := hp148
          replace hE150 := hE150.symm
          subst hE150
          have hsw : Sc sw := hq151
          have hbsw := sc_b hsw
          have hdsw : 28 ≤ sw ∧ sw ≤ 207 := by omega
          refine j_iload_n hX dX10_hide_50 rfl 2 rfl ?_
          refine j_iload_n hX dX10_hide_51 rfl 3 rfl ?_
          refine j_callVI hX lk_X10_208 (c_X8_doesKnow _ _ _ _ _ sw _ _ _ (by omega) hI (by omega) (by omega) hsw (by first | assumption | omega)) (by omega) hce rfl rfl (by omega) (by omega) (sc_k0 hsw) rfl rfl (Nat.le_of_ble_eq_true rfl) dX10_hide_52 (fun z153 M154 hz156 hp155 => ?_)
          obtain ⟨hE157, hb158⟩ := hp155
          replace hE157 := hE157.symm
          subst hE157
          refine j_if_eq (tgt := 60) hX dX10_hide_55 (by decide) (by omega) (fun hc159 => ?_) (fun hc159 => ?_)
          · skip
            refine j_aload_n hX dX10_hide_60 rfl 1 rfl ?_
            refine j_iload_n hX dX10_hide_61 rfl 2 rfl ?_
            refine j_iload_n hX dX10_hide_62 rfl 3 rfl ?_
            refine j_iconst hX dX10_hide_63 ?_
            refine j_callVI hX lk_X10_269 (c_X10_staysHidden _ _ _ _ _ _ _ _ _ _ _ (by omega) hI (by omega) (by omega) (by omega) (by assumption) ht hnr (by first | assumption | omega) (by first | assumption | omega) (by first | assumption | omega)) (by omega) hce rfl rfl (by omega) (by omega) kc_0 rfl rfl (Nat.le_of_ble_eq_true rfl) dX10_hide_64 (fun z160 M161 hz163 hp162 => ?_)
            obtain ⟨hI165, hG166, hb167⟩ := hp162
            have hV168 := Vn_fr hVn hI hG166 (fun a b h => by omega)
            have hk169 := kp_fr hG166 (by omega) ht
            have hk170 := kp_fr hG166 (by omega) hnr
            have hF171 := Fr.trans hF hG166 (fun a b h => by omega)
            refine j_if_eq (tgt := 72) hX dX10_hide_67 (by decide) (by omega) (fun hc172 => ?_) (fun hc172 => ?_)
            · skip
              refine j_iconst hX dX10_hide_72 ?_
              refine j_aload_n hX dX10_hide_73 rfl 1 rfl ?_
              refine gf_X10_62 hX (by omega) (by omega) kc_0 hk169 (by omega) dX10_hide_74 ?_
              refine gf_X10_156 hX (by omega) (by omega) (kq hq) (fq_6 hI165 hq) (by omega) dX10_hide_77 ?_
              refine j_iload_n hX dX10_hide_80 rfl 3 rfl ?_
              refine j_iald hX (by omega) (by omega) (kq_4 hq) (by omega) (by omega) (by omega) dX10_hide_81 ?_
              refine j_name hI165 (aq_4 hq _) (fun v173 hv174 hl175 hh176 => ?_)
              refine j_ishl hX dX10_hide_82 (fun z177 hz178 hy179 => ?_)
              refine j_istore (lv' := [(5, _), (4, _), (0, _), (1, _), (2, _), (3, _)]) hX dX10_hide_83 (by rw [hnL]; decide) rfl ?_
              refine j_aload_n hX dX10_hide_85 rfl 2 rfl ?_
              refine gf_X10_19 hX (by omega) (by omega) kc_0 (fc_0_1 hI165) (by decide) dX10_hide_86 ?_
              refine j_callVR hX lk_X10_124 (c_X0_now _ _ _ _ _ _ (by omega) hI165) (by omega) hce rfl rfl (by omega) (by omega) kc_26 rfl rfl (Nat.le_of_ble_eq_true rfl) dX10_hide_89 (fun sx M180 hz182 hp181 => ?_)
              obtain ⟨hE183, hq184, hq185⟩ := hp181
              replace hE183 := hE183.symm
              subst hE183
              have hsx : Sc sx := hq184
              have hbsx := sc_b hsx
              have hdsx : 28 ≤ sx ∧ sx ≤ 207 := by omega
              refine gf_X10_178 hX (by omega) (by omega) (sc_k0 hsx) dX10_hide_92 ?_
              refine j_name hI165 (sc_r2 hsx) (fun v186 hv187 hl188 hh189 => ?_)
              have hk190 := hv187.symm
              refine j_iload hX dX10_hide_95 0 rfl ?_
              refine j_iand hX dX10_hide_97 (fun z191 hz192 hy193 => ?_)
              refine j_if_ne (tgt := 123) hX dX10_hide_98 (by decide) (by omega) (fun hc194 => ?_) (fun hc194 => ?_)
              · skip
                refine j_iconst hX dX10_hide_123 ?_
                exact hret _ _ _ _ dX10_hide_124 rfl (by omega) ⟨hI165, hF171⟩
              · skip
                refine j_aload_n hX dX10_hide_101 rfl 2 rfl ?_
                refine j_iload_n hX dX10_hide_102 rfl 3 rfl ?_
                refine j_iload_n hX dX10_hide_103 rfl 4 rfl ?_
                refine j_iload hX dX10_hide_104 0 rfl ?_
                refine j_callVI hX lk_X10_269 (c_X10_staysHidden _ _ _ _ _ _ _ _ _ _ _ (by omega) hI165 (by omega) (by omega) (by omega) (by assumption) hk169 hk170 (by first | assumption | omega) (by first | assumption | omega) (by first | assumption | omega)) (by omega) hce rfl rfl (by omega) (by omega) kc_0 rfl rfl (Nat.le_of_ble_eq_true rfl) dX10_hide_106 (fun z195 M196 hz198 hp197 => ?_)
                obtain ⟨hI200, hG201, hb202⟩ := hp197
                have hV203 := Vn_fr hV168 hI165 hG201 (fun a b h => by omega)
                have hk204 := kp_fr hG201 (by omega) hk169
                have hk205 := kp_fr hG201 (by omega) hk170
                clear hk169 hk170 hk190
                have hF206 := Fr.trans hF171 hG201 (fun a b h => by omega)
                refine j_if_eq (tgt := 123) hX dX10_hide_109 (by decide) (by omega) (fun hc207 => ?_) (fun hc207 => ?_)
                · skip
                  refine j_iconst hX dX10_hide_123 ?_
                  exact hret _ _ _ _ dX10_hide_124 rfl (by omega) ⟨hI200, hF206⟩
                · skip
                  refine j_iload_n hX dX10_hide_112 rfl 5 rfl ?_
                  refine j_if_ne (tgt := 120) hX dX10_hide_113 (by decide) (by omega) (fun hc208 => ?_) (fun hc208 => ?_)
                  · skip
                    refine j_iload hX dX10_hide_120 0 rfl ?_
                    exact hret _ _ _ _ dX10_hide_122 rfl (by omega) ⟨hI200, hF206⟩
                  · skip
                    refine j_iconst hX dX10_hide_116 ?_
                    refine j_goto (tgt := 122) hX dX10_hide_117 (by decide) ?_
                    exact hret _ _ _ _ dX10_hide_122 rfl (by omega) ⟨hI200, hF206⟩
            · skip
              refine j_iconst hX dX10_hide_70 ?_
              exact hret _ _ _ _ dX10_hide_71 rfl (by omega) ⟨hI165, hF171⟩
          · skip
            refine j_iconst hX dX10_hide_58 ?_
            exact hret _ _ _ _ dX10_hide_59 rfl (by omega) ⟨hI, hF⟩
      · skip
        refine j_iload_n hX dX10_hide_26 rfl 3 rfl ?_
        refine j_iconst hX dX10_hide_27 ?_
        refine j_icmp_gt (tgt := 35) hX dX10_hide_28 (by decide) (by omega) (by omega) (fun hc209 => ?_) (fun hc209 => ?_)
        · skip
          refine j_iconst hX dX10_hide_35 ?_
          refine j_istore (lv' := [(4, _), (0, _), (1, _), (2, _), (3, _)]) hX dX10_hide_36 (by rw [hnL]; decide) rfl ?_
          refine j_iload hX dX10_hide_38 0 rfl ?_
          refine j_if_eq (tgt := 58) hX dX10_hide_40 (by decide) (by omega) (fun hc210 => ?_) (fun hc210 => ?_)
          · skip
            refine j_iconst hX dX10_hide_58 ?_
            exact hret _ _ _ _ dX10_hide_59 rfl (by omega) ⟨hI, hF⟩
          · skip
            refine j_aload_n hX dX10_hide_43 rfl 1 rfl ?_
            refine gf_X10_19 hX (by omega) (by omega) kc_0 (fc_0_1 hI) (by decide) dX10_hide_44 ?_
            refine j_callVR hX lk_X10_124 (c_X0_now _ _ _ _ _ _ (by omega) hI) (by omega) hce rfl rfl (by omega) (by omega) kc_26 rfl rfl (Nat.le_of_ble_eq_true rfl) dX10_hide_47 (fun sw M211 hz213 hp212 => ?_)
            obtain ⟨hE214, hq215, hq216⟩ := hp212
            replace hE214 := hE214.symm
            subst hE214
            have hsw : Sc sw := hq215
            have hbsw := sc_b hsw
            have hdsw : 28 ≤ sw ∧ sw ≤ 207 := by omega
            refine j_iload_n hX dX10_hide_50 rfl 2 rfl ?_
            refine j_iload_n hX dX10_hide_51 rfl 3 rfl ?_
            refine j_callVI hX lk_X10_208 (c_X8_doesKnow _ _ _ _ _ sw _ _ _ (by omega) hI (by omega) (by omega) hsw (by first | assumption | omega)) (by omega) hce rfl rfl (by omega) (by omega) (sc_k0 hsw) rfl rfl (Nat.le_of_ble_eq_true rfl) dX10_hide_52 (fun z217 M218 hz220 hp219 => ?_)
            obtain ⟨hE221, hb222⟩ := hp219
            replace hE221 := hE221.symm
            subst hE221
            refine j_if_eq (tgt := 60) hX dX10_hide_55 (by decide) (by omega) (fun hc223 => ?_) (fun hc223 => ?_)
            · skip
              refine j_aload_n hX dX10_hide_60 rfl 1 rfl ?_
              refine j_iload_n hX dX10_hide_61 rfl 2 rfl ?_
              refine j_iload_n hX dX10_hide_62 rfl 3 rfl ?_
              refine j_iconst hX dX10_hide_63 ?_
              refine j_callVI hX lk_X10_269 (c_X10_staysHidden _ _ _ _ _ _ _ _ _ _ _ (by omega) hI (by omega) (by omega) (by omega) (by assumption) ht hnr (by first | assumption | omega) (by first | assumption | omega) (by first | assumption | omega)) (by omega) hce rfl rfl (by omega) (by omega) kc_0 rfl rfl (Nat.le_of_ble_eq_true rfl) dX10_hide_64 (fun z224 M225 hz227 hp226 => ?_)
              obtain ⟨hI229, hG230, hb231⟩ := hp226
              have hV232 := Vn_fr hVn hI hG230 (fun a b h => by omega)
              have hk233 := kp_fr hG230 (by omega) ht
              have hk234 := kp_fr hG230 (by omega) hnr
              have hF235 := Fr.trans hF hG230 (fun a b h => by omega)
              refine j_if_eq (tgt := 72) hX dX10_hide_67 (by decide) (by omega) (fun hc236 => ?_) (fun hc236 => ?_)
              · skip
                refine j_iconst hX dX10_hide_72 ?_
                refine j_aload_n hX dX10_hide_73 rfl 1 rfl ?_
                refine gf_X10_62 hX (by omega) (by omega) kc_0 hk233 (by omega) dX10_hide_74 ?_
                refine gf_X10_156 hX (by omega) (by omega) (kq hq) (fq_6 hI229 hq) (by omega) dX10_hide_77 ?_
                refine j_iload_n hX dX10_hide_80 rfl 3 rfl ?_
                refine j_iald hX (by omega) (by omega) (kq_4 hq) (by omega) (by omega) (by omega) dX10_hide_81 ?_
                refine j_name hI229 (aq_4 hq _) (fun v237 hv238 hl239 hh240 => ?_)
                refine j_ishl hX dX10_hide_82 (fun z241 hz242 hy243 => ?_)
                refine j_istore (lv' := [(5, _), (4, _), (0, _), (1, _), (2, _), (3, _)]) hX dX10_hide_83 (by rw [hnL]; decide) rfl ?_
                refine j_aload_n hX dX10_hide_85 rfl 2 rfl ?_
                refine gf_X10_19 hX (by omega) (by omega) kc_0 (fc_0_1 hI229) (by decide) dX10_hide_86 ?_
                refine j_callVR hX lk_X10_124 (c_X0_now _ _ _ _ _ _ (by omega) hI229) (by omega) hce rfl rfl (by omega) (by omega) kc_26 rfl rfl (Nat.le_of_ble_eq_true rfl) dX10_hide_89 (fun sx M244 hz246 hp245 => ?_)
                obtain ⟨hE247, hq248, hq249⟩ := hp245
                replace hE247 := hE247.symm
                subst hE247
                have hsx : Sc sx := hq248
                have hbsx := sc_b hsx
                have hdsx : 28 ≤ sx ∧ sx ≤ 207 := by omega
                refine gf_X10_178 hX (by omega) (by omega) (sc_k0 hsx) dX10_hide_92 ?_
                refine j_name hI229 (sc_r2 hsx) (fun v250 hv251 hl252 hh253 => ?_)
                have hk254 := hv251.symm
                refine j_iload hX dX10_hide_95 0 rfl ?_
                refine j_iand hX dX10_hide_97 (fun z255 hz256 hy257 => ?_)
                refine j_if_ne (tgt := 123) hX dX10_hide_98 (by decide) (by omega) (fun hc258 => ?_) (fun hc258 => ?_)
                · skip
                  refine j_iconst hX dX10_hide_123 ?_
                  exact hret _ _ _ _ dX10_hide_124 rfl (by omega) ⟨hI229, hF235⟩
                · skip
                  refine j_aload_n hX dX10_hide_101 rfl 2 rfl ?_
                  refine j_iload_n hX dX10_hide_102 rfl 3 rfl ?_
                  refine j_iload_n hX dX10_hide_103 rfl 4 rfl ?_
                  refine j_iload hX dX10_hide_104 0 rfl ?_
                  refine j_callVI hX lk_X10_269 (c_X10_staysHidden _ _ _ _ _ _ _ _ _ _ _ (by omega) hI229 (by omega) (by omega) (by omega) (by assumption) hk233 hk234 (by first | assumption | omega) (by first | assumption | omega) (by first | assumption | omega)) (by omega) hce rfl rfl (by omega) (by omega) kc_0 rfl rfl (Nat.le_of_ble_eq_true rfl) dX10_hide_106 (fun z259 M260 hz262 hp261 => ?_)
                  obtain ⟨hI264, hG265, hb266⟩ := hp261
                  have hV267 := Vn_fr hV232 hI229 hG265 (fun a b h => by omega)
                  have hk268 := kp_fr hG265 (by omega) hk233
                  have hk269 := kp_fr hG265 (by omega) hk234
                  clear hk233 hk234 hk254
                  have hF270 := Fr.trans hF235 hG265 (fun a b h => by omega)
                  refine j_if_eq (tgt := 123) hX dX10_hide_109 (by decide) (by omega) (fun hc271 => ?_) (fun hc271 => ?_)
                  · skip
                    refine j_iconst hX dX10_hide_123 ?_
                    exact hret _ _ _ _ dX10_hide_124 rfl (by omega) ⟨hI264, hF270⟩
                  · skip
                    refine j_iload_n hX dX10_hide_112 rfl 5 rfl ?_
                    refine j_if_ne (tgt := 120) hX dX10_hide_113 (by decide) (by omega) (fun hc272 => ?_) (fun hc272 => ?_)
                    · skip
                      refine j_iload hX dX10_hide_120 0 rfl ?_
                      exact hret _ _ _ _ dX10_hide_122 rfl (by omega) ⟨hI264, hF270⟩
                    · skip
                      refine j_iconst hX dX10_hide_116 ?_
                      refine j_goto (tgt := 122) hX dX10_hide_117 (by decide) ?_
                      exact hret _ _ _ _ dX10_hide_122 rfl (by omega) ⟨hI264, hF270⟩
              · skip
                refine j_iconst hX dX10_hide_70 ?_
                exact hret _ _ _ _ dX10_hide_71 rfl (by omega) ⟨hI229, hF235⟩
            · skip
              refine j_iconst hX dX10_hide_58 ?_
              exact hret _ _ _ _ dX10_hide_59 rfl (by omega) ⟨hI, hF⟩
        · skip
          refine j_iconst hX dX10_hide_31 ?_
          refine j_goto (tgt := 36) hX dX10_hide_32 (by decide) ?_
          refine j_istore (lv' := [(4, _), (0, _), (1, _), (2, _), (3, _)]) hX dX10_hide_36 (by rw [hnL]; decide) rfl ?_
          refine j_iload hX dX10_hide_38 0 rfl ?_
          refine j_if_eq (tgt := 58) hX dX10_hide_40 (by decide) (by omega) (fun hc273 => ?_) (fun hc273 => ?_)
          · skip
            refine j_iconst hX dX10_hide_58 ?_
            exact hret _ _ _ _ dX10_hide_59 rfl (by omega) ⟨hI, hF⟩
          · skip
            refine j_aload_n hX dX10_hide_43 rfl 1 rfl ?_
            refine gf_X10_19 hX (by omega) (by omega) kc_0 (fc_0_1 hI) (by decide) dX10_hide_44 ?_
            refine j_callVR hX lk_X10_124 (c_X0_now _ _ _ _ _ _ (by omega) hI) (by omega) hce rfl rfl (by omega) (by omega) kc_26 rfl rfl (Nat.le_of_ble_eq_true rfl) dX10_hide_47 (fun sw M274 hz276 hp275 => ?_)
            obtain ⟨hE277, hq278, hq279⟩ := hp275
            replace hE277 := hE277.symm
            subst hE277
            have hsw : Sc sw := hq278
            have hbsw := sc_b hsw
            have hdsw : 28 ≤ sw ∧ sw ≤ 207 := by omega
            refine j_iload_n hX dX10_hide_50 rfl 2 rfl ?_
            refine j_iload_n hX dX10_hide_51 rfl 3 rfl ?_
            refine j_callVI hX lk_X10_208 (c_X8_doesKnow _ _ _ _ _ sw _ _ _ (by omega) hI (by omega) (by omega) hsw (by first | assumption | omega)) (by omega) hce rfl rfl (by omega) (by omega) (sc_k0 hsw) rfl rfl (Nat.le_of_ble_eq_true rfl) dX10_hide_52 (fun z280 M281 hz283 hp282 => ?_)
            obtain ⟨hE284, hb285⟩ := hp282
            replace hE284 := hE284.symm
            subst hE284
            refine j_if_eq (tgt := 60) hX dX10_hide_55 (by decide) (by omega) (fun hc286 => ?_) (fun hc286 => ?_)
            · skip
              refine j_aload_n hX dX10_hide_60 rfl 1 rfl ?_
              refine j_iload_n hX dX10_hide_61 rfl 2 rfl ?_
              refine j_iload_n hX dX10_hide_62 rfl 3 rfl ?_
              refine j_iconst hX dX10_hide_63 ?_
              refine j_callVI hX lk_X10_269 (c_X10_staysHidden _ _ _ _ _ _ _ _ _ _ _ (by omega) hI (by omega) (by omega) (by omega) (by assumption) ht hnr (by first | assumption | omega) (by first | assumption | omega) (by first | assumption | omega)) (by omega) hce rfl rfl (by omega) (by omega) kc_0 rfl rfl (Nat.le_of_ble_eq_true rfl) dX10_hide_64 (fun z287 M288 hz290 hp289 => ?_)
              obtain ⟨hI292, hG293, hb294⟩ := hp289
              have hV295 := Vn_fr hVn hI hG293 (fun a b h => by omega)
              have hk296 := kp_fr hG293 (by omega) ht
              have hk297 := kp_fr hG293 (by omega) hnr
              have hF298 := Fr.trans hF hG293 (fun a b h => by omega)
              refine j_if_eq (tgt := 72) hX dX10_hide_67 (by decide) (by omega) (fun hc299 => ?_) (fun hc299 => ?_)
              · skip
                refine j_iconst hX dX10_hide_72 ?_
                refine j_aload_n hX dX10_hide_73 rfl 1 rfl ?_
                refine gf_X10_62 hX (by omega) (by omega) kc_0 hk296 (by omega) dX10_hide_74 ?_
                refine gf_X10_156 hX (by omega) (by omega) (kq hq) (fq_6 hI292 hq) (by omega) dX10_hide_77 ?_
                refine j_iload_n hX dX10_hide_80 rfl 3 rfl ?_
                refine j_iald hX (by omega) (by omega) (kq_4 hq) (by omega) (by omega) (by omega) dX10_hide_81 ?_
                refine j_name hI292 (aq_4 hq _) (fun v300 hv301 hl302 hh303 => ?_)
                refine j_ishl hX dX10_hide_82 (fun z304 hz305 hy306 => ?_)
                refine j_istore (lv' := [(5, _), (4, _), (0, _), (1, _), (2, _), (3, _)]) hX dX10_hide_83 (by rw [hnL]; decide) rfl ?_
                refine j_aload_n hX dX10_hide_85 rfl 2 rfl ?_
                refine gf_X10_19 hX (by omega) (by omega) kc_0 (fc_0_1 hI292) (by decide) dX10_hide_86 ?_
                refine j_callVR hX lk_X10_124 (c_X0_now _ _ _ _ _ _ (by omega) hI292) (by omega) hce rfl rfl (by omega) (by omega) kc_26 rfl rfl (Nat.le_of_ble_eq_true rfl) dX10_hide_89 (fun sx M307 hz309 hp308 => ?_)
                obtain ⟨hE310, hq311, hq312⟩ := hp308
                replace hE310 := hE310.symm
                subst hE310
                have hsx : Sc sx := hq311
                have hbsx := sc_b hsx
                have hdsx : 28 ≤ sx ∧ sx ≤ 207 := by omega
                refine gf_X10_178 hX (by omega) (by omega) (sc_k0 hsx) dX10_hide_92 ?_
                refine j_name hI292 (sc_r2 hsx) (fun v313 hv314 hl315 hh316 => ?_)
                have hk317 := hv314.symm
                refine j_iload hX dX10_hide_95 0 rfl ?_
                refine j_iand hX dX10_hide_97 (fun z318 hz319 hy320 => ?_)
                refine j_if_ne (tgt := 123) hX dX10_hide_98 (by decide) (by omega) (fun hc321 => ?_) (fun hc321 => ?_)
                · skip
                  refine j_iconst hX dX10_hide_123 ?_
                  exact hret _ _ _ _ dX10_hide_124 rfl (by omega) ⟨hI292, hF298⟩
                · skip
                  refine j_aload_n hX dX10_hide_101 rfl 2 rfl ?_
                  refine j_iload_n hX dX10_hide_102 rfl 3 rfl ?_
                  refine j_iload_n hX dX10_hide_103 rfl 4 rfl ?_
                  refine j_iload hX dX10_hide_104 0 rfl ?_
                  refine j_callVI hX lk_X10_269 (c_X10_staysHidden _ _ _ _ _ _ _ _ _ _ _ (by omega) hI292 (by omega) (by omega) (by omega) (by assumption) hk296 hk297 (by first | assumption | omega) (by first | assumption | omega) (by first | assumption | omega)) (by omega) hce rfl rfl (by omega) (by omega) kc_0 rfl rfl (Nat.le_of_ble_eq_true rfl) dX10_hide_106 (fun z322 M323 hz325 hp324 => ?_)
                  obtain ⟨hI327, hG328, hb329⟩ := hp324
                  have hV330 := Vn_fr hV295 hI292 hG328 (fun a b h => by omega)
                  have hk331 := kp_fr hG328 (by omega) hk296
                  have hk332 := kp_fr hG328 (by omega) hk297
                  clear hk296 hk297 hk317
                  have hF333 := Fr.trans hF298 hG328 (fun a b h => by omega)
                  refine j_if_eq (tgt := 123) hX dX10_hide_109 (by decide) (by omega) (fun hc334 => ?_) (fun hc334 => ?_)
                  · skip
                    refine j_iconst hX dX10_hide_123 ?_
                    exact hret _ _ _ _ dX10_hide_124 rfl (by omega) ⟨hI327, hF333⟩
                  · skip
                    refine j_iload_n hX dX10_hide_112 rfl 5 rfl ?_
                    refine j_if_ne (tgt := 120) hX dX10_hide_113 (by decide) (by omega) (fun hc335 => ?_) (fun hc335 => ?_)
                    · skip
                      refine j_iload hX dX10_hide_120 0 rfl ?_
                      exact hret _ _ _ _ dX10_hide_122 rfl (by omega) ⟨hI327, hF333⟩
                    · skip
                      refine j_iconst hX dX10_hide_116 ?_
                      refine j_goto (tgt := 122) hX dX10_hide_117 (by decide) ?_
                      exact hret _ _ _ _ dX10_hide_122 rfl (by omega) ⟨hI327, hF333⟩
              · skip
                refine j_iconst hX dX10_hide_70 ?_
                exact hret _ _ _ _ dX10_hide_71 rfl (by omega) ⟨hI292, hF298⟩
            · skip
              refine j_iconst hX dX10_hide_58 ?_
              exact hret _ _ _ _ dX10_hide_59 rfl (by omega) ⟨hI, hF⟩
set_option maxHeartbeats 2000000 in
set_option maxRecDepth 20000 in
theorem c_X10_image (l : Launch) (D : va_G) (cy : Nat → ClassId) (B N : Nat) (q : Int) (nr : Int) (a : Int) (M : MM) (hN : 210 ≤ N) (hI : Iv M) (hpa : I32 a) (hq : q = 5 ∨ q = 180) (ht : M.1 0 8 = q) (hnr : M.1 q 0 = nr) (hVn : Vn nr M) (hnb : 0 ≤ nr ∧ nr ≤ 6) : CI l D cy B N 2 yX10_image cX10_image 2 (some .int) [rv B 0, iv a] M (fun z M' => Iv M' ∧ Fr (fun a b => (a = 0 ∧ 9 ≤ b ∧ b ≤ 9) ∨ (201 ≤ a ∧ a ≤ 209)) M M') := by
  refine mk_CI (by decide) (Nat.le_of_ble_eq_true rfl) ?_
  intro X exl exD excy hnL hX hret
  have hce : 0 + 0 ≤ (xR X).cells ∧ 0 + 0 ≤ (xR X).slots := ⟨Nat.zero_le _, Nat.zero_le _⟩
  have hdq : 5 ≤ q ∧ q ≤ 180 := by omega
  have hF : Fr (fun a b => (a = 0 ∧ 9 ≤ b ∧ b ≤ 9) ∨ (201 ≤ a ∧ a ≤ 209)) M M := Fr.rf
  show J X B N 0 0 0 [(0, rv B 0), (1, iv a)] [] M
  refine j_iload_n hX dX10_image_0 rfl 1 rfl ?_
  refine j_if_lt (tgt := 9) hX dX10_image_1 (by decide) (by omega) (fun hc1 => ?_) (fun hc1 => ?_)
  · skip
    refine j_iconst hX dX10_image_9 ?_
    exact hret _ _ _ _ dX10_image_10 rfl (by omega) ⟨hI, hF⟩
  · skip
    refine j_iload_n hX dX10_image_4 rfl 1 rfl ?_
    refine j_iconst hX dX10_image_5 ?_
    refine j_icmp_lt (tgt := 11) hX dX10_image_6 (by decide) (by omega) (by omega) (fun hc2 => ?_) (fun hc2 => ?_)
    · skip
      refine j_aload_n hX dX10_image_11 rfl 0 rfl ?_
      refine gf_X10_37 hX (by omega) (by omega) kc_0 (fc_0_4 hI) (by decide) dX10_image_12 ?_
      refine j_iload_n hX dX10_image_15 rfl 1 rfl ?_
      refine j_aald4n hX (by omega) (by omega) kc_156 (by omega) (by omega) (by decide) (bx_sc hI (by omega) (by omega)) dX10_image_16 (fun sv3 hz4 hsv3 => ?_)
      have hbsv3 := sc_b hsv3
      have hdsv3 : 28 ≤ sv3 ∧ sv3 ≤ 207 := by omega
      have hrsv3 := sc_156 hI hz4 (by omega) (by omega)
      refine j_aload_n hX dX10_image_17 rfl 0 rfl ?_
      refine gf_X10_19 hX (by omega) (by omega) kc_0 (fc_0_1 hI) (by decide) dX10_image_18 ?_
      refine j_callVR hX lk_X10_124 (c_X0_now _ _ _ _ _ _ (by omega) hI) (by omega) hce rfl rfl (by omega) (by omega) kc_26 rfl rfl (Nat.le_of_ble_eq_true rfl) dX10_image_21 (fun sw M5 hz7 hp6 => ?_)
      obtain ⟨hE8, hq9, hq10⟩ := hp6
      replace hE8 := hE8.symm
      subst hE8
      have hV11 : V nr sw M := by rw [hq10]; exact hVn
      have hsw : Sc sw := hq9
      have hbsw := sc_b hsw
      have hdsw : 28 ≤ sw ∧ sw ≤ 207 := by omega
      refine j_callVV hX lk_X10_204 (c_X8_copyFrom _ _ _ _ _ sv3 sw _ _ (by omega) hI hsv3 hsw (by first | assumption | omega)) (by omega) hce rfl rfl (by omega) (by omega) (sc_k0 hsv3) rfl rfl (Nat.le_of_ble_eq_true rfl) dX10_image_24 (fun M13 hp14 => ?_)
      obtain ⟨hI17, hG18, hq19⟩ := hp14
      have hk22 := kp_fr hG18 (by omega) ht
      have hk23 := kp_fr hG18 (by omega) hnr
      have hF24 := Fr.trans hF hG18 (fun a b h => by omega)
      refine j_aload_n hX dX10_image_27 rfl 0 rfl ?_
      refine j_dup hX dX10_image_28 rfl ?_
      refine gf_X10_66 hX (by omega) (by omega) kc_0 dX10_image_29 ?_
      refine j_name hI17 ro_0_9 (fun v25 hv26 hl27 hh28 => ?_)
      have hk29 := hv26.symm
      refine j_iconst hX dX10_image_32 ?_
      refine j_iload_n hX dX10_image_33 rfl 1 rfl ?_
      refine j_ishl hX dX10_image_34 (fun z30 hz31 hy32 => ?_)
      refine j_ior hX dX10_image_35 (fun z33 hz34 hy35 => ?_)
      refine pf_X10_66 hX (by omega) (by omega) kc_0 (by omega) dX10_image_36 ?_
      refine j_up hI17 ro_0_9 (by omega) (by omega) (Or.inl (by omega)) (fun M36 w37 hw38 hM39 hI40 hf41 => ?_)
      have hk42 := kp_up hM39 (fun h => absurd h.2 (by decide)) hk22
      have hk43 := kp_up hM39 (by omega) hk23
      clear hk22 hk23 hk29
      have hF44 := Fr.put hF24 hM39 (by omega)
      refine j_aload_n hX dX10_image_39 rfl 0 rfl ?_
      refine gf_X10_37 hX (by omega) (by omega) kc_0 (fc_0_4 hI40) (by decide) dX10_image_40 ?_
      refine j_iload_n hX dX10_image_43 rfl 1 rfl ?_
      refine j_aald4n hX (by omega) (by omega) kc_156 (by omega) (by omega) (by decide) (bx_sc hI40 (by omega) (by omega)) dX10_image_44 (fun sv45 hz46 hsv45 => ?_)
      have hbsv45 := sc_b hsv45
      have hdsv45 : 28 ≤ sv45 ∧ sv45 ≤ 207 := by omega
      have hrsv45 := sc_156 hI40 hz46 (by omega) (by omega)
      refine gf_X10_191 hX (by omega) (by omega) (sc_k0 hsv45) dX10_image_45 ?_
      refine j_name hI40 (sc_r4 hsv45) (fun v47 hv48 hl49 hh50 => ?_)
      have hk51 := hv48.symm
      exact hret _ _ _ _ dX10_image_48 rfl (by omega) ⟨hI40, hF44⟩
    · skip
      refine j_iconst hX dX10_image_9 ?_
      exact hret _ _ _ _ dX10_image_10 rfl (by omega) ⟨hI, hF⟩
