theorem dX7_putUnit_0 : decode cX7_putUnit 0 = .ok (.aload_n 0, 1) := by decide +kernel
theorem dX7_putUnit_1 : decode cX7_putUnit 1 = .ok (.getfield 21, 3) := by decide +kernel
theorem dX7_putUnit_4 : decode cX7_putUnit 4 = .ok (.getfield 73, 3) := by decide +kernel
theorem dX7_putUnit_7 : decode cX7_putUnit 7 = .ok (.dup, 1) := by decide +kernel
theorem dX7_putUnit_8 : decode cX7_putUnit 8 = .ok (.getfield 77, 3) := by decide +kernel
theorem dX7_putUnit_11 : decode cX7_putUnit 11 = .ok (.iconst 1, 1) := by decide +kernel
theorem dX7_putUnit_12 : decode cX7_putUnit 12 = .ok (.iadd, 1) := by decide +kernel
theorem dX7_putUnit_13 : decode cX7_putUnit 13 = .ok (.putfield 77, 3) := by decide +kernel
theorem dX7_putUnit_16 : decode cX7_putUnit 16 = .ok (.aload_n 0, 1) := by decide +kernel
theorem dX7_putUnit_17 : decode cX7_putUnit 17 = .ok (.getfield 21, 3) := by decide +kernel
theorem dX7_putUnit_20 : decode cX7_putUnit 20 = .ok (.getfield 73, 3) := by decide +kernel
theorem dX7_putUnit_23 : decode cX7_putUnit 23 = .ok (.iload_n 1, 1) := by decide +kernel
theorem dX7_putUnit_24 : decode cX7_putUnit 24 = .ok (.invokevirtual 179, 3) := by decide +kernel
theorem dX7_putUnit_27 : decode cX7_putUnit 27 = .ok (.aload_n 0, 1) := by decide +kernel
theorem dX7_putUnit_28 : decode cX7_putUnit 28 = .ok (.getfield 12, 3) := by decide +kernel
theorem dX7_putUnit_31 : decode cX7_putUnit 31 = .ok (.invokevirtual 41, 3) := by decide +kernel
theorem dX7_putUnit_34 : decode cX7_putUnit 34 = .ok (.iconst 1, 1) := by decide +kernel
theorem dX7_putUnit_35 : decode cX7_putUnit 35 = .ok (.ireturn, 1) := by decide +kernel
theorem dX7_readUnit_0 : decode cX7_readUnit 0 = .ok (.aload_n 0, 1) := by decide +kernel
theorem dX7_readUnit_1 : decode cX7_readUnit 1 = .ok (.getfield 21, 3) := by decide +kernel
theorem dX7_readUnit_4 : decode cX7_readUnit 4 = .ok (.getfield 73, 3) := by decide +kernel
theorem dX7_readUnit_7 : decode cX7_readUnit 7 = .ok (.getfield 77, 3) := by decide +kernel
theorem dX7_readUnit_10 : decode cX7_readUnit 10 = .ok (.bipush 30, 2) := by decide +kernel
theorem dX7_readUnit_12 : decode cX7_readUnit 12 = .ok (.if_icmp .lt 9, 3) := by decide +kernel
theorem dX7_readUnit_15 : decode cX7_readUnit 15 = .ok (.aload_n 0, 1) := by decide +kernel
theorem dX7_readUnit_16 : decode cX7_readUnit 16 = .ok (.iconst 2, 1) := by decide +kernel
theorem dX7_readUnit_17 : decode cX7_readUnit 17 = .ok (.invokevirtual 95, 3) := by decide +kernel
theorem dX7_readUnit_20 : decode cX7_readUnit 20 = .ok (.ireturn, 1) := by decide +kernel
theorem dX7_readUnit_21 : decode cX7_readUnit 21 = .ok (.aload_n 0, 1) := by decide +kernel
theorem dX7_readUnit_22 : decode cX7_readUnit 22 = .ok (.getfield 12, 3) := by decide +kernel
theorem dX7_readUnit_25 : decode cX7_readUnit 25 = .ok (.getfield 44, 3) := by decide +kernel
theorem dX7_readUnit_28 : decode cX7_readUnit 28 = .ok (.lookupswitch 161 #[(2, 76), (40, 101), (201, 88), (217, 88), (218, 88), (219, 88), (220, 88), (221, 88)], 76) := by decide +kernel
theorem dX7_readUnit_104 : decode cX7_readUnit 104 = .ok (.aload_n 0, 1) := by decide +kernel
theorem dX7_readUnit_105 : decode cX7_readUnit 105 = .ok (.aload_n 0, 1) := by decide +kernel
theorem dX7_readUnit_106 : decode cX7_readUnit 106 = .ok (.getfield 12, 3) := by decide +kernel
theorem dX7_readUnit_109 : decode cX7_readUnit 109 = .ok (.getfield 198, 3) := by decide +kernel
theorem dX7_readUnit_112 : decode cX7_readUnit 112 = .ok (.invokevirtual 201, 3) := by decide +kernel
theorem dX7_readUnit_115 : decode cX7_readUnit 115 = .ok (.ireturn, 1) := by decide +kernel
theorem dX7_readUnit_116 : decode cX7_readUnit 116 = .ok (.aload_n 0, 1) := by decide +kernel
theorem dX7_readUnit_117 : decode cX7_readUnit 117 = .ok (.aload_n 0, 1) := by decide +kernel
theorem dX7_readUnit_118 : decode cX7_readUnit 118 = .ok (.getfield 12, 3) := by decide +kernel
theorem dX7_readUnit_121 : decode cX7_readUnit 121 = .ok (.getfield 44, 3) := by decide +kernel
theorem dX7_readUnit_124 : decode cX7_readUnit 124 = .ok (.ineg, 1) := by decide +kernel
theorem dX7_readUnit_125 : decode cX7_readUnit 125 = .ok (.invokevirtual 201, 3) := by decide +kernel
theorem dX7_readUnit_128 : decode cX7_readUnit 128 = .ok (.ireturn, 1) := by decide +kernel
theorem dX7_readUnit_129 : decode cX7_readUnit 129 = .ok (.iload_n 1, 1) := by decide +kernel
theorem dX7_readUnit_130 : decode cX7_readUnit 130 = .ok (.bipush 6, 2) := by decide +kernel
theorem dX7_readUnit_132 : decode cX7_readUnit 132 = .ok (.if_icmp .le 9, 3) := by decide +kernel
theorem dX7_readUnit_135 : decode cX7_readUnit 135 = .ok (.aload_n 0, 1) := by decide +kernel
theorem dX7_readUnit_136 : decode cX7_readUnit 136 = .ok (.iconst 2, 1) := by decide +kernel
theorem dX7_readUnit_137 : decode cX7_readUnit 137 = .ok (.invokevirtual 95, 3) := by decide +kernel
theorem dX7_readUnit_140 : decode cX7_readUnit 140 = .ok (.ireturn, 1) := by decide +kernel
theorem dX7_readUnit_141 : decode cX7_readUnit 141 = .ok (.aload_n 0, 1) := by decide +kernel
theorem dX7_readUnit_142 : decode cX7_readUnit 142 = .ok (.getfield 21, 3) := by decide +kernel
theorem dX7_readUnit_145 : decode cX7_readUnit 145 = .ok (.getfield 73, 3) := by decide +kernel
theorem dX7_readUnit_148 : decode cX7_readUnit 148 = .ok (.dup, 1) := by decide +kernel
theorem dX7_readUnit_149 : decode cX7_readUnit 149 = .ok (.getfield 77, 3) := by decide +kernel
theorem dX7_readUnit_152 : decode cX7_readUnit 152 = .ok (.iconst 1, 1) := by decide +kernel
theorem dX7_readUnit_153 : decode cX7_readUnit 153 = .ok (.iadd, 1) := by decide +kernel
theorem dX7_readUnit_154 : decode cX7_readUnit 154 = .ok (.putfield 77, 3) := by decide +kernel
theorem dX7_readUnit_157 : decode cX7_readUnit 157 = .ok (.aload_n 0, 1) := by decide +kernel
theorem dX7_readUnit_158 : decode cX7_readUnit 158 = .ok (.getfield 12, 3) := by decide +kernel
theorem dX7_readUnit_161 : decode cX7_readUnit 161 = .ok (.invokevirtual 41, 3) := by decide +kernel
theorem dX7_readUnit_164 : decode cX7_readUnit 164 = .ok (.aload_n 0, 1) := by decide +kernel
theorem dX7_readUnit_165 : decode cX7_readUnit 165 = .ok (.iload_n 1, 1) := by decide +kernel
theorem dX7_readUnit_166 : decode cX7_readUnit 166 = .ok (.iconst 1, 1) := by decide +kernel
theorem dX7_readUnit_167 : decode cX7_readUnit 167 = .ok (.iadd, 1) := by decide +kernel
theorem dX7_readUnit_168 : decode cX7_readUnit 168 = .ok (.invokevirtual 86, 3) := by decide +kernel
theorem dX7_readUnit_171 : decode cX7_readUnit 171 = .ok (.ifCond .eq 16, 3) := by decide +kernel
theorem dX7_readUnit_174 : decode cX7_readUnit 174 = .ok (.aload_n 0, 1) := by decide +kernel
theorem dX7_readUnit_175 : decode cX7_readUnit 175 = .ok (.bipush 41, 2) := by decide +kernel
theorem dX7_readUnit_177 : decode cX7_readUnit 177 = .ok (.invokevirtual 51, 3) := by decide +kernel
theorem dX7_readUnit_180 : decode cX7_readUnit 180 = .ok (.ifCond .eq 7, 3) := by decide +kernel
theorem dX7_readUnit_183 : decode cX7_readUnit 183 = .ok (.iconst 1, 1) := by decide +kernel
theorem dX7_readUnit_184 : decode cX7_readUnit 184 = .ok (.goto 4, 3) := by decide +kernel
theorem dX7_readUnit_187 : decode cX7_readUnit 187 = .ok (.iconst 0, 1) := by decide +kernel
theorem dX7_readUnit_188 : decode cX7_readUnit 188 = .ok (.ireturn, 1) := by decide +kernel
theorem dX7_readUnit_189 : decode cX7_readUnit 189 = .ok (.aload_n 0, 1) := by decide +kernel
theorem dX7_readUnit_190 : decode cX7_readUnit 190 = .ok (.iconst 2, 1) := by decide +kernel
theorem dX7_readUnit_191 : decode cX7_readUnit 191 = .ok (.invokevirtual 95, 3) := by decide +kernel
theorem dX7_readUnit_194 : decode cX7_readUnit 194 = .ok (.ireturn, 1) := by decide +kernel
theorem dX7_readTerm_0 : decode cX7_readTerm 0 = .ok (.aload_n 0, 1) := by decide +kernel
theorem dX7_readTerm_1 : decode cX7_readTerm 1 = .ok (.iload_n 1, 1) := by decide +kernel
theorem dX7_readTerm_2 : decode cX7_readTerm 2 = .ok (.invokevirtual 192, 3) := by decide +kernel
theorem dX7_readTerm_5 : decode cX7_readTerm 5 = .ok (.istore_n 2, 1) := by decide +kernel
theorem dX7_readTerm_6 : decode cX7_readTerm 6 = .ok (.iconst 0, 1) := by decide +kernel
theorem dX7_readTerm_7 : decode cX7_readTerm 7 = .ok (.istore_n 3, 1) := by decide +kernel
theorem dX7_readTerm_8 : decode cX7_readTerm 8 = .ok (.iload_n 3, 1) := by decide +kernel
theorem dX7_readTerm_9 : decode cX7_readTerm 9 = .ok (.sipush 1600, 3) := by decide +kernel
theorem dX7_readTerm_12 : decode cX7_readTerm 12 = .ok (.if_icmp .ge 61, 3) := by decide +kernel
theorem dX7_readTerm_15 : decode cX7_readTerm 15 = .ok (.iload_n 2, 1) := by decide +kernel
theorem dX7_readTerm_16 : decode cX7_readTerm 16 = .ok (.ifCond .eq 57, 3) := by decide +kernel
theorem dX7_readTerm_19 : decode cX7_readTerm 19 = .ok (.aload_n 0, 1) := by decide +kernel
theorem dX7_readTerm_20 : decode cX7_readTerm 20 = .ok (.getfield 12, 3) := by decide +kernel
theorem dX7_readTerm_23 : decode cX7_readTerm 23 = .ok (.getfield 44, 3) := by decide +kernel
theorem dX7_readTerm_26 : decode cX7_readTerm 26 = .ok (.invokestatic 195, 3) := by decide +kernel
theorem dX7_readTerm_29 : decode cX7_readTerm 29 = .ok (.ifCond .eq 44, 3) := by decide +kernel
theorem dX7_readTerm_32 : decode cX7_readTerm 32 = .ok (.aload_n 0, 1) := by decide +kernel
theorem dX7_readTerm_33 : decode cX7_readTerm 33 = .ok (.getfield 12, 3) := by decide +kernel
theorem dX7_readTerm_36 : decode cX7_readTerm 36 = .ok (.getfield 44, 3) := by decide +kernel
theorem dX7_readTerm_39 : decode cX7_readTerm 39 = .ok (.istore 4, 2) := by decide +kernel
theorem dX7_readTerm_41 : decode cX7_readTerm 41 = .ok (.aload_n 0, 1) := by decide +kernel
theorem dX7_readTerm_42 : decode cX7_readTerm 42 = .ok (.getfield 12, 3) := by decide +kernel
theorem dX7_readTerm_45 : decode cX7_readTerm 45 = .ok (.invokevirtual 41, 3) := by decide +kernel
theorem dX7_readTerm_48 : decode cX7_readTerm 48 = .ok (.aload_n 0, 1) := by decide +kernel
theorem dX7_readTerm_49 : decode cX7_readTerm 49 = .ok (.iload_n 1, 1) := by decide +kernel
theorem dX7_readTerm_50 : decode cX7_readTerm 50 = .ok (.invokevirtual 192, 3) := by decide +kernel
theorem dX7_readTerm_53 : decode cX7_readTerm 53 = .ok (.istore_n 2, 1) := by decide +kernel
theorem dX7_readTerm_54 : decode cX7_readTerm 54 = .ok (.aload_n 0, 1) := by decide +kernel
theorem dX7_readTerm_55 : decode cX7_readTerm 55 = .ok (.getfield 21, 3) := by decide +kernel
theorem dX7_readTerm_58 : decode cX7_readTerm 58 = .ok (.getfield 73, 3) := by decide +kernel
theorem dX7_readTerm_61 : decode cX7_readTerm 61 = .ok (.iload 4, 2) := by decide +kernel
theorem dX7_readTerm_63 : decode cX7_readTerm 63 = .ok (.ineg, 1) := by decide +kernel
theorem dX7_readTerm_64 : decode cX7_readTerm 64 = .ok (.invokevirtual 179, 3) := by decide +kernel
theorem dX7_readTerm_67 : decode cX7_readTerm 67 = .ok (.iinc 3 1, 3) := by decide +kernel
theorem dX7_readTerm_70 : decode cX7_readTerm 70 = .ok (.goto (-62), 3) := by decide +kernel
theorem dX7_readTerm_73 : decode cX7_readTerm 73 = .ok (.iload_n 2, 1) := by decide +kernel
theorem dX7_readTerm_74 : decode cX7_readTerm 74 = .ok (.ireturn, 1) := by decide +kernel
theorem dX7_readSum_0 : decode cX7_readSum 0 = .ok (.aload_n 0, 1) := by decide +kernel
theorem dX7_readSum_1 : decode cX7_readSum 1 = .ok (.iload_n 1, 1) := by decide +kernel
theorem dX7_readSum_2 : decode cX7_readSum 2 = .ok (.invokevirtual 189, 3) := by decide +kernel
theorem dX7_readSum_5 : decode cX7_readSum 5 = .ok (.istore_n 2, 1) := by decide +kernel
theorem dX7_readSum_6 : decode cX7_readSum 6 = .ok (.iconst 0, 1) := by decide +kernel
theorem dX7_readSum_7 : decode cX7_readSum 7 = .ok (.istore_n 3, 1) := by decide +kernel
theorem dX7_readSum_8 : decode cX7_readSum 8 = .ok (.iload_n 3, 1) := by decide +kernel
theorem dX7_readSum_9 : decode cX7_readSum 9 = .ok (.sipush 1600, 3) := by decide +kernel
theorem dX7_readSum_12 : decode cX7_readSum 12 = .ok (.if_icmp .ge 72, 3) := by decide +kernel
theorem dX7_readSum_15 : decode cX7_readSum 15 = .ok (.iload_n 2, 1) := by decide +kernel
theorem dX7_readSum_16 : decode cX7_readSum 16 = .ok (.ifCond .eq 68, 3) := by decide +kernel
theorem dX7_readSum_19 : decode cX7_readSum 19 = .ok (.aload_n 0, 1) := by decide +kernel
theorem dX7_readSum_20 : decode cX7_readSum 20 = .ok (.getfield 12, 3) := by decide +kernel
theorem dX7_readSum_23 : decode cX7_readSum 23 = .ok (.getfield 44, 3) := by decide +kernel
theorem dX7_readSum_26 : decode cX7_readSum 26 = .ok (.bipush 43, 2) := by decide +kernel
theorem dX7_readSum_28 : decode cX7_readSum 28 = .ok (.if_icmp .eq 15, 3) := by decide +kernel
theorem dX7_readSum_31 : decode cX7_readSum 31 = .ok (.aload_n 0, 1) := by decide +kernel
theorem dX7_readSum_32 : decode cX7_readSum 32 = .ok (.getfield 12, 3) := by decide +kernel
theorem dX7_readSum_35 : decode cX7_readSum 35 = .ok (.getfield 44, 3) := by decide +kernel
theorem dX7_readSum_38 : decode cX7_readSum 38 = .ok (.bipush 45, 2) := by decide +kernel
theorem dX7_readSum_40 : decode cX7_readSum 40 = .ok (.if_icmp .ne 44, 3) := by decide +kernel
theorem dX7_readSum_43 : decode cX7_readSum 43 = .ok (.aload_n 0, 1) := by decide +kernel
theorem dX7_readSum_44 : decode cX7_readSum 44 = .ok (.getfield 12, 3) := by decide +kernel
theorem dX7_readSum_47 : decode cX7_readSum 47 = .ok (.getfield 44, 3) := by decide +kernel
theorem dX7_readSum_50 : decode cX7_readSum 50 = .ok (.istore 4, 2) := by decide +kernel
theorem dX7_readSum_52 : decode cX7_readSum 52 = .ok (.aload_n 0, 1) := by decide +kernel
theorem dX7_readSum_53 : decode cX7_readSum 53 = .ok (.getfield 12, 3) := by decide +kernel
theorem dX7_readSum_56 : decode cX7_readSum 56 = .ok (.invokevirtual 41, 3) := by decide +kernel
theorem dX7_readSum_59 : decode cX7_readSum 59 = .ok (.aload_n 0, 1) := by decide +kernel
theorem dX7_readSum_60 : decode cX7_readSum 60 = .ok (.iload_n 1, 1) := by decide +kernel
theorem dX7_readSum_61 : decode cX7_readSum 61 = .ok (.invokevirtual 189, 3) := by decide +kernel
theorem dX7_readSum_64 : decode cX7_readSum 64 = .ok (.istore_n 2, 1) := by decide +kernel
theorem dX7_readSum_65 : decode cX7_readSum 65 = .ok (.aload_n 0, 1) := by decide +kernel
theorem dX7_readSum_66 : decode cX7_readSum 66 = .ok (.getfield 21, 3) := by decide +kernel
theorem dX7_readSum_69 : decode cX7_readSum 69 = .ok (.getfield 73, 3) := by decide +kernel
theorem dX7_readSum_72 : decode cX7_readSum 72 = .ok (.iload 4, 2) := by decide +kernel
theorem dX7_readSum_74 : decode cX7_readSum 74 = .ok (.ineg, 1) := by decide +kernel
theorem dX7_readSum_75 : decode cX7_readSum 75 = .ok (.invokevirtual 179, 3) := by decide +kernel
theorem dX7_readSum_78 : decode cX7_readSum 78 = .ok (.iinc 3 1, 3) := by decide +kernel
theorem dX7_readSum_81 : decode cX7_readSum 81 = .ok (.goto (-73), 3) := by decide +kernel
theorem dX7_readSum_84 : decode cX7_readSum 84 = .ok (.iload_n 2, 1) := by decide +kernel
theorem dX7_readSum_85 : decode cX7_readSum 85 = .ok (.ireturn, 1) := by decide +kernel
theorem dX7_readOne_0 : decode cX7_readOne 0 = .ok (.aload_n 0, 1) := by decide +kernel
theorem dX7_readOne_1 : decode cX7_readOne 1 = .ok (.getfield 12, 3) := by decide +kernel
theorem dX7_readOne_4 : decode cX7_readOne 4 = .ok (.getfield 44, 3) := by decide +kernel
theorem dX7_readOne_7 : decode cX7_readOne 7 = .ok (.sipush 216, 3) := by decide +kernel
theorem dX7_readOne_10 : decode cX7_readOne 10 = .ok (.if_icmp .ne 45, 3) := by decide +kernel
theorem dX7_readOne_13 : decode cX7_readOne 13 = .ok (.iload_n 1, 1) := by decide +kernel
theorem dX7_readOne_14 : decode cX7_readOne 14 = .ok (.bipush 6, 2) := by decide +kernel
theorem dX7_readOne_16 : decode cX7_readOne 16 = .ok (.if_icmp .le 9, 3) := by decide +kernel
theorem dX7_readOne_19 : decode cX7_readOne 19 = .ok (.aload_n 0, 1) := by decide +kernel
theorem dX7_readOne_20 : decode cX7_readOne 20 = .ok (.iconst 2, 1) := by decide +kernel
theorem dX7_readOne_21 : decode cX7_readOne 21 = .ok (.invokevirtual 95, 3) := by decide +kernel
theorem dX7_readOne_24 : decode cX7_readOne 24 = .ok (.ireturn, 1) := by decide +kernel
theorem dX7_readOne_25 : decode cX7_readOne 25 = .ok (.aload_n 0, 1) := by decide +kernel
theorem dX7_readOne_26 : decode cX7_readOne 26 = .ok (.getfield 12, 3) := by decide +kernel
theorem dX7_readOne_29 : decode cX7_readOne 29 = .ok (.invokevirtual 41, 3) := by decide +kernel
theorem dX7_readOne_32 : decode cX7_readOne 32 = .ok (.aload_n 0, 1) := by decide +kernel
theorem dX7_readOne_33 : decode cX7_readOne 33 = .ok (.iload_n 1, 1) := by decide +kernel
theorem dX7_readOne_34 : decode cX7_readOne 34 = .ok (.iconst 1, 1) := by decide +kernel
theorem dX7_readOne_35 : decode cX7_readOne 35 = .ok (.iadd, 1) := by decide +kernel
theorem dX7_readOne_36 : decode cX7_readOne 36 = .ok (.invokevirtual 183, 3) := by decide +kernel
theorem dX7_readOne_39 : decode cX7_readOne 39 = .ok (.istore_n 2, 1) := by decide +kernel
theorem dX7_readOne_40 : decode cX7_readOne 40 = .ok (.aload_n 0, 1) := by decide +kernel
theorem dX7_readOne_41 : decode cX7_readOne 41 = .ok (.getfield 21, 3) := by decide +kernel
theorem dX7_readOne_44 : decode cX7_readOne 44 = .ok (.getfield 73, 3) := by decide +kernel
theorem dX7_readOne_47 : decode cX7_readOne 47 = .ok (.sipush (-216), 3) := by decide +kernel
theorem dX7_readOne_50 : decode cX7_readOne 50 = .ok (.invokevirtual 179, 3) := by decide +kernel
theorem dX7_readOne_53 : decode cX7_readOne 53 = .ok (.iload_n 2, 1) := by decide +kernel
theorem dX7_readOne_54 : decode cX7_readOne 54 = .ok (.ireturn, 1) := by decide +kernel
theorem dX7_readOne_55 : decode cX7_readOne 55 = .ok (.aload_n 0, 1) := by decide +kernel
theorem dX7_readOne_56 : decode cX7_readOne 56 = .ok (.iload_n 1, 1) := by decide +kernel
theorem dX7_readOne_57 : decode cX7_readOne 57 = .ok (.invokevirtual 186, 3) := by decide +kernel
theorem dX7_readOne_60 : decode cX7_readOne 60 = .ok (.ifCond .ne 5, 3) := by decide +kernel
theorem dX7_readOne_63 : decode cX7_readOne 63 = .ok (.iconst 0, 1) := by decide +kernel
theorem dX7_readOne_64 : decode cX7_readOne 64 = .ok (.ireturn, 1) := by decide +kernel
theorem dX7_readOne_65 : decode cX7_readOne 65 = .ok (.aload_n 0, 1) := by decide +kernel
theorem dX7_readOne_66 : decode cX7_readOne 66 = .ok (.getfield 12, 3) := by decide +kernel
theorem dX7_readOne_69 : decode cX7_readOne 69 = .ok (.getfield 44, 3) := by decide +kernel
theorem dX7_readOne_72 : decode cX7_readOne 72 = .ok (.istore_n 2, 1) := by decide +kernel
theorem dX7_readOne_73 : decode cX7_readOne 73 = .ok (.iload_n 2, 1) := by decide +kernel
theorem dX7_readOne_74 : decode cX7_readOne 74 = .ok (.bipush 60, 2) := by decide +kernel
theorem dX7_readOne_76 : decode cX7_readOne 76 = .ok (.if_icmp .eq 17, 3) := by decide +kernel
theorem dX7_readOne_79 : decode cX7_readOne 79 = .ok (.iload_n 2, 1) := by decide +kernel
theorem dX7_readOne_80 : decode cX7_readOne 80 = .ok (.bipush 62, 2) := by decide +kernel
theorem dX7_readOne_82 : decode cX7_readOne 82 = .ok (.if_icmp .eq 11, 3) := by decide +kernel
theorem dX7_readOne_85 : decode cX7_readOne 85 = .ok (.iload_n 2, 1) := by decide +kernel
theorem dX7_readOne_86 : decode cX7_readOne 86 = .ok (.bipush 61, 2) := by decide +kernel
theorem dX7_readOne_88 : decode cX7_readOne 88 = .ok (.if_icmp .eq 5, 3) := by decide +kernel
theorem dX7_readOne_91 : decode cX7_readOne 91 = .ok (.iconst 1, 1) := by decide +kernel
theorem dX7_readOne_92 : decode cX7_readOne 92 = .ok (.ireturn, 1) := by decide +kernel
theorem dX7_readOne_93 : decode cX7_readOne 93 = .ok (.aload_n 0, 1) := by decide +kernel
theorem dX7_readOne_94 : decode cX7_readOne 94 = .ok (.getfield 12, 3) := by decide +kernel
theorem dX7_readOne_97 : decode cX7_readOne 97 = .ok (.invokevirtual 41, 3) := by decide +kernel
theorem dX7_readOne_100 : decode cX7_readOne 100 = .ok (.aload_n 0, 1) := by decide +kernel
theorem dX7_readOne_101 : decode cX7_readOne 101 = .ok (.iload_n 1, 1) := by decide +kernel
theorem dX7_readOne_102 : decode cX7_readOne 102 = .ok (.invokevirtual 186, 3) := by decide +kernel
theorem dX7_readOne_105 : decode cX7_readOne 105 = .ok (.istore_n 3, 1) := by decide +kernel
theorem dX7_readOne_106 : decode cX7_readOne 106 = .ok (.aload_n 0, 1) := by decide +kernel
theorem dX7_readOne_107 : decode cX7_readOne 107 = .ok (.getfield 21, 3) := by decide +kernel
theorem dX7_readOne_110 : decode cX7_readOne 110 = .ok (.getfield 73, 3) := by decide +kernel
theorem dX7_readOne_113 : decode cX7_readOne 113 = .ok (.iload_n 2, 1) := by decide +kernel
theorem dX7_readOne_114 : decode cX7_readOne 114 = .ok (.ineg, 1) := by decide +kernel
theorem dX7_readOne_115 : decode cX7_readOne 115 = .ok (.invokevirtual 179, 3) := by decide +kernel
theorem dX7_readOne_118 : decode cX7_readOne 118 = .ok (.iload_n 3, 1) := by decide +kernel
theorem dX7_readOne_119 : decode cX7_readOne 119 = .ok (.ireturn, 1) := by decide +kernel
theorem dX7_readBoth_0 : decode cX7_readBoth 0 = .ok (.aload_n 0, 1) := by decide +kernel
theorem dX7_readBoth_1 : decode cX7_readBoth 1 = .ok (.iload_n 1, 1) := by decide +kernel
theorem dX7_readBoth_2 : decode cX7_readBoth 2 = .ok (.invokevirtual 183, 3) := by decide +kernel
theorem dX7_readBoth_5 : decode cX7_readBoth 5 = .ok (.istore_n 2, 1) := by decide +kernel
theorem dX7_readBoth_6 : decode cX7_readBoth 6 = .ok (.iconst 0, 1) := by decide +kernel
theorem dX7_readBoth_7 : decode cX7_readBoth 7 = .ok (.istore_n 3, 1) := by decide +kernel
theorem dX7_readBoth_8 : decode cX7_readBoth 8 = .ok (.iload_n 3, 1) := by decide +kernel
theorem dX7_readBoth_9 : decode cX7_readBoth 9 = .ok (.sipush 1600, 3) := by decide +kernel
theorem dX7_readBoth_12 : decode cX7_readBoth 12 = .ok (.if_icmp .ge 52, 3) := by decide +kernel
theorem dX7_readBoth_15 : decode cX7_readBoth 15 = .ok (.iload_n 2, 1) := by decide +kernel
theorem dX7_readBoth_16 : decode cX7_readBoth 16 = .ok (.ifCond .eq 48, 3) := by decide +kernel
theorem dX7_readBoth_19 : decode cX7_readBoth 19 = .ok (.aload_n 0, 1) := by decide +kernel
theorem dX7_readBoth_20 : decode cX7_readBoth 20 = .ok (.getfield 12, 3) := by decide +kernel
theorem dX7_readBoth_23 : decode cX7_readBoth 23 = .ok (.getfield 44, 3) := by decide +kernel
theorem dX7_readBoth_26 : decode cX7_readBoth 26 = .ok (.sipush 215, 3) := by decide +kernel
theorem dX7_readBoth_29 : decode cX7_readBoth 29 = .ok (.if_icmp .ne 35, 3) := by decide +kernel
theorem dX7_readBoth_32 : decode cX7_readBoth 32 = .ok (.aload_n 0, 1) := by decide +kernel
theorem dX7_readBoth_33 : decode cX7_readBoth 33 = .ok (.getfield 12, 3) := by decide +kernel
theorem dX7_readBoth_36 : decode cX7_readBoth 36 = .ok (.invokevirtual 41, 3) := by decide +kernel
theorem dX7_readBoth_39 : decode cX7_readBoth 39 = .ok (.aload_n 0, 1) := by decide +kernel
theorem dX7_readBoth_40 : decode cX7_readBoth 40 = .ok (.iload_n 1, 1) := by decide +kernel
theorem dX7_readBoth_41 : decode cX7_readBoth 41 = .ok (.invokevirtual 183, 3) := by decide +kernel
theorem dX7_readBoth_44 : decode cX7_readBoth 44 = .ok (.istore_n 2, 1) := by decide +kernel
theorem dX7_readBoth_45 : decode cX7_readBoth 45 = .ok (.aload_n 0, 1) := by decide +kernel
theorem dX7_readBoth_46 : decode cX7_readBoth 46 = .ok (.getfield 21, 3) := by decide +kernel
theorem dX7_readBoth_49 : decode cX7_readBoth 49 = .ok (.getfield 73, 3) := by decide +kernel
theorem dX7_readBoth_52 : decode cX7_readBoth 52 = .ok (.sipush (-215), 3) := by decide +kernel
theorem dX7_readBoth_55 : decode cX7_readBoth 55 = .ok (.invokevirtual 179, 3) := by decide +kernel
theorem dX7_readBoth_58 : decode cX7_readBoth 58 = .ok (.iinc 3 1, 3) := by decide +kernel
theorem dX7_readBoth_61 : decode cX7_readBoth 61 = .ok (.goto (-53), 3) := by decide +kernel
theorem dX7_readBoth_64 : decode cX7_readBoth 64 = .ok (.iload_n 2, 1) := by decide +kernel
theorem dX7_readBoth_65 : decode cX7_readBoth 65 = .ok (.ireturn, 1) := by decide +kernel
theorem dX7_readEither_0 : decode cX7_readEither 0 = .ok (.aload_n 0, 1) := by decide +kernel
theorem dX7_readEither_1 : decode cX7_readEither 1 = .ok (.iload_n 1, 1) := by decide +kernel
theorem dX7_readEither_2 : decode cX7_readEither 2 = .ok (.invokevirtual 176, 3) := by decide +kernel
theorem dX7_readEither_5 : decode cX7_readEither 5 = .ok (.istore_n 2, 1) := by decide +kernel
theorem dX7_readEither_6 : decode cX7_readEither 6 = .ok (.iconst 0, 1) := by decide +kernel
theorem dX7_readEither_7 : decode cX7_readEither 7 = .ok (.istore_n 3, 1) := by decide +kernel
theorem dX7_readEither_8 : decode cX7_readEither 8 = .ok (.iload_n 3, 1) := by decide +kernel
theorem dX7_readEither_9 : decode cX7_readEither 9 = .ok (.sipush 1600, 3) := by decide +kernel
theorem dX7_readEither_12 : decode cX7_readEither 12 = .ok (.if_icmp .ge 52, 3) := by decide +kernel
theorem dX7_readEither_15 : decode cX7_readEither 15 = .ok (.iload_n 2, 1) := by decide +kernel
theorem dX7_readEither_16 : decode cX7_readEither 16 = .ok (.ifCond .eq 48, 3) := by decide +kernel
theorem dX7_readEither_19 : decode cX7_readEither 19 = .ok (.aload_n 0, 1) := by decide +kernel
theorem dX7_readEither_20 : decode cX7_readEither 20 = .ok (.getfield 12, 3) := by decide +kernel
theorem dX7_readEither_23 : decode cX7_readEither 23 = .ok (.getfield 44, 3) := by decide +kernel
theorem dX7_readEither_26 : decode cX7_readEither 26 = .ok (.sipush 214, 3) := by decide +kernel
theorem dX7_readEither_29 : decode cX7_readEither 29 = .ok (.if_icmp .ne 35, 3) := by decide +kernel
theorem dX7_readEither_32 : decode cX7_readEither 32 = .ok (.aload_n 0, 1) := by decide +kernel
theorem dX7_readEither_33 : decode cX7_readEither 33 = .ok (.getfield 12, 3) := by decide +kernel
theorem dX7_readEither_36 : decode cX7_readEither 36 = .ok (.invokevirtual 41, 3) := by decide +kernel
theorem dX7_readEither_39 : decode cX7_readEither 39 = .ok (.aload_n 0, 1) := by decide +kernel
theorem dX7_readEither_40 : decode cX7_readEither 40 = .ok (.iload_n 1, 1) := by decide +kernel
theorem dX7_readEither_41 : decode cX7_readEither 41 = .ok (.invokevirtual 176, 3) := by decide +kernel
theorem dX7_readEither_44 : decode cX7_readEither 44 = .ok (.istore_n 2, 1) := by decide +kernel
theorem dX7_readEither_45 : decode cX7_readEither 45 = .ok (.aload_n 0, 1) := by decide +kernel
theorem dX7_readEither_46 : decode cX7_readEither 46 = .ok (.getfield 21, 3) := by decide +kernel
theorem dX7_readEither_49 : decode cX7_readEither 49 = .ok (.getfield 73, 3) := by decide +kernel
theorem dX7_readEither_52 : decode cX7_readEither 52 = .ok (.sipush (-214), 3) := by decide +kernel
theorem dX7_readEither_55 : decode cX7_readEither 55 = .ok (.invokevirtual 179, 3) := by decide +kernel
theorem dX7_readEither_58 : decode cX7_readEither 58 = .ok (.iinc 3 1, 3) := by decide +kernel
theorem dX7_readEither_61 : decode cX7_readEither 61 = .ok (.goto (-53), 3) := by decide +kernel
theorem dX7_readEither_64 : decode cX7_readEither 64 = .ok (.iload_n 2, 1) := by decide +kernel
theorem dX7_readEither_65 : decode cX7_readEither 65 = .ok (.ireturn, 1) := by decide +kernel
def CE (l : Launch) (D : va_G) (cy : Nat → ClassId) (B N d : Nat) : Prop := ∀ (q : Int) (a : Int) (M : MM) (hN : 210 ≤ N) (hI : Iv M) (hpa : I32 a) (hq : q = 5 ∨ q = 180) (hto : M.1 1 1 = q) (hkn : KNo M) (h1 : 0 ≤ a ∧ a + d = 8), CI l D cy B N (16 + 6 * d) yX7_readEither cX7_readEither 4 (some .boolean) [rv B 1, iv a] M (fun z M' => Iv M' ∧ Fr (fun a b => (a = 1 ∧ 2 ≤ b ∧ b ≤ 3) ∨ (a = 2 ∧ 3 ≤ b ∧ b ≤ 6) ∨ (a = q + 15 ∧ 3 ≤ b ∧ b ≤ 4) ∨ (a = q + 16)) M M' ∧ (0 ≤ z ∧ z ≤ 1) ∧ (KNo M'))
def CO (l : Launch) (D : va_G) (cy : Nat → ClassId) (B N d : Nat) : Prop := ∀ (q : Int) (a : Int) (M : MM) (hN : 210 ≤ N) (hI : Iv M) (hpa : I32 a) (hq : q = 5 ∨ q = 180) (hto : M.1 1 1 = q) (hkn : KNo M) (h1 : 0 ≤ a ∧ a + d = 8), CI l D cy B N (14 + 6 * d) yX7_readOne cX7_readOne 4 (some .boolean) [rv B 1, iv a] M (fun z M' => Iv M' ∧ Fr (fun a b => (a = 1 ∧ 2 ≤ b ∧ b ≤ 3) ∨ (a = 2 ∧ 3 ≤ b ∧ b ≤ 6) ∨ (a = q + 15 ∧ 3 ≤ b ∧ b ≤ 4) ∨ (a = q + 16)) M M' ∧ (0 ≤ z ∧ z ≤ 1) ∧ (KNo M'))
set_option maxHeartbeats 2000000 in
set_option maxRecDepth 20000 in
theorem c_X7_putUnit (l : Launch) (D : va_G) (cy : Nat → ClassId) (B N : Nat) (q : Int) (a : Int) (M : MM) (hN : 210 ≤ N) (hI : Iv M) (hpa : I32 a) (hq : q = 5 ∨ q = 180) (hto : M.1 1 1 = q) (hkn : KNo M) (h1 : M.1 (q + 15) 4 ≤ 29) : CI l D cy B N 10 yX7_putUnit cX7_putUnit 2 (some .boolean) [rv B 1, iv a] M (fun z M' => Iv M' ∧ Fr (fun a b => (a = 1 ∧ 2 ≤ b ∧ b ≤ 3) ∨ (a = 2 ∧ 3 ≤ b ∧ b ≤ 6) ∨ (a = q + 15 ∧ 3 ≤ b ∧ b ≤ 4) ∨ (a = q + 16)) M M' ∧ (0 ≤ z ∧ z ≤ 1) ∧ (KNo M')) := by
  refine mk_CI (by decide) (Nat.le_of_ble_eq_true rfl) ?_
  intro X exl exD excy hnL hX hret
  have hce : 0 + 0 ≤ (xR X).cells ∧ 0 + 0 ≤ (xR X).slots := ⟨Nat.zero_le _, Nat.zero_le _⟩
  have hdq : 5 ≤ q ∧ q ≤ 180 := by omega
  have hF : Fr (fun a b => (a = 1 ∧ 2 ≤ b ∧ b ≤ 3) ∨ (a = 2 ∧ 3 ≤ b ∧ b ≤ 6) ∨ (a = q + 15 ∧ 3 ≤ b ∧ b ≤ 4) ∨ (a = q + 16)) M M := Fr.rf
  have hk1 : M.1 (q + 15) 4 = M.1 (q + 15) 4 := rfl
  show J X B N 0 0 0 [(0, rv B 1), (1, iv a)] [] M
  refine j_aload_n hX dX7_putUnit_0 rfl 0 rfl ?_
  refine gf_X7_21 hX (by omega) (by omega) kc_1 hto (by omega) dX7_putUnit_1 ?_
  refine gf_X7_73 hX (by omega) (by omega) (kq hq) (fq_17 hI hq) (by omega) dX7_putUnit_4 ?_
  refine j_dup hX dX7_putUnit_7 rfl ?_
  refine gf_X7_77 hX (by omega) (by omega) (kq_15 hq) dX7_putUnit_8 ?_
  refine j_name hI (rr_4 hq) (fun v2 hv3 hl4 hh5 => ?_)
  have hk6 := hv3.symm
  refine j_iconst hX dX7_putUnit_11 ?_
  refine j_iadd hX dX7_putUnit_12 ?_
  refine pf_X7_77 hX (by omega) (by omega) (kq_15 hq) (by omega) dX7_putUnit_13 ?_
  refine j_up hI (rr_4 hq) (by omega) (by omega) (Or.inl (by omega)) (fun M7 w8 hw9 hM10 hI11 hf12 => ?_)
  have hV13 := KN_up hkn hM10 (by omega)
  have hk14 := kp_up hM10 (by omega) hto
  clear hk6
  have hF15 := Fr.put hF hM10 (by omega)
  refine j_aload_n hX dX7_putUnit_16 rfl 0 rfl ?_
  refine gf_X7_21 hX (by omega) (by omega) kc_1 hk14 (by omega) dX7_putUnit_17 ?_
  refine gf_X7_73 hX (by omega) (by omega) (kq hq) (fq_17 hI11 hq) (by omega) dX7_putUnit_20 ?_
  refine j_iload_n hX dX7_putUnit_23 rfl 1 rfl ?_
  refine j_callVV hX lk_X7_179 (c_X2_put _ _ _ _ _ q _ _ (by omega) hI11 (by omega) hq) (by omega) hce rfl rfl (by omega) (by omega) (kq_15 hq) rfl rfl (Nat.le_of_ble_eq_true rfl) dX7_putUnit_24 (fun M17 hp18 => ?_)
  obtain ⟨hI20, hG21⟩ := hp18
  have hV22 := KN_fr hV13 hG21 (by omega) (by omega)
  have hk23 := kp_fr hG21 (by omega) hk14
  have hk24 := kp_fr hG21 (by omega) hf12
  clear hk14 hf12
  have hF25 := Fr.trans hF15 hG21 (fun a b h => by omega)
  refine j_aload_n hX dX7_putUnit_27 rfl 0 rfl ?_
  refine gf_X7_12 hX (by omega) (by omega) kc_1 (fc_1_0 hI20) (by decide) dX7_putUnit_28 ?_
  refine j_callVV hX lk_X7_41 (c_X9_advance _ _ _ _ _ _ (by omega) hI20 (by first | assumption | omega)) (by omega) hce rfl rfl (by omega) (by omega) kc_2 rfl rfl (Nat.le_of_ble_eq_true rfl) dX7_putUnit_31 (fun M27 hp28 => ?_)
  obtain ⟨hI30, hG31, hq32⟩ := hp28
  have hk34 := kp_fr hG31 (by omega) hk23
  have hk35 := kp_fr hG31 (by omega) hk24
  clear hk23 hk24
  have hF36 := Fr.trans hF25 hG31 (fun a b h => by omega)
  refine j_iconst hX dX7_putUnit_34 ?_
  exact hret _ _ _ _ dX7_putUnit_35 (nb (by omega)) (by omega) ⟨hI30, hF36, by omega, by first | assumption | omega⟩
set_option maxHeartbeats 2000000 in
set_option maxRecDepth 20000 in
theorem c_X7_readUnit (l : Launch) (D : va_G) (cy : Nat → ClassId) (B N : Nat) (q : Int) (d : Nat) (a : Int) (M : MM) (hN : 210 ≤ N) (hI : Iv M) (hpa : I32 a) (hq : q = 5 ∨ q = 180) (hto : M.1 1 1 = q) (hkn : KNo M) (h1 : 0 ≤ a ∧ a + d = 8) (hE : ∀ d0 : Nat, d = d0 + 1 → CE l D cy B N d0) : CI l D cy B N (11 + 6 * d) yX7_readUnit cX7_readUnit 2 (some .boolean) [rv B 1, iv a] M (fun z M' => Iv M' ∧ Fr (fun a b => (a = 1 ∧ 2 ≤ b ∧ b ≤ 3) ∨ (a = 2 ∧ 3 ≤ b ∧ b ≤ 6) ∨ (a = q + 15 ∧ 3 ≤ b ∧ b ≤ 4) ∨ (a = q + 16)) M M' ∧ (0 ≤ z ∧ z ≤ 1) ∧ (KNo M')) := by
  refine mk_CI (by decide) (Nat.le_of_ble_eq_true rfl) ?_
  intro X exl exD excy hnL hX hret; subst exl; subst exD; subst excy
  have hce : 0 + 0 ≤ (xR X).cells ∧ 0 + 0 ≤ (xR X).slots := ⟨Nat.zero_le _, Nat.zero_le _⟩
  have hdq : 5 ≤ q ∧ q ≤ 180 := by omega
  have hF : Fr (fun a b => (a = 1 ∧ 2 ≤ b ∧ b ≤ 3) ∨ (a = 2 ∧ 3 ≤ b ∧ b ≤ 6) ∨ (a = q + 15 ∧ 3 ≤ b ∧ b ≤ 4) ∨ (a = q + 16)) M M := Fr.rf
  have hu := hI.at (q + 15) 4 (rr_4 hq)
  show J X B N 0 0 0 [(0, rv B 1), (1, iv a)] [] M
  refine j_aload_n hX dX7_readUnit_0 rfl 0 rfl ?_
  refine gf_X7_21 hX (by omega) (by omega) kc_1 hto (by omega) dX7_readUnit_1 ?_
  refine gf_X7_73 hX (by omega) (by omega) (kq hq) (fq_17 hI hq) (by omega) dX7_readUnit_4 ?_
  refine gf_X7_77 hX (by omega) (by omega) (kq_15 hq) dX7_readUnit_7 ?_
  refine j_name hI (rr_4 hq) (fun v1 hv2 hl3 hh4 => ?_)
  have hk5 := hv2.symm
  refine j_bipush hX dX7_readUnit_10 rfl ?_
  refine j_icmp_lt (tgt := 21) hX dX7_readUnit_12 (by decide) (by omega) (by omega) (fun hc6 => ?_) (fun hc6 => ?_)
  · skip
    refine j_aload_n hX dX7_readUnit_21 rfl 0 rfl ?_
    refine gf_X7_12 hX (by omega) (by omega) kc_1 (fc_1_0 hI) (by decide) dX7_readUnit_22 ?_
    refine gf_X7_44 hX (by omega) (by omega) kc_2 dX7_readUnit_25 ?_
    refine j_name hI ro_2_4 (fun v7 hv8 hl9 hh10 => ?_)
    have hk11 := hv8.symm
    refine j_lookup hX dX7_readUnit_28 (by omega) (by decide) ?_
    rcases (by omega : (v7 = 2) ∨ (v7 = 40) ∨ (v7 = 201) ∨ (v7 = 217) ∨ (v7 = 218) ∨ (v7 = 219) ∨ (v7 = 220) ∨ (v7 = 221) ∨ (¬ 2 = v7 ∧ ¬ 40 = v7 ∧ ¬ 201 = v7 ∧ ¬ 217 = v7 ∧ ¬ 218 = v7 ∧ ¬ 219 = v7 ∧ ¬ 220 = v7 ∧ ¬ 221 = v7)) with hc12 | hc12 | hc12 | hc12 | hc12 | hc12 | hc12 | hc12 | hc12
    · refine ⟨76, 104, by rw [hc12]; rfl, by decide, ?_⟩
      refine j_aload_n hX dX7_readUnit_104 rfl 0 rfl ?_
      refine j_aload_n hX dX7_readUnit_105 rfl 0 rfl ?_
      refine gf_X7_12 hX (by omega) (by omega) kc_1 (fc_1_0 hI) (by decide) dX7_readUnit_106 ?_
      refine gf_X7_198 hX (by omega) (by omega) kc_2 dX7_readUnit_109 ?_
      refine j_name hI ro_2_6 (fun v13 hv14 hl15 hh16 => ?_)
      have hk17 := hv14.symm
      refine j_callVI hX lk_X7_201 (c_X7_putUnit _ _ _ _ _ _ _ _ (by omega) hI (by omega) (by assumption) hto (by first | assumption | omega) (by first | assumption | omega)) (by omega) hce rfl rfl (by omega) (by omega) kc_1 rfl rfl (Nat.le_of_ble_eq_true rfl) dX7_readUnit_112 (fun z18 M19 hz21 hp20 => ?_)
      obtain ⟨hI22, hG23, hb24, hq25⟩ := hp20
      have hk27 := kp_fr hG23 (by omega) hto
      clear hk5 hk11 hk17
      have hF28 := Fr.trans hF hG23 (fun a b h => by omega)
      exact hret _ _ _ _ dX7_readUnit_115 (nb (by omega)) (by omega) ⟨hI22, hF28, by omega, by first | assumption | omega⟩
    · refine ⟨101, 129, by rw [hc12]; rfl, by decide, ?_⟩
      refine j_iload_n hX dX7_readUnit_129 rfl 1 rfl ?_
      refine j_bipush hX dX7_readUnit_130 rfl ?_
      refine j_icmp_le (tgt := 141) hX dX7_readUnit_132 (by decide) (by omega) (by omega) (fun hc29 => ?_) (fun hc29 => ?_)
      · skip
        refine j_aload_n hX dX7_readUnit_141 rfl 0 rfl ?_
        refine gf_X7_21 hX (by omega) (by omega) kc_1 hto (by omega) dX7_readUnit_142 ?_
        refine gf_X7_73 hX (by omega) (by omega) (kq hq) (fq_17 hI hq) (by omega) dX7_readUnit_145 ?_
        refine j_dup hX dX7_readUnit_148 rfl ?_
        refine gf_X7_77 hX (by omega) (by omega) (kq_15 hq) dX7_readUnit_149 ?_
        refine j_top hk5 ?_
        refine j_iconst hX dX7_readUnit_152 ?_
        refine j_iadd hX dX7_readUnit_153 ?_
        refine pf_X7_77 hX (by omega) (by omega) (kq_15 hq) (by omega) dX7_readUnit_154 ?_
        refine j_up hI (rr_4 hq) (by omega) (by omega) (Or.inl (by omega)) (fun M30 w31 hw32 hM33 hI34 hf35 => ?_)
        have hV36 := KN_up hkn hM33 (by omega)
        have hk37 := kp_up hM33 (by omega) hto
        have hk38 := kp_up hM33 (by omega) hk11
        clear hk5 hk11
        have hF39 := Fr.put hF hM33 (by omega)
        refine j_aload_n hX dX7_readUnit_157 rfl 0 rfl ?_
        refine gf_X7_12 hX (by omega) (by omega) kc_1 (fc_1_0 hI34) (by decide) dX7_readUnit_158 ?_
        refine j_callVV hX lk_X7_41 (c_X9_advance _ _ _ _ _ _ (by omega) hI34 (by first | assumption | omega)) (by omega) hce rfl rfl (by omega) (by omega) kc_2 rfl rfl (Nat.le_of_ble_eq_true rfl) dX7_readUnit_161 (fun M41 hp42 => ?_)
        obtain ⟨hI44, hG45, hq46⟩ := hp42
        have hk48 := kp_fr hG45 (by omega) hk37
        have hk49 := kp_fr hG45 (by omega) hf35
        clear hk37 hk38 hf35
        have hF50 := Fr.trans hF39 hG45 (fun a b h => by omega)
        refine j_aload_n hX dX7_readUnit_164 rfl 0 rfl ?_
        refine j_iload_n hX dX7_readUnit_165 rfl 1 rfl ?_
        refine j_iconst hX dX7_readUnit_166 ?_
        refine j_iadd hX dX7_readUnit_167 ?_
        obtain ⟨d0, hd0⟩ : ∃ d0 : Nat, d = d0 + 1 := ⟨d - 1, by omega⟩
        refine j_callVI hX lk_X7_86 (hE d0 hd0 _ _ _ (by omega) hI44 (by omega) (by assumption) hk48 (by first | assumption | omega) (by omega)) (by omega) hce rfl rfl (by omega) (by omega) kc_1 rfl rfl (Nat.le_of_ble_eq_true rfl) dX7_readUnit_168 (fun z51 M52 hz54 hp53 => ?_)
        obtain ⟨hI55, hG56, hb57, hq58⟩ := hp53
        have hk60 := kp_fr hG56 (by omega) hk48
        clear hk48 hk49
        have hF61 := Fr.trans hF50 hG56 (fun a b h => by omega)
        refine j_if_eq (tgt := 187) hX dX7_readUnit_171 (by decide) (by omega) (fun hc62 => ?_) (fun hc62 => ?_)
        · skip
          refine j_iconst hX dX7_readUnit_187 ?_
          exact hret _ _ _ _ dX7_readUnit_188 (nb (by omega)) (by omega) ⟨hI55, hF61, by omega, by first | assumption | omega⟩
        · skip
          refine j_aload_n hX dX7_readUnit_174 rfl 0 rfl ?_
          refine j_bipush hX dX7_readUnit_175 rfl ?_
          refine j_callVI hX lk_X7_51 (c_X7_take _ _ _ _ _ _ _ _ (by omega) hI55 (by omega) (by assumption) hk60 (by first | assumption | omega)) (by omega) hce rfl rfl (by omega) (by omega) kc_1 rfl rfl (Nat.le_of_ble_eq_true rfl) dX7_readUnit_177 (fun z63 M64 hz66 hp65 => ?_)
          obtain ⟨hI67, hG68, hb69, hq70⟩ := hp65
          have hk72 := kp_fr hG68 (by omega) hk60
          clear hk60
          have hF73 := Fr.trans hF61 hG68 (fun a b h => by omega)
          refine j_if_eq (tgt := 187) hX dX7_readUnit_180 (by decide) (by omega) (fun hc74 => ?_) (fun hc74 => ?_)
          · skip
            refine j_iconst hX dX7_readUnit_187 ?_
            exact hret _ _ _ _ dX7_readUnit_188 (nb (by omega)) (by omega) ⟨hI67, hF73, by omega, by first | assumption | omega⟩
          · skip
            refine j_iconst hX dX7_readUnit_183 ?_
            refine j_goto (tgt := 188) hX dX7_readUnit_184 (by decide) ?_
            exact hret _ _ _ _ dX7_readUnit_188 (nb (by omega)) (by omega) ⟨hI67, hF73, by omega, by first | assumption | omega⟩
      · skip
        refine j_aload_n hX dX7_readUnit_135 rfl 0 rfl ?_
        refine j_iconst hX dX7_readUnit_136 ?_
        refine j_callVI hX lk_X7_95 (c_X7_refuse _ _ _ _ _ _ _ _ (by omega) hI (by omega) (by assumption) hto) (by omega) hce rfl rfl (by omega) (by omega) kc_1 rfl rfl (Nat.le_of_ble_eq_true rfl) dX7_readUnit_137 (fun z75 M76 hz78 hp77 => ?_)
        obtain ⟨hI79, hG80, hb81, hq82⟩ := hp77
        have hV83 := KN_fr hkn hG80 (by omega) (by omega)
        have hk84 := kp_fr hG80 (by omega) hto
        have hk85 := kp_fr hG80 (by omega) hk5
        have hk86 := kp_fr hG80 (by omega) hk11
        clear hk5 hk11
        have hF87 := Fr.trans hF hG80 (fun a b h => by omega)
        exact hret _ _ _ _ dX7_readUnit_140 (nb (by omega)) (by omega) ⟨hI79, hF87, by omega, by first | assumption | omega⟩
    · refine ⟨88, 116, by rw [hc12]; rfl, by decide, ?_⟩
      refine j_aload_n hX dX7_readUnit_116 rfl 0 rfl ?_
      refine j_aload_n hX dX7_readUnit_117 rfl 0 rfl ?_
      refine gf_X7_12 hX (by omega) (by omega) kc_1 (fc_1_0 hI) (by decide) dX7_readUnit_118 ?_
      refine gf_X7_44 hX (by omega) (by omega) kc_2 dX7_readUnit_121 ?_
      refine j_top hk11 ?_
      refine j_ineg hX dX7_readUnit_124 ?_
      refine j_norm (fun z88 hz89 hy90 => ?_)
      refine j_callVI hX lk_X7_201 (c_X7_putUnit _ _ _ _ _ _ _ _ (by omega) hI (by omega) (by assumption) hto (by first | assumption | omega) (by first | assumption | omega)) (by omega) hce rfl rfl (by omega) (by omega) kc_1 rfl rfl (Nat.le_of_ble_eq_true rfl) dX7_readUnit_125 (fun z91 M92 hz94 hp93 => ?_)
      obtain ⟨hI95, hG96, hb97, hq98⟩ := hp93
      have hk100 := kp_fr hG96 (by omega) hto
      clear hk5 hk11
      have hF101 := Fr.trans hF hG96 (fun a b h => by omega)
      exact hret _ _ _ _ dX7_readUnit_128 (nb (by omega)) (by omega) ⟨hI95, hF101, by omega, by first | assumption | omega⟩
    · refine ⟨88, 116, by rw [hc12]; rfl, by decide, ?_⟩
      refine j_aload_n hX dX7_readUnit_116 rfl 0 rfl ?_
      refine j_aload_n hX dX7_readUnit_117 rfl 0 rfl ?_
      refine gf_X7_12 hX (by omega) (by omega) kc_1 (fc_1_0 hI) (by decide) dX7_readUnit_118 ?_
      refine gf_X7_44 hX (by omega) (by omega) kc_2 dX7_readUnit_121 ?_
      refine j_top hk11 ?_
      refine j_ineg hX dX7_readUnit_124 ?_
      refine j_norm (fun z102 hz103 hy104 => ?_)
      refine j_callVI hX lk_X7_201 (c_X7_putUnit _ _ _ _ _ _ _ _ (by omega) hI (by omega) (by assumption) hto (by first | assumption | omega) (by first | assumption | omega)) (by omega) hce rfl rfl (by omega) (by omega) kc_1 rfl rfl (Nat.le_of_ble_eq_true rfl) dX7_readUnit_125 (fun z105 M106 hz108 hp107 => ?_)
      obtain ⟨hI109, hG110, hb111, hq112⟩ := hp107
      have hk114 := kp_fr hG110 (by omega) hto
      clear hk5 hk11
      have hF115 := Fr.trans hF hG110 (fun a b h => by omega)
      exact hret _ _ _ _ dX7_readUnit_128 (nb (by omega)) (by omega) ⟨hI109, hF115, by omega, by first | assumption | omega⟩
    · refine ⟨88, 116, by rw [hc12]; rfl, by decide, ?_⟩
      refine j_aload_n hX dX7_readUnit_116 rfl 0 rfl ?_
      refine j_aload_n hX dX7_readUnit_117 rfl 0 rfl ?_
      refine gf_X7_12 hX (by omega) (by omega) kc_1 (fc_1_0 hI) (by decide) dX7_readUnit_118 ?_
      refine gf_X7_44 hX (by omega) (by omega) kc_2 dX7_readUnit_121 ?_
      refine j_top hk11 ?_
      refine j_ineg hX dX7_readUnit_124 ?_
      refine j_norm (fun z116 hz117 hy118 => ?_)
      refine j_callVI hX lk_X7_201 (c_X7_putUnit _ _ _ _ _ _ _ _ (by omega) hI (by omega) (by assumption) hto (by first | assumption | omega) (by first | assumption | omega)) (by omega) hce rfl rfl (by omega) (by omega) kc_1 rfl rfl (Nat.le_of_ble_eq_true rfl) dX7_readUnit_125 (fun z119 M120 hz122 hp121 => ?_)
      obtain ⟨hI123, hG124, hb125, hq126⟩ := hp121
      have hk128 := kp_fr hG124 (by omega) hto
      clear hk5 hk11
      have hF129 := Fr.trans hF hG124 (fun a b h => by omega)
      exact hret _ _ _ _ dX7_readUnit_128 (nb (by omega)) (by omega) ⟨hI123, hF129, by omega, by first | assumption | omega⟩
    · refine ⟨88, 116, by rw [hc12]; rfl, by decide, ?_⟩
      refine j_aload_n hX dX7_readUnit_116 rfl 0 rfl ?_
      refine j_aload_n hX dX7_readUnit_117 rfl 0 rfl ?_
      refine gf_X7_12 hX (by omega) (by omega) kc_1 (fc_1_0 hI) (by decide) dX7_readUnit_118 ?_
      refine gf_X7_44 hX (by omega) (by omega) kc_2 dX7_readUnit_121 ?_
      refine j_top hk11 ?_
      refine j_ineg hX dX7_readUnit_124 ?_
      refine j_norm (fun z130 hz131 hy132 => ?_)
      refine j_callVI hX lk_X7_201 (c_X7_putUnit _ _ _ _ _ _ _ _ (by omega) hI (by omega) (by assumption) hto (by first | assumption | omega) (by first | assumption | omega)) (by omega) hce rfl rfl (by omega) (by omega) kc_1 rfl rfl (Nat.le_of_ble_eq_true rfl) dX7_readUnit_125 (fun z133 M134 hz136 hp135 => ?_)
      obtain ⟨hI137, hG138, hb139, hq140⟩ := hp135
      have hk142 := kp_fr hG138 (by omega) hto
      clear hk5 hk11
      have hF143 := Fr.trans hF hG138 (fun a b h => by omega)
      exact hret _ _ _ _ dX7_readUnit_128 (nb (by omega)) (by omega) ⟨hI137, hF143, by omega, by first | assumption | omega⟩
    · refine ⟨88, 116, by rw [hc12]; rfl, by decide, ?_⟩
      refine j_aload_n hX dX7_readUnit_116 rfl 0 rfl ?_
      refine j_aload_n hX dX7_readUnit_117 rfl 0 rfl ?_
      refine gf_X7_12 hX (by omega) (by omega) kc_1 (fc_1_0 hI) (by decide) dX7_readUnit_118 ?_
      refine gf_X7_44 hX (by omega) (by omega) kc_2 dX7_readUnit_121 ?_
      refine j_top hk11 ?_
      refine j_ineg hX dX7_readUnit_124 ?_
      refine j_norm (fun z144 hz145 hy146 => ?_)
      refine j_callVI hX lk_X7_201 (c_X7_putUnit _ _ _ _ _ _ _ _ (by omega) hI (by omega) (by assumption) hto (by first | assumption | omega) (by first | assumption | omega)) (by omega) hce rfl rfl (by omega) (by omega) kc_1 rfl rfl (Nat.le_of_ble_eq_true rfl) dX7_readUnit_125 (fun z147 M148 hz150 hp149 => ?_)
      obtain ⟨hI151, hG152, hb153, hq154⟩ := hp149
      have hk156 := kp_fr hG152 (by omega) hto
      clear hk5 hk11
      have hF157 := Fr.trans hF hG152 (fun a b h => by omega)
      exact hret _ _ _ _ dX7_readUnit_128 (nb (by omega)) (by omega) ⟨hI151, hF157, by omega, by first | assumption | omega⟩
    · refine ⟨88, 116, by rw [hc12]; rfl, by decide, ?_⟩
      refine j_aload_n hX dX7_readUnit_116 rfl 0 rfl ?_
      refine j_aload_n hX dX7_readUnit_117 rfl 0 rfl ?_
      refine gf_X7_12 hX (by omega) (by omega) kc_1 (fc_1_0 hI) (by decide) dX7_readUnit_118 ?_
      refine gf_X7_44 hX (by omega) (by omega) kc_2 dX7_readUnit_121 ?_
      refine j_top hk11 ?_
      refine j_ineg hX dX7_readUnit_124 ?_
      refine j_norm (fun z158 hz159 hy160 => ?_)
      refine j_callVI hX lk_X7_201 (c_X7_putUnit _ _ _ _ _ _ _ _ (by omega) hI (by omega) (by assumption) hto (by first | assumption | omega) (by first | assumption | omega)) (by omega) hce rfl rfl (by omega) (by omega) kc_1 rfl rfl (Nat.le_of_ble_eq_true rfl) dX7_readUnit_125 (fun z161 M162 hz164 hp163 => ?_)
      obtain ⟨hI165, hG166, hb167, hq168⟩ := hp163
      have hk170 := kp_fr hG166 (by omega) hto
      clear hk5 hk11
      have hF171 := Fr.trans hF hG166 (fun a b h => by omega)
      exact hret _ _ _ _ dX7_readUnit_128 (nb (by omega)) (by omega) ⟨hI165, hF171, by omega, by first | assumption | omega⟩
    · refine ⟨161, 189, by simp [Op.lookupswitch.offset, hc12], by decide, ?_⟩
      refine j_aload_n hX dX7_readUnit_189 rfl 0 rfl ?_
      refine j_iconst hX dX7_readUnit_190 ?_
      refine j_callVI hX lk_X7_95 (c_X7_refuse _ _ _ _ _ _ _ _ (by omega) hI (by omega) (by assumption) hto) (by omega) hce rfl rfl (by omega) (by omega) kc_1 rfl rfl (Nat.le_of_ble_eq_true rfl) dX7_readUnit_191 (fun z172 M173 hz175 hp174 => ?_)
      obtain ⟨hI176, hG177, hb178, hq179⟩ := hp174
      have hV180 := KN_fr hkn hG177 (by omega) (by omega)
      have hk181 := kp_fr hG177 (by omega) hto
      have hk182 := kp_fr hG177 (by omega) hk5
      have hk183 := kp_fr hG177 (by omega) hk11
      clear hk5 hk11
      have hF184 := Fr.trans hF hG177 (fun a b h => by omega)
      exact hret _ _ _ _ dX7_readUnit_194 (nb (by omega)) (by omega) ⟨hI176, hF184, by omega, by first | assumption | omega⟩
  · skip
    refine j_aload_n hX dX7_readUnit_15 rfl 0 rfl ?_
    refine j_iconst hX dX7_readUnit_16 ?_
    refine j_callVI hX lk_X7_95 (c_X7_refuse _ _ _ _ _ _ _ _ (by omega) hI (by omega) (by assumption) hto) (by omega) hce rfl rfl (by omega) (by omega) kc_1 rfl rfl (Nat.le_of_ble_eq_true rfl) dX7_readUnit_17 (fun z185 M186 hz188 hp187 => ?_)
    obtain ⟨hI189, hG190, hb191, hq192⟩ := hp187
    have hV193 := KN_fr hkn hG190 (by omega) (by omega)
    have hk194 := kp_fr hG190 (by omega) hto
    have hk195 := kp_fr hG190 (by omega) hk5
    clear hk5
    have hF196 := Fr.trans hF hG190 (fun a b h => by omega)
    exact hret _ _ _ _ dX7_readUnit_20 (nb (by omega)) (by omega) ⟨hI189, hF196, by omega, by first | assumption | omega⟩
set_option maxHeartbeats 2000000 in
set_option maxRecDepth 20000 in
theorem c_X7_readTerm (l : Launch) (D : va_G) (cy : Nat → ClassId) (B N : Nat) (q : Int) (d : Nat) (a : Int) (M : MM) (hN : 210 ≤ N) (hI : Iv M) (hpa : I32 a) (hq : q = 5 ∨ q = 180) (hto : M.1 1 1 = q) (hkn : KNo M) (h1 : 0 ≤ a ∧ a + d = 8) (hE : ∀ d0 : Nat, d = d0 + 1 → CE l D cy B N d0) : CI l D cy B N (12 + 6 * d) yX7_readTerm cX7_readTerm 5 (some .boolean) [rv B 1, iv a] M (fun z M' => Iv M' ∧ Fr (fun a b => (a = 1 ∧ 2 ≤ b ∧ b ≤ 3) ∨ (a = 2 ∧ 3 ≤ b ∧ b ≤ 6) ∨ (a = q + 15 ∧ 3 ≤ b ∧ b ≤ 4) ∨ (a = q + 16)) M M' ∧ (0 ≤ z ∧ z ≤ 1) ∧ (KNo M')) := by
  refine mk_CI (by decide) (Nat.le_of_ble_eq_true rfl) ?_
  intro X exl exD excy hnL hX hret; subst exl; subst exD; subst excy
  have hce : 0 + 0 ≤ (xR X).cells ∧ 0 + 0 ≤ (xR X).slots := ⟨Nat.zero_le _, Nat.zero_le _⟩
  have hdq : 5 ≤ q ∧ q ≤ 180 := by omega
  have hF : Fr (fun a b => (a = 1 ∧ 2 ≤ b ∧ b ≤ 3) ∨ (a = 2 ∧ 3 ≤ b ∧ b ≤ 6) ∨ (a = q + 15 ∧ 3 ≤ b ∧ b ≤ 4) ∨ (a = q + 16)) M M := Fr.rf
  have cp : ∀ n : Nat, (∀ (x2 x3 : Int), ∀ (Mc : MM), I32 x2 → I32 x3 → Iv Mc → Fr (fun a b => (a = 1 ∧ 2 ≤ b ∧ b ≤ 3) ∨ (a = 2 ∧ 3 ≤ b ∧ b ≤ 6) ∨ (a = q + 15 ∧ 3 ≤ b ∧ b ≤ 4) ∨ (a = q + 16)) M Mc → Mc.1 1 1 = q → KNo Mc → (0 ≤ x3 ∧ x3 ≤ 1600 ∧ 0 ≤ x2 ∧ x2 ≤ 1) → 0 ≤ 32 * (1600 - x3) + 1 → 32 * (1600 - x3) + 1 < (n : Int) → J X B N 0 0 8 [(0, rv B 1), (1, iv a), (2, iv x2), (3, iv x3)] [] Mc) := by
    intro n
    induction n with
    | zero => exact by intros; exfalso; omega
    | succ n ih =>
      · intro x2 x3 Mc hxx2 hxx3 hI hF hk_0 hV_0 h2 hm0 hm1
        refine j_iload_n hX dX7_readTerm_8 rfl 3 rfl ?_
        refine j_sipush hX dX7_readTerm_9 rfl ?_
        refine j_icmp_ge (tgt := 73) hX dX7_readTerm_12 (by decide) (by omega) (by omega) (fun hc1 => ?_) (fun hc1 => ?_)
        · skip
          refine j_iload_n hX dX7_readTerm_73 rfl 2 rfl ?_
          exact hret _ _ _ _ dX7_readTerm_74 (nb (by omega)) (by omega) ⟨hI, hF, by omega, by first | assumption | omega⟩
        · skip
          refine j_iload_n hX dX7_readTerm_15 rfl 2 rfl ?_
          refine j_if_eq (tgt := 73) hX dX7_readTerm_16 (by decide) (by omega) (fun hc2 => ?_) (fun hc2 => ?_)
          · skip
            refine j_iload_n hX dX7_readTerm_73 rfl 2 rfl ?_
            exact hret _ _ _ _ dX7_readTerm_74 (nb (by omega)) (by omega) ⟨hI, hF, by omega, by first | assumption | omega⟩
          · skip
            refine j_aload_n hX dX7_readTerm_19 rfl 0 rfl ?_
            refine gf_X7_12 hX (by omega) (by omega) kc_1 (fc_1_0 hI) (by decide) dX7_readTerm_20 ?_
            refine gf_X7_44 hX (by omega) (by omega) kc_2 dX7_readTerm_23 ?_
            refine j_name hI ro_2_4 (fun v3 hv4 hl5 hh6 => ?_)
            have hk7 := hv4.symm
            refine j_callSI hX lk_X7_195 (c_X7_isTermSign _ _ _ _ _ _ _ (by omega)) (by omega) hce rfl rfl (Nat.le_of_ble_eq_true rfl) dX7_readTerm_26 (fun z8 M9 hz11 hp10 => ?_)
            obtain ⟨rfl, hb12⟩ := hp10
            refine j_if_eq (tgt := 73) hX dX7_readTerm_29 (by decide) (by omega) (fun hc13 => ?_) (fun hc13 => ?_)
            · skip
              refine j_iload_n hX dX7_readTerm_73 rfl 2 rfl ?_
              exact hret _ _ _ _ dX7_readTerm_74 (nb (by omega)) (by omega) ⟨hI, hF, by omega, by first | assumption | omega⟩
            · skip
              refine j_aload_n hX dX7_readTerm_32 rfl 0 rfl ?_
              refine gf_X7_12 hX (by omega) (by omega) kc_1 (fc_1_0 hI) (by decide) dX7_readTerm_33 ?_
              refine gf_X7_44 hX (by omega) (by omega) kc_2 dX7_readTerm_36 ?_
              refine j_top hk7 ?_
              refine j_istore (lv' := [(4, _), (0, _), (1, _), (2, _), (3, _)]) hX dX7_readTerm_39 (by rw [hnL]; decide) rfl ?_
              refine j_aload_n hX dX7_readTerm_41 rfl 1 rfl ?_
              refine gf_X7_12 hX (by omega) (by omega) kc_1 (fc_1_0 hI) (by decide) dX7_readTerm_42 ?_
              refine j_callVV hX lk_X7_41 (c_X9_advance _ _ _ _ _ _ (by omega) hI (by first | assumption | omega)) (by omega) hce rfl rfl (by omega) (by omega) kc_2 rfl rfl (Nat.le_of_ble_eq_true rfl) dX7_readTerm_45 (fun M15 hp16 => ?_)
              obtain ⟨hI18, hG19, hq20⟩ := hp16
              have hk22 := kp_fr hG19 (by omega) hk_0
              clear hk7
              have hF23 := Fr.trans hF hG19 (fun a b h => by omega)
              refine j_aload_n hX dX7_readTerm_48 rfl 1 rfl ?_
              refine j_iload_n hX dX7_readTerm_49 rfl 2 rfl ?_
              refine j_callVI hX lk_X7_192 (c_X7_readUnit _ _ _ _ _ _ _ _ _ (by omega) hI18 (by omega) (by assumption) hk22 (by first | assumption | omega) (by first | assumption | omega) (by first | assumption | omega)) (by omega) hce rfl rfl (by omega) (by omega) kc_1 rfl rfl (Nat.le_of_ble_eq_true rfl) dX7_readTerm_50 (fun z24 M25 hz27 hp26 => ?_)
              obtain ⟨hI28, hG29, hb30, hq31⟩ := hp26
              have hk33 := kp_fr hG29 (by omega) hk22
              clear hk22
              have hF34 := Fr.trans hF23 hG29 (fun a b h => by omega)
              refine j_istore_n (lv' := [(2, _), (4, _), (0, _), (1, _), (3, _)]) hX dX7_readTerm_53 rfl (by rw [hnL]; decide) rfl ?_
              refine j_aload_n hX dX7_readTerm_54 rfl 2 rfl ?_
              refine gf_X7_21 hX (by omega) (by omega) kc_1 hk33 (by omega) dX7_readTerm_55 ?_
              refine gf_X7_73 hX (by omega) (by omega) (kq hq) (fq_17 hI28 hq) (by omega) dX7_readTerm_58 ?_
              refine j_iload hX dX7_readTerm_61 1 rfl ?_
              refine j_ineg hX dX7_readTerm_63 ?_
              refine j_norm (fun z35 hz36 hy37 => ?_)
              refine j_callVV hX lk_X7_179 (c_X2_put _ _ _ _ _ q _ _ (by omega) hI28 (by omega) hq) (by omega) hce rfl rfl (by omega) (by omega) (kq_15 hq) rfl rfl (Nat.le_of_ble_eq_true rfl) dX7_readTerm_64 (fun M39 hp40 => ?_)
              obtain ⟨hI42, hG43⟩ := hp40
              have hV44 := KN_fr hq31 hG43 (by omega) (by omega)
              have hk45 := kp_fr hG43 (by omega) hk33
              clear hk33
              have hF46 := Fr.trans hF34 hG43 (fun a b h => by omega)
              refine j_iinc (lv' := [(3, _), (2, _), (4, _), (0, _), (1, _)]) hX dX7_readTerm_67 4 rfl (by rw [hnL]; decide) rfl ?_
              refine j_goto (tgt := 8) hX dX7_readTerm_70 (by decide) ?_
              refine j_sub [3, 4, 1, 0] rfl ?_
              exact ih _ _ _ (by omega) (by omega) hI42 hF46 hk45 hV44 (by first | assumption | omega) (by omega) (by omega)
  show J X B N 0 0 0 [(0, rv B 1), (1, iv a)] [] M
  refine j_aload_n hX dX7_readTerm_0 rfl 0 rfl ?_
  refine j_iload_n hX dX7_readTerm_1 rfl 1 rfl ?_
  refine j_callVI hX lk_X7_192 (c_X7_readUnit _ _ _ _ _ _ _ _ _ (by omega) hI (by omega) (by assumption) hto (by first | assumption | omega) (by first | assumption | omega) (by first | assumption | omega)) (by omega) hce rfl rfl (by omega) (by omega) kc_1 rfl rfl (Nat.le_of_ble_eq_true rfl) dX7_readTerm_2 (fun z47 M48 hz50 hp49 => ?_)
  obtain ⟨hI51, hG52, hb53, hq54⟩ := hp49
  have hk56 := kp_fr hG52 (by omega) hto
  have hF57 := Fr.trans hF hG52 (fun a b h => by omega)
  refine j_istore_n (lv' := [(2, _), (0, _), (1, _)]) hX dX7_readTerm_5 rfl (by rw [hnL]; decide) rfl ?_
  refine j_iconst hX dX7_readTerm_6 ?_
  refine j_istore_n (lv' := [(3, _), (2, _), (0, _), (1, _)]) hX dX7_readTerm_7 rfl (by rw [hnL]; decide) rfl ?_
  refine j_sub [2, 3, 1, 0] rfl ?_
  refine (cp (Int.toNat (51264 + 1))) _ _ _ (by omega) (by omega) hI51 hF57 hk56 hq54 (by first | assumption | omega) ?_ ?_
  · omega
  · omega
set_option maxHeartbeats 2000000 in
set_option maxRecDepth 20000 in
theorem c_X7_readSum (l : Launch) (D : va_G) (cy : Nat → ClassId) (B N : Nat) (q : Int) (d : Nat) (a : Int) (M : MM) (hN : 210 ≤ N) (hI : Iv M) (hpa : I32 a) (hq : q = 5 ∨ q = 180) (hto : M.1 1 1 = q) (hkn : KNo M) (h1 : 0 ≤ a ∧ a + d = 8) (hE : ∀ d0 : Nat, d = d0 + 1 → CE l D cy B N d0) : CI l D cy B N (13 + 6 * d) yX7_readSum cX7_readSum 5 (some .boolean) [rv B 1, iv a] M (fun z M' => Iv M' ∧ Fr (fun a b => (a = 1 ∧ 2 ≤ b ∧ b ≤ 3) ∨ (a = 2 ∧ 3 ≤ b ∧ b ≤ 6) ∨ (a = q + 15 ∧ 3 ≤ b ∧ b ≤ 4) ∨ (a = q + 16)) M M' ∧ (0 ≤ z ∧ z ≤ 1) ∧ (KNo M')) := by
  refine mk_CI (by decide) (Nat.le_of_ble_eq_true rfl) ?_
  intro X exl exD excy hnL hX hret; subst exl; subst exD; subst excy
  have hce : 0 + 0 ≤ (xR X).cells ∧ 0 + 0 ≤ (xR X).slots := ⟨Nat.zero_le _, Nat.zero_le _⟩
  have hdq : 5 ≤ q ∧ q ≤ 180 := by omega
  have hF : Fr (fun a b => (a = 1 ∧ 2 ≤ b ∧ b ≤ 3) ∨ (a = 2 ∧ 3 ≤ b ∧ b ≤ 6) ∨ (a = q + 15 ∧ 3 ≤ b ∧ b ≤ 4) ∨ (a = q + 16)) M M := Fr.rf
  have cp : ∀ n : Nat, (∀ (x2 x3 : Int), ∀ (Mc : MM), I32 x2 → I32 x3 → Iv Mc → Fr (fun a b => (a = 1 ∧ 2 ≤ b ∧ b ≤ 3) ∨ (a = 2 ∧ 3 ≤ b ∧ b ≤ 6) ∨ (a = q + 15 ∧ 3 ≤ b ∧ b ≤ 4) ∨ (a = q + 16)) M Mc → Mc.1 1 1 = q → KNo Mc → (0 ≤ x3 ∧ x3 ≤ 1600 ∧ 0 ≤ x2 ∧ x2 ≤ 1) → 0 ≤ 32 * (1600 - x3) + 1 → 32 * (1600 - x3) + 1 < (n : Int) → J X B N 0 0 8 [(0, rv B 1), (1, iv a), (2, iv x2), (3, iv x3)] [] Mc) := by
    intro n
    induction n with
    | zero => exact by intros; exfalso; omega
    | succ n ih =>
      · intro x2 x3 Mc hxx2 hxx3 hI hF hk_0 hV_0 h2 hm0 hm1
        refine j_iload_n hX dX7_readSum_8 rfl 3 rfl ?_
        refine j_sipush hX dX7_readSum_9 rfl ?_
        refine j_icmp_ge (tgt := 84) hX dX7_readSum_12 (by decide) (by omega) (by omega) (fun hc1 => ?_) (fun hc1 => ?_)
        · skip
          refine j_iload_n hX dX7_readSum_84 rfl 2 rfl ?_
          exact hret _ _ _ _ dX7_readSum_85 (nb (by omega)) (by omega) ⟨hI, hF, by omega, by first | assumption | omega⟩
        · skip
          refine j_iload_n hX dX7_readSum_15 rfl 2 rfl ?_
          refine j_if_eq (tgt := 84) hX dX7_readSum_16 (by decide) (by omega) (fun hc2 => ?_) (fun hc2 => ?_)
          · skip
            refine j_iload_n hX dX7_readSum_84 rfl 2 rfl ?_
            exact hret _ _ _ _ dX7_readSum_85 (nb (by omega)) (by omega) ⟨hI, hF, by omega, by first | assumption | omega⟩
          · skip
            refine j_aload_n hX dX7_readSum_19 rfl 0 rfl ?_
            refine gf_X7_12 hX (by omega) (by omega) kc_1 (fc_1_0 hI) (by decide) dX7_readSum_20 ?_
            refine gf_X7_44 hX (by omega) (by omega) kc_2 dX7_readSum_23 ?_
            refine j_name hI ro_2_4 (fun v3 hv4 hl5 hh6 => ?_)
            have hk7 := hv4.symm
            refine j_bipush hX dX7_readSum_26 rfl ?_
            refine j_icmp_eq (tgt := 43) hX dX7_readSum_28 (by decide) (by omega) (by omega) (fun hc8 => ?_) (fun hc8 => ?_)
            · skip
              refine j_aload_n hX dX7_readSum_43 rfl 0 rfl ?_
              refine gf_X7_12 hX (by omega) (by omega) kc_1 (fc_1_0 hI) (by decide) dX7_readSum_44 ?_
              refine gf_X7_44 hX (by omega) (by omega) kc_2 dX7_readSum_47 ?_
              refine j_top hk7 ?_
              refine j_istore (lv' := [(4, _), (0, _), (1, _), (2, _), (3, _)]) hX dX7_readSum_50 (by rw [hnL]; decide) rfl ?_
              refine j_aload_n hX dX7_readSum_52 rfl 1 rfl ?_
              refine gf_X7_12 hX (by omega) (by omega) kc_1 (fc_1_0 hI) (by decide) dX7_readSum_53 ?_
              refine j_callVV hX lk_X7_41 (c_X9_advance _ _ _ _ _ _ (by omega) hI (by first | assumption | omega)) (by omega) hce rfl rfl (by omega) (by omega) kc_2 rfl rfl (Nat.le_of_ble_eq_true rfl) dX7_readSum_56 (fun M10 hp11 => ?_)
              obtain ⟨hI13, hG14, hq15⟩ := hp11
              have hk17 := kp_fr hG14 (by omega) hk_0
              clear hk7
              have hF18 := Fr.trans hF hG14 (fun a b h => by omega)
              refine j_aload_n hX dX7_readSum_59 rfl 1 rfl ?_
              refine j_iload_n hX dX7_readSum_60 rfl 2 rfl ?_
              refine j_callVI hX lk_X7_189 (c_X7_readTerm _ _ _ _ _ _ _ _ _ (by omega) hI13 (by omega) (by assumption) hk17 (by first | assumption | omega) (by first | assumption | omega) (by first | assumption | omega)) (by omega) hce rfl rfl (by omega) (by omega) kc_1 rfl rfl (Nat.le_of_ble_eq_true rfl) dX7_readSum_61 (fun z19 M20 hz22 hp21 => ?_)
              obtain ⟨hI23, hG24, hb25, hq26⟩ := hp21
              have hk28 := kp_fr hG24 (by omega) hk17
              clear hk17
              have hF29 := Fr.trans hF18 hG24 (fun a b h => by omega)
              refine j_istore_n (lv' := [(2, _), (4, _), (0, _), (1, _), (3, _)]) hX dX7_readSum_64 rfl (by rw [hnL]; decide) rfl ?_
              refine j_aload_n hX dX7_readSum_65 rfl 2 rfl ?_
              refine gf_X7_21 hX (by omega) (by omega) kc_1 hk28 (by omega) dX7_readSum_66 ?_
              refine gf_X7_73 hX (by omega) (by omega) (kq hq) (fq_17 hI23 hq) (by omega) dX7_readSum_69 ?_
              refine j_iload hX dX7_readSum_72 1 rfl ?_
              refine j_ineg hX dX7_readSum_74 ?_
              refine j_norm (fun z30 hz31 hy32 => ?_)
              refine j_callVV hX lk_X7_179 (c_X2_put _ _ _ _ _ q _ _ (by omega) hI23 (by omega) hq) (by omega) hce rfl rfl (by omega) (by omega) (kq_15 hq) rfl rfl (Nat.le_of_ble_eq_true rfl) dX7_readSum_75 (fun M34 hp35 => ?_)
              obtain ⟨hI37, hG38⟩ := hp35
              have hV39 := KN_fr hq26 hG38 (by omega) (by omega)
              have hk40 := kp_fr hG38 (by omega) hk28
              clear hk28
              have hF41 := Fr.trans hF29 hG38 (fun a b h => by omega)
              refine j_iinc (lv' := [(3, _), (2, _), (4, _), (0, _), (1, _)]) hX dX7_readSum_78 4 rfl (by rw [hnL]; decide) rfl ?_
              refine j_goto (tgt := 8) hX dX7_readSum_81 (by decide) ?_
              refine j_sub [3, 4, 1, 0] rfl ?_
              exact ih _ _ _ (by omega) (by omega) hI37 hF41 hk40 hV39 (by first | assumption | omega) (by omega) (by omega)
            · skip
              refine j_aload_n hX dX7_readSum_31 rfl 0 rfl ?_
              refine gf_X7_12 hX (by omega) (by omega) kc_1 (fc_1_0 hI) (by decide) dX7_readSum_32 ?_
              refine gf_X7_44 hX (by omega) (by omega) kc_2 dX7_readSum_35 ?_
              refine j_top hk7 ?_
              refine j_bipush hX dX7_readSum_38 rfl ?_
              refine j_icmp_ne (tgt := 84) hX dX7_readSum_40 (by decide) (by omega) (by omega) (fun hc42 => ?_) (fun hc42 => ?_)
              · skip
                refine j_iload_n hX dX7_readSum_84 rfl 2 rfl ?_
                exact hret _ _ _ _ dX7_readSum_85 (nb (by omega)) (by omega) ⟨hI, hF, by omega, by first | assumption | omega⟩
              · skip
                refine j_aload_n hX dX7_readSum_43 rfl 0 rfl ?_
                refine gf_X7_12 hX (by omega) (by omega) kc_1 (fc_1_0 hI) (by decide) dX7_readSum_44 ?_
                refine gf_X7_44 hX (by omega) (by omega) kc_2 dX7_readSum_47 ?_
                refine j_top hk7 ?_
                refine j_istore (lv' := [(4, _), (0, _), (1, _), (2, _), (3, _)]) hX dX7_readSum_50 (by rw [hnL]; decide) rfl ?_
                refine j_aload_n hX dX7_readSum_52 rfl 1 rfl ?_
                refine gf_X7_12 hX (by omega) (by omega) kc_1 (fc_1_0 hI) (by decide) dX7_readSum_53 ?_
                refine j_callVV hX lk_X7_41 (c_X9_advance _ _ _ _ _ _ (by omega) hI (by first | assumption | omega)) (by omega) hce rfl rfl (by omega) (by omega) kc_2 rfl rfl (Nat.le_of_ble_eq_true rfl) dX7_readSum_56 (fun M44 hp45 => ?_)
                obtain ⟨hI47, hG48, hq49⟩ := hp45
                have hk51 := kp_fr hG48 (by omega) hk_0
                clear hk7
                have hF52 := Fr.trans hF hG48 (fun a b h => by omega)
                refine j_aload_n hX dX7_readSum_59 rfl 1 rfl ?_
                refine j_iload_n hX dX7_readSum_60 rfl 2 rfl ?_
                refine j_callVI hX lk_X7_189 (c_X7_readTerm _ _ _ _ _ _ _ _ _ (by omega) hI47 (by omega) (by assumption) hk51 (by first | assumption | omega) (by first | assumption | omega) (by first | assumption | omega)) (by omega) hce rfl rfl (by omega) (by omega) kc_1 rfl rfl (Nat.le_of_ble_eq_true rfl) dX7_readSum_61 (fun z53 M54 hz56 hp55 => ?_)
                obtain ⟨hI57, hG58, hb59, hq60⟩ := hp55
                have hk62 := kp_fr hG58 (by omega) hk51
                clear hk51
                have hF63 := Fr.trans hF52 hG58 (fun a b h => by omega)
                refine j_istore_n (lv' := [(2, _), (4, _), (0, _), (1, _), (3, _)]) hX dX7_readSum_64 rfl (by rw [hnL]; decide) rfl ?_
                refine j_aload_n hX dX7_readSum_65 rfl 2 rfl ?_
                refine gf_X7_21 hX (by omega) (by omega) kc_1 hk62 (by omega) dX7_readSum_66 ?_
                refine gf_X7_73 hX (by omega) (by omega) (kq hq) (fq_17 hI57 hq) (by omega) dX7_readSum_69 ?_
                refine j_iload hX dX7_readSum_72 1 rfl ?_
                refine j_ineg hX dX7_readSum_74 ?_
                refine j_norm (fun z64 hz65 hy66 => ?_)
                refine j_callVV hX lk_X7_179 (c_X2_put _ _ _ _ _ q _ _ (by omega) hI57 (by omega) hq) (by omega) hce rfl rfl (by omega) (by omega) (kq_15 hq) rfl rfl (Nat.le_of_ble_eq_true rfl) dX7_readSum_75 (fun M68 hp69 => ?_)
                obtain ⟨hI71, hG72⟩ := hp69
                have hV73 := KN_fr hq60 hG72 (by omega) (by omega)
                have hk74 := kp_fr hG72 (by omega) hk62
                clear hk62
                have hF75 := Fr.trans hF63 hG72 (fun a b h => by omega)
                refine j_iinc (lv' := [(3, _), (2, _), (4, _), (0, _), (1, _)]) hX dX7_readSum_78 4 rfl (by rw [hnL]; decide) rfl ?_
                refine j_goto (tgt := 8) hX dX7_readSum_81 (by decide) ?_
                refine j_sub [3, 4, 1, 0] rfl ?_
                exact ih _ _ _ (by omega) (by omega) hI71 hF75 hk74 hV73 (by first | assumption | omega) (by omega) (by omega)
  show J X B N 0 0 0 [(0, rv B 1), (1, iv a)] [] M
  refine j_aload_n hX dX7_readSum_0 rfl 0 rfl ?_
  refine j_iload_n hX dX7_readSum_1 rfl 1 rfl ?_
  refine j_callVI hX lk_X7_189 (c_X7_readTerm _ _ _ _ _ _ _ _ _ (by omega) hI (by omega) (by assumption) hto (by first | assumption | omega) (by first | assumption | omega) (by first | assumption | omega)) (by omega) hce rfl rfl (by omega) (by omega) kc_1 rfl rfl (Nat.le_of_ble_eq_true rfl) dX7_readSum_2 (fun z76 M77 hz79 hp78 => ?_)
  obtain ⟨hI80, hG81, hb82, hq83⟩ := hp78
  have hk85 := kp_fr hG81 (by omega) hto
  have hF86 := Fr.trans hF hG81 (fun a b h => by omega)
  refine j_istore_n (lv' := [(2, _), (0, _), (1, _)]) hX dX7_readSum_5 rfl (by rw [hnL]; decide) rfl ?_
  refine j_iconst hX dX7_readSum_6 ?_
  refine j_istore_n (lv' := [(3, _), (2, _), (0, _), (1, _)]) hX dX7_readSum_7 rfl (by rw [hnL]; decide) rfl ?_
  refine j_sub [2, 3, 1, 0] rfl ?_
  refine (cp (Int.toNat (51264 + 1))) _ _ _ (by omega) (by omega) hI80 hF86 hk85 hq83 (by first | assumption | omega) ?_ ?_
  · omega
  · omega
set_option maxHeartbeats 2000000 in
set_option maxRecDepth 20000 in
theorem c_X7_readOne (l : Launch) (D : va_G) (cy : Nat → ClassId) (B N : Nat) (q : Int) (d : Nat) (a : Int) (M : MM) (hN : 210 ≤ N) (hI : Iv M) (hpa : I32 a) (hq : q = 5 ∨ q = 180) (hto : M.1 1 1 = q) (hkn : KNo M) (h1 : 0 ≤ a ∧ a + d = 8) (hE : ∀ d0 : Nat, d = d0 + 1 → CE l D cy B N d0) (hO : ∀ d0 : Nat, d = d0 + 1 → CO l D cy B N d0) : CI l D cy B N (14 + 6 * d) yX7_readOne cX7_readOne 4 (some .boolean) [rv B 1, iv a] M (fun z M' => Iv M' ∧ Fr (fun a b => (a = 1 ∧ 2 ≤ b ∧ b ≤ 3) ∨ (a = 2 ∧ 3 ≤ b ∧ b ≤ 6) ∨ (a = q + 15 ∧ 3 ≤ b ∧ b ≤ 4) ∨ (a = q + 16)) M M' ∧ (0 ≤ z ∧ z ≤ 1) ∧ (KNo M')) := by
  refine mk_CI (by decide) (Nat.le_of_ble_eq_true rfl) ?_
  intro X exl exD excy hnL hX hret; subst exl; subst exD; subst excy
  have hce : 0 + 0 ≤ (xR X).cells ∧ 0 + 0 ≤ (xR X).slots := ⟨Nat.zero_le _, Nat.zero_le _⟩
  have hdq : 5 ≤ q ∧ q ≤ 180 := by omega
  have hF : Fr (fun a b => (a = 1 ∧ 2 ≤ b ∧ b ≤ 3) ∨ (a = 2 ∧ 3 ≤ b ∧ b ≤ 6) ∨ (a = q + 15 ∧ 3 ≤ b ∧ b ≤ 4) ∨ (a = q + 16)) M M := Fr.rf
  show J X B N 0 0 0 [(0, rv B 1), (1, iv a)] [] M
  refine j_aload_n hX dX7_readOne_0 rfl 0 rfl ?_
  refine gf_X7_12 hX (by omega) (by omega) kc_1 (fc_1_0 hI) (by decide) dX7_readOne_1 ?_
  refine gf_X7_44 hX (by omega) (by omega) kc_2 dX7_readOne_4 ?_
  refine j_name hI ro_2_4 (fun v1 hv2 hl3 hh4 => ?_)
  have hk5 := hv2.symm
  refine j_sipush hX dX7_readOne_7 rfl ?_
  refine j_icmp_ne (tgt := 55) hX dX7_readOne_10 (by decide) (by omega) (by omega) (fun hc6 => ?_) (fun hc6 => ?_)
  · skip
    refine j_aload_n hX dX7_readOne_55 rfl 0 rfl ?_
    refine j_iload_n hX dX7_readOne_56 rfl 1 rfl ?_
    refine j_callVI hX lk_X7_186 (c_X7_readSum _ _ _ _ _ _ _ _ _ (by omega) hI (by omega) (by assumption) hto (by first | assumption | omega) (by first | assumption | omega) (by first | assumption | omega)) (by omega) hce rfl rfl (by omega) (by omega) kc_1 rfl rfl (Nat.le_of_ble_eq_true rfl) dX7_readOne_57 (fun z7 M8 hz10 hp9 => ?_)
    obtain ⟨hI11, hG12, hb13, hq14⟩ := hp9
    have hk16 := kp_fr hG12 (by omega) hto
    clear hk5
    have hF17 := Fr.trans hF hG12 (fun a b h => by omega)
    refine j_if_ne (tgt := 65) hX dX7_readOne_60 (by decide) (by omega) (fun hc18 => ?_) (fun hc18 => ?_)
    · skip
      refine j_aload_n hX dX7_readOne_65 rfl 0 rfl ?_
      refine gf_X7_12 hX (by omega) (by omega) kc_1 (fc_1_0 hI11) (by decide) dX7_readOne_66 ?_
      refine gf_X7_44 hX (by omega) (by omega) kc_2 dX7_readOne_69 ?_
      refine j_name hI11 ro_2_4 (fun v19 hv20 hl21 hh22 => ?_)
      have hk23 := hv20.symm
      refine j_istore_n (lv' := [(2, _), (0, _), (1, _)]) hX dX7_readOne_72 rfl (by rw [hnL]; decide) rfl ?_
      refine j_iload_n hX dX7_readOne_73 rfl 0 rfl ?_
      refine j_bipush hX dX7_readOne_74 rfl ?_
      refine j_icmp_eq (tgt := 93) hX dX7_readOne_76 (by decide) (by omega) (by omega) (fun hc24 => ?_) (fun hc24 => ?_)
      · skip
        refine j_aload_n hX dX7_readOne_93 rfl 1 rfl ?_
        refine gf_X7_12 hX (by omega) (by omega) kc_1 (fc_1_0 hI11) (by decide) dX7_readOne_94 ?_
        refine j_callVV hX lk_X7_41 (c_X9_advance _ _ _ _ _ _ (by omega) hI11 (by first | assumption | omega)) (by omega) hce rfl rfl (by omega) (by omega) kc_2 rfl rfl (Nat.le_of_ble_eq_true rfl) dX7_readOne_97 (fun M26 hp27 => ?_)
        obtain ⟨hI29, hG30, hq31⟩ := hp27
        have hk33 := kp_fr hG30 (by omega) hk16
        clear hk16 hk23
        have hF34 := Fr.trans hF17 hG30 (fun a b h => by omega)
        refine j_aload_n hX dX7_readOne_100 rfl 1 rfl ?_
        refine j_iload_n hX dX7_readOne_101 rfl 2 rfl ?_
        refine j_callVI hX lk_X7_186 (c_X7_readSum _ _ _ _ _ _ _ _ _ (by omega) hI29 (by omega) (by assumption) hk33 (by first | assumption | omega) (by first | assumption | omega) (by first | assumption | omega)) (by omega) hce rfl rfl (by omega) (by omega) kc_1 rfl rfl (Nat.le_of_ble_eq_true rfl) dX7_readOne_102 (fun z35 M36 hz38 hp37 => ?_)
        obtain ⟨hI39, hG40, hb41, hq42⟩ := hp37
        have hk44 := kp_fr hG40 (by omega) hk33
        clear hk33
        have hF45 := Fr.trans hF34 hG40 (fun a b h => by omega)
        refine j_istore_n (lv' := [(3, _), (2, _), (0, _), (1, _)]) hX dX7_readOne_105 rfl (by rw [hnL]; decide) rfl ?_
        refine j_aload_n hX dX7_readOne_106 rfl 2 rfl ?_
        refine gf_X7_21 hX (by omega) (by omega) kc_1 hk44 (by omega) dX7_readOne_107 ?_
        refine gf_X7_73 hX (by omega) (by omega) (kq hq) (fq_17 hI39 hq) (by omega) dX7_readOne_110 ?_
        refine j_iload_n hX dX7_readOne_113 rfl 1 rfl ?_
        refine j_ineg hX dX7_readOne_114 ?_
        refine j_norm (fun z46 hz47 hy48 => ?_)
        refine j_callVV hX lk_X7_179 (c_X2_put _ _ _ _ _ q _ _ (by omega) hI39 (by omega) hq) (by omega) hce rfl rfl (by omega) (by omega) (kq_15 hq) rfl rfl (Nat.le_of_ble_eq_true rfl) dX7_readOne_115 (fun M50 hp51 => ?_)
        obtain ⟨hI53, hG54⟩ := hp51
        have hV55 := KN_fr hq42 hG54 (by omega) (by omega)
        have hk56 := kp_fr hG54 (by omega) hk44
        clear hk44
        have hF57 := Fr.trans hF45 hG54 (fun a b h => by omega)
        refine j_iload_n hX dX7_readOne_118 rfl 0 rfl ?_
        exact hret _ _ _ _ dX7_readOne_119 (nb (by omega)) (by omega) ⟨hI53, hF57, by omega, by first | assumption | omega⟩
      · skip
        refine j_iload_n hX dX7_readOne_79 rfl 0 rfl ?_
        refine j_bipush hX dX7_readOne_80 rfl ?_
        refine j_icmp_eq (tgt := 93) hX dX7_readOne_82 (by decide) (by omega) (by omega) (fun hc58 => ?_) (fun hc58 => ?_)
        · skip
          refine j_aload_n hX dX7_readOne_93 rfl 1 rfl ?_
          refine gf_X7_12 hX (by omega) (by omega) kc_1 (fc_1_0 hI11) (by decide) dX7_readOne_94 ?_
          refine j_callVV hX lk_X7_41 (c_X9_advance _ _ _ _ _ _ (by omega) hI11 (by first | assumption | omega)) (by omega) hce rfl rfl (by omega) (by omega) kc_2 rfl rfl (Nat.le_of_ble_eq_true rfl) dX7_readOne_97 (fun M60 hp61 => ?_)
          obtain ⟨hI63, hG64, hq65⟩ := hp61
          have hk67 := kp_fr hG64 (by omega) hk16
          clear hk16 hk23
          have hF68 := Fr.trans hF17 hG64 (fun a b h => by omega)
          refine j_aload_n hX dX7_readOne_100 rfl 1 rfl ?_
          refine j_iload_n hX dX7_readOne_101 rfl 2 rfl ?_
          refine j_callVI hX lk_X7_186 (c_X7_readSum _ _ _ _ _ _ _ _ _ (by omega) hI63 (by omega) (by assumption) hk67 (by first | assumption | omega) (by first | assumption | omega) (by first | assumption | omega)) (by omega) hce rfl rfl (by omega) (by omega) kc_1 rfl rfl (Nat.le_of_ble_eq_true rfl) dX7_readOne_102 (fun z69 M70 hz72 hp71 => ?_)
          obtain ⟨hI73, hG74, hb75, hq76⟩ := hp71
          have hk78 := kp_fr hG74 (by omega) hk67
          clear hk67
          have hF79 := Fr.trans hF68 hG74 (fun a b h => by omega)
          refine j_istore_n (lv' := [(3, _), (2, _), (0, _), (1, _)]) hX dX7_readOne_105 rfl (by rw [hnL]; decide) rfl ?_
          refine j_aload_n hX dX7_readOne_106 rfl 2 rfl ?_
          refine gf_X7_21 hX (by omega) (by omega) kc_1 hk78 (by omega) dX7_readOne_107 ?_
          refine gf_X7_73 hX (by omega) (by omega) (kq hq) (fq_17 hI73 hq) (by omega) dX7_readOne_110 ?_
          refine j_iload_n hX dX7_readOne_113 rfl 1 rfl ?_
          refine j_ineg hX dX7_readOne_114 ?_
          refine j_norm (fun z80 hz81 hy82 => ?_)
          refine j_callVV hX lk_X7_179 (c_X2_put _ _ _ _ _ q _ _ (by omega) hI73 (by omega) hq) (by omega) hce rfl rfl (by omega) (by omega) (kq_15 hq) rfl rfl (Nat.le_of_ble_eq_true rfl) dX7_readOne_115 (fun M84 hp85 => ?_)
          obtain ⟨hI87, hG88⟩ := hp85
          have hV89 := KN_fr hq76 hG88 (by omega) (by omega)
          have hk90 := kp_fr hG88 (by omega) hk78
          clear hk78
          have hF91 := Fr.trans hF79 hG88 (fun a b h => by omega)
          refine j_iload_n hX dX7_readOne_118 rfl 0 rfl ?_
          exact hret _ _ _ _ dX7_readOne_119 (nb (by omega)) (by omega) ⟨hI87, hF91, by omega, by first | assumption | omega⟩
        · skip
          refine j_iload_n hX dX7_readOne_85 rfl 0 rfl ?_
          refine j_bipush hX dX7_readOne_86 rfl ?_
          refine j_icmp_eq (tgt := 93) hX dX7_readOne_88 (by decide) (by omega) (by omega) (fun hc92 => ?_) (fun hc92 => ?_)
          · skip
            refine j_aload_n hX dX7_readOne_93 rfl 1 rfl ?_
            refine gf_X7_12 hX (by omega) (by omega) kc_1 (fc_1_0 hI11) (by decide) dX7_readOne_94 ?_
            refine j_callVV hX lk_X7_41 (c_X9_advance _ _ _ _ _ _ (by omega) hI11 (by first | assumption | omega)) (by omega) hce rfl rfl (by omega) (by omega) kc_2 rfl rfl (Nat.le_of_ble_eq_true rfl) dX7_readOne_97 (fun M94 hp95 => ?_)
            obtain ⟨hI97, hG98, hq99⟩ := hp95
            have hk101 := kp_fr hG98 (by omega) hk16
            clear hk16 hk23
            have hF102 := Fr.trans hF17 hG98 (fun a b h => by omega)
            refine j_aload_n hX dX7_readOne_100 rfl 1 rfl ?_
            refine j_iload_n hX dX7_readOne_101 rfl 2 rfl ?_
            refine j_callVI hX lk_X7_186 (c_X7_readSum _ _ _ _ _ _ _ _ _ (by omega) hI97 (by omega) (by assumption) hk101 (by first | assumption | omega) (by first | assumption | omega) (by first | assumption | omega)) (by omega) hce rfl rfl (by omega) (by omega) kc_1 rfl rfl (Nat.le_of_ble_eq_true rfl) dX7_readOne_102 (fun z103 M104 hz106 hp105 => ?_)
            obtain ⟨hI107, hG108, hb109, hq110⟩ := hp105
            have hk112 := kp_fr hG108 (by omega) hk101
            clear hk101
            have hF113 := Fr.trans hF102 hG108 (fun a b h => by omega)
            refine j_istore_n (lv' := [(3, _), (2, _), (0, _), (1, _)]) hX dX7_readOne_105 rfl (by rw [hnL]; decide) rfl ?_
            refine j_aload_n hX dX7_readOne_106 rfl 2 rfl ?_
            refine gf_X7_21 hX (by omega) (by omega) kc_1 hk112 (by omega) dX7_readOne_107 ?_
            refine gf_X7_73 hX (by omega) (by omega) (kq hq) (fq_17 hI107 hq) (by omega) dX7_readOne_110 ?_
            refine j_iload_n hX dX7_readOne_113 rfl 1 rfl ?_
            refine j_ineg hX dX7_readOne_114 ?_
            refine j_norm (fun z114 hz115 hy116 => ?_)
            refine j_callVV hX lk_X7_179 (c_X2_put _ _ _ _ _ q _ _ (by omega) hI107 (by omega) hq) (by omega) hce rfl rfl (by omega) (by omega) (kq_15 hq) rfl rfl (Nat.le_of_ble_eq_true rfl) dX7_readOne_115 (fun M118 hp119 => ?_)
            obtain ⟨hI121, hG122⟩ := hp119
            have hV123 := KN_fr hq110 hG122 (by omega) (by omega)
            have hk124 := kp_fr hG122 (by omega) hk112
            clear hk112
            have hF125 := Fr.trans hF113 hG122 (fun a b h => by omega)
            refine j_iload_n hX dX7_readOne_118 rfl 0 rfl ?_
            exact hret _ _ _ _ dX7_readOne_119 (nb (by omega)) (by omega) ⟨hI121, hF125, by omega, by first | assumption | omega⟩
          · skip
            refine j_iconst hX dX7_readOne_91 ?_
            exact hret _ _ _ _ dX7_readOne_92 (nb (by omega)) (by omega) ⟨hI11, hF17, by omega, by first | assumption | omega⟩
    · skip
      refine j_iconst hX dX7_readOne_63 ?_
      exact hret _ _ _ _ dX7_readOne_64 (nb (by omega)) (by omega) ⟨hI11, hF17, by omega, by first | assumption | omega⟩
  · skip
    refine j_iload_n hX dX7_readOne_13 rfl 1 rfl ?_
    refine j_bipush hX dX7_readOne_14 rfl ?_
    refine j_icmp_le (tgt := 25) hX dX7_readOne_16 (by decide) (by omega) (by omega) (fun hc126 => ?_) (fun hc126 => ?_)
    · skip
      refine j_aload_n hX dX7_readOne_25 rfl 0 rfl ?_
      refine gf_X7_12 hX (by omega) (by omega) kc_1 (fc_1_0 hI) (by decide) dX7_readOne_26 ?_
      refine j_callVV hX lk_X7_41 (c_X9_advance _ _ _ _ _ _ (by omega) hI (by first | assumption | omega)) (by omega) hce rfl rfl (by omega) (by omega) kc_2 rfl rfl (Nat.le_of_ble_eq_true rfl) dX7_readOne_29 (fun M128 hp129 => ?_)
      obtain ⟨hI131, hG132, hq133⟩ := hp129
      have hk135 := kp_fr hG132 (by omega) hto
      clear hk5
      have hF136 := Fr.trans hF hG132 (fun a b h => by omega)
      refine j_aload_n hX dX7_readOne_32 rfl 0 rfl ?_
      refine j_iload_n hX dX7_readOne_33 rfl 1 rfl ?_
      refine j_iconst hX dX7_readOne_34 ?_
      refine j_iadd hX dX7_readOne_35 ?_
      obtain ⟨d0, hd0⟩ : ∃ d0 : Nat, d = d0 + 1 := ⟨d - 1, by omega⟩
      refine j_callVI hX lk_X7_183 (hO d0 hd0 _ _ _ (by omega) hI131 (by omega) (by assumption) hk135 (by first | assumption | omega) (by omega)) (by omega) hce rfl rfl (by omega) (by omega) kc_1 rfl rfl (Nat.le_of_ble_eq_true rfl) dX7_readOne_36 (fun z137 M138 hz140 hp139 => ?_)
      obtain ⟨hI141, hG142, hb143, hq144⟩ := hp139
      have hk146 := kp_fr hG142 (by omega) hk135
      clear hk135
      have hF147 := Fr.trans hF136 hG142 (fun a b h => by omega)
      refine j_istore_n (lv' := [(2, _), (0, _), (1, _)]) hX dX7_readOne_39 rfl (by rw [hnL]; decide) rfl ?_
      refine j_aload_n hX dX7_readOne_40 rfl 1 rfl ?_
      refine gf_X7_21 hX (by omega) (by omega) kc_1 hk146 (by omega) dX7_readOne_41 ?_
      refine gf_X7_73 hX (by omega) (by omega) (kq hq) (fq_17 hI141 hq) (by omega) dX7_readOne_44 ?_
      refine j_sipush hX dX7_readOne_47 rfl ?_
      refine j_callVV hX lk_X7_179 (c_X2_put _ _ _ _ _ q _ _ (by omega) hI141 (by omega) hq) (by omega) hce rfl rfl (by omega) (by omega) (kq_15 hq) rfl rfl (Nat.le_of_ble_eq_true rfl) dX7_readOne_50 (fun M149 hp150 => ?_)
      obtain ⟨hI152, hG153⟩ := hp150
      have hV154 := KN_fr hq144 hG153 (by omega) (by omega)
      have hk155 := kp_fr hG153 (by omega) hk146
      clear hk146
      have hF156 := Fr.trans hF147 hG153 (fun a b h => by omega)
      refine j_iload_n hX dX7_readOne_53 rfl 0 rfl ?_
      exact hret _ _ _ _ dX7_readOne_54 (nb (by omega)) (by omega) ⟨hI152, hF156, by omega, by first | assumption | omega⟩
    · skip
      refine j_aload_n hX dX7_readOne_19 rfl 0 rfl ?_
      refine j_iconst hX dX7_readOne_20 ?_
      refine j_callVI hX lk_X7_95 (c_X7_refuse _ _ _ _ _ _ _ _ (by omega) hI (by omega) (by assumption) hto) (by omega) hce rfl rfl (by omega) (by omega) kc_1 rfl rfl (Nat.le_of_ble_eq_true rfl) dX7_readOne_21 (fun z157 M158 hz160 hp159 => ?_)
      obtain ⟨hI161, hG162, hb163, hq164⟩ := hp159
      have hV165 := KN_fr hkn hG162 (by omega) (by omega)
      have hk166 := kp_fr hG162 (by omega) hto
      have hk167 := kp_fr hG162 (by omega) hk5
      clear hk5
      have hF168 := Fr.trans hF hG162 (fun a b h => by omega)
      exact hret _ _ _ _ dX7_readOne_24 (nb (by omega)) (by omega) ⟨hI161, hF168, by omega, by first | assumption | omega⟩
set_option maxHeartbeats 2000000 in
set_option maxRecDepth 20000 in
theorem c_X7_readBoth (l : Launch) (D : va_G) (cy : Nat → ClassId) (B N : Nat) (q : Int) (d : Nat) (a : Int) (M : MM) (hN : 210 ≤ N) (hI : Iv M) (hpa : I32 a) (hq : q = 5 ∨ q = 180) (hto : M.1 1 1 = q) (hkn : KNo M) (h1 : 0 ≤ a ∧ a + d = 8) (hE : ∀ d0 : Nat, d = d0 + 1 → CE l D cy B N d0) (hO : ∀ d0 : Nat, d = d0 + 1 → CO l D cy B N d0) : CI l D cy B N (15 + 6 * d) yX7_readBoth cX7_readBoth 4 (some .boolean) [rv B 1, iv a] M (fun z M' => Iv M' ∧ Fr (fun a b => (a = 1 ∧ 2 ≤ b ∧ b ≤ 3) ∨ (a = 2 ∧ 3 ≤ b ∧ b ≤ 6) ∨ (a = q + 15 ∧ 3 ≤ b ∧ b ≤ 4) ∨ (a = q + 16)) M M' ∧ (0 ≤ z ∧ z ≤ 1) ∧ (KNo M')) := by
  refine mk_CI (by decide) (Nat.le_of_ble_eq_true rfl) ?_
  intro X exl exD excy hnL hX hret; subst exl; subst exD; subst excy
  have hce : 0 + 0 ≤ (xR X).cells ∧ 0 + 0 ≤ (xR X).slots := ⟨Nat.zero_le _, Nat.zero_le _⟩
  have hdq : 5 ≤ q ∧ q ≤ 180 := by omega
  have hF : Fr (fun a b => (a = 1 ∧ 2 ≤ b ∧ b ≤ 3) ∨ (a = 2 ∧ 3 ≤ b ∧ b ≤ 6) ∨ (a = q + 15 ∧ 3 ≤ b ∧ b ≤ 4) ∨ (a = q + 16)) M M := Fr.rf
  have cp : ∀ n : Nat, (∀ (x2 x3 : Int), ∀ (Mc : MM), I32 x2 → I32 x3 → Iv Mc → Fr (fun a b => (a = 1 ∧ 2 ≤ b ∧ b ≤ 3) ∨ (a = 2 ∧ 3 ≤ b ∧ b ≤ 6) ∨ (a = q + 15 ∧ 3 ≤ b ∧ b ≤ 4) ∨ (a = q + 16)) M Mc → Mc.1 1 1 = q → KNo Mc → (0 ≤ x3 ∧ x3 ≤ 1600 ∧ 0 ≤ x2 ∧ x2 ≤ 1) → 0 ≤ 32 * (1600 - x3) + 1 → 32 * (1600 - x3) + 1 < (n : Int) → J X B N 0 0 8 [(0, rv B 1), (1, iv a), (2, iv x2), (3, iv x3)] [] Mc) := by
    intro n
    induction n with
    | zero => exact by intros; exfalso; omega
    | succ n ih =>
      · intro x2 x3 Mc hxx2 hxx3 hI hF hk_0 hV_0 h2 hm0 hm1
        refine j_iload_n hX dX7_readBoth_8 rfl 3 rfl ?_
        refine j_sipush hX dX7_readBoth_9 rfl ?_
        refine j_icmp_ge (tgt := 64) hX dX7_readBoth_12 (by decide) (by omega) (by omega) (fun hc1 => ?_) (fun hc1 => ?_)
        · skip
          refine j_iload_n hX dX7_readBoth_64 rfl 2 rfl ?_
          exact hret _ _ _ _ dX7_readBoth_65 (nb (by omega)) (by omega) ⟨hI, hF, by omega, by first | assumption | omega⟩
        · skip
          refine j_iload_n hX dX7_readBoth_15 rfl 2 rfl ?_
          refine j_if_eq (tgt := 64) hX dX7_readBoth_16 (by decide) (by omega) (fun hc2 => ?_) (fun hc2 => ?_)
          · skip
            refine j_iload_n hX dX7_readBoth_64 rfl 2 rfl ?_
            exact hret _ _ _ _ dX7_readBoth_65 (nb (by omega)) (by omega) ⟨hI, hF, by omega, by first | assumption | omega⟩
          · skip
            refine j_aload_n hX dX7_readBoth_19 rfl 0 rfl ?_
            refine gf_X7_12 hX (by omega) (by omega) kc_1 (fc_1_0 hI) (by decide) dX7_readBoth_20 ?_
            refine gf_X7_44 hX (by omega) (by omega) kc_2 dX7_readBoth_23 ?_
            refine j_name hI ro_2_4 (fun v3 hv4 hl5 hh6 => ?_)
            have hk7 := hv4.symm
            refine j_sipush hX dX7_readBoth_26 rfl ?_
            refine j_icmp_ne (tgt := 64) hX dX7_readBoth_29 (by decide) (by omega) (by omega) (fun hc8 => ?_) (fun hc8 => ?_)
            · skip
              refine j_iload_n hX dX7_readBoth_64 rfl 2 rfl ?_
              exact hret _ _ _ _ dX7_readBoth_65 (nb (by omega)) (by omega) ⟨hI, hF, by omega, by first | assumption | omega⟩
            · skip
              refine j_aload_n hX dX7_readBoth_32 rfl 0 rfl ?_
              refine gf_X7_12 hX (by omega) (by omega) kc_1 (fc_1_0 hI) (by decide) dX7_readBoth_33 ?_
              refine j_callVV hX lk_X7_41 (c_X9_advance _ _ _ _ _ _ (by omega) hI (by first | assumption | omega)) (by omega) hce rfl rfl (by omega) (by omega) kc_2 rfl rfl (Nat.le_of_ble_eq_true rfl) dX7_readBoth_36 (fun M10 hp11 => ?_)
              obtain ⟨hI13, hG14, hq15⟩ := hp11
              have hk17 := kp_fr hG14 (by omega) hk_0
              clear hk7
              have hF18 := Fr.trans hF hG14 (fun a b h => by omega)
              refine j_aload_n hX dX7_readBoth_39 rfl 0 rfl ?_
              refine j_iload_n hX dX7_readBoth_40 rfl 1 rfl ?_
              refine j_callVI hX lk_X7_183 (c_X7_readOne _ _ _ _ _ _ _ _ _ (by omega) hI13 (by omega) (by assumption) hk17 (by first | assumption | omega) (by first | assumption | omega) (by first | assumption | omega) (by first | assumption | omega)) (by omega) hce rfl rfl (by omega) (by omega) kc_1 rfl rfl (Nat.le_of_ble_eq_true rfl) dX7_readBoth_41 (fun z19 M20 hz22 hp21 => ?_)
              obtain ⟨hI23, hG24, hb25, hq26⟩ := hp21
              have hk28 := kp_fr hG24 (by omega) hk17
              clear hk17
              have hF29 := Fr.trans hF18 hG24 (fun a b h => by omega)
              refine j_istore_n (lv' := [(2, _), (0, _), (1, _), (3, _)]) hX dX7_readBoth_44 rfl (by rw [hnL]; decide) rfl ?_
              refine j_aload_n hX dX7_readBoth_45 rfl 1 rfl ?_
              refine gf_X7_21 hX (by omega) (by omega) kc_1 hk28 (by omega) dX7_readBoth_46 ?_
              refine gf_X7_73 hX (by omega) (by omega) (kq hq) (fq_17 hI23 hq) (by omega) dX7_readBoth_49 ?_
              refine j_sipush hX dX7_readBoth_52 rfl ?_
              refine j_callVV hX lk_X7_179 (c_X2_put _ _ _ _ _ q _ _ (by omega) hI23 (by omega) hq) (by omega) hce rfl rfl (by omega) (by omega) (kq_15 hq) rfl rfl (Nat.le_of_ble_eq_true rfl) dX7_readBoth_55 (fun M31 hp32 => ?_)
              obtain ⟨hI34, hG35⟩ := hp32
              have hV36 := KN_fr hq26 hG35 (by omega) (by omega)
              have hk37 := kp_fr hG35 (by omega) hk28
              clear hk28
              have hF38 := Fr.trans hF29 hG35 (fun a b h => by omega)
              refine j_iinc (lv' := [(3, _), (2, _), (0, _), (1, _)]) hX dX7_readBoth_58 3 rfl (by rw [hnL]; decide) rfl ?_
              refine j_goto (tgt := 8) hX dX7_readBoth_61 (by decide) ?_
              refine j_sub [2, 3, 1, 0] rfl ?_
              exact ih _ _ _ (by omega) (by omega) hI34 hF38 hk37 hV36 (by first | assumption | omega) (by omega) (by omega)
  show J X B N 0 0 0 [(0, rv B 1), (1, iv a)] [] M
  refine j_aload_n hX dX7_readBoth_0 rfl 0 rfl ?_
  refine j_iload_n hX dX7_readBoth_1 rfl 1 rfl ?_
  refine j_callVI hX lk_X7_183 (c_X7_readOne _ _ _ _ _ _ _ _ _ (by omega) hI (by omega) (by assumption) hto (by first | assumption | omega) (by first | assumption | omega) (by first | assumption | omega) (by first | assumption | omega)) (by omega) hce rfl rfl (by omega) (by omega) kc_1 rfl rfl (Nat.le_of_ble_eq_true rfl) dX7_readBoth_2 (fun z39 M40 hz42 hp41 => ?_)
  obtain ⟨hI43, hG44, hb45, hq46⟩ := hp41
  have hk48 := kp_fr hG44 (by omega) hto
  have hF49 := Fr.trans hF hG44 (fun a b h => by omega)
  refine j_istore_n (lv' := [(2, _), (0, _), (1, _)]) hX dX7_readBoth_5 rfl (by rw [hnL]; decide) rfl ?_
  refine j_iconst hX dX7_readBoth_6 ?_
  refine j_istore_n (lv' := [(3, _), (2, _), (0, _), (1, _)]) hX dX7_readBoth_7 rfl (by rw [hnL]; decide) rfl ?_
  refine j_sub [2, 3, 1, 0] rfl ?_
  refine (cp (Int.toNat (51264 + 1))) _ _ _ (by omega) (by omega) hI43 hF49 hk48 hq46 (by first | assumption | omega) ?_ ?_
  · omega
  · omega
set_option maxHeartbeats 2000000 in
set_option maxRecDepth 20000 in
theorem c_X7_readEither (l : Launch) (D : va_G) (cy : Nat → ClassId) (B N : Nat) (q : Int) (d : Nat) (a : Int) (M : MM) (hN : 210 ≤ N) (hI : Iv M) (hpa : I32 a) (hq : q = 5 ∨ q = 180) (hto : M.1 1 1 = q) (hkn : KNo M) (h1 : 0 ≤ a ∧ a + d = 8) (hE : ∀ d0 : Nat, d = d0 + 1 → CE l D cy B N d0) (hO : ∀ d0 : Nat, d = d0 + 1 → CO l D cy B N d0) : CI l D cy B N (16 + 6 * d) yX7_readEither cX7_readEither 4 (some .boolean) [rv B 1, iv a] M (fun z M' => Iv M' ∧ Fr (fun a b => (a = 1 ∧ 2 ≤ b ∧ b ≤ 3) ∨ (a = 2 ∧ 3 ≤ b ∧ b ≤ 6) ∨ (a = q + 15 ∧ 3 ≤ b ∧ b ≤ 4) ∨ (a = q + 16)) M M' ∧ (0 ≤ z ∧ z ≤ 1) ∧ (KNo M')) := by
  refine mk_CI (by decide) (Nat.le_of_ble_eq_true rfl) ?_
  intro X exl exD excy hnL hX hret; subst exl; subst exD; subst excy
  have hce : 0 + 0 ≤ (xR X).cells ∧ 0 + 0 ≤ (xR X).slots := ⟨Nat.zero_le _, Nat.zero_le _⟩
  have hdq : 5 ≤ q ∧ q ≤ 180 := by omega
  have hF : Fr (fun a b => (a = 1 ∧ 2 ≤ b ∧ b ≤ 3) ∨ (a = 2 ∧ 3 ≤ b ∧ b ≤ 6) ∨ (a = q + 15 ∧ 3 ≤ b ∧ b ≤ 4) ∨ (a = q + 16)) M M := Fr.rf
  have cp : ∀ n : Nat, (∀ (x2 x3 : Int), ∀ (Mc : MM), I32 x2 → I32 x3 → Iv Mc → Fr (fun a b => (a = 1 ∧ 2 ≤ b ∧ b ≤ 3) ∨ (a = 2 ∧ 3 ≤ b ∧ b ≤ 6) ∨ (a = q + 15 ∧ 3 ≤ b ∧ b ≤ 4) ∨ (a = q + 16)) M Mc → Mc.1 1 1 = q → KNo Mc → (0 ≤ x3 ∧ x3 ≤ 1600 ∧ 0 ≤ x2 ∧ x2 ≤ 1) → 0 ≤ 32 * (1600 - x3) + 1 → 32 * (1600 - x3) + 1 < (n : Int) → J X B N 0 0 8 [(0, rv B 1), (1, iv a), (2, iv x2), (3, iv x3)] [] Mc) := by
    intro n
    induction n with
    | zero => exact by intros; exfalso; omega
    | succ n ih =>
      · intro x2 x3 Mc hxx2 hxx3 hI hF hk_0 hV_0 h2 hm0 hm1
        refine j_iload_n hX dX7_readEither_8 rfl 3 rfl ?_
        refine j_sipush hX dX7_readEither_9 rfl ?_
        refine j_icmp_ge (tgt := 64) hX dX7_readEither_12 (by decide) (by omega) (by omega) (fun hc1 => ?_) (fun hc1 => ?_)
        · skip
          refine j_iload_n hX dX7_readEither_64 rfl 2 rfl ?_
          exact hret _ _ _ _ dX7_readEither_65 (nb (by omega)) (by omega) ⟨hI, hF, by omega, by first | assumption | omega⟩
        · skip
          refine j_iload_n hX dX7_readEither_15 rfl 2 rfl ?_
          refine j_if_eq (tgt := 64) hX dX7_readEither_16 (by decide) (by omega) (fun hc2 => ?_) (fun hc2 => ?_)
          · skip
            refine j_iload_n hX dX7_readEither_64 rfl 2 rfl ?_
            exact hret _ _ _ _ dX7_readEither_65 (nb (by omega)) (by omega) ⟨hI, hF, by omega, by first | assumption | omega⟩
          · skip
            refine j_aload_n hX dX7_readEither_19 rfl 0 rfl ?_
            refine gf_X7_12 hX (by omega) (by omega) kc_1 (fc_1_0 hI) (by decide) dX7_readEither_20 ?_
            refine gf_X7_44 hX (by omega) (by omega) kc_2 dX7_readEither_23 ?_
            refine j_name hI ro_2_4 (fun v3 hv4 hl5 hh6 => ?_)
            have hk7 := hv4.symm
            refine j_sipush hX dX7_readEither_26 rfl ?_
            refine j_icmp_ne (tgt := 64) hX dX7_readEither_29 (by decide) (by omega) (by omega) (fun hc8 => ?_) (fun hc8 => ?_)
            · skip
              refine j_iload_n hX dX7_readEither_64 rfl 2 rfl ?_
              exact hret _ _ _ _ dX7_readEither_65 (nb (by omega)) (by omega) ⟨hI, hF, by omega, by first | assumption | omega⟩
            · skip
              refine j_aload_n hX dX7_readEither_32 rfl 0 rfl ?_
              refine gf_X7_12 hX (by omega) (by omega) kc_1 (fc_1_0 hI) (by decide) dX7_readEither_33 ?_
              refine j_callVV hX lk_X7_41 (c_X9_advance _ _ _ _ _ _ (by omega) hI (by first | assumption | omega)) (by omega) hce rfl rfl (by omega) (by omega) kc_2 rfl rfl (Nat.le_of_ble_eq_true rfl) dX7_readEither_36 (fun M10 hp11 => ?_)
              obtain ⟨hI13, hG14, hq15⟩ := hp11
              have hk17 := kp_fr hG14 (by omega) hk_0
              clear hk7
              have hF18 := Fr.trans hF hG14 (fun a b h => by omega)
              refine j_aload_n hX dX7_readEither_39 rfl 0 rfl ?_
              refine j_iload_n hX dX7_readEither_40 rfl 1 rfl ?_
              refine j_callVI hX lk_X7_176 (c_X7_readBoth _ _ _ _ _ _ _ _ _ (by omega) hI13 (by omega) (by assumption) hk17 (by first | assumption | omega) (by first | assumption | omega) (by first | assumption | omega) (by first | assumption | omega)) (by omega) hce rfl rfl (by omega) (by omega) kc_1 rfl rfl (Nat.le_of_ble_eq_true rfl) dX7_readEither_41 (fun z19 M20 hz22 hp21 => ?_)
              obtain ⟨hI23, hG24, hb25, hq26⟩ := hp21
              have hk28 := kp_fr hG24 (by omega) hk17
              clear hk17
              have hF29 := Fr.trans hF18 hG24 (fun a b h => by omega)
              refine j_istore_n (lv' := [(2, _), (0, _), (1, _), (3, _)]) hX dX7_readEither_44 rfl (by rw [hnL]; decide) rfl ?_
              refine j_aload_n hX dX7_readEither_45 rfl 1 rfl ?_
              refine gf_X7_21 hX (by omega) (by omega) kc_1 hk28 (by omega) dX7_readEither_46 ?_
              refine gf_X7_73 hX (by omega) (by omega) (kq hq) (fq_17 hI23 hq) (by omega) dX7_readEither_49 ?_
              refine j_sipush hX dX7_readEither_52 rfl ?_
              refine j_callVV hX lk_X7_179 (c_X2_put _ _ _ _ _ q _ _ (by omega) hI23 (by omega) hq) (by omega) hce rfl rfl (by omega) (by omega) (kq_15 hq) rfl rfl (Nat.le_of_ble_eq_true rfl) dX7_readEither_55 (fun M31 hp32 => ?_)
              obtain ⟨hI34, hG35⟩ := hp32
              have hV36 := KN_fr hq26 hG35 (by omega) (by omega)
              have hk37 := kp_fr hG35 (by omega) hk28
              clear hk28
              have hF38 := Fr.trans hF29 hG35 (fun a b h => by omega)
              refine j_iinc (lv' := [(3, _), (2, _), (0, _), (1, _)]) hX dX7_readEither_58 3 rfl (by rw [hnL]; decide) rfl ?_
              refine j_goto (tgt := 8) hX dX7_readEither_61 (by decide) ?_
              refine j_sub [2, 3, 1, 0] rfl ?_
              exact ih _ _ _ (by omega) (by omega) hI34 hF38 hk37 hV36 (by first | assumption | omega) (by omega) (by omega)
  show J X B N 0 0 0 [(0, rv B 1), (1, iv a)] [] M
  refine j_aload_n hX dX7_readEither_0 rfl 0 rfl ?_
  refine j_iload_n hX dX7_readEither_1 rfl 1 rfl ?_
  refine j_callVI hX lk_X7_176 (c_X7_readBoth _ _ _ _ _ _ _ _ _ (by omega) hI (by omega) (by assumption) hto (by first | assumption | omega) (by first | assumption | omega) (by first | assumption | omega) (by first | assumption | omega)) (by omega) hce rfl rfl (by omega) (by omega) kc_1 rfl rfl (Nat.le_of_ble_eq_true rfl) dX7_readEither_2 (fun z39 M40 hz42 hp41 => ?_)
  obtain ⟨hI43, hG44, hb45, hq46⟩ := hp41
  have hk48 := kp_fr hG44 (by omega) hto
  have hF49 := Fr.trans hF hG44 (fun a b h => by omega)
  refine j_istore_n (lv' := [(2, _), (0, _), (1, _)]) hX dX7_readEither_5 rfl (by rw [hnL]; decide) rfl ?_
  refine j_iconst hX dX7_readEither_6 ?_
  refine j_istore_n (lv' := [(3, _), (2, _), (0, _), (1, _)]) hX dX7_readEither_7 rfl (by rw [hnL]; decide) rfl ?_
  refine j_sub [2, 3, 1, 0] rfl ?_
  refine (cp (Int.toNat (51264 + 1))) _ _ _ (by omega) (by omega) hI43 hF49 hk48 hq46 (by first | assumption | omega) ?_ ?_
  · omega
  · omega
theorem grp_ (l : Launch) (D : va_G) (cy : Nat → ClassId) (B N : Nat) : ∀ d : Nat, CE l D cy B N d ∧ CO l D cy B N d := by
  intro d
  induction d with
  | zero =>
    refine ⟨fun q a M hN hI hpa hq hto hkn h1 => ?_, fun q a M hN hI hpa hq hto hkn h1 => ?_⟩
    · exact c_X7_readEither l D cy B N q 0 a M hN hI hpa hq hto hkn h1 (fun d0 h => absurd h (by omega)) (fun d0 h => absurd h (by omega))
    · exact c_X7_readOne l D cy B N q 0 a M hN hI hpa hq hto hkn h1 (fun d0 h => absurd h (by omega)) (fun d0 h => absurd h (by omega))
  | succ d ih =>
    refine ⟨fun q a M hN hI hpa hq hto hkn h1 => ?_, fun q a M hN hI hpa hq hto hkn h1 => ?_⟩
    · exact c_X7_readEither l D cy B N q (d + 1) a M hN hI hpa hq hto hkn h1 (fun d0 h => by cases h; exact ih.1) (fun d0 h => by cases h; exact ih.2)
    · exact c_X7_readOne l D cy B N q (d + 1) a M hN hI hpa hq hto hkn h1 (fun d0 h => by cases h; exact ih.1) (fun d0 h => by cases h; exact ih.2)
theorem c_either (l : Launch) (D : va_G) (cy : Nat → ClassId) (B N : Nat) (q : Int) (a : Int) (M : MM) (hN : 210 ≤ N) (hI : Iv M) (hpa : I32 a) (hq : q = 5 ∨ q = 180) (hto : M.1 1 1 = q) (hkn : KNo M) (h1 : a = 0) : CI l D cy B N 64 yX7_readEither cX7_readEither 4 (some .boolean) [rv B 1, iv a] M (fun z M' => Iv M' ∧ Fr (fun a b => (a = 1 ∧ 2 ≤ b ∧ b ≤ 3) ∨ (a = 2 ∧ 3 ≤ b ∧ b ≤ 6) ∨ (a = q + 15 ∧ 3 ≤ b ∧ b ≤ 4) ∨ (a = q + 16)) M M' ∧ (0 ≤ z ∧ z ≤ 1) ∧ (KNo M')) := (grp_ l D cy B N 8).1 q a M hN hI hpa hq hto hkn (by omega)
