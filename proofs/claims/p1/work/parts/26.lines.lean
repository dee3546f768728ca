theorem dX7_readRoom_0 : decode cX7_readRoom 0 = .ok (.aload_n 0, 1) := by decide +kernel
theorem dX7_readRoom_1 : decode cX7_readRoom 1 = .ok (.getfield 21, 3) := by decide +kernel
theorem dX7_readRoom_4 : decode cX7_readRoom 4 = .ok (.getfield 98, 3) := by decide +kernel
theorem dX7_readRoom_7 : decode cX7_readRoom 7 = .ok (.istore_n 1, 1) := by decide +kernel
theorem dX7_readRoom_8 : decode cX7_readRoom 8 = .ok (.aload_n 0, 1) := by decide +kernel
theorem dX7_readRoom_9 : decode cX7_readRoom 9 = .ok (.iload_n 1, 1) := by decide +kernel
theorem dX7_readRoom_10 : decode cX7_readRoom 10 = .ok (.bipush 6, 2) := by decide +kernel
theorem dX7_readRoom_12 : decode cX7_readRoom 12 = .ok (.if_icmp .ge 17, 3) := by decide +kernel
theorem dX7_readRoom_15 : decode cX7_readRoom 15 = .ok (.aload_n 0, 1) := by decide +kernel
theorem dX7_readRoom_16 : decode cX7_readRoom 16 = .ok (.getfield 21, 3) := by decide +kernel
theorem dX7_readRoom_19 : decode cX7_readRoom 19 = .ok (.getfield 101, 3) := by decide +kernel
theorem dX7_readRoom_22 : decode cX7_readRoom 22 = .ok (.ifCond .ne 7, 3) := by decide +kernel
theorem dX7_readRoom_25 : decode cX7_readRoom 25 = .ok (.iconst 1, 1) := by decide +kernel
theorem dX7_readRoom_26 : decode cX7_readRoom 26 = .ok (.goto 4, 3) := by decide +kernel
theorem dX7_readRoom_29 : decode cX7_readRoom 29 = .ok (.iconst 0, 1) := by decide +kernel
theorem dX7_readRoom_30 : decode cX7_readRoom 30 = .ok (.invokevirtual 82, 3) := by decide +kernel
theorem dX7_readRoom_33 : decode cX7_readRoom 33 = .ok (.ifCond .eq 10, 3) := by decide +kernel
theorem dX7_readRoom_36 : decode cX7_readRoom 36 = .ok (.aload_n 0, 1) := by decide +kernel
theorem dX7_readRoom_37 : decode cX7_readRoom 37 = .ok (.invokevirtual 105, 3) := by decide +kernel
theorem dX7_readRoom_40 : decode cX7_readRoom 40 = .ok (.ifCond .ne 5, 3) := by decide +kernel
theorem dX7_readRoom_43 : decode cX7_readRoom 43 = .ok (.iconst 0, 1) := by decide +kernel
theorem dX7_readRoom_44 : decode cX7_readRoom 44 = .ok (.ireturn, 1) := by decide +kernel
theorem dX7_readRoom_45 : decode cX7_readRoom 45 = .ok (.aload_n 0, 1) := by decide +kernel
theorem dX7_readRoom_46 : decode cX7_readRoom 46 = .ok (.getfield 21, 3) := by decide +kernel
theorem dX7_readRoom_49 : decode cX7_readRoom 49 = .ok (.aload_n 0, 1) := by decide +kernel
theorem dX7_readRoom_50 : decode cX7_readRoom 50 = .ok (.getfield 12, 3) := by decide +kernel
theorem dX7_readRoom_53 : decode cX7_readRoom 53 = .ok (.getfield 108, 3) := by decide +kernel
theorem dX7_readRoom_56 : decode cX7_readRoom 56 = .ok (.invokevirtual 112, 3) := by decide +kernel
theorem dX7_readRoom_59 : decode cX7_readRoom 59 = .ok (.iconst (-1), 1) := by decide +kernel
theorem dX7_readRoom_60 : decode cX7_readRoom 60 = .ok (.if_icmp .eq 9, 3) := by decide +kernel
theorem dX7_readRoom_63 : decode cX7_readRoom 63 = .ok (.aload_n 0, 1) := by decide +kernel
theorem dX7_readRoom_64 : decode cX7_readRoom 64 = .ok (.iconst 3, 1) := by decide +kernel
theorem dX7_readRoom_65 : decode cX7_readRoom 65 = .ok (.invokevirtual 95, 3) := by decide +kernel
theorem dX7_readRoom_68 : decode cX7_readRoom 68 = .ok (.ireturn, 1) := by decide +kernel
theorem dX7_readRoom_69 : decode cX7_readRoom 69 = .ok (.aload_n 0, 1) := by decide +kernel
theorem dX7_readRoom_70 : decode cX7_readRoom 70 = .ok (.getfield 21, 3) := by decide +kernel
theorem dX7_readRoom_73 : decode cX7_readRoom 73 = .ok (.getfield 116, 3) := by decide +kernel
theorem dX7_readRoom_76 : decode cX7_readRoom 76 = .ok (.iload_n 1, 1) := by decide +kernel
theorem dX7_readRoom_77 : decode cX7_readRoom 77 = .ok (.aload_n 0, 1) := by decide +kernel
theorem dX7_readRoom_78 : decode cX7_readRoom 78 = .ok (.getfield 12, 3) := by decide +kernel
theorem dX7_readRoom_81 : decode cX7_readRoom 81 = .ok (.getfield 108, 3) := by decide +kernel
theorem dX7_readRoom_84 : decode cX7_readRoom 84 = .ok (.lastore, 1) := by decide +kernel
theorem dX7_readRoom_85 : decode cX7_readRoom 85 = .ok (.aload_n 0, 1) := by decide +kernel
theorem dX7_readRoom_86 : decode cX7_readRoom 86 = .ok (.getfield 12, 3) := by decide +kernel
theorem dX7_readRoom_89 : decode cX7_readRoom 89 = .ok (.invokevirtual 41, 3) := by decide +kernel
theorem dX7_readRoom_92 : decode cX7_readRoom 92 = .ok (.aload_n 0, 1) := by decide +kernel
theorem dX7_readRoom_93 : decode cX7_readRoom 93 = .ok (.sipush 201, 3) := by decide +kernel
theorem dX7_readRoom_96 : decode cX7_readRoom 96 = .ok (.invokevirtual 51, 3) := by decide +kernel
theorem dX7_readRoom_99 : decode cX7_readRoom 99 = .ok (.ifCond .eq 12, 3) := by decide +kernel
theorem dX7_readRoom_102 : decode cX7_readRoom 102 = .ok (.aload_n 0, 1) := by decide +kernel
theorem dX7_readRoom_103 : decode cX7_readRoom 103 = .ok (.bipush 9, 2) := by decide +kernel
theorem dX7_readRoom_105 : decode cX7_readRoom 105 = .ok (.invokevirtual 120, 3) := by decide +kernel
theorem dX7_readRoom_108 : decode cX7_readRoom 108 = .ok (.ifCond .ne 5, 3) := by decide +kernel
theorem dX7_readRoom_111 : decode cX7_readRoom 111 = .ok (.iconst 0, 1) := by decide +kernel
theorem dX7_readRoom_112 : decode cX7_readRoom 112 = .ok (.ireturn, 1) := by decide +kernel
theorem dX7_readRoom_113 : decode cX7_readRoom 113 = .ok (.aload_n 0, 1) := by decide +kernel
theorem dX7_readRoom_114 : decode cX7_readRoom 114 = .ok (.getfield 21, 3) := by decide +kernel
theorem dX7_readRoom_117 : decode cX7_readRoom 117 = .ok (.getfield 123, 3) := by decide +kernel
theorem dX7_readRoom_120 : decode cX7_readRoom 120 = .ok (.iload_n 1, 1) := by decide +kernel
theorem dX7_readRoom_121 : decode cX7_readRoom 121 = .ok (.aload_n 0, 1) := by decide +kernel
theorem dX7_readRoom_122 : decode cX7_readRoom 122 = .ok (.getfield 32, 3) := by decide +kernel
theorem dX7_readRoom_125 : decode cX7_readRoom 125 = .ok (.iastore, 1) := by decide +kernel
theorem dX7_readRoom_126 : decode cX7_readRoom 126 = .ok (.aload_n 0, 1) := by decide +kernel
theorem dX7_readRoom_127 : decode cX7_readRoom 127 = .ok (.sipush 202, 3) := by decide +kernel
theorem dX7_readRoom_130 : decode cX7_readRoom 130 = .ok (.invokevirtual 127, 3) := by decide +kernel
theorem dX7_readRoom_133 : decode cX7_readRoom 133 = .ok (.ifCond .eq 18, 3) := by decide +kernel
theorem dX7_readRoom_136 : decode cX7_readRoom 136 = .ok (.aload_n 0, 1) := by decide +kernel
theorem dX7_readRoom_137 : decode cX7_readRoom 137 = .ok (.getfield 21, 3) := by decide +kernel
theorem dX7_readRoom_140 : decode cX7_readRoom 140 = .ok (.dup, 1) := by decide +kernel
theorem dX7_readRoom_141 : decode cX7_readRoom 141 = .ok (.getfield 130, 3) := by decide +kernel
theorem dX7_readRoom_144 : decode cX7_readRoom 144 = .ok (.iconst 1, 1) := by decide +kernel
theorem dX7_readRoom_145 : decode cX7_readRoom 145 = .ok (.iload_n 1, 1) := by decide +kernel
theorem dX7_readRoom_146 : decode cX7_readRoom 146 = .ok (.ishl, 1) := by decide +kernel
theorem dX7_readRoom_147 : decode cX7_readRoom 147 = .ok (.ior, 1) := by decide +kernel
theorem dX7_readRoom_148 : decode cX7_readRoom 148 = .ok (.putfield 130, 3) := by decide +kernel
theorem dX7_readRoom_151 : decode cX7_readRoom 151 = .ok (.aload_n 0, 1) := by decide +kernel
theorem dX7_readRoom_152 : decode cX7_readRoom 152 = .ok (.getfield 21, 3) := by decide +kernel
theorem dX7_readRoom_155 : decode cX7_readRoom 155 = .ok (.iload_n 1, 1) := by decide +kernel
theorem dX7_readRoom_156 : decode cX7_readRoom 156 = .ok (.iconst 1, 1) := by decide +kernel
theorem dX7_readRoom_157 : decode cX7_readRoom 157 = .ok (.iadd, 1) := by decide +kernel
theorem dX7_readRoom_158 : decode cX7_readRoom 158 = .ok (.putfield 98, 3) := by decide +kernel
theorem dX7_readRoom_161 : decode cX7_readRoom 161 = .ok (.iconst 1, 1) := by decide +kernel
theorem dX7_readRoom_162 : decode cX7_readRoom 162 = .ok (.ireturn, 1) := by decide +kernel
theorem dX7_readFact_0 : decode cX7_readFact 0 = .ok (.aload_n 0, 1) := by decide +kernel
theorem dX7_readFact_1 : decode cX7_readFact 1 = .ok (.getfield 21, 3) := by decide +kernel
theorem dX7_readFact_4 : decode cX7_readFact 4 = .ok (.getfield 139, 3) := by decide +kernel
theorem dX7_readFact_7 : decode cX7_readFact 7 = .ok (.istore_n 1, 1) := by decide +kernel
theorem dX7_readFact_8 : decode cX7_readFact 8 = .ok (.aload_n 0, 1) := by decide +kernel
theorem dX7_readFact_9 : decode cX7_readFact 9 = .ok (.iload_n 1, 1) := by decide +kernel
theorem dX7_readFact_10 : decode cX7_readFact 10 = .ok (.bipush 10, 2) := by decide +kernel
theorem dX7_readFact_12 : decode cX7_readFact 12 = .ok (.if_icmp .ge 7, 3) := by decide +kernel
theorem dX7_readFact_15 : decode cX7_readFact 15 = .ok (.iconst 1, 1) := by decide +kernel
theorem dX7_readFact_16 : decode cX7_readFact 16 = .ok (.goto 4, 3) := by decide +kernel
theorem dX7_readFact_19 : decode cX7_readFact 19 = .ok (.iconst 0, 1) := by decide +kernel
theorem dX7_readFact_20 : decode cX7_readFact 20 = .ok (.invokevirtual 82, 3) := by decide +kernel
theorem dX7_readFact_23 : decode cX7_readFact 23 = .ok (.ifCond .eq 10, 3) := by decide +kernel
theorem dX7_readFact_26 : decode cX7_readFact 26 = .ok (.aload_n 0, 1) := by decide +kernel
theorem dX7_readFact_27 : decode cX7_readFact 27 = .ok (.invokevirtual 105, 3) := by decide +kernel
theorem dX7_readFact_30 : decode cX7_readFact 30 = .ok (.ifCond .ne 5, 3) := by decide +kernel
theorem dX7_readFact_33 : decode cX7_readFact 33 = .ok (.iconst 0, 1) := by decide +kernel
theorem dX7_readFact_34 : decode cX7_readFact 34 = .ok (.ireturn, 1) := by decide +kernel
theorem dX7_readFact_35 : decode cX7_readFact 35 = .ok (.aload_n 0, 1) := by decide +kernel
theorem dX7_readFact_36 : decode cX7_readFact 36 = .ok (.getfield 21, 3) := by decide +kernel
theorem dX7_readFact_39 : decode cX7_readFact 39 = .ok (.aload_n 0, 1) := by decide +kernel
theorem dX7_readFact_40 : decode cX7_readFact 40 = .ok (.getfield 12, 3) := by decide +kernel
theorem dX7_readFact_43 : decode cX7_readFact 43 = .ok (.getfield 108, 3) := by decide +kernel
theorem dX7_readFact_46 : decode cX7_readFact 46 = .ok (.invokevirtual 142, 3) := by decide +kernel
theorem dX7_readFact_49 : decode cX7_readFact 49 = .ok (.iconst (-1), 1) := by decide +kernel
theorem dX7_readFact_50 : decode cX7_readFact 50 = .ok (.if_icmp .eq 9, 3) := by decide +kernel
theorem dX7_readFact_53 : decode cX7_readFact 53 = .ok (.aload_n 0, 1) := by decide +kernel
theorem dX7_readFact_54 : decode cX7_readFact 54 = .ok (.iconst 3, 1) := by decide +kernel
theorem dX7_readFact_55 : decode cX7_readFact 55 = .ok (.invokevirtual 95, 3) := by decide +kernel
theorem dX7_readFact_58 : decode cX7_readFact 58 = .ok (.ireturn, 1) := by decide +kernel
theorem dX7_readFact_59 : decode cX7_readFact 59 = .ok (.aload_n 0, 1) := by decide +kernel
theorem dX7_readFact_60 : decode cX7_readFact 60 = .ok (.getfield 21, 3) := by decide +kernel
theorem dX7_readFact_63 : decode cX7_readFact 63 = .ok (.getfield 145, 3) := by decide +kernel
theorem dX7_readFact_66 : decode cX7_readFact 66 = .ok (.iload_n 1, 1) := by decide +kernel
theorem dX7_readFact_67 : decode cX7_readFact 67 = .ok (.aload_n 0, 1) := by decide +kernel
theorem dX7_readFact_68 : decode cX7_readFact 68 = .ok (.getfield 12, 3) := by decide +kernel
theorem dX7_readFact_71 : decode cX7_readFact 71 = .ok (.getfield 108, 3) := by decide +kernel
theorem dX7_readFact_74 : decode cX7_readFact 74 = .ok (.lastore, 1) := by decide +kernel
theorem dX7_readFact_75 : decode cX7_readFact 75 = .ok (.aload_n 0, 1) := by decide +kernel
theorem dX7_readFact_76 : decode cX7_readFact 76 = .ok (.getfield 12, 3) := by decide +kernel
theorem dX7_readFact_79 : decode cX7_readFact 79 = .ok (.invokevirtual 41, 3) := by decide +kernel
theorem dX7_readFact_82 : decode cX7_readFact 82 = .ok (.aload_n 0, 1) := by decide +kernel
theorem dX7_readFact_83 : decode cX7_readFact 83 = .ok (.sipush 205, 3) := by decide +kernel
theorem dX7_readFact_86 : decode cX7_readFact 86 = .ok (.invokevirtual 51, 3) := by decide +kernel
theorem dX7_readFact_89 : decode cX7_readFact 89 = .ok (.ifCond .eq 10, 3) := by decide +kernel
theorem dX7_readFact_92 : decode cX7_readFact 92 = .ok (.aload_n 0, 1) := by decide +kernel
theorem dX7_readFact_93 : decode cX7_readFact 93 = .ok (.invokevirtual 133, 3) := by decide +kernel
theorem dX7_readFact_96 : decode cX7_readFact 96 = .ok (.ifCond .ne 5, 3) := by decide +kernel
theorem dX7_readFact_99 : decode cX7_readFact 99 = .ok (.iconst 0, 1) := by decide +kernel
theorem dX7_readFact_100 : decode cX7_readFact 100 = .ok (.ireturn, 1) := by decide +kernel
theorem dX7_readFact_101 : decode cX7_readFact 101 = .ok (.aload_n 0, 1) := by decide +kernel
theorem dX7_readFact_102 : decode cX7_readFact 102 = .ok (.getfield 21, 3) := by decide +kernel
theorem dX7_readFact_105 : decode cX7_readFact 105 = .ok (.getfield 148, 3) := by decide +kernel
theorem dX7_readFact_108 : decode cX7_readFact 108 = .ok (.iload_n 1, 1) := by decide +kernel
theorem dX7_readFact_109 : decode cX7_readFact 109 = .ok (.aload_n 0, 1) := by decide +kernel
theorem dX7_readFact_110 : decode cX7_readFact 110 = .ok (.getfield 32, 3) := by decide +kernel
theorem dX7_readFact_113 : decode cX7_readFact 113 = .ok (.iastore, 1) := by decide +kernel
theorem dX7_readFact_114 : decode cX7_readFact 114 = .ok (.aload_n 0, 1) := by decide +kernel
theorem dX7_readFact_115 : decode cX7_readFact 115 = .ok (.getfield 12, 3) := by decide +kernel
theorem dX7_readFact_118 : decode cX7_readFact 118 = .ok (.invokevirtual 41, 3) := by decide +kernel
theorem dX7_readFact_121 : decode cX7_readFact 121 = .ok (.aload_n 0, 1) := by decide +kernel
theorem dX7_readFact_122 : decode cX7_readFact 122 = .ok (.sipush 206, 3) := by decide +kernel
theorem dX7_readFact_125 : decode cX7_readFact 125 = .ok (.invokevirtual 51, 3) := by decide +kernel
theorem dX7_readFact_128 : decode cX7_readFact 128 = .ok (.ifCond .eq 12, 3) := by decide +kernel
theorem dX7_readFact_131 : decode cX7_readFact 131 = .ok (.aload_n 0, 1) := by decide +kernel
theorem dX7_readFact_132 : decode cX7_readFact 132 = .ok (.bipush 23, 2) := by decide +kernel
theorem dX7_readFact_134 : decode cX7_readFact 134 = .ok (.invokevirtual 120, 3) := by decide +kernel
theorem dX7_readFact_137 : decode cX7_readFact 137 = .ok (.ifCond .ne 5, 3) := by decide +kernel
theorem dX7_readFact_140 : decode cX7_readFact 140 = .ok (.iconst 0, 1) := by decide +kernel
theorem dX7_readFact_141 : decode cX7_readFact 141 = .ok (.ireturn, 1) := by decide +kernel
theorem dX7_readFact_142 : decode cX7_readFact 142 = .ok (.aload_n 0, 1) := by decide +kernel
theorem dX7_readFact_143 : decode cX7_readFact 143 = .ok (.getfield 21, 3) := by decide +kernel
theorem dX7_readFact_146 : decode cX7_readFact 146 = .ok (.getfield 151, 3) := by decide +kernel
theorem dX7_readFact_149 : decode cX7_readFact 149 = .ok (.iload_n 1, 1) := by decide +kernel
theorem dX7_readFact_150 : decode cX7_readFact 150 = .ok (.aload_n 0, 1) := by decide +kernel
theorem dX7_readFact_151 : decode cX7_readFact 151 = .ok (.getfield 32, 3) := by decide +kernel
theorem dX7_readFact_154 : decode cX7_readFact 154 = .ok (.iastore, 1) := by decide +kernel
theorem dX7_readFact_155 : decode cX7_readFact 155 = .ok (.aload_n 0, 1) := by decide +kernel
theorem dX7_readFact_156 : decode cX7_readFact 156 = .ok (.sipush 207, 3) := by decide +kernel
theorem dX7_readFact_159 : decode cX7_readFact 159 = .ok (.invokevirtual 127, 3) := by decide +kernel
theorem dX7_readFact_162 : decode cX7_readFact 162 = .ok (.ifCond .eq 18, 3) := by decide +kernel
theorem dX7_readFact_165 : decode cX7_readFact 165 = .ok (.aload_n 0, 1) := by decide +kernel
theorem dX7_readFact_166 : decode cX7_readFact 166 = .ok (.getfield 21, 3) := by decide +kernel
theorem dX7_readFact_169 : decode cX7_readFact 169 = .ok (.dup, 1) := by decide +kernel
theorem dX7_readFact_170 : decode cX7_readFact 170 = .ok (.getfield 154, 3) := by decide +kernel
theorem dX7_readFact_173 : decode cX7_readFact 173 = .ok (.iconst 1, 1) := by decide +kernel
theorem dX7_readFact_174 : decode cX7_readFact 174 = .ok (.iload_n 1, 1) := by decide +kernel
theorem dX7_readFact_175 : decode cX7_readFact 175 = .ok (.ishl, 1) := by decide +kernel
theorem dX7_readFact_176 : decode cX7_readFact 176 = .ok (.ior, 1) := by decide +kernel
theorem dX7_readFact_177 : decode cX7_readFact 177 = .ok (.putfield 154, 3) := by decide +kernel
theorem dX7_readFact_180 : decode cX7_readFact 180 = .ok (.aload_n 0, 1) := by decide +kernel
theorem dX7_readFact_181 : decode cX7_readFact 181 = .ok (.getfield 21, 3) := by decide +kernel
theorem dX7_readFact_184 : decode cX7_readFact 184 = .ok (.iload_n 1, 1) := by decide +kernel
theorem dX7_readFact_185 : decode cX7_readFact 185 = .ok (.iconst 1, 1) := by decide +kernel
theorem dX7_readFact_186 : decode cX7_readFact 186 = .ok (.iadd, 1) := by decide +kernel
theorem dX7_readFact_187 : decode cX7_readFact 187 = .ok (.putfield 139, 3) := by decide +kernel
theorem dX7_readFact_190 : decode cX7_readFact 190 = .ok (.iconst 1, 1) := by decide +kernel
theorem dX7_readFact_191 : decode cX7_readFact 191 = .ok (.ireturn, 1) := by decide +kernel
theorem dX7_readTells_0 : decode cX7_readTells 0 = .ok (.aload_n 0, 1) := by decide +kernel
theorem dX7_readTells_1 : decode cX7_readTells 1 = .ok (.getfield 12, 3) := by decide +kernel
theorem dX7_readTells_4 : decode cX7_readTells 4 = .ok (.invokevirtual 41, 3) := by decide +kernel
theorem dX7_readTells_7 : decode cX7_readTells 7 = .ok (.aload_n 0, 1) := by decide +kernel
theorem dX7_readTells_8 : decode cX7_readTells 8 = .ok (.invokevirtual 133, 3) := by decide +kernel
theorem dX7_readTells_11 : decode cX7_readTells 11 = .ok (.ifCond .ne 5, 3) := by decide +kernel
theorem dX7_readTells_14 : decode cX7_readTells 14 = .ok (.iconst 0, 1) := by decide +kernel
theorem dX7_readTells_15 : decode cX7_readTells 15 = .ok (.ireturn, 1) := by decide +kernel
theorem dX7_readTells_16 : decode cX7_readTells 16 = .ok (.aload_n 0, 1) := by decide +kernel
theorem dX7_readTells_17 : decode cX7_readTells 17 = .ok (.getfield 32, 3) := by decide +kernel
theorem dX7_readTells_20 : decode cX7_readTells 20 = .ok (.istore_n 1, 1) := by decide +kernel
theorem dX7_readTells_21 : decode cX7_readTells 21 = .ok (.aload_n 0, 1) := by decide +kernel
theorem dX7_readTells_22 : decode cX7_readTells 22 = .ok (.getfield 12, 3) := by decide +kernel
theorem dX7_readTells_25 : decode cX7_readTells 25 = .ok (.invokevirtual 41, 3) := by decide +kernel
theorem dX7_readTells_28 : decode cX7_readTells 28 = .ok (.aload_n 0, 1) := by decide +kernel
theorem dX7_readTells_29 : decode cX7_readTells 29 = .ok (.invokevirtual 133, 3) := by decide +kernel
theorem dX7_readTells_32 : decode cX7_readTells 32 = .ok (.ifCond .ne 5, 3) := by decide +kernel
theorem dX7_readTells_35 : decode cX7_readTells 35 = .ok (.iconst 0, 1) := by decide +kernel
theorem dX7_readTells_36 : decode cX7_readTells 36 = .ok (.ireturn, 1) := by decide +kernel
theorem dX7_readTells_37 : decode cX7_readTells 37 = .ok (.aload_n 0, 1) := by decide +kernel
theorem dX7_readTells_38 : decode cX7_readTells 38 = .ok (.getfield 32, 3) := by decide +kernel
theorem dX7_readTells_41 : decode cX7_readTells 41 = .ok (.iload_n 1, 1) := by decide +kernel
theorem dX7_readTells_42 : decode cX7_readTells 42 = .ok (.if_icmp .eq 22, 3) := by decide +kernel
theorem dX7_readTells_45 : decode cX7_readTells 45 = .ok (.aload_n 0, 1) := by decide +kernel
theorem dX7_readTells_46 : decode cX7_readTells 46 = .ok (.getfield 21, 3) := by decide +kernel
theorem dX7_readTells_49 : decode cX7_readTells 49 = .ok (.getfield 157, 3) := by decide +kernel
theorem dX7_readTells_52 : decode cX7_readTells 52 = .ok (.aload_n 0, 1) := by decide +kernel
theorem dX7_readTells_53 : decode cX7_readTells 53 = .ok (.getfield 32, 3) := by decide +kernel
theorem dX7_readTells_56 : decode cX7_readTells 56 = .ok (.iaload, 1) := by decide +kernel
theorem dX7_readTells_57 : decode cX7_readTells 57 = .ok (.iload_n 1, 1) := by decide +kernel
theorem dX7_readTells_58 : decode cX7_readTells 58 = .ok (.ishr, 1) := by decide +kernel
theorem dX7_readTells_59 : decode cX7_readTells 59 = .ok (.iconst 1, 1) := by decide +kernel
theorem dX7_readTells_60 : decode cX7_readTells 60 = .ok (.iand, 1) := by decide +kernel
theorem dX7_readTells_61 : decode cX7_readTells 61 = .ok (.ifCond .eq 9, 3) := by decide +kernel
theorem dX7_readTells_64 : decode cX7_readTells 64 = .ok (.aload_n 0, 1) := by decide +kernel
theorem dX7_readTells_65 : decode cX7_readTells 65 = .ok (.iconst 3, 1) := by decide +kernel
theorem dX7_readTells_66 : decode cX7_readTells 66 = .ok (.invokevirtual 95, 3) := by decide +kernel
theorem dX7_readTells_69 : decode cX7_readTells 69 = .ok (.ireturn, 1) := by decide +kernel
theorem dX7_readTells_70 : decode cX7_readTells 70 = .ok (.aload_n 0, 1) := by decide +kernel
theorem dX7_readTells_71 : decode cX7_readTells 71 = .ok (.getfield 21, 3) := by decide +kernel
theorem dX7_readTells_74 : decode cX7_readTells 74 = .ok (.getfield 157, 3) := by decide +kernel
theorem dX7_readTells_77 : decode cX7_readTells 77 = .ok (.aload_n 0, 1) := by decide +kernel
theorem dX7_readTells_78 : decode cX7_readTells 78 = .ok (.getfield 32, 3) := by decide +kernel
theorem dX7_readTells_81 : decode cX7_readTells 81 = .ok (.dup2, 1) := by decide +kernel
theorem dX7_readTells_82 : decode cX7_readTells 82 = .ok (.iaload, 1) := by decide +kernel
theorem dX7_readTells_83 : decode cX7_readTells 83 = .ok (.iconst 1, 1) := by decide +kernel
theorem dX7_readTells_84 : decode cX7_readTells 84 = .ok (.iload_n 1, 1) := by decide +kernel
theorem dX7_readTells_85 : decode cX7_readTells 85 = .ok (.ishl, 1) := by decide +kernel
theorem dX7_readTells_86 : decode cX7_readTells 86 = .ok (.ior, 1) := by decide +kernel
theorem dX7_readTells_87 : decode cX7_readTells 87 = .ok (.iastore, 1) := by decide +kernel
theorem dX7_readTells_88 : decode cX7_readTells 88 = .ok (.aload_n 0, 1) := by decide +kernel
theorem dX7_readTells_89 : decode cX7_readTells 89 = .ok (.getfield 21, 3) := by decide +kernel
theorem dX7_readTells_92 : decode cX7_readTells 92 = .ok (.dup, 1) := by decide +kernel
theorem dX7_readTells_93 : decode cX7_readTells 93 = .ok (.getfield 160, 3) := by decide +kernel
theorem dX7_readTells_96 : decode cX7_readTells 96 = .ok (.iconst 1, 1) := by decide +kernel
theorem dX7_readTells_97 : decode cX7_readTells 97 = .ok (.iadd, 1) := by decide +kernel
theorem dX7_readTells_98 : decode cX7_readTells 98 = .ok (.putfield 160, 3) := by decide +kernel
theorem dX7_readTells_101 : decode cX7_readTells 101 = .ok (.aload_n 0, 1) := by decide +kernel
theorem dX7_readTells_102 : decode cX7_readTells 102 = .ok (.getfield 12, 3) := by decide +kernel
theorem dX7_readTells_105 : decode cX7_readTells 105 = .ok (.invokevirtual 41, 3) := by decide +kernel
theorem dX7_readTells_108 : decode cX7_readTells 108 = .ok (.iconst 1, 1) := by decide +kernel
theorem dX7_readTells_109 : decode cX7_readTells 109 = .ok (.ireturn, 1) := by decide +kernel
theorem dX7_readWants_0 : decode cX7_readWants 0 = .ok (.aload_n 0, 1) := by decide +kernel
theorem dX7_readWants_1 : decode cX7_readWants 1 = .ok (.getfield 12, 3) := by decide +kernel
theorem dX7_readWants_4 : decode cX7_readWants 4 = .ok (.invokevirtual 41, 3) := by decide +kernel
theorem dX7_readWants_7 : decode cX7_readWants 7 = .ok (.aload_n 0, 1) := by decide +kernel
theorem dX7_readWants_8 : decode cX7_readWants 8 = .ok (.invokevirtual 133, 3) := by decide +kernel
theorem dX7_readWants_11 : decode cX7_readWants 11 = .ok (.ifCond .ne 5, 3) := by decide +kernel
theorem dX7_readWants_14 : decode cX7_readWants 14 = .ok (.iconst 0, 1) := by decide +kernel
theorem dX7_readWants_15 : decode cX7_readWants 15 = .ok (.ireturn, 1) := by decide +kernel
theorem dX7_readWants_16 : decode cX7_readWants 16 = .ok (.aload_n 0, 1) := by decide +kernel
theorem dX7_readWants_17 : decode cX7_readWants 17 = .ok (.getfield 32, 3) := by decide +kernel
theorem dX7_readWants_20 : decode cX7_readWants 20 = .ok (.istore_n 1, 1) := by decide +kernel
theorem dX7_readWants_21 : decode cX7_readWants 21 = .ok (.aload_n 0, 1) := by decide +kernel
theorem dX7_readWants_22 : decode cX7_readWants 22 = .ok (.getfield 12, 3) := by decide +kernel
theorem dX7_readWants_25 : decode cX7_readWants 25 = .ok (.invokevirtual 41, 3) := by decide +kernel
theorem dX7_readWants_28 : decode cX7_readWants 28 = .ok (.aload_n 0, 1) := by decide +kernel
theorem dX7_readWants_29 : decode cX7_readWants 29 = .ok (.invokevirtual 133, 3) := by decide +kernel
theorem dX7_readWants_32 : decode cX7_readWants 32 = .ok (.ifCond .ne 5, 3) := by decide +kernel
theorem dX7_readWants_35 : decode cX7_readWants 35 = .ok (.iconst 0, 1) := by decide +kernel
theorem dX7_readWants_36 : decode cX7_readWants 36 = .ok (.ireturn, 1) := by decide +kernel
theorem dX7_readWants_37 : decode cX7_readWants 37 = .ok (.aload_n 0, 1) := by decide +kernel
theorem dX7_readWants_38 : decode cX7_readWants 38 = .ok (.getfield 32, 3) := by decide +kernel
theorem dX7_readWants_41 : decode cX7_readWants 41 = .ok (.istore_n 2, 1) := by decide +kernel
theorem dX7_readWants_42 : decode cX7_readWants 42 = .ok (.aload_n 0, 1) := by decide +kernel
theorem dX7_readWants_43 : decode cX7_readWants 43 = .ok (.getfield 21, 3) := by decide +kernel
theorem dX7_readWants_46 : decode cX7_readWants 46 = .ok (.getfield 163, 3) := by decide +kernel
theorem dX7_readWants_49 : decode cX7_readWants 49 = .ok (.iload_n 1, 1) := by decide +kernel
theorem dX7_readWants_50 : decode cX7_readWants 50 = .ok (.aaload, 1) := by decide +kernel
theorem dX7_readWants_51 : decode cX7_readWants 51 = .ok (.iload_n 2, 1) := by decide +kernel
theorem dX7_readWants_52 : decode cX7_readWants 52 = .ok (.iaload, 1) := by decide +kernel
theorem dX7_readWants_53 : decode cX7_readWants 53 = .ok (.iconst (-1), 1) := by decide +kernel
theorem dX7_readWants_54 : decode cX7_readWants 54 = .ok (.if_icmp .eq 9, 3) := by decide +kernel
theorem dX7_readWants_57 : decode cX7_readWants 57 = .ok (.aload_n 0, 1) := by decide +kernel
theorem dX7_readWants_58 : decode cX7_readWants 58 = .ok (.iconst 3, 1) := by decide +kernel
theorem dX7_readWants_59 : decode cX7_readWants 59 = .ok (.invokevirtual 95, 3) := by decide +kernel
theorem dX7_readWants_62 : decode cX7_readWants 62 = .ok (.ireturn, 1) := by decide +kernel
theorem dX7_readWants_63 : decode cX7_readWants 63 = .ok (.aload_n 0, 1) := by decide +kernel
theorem dX7_readWants_64 : decode cX7_readWants 64 = .ok (.getfield 12, 3) := by decide +kernel
theorem dX7_readWants_67 : decode cX7_readWants 67 = .ok (.invokevirtual 41, 3) := by decide +kernel
theorem dX7_readWants_70 : decode cX7_readWants 70 = .ok (.aload_n 0, 1) := by decide +kernel
theorem dX7_readWants_71 : decode cX7_readWants 71 = .ok (.bipush 99, 2) := by decide +kernel
theorem dX7_readWants_73 : decode cX7_readWants 73 = .ok (.invokevirtual 120, 3) := by decide +kernel
theorem dX7_readWants_76 : decode cX7_readWants 76 = .ok (.ifCond .ne 5, 3) := by decide +kernel
theorem dX7_readWants_79 : decode cX7_readWants 79 = .ok (.iconst 0, 1) := by decide +kernel
theorem dX7_readWants_80 : decode cX7_readWants 80 = .ok (.ireturn, 1) := by decide +kernel
theorem dX7_readWants_81 : decode cX7_readWants 81 = .ok (.aload_n 0, 1) := by decide +kernel
theorem dX7_readWants_82 : decode cX7_readWants 82 = .ok (.getfield 21, 3) := by decide +kernel
theorem dX7_readWants_85 : decode cX7_readWants 85 = .ok (.getfield 163, 3) := by decide +kernel
theorem dX7_readWants_88 : decode cX7_readWants 88 = .ok (.iload_n 1, 1) := by decide +kernel
theorem dX7_readWants_89 : decode cX7_readWants 89 = .ok (.aaload, 1) := by decide +kernel
theorem dX7_readWants_90 : decode cX7_readWants 90 = .ok (.iload_n 2, 1) := by decide +kernel
theorem dX7_readWants_91 : decode cX7_readWants 91 = .ok (.aload_n 0, 1) := by decide +kernel
theorem dX7_readWants_92 : decode cX7_readWants 92 = .ok (.getfield 32, 3) := by decide +kernel
theorem dX7_readWants_95 : decode cX7_readWants 95 = .ok (.iastore, 1) := by decide +kernel
theorem dX7_readWants_96 : decode cX7_readWants 96 = .ok (.iconst 1, 1) := by decide +kernel
theorem dX7_readWants_97 : decode cX7_readWants 97 = .ok (.ireturn, 1) := by decide +kernel
theorem dX7_readDark_0 : decode cX7_readDark 0 = .ok (.aload_n 0, 1) := by decide +kernel
theorem dX7_readDark_1 : decode cX7_readDark 1 = .ok (.aload_n 0, 1) := by decide +kernel
theorem dX7_readDark_2 : decode cX7_readDark 2 = .ok (.getfield 21, 3) := by decide +kernel
theorem dX7_readDark_5 : decode cX7_readDark 5 = .ok (.getfield 167, 3) := by decide +kernel
theorem dX7_readDark_8 : decode cX7_readDark 8 = .ok (.iconst (-1), 1) := by decide +kernel
theorem dX7_readDark_9 : decode cX7_readDark 9 = .ok (.if_icmp .ne 7, 3) := by decide +kernel
theorem dX7_readDark_12 : decode cX7_readDark 12 = .ok (.iconst 1, 1) := by decide +kernel
theorem dX7_readDark_13 : decode cX7_readDark 13 = .ok (.goto 4, 3) := by decide +kernel
theorem dX7_readDark_16 : decode cX7_readDark 16 = .ok (.iconst 0, 1) := by decide +kernel
theorem dX7_readDark_17 : decode cX7_readDark 17 = .ok (.invokevirtual 82, 3) := by decide +kernel
theorem dX7_readDark_20 : decode cX7_readDark 20 = .ok (.ifCond .eq 12, 3) := by decide +kernel
theorem dX7_readDark_23 : decode cX7_readDark 23 = .ok (.aload_n 0, 1) := by decide +kernel
theorem dX7_readDark_24 : decode cX7_readDark 24 = .ok (.bipush 23, 2) := by decide +kernel
theorem dX7_readDark_26 : decode cX7_readDark 26 = .ok (.invokevirtual 120, 3) := by decide +kernel
theorem dX7_readDark_29 : decode cX7_readDark 29 = .ok (.ifCond .ne 5, 3) := by decide +kernel
theorem dX7_readDark_32 : decode cX7_readDark 32 = .ok (.iconst 0, 1) := by decide +kernel
theorem dX7_readDark_33 : decode cX7_readDark 33 = .ok (.ireturn, 1) := by decide +kernel
theorem dX7_readDark_34 : decode cX7_readDark 34 = .ok (.aload_n 0, 1) := by decide +kernel
theorem dX7_readDark_35 : decode cX7_readDark 35 = .ok (.getfield 21, 3) := by decide +kernel
theorem dX7_readDark_38 : decode cX7_readDark 38 = .ok (.aload_n 0, 1) := by decide +kernel
theorem dX7_readDark_39 : decode cX7_readDark 39 = .ok (.getfield 32, 3) := by decide +kernel
theorem dX7_readDark_42 : decode cX7_readDark 42 = .ok (.putfield 167, 3) := by decide +kernel
theorem dX7_readDark_45 : decode cX7_readDark 45 = .ok (.aload_n 0, 1) := by decide +kernel
theorem dX7_readDark_46 : decode cX7_readDark 46 = .ok (.sipush 212, 3) := by decide +kernel
theorem dX7_readDark_49 : decode cX7_readDark 49 = .ok (.invokevirtual 51, 3) := by decide +kernel
theorem dX7_readDark_52 : decode cX7_readDark 52 = .ok (.ifCond .eq 12, 3) := by decide +kernel
theorem dX7_readDark_55 : decode cX7_readDark 55 = .ok (.aload_n 0, 1) := by decide +kernel
theorem dX7_readDark_56 : decode cX7_readDark 56 = .ok (.bipush 23, 2) := by decide +kernel
theorem dX7_readDark_58 : decode cX7_readDark 58 = .ok (.invokevirtual 120, 3) := by decide +kernel
theorem dX7_readDark_61 : decode cX7_readDark 61 = .ok (.ifCond .ne 5, 3) := by decide +kernel
theorem dX7_readDark_64 : decode cX7_readDark 64 = .ok (.iconst 0, 1) := by decide +kernel
theorem dX7_readDark_65 : decode cX7_readDark 65 = .ok (.ireturn, 1) := by decide +kernel
theorem dX7_readDark_66 : decode cX7_readDark 66 = .ok (.aload_n 0, 1) := by decide +kernel
theorem dX7_readDark_67 : decode cX7_readDark 67 = .ok (.getfield 21, 3) := by decide +kernel
theorem dX7_readDark_70 : decode cX7_readDark 70 = .ok (.aload_n 0, 1) := by decide +kernel
theorem dX7_readDark_71 : decode cX7_readDark 71 = .ok (.getfield 32, 3) := by decide +kernel
theorem dX7_readDark_74 : decode cX7_readDark 74 = .ok (.putfield 170, 3) := by decide +kernel
theorem dX7_readDark_77 : decode cX7_readDark 77 = .ok (.iconst 1, 1) := by decide +kernel
theorem dX7_readDark_78 : decode cX7_readDark 78 = .ok (.ireturn, 1) := by decide +kernel
theorem dX7_readDraw_0 : decode cX7_readDraw 0 = .ok (.aload_n 0, 1) := by decide +kernel
theorem dX7_readDraw_1 : decode cX7_readDraw 1 = .ok (.aload_n 0, 1) := by decide +kernel
theorem dX7_readDraw_2 : decode cX7_readDraw 2 = .ok (.getfield 21, 3) := by decide +kernel
theorem dX7_readDraw_5 : decode cX7_readDraw 5 = .ok (.getfield 173, 3) := by decide +kernel
theorem dX7_readDraw_8 : decode cX7_readDraw 8 = .ok (.iconst (-1), 1) := by decide +kernel
theorem dX7_readDraw_9 : decode cX7_readDraw 9 = .ok (.if_icmp .ne 7, 3) := by decide +kernel
theorem dX7_readDraw_12 : decode cX7_readDraw 12 = .ok (.iconst 1, 1) := by decide +kernel
theorem dX7_readDraw_13 : decode cX7_readDraw 13 = .ok (.goto 4, 3) := by decide +kernel
theorem dX7_readDraw_16 : decode cX7_readDraw 16 = .ok (.iconst 0, 1) := by decide +kernel
theorem dX7_readDraw_17 : decode cX7_readDraw 17 = .ok (.invokevirtual 82, 3) := by decide +kernel
theorem dX7_readDraw_20 : decode cX7_readDraw 20 = .ok (.ifCond .eq 13, 3) := by decide +kernel
theorem dX7_readDraw_23 : decode cX7_readDraw 23 = .ok (.aload_n 0, 1) := by decide +kernel
theorem dX7_readDraw_24 : decode cX7_readDraw 24 = .ok (.sipush 999, 3) := by decide +kernel
theorem dX7_readDraw_27 : decode cX7_readDraw 27 = .ok (.invokevirtual 120, 3) := by decide +kernel
theorem dX7_readDraw_30 : decode cX7_readDraw 30 = .ok (.ifCond .ne 5, 3) := by decide +kernel
theorem dX7_readDraw_33 : decode cX7_readDraw 33 = .ok (.iconst 0, 1) := by decide +kernel
theorem dX7_readDraw_34 : decode cX7_readDraw 34 = .ok (.ireturn, 1) := by decide +kernel
theorem dX7_readDraw_35 : decode cX7_readDraw 35 = .ok (.aload_n 0, 1) := by decide +kernel
theorem dX7_readDraw_36 : decode cX7_readDraw 36 = .ok (.getfield 21, 3) := by decide +kernel
theorem dX7_readDraw_39 : decode cX7_readDraw 39 = .ok (.aload_n 0, 1) := by decide +kernel
theorem dX7_readDraw_40 : decode cX7_readDraw 40 = .ok (.getfield 32, 3) := by decide +kernel
theorem dX7_readDraw_43 : decode cX7_readDraw 43 = .ok (.putfield 173, 3) := by decide +kernel
theorem dX7_readDraw_46 : decode cX7_readDraw 46 = .ok (.iconst 1, 1) := by decide +kernel
theorem dX7_readDraw_47 : decode cX7_readDraw 47 = .ok (.ireturn, 1) := by decide +kernel
set_option maxHeartbeats 2000000 in
set_option maxRecDepth 20000 in
theorem c_X7_readRoom (l : Launch) (D : va_G) (cy : Nat → ClassId) (B N : Nat) (q : Int) (M : MM) (hN : 210 ≤ N) (hI : Iv M) (hq : q = 5 ∨ q = 180) (hto : M.1 1 1 = q) (hDL : DL q M) (hkn : KNo M) : CI l D cy B N 11 yX7_readRoom cX7_readRoom 2 (some .boolean) [rv B 1] M (fun z M' => Iv M' ∧ Fr (fun a b => (a = 1 ∧ 2 ≤ b ∧ b ≤ 4) ∨ (a = 2 ∧ 3 ≤ b ∧ b ≤ 6) ∨ (q ≤ a ∧ a ≤ q + 20)) M M' ∧ (0 ≤ z ∧ z ≤ 1) ∧ (KNo M') ∧ (z = 1 → DL q M')) := by
  refine mk_CI (by decide) (Nat.le_of_ble_eq_true rfl) ?_
  intro X exl exD excy hnL hX hret
  have hce : 0 + 0 ≤ (xR X).cells ∧ 0 + 0 ≤ (xR X).slots := ⟨Nat.zero_le _, Nat.zero_le _⟩
  have hdq : 5 ≤ q ∧ q ≤ 180 := by omega
  have hF : Fr (fun a b => (a = 1 ∧ 2 ≤ b ∧ b ≤ 4) ∨ (a = 2 ∧ 3 ≤ b ∧ b ≤ 6) ∨ (q ≤ a ∧ a ≤ q + 20)) M M := Fr.rf
  show J X B N 0 0 0 [(0, rv B 1)] [] M
  refine j_aload_n hX dX7_readRoom_0 rfl 0 rfl ?_
  refine gf_X7_21 hX (by omega) (by omega) kc_1 hto (by omega) dX7_readRoom_1 ?_
  refine gf_X7_98 hX (by omega) (by omega) (kq hq) dX7_readRoom_4 ?_
  refine j_name hI (rq_0 hq) (fun v1 hv2 hl3 hh4 => ?_)
  have hk5 := hv2.symm
  refine j_istore_n (lv' := [(1, _), (0, _)]) hX dX7_readRoom_7 rfl (by rw [hnL]; decide) rfl ?_
  refine j_aload_n hX dX7_readRoom_8 rfl 1 rfl ?_
  refine j_iload_n hX dX7_readRoom_9 rfl 0 rfl ?_
  refine j_bipush hX dX7_readRoom_10 rfl ?_
  refine j_icmp_ge (tgt := 29) hX dX7_readRoom_12 (by decide) (by omega) (by omega) (fun hc6 => ?_) (fun hc6 => ?_)
  · skip
    refine j_iconst hX dX7_readRoom_29 ?_
    refine j_callVI hX lk_X7_82 (c_X7_mayStart _ _ _ _ _ _ _ _ (by omega) hI (by omega) (by assumption) hto (by first | assumption | omega) (by first | assumption | omega)) (by omega) hce rfl rfl (by omega) (by omega) kc_1 rfl rfl (Nat.le_of_ble_eq_true rfl) dX7_readRoom_30 (fun z7 M8 hz10 hp9 => ?_)
    obtain ⟨hI11, hG12, hb13, hq14, hq15⟩ := hp9
    have hV17 := DL_fr hDL hG12 (fun b => by omega) (by omega) (by omega)
    have hk18 := kp_fr hG12 (by omega) hto
    have hk19 := kp_fr hG12 (by omega) hk5
    clear hk5
    have hF20 := Fr.trans hF hG12 (fun a b h => by omega)
    refine j_if_eq (tgt := 43) hX dX7_readRoom_33 (by decide) (by omega) (fun hc21 => ?_) (fun hc21 => ?_)
    · skip
      clear hq15
      refine j_iconst hX dX7_readRoom_43 ?_
      exact hret _ _ _ _ dX7_readRoom_44 (nb (by omega)) (by omega) ⟨hI11, hF20, by omega, by first | assumption | omega, by first | (intro _; assumption) | (intro h; exact absurd h (by decide)) | (intro _ h; omega)⟩
    · skip
      have hi22 := hq15 (by omega)
      clear hq15
      refine j_aload_n hX dX7_readRoom_36 rfl 1 rfl ?_
      refine j_callVI hX lk_X7_105 (c_X7_isName _ _ _ _ _ _ _ (by omega) hI11 (by assumption) hk18) (by omega) hce rfl rfl (by omega) (by omega) kc_1 rfl rfl (Nat.le_of_ble_eq_true rfl) dX7_readRoom_37 (fun z23 M24 hz26 hp25 => ?_)
      obtain ⟨hI27, hG28, hb29⟩ := hp25
      have hV30 := DL_fr hV17 hG28 (fun b => by omega) (by omega) (by omega)
      have hV31 := KN_fr hq14 hG28 (by omega) (by omega)
      have hk32 := kp_fr hG28 (by omega) hk18
      have hk33 := kp_fr hG28 (by omega) hk19
      clear hk18 hk19
      have hF34 := Fr.trans hF20 hG28 (fun a b h => by omega)
      refine j_if_ne (tgt := 45) hX dX7_readRoom_40 (by decide) (by omega) (fun hc35 => ?_) (fun hc35 => ?_)
      · skip
        refine j_aload_n hX dX7_readRoom_45 rfl 1 rfl ?_
        refine gf_X7_21 hX (by omega) (by omega) kc_1 hk32 (by omega) dX7_readRoom_46 ?_
        refine j_aload_n hX dX7_readRoom_49 rfl 1 rfl ?_
        refine gf_X7_12 hX (by omega) (by omega) kc_1 (fc_1_0 hI27) (by decide) dX7_readRoom_50 ?_
        refine gf_X7_108 hX (by omega) (by omega) kc_2 dX7_readRoom_53 ?_
        refine j_callVI hX lk_X7_112 (c_X6_roomNamed _ _ _ _ _ q _ _ (by omega) hI27 hq) (by omega) hce rfl rfl (by omega) (by omega) (kq hq) rfl rfl (Nat.le_of_ble_eq_true rfl) dX7_readRoom_56 (fun z36 M37 hz39 hp38 => ?_)
        obtain ⟨rfl, hq40⟩ := hp38
        refine j_iconst hX dX7_readRoom_59 ?_
        refine j_icmp_eq (tgt := 69) hX dX7_readRoom_60 (by decide) (by omega) (by omega) (fun hc41 => ?_) (fun hc41 => ?_)
        · skip
          refine j_aload_n hX dX7_readRoom_69 rfl 1 rfl ?_
          refine gf_X7_21 hX (by omega) (by omega) kc_1 hk32 (by omega) dX7_readRoom_70 ?_
          refine gf_X7_116 hX (by omega) (by omega) (kq hq) (fq_1 hI27 hq) (by omega) dX7_readRoom_73 ?_
          refine j_iload_n hX dX7_readRoom_76 rfl 0 rfl ?_
          refine j_aload_n hX dX7_readRoom_77 rfl 1 rfl ?_
          refine gf_X7_12 hX (by omega) (by omega) kc_1 (fc_1_0 hI27) (by decide) dX7_readRoom_78 ?_
          refine gf_X7_108 hX (by omega) (by omega) kc_2 dX7_readRoom_81 ?_
          refine j_last hX (by omega) (by omega) (kq_1 hq) (by omega) (by omega) (by omega) dX7_readRoom_84 ?_
          refine j_upL hI27 (fun M42 hM43 hI44 => ?_)
          have hV45 := DL_l hV30 hM43
          have hV46 := KN_l hV31 hM43
          have hk47 := kp_l hM43 hk32
          have hk48 := kp_l hM43 hk33
          clear hk32 hk33
          have hF49 := Fr.l hF34 hM43
          refine j_aload_n hX dX7_readRoom_85 rfl 1 rfl ?_
          refine gf_X7_12 hX (by omega) (by omega) kc_1 (fc_1_0 hI44) (by decide) dX7_readRoom_86 ?_
          refine j_callVV hX lk_X7_41 (c_X9_advance _ _ _ _ _ _ (by omega) hI44 (by first | assumption | omega)) (by omega) hce rfl rfl (by omega) (by omega) kc_2 rfl rfl (Nat.le_of_ble_eq_true rfl) dX7_readRoom_89 (fun M51 hp52 => ?_)
          obtain ⟨hI54, hG55, hq56⟩ := hp52
          have hV57 := DL_fr hV45 hG55 (fun b => by omega) (by omega) (by omega)
          have hk59 := kp_fr hG55 (by omega) hk47
          have hk60 := kp_fr hG55 (by omega) hk48
          clear hk47 hk48
          have hF61 := Fr.trans hF49 hG55 (fun a b h => by omega)
          refine j_aload_n hX dX7_readRoom_92 rfl 1 rfl ?_
          refine j_sipush hX dX7_readRoom_93 rfl ?_
          refine j_callVI hX lk_X7_51 (c_X7_take _ _ _ _ _ _ _ _ (by omega) hI54 (by omega) (by assumption) hk59 (by first | assumption | omega)) (by omega) hce rfl rfl (by omega) (by omega) kc_1 rfl rfl (Nat.le_of_ble_eq_true rfl) dX7_readRoom_96 (fun z62 M63 hz65 hp64 => ?_)
          obtain ⟨hI66, hG67, hb68, hq69⟩ := hp64
          have hV70 := DL_fr hV57 hG67 (fun b => by omega) (by omega) (by omega)
          have hk72 := kp_fr hG67 (by omega) hk59
          have hk73 := kp_fr hG67 (by omega) hk60
          clear hk59 hk60
          have hF74 := Fr.trans hF61 hG67 (fun a b h => by omega)
          refine j_if_eq (tgt := 111) hX dX7_readRoom_99 (by decide) (by omega) (fun hc75 => ?_) (fun hc75 => ?_)
          · skip
            refine j_iconst hX dX7_readRoom_111 ?_
            exact hret _ _ _ _ dX7_readRoom_112 (nb (by omega)) (by omega) ⟨hI66, hF74, by omega, by first | assumption | omega, by first | (intro _; assumption) | (intro h; exact absurd h (by decide)) | (intro _ h; omega)⟩
          · skip
            refine j_aload_n hX dX7_readRoom_102 rfl 1 rfl ?_
            refine j_bipush hX dX7_readRoom_103 rfl ?_
            refine j_callVI hX lk_X7_120 (c_X7_takeNumber _ _ _ _ _ _ _ _ (by omega) hI66 (by omega) (by assumption) hk72 (by first | assumption | omega)) (by omega) hce rfl rfl (by omega) (by omega) kc_1 rfl rfl (Nat.le_of_ble_eq_true rfl) dX7_readRoom_105 (fun z76 M77 hz79 hp78 => ?_)
            obtain ⟨hI80, hG81, hb82, hq83, hq84⟩ := hp78
            have hV85 := DL_fr hV70 hG81 (fun b => by omega) (by omega) (by omega)
            have hk87 := kp_fr hG81 (by omega) hk72
            have hk88 := kp_fr hG81 (by omega) hk73
            clear hk72 hk73
            have hF89 := Fr.trans hF74 hG81 (fun a b h => by omega)
            refine j_if_ne (tgt := 113) hX dX7_readRoom_108 (by decide) (by omega) (fun hc90 => ?_) (fun hc90 => ?_)
            · skip
              have hi91 := hq84 (by omega)
              clear hq84
              refine j_aload_n hX dX7_readRoom_113 rfl 1 rfl ?_
              refine gf_X7_21 hX (by omega) (by omega) kc_1 hk87 (by omega) dX7_readRoom_114 ?_
              refine gf_X7_123 hX (by omega) (by omega) (kq hq) (fq_2 hI80 hq) (by omega) dX7_readRoom_117 ?_
              refine j_iload_n hX dX7_readRoom_120 rfl 0 rfl ?_
              refine j_aload_n hX dX7_readRoom_121 rfl 1 rfl ?_
              refine gf_X7_32 hX (by omega) (by omega) kc_1 dX7_readRoom_122 ?_
              refine j_name hI80 ro_1_4 (fun v92 hv93 hl94 hh95 => ?_)
              have hk96 := hv93.symm
              refine j_iast hX (by omega) (by omega) (kq_2 hq) (by omega) (by omega) (by omega) (by omega) dX7_readRoom_125 ?_
              refine j_up hI80 (aq_2 hq _) (by omega) (by omega) (Or.inl (by omega)) (fun M97 w98 hw99 hM100 hI101 hf102 => ?_)
              have hV103 := DL_up hV85 hM100 (by omega) (by omega)
              have hV104 := KN_up hq83 hM100 (by omega)
              have hk105 := kp_up hM100 (by omega) hk87
              have hk106 := kp_up hM100 (by omega) hk88
              have hk107 := kp_up hM100 (by omega) hk96
              clear hk87 hk88 hk96
              have hF108 := Fr.put hF89 hM100 (by omega)
              refine j_aload_n hX dX7_readRoom_126 rfl 1 rfl ?_
              refine j_sipush hX dX7_readRoom_127 rfl ?_
              refine j_callVI hX lk_X7_127 (c_X7_takeIf _ _ _ _ _ _ _ _ (by omega) hI101 (by omega) (by assumption) hk105 (by first | assumption | omega)) (by omega) hce rfl rfl (by omega) (by omega) kc_1 rfl rfl (Nat.le_of_ble_eq_true rfl) dX7_readRoom_130 (fun z109 M110 hz112 hp111 => ?_)
              obtain ⟨hI113, hG114, hb115, hq116⟩ := hp111
              have hV117 := DL_fr hV103 hG114 (fun b => by omega) (by omega) (by omega)
              have hk119 := kp_fr hG114 (by omega) hk105
              have hk120 := kp_fr hG114 (by omega) hk106
              have hk121 := kp_fr hG114 (by omega) hk107
              clear hk105 hk106 hk107
              have hF122 := Fr.trans hF108 hG114 (fun a b h => by omega)
              refine j_if_eq (tgt := 151) hX dX7_readRoom_133 (by decide) (by omega) (fun hc123 => ?_) (fun hc123 => ?_)
              · skip
                refine j_aload_n hX dX7_readRoom_151 rfl 1 rfl ?_
                refine gf_X7_21 hX (by omega) (by omega) kc_1 hk119 (by omega) dX7_readRoom_152 ?_
                refine j_iload_n hX dX7_readRoom_155 rfl 0 rfl ?_
                refine j_iconst hX dX7_readRoom_156 ?_
                refine j_iadd hX dX7_readRoom_157 ?_
                refine pf_X7_98 hX (by omega) (by omega) (kq hq) (by omega) dX7_readRoom_158 ?_
                refine j_up hI113 (rq_0 hq) (by omega) (by omega) (Or.inl (by omega)) (fun M124 w125 hw126 hM127 hI128 hf129 => ?_)
                have hV131 := KN_up hq116 hM127 (by omega)
                have hk132 := kp_up hM127 (by omega) hk119
                have hk133 := kp_up hM127 (by omega) hk121
                clear hk119 hk120 hk121
                have hF134 := Fr.put hF122 hM127 (by omega)
                refine j_iconst hX dX7_readRoom_161 ?_
                exact hret _ _ _ _ dX7_readRoom_162 (nb (by omega)) (by omega) ⟨hI128, hF134, by omega, by first | assumption | omega, by first | (intro _; assumption) | (intro h; exact absurd h (by decide)) | (intro _ h; omega)⟩
              · skip
                refine j_aload_n hX dX7_readRoom_136 rfl 1 rfl ?_
                refine gf_X7_21 hX (by omega) (by omega) kc_1 hk119 (by omega) dX7_readRoom_137 ?_
                refine j_dup hX dX7_readRoom_140 rfl ?_
                refine gf_X7_130 hX (by omega) (by omega) (kq hq) dX7_readRoom_141 ?_
                refine j_name hI113 (rq_3 hq) (fun v135 hv136 hl137 hh138 => ?_)
                have hk139 := hv136.symm
                refine j_iconst hX dX7_readRoom_144 ?_
                refine j_iload_n hX dX7_readRoom_145 rfl 0 rfl ?_
                refine j_ishl hX dX7_readRoom_146 (fun z140 hz141 hy142 => ?_)
                refine j_ior hX dX7_readRoom_147 (fun z143 hz144 hy145 => ?_)
                refine pf_X7_130 hX (by omega) (by omega) (kq hq) (by omega) dX7_readRoom_148 ?_
                refine j_up hI113 (rq_3 hq) (by omega) (by omega) (Or.inl (by omega)) (fun M146 w147 hw148 hM149 hI150 hf151 => ?_)
                have hV152 := DL_up hV117 hM149 (by omega) (by omega)
                have hV153 := KN_up hq116 hM149 (by omega)
                have hk154 := kp_up hM149 (by omega) hk119
                have hk155 := kp_up hM149 (fun h => absurd h.2 (by decide)) hk120
                have hk156 := kp_up hM149 (by omega) hk121
                clear hk119 hk120 hk121 hk139
                have hF157 := Fr.put hF122 hM149 (by omega)
                refine j_aload_n hX dX7_readRoom_151 rfl 1 rfl ?_
                refine gf_X7_21 hX (by omega) (by omega) kc_1 hk154 (by omega) dX7_readRoom_152 ?_
                refine j_iload_n hX dX7_readRoom_155 rfl 0 rfl ?_
                refine j_iconst hX dX7_readRoom_156 ?_
                refine j_iadd hX dX7_readRoom_157 ?_
                refine pf_X7_98 hX (by omega) (by omega) (kq hq) (by omega) dX7_readRoom_158 ?_
                refine j_up hI150 (rq_0 hq) (by omega) (by omega) (Or.inl (by omega)) (fun M158 w159 hw160 hM161 hI162 hf163 => ?_)
                have hV165 := KN_up hV153 hM161 (by omega)
                have hk166 := kp_up hM161 (by omega) hk154
                have hk167 := kp_up hM161 (by omega) hk156
                have hk168 := kp_up hM161 (fun h => absurd h.2 (by decide)) hf151
                clear hk154 hk155 hk156 hf151
                have hF169 := Fr.put hF157 hM161 (by omega)
                refine j_iconst hX dX7_readRoom_161 ?_
                exact hret _ _ _ _ dX7_readRoom_162 (nb (by omega)) (by omega) ⟨hI162, hF169, by omega, by first | assumption | omega, by first | (intro _; assumption) | (intro h; exact absurd h (by decide)) | (intro _ h; omega)⟩
            · skip
              clear hq84
              refine j_iconst hX dX7_readRoom_111 ?_
              exact hret _ _ _ _ dX7_readRoom_112 (nb (by omega)) (by omega) ⟨hI80, hF89, by omega, by first | assumption | omega, by first | (intro _; assumption) | (intro h; exact absurd h (by decide)) | (intro _ h; omega)⟩
        · skip
          refine j_aload_n hX dX7_readRoom_63 rfl 1 rfl ?_
          refine j_iconst hX dX7_readRoom_64 ?_
          refine j_callVI hX lk_X7_95 (c_X7_refuse _ _ _ _ _ _ _ _ (by omega) hI27 (by omega) (by assumption) hk32) (by omega) hce rfl rfl (by omega) (by omega) kc_1 rfl rfl (Nat.le_of_ble_eq_true rfl) dX7_readRoom_65 (fun z170 M171 hz173 hp172 => ?_)
          obtain ⟨hI174, hG175, hb176, hq177⟩ := hp172
          have hV178 := DL_fr hV30 hG175 (fun b => by omega) (by omega) (by omega)
          have hV179 := KN_fr hV31 hG175 (by omega) (by omega)
          have hk180 := kp_fr hG175 (by omega) hk32
          have hk181 := kp_fr hG175 (by omega) hk33
          clear hk32 hk33
          have hF182 := Fr.trans hF34 hG175 (fun a b h => by omega)
          exact hret _ _ _ _ dX7_readRoom_68 (nb (by omega)) (by omega) ⟨hI174, hF182, by omega, by first | assumption | omega, by first | (intro _; assumption) | (intro h; exact absurd h (by decide)) | (intro _ h; omega)⟩
      · skip
        refine j_iconst hX dX7_readRoom_43 ?_
        exact hret _ _ _ _ dX7_readRoom_44 (nb (by omega)) (by omega) ⟨hI27, hF34, by omega, by first | assumption | omega, by first | (intro _; assumption) | (intro h; exact absurd h (by decide)) | (intro _ h; omega)⟩
  · skip
    refine j_aload_n hX dX7_readRoom_15 rfl 1 rfl ?_
    refine gf_X7_21 hX (by omega) (by omega) kc_1 hto (by omega) dX7_readRoom_16 ?_
    refine gf_X7_101 hX (by omega) (by omega) (kq hq) dX7_readRoom_19 ?_
    refine j_name hI (rq_9 hq) (fun v183 hv184 hl185 hh186 => ?_)
    have hk187 := hv184.symm
    refine j_if_ne (tgt := 29) hX dX7_readRoom_22 (by decide) (by omega) (fun hc188 => ?_) (fun hc188 => ?_)
    · skip
      refine j_iconst hX dX7_readRoom_29 ?_
      refine j_callVI hX lk_X7_82 (c_X7_mayStart _ _ _ _ _ _ _ _ (by omega) hI (by omega) (by assumption) hto (by first | assumption | omega) (by first | assumption | omega)) (by omega) hce rfl rfl (by omega) (by omega) kc_1 rfl rfl (Nat.le_of_ble_eq_true rfl) dX7_readRoom_30 (fun z189 M190 hz192 hp191 => ?_)
      obtain ⟨hI193, hG194, hb195, hq196, hq197⟩ := hp191
      have hV199 := DL_fr hDL hG194 (fun b => by omega) (by omega) (by omega)
      have hk200 := kp_fr hG194 (by omega) hto
      have hk201 := kp_fr hG194 (by omega) hk5
      have hk202 := kp_fr hG194 (by omega) hk187
      clear hk5 hk187
      have hF203 := Fr.trans hF hG194 (fun a b h => by omega)
      refine j_if_eq (tgt := 43) hX dX7_readRoom_33 (by decide) (by omega) (fun hc204 => ?_) (fun hc204 => ?_)
      · skip
        clear hq197
        refine j_iconst hX dX7_readRoom_43 ?_
        exact hret _ _ _ _ dX7_readRoom_44 (nb (by omega)) (by omega) ⟨hI193, hF203, by omega, by first | assumption | omega, by first | (intro _; assumption) | (intro h; exact absurd h (by decide)) | (intro _ h; omega)⟩
      · skip
        have hi205 := hq197 (by omega)
        clear hq197
        refine j_aload_n hX dX7_readRoom_36 rfl 1 rfl ?_
        refine j_callVI hX lk_X7_105 (c_X7_isName _ _ _ _ _ _ _ (by omega) hI193 (by assumption) hk200) (by omega) hce rfl rfl (by omega) (by omega) kc_1 rfl rfl (Nat.le_of_ble_eq_true rfl) dX7_readRoom_37 (fun z206 M207 hz209 hp208 => ?_)
        obtain ⟨hI210, hG211, hb212⟩ := hp208
        have hV213 := DL_fr hV199 hG211 (fun b => by omega) (by omega) (by omega)
        have hV214 := KN_fr hq196 hG211 (by omega) (by omega)
        have hk215 := kp_fr hG211 (by omega) hk200
        have hk216 := kp_fr hG211 (by omega) hk201
        have hk217 := kp_fr hG211 (by omega) hk202
        clear hk200 hk201 hk202
        have hF218 := Fr.trans hF203 hG211 (fun a b h => by omega)
        refine j_if_ne (tgt := 45) hX dX7_readRoom_40 (by decide) (by omega) (fun hc219 => ?_) (fun hc219 => ?_)
        · skip
          refine j_aload_n hX dX7_readRoom_45 rfl 1 rfl ?_
          refine gf_X7_21 hX (by omega) (by omega) kc_1 hk215 (by omega) dX7_readRoom_46 ?_
          refine j_aload_n hX dX7_readRoom_49 rfl 1 rfl ?_
          refine gf_X7_12 hX (by omega) (by omega) kc_1 (fc_1_0 hI210) (by decide) dX7_readRoom_50 ?_
          refine gf_X7_108 hX (by omega) (by omega) kc_2 dX7_readRoom_53 ?_
          refine j_callVI hX lk_X7_112 (c_X6_roomNamed _ _ _ _ _ q _ _ (by omega) hI210 hq) (by omega) hce rfl rfl (by omega) (by omega) (kq hq) rfl rfl (Nat.le_of_ble_eq_true rfl) dX7_readRoom_56 (fun z220 M221 hz223 hp222 => ?_)
          obtain ⟨rfl, hq224⟩ := hp222
          refine j_iconst hX dX7_readRoom_59 ?_
          refine j_icmp_eq (tgt := 69) hX dX7_readRoom_60 (by decide) (by omega) (by omega) (fun hc225 => ?_) (fun hc225 => ?_)
          · skip
            refine j_aload_n hX dX7_readRoom_69 rfl 1 rfl ?_
            refine gf_X7_21 hX (by omega) (by omega) kc_1 hk215 (by omega) dX7_readRoom_70 ?_
            refine gf_X7_116 hX (by omega) (by omega) (kq hq) (fq_1 hI210 hq) (by omega) dX7_readRoom_73 ?_
            refine j_iload_n hX dX7_readRoom_76 rfl 0 rfl ?_
            refine j_aload_n hX dX7_readRoom_77 rfl 1 rfl ?_
            refine gf_X7_12 hX (by omega) (by omega) kc_1 (fc_1_0 hI210) (by decide) dX7_readRoom_78 ?_
            refine gf_X7_108 hX (by omega) (by omega) kc_2 dX7_readRoom_81 ?_
            refine j_last hX (by omega) (by omega) (kq_1 hq) (by omega) (by omega) (by omega) dX7_readRoom_84 ?_
            refine j_upL hI210 (fun M226 hM227 hI228 => ?_)
            have hV229 := DL_l hV213 hM227
            have hV230 := KN_l hV214 hM227
            have hk231 := kp_l hM227 hk215
            have hk232 := kp_l hM227 hk216
            have hk233 := kp_l hM227 hk217
            clear hk215 hk216 hk217
            have hF234 := Fr.l hF218 hM227
            refine j_aload_n hX dX7_readRoom_85 rfl 1 rfl ?_
            refine gf_X7_12 hX (by omega) (by omega) kc_1 (fc_1_0 hI228) (by decide) dX7_readRoom_86 ?_
            refine j_callVV hX lk_X7_41 (c_X9_advance _ _ _ _ _ _ (by omega) hI228 (by first | assumption | omega)) (by omega) hce rfl rfl (by omega) (by omega) kc_2 rfl rfl (Nat.le_of_ble_eq_true rfl) dX7_readRoom_89 (fun M236 hp237 => ?_)
            obtain ⟨hI239, hG240, hq241⟩ := hp237
            have hV242 := DL_fr hV229 hG240 (fun b => by omega) (by omega) (by omega)
            have hk244 := kp_fr hG240 (by omega) hk231
            have hk245 := kp_fr hG240 (by omega) hk232
            have hk246 := kp_fr hG240 (by omega) hk233
            clear hk231 hk232 hk233
            have hF247 := Fr.trans hF234 hG240 (fun a b h => by omega)
            refine j_aload_n hX dX7_readRoom_92 rfl 1 rfl ?_
            refine j_sipush hX dX7_readRoom_93 rfl ?_
            refine j_callVI hX lk_X7_51 (c_X7_take _ _ _ _ _ _ _ _ (by omega) hI239 (by omega) (by assumption) hk244 (by first | assumption | omega)) (by omega) hce rfl rfl (by omega) (by omega) kc_1 rfl rfl (Nat.le_of_ble_eq_true rfl) dX7_readRoom_96 (fun z248 M249 hz251 hp250 => ?_)
            obtain ⟨hI252, hG253, hb254, hq255⟩ := hp250
            have hV256 := DL_fr hV242 hG253 (fun b => by omega) (by omega) (by omega)
            have hk258 := kp_fr hG253 (by omega) hk244
            have hk259 := kp_fr hG253 (by omega) hk245
            have hk260 := kp_fr hG253 (by omega) hk246
            clear hk244 hk245 hk246
            have hF261 := Fr.trans hF247 hG253 (fun a b h => by omega)
            refine j_if_eq (tgt := 111) hX dX7_readRoom_99 (by decide) (by omega) (fun hc262 => ?_) (fun hc262 => ?_)
            · skip
              refine j_iconst hX dX7_readRoom_111 ?_
              exact hret _ _ _ _ dX7_readRoom_112 (nb (by omega)) (by omega) ⟨hI252, hF261, by omega, by first | assumption | omega, by first | (intro _; assumption) | (intro h; exact absurd h (by decide)) | (intro _ h; omega)⟩
            · skip
              refine j_aload_n hX dX7_readRoom_102 rfl 1 rfl ?_
              refine j_bipush hX dX7_readRoom_103 rfl ?_
              refine j_callVI hX lk_X7_120 (c_X7_takeNumber _ _ _ _ _ _ _ _ (by omega) hI252 (by omega) (by assumption) hk258 (by first | assumption | omega)) (by omega) hce rfl rfl (by omega) (by omega) kc_1 rfl rfl (Nat.le_of_ble_eq_true rfl) dX7_readRoom_105 (fun z263 M264 hz266 hp265 => ?_)
              obtain ⟨hI267, hG268, hb269, hq270, hq271⟩ := hp265
              have hV272 := DL_fr hV256 hG268 (fun b => by omega) (by omega) (by omega)
              have hk274 := kp_fr hG268 (by omega) hk258
              have hk275 := kp_fr hG268 (by omega) hk259
              have hk276 := kp_fr hG268 (by omega) hk260
              clear hk258 hk259 hk260
              have hF277 := Fr.trans hF261 hG268 (fun a b h => by omega)
              refine j_if_ne (tgt := 113) hX dX7_readRoom_108 (by decide) (by omega) (fun hc278 => ?_) (fun hc278 => ?_)
              · skip
                have hi279 := hq271 (by omega)
                clear hq271
                refine j_aload_n hX dX7_readRoom_113 rfl 1 rfl ?_
                refine gf_X7_21 hX (by omega) (by omega) kc_1 hk274 (by omega) dX7_readRoom_114 ?_
                refine gf_X7_123 hX (by omega) (by omega) (kq hq) (fq_2 hI267 hq) (by omega) dX7_readRoom_117 ?_
                refine j_iload_n hX dX7_readRoom_120 rfl 0 rfl ?_
                refine j_aload_n hX dX7_readRoom_121 rfl 1 rfl ?_
                refine gf_X7_32 hX (by omega) (by omega) kc_1 dX7_readRoom_122 ?_
                refine j_name hI267 ro_1_4 (fun v280 hv281 hl282 hh283 => ?_)
                have hk284 := hv281.symm
                refine j_iast hX (by omega) (by omega) (kq_2 hq) (by omega) (by omega) (by omega) (by omega) dX7_readRoom_125 ?_
                refine j_up hI267 (aq_2 hq _) (by omega) (by omega) (Or.inl (by omega)) (fun M285 w286 hw287 hM288 hI289 hf290 => ?_)
                have hV291 := DL_up hV272 hM288 (by omega) (by omega)
                have hV292 := KN_up hq270 hM288 (by omega)
                have hk293 := kp_up hM288 (by omega) hk274
                have hk294 := kp_up hM288 (by omega) hk275
                have hk295 := kp_up hM288 (by omega) hk276
                have hk296 := kp_up hM288 (by omega) hk284
                clear hk274 hk275 hk276 hk284
                have hF297 := Fr.put hF277 hM288 (by omega)
                refine j_aload_n hX dX7_readRoom_126 rfl 1 rfl ?_
                refine j_sipush hX dX7_readRoom_127 rfl ?_
                refine j_callVI hX lk_X7_127 (c_X7_takeIf _ _ _ _ _ _ _ _ (by omega) hI289 (by omega) (by assumption) hk293 (by first | assumption | omega)) (by omega) hce rfl rfl (by omega) (by omega) kc_1 rfl rfl (Nat.le_of_ble_eq_true rfl) dX7_readRoom_130 (fun z298 M299 hz301 hp300 => ?_)
                obtain ⟨hI302, hG303, hb304, hq305⟩ := hp300
                have hV306 := DL_fr hV291 hG303 (fun b => by omega) (by omega) (by omega)
                have hk308 := kp_fr hG303 (by omega) hk293
                have hk309 := kp_fr hG303 (by omega) hk294
                have hk310 := kp_fr hG303 (by omega) hk295
                have hk311 := kp_fr hG303 (by omega) hk296
                clear hk293 hk294 hk295 hk296
                have hF312 := Fr.trans hF297 hG303 (fun a b h => by omega)
                refine j_if_eq (tgt := 151) hX dX7_readRoom_133 (by decide) (by omega) (fun hc313 => ?_) (fun hc313 => ?_)
                · skip
                  refine j_aload_n hX dX7_readRoom_151 rfl 1 rfl ?_
                  refine gf_X7_21 hX (by omega) (by omega) kc_1 hk308 (by omega) dX7_readRoom_152 ?_
                  refine j_iload_n hX dX7_readRoom_155 rfl 0 rfl ?_
                  refine j_iconst hX dX7_readRoom_156 ?_
                  refine j_iadd hX dX7_readRoom_157 ?_
                  refine pf_X7_98 hX (by omega) (by omega) (kq hq) (by omega) dX7_readRoom_158 ?_
                  refine j_up hI302 (rq_0 hq) (by omega) (by omega) (Or.inl (by omega)) (fun M314 w315 hw316 hM317 hI318 hf319 => ?_)
                  have hV321 := KN_up hq305 hM317 (by omega)
                  have hk322 := kp_up hM317 (by omega) hk308
                  have hk323 := kp_up hM317 (fun h => absurd h.2 (by decide)) hk310
                  have hk324 := kp_up hM317 (by omega) hk311
                  clear hk308 hk309 hk310 hk311
                  have hF325 := Fr.put hF312 hM317 (by omega)
                  refine j_iconst hX dX7_readRoom_161 ?_
                  exact hret _ _ _ _ dX7_readRoom_162 (nb (by omega)) (by omega) ⟨hI318, hF325, by omega, by first | assumption | omega, by first | (intro _; assumption) | (intro h; exact absurd h (by decide)) | (intro _ h; omega)⟩
                · skip
                  refine j_aload_n hX dX7_readRoom_136 rfl 1 rfl ?_
                  refine gf_X7_21 hX (by omega) (by omega) kc_1 hk308 (by omega) dX7_readRoom_137 ?_
                  refine j_dup hX dX7_readRoom_140 rfl ?_
                  refine gf_X7_130 hX (by omega) (by omega) (kq hq) dX7_readRoom_141 ?_
                  refine j_name hI302 (rq_3 hq) (fun v326 hv327 hl328 hh329 => ?_)
                  have hk330 := hv327.symm
                  refine j_iconst hX dX7_readRoom_144 ?_
                  refine j_iload_n hX dX7_readRoom_145 rfl 0 rfl ?_
                  refine j_ishl hX dX7_readRoom_146 (fun z331 hz332 hy333 => ?_)
                  refine j_ior hX dX7_readRoom_147 (fun z334 hz335 hy336 => ?_)
                  refine pf_X7_130 hX (by omega) (by omega) (kq hq) (by omega) dX7_readRoom_148 ?_
                  refine j_up hI302 (rq_3 hq) (by omega) (by omega) (Or.inl (by omega)) (fun M337 w338 hw339 hM340 hI341 hf342 => ?_)
                  have hV343 := DL_up hV306 hM340 (by omega) (by omega)
                  have hV344 := KN_up hq305 hM340 (by omega)
                  have hk345 := kp_up hM340 (by omega) hk308
                  have hk346 := kp_up hM340 (fun h => absurd h.2 (by decide)) hk309
                  have hk347 := kp_up hM340 (fun h => absurd h.2 (by decide)) hk310
                  have hk348 := kp_up hM340 (by omega) hk311
                  clear hk308 hk309 hk310 hk311 hk330
                  have hF349 := Fr.put hF312 hM340 (by omega)
                  refine j_aload_n hX dX7_readRoom_151 rfl 1 rfl ?_
                  refine gf_X7_21 hX (by omega) (by omega) kc_1 hk345 (by omega) dX7_readRoom_152 ?_
                  refine j_iload_n hX dX7_readRoom_155 rfl 0 rfl ?_
                  refine j_iconst hX dX7_readRoom_156 ?_
                  refine j_iadd hX dX7_readRoom_157 ?_
                  refine pf_X7_98 hX (by omega) (by omega) (kq hq) (by omega) dX7_readRoom_158 ?_
                  refine j_up hI341 (rq_0 hq) (by omega) (by omega) (Or.inl (by omega)) (fun M350 w351 hw352 hM353 hI354 hf355 => ?_)
                  have hV357 := KN_up hV344 hM353 (by omega)
                  have hk358 := kp_up hM353 (by omega) hk345
                  have hk359 := kp_up hM353 (fun h => absurd h.2 (by decide)) hk347
                  have hk360 := kp_up hM353 (by omega) hk348
                  have hk361 := kp_up hM353 (fun h => absurd h.2 (by decide)) hf342
                  clear hk345 hk346 hk347 hk348 hf342
                  have hF362 := Fr.put hF349 hM353 (by omega)
                  refine j_iconst hX dX7_readRoom_161 ?_
                  exact hret _ _ _ _ dX7_readRoom_162 (nb (by omega)) (by omega) ⟨hI354, hF362, by omega, by first | assumption | omega, by first | (intro _; assumption) | (intro h; exact absurd h (by decide)) | (intro _ h; omega)⟩
              · skip
                clear hq271
                refine j_iconst hX dX7_readRoom_111 ?_
                exact hret _ _ _ _ dX7_readRoom_112 (nb (by omega)) (by omega) ⟨hI267, hF277, by omega, by first | assumption | omega, by first | (intro _; assumption) | (intro h; exact absurd h (by decide)) | (intro _ h; omega)⟩
          · skip
            refine j_aload_n hX dX7_readRoom_63 rfl 1 rfl ?_
            refine j_iconst hX dX7_readRoom_64 ?_
            refine j_callVI hX lk_X7_95 (c_X7_refuse _ _ _ _ _ _ _ _ (by omega) hI210 (by omega) (by assumption) hk215) (by omega) hce rfl rfl (by omega) (by omega) kc_1 rfl rfl (Nat.le_of_ble_eq_true rfl) dX7_readRoom_65 (fun z363 M364 hz366 hp365 => ?_)
            obtain ⟨hI367, hG368, hb369, hq370⟩ := hp365
            have hV371 := DL_fr hV213 hG368 (fun b => by omega) (by omega) (by omega)
            have hV372 := KN_fr hV214 hG368 (by omega) (by omega)
            have hk373 := kp_fr hG368 (by omega) hk215
            have hk374 := kp_fr hG368 (by omega) hk216
            have hk375 := kp_fr hG368 (by omega) hk217
            clear hk215 hk216 hk217
            have hF376 := Fr.trans hF218 hG368 (fun a b h => by omega)
            exact hret _ _ _ _ dX7_readRoom_68 (nb (by omega)) (by omega) ⟨hI367, hF376, by omega, by first | assumption | omega, by first | (intro _; assumption) | (intro h; exact absurd h (by decide)) | (intro _ h; omega)⟩
        · skip
          refine j_iconst hX dX7_readRoom_43 ?_
          exact hret _ _ _ _ dX7_readRoom_44 (nb (by omega)) (by omega) ⟨hI210, hF218, by omega, by first | assumption | omega, by first | (intro _; assumption) | (intro h; exact absurd h (by decide)) | (intro _ h; omega)⟩
    · skip
      refine j_iconst hX dX7_readRoom_25 ?_
      refine j_goto (tgt := 30) hX dX7_readRoom_26 (by decide) ?_
      refine j_callVI hX lk_X7_82 (c_X7_mayStart _ _ _ _ _ _ _ _ (by omega) hI (by omega) (by assumption) hto (by first | assumption | omega) (by first | assumption | omega)) (by omega) hce rfl rfl (by omega) (by omega) kc_1 rfl rfl (Nat.le_of_ble_eq_true rfl) dX7_readRoom_30 (fun z377 M378 hz380 hp379 => ?_)
      obtain ⟨hI381, hG382, hb383, hq384, hq385⟩ := hp379
      have hV387 := DL_fr hDL hG382 (fun b => by omega) (by omega) (by omega)
      have hk388 := kp_fr hG382 (by omega) hto
      have hk389 := kp_fr hG382 (by omega) hk5
      have hk390 := kp_fr hG382 (by omega) hk187
      clear hk5 hk187
      have hF391 := Fr.trans hF hG382 (fun a b h => by omega)
      refine j_if_eq (tgt := 43) hX dX7_readRoom_33 (by decide) (by omega) (fun hc392 => ?_) (fun hc392 => ?_)
      · skip
        clear hq385
        refine j_iconst hX dX7_readRoom_43 ?_
        exact hret _ _ _ _ dX7_readRoom_44 (nb (by omega)) (by omega) ⟨hI381, hF391, by omega, by first | assumption | omega, by first | (intro _; assumption) | (intro h; exact absurd h (by decide)) | (intro _ h; omega)⟩
      · skip
        have hi393 := hq385 (by omega)
        clear hq385
        refine j_aload_n hX dX7_readRoom_36 rfl 1 rfl ?_
        refine j_callVI hX lk_X7_105 (c_X7_isName _ _ _ _ _ _ _ (by omega) hI381 (by assumption) hk388) (by omega) hce rfl rfl (by omega) (by omega) kc_1 rfl rfl (Nat.le_of_ble_eq_true rfl) dX7_readRoom_37 (fun z394 M395 hz397 hp396 => ?_)
        obtain ⟨hI398, hG399, hb400⟩ := hp396
        have hV401 := DL_fr hV387 hG399 (fun b => by omega) (by omega) (by omega)
        have hV402 := KN_fr hq384 hG399 (by omega) (by omega)
        have hk403 := kp_fr hG399 (by omega) hk388
        have hk404 := kp_fr hG399 (by omega) hk389
        have hk405 := kp_fr hG399 (by omega) hk390
        clear hk388 hk389 hk390
        have hF406 := Fr.trans hF391 hG399 (fun a b h => by omega)
        refine j_if_ne (tgt := 45) hX dX7_readRoom_40 (by decide) (by omega) (fun hc407 => ?_) (fun hc407 => ?_)
        · skip
          refine j_aload_n hX dX7_readRoom_45 rfl 1 rfl ?_
          refine gf_X7_21 hX (by omega) (by omega) kc_1 hk403 (by omega) dX7_readRoom_46 ?_
          refine j_aload_n hX dX7_readRoom_49 rfl 1 rfl ?_
          refine gf_X7_12 hX (by omega) (by omega) kc_1 (fc_1_0 hI398) (by decide) dX7_readRoom_50 ?_
          refine gf_X7_108 hX (by omega) (by omega) kc_2 dX7_readRoom_53 ?_
          refine j_callVI hX lk_X7_112 (c_X6_roomNamed _ _ _ _ _ q _ _ (by omega) hI398 hq) (by omega) hce rfl rfl (by omega) (by omega) (kq hq) rfl rfl (Nat.le_of_ble_eq_true rfl) dX7_readRoom_56 (fun z408 M409 hz411 hp410 => ?_)
          obtain ⟨rfl, hq412⟩ := hp410
          refine j_iconst hX dX7_readRoom_59 ?_
          refine j_icmp_eq (tgt := 69) hX dX7_readRoom_60 (by decide) (by omega) (by omega) (fun hc413 => ?_) (fun hc413 => ?_)
          · skip
            refine j_aload_n hX dX7_readRoom_69 rfl 1 rfl ?_
            refine gf_X7_21 hX (by omega) (by omega) kc_1 hk403 (by omega) dX7_readRoom_70 ?_
            refine gf_X7_116 hX (by omega) (by omega) (kq hq) (fq_1 hI398 hq) (by omega) dX7_readRoom_73 ?_
            refine j_iload_n hX dX7_readRoom_76 rfl 0 rfl ?_
            refine j_aload_n hX dX7_readRoom_77 rfl 1 rfl ?_
            refine gf_X7_12 hX (by omega) (by omega) kc_1 (fc_1_0 hI398) (by decide) dX7_readRoom_78 ?_
            refine gf_X7_108 hX (by omega) (by omega) kc_2 dX7_readRoom_81 ?_
            refine j_last hX (by omega) (by omega) (kq_1 hq) (by omega) (by omega) (by omega) dX7_readRoom_84 ?_
            refine j_upL hI398 (fun M414 hM415 hI416 => ?_)
            have hV417 := DL_l hV401 hM415
            have hV418 := KN_l hV402 hM415
            have hk419 := kp_l hM415 hk403
            have hk420 := kp_l hM415 hk404
            have hk421 := kp_l hM415 hk405
            clear hk403 hk404 hk405
            have hF422 := Fr.l hF406 hM415
            refine j_aload_n hX dX7_readRoom_85 rfl 1 rfl ?_
            refine gf_X7_12 hX (by omega) (by omega) kc_1 (fc_1_0 hI416) (by decide) dX7_readRoom_86 ?_
            refine j_callVV hX lk_X7_41 (c_X9_advance _ _ _ _ _ _ (by omega) hI416 (by first | assumption | omega)) (by omega) hce rfl rfl (by omega) (by omega) kc_2 rfl rfl (Nat.le_of_ble_eq_true rfl) dX7_readRoom_89 (fun M424 hp425 => ?_)
            obtain ⟨hI427, hG428, hq429⟩ := hp425
            have hV430 := DL_fr hV417 hG428 (fun b => by omega) (by omega) (by omega)
            have hk432 := kp_fr hG428 (by omega) hk419
            have hk433 := kp_fr hG428 (by omega) hk420
            have hk434 := kp_fr hG428 (by omega) hk421
            clear hk419 hk420 hk421
            have hF435 := Fr.trans hF422 hG428 (fun a b h => by omega)
            refine j_aload_n hX dX7_readRoom_92 rfl 1 rfl ?_
            refine j_sipush hX dX7_readRoom_93 rfl ?_
            refine j_callVI hX lk_X7_51 (c_X7_take _ _ _ _ _ _ _ _ (by omega) hI427 (by omega) (by assumption) hk432 (by first | assumption | omega)) (by omega) hce rfl rfl (by omega) (by omega) kc_1 rfl rfl (Nat.le_of_ble_eq_true rfl) dX7_readRoom_96 (fun z436 M437 hz439 hp438 => ?_)
            obtain ⟨hI440, hG441, hb442, hq443⟩ := hp438
            have hV444 := DL_fr hV430 hG441 (fun b => by omega) (by omega) (by omega)
            have hk446 := kp_fr hG441 (by omega) hk432
            have hk447 := kp_fr hG441 (by omega) hk433
            have hk448 := kp_fr hG441 (by omega) hk434
            clear hk432 hk433 hk434
            have hF449 := Fr.trans hF435 hG441 (fun a b h => by omega)
            refine j_if_eq (tgt := 111) hX dX7_readRoom_99 (by decide) (by omega) (fun hc450 => ?_) (fun hc450 => ?_)
            · skip
              refine j_iconst hX dX7_readRoom_111 ?_
              exact hret _ _ _ _ dX7_readRoom_112 (nb (by omega)) (by omega) ⟨hI440, hF449, by omega, by first | assumption | omega, by first | (intro _; assumption) | (intro h; exact absurd h (by decide)) | (intro _ h; omega)⟩
            · skip
              refine j_aload_n hX dX7_readRoom_102 rfl 1 rfl ?_
              refine j_bipush hX dX7_readRoom_103 rfl ?_
              refine j_callVI hX lk_X7_120 (c_X7_takeNumber _ _ _ _ _ _ _ _ (by omega) hI440 (by omega) (by assumption) hk446 (by first | assumption | omega)) (by omega) hce rfl rfl (by omega) (by omega) kc_1 rfl rfl (Nat.le_of_ble_eq_true rfl) dX7_readRoom_105 (fun z451 M452 hz454 hp453 => ?_)
              obtain ⟨hI455, hG456, hb457, hq458, hq459⟩ := hp453
              have hV460 := DL_fr hV444 hG456 (fun b => by omega) (by omega) (by omega)
              have hk462 := kp_fr hG456 (by omega) hk446
              have hk463 := kp_fr hG456 (by omega) hk447
              have hk464 := kp_fr hG456 (by omega) hk448
              clear hk446 hk447 hk448
              have hF465 := Fr.trans hF449 hG456 (fun a b h => by omega)
              refine j_if_ne (tgt := 113) hX dX7_readRoom_108 (by decide) (by omega) (fun hc466 => ?_) (fun hc466 => ?_)
              · skip
                have hi467 := hq459 (by omega)
                clear hq459
                refine j_aload_n hX dX7_readRoom_113 rfl 1 rfl ?_
                refine gf_X7_21 hX (by omega) (by omega) kc_1 hk462 (by omega) dX7_readRoom_114 ?_
                refine gf_X7_123 hX (by omega) (by omega) (kq hq) (fq_2 hI455 hq) (by omega) dX7_readRoom_117 ?_
                refine j_iload_n hX dX7_readRoom_120 rfl 0 rfl ?_
                refine j_aload_n hX dX7_readRoom_121 rfl 1 rfl ?_
                refine gf_X7_32 hX (by omega) (by omega) kc_1 dX7_readRoom_122 ?_
                refine j_name hI455 ro_1_4 (fun v468 hv469 hl470 hh471 => ?_)
                have hk472 := hv469.symm
                refine j_iast hX (by omega) (by omega) (kq_2 hq) (by omega) (by omega) (by omega) (by omega) dX7_readRoom_125 ?_
                refine j_up hI455 (aq_2 hq _) (by omega) (by omega) (Or.inl (by omega)) (fun M473 w474 hw475 hM476 hI477 hf478 => ?_)
                have hV479 := DL_up hV460 hM476 (by omega) (by omega)
                have hV480 := KN_up hq458 hM476 (by omega)
                have hk481 := kp_up hM476 (by omega) hk462
                have hk482 := kp_up hM476 (by omega) hk463
                have hk483 := kp_up hM476 (by omega) hk464
                have hk484 := kp_up hM476 (by omega) hk472
                clear hk462 hk463 hk464 hk472
                have hF485 := Fr.put hF465 hM476 (by omega)
                refine j_aload_n hX dX7_readRoom_126 rfl 1 rfl ?_
                refine j_sipush hX dX7_readRoom_127 rfl ?_
                refine j_callVI hX lk_X7_127 (c_X7_takeIf _ _ _ _ _ _ _ _ (by omega) hI477 (by omega) (by assumption) hk481 (by first | assumption | omega)) (by omega) hce rfl rfl (by omega) (by omega) kc_1 rfl rfl (Nat.le_of_ble_eq_true rfl) dX7_readRoom_130 (fun z486 M487 hz489 hp488 => ?_)
                obtain ⟨hI490, hG491, hb492, hq493⟩ := hp488
                have hV494 := DL_fr hV479 hG491 (fun b => by omega) (by omega) (by omega)
                have hk496 := kp_fr hG491 (by omega) hk481
                have hk497 := kp_fr hG491 (by omega) hk482
                have hk498 := kp_fr hG491 (by omega) hk483
                have hk499 := kp_fr hG491 (by omega) hk484
                clear hk481 hk482 hk483 hk484
                have hF500 := Fr.trans hF485 hG491 (fun a b h => by omega)
                refine j_if_eq (tgt := 151) hX dX7_readRoom_133 (by decide) (by omega) (fun hc501 => ?_) (fun hc501 => ?_)
                · skip
                  refine j_aload_n hX dX7_readRoom_151 rfl 1 rfl ?_
                  refine gf_X7_21 hX (by omega) (by omega) kc_1 hk496 (by omega) dX7_readRoom_152 ?_
                  refine j_iload_n hX dX7_readRoom_155 rfl 0 rfl ?_
                  refine j_iconst hX dX7_readRoom_156 ?_
                  refine j_iadd hX dX7_readRoom_157 ?_
                  refine pf_X7_98 hX (by omega) (by omega) (kq hq) (by omega) dX7_readRoom_158 ?_
                  refine j_up hI490 (rq_0 hq) (by omega) (by omega) (Or.inl (by omega)) (fun M502 w503 hw504 hM505 hI506 hf507 => ?_)
                  have hV509 := KN_up hq493 hM505 (by omega)
                  have hk510 := kp_up hM505 (by omega) hk496
                  have hk511 := kp_up hM505 (fun h => absurd h.2 (by decide)) hk498
                  have hk512 := kp_up hM505 (by omega) hk499
                  clear hk496 hk497 hk498 hk499
                  have hF513 := Fr.put hF500 hM505 (by omega)
                  refine j_iconst hX dX7_readRoom_161 ?_
                  exact hret _ _ _ _ dX7_readRoom_162 (nb (by omega)) (by omega) ⟨hI506, hF513, by omega, by first | assumption | omega, by first | (intro _; assumption) | (intro h; exact absurd h (by decide)) | (intro _ h; omega)⟩
                · skip
                  refine j_aload_n hX dX7_readRoom_136 rfl 1 rfl ?_
                  refine gf_X7_21 hX (by omega) (by omega) kc_1 hk496 (by omega) dX7_readRoom_137 ?_
                  refine j_dup hX dX7_readRoom_140 rfl ?_
                  refine gf_X7_130 hX (by omega) (by omega) (kq hq) dX7_readRoom_141 ?_
                  refine j_name hI490 (rq_3 hq) (fun v514 hv515 hl516 hh517 => ?_)
                  have hk518 := hv515.symm
                  refine j_iconst hX dX7_readRoom_144 ?_
                  refine j_iload_n hX dX7_readRoom_145 rfl 0 rfl ?_
                  refine j_ishl hX dX7_readRoom_146 (fun z519 hz520 hy521 => ?_)
                  refine j_ior hX dX7_readRoom_147 (fun z522 hz523 hy524 => ?_)
                  refine pf_X7_130 hX (by omega) (by omega) (kq hq) (by omega) dX7_readRoom_148 ?_
                  refine j_up hI490 (rq_3 hq) (by omega) (by omega) (Or.inl (by omega)) (fun M525 w526 hw527 hM528 hI529 hf530 => ?_)
                  have hV531 := DL_up hV494 hM528 (by omega) (by omega)
                  have hV532 := KN_up hq493 hM528 (by omega)
                  have hk533 := kp_up hM528 (by omega) hk496
                  have hk534 := kp_up hM528 (fun h => absurd h.2 (by decide)) hk497
                  have hk535 := kp_up hM528 (fun h => absurd h.2 (by decide)) hk498
                  have hk536 := kp_up hM528 (by omega) hk499
                  clear hk496 hk497 hk498 hk499 hk518
                  have hF537 := Fr.put hF500 hM528 (by omega)
                  refine j_aload_n hX dX7_readRoom_151 rfl 1 rfl ?_
                  refine gf_X7_21 hX (by omega) (by omega) kc_1 hk533 (by omega) dX7_readRoom_152 ?_
                  refine j_iload_n hX dX7_readRoom_155 rfl 0 rfl ?_
                  refine j_iconst hX dX7_readRoom_156 ?_
                  refine j_iadd hX dX7_readRoom_157 ?_
                  refine pf_X7_98 hX (by omega) (by omega) (kq hq) (by omega) dX7_readRoom_158 ?_
                  refine j_up hI529 (rq_0 hq) (by omega) (by omega) (Or.inl (by omega)) (fun M538 w539 hw540 hM541 hI542 hf543 => ?_)
                  have hV545 := KN_up hV532 hM541 (by omega)
                  have hk546 := kp_up hM541 (by omega) hk533
                  have hk547 := kp_up hM541 (fun h => absurd h.2 (by decide)) hk535
                  have hk548 := kp_up hM541 (by omega) hk536
                  have hk549 := kp_up hM541 (fun h => absurd h.2 (by decide)) hf530
                  clear hk533 hk534 hk535 hk536 hf530
                  have hF550 := Fr.put hF537 hM541 (by omega)
                  refine j_iconst hX dX7_readRoom_161 ?_
                  exact hret _ _ _ _ dX7_readRoom_162 (nb (by omega)) (by omega) ⟨hI542, hF550, by omega, by first | assumption | omega, by first | (intro _; assumption) | (intro h; exact absurd h (by decide)) | (intro _ h; omega)⟩
              · skip
                clear hq459
                refine j_iconst hX dX7_readRoom_111 ?_
                exact hret _ _ _ _ dX7_readRoom_112 (nb (by omega)) (by omega) ⟨hI455, hF465, by omega, by first | assumption | omega, by first | (intro _; assumption) | (intro h; exact absurd h (by decide)) | (intro _ h; omega)⟩
          · skip
            refine j_aload_n hX dX7_readRoom_63 rfl 1 rfl ?_
            refine j_iconst hX dX7_readRoom_64 ?_
            refine j_callVI hX lk_X7_95 (c_X7_refuse _ _ _ _ _ _ _ _ (by omega) hI398 (by omega) (by assumption) hk403) (by omega) hce rfl rfl (by omega) (by omega) kc_1 rfl rfl (Nat.le_of_ble_eq_true rfl) dX7_readRoom_65 (fun z551 M552 hz554 hp553 => ?_)
            obtain ⟨hI555, hG556, hb557, hq558⟩ := hp553
            have hV559 := DL_fr hV401 hG556 (fun b => by omega) (by omega) (by omega)
            have hV560 := KN_fr hV402 hG556 (by omega) (by omega)
            have hk561 := kp_fr hG556 (by omega) hk403
            have hk562 := kp_fr hG556 (by omega) hk404
            have hk563 := kp_fr hG556 (by omega) hk405
            clear hk403 hk404 hk405
            have hF564 := Fr.trans hF406 hG556 (fun a b h => by omega)
            exact hret _ _ _ _ dX7_readRoom_68 (nb (by omega)) (by omega) ⟨hI555, hF564, by omega, by first | assumption | omega, by first | (intro _; assumption) | (intro h; exact absurd h (by decide)) | (intro _ h; omega)⟩
        · skip
          refine j_iconst hX dX7_readRoom_43 ?_
          exact hret _ _ _ _ dX7_readRoom_44 (nb (by omega)) (by omega) ⟨hI398, hF406, by omega, by first | assumption | omega, by first | (intro _; assumption) | (intro h; exact absurd h (by decide)) | (intro _ h; omega)⟩
set_option maxHeartbeats 2000000 in
set_option maxRecDepth 20000 in
theorem c_X7_readFact (l : Launch) (D : va_G) (cy : Nat → ClassId) (B N : Nat) (q : Int) (M : MM) (hN : 210 ≤ N) (hI : Iv M) (hq : q = 5 ∨ q = 180) (hto : M.1 1 1 = q) (hDL : DL q M) (hkn : KNo M) : CI l D cy B N 11 yX7_readFact cX7_readFact 2 (some .boolean) [rv B 1] M (fun z M' => Iv M' ∧ Fr (fun a b => (a = 1 ∧ 2 ≤ b ∧ b ≤ 4) ∨ (a = 2 ∧ 3 ≤ b ∧ b ≤ 6) ∨ (q ≤ a ∧ a ≤ q + 20)) M M' ∧ (0 ≤ z ∧ z ≤ 1) ∧ (KNo M') ∧ (z = 1 → DL q M')) := by
  refine mk_CI (by decide) (Nat.le_of_ble_eq_true rfl) ?_
  intro X exl exD excy hnL hX hret
  have hce : 0 + 0 ≤ (xR X).cells ∧ 0 + 0 ≤ (xR X).slots := ⟨Nat.zero_le _, Nat.zero_le _⟩
  have hdq : 5 ≤ q ∧ q ≤ 180 := by omega
  have hF : Fr (fun a b => (a = 1 ∧ 2 ≤ b ∧ b ≤ 4) ∨ (a = 2 ∧ 3 ≤ b ∧ b ≤ 6) ∨ (q ≤ a ∧ a ≤ q + 20)) M M := Fr.rf
  show J X B N 0 0 0 [(0, rv B 1)] [] M
  refine j_aload_n hX dX7_readFact_0 rfl 0 rfl ?_
  refine gf_X7_21 hX (by omega) (by omega) kc_1 hto (by omega) dX7_readFact_1 ?_
  refine gf_X7_139 hX (by omega) (by omega) (kq hq) dX7_readFact_4 ?_
  refine j_name hI (rq_4 hq) (fun v1 hv2 hl3 hh4 => ?_)
  have hk5 := hv2.symm
  refine j_istore_n (lv' := [(1, _), (0, _)]) hX dX7_readFact_7 rfl (by rw [hnL]; decide) rfl ?_
  refine j_aload_n hX dX7_readFact_8 rfl 1 rfl ?_
  refine j_iload_n hX dX7_readFact_9 rfl 0 rfl ?_
  refine j_bipush hX dX7_readFact_10 rfl ?_
  refine j_icmp_ge (tgt := 19) hX dX7_readFact_12 (by decide) (by omega) (by omega) (fun hc6 => ?_) (fun hc6 => ?_)
  · skip
    refine j_iconst hX dX7_readFact_19 ?_
    refine j_callVI hX lk_X7_82 (c_X7_mayStart _ _ _ _ _ _ _ _ (by omega) hI (by omega) (by assumption) hto (by first | assumption | omega) (by first | assumption | omega)) (by omega) hce rfl rfl (by omega) (by omega) kc_1 rfl rfl (Nat.le_of_ble_eq_true rfl) dX7_readFact_20 (fun z7 M8 hz10 hp9 => ?_)
    obtain ⟨hI11, hG12, hb13, hq14, hq15⟩ := hp9
    have hV17 := DL_fr hDL hG12 (fun b => by omega) (by omega) (by omega)
    have hk18 := kp_fr hG12 (by omega) hto
    have hk19 := kp_fr hG12 (by omega) hk5
    clear hk5
    have hF20 := Fr.trans hF hG12 (fun a b h => by omega)
    refine j_if_eq (tgt := 33) hX dX7_readFact_23 (by decide) (by omega) (fun hc21 => ?_) (fun hc21 => ?_)
    · skip
      clear hq15
      refine j_iconst hX dX7_readFact_33 ?_
      exact hret _ _ _ _ dX7_readFact_34 (nb (by omega)) (by omega) ⟨hI11, hF20, by omega, by first | assumption | omega, by first | (intro _; assumption) | (intro h; exact absurd h (by decide)) | (intro _ h; omega)⟩
    · skip
      have hi22 := hq15 (by omega)
      clear hq15
      refine j_aload_n hX dX7_readFact_26 rfl 1 rfl ?_
      refine j_callVI hX lk_X7_105 (c_X7_isName _ _ _ _ _ _ _ (by omega) hI11 (by assumption) hk18) (by omega) hce rfl rfl (by omega) (by omega) kc_1 rfl rfl (Nat.le_of_ble_eq_true rfl) dX7_readFact_27 (fun z23 M24 hz26 hp25 => ?_)
      obtain ⟨hI27, hG28, hb29⟩ := hp25
      have hV30 := DL_fr hV17 hG28 (fun b => by omega) (by omega) (by omega)
      have hV31 := KN_fr hq14 hG28 (by omega) (by omega)
      have hk32 := kp_fr hG28 (by omega) hk18
      have hk33 := kp_fr hG28 (by omega) hk19
      clear hk18 hk19
      have hF34 := Fr.trans hF20 hG28 (fun a b h => by omega)
      refine j_if_ne (tgt := 35) hX dX7_readFact_30 (by decide) (by omega) (fun hc35 => ?_) (fun hc35 => ?_)
      · skip
        refine j_aload_n hX dX7_readFact_35 rfl 1 rfl ?_
        refine gf_X7_21 hX (by omega) (by omega) kc_1 hk32 (by omega) dX7_readFact_36 ?_
        refine j_aload_n hX dX7_readFact_39 rfl 1 rfl ?_
        refine gf_X7_12 hX (by omega) (by omega) kc_1 (fc_1_0 hI27) (by decide) dX7_readFact_40 ?_
        refine gf_X7_108 hX (by omega) (by omega) kc_2 dX7_readFact_43 ?_
        refine j_callVI hX lk_X7_142 (c_X6_factNamed _ _ _ _ _ q _ _ (by omega) hI27 hq) (by omega) hce rfl rfl (by omega) (by omega) (kq hq) rfl rfl (Nat.le_of_ble_eq_true rfl) dX7_readFact_46 (fun z36 M37 hz39 hp38 => ?_)
        obtain ⟨rfl, hq40⟩ := hp38
        refine j_iconst hX dX7_readFact_49 ?_
        refine j_icmp_eq (tgt := 59) hX dX7_readFact_50 (by decide) (by omega) (by omega) (fun hc41 => ?_) (fun hc41 => ?_)
        · skip
          refine j_aload_n hX dX7_readFact_59 rfl 1 rfl ?_
          refine gf_X7_21 hX (by omega) (by omega) kc_1 hk32 (by omega) dX7_readFact_60 ?_
          refine gf_X7_145 hX (by omega) (by omega) (kq hq) (fq_5 hI27 hq) (by omega) dX7_readFact_63 ?_
          refine j_iload_n hX dX7_readFact_66 rfl 0 rfl ?_
          refine j_aload_n hX dX7_readFact_67 rfl 1 rfl ?_
          refine gf_X7_12 hX (by omega) (by omega) kc_1 (fc_1_0 hI27) (by decide) dX7_readFact_68 ?_
          refine gf_X7_108 hX (by omega) (by omega) kc_2 dX7_readFact_71 ?_
          refine j_last hX (by omega) (by omega) (kq_3 hq) (by omega) (by omega) (by omega) dX7_readFact_74 ?_
          refine j_upL hI27 (fun M42 hM43 hI44 => ?_)
          have hV45 := DL_l hV30 hM43
          have hV46 := KN_l hV31 hM43
          have hk47 := kp_l hM43 hk32
          have hk48 := kp_l hM43 hk33
          clear hk32 hk33
          have hF49 := Fr.l hF34 hM43
          refine j_aload_n hX dX7_readFact_75 rfl 1 rfl ?_
          refine gf_X7_12 hX (by omega) (by omega) kc_1 (fc_1_0 hI44) (by decide) dX7_readFact_76 ?_
          refine j_callVV hX lk_X7_41 (c_X9_advance _ _ _ _ _ _ (by omega) hI44 (by first | assumption | omega)) (by omega) hce rfl rfl (by omega) (by omega) kc_2 rfl rfl (Nat.le_of_ble_eq_true rfl) dX7_readFact_79 (fun M51 hp52 => ?_)
          obtain ⟨hI54, hG55, hq56⟩ := hp52
          have hV57 := DL_fr hV45 hG55 (fun b => by omega) (by omega) (by omega)
          have hk59 := kp_fr hG55 (by omega) hk47
          have hk60 := kp_fr hG55 (by omega) hk48
          clear hk47 hk48
          have hF61 := Fr.trans hF49 hG55 (fun a b h => by omega)
          refine j_aload_n hX dX7_readFact_82 rfl 1 rfl ?_
          refine j_sipush hX dX7_readFact_83 rfl ?_
          refine j_callVI hX lk_X7_51 (c_X7_take _ _ _ _ _ _ _ _ (by omega) hI54 (by omega) (by assumption) hk59 (by first | assumption | omega)) (by omega) hce rfl rfl (by omega) (by omega) kc_1 rfl rfl (Nat.le_of_ble_eq_true rfl) dX7_readFact_86 (fun z62 M63 hz65 hp64 => ?_)
          obtain ⟨hI66, hG67, hb68, hq69⟩ := hp64
          have hV70 := DL_fr hV57 hG67 (fun b => by omega) (by omega) (by omega)
          have hk72 := kp_fr hG67 (by omega) hk59
          have hk73 := kp_fr hG67 (by omega) hk60
          clear hk59 hk60
          have hF74 := Fr.trans hF61 hG67 (fun a b h => by omega)
          refine j_if_eq (tgt := 99) hX dX7_readFact_89 (by decide) (by omega) (fun hc75 => ?_) (fun hc75 => ?_)
          · skip
            refine j_iconst hX dX7_readFact_99 ?_
            exact hret _ _ _ _ dX7_readFact_100 (nb (by omega)) (by omega) ⟨hI66, hF74, by omega, by first | assumption | omega, by first | (intro _; assumption) | (intro h; exact absurd h (by decide)) | (intro _ h; omega)⟩
          · skip
            refine j_aload_n hX dX7_readFact_92 rfl 1 rfl ?_
            refine j_callVI hX lk_X7_133 (c_X7_isRoom _ _ _ _ _ _ _ (by omega) hI66 (by assumption) hk72) (by omega) hce rfl rfl (by omega) (by omega) kc_1 rfl rfl (Nat.le_of_ble_eq_true rfl) dX7_readFact_93 (fun z76 M77 hz79 hp78 => ?_)
            obtain ⟨hI80, hG81, hb82, hq83⟩ := hp78
            have hV84 := DL_fr hV70 hG81 (fun b => by omega) (by omega) (by omega)
            have hV85 := KN_fr hq69 hG81 (by omega) (by omega)
            have hk86 := kp_fr hG81 (by omega) hk72
            have hk87 := kp_fr hG81 (by omega) hk73
            clear hk72 hk73
            have hF88 := Fr.trans hF74 hG81 (fun a b h => by omega)
            refine j_if_ne (tgt := 101) hX dX7_readFact_96 (by decide) (by omega) (fun hc89 => ?_) (fun hc89 => ?_)
            · skip
              have hi90 := hq83 (by omega)
              clear hq83
              refine j_aload_n hX dX7_readFact_101 rfl 1 rfl ?_
              refine gf_X7_21 hX (by omega) (by omega) kc_1 hk86 (by omega) dX7_readFact_102 ?_
              refine gf_X7_148 hX (by omega) (by omega) (kq hq) (fq_6 hI80 hq) (by omega) dX7_readFact_105 ?_
              refine j_iload_n hX dX7_readFact_108 rfl 0 rfl ?_
              refine j_aload_n hX dX7_readFact_109 rfl 1 rfl ?_
              refine gf_X7_32 hX (by omega) (by omega) kc_1 dX7_readFact_110 ?_
              refine j_name hI80 ro_1_4 (fun v91 hv92 hl93 hh94 => ?_)
              have hk95 := hv92.symm
              refine j_iast hX (by omega) (by omega) (kq_4 hq) (by omega) (by omega) (by omega) (by omega) dX7_readFact_113 ?_
              refine j_up hI80 (aq_4 hq _) (by omega) (by omega) (Or.inl (by omega)) (fun M96 w97 hw98 hM99 hI100 hf101 => ?_)
              have hV102 := DL_up hV84 hM99 (by omega) (by omega)
              have hV103 := KN_up hV85 hM99 (by omega)
              have hk104 := kp_up hM99 (by omega) hk86
              have hk105 := kp_up hM99 (by omega) hk87
              have hk106 := kp_up hM99 (by omega) hk95
              clear hk86 hk87 hk95
              have hF107 := Fr.put hF88 hM99 (by omega)
              refine j_aload_n hX dX7_readFact_114 rfl 1 rfl ?_
              refine gf_X7_12 hX (by omega) (by omega) kc_1 (fc_1_0 hI100) (by decide) dX7_readFact_115 ?_
              refine j_callVV hX lk_X7_41 (c_X9_advance _ _ _ _ _ _ (by omega) hI100 (by first | assumption | omega)) (by omega) hce rfl rfl (by omega) (by omega) kc_2 rfl rfl (Nat.le_of_ble_eq_true rfl) dX7_readFact_118 (fun M109 hp110 => ?_)
              obtain ⟨hI112, hG113, hq114⟩ := hp110
              have hV115 := DL_fr hV102 hG113 (fun b => by omega) (by omega) (by omega)
              have hk117 := kp_fr hG113 (by omega) hk104
              have hk118 := kp_fr hG113 (by omega) hk105
              have hk119 := kp_fr hG113 (by omega) hk106
              clear hk104 hk105 hk106
              have hF120 := Fr.trans hF107 hG113 (fun a b h => by omega)
              refine j_aload_n hX dX7_readFact_121 rfl 1 rfl ?_
              refine j_sipush hX dX7_readFact_122 rfl ?_
              refine j_callVI hX lk_X7_51 (c_X7_take _ _ _ _ _ _ _ _ (by omega) hI112 (by omega) (by assumption) hk117 (by first | assumption | omega)) (by omega) hce rfl rfl (by omega) (by omega) kc_1 rfl rfl (Nat.le_of_ble_eq_true rfl) dX7_readFact_125 (fun z121 M122 hz124 hp123 => ?_)
              obtain ⟨hI125, hG126, hb127, hq128⟩ := hp123
              have hV129 := DL_fr hV115 hG126 (fun b => by omega) (by omega) (by omega)
              have hk131 := kp_fr hG126 (by omega) hk117
              have hk132 := kp_fr hG126 (by omega) hk118
              have hk133 := kp_fr hG126 (by omega) hk119
              clear hk117 hk118 hk119
              have hF134 := Fr.trans hF120 hG126 (fun a b h => by omega)
              refine j_if_eq (tgt := 140) hX dX7_readFact_128 (by decide) (by omega) (fun hc135 => ?_) (fun hc135 => ?_)
              · skip
                refine j_iconst hX dX7_readFact_140 ?_
                exact hret _ _ _ _ dX7_readFact_141 (nb (by omega)) (by omega) ⟨hI125, hF134, by omega, by first | assumption | omega, by first | (intro _; assumption) | (intro h; exact absurd h (by decide)) | (intro _ h; omega)⟩
              · skip
                refine j_aload_n hX dX7_readFact_131 rfl 1 rfl ?_
                refine j_bipush hX dX7_readFact_132 rfl ?_
                refine j_callVI hX lk_X7_120 (c_X7_takeNumber _ _ _ _ _ _ _ _ (by omega) hI125 (by omega) (by assumption) hk131 (by first | assumption | omega)) (by omega) hce rfl rfl (by omega) (by omega) kc_1 rfl rfl (Nat.le_of_ble_eq_true rfl) dX7_readFact_134 (fun z136 M137 hz139 hp138 => ?_)
                obtain ⟨hI140, hG141, hb142, hq143, hq144⟩ := hp138
                have hV145 := DL_fr hV129 hG141 (fun b => by omega) (by omega) (by omega)
                have hk147 := kp_fr hG141 (by omega) hk131
                have hk148 := kp_fr hG141 (by omega) hk132
                clear hk131 hk132 hk133
                have hF149 := Fr.trans hF134 hG141 (fun a b h => by omega)
                refine j_if_ne (tgt := 142) hX dX7_readFact_137 (by decide) (by omega) (fun hc150 => ?_) (fun hc150 => ?_)
                · skip
                  have hi151 := hq144 (by omega)
                  clear hq144
                  refine j_aload_n hX dX7_readFact_142 rfl 1 rfl ?_
                  refine gf_X7_21 hX (by omega) (by omega) kc_1 hk147 (by omega) dX7_readFact_143 ?_
                  refine gf_X7_151 hX (by omega) (by omega) (kq hq) (fq_7 hI140 hq) (by omega) dX7_readFact_146 ?_
                  refine j_iload_n hX dX7_readFact_149 rfl 0 rfl ?_
                  refine j_aload_n hX dX7_readFact_150 rfl 1 rfl ?_
                  refine gf_X7_32 hX (by omega) (by omega) kc_1 dX7_readFact_151 ?_
                  refine j_name hI140 ro_1_4 (fun v152 hv153 hl154 hh155 => ?_)
                  have hk156 := hv153.symm
                  refine j_iast hX (by omega) (by omega) (kq_5 hq) (by omega) (by omega) (by omega) (by omega) dX7_readFact_154 ?_
                  refine j_up hI140 (aq_5 hq _) (by omega) (by omega) (Or.inl (by omega)) (fun M157 w158 hw159 hM160 hI161 hf162 => ?_)
                  have hV163 := DL_up hV145 hM160 (by omega) (by omega)
                  have hV164 := KN_up hq143 hM160 (by omega)
                  have hk165 := kp_up hM160 (by omega) hk147
                  have hk166 := kp_up hM160 (by omega) hk148
                  have hk167 := kp_up hM160 (by omega) hk156
                  clear hk147 hk148 hk156
                  have hF168 := Fr.put hF149 hM160 (by omega)
                  refine j_aload_n hX dX7_readFact_155 rfl 1 rfl ?_
                  refine j_sipush hX dX7_readFact_156 rfl ?_
                  refine j_callVI hX lk_X7_127 (c_X7_takeIf _ _ _ _ _ _ _ _ (by omega) hI161 (by omega) (by assumption) hk165 (by first | assumption | omega)) (by omega) hce rfl rfl (by omega) (by omega) kc_1 rfl rfl (Nat.le_of_ble_eq_true rfl) dX7_readFact_159 (fun z169 M170 hz172 hp171 => ?_)
                  obtain ⟨hI173, hG174, hb175, hq176⟩ := hp171
                  have hV177 := DL_fr hV163 hG174 (fun b => by omega) (by omega) (by omega)
                  have hk179 := kp_fr hG174 (by omega) hk165
                  have hk180 := kp_fr hG174 (by omega) hk166
                  have hk181 := kp_fr hG174 (by omega) hk167
                  clear hk165 hk166 hk167
                  have hF182 := Fr.trans hF168 hG174 (fun a b h => by omega)
                  refine j_if_eq (tgt := 180) hX dX7_readFact_162 (by decide) (by omega) (fun hc183 => ?_) (fun hc183 => ?_)
                  · skip
                    refine j_aload_n hX dX7_readFact_180 rfl 1 rfl ?_
                    refine gf_X7_21 hX (by omega) (by omega) kc_1 hk179 (by omega) dX7_readFact_181 ?_
                    refine j_iload_n hX dX7_readFact_184 rfl 0 rfl ?_
                    refine j_iconst hX dX7_readFact_185 ?_
                    refine j_iadd hX dX7_readFact_186 ?_
                    refine pf_X7_139 hX (by omega) (by omega) (kq hq) (by omega) dX7_readFact_187 ?_
                    refine j_up hI173 (rq_4 hq) (by omega) (by omega) (Or.inl (by omega)) (fun M184 w185 hw186 hM187 hI188 hf189 => ?_)
                    have hV190 := DL_up hV177 hM187 (by omega) (by omega)
                    have hV191 := KN_up hq176 hM187 (by omega)
                    have hk192 := kp_up hM187 (by omega) hk179
                    have hk193 := kp_up hM187 (by omega) hk181
                    clear hk179 hk180 hk181
                    have hF194 := Fr.put hF182 hM187 (by omega)
                    refine j_iconst hX dX7_readFact_190 ?_
                    exact hret _ _ _ _ dX7_readFact_191 (nb (by omega)) (by omega) ⟨hI188, hF194, by omega, by first | assumption | omega, by first | (intro _; assumption) | (intro h; exact absurd h (by decide)) | (intro _ h; omega)⟩
                  · skip
                    refine j_aload_n hX dX7_readFact_165 rfl 1 rfl ?_
                    refine gf_X7_21 hX (by omega) (by omega) kc_1 hk179 (by omega) dX7_readFact_166 ?_
                    refine j_dup hX dX7_readFact_169 rfl ?_
                    refine gf_X7_154 hX (by omega) (by omega) (kq hq) dX7_readFact_170 ?_
                    refine j_name hI173 (rq_8 hq) (fun v195 hv196 hl197 hh198 => ?_)
                    have hk199 := hv196.symm
                    refine j_iconst hX dX7_readFact_173 ?_
                    refine j_iload_n hX dX7_readFact_174 rfl 0 rfl ?_
                    refine j_ishl hX dX7_readFact_175 (fun z200 hz201 hy202 => ?_)
                    refine j_ior hX dX7_readFact_176 (fun z203 hz204 hy205 => ?_)
                    refine pf_X7_154 hX (by omega) (by omega) (kq hq) (by omega) dX7_readFact_177 ?_
                    refine j_up hI173 (rq_8 hq) (by omega) (by omega) (Or.inl (by omega)) (fun M206 w207 hw208 hM209 hI210 hf211 => ?_)
                    have hV212 := DL_up hV177 hM209 (by omega) (by omega)
                    have hV213 := KN_up hq176 hM209 (by omega)
                    have hk214 := kp_up hM209 (by omega) hk179
                    have hk215 := kp_up hM209 (fun h => absurd h.2 (by decide)) hk180
                    have hk216 := kp_up hM209 (by omega) hk181
                    clear hk179 hk180 hk181 hk199
                    have hF217 := Fr.put hF182 hM209 (by omega)
                    refine j_aload_n hX dX7_readFact_180 rfl 1 rfl ?_
                    refine gf_X7_21 hX (by omega) (by omega) kc_1 hk214 (by omega) dX7_readFact_181 ?_
                    refine j_iload_n hX dX7_readFact_184 rfl 0 rfl ?_
                    refine j_iconst hX dX7_readFact_185 ?_
                    refine j_iadd hX dX7_readFact_186 ?_
                    refine pf_X7_139 hX (by omega) (by omega) (kq hq) (by omega) dX7_readFact_187 ?_
                    refine j_up hI210 (rq_4 hq) (by omega) (by omega) (Or.inl (by omega)) (fun M218 w219 hw220 hM221 hI222 hf223 => ?_)
                    have hV224 := DL_up hV212 hM221 (by omega) (by omega)
                    have hV225 := KN_up hV213 hM221 (by omega)
                    have hk226 := kp_up hM221 (by omega) hk214
                    have hk227 := kp_up hM221 (by omega) hk216
                    have hk228 := kp_up hM221 (fun h => absurd h.2 (by decide)) hf211
                    clear hk214 hk215 hk216 hf211
                    have hF229 := Fr.put hF217 hM221 (by omega)
                    refine j_iconst hX dX7_readFact_190 ?_
                    exact hret _ _ _ _ dX7_readFact_191 (nb (by omega)) (by omega) ⟨hI222, hF229, by omega, by first | assumption | omega, by first | (intro _; assumption) | (intro h; exact absurd h (by decide)) | (intro _ h; omega)⟩
                · skip
                  clear hq144
                  refine j_iconst hX dX7_readFact_140 ?_
                  exact hret _ _ _ _ dX7_readFact_141 (nb (by omega)) (by omega) ⟨hI140, hF149, by omega, by first | assumption | omega, by first | (intro _; assumption) | (intro h; exact absurd h (by decide)) | (intro _ h; omega)⟩
            · skip
              clear hq83
              refine j_iconst hX dX7_readFact_99 ?_
              exact hret _ _ _ _ dX7_readFact_100 (nb (by omega)) (by omega) ⟨hI80, hF88, by omega, by first | assumption | omega, by first | (intro _; assumption) | (intro h; exact absurd h (by decide)) | (intro _ h; omega)⟩
        · skip
          refine j_aload_n hX dX7_readFact_53 rfl 1 rfl ?_
          refine j_iconst hX dX7_readFact_54 ?_
          refine j_callVI hX lk_X7_95 (c_X7_refuse _ _ _ _ _ _ _ _ (by omega) hI27 (by omega) (by assumption) hk32) (by omega) hce rfl rfl (by omega) (by omega) kc_1 rfl rfl (Nat.le_of_ble_eq_true rfl) dX7_readFact_55 (fun z230 M231 hz233 hp232 => ?_)
          obtain ⟨hI234, hG235, hb236, hq237⟩ := hp232
          have hV238 := DL_fr hV30 hG235 (fun b => by omega) (by omega) (by omega)
          have hV239 := KN_fr hV31 hG235 (by omega) (by omega)
          have hk240 := kp_fr hG235 (by omega) hk32
          have hk241 := kp_fr hG235 (by omega) hk33
          clear hk32 hk33
          have hF242 := Fr.trans hF34 hG235 (fun a b h => by omega)
          exact hret _ _ _ _ dX7_readFact_58 (nb (by omega)) (by omega) ⟨hI234, hF242, by omega, by first | assumption | omega, by first | (intro _; assumption) | (intro h; exact absurd h (by decide)) | (intro _ h; omega)⟩
      · skip
        refine j_iconst hX dX7_readFact_33 ?_
        exact hret _ _ _ _ dX7_readFact_34 (nb (by omega)) (by omega) ⟨hI27, hF34, by omega, by first | assumption | omega, by first | (intro _; assumption) | (intro h; exact absurd h (by decide)) | (intro _ h; omega)⟩
  · skip
    refine j_iconst hX dX7_readFact_15 ?_
    refine j_goto (tgt := 20) hX dX7_readFact_16 (by decide) ?_
    refine j_callVI hX lk_X7_82 (c_X7_mayStart _ _ _ _ _ _ _ _ (by omega) hI (by omega) (by assumption) hto (by first | assumption | omega) (by first | assumption | omega)) (by omega) hce rfl rfl (by omega) (by omega) kc_1 rfl rfl (Nat.le_of_ble_eq_true rfl) dX7_readFact_20 (fun z243 M244 hz246 hp245 => ?_)
    obtain ⟨hI247, hG248, hb249, hq250, hq251⟩ := hp245
    have hV253 := DL_fr hDL hG248 (fun b => by omega) (by omega) (by omega)
    have hk254 := kp_fr hG248 (by omega) hto
    have hk255 := kp_fr hG248 (by omega) hk5
    clear hk5
    have hF256 := Fr.trans hF hG248 (fun a b h => by omega)
    refine j_if_eq (tgt := 33) hX dX7_readFact_23 (by decide) (by omega) (fun hc257 => ?_) (fun hc257 => ?_)
    · skip
      clear hq251
      refine j_iconst hX dX7_readFact_33 ?_
      exact hret _ _ _ _ dX7_readFact_34 (nb (by omega)) (by omega) ⟨hI247, hF256, by omega, by first | assumption | omega, by first | (intro _; assumption) | (intro h; exact absurd h (by decide)) | (intro _ h; omega)⟩
    · skip
      have hi258 := hq251 (by omega)
      clear hq251
      refine j_aload_n hX dX7_readFact_26 rfl 1 rfl ?_
      refine j_callVI hX lk_X7_105 (c_X7_isName _ _ _ _ _ _ _ (by omega) hI247 (by assumption) hk254) (by omega) hce rfl rfl (by omega) (by omega) kc_1 rfl rfl (Nat.le_of_ble_eq_true rfl) dX7_readFact_27 (fun z259 M260 hz262 hp261 => ?_)
      obtain ⟨hI263, hG264, hb265⟩ := hp261
      have hV266 := DL_fr hV253 hG264 (fun b => by omega) (by omega) (by omega)
      have hV267 := KN_fr hq250 hG264 (by omega) (by omega)
      have hk268 := kp_fr hG264 (by omega) hk254
      have hk269 := kp_fr hG264 (by omega) hk255
      clear hk254 hk255
      have hF270 := Fr.trans hF256 hG264 (fun a b h => by omega)
      refine j_if_ne (tgt := 35) hX dX7_readFact_30 (by decide) (by omega) (fun hc271 => ?_) (fun hc271 => ?_)
      · skip
        refine j_aload_n hX dX7_readFact_35 rfl 1 rfl ?_
        refine gf_X7_21 hX (by omega) (by omega) kc_1 hk268 (by omega) dX7_readFact_36 ?_
        refine j_aload_n hX dX7_readFact_39 rfl 1 rfl ?_
        refine gf_X7_12 hX (by omega) (by omega) kc_1 (fc_1_0 hI263) (by decide) dX7_readFact_40 ?_
        refine gf_X7_108 hX (by omega) (by omega) kc_2 dX7_readFact_43 ?_
        refine j_callVI hX lk_X7_142 (c_X6_factNamed _ _ _ _ _ q _ _ (by omega) hI263 hq) (by omega) hce rfl rfl (by omega) (by omega) (kq hq) rfl rfl (Nat.le_of_ble_eq_true rfl) dX7_readFact_46 (fun z272 M273 hz275 hp274 => ?_)
        obtain ⟨rfl, hq276⟩ := hp274
        refine j_iconst hX dX7_readFact_49 ?_
        refine j_icmp_eq (tgt := 59) hX dX7_readFact_50 (by decide) (by omega) (by omega) (fun hc277 => ?_) (fun hc277 => ?_)
        · skip
          refine j_aload_n hX dX7_readFact_59 rfl 1 rfl ?_
          refine gf_X7_21 hX (by omega) (by omega) kc_1 hk268 (by omega) dX7_readFact_60 ?_
          refine gf_X7_145 hX (by omega) (by omega) (kq hq) (fq_5 hI263 hq) (by omega) dX7_readFact_63 ?_
          refine j_iload_n hX dX7_readFact_66 rfl 0 rfl ?_
          refine j_aload_n hX dX7_readFact_67 rfl 1 rfl ?_
          refine gf_X7_12 hX (by omega) (by omega) kc_1 (fc_1_0 hI263) (by decide) dX7_readFact_68 ?_
          refine gf_X7_108 hX (by omega) (by omega) kc_2 dX7_readFact_71 ?_
          refine j_last hX (by omega) (by omega) (kq_3 hq) (by omega) (by omega) (by omega) dX7_readFact_74 ?_
          refine j_upL hI263 (fun M278 hM279 hI280 => ?_)
          have hV281 := DL_l hV266 hM279
          have hV282 := KN_l hV267 hM279
          have hk283 := kp_l hM279 hk268
          have hk284 := kp_l hM279 hk269
          clear hk268 hk269
          have hF285 := Fr.l hF270 hM279
          refine j_aload_n hX dX7_readFact_75 rfl 1 rfl ?_
          refine gf_X7_12 hX (by omega) (by omega) kc_1 (fc_1_0 hI280) (by decide) dX7_readFact_76 ?_
          refine j_callVV hX lk_X7_41 (c_X9_advance _ _ _ _ _ _ (by omega) hI280 (by first | assumption | omega)) (by omega) hce rfl rfl (by omega) (by omega) kc_2 rfl rfl (Nat.le_of_ble_eq_true rfl) dX7_readFact_79 (fun M287 hp288 => ?_)
          obtain ⟨hI290, hG291, hq292⟩ := hp288
          have hV293 := DL_fr hV281 hG291 (fun b => by omega) (by omega) (by omega)
          have hk295 := kp_fr hG291 (by omega) hk283
          have hk296 := kp_fr hG291 (by omega) hk284
          clear hk283 hk284
          have hF297 := Fr.trans hF285 hG291 (fun a b h => by omega)
          refine j_aload_n hX dX7_readFact_82 rfl 1 rfl ?_
          refine j_sipush hX dX7_readFact_83 rfl ?_
          refine j_callVI hX lk_X7_51 (c_X7_take _ _ _ _ _ _ _ _ (by omega) hI290 (by omega) (by assumption) hk295 (by first | assumption | omega)) (by omega) hce rfl rfl (by omega) (by omega) kc_1 rfl rfl (Nat.le_of_ble_eq_true rfl) dX7_readFact_86 (fun z298 M299 hz301 hp300 => ?_)
          obtain ⟨hI302, hG303, hb304, hq305⟩ := hp300
          have hV306 := DL_fr hV293 hG303 (fun b => by omega) (by omega) (by omega)
          have hk308 := kp_fr hG303 (by omega) hk295
          have hk309 := kp_fr hG303 (by omega) hk296
          clear hk295 hk296
          have hF310 := Fr.trans hF297 hG303 (fun a b h => by omega)
          refine j_if_eq (tgt := 99) hX dX7_readFact_89 (by decide) (by omega) (fun hc311 => ?_) (fun hc311 => ?_)
          · skip
            refine j_iconst hX dX7_readFact_99 ?_
            exact hret _ _ _ _ dX7_readFact_100 (nb (by omega)) (by omega) ⟨hI302, hF310, by omega, by first | assumption | omega, by first | (intro _; assumption) | (intro h; exact absurd h (by decide)) | (intro _ h; omega)⟩
          · skip
            refine j_aload_n hX dX7_readFact_92 rfl 1 rfl ?_
            refine j_callVI hX lk_X7_133 (c_X7_isRoom _ _ _ _ _ _ _ (by omega) hI302 (by assumption) hk308) (by omega) hce rfl rfl (by omega) (by omega) kc_1 rfl rfl (Nat.le_of_ble_eq_true rfl) dX7_readFact_93 (fun z312 M313 hz315 hp314 => ?_)
            obtain ⟨hI316, hG317, hb318, hq319⟩ := hp314
            have hV320 := DL_fr hV306 hG317 (fun b => by omega) (by omega) (by omega)
            have hV321 := KN_fr hq305 hG317 (by omega) (by omega)
            have hk322 := kp_fr hG317 (by omega) hk308
            have hk323 := kp_fr hG317 (by omega) hk309
            clear hk308 hk309
            have hF324 := Fr.trans hF310 hG317 (fun a b h => by omega)
            refine j_if_ne (tgt := 101) hX dX7_readFact_96 (by decide) (by omega) (fun hc325 => ?_) (fun hc325 => ?_)
            · skip
              have hi326 := hq319 (by omega)
              clear hq319
              refine j_aload_n hX dX7_readFact_101 rfl 1 rfl ?_
              refine gf_X7_21 hX (by omega) (by omega) kc_1 hk322 (by omega) dX7_readFact_102 ?_
              refine gf_X7_148 hX (by omega) (by omega) (kq hq) (fq_6 hI316 hq) (by omega) dX7_readFact_105 ?_
              refine j_iload_n hX dX7_readFact_108 rfl 0 rfl ?_
              refine j_aload_n hX dX7_readFact_109 rfl 1 rfl ?_
              refine gf_X7_32 hX (by omega) (by omega) kc_1 dX7_readFact_110 ?_
              refine j_name hI316 ro_1_4 (fun v327 hv328 hl329 hh330 => ?_)
              have hk331 := hv328.symm
              refine j_iast hX (by omega) (by omega) (kq_4 hq) (by omega) (by omega) (by omega) (by omega) dX7_readFact_113 ?_
              refine j_up hI316 (aq_4 hq _) (by omega) (by omega) (Or.inl (by omega)) (fun M332 w333 hw334 hM335 hI336 hf337 => ?_)
              have hV338 := DL_up hV320 hM335 (by omega) (by omega)
              have hV339 := KN_up hV321 hM335 (by omega)
              have hk340 := kp_up hM335 (by omega) hk322
              have hk341 := kp_up hM335 (by omega) hk323
              have hk342 := kp_up hM335 (by omega) hk331
              clear hk322 hk323 hk331
              have hF343 := Fr.put hF324 hM335 (by omega)
              refine j_aload_n hX dX7_readFact_114 rfl 1 rfl ?_
              refine gf_X7_12 hX (by omega) (by omega) kc_1 (fc_1_0 hI336) (by decide) dX7_readFact_115 ?_
              refine j_callVV hX lk_X7_41 (c_X9_advance _ _ _ _ _ _ (by omega) hI336 (by first | assumption | omega)) (by omega) hce rfl rfl (by omega) (by omega) kc_2 rfl rfl (Nat.le_of_ble_eq_true rfl) dX7_readFact_118 (fun M345 hp346 => ?_)
              obtain ⟨hI348, hG349, hq350⟩ := hp346
              have hV351 := DL_fr hV338 hG349 (fun b => by omega) (by omega) (by omega)
              have hk353 := kp_fr hG349 (by omega) hk340
              have hk354 := kp_fr hG349 (by omega) hk341
              have hk355 := kp_fr hG349 (by omega) hk342
              clear hk340 hk341 hk342
              have hF356 := Fr.trans hF343 hG349 (fun a b h => by omega)
              refine j_aload_n hX dX7_readFact_121 rfl 1 rfl ?_
              refine j_sipush hX dX7_readFact_122 rfl ?_
              refine j_callVI hX lk_X7_51 (c_X7_take _ _ _ _ _ _ _ _ (by omega) hI348 (by omega) (by assumption) hk353 (by first | assumption | omega)) (by omega) hce rfl rfl (by omega) (by omega) kc_1 rfl rfl (Nat.le_of_ble_eq_true rfl) dX7_readFact_125 (fun z357 M358 hz360 hp359 => ?_)
              obtain ⟨hI361, hG362, hb363, hq364⟩ := hp359
              have hV365 := DL_fr hV351 hG362 (fun b => by omega) (by omega) (by omega)
              have hk367 := kp_fr hG362 (by omega) hk353
              have hk368 := kp_fr hG362 (by omega) hk354
              have hk369 := kp_fr hG362 (by omega) hk355
              clear hk353 hk354 hk355
              have hF370 := Fr.trans hF356 hG362 (fun a b h => by omega)
              refine j_if_eq (tgt := 140) hX dX7_readFact_128 (by decide) (by omega) (fun hc371 => ?_) (fun hc371 => ?_)
              · skip
                refine j_iconst hX dX7_readFact_140 ?_
                exact hret _ _ _ _ dX7_readFact_141 (nb (by omega)) (by omega) ⟨hI361, hF370, by omega, by first | assumption | omega, by first | (intro _; assumption) | (intro h; exact absurd h (by decide)) | (intro _ h; omega)⟩
              · skip
                refine j_aload_n hX dX7_readFact_131 rfl 1 rfl ?_
                refine j_bipush hX dX7_readFact_132 rfl ?_
                refine j_callVI hX lk_X7_120 (c_X7_takeNumber _ _ _ _ _ _ _ _ (by omega) hI361 (by omega) (by assumption) hk367 (by first | assumption | omega)) (by omega) hce rfl rfl (by omega) (by omega) kc_1 rfl rfl (Nat.le_of_ble_eq_true rfl) dX7_readFact_134 (fun z372 M373 hz375 hp374 => ?_)
                obtain ⟨hI376, hG377, hb378, hq379, hq380⟩ := hp374
                have hV381 := DL_fr hV365 hG377 (fun b => by omega) (by omega) (by omega)
                have hk383 := kp_fr hG377 (by omega) hk367
                have hk384 := kp_fr hG377 (by omega) hk368
                clear hk367 hk368 hk369
                have hF385 := Fr.trans hF370 hG377 (fun a b h => by omega)
                refine j_if_ne (tgt := 142) hX dX7_readFact_137 (by decide) (by omega) (fun hc386 => ?_) (fun hc386 => ?_)
                · skip
                  have hi387 := hq380 (by omega)
                  clear hq380
                  refine j_aload_n hX dX7_readFact_142 rfl 1 rfl ?_
                  refine gf_X7_21 hX (by omega) (by omega) kc_1 hk383 (by omega) dX7_readFact_143 ?_
                  refine gf_X7_151 hX (by omega) (by omega) (kq hq) (fq_7 hI376 hq) (by omega) dX7_readFact_146 ?_
                  refine j_iload_n hX dX7_readFact_149 rfl 0 rfl ?_
                  refine j_aload_n hX dX7_readFact_150 rfl 1 rfl ?_
                  refine gf_X7_32 hX (by omega) (by omega) kc_1 dX7_readFact_151 ?_
                  refine j_name hI376 ro_1_4 (fun v388 hv389 hl390 hh391 => ?_)
                  have hk392 := hv389.symm
                  refine j_iast hX (by omega) (by omega) (kq_5 hq) (by omega) (by omega) (by omega) (by omega) dX7_readFact_154 ?_
                  refine j_up hI376 (aq_5 hq _) (by omega) (by omega) (Or.inl (by omega)) (fun M393 w394 hw395 hM396 hI397 hf398 => ?_)
                  have hV399 := DL_up hV381 hM396 (by omega) (by omega)
                  have hV400 := KN_up hq379 hM396 (by omega)
                  have hk401 := kp_up hM396 (by omega) hk383
                  have hk402 := kp_up hM396 (by omega) hk384
                  have hk403 := kp_up hM396 (by omega) hk392
                  clear hk383 hk384 hk392
                  have hF404 := Fr.put hF385 hM396 (by omega)
                  refine j_aload_n hX dX7_readFact_155 rfl 1 rfl ?_
                  refine j_sipush hX dX7_readFact_156 rfl ?_
                  refine j_callVI hX lk_X7_127 (c_X7_takeIf _ _ _ _ _ _ _ _ (by omega) hI397 (by omega) (by assumption) hk401 (by first | assumption | omega)) (by omega) hce rfl rfl (by omega) (by omega) kc_1 rfl rfl (Nat.le_of_ble_eq_true rfl) dX7_readFact_159 (fun z405 M406 hz408 hp407 => ?_)
                  obtain ⟨hI409, hG410, hb411, hq412⟩ := hp407
                  have hV413 := DL_fr hV399 hG410 (fun b => by omega) (by omega) (by omega)
                  have hk415 := kp_fr hG410 (by omega) hk401
                  have hk416 := kp_fr hG410 (by omega) hk402
                  have hk417 := kp_fr hG410 (by omega) hk403
                  clear hk401 hk402 hk403
                  have hF418 := Fr.trans hF404 hG410 (fun a b h => by omega)
                  refine j_if_eq (tgt := 180) hX dX7_readFact_162 (by decide) (by omega) (fun hc419 => ?_) (fun hc419 => ?_)
                  · skip
                    refine j_aload_n hX dX7_readFact_180 rfl 1 rfl ?_
                    refine gf_X7_21 hX (by omega) (by omega) kc_1 hk415 (by omega) dX7_readFact_181 ?_
                    refine j_iload_n hX dX7_readFact_184 rfl 0 rfl ?_
                    refine j_iconst hX dX7_readFact_185 ?_
                    refine j_iadd hX dX7_readFact_186 ?_
                    refine pf_X7_139 hX (by omega) (by omega) (kq hq) (by omega) dX7_readFact_187 ?_
                    refine j_up hI409 (rq_4 hq) (by omega) (by omega) (Or.inl (by omega)) (fun M420 w421 hw422 hM423 hI424 hf425 => ?_)
                    have hV426 := DL_up hV413 hM423 (by omega) (by omega)
                    have hV427 := KN_up hq412 hM423 (by omega)
                    have hk428 := kp_up hM423 (by omega) hk415
                    have hk429 := kp_up hM423 (by omega) hk417
                    clear hk415 hk416 hk417
                    have hF430 := Fr.put hF418 hM423 (by omega)
                    refine j_iconst hX dX7_readFact_190 ?_
                    exact hret _ _ _ _ dX7_readFact_191 (nb (by omega)) (by omega) ⟨hI424, hF430, by omega, by first | assumption | omega, by first | (intro _; assumption) | (intro h; exact absurd h (by decide)) | (intro _ h; omega)⟩
                  · skip
                    refine j_aload_n hX dX7_readFact_165 rfl 1 rfl ?_
                    refine gf_X7_21 hX (by omega) (by omega) kc_1 hk415 (by omega) dX7_readFact_166 ?_
                    refine j_dup hX dX7_readFact_169 rfl ?_
                    refine gf_X7_154 hX (by omega) (by omega) (kq hq) dX7_readFact_170 ?_
                    refine j_name hI409 (rq_8 hq) (fun v431 hv432 hl433 hh434 => ?_)
                    have hk435 := hv432.symm
                    refine j_iconst hX dX7_readFact_173 ?_
                    refine j_iload_n hX dX7_readFact_174 rfl 0 rfl ?_
                    refine j_ishl hX dX7_readFact_175 (fun z436 hz437 hy438 => ?_)
                    refine j_ior hX dX7_readFact_176 (fun z439 hz440 hy441 => ?_)
                    refine pf_X7_154 hX (by omega) (by omega) (kq hq) (by omega) dX7_readFact_177 ?_
                    refine j_up hI409 (rq_8 hq) (by omega) (by omega) (Or.inl (by omega)) (fun M442 w443 hw444 hM445 hI446 hf447 => ?_)
                    have hV448 := DL_up hV413 hM445 (by omega) (by omega)
                    have hV449 := KN_up hq412 hM445 (by omega)
                    have hk450 := kp_up hM445 (by omega) hk415
                    have hk451 := kp_up hM445 (fun h => absurd h.2 (by decide)) hk416
                    have hk452 := kp_up hM445 (by omega) hk417
                    clear hk415 hk416 hk417 hk435
                    have hF453 := Fr.put hF418 hM445 (by omega)
                    refine j_aload_n hX dX7_readFact_180 rfl 1 rfl ?_
                    refine gf_X7_21 hX (by omega) (by omega) kc_1 hk450 (by omega) dX7_readFact_181 ?_
                    refine j_iload_n hX dX7_readFact_184 rfl 0 rfl ?_
                    refine j_iconst hX dX7_readFact_185 ?_
                    refine j_iadd hX dX7_readFact_186 ?_
                    refine pf_X7_139 hX (by omega) (by omega) (kq hq) (by omega) dX7_readFact_187 ?_
                    refine j_up hI446 (rq_4 hq) (by omega) (by omega) (Or.inl (by omega)) (fun M454 w455 hw456 hM457 hI458 hf459 => ?_)
                    have hV460 := DL_up hV448 hM457 (by omega) (by omega)
                    have hV461 := KN_up hV449 hM457 (by omega)
                    have hk462 := kp_up hM457 (by omega) hk450
                    have hk463 := kp_up hM457 (by omega) hk452
                    have hk464 := kp_up hM457 (fun h => absurd h.2 (by decide)) hf447
                    clear hk450 hk451 hk452 hf447
                    have hF465 := Fr.put hF453 hM457 (by omega)
                    refine j_iconst hX dX7_readFact_190 ?_
                    exact hret _ _ _ _ dX7_readFact_191 (nb (by omega)) (by omega) ⟨hI458, hF465, by omega, by first | assumption | omega, by first | (intro _; assumption) | (intro h; exact absurd h (by decide)) | (intro _ h; omega)⟩
                · skip
                  clear hq380
                  refine j_iconst hX dX7_readFact_140 ?_
                  exact hret _ _ _ _ dX7_readFact_141 (nb (by omega)) (by omega) ⟨hI376, hF385, by omega, by first | assumption | omega, by first | (intro _; assumption) | (intro h; exact absurd h (by decide)) | (intro _ h; omega)⟩
            · skip
              clear hq319
              refine j_iconst hX dX7_readFact_99 ?_
              exact hret _ _ _ _ dX7_readFact_100 (nb (by omega)) (by omega) ⟨hI316, hF324, by omega, by first | assumption | omega, by first | (intro _; assumption) | (intro h; exact absurd h (by decide)) | (intro _ h; omega)⟩
        · skip
          refine j_aload_n hX dX7_readFact_53 rfl 1 rfl ?_
          refine j_iconst hX dX7_readFact_54 ?_
          refine j_callVI hX lk_X7_95 (c_X7_refuse _ _ _ _ _ _ _ _ (by omega) hI263 (by omega) (by assumption) hk268) (by omega) hce rfl rfl (by omega) (by omega) kc_1 rfl rfl (Nat.le_of_ble_eq_true rfl) dX7_readFact_55 (fun z466 M467 hz469 hp468 => ?_)
          obtain ⟨hI470, hG471, hb472, hq473⟩ := hp468
          have hV474 := DL_fr hV266 hG471 (fun b => by omega) (by omega) (by omega)
          have hV475 := KN_fr hV267 hG471 (by omega) (by omega)
          have hk476 := kp_fr hG471 (by omega) hk268
          have hk477 := kp_fr hG471 (by omega) hk269
          clear hk268 hk269
          have hF478 := Fr.trans hF270 hG471 (fun a b h => by omega)
          exact hret _ _ _ _ dX7_readFact_58 (nb (by omega)) (by omega) ⟨hI470, hF478, by omega, by first | assumption | omega, by first | (intro _; assumption) | (intro h; exact absurd h (by decide)) | (intro _ h; omega)⟩
      · skip
        refine j_iconst hX dX7_readFact_33 ?_
        exact hret _ _ _ _ dX7_readFact_34 (nb (by omega)) (by omega) ⟨hI263, hF270, by omega, by first | assumption | omega, by first | (intro _; assumption) | (intro h; exact absurd h (by decide)) | (intro _ h; omega)⟩
set_option maxHeartbeats 2000000 in
set_option maxRecDepth 20000 in
theorem c_X7_readTells (l : Launch) (D : va_G) (cy : Nat → ClassId) (B N : Nat) (q : Int) (M : MM) (hN : 210 ≤ N) (hI : Iv M) (hq : q = 5 ∨ q = 180) (hto : M.1 1 1 = q) (hDL : DL q M) (hkn : KNo M) : CI l D cy B N 10 yX7_readTells cX7_readTells 2 (some .boolean) [rv B 1] M (fun z M' => Iv M' ∧ Fr (fun a b => (a = 1 ∧ 2 ≤ b ∧ b ≤ 4) ∨ (a = 2 ∧ 3 ≤ b ∧ b ≤ 6) ∨ (q ≤ a ∧ a ≤ q + 20)) M M' ∧ (0 ≤ z ∧ z ≤ 1) ∧ (KNo M') ∧ (z = 1 → DL q M')) := by
  refine mk_CI (by decide) (Nat.le_of_ble_eq_true rfl) ?_
  intro X exl exD excy hnL hX hret
  have hce : 0 + 0 ≤ (xR X).cells ∧ 0 + 0 ≤ (xR X).slots := ⟨Nat.zero_le _, Nat.zero_le _⟩
  have hdq : 5 ≤ q ∧ q ≤ 180 := by omega
  have hF : Fr (fun a b => (a = 1 ∧ 2 ≤ b ∧ b ≤ 4) ∨ (a = 2 ∧ 3 ≤ b ∧ b ≤ 6) ∨ (q ≤ a ∧ a ≤ q + 20)) M M := Fr.rf
  show J X B N 0 0 0 [(0, rv B 1)] [] M
  refine j_aload_n hX dX7_readTells_0 rfl 0 rfl ?_
  refine gf_X7_12 hX (by omega) (by omega) kc_1 (fc_1_0 hI) (by decide) dX7_readTells_1 ?_
  refine j_callVV hX lk_X7_41 (c_X9_advance _ _ _ _ _ _ (by omega) hI (by first | assumption | omega)) (by omega) hce rfl rfl (by omega) (by omega) kc_2 rfl rfl (Nat.le_of_ble_eq_true rfl) dX7_readTells_4 (fun M2 hp3 => ?_)
  obtain ⟨hI5, hG6, hq7⟩ := hp3
  have hV9 := DL_fr hDL hG6 (fun b => by omega) (by omega) (by omega)
  have hk10 := kp_fr hG6 (by omega) hto
  have hF11 := Fr.trans hF hG6 (fun a b h => by omega)
  refine j_aload_n hX dX7_readTells_7 rfl 0 rfl ?_
  refine j_callVI hX lk_X7_133 (c_X7_isRoom _ _ _ _ _ _ _ (by omega) hI5 (by assumption) hk10) (by omega) hce rfl rfl (by omega) (by omega) kc_1 rfl rfl (Nat.le_of_ble_eq_true rfl) dX7_readTells_8 (fun z12 M13 hz15 hp14 => ?_)
  obtain ⟨hI16, hG17, hb18, hq19⟩ := hp14
  have hV20 := DL_fr hV9 hG17 (fun b => by omega) (by omega) (by omega)
  have hV21 := KN_fr hq7 hG17 (by omega) (by omega)
  have hk22 := kp_fr hG17 (by omega) hk10
  clear hk10
  have hF23 := Fr.trans hF11 hG17 (fun a b h => by omega)
  refine j_if_ne (tgt := 16) hX dX7_readTells_11 (by decide) (by omega) (fun hc24 => ?_) (fun hc24 => ?_)
  · skip
    have hi25 := hq19 (by omega)
    clear hq19
    refine j_aload_n hX dX7_readTells_16 rfl 0 rfl ?_
    refine gf_X7_32 hX (by omega) (by omega) kc_1 dX7_readTells_17 ?_
    refine j_name hI16 ro_1_4 (fun v26 hv27 hl28 hh29 => ?_)
    have hk30 := hv27.symm
    refine j_istore_n (lv' := [(1, _), (0, _)]) hX dX7_readTells_20 rfl (by rw [hnL]; decide) rfl ?_
    refine j_aload_n hX dX7_readTells_21 rfl 1 rfl ?_
    refine gf_X7_12 hX (by omega) (by omega) kc_1 (fc_1_0 hI16) (by decide) dX7_readTells_22 ?_
    refine j_callVV hX lk_X7_41 (c_X9_advance _ _ _ _ _ _ (by omega) hI16 (by first | assumption | omega)) (by omega) hce rfl rfl (by omega) (by omega) kc_2 rfl rfl (Nat.le_of_ble_eq_true rfl) dX7_readTells_25 (fun M32 hp33 => ?_)
    obtain ⟨hI35, hG36, hq37⟩ := hp33
    have hV38 := DL_fr hV20 hG36 (fun b => by omega) (by omega) (by omega)
    have hk40 := kp_fr hG36 (by omega) hk22
    have hk41 := kp_fr hG36 (by omega) hk30
    clear hk22 hk30
    have hF42 := Fr.trans hF23 hG36 (fun a b h => by omega)
    refine j_aload_n hX dX7_readTells_28 rfl 1 rfl ?_
    refine j_callVI hX lk_X7_133 (c_X7_isRoom _ _ _ _ _ _ _ (by omega) hI35 (by assumption) hk40) (by omega) hce rfl rfl (by omega) (by omega) kc_1 rfl rfl (Nat.le_of_ble_eq_true rfl) dX7_readTells_29 (fun z43 M44 hz46 hp45 => ?_)
    obtain ⟨hI47, hG48, hb49, hq50⟩ := hp45
    have hV51 := DL_fr hV38 hG48 (fun b => by omega) (by omega) (by omega)
    have hV52 := KN_fr hq37 hG48 (by omega) (by omega)
    have hk53 := kp_fr hG48 (by omega) hk40
    clear hk40 hk41
    have hF54 := Fr.trans hF42 hG48 (fun a b h => by omega)
    refine j_if_ne (tgt := 37) hX dX7_readTells_32 (by decide) (by omega) (fun hc55 => ?_) (fun hc55 => ?_)
    · skip
      have hi56 := hq50 (by omega)
      clear hq50
      refine j_aload_n hX dX7_readTells_37 rfl 1 rfl ?_
      refine gf_X7_32 hX (by omega) (by omega) kc_1 dX7_readTells_38 ?_
      refine j_name hI47 ro_1_4 (fun v57 hv58 hl59 hh60 => ?_)
      have hk61 := hv58.symm
      refine j_iload_n hX dX7_readTells_41 rfl 0 rfl ?_
      refine j_icmp_eq (tgt := 64) hX dX7_readTells_42 (by decide) (by omega) (by omega) (fun hc62 => ?_) (fun hc62 => ?_)
      · skip
        refine j_aload_n hX dX7_readTells_64 rfl 1 rfl ?_
        refine j_iconst hX dX7_readTells_65 ?_
        refine j_callVI hX lk_X7_95 (c_X7_refuse _ _ _ _ _ _ _ _ (by omega) hI47 (by omega) (by assumption) hk53) (by omega) hce rfl rfl (by omega) (by omega) kc_1 rfl rfl (Nat.le_of_ble_eq_true rfl) dX7_readTells_66 (fun z63 M64 hz66 hp65 => ?_)
        obtain ⟨hI67, hG68, hb69, hq70⟩ := hp65
        have hV71 := DL_fr hV51 hG68 (fun b => by omega) (by omega) (by omega)
        have hV72 := KN_fr hV52 hG68 (by omega) (by omega)
        have hk73 := kp_fr hG68 (by omega) hk53
        have hk74 := kp_fr hG68 (by omega) hk61
        clear hk53 hk61
        have hF75 := Fr.trans hF54 hG68 (fun a b h => by omega)
        exact hret _ _ _ _ dX7_readTells_69 (nb (by omega)) (by omega) ⟨hI67, hF75, by omega, by first | assumption | omega, by first | (intro _; assumption) | (intro h; exact absurd h (by decide)) | (intro _ h; omega)⟩
      · skip
        refine j_aload_n hX dX7_readTells_45 rfl 1 rfl ?_
        refine gf_X7_21 hX (by omega) (by omega) kc_1 hk53 (by omega) dX7_readTells_46 ?_
        refine gf_X7_157 hX (by omega) (by omega) (kq hq) (fq_12 hI47 hq) (by omega) dX7_readTells_49 ?_
        refine j_aload_n hX dX7_readTells_52 rfl 1 rfl ?_
        refine gf_X7_32 hX (by omega) (by omega) kc_1 dX7_readTells_53 ?_
        refine j_top hk61 ?_
        refine j_iald hX (by omega) (by omega) (kq_7 hq) (by omega) (by omega) (by omega) dX7_readTells_56 ?_
        refine j_name hI47 (aq_7 hq _) (fun v76 hv77 hl78 hh79 => ?_)
        refine j_iload_n hX dX7_readTells_57 rfl 0 rfl ?_
        refine j_ishr hX dX7_readTells_58 (fun z80 hz81 hy82 => ?_)
        refine j_iconst hX dX7_readTells_59 ?_
        refine j_iand hX dX7_readTells_60 (fun z83 hz84 hy85 => ?_)
        have ha86 := (and_f hz84 (by omega) (by omega)).2 (by omega)
        refine j_if_eq (tgt := 70) hX dX7_readTells_61 (by decide) (by omega) (fun hc87 => ?_) (fun hc87 => ?_)
        · skip
          refine j_aload_n hX dX7_readTells_70 rfl 1 rfl ?_
          refine gf_X7_21 hX (by omega) (by omega) kc_1 hk53 (by omega) dX7_readTells_71 ?_
          refine gf_X7_157 hX (by omega) (by omega) (kq hq) (fq_12 hI47 hq) (by omega) dX7_readTells_74 ?_
          refine j_aload_n hX dX7_readTells_77 rfl 1 rfl ?_
          refine gf_X7_32 hX (by omega) (by omega) kc_1 dX7_readTells_78 ?_
          refine j_top hk61 ?_
          refine j_dup2 hX dX7_readTells_81 rfl rfl ?_
          refine j_iald hX (by omega) (by omega) (kq_7 hq) (by omega) (by omega) (by omega) dX7_readTells_82 ?_
          refine j_name hI47 (aq_7 hq _) (fun v88 hv89 hl90 hh91 => ?_)
          refine j_iconst hX dX7_readTells_83 ?_
          refine j_iload_n hX dX7_readTells_84 rfl 0 rfl ?_
          refine j_ishl hX dX7_readTells_85 (fun z92 hz93 hy94 => ?_)
          refine j_ior hX dX7_readTells_86 (fun z95 hz96 hy97 => ?_)
          refine j_iast hX (by omega) (by omega) (kq_7 hq) (by omega) (by omega) (by omega) (by omega) dX7_readTells_87 ?_
          refine j_up hI47 (aq_7 hq _) (by omega) (by omega) (Or.inl (by omega)) (fun M98 w99 hw100 hM101 hI102 hf103 => ?_)
          have hV104 := DL_up hV51 hM101 (by omega) (by omega)
          have hV105 := KN_up hV52 hM101 (by omega)
          have hk106 := kp_up hM101 (by omega) hk53
          have hk107 := kp_up hM101 (by omega) hk61
          clear hk53 hk61
          have hF108 := Fr.put hF54 hM101 (by omega)
          refine j_aload_n hX dX7_readTells_88 rfl 1 rfl ?_
          refine gf_X7_21 hX (by omega) (by omega) kc_1 hk106 (by omega) dX7_readTells_89 ?_
          refine j_dup hX dX7_readTells_92 rfl ?_
          refine gf_X7_160 hX (by omega) (by omega) (kq hq) dX7_readTells_93 ?_
          refine j_name hI102 (rq_11 hq) (fun v109 hv110 hl111 hh112 => ?_)
          have hk113 := hv110.symm
          refine j_iconst hX dX7_readTells_96 ?_
          refine j_iadd hX dX7_readTells_97 ?_
          refine j_norm (fun z114 hz115 hy116 => ?_)
          refine pf_X7_160 hX (by omega) (by omega) (kq hq) (by omega) dX7_readTells_98 ?_
          refine j_up hI102 (rq_11 hq) (by omega) (by omega) (Or.inl (by omega)) (fun M117 w118 hw119 hM120 hI121 hf122 => ?_)
          have hV123 := DL_up hV104 hM120 (by omega) (by omega)
          have hV124 := KN_up hV105 hM120 (by omega)
          have hk125 := kp_up hM120 (by omega) hk106
          have hk126 := kp_up hM120 (by omega) hk107
          clear hk106 hk107 hk113
          have hF127 := Fr.put hF108 hM120 (by omega)
          refine j_aload_n hX dX7_readTells_101 rfl 1 rfl ?_
          refine gf_X7_12 hX (by omega) (by omega) kc_1 (fc_1_0 hI121) (by decide) dX7_readTells_102 ?_
          refine j_callVV hX lk_X7_41 (c_X9_advance _ _ _ _ _ _ (by omega) hI121 (by first | assumption | omega)) (by omega) hce rfl rfl (by omega) (by omega) kc_2 rfl rfl (Nat.le_of_ble_eq_true rfl) dX7_readTells_105 (fun M129 hp130 => ?_)
          obtain ⟨hI132, hG133, hq134⟩ := hp130
          have hV135 := DL_fr hV123 hG133 (fun b => by omega) (by omega) (by omega)
          have hk137 := kp_fr hG133 (by omega) hk125
          have hk138 := kp_fr hG133 (by omega) hk126
          have hk139 := kp_fr hG133 (by omega) hf122
          clear hk125 hk126 hf122
          have hF140 := Fr.trans hF127 hG133 (fun a b h => by omega)
          refine j_iconst hX dX7_readTells_108 ?_
          exact hret _ _ _ _ dX7_readTells_109 (nb (by omega)) (by omega) ⟨hI132, hF140, by omega, by first | assumption | omega, by first | (intro _; assumption) | (intro h; exact absurd h (by decide)) | (intro _ h; omega)⟩
        · skip
          refine j_aload_n hX dX7_readTells_64 rfl 1 rfl ?_
          refine j_iconst hX dX7_readTells_65 ?_
          refine j_callVI hX lk_X7_95 (c_X7_refuse _ _ _ _ _ _ _ _ (by omega) hI47 (by omega) (by assumption) hk53) (by omega) hce rfl rfl (by omega) (by omega) kc_1 rfl rfl (Nat.le_of_ble_eq_true rfl) dX7_readTells_66 (fun z141 M142 hz144 hp143 => ?_)
          obtain ⟨hI145, hG146, hb147, hq148⟩ := hp143
          have hV149 := DL_fr hV51 hG146 (fun b => by omega) (by omega) (by omega)
          have hV150 := KN_fr hV52 hG146 (by omega) (by omega)
          have hk151 := kp_fr hG146 (by omega) hk53
          have hk152 := kp_fr hG146 (by omega) hk61
          clear hk53 hk61
          have hF153 := Fr.trans hF54 hG146 (fun a b h => by omega)
          exact hret _ _ _ _ dX7_readTells_69 (nb (by omega)) (by omega) ⟨hI145, hF153, by omega, by first | assumption | omega, by first | (intro _; assumption) | (intro h; exact absurd h (by decide)) | (intro _ h; omega)⟩
    · skip
      clear hq50
      refine j_iconst hX dX7_readTells_35 ?_
      exact hret _ _ _ _ dX7_readTells_36 (nb (by omega)) (by omega) ⟨hI47, hF54, by omega, by first | assumption | omega, by first | (intro _; assumption) | (intro h; exact absurd h (by decide)) | (intro _ h; omega)⟩
  · skip
    clear hq19
    refine j_iconst hX dX7_readTells_14 ?_
    exact hret _ _ _ _ dX7_readTells_15 (nb (by omega)) (by omega) ⟨hI16, hF23, by omega, by first | assumption | omega, by first | (intro _; assumption) | (intro h; exact absurd h (by decide)) | (intro _ h; omega)⟩
set_option maxHeartbeats 2000000 in
set_option maxRecDepth 20000 in
theorem c_X7_readWants (l : Launch) (D : va_G) (cy : Nat → ClassId) (B N : Nat) (q : Int) (M : MM) (hN : 210 ≤ N) (hI : Iv M) (hq : q = 5 ∨ q = 180) (hto : M.1 1 1 = q) (hDL : DL q M) (hkn : KNo M) : CI l D cy B N 11 yX7_readWants cX7_readWants 3 (some .boolean) [rv B 1] M (fun z M' => Iv M' ∧ Fr (fun a b => (a = 1 ∧ 2 ≤ b ∧ b ≤ 4) ∨ (a = 2 ∧ 3 ≤ b ∧ b ≤ 6) ∨ (q ≤ a ∧ a ≤ q + 20)) M M' ∧ (0 ≤ z ∧ z ≤ 1) ∧ (KNo M') ∧ (z = 1 → DL q M')) := by
  refine mk_CI (by decide) (Nat.le_of_ble_eq_true rfl) ?_
  intro X exl exD excy hnL hX hret
  have hce : 0 + 0 ≤ (xR X).cells ∧ 0 + 0 ≤ (xR X).slots := ⟨Nat.zero_le _, Nat.zero_le _⟩
  have hdq : 5 ≤ q ∧ q ≤ 180 := by omega
  have hF : Fr (fun a b => (a = 1 ∧ 2 ≤ b ∧ b ≤ 4) ∨ (a = 2 ∧ 3 ≤ b ∧ b ≤ 6) ∨ (q ≤ a ∧ a ≤ q + 20)) M M := Fr.rf
  show J X B N 0 0 0 [(0, rv B 1)] [] M
  refine j_aload_n hX dX7_readWants_0 rfl 0 rfl ?_
  refine gf_X7_12 hX (by omega) (by omega) kc_1 (fc_1_0 hI) (by decide) dX7_readWants_1 ?_
  refine j_callVV hX lk_X7_41 (c_X9_advance _ _ _ _ _ _ (by omega) hI (by first | assumption | omega)) (by omega) hce rfl rfl (by omega) (by omega) kc_2 rfl rfl (Nat.le_of_ble_eq_true rfl) dX7_readWants_4 (fun M2 hp3 => ?_)
  obtain ⟨hI5, hG6, hq7⟩ := hp3
  have hV9 := DL_fr hDL hG6 (fun b => by omega) (by omega) (by omega)
  have hk10 := kp_fr hG6 (by omega) hto
  have hF11 := Fr.trans hF hG6 (fun a b h => by omega)
  refine j_aload_n hX dX7_readWants_7 rfl 0 rfl ?_
  refine j_callVI hX lk_X7_133 (c_X7_isRoom _ _ _ _ _ _ _ (by omega) hI5 (by assumption) hk10) (by omega) hce rfl rfl (by omega) (by omega) kc_1 rfl rfl (Nat.le_of_ble_eq_true rfl) dX7_readWants_8 (fun z12 M13 hz15 hp14 => ?_)
  obtain ⟨hI16, hG17, hb18, hq19⟩ := hp14
  have hV20 := DL_fr hV9 hG17 (fun b => by omega) (by omega) (by omega)
  have hV21 := KN_fr hq7 hG17 (by omega) (by omega)
  have hk22 := kp_fr hG17 (by omega) hk10
  clear hk10
  have hF23 := Fr.trans hF11 hG17 (fun a b h => by omega)
  refine j_if_ne (tgt := 16) hX dX7_readWants_11 (by decide) (by omega) (fun hc24 => ?_) (fun hc24 => ?_)
  · skip
    have hi25 := hq19 (by omega)
    clear hq19
    refine j_aload_n hX dX7_readWants_16 rfl 0 rfl ?_
    refine gf_X7_32 hX (by omega) (by omega) kc_1 dX7_readWants_17 ?_
    refine j_name hI16 ro_1_4 (fun v26 hv27 hl28 hh29 => ?_)
    have hk30 := hv27.symm
    refine j_istore_n (lv' := [(1, _), (0, _)]) hX dX7_readWants_20 rfl (by rw [hnL]; decide) rfl ?_
    refine j_aload_n hX dX7_readWants_21 rfl 1 rfl ?_
    refine gf_X7_12 hX (by omega) (by omega) kc_1 (fc_1_0 hI16) (by decide) dX7_readWants_22 ?_
    refine j_callVV hX lk_X7_41 (c_X9_advance _ _ _ _ _ _ (by omega) hI16 (by first | assumption | omega)) (by omega) hce rfl rfl (by omega) (by omega) kc_2 rfl rfl (Nat.le_of_ble_eq_true rfl) dX7_readWants_25 (fun M32 hp33 => ?_)
    obtain ⟨hI35, hG36, hq37⟩ := hp33
    have hV38 := DL_fr hV20 hG36 (fun b => by omega) (by omega) (by omega)
    have hk40 := kp_fr hG36 (by omega) hk22
    have hk41 := kp_fr hG36 (by omega) hk30
    clear hk22 hk30
    have hF42 := Fr.trans hF23 hG36 (fun a b h => by omega)
    refine j_aload_n hX dX7_readWants_28 rfl 1 rfl ?_
    refine j_callVI hX lk_X7_133 (c_X7_isRoom _ _ _ _ _ _ _ (by omega) hI35 (by assumption) hk40) (by omega) hce rfl rfl (by omega) (by omega) kc_1 rfl rfl (Nat.le_of_ble_eq_true rfl) dX7_readWants_29 (fun z43 M44 hz46 hp45 => ?_)
    obtain ⟨hI47, hG48, hb49, hq50⟩ := hp45
    have hV51 := DL_fr hV38 hG48 (fun b => by omega) (by omega) (by omega)
    have hV52 := KN_fr hq37 hG48 (by omega) (by omega)
    have hk53 := kp_fr hG48 (by omega) hk40
    clear hk40 hk41
    have hF54 := Fr.trans hF42 hG48 (fun a b h => by omega)
    refine j_if_ne (tgt := 37) hX dX7_readWants_32 (by decide) (by omega) (fun hc55 => ?_) (fun hc55 => ?_)
    · skip
      have hi56 := hq50 (by omega)
      clear hq50
      refine j_aload_n hX dX7_readWants_37 rfl 1 rfl ?_
      refine gf_X7_32 hX (by omega) (by omega) kc_1 dX7_readWants_38 ?_
      refine j_name hI47 ro_1_4 (fun v57 hv58 hl59 hh60 => ?_)
      have hk61 := hv58.symm
      refine j_istore_n (lv' := [(2, _), (1, _), (0, _)]) hX dX7_readWants_41 rfl (by rw [hnL]; decide) rfl ?_
      refine j_aload_n hX dX7_readWants_42 rfl 2 rfl ?_
      refine gf_X7_21 hX (by omega) (by omega) kc_1 hk53 (by omega) dX7_readWants_43 ?_
      refine gf_X7_163 hX (by omega) (by omega) (kq hq) (fq_13 hI47 hq) (by omega) dX7_readWants_46 ?_
      refine j_iload_n hX dX7_readWants_49 rfl 1 rfl ?_
      refine j_aald5 hX (by omega) (by omega) (kq_8 hq) (by omega) (by omega) (by omega) (fw hI47 hq (by omega) (by omega)) (by omega) dX7_readWants_50 ?_
      refine j_iload_n hX dX7_readWants_51 rfl 0 rfl ?_
      refine j_iald hX (by omega) (by omega) (kw hq (by omega) (by omega)) (by omega) (by omega) (by omega) dX7_readWants_52 ?_
      refine j_name hI47 (aw hq (by omega) (by omega) _) (fun v62 hv63 hl64 hh65 => ?_)
      refine j_iconst hX dX7_readWants_53 ?_
      refine j_icmp_eq (tgt := 63) hX dX7_readWants_54 (by decide) (by omega) (by omega) (fun hc66 => ?_) (fun hc66 => ?_)
      · skip
        refine j_aload_n hX dX7_readWants_63 rfl 2 rfl ?_
        refine gf_X7_12 hX (by omega) (by omega) kc_1 (fc_1_0 hI47) (by decide) dX7_readWants_64 ?_
        refine j_callVV hX lk_X7_41 (c_X9_advance _ _ _ _ _ _ (by omega) hI47 (by first | assumption | omega)) (by omega) hce rfl rfl (by omega) (by omega) kc_2 rfl rfl (Nat.le_of_ble_eq_true rfl) dX7_readWants_67 (fun M68 hp69 => ?_)
        obtain ⟨hI71, hG72, hq73⟩ := hp69
        have hV74 := DL_fr hV51 hG72 (fun b => by omega) (by omega) (by omega)
        have hk76 := kp_fr hG72 (by omega) hk53
        have hk77 := kp_fr hG72 (by omega) hk61
        clear hk53 hk61
        have hF78 := Fr.trans hF54 hG72 (fun a b h => by omega)
        refine j_aload_n hX dX7_readWants_70 rfl 2 rfl ?_
        refine j_bipush hX dX7_readWants_71 rfl ?_
        refine j_callVI hX lk_X7_120 (c_X7_takeNumber _ _ _ _ _ _ _ _ (by omega) hI71 (by omega) (by assumption) hk76 (by first | assumption | omega)) (by omega) hce rfl rfl (by omega) (by omega) kc_1 rfl rfl (Nat.le_of_ble_eq_true rfl) dX7_readWants_73 (fun z79 M80 hz82 hp81 => ?_)
        obtain ⟨hI83, hG84, hb85, hq86, hq87⟩ := hp81
        have hV88 := DL_fr hV74 hG84 (fun b => by omega) (by omega) (by omega)
        have hk90 := kp_fr hG84 (by omega) hk76
        clear hk76 hk77
        have hF91 := Fr.trans hF78 hG84 (fun a b h => by omega)
        refine j_if_ne (tgt := 81) hX dX7_readWants_76 (by decide) (by omega) (fun hc92 => ?_) (fun hc92 => ?_)
        · skip
          have hi93 := hq87 (by omega)
          clear hq87
          refine j_aload_n hX dX7_readWants_81 rfl 2 rfl ?_
          refine gf_X7_21 hX (by omega) (by omega) kc_1 hk90 (by omega) dX7_readWants_82 ?_
          refine gf_X7_163 hX (by omega) (by omega) (kq hq) (fq_13 hI83 hq) (by omega) dX7_readWants_85 ?_
          refine j_iload_n hX dX7_readWants_88 rfl 1 rfl ?_
          refine j_aald5 hX (by omega) (by omega) (kq_8 hq) (by omega) (by omega) (by omega) (fw hI83 hq (by omega) (by omega)) (by omega) dX7_readWants_89 ?_
          refine j_iload_n hX dX7_readWants_90 rfl 0 rfl ?_
          refine j_aload_n hX dX7_readWants_91 rfl 2 rfl ?_
          refine gf_X7_32 hX (by omega) (by omega) kc_1 dX7_readWants_92 ?_
          refine j_name hI83 ro_1_4 (fun v94 hv95 hl96 hh97 => ?_)
          have hk98 := hv95.symm
          refine j_iast hX (by omega) (by omega) (kw hq (by omega) (by omega)) (by omega) (by omega) (by omega) (by omega) dX7_readWants_95 ?_
          refine j_up hI83 (aw hq (by omega) (by omega) _) (by omega) (by omega) (Or.inl (by omega)) (fun M99 w100 hw101 hM102 hI103 hf104 => ?_)
          have hV105 := DL_up hV88 hM102 (by omega) (by omega)
          have hV106 := KN_up hq86 hM102 (by omega)
          have hk107 := kp_up hM102 (by omega) hk90
          have hk108 := kp_up hM102 (by omega) hk98
          clear hk90 hk98
          have hF109 := Fr.put hF91 hM102 (by omega)
          refine j_iconst hX dX7_readWants_96 ?_
          exact hret _ _ _ _ dX7_readWants_97 (nb (by omega)) (by omega) ⟨hI103, hF109, by omega, by first | assumption | omega, by first | (intro _; assumption) | (intro h; exact absurd h (by decide)) | (intro _ h; omega)⟩
        · skip
          clear hq87
          refine j_iconst hX dX7_readWants_79 ?_
          exact hret _ _ _ _ dX7_readWants_80 (nb (by omega)) (by omega) ⟨hI83, hF91, by omega, by first | assumption | omega, by first | (intro _; assumption) | (intro h; exact absurd h (by decide)) | (intro _ h; omega)⟩
      · skip
        refine j_aload_n hX dX7_readWants_57 rfl 2 rfl ?_
        refine j_iconst hX dX7_readWants_58 ?_
        refine j_callVI hX lk_X7_95 (c_X7_refuse _ _ _ _ _ _ _ _ (by omega) hI47 (by omega) (by assumption) hk53) (by omega) hce rfl rfl (by omega) (by omega) kc_1 rfl rfl (Nat.le_of_ble_eq_true rfl) dX7_readWants_59 (fun z110 M111 hz113 hp112 => ?_)
        obtain ⟨hI114, hG115, hb116, hq117⟩ := hp112
        have hV118 := DL_fr hV51 hG115 (fun b => by omega) (by omega) (by omega)
        have hV119 := KN_fr hV52 hG115 (by omega) (by omega)
        have hk120 := kp_fr hG115 (by omega) hk53
        have hk121 := kp_fr hG115 (by omega) hk61
        clear hk53 hk61
        have hF122 := Fr.trans hF54 hG115 (fun a b h => by omega)
        exact hret _ _ _ _ dX7_readWants_62 (nb (by omega)) (by omega) ⟨hI114, hF122, by omega, by first | assumption | omega, by first | (intro _; assumption) | (intro h; exact absurd h (by decide)) | (intro _ h; omega)⟩
    · skip
      clear hq50
      refine j_iconst hX dX7_readWants_35 ?_
      exact hret _ _ _ _ dX7_readWants_36 (nb (by omega)) (by omega) ⟨hI47, hF54, by omega, by first | assumption | omega, by first | (intro _; assumption) | (intro h; exact absurd h (by decide)) | (intro _ h; omega)⟩
  · skip
    clear hq19
    refine j_iconst hX dX7_readWants_14 ?_
    exact hret _ _ _ _ dX7_readWants_15 (nb (by omega)) (by omega) ⟨hI16, hF23, by omega, by first | assumption | omega, by first | (intro _; assumption) | (intro h; exact absurd h (by decide)) | (intro _ h; omega)⟩
set_option maxHeartbeats 2000000 in
set_option maxRecDepth 20000 in
theorem c_X7_readDark (l : Launch) (D : va_G) (cy : Nat → ClassId) (B N : Nat) (q : Int) (M : MM) (hN : 210 ≤ N) (hI : Iv M) (hq : q = 5 ∨ q = 180) (hto : M.1 1 1 = q) (hDL : DL q M) (hkn : KNo M) : CI l D cy B N 11 yX7_readDark cX7_readDark 1 (some .boolean) [rv B 1] M (fun z M' => Iv M' ∧ Fr (fun a b => (a = 1 ∧ 2 ≤ b ∧ b ≤ 4) ∨ (a = 2 ∧ 3 ≤ b ∧ b ≤ 6) ∨ (q ≤ a ∧ a ≤ q + 20)) M M' ∧ (0 ≤ z ∧ z ≤ 1) ∧ (KNo M') ∧ (z = 1 → DL q M')) := by
  refine mk_CI (by decide) (Nat.le_of_ble_eq_true rfl) ?_
  intro X exl exD excy hnL hX hret
  have hce : 0 + 0 ≤ (xR X).cells ∧ 0 + 0 ≤ (xR X).slots := ⟨Nat.zero_le _, Nat.zero_le _⟩
  have hdq : 5 ≤ q ∧ q ≤ 180 := by omega
  have hF : Fr (fun a b => (a = 1 ∧ 2 ≤ b ∧ b ≤ 4) ∨ (a = 2 ∧ 3 ≤ b ∧ b ≤ 6) ∨ (q ≤ a ∧ a ≤ q + 20)) M M := Fr.rf
  show J X B N 0 0 0 [(0, rv B 1)] [] M
  refine j_aload_n hX dX7_readDark_0 rfl 0 rfl ?_
  refine j_aload_n hX dX7_readDark_1 rfl 0 rfl ?_
  refine gf_X7_21 hX (by omega) (by omega) kc_1 hto (by omega) dX7_readDark_2 ?_
  refine gf_X7_167 hX (by omega) (by omega) (kq hq) dX7_readDark_5 ?_
  refine j_name hI (rq_14 hq) (fun v1 hv2 hl3 hh4 => ?_)
  have hk5 := hv2.symm
  refine j_iconst hX dX7_readDark_8 ?_
  refine j_icmp_ne (tgt := 16) hX dX7_readDark_9 (by decide) (by omega) (by omega) (fun hc6 => ?_) (fun hc6 => ?_)
  · skip
    refine j_iconst hX dX7_readDark_16 ?_
    refine j_callVI hX lk_X7_82 (c_X7_mayStart _ _ _ _ _ _ _ _ (by omega) hI (by omega) (by assumption) hto (by first | assumption | omega) (by first | assumption | omega)) (by omega) hce rfl rfl (by omega) (by omega) kc_1 rfl rfl (Nat.le_of_ble_eq_true rfl) dX7_readDark_17 (fun z7 M8 hz10 hp9 => ?_)
    obtain ⟨hI11, hG12, hb13, hq14, hq15⟩ := hp9
    have hV17 := DL_fr hDL hG12 (fun b => by omega) (by omega) (by omega)
    have hk18 := kp_fr hG12 (by omega) hto
    have hk19 := kp_fr hG12 (by omega) hk5
    clear hk5
    have hF20 := Fr.trans hF hG12 (fun a b h => by omega)
    refine j_if_eq (tgt := 32) hX dX7_readDark_20 (by decide) (by omega) (fun hc21 => ?_) (fun hc21 => ?_)
    · skip
      clear hq15
      refine j_iconst hX dX7_readDark_32 ?_
      exact hret _ _ _ _ dX7_readDark_33 (nb (by omega)) (by omega) ⟨hI11, hF20, by omega, by first | assumption | omega, by first | (intro _; assumption) | (intro h; exact absurd h (by decide)) | (intro _ h; omega)⟩
    · skip
      have hi22 := hq15 (by omega)
      clear hq15
      refine j_aload_n hX dX7_readDark_23 rfl 0 rfl ?_
      refine j_bipush hX dX7_readDark_24 rfl ?_
      refine j_callVI hX lk_X7_120 (c_X7_takeNumber _ _ _ _ _ _ _ _ (by omega) hI11 (by omega) (by assumption) hk18 (by first | assumption | omega)) (by omega) hce rfl rfl (by omega) (by omega) kc_1 rfl rfl (Nat.le_of_ble_eq_true rfl) dX7_readDark_26 (fun z23 M24 hz26 hp25 => ?_)
      obtain ⟨hI27, hG28, hb29, hq30, hq31⟩ := hp25
      have hV32 := DL_fr hV17 hG28 (fun b => by omega) (by omega) (by omega)
      have hk34 := kp_fr hG28 (by omega) hk18
      have hk35 := kp_fr hG28 (by omega) hk19
      clear hk18 hk19
      have hF36 := Fr.trans hF20 hG28 (fun a b h => by omega)
      refine j_if_ne (tgt := 34) hX dX7_readDark_29 (by decide) (by omega) (fun hc37 => ?_) (fun hc37 => ?_)
      · skip
        have hi38 := hq31 (by omega)
        clear hq31
        refine j_aload_n hX dX7_readDark_34 rfl 0 rfl ?_
        refine gf_X7_21 hX (by omega) (by omega) kc_1 hk34 (by omega) dX7_readDark_35 ?_
        refine j_aload_n hX dX7_readDark_38 rfl 0 rfl ?_
        refine gf_X7_32 hX (by omega) (by omega) kc_1 dX7_readDark_39 ?_
        refine j_name hI27 ro_1_4 (fun v39 hv40 hl41 hh42 => ?_)
        have hk43 := hv40.symm
        refine pf_X7_167 hX (by omega) (by omega) (kq hq) (by omega) dX7_readDark_42 ?_
        refine j_up hI27 (rq_14 hq) (by omega) (by omega) (Or.inl (by omega)) (fun M44 w45 hw46 hM47 hI48 hf49 => ?_)
        have hV50 := DL_up hV32 hM47 (by omega) (by omega)
        have hV51 := KN_up hq30 hM47 (by omega)
        have hk52 := kp_up hM47 (by omega) hk34
        have hk53 := kp_up hM47 (by omega) hk43
        clear hk34 hk35 hk43
        have hF54 := Fr.put hF36 hM47 (by omega)
        refine j_aload_n hX dX7_readDark_45 rfl 0 rfl ?_
        refine j_sipush hX dX7_readDark_46 rfl ?_
        refine j_callVI hX lk_X7_51 (c_X7_take _ _ _ _ _ _ _ _ (by omega) hI48 (by omega) (by assumption) hk52 (by first | assumption | omega)) (by omega) hce rfl rfl (by omega) (by omega) kc_1 rfl rfl (Nat.le_of_ble_eq_true rfl) dX7_readDark_49 (fun z55 M56 hz58 hp57 => ?_)
        obtain ⟨hI59, hG60, hb61, hq62⟩ := hp57
        have hV63 := DL_fr hV50 hG60 (fun b => by omega) (by omega) (by omega)
        have hk65 := kp_fr hG60 (by omega) hk52
        have hk66 := kp_fr hG60 (by omega) hk53
        have hk67 := kp_fr hG60 (by omega) hf49
        clear hk52 hk53 hf49
        have hF68 := Fr.trans hF54 hG60 (fun a b h => by omega)
        refine j_if_eq (tgt := 64) hX dX7_readDark_52 (by decide) (by omega) (fun hc69 => ?_) (fun hc69 => ?_)
        · skip
          refine j_iconst hX dX7_readDark_64 ?_
          exact hret _ _ _ _ dX7_readDark_65 (nb (by omega)) (by omega) ⟨hI59, hF68, by omega, by first | assumption | omega, by first | (intro _; assumption) | (intro h; exact absurd h (by decide)) | (intro _ h; omega)⟩
        · skip
          refine j_aload_n hX dX7_readDark_55 rfl 0 rfl ?_
          refine j_bipush hX dX7_readDark_56 rfl ?_
          refine j_callVI hX lk_X7_120 (c_X7_takeNumber _ _ _ _ _ _ _ _ (by omega) hI59 (by omega) (by assumption) hk65 (by first | assumption | omega)) (by omega) hce rfl rfl (by omega) (by omega) kc_1 rfl rfl (Nat.le_of_ble_eq_true rfl) dX7_readDark_58 (fun z70 M71 hz73 hp72 => ?_)
          obtain ⟨hI74, hG75, hb76, hq77, hq78⟩ := hp72
          have hV79 := DL_fr hV63 hG75 (fun b => by omega) (by omega) (by omega)
          have hk81 := kp_fr hG75 (by omega) hk65
          have hk82 := kp_fr hG75 (by omega) hk67
          clear hk65 hk66 hk67
          have hF83 := Fr.trans hF68 hG75 (fun a b h => by omega)
          refine j_if_ne (tgt := 66) hX dX7_readDark_61 (by decide) (by omega) (fun hc84 => ?_) (fun hc84 => ?_)
          · skip
            have hi85 := hq78 (by omega)
            clear hq78
            refine j_aload_n hX dX7_readDark_66 rfl 0 rfl ?_
            refine gf_X7_21 hX (by omega) (by omega) kc_1 hk81 (by omega) dX7_readDark_67 ?_
            refine j_aload_n hX dX7_readDark_70 rfl 0 rfl ?_
            refine gf_X7_32 hX (by omega) (by omega) kc_1 dX7_readDark_71 ?_
            refine j_name hI74 ro_1_4 (fun v86 hv87 hl88 hh89 => ?_)
            have hk90 := hv87.symm
            refine pf_X7_170 hX (by omega) (by omega) (kq hq) (by omega) dX7_readDark_74 ?_
            refine j_up hI74 (rq_15 hq) (by omega) (by omega) (Or.inl (by omega)) (fun M91 w92 hw93 hM94 hI95 hf96 => ?_)
            have hV97 := DL_up hV79 hM94 (by omega) (by omega)
            have hV98 := KN_up hq77 hM94 (by omega)
            have hk99 := kp_up hM94 (by omega) hk81
            have hk100 := kp_up hM94 (fun h => absurd h.2 (by decide)) hk82
            have hk101 := kp_up hM94 (by omega) hk90
            clear hk81 hk82 hk90
            have hF102 := Fr.put hF83 hM94 (by omega)
            refine j_iconst hX dX7_readDark_77 ?_
            exact hret _ _ _ _ dX7_readDark_78 (nb (by omega)) (by omega) ⟨hI95, hF102, by omega, by first | assumption | omega, by first | (intro _; assumption) | (intro h; exact absurd h (by decide)) | (intro _ h; omega)⟩
          · skip
            clear hq78
            refine j_iconst hX dX7_readDark_64 ?_
            exact hret _ _ _ _ dX7_readDark_65 (nb (by omega)) (by omega) ⟨hI74, hF83, by omega, by first | assumption | omega, by first | (intro _; assumption) | (intro h; exact absurd h (by decide)) | (intro _ h; omega)⟩
      · skip
        clear hq31
        refine j_iconst hX dX7_readDark_32 ?_
        exact hret _ _ _ _ dX7_readDark_33 (nb (by omega)) (by omega) ⟨hI27, hF36, by omega, by first | assumption | omega, by first | (intro _; assumption) | (intro h; exact absurd h (by decide)) | (intro _ h; omega)⟩
  · skip
    refine j_iconst hX dX7_readDark_12 ?_
    refine j_goto (tgt := 17) hX dX7_readDark_13 (by decide) ?_
    refine j_callVI hX lk_X7_82 (c_X7_mayStart _ _ _ _ _ _ _ _ (by omega) hI (by omega) (by assumption) hto (by first | assumption | omega) (by first | assumption | omega)) (by omega) hce rfl rfl (by omega) (by omega) kc_1 rfl rfl (Nat.le_of_ble_eq_true rfl) dX7_readDark_17 (fun z103 M104 hz106 hp105 => ?_)
    obtain ⟨hI107, hG108, hb109, hq110, hq111⟩ := hp105
    have hV113 := DL_fr hDL hG108 (fun b => by omega) (by omega) (by omega)
    have hk114 := kp_fr hG108 (by omega) hto
    have hk115 := kp_fr hG108 (by omega) hk5
    clear hk5
    have hF116 := Fr.trans hF hG108 (fun a b h => by omega)
    refine j_if_eq (tgt := 32) hX dX7_readDark_20 (by decide) (by omega) (fun hc117 => ?_) (fun hc117 => ?_)
    · skip
      clear hq111
      refine j_iconst hX dX7_readDark_32 ?_
      exact hret _ _ _ _ dX7_readDark_33 (nb (by omega)) (by omega) ⟨hI107, hF116, by omega, by first | assumption | omega, by first | (intro _; assumption) | (intro h; exact absurd h (by decide)) | (intro _ h; omega)⟩
    · skip
      have hi118 := hq111 (by omega)
      clear hq111
      refine j_aload_n hX dX7_readDark_23 rfl 0 rfl ?_
      refine j_bipush hX dX7_readDark_24 rfl ?_
      refine j_callVI hX lk_X7_120 (c_X7_takeNumber _ _ _ _ _ _ _ _ (by omega) hI107 (by omega) (by assumption) hk114 (by first | assumption | omega)) (by omega) hce rfl rfl (by omega) (by omega) kc_1 rfl rfl (Nat.le_of_ble_eq_true rfl) dX7_readDark_26 (fun z119 M120 hz122 hp121 => ?_)
      obtain ⟨hI123, hG124, hb125, hq126, hq127⟩ := hp121
      have hV128 := DL_fr hV113 hG124 (fun b => by omega) (by omega) (by omega)
      have hk130 := kp_fr hG124 (by omega) hk114
      have hk131 := kp_fr hG124 (by omega) hk115
      clear hk114 hk115
      have hF132 := Fr.trans hF116 hG124 (fun a b h => by omega)
      refine j_if_ne (tgt := 34) hX dX7_readDark_29 (by decide) (by omega) (fun hc133 => ?_) (fun hc133 => ?_)
      · skip
        have hi134 := hq127 (by omega)
        clear hq127
        refine j_aload_n hX dX7_readDark_34 rfl 0 rfl ?_
        refine gf_X7_21 hX (by omega) (by omega) kc_1 hk130 (by omega) dX7_readDark_35 ?_
        refine j_aload_n hX dX7_readDark_38 rfl 0 rfl ?_
        refine gf_X7_32 hX (by omega) (by omega) kc_1 dX7_readDark_39 ?_
        refine j_name hI123 ro_1_4 (fun v135 hv136 hl137 hh138 => ?_)
        have hk139 := hv136.symm
        refine pf_X7_167 hX (by omega) (by omega) (kq hq) (by omega) dX7_readDark_42 ?_
        refine j_up hI123 (rq_14 hq) (by omega) (by omega) (Or.inl (by omega)) (fun M140 w141 hw142 hM143 hI144 hf145 => ?_)
        have hV146 := DL_up hV128 hM143 (by omega) (by omega)
        have hV147 := KN_up hq126 hM143 (by omega)
        have hk148 := kp_up hM143 (by omega) hk130
        have hk149 := kp_up hM143 (by omega) hk139
        clear hk130 hk131 hk139
        have hF150 := Fr.put hF132 hM143 (by omega)
        refine j_aload_n hX dX7_readDark_45 rfl 0 rfl ?_
        refine j_sipush hX dX7_readDark_46 rfl ?_
        refine j_callVI hX lk_X7_51 (c_X7_take _ _ _ _ _ _ _ _ (by omega) hI144 (by omega) (by assumption) hk148 (by first | assumption | omega)) (by omega) hce rfl rfl (by omega) (by omega) kc_1 rfl rfl (Nat.le_of_ble_eq_true rfl) dX7_readDark_49 (fun z151 M152 hz154 hp153 => ?_)
        obtain ⟨hI155, hG156, hb157, hq158⟩ := hp153
        have hV159 := DL_fr hV146 hG156 (fun b => by omega) (by omega) (by omega)
        have hk161 := kp_fr hG156 (by omega) hk148
        have hk162 := kp_fr hG156 (by omega) hk149
        have hk163 := kp_fr hG156 (by omega) hf145
        clear hk148 hk149 hf145
        have hF164 := Fr.trans hF150 hG156 (fun a b h => by omega)
        refine j_if_eq (tgt := 64) hX dX7_readDark_52 (by decide) (by omega) (fun hc165 => ?_) (fun hc165 => ?_)
        · skip
          refine j_iconst hX dX7_readDark_64 ?_
          exact hret _ _ _ _ dX7_readDark_65 (nb (by omega)) (by omega) ⟨hI155, hF164, by omega, by first | assumption | omega, by first | (intro _; assumption) | (intro h; exact absurd h (by decide)) | (intro _ h; omega)⟩
        · skip
          refine j_aload_n hX dX7_readDark_55 rfl 0 rfl ?_
          refine j_bipush hX dX7_readDark_56 rfl ?_
          refine j_callVI hX lk_X7_120 (c_X7_takeNumber _ _ _ _ _ _ _ _ (by omega) hI155 (by omega) (by assumption) hk161 (by first | assumption | omega)) (by omega) hce rfl rfl (by omega) (by omega) kc_1 rfl rfl (Nat.le_of_ble_eq_true rfl) dX7_readDark_58 (fun z166 M167 hz169 hp168 => ?_)
          obtain ⟨hI170, hG171, hb172, hq173, hq174⟩ := hp168
          have hV175 := DL_fr hV159 hG171 (fun b => by omega) (by omega) (by omega)
          have hk177 := kp_fr hG171 (by omega) hk161
          have hk178 := kp_fr hG171 (by omega) hk163
          clear hk161 hk162 hk163
          have hF179 := Fr.trans hF164 hG171 (fun a b h => by omega)
          refine j_if_ne (tgt := 66) hX dX7_readDark_61 (by decide) (by omega) (fun hc180 => ?_) (fun hc180 => ?_)
          · skip
            have hi181 := hq174 (by omega)
            clear hq174
            refine j_aload_n hX dX7_readDark_66 rfl 0 rfl ?_
            refine gf_X7_21 hX (by omega) (by omega) kc_1 hk177 (by omega) dX7_readDark_67 ?_
            refine j_aload_n hX dX7_readDark_70 rfl 0 rfl ?_
            refine gf_X7_32 hX (by omega) (by omega) kc_1 dX7_readDark_71 ?_
            refine j_name hI170 ro_1_4 (fun v182 hv183 hl184 hh185 => ?_)
            have hk186 := hv183.symm
            refine pf_X7_170 hX (by omega) (by omega) (kq hq) (by omega) dX7_readDark_74 ?_
            refine j_up hI170 (rq_15 hq) (by omega) (by omega) (Or.inl (by omega)) (fun M187 w188 hw189 hM190 hI191 hf192 => ?_)
            have hV193 := DL_up hV175 hM190 (by omega) (by omega)
            have hV194 := KN_up hq173 hM190 (by omega)
            have hk195 := kp_up hM190 (by omega) hk177
            have hk196 := kp_up hM190 (fun h => absurd h.2 (by decide)) hk178
            have hk197 := kp_up hM190 (by omega) hk186
            clear hk177 hk178 hk186
            have hF198 := Fr.put hF179 hM190 (by omega)
            refine j_iconst hX dX7_readDark_77 ?_
            exact hret _ _ _ _ dX7_readDark_78 (nb (by omega)) (by omega) ⟨hI191, hF198, by omega, by first | assumption | omega, by first | (intro _; assumption) | (intro h; exact absurd h (by decide)) | (intro _ h; omega)⟩
          · skip
            clear hq174
            refine j_iconst hX dX7_readDark_64 ?_
            exact hret _ _ _ _ dX7_readDark_65 (nb (by omega)) (by omega) ⟨hI170, hF179, by omega, by first | assumption | omega, by first | (intro _; assumption) | (intro h; exact absurd h (by decide)) | (intro _ h; omega)⟩
      · skip
        clear hq127
        refine j_iconst hX dX7_readDark_32 ?_
        exact hret _ _ _ _ dX7_readDark_33 (nb (by omega)) (by omega) ⟨hI123, hF132, by omega, by first | assumption | omega, by first | (intro _; assumption) | (intro h; exact absurd h (by decide)) | (intro _ h; omega)⟩
set_option maxHeartbeats 2000000 in
set_option maxRecDepth 20000 in
theorem c_X7_readDraw (l : Launch) (D : va_G) (cy : Nat → ClassId) (B N : Nat) (q : Int) (M : MM) (hN : 210 ≤ N) (hI : Iv M) (hq : q = 5 ∨ q = 180) (hto : M.1 1 1 = q) (hDL : DL q M) (hkn : KNo M) : CI l D cy B N 11 yX7_readDraw cX7_readDraw 1 (some .boolean) [rv B 1] M (fun z M' => Iv M' ∧ Fr (fun a b => (a = 1 ∧ 2 ≤ b ∧ b ≤ 4) ∨ (a = 2 ∧ 3 ≤ b ∧ b ≤ 6) ∨ (q ≤ a ∧ a ≤ q + 20)) M M' ∧ (0 ≤ z ∧ z ≤ 1) ∧ (KNo M') ∧ (z = 1 → DL q M')) := by
  refine mk_CI (by decide) (Nat.le_of_ble_eq_true rfl) ?_
  intro X exl exD excy hnL hX hret
  have hce : 0 + 0 ≤ (xR X).cells ∧ 0 + 0 ≤ (xR X).slots := ⟨Nat.zero_le _, Nat.zero_le _⟩
  have hdq : 5 ≤ q ∧ q ≤ 180 := by omega
  have hF : Fr (fun a b => (a = 1 ∧ 2 ≤ b ∧ b ≤ 4) ∨ (a = 2 ∧ 3 ≤ b ∧ b ≤ 6) ∨ (q ≤ a ∧ a ≤ q + 20)) M M := Fr.rf
  show J X B N 0 0 0 [(0, rv B 1)] [] M
  refine j_aload_n hX dX7_readDraw_0 rfl 0 rfl ?_
  refine j_aload_n hX dX7_readDraw_1 rfl 0 rfl ?_
  refine gf_X7_21 hX (by omega) (by omega) kc_1 hto (by omega) dX7_readDraw_2 ?_
  refine gf_X7_173 hX (by omega) (by omega) (kq hq) dX7_readDraw_5 ?_
  refine j_name hI (rq_16 hq) (fun v1 hv2 hl3 hh4 => ?_)
  have hk5 := hv2.symm
  refine j_iconst hX dX7_readDraw_8 ?_
  refine j_icmp_ne (tgt := 16) hX dX7_readDraw_9 (by decide) (by omega) (by omega) (fun hc6 => ?_) (fun hc6 => ?_)
  · skip
    refine j_iconst hX dX7_readDraw_16 ?_
    refine j_callVI hX lk_X7_82 (c_X7_mayStart _ _ _ _ _ _ _ _ (by omega) hI (by omega) (by assumption) hto (by first | assumption | omega) (by first | assumption | omega)) (by omega) hce rfl rfl (by omega) (by omega) kc_1 rfl rfl (Nat.le_of_ble_eq_true rfl) dX7_readDraw_17 (fun z7 M8 hz10 hp9 => ?_)
    obtain ⟨hI11, hG12, hb13, hq14, hq15⟩ := hp9
    have hV17 := DL_fr hDL hG12 (fun b => by omega) (by omega) (by omega)
    have hk18 := kp_fr hG12 (by omega) hto
    have hk19 := kp_fr hG12 (by omega) hk5
    clear hk5
    have hF20 := Fr.trans hF hG12 (fun a b h => by omega)
    refine j_if_eq (tgt := 33) hX dX7_readDraw_20 (by decide) (by omega) (fun hc21 => ?_) (fun hc21 => ?_)
    · skip
      clear hq15
      refine j_iconst hX dX7_readDraw_33 ?_
      exact hret _ _ _ _ dX7_readDraw_34 (nb (by omega)) (by omega) ⟨hI11, hF20, by omega, by first | assumption | omega, by first | (intro _; assumption) | (intro h; exact absurd h (by decide)) | (intro _ h; omega)⟩
    · skip
      have hi22 := hq15 (by omega)
      clear hq15
      refine j_aload_n hX dX7_readDraw_23 rfl 0 rfl ?_
      refine j_sipush hX dX7_readDraw_24 rfl ?_
      refine j_callVI hX lk_X7_120 (c_X7_takeNumber _ _ _ _ _ _ _ _ (by omega) hI11 (by omega) (by assumption) hk18 (by first | assumption | omega)) (by omega) hce rfl rfl (by omega) (by omega) kc_1 rfl rfl (Nat.le_of_ble_eq_true rfl) dX7_readDraw_27 (fun z23 M24 hz26 hp25 => ?_)
      obtain ⟨hI27, hG28, hb29, hq30, hq31⟩ := hp25
      have hV32 := DL_fr hV17 hG28 (fun b => by omega) (by omega) (by omega)
      have hk34 := kp_fr hG28 (by omega) hk18
      have hk35 := kp_fr hG28 (by omega) hk19
      clear hk18 hk19
      have hF36 := Fr.trans hF20 hG28 (fun a b h => by omega)
      refine j_if_ne (tgt := 35) hX dX7_readDraw_30 (by decide) (by omega) (fun hc37 => ?_) (fun hc37 => ?_)
      · skip
        have hi38 := hq31 (by omega)
        clear hq31
        refine j_aload_n hX dX7_readDraw_35 rfl 0 rfl ?_
        refine gf_X7_21 hX (by omega) (by omega) kc_1 hk34 (by omega) dX7_readDraw_36 ?_
        refine j_aload_n hX dX7_readDraw_39 rfl 0 rfl ?_
        refine gf_X7_32 hX (by omega) (by omega) kc_1 dX7_readDraw_40 ?_
        refine j_name hI27 ro_1_4 (fun v39 hv40 hl41 hh42 => ?_)
        have hk43 := hv40.symm
        refine pf_X7_173 hX (by omega) (by omega) (kq hq) (by omega) dX7_readDraw_43 ?_
        refine j_up hI27 (rq_16 hq) (by omega) (by omega) (Or.inl (by omega)) (fun M44 w45 hw46 hM47 hI48 hf49 => ?_)
        have hV50 := DL_up hV32 hM47 (by omega) (by omega)
        have hV51 := KN_up hq30 hM47 (by omega)
        have hk52 := kp_up hM47 (by omega) hk34
        have hk53 := kp_up hM47 (by omega) hk43
        clear hk34 hk35 hk43
        have hF54 := Fr.put hF36 hM47 (by omega)
        refine j_iconst hX dX7_readDraw_46 ?_
        exact hret _ _ _ _ dX7_readDraw_47 (nb (by omega)) (by omega) ⟨hI48, hF54, by omega, by first | assumption | omega, by first | (intro _; assumption) | (intro h; exact absurd h (by decide)) | (intro _ h; omega)⟩
      · skip
        clear hq31
        refine j_iconst hX dX7_readDraw_33 ?_
        exact hret _ _ _ _ dX7_readDraw_34 (nb (by omega)) (by omega) ⟨hI27, hF36, by omega, by first | assumption | omega, by first | (intro _; assumption) | (intro h; exact absurd h (by decide)) | (intro _ h; omega)⟩
  · skip
    refine j_iconst hX dX7_readDraw_12 ?_
    refine j_goto (tgt := 17) hX dX7_readDraw_13 (by decide) ?_
    refine j_callVI hX lk_X7_82 (c_X7_mayStart _ _ _ _ _ _ _ _ (by omega) hI (by omega) (by assumption) hto (by first | assumption | omega) (by first | assumption | omega)) (by omega) hce rfl rfl (by omega) (by omega) kc_1 rfl rfl (Nat.le_of_ble_eq_true rfl) dX7_readDraw_17 (fun z55 M56 hz58 hp57 => ?_)
    obtain ⟨hI59, hG60, hb61, hq62, hq63⟩ := hp57
    have hV65 := DL_fr hDL hG60 (fun b => by omega) (by omega) (by omega)
    have hk66 := kp_fr hG60 (by omega) hto
    have hk67 := kp_fr hG60 (by omega) hk5
    clear hk5
    have hF68 := Fr.trans hF hG60 (fun a b h => by omega)
    refine j_if_eq (tgt := 33) hX dX7_readDraw_20 (by decide) (by omega) (fun hc69 => ?_) (fun hc69 => ?_)
    · skip
      clear hq63
      refine j_iconst hX dX7_readDraw_33 ?_
      exact hret _ _ _ _ dX7_readDraw_34 (nb (by omega)) (by omega) ⟨hI59, hF68, by omega, by first | assumption | omega, by first | (intro _; assumption) | (intro h; exact absurd h (by decide)) | (intro _ h; omega)⟩
    · skip
      have hi70 := hq63 (by omega)
      clear hq63
      refine j_aload_n hX dX7_readDraw_23 rfl 0 rfl ?_
      refine j_sipush hX dX7_readDraw_24 rfl ?_
      refine j_callVI hX lk_X7_120 (c_X7_takeNumber _ _ _ _ _ _ _ _ (by omega) hI59 (by omega) (by assumption) hk66 (by first | assumption | omega)) (by omega) hce rfl rfl (by omega) (by omega) kc_1 rfl rfl (Nat.le_of_ble_eq_true rfl) dX7_readDraw_27 (fun z71 M72 hz74 hp73 => ?_)
      obtain ⟨hI75, hG76, hb77, hq78, hq79⟩ := hp73
      have hV80 := DL_fr hV65 hG76 (fun b => by omega) (by omega) (by omega)
      have hk82 := kp_fr hG76 (by omega) hk66
      have hk83 := kp_fr hG76 (by omega) hk67
      clear hk66 hk67
      have hF84 := Fr.trans hF68 hG76 (fun a b h => by omega)
      refine j_if_ne (tgt := 35) hX dX7_readDraw_30 (by decide) (by omega) (fun hc85 => ?_) (fun hc85 => ?_)
      · skip
        have hi86 := hq79 (by omega)
        clear hq79
        refine j_aload_n hX dX7_readDraw_35 rfl 0 rfl ?_
        refine gf_X7_21 hX (by omega) (by omega) kc_1 hk82 (by omega) dX7_readDraw_36 ?_
        refine j_aload_n hX dX7_readDraw_39 rfl 0 rfl ?_
        refine gf_X7_32 hX (by omega) (by omega) kc_1 dX7_readDraw_40 ?_
        refine j_name hI75 ro_1_4 (fun v87 hv88 hl89 hh90 => ?_)
        have hk91 := hv88.symm
        refine pf_X7_173 hX (by omega) (by omega) (kq hq) (by omega) dX7_readDraw_43 ?_
        refine j_up hI75 (rq_16 hq) (by omega) (by omega) (Or.inl (by omega)) (fun M92 w93 hw94 hM95 hI96 hf97 => ?_)
        have hV98 := DL_up hV80 hM95 (by omega) (by omega)
        have hV99 := KN_up hq78 hM95 (by omega)
        have hk100 := kp_up hM95 (by omega) hk82
        have hk101 := kp_up hM95 (by omega) hk91
        clear hk82 hk83 hk91
        have hF102 := Fr.put hF84 hM95 (by omega)
        refine j_iconst hX dX7_readDraw_46 ?_
        exact hret _ _ _ _ dX7_readDraw_47 (nb (by omega)) (by omega) ⟨hI96, hF102, by omega, by first | assumption | omega, by first | (intro _; assumption) | (intro h; exact absurd h (by decide)) | (intro _ h; omega)⟩
      · skip
        clear hq79
        refine j_iconst hX dX7_readDraw_33 ?_
        exact hret _ _ _ _ dX7_readDraw_34 (nb (by omega)) (by omega) ⟨hI75, hF84, by omega, by first | assumption | omega, by first | (intro _; assumption) | (intro h; exact absurd h (by decide)) | (intro _ h; omega)⟩
