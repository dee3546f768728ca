theorem dX11_isLetter_0 : decode cX11_isLetter 0 = .ok (.iload_n 0, 1) := by decide +kernel
theorem dX11_isLetter_1 : decode cX11_isLetter 1 = .ok (.bipush 97, 2) := by decide +kernel
theorem dX11_isLetter_3 : decode cX11_isLetter 3 = .ok (.if_icmp .lt 13, 3) := by decide +kernel
theorem dX11_isLetter_6 : decode cX11_isLetter 6 = .ok (.iload_n 0, 1) := by decide +kernel
theorem dX11_isLetter_7 : decode cX11_isLetter 7 = .ok (.bipush 122, 2) := by decide +kernel
theorem dX11_isLetter_9 : decode cX11_isLetter 9 = .ok (.if_icmp .gt 7, 3) := by decide +kernel
theorem dX11_isLetter_12 : decode cX11_isLetter 12 = .ok (.iconst 1, 1) := by decide +kernel
theorem dX11_isLetter_13 : decode cX11_isLetter 13 = .ok (.goto 4, 3) := by decide +kernel
theorem dX11_isLetter_16 : decode cX11_isLetter 16 = .ok (.iconst 0, 1) := by decide +kernel
theorem dX11_isLetter_17 : decode cX11_isLetter 17 = .ok (.ireturn, 1) := by decide +kernel
theorem dX11_isDigit_0 : decode cX11_isDigit 0 = .ok (.iload_n 0, 1) := by decide +kernel
theorem dX11_isDigit_1 : decode cX11_isDigit 1 = .ok (.bipush 48, 2) := by decide +kernel
theorem dX11_isDigit_3 : decode cX11_isDigit 3 = .ok (.if_icmp .lt 13, 3) := by decide +kernel
theorem dX11_isDigit_6 : decode cX11_isDigit 6 = .ok (.iload_n 0, 1) := by decide +kernel
theorem dX11_isDigit_7 : decode cX11_isDigit 7 = .ok (.bipush 57, 2) := by decide +kernel
theorem dX11_isDigit_9 : decode cX11_isDigit 9 = .ok (.if_icmp .gt 7, 3) := by decide +kernel
theorem dX11_isDigit_12 : decode cX11_isDigit 12 = .ok (.iconst 1, 1) := by decide +kernel
theorem dX11_isDigit_13 : decode cX11_isDigit 13 = .ok (.goto 4, 3) := by decide +kernel
theorem dX11_isDigit_16 : decode cX11_isDigit 16 = .ok (.iconst 0, 1) := by decide +kernel
theorem dX11_isDigit_17 : decode cX11_isDigit 17 = .ok (.ireturn, 1) := by decide +kernel
theorem dX11_isSign_0 : decode cX11_isSign 0 = .ok (.iload_n 0, 1) := by decide +kernel
theorem dX11_isSign_1 : decode cX11_isSign 1 = .ok (.bipush 59, 2) := by decide +kernel
theorem dX11_isSign_3 : decode cX11_isSign 3 = .ok (.if_icmp .eq 63, 3) := by decide +kernel
theorem dX11_isSign_6 : decode cX11_isSign 6 = .ok (.iload_n 0, 1) := by decide +kernel
theorem dX11_isSign_7 : decode cX11_isSign 7 = .ok (.bipush 40, 2) := by decide +kernel
theorem dX11_isSign_9 : decode cX11_isSign 9 = .ok (.if_icmp .eq 57, 3) := by decide +kernel
theorem dX11_isSign_12 : decode cX11_isSign 12 = .ok (.iload_n 0, 1) := by decide +kernel
theorem dX11_isSign_13 : decode cX11_isSign 13 = .ok (.bipush 41, 2) := by decide +kernel
theorem dX11_isSign_15 : decode cX11_isSign 15 = .ok (.if_icmp .eq 51, 3) := by decide +kernel
theorem dX11_isSign_18 : decode cX11_isSign 18 = .ok (.iload_n 0, 1) := by decide +kernel
theorem dX11_isSign_19 : decode cX11_isSign 19 = .ok (.bipush 60, 2) := by decide +kernel
theorem dX11_isSign_21 : decode cX11_isSign 21 = .ok (.if_icmp .eq 45, 3) := by decide +kernel
theorem dX11_isSign_24 : decode cX11_isSign 24 = .ok (.iload_n 0, 1) := by decide +kernel
theorem dX11_isSign_25 : decode cX11_isSign 25 = .ok (.bipush 62, 2) := by decide +kernel
theorem dX11_isSign_27 : decode cX11_isSign 27 = .ok (.if_icmp .eq 39, 3) := by decide +kernel
theorem dX11_isSign_30 : decode cX11_isSign 30 = .ok (.iload_n 0, 1) := by decide +kernel
theorem dX11_isSign_31 : decode cX11_isSign 31 = .ok (.bipush 61, 2) := by decide +kernel
theorem dX11_isSign_33 : decode cX11_isSign 33 = .ok (.if_icmp .eq 33, 3) := by decide +kernel
theorem dX11_isSign_36 : decode cX11_isSign 36 = .ok (.iload_n 0, 1) := by decide +kernel
theorem dX11_isSign_37 : decode cX11_isSign 37 = .ok (.bipush 43, 2) := by decide +kernel
theorem dX11_isSign_39 : decode cX11_isSign 39 = .ok (.if_icmp .eq 27, 3) := by decide +kernel
theorem dX11_isSign_42 : decode cX11_isSign 42 = .ok (.iload_n 0, 1) := by decide +kernel
theorem dX11_isSign_43 : decode cX11_isSign 43 = .ok (.bipush 45, 2) := by decide +kernel
theorem dX11_isSign_45 : decode cX11_isSign 45 = .ok (.if_icmp .eq 21, 3) := by decide +kernel
theorem dX11_isSign_48 : decode cX11_isSign 48 = .ok (.iload_n 0, 1) := by decide +kernel
theorem dX11_isSign_49 : decode cX11_isSign 49 = .ok (.bipush 42, 2) := by decide +kernel
theorem dX11_isSign_51 : decode cX11_isSign 51 = .ok (.if_icmp .eq 15, 3) := by decide +kernel
theorem dX11_isSign_54 : decode cX11_isSign 54 = .ok (.iload_n 0, 1) := by decide +kernel
theorem dX11_isSign_55 : decode cX11_isSign 55 = .ok (.bipush 47, 2) := by decide +kernel
theorem dX11_isSign_57 : decode cX11_isSign 57 = .ok (.if_icmp .eq 9, 3) := by decide +kernel
theorem dX11_isSign_60 : decode cX11_isSign 60 = .ok (.iload_n 0, 1) := by decide +kernel
theorem dX11_isSign_61 : decode cX11_isSign 61 = .ok (.bipush 37, 2) := by decide +kernel
theorem dX11_isSign_63 : decode cX11_isSign 63 = .ok (.if_icmp .ne 7, 3) := by decide +kernel
theorem dX11_isSign_66 : decode cX11_isSign 66 = .ok (.iconst 1, 1) := by decide +kernel
theorem dX11_isSign_67 : decode cX11_isSign 67 = .ok (.goto 4, 3) := by decide +kernel
theorem dX11_isSign_70 : decode cX11_isSign 70 = .ok (.iconst 0, 1) := by decide +kernel
theorem dX11_isSign_71 : decode cX11_isSign 71 = .ok (.ireturn, 1) := by decide +kernel
theorem dX11_isKept_0 : decode cX11_isKept 0 = .ok (.lload_n 0, 1) := by decide +kernel
theorem dX11_isKept_1 : decode cX11_isKept 1 = .ok (.ldc2_w 167, 3) := by decide +kernel
theorem dX11_isKept_4 : decode cX11_isKept 4 = .ok (.lcmp, 1) := by decide +kernel
theorem dX11_isKept_5 : decode cX11_isKept 5 = .ok (.ifCond .eq 83, 3) := by decide +kernel
theorem dX11_isKept_8 : decode cX11_isKept 8 = .ok (.lload_n 0, 1) := by decide +kernel
theorem dX11_isKept_9 : decode cX11_isKept 9 = .ok (.ldc2_w 169, 3) := by decide +kernel
theorem dX11_isKept_12 : decode cX11_isKept 12 = .ok (.lcmp, 1) := by decide +kernel
theorem dX11_isKept_13 : decode cX11_isKept 13 = .ok (.ifCond .eq 75, 3) := by decide +kernel
theorem dX11_isKept_16 : decode cX11_isKept 16 = .ok (.lload_n 0, 1) := by decide +kernel
theorem dX11_isKept_17 : decode cX11_isKept 17 = .ok (.ldc2_w 171, 3) := by decide +kernel
theorem dX11_isKept_20 : decode cX11_isKept 20 = .ok (.lcmp, 1) := by decide +kernel
theorem dX11_isKept_21 : decode cX11_isKept 21 = .ok (.ifCond .eq 67, 3) := by decide +kernel
theorem dX11_isKept_24 : decode cX11_isKept 24 = .ok (.lload_n 0, 1) := by decide +kernel
theorem dX11_isKept_25 : decode cX11_isKept 25 = .ok (.ldc2_w 173, 3) := by decide +kernel
theorem dX11_isKept_28 : decode cX11_isKept 28 = .ok (.lcmp, 1) := by decide +kernel
theorem dX11_isKept_29 : decode cX11_isKept 29 = .ok (.ifCond .eq 59, 3) := by decide +kernel
theorem dX11_isKept_32 : decode cX11_isKept 32 = .ok (.lload_n 0, 1) := by decide +kernel
theorem dX11_isKept_33 : decode cX11_isKept 33 = .ok (.ldc2_w 175, 3) := by decide +kernel
theorem dX11_isKept_36 : decode cX11_isKept 36 = .ok (.lcmp, 1) := by decide +kernel
theorem dX11_isKept_37 : decode cX11_isKept 37 = .ok (.ifCond .eq 51, 3) := by decide +kernel
theorem dX11_isKept_40 : decode cX11_isKept 40 = .ok (.lload_n 0, 1) := by decide +kernel
theorem dX11_isKept_41 : decode cX11_isKept 41 = .ok (.ldc2_w 177, 3) := by decide +kernel
theorem dX11_isKept_44 : decode cX11_isKept 44 = .ok (.lcmp, 1) := by decide +kernel
theorem dX11_isKept_45 : decode cX11_isKept 45 = .ok (.ifCond .eq 43, 3) := by decide +kernel
theorem dX11_isKept_48 : decode cX11_isKept 48 = .ok (.lload_n 0, 1) := by decide +kernel
theorem dX11_isKept_49 : decode cX11_isKept 49 = .ok (.ldc2_w 179, 3) := by decide +kernel
theorem dX11_isKept_52 : decode cX11_isKept 52 = .ok (.lcmp, 1) := by decide +kernel
theorem dX11_isKept_53 : decode cX11_isKept 53 = .ok (.ifCond .eq 35, 3) := by decide +kernel
theorem dX11_isKept_56 : decode cX11_isKept 56 = .ok (.lload_n 0, 1) := by decide +kernel
theorem dX11_isKept_57 : decode cX11_isKept 57 = .ok (.ldc2_w 181, 3) := by decide +kernel
theorem dX11_isKept_60 : decode cX11_isKept 60 = .ok (.lcmp, 1) := by decide +kernel
theorem dX11_isKept_61 : decode cX11_isKept 61 = .ok (.ifCond .eq 27, 3) := by decide +kernel
theorem dX11_isKept_64 : decode cX11_isKept 64 = .ok (.lload_n 0, 1) := by decide +kernel
theorem dX11_isKept_65 : decode cX11_isKept 65 = .ok (.ldc2_w 183, 3) := by decide +kernel
theorem dX11_isKept_68 : decode cX11_isKept 68 = .ok (.lcmp, 1) := by decide +kernel
theorem dX11_isKept_69 : decode cX11_isKept 69 = .ok (.ifCond .eq 19, 3) := by decide +kernel
theorem dX11_isKept_72 : decode cX11_isKept 72 = .ok (.lload_n 0, 1) := by decide +kernel
theorem dX11_isKept_73 : decode cX11_isKept 73 = .ok (.ldc2_w 185, 3) := by decide +kernel
theorem dX11_isKept_76 : decode cX11_isKept 76 = .ok (.lcmp, 1) := by decide +kernel
theorem dX11_isKept_77 : decode cX11_isKept 77 = .ok (.ifCond .eq 11, 3) := by decide +kernel
theorem dX11_isKept_80 : decode cX11_isKept 80 = .ok (.lload_n 0, 1) := by decide +kernel
theorem dX11_isKept_81 : decode cX11_isKept 81 = .ok (.ldc2_w 187, 3) := by decide +kernel
theorem dX11_isKept_84 : decode cX11_isKept 84 = .ok (.lcmp, 1) := by decide +kernel
theorem dX11_isKept_85 : decode cX11_isKept 85 = .ok (.ifCond .ne 7, 3) := by decide +kernel
theorem dX11_isKept_88 : decode cX11_isKept 88 = .ok (.iconst 1, 1) := by decide +kernel
theorem dX11_isKept_89 : decode cX11_isKept 89 = .ok (.goto 4, 3) := by decide +kernel
theorem dX11_isKept_92 : decode cX11_isKept 92 = .ok (.iconst 0, 1) := by decide +kernel
theorem dX11_isKept_93 : decode cX11_isKept 93 = .ok (.istore_n 2, 1) := by decide +kernel
theorem dX11_isKept_94 : decode cX11_isKept 94 = .ok (.iload_n 2, 1) := by decide +kernel
theorem dX11_isKept_95 : decode cX11_isKept 95 = .ok (.ifCond .ne 91, 3) := by decide +kernel
theorem dX11_isKept_98 : decode cX11_isKept 98 = .ok (.lload_n 0, 1) := by decide +kernel
theorem dX11_isKept_99 : decode cX11_isKept 99 = .ok (.ldc2_w 189, 3) := by decide +kernel
theorem dX11_isKept_102 : decode cX11_isKept 102 = .ok (.lcmp, 1) := by decide +kernel
theorem dX11_isKept_103 : decode cX11_isKept 103 = .ok (.ifCond .eq 83, 3) := by decide +kernel
theorem dX11_isKept_106 : decode cX11_isKept 106 = .ok (.lload_n 0, 1) := by decide +kernel
theorem dX11_isKept_107 : decode cX11_isKept 107 = .ok (.ldc2_w 191, 3) := by decide +kernel
theorem dX11_isKept_110 : decode cX11_isKept 110 = .ok (.lcmp, 1) := by decide +kernel
theorem dX11_isKept_111 : decode cX11_isKept 111 = .ok (.ifCond .eq 75, 3) := by decide +kernel
theorem dX11_isKept_114 : decode cX11_isKept 114 = .ok (.lload_n 0, 1) := by decide +kernel
theorem dX11_isKept_115 : decode cX11_isKept 115 = .ok (.ldc2_w 193, 3) := by decide +kernel
theorem dX11_isKept_118 : decode cX11_isKept 118 = .ok (.lcmp, 1) := by decide +kernel
theorem dX11_isKept_119 : decode cX11_isKept 119 = .ok (.ifCond .eq 67, 3) := by decide +kernel
theorem dX11_isKept_122 : decode cX11_isKept 122 = .ok (.lload_n 0, 1) := by decide +kernel
theorem dX11_isKept_123 : decode cX11_isKept 123 = .ok (.ldc2_w 195, 3) := by decide +kernel
theorem dX11_isKept_126 : decode cX11_isKept 126 = .ok (.lcmp, 1) := by decide +kernel
theorem dX11_isKept_127 : decode cX11_isKept 127 = .ok (.ifCond .eq 59, 3) := by decide +kernel
theorem dX11_isKept_130 : decode cX11_isKept 130 = .ok (.lload_n 0, 1) := by decide +kernel
theorem dX11_isKept_131 : decode cX11_isKept 131 = .ok (.ldc2_w 197, 3) := by decide +kernel
theorem dX11_isKept_134 : decode cX11_isKept 134 = .ok (.lcmp, 1) := by decide +kernel
theorem dX11_isKept_135 : decode cX11_isKept 135 = .ok (.ifCond .eq 51, 3) := by decide +kernel
theorem dX11_isKept_138 : decode cX11_isKept 138 = .ok (.lload_n 0, 1) := by decide +kernel
theorem dX11_isKept_139 : decode cX11_isKept 139 = .ok (.ldc2_w 199, 3) := by decide +kernel
theorem dX11_isKept_142 : decode cX11_isKept 142 = .ok (.lcmp, 1) := by decide +kernel
theorem dX11_isKept_143 : decode cX11_isKept 143 = .ok (.ifCond .eq 43, 3) := by decide +kernel
theorem dX11_isKept_146 : decode cX11_isKept 146 = .ok (.lload_n 0, 1) := by decide +kernel
theorem dX11_isKept_147 : decode cX11_isKept 147 = .ok (.ldc2_w 201, 3) := by decide +kernel
theorem dX11_isKept_150 : decode cX11_isKept 150 = .ok (.lcmp, 1) := by decide +kernel
theorem dX11_isKept_151 : decode cX11_isKept 151 = .ok (.ifCond .eq 35, 3) := by decide +kernel
theorem dX11_isKept_154 : decode cX11_isKept 154 = .ok (.lload_n 0, 1) := by decide +kernel
theorem dX11_isKept_155 : decode cX11_isKept 155 = .ok (.ldc2_w 203, 3) := by decide +kernel
theorem dX11_isKept_158 : decode cX11_isKept 158 = .ok (.lcmp, 1) := by decide +kernel
theorem dX11_isKept_159 : decode cX11_isKept 159 = .ok (.ifCond .eq 27, 3) := by decide +kernel
theorem dX11_isKept_162 : decode cX11_isKept 162 = .ok (.lload_n 0, 1) := by decide +kernel
theorem dX11_isKept_163 : decode cX11_isKept 163 = .ok (.ldc2_w 205, 3) := by decide +kernel
theorem dX11_isKept_166 : decode cX11_isKept 166 = .ok (.lcmp, 1) := by decide +kernel
theorem dX11_isKept_167 : decode cX11_isKept 167 = .ok (.ifCond .eq 19, 3) := by decide +kernel
theorem dX11_isKept_170 : decode cX11_isKept 170 = .ok (.lload_n 0, 1) := by decide +kernel
theorem dX11_isKept_171 : decode cX11_isKept 171 = .ok (.ldc2_w 207, 3) := by decide +kernel
theorem dX11_isKept_174 : decode cX11_isKept 174 = .ok (.lcmp, 1) := by decide +kernel
theorem dX11_isKept_175 : decode cX11_isKept 175 = .ok (.ifCond .eq 11, 3) := by decide +kernel
theorem dX11_isKept_178 : decode cX11_isKept 178 = .ok (.lload_n 0, 1) := by decide +kernel
theorem dX11_isKept_179 : decode cX11_isKept 179 = .ok (.ldc2_w 209, 3) := by decide +kernel
theorem dX11_isKept_182 : decode cX11_isKept 182 = .ok (.lcmp, 1) := by decide +kernel
theorem dX11_isKept_183 : decode cX11_isKept 183 = .ok (.ifCond .ne 7, 3) := by decide +kernel
theorem dX11_isKept_186 : decode cX11_isKept 186 = .ok (.iconst 1, 1) := by decide +kernel
theorem dX11_isKept_187 : decode cX11_isKept 187 = .ok (.goto 4, 3) := by decide +kernel
theorem dX11_isKept_190 : decode cX11_isKept 190 = .ok (.iconst 0, 1) := by decide +kernel
theorem dX11_isKept_191 : decode cX11_isKept 191 = .ok (.ireturn, 1) := by decide +kernel
theorem dX11_isIn_0 : decode cX11_isIn 0 = .ok (.iload_n 0, 1) := by decide +kernel
theorem dX11_isIn_1 : decode cX11_isIn 1 = .ok (.iload_n 1, 1) := by decide +kernel
theorem dX11_isIn_2 : decode cX11_isIn 2 = .ok (.if_icmp .lt 12, 3) := by decide +kernel
theorem dX11_isIn_5 : decode cX11_isIn 5 = .ok (.iload_n 0, 1) := by decide +kernel
theorem dX11_isIn_6 : decode cX11_isIn 6 = .ok (.iload_n 2, 1) := by decide +kernel
theorem dX11_isIn_7 : decode cX11_isIn 7 = .ok (.if_icmp .gt 7, 3) := by decide +kernel
theorem dX11_isIn_10 : decode cX11_isIn 10 = .ok (.iconst 1, 1) := by decide +kernel
theorem dX11_isIn_11 : decode cX11_isIn 11 = .ok (.goto 4, 3) := by decide +kernel
theorem dX11_isIn_14 : decode cX11_isIn 14 = .ok (.iconst 0, 1) := by decide +kernel
theorem dX11_isIn_15 : decode cX11_isIn 15 = .ok (.ireturn, 1) := by decide +kernel
theorem dX11_has_0 : decode cX11_has 0 = .ok (.iload_n 0, 1) := by decide +kernel
theorem dX11_has_1 : decode cX11_has 1 = .ok (.iload_n 1, 1) := by decide +kernel
theorem dX11_has_2 : decode cX11_has 2 = .ok (.ishr, 1) := by decide +kernel
theorem dX11_has_3 : decode cX11_has 3 = .ok (.iconst 1, 1) := by decide +kernel
theorem dX11_has_4 : decode cX11_has 4 = .ok (.iand, 1) := by decide +kernel
theorem dX11_has_5 : decode cX11_has 5 = .ok (.iconst 1, 1) := by decide +kernel
theorem dX11_has_6 : decode cX11_has 6 = .ok (.if_icmp .ne 7, 3) := by decide +kernel
theorem dX11_has_9 : decode cX11_has 9 = .ok (.iconst 1, 1) := by decide +kernel
theorem dX11_has_10 : decode cX11_has 10 = .ok (.goto 4, 3) := by decide +kernel
theorem dX11_has_13 : decode cX11_has 13 = .ok (.iconst 0, 1) := by decide +kernel
theorem dX11_has_14 : decode cX11_has 14 = .ok (.ireturn, 1) := by decide +kernel
theorem dX11_bitsOf_0 : decode cX11_bitsOf 0 = .ok (.iconst 0, 1) := by decide +kernel
theorem dX11_bitsOf_1 : decode cX11_bitsOf 1 = .ok (.istore_n 1, 1) := by decide +kernel
theorem dX11_bitsOf_2 : decode cX11_bitsOf 2 = .ok (.iload_n 0, 1) := by decide +kernel
theorem dX11_bitsOf_3 : decode cX11_bitsOf 3 = .ok (.istore_n 2, 1) := by decide +kernel
theorem dX11_bitsOf_4 : decode cX11_bitsOf 4 = .ok (.iload_n 2, 1) := by decide +kernel
theorem dX11_bitsOf_5 : decode cX11_bitsOf 5 = .ok (.ifCond .eq 15, 3) := by decide +kernel
theorem dX11_bitsOf_8 : decode cX11_bitsOf 8 = .ok (.iinc 1 1, 3) := by decide +kernel
theorem dX11_bitsOf_11 : decode cX11_bitsOf 11 = .ok (.iload_n 2, 1) := by decide +kernel
theorem dX11_bitsOf_12 : decode cX11_bitsOf 12 = .ok (.iload_n 2, 1) := by decide +kernel
theorem dX11_bitsOf_13 : decode cX11_bitsOf 13 = .ok (.iconst 1, 1) := by decide +kernel
theorem dX11_bitsOf_14 : decode cX11_bitsOf 14 = .ok (.isub, 1) := by decide +kernel
theorem dX11_bitsOf_15 : decode cX11_bitsOf 15 = .ok (.iand, 1) := by decide +kernel
theorem dX11_bitsOf_16 : decode cX11_bitsOf 16 = .ok (.istore_n 2, 1) := by decide +kernel
theorem dX11_bitsOf_17 : decode cX11_bitsOf 17 = .ok (.goto (-13), 3) := by decide +kernel
theorem dX11_bitsOf_20 : decode cX11_bitsOf 20 = .ok (.iload_n 1, 1) := by decide +kernel
theorem dX11_bitsOf_21 : decode cX11_bitsOf 21 = .ok (.ireturn, 1) := by decide +kernel
theorem dX11_divisor_0 : decode cX11_divisor 0 = .ok (.iload_n 0, 1) := by decide +kernel
theorem dX11_divisor_1 : decode cX11_divisor 1 = .ok (.istore_n 2, 1) := by decide +kernel
theorem dX11_divisor_2 : decode cX11_divisor 2 = .ok (.iload_n 1, 1) := by decide +kernel
theorem dX11_divisor_3 : decode cX11_divisor 3 = .ok (.istore_n 3, 1) := by decide +kernel
theorem dX11_divisor_4 : decode cX11_divisor 4 = .ok (.iload_n 3, 1) := by decide +kernel
theorem dX11_divisor_5 : decode cX11_divisor 5 = .ok (.ifCond .le 16, 3) := by decide +kernel
theorem dX11_divisor_8 : decode cX11_divisor 8 = .ok (.iload_n 2, 1) := by decide +kernel
theorem dX11_divisor_9 : decode cX11_divisor 9 = .ok (.iload_n 3, 1) := by decide +kernel
theorem dX11_divisor_10 : decode cX11_divisor 10 = .ok (.irem, 1) := by decide +kernel
theorem dX11_divisor_11 : decode cX11_divisor 11 = .ok (.istore 4, 2) := by decide +kernel
theorem dX11_divisor_13 : decode cX11_divisor 13 = .ok (.iload_n 3, 1) := by decide +kernel
theorem dX11_divisor_14 : decode cX11_divisor 14 = .ok (.istore_n 2, 1) := by decide +kernel
theorem dX11_divisor_15 : decode cX11_divisor 15 = .ok (.iload 4, 2) := by decide +kernel
theorem dX11_divisor_17 : decode cX11_divisor 17 = .ok (.istore_n 3, 1) := by decide +kernel
theorem dX11_divisor_18 : decode cX11_divisor 18 = .ok (.goto (-14), 3) := by decide +kernel
theorem dX11_divisor_21 : decode cX11_divisor 21 = .ok (.iload_n 2, 1) := by decide +kernel
theorem dX11_divisor_22 : decode cX11_divisor 22 = .ok (.ireturn, 1) := by decide +kernel
theorem dX11_two_0 : decode cX11_two 0 = .ok (.iload_n 0, 1) := by decide +kernel
theorem dX11_two_1 : decode cX11_two 1 = .ok (.tableswitch 202 37 62 #[143, 188, 202, 202, 202, 127, 119, 202, 123, 202, 131, 202, 202, 202, 202, 202, 202, 202, 202, 202, 202, 202, 202, 155, 177, 166], 119) := by decide +kernel
theorem dX11_two_120 : decode cX11_two 120 = .ok (.iload_n 1, 1) := by decide +kernel
theorem dX11_two_121 : decode cX11_two 121 = .ok (.iload_n 2, 1) := by decide +kernel
theorem dX11_two_122 : decode cX11_two 122 = .ok (.iadd, 1) := by decide +kernel
theorem dX11_two_123 : decode cX11_two 123 = .ok (.ireturn, 1) := by decide +kernel
theorem dX11_two_124 : decode cX11_two 124 = .ok (.iload_n 1, 1) := by decide +kernel
theorem dX11_two_125 : decode cX11_two 125 = .ok (.iload_n 2, 1) := by decide +kernel
theorem dX11_two_126 : decode cX11_two 126 = .ok (.isub, 1) := by decide +kernel
theorem dX11_two_127 : decode cX11_two 127 = .ok (.ireturn, 1) := by decide +kernel
theorem dX11_two_128 : decode cX11_two 128 = .ok (.iload_n 1, 1) := by decide +kernel
theorem dX11_two_129 : decode cX11_two 129 = .ok (.iload_n 2, 1) := by decide +kernel
theorem dX11_two_130 : decode cX11_two 130 = .ok (.imul, 1) := by decide +kernel
theorem dX11_two_131 : decode cX11_two 131 = .ok (.ireturn, 1) := by decide +kernel
theorem dX11_two_132 : decode cX11_two 132 = .ok (.iload_n 2, 1) := by decide +kernel
theorem dX11_two_133 : decode cX11_two 133 = .ok (.ifCond .ne 7, 3) := by decide +kernel
theorem dX11_two_136 : decode cX11_two 136 = .ok (.iconst 0, 1) := by decide +kernel
theorem dX11_two_137 : decode cX11_two 137 = .ok (.goto 6, 3) := by decide +kernel
theorem dX11_two_140 : decode cX11_two 140 = .ok (.iload_n 1, 1) := by decide +kernel
theorem dX11_two_141 : decode cX11_two 141 = .ok (.iload_n 2, 1) := by decide +kernel
theorem dX11_two_142 : decode cX11_two 142 = .ok (.idiv, 1) := by decide +kernel
theorem dX11_two_143 : decode cX11_two 143 = .ok (.ireturn, 1) := by decide +kernel
theorem dX11_two_144 : decode cX11_two 144 = .ok (.iload_n 2, 1) := by decide +kernel
theorem dX11_two_145 : decode cX11_two 145 = .ok (.ifCond .ne 7, 3) := by decide +kernel
theorem dX11_two_148 : decode cX11_two 148 = .ok (.iconst 0, 1) := by decide +kernel
theorem dX11_two_149 : decode cX11_two 149 = .ok (.goto 6, 3) := by decide +kernel
theorem dX11_two_152 : decode cX11_two 152 = .ok (.iload_n 1, 1) := by decide +kernel
theorem dX11_two_153 : decode cX11_two 153 = .ok (.iload_n 2, 1) := by decide +kernel
theorem dX11_two_154 : decode cX11_two 154 = .ok (.irem, 1) := by decide +kernel
theorem dX11_two_155 : decode cX11_two 155 = .ok (.ireturn, 1) := by decide +kernel
theorem dX11_two_156 : decode cX11_two 156 = .ok (.iload_n 1, 1) := by decide +kernel
theorem dX11_two_157 : decode cX11_two 157 = .ok (.iload_n 2, 1) := by decide +kernel
theorem dX11_two_158 : decode cX11_two 158 = .ok (.if_icmp .ge 7, 3) := by decide +kernel
theorem dX11_two_161 : decode cX11_two 161 = .ok (.iconst 1, 1) := by decide +kernel
theorem dX11_two_162 : decode cX11_two 162 = .ok (.goto 4, 3) := by decide +kernel
theorem dX11_two_165 : decode cX11_two 165 = .ok (.iconst 0, 1) := by decide +kernel
theorem dX11_two_166 : decode cX11_two 166 = .ok (.ireturn, 1) := by decide +kernel
theorem dX11_two_167 : decode cX11_two 167 = .ok (.iload_n 1, 1) := by decide +kernel
theorem dX11_two_168 : decode cX11_two 168 = .ok (.iload_n 2, 1) := by decide +kernel
theorem dX11_two_169 : decode cX11_two 169 = .ok (.if_icmp .le 7, 3) := by decide +kernel
theorem dX11_two_172 : decode cX11_two 172 = .ok (.iconst 1, 1) := by decide +kernel
theorem dX11_two_173 : decode cX11_two 173 = .ok (.goto 4, 3) := by decide +kernel
theorem dX11_two_176 : decode cX11_two 176 = .ok (.iconst 0, 1) := by decide +kernel
theorem dX11_two_177 : decode cX11_two 177 = .ok (.ireturn, 1) := by decide +kernel
theorem dX11_two_178 : decode cX11_two 178 = .ok (.iload_n 1, 1) := by decide +kernel
theorem dX11_two_179 : decode cX11_two 179 = .ok (.iload_n 2, 1) := by decide +kernel
theorem dX11_two_180 : decode cX11_two 180 = .ok (.if_icmp .ne 7, 3) := by decide +kernel
theorem dX11_two_183 : decode cX11_two 183 = .ok (.iconst 1, 1) := by decide +kernel
theorem dX11_two_184 : decode cX11_two 184 = .ok (.goto 4, 3) := by decide +kernel
theorem dX11_two_187 : decode cX11_two 187 = .ok (.iconst 0, 1) := by decide +kernel
theorem dX11_two_188 : decode cX11_two 188 = .ok (.ireturn, 1) := by decide +kernel
theorem dX11_two_189 : decode cX11_two 189 = .ok (.iload_n 1, 1) := by decide +kernel
theorem dX11_two_190 : decode cX11_two 190 = .ok (.ifCond .eq 11, 3) := by decide +kernel
theorem dX11_two_193 : decode cX11_two 193 = .ok (.iload_n 2, 1) := by decide +kernel
theorem dX11_two_194 : decode cX11_two 194 = .ok (.ifCond .eq 7, 3) := by decide +kernel
theorem dX11_two_197 : decode cX11_two 197 = .ok (.iconst 1, 1) := by decide +kernel
theorem dX11_two_198 : decode cX11_two 198 = .ok (.goto 4, 3) := by decide +kernel
theorem dX11_two_201 : decode cX11_two 201 = .ok (.iconst 0, 1) := by decide +kernel
theorem dX11_two_202 : decode cX11_two 202 = .ok (.ireturn, 1) := by decide +kernel
theorem dX11_two_203 : decode cX11_two 203 = .ok (.iload_n 1, 1) := by decide +kernel
theorem dX11_two_204 : decode cX11_two 204 = .ok (.ifCond .ne 7, 3) := by decide +kernel
theorem dX11_two_207 : decode cX11_two 207 = .ok (.iload_n 2, 1) := by decide +kernel
theorem dX11_two_208 : decode cX11_two 208 = .ok (.ifCond .eq 7, 3) := by decide +kernel
theorem dX11_two_211 : decode cX11_two 211 = .ok (.iconst 1, 1) := by decide +kernel
theorem dX11_two_212 : decode cX11_two 212 = .ok (.goto 4, 3) := by decide +kernel
theorem dX11_two_215 : decode cX11_two 215 = .ok (.iconst 0, 1) := by decide +kernel
theorem dX11_two_216 : decode cX11_two 216 = .ok (.ireturn, 1) := by decide +kernel
theorem dX11_sign_0 : decode cX11_sign 0 = .ok (.iload_n 1, 1) := by decide +kernel
theorem dX11_sign_1 : decode cX11_sign 1 = .ok (.aload_n 0, 1) := by decide +kernel
theorem dX11_sign_2 : decode cX11_sign 2 = .ok (.getfield 161, 3) := by decide +kernel
theorem dX11_sign_5 : decode cX11_sign 5 = .ok (.if_icmp .ge 16, 3) := by decide +kernel
theorem dX11_sign_8 : decode cX11_sign 8 = .ok (.aload_n 0, 1) := by decide +kernel
theorem dX11_sign_9 : decode cX11_sign 9 = .ok (.getfield 13, 3) := by decide +kernel
theorem dX11_sign_12 : decode cX11_sign 12 = .ok (.iload_n 1, 1) := by decide +kernel
theorem dX11_sign_13 : decode cX11_sign 13 = .ok (.baload, 1) := by decide +kernel
theorem dX11_sign_14 : decode cX11_sign 14 = .ok (.sipush 255, 3) := by decide +kernel
theorem dX11_sign_17 : decode cX11_sign 17 = .ok (.iand, 1) := by decide +kernel
theorem dX11_sign_18 : decode cX11_sign 18 = .ok (.goto 4, 3) := by decide +kernel
theorem dX11_sign_21 : decode cX11_sign 21 = .ok (.iconst 0, 1) := by decide +kernel
theorem dX11_sign_22 : decode cX11_sign 22 = .ok (.ireturn, 1) := by decide +kernel
set_option maxHeartbeats 2000000 in
set_option maxRecDepth 20000 in
theorem c_X11_isLetter (l : Launch) (D : va_G) (cy : Nat → ClassId) (B N : Nat) (a : Int) (M : MM) (hpa : I32 a) : CI l D cy B N 1 yX11_isLetter cX11_isLetter 1 (some .boolean) [iv a] M (fun z M' => M' = M ∧ (0 ≤ z ∧ z ≤ 1) ∧ (z = 1 → 97 ≤ a ∧ a ≤ 122) ∧ (z = 0 → ¬ (97 ≤ a ∧ a ≤ 122))) := by
  refine mk_CI (by decide) (Nat.le_of_ble_eq_true rfl) ?_
  intro X exl exD excy hnL hX hret
  have hce : 0 + 0 ≤ (xR X).cells ∧ 0 + 0 ≤ (xR X).slots := ⟨Nat.zero_le _, Nat.zero_le _⟩
  show J X B N 0 0 0 [(0, iv a)] [] M
  refine j_iload_n hX dX11_isLetter_0 rfl 0 rfl ?_
  refine j_bipush hX dX11_isLetter_1 rfl ?_
  refine j_icmp_lt (tgt := 16) hX dX11_isLetter_3 (by decide) (by omega) (by omega) (fun hc1 => ?_) (fun hc1 => ?_)
  · skip
    refine j_iconst hX dX11_isLetter_16 ?_
    exact hret _ _ _ _ dX11_isLetter_17 (nb (by omega)) (by omega) ⟨rfl, by omega, by first | assumption | omega, by first | assumption | omega⟩
  · skip
    refine j_iload_n hX dX11_isLetter_6 rfl 0 rfl ?_
    refine j_bipush hX dX11_isLetter_7 rfl ?_
    refine j_icmp_gt (tgt := 16) hX dX11_isLetter_9 (by decide) (by omega) (by omega) (fun hc2 => ?_) (fun hc2 => ?_)
    · skip
      refine j_iconst hX dX11_isLetter_16 ?_
      exact hret _ _ _ _ dX11_isLetter_17 (nb (by omega)) (by omega) ⟨rfl, by omega, by first | assumption | omega, by first | assumption | omega⟩
    · skip
      refine j_iconst hX dX11_isLetter_12 ?_
      refine j_goto (tgt := 17) hX dX11_isLetter_13 (by decide) ?_
      exact hret _ _ _ _ dX11_isLetter_17 (nb (by omega)) (by omega) ⟨rfl, by omega, by first | assumption | omega, by first | assumption | omega⟩
set_option maxHeartbeats 2000000 in
set_option maxRecDepth 20000 in
theorem c_X11_isDigit (l : Launch) (D : va_G) (cy : Nat → ClassId) (B N : Nat) (a : Int) (M : MM) (hpa : I32 a) : CI l D cy B N 1 yX11_isDigit cX11_isDigit 1 (some .boolean) [iv a] M (fun z M' => M' = M ∧ (0 ≤ z ∧ z ≤ 1) ∧ (z = 1 → 48 ≤ a ∧ a ≤ 57) ∧ (z = 0 → ¬ (48 ≤ a ∧ a ≤ 57))) := by
  refine mk_CI (by decide) (Nat.le_of_ble_eq_true rfl) ?_
  intro X exl exD excy hnL hX hret
  have hce : 0 + 0 ≤ (xR X).cells ∧ 0 + 0 ≤ (xR X).slots := ⟨Nat.zero_le _, Nat.zero_le _⟩
  show J X B N 0 0 0 [(0, iv a)] [] M
  refine j_iload_n hX dX11_isDigit_0 rfl 0 rfl ?_
  refine j_bipush hX dX11_isDigit_1 rfl ?_
  refine j_icmp_lt (tgt := 16) hX dX11_isDigit_3 (by decide) (by omega) (by omega) (fun hc1 => ?_) (fun hc1 => ?_)
  · skip
    refine j_iconst hX dX11_isDigit_16 ?_
    exact hret _ _ _ _ dX11_isDigit_17 (nb (by omega)) (by omega) ⟨rfl, by omega, by first | assumption | omega, by first | assumption | omega⟩
  · skip
    refine j_iload_n hX dX11_isDigit_6 rfl 0 rfl ?_
    refine j_bipush hX dX11_isDigit_7 rfl ?_
    refine j_icmp_gt (tgt := 16) hX dX11_isDigit_9 (by decide) (by omega) (by omega) (fun hc2 => ?_) (fun hc2 => ?_)
    · skip
      refine j_iconst hX dX11_isDigit_16 ?_
      exact hret _ _ _ _ dX11_isDigit_17 (nb (by omega)) (by omega) ⟨rfl, by omega, by first | assumption | omega, by first | assumption | omega⟩
    · skip
      refine j_iconst hX dX11_isDigit_12 ?_
      refine j_goto (tgt := 17) hX dX11_isDigit_13 (by decide) ?_
      exact hret _ _ _ _ dX11_isDigit_17 (nb (by omega)) (by omega) ⟨rfl, by omega, by first | assumption | omega, by first | assumption | omega⟩
set_option maxHeartbeats 2000000 in
set_option maxRecDepth 20000 in
theorem c_X11_isSign (l : Launch) (D : va_G) (cy : Nat → ClassId) (B N : Nat) (a : Int) (M : MM) (hpa : I32 a) : CI l D cy B N 1 yX11_isSign cX11_isSign 1 (some .boolean) [iv a] M (fun z M' => M' = M ∧ (0 ≤ z ∧ z ≤ 1)) := by
  refine mk_CI (by decide) (Nat.le_of_ble_eq_true rfl) ?_
  intro X exl exD excy hnL hX hret
  have hce : 0 + 0 ≤ (xR X).cells ∧ 0 + 0 ≤ (xR X).slots := ⟨Nat.zero_le _, Nat.zero_le _⟩
  show J X B N 0 0 0 [(0, iv a)] [] M
  refine j_iload_n hX dX11_isSign_0 rfl 0 rfl ?_
  refine j_bipush hX dX11_isSign_1 rfl ?_
  refine j_icmp_eq (tgt := 66) hX dX11_isSign_3 (by decide) (by omega) (by omega) (fun hc1 => ?_) (fun hc1 => ?_)
  · skip
    refine j_iconst hX dX11_isSign_66 ?_
    refine j_goto (tgt := 71) hX dX11_isSign_67 (by decide) ?_
    exact hret _ _ _ _ dX11_isSign_71 (nb (by omega)) (by omega) ⟨rfl, by omega⟩
  · skip
    refine j_iload_n hX dX11_isSign_6 rfl 0 rfl ?_
    refine j_bipush hX dX11_isSign_7 rfl ?_
    refine j_icmp_eq (tgt := 66) hX dX11_isSign_9 (by decide) (by omega) (by omega) (fun hc2 => ?_) (fun hc2 => ?_)
    · skip
      refine j_iconst hX dX11_isSign_66 ?_
      refine j_goto (tgt := 71) hX dX11_isSign_67 (by decide) ?_
      exact hret _ _ _ _ dX11_isSign_71 (nb (by omega)) (by omega) ⟨rfl, by omega⟩
    · skip
      refine j_iload_n hX dX11_isSign_12 rfl 0 rfl ?_
      refine j_bipush hX dX11_isSign_13 rfl ?_
      refine j_icmp_eq (tgt := 66) hX dX11_isSign_15 (by decide) (by omega) (by omega) (fun hc3 => ?_) (fun hc3 => ?_)
      · skip
        refine j_iconst hX dX11_isSign_66 ?_
        refine j_goto (tgt := 71) hX dX11_isSign_67 (by decide) ?_
        exact hret _ _ _ _ dX11_isSign_71 (nb (by omega)) (by omega) ⟨rfl, by omega⟩
      · skip
        refine j_iload_n hX dX11_isSign_18 rfl 0 rfl ?_
        refine j_bipush hX dX11_isSign_19 rfl ?_
        refine j_icmp_eq (tgt := 66) hX dX11_isSign_21 (by decide) (by omega) (by omega) (fun hc4 => ?_) (fun hc4 => ?_)
        · skip
          refine j_iconst hX dX11_isSign_66 ?_
          refine j_goto (tgt := 71) hX dX11_isSign_67 (by decide) ?_
          exact hret _ _ _ _ dX11_isSign_71 (nb (by omega)) (by omega) ⟨rfl, by omega⟩
        · skip
          refine j_iload_n hX dX11_isSign_24 rfl 0 rfl ?_
          refine j_bipush hX dX11_isSign_25 rfl ?_
          refine j_icmp_eq (tgt := 66) hX dX11_isSign_27 (by decide) (by omega) (by omega) (fun hc5 => ?_) (fun hc5 => ?_)
          · skip
            refine j_iconst hX dX11_isSign_66 ?_
            refine j_goto (tgt := 71) hX dX11_isSign_67 (by decide) ?_
            exact hret _ _ _ _ dX11_isSign_71 (nb (by omega)) (by omega) ⟨rfl, by omega⟩
          · skip
            refine j_iload_n hX dX11_isSign_30 rfl 0 rfl ?_
            refine j_bipush hX dX11_isSign_31 rfl ?_
            refine j_icmp_eq (tgt := 66) hX dX11_isSign_33 (by decide) (by omega) (by omega) (fun hc6 => ?_) (fun hc6 => ?_)
            · skip
              refine j_iconst hX dX11_isSign_66 ?_
              refine j_goto (tgt := 71) hX dX11_isSign_67 (by decide) ?_
              exact hret _ _ _ _ dX11_isSign_71 (nb (by omega)) (by omega) ⟨rfl, by omega⟩
            · skip
              refine j_iload_n hX dX11_isSign_36 rfl 0 rfl ?_
              refine j_bipush hX dX11_isSign_37 rfl ?_
              refine j_icmp_eq (tgt := 66) hX dX11_isSign_39 (by decide) (by omega) (by omega) (fun hc7 => ?_) (fun hc7 => ?_)
              · skip
                refine j_iconst hX dX11_isSign_66 ?_
                refine j_goto (tgt := 71) hX dX11_isSign_67 (by decide) ?_
                exact hret _ _ _ _ dX11_isSign_71 (nb (by omega)) (by omega) ⟨rfl, by omega⟩
              · skip
                refine j_iload_n hX dX11_isSign_42 rfl 0 rfl ?_
                refine j_bipush hX dX11_isSign_43 rfl ?_
                refine j_icmp_eq (tgt := 66) hX dX11_isSign_45 (by decide) (by omega) (by omega) (fun hc8 => ?_) (fun hc8 => ?_)
                · skip
                  refine j_iconst hX dX11_isSign_66 ?_
                  refine j_goto (tgt := 71) hX dX11_isSign_67 (by decide) ?_
                  exact hret _ _ _ _ dX11_isSign_71 (nb (by omega)) (by omega) ⟨rfl, by omega⟩
                · skip
                  refine j_iload_n hX dX11_isSign_48 rfl 0 rfl ?_
                  refine j_bipush hX dX11_isSign_49 rfl ?_
                  refine j_icmp_eq (tgt := 66) hX dX11_isSign_51 (by decide) (by omega) (by omega) (fun hc9 => ?_) (fun hc9 => ?_)
                  · skip
                    refine j_iconst hX dX11_isSign_66 ?_
                    refine j_goto (tgt := 71) hX dX11_isSign_67 (by decide) ?_
                    exact hret _ _ _ _ dX11_isSign_71 (nb (by omega)) (by omega) ⟨rfl, by omega⟩
                  · skip
                    refine j_iload_n hX dX11_isSign_54 rfl 0 rfl ?_
                    refine j_bipush hX dX11_isSign_55 rfl ?_
                    refine j_icmp_eq (tgt := 66) hX dX11_isSign_57 (by decide) (by omega) (by omega) (fun hc10 => ?_) (fun hc10 => ?_)
                    · skip
                      refine j_iconst hX dX11_isSign_66 ?_
                      refine j_goto (tgt := 71) hX dX11_isSign_67 (by decide) ?_
                      exact hret _ _ _ _ dX11_isSign_71 (nb (by omega)) (by omega) ⟨rfl, by omega⟩
                    · skip
                      refine j_iload_n hX dX11_isSign_60 rfl 0 rfl ?_
                      refine j_bipush hX dX11_isSign_61 rfl ?_
                      refine j_icmp_ne (tgt := 70) hX dX11_isSign_63 (by decide) (by omega) (by omega) (fun hc11 => ?_) (fun hc11 => ?_)
                      · skip
                        refine j_iconst hX dX11_isSign_70 ?_
                        exact hret _ _ _ _ dX11_isSign_71 (nb (by omega)) (by omega) ⟨rfl, by omega⟩
                      · skip
                        refine j_iconst hX dX11_isSign_66 ?_
                        refine j_goto (tgt := 71) hX dX11_isSign_67 (by decide) ?_
                        exact hret _ _ _ _ dX11_isSign_71 (nb (by omega)) (by omega) ⟨rfl, by omega⟩
set_option maxHeartbeats 2000000 in
set_option maxRecDepth 20000 in
theorem c_X11_isKept (l : Launch) (D : va_G) (cy : Nat → ClassId) (B N : Nat) (a : Int64) (M : MM) : CI l D cy B N 1 yX11_isKept cX11_isKept 3 (some .boolean) [.long a] M (fun z M' => M' = M ∧ (0 ≤ z ∧ z ≤ 1)) := by
  refine mk_CI (by decide) (Nat.le_of_ble_eq_true rfl) ?_
  intro X exl exD excy hnL hX hret
  have hce : 0 + 0 ≤ (xR X).cells ∧ 0 + 0 ≤ (xR X).slots := ⟨Nat.zero_le _, Nat.zero_le _⟩
  have cp : ∀ n : Nat, (∀ (x2 : Int), I32 x2 → (0 ≤ x2 ∧ x2 ≤ 1) → 0 ≤ 32 * (0) + 1 → 32 * (0) + 1 < (n : Int) → J X B N 0 0 94 [(0, .long a), (2, iv x2)] [] M) := by
    intro n
    induction n with
    | zero => exact by intros; exfalso; omega
    | succ n ih =>
      · intro x2 hxx2 h2 hm0 hm1
        refine j_iload_n hX dX11_isKept_94 rfl 1 rfl ?_
        refine j_if_ne (tgt := 186) hX dX11_isKept_95 (by decide) (by omega) (fun hc1 => ?_) (fun hc1 => ?_)
        · skip
          refine j_iconst hX dX11_isKept_186 ?_
          refine j_goto (tgt := 191) hX dX11_isKept_187 (by decide) ?_
          exact hret _ _ _ _ dX11_isKept_191 (nb (by omega)) (by omega) ⟨rfl, by omega⟩
        · skip
          refine j_lload_n hX dX11_isKept_98 rfl 0 rfl ?_
          refine j_ldc2 hX (in_6 199 (by first | rfl | decide +kernel) rfl) dX11_isKept_99 ?_
          refine j_lcmp hX dX11_isKept_102 (fun z2 hz3 hy4 he5 => ?_)
          refine j_if_eq (tgt := 186) hX dX11_isKept_103 (by decide) (by omega) (fun hc6 => ?_) (fun hc6 => ?_)
          · skip
            refine j_iconst hX dX11_isKept_186 ?_
            refine j_goto (tgt := 191) hX dX11_isKept_187 (by decide) ?_
            exact hret _ _ _ _ dX11_isKept_191 (nb (by omega)) (by omega) ⟨rfl, by omega⟩
          · skip
            refine j_lload_n hX dX11_isKept_106 rfl 0 rfl ?_
            refine j_ldc2 hX (in_6 200 (by first | rfl | decide +kernel) rfl) dX11_isKept_107 ?_
            refine j_lcmp hX dX11_isKept_110 (fun z7 hz8 hy9 he10 => ?_)
            refine j_if_eq (tgt := 186) hX dX11_isKept_111 (by decide) (by omega) (fun hc11 => ?_) (fun hc11 => ?_)
            · skip
              refine j_iconst hX dX11_isKept_186 ?_
              refine j_goto (tgt := 191) hX dX11_isKept_187 (by decide) ?_
              exact hret _ _ _ _ dX11_isKept_191 (nb (by omega)) (by omega) ⟨rfl, by omega⟩
            · skip
              refine j_lload_n hX dX11_isKept_114 rfl 0 rfl ?_
              refine j_ldc2 hX (in_6 201 (by first | rfl | decide +kernel) rfl) dX11_isKept_115 ?_
              refine j_lcmp hX dX11_isKept_118 (fun z12 hz13 hy14 he15 => ?_)
              refine j_if_eq (tgt := 186) hX dX11_isKept_119 (by decide) (by omega) (fun hc16 => ?_) (fun hc16 => ?_)
              · skip
                refine j_iconst hX dX11_isKept_186 ?_
                refine j_goto (tgt := 191) hX dX11_isKept_187 (by decide) ?_
                exact hret _ _ _ _ dX11_isKept_191 (nb (by omega)) (by omega) ⟨rfl, by omega⟩
              · skip
                refine j_lload_n hX dX11_isKept_122 rfl 0 rfl ?_
                refine j_ldc2 hX (in_6 202 (by first | rfl | decide +kernel) rfl) dX11_isKept_123 ?_
                refine j_lcmp hX dX11_isKept_126 (fun z17 hz18 hy19 he20 => ?_)
                refine j_if_eq (tgt := 186) hX dX11_isKept_127 (by decide) (by omega) (fun hc21 => ?_) (fun hc21 => ?_)
                · skip
                  refine j_iconst hX dX11_isKept_186 ?_
                  refine j_goto (tgt := 191) hX dX11_isKept_187 (by decide) ?_
                  exact hret _ _ _ _ dX11_isKept_191 (nb (by omega)) (by omega) ⟨rfl, by omega⟩
                · skip
                  refine j_lload_n hX dX11_isKept_130 rfl 0 rfl ?_
                  refine j_ldc2 hX (in_6 203 (by first | rfl | decide +kernel) rfl) dX11_isKept_131 ?_
                  refine j_lcmp hX dX11_isKept_134 (fun z22 hz23 hy24 he25 => ?_)
                  refine j_if_eq (tgt := 186) hX dX11_isKept_135 (by decide) (by omega) (fun hc26 => ?_) (fun hc26 => ?_)
                  · skip
                    refine j_iconst hX dX11_isKept_186 ?_
                    refine j_goto (tgt := 191) hX dX11_isKept_187 (by decide) ?_
                    exact hret _ _ _ _ dX11_isKept_191 (nb (by omega)) (by omega) ⟨rfl, by omega⟩
                  · skip
                    refine j_lload_n hX dX11_isKept_138 rfl 0 rfl ?_
                    refine j_ldc2 hX (in_6 204 (by first | rfl | decide +kernel) rfl) dX11_isKept_139 ?_
                    refine j_lcmp hX dX11_isKept_142 (fun z27 hz28 hy29 he30 => ?_)
                    refine j_if_eq (tgt := 186) hX dX11_isKept_143 (by decide) (by omega) (fun hc31 => ?_) (fun hc31 => ?_)
                    · skip
                      refine j_iconst hX dX11_isKept_186 ?_
                      refine j_goto (tgt := 191) hX dX11_isKept_187 (by decide) ?_
                      exact hret _ _ _ _ dX11_isKept_191 (nb (by omega)) (by omega) ⟨rfl, by omega⟩
                    · skip
                      refine j_lload_n hX dX11_isKept_146 rfl 0 rfl ?_
                      refine j_ldc2 hX (in_6 205 (by first | rfl | decide +kernel) rfl) dX11_isKept_147 ?_
                      refine j_lcmp hX dX11_isKept_150 (fun z32 hz33 hy34 he35 => ?_)
                      refine j_if_eq (tgt := 186) hX dX11_isKept_151 (by decide) (by omega) (fun hc36 => ?_) (fun hc36 => ?_)
                      · skip
                        refine j_iconst hX dX11_isKept_186 ?_
                        refine j_goto (tgt := 191) hX dX11_isKept_187 (by decide) ?_
                        exact hret _ _ _ _ dX11_isKept_191 (nb (by omega)) (by omega) ⟨rfl, by omega⟩
                      · skip
                        refine j_lload_n hX dX11_isKept_154 rfl 0 rfl ?_
                        refine j_ldc2 hX (in_6 206 (by first | rfl | decide +kernel) rfl) dX11_isKept_155 ?_
                        refine j_lcmp hX dX11_isKept_158 (fun z37 hz38 hy39 he40 => ?_)
                        refine j_if_eq (tgt := 186) hX dX11_isKept_159 (by decide) (by omega) (fun hc41 => ?_) (fun hc41 => ?_)
                        · skip
                          refine j_iconst hX dX11_isKept_186 ?_
                          refine j_goto (tgt := 191) hX dX11_isKept_187 (by decide) ?_
                          exact hret _ _ _ _ dX11_isKept_191 (nb (by omega)) (by omega) ⟨rfl, by omega⟩
                        · skip
                          refine j_lload_n hX dX11_isKept_162 rfl 0 rfl ?_
                          refine j_ldc2 hX (in_6 207 (by first | rfl | decide +kernel) rfl) dX11_isKept_163 ?_
                          refine j_lcmp hX dX11_isKept_166 (fun z42 hz43 hy44 he45 => ?_)
                          refine j_if_eq (tgt := 186) hX dX11_isKept_167 (by decide) (by omega) (fun hc46 => ?_) (fun hc46 => ?_)
                          · skip
                            refine j_iconst hX dX11_isKept_186 ?_
                            refine j_goto (tgt := 191) hX dX11_isKept_187 (by decide) ?_
                            exact hret _ _ _ _ dX11_isKept_191 (nb (by omega)) (by omega) ⟨rfl, by omega⟩
                          · skip
                            refine j_lload_n hX dX11_isKept_170 rfl 0 rfl ?_
                            refine j_ldc2 hX (in_6 208 (by first | rfl | decide +kernel) rfl) dX11_isKept_171 ?_
                            refine j_lcmp hX dX11_isKept_174 (fun z47 hz48 hy49 he50 => ?_)
                            refine j_if_eq (tgt := 186) hX dX11_isKept_175 (by decide) (by omega) (fun hc51 => ?_) (fun hc51 => ?_)
                            · skip
                              refine j_iconst hX dX11_isKept_186 ?_
                              refine j_goto (tgt := 191) hX dX11_isKept_187 (by decide) ?_
                              exact hret _ _ _ _ dX11_isKept_191 (nb (by omega)) (by omega) ⟨rfl, by omega⟩
                            · skip
                              refine j_lload_n hX dX11_isKept_178 rfl 0 rfl ?_
                              refine j_ldc2 hX (in_6 209 (by first | rfl | decide +kernel) rfl) dX11_isKept_179 ?_
                              refine j_lcmp hX dX11_isKept_182 (fun z52 hz53 hy54 he55 => ?_)
                              refine j_if_ne (tgt := 190) hX dX11_isKept_183 (by decide) (by omega) (fun hc56 => ?_) (fun hc56 => ?_)
                              · skip
                                refine j_iconst hX dX11_isKept_190 ?_
                                exact hret _ _ _ _ dX11_isKept_191 (nb (by omega)) (by omega) ⟨rfl, by omega⟩
                              · skip
                                refine j_iconst hX dX11_isKept_186 ?_
                                refine j_goto (tgt := 191) hX dX11_isKept_187 (by decide) ?_
                                exact hret _ _ _ _ dX11_isKept_191 (nb (by omega)) (by omega) ⟨rfl, by omega⟩
  show J X B N 0 0 0 [(0, .long a)] [] M
  refine j_lload_n hX dX11_isKept_0 rfl 0 rfl ?_
  refine j_ldc2 hX (in_6 188 (by first | rfl | decide +kernel) rfl) dX11_isKept_1 ?_
  refine j_lcmp hX dX11_isKept_4 (fun z57 hz58 hy59 he60 => ?_)
  refine j_if_eq (tgt := 88) hX dX11_isKept_5 (by decide) (by omega) (fun hc61 => ?_) (fun hc61 => ?_)
  · skip
    refine j_iconst hX dX11_isKept_88 ?_
    refine j_goto (tgt := 93) hX dX11_isKept_89 (by decide) ?_
    refine j_istore_n (lv' := [(2, _), (0, _)]) hX dX11_isKept_93 rfl (by rw [hnL]; decide) rfl ?_
    refine j_sub [1, 0] rfl ?_
    refine (cp (Int.toNat (96 + 1))) _ (by omega) (by first | assumption | omega) ?_ ?_
    · omega
    · omega
  · skip
    refine j_lload_n hX dX11_isKept_8 rfl 0 rfl ?_
    refine j_ldc2 hX (in_6 189 (by first | rfl | decide +kernel) rfl) dX11_isKept_9 ?_
    refine j_lcmp hX dX11_isKept_12 (fun z62 hz63 hy64 he65 => ?_)
    refine j_if_eq (tgt := 88) hX dX11_isKept_13 (by decide) (by omega) (fun hc66 => ?_) (fun hc66 => ?_)
    · skip
      refine j_iconst hX dX11_isKept_88 ?_
      refine j_goto (tgt := 93) hX dX11_isKept_89 (by decide) ?_
      refine j_istore_n (lv' := [(2, _), (0, _)]) hX dX11_isKept_93 rfl (by rw [hnL]; decide) rfl ?_
      refine j_sub [1, 0] rfl ?_
      refine (cp (Int.toNat (96 + 1))) _ (by omega) (by first | assumption | omega) ?_ ?_
      · omega
      · omega
    · skip
      refine j_lload_n hX dX11_isKept_16 rfl 0 rfl ?_
      refine j_ldc2 hX (in_6 190 (by first | rfl | decide +kernel) rfl) dX11_isKept_17 ?_
      refine j_lcmp hX dX11_isKept_20 (fun z67 hz68 hy69 he70 => ?_)
      refine j_if_eq (tgt := 88) hX dX11_isKept_21 (by decide) (by omega) (fun hc71 => ?_) (fun hc71 => ?_)
      · skip
        refine j_iconst hX dX11_isKept_88 ?_
        refine j_goto (tgt := 93) hX dX11_isKept_89 (by decide) ?_
        refine j_istore_n (lv' := [(2, _), (0, _)]) hX dX11_isKept_93 rfl (by rw [hnL]; decide) rfl ?_
        refine j_sub [1, 0] rfl ?_
        refine (cp (Int.toNat (96 + 1))) _ (by omega) (by first | assumption | omega) ?_ ?_
        · omega
        · omega
      · skip
        refine j_lload_n hX dX11_isKept_24 rfl 0 rfl ?_
        refine j_ldc2 hX (in_6 191 (by first | rfl | decide +kernel) rfl) dX11_isKept_25 ?_
        refine j_lcmp hX dX11_isKept_28 (fun z72 hz73 hy74 he75 => ?_)
        refine j_if_eq (tgt := 88) hX dX11_isKept_29 (by decide) (by omega) (fun hc76 => ?_) (fun hc76 => ?_)
        · skip
          refine j_iconst hX dX11_isKept_88 ?_
          refine j_goto (tgt := 93) hX dX11_isKept_89 (by decide) ?_
          refine j_istore_n (lv' := [(2, _), (0, _)]) hX dX11_isKept_93 rfl (by rw [hnL]; decide) rfl ?_
          refine j_sub [1, 0] rfl ?_
          refine (cp (Int.toNat (96 + 1))) _ (by omega) (by first | assumption | omega) ?_ ?_
          · omega
          · omega
        · skip
          refine j_lload_n hX dX11_isKept_32 rfl 0 rfl ?_
          refine j_ldc2 hX (in_6 192 (by first | rfl | decide +kernel) rfl) dX11_isKept_33 ?_
          refine j_lcmp hX dX11_isKept_36 (fun z77 hz78 hy79 he80 => ?_)
          refine j_if_eq (tgt := 88) hX dX11_isKept_37 (by decide) (by omega) (fun hc81 => ?_) (fun hc81 => ?_)
          · skip
            refine j_iconst hX dX11_isKept_88 ?_
            refine j_goto (tgt := 93) hX dX11_isKept_89 (by decide) ?_
            refine j_istore_n (lv' := [(2, _), (0, _)]) hX dX11_isKept_93 rfl (by rw [hnL]; decide) rfl ?_
            refine j_sub [1, 0] rfl ?_
            refine (cp (Int.toNat (96 + 1))) _ (by omega) (by first | assumption | omega) ?_ ?_
            · omega
            · omega
          · skip
            refine j_lload_n hX dX11_isKept_40 rfl 0 rfl ?_
            refine j_ldc2 hX (in_6 193 (by first | rfl | decide +kernel) rfl) dX11_isKept_41 ?_
            refine j_lcmp hX dX11_isKept_44 (fun z82 hz83 hy84 he85 => ?_)
            refine j_if_eq (tgt := 88) hX dX11_isKept_45 (by decide) (by omega) (fun hc86 => ?_) (fun hc86 => ?_)
            · skip
              refine j_iconst hX dX11_isKept_88 ?_
              refine j_goto (tgt := 93) hX dX11_isKept_89 (by decide) ?_
              refine j_istore_n (lv' := [(2, _), (0, _)]) hX dX11_isKept_93 rfl (by rw [hnL]; decide) rfl ?_
              refine j_sub [1, 0] rfl ?_
              refine (cp (Int.toNat (96 + 1))) _ (by omega) (by first | assumption | omega) ?_ ?_
              · omega
              · omega
            · skip
              refine j_lload_n hX dX11_isKept_48 rfl 0 rfl ?_
              refine j_ldc2 hX (in_6 194 (by first | rfl | decide +kernel) rfl) dX11_isKept_49 ?_
              refine j_lcmp hX dX11_isKept_52 (fun z87 hz88 hy89 he90 => ?_)
              refine j_if_eq (tgt := 88) hX dX11_isKept_53 (by decide) (by omega) (fun hc91 => ?_) (fun hc91 => ?_)
              · skip
                refine j_iconst hX dX11_isKept_88 ?_
                refine j_goto (tgt := 93) hX dX11_isKept_89 (by decide) ?_
                refine j_istore_n (lv' := [(2, _), (0, _)]) hX dX11_isKept_93 rfl (by rw [hnL]; decide) rfl ?_
                refine j_sub [1, 0] rfl ?_
                refine (cp (Int.toNat (96 + 1))) _ (by omega) (by first | assumption | omega) ?_ ?_
                · omega
                · omega
              · skip
                refine j_lload_n hX dX11_isKept_56 rfl 0 rfl ?_
                refine j_ldc2 hX (in_6 195 (by first | rfl | decide +kernel) rfl) dX11_isKept_57 ?_
                refine j_lcmp hX dX11_isKept_60 (fun z92 hz93 hy94 he95 => ?_)
                refine j_if_eq (tgt := 88) hX dX11_isKept_61 (by decide) (by omega) (fun hc96 => ?_) (fun hc96 => ?_)
                · skip
                  refine j_iconst hX dX11_isKept_88 ?_
                  refine j_goto (tgt := 93) hX dX11_isKept_89 (by decide) ?_
                  refine j_istore_n (lv' := [(2, _), (0, _)]) hX dX11_isKept_93 rfl (by rw [hnL]; decide) rfl ?_
                  refine j_sub [1, 0] rfl ?_
                  refine (cp (Int.toNat (96 + 1))) _ (by omega) (by first | assumption | omega) ?_ ?_
                  · omega
                  · omega
                · skip
                  refine j_lload_n hX dX11_isKept_64 rfl 0 rfl ?_
                  refine j_ldc2 hX (in_6 196 (by first | rfl | decide +kernel) rfl) dX11_isKept_65 ?_
                  refine j_lcmp hX dX11_isKept_68 (fun z97 hz98 hy99 he100 => ?_)
                  refine j_if_eq (tgt := 88) hX dX11_isKept_69 (by decide) (by omega) (fun hc101 => ?_) (fun hc101 => ?_)
                  · skip
                    refine j_iconst hX dX11_isKept_88 ?_
                    refine j_goto (tgt := 93) hX dX11_isKept_89 (by decide) ?_
                    refine j_istore_n (lv' := [(2, _), (0, _)]) hX dX11_isKept_93 rfl (by rw [hnL]; decide) rfl ?_
                    refine j_sub [1, 0] rfl ?_
                    refine (cp (Int.toNat (96 + 1))) _ (by omega) (by first | assumption | omega) ?_ ?_
                    · omega
                    · omega
                  · skip
                    refine j_lload_n hX dX11_isKept_72 rfl 0 rfl ?_
                    refine j_ldc2 hX (in_6 197 (by first | rfl | decide +kernel) rfl) dX11_isKept_73 ?_
                    refine j_lcmp hX dX11_isKept_76 (fun z102 hz103 hy104 he105 => ?_)
                    refine j_if_eq (tgt := 88) hX dX11_isKept_77 (by decide) (by omega) (fun hc106 => ?_) (fun hc106 => ?_)
                    · skip
                      refine j_iconst hX dX11_isKept_88 ?_
                      refine j_goto (tgt := 93) hX dX11_isKept_89 (by decide) ?_
                      refine j_istore_n (lv' := [(2, _), (0, _)]) hX dX11_isKept_93 rfl (by rw [hnL]; decide) rfl ?_
                      refine j_sub [1, 0] rfl ?_
                      refine (cp (Int.toNat (96 + 1))) _ (by omega) (by first | assumption | omega) ?_ ?_
                      · omega
                      · omega
                    · skip
                      refine j_lload_n hX dX11_isKept_80 rfl 0 rfl ?_
                      refine j_ldc2 hX (in_6 198 (by first | rfl | decide +kernel) rfl) dX11_isKept_81 ?_
                      refine j_lcmp hX dX11_isKept_84 (fun z107 hz108 hy109 he110 => ?_)
                      refine j_if_ne (tgt := 92) hX dX11_isKept_85 (by decide) (by omega) (fun hc111 => ?_) (fun hc111 => ?_)
                      · skip
                        refine j_iconst hX dX11_isKept_92 ?_
                        refine j_istore_n (lv' := [(2, _), (0, _)]) hX dX11_isKept_93 rfl (by rw [hnL]; decide) rfl ?_
                        refine j_sub [1, 0] rfl ?_
                        refine (cp (Int.toNat (96 + 1))) _ (by omega) (by first | assumption | omega) ?_ ?_
                        · omega
                        · omega
                      · skip
                        refine j_iconst hX dX11_isKept_88 ?_
                        refine j_goto (tgt := 93) hX dX11_isKept_89 (by decide) ?_
                        refine j_istore_n (lv' := [(2, _), (0, _)]) hX dX11_isKept_93 rfl (by rw [hnL]; decide) rfl ?_
                        refine j_sub [1, 0] rfl ?_
                        refine (cp (Int.toNat (96 + 1))) _ (by omega) (by first | assumption | omega) ?_ ?_
                        · omega
                        · omega
set_option maxHeartbeats 2000000 in
set_option maxRecDepth 20000 in
theorem c_X11_isIn (l : Launch) (D : va_G) (cy : Nat → ClassId) (B N : Nat) (a : Int) (b : Int) (c : Int) (M : MM) (hpa : I32 a) (hpb : I32 b) (hpc : I32 c) : CI l D cy B N 1 yX11_isIn cX11_isIn 3 (some .boolean) [iv a, iv b, iv c] M (fun z M' => M' = M ∧ (0 ≤ z ∧ z ≤ 1) ∧ (z = 1 → b ≤ a ∧ a ≤ c) ∧ (z = 0 → ¬ (b ≤ a ∧ a ≤ c))) := by
  refine mk_CI (by decide) (Nat.le_of_ble_eq_true rfl) ?_
  intro X exl exD excy hnL hX hret
  have hce : 0 + 0 ≤ (xR X).cells ∧ 0 + 0 ≤ (xR X).slots := ⟨Nat.zero_le _, Nat.zero_le _⟩
  show J X B N 0 0 0 [(0, iv a), (1, iv b), (2, iv c)] [] M
  refine j_iload_n hX dX11_isIn_0 rfl 0 rfl ?_
  refine j_iload_n hX dX11_isIn_1 rfl 1 rfl ?_
  refine j_icmp_lt (tgt := 14) hX dX11_isIn_2 (by decide) (by omega) (by omega) (fun hc1 => ?_) (fun hc1 => ?_)
  · skip
    refine j_iconst hX dX11_isIn_14 ?_
    exact hret _ _ _ _ dX11_isIn_15 (nb (by omega)) (by omega) ⟨rfl, by omega, by first | assumption | omega, by first | assumption | omega⟩
  · skip
    refine j_iload_n hX dX11_isIn_5 rfl 0 rfl ?_
    refine j_iload_n hX dX11_isIn_6 rfl 2 rfl ?_
    refine j_icmp_gt (tgt := 14) hX dX11_isIn_7 (by decide) (by omega) (by omega) (fun hc2 => ?_) (fun hc2 => ?_)
    · skip
      refine j_iconst hX dX11_isIn_14 ?_
      exact hret _ _ _ _ dX11_isIn_15 (nb (by omega)) (by omega) ⟨rfl, by omega, by first | assumption | omega, by first | assumption | omega⟩
    · skip
      refine j_iconst hX dX11_isIn_10 ?_
      refine j_goto (tgt := 15) hX dX11_isIn_11 (by decide) ?_
      exact hret _ _ _ _ dX11_isIn_15 (nb (by omega)) (by omega) ⟨rfl, by omega, by first | assumption | omega, by first | assumption | omega⟩
set_option maxHeartbeats 2000000 in
set_option maxRecDepth 20000 in
theorem c_X11_has (l : Launch) (D : va_G) (cy : Nat → ClassId) (B N : Nat) (a : Int) (b : Int) (M : MM) (hpa : I32 a) (hpb : I32 b) : CI l D cy B N 1 yX11_has cX11_has 2 (some .boolean) [iv a, iv b] M (fun z M' => M' = M ∧ (0 ≤ z ∧ z ≤ 1) ∧ (z = bt a b)) := by
  refine mk_CI (by decide) (Nat.le_of_ble_eq_true rfl) ?_
  intro X exl exD excy hnL hX hret
  have hce : 0 + 0 ≤ (xR X).cells ∧ 0 + 0 ≤ (xR X).slots := ⟨Nat.zero_le _, Nat.zero_le _⟩
  show J X B N 0 0 0 [(0, iv a), (1, iv b)] [] M
  refine j_iload_n hX dX11_has_0 rfl 0 rfl ?_
  refine j_iload_n hX dX11_has_1 rfl 1 rfl ?_
  refine j_ishr hX dX11_has_2 (fun z1 hz2 hy3 => ?_)
  refine j_iconst hX dX11_has_3 ?_
  refine j_iand hX dX11_has_4 (fun z4 hz5 hy6 => ?_)
  have ha7 := (and_f hz5 (by omega) (by omega)).2 (by omega)
  have hbt := bt_of ‹_› hz5
  refine j_iconst hX dX11_has_5 ?_
  refine j_icmp_ne (tgt := 13) hX dX11_has_6 (by decide) (by omega) (by omega) (fun hc8 => ?_) (fun hc8 => ?_)
  · skip
    refine j_iconst hX dX11_has_13 ?_
    exact hret _ _ _ _ dX11_has_14 (nb (by omega)) (by omega) ⟨rfl, by omega, by first | assumption | omega⟩
  · skip
    refine j_iconst hX dX11_has_9 ?_
    refine j_goto (tgt := 14) hX dX11_has_10 (by decide) ?_
    exact hret _ _ _ _ dX11_has_14 (nb (by omega)) (by omega) ⟨rfl, by omega, by first | assumption | omega⟩
set_option maxHeartbeats 2000000 in
set_option maxRecDepth 20000 in
theorem c_X11_bitsOf (l : Launch) (D : va_G) (cy : Nat → ClassId) (B N : Nat) (a : Int) (M : MM) (hpa : I32 a) : CI l D cy B N 1 yX11_bitsOf cX11_bitsOf 3 (some .int) [iv a] M (fun z M' => M' = M) := by
  refine mk_CI (by decide) (Nat.le_of_ble_eq_true rfl) ?_
  intro X exl exD excy hnL hX hret
  have hce : 0 + 0 ≤ (xR X).cells ∧ 0 + 0 ≤ (xR X).slots := ⟨Nat.zero_le _, Nat.zero_le _⟩
  have cp : ∀ n : Nat, (∀ (x1 x2 : Int), I32 x1 → I32 x2 → 0 ≤ 32 * (x2 % 4294967296) + 1 → 32 * (x2 % 4294967296) + 1 < (n : Int) → J X B N 0 0 4 [(0, iv a), (1, iv x1), (2, iv x2)] [] M) := by
    intro n
    induction n with
    | zero => exact by intros; exfalso; omega
    | succ n ih =>
      · intro x1 x2 hxx1 hxx2 hm0 hm1
        refine j_iload_n hX dX11_bitsOf_4 rfl 2 rfl ?_
        refine j_if_eq (tgt := 20) hX dX11_bitsOf_5 (by decide) (by omega) (fun hc1 => ?_) (fun hc1 => ?_)
        · skip
          refine j_iload_n hX dX11_bitsOf_20 rfl 1 rfl ?_
          exact hret _ _ _ _ dX11_bitsOf_21 rfl (by omega) rfl
        · skip
          refine j_iinc (lv' := [(1, _), (0, _), (2, _)]) hX dX11_bitsOf_8 1 rfl (by rw [hnL]; decide) rfl ?_
          refine j_normL (fun z2 hz3 hy4 => ?_)
          refine j_iload_n hX dX11_bitsOf_11 rfl 2 rfl ?_
          refine j_iload_n hX dX11_bitsOf_12 rfl 2 rfl ?_
          refine j_iconst hX dX11_bitsOf_13 ?_
          refine j_isub hX dX11_bitsOf_14 ?_
          refine j_iand hX dX11_bitsOf_15 (fun z5 hz6 hy7 => ?_)
          have hbo := bo_f hz6 (by assumption) (by assumption)
          refine j_istore_n (lv' := [(2, _), (1, _), (0, _)]) hX dX11_bitsOf_16 rfl (by rw [hnL]; decide) rfl ?_
          refine j_goto (tgt := 4) hX dX11_bitsOf_17 (by decide) ?_
          refine j_sub [2, 1, 0] rfl ?_
          exact ih _ _ (by omega) (by omega) (by omega) (by omega)
  show J X B N 0 0 0 [(0, iv a)] [] M
  refine j_iconst hX dX11_bitsOf_0 ?_
  refine j_istore_n (lv' := [(1, _), (0, _)]) hX dX11_bitsOf_1 rfl (by rw [hnL]; decide) rfl ?_
  refine j_iload_n hX dX11_bitsOf_2 rfl 1 rfl ?_
  refine j_istore_n (lv' := [(2, _), (1, _), (0, _)]) hX dX11_bitsOf_3 rfl (by rw [hnL]; decide) rfl ?_
  refine j_sub [2, 1, 0] rfl ?_
  refine (cp (Int.toNat (137438953536 + 1))) _ _ (by omega) (by omega) ?_ ?_
  · omega
  · omega
set_option maxHeartbeats 2000000 in
set_option maxRecDepth 20000 in
theorem c_X11_divisor (l : Launch) (D : va_G) (cy : Nat → ClassId) (B N : Nat) (a : Int) (b : Int) (M : MM) (hpa : I32 a) (hpb : I32 b) (h1 : 1 ≤ a ∧ 0 ≤ b) : CI l D cy B N 1 yX11_divisor cX11_divisor 5 (some .int) [iv a, iv b] M (fun z M' => M' = M ∧ (1 ≤ z)) := by
  refine mk_CI (by decide) (Nat.le_of_ble_eq_true rfl) ?_
  intro X exl exD excy hnL hX hret
  have hce : 0 + 0 ≤ (xR X).cells ∧ 0 + 0 ≤ (xR X).slots := ⟨Nat.zero_le _, Nat.zero_le _⟩
  have cp : ∀ n : Nat, (∀ (x2 x3 : Int), I32 x2 → I32 x3 → (1 ≤ x2 ∧ 0 ≤ x3) → 0 ≤ 32 * (x3) + 1 → 32 * (x3) + 1 < (n : Int) → J X B N 0 0 4 [(0, iv a), (1, iv b), (2, iv x2), (3, iv x3)] [] M) := by
    intro n
    induction n with
    | zero => exact by intros; exfalso; omega
    | succ n ih =>
      · intro x2 x3 hxx2 hxx3 h2 hm0 hm1
        refine j_iload_n hX dX11_divisor_4 rfl 3 rfl ?_
        refine j_if_le (tgt := 21) hX dX11_divisor_5 (by decide) (by omega) (fun hc1 => ?_) (fun hc1 => ?_)
        · skip
          refine j_iload_n hX dX11_divisor_21 rfl 2 rfl ?_
          exact hret _ _ _ _ dX11_divisor_22 rfl (by omega) ⟨rfl, by first | assumption | omega⟩
        · skip
          refine j_iload_n hX dX11_divisor_8 rfl 2 rfl ?_
          refine j_iload_n hX dX11_divisor_9 rfl 3 rfl ?_
          refine j_irem hX dX11_divisor_10 (by omega) (by omega) (by omega) (fun z2 hz3 hy4 => ?_)
          have ha5 := tmod_p hz3 (by omega) (by omega)
          refine j_istore (lv' := [(4, _), (0, _), (1, _), (2, _), (3, _)]) hX dX11_divisor_11 (by rw [hnL]; decide) rfl ?_
          refine j_iload_n hX dX11_divisor_13 rfl 4 rfl ?_
          refine j_istore_n (lv' := [(2, _), (4, _), (0, _), (1, _), (3, _)]) hX dX11_divisor_14 rfl (by rw [hnL]; decide) rfl ?_
          refine j_iload hX dX11_divisor_15 1 rfl ?_
          refine j_istore_n (lv' := [(3, _), (2, _), (4, _), (0, _), (1, _)]) hX dX11_divisor_17 rfl (by rw [hnL]; decide) rfl ?_
          refine j_goto (tgt := 4) hX dX11_divisor_18 (by decide) ?_
          refine j_sub [3, 4, 1, 0] rfl ?_
          exact ih _ _ (by omega) (by omega) (by first | assumption | omega) (by omega) (by omega)
  show J X B N 0 0 0 [(0, iv a), (1, iv b)] [] M
  refine j_iload_n hX dX11_divisor_0 rfl 0 rfl ?_
  refine j_istore_n (lv' := [(2, _), (0, _), (1, _)]) hX dX11_divisor_1 rfl (by rw [hnL]; decide) rfl ?_
  refine j_iload_n hX dX11_divisor_2 rfl 2 rfl ?_
  refine j_istore_n (lv' := [(3, _), (2, _), (0, _), (1, _)]) hX dX11_divisor_3 rfl (by rw [hnL]; decide) rfl ?_
  refine j_sub [2, 3, 1, 0] rfl ?_
  refine (cp (Int.toNat (68719476800 + 1))) _ _ (by omega) (by omega) (by first | assumption | omega) ?_ ?_
  · omega
  · omega
set_option maxHeartbeats 2000000 in
set_option maxRecDepth 20000 in
theorem c_X11_two (l : Launch) (D : va_G) (cy : Nat → ClassId) (B N : Nat) (a : Int) (b : Int) (c : Int) (M : MM) (hpa : I32 a) (hpb : I32 b) (hpc : I32 c) : CI l D cy B N 1 yX11_two cX11_two 3 (some .int) [iv a, iv b, iv c] M (fun z M' => M' = M) := by
  refine mk_CI (by decide) (Nat.le_of_ble_eq_true rfl) ?_
  intro X exl exD excy hnL hX hret
  have hce : 0 + 0 ≤ (xR X).cells ∧ 0 + 0 ≤ (xR X).slots := ⟨Nat.zero_le _, Nat.zero_le _⟩
  show J X B N 0 0 0 [(0, iv a), (1, iv b), (2, iv c)] [] M
  refine j_iload_n hX dX11_two_0 rfl 0 rfl ?_
  refine j_table (tgd := 203) hX dX11_two_1 (by omega) (by decide) (fun hc1 => ?_) (fun hc2 hc3 => ?_)
  · skip
    refine j_iload_n hX dX11_two_203 rfl 1 rfl ?_
    refine j_if_ne (tgt := 211) hX dX11_two_204 (by decide) (by omega) (fun hc4 => ?_) (fun hc4 => ?_)
    · skip
      refine j_iconst hX dX11_two_211 ?_
      refine j_goto (tgt := 216) hX dX11_two_212 (by decide) ?_
      exact hret _ _ _ _ dX11_two_216 rfl (by omega) rfl
    · skip
      refine j_iload_n hX dX11_two_207 rfl 2 rfl ?_
      refine j_if_eq (tgt := 215) hX dX11_two_208 (by decide) (by omega) (fun hc5 => ?_) (fun hc5 => ?_)
      · skip
        refine j_iconst hX dX11_two_215 ?_
        exact hret _ _ _ _ dX11_two_216 rfl (by omega) rfl
      · skip
        refine j_iconst hX dX11_two_211 ?_
        refine j_goto (tgt := 216) hX dX11_two_212 (by decide) ?_
        exact hret _ _ _ _ dX11_two_216 rfl (by omega) rfl
  · rcases (by omega : a = 37 ∨ a = 38 ∨ a = 39 ∨ a = 40 ∨ a = 41 ∨ a = 42 ∨ a = 43 ∨ a = 44 ∨ a = 45 ∨ a = 46 ∨ a = 47 ∨ a = 48 ∨ a = 49 ∨ a = 50 ∨ a = 51 ∨ a = 52 ∨ a = 53 ∨ a = 54 ∨ a = 55 ∨ a = 56 ∨ a = 57 ∨ a = 58 ∨ a = 59 ∨ a = 60 ∨ a = 61 ∨ a = 62) with hc6 | hc6 | hc6 | hc6 | hc6 | hc6 | hc6 | hc6 | hc6 | hc6 | hc6 | hc6 | hc6 | hc6 | hc6 | hc6 | hc6 | hc6 | hc6 | hc6 | hc6 | hc6 | hc6 | hc6 | hc6 | hc6
    · refine ⟨143, 144, by rw [hc6]; rfl, by decide, ?_⟩
      refine j_iload_n hX dX11_two_144 rfl 2 rfl ?_
      refine j_if_ne (tgt := 152) hX dX11_two_145 (by decide) (by omega) (fun hc7 => ?_) (fun hc7 => ?_)
      · skip
        refine j_iload_n hX dX11_two_152 rfl 1 rfl ?_
        refine j_iload_n hX dX11_two_153 rfl 2 rfl ?_
        refine j_irem hX dX11_two_154 (by omega) (by omega) (by omega) (fun z8 hz9 hy10 => ?_)
        exact hret _ _ _ _ dX11_two_155 rfl (by omega) rfl
      · skip
        refine j_iconst hX dX11_two_148 ?_
        refine j_goto (tgt := 155) hX dX11_two_149 (by decide) ?_
        exact hret _ _ _ _ dX11_two_155 rfl (by omega) rfl
    · refine ⟨188, 189, by rw [hc6]; rfl, by decide, ?_⟩
      refine j_iload_n hX dX11_two_189 rfl 1 rfl ?_
      refine j_if_eq (tgt := 201) hX dX11_two_190 (by decide) (by omega) (fun hc11 => ?_) (fun hc11 => ?_)
      · skip
        refine j_iconst hX dX11_two_201 ?_
        exact hret _ _ _ _ dX11_two_202 rfl (by omega) rfl
      · skip
        refine j_iload_n hX dX11_two_193 rfl 2 rfl ?_
        refine j_if_eq (tgt := 201) hX dX11_two_194 (by decide) (by omega) (fun hc12 => ?_) (fun hc12 => ?_)
        · skip
          refine j_iconst hX dX11_two_201 ?_
          exact hret _ _ _ _ dX11_two_202 rfl (by omega) rfl
        · skip
          refine j_iconst hX dX11_two_197 ?_
          refine j_goto (tgt := 202) hX dX11_two_198 (by decide) ?_
          exact hret _ _ _ _ dX11_two_202 rfl (by omega) rfl
    · refine ⟨202, 203, by rw [hc6]; rfl, by decide, ?_⟩
      refine j_iload_n hX dX11_two_203 rfl 1 rfl ?_
      refine j_if_ne (tgt := 211) hX dX11_two_204 (by decide) (by omega) (fun hc13 => ?_) (fun hc13 => ?_)
      · skip
        refine j_iconst hX dX11_two_211 ?_
        refine j_goto (tgt := 216) hX dX11_two_212 (by decide) ?_
        exact hret _ _ _ _ dX11_two_216 rfl (by omega) rfl
      · skip
        refine j_iload_n hX dX11_two_207 rfl 2 rfl ?_
        refine j_if_eq (tgt := 215) hX dX11_two_208 (by decide) (by omega) (fun hc14 => ?_) (fun hc14 => ?_)
        · skip
          refine j_iconst hX dX11_two_215 ?_
          exact hret _ _ _ _ dX11_two_216 rfl (by omega) rfl
        · skip
          refine j_iconst hX dX11_two_211 ?_
          refine j_goto (tgt := 216) hX dX11_two_212 (by decide) ?_
          exact hret _ _ _ _ dX11_two_216 rfl (by omega) rfl
    · refine ⟨202, 203, by rw [hc6]; rfl, by decide, ?_⟩
      refine j_iload_n hX dX11_two_203 rfl 1 rfl ?_
      refine j_if_ne (tgt := 211) hX dX11_two_204 (by decide) (by omega) (fun hc15 => ?_) (fun hc15 => ?_)
      · skip
        refine j_iconst hX dX11_two_211 ?_
        refine j_goto (tgt := 216) hX dX11_two_212 (by decide) ?_
        exact hret _ _ _ _ dX11_two_216 rfl (by omega) rfl
      · skip
        refine j_iload_n hX dX11_two_207 rfl 2 rfl ?_
        refine j_if_eq (tgt := 215) hX dX11_two_208 (by decide) (by omega) (fun hc16 => ?_) (fun hc16 => ?_)
        · skip
          refine j_iconst hX dX11_two_215 ?_
          exact hret _ _ _ _ dX11_two_216 rfl (by omega) rfl
        · skip
          refine j_iconst hX dX11_two_211 ?_
          refine j_goto (tgt := 216) hX dX11_two_212 (by decide) ?_
          exact hret _ _ _ _ dX11_two_216 rfl (by omega) rfl
    · refine ⟨202, 203, by rw [hc6]; rfl, by decide, ?_⟩
      refine j_iload_n hX dX11_two_203 rfl 1 rfl ?_
      refine j_if_ne (tgt := 211) hX dX11_two_204 (by decide) (by omega) (fun hc17 => ?_) (fun hc17 => ?_)
      · skip
        refine j_iconst hX dX11_two_211 ?_
        refine j_goto (tgt := 216) hX dX11_two_212 (by decide) ?_
        exact hret _ _ _ _ dX11_two_216 rfl (by omega) rfl
      · skip
        refine j_iload_n hX dX11_two_207 rfl 2 rfl ?_
        refine j_if_eq (tgt := 215) hX dX11_two_208 (by decide) (by omega) (fun hc18 => ?_) (fun hc18 => ?_)
        · skip
          refine j_iconst hX dX11_two_215 ?_
          exact hret _ _ _ _ dX11_two_216 rfl (by omega) rfl
        · skip
          refine j_iconst hX dX11_two_211 ?_
          refine j_goto (tgt := 216) hX dX11_two_212 (by decide) ?_
          exact hret _ _ _ _ dX11_two_216 rfl (by omega) rfl
    · refine ⟨127, 128, by rw [hc6]; rfl, by decide, ?_⟩
      refine j_iload_n hX dX11_two_128 rfl 1 rfl ?_
      refine j_iload_n hX dX11_two_129 rfl 2 rfl ?_
      refine j_imul hX dX11_two_130 ?_
      refine j_norm (fun z19 hz20 hy21 => ?_)
      exact hret _ _ _ _ dX11_two_131 rfl (by omega) rfl
    · refine ⟨119, 120, by rw [hc6]; rfl, by decide, ?_⟩
      refine j_iload_n hX dX11_two_120 rfl 1 rfl ?_
      refine j_iload_n hX dX11_two_121 rfl 2 rfl ?_
      refine j_iadd hX dX11_two_122 ?_
      refine j_norm (fun z22 hz23 hy24 => ?_)
      exact hret _ _ _ _ dX11_two_123 rfl (by omega) rfl
    · refine ⟨202, 203, by rw [hc6]; rfl, by decide, ?_⟩
      refine j_iload_n hX dX11_two_203 rfl 1 rfl ?_
      refine j_if_ne (tgt := 211) hX dX11_two_204 (by decide) (by omega) (fun hc25 => ?_) (fun hc25 => ?_)
      · skip
        refine j_iconst hX dX11_two_211 ?_
        refine j_goto (tgt := 216) hX dX11_two_212 (by decide) ?_
        exact hret _ _ _ _ dX11_two_216 rfl (by omega) rfl
      · skip
        refine j_iload_n hX dX11_two_207 rfl 2 rfl ?_
        refine j_if_eq (tgt := 215) hX dX11_two_208 (by decide) (by omega) (fun hc26 => ?_) (fun hc26 => ?_)
        · skip
          refine j_iconst hX dX11_two_215 ?_
          exact hret _ _ _ _ dX11_two_216 rfl (by omega) rfl
        · skip
          refine j_iconst hX dX11_two_211 ?_
          refine j_goto (tgt := 216) hX dX11_two_212 (by decide) ?_
          exact hret _ _ _ _ dX11_two_216 rfl (by omega) rfl
    · refine ⟨123, 124, by rw [hc6]; rfl, by decide, ?_⟩
      refine j_iload_n hX dX11_two_124 rfl 1 rfl ?_
      refine j_iload_n hX dX11_two_125 rfl 2 rfl ?_
      refine j_isub hX dX11_two_126 ?_
      refine j_norm (fun z27 hz28 hy29 => ?_)
      exact hret _ _ _ _ dX11_two_127 rfl (by omega) rfl
    · refine ⟨202, 203, by rw [hc6]; rfl, by decide, ?_⟩
      refine j_iload_n hX dX11_two_203 rfl 1 rfl ?_
      refine j_if_ne (tgt := 211) hX dX11_two_204 (by decide) (by omega) (fun hc30 => ?_) (fun hc30 => ?_)
      · skip
        refine j_iconst hX dX11_two_211 ?_
        refine j_goto (tgt := 216) hX dX11_two_212 (by decide) ?_
        exact hret _ _ _ _ dX11_two_216 rfl (by omega) rfl
      · skip
        refine j_iload_n hX dX11_two_207 rfl 2 rfl ?_
        refine j_if_eq (tgt := 215) hX dX11_two_208 (by decide) (by omega) (fun hc31 => ?_) (fun hc31 => ?_)
        · skip
          refine j_iconst hX dX11_two_215 ?_
          exact hret _ _ _ _ dX11_two_216 rfl (by omega) rfl
        · skip
          refine j_iconst hX dX11_two_211 ?_
          refine j_goto (tgt := 216) hX dX11_two_212 (by decide) ?_
          exact hret _ _ _ _ dX11_two_216 rfl (by omega) rfl
    · refine ⟨131, 132, by rw [hc6]; rfl, by decide, ?_⟩
      refine j_iload_n hX dX11_two_132 rfl 2 rfl ?_
      refine j_if_ne (tgt := 140) hX dX11_two_133 (by decide) (by omega) (fun hc32 => ?_) (fun hc32 => ?_)
      · skip
        refine j_iload_n hX dX11_two_140 rfl 1 rfl ?_
        refine j_iload_n hX dX11_two_141 rfl 2 rfl ?_
        refine j_idiv hX dX11_two_142 (by omega) (by omega) (by omega) (fun z33 hz34 hy35 => ?_)
        exact hret _ _ _ _ dX11_two_143 rfl (by omega) rfl
      · skip
        refine j_iconst hX dX11_two_136 ?_
        refine j_goto (tgt := 143) hX dX11_two_137 (by decide) ?_
        exact hret _ _ _ _ dX11_two_143 rfl (by omega) rfl
    · refine ⟨202, 203, by rw [hc6]; rfl, by decide, ?_⟩
      refine j_iload_n hX dX11_two_203 rfl 1 rfl ?_
      refine j_if_ne (tgt := 211) hX dX11_two_204 (by decide) (by omega) (fun hc36 => ?_) (fun hc36 => ?_)
      · skip
        refine j_iconst hX dX11_two_211 ?_
        refine j_goto (tgt := 216) hX dX11_two_212 (by decide) ?_
        exact hret _ _ _ _ dX11_two_216 rfl (by omega) rfl
      · skip
        refine j_iload_n hX dX11_two_207 rfl 2 rfl ?_
        refine j_if_eq (tgt := 215) hX dX11_two_208 (by decide) (by omega) (fun hc37 => ?_) (fun hc37 => ?_)
        · skip
          refine j_iconst hX dX11_two_215 ?_
          exact hret _ _ _ _ dX11_two_216 rfl (by omega) rfl
        · skip
          refine j_iconst hX dX11_two_211 ?_
          refine j_goto (tgt := 216) hX dX11_two_212 (by decide) ?_
          exact hret _ _ _ _ dX11_two_216 rfl (by omega) rfl
    · refine ⟨202, 203, by rw [hc6]; rfl, by decide, ?_⟩
      refine j_iload_n hX dX11_two_203 rfl 1 rfl ?_
      refine j_if_ne (tgt := 211) hX dX11_two_204 (by decide) (by omega) (fun hc38 => ?_) (fun hc38 => ?_)
      · skip
        refine j_iconst hX dX11_two_211 ?_
        refine j_goto (tgt := 216) hX dX11_two_212 (by decide) ?_
        exact hret _ _ _ _ dX11_two_216 rfl (by omega) rfl
      · skip
        refine j_iload_n hX dX11_two_207 rfl 2 rfl ?_
        refine j_if_eq (tgt := 215) hX dX11_two_208 (by decide) (by omega) (fun hc39 => ?_) (fun hc39 => ?_)
        · skip
          refine j_iconst hX dX11_two_215 ?_
          exact hret _ _ _ _ dX11_two_216 rfl (by omega) rfl
        · skip
          refine j_iconst hX dX11_two_211 ?_
          refine j_goto (tgt := 216) hX dX11_two_212 (by decide) ?_
          exact hret _ _ _ _ dX11_two_216 rfl (by omega) rfl
    · refine ⟨202, 203, by rw [hc6]; rfl, by decide, ?_⟩
      refine j_iload_n hX dX11_two_203 rfl 1 rfl ?_
      refine j_if_ne (tgt := 211) hX dX11_two_204 (by decide) (by omega) (fun hc40 => ?_) (fun hc40 => ?_)
      · skip
        refine j_iconst hX dX11_two_211 ?_
        refine j_goto (tgt := 216) hX dX11_two_212 (by decide) ?_
        exact hret _ _ _ _ dX11_two_216 rfl (by omega) rfl
      · skip
        refine j_iload_n hX dX11_two_207 rfl 2 rfl ?_
        refine j_if_eq (tgt := 215) hX dX11_two_208 (by decide) (by omega) (fun hc41 => ?_) (fun hc41 => ?_)
        · skip
          refine j_iconst hX dX11_two_215 ?_
          exact hret _ _ _ _ dX11_two_216 rfl (by omega) rfl
        · skip
          refine j_iconst hX dX11_two_211 ?_
          refine j_goto (tgt := 216) hX dX11_two_212 (by decide) ?_
          exact hret _ _ _ _ dX11_two_216 rfl (by omega) rfl
    · refine ⟨202, 203, by rw [hc6]; rfl, by decide, ?_⟩
      refine j_iload_n hX dX11_two_203 rfl 1 rfl ?_
      refine j_if_ne (tgt := 211) hX dX11_two_204 (by decide) (by omega) (fun hc42 => ?_) (fun hc42 => ?_)
      · skip
        refine j_iconst hX dX11_two_211 ?_
        refine j_goto (tgt := 216) hX dX11_two_212 (by decide) ?_
        exact hret _ _ _ _ dX11_two_216 rfl (by omega) rfl
      · skip
        refine j_iload_n hX dX11_two_207 rfl 2 rfl ?_
        refine j_if_eq (tgt := 215) hX dX11_two_208 (by decide) (by omega) (fun hc43 => ?_) (fun hc43 => ?_)
        · skip
          refine j_iconst hX dX11_two_215 ?_
          exact hret _ _ _ _ dX11_two_216 rfl (by omega) rfl
        · skip
          refine j_iconst hX dX11_two_211 ?_
          refine j_goto (tgt := 216) hX dX11_two_212 (by decide) ?_
          exact hret _ _ _ _ dX11_two_216 rfl (by omega) rfl
    · refine ⟨202, 203, by rw [hc6]; rfl, by decide, ?_⟩
      refine j_iload_n hX dX11_two_203 rfl 1 rfl ?_
      refine j_if_ne (tgt := 211) hX dX11_two_204 (by decide) (by omega) (fun hc44 => ?_) (fun hc44 => ?_)
      · skip
        refine j_iconst hX dX11_two_211 ?_
        refine j_goto (tgt := 216) hX dX11_two_212 (by decide) ?_
        exact hret _ _ _ _ dX11_two_216 rfl (by omega) rfl
      · skip
        refine j_iload_n hX dX11_two_207 rfl 2 rfl ?_
        refine j_if_eq (tgt := 215) hX dX11_two_208 (by decide) (by omega) (fun hc45 => ?_) (fun hc45 => ?_)
        · skip
          refine j_iconst hX dX11_two_215 ?_
          exact hret _ _ _ _ dX11_two_216 rfl (by omega) rfl
        · skip
          refine j_iconst hX dX11_two_211 ?_
          refine j_goto (tgt := 216) hX dX11_two_212 (by decide) ?_
          exact hret _ _ _ _ dX11_two_216 rfl (by omega) rfl
    · refine ⟨202, 203, by rw [hc6]; rfl, by decide, ?_⟩
      refine j_iload_n hX dX11_two_203 rfl 1 rfl ?_
      refine j_if_ne (tgt := 211) hX dX11_two_204 (by decide) (by omega) (fun hc46 => ?_) (fun hc46 => ?_)
      · skip
        refine j_iconst hX dX11_two_211 ?_
        refine j_goto (tgt := 216) hX dX11_two_212 (by decide) ?_
        exact hret _ _ _ _ dX11_two_216 rfl (by omega) rfl
      · skip
        refine j_iload_n hX dX11_two_207 rfl 2 rfl ?_
        refine j_if_eq (tgt := 215) hX dX11_two_208 (by decide) (by omega) (fun hc47 => ?_) (fun hc47 => ?_)
        · skip
          refine j_iconst hX dX11_two_215 ?_
          exact hret _ _ _ _ dX11_two_216 rfl (by omega) rfl
        · skip
          refine j_iconst hX dX11_two_211 ?_
          refine j_goto (tgt := 216) hX dX11_two_212 (by decide) ?_
          exact hret _ _ _ _ dX11_two_216 rfl (by omega) rfl
    · refine ⟨202, 203, by rw [hc6]; rfl, by decide, ?_⟩
      refine j_iload_n hX dX11_two_203 rfl 1 rfl ?_
      refine j_if_ne (tgt := 211) hX dX11_two_204 (by decide) (by omega) (fun hc48 => ?_) (fun hc48 => ?_)
      · skip
        refine j_iconst hX dX11_two_211 ?_
        refine j_goto (tgt := 216) hX dX11_two_212 (by decide) ?_
        exact hret _ _ _ _ dX11_two_216 rfl (by omega) rfl
      · skip
        refine j_iload_n hX dX11_two_207 rfl 2 rfl ?_
        refine j_if_eq (tgt := 215) hX dX11_two_208 (by decide) (by omega) (fun hc49 => ?_) (fun hc49 => ?_)
        · skip
          refine j_iconst hX dX11_two_215 ?_
          exact hret _ _ _ _ dX11_two_216 rfl (by omega) rfl
        · skip
          refine j_iconst hX dX11_two_211 ?_
          refine j_goto (tgt := 216) hX dX11_two_212 (by decide) ?_
          exact hret _ _ _ _ dX11_two_216 rfl (by omega) rfl
    · refine ⟨202, 203, by rw [hc6]; rfl, by decide, ?_⟩
      refine j_iload_n hX dX11_two_203 rfl 1 rfl ?_
      refine j_if_ne (tgt := 211) hX dX11_two_204 (by decide) (by omega) (fun hc50 => ?_) (fun hc50 => ?_)
      · skip
        refine j_iconst hX dX11_two_211 ?_
        refine j_goto (tgt := 216) hX dX11_two_212 (by decide) ?_
        exact hret _ _ _ _ dX11_two_216 rfl (by omega) rfl
      · skip
        refine j_iload_n hX dX11_two_207 rfl 2 rfl ?_
        refine j_if_eq (tgt := 215) hX dX11_two_208 (by decide) (by omega) (fun hc51 => ?_) (fun hc51 => ?_)
        · skip
          refine j_iconst hX dX11_two_215 ?_
          exact hret _ _ _ _ dX11_two_216 rfl (by omega) rfl
        · skip
          refine j_iconst hX dX11_two_211 ?_
          refine j_goto (tgt := 216) hX dX11_two_212 (by decide) ?_
          exact hret _ _ _ _ dX11_two_216 rfl (by omega) rfl
    · refine ⟨202, 203, by rw [hc6]; rfl, by decide, ?_⟩
      refine j_iload_n hX dX11_two_203 rfl 1 rfl ?_
      refine j_if_ne (tgt := 211) hX dX11_two_204 (by decide) (by omega) (fun hc52 => ?_) (fun hc52 => ?_)
      · skip
        refine j_iconst hX dX11_two_211 ?_
        refine j_goto (tgt := 216) hX dX11_two_212 (by decide) ?_
        exact hret _ _ _ _ dX11_two_216 rfl (by omega) rfl
      · skip
        refine j_iload_n hX dX11_two_207 rfl 2 rfl ?_
        refine j_if_eq (tgt := 215) hX dX11_two_208 (by decide) (by omega) (fun hc53 => ?_) (fun hc53 => ?_)
        · skip
          refine j_iconst hX dX11_two_215 ?_
          exact hret _ _ _ _ dX11_two_216 rfl (by omega) rfl
        · skip
          refine j_iconst hX dX11_two_211 ?_
          refine j_goto (tgt := 216) hX dX11_two_212 (by decide) ?_
          exact hret _ _ _ _ dX11_two_216 rfl (by omega) rfl
    · refine ⟨202, 203, by rw [hc6]; rfl, by decide, ?_⟩
      refine j_iload_n hX dX11_two_203 rfl 1 rfl ?_
      refine j_if_ne (tgt := 211) hX dX11_two_204 (by decide) (by omega) (fun hc54 => ?_) (fun hc54 => ?_)
      · skip
        refine j_iconst hX dX11_two_211 ?_
        refine j_goto (tgt := 216) hX dX11_two_212 (by decide) ?_
        exact hret _ _ _ _ dX11_two_216 rfl (by omega) rfl
      · skip
        refine j_iload_n hX dX11_two_207 rfl 2 rfl ?_
        refine j_if_eq (tgt := 215) hX dX11_two_208 (by decide) (by omega) (fun hc55 => ?_) (fun hc55 => ?_)
        · skip
          refine j_iconst hX dX11_two_215 ?_
          exact hret _ _ _ _ dX11_two_216 rfl (by omega) rfl
        · skip
          refine j_iconst hX dX11_two_211 ?_
          refine j_goto (tgt := 216) hX dX11_two_212 (by decide) ?_
          exact hret _ _ _ _ dX11_two_216 rfl (by omega) rfl
    · refine ⟨202, 203, by rw [hc6]; rfl, by decide, ?_⟩
      refine j_iload_n hX dX11_two_203 rfl 1 rfl ?_
      refine j_if_ne (tgt := 211) hX dX11_two_204 (by decide) (by omega) (fun hc56 => ?_) (fun hc56 => ?_)
      · skip
        refine j_iconst hX dX11_two_211 ?_
        refine j_goto (tgt := 216) hX dX11_two_212 (by decide) ?_
        exact hret _ _ _ _ dX11_two_216 rfl (by omega) rfl
      · skip
        refine j_iload_n hX dX11_two_207 rfl 2 rfl ?_
        refine j_if_eq (tgt := 215) hX dX11_two_208 (by decide) (by omega) (fun hc57 => ?_) (fun hc57 => ?_)
        · skip
          refine j_iconst hX dX11_two_215 ?_
          exact hret _ _ _ _ dX11_two_216 rfl (by omega) rfl
        · skip
          refine j_iconst hX dX11_two_211 ?_
          refine j_goto (tgt := 216) hX dX11_two_212 (by decide) ?_
          exact hret _ _ _ _ dX11_two_216 rfl (by omega) rfl
    · refine ⟨202, 203, by rw [hc6]; rfl, by decide, ?_⟩
      refine j_iload_n hX dX11_two_203 rfl 1 rfl ?_
      refine j_if_ne (tgt := 211) hX dX11_two_204 (by decide) (by omega) (fun hc58 => ?_) (fun hc58 => ?_)
      · skip
        refine j_iconst hX dX11_two_211 ?_
        refine j_goto (tgt := 216) hX dX11_two_212 (by decide) ?_
        exact hret _ _ _ _ dX11_two_216 rfl (by omega) rfl
      · skip
        refine j_iload_n hX dX11_two_207 rfl 2 rfl ?_
        refine j_if_eq (tgt := 215) hX dX11_two_208 (by decide) (by omega) (fun hc59 => ?_) (fun hc59 => ?_)
        · skip
          refine j_iconst hX dX11_two_215 ?_
          exact hret _ _ _ _ dX11_two_216 rfl (by omega) rfl
        · skip
          refine j_iconst hX dX11_two_211 ?_
          refine j_goto (tgt := 216) hX dX11_two_212 (by decide) ?_
          exact hret _ _ _ _ dX11_two_216 rfl (by omega) rfl
    · refine ⟨155, 156, by rw [hc6]; rfl, by decide, ?_⟩
      refine j_iload_n hX dX11_two_156 rfl 1 rfl ?_
      refine j_iload_n hX dX11_two_157 rfl 2 rfl ?_
      refine j_icmp_ge (tgt := 165) hX dX11_two_158 (by decide) (by omega) (by omega) (fun hc60 => ?_) (fun hc60 => ?_)
      · skip
        refine j_iconst hX dX11_two_165 ?_
        exact hret _ _ _ _ dX11_two_166 rfl (by omega) rfl
      · skip
        refine j_iconst hX dX11_two_161 ?_
        refine j_goto (tgt := 166) hX dX11_two_162 (by decide) ?_
        exact hret _ _ _ _ dX11_two_166 rfl (by omega) rfl
    · refine ⟨177, 178, by rw [hc6]; rfl, by decide, ?_⟩
      refine j_iload_n hX dX11_two_178 rfl 1 rfl ?_
      refine j_iload_n hX dX11_two_179 rfl 2 rfl ?_
      refine j_icmp_ne (tgt := 187) hX dX11_two_180 (by decide) (by omega) (by omega) (fun hc61 => ?_) (fun hc61 => ?_)
      · skip
        refine j_iconst hX dX11_two_187 ?_
        exact hret _ _ _ _ dX11_two_188 rfl (by omega) rfl
      · skip
        refine j_iconst hX dX11_two_183 ?_
        refine j_goto (tgt := 188) hX dX11_two_184 (by decide) ?_
        exact hret _ _ _ _ dX11_two_188 rfl (by omega) rfl
    · refine ⟨166, 167, by rw [hc6]; rfl, by decide, ?_⟩
      refine j_iload_n hX dX11_two_167 rfl 1 rfl ?_
      refine j_iload_n hX dX11_two_168 rfl 2 rfl ?_
      refine j_icmp_le (tgt := 176) hX dX11_two_169 (by decide) (by omega) (by omega) (fun hc62 => ?_) (fun hc62 => ?_)
      · skip
        refine j_iconst hX dX11_two_176 ?_
        exact hret _ _ _ _ dX11_two_177 rfl (by omega) rfl
      · skip
        refine j_iconst hX dX11_two_172 ?_
        refine j_goto (tgt := 177) hX dX11_two_173 (by decide) ?_
        exact hret _ _ _ _ dX11_two_177 rfl (by omega) rfl
set_option maxHeartbeats 2000000 in
set_option maxRecDepth 20000 in
theorem c_X11_sign (l : Launch) (D : va_G) (cy : Nat → ClassId) (B N : Nat) (tz : Int) (a : Int) (M : MM) (hN : 257 ≤ N) (hI : Iv M) (hpa : I32 a) (htz : M.1 210 3 = tz) (h1 : 0 ≤ a) : CI l D cy B N 1 yX11_sign cX11_sign 2 (some .int) [rv B 210, iv a] M (fun z M' => M' = M ∧ (0 ≤ z ∧ z ≤ 255) ∧ (tz ≤ a → z = 0) ∧ (z = sg M a)) := by
  refine mk_CI (by decide) (Nat.le_of_ble_eq_true rfl) ?_
  intro X exl exD excy hnL hX hret
  have hce : 0 + 0 ≤ (xR X).cells ∧ 0 + 0 ≤ (xR X).slots := ⟨Nat.zero_le _, Nat.zero_le _⟩
  have htz2 : 0 ≤ tz ∧ tz ≤ 1600 := by have := hI.at 210 3 ro_210_3; omega
  show J X B N 0 0 0 [(0, rv B 210), (1, iv a)] [] M
  refine j_iload_n hX dX11_sign_0 rfl 1 rfl ?_
  refine j_aload_n hX dX11_sign_1 rfl 0 rfl ?_
  refine gf_X11_161 hX (by omega) (by omega) kc_210 dX11_sign_2 ?_
  refine j_top htz ?_
  refine j_icmp_ge (tgt := 21) hX dX11_sign_5 (by decide) (by omega) (by omega) (fun hc1 => ?_) (fun hc1 => ?_)
  · skip
    refine j_iconst hX dX11_sign_21 ?_
    exact hret _ _ _ _ dX11_sign_22 rfl (by omega) ⟨rfl, by first | assumption | omega, by first | assumption | omega, by first | exact sg_o (by omega) | exact sg_i (by omega) ‹_› ‹_›⟩
  · skip
    refine j_aload_n hX dX11_sign_8 rfl 0 rfl ?_
    refine gf_X11_13 hX (by omega) (by omega) kc_210 (fc_210_1 hI) (by decide) dX11_sign_9 ?_
    refine j_iload_n hX dX11_sign_12 rfl 1 rfl ?_
    refine j_bald hX (by omega) (by omega) kc_212 (by omega) (by omega) (by omega) dX11_sign_13 ?_
    refine j_name hI (ra_212 _) (fun v2 hv3 hl4 hh5 => ?_)
    refine j_sipush hX dX11_sign_14 rfl ?_
    refine j_iand hX dX11_sign_17 (fun z6 hz7 hy8 => ?_)
    have ha9 := (and_f hz7 (by omega) (by omega)).2 (by omega)
    refine j_goto (tgt := 22) hX dX11_sign_18 (by decide) ?_
    exact hret _ _ _ _ dX11_sign_22 rfl (by omega) ⟨rfl, by first | assumption | omega, by first | assumption | omega, by first | exact sg_o (by omega) | exact sg_i (by omega) ‹_› ‹_›⟩
