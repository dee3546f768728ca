theorem dX11_fails_0 : decode cX11_fails 0 = .ok (.aload_n 0, 1) := by decide +kernel
theorem dX11_fails_1 : decode cX11_fails 1 = .ok (.getfield 164, 3) := by decide +kernel
theorem dX11_fails_4 : decode cX11_fails 4 = .ok (.ifCond .le 4, 3) := by decide +kernel
theorem dX11_fails_7 : decode cX11_fails 7 = .ok (.return_, 1) := by decide +kernel
theorem dX11_fails_8 : decode cX11_fails 8 = .ok (.aload_n 0, 1) := by decide +kernel
theorem dX11_fails_9 : decode cX11_fails 9 = .ok (.iload_n 1, 1) := by decide +kernel
theorem dX11_fails_10 : decode cX11_fails 10 = .ok (.putfield 164, 3) := by decide +kernel
theorem dX11_fails_13 : decode cX11_fails 13 = .ok (.aload_n 0, 1) := by decide +kernel
theorem dX11_fails_14 : decode cX11_fails 14 = .ok (.iload_n 2, 1) := by decide +kernel
theorem dX11_fails_15 : decode cX11_fails 15 = .ok (.putfield 16, 3) := by decide +kernel
theorem dX11_fails_18 : decode cX11_fails 18 = .ok (.return_, 1) := by decide +kernel
theorem dX11_isGood_0 : decode cX11_isGood 0 = .ok (.aload_n 0, 1) := by decide +kernel
theorem dX11_isGood_1 : decode cX11_isGood 1 = .ok (.getfield 164, 3) := by decide +kernel
theorem dX11_isGood_4 : decode cX11_isGood 4 = .ok (.ifCond .ne 7, 3) := by decide +kernel
theorem dX11_isGood_7 : decode cX11_isGood 7 = .ok (.iconst 1, 1) := by decide +kernel
theorem dX11_isGood_8 : decode cX11_isGood 8 = .ok (.goto 4, 3) := by decide +kernel
theorem dX11_isGood_11 : decode cX11_isGood 11 = .ok (.iconst 0, 1) := by decide +kernel
theorem dX11_isGood_12 : decode cX11_isGood 12 = .ok (.ireturn, 1) := by decide +kernel
theorem dX11_misplaced_0 : decode cX11_misplaced 0 = .ok (.aload_n 0, 1) := by decide +kernel
theorem dX11_misplaced_1 : decode cX11_misplaced 1 = .ok (.aload_n 0, 1) := by decide +kernel
theorem dX11_misplaced_2 : decode cX11_misplaced 2 = .ok (.getfield 221, 3) := by decide +kernel
theorem dX11_misplaced_5 : decode cX11_misplaced 5 = .ok (.iconst 1, 1) := by decide +kernel
theorem dX11_misplaced_6 : decode cX11_misplaced 6 = .ok (.if_icmp .ne 7, 3) := by decide +kernel
theorem dX11_misplaced_9 : decode cX11_misplaced 9 = .ok (.iconst 1, 1) := by decide +kernel
theorem dX11_misplaced_10 : decode cX11_misplaced 10 = .ok (.goto 4, 3) := by decide +kernel
theorem dX11_misplaced_13 : decode cX11_misplaced 13 = .ok (.iconst 2, 1) := by decide +kernel
theorem dX11_misplaced_14 : decode cX11_misplaced 14 = .ok (.aload_n 0, 1) := by decide +kernel
theorem dX11_misplaced_15 : decode cX11_misplaced 15 = .ok (.getfield 214, 3) := by decide +kernel
theorem dX11_misplaced_18 : decode cX11_misplaced 18 = .ok (.invokevirtual 245, 3) := by decide +kernel
theorem dX11_misplaced_21 : decode cX11_misplaced 21 = .ok (.return_, 1) := by decide +kernel
theorem dX11_isSignHere_0 : decode cX11_isSignHere 0 = .ok (.aload_n 0, 1) := by decide +kernel
theorem dX11_isSignHere_1 : decode cX11_isSignHere 1 = .ok (.getfield 221, 3) := by decide +kernel
theorem dX11_isSignHere_4 : decode cX11_isSignHere 4 = .ok (.iconst 5, 1) := by decide +kernel
theorem dX11_isSignHere_5 : decode cX11_isSignHere 5 = .ok (.if_icmp .ne 19, 3) := by decide +kernel
theorem dX11_isSignHere_8 : decode cX11_isSignHere 8 = .ok (.aload_n 0, 1) := by decide +kernel
theorem dX11_isSignHere_9 : decode cX11_isSignHere 9 = .ok (.aload_n 0, 1) := by decide +kernel
theorem dX11_isSignHere_10 : decode cX11_isSignHere 10 = .ok (.getfield 214, 3) := by decide +kernel
theorem dX11_isSignHere_13 : decode cX11_isSignHere 13 = .ok (.invokevirtual 217, 3) := by decide +kernel
theorem dX11_isSignHere_16 : decode cX11_isSignHere 16 = .ok (.iload_n 1, 1) := by decide +kernel
theorem dX11_isSignHere_17 : decode cX11_isSignHere 17 = .ok (.if_icmp .ne 7, 3) := by decide +kernel
theorem dX11_isSignHere_20 : decode cX11_isSignHere 20 = .ok (.iconst 1, 1) := by decide +kernel
theorem dX11_isSignHere_21 : decode cX11_isSignHere 21 = .ok (.goto 4, 3) := by decide +kernel
theorem dX11_isSignHere_24 : decode cX11_isSignHere 24 = .ok (.iconst 0, 1) := by decide +kernel
theorem dX11_isSignHere_25 : decode cX11_isSignHere 25 = .ok (.ireturn, 1) := by decide +kernel
theorem dX11_isWord_0 : decode cX11_isWord 0 = .ok (.aload_n 0, 1) := by decide +kernel
theorem dX11_isWord_1 : decode cX11_isWord 1 = .ok (.getfield 221, 3) := by decide +kernel
theorem dX11_isWord_4 : decode cX11_isWord 4 = .ok (.iconst 3, 1) := by decide +kernel
theorem dX11_isWord_5 : decode cX11_isWord 5 = .ok (.if_icmp .ne 16, 3) := by decide +kernel
theorem dX11_isWord_8 : decode cX11_isWord 8 = .ok (.aload_n 0, 1) := by decide +kernel
theorem dX11_isWord_9 : decode cX11_isWord 9 = .ok (.getfield 228, 3) := by decide +kernel
theorem dX11_isWord_12 : decode cX11_isWord 12 = .ok (.lload_n 1, 1) := by decide +kernel
theorem dX11_isWord_13 : decode cX11_isWord 13 = .ok (.lcmp, 1) := by decide +kernel
theorem dX11_isWord_14 : decode cX11_isWord 14 = .ok (.ifCond .ne 7, 3) := by decide +kernel
theorem dX11_isWord_17 : decode cX11_isWord 17 = .ok (.iconst 1, 1) := by decide +kernel
theorem dX11_isWord_18 : decode cX11_isWord 18 = .ok (.goto 4, 3) := by decide +kernel
theorem dX11_isWord_21 : decode cX11_isWord 21 = .ok (.iconst 0, 1) := by decide +kernel
theorem dX11_isWord_22 : decode cX11_isWord 22 = .ok (.ireturn, 1) := by decide +kernel
theorem dX11_goOn_0 : decode cX11_goOn 0 = .ok (.aload_n 0, 1) := by decide +kernel
theorem dX11_goOn_1 : decode cX11_goOn 1 = .ok (.aload_n 0, 1) := by decide +kernel
theorem dX11_goOn_2 : decode cX11_goOn 2 = .ok (.getfield 211, 3) := by decide +kernel
theorem dX11_goOn_5 : decode cX11_goOn 5 = .ok (.putfield 214, 3) := by decide +kernel
theorem dX11_goOn_8 : decode cX11_goOn 8 = .ok (.aload_n 0, 1) := by decide +kernel
theorem dX11_goOn_9 : decode cX11_goOn 9 = .ok (.getfield 214, 3) := by decide +kernel
theorem dX11_goOn_12 : decode cX11_goOn 12 = .ok (.aload_n 0, 1) := by decide +kernel
theorem dX11_goOn_13 : decode cX11_goOn 13 = .ok (.getfield 161, 3) := by decide +kernel
theorem dX11_goOn_16 : decode cX11_goOn 16 = .ok (.if_icmp .ge 42, 3) := by decide +kernel
theorem dX11_goOn_19 : decode cX11_goOn 19 = .ok (.aload_n 0, 1) := by decide +kernel
theorem dX11_goOn_20 : decode cX11_goOn 20 = .ok (.aload_n 0, 1) := by decide +kernel
theorem dX11_goOn_21 : decode cX11_goOn 21 = .ok (.getfield 214, 3) := by decide +kernel
theorem dX11_goOn_24 : decode cX11_goOn 24 = .ok (.invokevirtual 217, 3) := by decide +kernel
theorem dX11_goOn_27 : decode cX11_goOn 27 = .ok (.bipush 32, 2) := by decide +kernel
theorem dX11_goOn_29 : decode cX11_goOn 29 = .ok (.if_icmp .eq 16, 3) := by decide +kernel
theorem dX11_goOn_32 : decode cX11_goOn 32 = .ok (.aload_n 0, 1) := by decide +kernel
theorem dX11_goOn_33 : decode cX11_goOn 33 = .ok (.aload_n 0, 1) := by decide +kernel
theorem dX11_goOn_34 : decode cX11_goOn 34 = .ok (.getfield 214, 3) := by decide +kernel
theorem dX11_goOn_37 : decode cX11_goOn 37 = .ok (.invokevirtual 217, 3) := by decide +kernel
theorem dX11_goOn_40 : decode cX11_goOn 40 = .ok (.bipush 10, 2) := by decide +kernel
theorem dX11_goOn_42 : decode cX11_goOn 42 = .ok (.if_icmp .ne 16, 3) := by decide +kernel
theorem dX11_goOn_45 : decode cX11_goOn 45 = .ok (.aload_n 0, 1) := by decide +kernel
theorem dX11_goOn_46 : decode cX11_goOn 46 = .ok (.dup, 1) := by decide +kernel
theorem dX11_goOn_47 : decode cX11_goOn 47 = .ok (.getfield 214, 3) := by decide +kernel
theorem dX11_goOn_50 : decode cX11_goOn 50 = .ok (.iconst 1, 1) := by decide +kernel
theorem dX11_goOn_51 : decode cX11_goOn 51 = .ok (.iadd, 1) := by decide +kernel
theorem dX11_goOn_52 : decode cX11_goOn 52 = .ok (.putfield 214, 3) := by decide +kernel
theorem dX11_goOn_55 : decode cX11_goOn 55 = .ok (.goto (-47), 3) := by decide +kernel
theorem dX11_goOn_58 : decode cX11_goOn 58 = .ok (.aload_n 0, 1) := by decide +kernel
theorem dX11_goOn_59 : decode cX11_goOn 59 = .ok (.aload_n 0, 1) := by decide +kernel
theorem dX11_goOn_60 : decode cX11_goOn 60 = .ok (.getfield 214, 3) := by decide +kernel
theorem dX11_goOn_63 : decode cX11_goOn 63 = .ok (.invokevirtual 217, 3) := by decide +kernel
theorem dX11_goOn_66 : decode cX11_goOn 66 = .ok (.istore_n 1, 1) := by decide +kernel
theorem dX11_goOn_67 : decode cX11_goOn 67 = .ok (.aload_n 0, 1) := by decide +kernel
theorem dX11_goOn_68 : decode cX11_goOn 68 = .ok (.aload_n 0, 1) := by decide +kernel
theorem dX11_goOn_69 : decode cX11_goOn 69 = .ok (.getfield 214, 3) := by decide +kernel
theorem dX11_goOn_72 : decode cX11_goOn 72 = .ok (.iconst 1, 1) := by decide +kernel
theorem dX11_goOn_73 : decode cX11_goOn 73 = .ok (.iadd, 1) := by decide +kernel
theorem dX11_goOn_74 : decode cX11_goOn 74 = .ok (.putfield 211, 3) := by decide +kernel
theorem dX11_goOn_77 : decode cX11_goOn 77 = .ok (.aload_n 0, 1) := by decide +kernel
theorem dX11_goOn_78 : decode cX11_goOn 78 = .ok (.getfield 214, 3) := by decide +kernel
theorem dX11_goOn_81 : decode cX11_goOn 81 = .ok (.aload_n 0, 1) := by decide +kernel
theorem dX11_goOn_82 : decode cX11_goOn 82 = .ok (.getfield 161, 3) := by decide +kernel
theorem dX11_goOn_85 : decode cX11_goOn 85 = .ok (.if_icmp .lt 27, 3) := by decide +kernel
theorem dX11_goOn_88 : decode cX11_goOn 88 = .ok (.aload_n 0, 1) := by decide +kernel
theorem dX11_goOn_89 : decode cX11_goOn 89 = .ok (.iconst 0, 1) := by decide +kernel
theorem dX11_goOn_90 : decode cX11_goOn 90 = .ok (.putfield 221, 3) := by decide +kernel
theorem dX11_goOn_93 : decode cX11_goOn 93 = .ok (.aload_n 0, 1) := by decide +kernel
theorem dX11_goOn_94 : decode cX11_goOn 94 = .ok (.aload_n 0, 1) := by decide +kernel
theorem dX11_goOn_95 : decode cX11_goOn 95 = .ok (.getfield 161, 3) := by decide +kernel
theorem dX11_goOn_98 : decode cX11_goOn 98 = .ok (.putfield 214, 3) := by decide +kernel
theorem dX11_goOn_101 : decode cX11_goOn 101 = .ok (.aload_n 0, 1) := by decide +kernel
theorem dX11_goOn_102 : decode cX11_goOn 102 = .ok (.aload_n 0, 1) := by decide +kernel
theorem dX11_goOn_103 : decode cX11_goOn 103 = .ok (.getfield 161, 3) := by decide +kernel
theorem dX11_goOn_106 : decode cX11_goOn 106 = .ok (.putfield 211, 3) := by decide +kernel
theorem dX11_goOn_109 : decode cX11_goOn 109 = .ok (.goto 268, 3) := by decide +kernel
theorem dX11_goOn_112 : decode cX11_goOn 112 = .ok (.iload_n 1, 1) := by decide +kernel
theorem dX11_goOn_113 : decode cX11_goOn 113 = .ok (.invokestatic 224, 3) := by decide +kernel
theorem dX11_goOn_116 : decode cX11_goOn 116 = .ok (.ifCond .eq 123, 3) := by decide +kernel
theorem dX11_goOn_119 : decode cX11_goOn 119 = .ok (.aload_n 0, 1) := by decide +kernel
theorem dX11_goOn_120 : decode cX11_goOn 120 = .ok (.aload_n 0, 1) := by decide +kernel
theorem dX11_goOn_121 : decode cX11_goOn 121 = .ok (.getfield 211, 3) := by decide +kernel
theorem dX11_goOn_124 : decode cX11_goOn 124 = .ok (.invokevirtual 217, 3) := by decide +kernel
theorem dX11_goOn_127 : decode cX11_goOn 127 = .ok (.invokestatic 224, 3) := by decide +kernel
theorem dX11_goOn_130 : decode cX11_goOn 130 = .ok (.ifCond .eq 16, 3) := by decide +kernel
theorem dX11_goOn_133 : decode cX11_goOn 133 = .ok (.aload_n 0, 1) := by decide +kernel
theorem dX11_goOn_134 : decode cX11_goOn 134 = .ok (.dup, 1) := by decide +kernel
theorem dX11_goOn_135 : decode cX11_goOn 135 = .ok (.getfield 211, 3) := by decide +kernel
theorem dX11_goOn_138 : decode cX11_goOn 138 = .ok (.iconst 1, 1) := by decide +kernel
theorem dX11_goOn_139 : decode cX11_goOn 139 = .ok (.iadd, 1) := by decide +kernel
theorem dX11_goOn_140 : decode cX11_goOn 140 = .ok (.putfield 211, 3) := by decide +kernel
theorem dX11_goOn_143 : decode cX11_goOn 143 = .ok (.goto (-24), 3) := by decide +kernel
theorem dX11_goOn_146 : decode cX11_goOn 146 = .ok (.aload_n 0, 1) := by decide +kernel
theorem dX11_goOn_147 : decode cX11_goOn 147 = .ok (.lconst 0, 1) := by decide +kernel
theorem dX11_goOn_148 : decode cX11_goOn 148 = .ok (.putfield 228, 3) := by decide +kernel
theorem dX11_goOn_151 : decode cX11_goOn 151 = .ok (.aload_n 0, 1) := by decide +kernel
theorem dX11_goOn_152 : decode cX11_goOn 152 = .ok (.getfield 214, 3) := by decide +kernel
theorem dX11_goOn_155 : decode cX11_goOn 155 = .ok (.istore_n 2, 1) := by decide +kernel
theorem dX11_goOn_156 : decode cX11_goOn 156 = .ok (.iload_n 2, 1) := by decide +kernel
theorem dX11_goOn_157 : decode cX11_goOn 157 = .ok (.aload_n 0, 1) := by decide +kernel
theorem dX11_goOn_158 : decode cX11_goOn 158 = .ok (.getfield 211, 3) := by decide +kernel
theorem dX11_goOn_161 : decode cX11_goOn 161 = .ok (.if_icmp .ge 38, 3) := by decide +kernel
theorem dX11_goOn_164 : decode cX11_goOn 164 = .ok (.iload_n 2, 1) := by decide +kernel
theorem dX11_goOn_165 : decode cX11_goOn 165 = .ok (.aload_n 0, 1) := by decide +kernel
theorem dX11_goOn_166 : decode cX11_goOn 166 = .ok (.getfield 214, 3) := by decide +kernel
theorem dX11_goOn_169 : decode cX11_goOn 169 = .ok (.bipush 8, 2) := by decide +kernel
theorem dX11_goOn_171 : decode cX11_goOn 171 = .ok (.iadd, 1) := by decide +kernel
theorem dX11_goOn_172 : decode cX11_goOn 172 = .ok (.if_icmp .ge 27, 3) := by decide +kernel
theorem dX11_goOn_175 : decode cX11_goOn 175 = .ok (.aload_n 0, 1) := by decide +kernel
theorem dX11_goOn_176 : decode cX11_goOn 176 = .ok (.aload_n 0, 1) := by decide +kernel
theorem dX11_goOn_177 : decode cX11_goOn 177 = .ok (.getfield 228, 3) := by decide +kernel
theorem dX11_goOn_180 : decode cX11_goOn 180 = .ok (.bipush 8, 2) := by decide +kernel
theorem dX11_goOn_182 : decode cX11_goOn 182 = .ok (.lshl, 1) := by decide +kernel
theorem dX11_goOn_183 : decode cX11_goOn 183 = .ok (.aload_n 0, 1) := by decide +kernel
theorem dX11_goOn_184 : decode cX11_goOn 184 = .ok (.iload_n 2, 1) := by decide +kernel
theorem dX11_goOn_185 : decode cX11_goOn 185 = .ok (.invokevirtual 217, 3) := by decide +kernel
theorem dX11_goOn_188 : decode cX11_goOn 188 = .ok (.i2l, 1) := by decide +kernel
theorem dX11_goOn_189 : decode cX11_goOn 189 = .ok (.lor, 1) := by decide +kernel
theorem dX11_goOn_190 : decode cX11_goOn 190 = .ok (.putfield 228, 3) := by decide +kernel
theorem dX11_goOn_193 : decode cX11_goOn 193 = .ok (.iinc 2 1, 3) := by decide +kernel
theorem dX11_goOn_196 : decode cX11_goOn 196 = .ok (.goto (-40), 3) := by decide +kernel
theorem dX11_goOn_199 : decode cX11_goOn 199 = .ok (.aload_n 0, 1) := by decide +kernel
theorem dX11_goOn_200 : decode cX11_goOn 200 = .ok (.aload_n 0, 1) := by decide +kernel
theorem dX11_goOn_201 : decode cX11_goOn 201 = .ok (.getfield 211, 3) := by decide +kernel
theorem dX11_goOn_204 : decode cX11_goOn 204 = .ok (.aload_n 0, 1) := by decide +kernel
theorem dX11_goOn_205 : decode cX11_goOn 205 = .ok (.getfield 214, 3) := by decide +kernel
theorem dX11_goOn_208 : decode cX11_goOn 208 = .ok (.isub, 1) := by decide +kernel
theorem dX11_goOn_209 : decode cX11_goOn 209 = .ok (.bipush 8, 2) := by decide +kernel
theorem dX11_goOn_211 : decode cX11_goOn 211 = .ok (.if_icmp .le 7, 3) := by decide +kernel
theorem dX11_goOn_214 : decode cX11_goOn 214 = .ok (.iconst 1, 1) := by decide +kernel
theorem dX11_goOn_215 : decode cX11_goOn 215 = .ok (.goto 18, 3) := by decide +kernel
theorem dX11_goOn_218 : decode cX11_goOn 218 = .ok (.aload_n 0, 1) := by decide +kernel
theorem dX11_goOn_219 : decode cX11_goOn 219 = .ok (.getfield 228, 3) := by decide +kernel
theorem dX11_goOn_222 : decode cX11_goOn 222 = .ok (.invokestatic 232, 3) := by decide +kernel
theorem dX11_goOn_225 : decode cX11_goOn 225 = .ok (.ifCond .eq 7, 3) := by decide +kernel
theorem dX11_goOn_228 : decode cX11_goOn 228 = .ok (.iconst 3, 1) := by decide +kernel
theorem dX11_goOn_229 : decode cX11_goOn 229 = .ok (.goto 4, 3) := by decide +kernel
theorem dX11_goOn_232 : decode cX11_goOn 232 = .ok (.iconst 2, 1) := by decide +kernel
theorem dX11_goOn_233 : decode cX11_goOn 233 = .ok (.putfield 221, 3) := by decide +kernel
theorem dX11_goOn_236 : decode cX11_goOn 236 = .ok (.goto 141, 3) := by decide +kernel
theorem dX11_goOn_239 : decode cX11_goOn 239 = .ok (.iload_n 1, 1) := by decide +kernel
theorem dX11_goOn_240 : decode cX11_goOn 240 = .ok (.invokestatic 236, 3) := by decide +kernel
theorem dX11_goOn_243 : decode cX11_goOn 243 = .ok (.ifCond .eq 118, 3) := by decide +kernel
theorem dX11_goOn_246 : decode cX11_goOn 246 = .ok (.aload_n 0, 1) := by decide +kernel
theorem dX11_goOn_247 : decode cX11_goOn 247 = .ok (.iconst 0, 1) := by decide +kernel
theorem dX11_goOn_248 : decode cX11_goOn 248 = .ok (.putfield 239, 3) := by decide +kernel
theorem dX11_goOn_251 : decode cX11_goOn 251 = .ok (.aload_n 0, 1) := by decide +kernel
theorem dX11_goOn_252 : decode cX11_goOn 252 = .ok (.aload_n 0, 1) := by decide +kernel
theorem dX11_goOn_253 : decode cX11_goOn 253 = .ok (.getfield 214, 3) := by decide +kernel
theorem dX11_goOn_256 : decode cX11_goOn 256 = .ok (.putfield 211, 3) := by decide +kernel
theorem dX11_goOn_259 : decode cX11_goOn 259 = .ok (.aload_n 0, 1) := by decide +kernel
theorem dX11_goOn_260 : decode cX11_goOn 260 = .ok (.aload_n 0, 1) := by decide +kernel
theorem dX11_goOn_261 : decode cX11_goOn 261 = .ok (.getfield 211, 3) := by decide +kernel
theorem dX11_goOn_264 : decode cX11_goOn 264 = .ok (.invokevirtual 217, 3) := by decide +kernel
theorem dX11_goOn_267 : decode cX11_goOn 267 = .ok (.invokestatic 236, 3) := by decide +kernel
theorem dX11_goOn_270 : decode cX11_goOn 270 = .ok (.ifCond .eq 52, 3) := by decide +kernel
theorem dX11_goOn_273 : decode cX11_goOn 273 = .ok (.aload_n 0, 1) := by decide +kernel
theorem dX11_goOn_274 : decode cX11_goOn 274 = .ok (.getfield 211, 3) := by decide +kernel
theorem dX11_goOn_277 : decode cX11_goOn 277 = .ok (.aload_n 0, 1) := by decide +kernel
theorem dX11_goOn_278 : decode cX11_goOn 278 = .ok (.getfield 214, 3) := by decide +kernel
theorem dX11_goOn_281 : decode cX11_goOn 281 = .ok (.isub, 1) := by decide +kernel
theorem dX11_goOn_282 : decode cX11_goOn 282 = .ok (.iconst 4, 1) := by decide +kernel
theorem dX11_goOn_283 : decode cX11_goOn 283 = .ok (.if_icmp .ge 26, 3) := by decide +kernel
theorem dX11_goOn_286 : decode cX11_goOn 286 = .ok (.aload_n 0, 1) := by decide +kernel
theorem dX11_goOn_287 : decode cX11_goOn 287 = .ok (.bipush 10, 2) := by decide +kernel
theorem dX11_goOn_289 : decode cX11_goOn 289 = .ok (.aload_n 0, 1) := by decide +kernel
theorem dX11_goOn_290 : decode cX11_goOn 290 = .ok (.getfield 239, 3) := by decide +kernel
theorem dX11_goOn_293 : decode cX11_goOn 293 = .ok (.imul, 1) := by decide +kernel
theorem dX11_goOn_294 : decode cX11_goOn 294 = .ok (.aload_n 0, 1) := by decide +kernel
theorem dX11_goOn_295 : decode cX11_goOn 295 = .ok (.aload_n 0, 1) := by decide +kernel
theorem dX11_goOn_296 : decode cX11_goOn 296 = .ok (.getfield 211, 3) := by decide +kernel
theorem dX11_goOn_299 : decode cX11_goOn 299 = .ok (.invokevirtual 217, 3) := by decide +kernel
theorem dX11_goOn_302 : decode cX11_goOn 302 = .ok (.iadd, 1) := by decide +kernel
theorem dX11_goOn_303 : decode cX11_goOn 303 = .ok (.bipush 48, 2) := by decide +kernel
theorem dX11_goOn_305 : decode cX11_goOn 305 = .ok (.isub, 1) := by decide +kernel
theorem dX11_goOn_306 : decode cX11_goOn 306 = .ok (.putfield 239, 3) := by decide +kernel
theorem dX11_goOn_309 : decode cX11_goOn 309 = .ok (.aload_n 0, 1) := by decide +kernel
theorem dX11_goOn_310 : decode cX11_goOn 310 = .ok (.dup, 1) := by decide +kernel
theorem dX11_goOn_311 : decode cX11_goOn 311 = .ok (.getfield 211, 3) := by decide +kernel
theorem dX11_goOn_314 : decode cX11_goOn 314 = .ok (.iconst 1, 1) := by decide +kernel
theorem dX11_goOn_315 : decode cX11_goOn 315 = .ok (.iadd, 1) := by decide +kernel
theorem dX11_goOn_316 : decode cX11_goOn 316 = .ok (.putfield 211, 3) := by decide +kernel
theorem dX11_goOn_319 : decode cX11_goOn 319 = .ok (.goto (-60), 3) := by decide +kernel
theorem dX11_goOn_322 : decode cX11_goOn 322 = .ok (.aload_n 0, 1) := by decide +kernel
theorem dX11_goOn_323 : decode cX11_goOn 323 = .ok (.aload_n 0, 1) := by decide +kernel
theorem dX11_goOn_324 : decode cX11_goOn 324 = .ok (.getfield 211, 3) := by decide +kernel
theorem dX11_goOn_327 : decode cX11_goOn 327 = .ok (.aload_n 0, 1) := by decide +kernel
theorem dX11_goOn_328 : decode cX11_goOn 328 = .ok (.getfield 214, 3) := by decide +kernel
theorem dX11_goOn_331 : decode cX11_goOn 331 = .ok (.isub, 1) := by decide +kernel
theorem dX11_goOn_332 : decode cX11_goOn 332 = .ok (.iconst 4, 1) := by decide +kernel
theorem dX11_goOn_333 : decode cX11_goOn 333 = .ok (.if_icmp .gt 17, 3) := by decide +kernel
theorem dX11_goOn_336 : decode cX11_goOn 336 = .ok (.aload_n 0, 1) := by decide +kernel
theorem dX11_goOn_337 : decode cX11_goOn 337 = .ok (.aload_n 0, 1) := by decide +kernel
theorem dX11_goOn_338 : decode cX11_goOn 338 = .ok (.getfield 211, 3) := by decide +kernel
theorem dX11_goOn_341 : decode cX11_goOn 341 = .ok (.invokevirtual 217, 3) := by decide +kernel
theorem dX11_goOn_344 : decode cX11_goOn 344 = .ok (.invokestatic 224, 3) := by decide +kernel
theorem dX11_goOn_347 : decode cX11_goOn 347 = .ok (.ifCond .eq 7, 3) := by decide +kernel
theorem dX11_goOn_350 : decode cX11_goOn 350 = .ok (.iconst 1, 1) := by decide +kernel
theorem dX11_goOn_351 : decode cX11_goOn 351 = .ok (.goto 4, 3) := by decide +kernel
theorem dX11_goOn_354 : decode cX11_goOn 354 = .ok (.iconst 4, 1) := by decide +kernel
theorem dX11_goOn_355 : decode cX11_goOn 355 = .ok (.putfield 221, 3) := by decide +kernel
theorem dX11_goOn_358 : decode cX11_goOn 358 = .ok (.goto 19, 3) := by decide +kernel
theorem dX11_goOn_361 : decode cX11_goOn 361 = .ok (.aload_n 0, 1) := by decide +kernel
theorem dX11_goOn_362 : decode cX11_goOn 362 = .ok (.iload_n 1, 1) := by decide +kernel
theorem dX11_goOn_363 : decode cX11_goOn 363 = .ok (.invokestatic 242, 3) := by decide +kernel
theorem dX11_goOn_366 : decode cX11_goOn 366 = .ok (.ifCond .eq 7, 3) := by decide +kernel
theorem dX11_goOn_369 : decode cX11_goOn 369 = .ok (.iconst 5, 1) := by decide +kernel
theorem dX11_goOn_370 : decode cX11_goOn 370 = .ok (.goto 4, 3) := by decide +kernel
theorem dX11_goOn_373 : decode cX11_goOn 373 = .ok (.iconst 1, 1) := by decide +kernel
theorem dX11_goOn_374 : decode cX11_goOn 374 = .ok (.putfield 221, 3) := by decide +kernel
theorem dX11_goOn_377 : decode cX11_goOn 377 = .ok (.return_, 1) := by decide +kernel
set_option maxHeartbeats 2000000 in
set_option maxRecDepth 20000 in
theorem c_X11_fails (l : Launch) (D : va_G) (cy : Nat → ClassId) (B N : Nat) (m : Int) (a : Int) (b : Int) (M : MM) (hN : 257 ≤ N) (hI : Iv M) (hpa : I32 a) (hpb : I32 b) (hML : ML m M) (h1 : 1 ≤ a) : CV l D cy B N 1 yX11_fails cX11_fails 3 none [rv B 210, iv a, iv b] M (fun M' => Iv M' ∧ Fr (fun a b => (a = 210 ∧ 4 ≤ b ∧ b ≤ 5)) M M' ∧ (ML m M') ∧ (M'.1 210 4 ≠ 0)) := by
  refine mk_CV (by decide) (Nat.le_of_ble_eq_true rfl) ?_
  intro X exl exD excy hnL hX hret
  have hce : 0 + 0 ≤ (xR X).cells ∧ 0 + 0 ≤ (xR X).slots := ⟨Nat.zero_le _, Nat.zero_le _⟩
  have hF : Fr (fun a b => (a = 210 ∧ 4 ≤ b ∧ b ≤ 5)) M M := Fr.rf
  have hk1 : M.1 210 4 = M.1 210 4 := rfl
  show J X B N 0 0 0 [(0, rv B 210), (1, iv a), (2, iv b)] [] M
  refine j_aload_n hX dX11_fails_0 rfl 0 rfl ?_
  refine gf_X11_164 hX (by omega) (by omega) kc_210 dX11_fails_1 ?_
  refine j_name hI ro_210_4 (fun v2 hv3 hl4 hh5 => ?_)
  have hk6 := hv3.symm
  refine j_if_le (tgt := 8) hX dX11_fails_4 (by decide) (by omega) (fun hc7 => ?_) (fun hc7 => ?_)
  · skip
    refine j_aload_n hX dX11_fails_8 rfl 0 rfl ?_
    refine j_iload_n hX dX11_fails_9 rfl 1 rfl ?_
    refine pf_X11_164 hX (by omega) (by omega) kc_210 (by omega) dX11_fails_10 ?_
    refine j_up hI ro_210_4 (by omega) (by omega) (Or.inl (by omega)) (fun M8 w9 hw10 hM11 hI12 hf13 => ?_)
    clear hk6
    have hF15 := Fr.put hF hM11 (by omega)
    refine j_aload_n hX dX11_fails_13 rfl 0 rfl ?_
    refine j_iload_n hX dX11_fails_14 rfl 2 rfl ?_
    refine pf_X11_16 hX (by omega) (by omega) kc_210 (by omega) dX11_fails_15 ?_
    refine j_up hI12 ro_210_5 (by omega) (by omega) (Or.inl (by omega)) (fun M16 w17 hw18 hM19 hI20 hf21 => ?_)
    have hk22 := kp_up hM19 (fun h => absurd h.2 (by decide)) hf13
    clear hf13
    have hF23 := Fr.put hF15 hM19 (by omega)
    exact hret _ _ _ dX11_fails_18 ⟨hI20, hF23, ML_bad (ML_0 hML) (by omega), by first | assumption | omega⟩
  · skip
    exact hret _ _ _ dX11_fails_7 ⟨hI, hF, ML_bad (ML_0 hML) (by omega), by first | assumption | omega⟩
set_option maxHeartbeats 2000000 in
set_option maxRecDepth 20000 in
theorem c_X11_isGood (l : Launch) (D : va_G) (cy : Nat → ClassId) (B N : Nat) (M : MM) (hN : 257 ≤ N) (hI : Iv M) : CI l D cy B N 1 yX11_isGood cX11_isGood 1 (some .boolean) [rv B 210] M (fun z M' => M' = M ∧ (0 ≤ z ∧ z ≤ 1) ∧ (z = 1 → M.1 210 4 = 0) ∧ (z = 0 → M.1 210 4 ≠ 0)) := by
  refine mk_CI (by decide) (Nat.le_of_ble_eq_true rfl) ?_
  intro X exl exD excy hnL hX hret
  have hce : 0 + 0 ≤ (xR X).cells ∧ 0 + 0 ≤ (xR X).slots := ⟨Nat.zero_le _, Nat.zero_le _⟩
  show J X B N 0 0 0 [(0, rv B 210)] [] M
  refine j_aload_n hX dX11_isGood_0 rfl 0 rfl ?_
  refine gf_X11_164 hX (by omega) (by omega) kc_210 dX11_isGood_1 ?_
  refine j_name hI ro_210_4 (fun v1 hv2 hl3 hh4 => ?_)
  have hk5 := hv2.symm
  refine j_if_ne (tgt := 11) hX dX11_isGood_4 (by decide) (by omega) (fun hc6 => ?_) (fun hc6 => ?_)
  · skip
    refine j_iconst hX dX11_isGood_11 ?_
    exact hret _ _ _ _ dX11_isGood_12 (nb (by omega)) (by omega) ⟨rfl, by omega, by first | assumption | omega, by first | assumption | omega⟩
  · skip
    refine j_iconst hX dX11_isGood_7 ?_
    refine j_goto (tgt := 12) hX dX11_isGood_8 (by decide) ?_
    exact hret _ _ _ _ dX11_isGood_12 (nb (by omega)) (by omega) ⟨rfl, by omega, by first | assumption | omega, by first | assumption | omega⟩
set_option maxHeartbeats 2000000 in
set_option maxRecDepth 20000 in
theorem c_X11_misplaced (l : Launch) (D : va_G) (cy : Nat → ClassId) (B N : Nat) (m : Int) (M : MM) (hN : 257 ≤ N) (hI : Iv M) (hML : ML m M) : CV l D cy B N 2 yX11_misplaced cX11_misplaced 1 none [rv B 210] M (fun M' => Iv M' ∧ Fr (fun a b => (a = 210 ∧ 4 ≤ b ∧ b ≤ 5)) M M' ∧ (ML m M') ∧ (M'.1 210 4 ≠ 0)) := by
  refine mk_CV (by decide) (Nat.le_of_ble_eq_true rfl) ?_
  intro X exl exD excy hnL hX hret
  have hce : 0 + 0 ≤ (xR X).cells ∧ 0 + 0 ≤ (xR X).slots := ⟨Nat.zero_le _, Nat.zero_le _⟩
  have hF : Fr (fun a b => (a = 210 ∧ 4 ≤ b ∧ b ≤ 5)) M M := Fr.rf
  have hk1 : M.1 210 4 = M.1 210 4 := rfl
  show J X B N 0 0 0 [(0, rv B 210)] [] M
  refine j_aload_n hX dX11_misplaced_0 rfl 0 rfl ?_
  refine j_aload_n hX dX11_misplaced_1 rfl 0 rfl ?_
  refine gf_X11_221 hX (by omega) (by omega) kc_210 dX11_misplaced_2 ?_
  refine j_name hI ro_210_8 (fun v2 hv3 hl4 hh5 => ?_)
  have hk6 := hv3.symm
  refine j_iconst hX dX11_misplaced_5 ?_
  refine j_icmp_ne (tgt := 13) hX dX11_misplaced_6 (by decide) (by omega) (by omega) (fun hc7 => ?_) (fun hc7 => ?_)
  · skip
    refine j_iconst hX dX11_misplaced_13 ?_
    refine j_aload_n hX dX11_misplaced_14 rfl 0 rfl ?_
    refine gf_X11_214 hX (by omega) (by omega) kc_210 dX11_misplaced_15 ?_
    refine j_name hI ro_210_6 (fun v8 hv9 hl10 hh11 => ?_)
    have hk12 := hv9.symm
    refine j_callVV hX lk_X11_245 (c_X11_fails _ _ _ _ _ _ _ _ _ (by omega) hI (by omega) (by omega) hML (by first | assumption | omega)) (by omega) hce rfl rfl (by omega) (by omega) kc_210 rfl rfl (Nat.le_of_ble_eq_true rfl) dX11_misplaced_18 (fun M14 hp15 => ?_)
    obtain ⟨hI18, hG19, hq20, hq21⟩ := hp15
    have hk23 := kp_fr hG19 (by omega) hk6
    have hk24 := kp_fr hG19 (by omega) hk12
    clear hk1 hk6 hk12
    have hF25 := Fr.trans hF hG19 (fun a b h => by omega)
    have hk26 : M14.1 210 4 = M14.1 210 4 := rfl
    exact hret _ _ _ dX11_misplaced_21 ⟨hI18, hF25, by first | assumption | omega, by first | assumption | omega⟩
  · skip
    refine j_iconst hX dX11_misplaced_9 ?_
    refine j_goto (tgt := 14) hX dX11_misplaced_10 (by decide) ?_
    refine j_aload_n hX dX11_misplaced_14 rfl 0 rfl ?_
    refine gf_X11_214 hX (by omega) (by omega) kc_210 dX11_misplaced_15 ?_
    refine j_name hI ro_210_6 (fun v27 hv28 hl29 hh30 => ?_)
    have hk31 := hv28.symm
    refine j_callVV hX lk_X11_245 (c_X11_fails _ _ _ _ _ _ _ _ _ (by omega) hI (by omega) (by omega) hML (by first | assumption | omega)) (by omega) hce rfl rfl (by omega) (by omega) kc_210 rfl rfl (Nat.le_of_ble_eq_true rfl) dX11_misplaced_18 (fun M33 hp34 => ?_)
    obtain ⟨hI37, hG38, hq39, hq40⟩ := hp34
    have hk42 := kp_fr hG38 (by omega) hk6
    have hk43 := kp_fr hG38 (by omega) hk31
    clear hk1 hk6 hk31
    have hF44 := Fr.trans hF hG38 (fun a b h => by omega)
    have hk45 : M33.1 210 4 = M33.1 210 4 := rfl
    exact hret _ _ _ dX11_misplaced_21 ⟨hI37, hF44, by first | assumption | omega, by first | assumption | omega⟩
set_option maxHeartbeats 2000000 in
set_option maxRecDepth 20000 in
theorem c_X11_isSignHere (l : Launch) (D : va_G) (cy : Nat → ClassId) (B N : Nat) (a : Int) (M : MM) (hN : 257 ≤ N) (hI : Iv M) (hpa : I32 a) : CI l D cy B N 2 yX11_isSignHere cX11_isSignHere 2 (some .boolean) [rv B 210, iv a] M (fun z M' => M' = M ∧ (0 ≤ z ∧ z ≤ 1) ∧ (z = 1 → sg M (M.1 210 6) = a) ∧ (z = 1 → M.1 210 8 = 5)) := by
  refine mk_CI (by decide) (Nat.le_of_ble_eq_true rfl) ?_
  intro X exl exD excy hnL hX hret
  have hce : 0 + 0 ≤ (xR X).cells ∧ 0 + 0 ≤ (xR X).slots := ⟨Nat.zero_le _, Nat.zero_le _⟩
  show J X B N 0 0 0 [(0, rv B 210), (1, iv a)] [] M
  refine j_aload_n hX dX11_isSignHere_0 rfl 0 rfl ?_
  refine gf_X11_221 hX (by omega) (by omega) kc_210 dX11_isSignHere_1 ?_
  refine j_name hI ro_210_8 (fun v1 hv2 hl3 hh4 => ?_)
  have hk5 := hv2.symm
  refine j_iconst hX dX11_isSignHere_4 ?_
  refine j_icmp_ne (tgt := 24) hX dX11_isSignHere_5 (by decide) (by omega) (by omega) (fun hc6 => ?_) (fun hc6 => ?_)
  · skip
    refine j_iconst hX dX11_isSignHere_24 ?_
    exact hret _ _ _ _ dX11_isSignHere_25 (nb (by omega)) (by omega) ⟨rfl, by omega, by first | assumption | omega, by first | assumption | omega⟩
  · skip
    refine j_aload_n hX dX11_isSignHere_8 rfl 0 rfl ?_
    refine j_aload_n hX dX11_isSignHere_9 rfl 0 rfl ?_
    refine gf_X11_214 hX (by omega) (by omega) kc_210 dX11_isSignHere_10 ?_
    refine j_name hI ro_210_6 (fun v7 hv8 hl9 hh10 => ?_)
    have hk11 := hv8.symm
    refine j_callVI hX lk_X11_217 (c_X11_sign _ _ _ _ _ _ _ _ (by omega) hI (by omega) (by first | assumption | rfl) (by first | assumption | omega)) (by omega) hce rfl rfl (by omega) (by omega) kc_210 rfl rfl (Nat.le_of_ble_eq_true rfl) dX11_isSignHere_13 (fun z12 M13 hz15 hp14 => ?_)
    obtain ⟨hE16, hq17, hq18, hq19⟩ := hp14
    replace hE16 := hE16.symm
    subst hE16
    have hsg : z12 = sg M (M.1 210 6) := by rw [(by assumption : M.1 210 6 = _)]; exact hq19
    refine j_iload_n hX dX11_isSignHere_16 rfl 1 rfl ?_
    refine j_icmp_ne (tgt := 24) hX dX11_isSignHere_17 (by decide) (by omega) (by omega) (fun hc20 => ?_) (fun hc20 => ?_)
    · skip
      refine j_iconst hX dX11_isSignHere_24 ?_
      exact hret _ _ _ _ dX11_isSignHere_25 (nb (by omega)) (by omega) ⟨rfl, by omega, by first | assumption | omega, by first | assumption | omega⟩
    · skip
      refine j_iconst hX dX11_isSignHere_20 ?_
      refine j_goto (tgt := 25) hX dX11_isSignHere_21 (by decide) ?_
      exact hret _ _ _ _ dX11_isSignHere_25 (nb (by omega)) (by omega) ⟨rfl, by omega, by first | assumption | omega, by first | assumption | omega⟩
set_option maxHeartbeats 2000000 in
set_option maxRecDepth 20000 in
theorem c_X11_isWord (l : Launch) (D : va_G) (cy : Nat → ClassId) (B N : Nat) (a : Int64) (M : MM) (hN : 257 ≤ N) (hI : Iv M) : CI l D cy B N 1 yX11_isWord cX11_isWord 3 (some .boolean) [rv B 210, .long a] M (fun z M' => M' = M ∧ (0 ≤ z ∧ z ≤ 1) ∧ (z = 1 → M.1 210 8 = 3 ∧ M.2 210 10 = a) ∧ (z = 0 → ¬ (M.1 210 8 = 3 ∧ M.2 210 10 = a))) := by
  refine mk_CI (by decide) (Nat.le_of_ble_eq_true rfl) ?_
  intro X exl exD excy hnL hX hret
  have hce : 0 + 0 ≤ (xR X).cells ∧ 0 + 0 ≤ (xR X).slots := ⟨Nat.zero_le _, Nat.zero_le _⟩
  show J X B N 0 0 0 [(0, rv B 210), (1, .long a)] [] M
  refine j_aload_n hX dX11_isWord_0 rfl 0 rfl ?_
  refine gf_X11_221 hX (by omega) (by omega) kc_210 dX11_isWord_1 ?_
  refine j_name hI ro_210_8 (fun v1 hv2 hl3 hh4 => ?_)
  have hk5 := hv2.symm
  refine j_iconst hX dX11_isWord_4 ?_
  refine j_icmp_ne (tgt := 21) hX dX11_isWord_5 (by decide) (by omega) (by omega) (fun hc6 => ?_) (fun hc6 => ?_)
  · skip
    refine j_iconst hX dX11_isWord_21 ?_
    exact hret _ _ _ _ dX11_isWord_22 (nb (by omega)) (by omega) ⟨rfl, by omega, by first | (intro h; exfalso; omega) | exact fun _ => ⟨by omega, (‹_ ↔ _›).1 (by omega)⟩, by first | (intro h; exfalso; omega) | exact fun _ q => absurd q.1 (by omega) | exact fun _ q => absurd ((‹_ ↔ _›).2 q.2) (by omega)⟩
  · skip
    refine j_aload_n hX dX11_isWord_8 rfl 0 rfl ?_
    refine gf_X11_228 hX (by omega) (by omega) kc_210 dX11_isWord_9 ?_
    refine j_lload_n hX dX11_isWord_12 rfl 1 rfl ?_
    refine j_lcmp hX dX11_isWord_13 (fun z7 hz8 hy9 he10 => ?_)
    refine j_if_ne (tgt := 21) hX dX11_isWord_14 (by decide) (by omega) (fun hc11 => ?_) (fun hc11 => ?_)
    · skip
      refine j_iconst hX dX11_isWord_21 ?_
      exact hret _ _ _ _ dX11_isWord_22 (nb (by omega)) (by omega) ⟨rfl, by omega, by first | (intro h; exfalso; omega) | exact fun _ => ⟨by omega, (‹_ ↔ _›).1 (by omega)⟩, by first | (intro h; exfalso; omega) | exact fun _ q => absurd q.1 (by omega) | exact fun _ q => absurd ((‹_ ↔ _›).2 q.2) (by omega)⟩
    · skip
      refine j_iconst hX dX11_isWord_17 ?_
      refine j_goto (tgt := 22) hX dX11_isWord_18 (by decide) ?_
      exact hret _ _ _ _ dX11_isWord_22 (nb (by omega)) (by omega) ⟨rfl, by omega, by first | (intro h; exfalso; omega) | exact fun _ => ⟨by omega, (‹_ ↔ _›).1 (by omega)⟩, by first | (intro h; exfalso; omega) | exact fun _ q => absurd q.1 (by omega) | exact fun _ q => absurd ((‹_ ↔ _›).2 q.2) (by omega)⟩
set_option maxHeartbeats 2000000 in
set_option maxRecDepth 20000 in
theorem c_X11_goOn (l : Launch) (D : va_G) (cy : Nat → ClassId) (B N : Nat) (m : Int) (tz : Int) (M : MM) (hN : 257 ≤ N) (hI : Iv M) (htz : M.1 210 3 = tz) (hML : ML m M) : CV l D cy B N 2 yX11_goOn cX11_goOn 3 none [rv B 210] M (fun M' => Iv M' ∧ Fr (fun a b => (a = 210 ∧ 6 ≤ b ∧ b ≤ 10)) M M' ∧ (ML m M') ∧ (M.1 210 4 = 0 → M.1 210 8 ≠ 0 → ML (m - 1) M')) := by
  refine mk_CV (by decide) (Nat.le_of_ble_eq_true rfl) ?_
  intro X exl exD excy hnL hX hret
  have hce : 0 + 0 ≤ (xR X).cells ∧ 0 + 0 ≤ (xR X).slots := ⟨Nat.zero_le _, Nat.zero_le _⟩
  have hF : Fr (fun a b => (a = 210 ∧ 6 ≤ b ∧ b ≤ 10)) M M := Fr.rf
  have hk1 : M.1 210 4 = M.1 210 4 := rfl
  have htz2 : 0 ≤ tz ∧ tz ≤ 1600 := by have := hI.at 210 3 ro_210_3; omega
  have cp : ∀ n : Nat, (∀ (ca : Int), ∀ (Mc : MM), Iv Mc → Fr (fun a b => (a = 210 ∧ 6 ≤ b ∧ b ≤ 10)) M Mc → Mc.1 210 6 = ca → Mc.1 210 3 = tz → (M.1 210 7 ≤ ca ∧ ca ≤ 1600 ∧ 0 ≤ ca) → 0 ≤ 32 * (10000 + 1600 - ca) + 5 → 32 * (10000 + 1600 - ca) + 5 < (n : Int) → J X B N 0 0 8 [(0, rv B 210)] [] Mc) ∧ (∀ (ca : Int), ∀ (Mc : MM), Iv Mc → Fr (fun a b => (a = 210 ∧ 6 ≤ b ∧ b ≤ 10)) M Mc → Mc.1 210 6 = ca → Mc.1 210 3 = tz → (M.1 210 7 ≤ ca ∧ ca ≤ 1600 ∧ 0 ≤ ca) → 0 ≤ 32 * (8000 + 1600 - ca) + 4 → 32 * (8000 + 1600 - ca) + 4 < (n : Int) → J X B N 0 0 58 [(0, rv B 210)] [] Mc) ∧ (∀ (x1 : Int), ∀ (ca ce : Int), ∀ (Mc : MM), I32 x1 → Iv Mc → Fr (fun a b => (a = 210 ∧ 6 ≤ b ∧ b ≤ 10)) M Mc → Mc.1 210 6 = ca → Mc.1 210 7 = ce → Mc.1 210 3 = tz → (M.1 210 7 ≤ ca ∧ 0 ≤ ca ∧ ca < ce ∧ ce ≤ tz) → 0 ≤ 32 * (4000 + 1600 - ce) + 3 → 32 * (4000 + 1600 - ce) + 3 < (n : Int) → J X B N 0 0 119 [(0, rv B 210), (1, iv x1)] [] Mc) ∧ (∀ (x1 x2 : Int), ∀ (ca ce : Int), ∀ (Mc : MM), I32 x1 → I32 x2 → Iv Mc → Fr (fun a b => (a = 210 ∧ 6 ≤ b ∧ b ≤ 10)) M Mc → Mc.1 210 6 = ca → Mc.1 210 7 = ce → Mc.1 210 3 = tz → (M.1 210 7 ≤ ca ∧ 0 ≤ ca ∧ ca < ce ∧ ce ≤ tz ∧ ca ≤ x2 ∧ x2 ≤ 1608) → 0 ≤ 32 * (1610 - x2) + 2 → 32 * (1610 - x2) + 2 < (n : Int) → J X B N 0 0 156 [(0, rv B 210), (1, iv x1), (2, iv x2)] [] Mc) ∧ (∀ (x1 : Int), ∀ (ca ce : Int), ∀ (Mc : MM), I32 x1 → Iv Mc → Fr (fun a b => (a = 210 ∧ 6 ≤ b ∧ b ≤ 10)) M Mc → Mc.1 210 6 = ca → Mc.1 210 7 = ce → Mc.1 210 3 = tz → x1 = sg Mc ca → (M.1 210 7 ≤ ca ∧ 0 ≤ ca ∧ ca ≤ ce ∧ ce ≤ tz ∧ 48 ≤ x1 ∧ x1 ≤ 57 ∧ ca < tz) → 0 ≤ 32 * (4000 + 1600 - ce) + 1 → 32 * (4000 + 1600 - ce) + 1 < (n : Int) → J X B N 0 0 259 [(0, rv B 210), (1, iv x1)] [] Mc) := by
    intro n
    induction n with
    | zero => exact ⟨by intros; exfalso; omega, by intros; exfalso; omega, by intros; exfalso; omega, by intros; exfalso; omega, by intros; exfalso; omega⟩
    | succ n ih =>
      refine ⟨?_, ?_, ?_, ?_, ?_⟩
      · intro ca Mc hI hF hk_0 hk_1 h2 hm0 hm1
        have hk2 : Mc.1 210 4 = Mc.1 210 4 := rfl
        refine j_aload_n hX dX11_goOn_8 rfl 0 rfl ?_
        refine gf_X11_214 hX (by omega) (by omega) kc_210 dX11_goOn_9 ?_
        refine j_top hk_0 ?_
        refine j_aload_n hX dX11_goOn_12 rfl 0 rfl ?_
        refine gf_X11_161 hX (by omega) (by omega) kc_210 dX11_goOn_13 ?_
        refine j_top hk_1 ?_
        refine j_icmp_ge (tgt := 58) hX dX11_goOn_16 (by decide) (by omega) (by omega) (fun hc3 => ?_) (fun hc3 => ?_)
        · skip
          exact ih.2.1 _ _ hI hF hk_0 hk_1 (by first | assumption | omega) (by omega) (by omega)
        · skip
          refine j_aload_n hX dX11_goOn_19 rfl 0 rfl ?_
          refine j_aload_n hX dX11_goOn_20 rfl 0 rfl ?_
          refine gf_X11_214 hX (by omega) (by omega) kc_210 dX11_goOn_21 ?_
          refine j_top hk_0 ?_
          refine j_callVI hX lk_X11_217 (c_X11_sign _ _ _ _ _ _ _ _ (by omega) hI (by omega) hk_1 (by first | assumption | omega)) (by omega) hce rfl rfl (by omega) (by omega) kc_210 rfl rfl (Nat.le_of_ble_eq_true rfl) dX11_goOn_24 (fun z4 M5 hz7 hp6 => ?_)
          obtain ⟨hE8, hq9, hq10, hq11⟩ := hp6
          replace hE8 := hE8.symm
          subst hE8
          refine j_bipush hX dX11_goOn_27 rfl ?_
          refine j_icmp_eq (tgt := 45) hX dX11_goOn_29 (by decide) (by omega) (by omega) (fun hc12 => ?_) (fun hc12 => ?_)
          · skip
            refine j_aload_n hX dX11_goOn_45 rfl 0 rfl ?_
            refine j_dup hX dX11_goOn_46 rfl ?_
            refine gf_X11_214 hX (by omega) (by omega) kc_210 dX11_goOn_47 ?_
            refine j_top hk_0 ?_
            refine j_iconst hX dX11_goOn_50 ?_
            refine j_iadd hX dX11_goOn_51 ?_
            refine pf_X11_214 hX (by omega) (by omega) kc_210 (by omega) dX11_goOn_52 ?_
            refine j_up hI ro_210_6 (by omega) (by omega) (Or.inl (by omega)) (fun M13 w14 hw15 hM16 hI17 hf18 => ?_)
            have hk19 := kp_up hM16 (fun h => absurd h.2 (by decide)) hk_1
            have hk20 := kp_up hM16 (fun h => absurd h.2 (by decide)) hk2
            clear hk2
            have hF21 := Fr.put hF hM16 (by omega)
            refine j_goto (tgt := 8) hX dX11_goOn_55 (by decide) ?_
            exact ih.1 _ _ hI17 hF21 hf18 hk19 (by first | assumption | omega) (by omega) (by omega)
          · skip
            refine j_aload_n hX dX11_goOn_32 rfl 0 rfl ?_
            refine j_aload_n hX dX11_goOn_33 rfl 0 rfl ?_
            refine gf_X11_214 hX (by omega) (by omega) kc_210 dX11_goOn_34 ?_
            refine j_top hk_0 ?_
            refine j_callVI hX lk_X11_217 (c_X11_sign _ _ _ _ _ _ _ _ (by omega) hI (by omega) hk_1 (by first | assumption | omega)) (by omega) hce rfl rfl (by omega) (by omega) kc_210 rfl rfl (Nat.le_of_ble_eq_true rfl) dX11_goOn_37 (fun z22 M23 hz25 hp24 => ?_)
            obtain ⟨hE26, hq27, hq28, hq29⟩ := hp24
            replace hE26 := hE26.symm
            subst hE26
            refine j_bipush hX dX11_goOn_40 rfl ?_
            refine j_icmp_ne (tgt := 58) hX dX11_goOn_42 (by decide) (by omega) (by omega) (fun hc30 => ?_) (fun hc30 => ?_)
            · skip
              exact ih.2.1 _ _ hI hF hk_0 hk_1 (by first | assumption | omega) (by omega) (by omega)
            · skip
              refine j_aload_n hX dX11_goOn_45 rfl 0 rfl ?_
              refine j_dup hX dX11_goOn_46 rfl ?_
              refine gf_X11_214 hX (by omega) (by omega) kc_210 dX11_goOn_47 ?_
              refine j_top hk_0 ?_
              refine j_iconst hX dX11_goOn_50 ?_
              refine j_iadd hX dX11_goOn_51 ?_
              refine pf_X11_214 hX (by omega) (by omega) kc_210 (by omega) dX11_goOn_52 ?_
              refine j_up hI ro_210_6 (by omega) (by omega) (Or.inl (by omega)) (fun M31 w32 hw33 hM34 hI35 hf36 => ?_)
              have hk37 := kp_up hM34 (fun h => absurd h.2 (by decide)) hk_1
              have hk38 := kp_up hM34 (fun h => absurd h.2 (by decide)) hk2
              clear hk2
              have hF39 := Fr.put hF hM34 (by omega)
              refine j_goto (tgt := 8) hX dX11_goOn_55 (by decide) ?_
              exact ih.1 _ _ hI35 hF39 hf36 hk37 (by first | assumption | omega) (by omega) (by omega)
      · intro ca Mc hI hF hk_0 hk_1 h2 hm0 hm1
        have hk40 : Mc.1 210 4 = Mc.1 210 4 := rfl
        refine j_aload_n hX dX11_goOn_58 rfl 0 rfl ?_
        refine j_aload_n hX dX11_goOn_59 rfl 0 rfl ?_
        refine gf_X11_214 hX (by omega) (by omega) kc_210 dX11_goOn_60 ?_
        refine j_top hk_0 ?_
        refine j_callVI hX lk_X11_217 (c_X11_sign _ _ _ _ _ _ _ _ (by omega) hI (by omega) hk_1 (by first | assumption | omega)) (by omega) hce rfl rfl (by omega) (by omega) kc_210 rfl rfl (Nat.le_of_ble_eq_true rfl) dX11_goOn_63 (fun z41 M42 hz44 hp43 => ?_)
        obtain ⟨hE45, hq46, hq47, hq48⟩ := hp43
        replace hE45 := hE45.symm
        subst hE45
        refine j_istore_n (lv' := [(1, _), (0, _)]) hX dX11_goOn_66 rfl (by rw [hnL]; decide) rfl ?_
        refine j_aload_n hX dX11_goOn_67 rfl 1 rfl ?_
        refine j_aload_n hX dX11_goOn_68 rfl 1 rfl ?_
        refine gf_X11_214 hX (by omega) (by omega) kc_210 dX11_goOn_69 ?_
        refine j_top hk_0 ?_
        refine j_iconst hX dX11_goOn_72 ?_
        refine j_iadd hX dX11_goOn_73 ?_
        refine pf_X11_211 hX (by omega) (by omega) kc_210 (by omega) dX11_goOn_74 ?_
        refine j_upR (fun M49 w50 hw51 hM52 hf53 => ?_)
        have hV54 := sg_dp (M' := M49) hq48 (fun a b h => by rw [hM52]; exact up_ne (by omega))
        have hk55 := kp_up hM52 (fun h => absurd h.2 (by decide)) hk_0
        have hk56 := kp_up hM52 (fun h => absurd h.2 (by decide)) hk_1
        have hk57 := kp_up hM52 (fun h => absurd h.2 (by decide)) hk40
        clear hk40
        have hF58 := Fr.put hF hM52 (by omega)
        refine j_aload_n hX dX11_goOn_77 rfl 1 rfl ?_
        refine gf_X11_214 hX (by omega) (by omega) kc_210 dX11_goOn_78 ?_
        refine j_top hk55 ?_
        refine j_aload_n hX dX11_goOn_81 rfl 1 rfl ?_
        refine gf_X11_161 hX (by omega) (by omega) kc_210 dX11_goOn_82 ?_
        refine j_top hk56 ?_
        refine j_icmp_lt (tgt := 112) hX dX11_goOn_85 (by decide) (by omega) (by omega) (fun hc59 => ?_) (fun hc59 => ?_)
        · skip
          have hI60 : Iv M49 := iv_r1 hI hM52 (by omega) (by omega)
          refine j_iload_n hX dX11_goOn_112 rfl 0 rfl ?_
          refine j_callSI hX lk_X11_224 (c_X11_isLetter _ _ _ _ _ _ _ (by omega)) (by omega) hce rfl rfl (Nat.le_of_ble_eq_true rfl) dX11_goOn_113 (fun z61 M62 hz64 hp63 => ?_)
          obtain ⟨hE65, hb66, hq67, hq68⟩ := hp63
          replace hE65 := hE65.symm
          subst hE65
          refine j_if_eq (tgt := 239) hX dX11_goOn_116 (by decide) (by omega) (fun hc69 => ?_) (fun hc69 => ?_)
          · skip
            clear hq67
            have hi70 := hq68 (by omega)
            clear hq68
            refine j_iload_n hX dX11_goOn_239 rfl 0 rfl ?_
            refine j_callSI hX lk_X11_236 (c_X11_isDigit _ _ _ _ _ _ _ (by omega)) (by omega) hce rfl rfl (Nat.le_of_ble_eq_true rfl) dX11_goOn_240 (fun z71 M72 hz74 hp73 => ?_)
            obtain ⟨hE75, hb76, hq77, hq78⟩ := hp73
            replace hE75 := hE75.symm
            subst hE75
            refine j_if_eq (tgt := 361) hX dX11_goOn_243 (by decide) (by omega) (fun hc79 => ?_) (fun hc79 => ?_)
            · skip
              clear hq77
              have hi80 := hq78 (by omega)
              clear hq78
              refine j_aload_n hX dX11_goOn_361 rfl 1 rfl ?_
              refine j_iload_n hX dX11_goOn_362 rfl 0 rfl ?_
              refine j_callSI hX lk_X11_242 (c_X11_isSign _ _ _ _ _ _ _ (by omega)) (by omega) hce rfl rfl (Nat.le_of_ble_eq_true rfl) dX11_goOn_363 (fun z81 M82 hz84 hp83 => ?_)
              obtain ⟨hE85, hb86⟩ := hp83
              replace hE85 := hE85.symm
              subst hE85
              refine j_if_eq (tgt := 373) hX dX11_goOn_366 (by decide) (by omega) (fun hc87 => ?_) (fun hc87 => ?_)
              · skip
                refine j_iconst hX dX11_goOn_373 ?_
                refine pf_X11_221 hX (by omega) (by omega) kc_210 (by omega) dX11_goOn_374 ?_
                refine j_up hI60 ro_210_8 (by omega) (by omega) (Or.inl (by omega)) (fun M88 w89 hw90 hM91 hI92 hf93 => ?_)
                have hV94 := sg_dp (M' := M88) hV54 (fun a b h => by rw [hM91]; exact up_ne (by omega))
                have hk95 := kp_up hM91 (fun h => absurd h.2 (by decide)) hk55
                have hk96 := kp_up hM91 (fun h => absurd h.2 (by decide)) hk56
                have hk97 := kp_up hM91 (fun h => absurd h.2 (by decide)) hk57
                have hk98 := kp_up hM91 (fun h => absurd h.2 (by decide)) hf53
                clear hk55 hk56 hk57 hf53
                have hF99 := Fr.put hF58 hM91 (by omega)
                exact hret _ _ _ dX11_goOn_377 ⟨hI92, hF99, (ML_go hML (hF99 210 3 (by omega)) (hF99 210 4 (by omega)) (by omega) (by omega)).1, (ML_go hML (hF99 210 3 (by omega)) (hF99 210 4 (by omega)) (by omega) (by omega)).2⟩
              · skip
                refine j_iconst hX dX11_goOn_369 ?_
                refine j_goto (tgt := 374) hX dX11_goOn_370 (by decide) ?_
                refine pf_X11_221 hX (by omega) (by omega) kc_210 (by omega) dX11_goOn_374 ?_
                refine j_up hI60 ro_210_8 (by omega) (by omega) (Or.inl (by omega)) (fun M100 w101 hw102 hM103 hI104 hf105 => ?_)
                have hV106 := sg_dp (M' := M100) hV54 (fun a b h => by rw [hM103]; exact up_ne (by omega))
                have hk107 := kp_up hM103 (fun h => absurd h.2 (by decide)) hk55
                have hk108 := kp_up hM103 (fun h => absurd h.2 (by decide)) hk56
                have hk109 := kp_up hM103 (fun h => absurd h.2 (by decide)) hk57
                have hk110 := kp_up hM103 (fun h => absurd h.2 (by decide)) hf53
                clear hk55 hk56 hk57 hf53
                have hF111 := Fr.put hF58 hM103 (by omega)
                exact hret _ _ _ dX11_goOn_377 ⟨hI104, hF111, (ML_go hML (hF111 210 3 (by omega)) (hF111 210 4 (by omega)) (by omega) (by omega)).1, (ML_go hML (hF111 210 3 (by omega)) (hF111 210 4 (by omega)) (by omega) (by omega)).2⟩
            · skip
              have hi112 := hq77 (by omega)
              clear hq77
              clear hq78
              refine j_aload_n hX dX11_goOn_246 rfl 1 rfl ?_
              refine j_iconst hX dX11_goOn_247 ?_
              refine pf_X11_239 hX (by omega) (by omega) kc_210 (by omega) dX11_goOn_248 ?_
              refine j_up hI60 ro_210_9 (by omega) (by omega) (Or.inl (by omega)) (fun M113 w114 hw115 hM116 hI117 hf118 => ?_)
              have hV119 := sg_dp (M' := M113) hV54 (fun a b h => by rw [hM116]; exact up_ne (by omega))
              have hk120 := kp_up hM116 (fun h => absurd h.2 (by decide)) hk55
              have hk121 := kp_up hM116 (fun h => absurd h.2 (by decide)) hk56
              have hk122 := kp_up hM116 (fun h => absurd h.2 (by decide)) hk57
              have hk123 := kp_up hM116 (fun h => absurd h.2 (by decide)) hf53
              clear hk55 hk56 hk57 hf53
              have hF124 := Fr.put hF58 hM116 (by omega)
              refine j_aload_n hX dX11_goOn_251 rfl 1 rfl ?_
              refine j_aload_n hX dX11_goOn_252 rfl 1 rfl ?_
              refine gf_X11_214 hX (by omega) (by omega) kc_210 dX11_goOn_253 ?_
              refine j_top hk120 ?_
              refine pf_X11_211 hX (by omega) (by omega) kc_210 (by omega) dX11_goOn_256 ?_
              refine j_up hI117 ro_210_7 (by omega) (by omega) (Or.inl (by omega)) (fun M125 w126 hw127 hM128 hI129 hf130 => ?_)
              have hV131 := sg_dp (M' := M125) hV119 (fun a b h => by rw [hM128]; exact up_ne (by omega))
              have hk132 := kp_up hM128 (fun h => absurd h.2 (by decide)) hk120
              have hk133 := kp_up hM128 (fun h => absurd h.2 (by decide)) hk121
              have hk134 := kp_up hM128 (fun h => absurd h.2 (by decide)) hk122
              have hk135 := kp_up hM128 (fun h => absurd h.2 (by decide)) hf118
              clear hk120 hk121 hk122 hk123 hf118
              have hF136 := Fr.put hF124 hM128 (by omega)
              refine j_sub [1, 0] rfl ?_
              exact ih.2.2.2.2 _ _ _ _ (by omega) hI129 hF136 hk132 hf130 hk133 hV131 (by first | assumption | omega) (by omega) (by omega)
          · skip
            have hi137 := hq67 (by omega)
            clear hq67
            clear hq68
            refine j_sub [1, 0] rfl ?_
            exact ih.2.2.1 _ _ _ _ (by omega) hI60 hF58 hk55 hf53 hk56 (by first | assumption | omega) (by omega) (by omega)
        · skip
          refine j_aload_n hX dX11_goOn_88 rfl 1 rfl ?_
          refine j_iconst hX dX11_goOn_89 ?_
          refine pf_X11_221 hX (by omega) (by omega) kc_210 (by omega) dX11_goOn_90 ?_
          refine j_upR (fun M138 w139 hw140 hM141 hf142 => ?_)
          have hV143 := sg_dp (M' := M138) hV54 (fun a b h => by rw [hM141]; exact up_ne (by omega))
          have hk144 := kp_up hM141 (fun h => absurd h.2 (by decide)) hk55
          have hk145 := kp_up hM141 (fun h => absurd h.2 (by decide)) hk56
          have hk146 := kp_up hM141 (fun h => absurd h.2 (by decide)) hk57
          have hk147 := kp_up hM141 (fun h => absurd h.2 (by decide)) hf53
          clear hk55 hk56 hk57 hf53
          have hF148 := Fr.put hF58 hM141 (by omega)
          refine j_aload_n hX dX11_goOn_93 rfl 1 rfl ?_
          refine j_aload_n hX dX11_goOn_94 rfl 1 rfl ?_
          refine gf_X11_161 hX (by omega) (by omega) kc_210 dX11_goOn_95 ?_
          refine j_top hk145 ?_
          refine pf_X11_214 hX (by omega) (by omega) kc_210 (by omega) dX11_goOn_98 ?_
          refine j_upR (fun M149 w150 hw151 hM152 hf153 => ?_)
          have hV154 := sg_dp (M' := M149) hV143 (fun a b h => by rw [hM152]; exact up_ne (by omega))
          have hk155 := kp_up hM152 (fun h => absurd h.2 (by decide)) hk145
          have hk156 := kp_up hM152 (fun h => absurd h.2 (by decide)) hk146
          have hk157 := kp_up hM152 (fun h => absurd h.2 (by decide)) hk147
          have hk158 := kp_up hM152 (fun h => absurd h.2 (by decide)) hf142
          clear hk144 hk145 hk146 hk147 hf142
          have hF159 := Fr.put hF148 hM152 (by omega)
          refine j_aload_n hX dX11_goOn_101 rfl 1 rfl ?_
          refine j_aload_n hX dX11_goOn_102 rfl 1 rfl ?_
          refine gf_X11_161 hX (by omega) (by omega) kc_210 dX11_goOn_103 ?_
          refine j_top hk155 ?_
          refine pf_X11_211 hX (by omega) (by omega) kc_210 (by omega) dX11_goOn_106 ?_
          refine j_upR (fun M160 w161 hw162 hM163 hf164 => ?_)
          have hV165 := sg_dp (M' := M160) hV154 (fun a b h => by rw [hM163]; exact up_ne (by omega))
          have hk166 := kp_up hM163 (fun h => absurd h.2 (by decide)) hk155
          have hk167 := kp_up hM163 (fun h => absurd h.2 (by decide)) hk156
          have hk168 := kp_up hM163 (fun h => absurd h.2 (by decide)) hk158
          have hk169 := kp_up hM163 (fun h => absurd h.2 (by decide)) hf153
          clear hk155 hk156 hk157 hk158 hf153
          have hF170 := Fr.put hF159 hM163 (by omega)
          have hI171 : Iv M160 := iv_r4 hI hM52 hM141 hM152 hM163 (by omega) (by omega) (by omega) (by omega) (by omega)
          refine j_goto (tgt := 377) hX dX11_goOn_109 (by decide) ?_
          exact hret _ _ _ dX11_goOn_377 ⟨hI171, hF170, (ML_go hML (hF170 210 3 (by omega)) (hF170 210 4 (by omega)) (by omega) (by omega)).1, (ML_go hML (hF170 210 3 (by omega)) (hF170 210 4 (by omega)) (by omega) (by omega)).2⟩
      · intro x1 ca ce Mc hxx1 hI hF hk_0 hk_1 hk_2 h2 hm0 hm1
        have hk172 : Mc.1 210 4 = Mc.1 210 4 := rfl
        refine j_aload_n hX dX11_goOn_119 rfl 0 rfl ?_
        refine j_aload_n hX dX11_goOn_120 rfl 0 rfl ?_
        refine gf_X11_211 hX (by omega) (by omega) kc_210 dX11_goOn_121 ?_
        refine j_top hk_1 ?_
        refine j_callVI hX lk_X11_217 (c_X11_sign _ _ _ _ _ _ _ _ (by omega) hI (by omega) hk_2 (by first | assumption | omega)) (by omega) hce rfl rfl (by omega) (by omega) kc_210 rfl rfl (Nat.le_of_ble_eq_true rfl) dX11_goOn_124 (fun z173 M174 hz176 hp175 => ?_)
        obtain ⟨hE177, hq178, hq179, hq180⟩ := hp175
        replace hE177 := hE177.symm
        subst hE177
        refine j_callSI hX lk_X11_224 (c_X11_isLetter _ _ _ _ _ _ _ (by omega)) (by omega) hce rfl rfl (Nat.le_of_ble_eq_true rfl) dX11_goOn_127 (fun z181 M182 hz184 hp183 => ?_)
        obtain ⟨hE185, hb186, hq187, hq188⟩ := hp183
        replace hE185 := hE185.symm
        subst hE185
        refine j_if_eq (tgt := 146) hX dX11_goOn_130 (by decide) (by omega) (fun hc189 => ?_) (fun hc189 => ?_)
        · skip
          clear hq187
          have hi190 := hq188 (by omega)
          clear hq188
          refine j_aload_n hX dX11_goOn_146 rfl 0 rfl ?_
          refine j_lconst hX dX11_goOn_147 ?_
          refine pf_X11_228 hX (by omega) (by omega) kc_210 dX11_goOn_148 ?_
          refine j_upL hI (fun M191 hM192 hI193 => ?_)
          have hk194 := kp_l hM192 hk_0
          have hk195 := kp_l hM192 hk_1
          have hk196 := kp_l hM192 hk_2
          have hk197 := kp_l hM192 hk172
          clear hk172
          have hF198 := Fr.l hF hM192
          refine j_aload_n hX dX11_goOn_151 rfl 0 rfl ?_
          refine gf_X11_214 hX (by omega) (by omega) kc_210 dX11_goOn_152 ?_
          refine j_top hk194 ?_
          refine j_istore_n (lv' := [(2, _), (0, _), (1, _)]) hX dX11_goOn_155 rfl (by rw [hnL]; decide) rfl ?_
          refine j_sub [1, 2, 0] rfl ?_
          exact ih.2.2.2.1 _ _ _ _ _ (by omega) (by omega) hI193 hF198 hk194 hk195 hk196 (by first | assumption | omega) (by omega) (by omega)
        · skip
          have hi199 := hq187 (by omega)
          clear hq187
          clear hq188
          refine j_aload_n hX dX11_goOn_133 rfl 0 rfl ?_
          refine j_dup hX dX11_goOn_134 rfl ?_
          refine gf_X11_211 hX (by omega) (by omega) kc_210 dX11_goOn_135 ?_
          refine j_top hk_1 ?_
          refine j_iconst hX dX11_goOn_138 ?_
          refine j_iadd hX dX11_goOn_139 ?_
          refine pf_X11_211 hX (by omega) (by omega) kc_210 (by omega) dX11_goOn_140 ?_
          refine j_up hI ro_210_7 (by omega) (by omega) (Or.inl (by omega)) (fun M200 w201 hw202 hM203 hI204 hf205 => ?_)
          have hk206 := kp_up hM203 (fun h => absurd h.2 (by decide)) hk_0
          have hk207 := kp_up hM203 (fun h => absurd h.2 (by decide)) hk_2
          have hk208 := kp_up hM203 (fun h => absurd h.2 (by decide)) hk172
          clear hk172
          have hF209 := Fr.put hF hM203 (by omega)
          refine j_goto (tgt := 119) hX dX11_goOn_143 (by decide) ?_
          exact ih.2.2.1 _ _ _ _ (by omega) hI204 hF209 hk206 hf205 hk207 (by first | assumption | omega) (by omega) (by omega)
      · intro x1 x2 ca ce Mc hxx1 hxx2 hI hF hk_0 hk_1 hk_2 h2 hm0 hm1
        have hk210 : Mc.1 210 4 = Mc.1 210 4 := rfl
        refine j_iload_n hX dX11_goOn_156 rfl 2 rfl ?_
        refine j_aload_n hX dX11_goOn_157 rfl 0 rfl ?_
        refine gf_X11_211 hX (by omega) (by omega) kc_210 dX11_goOn_158 ?_
        refine j_top hk_1 ?_
        refine j_icmp_ge (tgt := 199) hX dX11_goOn_161 (by decide) (by omega) (by omega) (fun hc211 => ?_) (fun hc211 => ?_)
        · skip
          refine j_aload_n hX dX11_goOn_199 rfl 0 rfl ?_
          refine j_aload_n hX dX11_goOn_200 rfl 0 rfl ?_
          refine gf_X11_211 hX (by omega) (by omega) kc_210 dX11_goOn_201 ?_
          refine j_top hk_1 ?_
          refine j_aload_n hX dX11_goOn_204 rfl 0 rfl ?_
          refine gf_X11_214 hX (by omega) (by omega) kc_210 dX11_goOn_205 ?_
          refine j_top hk_0 ?_
          refine j_isub hX dX11_goOn_208 ?_
          refine j_bipush hX dX11_goOn_209 rfl ?_
          refine j_icmp_le (tgt := 218) hX dX11_goOn_211 (by decide) (by omega) (by omega) (fun hc212 => ?_) (fun hc212 => ?_)
          · skip
            refine j_aload_n hX dX11_goOn_218 rfl 0 rfl ?_
            refine gf_X11_228 hX (by omega) (by omega) kc_210 dX11_goOn_219 ?_
            refine j_callSI hX lk_X11_232 (c_X11_isKept _ _ _ _ _ _ _) (by omega) hce rfl rfl (Nat.le_of_ble_eq_true rfl) dX11_goOn_222 (fun z213 M214 hz216 hp215 => ?_)
            obtain ⟨hE217, hb218⟩ := hp215
            replace hE217 := hE217.symm
            subst hE217
            refine j_if_eq (tgt := 232) hX dX11_goOn_225 (by decide) (by omega) (fun hc219 => ?_) (fun hc219 => ?_)
            · skip
              refine j_iconst hX dX11_goOn_232 ?_
              refine pf_X11_221 hX (by omega) (by omega) kc_210 (by omega) dX11_goOn_233 ?_
              refine j_up hI ro_210_8 (by omega) (by omega) (Or.inl (by omega)) (fun M220 w221 hw222 hM223 hI224 hf225 => ?_)
              have hk226 := kp_up hM223 (fun h => absurd h.2 (by decide)) hk_0
              have hk227 := kp_up hM223 (fun h => absurd h.2 (by decide)) hk_1
              have hk228 := kp_up hM223 (fun h => absurd h.2 (by decide)) hk_2
              have hk229 := kp_up hM223 (fun h => absurd h.2 (by decide)) hk210
              clear hk210
              have hF230 := Fr.put hF hM223 (by omega)
              refine j_goto (tgt := 377) hX dX11_goOn_236 (by decide) ?_
              exact hret _ _ _ dX11_goOn_377 ⟨hI224, hF230, (ML_go hML (hF230 210 3 (by omega)) (hF230 210 4 (by omega)) (by omega) (by omega)).1, (ML_go hML (hF230 210 3 (by omega)) (hF230 210 4 (by omega)) (by omega) (by omega)).2⟩
            · skip
              refine j_iconst hX dX11_goOn_228 ?_
              refine j_goto (tgt := 233) hX dX11_goOn_229 (by decide) ?_
              refine pf_X11_221 hX (by omega) (by omega) kc_210 (by omega) dX11_goOn_233 ?_
              refine j_up hI ro_210_8 (by omega) (by omega) (Or.inl (by omega)) (fun M231 w232 hw233 hM234 hI235 hf236 => ?_)
              have hk237 := kp_up hM234 (fun h => absurd h.2 (by decide)) hk_0
              have hk238 := kp_up hM234 (fun h => absurd h.2 (by decide)) hk_1
              have hk239 := kp_up hM234 (fun h => absurd h.2 (by decide)) hk_2
              have hk240 := kp_up hM234 (fun h => absurd h.2 (by decide)) hk210
              clear hk210
              have hF241 := Fr.put hF hM234 (by omega)
              refine j_goto (tgt := 377) hX dX11_goOn_236 (by decide) ?_
              exact hret _ _ _ dX11_goOn_377 ⟨hI235, hF241, (ML_go hML (hF241 210 3 (by omega)) (hF241 210 4 (by omega)) (by omega) (by omega)).1, (ML_go hML (hF241 210 3 (by omega)) (hF241 210 4 (by omega)) (by omega) (by omega)).2⟩
          · skip
            refine j_iconst hX dX11_goOn_214 ?_
            refine j_goto (tgt := 233) hX dX11_goOn_215 (by decide) ?_
            refine pf_X11_221 hX (by omega) (by omega) kc_210 (by omega) dX11_goOn_233 ?_
            refine j_up hI ro_210_8 (by omega) (by omega) (Or.inl (by omega)) (fun M242 w243 hw244 hM245 hI246 hf247 => ?_)
            have hk248 := kp_up hM245 (fun h => absurd h.2 (by decide)) hk_0
            have hk249 := kp_up hM245 (fun h => absurd h.2 (by decide)) hk_1
            have hk250 := kp_up hM245 (fun h => absurd h.2 (by decide)) hk_2
            have hk251 := kp_up hM245 (fun h => absurd h.2 (by decide)) hk210
            clear hk210
            have hF252 := Fr.put hF hM245 (by omega)
            refine j_goto (tgt := 377) hX dX11_goOn_236 (by decide) ?_
            exact hret _ _ _ dX11_goOn_377 ⟨hI246, hF252, (ML_go hML (hF252 210 3 (by omega)) (hF252 210 4 (by omega)) (by omega) (by omega)).1, (ML_go hML (hF252 210 3 (by omega)) (hF252 210 4 (by omega)) (by omega) (by omega)).2⟩
        · skip
          refine j_iload_n hX dX11_goOn_164 rfl 2 rfl ?_
          refine j_aload_n hX dX11_goOn_165 rfl 0 rfl ?_
          refine gf_X11_214 hX (by omega) (by omega) kc_210 dX11_goOn_166 ?_
          refine j_top hk_0 ?_
          refine j_bipush hX dX11_goOn_169 rfl ?_
          refine j_iadd hX dX11_goOn_171 ?_
          refine j_icmp_ge (tgt := 199) hX dX11_goOn_172 (by decide) (by omega) (by omega) (fun hc253 => ?_) (fun hc253 => ?_)
          · skip
            refine j_aload_n hX dX11_goOn_199 rfl 0 rfl ?_
            refine j_aload_n hX dX11_goOn_200 rfl 0 rfl ?_
            refine gf_X11_211 hX (by omega) (by omega) kc_210 dX11_goOn_201 ?_
            refine j_top hk_1 ?_
            refine j_aload_n hX dX11_goOn_204 rfl 0 rfl ?_
            refine gf_X11_214 hX (by omega) (by omega) kc_210 dX11_goOn_205 ?_
            refine j_top hk_0 ?_
            refine j_isub hX dX11_goOn_208 ?_
            refine j_bipush hX dX11_goOn_209 rfl ?_
            refine j_icmp_le (tgt := 218) hX dX11_goOn_211 (by decide) (by omega) (by omega) (fun hc254 => ?_) (fun hc254 => ?_)
            · skip
              refine j_aload_n hX dX11_goOn_218 rfl 0 rfl ?_
              refine gf_X11_228 hX (by omega) (by omega) kc_210 dX11_goOn_219 ?_
              refine j_callSI hX lk_X11_232 (c_X11_isKept _ _ _ _ _ _ _) (by omega) hce rfl rfl (Nat.le_of_ble_eq_true rfl) dX11_goOn_222 (fun z255 M256 hz258 hp257 => ?_)
              obtain ⟨hE259, hb260⟩ := hp257
              replace hE259 := hE259.symm
              subst hE259
              refine j_if_eq (tgt := 232) hX dX11_goOn_225 (by decide) (by omega) (fun hc261 => ?_) (fun hc261 => ?_)
              · skip
                refine j_iconst hX dX11_goOn_232 ?_
                refine pf_X11_221 hX (by omega) (by omega) kc_210 (by omega) dX11_goOn_233 ?_
                refine j_up hI ro_210_8 (by omega) (by omega) (Or.inl (by omega)) (fun M262 w263 hw264 hM265 hI266 hf267 => ?_)
                have hk268 := kp_up hM265 (fun h => absurd h.2 (by decide)) hk_0
                have hk269 := kp_up hM265 (fun h => absurd h.2 (by decide)) hk_1
                have hk270 := kp_up hM265 (fun h => absurd h.2 (by decide)) hk_2
                have hk271 := kp_up hM265 (fun h => absurd h.2 (by decide)) hk210
                clear hk210
                have hF272 := Fr.put hF hM265 (by omega)
                refine j_goto (tgt := 377) hX dX11_goOn_236 (by decide) ?_
                exact hret _ _ _ dX11_goOn_377 ⟨hI266, hF272, (ML_go hML (hF272 210 3 (by omega)) (hF272 210 4 (by omega)) (by omega) (by omega)).1, (ML_go hML (hF272 210 3 (by omega)) (hF272 210 4 (by omega)) (by omega) (by omega)).2⟩
              · skip
                refine j_iconst hX dX11_goOn_228 ?_
                refine j_goto (tgt := 233) hX dX11_goOn_229 (by decide) ?_
                refine pf_X11_221 hX (by omega) (by omega) kc_210 (by omega) dX11_goOn_233 ?_
                refine j_up hI ro_210_8 (by omega) (by omega) (Or.inl (by omega)) (fun M273 w274 hw275 hM276 hI277 hf278 => ?_)
                have hk279 := kp_up hM276 (fun h => absurd h.2 (by decide)) hk_0
                have hk280 := kp_up hM276 (fun h => absurd h.2 (by decide)) hk_1
                have hk281 := kp_up hM276 (fun h => absurd h.2 (by decide)) hk_2
                have hk282 := kp_up hM276 (fun h => absurd h.2 (by decide)) hk210
                clear hk210
                have hF283 := Fr.put hF hM276 (by omega)
                refine j_goto (tgt := 377) hX dX11_goOn_236 (by decide) ?_
                exact hret _ _ _ dX11_goOn_377 ⟨hI277, hF283, (ML_go hML (hF283 210 3 (by omega)) (hF283 210 4 (by omega)) (by omega) (by omega)).1, (ML_go hML (hF283 210 3 (by omega)) (hF283 210 4 (by omega)) (by omega) (by omega)).2⟩
            · skip
              refine j_iconst hX dX11_goOn_214 ?_
              refine j_goto (tgt := 233) hX dX11_goOn_215 (by decide) ?_
              refine pf_X11_221 hX (by omega) (by omega) kc_210 (by omega) dX11_goOn_233 ?_
              refine j_up hI ro_210_8 (by omega) (by omega) (Or.inl (by omega)) (fun M284 w285 hw286 hM287 hI288 hf289 => ?_)
              have hk290 := kp_up hM287 (fun h => absurd h.2 (by decide)) hk_0
              have hk291 := kp_up hM287 (fun h => absurd h.2 (by decide)) hk_1
              have hk292 := kp_up hM287 (fun h => absurd h.2 (by decide)) hk_2
              have hk293 := kp_up hM287 (fun h => absurd h.2 (by decide)) hk210
              clear hk210
              have hF294 := Fr.put hF hM287 (by omega)
              refine j_goto (tgt := 377) hX dX11_goOn_236 (by decide) ?_
              exact hret _ _ _ dX11_goOn_377 ⟨hI288, hF294, (ML_go hML (hF294 210 3 (by omega)) (hF294 210 4 (by omega)) (by omega) (by omega)).1, (ML_go hML (hF294 210 3 (by omega)) (hF294 210 4 (by omega)) (by omega) (by omega)).2⟩
          · skip
            refine j_aload_n hX dX11_goOn_175 rfl 0 rfl ?_
            refine j_aload_n hX dX11_goOn_176 rfl 0 rfl ?_
            refine gf_X11_228 hX (by omega) (by omega) kc_210 dX11_goOn_177 ?_
            refine j_bipush hX dX11_goOn_180 rfl ?_
            refine j_lshl hX dX11_goOn_182 (fun z295 => ?_)
            refine j_aload_n hX dX11_goOn_183 rfl 0 rfl ?_
            refine j_iload_n hX dX11_goOn_184 rfl 2 rfl ?_
            refine j_callVI hX lk_X11_217 (c_X11_sign _ _ _ _ _ _ _ _ (by omega) hI (by omega) hk_2 (by first | assumption | omega)) (by omega) hce rfl rfl (by omega) (by omega) kc_210 rfl rfl (Nat.le_of_ble_eq_true rfl) dX11_goOn_185 (fun z296 M297 hz299 hp298 => ?_)
            obtain ⟨hE300, hq301, hq302, hq303⟩ := hp298
            replace hE300 := hE300.symm
            subst hE300
            refine j_i2l hX dX11_goOn_188 (fun z304 => ?_)
            refine j_lor hX dX11_goOn_189 (fun z305 => ?_)
            refine pf_X11_228 hX (by omega) (by omega) kc_210 dX11_goOn_190 ?_
            refine j_upL hI (fun M306 hM307 hI308 => ?_)
            have hk309 := kp_l hM307 hk_0
            have hk310 := kp_l hM307 hk_1
            have hk311 := kp_l hM307 hk_2
            have hk312 := kp_l hM307 hk210
            clear hk210
            have hF313 := Fr.l hF hM307
            refine j_iinc (lv' := [(2, _), (0, _), (1, _)]) hX dX11_goOn_193 2 rfl (by rw [hnL]; decide) rfl ?_
            refine j_goto (tgt := 156) hX dX11_goOn_196 (by decide) ?_
            refine j_sub [1, 2, 0] rfl ?_
            exact ih.2.2.2.1 _ _ _ _ _ (by omega) (by omega) hI308 hF313 hk309 hk310 hk311 (by first | assumption | omega) (by omega) (by omega)
      · intro x1 ca ce Mc hxx1 hI hF hk_0 hk_1 hk_2 hV_0 h2 hm0 hm1
        have hk314 : Mc.1 210 4 = Mc.1 210 4 := rfl
        refine j_aload_n hX dX11_goOn_259 rfl 0 rfl ?_
        refine j_aload_n hX dX11_goOn_260 rfl 0 rfl ?_
        refine gf_X11_211 hX (by omega) (by omega) kc_210 dX11_goOn_261 ?_
        refine j_top hk_1 ?_
        refine j_callVI hX lk_X11_217 (c_X11_sign _ _ _ _ _ _ _ _ (by omega) hI (by omega) hk_2 (by first | assumption | omega)) (by omega) hce rfl rfl (by omega) (by omega) kc_210 rfl rfl (Nat.le_of_ble_eq_true rfl) dX11_goOn_264 (fun z315 M316 hz318 hp317 => ?_)
        obtain ⟨hE319, hq320, hq321, hq322⟩ := hp317
        replace hE319 := hE319.symm
        subst hE319
        refine j_callSI hX lk_X11_236 (c_X11_isDigit _ _ _ _ _ _ _ (by omega)) (by omega) hce rfl rfl (Nat.le_of_ble_eq_true rfl) dX11_goOn_267 (fun z323 M324 hz326 hp325 => ?_)
        obtain ⟨hE327, hb328, hq329, hq330⟩ := hp325
        replace hE327 := hE327.symm
        subst hE327
        refine j_if_eq (tgt := 322) hX dX11_goOn_270 (by decide) (by omega) (fun hc331 => ?_) (fun hc331 => ?_)
        · skip
          clear hq329
          have hi332 := hq330 (by omega)
          clear hq330
          have hcc : ca < ce := (Int.lt_or_eq_of_le (by omega : ca ≤ ce)).elim id (fun h => by exfalso; subst h; omega)
          refine j_aload_n hX dX11_goOn_322 rfl 0 rfl ?_
          refine j_aload_n hX dX11_goOn_323 rfl 0 rfl ?_
          refine gf_X11_211 hX (by omega) (by omega) kc_210 dX11_goOn_324 ?_
          refine j_top hk_1 ?_
          refine j_aload_n hX dX11_goOn_327 rfl 0 rfl ?_
          refine gf_X11_214 hX (by omega) (by omega) kc_210 dX11_goOn_328 ?_
          refine j_top hk_0 ?_
          refine j_isub hX dX11_goOn_331 ?_
          refine j_iconst hX dX11_goOn_332 ?_
          refine j_icmp_gt (tgt := 350) hX dX11_goOn_333 (by decide) (by omega) (by omega) (fun hc333 => ?_) (fun hc333 => ?_)
          · skip
            refine j_iconst hX dX11_goOn_350 ?_
            refine j_goto (tgt := 355) hX dX11_goOn_351 (by decide) ?_
            refine pf_X11_221 hX (by omega) (by omega) kc_210 (by omega) dX11_goOn_355 ?_
            refine j_up hI ro_210_8 (by omega) (by omega) (Or.inl (by omega)) (fun M334 w335 hw336 hM337 hI338 hf339 => ?_)
            have hV340 := sg_dp (M' := M334) hV_0 (fun a b h => by rw [hM337]; exact up_ne (by omega))
            have hk341 := kp_up hM337 (fun h => absurd h.2 (by decide)) hk_0
            have hk342 := kp_up hM337 (fun h => absurd h.2 (by decide)) hk_1
            have hk343 := kp_up hM337 (fun h => absurd h.2 (by decide)) hk_2
            have hk344 := kp_up hM337 (fun h => absurd h.2 (by decide)) hk314
            clear hk314
            have hF345 := Fr.put hF hM337 (by omega)
            refine j_goto (tgt := 377) hX dX11_goOn_358 (by decide) ?_
            exact hret _ _ _ dX11_goOn_377 ⟨hI338, hF345, (ML_go hML (hF345 210 3 (by omega)) (hF345 210 4 (by omega)) (by omega) (by omega)).1, (ML_go hML (hF345 210 3 (by omega)) (hF345 210 4 (by omega)) (by omega) (by omega)).2⟩
          · skip
            refine j_aload_n hX dX11_goOn_336 rfl 0 rfl ?_
            refine j_aload_n hX dX11_goOn_337 rfl 0 rfl ?_
            refine gf_X11_211 hX (by omega) (by omega) kc_210 dX11_goOn_338 ?_
            refine j_top hk_1 ?_
            refine j_callVI hX lk_X11_217 (c_X11_sign _ _ _ _ _ _ _ _ (by omega) hI (by omega) hk_2 (by first | assumption | omega)) (by omega) hce rfl rfl (by omega) (by omega) kc_210 rfl rfl (Nat.le_of_ble_eq_true rfl) dX11_goOn_341 (fun z346 M347 hz349 hp348 => ?_)
            obtain ⟨hE350, hq351, hq352, hq353⟩ := hp348
            replace hE350 := hE350.symm
            subst hE350
            refine j_callSI hX lk_X11_224 (c_X11_isLetter _ _ _ _ _ _ _ (by omega)) (by omega) hce rfl rfl (Nat.le_of_ble_eq_true rfl) dX11_goOn_344 (fun z354 M355 hz357 hp356 => ?_)
            obtain ⟨hE358, hb359, hq360, hq361⟩ := hp356
            replace hE358 := hE358.symm
            subst hE358
            refine j_if_eq (tgt := 354) hX dX11_goOn_347 (by decide) (by omega) (fun hc362 => ?_) (fun hc362 => ?_)
            · skip
              clear hq360
              have hi363 := hq361 (by omega)
              clear hq361
              refine j_iconst hX dX11_goOn_354 ?_
              refine pf_X11_221 hX (by omega) (by omega) kc_210 (by omega) dX11_goOn_355 ?_
              refine j_up hI ro_210_8 (by omega) (by omega) (Or.inl (by omega)) (fun M364 w365 hw366 hM367 hI368 hf369 => ?_)
              have hV370 := sg_dp (M' := M364) hV_0 (fun a b h => by rw [hM367]; exact up_ne (by omega))
              have hk371 := kp_up hM367 (fun h => absurd h.2 (by decide)) hk_0
              have hk372 := kp_up hM367 (fun h => absurd h.2 (by decide)) hk_1
              have hk373 := kp_up hM367 (fun h => absurd h.2 (by decide)) hk_2
              have hk374 := kp_up hM367 (fun h => absurd h.2 (by decide)) hk314
              clear hk314
              have hF375 := Fr.put hF hM367 (by omega)
              refine j_goto (tgt := 377) hX dX11_goOn_358 (by decide) ?_
              exact hret _ _ _ dX11_goOn_377 ⟨hI368, hF375, (ML_go hML (hF375 210 3 (by omega)) (hF375 210 4 (by omega)) (by omega) (by omega)).1, (ML_go hML (hF375 210 3 (by omega)) (hF375 210 4 (by omega)) (by omega) (by omega)).2⟩
            · skip
              have hi376 := hq360 (by omega)
              clear hq360
              clear hq361
              refine j_iconst hX dX11_goOn_350 ?_
              refine j_goto (tgt := 355) hX dX11_goOn_351 (by decide) ?_
              refine pf_X11_221 hX (by omega) (by omega) kc_210 (by omega) dX11_goOn_355 ?_
              refine j_up hI ro_210_8 (by omega) (by omega) (Or.inl (by omega)) (fun M377 w378 hw379 hM380 hI381 hf382 => ?_)
              have hV383 := sg_dp (M' := M377) hV_0 (fun a b h => by rw [hM380]; exact up_ne (by omega))
              have hk384 := kp_up hM380 (fun h => absurd h.2 (by decide)) hk_0
              have hk385 := kp_up hM380 (fun h => absurd h.2 (by decide)) hk_1
              have hk386 := kp_up hM380 (fun h => absurd h.2 (by decide)) hk_2
              have hk387 := kp_up hM380 (fun h => absurd h.2 (by decide)) hk314
              clear hk314
              have hF388 := Fr.put hF hM380 (by omega)
              refine j_goto (tgt := 377) hX dX11_goOn_358 (by decide) ?_
              exact hret _ _ _ dX11_goOn_377 ⟨hI381, hF388, (ML_go hML (hF388 210 3 (by omega)) (hF388 210 4 (by omega)) (by omega) (by omega)).1, (ML_go hML (hF388 210 3 (by omega)) (hF388 210 4 (by omega)) (by omega) (by omega)).2⟩
        · skip
          have hi389 := hq329 (by omega)
          clear hq329
          clear hq330
          refine j_aload_n hX dX11_goOn_273 rfl 0 rfl ?_
          refine gf_X11_211 hX (by omega) (by omega) kc_210 dX11_goOn_274 ?_
          refine j_top hk_1 ?_
          refine j_aload_n hX dX11_goOn_277 rfl 0 rfl ?_
          refine gf_X11_214 hX (by omega) (by omega) kc_210 dX11_goOn_278 ?_
          refine j_top hk_0 ?_
          refine j_isub hX dX11_goOn_281 ?_
          refine j_iconst hX dX11_goOn_282 ?_
          refine j_icmp_ge (tgt := 309) hX dX11_goOn_283 (by decide) (by omega) (by omega) (fun hc390 => ?_) (fun hc390 => ?_)
          · skip
            refine j_aload_n hX dX11_goOn_309 rfl 0 rfl ?_
            refine j_dup hX dX11_goOn_310 rfl ?_
            refine gf_X11_211 hX (by omega) (by omega) kc_210 dX11_goOn_311 ?_
            refine j_top hk_1 ?_
            refine j_iconst hX dX11_goOn_314 ?_
            refine j_iadd hX dX11_goOn_315 ?_
            refine pf_X11_211 hX (by omega) (by omega) kc_210 (by omega) dX11_goOn_316 ?_
            refine j_up hI ro_210_7 (by omega) (by omega) (Or.inl (by omega)) (fun M391 w392 hw393 hM394 hI395 hf396 => ?_)
            have hV397 := sg_dp (M' := M391) hV_0 (fun a b h => by rw [hM394]; exact up_ne (by omega))
            have hk398 := kp_up hM394 (fun h => absurd h.2 (by decide)) hk_0
            have hk399 := kp_up hM394 (fun h => absurd h.2 (by decide)) hk_2
            have hk400 := kp_up hM394 (fun h => absurd h.2 (by decide)) hk314
            clear hk314
            have hF401 := Fr.put hF hM394 (by omega)
            refine j_goto (tgt := 259) hX dX11_goOn_319 (by decide) ?_
            exact ih.2.2.2.2 _ _ _ _ (by omega) hI395 hF401 hk398 hf396 hk399 hV397 (by first | assumption | omega) (by omega) (by omega)
          · skip
            refine j_aload_n hX dX11_goOn_286 rfl 0 rfl ?_
            refine j_bipush hX dX11_goOn_287 rfl ?_
            refine j_aload_n hX dX11_goOn_289 rfl 0 rfl ?_
            refine gf_X11_239 hX (by omega) (by omega) kc_210 dX11_goOn_290 ?_
            refine j_name hI ro_210_9 (fun v402 hv403 hl404 hh405 => ?_)
            have hk406 := hv403.symm
            refine j_imul hX dX11_goOn_293 ?_
            refine j_norm (fun z407 hz408 hy409 => ?_)
            refine j_aload_n hX dX11_goOn_294 rfl 0 rfl ?_
            refine j_aload_n hX dX11_goOn_295 rfl 0 rfl ?_
            refine gf_X11_211 hX (by omega) (by omega) kc_210 dX11_goOn_296 ?_
            refine j_top hk_1 ?_
            refine j_callVI hX lk_X11_217 (c_X11_sign _ _ _ _ _ _ _ _ (by omega) hI (by omega) hk_2 (by first | assumption | omega)) (by omega) hce rfl rfl (by omega) (by omega) kc_210 rfl rfl (Nat.le_of_ble_eq_true rfl) dX11_goOn_299 (fun z410 M411 hz413 hp412 => ?_)
            obtain ⟨hE414, hq415, hq416, hq417⟩ := hp412
            replace hE414 := hE414.symm
            subst hE414
            refine j_iadd hX dX11_goOn_302 ?_
            refine j_norm (fun z418 hz419 hy420 => ?_)
            refine j_bipush hX dX11_goOn_303 rfl ?_
            refine j_isub hX dX11_goOn_305 ?_
            refine j_norm (fun z421 hz422 hy423 => ?_)
            refine pf_X11_239 hX (by omega) (by omega) kc_210 (by omega) dX11_goOn_306 ?_
            refine j_up hI ro_210_9 (by omega) (by omega) (Or.inl (by omega)) (fun M424 w425 hw426 hM427 hI428 hf429 => ?_)
            have hV430 := sg_dp (M' := M424) hV_0 (fun a b h => by rw [hM427]; exact up_ne (by omega))
            have hk431 := kp_up hM427 (fun h => absurd h.2 (by decide)) hk_0
            have hk432 := kp_up hM427 (fun h => absurd h.2 (by decide)) hk_1
            have hk433 := kp_up hM427 (fun h => absurd h.2 (by decide)) hk_2
            have hk434 := kp_up hM427 (fun h => absurd h.2 (by decide)) hk314
            clear hk314 hk406
            have hF435 := Fr.put hF hM427 (by omega)
            refine j_aload_n hX dX11_goOn_309 rfl 0 rfl ?_
            refine j_dup hX dX11_goOn_310 rfl ?_
            refine gf_X11_211 hX (by omega) (by omega) kc_210 dX11_goOn_311 ?_
            refine j_top hk432 ?_
            refine j_iconst hX dX11_goOn_314 ?_
            refine j_iadd hX dX11_goOn_315 ?_
            refine pf_X11_211 hX (by omega) (by omega) kc_210 (by omega) dX11_goOn_316 ?_
            refine j_up hI428 ro_210_7 (by omega) (by omega) (Or.inl (by omega)) (fun M436 w437 hw438 hM439 hI440 hf441 => ?_)
            have hV442 := sg_dp (M' := M436) hV430 (fun a b h => by rw [hM439]; exact up_ne (by omega))
            have hk443 := kp_up hM439 (fun h => absurd h.2 (by decide)) hk431
            have hk444 := kp_up hM439 (fun h => absurd h.2 (by decide)) hk433
            have hk445 := kp_up hM439 (fun h => absurd h.2 (by decide)) hk434
            have hk446 := kp_up hM439 (fun h => absurd h.2 (by decide)) hf429
            clear hk431 hk432 hk433 hk434 hf429
            have hF447 := Fr.put hF435 hM439 (by omega)
            refine j_goto (tgt := 259) hX dX11_goOn_319 (by decide) ?_
            exact ih.2.2.2.2 _ _ _ _ (by omega) hI440 hF447 hk443 hf441 hk444 hV442 (by first | assumption | omega) (by omega) (by omega)
  show J X B N 0 0 0 [(0, rv B 210)] [] M
  refine j_aload_n hX dX11_goOn_0 rfl 0 rfl ?_
  refine j_aload_n hX dX11_goOn_1 rfl 0 rfl ?_
  refine gf_X11_211 hX (by omega) (by omega) kc_210 dX11_goOn_2 ?_
  refine j_name hI ro_210_7 (fun v448 hv449 hl450 hh451 => ?_)
  have hk452 := hv449.symm
  refine pf_X11_214 hX (by omega) (by omega) kc_210 (by omega) dX11_goOn_5 ?_
  refine j_up hI ro_210_6 (by omega) (by omega) (Or.inl (by omega)) (fun M453 w454 hw455 hM456 hI457 hf458 => ?_)
  have hk459 := kp_up hM456 (fun h => absurd h.2 (by decide)) htz
  have hk460 := kp_up hM456 (fun h => absurd h.2 (by decide)) hk1
  have hk461 := kp_up hM456 (fun h => absurd h.2 (by decide)) hk452
  clear hk1 hk452
  have hF462 := Fr.put hF hM456 (by omega)
  refine (cp (Int.toNat (640064 + 1))).1 _ _ hI457 hF462 hf458 hk459 (by first | assumption | omega) ?_ ?_
  · omega
  · omega
