theorem dJ7_fill_53178_0 : decode cJ7_fill_53178 0 = .ok (.iconst 0, 1) := by decide +kernel
theorem dJ7_fill_53178_1 : decode cJ7_fill_53178 1 = .ok (.istore_n 2, 1) := by decide +kernel
theorem dJ7_fill_53178_2 : decode cJ7_fill_53178 2 = .ok (.aload_n 0, 1) := by decide +kernel
theorem dJ7_fill_53178_3 : decode cJ7_fill_53178 3 = .ok (.arraylength, 1) := by decide +kernel
theorem dJ7_fill_53178_4 : decode cJ7_fill_53178 4 = .ok (.istore_n 3, 1) := by decide +kernel
theorem dJ7_fill_53178_5 : decode cJ7_fill_53178 5 = .ok (.iload_n 2, 1) := by decide +kernel
theorem dJ7_fill_53178_6 : decode cJ7_fill_53178 6 = .ok (.iload_n 3, 1) := by decide +kernel
theorem dJ7_fill_53178_7 : decode cJ7_fill_53178 7 = .ok (.if_icmp .ge 13, 3) := by decide +kernel
theorem dJ7_fill_53178_10 : decode cJ7_fill_53178 10 = .ok (.aload_n 0, 1) := by decide +kernel
theorem dJ7_fill_53178_11 : decode cJ7_fill_53178 11 = .ok (.iload_n 2, 1) := by decide +kernel
theorem dJ7_fill_53178_12 : decode cJ7_fill_53178 12 = .ok (.iload_n 1, 1) := by decide +kernel
theorem dJ7_fill_53178_13 : decode cJ7_fill_53178 13 = .ok (.iastore, 1) := by decide +kernel
theorem dJ7_fill_53178_14 : decode cJ7_fill_53178 14 = .ok (.iinc 2 1, 3) := by decide +kernel
theorem dJ7_fill_53178_17 : decode cJ7_fill_53178 17 = .ok (.goto (-12), 3) := by decide +kernel
theorem dJ7_fill_53178_20 : decode cJ7_fill_53178 20 = .ok (.return_, 1) := by decide +kernel
theorem dX9_advance_0 : decode cX9_advance 0 = .ok (.aload_n 0, 1) := by decide +kernel
theorem dX9_advance_1 : decode cX9_advance 1 = .ok (.getfield 23, 3) := by decide +kernel
theorem dX9_advance_4 : decode cX9_advance 4 = .ok (.aload_n 0, 1) := by decide +kernel
theorem dX9_advance_5 : decode cX9_advance 5 = .ok (.getfield 19, 3) := by decide +kernel
theorem dX9_advance_8 : decode cX9_advance 8 = .ok (.if_icmp .ge 44, 3) := by decide +kernel
theorem dX9_advance_11 : decode cX9_advance 11 = .ok (.aload_n 0, 1) := by decide +kernel
theorem dX9_advance_12 : decode cX9_advance 12 = .ok (.getfield 9, 3) := by decide +kernel
theorem dX9_advance_15 : decode cX9_advance 15 = .ok (.aload_n 0, 1) := by decide +kernel
theorem dX9_advance_16 : decode cX9_advance 16 = .ok (.getfield 23, 3) := by decide +kernel
theorem dX9_advance_19 : decode cX9_advance 19 = .ok (.baload, 1) := by decide +kernel
theorem dX9_advance_20 : decode cX9_advance 20 = .ok (.bipush 32, 2) := by decide +kernel
theorem dX9_advance_22 : decode cX9_advance 22 = .ok (.if_icmp .eq 17, 3) := by decide +kernel
theorem dX9_advance_25 : decode cX9_advance 25 = .ok (.aload_n 0, 1) := by decide +kernel
theorem dX9_advance_26 : decode cX9_advance 26 = .ok (.getfield 9, 3) := by decide +kernel
theorem dX9_advance_29 : decode cX9_advance 29 = .ok (.aload_n 0, 1) := by decide +kernel
theorem dX9_advance_30 : decode cX9_advance 30 = .ok (.getfield 23, 3) := by decide +kernel
theorem dX9_advance_33 : decode cX9_advance 33 = .ok (.baload, 1) := by decide +kernel
theorem dX9_advance_34 : decode cX9_advance 34 = .ok (.bipush 10, 2) := by decide +kernel
theorem dX9_advance_36 : decode cX9_advance 36 = .ok (.if_icmp .ne 16, 3) := by decide +kernel
theorem dX9_advance_39 : decode cX9_advance 39 = .ok (.aload_n 0, 1) := by decide +kernel
theorem dX9_advance_40 : decode cX9_advance 40 = .ok (.dup, 1) := by decide +kernel
theorem dX9_advance_41 : decode cX9_advance 41 = .ok (.getfield 23, 3) := by decide +kernel
theorem dX9_advance_44 : decode cX9_advance 44 = .ok (.iconst 1, 1) := by decide +kernel
theorem dX9_advance_45 : decode cX9_advance 45 = .ok (.iadd, 1) := by decide +kernel
theorem dX9_advance_46 : decode cX9_advance 46 = .ok (.putfield 23, 3) := by decide +kernel
theorem dX9_advance_49 : decode cX9_advance 49 = .ok (.goto (-49), 3) := by decide +kernel
theorem dX9_advance_52 : decode cX9_advance 52 = .ok (.aload_n 0, 1) := by decide +kernel
theorem dX9_advance_53 : decode cX9_advance 53 = .ok (.aload_n 0, 1) := by decide +kernel
theorem dX9_advance_54 : decode cX9_advance 54 = .ok (.getfield 23, 3) := by decide +kernel
theorem dX9_advance_57 : decode cX9_advance 57 = .ok (.putfield 29, 3) := by decide +kernel
theorem dX9_advance_60 : decode cX9_advance 60 = .ok (.aload_n 0, 1) := by decide +kernel
theorem dX9_advance_61 : decode cX9_advance 61 = .ok (.getfield 23, 3) := by decide +kernel
theorem dX9_advance_64 : decode cX9_advance 64 = .ok (.aload_n 0, 1) := by decide +kernel
theorem dX9_advance_65 : decode cX9_advance 65 = .ok (.getfield 19, 3) := by decide +kernel
theorem dX9_advance_68 : decode cX9_advance 68 = .ok (.if_icmp .lt 11, 3) := by decide +kernel
theorem dX9_advance_71 : decode cX9_advance 71 = .ok (.aload_n 0, 1) := by decide +kernel
theorem dX9_advance_72 : decode cX9_advance 72 = .ok (.iconst 0, 1) := by decide +kernel
theorem dX9_advance_73 : decode cX9_advance 73 = .ok (.putfield 26, 3) := by decide +kernel
theorem dX9_advance_76 : decode cX9_advance 76 = .ok (.goto 43, 3) := by decide +kernel
theorem dX9_advance_79 : decode cX9_advance 79 = .ok (.aload_n 0, 1) := by decide +kernel
theorem dX9_advance_80 : decode cX9_advance 80 = .ok (.aload_n 0, 1) := by decide +kernel
theorem dX9_advance_81 : decode cX9_advance 81 = .ok (.getfield 23, 3) := by decide +kernel
theorem dX9_advance_84 : decode cX9_advance 84 = .ok (.invokevirtual 54, 3) := by decide +kernel
theorem dX9_advance_87 : decode cX9_advance 87 = .ok (.ifCond .eq 10, 3) := by decide +kernel
theorem dX9_advance_90 : decode cX9_advance 90 = .ok (.aload_n 0, 1) := by decide +kernel
theorem dX9_advance_91 : decode cX9_advance 91 = .ok (.invokevirtual 58, 3) := by decide +kernel
theorem dX9_advance_94 : decode cX9_advance 94 = .ok (.goto 25, 3) := by decide +kernel
theorem dX9_advance_97 : decode cX9_advance 97 = .ok (.aload_n 0, 1) := by decide +kernel
theorem dX9_advance_98 : decode cX9_advance 98 = .ok (.aload_n 0, 1) := by decide +kernel
theorem dX9_advance_99 : decode cX9_advance 99 = .ok (.getfield 23, 3) := by decide +kernel
theorem dX9_advance_102 : decode cX9_advance 102 = .ok (.invokevirtual 61, 3) := by decide +kernel
theorem dX9_advance_105 : decode cX9_advance 105 = .ok (.ifCond .eq 10, 3) := by decide +kernel
theorem dX9_advance_108 : decode cX9_advance 108 = .ok (.aload_n 0, 1) := by decide +kernel
theorem dX9_advance_109 : decode cX9_advance 109 = .ok (.invokevirtual 64, 3) := by decide +kernel
theorem dX9_advance_112 : decode cX9_advance 112 = .ok (.goto 7, 3) := by decide +kernel
theorem dX9_advance_115 : decode cX9_advance 115 = .ok (.aload_n 0, 1) := by decide +kernel
theorem dX9_advance_116 : decode cX9_advance 116 = .ok (.invokevirtual 67, 3) := by decide +kernel
theorem dX9_advance_119 : decode cX9_advance 119 = .ok (.return_, 1) := by decide +kernel
theorem dX2_clear_0 : decode cX2_clear 0 = .ok (.aload_n 0, 1) := by decide +kernel
theorem dX2_clear_1 : decode cX2_clear 1 = .ok (.iconst 0, 1) := by decide +kernel
theorem dX2_clear_2 : decode cX2_clear 2 = .ok (.putfield 21, 3) := by decide +kernel
theorem dX2_clear_5 : decode cX2_clear 5 = .ok (.aload_n 0, 1) := by decide +kernel
theorem dX2_clear_6 : decode cX2_clear 6 = .ok (.iconst 0, 1) := by decide +kernel
theorem dX2_clear_7 : decode cX2_clear 7 = .ok (.putfield 25, 3) := by decide +kernel
theorem dX2_clear_10 : decode cX2_clear 10 = .ok (.return_, 1) := by decide +kernel
theorem dX2_put_0 : decode cX2_put 0 = .ok (.aload_n 0, 1) := by decide +kernel
theorem dX2_put_1 : decode cX2_put 1 = .ok (.getfield 21, 3) := by decide +kernel
theorem dX2_put_4 : decode cX2_put 4 = .ok (.aload_n 0, 1) := by decide +kernel
theorem dX2_put_5 : decode cX2_put 5 = .ok (.getfield 9, 3) := by decide +kernel
theorem dX2_put_8 : decode cX2_put 8 = .ok (.arraylength, 1) := by decide +kernel
theorem dX2_put_9 : decode cX2_put 9 = .ok (.if_icmp .ge 23, 3) := by decide +kernel
theorem dX2_put_12 : decode cX2_put 12 = .ok (.aload_n 0, 1) := by decide +kernel
theorem dX2_put_13 : decode cX2_put 13 = .ok (.getfield 9, 3) := by decide +kernel
theorem dX2_put_16 : decode cX2_put 16 = .ok (.aload_n 0, 1) := by decide +kernel
theorem dX2_put_17 : decode cX2_put 17 = .ok (.getfield 21, 3) := by decide +kernel
theorem dX2_put_20 : decode cX2_put 20 = .ok (.iload_n 1, 1) := by decide +kernel
theorem dX2_put_21 : decode cX2_put 21 = .ok (.iastore, 1) := by decide +kernel
theorem dX2_put_22 : decode cX2_put 22 = .ok (.aload_n 0, 1) := by decide +kernel
theorem dX2_put_23 : decode cX2_put 23 = .ok (.dup, 1) := by decide +kernel
theorem dX2_put_24 : decode cX2_put 24 = .ok (.getfield 21, 3) := by decide +kernel
theorem dX2_put_27 : decode cX2_put 27 = .ok (.iconst 1, 1) := by decide +kernel
theorem dX2_put_28 : decode cX2_put 28 = .ok (.iadd, 1) := by decide +kernel
theorem dX2_put_29 : decode cX2_put 29 = .ok (.putfield 21, 3) := by decide +kernel
theorem dX2_put_32 : decode cX2_put 32 = .ok (.return_, 1) := by decide +kernel
theorem dX2_setUnit_0 : decode cX2_setUnit 0 = .ok (.aload_n 0, 1) := by decide +kernel
theorem dX2_setUnit_1 : decode cX2_setUnit 1 = .ok (.getfield 18, 3) := by decide +kernel
theorem dX2_setUnit_4 : decode cX2_setUnit 4 = .ok (.iload_n 1, 1) := by decide +kernel
theorem dX2_setUnit_5 : decode cX2_setUnit 5 = .ok (.sipush 200, 3) := by decide +kernel
theorem dX2_setUnit_8 : decode cX2_setUnit 8 = .ok (.isub, 1) := by decide +kernel
theorem dX2_setUnit_9 : decode cX2_setUnit 9 = .ok (.iload_n 2, 1) := by decide +kernel
theorem dX2_setUnit_10 : decode cX2_setUnit 10 = .ok (.iastore, 1) := by decide +kernel
theorem dX2_setUnit_11 : decode cX2_setUnit 11 = .ok (.return_, 1) := by decide +kernel
theorem dX2_isUnit_0 : decode cX2_isUnit 0 = .ok (.iload_n 0, 1) := by decide +kernel
theorem dX2_isUnit_1 : decode cX2_isUnit 1 = .ok (.sipush 201, 3) := by decide +kernel
theorem dX2_isUnit_4 : decode cX2_isUnit 4 = .ok (.if_icmp .eq 17, 3) := by decide +kernel
theorem dX2_isUnit_7 : decode cX2_isUnit 7 = .ok (.iload_n 0, 1) := by decide +kernel
theorem dX2_isUnit_8 : decode cX2_isUnit 8 = .ok (.sipush 217, 3) := by decide +kernel
theorem dX2_isUnit_11 : decode cX2_isUnit 11 = .ok (.if_icmp .lt 14, 3) := by decide +kernel
theorem dX2_isUnit_14 : decode cX2_isUnit 14 = .ok (.iload_n 0, 1) := by decide +kernel
theorem dX2_isUnit_15 : decode cX2_isUnit 15 = .ok (.sipush 221, 3) := by decide +kernel
theorem dX2_isUnit_18 : decode cX2_isUnit 18 = .ok (.if_icmp .gt 7, 3) := by decide +kernel
theorem dX2_isUnit_21 : decode cX2_isUnit 21 = .ok (.iconst 1, 1) := by decide +kernel
theorem dX2_isUnit_22 : decode cX2_isUnit 22 = .ok (.goto 4, 3) := by decide +kernel
theorem dX2_isUnit_25 : decode cX2_isUnit 25 = .ok (.iconst 0, 1) := by decide +kernel
theorem dX2_isUnit_26 : decode cX2_isUnit 26 = .ok (.ireturn, 1) := by decide +kernel
theorem dX2_push_0 : decode cX2_push 0 = .ok (.aload_n 0, 1) := by decide +kernel
theorem dX2_push_1 : decode cX2_push 1 = .ok (.getfield 28, 3) := by decide +kernel
theorem dX2_push_4 : decode cX2_push 4 = .ok (.aload_n 0, 1) := by decide +kernel
theorem dX2_push_5 : decode cX2_push 5 = .ok (.getfield 15, 3) := by decide +kernel
theorem dX2_push_8 : decode cX2_push 8 = .ok (.arraylength, 1) := by decide +kernel
theorem dX2_push_9 : decode cX2_push 9 = .ok (.if_icmp .ge 23, 3) := by decide +kernel
theorem dX2_push_12 : decode cX2_push 12 = .ok (.aload_n 0, 1) := by decide +kernel
theorem dX2_push_13 : decode cX2_push 13 = .ok (.getfield 15, 3) := by decide +kernel
theorem dX2_push_16 : decode cX2_push 16 = .ok (.aload_n 0, 1) := by decide +kernel
theorem dX2_push_17 : decode cX2_push 17 = .ok (.getfield 28, 3) := by decide +kernel
theorem dX2_push_20 : decode cX2_push 20 = .ok (.iload_n 1, 1) := by decide +kernel
theorem dX2_push_21 : decode cX2_push 21 = .ok (.iastore, 1) := by decide +kernel
theorem dX2_push_22 : decode cX2_push 22 = .ok (.aload_n 0, 1) := by decide +kernel
theorem dX2_push_23 : decode cX2_push 23 = .ok (.dup, 1) := by decide +kernel
theorem dX2_push_24 : decode cX2_push 24 = .ok (.getfield 28, 3) := by decide +kernel
theorem dX2_push_27 : decode cX2_push 27 = .ok (.iconst 1, 1) := by decide +kernel
theorem dX2_push_28 : decode cX2_push 28 = .ok (.iadd, 1) := by decide +kernel
theorem dX2_push_29 : decode cX2_push 29 = .ok (.putfield 28, 3) := by decide +kernel
theorem dX2_push_32 : decode cX2_push 32 = .ok (.return_, 1) := by decide +kernel
theorem dX2_pop_0 : decode cX2_pop 0 = .ok (.aload_n 0, 1) := by decide +kernel
theorem dX2_pop_1 : decode cX2_pop 1 = .ok (.getfield 28, 3) := by decide +kernel
theorem dX2_pop_4 : decode cX2_pop 4 = .ok (.ifCond .gt 5, 3) := by decide +kernel
theorem dX2_pop_7 : decode cX2_pop 7 = .ok (.iconst 0, 1) := by decide +kernel
theorem dX2_pop_8 : decode cX2_pop 8 = .ok (.ireturn, 1) := by decide +kernel
theorem dX2_pop_9 : decode cX2_pop 9 = .ok (.aload_n 0, 1) := by decide +kernel
theorem dX2_pop_10 : decode cX2_pop 10 = .ok (.dup, 1) := by decide +kernel
theorem dX2_pop_11 : decode cX2_pop 11 = .ok (.getfield 28, 3) := by decide +kernel
theorem dX2_pop_14 : decode cX2_pop 14 = .ok (.iconst 1, 1) := by decide +kernel
theorem dX2_pop_15 : decode cX2_pop 15 = .ok (.isub, 1) := by decide +kernel
theorem dX2_pop_16 : decode cX2_pop 16 = .ok (.putfield 28, 3) := by decide +kernel
theorem dX2_pop_19 : decode cX2_pop 19 = .ok (.aload_n 0, 1) := by decide +kernel
theorem dX2_pop_20 : decode cX2_pop 20 = .ok (.getfield 15, 3) := by decide +kernel
theorem dX2_pop_23 : decode cX2_pop 23 = .ok (.aload_n 0, 1) := by decide +kernel
theorem dX2_pop_24 : decode cX2_pop 24 = .ok (.getfield 28, 3) := by decide +kernel
theorem dX2_pop_27 : decode cX2_pop 27 = .ok (.iaload, 1) := by decide +kernel
theorem dX2_pop_28 : decode cX2_pop 28 = .ok (.ireturn, 1) := by decide +kernel
theorem dX2_joined_0 : decode cX2_joined 0 = .ok (.iload_n 0, 1) := by decide +kernel
theorem dX2_joined_1 : decode cX2_joined 1 = .ok (.lookupswitch 188 #[(37, 115), (42, 99), (43, 91), (45, 95), (47, 103), (60, 127), (61, 149), (62, 138), (214, 174), (215, 160)], 91) := by decide +kernel
theorem dX2_joined_92 : decode cX2_joined 92 = .ok (.iload_n 1, 1) := by decide +kernel
theorem dX2_joined_93 : decode cX2_joined 93 = .ok (.iload_n 2, 1) := by decide +kernel
theorem dX2_joined_94 : decode cX2_joined 94 = .ok (.iadd, 1) := by decide +kernel
theorem dX2_joined_95 : decode cX2_joined 95 = .ok (.ireturn, 1) := by decide +kernel
theorem dX2_joined_96 : decode cX2_joined 96 = .ok (.iload_n 1, 1) := by decide +kernel
theorem dX2_joined_97 : decode cX2_joined 97 = .ok (.iload_n 2, 1) := by decide +kernel
theorem dX2_joined_98 : decode cX2_joined 98 = .ok (.isub, 1) := by decide +kernel
theorem dX2_joined_99 : decode cX2_joined 99 = .ok (.ireturn, 1) := by decide +kernel
theorem dX2_joined_100 : decode cX2_joined 100 = .ok (.iload_n 1, 1) := by decide +kernel
theorem dX2_joined_101 : decode cX2_joined 101 = .ok (.iload_n 2, 1) := by decide +kernel
theorem dX2_joined_102 : decode cX2_joined 102 = .ok (.imul, 1) := by decide +kernel
theorem dX2_joined_103 : decode cX2_joined 103 = .ok (.ireturn, 1) := by decide +kernel
theorem dX2_joined_104 : decode cX2_joined 104 = .ok (.iload_n 2, 1) := by decide +kernel
theorem dX2_joined_105 : decode cX2_joined 105 = .ok (.ifCond .ne 7, 3) := by decide +kernel
theorem dX2_joined_108 : decode cX2_joined 108 = .ok (.iconst 0, 1) := by decide +kernel
theorem dX2_joined_109 : decode cX2_joined 109 = .ok (.goto 6, 3) := by decide +kernel
theorem dX2_joined_112 : decode cX2_joined 112 = .ok (.iload_n 1, 1) := by decide +kernel
theorem dX2_joined_113 : decode cX2_joined 113 = .ok (.iload_n 2, 1) := by decide +kernel
theorem dX2_joined_114 : decode cX2_joined 114 = .ok (.idiv, 1) := by decide +kernel
theorem dX2_joined_115 : decode cX2_joined 115 = .ok (.ireturn, 1) := by decide +kernel
theorem dX2_joined_116 : decode cX2_joined 116 = .ok (.iload_n 2, 1) := by decide +kernel
theorem dX2_joined_117 : decode cX2_joined 117 = .ok (.ifCond .ne 7, 3) := by decide +kernel
theorem dX2_joined_120 : decode cX2_joined 120 = .ok (.iconst 0, 1) := by decide +kernel
theorem dX2_joined_121 : decode cX2_joined 121 = .ok (.goto 6, 3) := by decide +kernel
theorem dX2_joined_124 : decode cX2_joined 124 = .ok (.iload_n 1, 1) := by decide +kernel
theorem dX2_joined_125 : decode cX2_joined 125 = .ok (.iload_n 2, 1) := by decide +kernel
theorem dX2_joined_126 : decode cX2_joined 126 = .ok (.irem, 1) := by decide +kernel
theorem dX2_joined_127 : decode cX2_joined 127 = .ok (.ireturn, 1) := by decide +kernel
theorem dX2_joined_128 : decode cX2_joined 128 = .ok (.iload_n 1, 1) := by decide +kernel
theorem dX2_joined_129 : decode cX2_joined 129 = .ok (.iload_n 2, 1) := by decide +kernel
theorem dX2_joined_130 : decode cX2_joined 130 = .ok (.if_icmp .ge 7, 3) := by decide +kernel
theorem dX2_joined_133 : decode cX2_joined 133 = .ok (.iconst 1, 1) := by decide +kernel
theorem dX2_joined_134 : decode cX2_joined 134 = .ok (.goto 4, 3) := by decide +kernel
theorem dX2_joined_137 : decode cX2_joined 137 = .ok (.iconst 0, 1) := by decide +kernel
theorem dX2_joined_138 : decode cX2_joined 138 = .ok (.ireturn, 1) := by decide +kernel
theorem dX2_joined_139 : decode cX2_joined 139 = .ok (.iload_n 1, 1) := by decide +kernel
theorem dX2_joined_140 : decode cX2_joined 140 = .ok (.iload_n 2, 1) := by decide +kernel
theorem dX2_joined_141 : decode cX2_joined 141 = .ok (.if_icmp .le 7, 3) := by decide +kernel
theorem dX2_joined_144 : decode cX2_joined 144 = .ok (.iconst 1, 1) := by decide +kernel
theorem dX2_joined_145 : decode cX2_joined 145 = .ok (.goto 4, 3) := by decide +kernel
theorem dX2_joined_148 : decode cX2_joined 148 = .ok (.iconst 0, 1) := by decide +kernel
theorem dX2_joined_149 : decode cX2_joined 149 = .ok (.ireturn, 1) := by decide +kernel
theorem dX2_joined_150 : decode cX2_joined 150 = .ok (.iload_n 1, 1) := by decide +kernel
theorem dX2_joined_151 : decode cX2_joined 151 = .ok (.iload_n 2, 1) := by decide +kernel
theorem dX2_joined_152 : decode cX2_joined 152 = .ok (.if_icmp .ne 7, 3) := by decide +kernel
theorem dX2_joined_155 : decode cX2_joined 155 = .ok (.iconst 1, 1) := by decide +kernel
theorem dX2_joined_156 : decode cX2_joined 156 = .ok (.goto 4, 3) := by decide +kernel
theorem dX2_joined_159 : decode cX2_joined 159 = .ok (.iconst 0, 1) := by decide +kernel
theorem dX2_joined_160 : decode cX2_joined 160 = .ok (.ireturn, 1) := by decide +kernel
theorem dX2_joined_161 : decode cX2_joined 161 = .ok (.iload_n 1, 1) := by decide +kernel
theorem dX2_joined_162 : decode cX2_joined 162 = .ok (.ifCond .eq 11, 3) := by decide +kernel
theorem dX2_joined_165 : decode cX2_joined 165 = .ok (.iload_n 2, 1) := by decide +kernel
theorem dX2_joined_166 : decode cX2_joined 166 = .ok (.ifCond .eq 7, 3) := by decide +kernel
theorem dX2_joined_169 : decode cX2_joined 169 = .ok (.iconst 1, 1) := by decide +kernel
theorem dX2_joined_170 : decode cX2_joined 170 = .ok (.goto 4, 3) := by decide +kernel
theorem dX2_joined_173 : decode cX2_joined 173 = .ok (.iconst 0, 1) := by decide +kernel
theorem dX2_joined_174 : decode cX2_joined 174 = .ok (.ireturn, 1) := by decide +kernel
theorem dX2_joined_175 : decode cX2_joined 175 = .ok (.iload_n 1, 1) := by decide +kernel
theorem dX2_joined_176 : decode cX2_joined 176 = .ok (.ifCond .ne 7, 3) := by decide +kernel
theorem dX2_joined_179 : decode cX2_joined 179 = .ok (.iload_n 2, 1) := by decide +kernel
theorem dX2_joined_180 : decode cX2_joined 180 = .ok (.ifCond .eq 7, 3) := by decide +kernel
theorem dX2_joined_183 : decode cX2_joined 183 = .ok (.iconst 1, 1) := by decide +kernel
theorem dX2_joined_184 : decode cX2_joined 184 = .ok (.goto 4, 3) := by decide +kernel
theorem dX2_joined_187 : decode cX2_joined 187 = .ok (.iconst 0, 1) := by decide +kernel
theorem dX2_joined_188 : decode cX2_joined 188 = .ok (.ireturn, 1) := by decide +kernel
theorem dX2_joined_189 : decode cX2_joined 189 = .ok (.iconst 0, 1) := by decide +kernel
theorem dX2_joined_190 : decode cX2_joined 190 = .ok (.ireturn, 1) := by decide +kernel
theorem dX2_value_0 : decode cX2_value 0 = .ok (.aload_n 0, 1) := by decide +kernel
theorem dX2_value_1 : decode cX2_value 1 = .ok (.iconst 0, 1) := by decide +kernel
theorem dX2_value_2 : decode cX2_value 2 = .ok (.putfield 28, 3) := by decide +kernel
theorem dX2_value_5 : decode cX2_value 5 = .ok (.iconst 0, 1) := by decide +kernel
theorem dX2_value_6 : decode cX2_value 6 = .ok (.istore_n 1, 1) := by decide +kernel
theorem dX2_value_7 : decode cX2_value 7 = .ok (.iload_n 1, 1) := by decide +kernel
theorem dX2_value_8 : decode cX2_value 8 = .ok (.aload_n 0, 1) := by decide +kernel
theorem dX2_value_9 : decode cX2_value 9 = .ok (.getfield 21, 3) := by decide +kernel
theorem dX2_value_12 : decode cX2_value 12 = .ok (.if_icmp .ge 104, 3) := by decide +kernel
theorem dX2_value_15 : decode cX2_value 15 = .ok (.aload_n 0, 1) := by decide +kernel
theorem dX2_value_16 : decode cX2_value 16 = .ok (.getfield 9, 3) := by decide +kernel
theorem dX2_value_19 : decode cX2_value 19 = .ok (.iload_n 1, 1) := by decide +kernel
theorem dX2_value_20 : decode cX2_value 20 = .ok (.iaload, 1) := by decide +kernel
theorem dX2_value_21 : decode cX2_value 21 = .ok (.istore_n 2, 1) := by decide +kernel
theorem dX2_value_22 : decode cX2_value 22 = .ok (.iload_n 2, 1) := by decide +kernel
theorem dX2_value_23 : decode cX2_value 23 = .ok (.ifCond .lt 11, 3) := by decide +kernel
theorem dX2_value_26 : decode cX2_value 26 = .ok (.aload_n 0, 1) := by decide +kernel
theorem dX2_value_27 : decode cX2_value 27 = .ok (.iload_n 2, 1) := by decide +kernel
theorem dX2_value_28 : decode cX2_value 28 = .ok (.invokevirtual 31, 3) := by decide +kernel
theorem dX2_value_31 : decode cX2_value 31 = .ok (.goto 79, 3) := by decide +kernel
theorem dX2_value_34 : decode cX2_value 34 = .ok (.iload_n 2, 1) := by decide +kernel
theorem dX2_value_35 : decode cX2_value 35 = .ok (.ineg, 1) := by decide +kernel
theorem dX2_value_36 : decode cX2_value 36 = .ok (.invokestatic 35, 3) := by decide +kernel
theorem dX2_value_39 : decode cX2_value 39 = .ok (.ifCond .eq 21, 3) := by decide +kernel
theorem dX2_value_42 : decode cX2_value 42 = .ok (.aload_n 0, 1) := by decide +kernel
theorem dX2_value_43 : decode cX2_value 43 = .ok (.aload_n 0, 1) := by decide +kernel
theorem dX2_value_44 : decode cX2_value 44 = .ok (.getfield 18, 3) := by decide +kernel
theorem dX2_value_47 : decode cX2_value 47 = .ok (.iload_n 2, 1) := by decide +kernel
theorem dX2_value_48 : decode cX2_value 48 = .ok (.ineg, 1) := by decide +kernel
theorem dX2_value_49 : decode cX2_value 49 = .ok (.sipush 200, 3) := by decide +kernel
theorem dX2_value_52 : decode cX2_value 52 = .ok (.isub, 1) := by decide +kernel
theorem dX2_value_53 : decode cX2_value 53 = .ok (.iaload, 1) := by decide +kernel
theorem dX2_value_54 : decode cX2_value 54 = .ok (.invokevirtual 31, 3) := by decide +kernel
theorem dX2_value_57 : decode cX2_value 57 = .ok (.goto 53, 3) := by decide +kernel
theorem dX2_value_60 : decode cX2_value 60 = .ok (.iload_n 2, 1) := by decide +kernel
theorem dX2_value_61 : decode cX2_value 61 = .ok (.ineg, 1) := by decide +kernel
theorem dX2_value_62 : decode cX2_value 62 = .ok (.sipush 216, 3) := by decide +kernel
theorem dX2_value_65 : decode cX2_value 65 = .ok (.if_icmp .ne 22, 3) := by decide +kernel
theorem dX2_value_68 : decode cX2_value 68 = .ok (.aload_n 0, 1) := by decide +kernel
theorem dX2_value_69 : decode cX2_value 69 = .ok (.aload_n 0, 1) := by decide +kernel
theorem dX2_value_70 : decode cX2_value 70 = .ok (.invokevirtual 39, 3) := by decide +kernel
theorem dX2_value_73 : decode cX2_value 73 = .ok (.ifCond .ne 7, 3) := by decide +kernel
theorem dX2_value_76 : decode cX2_value 76 = .ok (.iconst 1, 1) := by decide +kernel
theorem dX2_value_77 : decode cX2_value 77 = .ok (.goto 4, 3) := by decide +kernel
theorem dX2_value_80 : decode cX2_value 80 = .ok (.iconst 0, 1) := by decide +kernel
theorem dX2_value_81 : decode cX2_value 81 = .ok (.invokevirtual 31, 3) := by decide +kernel
theorem dX2_value_84 : decode cX2_value 84 = .ok (.goto 26, 3) := by decide +kernel
theorem dX2_value_87 : decode cX2_value 87 = .ok (.aload_n 0, 1) := by decide +kernel
theorem dX2_value_88 : decode cX2_value 88 = .ok (.invokevirtual 39, 3) := by decide +kernel
theorem dX2_value_91 : decode cX2_value 91 = .ok (.istore_n 3, 1) := by decide +kernel
theorem dX2_value_92 : decode cX2_value 92 = .ok (.aload_n 0, 1) := by decide +kernel
theorem dX2_value_93 : decode cX2_value 93 = .ok (.invokevirtual 39, 3) := by decide +kernel
theorem dX2_value_96 : decode cX2_value 96 = .ok (.istore 4, 2) := by decide +kernel
theorem dX2_value_98 : decode cX2_value 98 = .ok (.aload_n 0, 1) := by decide +kernel
theorem dX2_value_99 : decode cX2_value 99 = .ok (.iload_n 2, 1) := by decide +kernel
theorem dX2_value_100 : decode cX2_value 100 = .ok (.ineg, 1) := by decide +kernel
theorem dX2_value_101 : decode cX2_value 101 = .ok (.iload 4, 2) := by decide +kernel
theorem dX2_value_103 : decode cX2_value 103 = .ok (.iload_n 3, 1) := by decide +kernel
theorem dX2_value_104 : decode cX2_value 104 = .ok (.invokestatic 43, 3) := by decide +kernel
theorem dX2_value_107 : decode cX2_value 107 = .ok (.invokevirtual 31, 3) := by decide +kernel
theorem dX2_value_110 : decode cX2_value 110 = .ok (.iinc 1 1, 3) := by decide +kernel
theorem dX2_value_113 : decode cX2_value 113 = .ok (.goto (-106), 3) := by decide +kernel
theorem dX2_value_116 : decode cX2_value 116 = .ok (.aload_n 0, 1) := by decide +kernel
theorem dX2_value_117 : decode cX2_value 117 = .ok (.invokevirtual 39, 3) := by decide +kernel
theorem dX2_value_120 : decode cX2_value 120 = .ok (.ireturn, 1) := by decide +kernel
theorem dX4_first_0 : decode cX4_first 0 = .ok (.aload_n 0, 1) := by decide +kernel
theorem dX4_first_1 : decode cX4_first 1 = .ok (.iload_n 1, 1) := by decide +kernel
theorem dX4_first_2 : decode cX4_first 2 = .ok (.bipush 6, 2) := by decide +kernel
theorem dX4_first_4 : decode cX4_first 4 = .ok (.invokestatic 19, 3) := by decide +kernel
theorem dX4_first_7 : decode cX4_first 7 = .ok (.putfield 15, 3) := by decide +kernel
theorem dX4_first_10 : decode cX4_first 10 = .ok (.iconst 1, 1) := by decide +kernel
theorem dX4_first_11 : decode cX4_first 11 = .ok (.istore_n 2, 1) := by decide +kernel
theorem dX4_first_12 : decode cX4_first 12 = .ok (.iconst 0, 1) := by decide +kernel
theorem dX4_first_13 : decode cX4_first 13 = .ok (.istore_n 3, 1) := by decide +kernel
theorem dX4_first_14 : decode cX4_first 14 = .ok (.iload_n 3, 1) := by decide +kernel
theorem dX4_first_15 : decode cX4_first 15 = .ok (.aload_n 0, 1) := by decide +kernel
theorem dX4_first_16 : decode cX4_first 16 = .ok (.getfield 15, 3) := by decide +kernel
theorem dX4_first_19 : decode cX4_first 19 = .ok (.if_icmp .ge 22, 3) := by decide +kernel
theorem dX4_first_22 : decode cX4_first 22 = .ok (.aload_n 0, 1) := by decide +kernel
theorem dX4_first_23 : decode cX4_first 23 = .ok (.getfield 9, 3) := by decide +kernel
theorem dX4_first_26 : decode cX4_first 26 = .ok (.iload_n 3, 1) := by decide +kernel
theorem dX4_first_27 : decode cX4_first 27 = .ok (.iload_n 3, 1) := by decide +kernel
theorem dX4_first_28 : decode cX4_first 28 = .ok (.iastore, 1) := by decide +kernel
theorem dX4_first_29 : decode cX4_first 29 = .ok (.iload_n 2, 1) := by decide +kernel
theorem dX4_first_30 : decode cX4_first 30 = .ok (.iload_n 3, 1) := by decide +kernel
theorem dX4_first_31 : decode cX4_first 31 = .ok (.iconst 1, 1) := by decide +kernel
theorem dX4_first_32 : decode cX4_first 32 = .ok (.iadd, 1) := by decide +kernel
theorem dX4_first_33 : decode cX4_first 33 = .ok (.imul, 1) := by decide +kernel
theorem dX4_first_34 : decode cX4_first 34 = .ok (.istore_n 2, 1) := by decide +kernel
theorem dX4_first_35 : decode cX4_first 35 = .ok (.iinc 3 1, 3) := by decide +kernel
theorem dX4_first_38 : decode cX4_first 38 = .ok (.goto (-24), 3) := by decide +kernel
theorem dX4_first_41 : decode cX4_first 41 = .ok (.iload_n 2, 1) := by decide +kernel
theorem dX4_first_42 : decode cX4_first 42 = .ok (.ireturn, 1) := by decide +kernel
theorem dX4_exchange_0 : decode cX4_exchange 0 = .ok (.aload_n 0, 1) := by decide +kernel
theorem dX4_exchange_1 : decode cX4_exchange 1 = .ok (.getfield 9, 3) := by decide +kernel
theorem dX4_exchange_4 : decode cX4_exchange 4 = .ok (.iload_n 1, 1) := by decide +kernel
theorem dX4_exchange_5 : decode cX4_exchange 5 = .ok (.iaload, 1) := by decide +kernel
theorem dX4_exchange_6 : decode cX4_exchange 6 = .ok (.istore_n 3, 1) := by decide +kernel
theorem dX4_exchange_7 : decode cX4_exchange 7 = .ok (.aload_n 0, 1) := by decide +kernel
theorem dX4_exchange_8 : decode cX4_exchange 8 = .ok (.getfield 9, 3) := by decide +kernel
theorem dX4_exchange_11 : decode cX4_exchange 11 = .ok (.iload_n 1, 1) := by decide +kernel
theorem dX4_exchange_12 : decode cX4_exchange 12 = .ok (.aload_n 0, 1) := by decide +kernel
theorem dX4_exchange_13 : decode cX4_exchange 13 = .ok (.getfield 9, 3) := by decide +kernel
theorem dX4_exchange_16 : decode cX4_exchange 16 = .ok (.iload_n 2, 1) := by decide +kernel
theorem dX4_exchange_17 : decode cX4_exchange 17 = .ok (.iaload, 1) := by decide +kernel
theorem dX4_exchange_18 : decode cX4_exchange 18 = .ok (.iastore, 1) := by decide +kernel
theorem dX4_exchange_19 : decode cX4_exchange 19 = .ok (.aload_n 0, 1) := by decide +kernel
theorem dX4_exchange_20 : decode cX4_exchange 20 = .ok (.getfield 9, 3) := by decide +kernel
theorem dX4_exchange_23 : decode cX4_exchange 23 = .ok (.iload_n 2, 1) := by decide +kernel
theorem dX4_exchange_24 : decode cX4_exchange 24 = .ok (.iload_n 3, 1) := by decide +kernel
theorem dX4_exchange_25 : decode cX4_exchange 25 = .ok (.iastore, 1) := by decide +kernel
theorem dX4_exchange_26 : decode cX4_exchange 26 = .ok (.return_, 1) := by decide +kernel
theorem dX4_next_0 : decode cX4_next 0 = .ok (.aload_n 0, 1) := by decide +kernel
theorem dX4_next_1 : decode cX4_next 1 = .ok (.getfield 15, 3) := by decide +kernel
theorem dX4_next_4 : decode cX4_next 4 = .ok (.iconst 2, 1) := by decide +kernel
theorem dX4_next_5 : decode cX4_next 5 = .ok (.isub, 1) := by decide +kernel
theorem dX4_next_6 : decode cX4_next 6 = .ok (.istore_n 1, 1) := by decide +kernel
theorem dX4_next_7 : decode cX4_next 7 = .ok (.iload_n 1, 1) := by decide +kernel
theorem dX4_next_8 : decode cX4_next 8 = .ok (.ifCond .lt 26, 3) := by decide +kernel
theorem dX4_next_11 : decode cX4_next 11 = .ok (.aload_n 0, 1) := by decide +kernel
theorem dX4_next_12 : decode cX4_next 12 = .ok (.getfield 9, 3) := by decide +kernel
theorem dX4_next_15 : decode cX4_next 15 = .ok (.iload_n 1, 1) := by decide +kernel
theorem dX4_next_16 : decode cX4_next 16 = .ok (.iaload, 1) := by decide +kernel
theorem dX4_next_17 : decode cX4_next 17 = .ok (.aload_n 0, 1) := by decide +kernel
theorem dX4_next_18 : decode cX4_next 18 = .ok (.getfield 9, 3) := by decide +kernel
theorem dX4_next_21 : decode cX4_next 21 = .ok (.iload_n 1, 1) := by decide +kernel
theorem dX4_next_22 : decode cX4_next 22 = .ok (.iconst 1, 1) := by decide +kernel
theorem dX4_next_23 : decode cX4_next 23 = .ok (.iadd, 1) := by decide +kernel
theorem dX4_next_24 : decode cX4_next 24 = .ok (.iaload, 1) := by decide +kernel
theorem dX4_next_25 : decode cX4_next 25 = .ok (.if_icmp .le 9, 3) := by decide +kernel
theorem dX4_next_28 : decode cX4_next 28 = .ok (.iinc 1 (-1), 3) := by decide +kernel
theorem dX4_next_31 : decode cX4_next 31 = .ok (.goto (-24), 3) := by decide +kernel
theorem dX4_next_34 : decode cX4_next 34 = .ok (.iload_n 1, 1) := by decide +kernel
theorem dX4_next_35 : decode cX4_next 35 = .ok (.ifCond .ge 4, 3) := by decide +kernel
theorem dX4_next_38 : decode cX4_next 38 = .ok (.return_, 1) := by decide +kernel
theorem dX4_next_39 : decode cX4_next 39 = .ok (.aload_n 0, 1) := by decide +kernel
theorem dX4_next_40 : decode cX4_next 40 = .ok (.getfield 15, 3) := by decide +kernel
theorem dX4_next_43 : decode cX4_next 43 = .ok (.iconst 1, 1) := by decide +kernel
theorem dX4_next_44 : decode cX4_next 44 = .ok (.isub, 1) := by decide +kernel
theorem dX4_next_45 : decode cX4_next 45 = .ok (.istore_n 2, 1) := by decide +kernel
theorem dX4_next_46 : decode cX4_next 46 = .ok (.iload_n 2, 1) := by decide +kernel
theorem dX4_next_47 : decode cX4_next 47 = .ok (.iload_n 1, 1) := by decide +kernel
theorem dX4_next_48 : decode cX4_next 48 = .ok (.if_icmp .le 24, 3) := by decide +kernel
theorem dX4_next_51 : decode cX4_next 51 = .ok (.aload_n 0, 1) := by decide +kernel
theorem dX4_next_52 : decode cX4_next 52 = .ok (.getfield 9, 3) := by decide +kernel
theorem dX4_next_55 : decode cX4_next 55 = .ok (.iload_n 2, 1) := by decide +kernel
theorem dX4_next_56 : decode cX4_next 56 = .ok (.iaload, 1) := by decide +kernel
theorem dX4_next_57 : decode cX4_next 57 = .ok (.aload_n 0, 1) := by decide +kernel
theorem dX4_next_58 : decode cX4_next 58 = .ok (.getfield 9, 3) := by decide +kernel
theorem dX4_next_61 : decode cX4_next 61 = .ok (.iload_n 1, 1) := by decide +kernel
theorem dX4_next_62 : decode cX4_next 62 = .ok (.iaload, 1) := by decide +kernel
theorem dX4_next_63 : decode cX4_next 63 = .ok (.if_icmp .ge 9, 3) := by decide +kernel
theorem dX4_next_66 : decode cX4_next 66 = .ok (.iinc 2 (-1), 3) := by decide +kernel
theorem dX4_next_69 : decode cX4_next 69 = .ok (.goto (-23), 3) := by decide +kernel
theorem dX4_next_72 : decode cX4_next 72 = .ok (.aload_n 0, 1) := by decide +kernel
theorem dX4_next_73 : decode cX4_next 73 = .ok (.iload_n 1, 1) := by decide +kernel
theorem dX4_next_74 : decode cX4_next 74 = .ok (.iload_n 2, 1) := by decide +kernel
theorem dX4_next_75 : decode cX4_next 75 = .ok (.invokevirtual 25, 3) := by decide +kernel
theorem dX4_next_78 : decode cX4_next 78 = .ok (.aload_n 0, 1) := by decide +kernel
theorem dX4_next_79 : decode cX4_next 79 = .ok (.getfield 15, 3) := by decide +kernel
theorem dX4_next_82 : decode cX4_next 82 = .ok (.iconst 1, 1) := by decide +kernel
theorem dX4_next_83 : decode cX4_next 83 = .ok (.isub, 1) := by decide +kernel
theorem dX4_next_84 : decode cX4_next 84 = .ok (.istore_n 3, 1) := by decide +kernel
theorem dX4_next_85 : decode cX4_next 85 = .ok (.iload_n 1, 1) := by decide +kernel
theorem dX4_next_86 : decode cX4_next 86 = .ok (.iconst 1, 1) := by decide +kernel
theorem dX4_next_87 : decode cX4_next 87 = .ok (.iadd, 1) := by decide +kernel
theorem dX4_next_88 : decode cX4_next 88 = .ok (.istore 4, 2) := by decide +kernel
theorem dX4_next_90 : decode cX4_next 90 = .ok (.iload 4, 2) := by decide +kernel
theorem dX4_next_92 : decode cX4_next 92 = .ok (.iload_n 3, 1) := by decide +kernel
theorem dX4_next_93 : decode cX4_next 93 = .ok (.if_icmp .ge 19, 3) := by decide +kernel
theorem dX4_next_96 : decode cX4_next 96 = .ok (.aload_n 0, 1) := by decide +kernel
theorem dX4_next_97 : decode cX4_next 97 = .ok (.iload 4, 2) := by decide +kernel
theorem dX4_next_99 : decode cX4_next 99 = .ok (.iload_n 3, 1) := by decide +kernel
theorem dX4_next_100 : decode cX4_next 100 = .ok (.invokevirtual 25, 3) := by decide +kernel
theorem dX4_next_103 : decode cX4_next 103 = .ok (.iinc 3 (-1), 3) := by decide +kernel
theorem dX4_next_106 : decode cX4_next 106 = .ok (.iinc 4 1, 3) := by decide +kernel
theorem dX4_next_109 : decode cX4_next 109 = .ok (.goto (-19), 3) := by decide +kernel
theorem dX4_next_112 : decode cX4_next 112 = .ok (.return_, 1) := by decide +kernel
theorem dX4_isAllowed_0 : decode cX4_isAllowed 0 = .ok (.iconst 0, 1) := by decide +kernel
theorem dX4_isAllowed_1 : decode cX4_isAllowed 1 = .ok (.istore_n 2, 1) := by decide +kernel
theorem dX4_isAllowed_2 : decode cX4_isAllowed 2 = .ok (.iload_n 2, 1) := by decide +kernel
theorem dX4_isAllowed_3 : decode cX4_isAllowed 3 = .ok (.aload_n 0, 1) := by decide +kernel
theorem dX4_isAllowed_4 : decode cX4_isAllowed 4 = .ok (.getfield 15, 3) := by decide +kernel
theorem dX4_isAllowed_7 : decode cX4_isAllowed 7 = .ok (.if_icmp .ge 26, 3) := by decide +kernel
theorem dX4_isAllowed_10 : decode cX4_isAllowed 10 = .ok (.aload_n 1, 1) := by decide +kernel
theorem dX4_isAllowed_11 : decode cX4_isAllowed 11 = .ok (.iload_n 2, 1) := by decide +kernel
theorem dX4_isAllowed_12 : decode cX4_isAllowed 12 = .ok (.iaload, 1) := by decide +kernel
theorem dX4_isAllowed_13 : decode cX4_isAllowed 13 = .ok (.aload_n 0, 1) := by decide +kernel
theorem dX4_isAllowed_14 : decode cX4_isAllowed 14 = .ok (.getfield 9, 3) := by decide +kernel
theorem dX4_isAllowed_17 : decode cX4_isAllowed 17 = .ok (.iload_n 2, 1) := by decide +kernel
theorem dX4_isAllowed_18 : decode cX4_isAllowed 18 = .ok (.iaload, 1) := by decide +kernel
theorem dX4_isAllowed_19 : decode cX4_isAllowed 19 = .ok (.ishr, 1) := by decide +kernel
theorem dX4_isAllowed_20 : decode cX4_isAllowed 20 = .ok (.iconst 1, 1) := by decide +kernel
theorem dX4_isAllowed_21 : decode cX4_isAllowed 21 = .ok (.iand, 1) := by decide +kernel
theorem dX4_isAllowed_22 : decode cX4_isAllowed 22 = .ok (.ifCond .ne 5, 3) := by decide +kernel
theorem dX4_isAllowed_25 : decode cX4_isAllowed 25 = .ok (.iconst 0, 1) := by decide +kernel
theorem dX4_isAllowed_26 : decode cX4_isAllowed 26 = .ok (.ireturn, 1) := by decide +kernel
theorem dX4_isAllowed_27 : decode cX4_isAllowed 27 = .ok (.iinc 2 1, 3) := by decide +kernel
theorem dX4_isAllowed_30 : decode cX4_isAllowed 30 = .ok (.goto (-28), 3) := by decide +kernel
theorem dX4_isAllowed_33 : decode cX4_isAllowed 33 = .ok (.iconst 1, 1) := by decide +kernel
theorem dX4_isAllowed_34 : decode cX4_isAllowed 34 = .ok (.ireturn, 1) := by decide +kernel
theorem dX4_copyTo_0 : decode cX4_copyTo 0 = .ok (.aload_n 0, 1) := by decide +kernel
theorem dX4_copyTo_1 : decode cX4_copyTo 1 = .ok (.getfield 9, 3) := by decide +kernel
theorem dX4_copyTo_4 : decode cX4_copyTo 4 = .ok (.iconst 0, 1) := by decide +kernel
theorem dX4_copyTo_5 : decode cX4_copyTo 5 = .ok (.aload_n 1, 1) := by decide +kernel
theorem dX4_copyTo_6 : decode cX4_copyTo 6 = .ok (.iconst 0, 1) := by decide +kernel
theorem dX4_copyTo_7 : decode cX4_copyTo 7 = .ok (.aload_n 0, 1) := by decide +kernel
theorem dX4_copyTo_8 : decode cX4_copyTo 8 = .ok (.getfield 15, 3) := by decide +kernel
theorem dX4_copyTo_11 : decode cX4_copyTo 11 = .ok (.invokestatic 29, 3) := by decide +kernel
theorem dX4_copyTo_14 : decode cX4_copyTo 14 = .ok (.return_, 1) := by decide +kernel
set_option maxHeartbeats 2000000 in
set_option maxRecDepth 20000 in
theorem c_J7_fill_53178 (l : Launch) (D : va_G) (cy : Nat → ClassId) (B N : Nat) (k : Int) (ln : Nat) (lo hi : Int) (a : Int) (M : MM) (hN : 0 ≤ N) (hI : Iv M) (hpa : I32 a) (hkd : kd k = .inr (0, ln)) (hrg : ∀ j, rg k j = (lo, hi)) (hk0 : 0 ≤ k ∧ k < N ∧ k ≠ 27) (hnn : (ln : Int) ≤ 10000) (hlo : lo ≤ a ∧ a ≤ hi) : CV l D cy B N 1 yJ7_fill_53178 cJ7_fill_53178 4 none [rv B k, iv a] M (fun M' => Iv M' ∧ Fr (fun a (_ : Int) => (a = k)) M M') := by
  refine mk_CV (by decide) (Nat.le_of_ble_eq_true rfl) ?_
  intro X exl exD excy hnL hX hret
  have hce : 0 + 0 ≤ (xR X).cells ∧ 0 + 0 ≤ (xR X).slots := ⟨Nat.zero_le _, Nat.zero_le _⟩
  have hF : Fr (fun a (_ : Int) => (a = k)) M M := Fr.rf
  have cp : ∀ n : Nat, (∀ (x2 x3 : Int), ∀ (Mc : MM), I32 x2 → I32 x3 → Iv Mc → Fr (fun a (_ : Int) => (a = k)) M Mc → (0 ≤ x2 ∧ x2 ≤ ln ∧ x3 = ln) → 0 ≤ 32 * (ln - x2) + 1 → 32 * (ln - x2) + 1 < (n : Int) → J X B N 0 0 5 [(0, rv B k), (1, iv a), (2, iv x2), (3, iv x3)] [] Mc) := by
    intro n
    induction n with
    | zero => exact by intros; exfalso; omega
    | succ n ih =>
      · intro x2 x3 Mc hxx2 hxx3 hI hF h2 hm0 hm1
        refine j_iload_n hX dJ7_fill_53178_5 rfl 2 rfl ?_
        refine j_iload_n hX dJ7_fill_53178_6 rfl 3 rfl ?_
        refine j_icmp_ge (tgt := 20) hX dJ7_fill_53178_7 (by decide) (by omega) (by omega) (fun hc1 => ?_) (fun hc1 => ?_)
        · skip
          exact hret _ _ _ dJ7_fill_53178_20 ⟨hI, hF⟩
        · skip
          refine j_aload_n hX dJ7_fill_53178_10 rfl 0 rfl ?_
          refine j_iload_n hX dJ7_fill_53178_11 rfl 2 rfl ?_
          refine j_iload_n hX dJ7_fill_53178_12 rfl 1 rfl ?_
          refine j_iast hX (by omega) (by omega) hkd (by omega) (by omega) (by omega) (by omega) dJ7_fill_53178_13 ?_
          refine j_up hI (hrg _) (by omega) (by omega) (Or.inl (by omega)) (fun M2 w3 hw4 hM5 hI6 hf7 => ?_)
          have hF8 := Fr.put hF hM5 (by omega)
          refine j_iinc (lv' := [(2, _), (0, _), (1, _), (3, _)]) hX dJ7_fill_53178_14 2 rfl (by rw [hnL]; decide) rfl ?_
          refine j_goto (tgt := 5) hX dJ7_fill_53178_17 (by decide) ?_
          refine j_sub [1, 2, 0, 3] rfl ?_
          exact ih _ _ _ (by omega) (by omega) hI6 hF8 (by first | assumption | omega) (by omega) (by omega)
  show J X B N 0 0 0 [(0, rv B k), (1, iv a)] [] M
  refine j_iconst hX dJ7_fill_53178_0 ?_
  refine j_istore_n (lv' := [(2, _), (0, _), (1, _)]) hX dJ7_fill_53178_1 rfl (by rw [hnL]; decide) rfl ?_
  refine j_aload_n hX dJ7_fill_53178_2 rfl 1 rfl ?_
  refine j_alen hX (by decide) (by omega) (by omega) hkd dJ7_fill_53178_3 ?_
  refine j_istore_n (lv' := [(3, _), (2, _), (0, _), (1, _)]) hX dJ7_fill_53178_4 rfl (by rw [hnL]; decide) rfl ?_
  refine j_sub [2, 3, 1, 0] rfl ?_
  refine (cp (Int.toNat (320064 + 1))) _ _ _ (by omega) (by omega) hI hF (by first | assumption | omega) ?_ ?_
  · omega
  · omega
set_option maxHeartbeats 2000000 in
set_option maxRecDepth 20000 in
theorem c_X9_advance (l : Launch) (D : va_G) (cy : Nat → ClassId) (B N : Nat) (M : MM) (hN : 210 ≤ N) (hI : Iv M) (hkn : KNo M) : CV l D cy B N 9 yX9_advance cX9_advance 1 none [rv B 2] M (fun M' => Iv M' ∧ Fr (fun a b => (a = 2 ∧ 3 ≤ b ∧ b ≤ 6)) M M' ∧ (KNo M')) := by
  refine mk_CV (by decide) (Nat.le_of_ble_eq_true rfl) ?_
  intro X exl exD excy hnL hX hret
  have hce : 0 + 0 ≤ (xR X).cells ∧ 0 + 0 ≤ (xR X).slots := ⟨Nat.zero_le _, Nat.zero_le _⟩
  have hF : Fr (fun a b => (a = 2 ∧ 3 ≤ b ∧ b ≤ 6)) M M := Fr.rf
  have cp : ∀ n : Nat, (∀ (Mc : MM), Iv Mc → Fr (fun a b => (a = 2 ∧ 3 ≤ b ∧ b ≤ 6)) M Mc → KNo Mc → 0 ≤ 32 * (1600 - Mc.1 2 3) + 1 → 32 * (1600 - Mc.1 2 3) + 1 < (n : Int) → J X B N 0 0 0 [(0, rv B 2)] [] Mc) := by
    intro n
    induction n with
    | zero => exact by intros; exfalso; omega
    | succ n ih =>
      · intro  Mc hI hF hV_0 hm0 hm1
        have hat := hI.at 2 3 ro_2_3
        refine j_aload_n hX dX9_advance_0 rfl 0 rfl ?_
        refine gf_X9_23 hX (by omega) (by omega) kc_2 dX9_advance_1 ?_
        refine j_name hI ro_2_3 (fun v1 hv2 hl3 hh4 => ?_)
        have hk5 := hv2.symm
        refine j_aload_n hX dX9_advance_4 rfl 0 rfl ?_
        refine gf_X9_19 hX (by omega) (by omega) kc_2 dX9_advance_5 ?_
        refine j_name hI ro_2_2 (fun v6 hv7 hl8 hh9 => ?_)
        have hk10 := hv7.symm
        refine j_icmp_ge (tgt := 52) hX dX9_advance_8 (by decide) (by omega) (by omega) (fun hc11 => ?_) (fun hc11 => ?_)
        · skip
          refine j_aload_n hX dX9_advance_52 rfl 0 rfl ?_
          refine j_aload_n hX dX9_advance_53 rfl 0 rfl ?_
          refine gf_X9_23 hX (by omega) (by omega) kc_2 dX9_advance_54 ?_
          refine j_top hk5 ?_
          refine pf_X9_29 hX (by omega) (by omega) kc_2 (by omega) dX9_advance_57 ?_
          refine j_up hI ro_2_5 (by omega) (by omega) (Or.inl (by omega)) (fun M12 w13 hw14 hM15 hI16 hf17 => ?_)
          have hV18 := KN_up hV_0 hM15 (by omega)
          have hk19 := kp_up hM15 (fun h => absurd h.2 (by decide)) hk5
          have hk20 := kp_up hM15 (fun h => absurd h.2 (by decide)) hk10
          have hF21 := Fr.put hF hM15 (by omega)
          refine j_aload_n hX dX9_advance_60 rfl 0 rfl ?_
          refine gf_X9_23 hX (by omega) (by omega) kc_2 dX9_advance_61 ?_
          refine j_top hk19 ?_
          refine j_aload_n hX dX9_advance_64 rfl 0 rfl ?_
          refine gf_X9_19 hX (by omega) (by omega) kc_2 dX9_advance_65 ?_
          refine j_top hk20 ?_
          refine j_icmp_lt (tgt := 79) hX dX9_advance_68 (by decide) (by omega) (by omega) (fun hc22 => ?_) (fun hc22 => ?_)
          · skip
            refine j_aload_n hX dX9_advance_79 rfl 0 rfl ?_
            refine j_aload_n hX dX9_advance_80 rfl 0 rfl ?_
            refine gf_X9_23 hX (by omega) (by omega) kc_2 dX9_advance_81 ?_
            refine j_top hk19 ?_
            refine j_callVI hX lk_X9_54 (c_X9_isLetterAt _ _ _ _ _ _ _ (by omega) hI16 (by omega) (by first | assumption | omega)) (by omega) hce rfl rfl (by omega) (by omega) kc_2 rfl rfl (Nat.le_of_ble_eq_true rfl) dX9_advance_84 (fun z23 M24 hz26 hp25 => ?_)
            obtain ⟨rfl, hb27⟩ := hp25
            refine j_if_eq (tgt := 97) hX dX9_advance_87 (by decide) (by omega) (fun hc28 => ?_) (fun hc28 => ?_)
            · skip
              refine j_aload_n hX dX9_advance_97 rfl 0 rfl ?_
              refine j_aload_n hX dX9_advance_98 rfl 0 rfl ?_
              refine gf_X9_23 hX (by omega) (by omega) kc_2 dX9_advance_99 ?_
              refine j_top hk19 ?_
              refine j_callVI hX lk_X9_61 (c_X9_isDigitAt _ _ _ _ _ _ _ (by omega) hI16 (by omega) (by first | assumption | omega)) (by omega) hce rfl rfl (by omega) (by omega) kc_2 rfl rfl (Nat.le_of_ble_eq_true rfl) dX9_advance_102 (fun z29 M30 hz32 hp31 => ?_)
              obtain ⟨rfl, hb33, hq34⟩ := hp31
              refine j_if_eq (tgt := 115) hX dX9_advance_105 (by decide) (by omega) (fun hc35 => ?_) (fun hc35 => ?_)
              · skip
                clear hq34
                refine j_aload_n hX dX9_advance_115 rfl 0 rfl ?_
                refine j_callVV hX lk_X9_67 (c_X9_takeSign _ _ _ _ _ _ (by omega) hI16 (by first | assumption | omega)) (by omega) hce rfl rfl (by omega) (by omega) kc_2 rfl rfl (Nat.le_of_ble_eq_true rfl) dX9_advance_116 (fun M37 hp38 => ?_)
                obtain ⟨hI40, hG41, hq42⟩ := hp38
                have hk44 := kp_fr hG41 (by omega) hk20
                have hk45 := kp_fr hG41 (by omega) hf17
                have hF46 := Fr.trans hF21 hG41 (fun a b h => by omega)
                exact hret _ _ _ dX9_advance_119 ⟨hI40, hF46, by first | assumption | (intro h; omega)⟩
              · skip
                have hi47 := hq34 (by omega)
                clear hq34
                refine j_aload_n hX dX9_advance_108 rfl 0 rfl ?_
                refine j_callVV hX lk_X9_64 (c_X9_takeNumber _ _ _ _ _ _ (by omega) hI16 (by first | assumption | omega)) (by omega) hce rfl rfl (by omega) (by omega) kc_2 rfl rfl (Nat.le_of_ble_eq_true rfl) dX9_advance_109 (fun M49 hp50 => ?_)
                obtain ⟨hI52, hG53, hq54⟩ := hp50
                have hk56 := kp_fr hG53 (by omega) hk20
                have hF57 := Fr.trans hF21 hG53 (fun a b h => by omega)
                refine j_goto (tgt := 119) hX dX9_advance_112 (by decide) ?_
                exact hret _ _ _ dX9_advance_119 ⟨hI52, hF57, by first | assumption | (intro h; omega)⟩
            · skip
              refine j_aload_n hX dX9_advance_90 rfl 0 rfl ?_
              refine j_callVV hX lk_X9_58 (c_X9_takeWord _ _ _ _ _ _ (by omega) hI16) (by omega) hce rfl rfl (by omega) (by omega) kc_2 rfl rfl (Nat.le_of_ble_eq_true rfl) dX9_advance_91 (fun M59 hp60 => ?_)
              obtain ⟨hI62, hG63, hq64⟩ := hp60
              have hk66 := kp_fr hG63 (by omega) hk20
              have hk67 := kp_fr hG63 (by omega) hf17
              have hF68 := Fr.trans hF21 hG63 (fun a b h => by omega)
              refine j_goto (tgt := 119) hX dX9_advance_94 (by decide) ?_
              exact hret _ _ _ dX9_advance_119 ⟨hI62, hF68, by first | assumption | (intro h; omega)⟩
          · skip
            refine j_aload_n hX dX9_advance_71 rfl 0 rfl ?_
            refine j_iconst hX dX9_advance_72 ?_
            refine pf_X9_26 hX (by omega) (by omega) kc_2 (by omega) dX9_advance_73 ?_
            refine j_up hI16 ro_2_4 (by omega) (by omega) (Or.inl (by omega)) (fun M69 w70 hw71 hM72 hI73 hf74 => ?_)
            have hk76 := kp_up hM72 (fun h => absurd h.2 (by decide)) hk19
            have hk77 := kp_up hM72 (fun h => absurd h.2 (by decide)) hk20
            have hk78 := kp_up hM72 (fun h => absurd h.2 (by decide)) hf17
            have hF79 := Fr.put hF21 hM72 (by omega)
            refine j_goto (tgt := 119) hX dX9_advance_76 (by decide) ?_
            exact hret _ _ _ dX9_advance_119 ⟨hI73, hF79, by first | assumption | (intro h; omega)⟩
        · skip
          refine j_aload_n hX dX9_advance_11 rfl 0 rfl ?_
          refine gf_X9_9 hX (by omega) (by omega) kc_2 (fc_2_0 hI) (by decide) dX9_advance_12 ?_
          refine j_aload_n hX dX9_advance_15 rfl 0 rfl ?_
          refine gf_X9_23 hX (by omega) (by omega) kc_2 dX9_advance_16 ?_
          refine j_top hk5 ?_
          refine j_bald hX (by omega) (by omega) kc_3 (by omega) (by omega) (by omega) dX9_advance_19 ?_
          refine j_name hI (ra_3 _) (fun v80 hv81 hl82 hh83 => ?_)
          refine j_bipush hX dX9_advance_20 rfl ?_
          refine j_icmp_eq (tgt := 39) hX dX9_advance_22 (by decide) (by omega) (by omega) (fun hc84 => ?_) (fun hc84 => ?_)
          · skip
            refine j_aload_n hX dX9_advance_39 rfl 0 rfl ?_
            refine j_dup hX dX9_advance_40 rfl ?_
            refine gf_X9_23 hX (by omega) (by omega) kc_2 dX9_advance_41 ?_
            refine j_top hk5 ?_
            refine j_iconst hX dX9_advance_44 ?_
            refine j_iadd hX dX9_advance_45 ?_
            refine pf_X9_23 hX (by omega) (by omega) kc_2 (by omega) dX9_advance_46 ?_
            refine j_up hI ro_2_3 (by omega) (by omega) (Or.inl (by omega)) (fun M85 w86 hw87 hM88 hI89 hf90 => ?_)
            have hV91 := KN_up hV_0 hM88 (by omega)
            have hk92 := kp_up hM88 (fun h => absurd h.2 (by decide)) hk10
            have hF93 := Fr.put hF hM88 (by omega)
            refine j_goto (tgt := 0) hX dX9_advance_49 (by decide) ?_
            have hat2 := hI89.at 2 3 ro_2_3
            exact ih _ hI89 hF93 hV91 (by omega) (by omega)
          · skip
            refine j_aload_n hX dX9_advance_25 rfl 0 rfl ?_
            refine gf_X9_9 hX (by omega) (by omega) kc_2 (fc_2_0 hI) (by decide) dX9_advance_26 ?_
            refine j_aload_n hX dX9_advance_29 rfl 0 rfl ?_
            refine gf_X9_23 hX (by omega) (by omega) kc_2 dX9_advance_30 ?_
            refine j_top hk5 ?_
            refine j_bald hX (by omega) (by omega) kc_3 (by omega) (by omega) (by omega) dX9_advance_33 ?_
            refine j_name hI (ra_3 _) (fun v94 hv95 hl96 hh97 => ?_)
            refine j_bipush hX dX9_advance_34 rfl ?_
            refine j_icmp_ne (tgt := 52) hX dX9_advance_36 (by decide) (by omega) (by omega) (fun hc98 => ?_) (fun hc98 => ?_)
            · skip
              refine j_aload_n hX dX9_advance_52 rfl 0 rfl ?_
              refine j_aload_n hX dX9_advance_53 rfl 0 rfl ?_
              refine gf_X9_23 hX (by omega) (by omega) kc_2 dX9_advance_54 ?_
              refine j_top hk5 ?_
              refine pf_X9_29 hX (by omega) (by omega) kc_2 (by omega) dX9_advance_57 ?_
              refine j_up hI ro_2_5 (by omega) (by omega) (Or.inl (by omega)) (fun M99 w100 hw101 hM102 hI103 hf104 => ?_)
              have hV105 := KN_up hV_0 hM102 (by omega)
              have hk106 := kp_up hM102 (fun h => absurd h.2 (by decide)) hk5
              have hk107 := kp_up hM102 (fun h => absurd h.2 (by decide)) hk10
              have hF108 := Fr.put hF hM102 (by omega)
              refine j_aload_n hX dX9_advance_60 rfl 0 rfl ?_
              refine gf_X9_23 hX (by omega) (by omega) kc_2 dX9_advance_61 ?_
              refine j_top hk106 ?_
              refine j_aload_n hX dX9_advance_64 rfl 0 rfl ?_
              refine gf_X9_19 hX (by omega) (by omega) kc_2 dX9_advance_65 ?_
              refine j_top hk107 ?_
              refine j_icmp_lt (tgt := 79) hX dX9_advance_68 (by decide) (by omega) (by omega) (fun hc109 => ?_) (fun hc109 => ?_)
              · skip
                refine j_aload_n hX dX9_advance_79 rfl 0 rfl ?_
                refine j_aload_n hX dX9_advance_80 rfl 0 rfl ?_
                refine gf_X9_23 hX (by omega) (by omega) kc_2 dX9_advance_81 ?_
                refine j_top hk106 ?_
                refine j_callVI hX lk_X9_54 (c_X9_isLetterAt _ _ _ _ _ _ _ (by omega) hI103 (by omega) (by first | assumption | omega)) (by omega) hce rfl rfl (by omega) (by omega) kc_2 rfl rfl (Nat.le_of_ble_eq_true rfl) dX9_advance_84 (fun z110 M111 hz113 hp112 => ?_)
                obtain ⟨rfl, hb114⟩ := hp112
                refine j_if_eq (tgt := 97) hX dX9_advance_87 (by decide) (by omega) (fun hc115 => ?_) (fun hc115 => ?_)
                · skip
                  refine j_aload_n hX dX9_advance_97 rfl 0 rfl ?_
                  refine j_aload_n hX dX9_advance_98 rfl 0 rfl ?_
                  refine gf_X9_23 hX (by omega) (by omega) kc_2 dX9_advance_99 ?_
                  refine j_top hk106 ?_
                  refine j_callVI hX lk_X9_61 (c_X9_isDigitAt _ _ _ _ _ _ _ (by omega) hI103 (by omega) (by first | assumption | omega)) (by omega) hce rfl rfl (by omega) (by omega) kc_2 rfl rfl (Nat.le_of_ble_eq_true rfl) dX9_advance_102 (fun z116 M117 hz119 hp118 => ?_)
                  obtain ⟨rfl, hb120, hq121⟩ := hp118
                  refine j_if_eq (tgt := 115) hX dX9_advance_105 (by decide) (by omega) (fun hc122 => ?_) (fun hc122 => ?_)
                  · skip
                    clear hq121
                    refine j_aload_n hX dX9_advance_115 rfl 0 rfl ?_
                    refine j_callVV hX lk_X9_67 (c_X9_takeSign _ _ _ _ _ _ (by omega) hI103 (by first | assumption | omega)) (by omega) hce rfl rfl (by omega) (by omega) kc_2 rfl rfl (Nat.le_of_ble_eq_true rfl) dX9_advance_116 (fun M124 hp125 => ?_)
                    obtain ⟨hI127, hG128, hq129⟩ := hp125
                    have hk131 := kp_fr hG128 (by omega) hk107
                    have hk132 := kp_fr hG128 (by omega) hf104
                    have hF133 := Fr.trans hF108 hG128 (fun a b h => by omega)
                    exact hret _ _ _ dX9_advance_119 ⟨hI127, hF133, by first | assumption | (intro h; omega)⟩
                  · skip
                    have hi134 := hq121 (by omega)
                    clear hq121
                    refine j_aload_n hX dX9_advance_108 rfl 0 rfl ?_
                    refine j_callVV hX lk_X9_64 (c_X9_takeNumber _ _ _ _ _ _ (by omega) hI103 (by first | assumption | omega)) (by omega) hce rfl rfl (by omega) (by omega) kc_2 rfl rfl (Nat.le_of_ble_eq_true rfl) dX9_advance_109 (fun M136 hp137 => ?_)
                    obtain ⟨hI139, hG140, hq141⟩ := hp137
                    have hk143 := kp_fr hG140 (by omega) hk107
                    have hF144 := Fr.trans hF108 hG140 (fun a b h => by omega)
                    refine j_goto (tgt := 119) hX dX9_advance_112 (by decide) ?_
                    exact hret _ _ _ dX9_advance_119 ⟨hI139, hF144, by first | assumption | (intro h; omega)⟩
                · skip
                  refine j_aload_n hX dX9_advance_90 rfl 0 rfl ?_
                  refine j_callVV hX lk_X9_58 (c_X9_takeWord _ _ _ _ _ _ (by omega) hI103) (by omega) hce rfl rfl (by omega) (by omega) kc_2 rfl rfl (Nat.le_of_ble_eq_true rfl) dX9_advance_91 (fun M146 hp147 => ?_)
                  obtain ⟨hI149, hG150, hq151⟩ := hp147
                  have hk153 := kp_fr hG150 (by omega) hk107
                  have hk154 := kp_fr hG150 (by omega) hf104
                  have hF155 := Fr.trans hF108 hG150 (fun a b h => by omega)
                  refine j_goto (tgt := 119) hX dX9_advance_94 (by decide) ?_
                  exact hret _ _ _ dX9_advance_119 ⟨hI149, hF155, by first | assumption | (intro h; omega)⟩
              · skip
                refine j_aload_n hX dX9_advance_71 rfl 0 rfl ?_
                refine j_iconst hX dX9_advance_72 ?_
                refine pf_X9_26 hX (by omega) (by omega) kc_2 (by omega) dX9_advance_73 ?_
                refine j_up hI103 ro_2_4 (by omega) (by omega) (Or.inl (by omega)) (fun M156 w157 hw158 hM159 hI160 hf161 => ?_)
                have hk163 := kp_up hM159 (fun h => absurd h.2 (by decide)) hk106
                have hk164 := kp_up hM159 (fun h => absurd h.2 (by decide)) hk107
                have hk165 := kp_up hM159 (fun h => absurd h.2 (by decide)) hf104
                have hF166 := Fr.put hF108 hM159 (by omega)
                refine j_goto (tgt := 119) hX dX9_advance_76 (by decide) ?_
                exact hret _ _ _ dX9_advance_119 ⟨hI160, hF166, by first | assumption | (intro h; omega)⟩
            · skip
              refine j_aload_n hX dX9_advance_39 rfl 0 rfl ?_
              refine j_dup hX dX9_advance_40 rfl ?_
              refine gf_X9_23 hX (by omega) (by omega) kc_2 dX9_advance_41 ?_
              refine j_top hk5 ?_
              refine j_iconst hX dX9_advance_44 ?_
              refine j_iadd hX dX9_advance_45 ?_
              refine pf_X9_23 hX (by omega) (by omega) kc_2 (by omega) dX9_advance_46 ?_
              refine j_up hI ro_2_3 (by omega) (by omega) (Or.inl (by omega)) (fun M167 w168 hw169 hM170 hI171 hf172 => ?_)
              have hV173 := KN_up hV_0 hM170 (by omega)
              have hk174 := kp_up hM170 (fun h => absurd h.2 (by decide)) hk10
              have hF175 := Fr.put hF hM170 (by omega)
              refine j_goto (tgt := 0) hX dX9_advance_49 (by decide) ?_
              have hat2 := hI171.at 2 3 ro_2_3
              exact ih _ hI171 hF175 hV173 (by omega) (by omega)
  show J X B N 0 0 0 [(0, rv B 2)] [] M
  have hat2 := hI.at 2 3 ro_2_3
  refine (cp (Int.toNat (51264 + 1))) _ hI hF hkn ?_ ?_
  · omega
  · omega
set_option maxHeartbeats 2000000 in
set_option maxRecDepth 20000 in
theorem c_X2_clear (l : Launch) (D : va_G) (cy : Nat → ClassId) (B N : Nat) (q : Int) (M : MM) (hN : 210 ≤ N) (hI : Iv M) (hq : q = 5 ∨ q = 180) : CV l D cy B N 1 yX2_clear cX2_clear 1 none [rv B (q + 15)] M (fun M' => Iv M' ∧ Fr (fun a b => (a = q + 15 ∧ 3 ≤ b ∧ b ≤ 4)) M M' ∧ (M'.1 (q + 15) 4 = 0)) := by
  refine mk_CV (by decide) (Nat.le_of_ble_eq_true rfl) ?_
  intro X exl exD excy hnL hX hret
  have hce : 0 + 0 ≤ (xR X).cells ∧ 0 + 0 ≤ (xR X).slots := ⟨Nat.zero_le _, Nat.zero_le _⟩
  have hF : Fr (fun a b => (a = q + 15 ∧ 3 ≤ b ∧ b ≤ 4)) M M := Fr.rf
  show J X B N 0 0 0 [(0, rv B (q + 15))] [] M
  refine j_aload_n hX dX2_clear_0 rfl 0 rfl ?_
  refine j_iconst hX dX2_clear_1 ?_
  refine pf_X2_21 hX (by omega) (by omega) (kq_15 hq) (by omega) dX2_clear_2 ?_
  refine j_up hI (rr_3 hq) (by omega) (by omega) (Or.inl (by omega)) (fun M1 w2 hw3 hM4 hI5 hf6 => ?_)
  have hF7 := Fr.put hF hM4 (by omega)
  refine j_aload_n hX dX2_clear_5 rfl 0 rfl ?_
  refine j_iconst hX dX2_clear_6 ?_
  refine pf_X2_25 hX (by omega) (by omega) (kq_15 hq) (by omega) dX2_clear_7 ?_
  refine j_up hI5 (rr_4 hq) (by omega) (by omega) (Or.inl (by omega)) (fun M8 w9 hw10 hM11 hI12 hf13 => ?_)
  have hk14 := kp_up hM11 (fun h => absurd h.2 (by decide)) hf6
  have hF15 := Fr.put hF7 hM11 (by omega)
  exact hret _ _ _ dX2_clear_10 ⟨hI12, hF15, by first | assumption | omega⟩
set_option maxHeartbeats 2000000 in
set_option maxRecDepth 20000 in
theorem c_X2_put (l : Launch) (D : va_G) (cy : Nat → ClassId) (B N : Nat) (q : Int) (a : Int) (M : MM) (hN : 210 ≤ N) (hI : Iv M) (hpa : I32 a) (hq : q = 5 ∨ q = 180) : CV l D cy B N 1 yX2_put cX2_put 2 none [rv B (q + 15), iv a] M (fun M' => Iv M' ∧ Fr (fun a b => (a = q + 15 ∧ 3 ≤ b ∧ b ≤ 3) ∨ (a = q + 16)) M M') := by
  refine mk_CV (by decide) (Nat.le_of_ble_eq_true rfl) ?_
  intro X exl exD excy hnL hX hret
  have hce : 0 + 0 ≤ (xR X).cells ∧ 0 + 0 ≤ (xR X).slots := ⟨Nat.zero_le _, Nat.zero_le _⟩
  have hF : Fr (fun a b => (a = q + 15 ∧ 3 ≤ b ∧ b ≤ 3) ∨ (a = q + 16)) M M := Fr.rf
  show J X B N 0 0 0 [(0, rv B (q + 15)), (1, iv a)] [] M
  refine j_aload_n hX dX2_put_0 rfl 0 rfl ?_
  refine gf_X2_21 hX (by omega) (by omega) (kq_15 hq) dX2_put_1 ?_
  refine j_name hI (rr_3 hq) (fun v1 hv2 hl3 hh4 => ?_)
  have hk5 := hv2.symm
  refine j_aload_n hX dX2_put_4 rfl 0 rfl ?_
  refine gf_X2_9 hX (by omega) (by omega) (kq_15 hq) (fr_0 hI hq) (by omega) dX2_put_5 ?_
  refine j_alen hX (by decide) (by omega) (by omega) (kq_16 hq) dX2_put_8 ?_
  refine j_icmp_ge (tgt := 32) hX dX2_put_9 (by decide) (by omega) (by omega) (fun hc6 => ?_) (fun hc6 => ?_)
  · skip
    exact hret _ _ _ dX2_put_32 ⟨hI, hF⟩
  · skip
    refine j_aload_n hX dX2_put_12 rfl 0 rfl ?_
    refine gf_X2_9 hX (by omega) (by omega) (kq_15 hq) (fr_0 hI hq) (by omega) dX2_put_13 ?_
    refine j_aload_n hX dX2_put_16 rfl 0 rfl ?_
    refine gf_X2_21 hX (by omega) (by omega) (kq_15 hq) dX2_put_17 ?_
    refine j_top hk5 ?_
    refine j_iload_n hX dX2_put_20 rfl 1 rfl ?_
    refine j_iast hX (by omega) (by omega) (kq_16 hq) (by omega) (by omega) (by omega) (by omega) dX2_put_21 ?_
    refine j_up hI (aq_16 hq _) (by omega) (by omega) (Or.inl (by omega)) (fun M7 w8 hw9 hM10 hI11 hf12 => ?_)
    have hk13 := kp_up hM10 (by omega) hk5
    have hF14 := Fr.put hF hM10 (by omega)
    refine j_aload_n hX dX2_put_22 rfl 0 rfl ?_
    refine j_dup hX dX2_put_23 rfl ?_
    refine gf_X2_21 hX (by omega) (by omega) (kq_15 hq) dX2_put_24 ?_
    refine j_top hk13 ?_
    refine j_iconst hX dX2_put_27 ?_
    refine j_iadd hX dX2_put_28 ?_
    refine pf_X2_21 hX (by omega) (by omega) (kq_15 hq) (by omega) dX2_put_29 ?_
    refine j_up hI11 (rr_3 hq) (by omega) (by omega) (Or.inl (by omega)) (fun M15 w16 hw17 hM18 hI19 hf20 => ?_)
    have hF21 := Fr.put hF14 hM18 (by omega)
    exact hret _ _ _ dX2_put_32 ⟨hI19, hF21⟩
set_option maxHeartbeats 2000000 in
set_option maxRecDepth 20000 in
theorem c_X2_setUnit (l : Launch) (D : va_G) (cy : Nat → ClassId) (B N : Nat) (q : Int) (a : Int) (b : Int) (M : MM) (hN : 210 ≤ N) (hI : Iv M) (hpa : I32 a) (hpb : I32 b) (hq : q = 5 ∨ q = 180) (h1 : 200 ≤ a ∧ a ≤ 221) : CV l D cy B N 1 yX2_setUnit cX2_setUnit 3 none [rv B (q + 15), iv a, iv b] M (fun M' => Iv M' ∧ Fr (fun a (_ : Int) => (a = q + 18)) M M') := by
  refine mk_CV (by decide) (Nat.le_of_ble_eq_true rfl) ?_
  intro X exl exD excy hnL hX hret
  have hce : 0 + 0 ≤ (xR X).cells ∧ 0 + 0 ≤ (xR X).slots := ⟨Nat.zero_le _, Nat.zero_le _⟩
  have hF : Fr (fun a (_ : Int) => (a = q + 18)) M M := Fr.rf
  show J X B N 0 0 0 [(0, rv B (q + 15)), (1, iv a), (2, iv b)] [] M
  refine j_aload_n hX dX2_setUnit_0 rfl 0 rfl ?_
  refine gf_X2_18 hX (by omega) (by omega) (kq_15 hq) (fr_2 hI hq) (by omega) dX2_setUnit_1 ?_
  refine j_iload_n hX dX2_setUnit_4 rfl 1 rfl ?_
  refine j_sipush hX dX2_setUnit_5 rfl ?_
  refine j_isub hX dX2_setUnit_8 ?_
  refine j_iload_n hX dX2_setUnit_9 rfl 2 rfl ?_
  refine j_iast hX (by omega) (by omega) (kq_18 hq) (by omega) (by omega) (by omega) (by omega) dX2_setUnit_10 ?_
  refine j_up hI (aq_18 hq _) (by omega) (by omega) (Or.inl (by omega)) (fun M1 w2 hw3 hM4 hI5 hf6 => ?_)
  have hF7 := Fr.put hF hM4 (by omega)
  exact hret _ _ _ dX2_setUnit_11 ⟨hI5, hF7⟩
set_option maxHeartbeats 2000000 in
set_option maxRecDepth 20000 in
theorem c_X2_isUnit (l : Launch) (D : va_G) (cy : Nat → ClassId) (B N : Nat) (a : Int) (M : MM) (hpa : I32 a) : CI l D cy B N 1 yX2_isUnit cX2_isUnit 1 (some .boolean) [iv a] M (fun z M' => M' = M ∧ (0 ≤ z ∧ z ≤ 1) ∧ (z = 1 → 200 ≤ a ∧ a ≤ 221)) := by
  refine mk_CI (by decide) (Nat.le_of_ble_eq_true rfl) ?_
  intro X exl exD excy hnL hX hret
  have hce : 0 + 0 ≤ (xR X).cells ∧ 0 + 0 ≤ (xR X).slots := ⟨Nat.zero_le _, Nat.zero_le _⟩
  show J X B N 0 0 0 [(0, iv a)] [] M
  refine j_iload_n hX dX2_isUnit_0 rfl 0 rfl ?_
  refine j_sipush hX dX2_isUnit_1 rfl ?_
  refine j_icmp_eq (tgt := 21) hX dX2_isUnit_4 (by decide) (by omega) (by omega) (fun hc1 => ?_) (fun hc1 => ?_)
  · skip
    refine j_iconst hX dX2_isUnit_21 ?_
    refine j_goto (tgt := 26) hX dX2_isUnit_22 (by decide) ?_
    exact hret _ _ _ _ dX2_isUnit_26 (nb (by omega)) (by omega) ⟨rfl, by omega, by first | assumption | omega⟩
  · skip
    refine j_iload_n hX dX2_isUnit_7 rfl 0 rfl ?_
    refine j_sipush hX dX2_isUnit_8 rfl ?_
    refine j_icmp_lt (tgt := 25) hX dX2_isUnit_11 (by decide) (by omega) (by omega) (fun hc2 => ?_) (fun hc2 => ?_)
    · skip
      refine j_iconst hX dX2_isUnit_25 ?_
      exact hret _ _ _ _ dX2_isUnit_26 (nb (by omega)) (by omega) ⟨rfl, by omega, by first | assumption | omega⟩
    · skip
      refine j_iload_n hX dX2_isUnit_14 rfl 0 rfl ?_
      refine j_sipush hX dX2_isUnit_15 rfl ?_
      refine j_icmp_gt (tgt := 25) hX dX2_isUnit_18 (by decide) (by omega) (by omega) (fun hc3 => ?_) (fun hc3 => ?_)
      · skip
        refine j_iconst hX dX2_isUnit_25 ?_
        exact hret _ _ _ _ dX2_isUnit_26 (nb (by omega)) (by omega) ⟨rfl, by omega, by first | assumption | omega⟩
      · skip
        refine j_iconst hX dX2_isUnit_21 ?_
        refine j_goto (tgt := 26) hX dX2_isUnit_22 (by decide) ?_
        exact hret _ _ _ _ dX2_isUnit_26 (nb (by omega)) (by omega) ⟨rfl, by omega, by first | assumption | omega⟩
set_option maxHeartbeats 2000000 in
set_option maxRecDepth 20000 in
theorem c_X2_push (l : Launch) (D : va_G) (cy : Nat → ClassId) (B N : Nat) (q : Int) (a : Int) (M : MM) (hN : 210 ≤ N) (hI : Iv M) (hpa : I32 a) (hq : q = 5 ∨ q = 180) : CV l D cy B N 1 yX2_push cX2_push 2 none [rv B (q + 15), iv a] M (fun M' => Iv M' ∧ Fr (fun a b => (a = q + 15 ∧ 5 ≤ b ∧ b ≤ 5) ∨ (a = q + 17)) M M') := by
  refine mk_CV (by decide) (Nat.le_of_ble_eq_true rfl) ?_
  intro X exl exD excy hnL hX hret
  have hce : 0 + 0 ≤ (xR X).cells ∧ 0 + 0 ≤ (xR X).slots := ⟨Nat.zero_le _, Nat.zero_le _⟩
  have hF : Fr (fun a b => (a = q + 15 ∧ 5 ≤ b ∧ b ≤ 5) ∨ (a = q + 17)) M M := Fr.rf
  show J X B N 0 0 0 [(0, rv B (q + 15)), (1, iv a)] [] M
  refine j_aload_n hX dX2_push_0 rfl 0 rfl ?_
  refine gf_X2_28 hX (by omega) (by omega) (kq_15 hq) dX2_push_1 ?_
  refine j_name hI (rr_5 hq) (fun v1 hv2 hl3 hh4 => ?_)
  have hk5 := hv2.symm
  refine j_aload_n hX dX2_push_4 rfl 0 rfl ?_
  refine gf_X2_15 hX (by omega) (by omega) (kq_15 hq) (fr_1 hI hq) (by omega) dX2_push_5 ?_
  refine j_alen hX (by decide) (by omega) (by omega) (kq_17 hq) dX2_push_8 ?_
  refine j_icmp_ge (tgt := 32) hX dX2_push_9 (by decide) (by omega) (by omega) (fun hc6 => ?_) (fun hc6 => ?_)
  · skip
    exact hret _ _ _ dX2_push_32 ⟨hI, hF⟩
  · skip
    refine j_aload_n hX dX2_push_12 rfl 0 rfl ?_
    refine gf_X2_15 hX (by omega) (by omega) (kq_15 hq) (fr_1 hI hq) (by omega) dX2_push_13 ?_
    refine j_aload_n hX dX2_push_16 rfl 0 rfl ?_
    refine gf_X2_28 hX (by omega) (by omega) (kq_15 hq) dX2_push_17 ?_
    refine j_top hk5 ?_
    refine j_iload_n hX dX2_push_20 rfl 1 rfl ?_
    refine j_iast hX (by omega) (by omega) (kq_17 hq) (by omega) (by omega) (by omega) (by omega) dX2_push_21 ?_
    refine j_up hI (aq_17 hq _) (by omega) (by omega) (Or.inl (by omega)) (fun M7 w8 hw9 hM10 hI11 hf12 => ?_)
    have hk13 := kp_up hM10 (by omega) hk5
    have hF14 := Fr.put hF hM10 (by omega)
    refine j_aload_n hX dX2_push_22 rfl 0 rfl ?_
    refine j_dup hX dX2_push_23 rfl ?_
    refine gf_X2_28 hX (by omega) (by omega) (kq_15 hq) dX2_push_24 ?_
    refine j_top hk13 ?_
    refine j_iconst hX dX2_push_27 ?_
    refine j_iadd hX dX2_push_28 ?_
    refine pf_X2_28 hX (by omega) (by omega) (kq_15 hq) (by omega) dX2_push_29 ?_
    refine j_up hI11 (rr_5 hq) (by omega) (by omega) (Or.inl (by omega)) (fun M15 w16 hw17 hM18 hI19 hf20 => ?_)
    have hF21 := Fr.put hF14 hM18 (by omega)
    exact hret _ _ _ dX2_push_32 ⟨hI19, hF21⟩
set_option maxHeartbeats 2000000 in
set_option maxRecDepth 20000 in
theorem c_X2_pop (l : Launch) (D : va_G) (cy : Nat → ClassId) (B N : Nat) (q : Int) (M : MM) (hN : 210 ≤ N) (hI : Iv M) (hq : q = 5 ∨ q = 180) : CI l D cy B N 1 yX2_pop cX2_pop 1 (some .int) [rv B (q + 15)] M (fun z M' => Iv M' ∧ Fr (fun a b => (a = q + 15 ∧ 5 ≤ b ∧ b ≤ 5) ∨ (a = q + 17)) M M') := by
  refine mk_CI (by decide) (Nat.le_of_ble_eq_true rfl) ?_
  intro X exl exD excy hnL hX hret
  have hce : 0 + 0 ≤ (xR X).cells ∧ 0 + 0 ≤ (xR X).slots := ⟨Nat.zero_le _, Nat.zero_le _⟩
  have hF : Fr (fun a b => (a = q + 15 ∧ 5 ≤ b ∧ b ≤ 5) ∨ (a = q + 17)) M M := Fr.rf
  show J X B N 0 0 0 [(0, rv B (q + 15))] [] M
  refine j_aload_n hX dX2_pop_0 rfl 0 rfl ?_
  refine gf_X2_28 hX (by omega) (by omega) (kq_15 hq) dX2_pop_1 ?_
  refine j_name hI (rr_5 hq) (fun v1 hv2 hl3 hh4 => ?_)
  have hk5 := hv2.symm
  refine j_if_gt (tgt := 9) hX dX2_pop_4 (by decide) (by omega) (fun hc6 => ?_) (fun hc6 => ?_)
  · skip
    refine j_aload_n hX dX2_pop_9 rfl 0 rfl ?_
    refine j_dup hX dX2_pop_10 rfl ?_
    refine gf_X2_28 hX (by omega) (by omega) (kq_15 hq) dX2_pop_11 ?_
    refine j_top hk5 ?_
    refine j_iconst hX dX2_pop_14 ?_
    refine j_isub hX dX2_pop_15 ?_
    refine pf_X2_28 hX (by omega) (by omega) (kq_15 hq) (by omega) dX2_pop_16 ?_
    refine j_up hI (rr_5 hq) (by omega) (by omega) (Or.inl (by omega)) (fun M7 w8 hw9 hM10 hI11 hf12 => ?_)
    have hF13 := Fr.put hF hM10 (by omega)
    refine j_aload_n hX dX2_pop_19 rfl 0 rfl ?_
    refine gf_X2_15 hX (by omega) (by omega) (kq_15 hq) (fr_1 hI11 hq) (by omega) dX2_pop_20 ?_
    refine j_aload_n hX dX2_pop_23 rfl 0 rfl ?_
    refine gf_X2_28 hX (by omega) (by omega) (kq_15 hq) dX2_pop_24 ?_
    refine j_top hf12 ?_
    refine j_iald hX (by omega) (by omega) (kq_17 hq) (by omega) (by omega) (by omega) dX2_pop_27 ?_
    refine j_name hI11 (aq_17 hq _) (fun v14 hv15 hl16 hh17 => ?_)
    exact hret _ _ _ _ dX2_pop_28 rfl (by omega) ⟨hI11, hF13⟩
  · skip
    refine j_iconst hX dX2_pop_7 ?_
    exact hret _ _ _ _ dX2_pop_8 rfl (by omega) ⟨hI, hF⟩
set_option maxHeartbeats 2000000 in
set_option maxRecDepth 20000 in
theorem c_X2_joined (l : Launch) (D : va_G) (cy : Nat → ClassId) (B N : Nat) (a : Int) (b : Int) (c : Int) (M : MM) (hpa : I32 a) (hpb : I32 b) (hpc : I32 c) : CI l D cy B N 1 yX2_joined cX2_joined 3 (some .int) [iv a, iv b, iv c] M (fun z M' => M' = M) := by
  refine mk_CI (by decide) (Nat.le_of_ble_eq_true rfl) ?_
  intro X exl exD excy hnL hX hret
  have hce : 0 + 0 ≤ (xR X).cells ∧ 0 + 0 ≤ (xR X).slots := ⟨Nat.zero_le _, Nat.zero_le _⟩
  show J X B N 0 0 0 [(0, iv a), (1, iv b), (2, iv c)] [] M
  refine j_iload_n hX dX2_joined_0 rfl 0 rfl ?_
  refine j_lookup hX dX2_joined_1 (by omega) (by decide) ?_
  rcases (by omega : (a = 37) ∨ (a = 42) ∨ (a = 43) ∨ (a = 45) ∨ (a = 47) ∨ (a = 60) ∨ (a = 61) ∨ (a = 62) ∨ (a = 214) ∨ (a = 215) ∨ (¬ 37 = a ∧ ¬ 42 = a ∧ ¬ 43 = a ∧ ¬ 45 = a ∧ ¬ 47 = a ∧ ¬ 60 = a ∧ ¬ 61 = a ∧ ¬ 62 = a ∧ ¬ 214 = a ∧ ¬ 215 = a)) with hc1 | hc1 | hc1 | hc1 | hc1 | hc1 | hc1 | hc1 | hc1 | hc1 | hc1
  · refine ⟨115, 116, by rw [hc1]; rfl, by decide, ?_⟩
    refine j_iload_n hX dX2_joined_116 rfl 2 rfl ?_
    refine j_if_ne (tgt := 124) hX dX2_joined_117 (by decide) (by omega) (fun hc2 => ?_) (fun hc2 => ?_)
    · skip
      refine j_iload_n hX dX2_joined_124 rfl 1 rfl ?_
      refine j_iload_n hX dX2_joined_125 rfl 2 rfl ?_
      refine j_irem hX dX2_joined_126 (by omega) (by omega) (by omega) (fun z3 hz4 hy5 => ?_)
      exact hret _ _ _ _ dX2_joined_127 rfl (by omega) rfl
    · skip
      refine j_iconst hX dX2_joined_120 ?_
      refine j_goto (tgt := 127) hX dX2_joined_121 (by decide) ?_
      exact hret _ _ _ _ dX2_joined_127 rfl (by omega) rfl
  · refine ⟨99, 100, by rw [hc1]; rfl, by decide, ?_⟩
    refine j_iload_n hX dX2_joined_100 rfl 1 rfl ?_
    refine j_iload_n hX dX2_joined_101 rfl 2 rfl ?_
    refine j_imul hX dX2_joined_102 ?_
    refine j_norm (fun z6 hz7 hy8 => ?_)
    exact hret _ _ _ _ dX2_joined_103 rfl (by omega) rfl
  · refine ⟨91, 92, by rw [hc1]; rfl, by decide, ?_⟩
    refine j_iload_n hX dX2_joined_92 rfl 1 rfl ?_
    refine j_iload_n hX dX2_joined_93 rfl 2 rfl ?_
    refine j_iadd hX dX2_joined_94 ?_
    refine j_norm (fun z9 hz10 hy11 => ?_)
    exact hret _ _ _ _ dX2_joined_95 rfl (by omega) rfl
  · refine ⟨95, 96, by rw [hc1]; rfl, by decide, ?_⟩
    refine j_iload_n hX dX2_joined_96 rfl 1 rfl ?_
    refine j_iload_n hX dX2_joined_97 rfl 2 rfl ?_
    refine j_isub hX dX2_joined_98 ?_
    refine j_norm (fun z12 hz13 hy14 => ?_)
    exact hret _ _ _ _ dX2_joined_99 rfl (by omega) rfl
  · refine ⟨103, 104, by rw [hc1]; rfl, by decide, ?_⟩
    refine j_iload_n hX dX2_joined_104 rfl 2 rfl ?_
    refine j_if_ne (tgt := 112) hX dX2_joined_105 (by decide) (by omega) (fun hc15 => ?_) (fun hc15 => ?_)
    · skip
      refine j_iload_n hX dX2_joined_112 rfl 1 rfl ?_
      refine j_iload_n hX dX2_joined_113 rfl 2 rfl ?_
      refine j_idiv hX dX2_joined_114 (by omega) (by omega) (by omega) (fun z16 hz17 hy18 => ?_)
      exact hret _ _ _ _ dX2_joined_115 rfl (by omega) rfl
    · skip
      refine j_iconst hX dX2_joined_108 ?_
      refine j_goto (tgt := 115) hX dX2_joined_109 (by decide) ?_
      exact hret _ _ _ _ dX2_joined_115 rfl (by omega) rfl
  · refine ⟨127, 128, by rw [hc1]; rfl, by decide, ?_⟩
    refine j_iload_n hX dX2_joined_128 rfl 1 rfl ?_
    refine j_iload_n hX dX2_joined_129 rfl 2 rfl ?_
    refine j_icmp_ge (tgt := 137) hX dX2_joined_130 (by decide) (by omega) (by omega) (fun hc19 => ?_) (fun hc19 => ?_)
    · skip
      refine j_iconst hX dX2_joined_137 ?_
      exact hret _ _ _ _ dX2_joined_138 rfl (by omega) rfl
    · skip
      refine j_iconst hX dX2_joined_133 ?_
      refine j_goto (tgt := 138) hX dX2_joined_134 (by decide) ?_
      exact hret _ _ _ _ dX2_joined_138 rfl (by omega) rfl
  · refine ⟨149, 150, by rw [hc1]; rfl, by decide, ?_⟩
    refine j_iload_n hX dX2_joined_150 rfl 1 rfl ?_
    refine j_iload_n hX dX2_joined_151 rfl 2 rfl ?_
    refine j_icmp_ne (tgt := 159) hX dX2_joined_152 (by decide) (by omega) (by omega) (fun hc20 => ?_) (fun hc20 => ?_)
    · skip
      refine j_iconst hX dX2_joined_159 ?_
      exact hret _ _ _ _ dX2_joined_160 rfl (by omega) rfl
    · skip
      refine j_iconst hX dX2_joined_155 ?_
      refine j_goto (tgt := 160) hX dX2_joined_156 (by decide) ?_
      exact hret _ _ _ _ dX2_joined_160 rfl (by omega) rfl
  · refine ⟨138, 139, by rw [hc1]; rfl, by decide, ?_⟩
    refine j_iload_n hX dX2_joined_139 rfl 1 rfl ?_
    refine j_iload_n hX dX2_joined_140 rfl 2 rfl ?_
    refine j_icmp_le (tgt := 148) hX dX2_joined_141 (by decide) (by omega) (by omega) (fun hc21 => ?_) (fun hc21 => ?_)
    · skip
      refine j_iconst hX dX2_joined_148 ?_
      exact hret _ _ _ _ dX2_joined_149 rfl (by omega) rfl
    · skip
      refine j_iconst hX dX2_joined_144 ?_
      refine j_goto (tgt := 149) hX dX2_joined_145 (by decide) ?_
      exact hret _ _ _ _ dX2_joined_149 rfl (by omega) rfl
  · refine ⟨174, 175, by rw [hc1]; rfl, by decide, ?_⟩
    refine j_iload_n hX dX2_joined_175 rfl 1 rfl ?_
    refine j_if_ne (tgt := 183) hX dX2_joined_176 (by decide) (by omega) (fun hc22 => ?_) (fun hc22 => ?_)
    · skip
      refine j_iconst hX dX2_joined_183 ?_
      refine j_goto (tgt := 188) hX dX2_joined_184 (by decide) ?_
      exact hret _ _ _ _ dX2_joined_188 rfl (by omega) rfl
    · skip
      refine j_iload_n hX dX2_joined_179 rfl 2 rfl ?_
      refine j_if_eq (tgt := 187) hX dX2_joined_180 (by decide) (by omega) (fun hc23 => ?_) (fun hc23 => ?_)
      · skip
        refine j_iconst hX dX2_joined_187 ?_
        exact hret _ _ _ _ dX2_joined_188 rfl (by omega) rfl
      · skip
        refine j_iconst hX dX2_joined_183 ?_
        refine j_goto (tgt := 188) hX dX2_joined_184 (by decide) ?_
        exact hret _ _ _ _ dX2_joined_188 rfl (by omega) rfl
  · refine ⟨160, 161, by rw [hc1]; rfl, by decide, ?_⟩
    refine j_iload_n hX dX2_joined_161 rfl 1 rfl ?_
    refine j_if_eq (tgt := 173) hX dX2_joined_162 (by decide) (by omega) (fun hc24 => ?_) (fun hc24 => ?_)
    · skip
      refine j_iconst hX dX2_joined_173 ?_
      exact hret _ _ _ _ dX2_joined_174 rfl (by omega) rfl
    · skip
      refine j_iload_n hX dX2_joined_165 rfl 2 rfl ?_
      refine j_if_eq (tgt := 173) hX dX2_joined_166 (by decide) (by omega) (fun hc25 => ?_) (fun hc25 => ?_)
      · skip
        refine j_iconst hX dX2_joined_173 ?_
        exact hret _ _ _ _ dX2_joined_174 rfl (by omega) rfl
      · skip
        refine j_iconst hX dX2_joined_169 ?_
        refine j_goto (tgt := 174) hX dX2_joined_170 (by decide) ?_
        exact hret _ _ _ _ dX2_joined_174 rfl (by omega) rfl
  · refine ⟨188, 189, by simp [Op.lookupswitch.offset, hc1], by decide, ?_⟩
    refine j_iconst hX dX2_joined_189 ?_
    exact hret _ _ _ _ dX2_joined_190 rfl (by omega) rfl
set_option maxHeartbeats 2000000 in
set_option maxRecDepth 20000 in
theorem c_X2_value (l : Launch) (D : va_G) (cy : Nat → ClassId) (B N : Nat) (q : Int) (M : MM) (hN : 210 ≤ N) (hI : Iv M) (hq : q = 5 ∨ q = 180) : CI l D cy B N 2 yX2_value cX2_value 5 (some .int) [rv B (q + 15)] M (fun z M' => Iv M' ∧ Fr (fun a b => (a = q + 15 ∧ 5 ≤ b ∧ b ≤ 5) ∨ (a = q + 17)) M M') := by
  refine mk_CI (by decide) (Nat.le_of_ble_eq_true rfl) ?_
  intro X exl exD excy hnL hX hret
  have hce : 0 + 0 ≤ (xR X).cells ∧ 0 + 0 ≤ (xR X).slots := ⟨Nat.zero_le _, Nat.zero_le _⟩
  have hF : Fr (fun a b => (a = q + 15 ∧ 5 ≤ b ∧ b ≤ 5) ∨ (a = q + 17)) M M := Fr.rf
  have cp : ∀ n : Nat, (∀ (x1 : Int), ∀ (Mc : MM), I32 x1 → Iv Mc → Fr (fun a b => (a = q + 15 ∧ 5 ≤ b ∧ b ≤ 5) ∨ (a = q + 17)) M Mc → (0 ≤ x1 ∧ x1 ≤ 280) → 0 ≤ 32 * (280 - x1) + 1 → 32 * (280 - x1) + 1 < (n : Int) → J X B N 0 0 7 [(0, rv B (q + 15)), (1, iv x1)] [] Mc) := by
    intro n
    induction n with
    | zero => exact by intros; exfalso; omega
    | succ n ih =>
      · intro x1 Mc hxx1 hI hF h2 hm0 hm1
        refine j_iload_n hX dX2_value_7 rfl 1 rfl ?_
        refine j_aload_n hX dX2_value_8 rfl 0 rfl ?_
        refine gf_X2_21 hX (by omega) (by omega) (kq_15 hq) dX2_value_9 ?_
        refine j_name hI (rr_3 hq) (fun v1 hv2 hl3 hh4 => ?_)
        have hk5 := hv2.symm
        refine j_icmp_ge (tgt := 116) hX dX2_value_12 (by decide) (by omega) (by omega) (fun hc6 => ?_) (fun hc6 => ?_)
        · skip
          refine j_aload_n hX dX2_value_116 rfl 0 rfl ?_
          refine j_callVI hX lk_X2_39 (c_X2_pop _ _ _ _ _ q _ (by omega) hI hq) (by omega) hce rfl rfl (by omega) (by omega) (kq_15 hq) rfl rfl (Nat.le_of_ble_eq_true rfl) dX2_value_117 (fun z7 M8 hz10 hp9 => ?_)
          obtain ⟨hI11, hG12⟩ := hp9
          have hk13 := kp_fr hG12 (by omega) hk5
          have hF14 := Fr.trans hF hG12 (fun a b h => by omega)
          exact hret _ _ _ _ dX2_value_120 rfl (by omega) ⟨hI11, hF14⟩
        · skip
          refine j_aload_n hX dX2_value_15 rfl 0 rfl ?_
          refine gf_X2_9 hX (by omega) (by omega) (kq_15 hq) (fr_0 hI hq) (by omega) dX2_value_16 ?_
          refine j_iload_n hX dX2_value_19 rfl 1 rfl ?_
          refine j_iald hX (by omega) (by omega) (kq_16 hq) (by omega) (by omega) (by omega) dX2_value_20 ?_
          refine j_name hI (aq_16 hq _) (fun v15 hv16 hl17 hh18 => ?_)
          refine j_istore_n (lv' := [(2, _), (0, _), (1, _)]) hX dX2_value_21 rfl (by rw [hnL]; decide) rfl ?_
          refine j_iload_n hX dX2_value_22 rfl 0 rfl ?_
          refine j_if_lt (tgt := 34) hX dX2_value_23 (by decide) (by omega) (fun hc19 => ?_) (fun hc19 => ?_)
          · skip
            refine j_iload_n hX dX2_value_34 rfl 0 rfl ?_
            refine j_ineg hX dX2_value_35 ?_
            refine j_norm (fun z20 hz21 hy22 => ?_)
            have hn23 := norm_f hz21
            refine j_callSI hX lk_X2_35 (c_X2_isUnit _ _ _ _ _ _ _ (by omega)) (by omega) hce rfl rfl (Nat.le_of_ble_eq_true rfl) dX2_value_36 (fun z24 M25 hz27 hp26 => ?_)
            obtain ⟨rfl, hb28, hq29⟩ := hp26
            refine j_if_eq (tgt := 60) hX dX2_value_39 (by decide) (by omega) (fun hc30 => ?_) (fun hc30 => ?_)
            · skip
              clear hq29
              refine j_iload_n hX dX2_value_60 rfl 0 rfl ?_
              refine j_ineg hX dX2_value_61 ?_
              refine j_norm (fun z31 hz32 hy33 => ?_)
              have hn34 := norm_f hz32
              refine j_sipush hX dX2_value_62 rfl ?_
              refine j_icmp_ne (tgt := 87) hX dX2_value_65 (by decide) (by omega) (by omega) (fun hc35 => ?_) (fun hc35 => ?_)
              · skip
                refine j_aload_n hX dX2_value_87 rfl 1 rfl ?_
                refine j_callVI hX lk_X2_39 (c_X2_pop _ _ _ _ _ q _ (by omega) hI hq) (by omega) hce rfl rfl (by omega) (by omega) (kq_15 hq) rfl rfl (Nat.le_of_ble_eq_true rfl) dX2_value_88 (fun z36 M37 hz39 hp38 => ?_)
                obtain ⟨hI40, hG41⟩ := hp38
                have hk42 := kp_fr hG41 (by omega) hk5
                have hF43 := Fr.trans hF hG41 (fun a b h => by omega)
                refine j_istore_n (lv' := [(3, _), (2, _), (0, _), (1, _)]) hX dX2_value_91 rfl (by rw [hnL]; decide) rfl ?_
                refine j_aload_n hX dX2_value_92 rfl 2 rfl ?_
                refine j_callVI hX lk_X2_39 (c_X2_pop _ _ _ _ _ q _ (by omega) hI40 hq) (by omega) hce rfl rfl (by omega) (by omega) (kq_15 hq) rfl rfl (Nat.le_of_ble_eq_true rfl) dX2_value_93 (fun z44 M45 hz47 hp46 => ?_)
                obtain ⟨hI48, hG49⟩ := hp46
                have hk50 := kp_fr hG49 (by omega) hk42
                have hF51 := Fr.trans hF43 hG49 (fun a b h => by omega)
                refine j_istore (lv' := [(4, _), (3, _), (2, _), (0, _), (1, _)]) hX dX2_value_96 (by rw [hnL]; decide) rfl ?_
                refine j_aload_n hX dX2_value_98 rfl 3 rfl ?_
                refine j_iload_n hX dX2_value_99 rfl 2 rfl ?_
                refine j_ineg hX dX2_value_100 ?_
                refine j_norm (fun z52 hz53 hy54 => ?_)
                have hn55 := norm_f hz53
                refine j_iload hX dX2_value_101 0 rfl ?_
                refine j_iload_n hX dX2_value_103 rfl 1 rfl ?_
                refine j_callSI hX lk_X2_43 (c_X2_joined _ _ _ _ _ _ _ _ _ (by omega) (by omega) (by omega)) (by omega) hce rfl rfl (Nat.le_of_ble_eq_true rfl) dX2_value_104 (fun z56 M57 hz59 hp58 => ?_)
                subst hp58
                refine j_callVV hX lk_X2_31 (c_X2_push _ _ _ _ _ q _ _ (by omega) hI48 (by omega) hq) (by omega) hce rfl rfl (by omega) (by omega) (kq_15 hq) rfl rfl (Nat.le_of_ble_eq_true rfl) dX2_value_107 (fun M61 hp62 => ?_)
                obtain ⟨hI64, hG65⟩ := hp62
                have hk66 := kp_fr hG65 (by omega) hk50
                have hF67 := Fr.trans hF51 hG65 (fun a b h => by omega)
                refine j_iinc (lv' := [(1, _), (4, _), (3, _), (2, _), (0, _)]) hX dX2_value_110 4 rfl (by rw [hnL]; decide) rfl ?_
                refine j_goto (tgt := 7) hX dX2_value_113 (by decide) ?_
                refine j_sub [4, 0] rfl ?_
                exact ih _ _ (by omega) hI64 hF67 (by first | assumption | omega) (by omega) (by omega)
              · skip
                refine j_aload_n hX dX2_value_68 rfl 1 rfl ?_
                refine j_aload_n hX dX2_value_69 rfl 1 rfl ?_
                refine j_callVI hX lk_X2_39 (c_X2_pop _ _ _ _ _ q _ (by omega) hI hq) (by omega) hce rfl rfl (by omega) (by omega) (kq_15 hq) rfl rfl (Nat.le_of_ble_eq_true rfl) dX2_value_70 (fun z68 M69 hz71 hp70 => ?_)
                obtain ⟨hI72, hG73⟩ := hp70
                have hk74 := kp_fr hG73 (by omega) hk5
                have hF75 := Fr.trans hF hG73 (fun a b h => by omega)
                refine j_if_ne (tgt := 80) hX dX2_value_73 (by decide) (by omega) (fun hc76 => ?_) (fun hc76 => ?_)
                · skip
                  refine j_iconst hX dX2_value_80 ?_
                  refine j_callVV hX lk_X2_31 (c_X2_push _ _ _ _ _ q _ _ (by omega) hI72 (by omega) hq) (by omega) hce rfl rfl (by omega) (by omega) (kq_15 hq) rfl rfl (Nat.le_of_ble_eq_true rfl) dX2_value_81 (fun M78 hp79 => ?_)
                  obtain ⟨hI81, hG82⟩ := hp79
                  have hk83 := kp_fr hG82 (by omega) hk74
                  have hF84 := Fr.trans hF75 hG82 (fun a b h => by omega)
                  refine j_goto (tgt := 110) hX dX2_value_84 (by decide) ?_
                  refine j_iinc (lv' := [(1, _), (2, _), (0, _)]) hX dX2_value_110 2 rfl (by rw [hnL]; decide) rfl ?_
                  refine j_goto (tgt := 7) hX dX2_value_113 (by decide) ?_
                  refine j_sub [2, 0] rfl ?_
                  exact ih _ _ (by omega) hI81 hF84 (by first | assumption | omega) (by omega) (by omega)
                · skip
                  refine j_iconst hX dX2_value_76 ?_
                  refine j_goto (tgt := 81) hX dX2_value_77 (by decide) ?_
                  refine j_callVV hX lk_X2_31 (c_X2_push _ _ _ _ _ q _ _ (by omega) hI72 (by omega) hq) (by omega) hce rfl rfl (by omega) (by omega) (kq_15 hq) rfl rfl (Nat.le_of_ble_eq_true rfl) dX2_value_81 (fun M86 hp87 => ?_)
                  obtain ⟨hI89, hG90⟩ := hp87
                  have hk91 := kp_fr hG90 (by omega) hk74
                  have hF92 := Fr.trans hF75 hG90 (fun a b h => by omega)
                  refine j_goto (tgt := 110) hX dX2_value_84 (by decide) ?_
                  refine j_iinc (lv' := [(1, _), (2, _), (0, _)]) hX dX2_value_110 2 rfl (by rw [hnL]; decide) rfl ?_
                  refine j_goto (tgt := 7) hX dX2_value_113 (by decide) ?_
                  refine j_sub [2, 0] rfl ?_
                  exact ih _ _ (by omega) hI89 hF92 (by first | assumption | omega) (by omega) (by omega)
            · skip
              have hi93 := hq29 (by omega)
              clear hq29
              refine j_aload_n hX dX2_value_42 rfl 1 rfl ?_
              refine j_aload_n hX dX2_value_43 rfl 1 rfl ?_
              refine gf_X2_18 hX (by omega) (by omega) (kq_15 hq) (fr_2 hI hq) (by omega) dX2_value_44 ?_
              refine j_iload_n hX dX2_value_47 rfl 0 rfl ?_
              refine j_ineg hX dX2_value_48 ?_
              refine j_norm (fun z94 hz95 hy96 => ?_)
              have hn97 := norm_f hz95
              refine j_sipush hX dX2_value_49 rfl ?_
              refine j_isub hX dX2_value_52 ?_
              refine j_norm (fun z98 hz99 hy100 => ?_)
              have hn101 := norm_f hz99
              refine j_iald hX (by omega) (by omega) (kq_18 hq) (by omega) (by omega) (by omega) dX2_value_53 ?_
              refine j_name hI (aq_18 hq _) (fun v102 hv103 hl104 hh105 => ?_)
              refine j_callVV hX lk_X2_31 (c_X2_push _ _ _ _ _ q _ _ (by omega) hI (by omega) hq) (by omega) hce rfl rfl (by omega) (by omega) (kq_15 hq) rfl rfl (Nat.le_of_ble_eq_true rfl) dX2_value_54 (fun M107 hp108 => ?_)
              obtain ⟨hI110, hG111⟩ := hp108
              have hk112 := kp_fr hG111 (by omega) hk5
              have hF113 := Fr.trans hF hG111 (fun a b h => by omega)
              refine j_goto (tgt := 110) hX dX2_value_57 (by decide) ?_
              refine j_iinc (lv' := [(1, _), (2, _), (0, _)]) hX dX2_value_110 2 rfl (by rw [hnL]; decide) rfl ?_
              refine j_goto (tgt := 7) hX dX2_value_113 (by decide) ?_
              refine j_sub [2, 0] rfl ?_
              exact ih _ _ (by omega) hI110 hF113 (by first | assumption | omega) (by omega) (by omega)
          · skip
            refine j_aload_n hX dX2_value_26 rfl 1 rfl ?_
            refine j_iload_n hX dX2_value_27 rfl 0 rfl ?_
            refine j_callVV hX lk_X2_31 (c_X2_push _ _ _ _ _ q _ _ (by omega) hI (by omega) hq) (by omega) hce rfl rfl (by omega) (by omega) (kq_15 hq) rfl rfl (Nat.le_of_ble_eq_true rfl) dX2_value_28 (fun M115 hp116 => ?_)
            obtain ⟨hI118, hG119⟩ := hp116
            have hk120 := kp_fr hG119 (by omega) hk5
            have hF121 := Fr.trans hF hG119 (fun a b h => by omega)
            refine j_goto (tgt := 110) hX dX2_value_31 (by decide) ?_
            refine j_iinc (lv' := [(1, _), (2, _), (0, _)]) hX dX2_value_110 2 rfl (by rw [hnL]; decide) rfl ?_
            refine j_goto (tgt := 7) hX dX2_value_113 (by decide) ?_
            refine j_sub [2, 0] rfl ?_
            exact ih _ _ (by omega) hI118 hF121 (by first | assumption | omega) (by omega) (by omega)
  show J X B N 0 0 0 [(0, rv B (q + 15))] [] M
  refine j_aload_n hX dX2_value_0 rfl 0 rfl ?_
  refine j_iconst hX dX2_value_1 ?_
  refine pf_X2_28 hX (by omega) (by omega) (kq_15 hq) (by omega) dX2_value_2 ?_
  refine j_up hI (rr_5 hq) (by omega) (by omega) (Or.inl (by omega)) (fun M122 w123 hw124 hM125 hI126 hf127 => ?_)
  have hF128 := Fr.put hF hM125 (by omega)
  refine j_iconst hX dX2_value_5 ?_
  refine j_istore_n (lv' := [(1, _), (0, _)]) hX dX2_value_6 rfl (by rw [hnL]; decide) rfl ?_
  refine j_sub [1, 0] rfl ?_
  refine (cp (Int.toNat (9024 + 1))) _ _ (by omega) hI126 hF128 (by first | assumption | omega) ?_ ?_
  · omega
  · omega
set_option maxHeartbeats 2000000 in
set_option maxRecDepth 20000 in
theorem c_X4_first (l : Launch) (D : va_G) (cy : Nat → ClassId) (B N : Nat) (o : Int) (a : Int) (M : MM) (hN : 210 ≤ N) (hI : Iv M) (hpa : I32 a) (ho : o = 158 ∨ o = 165) (h1 : 0 ≤ a ∧ a ≤ 6) : CI l D cy B N 2 yX4_first cX4_first 4 (some .int) [rv B o, iv a] M (fun z M' => Iv M' ∧ Fr (fun a (_ : Int) => (o ≤ a ∧ a ≤ o + 1)) M M' ∧ (M'.1 o 1 = a)) := by
  refine mk_CI (by decide) (Nat.le_of_ble_eq_true rfl) ?_
  intro X exl exD excy hnL hX hret
  have hce : 0 + 0 ≤ (xR X).cells ∧ 0 + 0 ≤ (xR X).slots := ⟨Nat.zero_le _, Nat.zero_le _⟩
  have hF : Fr (fun a (_ : Int) => (o ≤ a ∧ a ≤ o + 1)) M M := Fr.rf
  have cp : ∀ n : Nat, (∀ (x2 x3 : Int), ∀ (rm : Int), ∀ (Mc : MM), I32 x2 → I32 x3 → Iv Mc → Fr (fun a (_ : Int) => (o ≤ a ∧ a ≤ o + 1)) M Mc → Mc.1 o 1 = rm → (0 ≤ x3 ∧ x3 ≤ 6 ∧ rm = a) → 0 ≤ 32 * (6 - x3) + 1 → 32 * (6 - x3) + 1 < (n : Int) → J X B N 0 0 14 [(0, rv B o), (1, iv a), (2, iv x2), (3, iv x3)] [] Mc) := by
    intro n
    induction n with
    | zero => exact by intros; exfalso; omega
    | succ n ih =>
      · intro x2 x3 rm Mc hxx2 hxx3 hI hF hk_0 h2 hm0 hm1
        refine j_iload_n hX dX4_first_14 rfl 3 rfl ?_
        refine j_aload_n hX dX4_first_15 rfl 0 rfl ?_
        refine gf_X4_15 hX (by omega) (by omega) (ko_0 ho) dX4_first_16 ?_
        refine j_top hk_0 ?_
        refine j_icmp_ge (tgt := 41) hX dX4_first_19 (by decide) (by omega) (by omega) (fun hc1 => ?_) (fun hc1 => ?_)
        · skip
          refine j_iload_n hX dX4_first_41 rfl 2 rfl ?_
          exact hret _ _ _ _ dX4_first_42 rfl (by omega) ⟨hI, hF, by first | assumption | omega⟩
        · skip
          refine j_aload_n hX dX4_first_22 rfl 0 rfl ?_
          refine gf_X4_9 hX (by omega) (by omega) (ko_0 ho) (fo_0 hI ho) (by omega) dX4_first_23 ?_
          refine j_iload_n hX dX4_first_26 rfl 3 rfl ?_
          refine j_iload_n hX dX4_first_27 rfl 3 rfl ?_
          refine j_iast hX (by omega) (by omega) (ko_1 ho) (by omega) (by omega) (by omega) (by omega) dX4_first_28 ?_
          refine j_up hI (rgo_a ho _) (by omega) (by omega) (Or.inl (by omega)) (fun M2 w3 hw4 hM5 hI6 hf7 => ?_)
          have hk8 := kp_up hM5 (by omega) hk_0
          have hF9 := Fr.put hF hM5 (by omega)
          refine j_iload_n hX dX4_first_29 rfl 2 rfl ?_
          refine j_iload_n hX dX4_first_30 rfl 3 rfl ?_
          refine j_iconst hX dX4_first_31 ?_
          refine j_iadd hX dX4_first_32 ?_
          refine j_imul hX dX4_first_33 ?_
          refine j_norm (fun z10 hz11 hy12 => ?_)
          refine j_istore_n (lv' := [(2, _), (0, _), (1, _), (3, _)]) hX dX4_first_34 rfl (by rw [hnL]; decide) rfl ?_
          refine j_iinc (lv' := [(3, _), (2, _), (0, _), (1, _)]) hX dX4_first_35 3 rfl (by rw [hnL]; decide) rfl ?_
          refine j_goto (tgt := 14) hX dX4_first_38 (by decide) ?_
          refine j_sub [2, 3, 1, 0] rfl ?_
          exact ih _ _ _ _ (by omega) (by omega) hI6 hF9 hk8 (by first | assumption | omega) (by omega) (by omega)
  show J X B N 0 0 0 [(0, rv B o), (1, iv a)] [] M
  refine j_aload_n hX dX4_first_0 rfl 0 rfl ?_
  refine j_iload_n hX dX4_first_1 rfl 1 rfl ?_
  refine j_bipush hX dX4_first_2 rfl ?_
  refine j_mmin hX (in_5 11 (by first | rfl | decide +kernel) rfl) (by decide) hce (by omega) (by omega) (Nat.le_of_ble_eq_true rfl) dX4_first_4 (fun z13 hz14 => ?_)
  refine pf_X4_15 hX (by omega) (by omega) (ko_0 ho) (by omega) dX4_first_7 ?_
  refine j_up hI (rgo_1 ho) (by omega) (by omega) (Or.inl (by omega)) (fun M15 w16 hw17 hM18 hI19 hf20 => ?_)
  have hF21 := Fr.put hF hM18 (by omega)
  refine j_iconst hX dX4_first_10 ?_
  refine j_istore_n (lv' := [(2, _), (0, _), (1, _)]) hX dX4_first_11 rfl (by rw [hnL]; decide) rfl ?_
  refine j_iconst hX dX4_first_12 ?_
  refine j_istore_n (lv' := [(3, _), (2, _), (0, _), (1, _)]) hX dX4_first_13 rfl (by rw [hnL]; decide) rfl ?_
  refine j_sub [2, 3, 1, 0] rfl ?_
  refine (cp (Int.toNat (256 + 1))) _ _ _ _ (by omega) (by omega) hI19 hF21 hf20 (by first | assumption | omega) ?_ ?_
  · omega
  · omega
set_option maxHeartbeats 2000000 in
set_option maxRecDepth 20000 in
theorem c_X4_exchange (l : Launch) (D : va_G) (cy : Nat → ClassId) (B N : Nat) (o : Int) (a : Int) (b : Int) (M : MM) (hN : 210 ≤ N) (hI : Iv M) (hpa : I32 a) (hpb : I32 b) (ho : o = 158 ∨ o = 165) (h1 : 0 ≤ a ∧ a < 6 ∧ 0 ≤ b ∧ b < 6) : CV l D cy B N 1 yX4_exchange cX4_exchange 4 none [rv B o, iv a, iv b] M (fun M' => Iv M' ∧ Fr (fun a (_ : Int) => (a = o + 1)) M M') := by
  refine mk_CV (by decide) (Nat.le_of_ble_eq_true rfl) ?_
  intro X exl exD excy hnL hX hret
  have hce : 0 + 0 ≤ (xR X).cells ∧ 0 + 0 ≤ (xR X).slots := ⟨Nat.zero_le _, Nat.zero_le _⟩
  have hF : Fr (fun a (_ : Int) => (a = o + 1)) M M := Fr.rf
  show J X B N 0 0 0 [(0, rv B o), (1, iv a), (2, iv b)] [] M
  refine j_aload_n hX dX4_exchange_0 rfl 0 rfl ?_
  refine gf_X4_9 hX (by omega) (by omega) (ko_0 ho) (fo_0 hI ho) (by omega) dX4_exchange_1 ?_
  refine j_iload_n hX dX4_exchange_4 rfl 1 rfl ?_
  refine j_iald hX (by omega) (by omega) (ko_1 ho) (by omega) (by omega) (by omega) dX4_exchange_5 ?_
  refine j_name hI (rgo_a ho _) (fun v1 hv2 hl3 hh4 => ?_)
  refine j_istore_n (lv' := [(3, _), (0, _), (1, _), (2, _)]) hX dX4_exchange_6 rfl (by rw [hnL]; decide) rfl ?_
  refine j_aload_n hX dX4_exchange_7 rfl 1 rfl ?_
  refine gf_X4_9 hX (by omega) (by omega) (ko_0 ho) (fo_0 hI ho) (by omega) dX4_exchange_8 ?_
  refine j_iload_n hX dX4_exchange_11 rfl 2 rfl ?_
  refine j_aload_n hX dX4_exchange_12 rfl 1 rfl ?_
  refine gf_X4_9 hX (by omega) (by omega) (ko_0 ho) (fo_0 hI ho) (by omega) dX4_exchange_13 ?_
  refine j_iload_n hX dX4_exchange_16 rfl 3 rfl ?_
  refine j_iald hX (by omega) (by omega) (ko_1 ho) (by omega) (by omega) (by omega) dX4_exchange_17 ?_
  refine j_name hI (rgo_a ho _) (fun v5 hv6 hl7 hh8 => ?_)
  refine j_iast hX (by omega) (by omega) (ko_1 ho) (by omega) (by omega) (by omega) (by omega) dX4_exchange_18 ?_
  refine j_up hI (rgo_a ho _) (by omega) (by omega) (Or.inl (by omega)) (fun M9 w10 hw11 hM12 hI13 hf14 => ?_)
  have hF15 := Fr.put hF hM12 (by omega)
  refine j_aload_n hX dX4_exchange_19 rfl 1 rfl ?_
  refine gf_X4_9 hX (by omega) (by omega) (ko_0 ho) (fo_0 hI13 ho) (by omega) dX4_exchange_20 ?_
  refine j_iload_n hX dX4_exchange_23 rfl 3 rfl ?_
  refine j_iload_n hX dX4_exchange_24 rfl 0 rfl ?_
  refine j_iast hX (by omega) (by omega) (ko_1 ho) (by omega) (by omega) (by omega) (by omega) dX4_exchange_25 ?_
  refine j_up hI13 (rgo_a ho _) (by omega) (by omega) (Or.inl (by omega)) (fun M16 w17 hw18 hM19 hI20 hf21 => ?_)
  have hF22 := Fr.put hF15 hM19 (by omega)
  exact hret _ _ _ dX4_exchange_26 ⟨hI20, hF22⟩
set_option maxHeartbeats 2000000 in
set_option maxRecDepth 20000 in
theorem c_X4_next (l : Launch) (D : va_G) (cy : Nat → ClassId) (B N : Nat) (o : Int) (M : MM) (hN : 210 ≤ N) (hI : Iv M) (ho : o = 158 ∨ o = 165) : CV l D cy B N 2 yX4_next cX4_next 5 none [rv B o] M (fun M' => Iv M' ∧ Fr (fun a (_ : Int) => (a = o + 1)) M M') := by
  refine mk_CV (by decide) (Nat.le_of_ble_eq_true rfl) ?_
  intro X exl exD excy hnL hX hret
  have hce : 0 + 0 ≤ (xR X).cells ∧ 0 + 0 ≤ (xR X).slots := ⟨Nat.zero_le _, Nat.zero_le _⟩
  have hF : Fr (fun a (_ : Int) => (a = o + 1)) M M := Fr.rf
  have cp : ∀ n : Nat, (∀ (x1 : Int), ∀ (rm : Int), ∀ (Mc : MM), I32 x1 → Iv Mc → Fr (fun a (_ : Int) => (a = o + 1)) M Mc → Mc.1 o 1 = rm → (-2 ≤ x1 ∧ x1 ≤ rm - 2 ∧ 0 ≤ rm ∧ rm ≤ 6) → 0 ≤ 32 * (x1 + 2 + 200) + 3 → 32 * (x1 + 2 + 200) + 3 < (n : Int) → J X B N 0 0 7 [(0, rv B o), (1, iv x1)] [] Mc) ∧ (∀ (x1 x2 : Int), ∀ (rm : Int), ∀ (Mc : MM), I32 x1 → I32 x2 → Iv Mc → Fr (fun a (_ : Int) => (a = o + 1)) M Mc → Mc.1 o 1 = rm → (0 ≤ x1 ∧ x1 ≤ rm - 2 ∧ rm ≤ 6 ∧ x1 ≤ x2 ∧ x2 ≤ rm - 1) → 0 ≤ 32 * (x2 + 100) + 2 → 32 * (x2 + 100) + 2 < (n : Int) → J X B N 0 0 46 [(0, rv B o), (1, iv x1), (2, iv x2)] [] Mc) ∧ (∀ (x1 x2 x3 x4 : Int), ∀ (Mc : MM), I32 x1 → I32 x2 → I32 x3 → I32 x4 → Iv Mc → Fr (fun a (_ : Int) => (a = o + 1)) M Mc → (0 ≤ x4 ∧ -1 ≤ x3 ∧ x3 ≤ 5) → 0 ≤ 32 * (x3 + 1) + 1 → 32 * (x3 + 1) + 1 < (n : Int) → J X B N 0 0 90 [(0, rv B o), (1, iv x1), (2, iv x2), (3, iv x3), (4, iv x4)] [] Mc) := by
    intro n
    induction n with
    | zero => exact ⟨by intros; exfalso; omega, by intros; exfalso; omega, by intros; exfalso; omega⟩
    | succ n ih =>
      refine ⟨?_, ?_, ?_⟩
      · intro x1 rm Mc hxx1 hI hF hk_0 h2 hm0 hm1
        refine j_iload_n hX dX4_next_7 rfl 1 rfl ?_
        refine j_if_lt (tgt := 34) hX dX4_next_8 (by decide) (by omega) (fun hc1 => ?_) (fun hc1 => ?_)
        · skip
          refine j_iload_n hX dX4_next_34 rfl 1 rfl ?_
          refine j_if_ge (tgt := 39) hX dX4_next_35 (by decide) (by omega) (fun hc2 => ?_) (fun hc2 => ?_)
          · skip
            refine j_aload_n hX dX4_next_39 rfl 0 rfl ?_
            refine gf_X4_15 hX (by omega) (by omega) (ko_0 ho) dX4_next_40 ?_
            refine j_top hk_0 ?_
            refine j_iconst hX dX4_next_43 ?_
            refine j_isub hX dX4_next_44 ?_
            refine j_istore_n (lv' := [(2, _), (0, _), (1, _)]) hX dX4_next_45 rfl (by rw [hnL]; decide) rfl ?_
            refine j_sub [1, 2, 0] rfl ?_
            exact ih.2.1 _ _ _ _ (by omega) (by omega) hI hF hk_0 (by first | assumption | omega) (by omega) (by omega)
          · skip
            exact hret _ _ _ dX4_next_38 ⟨hI, hF⟩
        · skip
          refine j_aload_n hX dX4_next_11 rfl 0 rfl ?_
          refine gf_X4_9 hX (by omega) (by omega) (ko_0 ho) (fo_0 hI ho) (by omega) dX4_next_12 ?_
          refine j_iload_n hX dX4_next_15 rfl 1 rfl ?_
          refine j_iald hX (by omega) (by omega) (ko_1 ho) (by omega) (by omega) (by omega) dX4_next_16 ?_
          refine j_name hI (rgo_a ho _) (fun v3 hv4 hl5 hh6 => ?_)
          refine j_aload_n hX dX4_next_17 rfl 0 rfl ?_
          refine gf_X4_9 hX (by omega) (by omega) (ko_0 ho) (fo_0 hI ho) (by omega) dX4_next_18 ?_
          refine j_iload_n hX dX4_next_21 rfl 1 rfl ?_
          refine j_iconst hX dX4_next_22 ?_
          refine j_iadd hX dX4_next_23 ?_
          refine j_iald hX (by omega) (by omega) (ko_1 ho) (by omega) (by omega) (by omega) dX4_next_24 ?_
          refine j_name hI (rgo_a ho _) (fun v7 hv8 hl9 hh10 => ?_)
          refine j_icmp_le (tgt := 34) hX dX4_next_25 (by decide) (by omega) (by omega) (fun hc11 => ?_) (fun hc11 => ?_)
          · skip
            refine j_iload_n hX dX4_next_34 rfl 1 rfl ?_
            refine j_if_ge (tgt := 39) hX dX4_next_35 (by decide) (by omega) (fun hc12 => ?_) (fun hc12 => ?_)
            · skip
              refine j_aload_n hX dX4_next_39 rfl 0 rfl ?_
              refine gf_X4_15 hX (by omega) (by omega) (ko_0 ho) dX4_next_40 ?_
              refine j_top hk_0 ?_
              refine j_iconst hX dX4_next_43 ?_
              refine j_isub hX dX4_next_44 ?_
              refine j_istore_n (lv' := [(2, _), (0, _), (1, _)]) hX dX4_next_45 rfl (by rw [hnL]; decide) rfl ?_
              refine j_sub [1, 2, 0] rfl ?_
              exact ih.2.1 _ _ _ _ (by omega) (by omega) hI hF hk_0 (by first | assumption | omega) (by omega) (by omega)
            · skip
              exact hret _ _ _ dX4_next_38 ⟨hI, hF⟩
          · skip
            refine j_iinc (lv' := [(1, _), (0, _)]) hX dX4_next_28 1 rfl (by rw [hnL]; decide) rfl ?_
            refine j_goto (tgt := 7) hX dX4_next_31 (by decide) ?_
            refine j_sub [1, 0] rfl ?_
            exact ih.1 _ _ _ (by omega) hI hF hk_0 (by first | assumption | omega) (by omega) (by omega)
      · intro x1 x2 rm Mc hxx1 hxx2 hI hF hk_0 h2 hm0 hm1
        refine j_iload_n hX dX4_next_46 rfl 2 rfl ?_
        refine j_iload_n hX dX4_next_47 rfl 1 rfl ?_
        refine j_icmp_le (tgt := 72) hX dX4_next_48 (by decide) (by omega) (by omega) (fun hc13 => ?_) (fun hc13 => ?_)
        · skip
          refine j_aload_n hX dX4_next_72 rfl 0 rfl ?_
          refine j_iload_n hX dX4_next_73 rfl 1 rfl ?_
          refine j_iload_n hX dX4_next_74 rfl 2 rfl ?_
          refine j_callVV hX lk_X4_25 (c_X4_exchange _ _ _ _ _ o _ _ _ (by omega) hI (by omega) (by omega) ho (by first | assumption | omega)) (by omega) hce rfl rfl (by omega) (by omega) (ko_0 ho) rfl rfl (Nat.le_of_ble_eq_true rfl) dX4_next_75 (fun M15 hp16 => ?_)
          obtain ⟨hI18, hG19⟩ := hp16
          have hk20 := kp_fr hG19 (by omega) hk_0
          have hF21 := Fr.trans hF hG19 (fun a b h => by omega)
          refine j_aload_n hX dX4_next_78 rfl 0 rfl ?_
          refine gf_X4_15 hX (by omega) (by omega) (ko_0 ho) dX4_next_79 ?_
          refine j_top hk20 ?_
          refine j_iconst hX dX4_next_82 ?_
          refine j_isub hX dX4_next_83 ?_
          refine j_istore_n (lv' := [(3, _), (0, _), (1, _), (2, _)]) hX dX4_next_84 rfl (by rw [hnL]; decide) rfl ?_
          refine j_iload_n hX dX4_next_85 rfl 2 rfl ?_
          refine j_iconst hX dX4_next_86 ?_
          refine j_iadd hX dX4_next_87 ?_
          refine j_istore (lv' := [(4, _), (3, _), (0, _), (1, _), (2, _)]) hX dX4_next_88 (by rw [hnL]; decide) rfl ?_
          refine j_sub [2, 3, 4, 1, 0] rfl ?_
          exact ih.2.2 _ _ _ _ _ (by omega) (by omega) (by omega) (by omega) hI18 hF21 (by first | assumption | omega) (by omega) (by omega)
        · skip
          refine j_aload_n hX dX4_next_51 rfl 0 rfl ?_
          refine gf_X4_9 hX (by omega) (by omega) (ko_0 ho) (fo_0 hI ho) (by omega) dX4_next_52 ?_
          refine j_iload_n hX dX4_next_55 rfl 2 rfl ?_
          refine j_iald hX (by omega) (by omega) (ko_1 ho) (by omega) (by omega) (by omega) dX4_next_56 ?_
          refine j_name hI (rgo_a ho _) (fun v22 hv23 hl24 hh25 => ?_)
          refine j_aload_n hX dX4_next_57 rfl 0 rfl ?_
          refine gf_X4_9 hX (by omega) (by omega) (ko_0 ho) (fo_0 hI ho) (by omega) dX4_next_58 ?_
          refine j_iload_n hX dX4_next_61 rfl 1 rfl ?_
          refine j_iald hX (by omega) (by omega) (ko_1 ho) (by omega) (by omega) (by omega) dX4_next_62 ?_
          refine j_name hI (rgo_a ho _) (fun v26 hv27 hl28 hh29 => ?_)
          refine j_icmp_ge (tgt := 72) hX dX4_next_63 (by decide) (by omega) (by omega) (fun hc30 => ?_) (fun hc30 => ?_)
          · skip
            refine j_aload_n hX dX4_next_72 rfl 0 rfl ?_
            refine j_iload_n hX dX4_next_73 rfl 1 rfl ?_
            refine j_iload_n hX dX4_next_74 rfl 2 rfl ?_
            refine j_callVV hX lk_X4_25 (c_X4_exchange _ _ _ _ _ o _ _ _ (by omega) hI (by omega) (by omega) ho (by first | assumption | omega)) (by omega) hce rfl rfl (by omega) (by omega) (ko_0 ho) rfl rfl (Nat.le_of_ble_eq_true rfl) dX4_next_75 (fun M32 hp33 => ?_)
            obtain ⟨hI35, hG36⟩ := hp33
            have hk37 := kp_fr hG36 (by omega) hk_0
            have hF38 := Fr.trans hF hG36 (fun a b h => by omega)
            refine j_aload_n hX dX4_next_78 rfl 0 rfl ?_
            refine gf_X4_15 hX (by omega) (by omega) (ko_0 ho) dX4_next_79 ?_
            refine j_top hk37 ?_
            refine j_iconst hX dX4_next_82 ?_
            refine j_isub hX dX4_next_83 ?_
            refine j_istore_n (lv' := [(3, _), (0, _), (1, _), (2, _)]) hX dX4_next_84 rfl (by rw [hnL]; decide) rfl ?_
            refine j_iload_n hX dX4_next_85 rfl 2 rfl ?_
            refine j_iconst hX dX4_next_86 ?_
            refine j_iadd hX dX4_next_87 ?_
            refine j_istore (lv' := [(4, _), (3, _), (0, _), (1, _), (2, _)]) hX dX4_next_88 (by rw [hnL]; decide) rfl ?_
            refine j_sub [2, 3, 4, 1, 0] rfl ?_
            exact ih.2.2 _ _ _ _ _ (by omega) (by omega) (by omega) (by omega) hI35 hF38 (by first | assumption | omega) (by omega) (by omega)
          · skip
            refine j_iinc (lv' := [(2, _), (0, _), (1, _)]) hX dX4_next_66 2 rfl (by rw [hnL]; decide) rfl ?_
            refine j_goto (tgt := 46) hX dX4_next_69 (by decide) ?_
            refine j_sub [1, 2, 0] rfl ?_
            exact ih.2.1 _ _ _ _ (by omega) (by omega) hI hF hk_0 (by first | assumption | omega) (by omega) (by omega)
      · intro x1 x2 x3 x4 Mc hxx1 hxx2 hxx3 hxx4 hI hF h2 hm0 hm1
        refine j_iload hX dX4_next_90 4 rfl ?_
        refine j_iload_n hX dX4_next_92 rfl 3 rfl ?_
        refine j_icmp_ge (tgt := 112) hX dX4_next_93 (by decide) (by omega) (by omega) (fun hc39 => ?_) (fun hc39 => ?_)
        · skip
          exact hret _ _ _ dX4_next_112 ⟨hI, hF⟩
        · skip
          refine j_aload_n hX dX4_next_96 rfl 0 rfl ?_
          refine j_iload hX dX4_next_97 4 rfl ?_
          refine j_iload_n hX dX4_next_99 rfl 3 rfl ?_
          refine j_callVV hX lk_X4_25 (c_X4_exchange _ _ _ _ _ o _ _ _ (by omega) hI (by omega) (by omega) ho (by first | assumption | omega)) (by omega) hce rfl rfl (by omega) (by omega) (ko_0 ho) rfl rfl (Nat.le_of_ble_eq_true rfl) dX4_next_100 (fun M41 hp42 => ?_)
          obtain ⟨hI44, hG45⟩ := hp42
          have hF46 := Fr.trans hF hG45 (fun a b h => by omega)
          refine j_iinc (lv' := [(3, _), (0, _), (1, _), (2, _), (4, _)]) hX dX4_next_103 3 rfl (by rw [hnL]; decide) rfl ?_
          refine j_iinc (lv' := [(4, _), (3, _), (0, _), (1, _), (2, _)]) hX dX4_next_106 4 rfl (by rw [hnL]; decide) rfl ?_
          refine j_goto (tgt := 90) hX dX4_next_109 (by decide) ?_
          refine j_sub [2, 3, 4, 1, 0] rfl ?_
          exact ih.2.2 _ _ _ _ _ (by omega) (by omega) (by omega) (by omega) hI44 hF46 (by first | assumption | omega) (by omega) (by omega)
  show J X B N 0 0 0 [(0, rv B o)] [] M
  refine j_aload_n hX dX4_next_0 rfl 0 rfl ?_
  refine gf_X4_15 hX (by omega) (by omega) (ko_0 ho) dX4_next_1 ?_
  refine j_name hI (rgo_1 ho) (fun v47 hv48 hl49 hh50 => ?_)
  have hk51 := hv48.symm
  refine j_iconst hX dX4_next_4 ?_
  refine j_isub hX dX4_next_5 ?_
  refine j_istore_n (lv' := [(1, _), (0, _)]) hX dX4_next_6 rfl (by rw [hnL]; decide) rfl ?_
  refine j_sub [1, 0] rfl ?_
  refine (cp (Int.toNat (9664 + 1))).1 _ _ _ (by omega) hI hF hk51 (by first | assumption | omega) ?_ ?_
  · omega
  · omega
set_option maxHeartbeats 2000000 in
set_option maxRecDepth 20000 in
theorem c_X4_isAllowed (l : Launch) (D : va_G) (cy : Nat → ClassId) (B N : Nat) (o : Int) (p : Int) (M : MM) (hN : 210 ≤ N) (hI : Iv M) (ho : o = 158 ∨ o = 165) (hp : p = 161 ∨ p = 171) : CI l D cy B N 1 yX4_isAllowed cX4_isAllowed 3 (some .boolean) [rv B o, rv B p] M (fun z M' => M' = M ∧ (0 ≤ z ∧ z ≤ 1)) := by
  refine mk_CI (by decide) (Nat.le_of_ble_eq_true rfl) ?_
  intro X exl exD excy hnL hX hret
  have hce : 0 + 0 ≤ (xR X).cells ∧ 0 + 0 ≤ (xR X).slots := ⟨Nat.zero_le _, Nat.zero_le _⟩
  have cp : ∀ n : Nat, (∀ (x2 : Int), I32 x2 → (0 ≤ x2 ∧ x2 ≤ 6) → 0 ≤ 32 * (6 - x2) + 1 → 32 * (6 - x2) + 1 < (n : Int) → J X B N 0 0 2 [(0, rv B o), (1, rv B p), (2, iv x2)] [] M) := by
    intro n
    induction n with
    | zero => exact by intros; exfalso; omega
    | succ n ih =>
      · intro x2 hxx2 h2 hm0 hm1
        refine j_iload_n hX dX4_isAllowed_2 rfl 2 rfl ?_
        refine j_aload_n hX dX4_isAllowed_3 rfl 0 rfl ?_
        refine gf_X4_15 hX (by omega) (by omega) (ko_0 ho) dX4_isAllowed_4 ?_
        refine j_name hI (rgo_1 ho) (fun v1 hv2 hl3 hh4 => ?_)
        have hk5 := hv2.symm
        refine j_icmp_ge (tgt := 33) hX dX4_isAllowed_7 (by decide) (by omega) (by omega) (fun hc6 => ?_) (fun hc6 => ?_)
        · skip
          refine j_iconst hX dX4_isAllowed_33 ?_
          exact hret _ _ _ _ dX4_isAllowed_34 (nb (by omega)) (by omega) ⟨rfl, by omega⟩
        · skip
          refine j_aload_n hX dX4_isAllowed_10 rfl 1 rfl ?_
          refine j_iload_n hX dX4_isAllowed_11 rfl 2 rfl ?_
          refine j_iald hX (by omega) (by omega) (kpp hp) (by omega) (by omega) (by omega) dX4_isAllowed_12 ?_
          refine j_name hI (rgp_a hp _) (fun v7 hv8 hl9 hh10 => ?_)
          refine j_aload_n hX dX4_isAllowed_13 rfl 0 rfl ?_
          refine gf_X4_9 hX (by omega) (by omega) (ko_0 ho) (fo_0 hI ho) (by omega) dX4_isAllowed_14 ?_
          refine j_iload_n hX dX4_isAllowed_17 rfl 2 rfl ?_
          refine j_iald hX (by omega) (by omega) (ko_1 ho) (by omega) (by omega) (by omega) dX4_isAllowed_18 ?_
          refine j_name hI (rgo_a ho _) (fun v11 hv12 hl13 hh14 => ?_)
          refine j_ishr hX dX4_isAllowed_19 (fun z15 hz16 hy17 => ?_)
          refine j_iconst hX dX4_isAllowed_20 ?_
          refine j_iand hX dX4_isAllowed_21 (fun z18 hz19 hy20 => ?_)
          have ha21 := (and_f hz19 (by omega) (by omega)).2 (by omega)
          refine j_if_ne (tgt := 27) hX dX4_isAllowed_22 (by decide) (by omega) (fun hc22 => ?_) (fun hc22 => ?_)
          · skip
            refine j_iinc (lv' := [(2, _), (0, _), (1, _)]) hX dX4_isAllowed_27 2 rfl (by rw [hnL]; decide) rfl ?_
            refine j_goto (tgt := 2) hX dX4_isAllowed_30 (by decide) ?_
            refine j_sub [1, 2, 0] rfl ?_
            exact ih _ (by omega) (by first | assumption | omega) (by omega) (by omega)
          · skip
            refine j_iconst hX dX4_isAllowed_25 ?_
            exact hret _ _ _ _ dX4_isAllowed_26 (nb (by omega)) (by omega) ⟨rfl, by omega⟩
  show J X B N 0 0 0 [(0, rv B o), (1, rv B p)] [] M
  refine j_iconst hX dX4_isAllowed_0 ?_
  refine j_istore_n (lv' := [(2, _), (0, _), (1, _)]) hX dX4_isAllowed_1 rfl (by rw [hnL]; decide) rfl ?_
  refine j_sub [1, 2, 0] rfl ?_
  refine (cp (Int.toNat (256 + 1))) _ (by omega) (by first | assumption | omega) ?_ ?_
  · omega
  · omega
set_option maxHeartbeats 2000000 in
set_option maxRecDepth 20000 in
theorem c_X4_copyTo (l : Launch) (D : va_G) (cy : Nat → ClassId) (B N : Nat) (o : Int) (M : MM) (hN : 210 ≤ N) (hI : Iv M) (ho : o = 158 ∨ o = 165) : CV l D cy B N 1 yX4_copyTo cX4_copyTo 2 none [rv B o, rv B 179] M (fun M' => Iv M' ∧ Fr (fun a (_ : Int) => (a = 179)) M M') := by
  refine mk_CV (by decide) (Nat.le_of_ble_eq_true rfl) ?_
  intro X exl exD excy hnL hX hret
  have hce : 0 + 0 ≤ (xR X).cells ∧ 0 + 0 ≤ (xR X).slots := ⟨Nat.zero_le _, Nat.zero_le _⟩
  have hF : Fr (fun a (_ : Int) => (a = 179)) M M := Fr.rf
  show J X B N 0 0 0 [(0, rv B o), (1, rv B 179)] [] M
  refine j_aload_n hX dX4_copyTo_0 rfl 0 rfl ?_
  refine gf_X4_9 hX (by omega) (by omega) (ko_0 ho) (fo_0 hI ho) (by omega) dX4_copyTo_1 ?_
  refine j_iconst hX dX4_copyTo_4 ?_
  refine j_aload_n hX dX4_copyTo_5 rfl 1 rfl ?_
  refine j_iconst hX dX4_copyTo_6 ?_
  refine j_aload_n hX dX4_copyTo_7 rfl 0 rfl ?_
  refine gf_X4_15 hX (by omega) (by omega) (ko_0 ho) dX4_copyTo_8 ?_
  refine j_name hI (rgo_1 ho) (fun v1 hv2 hl3 hh4 => ?_)
  have hk5 := hv2.symm
  refine j_copy hX (in_5 28 (by first | rfl | decide +kernel) rfl) (by omega) (by omega) (ko_1 ho) (by omega) (by omega) kc_179 (by omega) (by omega) (by omega) (by omega) (by omega) (by decide) (Nat.le_of_ble_eq_true rfl) dX4_copyTo_11 ?_
  refine j_cp hI (fun b => (rgo_a ho b)) (fun b => (ra_179 b)) (by omega) (by omega) (by omega) (fun M6 hM7 hI8 => ?_)
  have hG9 := fr_cp hM7
  have hk10 := kp_fr hG9 (by omega) hk5
  have hF11 := Fr.trans hF hG9 (fun a b h => by omega)
  exact hret _ _ _ dX4_copyTo_14 ⟨hI8, hF11⟩
