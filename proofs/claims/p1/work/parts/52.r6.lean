theorem dX11_shownBy_0 : decode cX11_shownBy 0 = .ok (.iconst 0, 1) := by decide +kernel
theorem dX11_shownBy_1 : decode cX11_shownBy 1 = .ok (.istore_n 2, 1) := by decide +kernel
theorem dX11_shownBy_2 : decode cX11_shownBy 2 = .ok (.aload_n 0, 1) := by decide +kernel
theorem dX11_shownBy_3 : decode cX11_shownBy 3 = .ok (.getfield 110, 3) := by decide +kernel
theorem dX11_shownBy_6 : decode cX11_shownBy 6 = .ok (.iconst 0, 1) := by decide +kernel
theorem dX11_shownBy_7 : decode cX11_shownBy 7 = .ok (.iload_n 2, 1) := by decide +kernel
theorem dX11_shownBy_8 : decode cX11_shownBy 8 = .ok (.iadd, 1) := by decide +kernel
theorem dX11_shownBy_9 : decode cX11_shownBy 9 = .ok (.iaload, 1) := by decide +kernel
theorem dX11_shownBy_10 : decode cX11_shownBy 10 = .ok (.iload_n 1, 1) := by decide +kernel
theorem dX11_shownBy_11 : decode cX11_shownBy 11 = .ok (.if_icmp .eq 9, 3) := by decide +kernel
theorem dX11_shownBy_14 : decode cX11_shownBy 14 = .ok (.iinc 2 1, 3) := by decide +kernel
theorem dX11_shownBy_17 : decode cX11_shownBy 17 = .ok (.goto (-15), 3) := by decide +kernel
theorem dX11_shownBy_20 : decode cX11_shownBy 20 = .ok (.iload_n 2, 1) := by decide +kernel
theorem dX11_shownBy_21 : decode cX11_shownBy 21 = .ok (.ireturn, 1) := by decide +kernel
theorem dX11_goHour_0 : decode cX11_goHour 0 = .ok (.iconst 0, 1) := by decide +kernel
theorem dX11_goHour_1 : decode cX11_goHour 1 = .ok (.istore_n 1, 1) := by decide +kernel
theorem dX11_goHour_2 : decode cX11_goHour 2 = .ok (.iload_n 1, 1) := by decide +kernel
theorem dX11_goHour_3 : decode cX11_goHour 3 = .ok (.aload_n 0, 1) := by decide +kernel
theorem dX11_goHour_4 : decode cX11_goHour 4 = .ok (.invokevirtual 385, 3) := by decide +kernel
theorem dX11_goHour_7 : decode cX11_goHour 7 = .ok (.if_icmp .ge 41, 3) := by decide +kernel
theorem dX11_goHour_10 : decode cX11_goHour 10 = .ok (.aload_n 0, 1) := by decide +kernel
theorem dX11_goHour_11 : decode cX11_goHour 11 = .ok (.iload_n 1, 1) := by decide +kernel
theorem dX11_goHour_12 : decode cX11_goHour 12 = .ok (.invokevirtual 413, 3) := by decide +kernel
theorem dX11_goHour_15 : decode cX11_goHour 15 = .ok (.ifCond .eq 27, 3) := by decide +kernel
theorem dX11_goHour_18 : decode cX11_goHour 18 = .ok (.aload_n 0, 1) := by decide +kernel
theorem dX11_goHour_19 : decode cX11_goHour 19 = .ok (.getfield 110, 3) := by decide +kernel
theorem dX11_goHour_22 : decode cX11_goHour 22 = .ok (.bipush 7, 2) := by decide +kernel
theorem dX11_goHour_24 : decode cX11_goHour 24 = .ok (.iload_n 1, 1) := by decide +kernel
theorem dX11_goHour_25 : decode cX11_goHour 25 = .ok (.iadd, 1) := by decide +kernel
theorem dX11_goHour_26 : decode cX11_goHour 26 = .ok (.dup2, 1) := by decide +kernel
theorem dX11_goHour_27 : decode cX11_goHour 27 = .ok (.iaload, 1) := by decide +kernel
theorem dX11_goHour_28 : decode cX11_goHour 28 = .ok (.aload_n 0, 1) := by decide +kernel
theorem dX11_goHour_29 : decode cX11_goHour 29 = .ok (.aload_n 0, 1) := by decide +kernel
theorem dX11_goHour_30 : decode cX11_goHour 30 = .ok (.getfield 110, 3) := by decide +kernel
theorem dX11_goHour_33 : decode cX11_goHour 33 = .ok (.iconst 0, 1) := by decide +kernel
theorem dX11_goHour_34 : decode cX11_goHour 34 = .ok (.iload_n 1, 1) := by decide +kernel
theorem dX11_goHour_35 : decode cX11_goHour 35 = .ok (.iadd, 1) := by decide +kernel
theorem dX11_goHour_36 : decode cX11_goHour 36 = .ok (.iaload, 1) := by decide +kernel
theorem dX11_goHour_37 : decode cX11_goHour 37 = .ok (.invokevirtual 416, 3) := by decide +kernel
theorem dX11_goHour_40 : decode cX11_goHour 40 = .ok (.ior, 1) := by decide +kernel
theorem dX11_goHour_41 : decode cX11_goHour 41 = .ok (.iastore, 1) := by decide +kernel
theorem dX11_goHour_42 : decode cX11_goHour 42 = .ok (.iinc 1 1, 3) := by decide +kernel
theorem dX11_goHour_45 : decode cX11_goHour 45 = .ok (.goto (-43), 3) := by decide +kernel
theorem dX11_goHour_48 : decode cX11_goHour 48 = .ok (.aload_n 0, 1) := by decide +kernel
theorem dX11_goHour_49 : decode cX11_goHour 49 = .ok (.getfield 110, 3) := by decide +kernel
theorem dX11_goHour_52 : decode cX11_goHour 52 = .ok (.bipush 13, 2) := by decide +kernel
theorem dX11_goHour_54 : decode cX11_goHour 54 = .ok (.dup2, 1) := by decide +kernel
theorem dX11_goHour_55 : decode cX11_goHour 55 = .ok (.iaload, 1) := by decide +kernel
theorem dX11_goHour_56 : decode cX11_goHour 56 = .ok (.iconst 1, 1) := by decide +kernel
theorem dX11_goHour_57 : decode cX11_goHour 57 = .ok (.iadd, 1) := by decide +kernel
theorem dX11_goHour_58 : decode cX11_goHour 58 = .ok (.iastore, 1) := by decide +kernel
theorem dX11_goHour_59 : decode cX11_goHour 59 = .ok (.aload_n 0, 1) := by decide +kernel
theorem dX11_goHour_60 : decode cX11_goHour 60 = .ok (.getfield 110, 3) := by decide +kernel
theorem dX11_goHour_63 : decode cX11_goHour 63 = .ok (.bipush 13, 2) := by decide +kernel
theorem dX11_goHour_65 : decode cX11_goHour 65 = .ok (.iaload, 1) := by decide +kernel
theorem dX11_goHour_66 : decode cX11_goHour 66 = .ok (.bipush 24, 2) := by decide +kernel
theorem dX11_goHour_68 : decode cX11_goHour 68 = .ok (.if_icmp .ge 4, 3) := by decide +kernel
theorem dX11_goHour_71 : decode cX11_goHour 71 = .ok (.return_, 1) := by decide +kernel
theorem dX11_goHour_72 : decode cX11_goHour 72 = .ok (.aload_n 0, 1) := by decide +kernel
theorem dX11_goHour_73 : decode cX11_goHour 73 = .ok (.getfield 110, 3) := by decide +kernel
theorem dX11_goHour_76 : decode cX11_goHour 76 = .ok (.bipush 13, 2) := by decide +kernel
theorem dX11_goHour_78 : decode cX11_goHour 78 = .ok (.iconst 0, 1) := by decide +kernel
theorem dX11_goHour_79 : decode cX11_goHour 79 = .ok (.iastore, 1) := by decide +kernel
theorem dX11_goHour_80 : decode cX11_goHour 80 = .ok (.aload_n 0, 1) := by decide +kernel
theorem dX11_goHour_81 : decode cX11_goHour 81 = .ok (.getfield 110, 3) := by decide +kernel
theorem dX11_goHour_84 : decode cX11_goHour 84 = .ok (.bipush 14, 2) := by decide +kernel
theorem dX11_goHour_86 : decode cX11_goHour 86 = .ok (.dup2, 1) := by decide +kernel
theorem dX11_goHour_87 : decode cX11_goHour 87 = .ok (.iaload, 1) := by decide +kernel
theorem dX11_goHour_88 : decode cX11_goHour 88 = .ok (.iconst 1, 1) := by decide +kernel
theorem dX11_goHour_89 : decode cX11_goHour 89 = .ok (.iadd, 1) := by decide +kernel
theorem dX11_goHour_90 : decode cX11_goHour 90 = .ok (.iastore, 1) := by decide +kernel
theorem dX11_goHour_91 : decode cX11_goHour 91 = .ok (.iconst 0, 1) := by decide +kernel
theorem dX11_goHour_92 : decode cX11_goHour 92 = .ok (.istore_n 1, 1) := by decide +kernel
theorem dX11_goHour_93 : decode cX11_goHour 93 = .ok (.iload_n 1, 1) := by decide +kernel
theorem dX11_goHour_94 : decode cX11_goHour 94 = .ok (.aload_n 0, 1) := by decide +kernel
theorem dX11_goHour_95 : decode cX11_goHour 95 = .ok (.invokevirtual 385, 3) := by decide +kernel
theorem dX11_goHour_98 : decode cX11_goHour 98 = .ok (.if_icmp .ge 24, 3) := by decide +kernel
theorem dX11_goHour_101 : decode cX11_goHour 101 = .ok (.aload_n 0, 1) := by decide +kernel
theorem dX11_goHour_102 : decode cX11_goHour 102 = .ok (.getfield 113, 3) := by decide +kernel
theorem dX11_goHour_105 : decode cX11_goHour 105 = .ok (.iload_n 1, 1) := by decide +kernel
theorem dX11_goHour_106 : decode cX11_goHour 106 = .ok (.aload_n 0, 1) := by decide +kernel
theorem dX11_goHour_107 : decode cX11_goHour 107 = .ok (.getfield 110, 3) := by decide +kernel
theorem dX11_goHour_110 : decode cX11_goHour 110 = .ok (.bipush 7, 2) := by decide +kernel
theorem dX11_goHour_112 : decode cX11_goHour 112 = .ok (.iload_n 1, 1) := by decide +kernel
theorem dX11_goHour_113 : decode cX11_goHour 113 = .ok (.iadd, 1) := by decide +kernel
theorem dX11_goHour_114 : decode cX11_goHour 114 = .ok (.iaload, 1) := by decide +kernel
theorem dX11_goHour_115 : decode cX11_goHour 115 = .ok (.iastore, 1) := by decide +kernel
theorem dX11_goHour_116 : decode cX11_goHour 116 = .ok (.iinc 1 1, 3) := by decide +kernel
theorem dX11_goHour_119 : decode cX11_goHour 119 = .ok (.goto (-26), 3) := by decide +kernel
theorem dX11_goHour_122 : decode cX11_goHour 122 = .ok (.iconst 0, 1) := by decide +kernel
theorem dX11_goHour_123 : decode cX11_goHour 123 = .ok (.istore_n 1, 1) := by decide +kernel
theorem dX11_goHour_124 : decode cX11_goHour 124 = .ok (.iload_n 1, 1) := by decide +kernel
theorem dX11_goHour_125 : decode cX11_goHour 125 = .ok (.aload_n 0, 1) := by decide +kernel
theorem dX11_goHour_126 : decode cX11_goHour 126 = .ok (.invokevirtual 385, 3) := by decide +kernel
theorem dX11_goHour_129 : decode cX11_goHour 129 = .ok (.if_icmp .ge 64, 3) := by decide +kernel
theorem dX11_goHour_132 : decode cX11_goHour 132 = .ok (.iconst 0, 1) := by decide +kernel
theorem dX11_goHour_133 : decode cX11_goHour 133 = .ok (.istore_n 2, 1) := by decide +kernel
theorem dX11_goHour_134 : decode cX11_goHour 134 = .ok (.iload_n 2, 1) := by decide +kernel
theorem dX11_goHour_135 : decode cX11_goHour 135 = .ok (.aload_n 0, 1) := by decide +kernel
theorem dX11_goHour_136 : decode cX11_goHour 136 = .ok (.invokevirtual 385, 3) := by decide +kernel
theorem dX11_goHour_139 : decode cX11_goHour 139 = .ok (.if_icmp .ge 48, 3) := by decide +kernel
theorem dX11_goHour_142 : decode cX11_goHour 142 = .ok (.aload_n 0, 1) := by decide +kernel
theorem dX11_goHour_143 : decode cX11_goHour 143 = .ok (.getfield 60, 3) := by decide +kernel
theorem dX11_goHour_146 : decode cX11_goHour 146 = .ok (.bipush 6, 2) := by decide +kernel
theorem dX11_goHour_148 : decode cX11_goHour 148 = .ok (.aload_n 0, 1) := by decide +kernel
theorem dX11_goHour_149 : decode cX11_goHour 149 = .ok (.getfield 279, 3) := by decide +kernel
theorem dX11_goHour_152 : decode cX11_goHour 152 = .ok (.imul, 1) := by decide +kernel
theorem dX11_goHour_153 : decode cX11_goHour 153 = .ok (.iload_n 1, 1) := by decide +kernel
theorem dX11_goHour_154 : decode cX11_goHour 154 = .ok (.iadd, 1) := by decide +kernel
theorem dX11_goHour_155 : decode cX11_goHour 155 = .ok (.iaload, 1) := by decide +kernel
theorem dX11_goHour_156 : decode cX11_goHour 156 = .ok (.iload_n 2, 1) := by decide +kernel
theorem dX11_goHour_157 : decode cX11_goHour 157 = .ok (.invokestatic 368, 3) := by decide +kernel
theorem dX11_goHour_160 : decode cX11_goHour 160 = .ok (.ifCond .eq 21, 3) := by decide +kernel
theorem dX11_goHour_163 : decode cX11_goHour 163 = .ok (.aload_n 0, 1) := by decide +kernel
theorem dX11_goHour_164 : decode cX11_goHour 164 = .ok (.getfield 110, 3) := by decide +kernel
theorem dX11_goHour_167 : decode cX11_goHour 167 = .ok (.bipush 7, 2) := by decide +kernel
theorem dX11_goHour_169 : decode cX11_goHour 169 = .ok (.iload_n 1, 1) := by decide +kernel
theorem dX11_goHour_170 : decode cX11_goHour 170 = .ok (.iadd, 1) := by decide +kernel
theorem dX11_goHour_171 : decode cX11_goHour 171 = .ok (.dup2, 1) := by decide +kernel
theorem dX11_goHour_172 : decode cX11_goHour 172 = .ok (.iaload, 1) := by decide +kernel
theorem dX11_goHour_173 : decode cX11_goHour 173 = .ok (.aload_n 0, 1) := by decide +kernel
theorem dX11_goHour_174 : decode cX11_goHour 174 = .ok (.getfield 113, 3) := by decide +kernel
theorem dX11_goHour_177 : decode cX11_goHour 177 = .ok (.iload_n 2, 1) := by decide +kernel
theorem dX11_goHour_178 : decode cX11_goHour 178 = .ok (.iaload, 1) := by decide +kernel
theorem dX11_goHour_179 : decode cX11_goHour 179 = .ok (.ior, 1) := by decide +kernel
theorem dX11_goHour_180 : decode cX11_goHour 180 = .ok (.iastore, 1) := by decide +kernel
theorem dX11_goHour_181 : decode cX11_goHour 181 = .ok (.iinc 2 1, 3) := by decide +kernel
theorem dX11_goHour_184 : decode cX11_goHour 184 = .ok (.goto (-50), 3) := by decide +kernel
theorem dX11_goHour_187 : decode cX11_goHour 187 = .ok (.iinc 1 1, 3) := by decide +kernel
theorem dX11_goHour_190 : decode cX11_goHour 190 = .ok (.goto (-66), 3) := by decide +kernel
theorem dX11_goHour_193 : decode cX11_goHour 193 = .ok (.return_, 1) := by decide +kernel
theorem dX11_keepNow_0 : decode cX11_keepNow 0 = .ok (.iconst 0, 1) := by decide +kernel
theorem dX11_keepNow_1 : decode cX11_keepNow 1 = .ok (.istore_n 1, 1) := by decide +kernel
theorem dX11_keepNow_2 : decode cX11_keepNow 2 = .ok (.iload_n 1, 1) := by decide +kernel
theorem dX11_keepNow_3 : decode cX11_keepNow 3 = .ok (.bipush 16, 2) := by decide +kernel
theorem dX11_keepNow_5 : decode cX11_keepNow 5 = .ok (.if_icmp .ge 21, 3) := by decide +kernel
theorem dX11_keepNow_8 : decode cX11_keepNow 8 = .ok (.aload_n 0, 1) := by decide +kernel
theorem dX11_keepNow_9 : decode cX11_keepNow 9 = .ok (.getfield 119, 3) := by decide +kernel
theorem dX11_keepNow_12 : decode cX11_keepNow 12 = .ok (.iload_n 1, 1) := by decide +kernel
theorem dX11_keepNow_13 : decode cX11_keepNow 13 = .ok (.aload_n 0, 1) := by decide +kernel
theorem dX11_keepNow_14 : decode cX11_keepNow 14 = .ok (.getfield 110, 3) := by decide +kernel
theorem dX11_keepNow_17 : decode cX11_keepNow 17 = .ok (.iload_n 1, 1) := by decide +kernel
theorem dX11_keepNow_18 : decode cX11_keepNow 18 = .ok (.iaload, 1) := by decide +kernel
theorem dX11_keepNow_19 : decode cX11_keepNow 19 = .ok (.iastore, 1) := by decide +kernel
theorem dX11_keepNow_20 : decode cX11_keepNow 20 = .ok (.iinc 1 1, 3) := by decide +kernel
theorem dX11_keepNow_23 : decode cX11_keepNow 23 = .ok (.goto (-21), 3) := by decide +kernel
theorem dX11_keepNow_26 : decode cX11_keepNow 26 = .ok (.return_, 1) := by decide +kernel
theorem dX11_bringBack_0 : decode cX11_bringBack 0 = .ok (.iconst 0, 1) := by decide +kernel
theorem dX11_bringBack_1 : decode cX11_bringBack 1 = .ok (.istore_n 1, 1) := by decide +kernel
theorem dX11_bringBack_2 : decode cX11_bringBack 2 = .ok (.iload_n 1, 1) := by decide +kernel
theorem dX11_bringBack_3 : decode cX11_bringBack 3 = .ok (.bipush 16, 2) := by decide +kernel
theorem dX11_bringBack_5 : decode cX11_bringBack 5 = .ok (.if_icmp .ge 21, 3) := by decide +kernel
theorem dX11_bringBack_8 : decode cX11_bringBack 8 = .ok (.aload_n 0, 1) := by decide +kernel
theorem dX11_bringBack_9 : decode cX11_bringBack 9 = .ok (.getfield 110, 3) := by decide +kernel
theorem dX11_bringBack_12 : decode cX11_bringBack 12 = .ok (.iload_n 1, 1) := by decide +kernel
theorem dX11_bringBack_13 : decode cX11_bringBack 13 = .ok (.aload_n 0, 1) := by decide +kernel
theorem dX11_bringBack_14 : decode cX11_bringBack 14 = .ok (.getfield 119, 3) := by decide +kernel
theorem dX11_bringBack_17 : decode cX11_bringBack 17 = .ok (.iload_n 1, 1) := by decide +kernel
theorem dX11_bringBack_18 : decode cX11_bringBack 18 = .ok (.iaload, 1) := by decide +kernel
theorem dX11_bringBack_19 : decode cX11_bringBack 19 = .ok (.iastore, 1) := by decide +kernel
theorem dX11_bringBack_20 : decode cX11_bringBack 20 = .ok (.iinc 1 1, 3) := by decide +kernel
theorem dX11_bringBack_23 : decode cX11_bringBack 23 = .ok (.goto (-21), 3) := by decide +kernel
theorem dX11_bringBack_26 : decode cX11_bringBack 26 = .ok (.return_, 1) := by decide +kernel
theorem dX11_knownIn_0 : decode cX11_knownIn 0 = .ok (.iconst 0, 1) := by decide +kernel
theorem dX11_knownIn_1 : decode cX11_knownIn 1 = .ok (.istore 4, 2) := by decide +kernel
theorem dX11_knownIn_3 : decode cX11_knownIn 3 = .ok (.iload 4, 2) := by decide +kernel
theorem dX11_knownIn_5 : decode cX11_knownIn 5 = .ok (.iload_n 3, 1) := by decide +kernel
theorem dX11_knownIn_6 : decode cX11_knownIn 6 = .ok (.if_icmp .ge 29, 3) := by decide +kernel
theorem dX11_knownIn_9 : decode cX11_knownIn 9 = .ok (.aload_n 0, 1) := by decide +kernel
theorem dX11_knownIn_10 : decode cX11_knownIn 10 = .ok (.getfield 110, 3) := by decide +kernel
theorem dX11_knownIn_13 : decode cX11_knownIn 13 = .ok (.bipush 7, 2) := by decide +kernel
theorem dX11_knownIn_15 : decode cX11_knownIn 15 = .ok (.iload_n 1, 1) := by decide +kernel
theorem dX11_knownIn_16 : decode cX11_knownIn 16 = .ok (.iadd, 1) := by decide +kernel
theorem dX11_knownIn_17 : decode cX11_knownIn 17 = .ok (.iaload, 1) := by decide +kernel
theorem dX11_knownIn_18 : decode cX11_knownIn 18 = .ok (.iload_n 2, 1) := by decide +kernel
theorem dX11_knownIn_19 : decode cX11_knownIn 19 = .ok (.invokestatic 368, 3) := by decide +kernel
theorem dX11_knownIn_22 : decode cX11_knownIn 22 = .ok (.ifCond .ne 13, 3) := by decide +kernel
theorem dX11_knownIn_25 : decode cX11_knownIn 25 = .ok (.aload_n 0, 1) := by decide +kernel
theorem dX11_knownIn_26 : decode cX11_knownIn 26 = .ok (.invokevirtual 444, 3) := by decide +kernel
theorem dX11_knownIn_29 : decode cX11_knownIn 29 = .ok (.iinc 4 1, 3) := by decide +kernel
theorem dX11_knownIn_32 : decode cX11_knownIn 32 = .ok (.goto (-29), 3) := by decide +kernel
theorem dX11_knownIn_35 : decode cX11_knownIn 35 = .ok (.aload_n 0, 1) := by decide +kernel
theorem dX11_knownIn_36 : decode cX11_knownIn 36 = .ok (.getfield 110, 3) := by decide +kernel
theorem dX11_knownIn_39 : decode cX11_knownIn 39 = .ok (.bipush 7, 2) := by decide +kernel
theorem dX11_knownIn_41 : decode cX11_knownIn 41 = .ok (.iload_n 1, 1) := by decide +kernel
theorem dX11_knownIn_42 : decode cX11_knownIn 42 = .ok (.iadd, 1) := by decide +kernel
theorem dX11_knownIn_43 : decode cX11_knownIn 43 = .ok (.iaload, 1) := by decide +kernel
theorem dX11_knownIn_44 : decode cX11_knownIn 44 = .ok (.iload_n 2, 1) := by decide +kernel
theorem dX11_knownIn_45 : decode cX11_knownIn 45 = .ok (.invokestatic 368, 3) := by decide +kernel
theorem dX11_knownIn_48 : decode cX11_knownIn 48 = .ok (.ifCond .eq 8, 3) := by decide +kernel
theorem dX11_knownIn_51 : decode cX11_knownIn 51 = .ok (.iload 4, 2) := by decide +kernel
theorem dX11_knownIn_53 : decode cX11_knownIn 53 = .ok (.goto 4, 3) := by decide +kernel
theorem dX11_knownIn_56 : decode cX11_knownIn 56 = .ok (.iconst (-1), 1) := by decide +kernel
theorem dX11_knownIn_57 : decode cX11_knownIn 57 = .ok (.ireturn, 1) := by decide +kernel
theorem dX11_when_0 : decode cX11_when 0 = .ok (.aload_n 0, 1) := by decide +kernel
theorem dX11_when_1 : decode cX11_when 1 = .ok (.iload_n 1, 1) := by decide +kernel
theorem dX11_when_2 : decode cX11_when 2 = .ok (.invokevirtual 419, 3) := by decide +kernel
theorem dX11_when_5 : decode cX11_when 5 = .ok (.ifCond .eq 11, 3) := by decide +kernel
theorem dX11_when_8 : decode cX11_when 8 = .ok (.aload_n 0, 1) := by decide +kernel
theorem dX11_when_9 : decode cX11_when 9 = .ok (.iload_n 2, 1) := by decide +kernel
theorem dX11_when_10 : decode cX11_when 10 = .ok (.invokevirtual 429, 3) := by decide +kernel
theorem dX11_when_13 : decode cX11_when 13 = .ok (.ifCond .ne 5, 3) := by decide +kernel
theorem dX11_when_16 : decode cX11_when 16 = .ok (.iconst (-1), 1) := by decide +kernel
theorem dX11_when_17 : decode cX11_when 17 = .ok (.ireturn, 1) := by decide +kernel
theorem dX11_when_18 : decode cX11_when 18 = .ok (.aload_n 0, 1) := by decide +kernel
theorem dX11_when_19 : decode cX11_when 19 = .ok (.invokevirtual 450, 3) := by decide +kernel
theorem dX11_when_22 : decode cX11_when 22 = .ok (.aload_n 0, 1) := by decide +kernel
theorem dX11_when_23 : decode cX11_when 23 = .ok (.iload_n 1, 1) := by decide +kernel
theorem dX11_when_24 : decode cX11_when 24 = .ok (.iload_n 2, 1) := by decide +kernel
theorem dX11_when_25 : decode cX11_when 25 = .ok (.sipush 240, 3) := by decide +kernel
theorem dX11_when_28 : decode cX11_when 28 = .ok (.invokevirtual 453, 3) := by decide +kernel
theorem dX11_when_31 : decode cX11_when 31 = .ok (.istore_n 3, 1) := by decide +kernel
theorem dX11_when_32 : decode cX11_when 32 = .ok (.aload_n 0, 1) := by decide +kernel
theorem dX11_when_33 : decode cX11_when 33 = .ok (.invokevirtual 456, 3) := by decide +kernel
theorem dX11_when_36 : decode cX11_when 36 = .ok (.iload_n 3, 1) := by decide +kernel
theorem dX11_when_37 : decode cX11_when 37 = .ok (.ireturn, 1) := by decide +kernel
theorem dX11_will_0 : decode cX11_will 0 = .ok (.aload_n 0, 1) := by decide +kernel
theorem dX11_will_1 : decode cX11_will 1 = .ok (.iload_n 1, 1) := by decide +kernel
theorem dX11_will_2 : decode cX11_will 2 = .ok (.invokevirtual 419, 3) := by decide +kernel
theorem dX11_will_5 : decode cX11_will 5 = .ok (.ifCond .eq 14, 3) := by decide +kernel
theorem dX11_will_8 : decode cX11_will 8 = .ok (.iload_n 2, 1) := by decide +kernel
theorem dX11_will_9 : decode cX11_will 9 = .ok (.iconst 0, 1) := by decide +kernel
theorem dX11_will_10 : decode cX11_will 10 = .ok (.sipush 240, 3) := by decide +kernel
theorem dX11_will_13 : decode cX11_will 13 = .ok (.invokestatic 388, 3) := by decide +kernel
theorem dX11_will_16 : decode cX11_will 16 = .ok (.ifCond .ne 5, 3) := by decide +kernel
theorem dX11_will_19 : decode cX11_will 19 = .ok (.iconst (-1), 1) := by decide +kernel
theorem dX11_will_20 : decode cX11_will 20 = .ok (.ireturn, 1) := by decide +kernel
theorem dX11_will_21 : decode cX11_will 21 = .ok (.aload_n 0, 1) := by decide +kernel
theorem dX11_will_22 : decode cX11_will 22 = .ok (.invokevirtual 450, 3) := by decide +kernel
theorem dX11_will_25 : decode cX11_will 25 = .ok (.iconst 0, 1) := by decide +kernel
theorem dX11_will_26 : decode cX11_will 26 = .ok (.istore_n 3, 1) := by decide +kernel
theorem dX11_will_27 : decode cX11_will 27 = .ok (.iload_n 3, 1) := by decide +kernel
theorem dX11_will_28 : decode cX11_will 28 = .ok (.iload_n 2, 1) := by decide +kernel
theorem dX11_will_29 : decode cX11_will 29 = .ok (.if_icmp .ge 13, 3) := by decide +kernel
theorem dX11_will_32 : decode cX11_will 32 = .ok (.aload_n 0, 1) := by decide +kernel
theorem dX11_will_33 : decode cX11_will 33 = .ok (.invokevirtual 444, 3) := by decide +kernel
theorem dX11_will_36 : decode cX11_will 36 = .ok (.iinc 3 1, 3) := by decide +kernel
theorem dX11_will_39 : decode cX11_will 39 = .ok (.goto (-12), 3) := by decide +kernel
theorem dX11_will_42 : decode cX11_will 42 = .ok (.aload_n 0, 1) := by decide +kernel
theorem dX11_will_43 : decode cX11_will 43 = .ok (.getfield 110, 3) := by decide +kernel
theorem dX11_will_46 : decode cX11_will 46 = .ok (.bipush 7, 2) := by decide +kernel
theorem dX11_will_48 : decode cX11_will 48 = .ok (.iload_n 1, 1) := by decide +kernel
theorem dX11_will_49 : decode cX11_will 49 = .ok (.iadd, 1) := by decide +kernel
theorem dX11_will_50 : decode cX11_will 50 = .ok (.iaload, 1) := by decide +kernel
theorem dX11_will_51 : decode cX11_will 51 = .ok (.istore_n 3, 1) := by decide +kernel
theorem dX11_will_52 : decode cX11_will 52 = .ok (.aload_n 0, 1) := by decide +kernel
theorem dX11_will_53 : decode cX11_will 53 = .ok (.invokevirtual 456, 3) := by decide +kernel
theorem dX11_will_56 : decode cX11_will 56 = .ok (.iload_n 3, 1) := by decide +kernel
theorem dX11_will_57 : decode cX11_will 57 = .ok (.ireturn, 1) := by decide +kernel
theorem dX11_hide_0 : decode cX11_hide 0 = .ok (.aload_n 0, 1) := by decide +kernel
theorem dX11_hide_1 : decode cX11_hide 1 = .ok (.iload_n 1, 1) := by decide +kernel
theorem dX11_hide_2 : decode cX11_hide 2 = .ok (.invokevirtual 419, 3) := by decide +kernel
theorem dX11_hide_5 : decode cX11_hide 5 = .ok (.ifCond .eq 36, 3) := by decide +kernel
theorem dX11_hide_8 : decode cX11_hide 8 = .ok (.aload_n 0, 1) := by decide +kernel
theorem dX11_hide_9 : decode cX11_hide 9 = .ok (.iload_n 2, 1) := by decide +kernel
theorem dX11_hide_10 : decode cX11_hide 10 = .ok (.invokevirtual 429, 3) := by decide +kernel
theorem dX11_hide_13 : decode cX11_hide 13 = .ok (.ifCond .eq 28, 3) := by decide +kernel
theorem dX11_hide_16 : decode cX11_hide 16 = .ok (.iload_n 3, 1) := by decide +kernel
theorem dX11_hide_17 : decode cX11_hide 17 = .ok (.iconst 0, 1) := by decide +kernel
theorem dX11_hide_18 : decode cX11_hide 18 = .ok (.iconst 1, 1) := by decide +kernel
theorem dX11_hide_19 : decode cX11_hide 19 = .ok (.invokestatic 388, 3) := by decide +kernel
theorem dX11_hide_22 : decode cX11_hide 22 = .ok (.ifCond .eq 19, 3) := by decide +kernel
theorem dX11_hide_25 : decode cX11_hide 25 = .ok (.aload_n 0, 1) := by decide +kernel
theorem dX11_hide_26 : decode cX11_hide 26 = .ok (.getfield 110, 3) := by decide +kernel
theorem dX11_hide_29 : decode cX11_hide 29 = .ok (.bipush 7, 2) := by decide +kernel
theorem dX11_hide_31 : decode cX11_hide 31 = .ok (.iload_n 1, 1) := by decide +kernel
theorem dX11_hide_32 : decode cX11_hide 32 = .ok (.iadd, 1) := by decide +kernel
theorem dX11_hide_33 : decode cX11_hide 33 = .ok (.iaload, 1) := by decide +kernel
theorem dX11_hide_34 : decode cX11_hide 34 = .ok (.iload_n 2, 1) := by decide +kernel
theorem dX11_hide_35 : decode cX11_hide 35 = .ok (.invokestatic 368, 3) := by decide +kernel
theorem dX11_hide_38 : decode cX11_hide 38 = .ok (.ifCond .eq 5, 3) := by decide +kernel
theorem dX11_hide_41 : decode cX11_hide 41 = .ok (.iconst (-1), 1) := by decide +kernel
theorem dX11_hide_42 : decode cX11_hide 42 = .ok (.ireturn, 1) := by decide +kernel
theorem dX11_hide_43 : decode cX11_hide 43 = .ok (.iconst (-1), 1) := by decide +kernel
theorem dX11_hide_44 : decode cX11_hide 44 = .ok (.istore 4, 2) := by decide +kernel
theorem dX11_hide_46 : decode cX11_hide 46 = .ok (.aload_n 0, 1) := by decide +kernel
theorem dX11_hide_47 : decode cX11_hide 47 = .ok (.invokevirtual 450, 3) := by decide +kernel
theorem dX11_hide_50 : decode cX11_hide 50 = .ok (.iconst 0, 1) := by decide +kernel
theorem dX11_hide_51 : decode cX11_hide 51 = .ok (.istore 5, 2) := by decide +kernel
theorem dX11_hide_53 : decode cX11_hide 53 = .ok (.iload 5, 2) := by decide +kernel
theorem dX11_hide_55 : decode cX11_hide 55 = .ok (.iconst 1, 1) := by decide +kernel
theorem dX11_hide_56 : decode cX11_hide 56 = .ok (.aload_n 0, 1) := by decide +kernel
theorem dX11_hide_57 : decode cX11_hide 57 = .ok (.invokevirtual 385, 3) := by decide +kernel
theorem dX11_hide_60 : decode cX11_hide 60 = .ok (.ishl, 1) := by decide +kernel
theorem dX11_hide_61 : decode cX11_hide 61 = .ok (.if_icmp .ge 83, 3) := by decide +kernel
theorem dX11_hide_64 : decode cX11_hide 64 = .ok (.iload 5, 2) := by decide +kernel
theorem dX11_hide_66 : decode cX11_hide 66 = .ok (.aload_n 0, 1) := by decide +kernel
theorem dX11_hide_67 : decode cX11_hide 67 = .ok (.getfield 110, 3) := by decide +kernel
theorem dX11_hide_70 : decode cX11_hide 70 = .ok (.bipush 6, 2) := by decide +kernel
theorem dX11_hide_72 : decode cX11_hide 72 = .ok (.iaload, 1) := by decide +kernel
theorem dX11_hide_73 : decode cX11_hide 73 = .ok (.iand, 1) := by decide +kernel
theorem dX11_hide_74 : decode cX11_hide 74 = .ok (.ifCond .ne 64, 3) := by decide +kernel
theorem dX11_hide_77 : decode cX11_hide 77 = .ok (.iload 5, 2) := by decide +kernel
theorem dX11_hide_79 : decode cX11_hide 79 = .ok (.invokestatic 372, 3) := by decide +kernel
theorem dX11_hide_82 : decode cX11_hide 82 = .ok (.iconst 3, 1) := by decide +kernel
theorem dX11_hide_83 : decode cX11_hide 83 = .ok (.if_icmp .gt 55, 3) := by decide +kernel
theorem dX11_hide_86 : decode cX11_hide 86 = .ok (.iload 4, 2) := by decide +kernel
theorem dX11_hide_88 : decode cX11_hide 88 = .ok (.ifCond .lt 19, 3) := by decide +kernel
theorem dX11_hide_91 : decode cX11_hide 91 = .ok (.iload 5, 2) := by decide +kernel
theorem dX11_hide_93 : decode cX11_hide 93 = .ok (.invokestatic 372, 3) := by decide +kernel
theorem dX11_hide_96 : decode cX11_hide 96 = .ok (.iload 4, 2) := by decide +kernel
theorem dX11_hide_98 : decode cX11_hide 98 = .ok (.invokestatic 372, 3) := by decide +kernel
theorem dX11_hide_101 : decode cX11_hide 101 = .ok (.if_icmp .lt 6, 3) := by decide +kernel
theorem dX11_hide_104 : decode cX11_hide 104 = .ok (.goto 34, 3) := by decide +kernel
theorem dX11_hide_107 : decode cX11_hide 107 = .ok (.aload_n 0, 1) := by decide +kernel
theorem dX11_hide_108 : decode cX11_hide 108 = .ok (.getfield 110, 3) := by decide +kernel
theorem dX11_hide_111 : decode cX11_hide 111 = .ok (.bipush 6, 2) := by decide +kernel
theorem dX11_hide_113 : decode cX11_hide 113 = .ok (.dup2, 1) := by decide +kernel
theorem dX11_hide_114 : decode cX11_hide 114 = .ok (.iaload, 1) := by decide +kernel
theorem dX11_hide_115 : decode cX11_hide 115 = .ok (.iload 5, 2) := by decide +kernel
theorem dX11_hide_117 : decode cX11_hide 117 = .ok (.ior, 1) := by decide +kernel
theorem dX11_hide_118 : decode cX11_hide 118 = .ok (.iastore, 1) := by decide +kernel
theorem dX11_hide_119 : decode cX11_hide 119 = .ok (.aload_n 0, 1) := by decide +kernel
theorem dX11_hide_120 : decode cX11_hide 120 = .ok (.iload_n 1, 1) := by decide +kernel
theorem dX11_hide_121 : decode cX11_hide 121 = .ok (.iload_n 2, 1) := by decide +kernel
theorem dX11_hide_122 : decode cX11_hide 122 = .ok (.bipush 120, 2) := by decide +kernel
theorem dX11_hide_124 : decode cX11_hide 124 = .ok (.invokevirtual 453, 3) := by decide +kernel
theorem dX11_hide_127 : decode cX11_hide 127 = .ok (.ifCond .ge 7, 3) := by decide +kernel
theorem dX11_hide_130 : decode cX11_hide 130 = .ok (.iload 5, 2) := by decide +kernel
theorem dX11_hide_132 : decode cX11_hide 132 = .ok (.istore 4, 2) := by decide +kernel
theorem dX11_hide_134 : decode cX11_hide 134 = .ok (.aload_n 0, 1) := by decide +kernel
theorem dX11_hide_135 : decode cX11_hide 135 = .ok (.invokevirtual 456, 3) := by decide +kernel
theorem dX11_hide_138 : decode cX11_hide 138 = .ok (.iinc 5 1, 3) := by decide +kernel
theorem dX11_hide_141 : decode cX11_hide 141 = .ok (.goto (-88), 3) := by decide +kernel
theorem dX11_hide_144 : decode cX11_hide 144 = .ok (.iload 4, 2) := by decide +kernel
theorem dX11_hide_146 : decode cX11_hide 146 = .ok (.ifCond .ge 7, 3) := by decide +kernel
theorem dX11_hide_149 : decode cX11_hide 149 = .ok (.iconst (-1), 1) := by decide +kernel
theorem dX11_hide_150 : decode cX11_hide 150 = .ok (.goto 17, 3) := by decide +kernel
theorem dX11_hide_153 : decode cX11_hide 153 = .ok (.iload_n 3, 1) := by decide +kernel
theorem dX11_hide_154 : decode cX11_hide 154 = .ok (.ifCond .ne 11, 3) := by decide +kernel
theorem dX11_hide_157 : decode cX11_hide 157 = .ok (.iload 4, 2) := by decide +kernel
theorem dX11_hide_159 : decode cX11_hide 159 = .ok (.invokestatic 372, 3) := by decide +kernel
theorem dX11_hide_162 : decode cX11_hide 162 = .ok (.goto 5, 3) := by decide +kernel
theorem dX11_hide_165 : decode cX11_hide 165 = .ok (.iload 4, 2) := by decide +kernel
theorem dX11_hide_167 : decode cX11_hide 167 = .ok (.ireturn, 1) := by decide +kernel
theorem dX11_deaf_0 : decode cX11_deaf 0 = .ok (.aload_n 0, 1) := by decide +kernel
theorem dX11_deaf_1 : decode cX11_deaf 1 = .ok (.iload_n 1, 1) := by decide +kernel
theorem dX11_deaf_2 : decode cX11_deaf 2 = .ok (.invokevirtual 429, 3) := by decide +kernel
theorem dX11_deaf_5 : decode cX11_deaf 5 = .ok (.ifCond .ne 5, 3) := by decide +kernel
theorem dX11_deaf_8 : decode cX11_deaf 8 = .ok (.iconst (-1), 1) := by decide +kernel
theorem dX11_deaf_9 : decode cX11_deaf 9 = .ok (.ireturn, 1) := by decide +kernel
theorem dX11_deaf_10 : decode cX11_deaf 10 = .ok (.aload_n 0, 1) := by decide +kernel
theorem dX11_deaf_11 : decode cX11_deaf 11 = .ok (.invokevirtual 450, 3) := by decide +kernel
theorem dX11_deaf_14 : decode cX11_deaf 14 = .ok (.iconst 0, 1) := by decide +kernel
theorem dX11_deaf_15 : decode cX11_deaf 15 = .ok (.istore_n 2, 1) := by decide +kernel
theorem dX11_deaf_16 : decode cX11_deaf 16 = .ok (.iload_n 2, 1) := by decide +kernel
theorem dX11_deaf_17 : decode cX11_deaf 17 = .ok (.sipush 240, 3) := by decide +kernel
theorem dX11_deaf_20 : decode cX11_deaf 20 = .ok (.if_icmp .ge 13, 3) := by decide +kernel
theorem dX11_deaf_23 : decode cX11_deaf 23 = .ok (.aload_n 0, 1) := by decide +kernel
theorem dX11_deaf_24 : decode cX11_deaf 24 = .ok (.invokevirtual 444, 3) := by decide +kernel
theorem dX11_deaf_27 : decode cX11_deaf 27 = .ok (.iinc 2 1, 3) := by decide +kernel
theorem dX11_deaf_30 : decode cX11_deaf 30 = .ok (.goto (-14), 3) := by decide +kernel
theorem dX11_deaf_33 : decode cX11_deaf 33 = .ok (.iconst 1, 1) := by decide +kernel
theorem dX11_deaf_34 : decode cX11_deaf 34 = .ok (.aload_n 0, 1) := by decide +kernel
theorem dX11_deaf_35 : decode cX11_deaf 35 = .ok (.invokevirtual 385, 3) := by decide +kernel
theorem dX11_deaf_38 : decode cX11_deaf 38 = .ok (.ishl, 1) := by decide +kernel
theorem dX11_deaf_39 : decode cX11_deaf 39 = .ok (.iconst 1, 1) := by decide +kernel
theorem dX11_deaf_40 : decode cX11_deaf 40 = .ok (.isub, 1) := by decide +kernel
theorem dX11_deaf_41 : decode cX11_deaf 41 = .ok (.aload_n 0, 1) := by decide +kernel
theorem dX11_deaf_42 : decode cX11_deaf 42 = .ok (.iload_n 1, 1) := by decide +kernel
theorem dX11_deaf_43 : decode cX11_deaf 43 = .ok (.invokevirtual 432, 3) := by decide +kernel
theorem dX11_deaf_46 : decode cX11_deaf 46 = .ok (.iconst (-1), 1) := by decide +kernel
theorem dX11_deaf_47 : decode cX11_deaf 47 = .ok (.ixor, 1) := by decide +kernel
theorem dX11_deaf_48 : decode cX11_deaf 48 = .ok (.iand, 1) := by decide +kernel
theorem dX11_deaf_49 : decode cX11_deaf 49 = .ok (.istore_n 2, 1) := by decide +kernel
theorem dX11_deaf_50 : decode cX11_deaf 50 = .ok (.aload_n 0, 1) := by decide +kernel
theorem dX11_deaf_51 : decode cX11_deaf 51 = .ok (.invokevirtual 456, 3) := by decide +kernel
theorem dX11_deaf_54 : decode cX11_deaf 54 = .ok (.iload_n 2, 1) := by decide +kernel
theorem dX11_deaf_55 : decode cX11_deaf 55 = .ok (.ireturn, 1) := by decide +kernel
theorem dX11_gossip_0 : decode cX11_gossip 0 = .ok (.iload_n 1, 1) := by decide +kernel
theorem dX11_gossip_1 : decode cX11_gossip 1 = .ok (.iconst 0, 1) := by decide +kernel
theorem dX11_gossip_2 : decode cX11_gossip 2 = .ok (.sipush 240, 3) := by decide +kernel
theorem dX11_gossip_5 : decode cX11_gossip 5 = .ok (.invokestatic 388, 3) := by decide +kernel
theorem dX11_gossip_8 : decode cX11_gossip 8 = .ok (.ifCond .ne 5, 3) := by decide +kernel
theorem dX11_gossip_11 : decode cX11_gossip 11 = .ok (.iconst (-1), 1) := by decide +kernel
theorem dX11_gossip_12 : decode cX11_gossip 12 = .ok (.ireturn, 1) := by decide +kernel
theorem dX11_gossip_13 : decode cX11_gossip 13 = .ok (.aload_n 0, 1) := by decide +kernel
theorem dX11_gossip_14 : decode cX11_gossip 14 = .ok (.invokevirtual 450, 3) := by decide +kernel
theorem dX11_gossip_17 : decode cX11_gossip 17 = .ok (.aload_n 0, 1) := by decide +kernel
theorem dX11_gossip_18 : decode cX11_gossip 18 = .ok (.invokevirtual 441, 3) := by decide +kernel
theorem dX11_gossip_21 : decode cX11_gossip 21 = .ok (.istore_n 2, 1) := by decide +kernel
theorem dX11_gossip_22 : decode cX11_gossip 22 = .ok (.iconst 0, 1) := by decide +kernel
theorem dX11_gossip_23 : decode cX11_gossip 23 = .ok (.istore_n 3, 1) := by decide +kernel
theorem dX11_gossip_24 : decode cX11_gossip 24 = .ok (.iload_n 3, 1) := by decide +kernel
theorem dX11_gossip_25 : decode cX11_gossip 25 = .ok (.iload_n 1, 1) := by decide +kernel
theorem dX11_gossip_26 : decode cX11_gossip 26 = .ok (.if_icmp .ge 13, 3) := by decide +kernel
theorem dX11_gossip_29 : decode cX11_gossip 29 = .ok (.aload_n 0, 1) := by decide +kernel
theorem dX11_gossip_30 : decode cX11_gossip 30 = .ok (.invokevirtual 444, 3) := by decide +kernel
theorem dX11_gossip_33 : decode cX11_gossip 33 = .ok (.iinc 3 1, 3) := by decide +kernel
theorem dX11_gossip_36 : decode cX11_gossip 36 = .ok (.goto (-12), 3) := by decide +kernel
theorem dX11_gossip_39 : decode cX11_gossip 39 = .ok (.aload_n 0, 1) := by decide +kernel
theorem dX11_gossip_40 : decode cX11_gossip 40 = .ok (.invokevirtual 441, 3) := by decide +kernel
theorem dX11_gossip_43 : decode cX11_gossip 43 = .ok (.iload_n 2, 1) := by decide +kernel
theorem dX11_gossip_44 : decode cX11_gossip 44 = .ok (.isub, 1) := by decide +kernel
theorem dX11_gossip_45 : decode cX11_gossip 45 = .ok (.istore_n 3, 1) := by decide +kernel
theorem dX11_gossip_46 : decode cX11_gossip 46 = .ok (.aload_n 0, 1) := by decide +kernel
theorem dX11_gossip_47 : decode cX11_gossip 47 = .ok (.invokevirtual 456, 3) := by decide +kernel
theorem dX11_gossip_50 : decode cX11_gossip 50 = .ok (.iload_n 3, 1) := by decide +kernel
theorem dX11_gossip_51 : decode cX11_gossip 51 = .ok (.ireturn, 1) := by decide +kernel
theorem dX11_word_0 : decode cX11_word 0 = .ok (.aload_n 0, 1) := by decide +kernel
theorem dX11_word_1 : decode cX11_word 1 = .ok (.iconst 0, 1) := by decide +kernel
theorem dX11_word_2 : decode cX11_word 2 = .ok (.putfield 404, 3) := by decide +kernel
theorem dX11_word_5 : decode cX11_word 5 = .ok (.aload_n 0, 1) := by decide +kernel
theorem dX11_word_6 : decode cX11_word 6 = .ok (.iload_n 1, 1) := by decide +kernel
theorem dX11_word_7 : decode cX11_word 7 = .ok (.invokevirtual 419, 3) := by decide +kernel
theorem dX11_word_10 : decode cX11_word 10 = .ok (.ifCond .eq 11, 3) := by decide +kernel
theorem dX11_word_13 : decode cX11_word 13 = .ok (.aload_n 0, 1) := by decide +kernel
theorem dX11_word_14 : decode cX11_word 14 = .ok (.iload_n 2, 1) := by decide +kernel
theorem dX11_word_15 : decode cX11_word 15 = .ok (.invokevirtual 419, 3) := by decide +kernel
theorem dX11_word_18 : decode cX11_word 18 = .ok (.ifCond .ne 5, 3) := by decide +kernel
theorem dX11_word_21 : decode cX11_word 21 = .ok (.iconst (-1), 1) := by decide +kernel
theorem dX11_word_22 : decode cX11_word 22 = .ok (.ireturn, 1) := by decide +kernel
theorem dX11_word_23 : decode cX11_word 23 = .ok (.iload_n 1, 1) := by decide +kernel
theorem dX11_word_24 : decode cX11_word 24 = .ok (.istore_n 3, 1) := by decide +kernel
theorem dX11_word_25 : decode cX11_word 25 = .ok (.iconst 0, 1) := by decide +kernel
theorem dX11_word_26 : decode cX11_word 26 = .ok (.istore 4, 2) := by decide +kernel
theorem dX11_word_28 : decode cX11_word 28 = .ok (.aload_n 0, 1) := by decide +kernel
theorem dX11_word_29 : decode cX11_word 29 = .ok (.getfield 122, 3) := by decide +kernel
theorem dX11_word_32 : decode cX11_word 32 = .ok (.iconst 0, 1) := by decide +kernel
theorem dX11_word_33 : decode cX11_word 33 = .ok (.iload_n 1, 1) := by decide +kernel
theorem dX11_word_34 : decode cX11_word 34 = .ok (.iastore, 1) := by decide +kernel
theorem dX11_word_35 : decode cX11_word 35 = .ok (.iload_n 3, 1) := by decide +kernel
theorem dX11_word_36 : decode cX11_word 36 = .ok (.iload_n 2, 1) := by decide +kernel
theorem dX11_word_37 : decode cX11_word 37 = .ok (.if_icmp .eq 48, 3) := by decide +kernel
theorem dX11_word_40 : decode cX11_word 40 = .ok (.aload_n 0, 1) := by decide +kernel
theorem dX11_word_41 : decode cX11_word 41 = .ok (.getfield 110, 3) := by decide +kernel
theorem dX11_word_44 : decode cX11_word 44 = .ok (.bipush 6, 2) := by decide +kernel
theorem dX11_word_46 : decode cX11_word 46 = .ok (.iaload, 1) := by decide +kernel
theorem dX11_word_47 : decode cX11_word 47 = .ok (.iload_n 3, 1) := by decide +kernel
theorem dX11_word_48 : decode cX11_word 48 = .ok (.invokestatic 368, 3) := by decide +kernel
theorem dX11_word_51 : decode cX11_word 51 = .ok (.ifCond .ne 12, 3) := by decide +kernel
theorem dX11_word_54 : decode cX11_word 54 = .ok (.iload 4, 2) := by decide +kernel
theorem dX11_word_56 : decode cX11_word 56 = .ok (.aload_n 0, 1) := by decide +kernel
theorem dX11_word_57 : decode cX11_word 57 = .ok (.invokevirtual 385, 3) := by decide +kernel
theorem dX11_word_60 : decode cX11_word 60 = .ok (.if_icmp .ne 5, 3) := by decide +kernel
theorem dX11_word_63 : decode cX11_word 63 = .ok (.iconst (-1), 1) := by decide +kernel
theorem dX11_word_64 : decode cX11_word 64 = .ok (.ireturn, 1) := by decide +kernel
theorem dX11_word_65 : decode cX11_word 65 = .ok (.aload_n 0, 1) := by decide +kernel
theorem dX11_word_66 : decode cX11_word 66 = .ok (.iload_n 3, 1) := by decide +kernel
theorem dX11_word_67 : decode cX11_word 67 = .ok (.invokevirtual 423, 3) := by decide +kernel
theorem dX11_word_70 : decode cX11_word 70 = .ok (.istore_n 3, 1) := by decide +kernel
theorem dX11_word_71 : decode cX11_word 71 = .ok (.iinc 4 1, 3) := by decide +kernel
theorem dX11_word_74 : decode cX11_word 74 = .ok (.aload_n 0, 1) := by decide +kernel
theorem dX11_word_75 : decode cX11_word 75 = .ok (.getfield 122, 3) := by decide +kernel
theorem dX11_word_78 : decode cX11_word 78 = .ok (.iload 4, 2) := by decide +kernel
theorem dX11_word_80 : decode cX11_word 80 = .ok (.iload_n 3, 1) := by decide +kernel
theorem dX11_word_81 : decode cX11_word 81 = .ok (.iastore, 1) := by decide +kernel
theorem dX11_word_82 : decode cX11_word 82 = .ok (.goto (-47), 3) := by decide +kernel
theorem dX11_word_85 : decode cX11_word 85 = .ok (.aload_n 0, 1) := by decide +kernel
theorem dX11_word_86 : decode cX11_word 86 = .ok (.iload 4, 2) := by decide +kernel
theorem dX11_word_88 : decode cX11_word 88 = .ok (.iconst 1, 1) := by decide +kernel
theorem dX11_word_89 : decode cX11_word 89 = .ok (.iadd, 1) := by decide +kernel
theorem dX11_word_90 : decode cX11_word 90 = .ok (.putfield 404, 3) := by decide +kernel
theorem dX11_word_93 : decode cX11_word 93 = .ok (.iload 4, 2) := by decide +kernel
theorem dX11_word_95 : decode cX11_word 95 = .ok (.ireturn, 1) := by decide +kernel
theorem dX11_reach_0 : decode cX11_reach 0 = .ok (.aload_n 0, 1) := by decide +kernel
theorem dX11_reach_1 : decode cX11_reach 1 = .ok (.iload_n 1, 1) := by decide +kernel
theorem dX11_reach_2 : decode cX11_reach 2 = .ok (.invokevirtual 419, 3) := by decide +kernel
theorem dX11_reach_5 : decode cX11_reach 5 = .ok (.ifCond .ne 5, 3) := by decide +kernel
theorem dX11_reach_8 : decode cX11_reach 8 = .ok (.iconst (-1), 1) := by decide +kernel
theorem dX11_reach_9 : decode cX11_reach 9 = .ok (.ireturn, 1) := by decide +kernel
theorem dX11_reach_10 : decode cX11_reach 10 = .ok (.iconst 1, 1) := by decide +kernel
theorem dX11_reach_11 : decode cX11_reach 11 = .ok (.iload_n 1, 1) := by decide +kernel
theorem dX11_reach_12 : decode cX11_reach 12 = .ok (.ishl, 1) := by decide +kernel
theorem dX11_reach_13 : decode cX11_reach 13 = .ok (.istore_n 2, 1) := by decide +kernel
theorem dX11_reach_14 : decode cX11_reach 14 = .ok (.iload_n 1, 1) := by decide +kernel
theorem dX11_reach_15 : decode cX11_reach 15 = .ok (.istore_n 3, 1) := by decide +kernel
theorem dX11_reach_16 : decode cX11_reach 16 = .ok (.iconst 0, 1) := by decide +kernel
theorem dX11_reach_17 : decode cX11_reach 17 = .ok (.istore 4, 2) := by decide +kernel
theorem dX11_reach_19 : decode cX11_reach 19 = .ok (.iload 4, 2) := by decide +kernel
theorem dX11_reach_21 : decode cX11_reach 21 = .ok (.aload_n 0, 1) := by decide +kernel
theorem dX11_reach_22 : decode cX11_reach 22 = .ok (.invokevirtual 385, 3) := by decide +kernel
theorem dX11_reach_25 : decode cX11_reach 25 = .ok (.if_icmp .ge 35, 3) := by decide +kernel
theorem dX11_reach_28 : decode cX11_reach 28 = .ok (.aload_n 0, 1) := by decide +kernel
theorem dX11_reach_29 : decode cX11_reach 29 = .ok (.getfield 110, 3) := by decide +kernel
theorem dX11_reach_32 : decode cX11_reach 32 = .ok (.bipush 6, 2) := by decide +kernel
theorem dX11_reach_34 : decode cX11_reach 34 = .ok (.iaload, 1) := by decide +kernel
theorem dX11_reach_35 : decode cX11_reach 35 = .ok (.iload_n 3, 1) := by decide +kernel
theorem dX11_reach_36 : decode cX11_reach 36 = .ok (.invokestatic 368, 3) := by decide +kernel
theorem dX11_reach_39 : decode cX11_reach 39 = .ok (.ifCond .ne 21, 3) := by decide +kernel
theorem dX11_reach_42 : decode cX11_reach 42 = .ok (.aload_n 0, 1) := by decide +kernel
theorem dX11_reach_43 : decode cX11_reach 43 = .ok (.iload_n 3, 1) := by decide +kernel
theorem dX11_reach_44 : decode cX11_reach 44 = .ok (.invokevirtual 423, 3) := by decide +kernel
theorem dX11_reach_47 : decode cX11_reach 47 = .ok (.istore_n 3, 1) := by decide +kernel
theorem dX11_reach_48 : decode cX11_reach 48 = .ok (.iload_n 2, 1) := by decide +kernel
theorem dX11_reach_49 : decode cX11_reach 49 = .ok (.iconst 1, 1) := by decide +kernel
theorem dX11_reach_50 : decode cX11_reach 50 = .ok (.iload_n 3, 1) := by decide +kernel
theorem dX11_reach_51 : decode cX11_reach 51 = .ok (.ishl, 1) := by decide +kernel
theorem dX11_reach_52 : decode cX11_reach 52 = .ok (.ior, 1) := by decide +kernel
theorem dX11_reach_53 : decode cX11_reach 53 = .ok (.istore_n 2, 1) := by decide +kernel
theorem dX11_reach_54 : decode cX11_reach 54 = .ok (.iinc 4 1, 3) := by decide +kernel
theorem dX11_reach_57 : decode cX11_reach 57 = .ok (.goto (-38), 3) := by decide +kernel
theorem dX11_reach_60 : decode cX11_reach 60 = .ok (.iload_n 2, 1) := by decide +kernel
theorem dX11_reach_61 : decode cX11_reach 61 = .ok (.ireturn, 1) := by decide +kernel
set_option maxHeartbeats 2000000 in
set_option maxRecDepth 20000 in
theorem c_X11_shownBy (l : Launch) (D : va_G) (cy : Nat → ClassId) (B N : Nat) (bk : Int) (nr : Int) (a : Int) (M : MM) (hN : 257 ≤ N) (hI : Iv M) (hpa : I32 a) (hbk : M.1 210 40 = bk) (hnr : M.1 213 bk = nr) (hLP : LQ nr 242 0 M) (h1 : 0 ≤ a ∧ a < nr) : CI l D cy B N 1 yX11_shownBy cX11_shownBy 3 (some .int) [rv B 210, iv a] M (fun z M' => M' = M ∧ (0 ≤ z ∧ z < nr)) := by
  refine mk_CI (by decide) (Nat.le_of_ble_eq_true rfl) ?_
  intro X exl exD excy hnL hX hret
  have hce : 0 + 0 ≤ (xR X).cells ∧ 0 + 0 ≤ (xR X).slots := ⟨Nat.zero_le _, Nat.zero_le _⟩
  have hbk2 : 0 ≤ bk ∧ bk ≤ 1 := by have := hI.at 210 40 ro_210_40; omega
  have hnr2 : 0 ≤ nr ∧ nr ≤ 6 := by have := hI.at 213 bk (ra_213 _); omega
  have cp : ∀ n : Nat, (∀ (x2 : Int), I32 x2 → (0 ≤ x2) → (∃ i, x2 ≤ i ∧ i < nr ∧ M.1 242 i = a) → 0 ≤ 32 * (10 - x2) + 1 → 32 * (10 - x2) + 1 < (n : Int) → J X B N 0 0 2 [(0, rv B 210), (1, iv a), (2, iv x2)] [] M) := by
    intro n
    induction n with
    | zero => exact by intros; exfalso; omega
    | succ n ih =>
      · intro x2 hxx2 h2 h3 hm0 hm1
        obtain ⟨i0, hi1, hi2, hi3⟩ := h3
        have h3 : ∃ i, x2 ≤ i ∧ i < nr ∧ M.1 242 i = a := ⟨i0, hi1, hi2, hi3⟩
        refine j_aload_n hX dX11_shownBy_2 rfl 0 rfl ?_
        refine gf_X11_110 hX (by omega) (by omega) kc_210 (fc_210_47 hI) (by decide) dX11_shownBy_3 ?_
        refine j_iconst hX dX11_shownBy_6 ?_
        refine j_iload_n hX dX11_shownBy_7 rfl 2 rfl ?_
        refine j_iadd hX dX11_shownBy_8 ?_
        refine j_iald hX (by omega) (by omega) kc_242 (by omega) (by omega) (by omega) dX11_shownBy_9 ?_
        refine j_name hI (rs_242 (by omega) (by omega)) (fun v1 hv2 hl3 hh4 => ?_)
        refine j_iload_n hX dX11_shownBy_10 rfl 1 rfl ?_
        refine j_icmp_eq (tgt := 20) hX dX11_shownBy_11 (by decide) (by omega) (by omega) (fun hc5 => ?_) (fun hc5 => ?_)
        · skip
          refine j_iload_n hX dX11_shownBy_20 rfl 2 rfl ?_
          exact hret _ _ _ _ dX11_shownBy_21 rfl (by omega) ⟨rfl, by first | assumption | omega⟩
        · skip
          refine j_iinc (lv' := [(2, _), (0, _), (1, _)]) hX dX11_shownBy_14 2 rfl (by rw [hnL]; decide) rfl ?_
          refine j_goto (tgt := 2) hX dX11_shownBy_17 (by decide) ?_
          refine j_sub [1, 2, 0] rfl ?_
          exact ih _ (by omega) (by first | assumption | omega) (by first | exact sh_0 hLP (by omega) (by omega) | exact sh_s h3 (by assumption) (by assumption)) (by omega) (by omega)
  show J X B N 0 0 0 [(0, rv B 210), (1, iv a)] [] M
  refine j_iconst hX dX11_shownBy_0 ?_
  refine j_istore_n (lv' := [(2, _), (0, _), (1, _)]) hX dX11_shownBy_1 rfl (by rw [hnL]; decide) rfl ?_
  refine j_sub [1, 2, 0] rfl ?_
  refine (cp (Int.toNat (384 + 1))) _ (by omega) (by first | assumption | omega) (by first | exact sh_0 hLP (by omega) (by omega) | exact sh_s h3 (by assumption) (by assumption)) ?_ ?_
  · omega
  · omega
set_option maxHeartbeats 2000000 in
set_option maxRecDepth 20000 in
theorem c_X11_goHour (l : Launch) (D : va_G) (cy : Nat → ClassId) (B N : Nat) (bk : Int) (nr : Int) (M : MM) (hN : 257 ≤ N) (hI : Iv M) (hbk : M.1 210 40 = bk) (hnr : M.1 213 bk = nr) : CV l D cy B N 3 yX11_goHour cX11_goHour 3 none [rv B 210] M (fun M' => Iv M' ∧ Fr (fun a b => (a = 242 ∧ 7 ≤ b ∧ b ≤ 14) ∨ (a = 243)) M M') := by
  refine mk_CV (by decide) (Nat.le_of_ble_eq_true rfl) ?_
  intro X exl exD excy hnL hX hret
  have hce : 0 + 0 ≤ (xR X).cells ∧ 0 + 0 ≤ (xR X).slots := ⟨Nat.zero_le _, Nat.zero_le _⟩
  have hF : Fr (fun a b => (a = 242 ∧ 7 ≤ b ∧ b ≤ 14) ∨ (a = 243)) M M := Fr.rf
  have hbk2 : 0 ≤ bk ∧ bk ≤ 1 := by have := hI.at 210 40 ro_210_40; omega
  have hnr2 : 0 ≤ nr ∧ nr ≤ 6 := by have := hI.at 213 bk (ra_213 _); omega
  have cp : ∀ n : Nat, (∀ (x1 : Int), ∀ (Mc : MM), I32 x1 → Iv Mc → Fr (fun a b => (a = 242 ∧ 7 ≤ b ∧ b ≤ 14) ∨ (a = 243)) M Mc → Mc.1 210 40 = bk → Mc.1 213 bk = nr → (0 ≤ x1 ∧ x1 ≤ 6) → 0 ≤ 32 * (300 + 6 - x1) + 4 → 32 * (300 + 6 - x1) + 4 < (n : Int) → J X B N 0 0 2 [(0, rv B 210), (1, iv x1)] [] Mc) ∧ (∀ (x1 : Int), ∀ (Mc : MM), I32 x1 → Iv Mc → Fr (fun a b => (a = 242 ∧ 7 ≤ b ∧ b ≤ 14) ∨ (a = 243)) M Mc → Mc.1 210 40 = bk → Mc.1 213 bk = nr → (0 ≤ x1 ∧ x1 ≤ 6) → 0 ≤ 32 * (200 + 6 - x1) + 3 → 32 * (200 + 6 - x1) + 3 < (n : Int) → J X B N 0 0 93 [(0, rv B 210), (1, iv x1)] [] Mc) ∧ (∀ (x1 : Int), ∀ (Mc : MM), I32 x1 → Iv Mc → Fr (fun a b => (a = 242 ∧ 7 ≤ b ∧ b ≤ 14) ∨ (a = 243)) M Mc → Mc.1 210 40 = bk → Mc.1 213 bk = nr → (0 ≤ x1 ∧ x1 ≤ 6) → 0 ≤ 32 * (10 * (6 - x1) + 1) + 2 → 32 * (10 * (6 - x1) + 1) + 2 < (n : Int) → J X B N 0 0 124 [(0, rv B 210), (1, iv x1)] [] Mc) ∧ (∀ (x1 x2 : Int), ∀ (Mc : MM), I32 x1 → I32 x2 → Iv Mc → Fr (fun a b => (a = 242 ∧ 7 ≤ b ∧ b ≤ 14) ∨ (a = 243)) M Mc → Mc.1 210 40 = bk → Mc.1 213 bk = nr → (0 ≤ x1 ∧ x1 < nr ∧ 0 ≤ x2 ∧ x2 ≤ 6) → 0 ≤ 32 * (10 * (6 - x1) - x2) + 1 → 32 * (10 * (6 - x1) - x2) + 1 < (n : Int) → J X B N 0 0 134 [(0, rv B 210), (1, iv x1), (2, iv x2)] [] Mc) := by
    intro n
    induction n with
    | zero => exact ⟨by intros; exfalso; omega, by intros; exfalso; omega, by intros; exfalso; omega, by intros; exfalso; omega⟩
    | succ n ih =>
      refine ⟨?_, ?_, ?_, ?_⟩
      · intro x1 Mc hxx1 hI hF hk_0 hk_1 h2 hm0 hm1
        refine j_iload_n hX dX11_goHour_2 rfl 1 rfl ?_
        refine j_aload_n hX dX11_goHour_3 rfl 0 rfl ?_
        refine j_callVI hX lk_X11_385 (c_X11_many _ _ _ _ _ _ _ _ (by omega) hI hk_0 hk_1) (by omega) hce rfl rfl (by omega) (by omega) kc_210 rfl rfl (Nat.le_of_ble_eq_true rfl) dX11_goHour_4 (fun z1 M2 hz4 hp3 => ?_)
        obtain ⟨hE5, hq6⟩ := hp3
        replace hE5 := hE5.symm
        subst hE5
        refine j_icmp_ge (tgt := 48) hX dX11_goHour_7 (by decide) (by omega) (by omega) (fun hc7 => ?_) (fun hc7 => ?_)
        · skip
          refine j_aload_n hX dX11_goHour_48 rfl 0 rfl ?_
          refine gf_X11_110 hX (by omega) (by omega) kc_210 (fc_210_47 hI) (by decide) dX11_goHour_49 ?_
          refine j_bipush hX dX11_goHour_52 rfl ?_
          refine j_dup2 hX dX11_goHour_54 rfl rfl ?_
          refine j_iald hX (by omega) (by omega) kc_242 (by omega) (by omega) (by omega) dX11_goHour_55 ?_
          refine j_name hI ro_242_13 (fun v8 hv9 hl10 hh11 => ?_)
          have hk12 := hv9.symm
          refine j_iconst hX dX11_goHour_56 ?_
          refine j_iadd hX dX11_goHour_57 ?_
          refine j_norm (fun z13 hz14 hy15 => ?_)
          refine j_iast hX (by omega) (by omega) kc_242 (by omega) (by omega) (by omega) (by omega) dX11_goHour_58 ?_
          refine j_up hI ro_242_13 (by omega) (by omega) (Or.inl (by omega)) (fun M16 w17 hw18 hM19 hI20 hf21 => ?_)
          have hk22 := kp_up hM19 (by decide) hk_0
          have hk23 := kp_up hM19 (fun h => absurd h.1 (by decide)) hk_1
          clear hk12
          have hF24 := Fr.put hF hM19 (by omega)
          refine j_aload_n hX dX11_goHour_59 rfl 0 rfl ?_
          refine gf_X11_110 hX (by omega) (by omega) kc_210 (fc_210_47 hI20) (by decide) dX11_goHour_60 ?_
          refine j_bipush hX dX11_goHour_63 rfl ?_
          refine j_iald hX (by omega) (by omega) kc_242 (by omega) (by omega) (by omega) dX11_goHour_65 ?_
          refine j_top hf21 ?_
          refine j_bipush hX dX11_goHour_66 rfl ?_
          refine j_icmp_ge (tgt := 72) hX dX11_goHour_68 (by decide) (by omega) (by omega) (fun hc25 => ?_) (fun hc25 => ?_)
          · skip
            refine j_aload_n hX dX11_goHour_72 rfl 0 rfl ?_
            refine gf_X11_110 hX (by omega) (by omega) kc_210 (fc_210_47 hI20) (by decide) dX11_goHour_73 ?_
            refine j_bipush hX dX11_goHour_76 rfl ?_
            refine j_iconst hX dX11_goHour_78 ?_
            refine j_iast hX (by omega) (by omega) kc_242 (by omega) (by omega) (by omega) (by omega) dX11_goHour_79 ?_
            refine j_up hI20 ro_242_13 (by omega) (by omega) (Or.inl (by omega)) (fun M26 w27 hw28 hM29 hI30 hf31 => ?_)
            have hk32 := kp_up hM29 (by decide) hk22
            have hk33 := kp_up hM29 (fun h => absurd h.1 (by decide)) hk23
            clear hk22 hk23 hf21
            have hF34 := Fr.put hF24 hM29 (by omega)
            refine j_aload_n hX dX11_goHour_80 rfl 0 rfl ?_
            refine gf_X11_110 hX (by omega) (by omega) kc_210 (fc_210_47 hI30) (by decide) dX11_goHour_81 ?_
            refine j_bipush hX dX11_goHour_84 rfl ?_
            refine j_dup2 hX dX11_goHour_86 rfl rfl ?_
            refine j_iald hX (by omega) (by omega) kc_242 (by omega) (by omega) (by omega) dX11_goHour_87 ?_
            refine j_name hI30 ro_242_14 (fun v35 hv36 hl37 hh38 => ?_)
            have hk39 := hv36.symm
            refine j_iconst hX dX11_goHour_88 ?_
            refine j_iadd hX dX11_goHour_89 ?_
            refine j_norm (fun z40 hz41 hy42 => ?_)
            refine j_iast hX (by omega) (by omega) kc_242 (by omega) (by omega) (by omega) (by omega) dX11_goHour_90 ?_
            refine j_up hI30 ro_242_14 (by omega) (by omega) (Or.inl (by omega)) (fun M43 w44 hw45 hM46 hI47 hf48 => ?_)
            have hk49 := kp_up hM46 (by decide) hk32
            have hk50 := kp_up hM46 (fun h => absurd h.1 (by decide)) hk33
            have hk51 := kp_up hM46 (fun h => absurd h.2 (by decide)) hf31
            clear hk32 hk33 hf31 hk39
            have hF52 := Fr.put hF34 hM46 (by omega)
            refine j_iconst hX dX11_goHour_91 ?_
            refine j_istore_n (lv' := [(1, _), (0, _)]) hX dX11_goHour_92 rfl (by rw [hnL]; decide) rfl ?_
            refine j_sub [1, 0] rfl ?_
            exact ih.2.1 _ _ (by omega) hI47 hF52 hk49 hk50 (by first | assumption | omega) (by omega) (by omega)
          · skip
            exact hret _ _ _ dX11_goHour_71 ⟨hI20, hF24⟩
        · skip
          refine j_aload_n hX dX11_goHour_10 rfl 0 rfl ?_
          refine j_iload_n hX dX11_goHour_11 rfl 1 rfl ?_
          refine j_callVI hX lk_X11_413 (c_X11_doesSee _ _ _ _ _ _ _ (by omega) hI (by omega) (by first | assumption | omega)) (by omega) hce rfl rfl (by omega) (by omega) kc_210 rfl rfl (Nat.le_of_ble_eq_true rfl) dX11_goHour_12 (fun z53 M54 hz56 hp55 => ?_)
          obtain ⟨hE57, hb58⟩ := hp55
          replace hE57 := hE57.symm
          subst hE57
          refine j_if_eq (tgt := 42) hX dX11_goHour_15 (by decide) (by omega) (fun hc59 => ?_) (fun hc59 => ?_)
          · skip
            refine j_iinc (lv' := [(1, _), (0, _)]) hX dX11_goHour_42 1 rfl (by rw [hnL]; decide) rfl ?_
            refine j_goto (tgt := 2) hX dX11_goHour_45 (by decide) ?_
            refine j_sub [1, 0] rfl ?_
            exact ih.1 _ _ (by omega) hI hF hk_0 hk_1 (by first | assumption | omega) (by omega) (by omega)
          · skip
            refine j_aload_n hX dX11_goHour_18 rfl 0 rfl ?_
            refine gf_X11_110 hX (by omega) (by omega) kc_210 (fc_210_47 hI) (by decide) dX11_goHour_19 ?_
            refine j_bipush hX dX11_goHour_22 rfl ?_
            refine j_iload_n hX dX11_goHour_24 rfl 1 rfl ?_
            refine j_iadd hX dX11_goHour_25 ?_
            refine j_dup2 hX dX11_goHour_26 rfl rfl ?_
            refine j_iald hX (by omega) (by omega) kc_242 (by omega) (by omega) (by omega) dX11_goHour_27 ?_
            refine j_name hI (rk_242 (by omega) (by omega)) (fun v60 hv61 hl62 hh63 => ?_)
            refine j_aload_n hX dX11_goHour_28 rfl 0 rfl ?_
            refine j_aload_n hX dX11_goHour_29 rfl 0 rfl ?_
            refine gf_X11_110 hX (by omega) (by omega) kc_210 (fc_210_47 hI) (by decide) dX11_goHour_30 ?_
            refine j_iconst hX dX11_goHour_33 ?_
            refine j_iload_n hX dX11_goHour_34 rfl 1 rfl ?_
            refine j_iadd hX dX11_goHour_35 ?_
            refine j_iald hX (by omega) (by omega) kc_242 (by omega) (by omega) (by omega) dX11_goHour_36 ?_
            refine j_name hI (rs_242 (by omega) (by omega)) (fun v64 hv65 hl66 hh67 => ?_)
            refine j_callVI hX lk_X11_416 (c_X11_factsNow _ _ _ _ _ _ _ _ (by omega) hI (by omega) hk_0) (by omega) hce rfl rfl (by omega) (by omega) kc_210 rfl rfl (Nat.le_of_ble_eq_true rfl) dX11_goHour_37 (fun z68 M69 hz71 hp70 => ?_)
            have hE72 := hp70.symm
            subst hE72
            refine j_ior hX dX11_goHour_40 (fun z73 hz74 hy75 => ?_)
            refine j_iast hX (by omega) (by omega) kc_242 (by omega) (by omega) (by omega) (by omega) dX11_goHour_41 ?_
            refine j_up hI (rk_242 (by omega) (by omega)) (by omega) (by omega) (Or.inl (by omega)) (fun M76 w77 hw78 hM79 hI80 hf81 => ?_)
            have hk82 := kp_up hM79 (fun h => absurd h.1 (by decide)) hk_0
            have hk83 := kp_up hM79 (fun h => absurd h.1 (by decide)) hk_1
            have hF84 := Fr.put hF hM79 (by omega)
            refine j_iinc (lv' := [(1, _), (0, _)]) hX dX11_goHour_42 1 rfl (by rw [hnL]; decide) rfl ?_
            refine j_goto (tgt := 2) hX dX11_goHour_45 (by decide) ?_
            refine j_sub [1, 0] rfl ?_
            exact ih.1 _ _ (by omega) hI80 hF84 hk82 hk83 (by first | assumption | omega) (by omega) (by omega)
      · intro x1 Mc hxx1 hI hF hk_0 hk_1 h2 hm0 hm1
        refine j_iload_n hX dX11_goHour_93 rfl 1 rfl ?_
        refine j_aload_n hX dX11_goHour_94 rfl 0 rfl ?_
        refine j_callVI hX lk_X11_385 (c_X11_many _ _ _ _ _ _ _ _ (by omega) hI hk_0 hk_1) (by omega) hce rfl rfl (by omega) (by omega) kc_210 rfl rfl (Nat.le_of_ble_eq_true rfl) dX11_goHour_95 (fun z85 M86 hz88 hp87 => ?_)
        obtain ⟨hE89, hq90⟩ := hp87
        replace hE89 := hE89.symm
        subst hE89
        refine j_icmp_ge (tgt := 122) hX dX11_goHour_98 (by decide) (by omega) (by omega) (fun hc91 => ?_) (fun hc91 => ?_)
        · skip
          refine j_iconst hX dX11_goHour_122 ?_
          refine j_istore_n (lv' := [(1, _), (0, _)]) hX dX11_goHour_123 rfl (by rw [hnL]; decide) rfl ?_
          refine j_sub [1, 0] rfl ?_
          exact ih.2.2.1 _ _ (by omega) hI hF hk_0 hk_1 (by first | assumption | omega) (by omega) (by omega)
        · skip
          refine j_aload_n hX dX11_goHour_101 rfl 0 rfl ?_
          refine gf_X11_113 hX (by omega) (by omega) kc_210 (fc_210_48 hI) (by decide) dX11_goHour_102 ?_
          refine j_iload_n hX dX11_goHour_105 rfl 1 rfl ?_
          refine j_aload_n hX dX11_goHour_106 rfl 0 rfl ?_
          refine gf_X11_110 hX (by omega) (by omega) kc_210 (fc_210_47 hI) (by decide) dX11_goHour_107 ?_
          refine j_bipush hX dX11_goHour_110 rfl ?_
          refine j_iload_n hX dX11_goHour_112 rfl 1 rfl ?_
          refine j_iadd hX dX11_goHour_113 ?_
          refine j_iald hX (by omega) (by omega) kc_242 (by omega) (by omega) (by omega) dX11_goHour_114 ?_
          refine j_name hI (rk_242 (by omega) (by omega)) (fun v92 hv93 hl94 hh95 => ?_)
          refine j_iast hX (by omega) (by omega) kc_243 (by omega) (by omega) (by omega) (by omega) dX11_goHour_115 ?_
          refine j_up hI (ra_243 _) (by omega) (by omega) (Or.inl (by omega)) (fun M96 w97 hw98 hM99 hI100 hf101 => ?_)
          have hk102 := kp_up hM99 (fun h => absurd h.1 (by decide)) hk_0
          have hk103 := kp_up hM99 (fun h => absurd h.1 (by decide)) hk_1
          have hF104 := Fr.put hF hM99 (by omega)
          refine j_iinc (lv' := [(1, _), (0, _)]) hX dX11_goHour_116 1 rfl (by rw [hnL]; decide) rfl ?_
          refine j_goto (tgt := 93) hX dX11_goHour_119 (by decide) ?_
          refine j_sub [1, 0] rfl ?_
          exact ih.2.1 _ _ (by omega) hI100 hF104 hk102 hk103 (by first | assumption | omega) (by omega) (by omega)
      · intro x1 Mc hxx1 hI hF hk_0 hk_1 h2 hm0 hm1
        refine j_iload_n hX dX11_goHour_124 rfl 1 rfl ?_
        refine j_aload_n hX dX11_goHour_125 rfl 0 rfl ?_
        refine j_callVI hX lk_X11_385 (c_X11_many _ _ _ _ _ _ _ _ (by omega) hI hk_0 hk_1) (by omega) hce rfl rfl (by omega) (by omega) kc_210 rfl rfl (Nat.le_of_ble_eq_true rfl) dX11_goHour_126 (fun z105 M106 hz108 hp107 => ?_)
        obtain ⟨hE109, hq110⟩ := hp107
        replace hE109 := hE109.symm
        subst hE109
        refine j_icmp_ge (tgt := 193) hX dX11_goHour_129 (by decide) (by omega) (by omega) (fun hc111 => ?_) (fun hc111 => ?_)
        · skip
          exact hret _ _ _ dX11_goHour_193 ⟨hI, hF⟩
        · skip
          refine j_iconst hX dX11_goHour_132 ?_
          refine j_istore_n (lv' := [(2, _), (0, _), (1, _)]) hX dX11_goHour_133 rfl (by rw [hnL]; decide) rfl ?_
          refine j_sub [1, 2, 0] rfl ?_
          exact ih.2.2.2 _ _ _ (by omega) (by omega) hI hF hk_0 hk_1 (by first | assumption | omega) (by omega) (by omega)
      · intro x1 x2 Mc hxx1 hxx2 hI hF hk_0 hk_1 h2 hm0 hm1
        refine j_iload_n hX dX11_goHour_134 rfl 2 rfl ?_
        refine j_aload_n hX dX11_goHour_135 rfl 0 rfl ?_
        refine j_callVI hX lk_X11_385 (c_X11_many _ _ _ _ _ _ _ _ (by omega) hI hk_0 hk_1) (by omega) hce rfl rfl (by omega) (by omega) kc_210 rfl rfl (Nat.le_of_ble_eq_true rfl) dX11_goHour_136 (fun z112 M113 hz115 hp114 => ?_)
        obtain ⟨hE116, hq117⟩ := hp114
        replace hE116 := hE116.symm
        subst hE116
        refine j_icmp_ge (tgt := 187) hX dX11_goHour_139 (by decide) (by omega) (by omega) (fun hc118 => ?_) (fun hc118 => ?_)
        · skip
          refine j_iinc (lv' := [(1, _), (0, _), (2, _)]) hX dX11_goHour_187 1 rfl (by rw [hnL]; decide) rfl ?_
          refine j_goto (tgt := 124) hX dX11_goHour_190 (by decide) ?_
          refine j_sub [1, 0] rfl ?_
          exact ih.2.2.1 _ _ (by omega) hI hF hk_0 hk_1 (by first | assumption | omega) (by omega) (by omega)
        · skip
          refine j_aload_n hX dX11_goHour_142 rfl 0 rfl ?_
          refine gf_X11_60 hX (by omega) (by omega) kc_210 (fc_210_24 hI) (by decide) dX11_goHour_143 ?_
          refine j_bipush hX dX11_goHour_146 rfl ?_
          refine j_aload_n hX dX11_goHour_148 rfl 0 rfl ?_
          refine gf_X11_279 hX (by omega) (by omega) kc_210 dX11_goHour_149 ?_
          refine j_top hk_0 ?_
          refine j_imul hX dX11_goHour_152 ?_
          refine j_iload_n hX dX11_goHour_153 rfl 1 rfl ?_
          refine j_iadd hX dX11_goHour_154 ?_
          refine j_iald hX (by omega) (by omega) kc_226 (by omega) (by omega) (by omega) dX11_goHour_155 ?_
          refine j_name hI (ra_226 _) (fun v119 hv120 hl121 hh122 => ?_)
          refine j_iload_n hX dX11_goHour_156 rfl 2 rfl ?_
          refine j_callSI hX lk_X11_368 (c_X11_has _ _ _ _ _ _ _ _ (by omega) (by omega)) (by omega) hce rfl rfl (Nat.le_of_ble_eq_true rfl) dX11_goHour_157 (fun z123 M124 hz126 hp125 => ?_)
          obtain ⟨hE127, hb128, hq129⟩ := hp125
          replace hE127 := hE127.symm
          subst hE127
          refine j_if_eq (tgt := 181) hX dX11_goHour_160 (by decide) (by omega) (fun hc130 => ?_) (fun hc130 => ?_)
          · skip
            refine j_iinc (lv' := [(2, _), (0, _), (1, _)]) hX dX11_goHour_181 2 rfl (by rw [hnL]; decide) rfl ?_
            refine j_goto (tgt := 134) hX dX11_goHour_184 (by decide) ?_
            refine j_sub [1, 2, 0] rfl ?_
            exact ih.2.2.2 _ _ _ (by omega) (by omega) hI hF hk_0 hk_1 (by first | assumption | omega) (by omega) (by omega)
          · skip
            refine j_aload_n hX dX11_goHour_163 rfl 0 rfl ?_
            refine gf_X11_110 hX (by omega) (by omega) kc_210 (fc_210_47 hI) (by decide) dX11_goHour_164 ?_
            refine j_bipush hX dX11_goHour_167 rfl ?_
            refine j_iload_n hX dX11_goHour_169 rfl 1 rfl ?_
            refine j_iadd hX dX11_goHour_170 ?_
            refine j_dup2 hX dX11_goHour_171 rfl rfl ?_
            refine j_iald hX (by omega) (by omega) kc_242 (by omega) (by omega) (by omega) dX11_goHour_172 ?_
            refine j_name hI (rk_242 (by omega) (by omega)) (fun v131 hv132 hl133 hh134 => ?_)
            refine j_aload_n hX dX11_goHour_173 rfl 0 rfl ?_
            refine gf_X11_113 hX (by omega) (by omega) kc_210 (fc_210_48 hI) (by decide) dX11_goHour_174 ?_
            refine j_iload_n hX dX11_goHour_177 rfl 2 rfl ?_
            refine j_iald hX (by omega) (by omega) kc_243 (by omega) (by omega) (by omega) dX11_goHour_178 ?_
            refine j_name hI (ra_243 _) (fun v135 hv136 hl137 hh138 => ?_)
            refine j_ior hX dX11_goHour_179 (fun z139 hz140 hy141 => ?_)
            refine j_iast hX (by omega) (by omega) kc_242 (by omega) (by omega) (by omega) (by omega) dX11_goHour_180 ?_
            refine j_up hI (rk_242 (by omega) (by omega)) (by omega) (by omega) (Or.inl (by omega)) (fun M142 w143 hw144 hM145 hI146 hf147 => ?_)
            have hk148 := kp_up hM145 (fun h => absurd h.1 (by decide)) hk_0
            have hk149 := kp_up hM145 (fun h => absurd h.1 (by decide)) hk_1
            have hF150 := Fr.put hF hM145 (by omega)
            refine j_iinc (lv' := [(2, _), (0, _), (1, _)]) hX dX11_goHour_181 2 rfl (by rw [hnL]; decide) rfl ?_
            refine j_goto (tgt := 134) hX dX11_goHour_184 (by decide) ?_
            refine j_sub [1, 2, 0] rfl ?_
            exact ih.2.2.2 _ _ _ (by omega) (by omega) hI146 hF150 hk148 hk149 (by first | assumption | omega) (by omega) (by omega)
  show J X B N 0 0 0 [(0, rv B 210)] [] M
  refine j_iconst hX dX11_goHour_0 ?_
  refine j_istore_n (lv' := [(1, _), (0, _)]) hX dX11_goHour_1 rfl (by rw [hnL]; decide) rfl ?_
  refine j_sub [1, 0] rfl ?_
  refine (cp (Int.toNat (12864 + 1))).1 _ _ (by omega) hI hF hbk hnr (by first | assumption | omega) ?_ ?_
  · omega
  · omega
set_option maxHeartbeats 2000000 in
set_option maxRecDepth 20000 in
theorem c_X11_keepNow (l : Launch) (D : va_G) (cy : Nat → ClassId) (B N : Nat) (bk : Int) (nr : Int) (M : MM) (hN : 257 ≤ N) (hI : Iv M) (hbk : M.1 210 40 = bk) (hnr : M.1 213 bk = nr) (hLP : LQ nr 242 0 M) : CV l D cy B N 1 yX11_keepNow cX11_keepNow 2 none [rv B 210] M (fun M' => Iv M' ∧ Fr (fun a (_ : Int) => (a = 245)) M M' ∧ (LQ nr 245 0 M')) := by
  refine mk_CV (by decide) (Nat.le_of_ble_eq_true rfl) ?_
  intro X exl exD excy hnL hX hret
  have hce : 0 + 0 ≤ (xR X).cells ∧ 0 + 0 ≤ (xR X).slots := ⟨Nat.zero_le _, Nat.zero_le _⟩
  have hF : Fr (fun a (_ : Int) => (a = 245)) M M := Fr.rf
  have hbk2 : 0 ≤ bk ∧ bk ≤ 1 := by have := hI.at 210 40 ro_210_40; omega
  have hnr2 : 0 ≤ nr ∧ nr ≤ 6 := by have := hI.at 213 bk (ra_213 _); omega
  have cp : ∀ n : Nat, (∀ (x1 : Int), ∀ (Mc : MM), I32 x1 → Iv Mc → Fr (fun a (_ : Int) => (a = 245)) M Mc → Mc.1 210 40 = bk → Mc.1 213 bk = nr → (0 ≤ x1 ∧ x1 ≤ 16) → (CP M Mc 245 0 242 0 x1) → 0 ≤ 32 * (16 - x1) + 1 → 32 * (16 - x1) + 1 < (n : Int) → J X B N 0 0 2 [(0, rv B 210), (1, iv x1)] [] Mc) := by
    intro n
    induction n with
    | zero => exact by intros; exfalso; omega
    | succ n ih =>
      · intro x1 Mc hxx1 hI hF hk_0 hk_1 h2 h3 hm0 hm1
        refine j_iload_n hX dX11_keepNow_2 rfl 1 rfl ?_
        refine j_bipush hX dX11_keepNow_3 rfl ?_
        refine j_icmp_ge (tgt := 26) hX dX11_keepNow_5 (by decide) (by omega) (by omega) (fun hc1 => ?_) (fun hc1 => ?_)
        · skip
          exact hret _ _ _ dX11_keepNow_26 ⟨hI, hF, LQ_cp hLP (fun i a b => h3 i a (by omega))⟩
        · skip
          refine j_aload_n hX dX11_keepNow_8 rfl 0 rfl ?_
          refine gf_X11_119 hX (by omega) (by omega) kc_210 (fc_210_52 hI) (by decide) dX11_keepNow_9 ?_
          refine j_iload_n hX dX11_keepNow_12 rfl 1 rfl ?_
          refine j_aload_n hX dX11_keepNow_13 rfl 0 rfl ?_
          refine gf_X11_110 hX (by omega) (by omega) kc_210 (fc_210_47 hI) (by decide) dX11_keepNow_14 ?_
          refine j_iload_n hX dX11_keepNow_17 rfl 1 rfl ?_
          refine j_iald hX (by omega) (by omega) kc_242 (by omega) (by omega) (by omega) dX11_keepNow_18 ?_
          refine j_name hI (rpx_242 _) (fun v2 hv3 hl4 hh5 => ?_)
          have hval : v2 = M.1 242 (0 + x1) := by rw [hv3, Int.zero_add]; exact hF _ _ (by omega)
          have hri := rAi x1
          refine j_iast hX (by omega) (by omega) kc_245 (by omega) (by omega) (by omega) (by omega) dX11_keepNow_19 ?_
          refine j_up hI (rpx_245 _) (by omega) (by omega) (Or.inl (by omega)) (fun M6 w7 hw8 hM9 hI10 hf11 => ?_)
          have hk12 := kp_up hM9 (fun h => absurd h.1 (by decide)) hk_0
          have hk13 := kp_up hM9 (fun h => absurd h.1 (by decide)) hk_1
          have hF14 := Fr.put hF hM9 (by omega)
          have hcp := CP_s h3 hM9 (by omega) (hw8.trans hval)
          refine j_iinc (lv' := [(1, _), (0, _)]) hX dX11_keepNow_20 1 rfl (by rw [hnL]; decide) rfl ?_
          refine j_goto (tgt := 2) hX dX11_keepNow_23 (by decide) ?_
          refine j_sub [1, 0] rfl ?_
          exact ih _ _ (by omega) hI10 hF14 hk12 hk13 (by first | assumption | omega) (by first | exact CP_0 | assumption) (by omega) (by omega)
  show J X B N 0 0 0 [(0, rv B 210)] [] M
  refine j_iconst hX dX11_keepNow_0 ?_
  refine j_istore_n (lv' := [(1, _), (0, _)]) hX dX11_keepNow_1 rfl (by rw [hnL]; decide) rfl ?_
  refine j_sub [1, 0] rfl ?_
  refine (cp (Int.toNat (576 + 1))) _ _ (by omega) hI hF hbk hnr (by first | assumption | omega) (by first | exact CP_0 | assumption) ?_ ?_
  · omega
  · omega
set_option maxHeartbeats 2000000 in
set_option maxRecDepth 20000 in
theorem c_X11_bringBack (l : Launch) (D : va_G) (cy : Nat → ClassId) (B N : Nat) (bk : Int) (nr : Int) (M : MM) (hN : 257 ≤ N) (hI : Iv M) (hbk : M.1 210 40 = bk) (hnr : M.1 213 bk = nr) (hLK : LQ nr 245 0 M) : CV l D cy B N 1 yX11_bringBack cX11_bringBack 2 none [rv B 210] M (fun M' => Iv M' ∧ Fr (fun a (_ : Int) => (a = 242)) M M' ∧ (LQ nr 242 0 M')) := by
  refine mk_CV (by decide) (Nat.le_of_ble_eq_true rfl) ?_
  intro X exl exD excy hnL hX hret
  have hce : 0 + 0 ≤ (xR X).cells ∧ 0 + 0 ≤ (xR X).slots := ⟨Nat.zero_le _, Nat.zero_le _⟩
  have hF : Fr (fun a (_ : Int) => (a = 242)) M M := Fr.rf
  have hbk2 : 0 ≤ bk ∧ bk ≤ 1 := by have := hI.at 210 40 ro_210_40; omega
  have hnr2 : 0 ≤ nr ∧ nr ≤ 6 := by have := hI.at 213 bk (ra_213 _); omega
  have cp : ∀ n : Nat, (∀ (x1 : Int), ∀ (Mc : MM), I32 x1 → Iv Mc → Fr (fun a (_ : Int) => (a = 242)) M Mc → Mc.1 210 40 = bk → Mc.1 213 bk = nr → (0 ≤ x1 ∧ x1 ≤ 16) → (CP M Mc 242 0 245 0 x1) → 0 ≤ 32 * (16 - x1) + 1 → 32 * (16 - x1) + 1 < (n : Int) → J X B N 0 0 2 [(0, rv B 210), (1, iv x1)] [] Mc) := by
    intro n
    induction n with
    | zero => exact by intros; exfalso; omega
    | succ n ih =>
      · intro x1 Mc hxx1 hI hF hk_0 hk_1 h2 h3 hm0 hm1
        refine j_iload_n hX dX11_bringBack_2 rfl 1 rfl ?_
        refine j_bipush hX dX11_bringBack_3 rfl ?_
        refine j_icmp_ge (tgt := 26) hX dX11_bringBack_5 (by decide) (by omega) (by omega) (fun hc1 => ?_) (fun hc1 => ?_)
        · skip
          exact hret _ _ _ dX11_bringBack_26 ⟨hI, hF, LQ_cp hLK (fun i a b => h3 i a (by omega))⟩
        · skip
          refine j_aload_n hX dX11_bringBack_8 rfl 0 rfl ?_
          refine gf_X11_110 hX (by omega) (by omega) kc_210 (fc_210_47 hI) (by decide) dX11_bringBack_9 ?_
          refine j_iload_n hX dX11_bringBack_12 rfl 1 rfl ?_
          refine j_aload_n hX dX11_bringBack_13 rfl 0 rfl ?_
          refine gf_X11_119 hX (by omega) (by omega) kc_210 (fc_210_52 hI) (by decide) dX11_bringBack_14 ?_
          refine j_iload_n hX dX11_bringBack_17 rfl 1 rfl ?_
          refine j_iald hX (by omega) (by omega) kc_245 (by omega) (by omega) (by omega) dX11_bringBack_18 ?_
          refine j_name hI (rpx_245 _) (fun v2 hv3 hl4 hh5 => ?_)
          have hval : v2 = M.1 245 (0 + x1) := by rw [hv3, Int.zero_add]; exact hF _ _ (by omega)
          have hri := rAi x1
          refine j_iast hX (by omega) (by omega) kc_242 (by omega) (by omega) (by omega) (by omega) dX11_bringBack_19 ?_
          refine j_up hI (rpx_242 _) (by omega) (by omega) (Or.inl (by omega)) (fun M6 w7 hw8 hM9 hI10 hf11 => ?_)
          have hk12 := kp_up hM9 (fun h => absurd h.1 (by decide)) hk_0
          have hk13 := kp_up hM9 (fun h => absurd h.1 (by decide)) hk_1
          have hF14 := Fr.put hF hM9 (by omega)
          have hcp := CP_s h3 hM9 (by omega) (hw8.trans hval)
          refine j_iinc (lv' := [(1, _), (0, _)]) hX dX11_bringBack_20 1 rfl (by rw [hnL]; decide) rfl ?_
          refine j_goto (tgt := 2) hX dX11_bringBack_23 (by decide) ?_
          refine j_sub [1, 0] rfl ?_
          exact ih _ _ (by omega) hI10 hF14 hk12 hk13 (by first | assumption | omega) (by first | exact CP_0 | assumption) (by omega) (by omega)
  show J X B N 0 0 0 [(0, rv B 210)] [] M
  refine j_iconst hX dX11_bringBack_0 ?_
  refine j_istore_n (lv' := [(1, _), (0, _)]) hX dX11_bringBack_1 rfl (by rw [hnL]; decide) rfl ?_
  refine j_sub [1, 0] rfl ?_
  refine (cp (Int.toNat (576 + 1))) _ _ (by omega) hI hF hbk hnr (by first | assumption | omega) (by first | exact CP_0 | assumption) ?_ ?_
  · omega
  · omega
set_option maxHeartbeats 2000000 in
set_option maxRecDepth 20000 in
theorem c_X11_knownIn (l : Launch) (D : va_G) (cy : Nat → ClassId) (B N : Nat) (bk : Int) (nr : Int) (a : Int) (b : Int) (c : Int) (M : MM) (hN : 257 ≤ N) (hI : Iv M) (hpa : I32 a) (hpb : I32 b) (hpc : I32 c) (hbk : M.1 210 40 = bk) (hnr : M.1 213 bk = nr) (h1 : 0 ≤ a ∧ a < nr) : CI l D cy B N 4 yX11_knownIn cX11_knownIn 5 (some .int) [rv B 210, iv a, iv b, iv c] M (fun z M' => Iv M' ∧ Fr (fun a b => (a = 242 ∧ 7 ≤ b ∧ b ≤ 14) ∨ (a = 243)) M M') := by
  refine mk_CI (by decide) (Nat.le_of_ble_eq_true rfl) ?_
  intro X exl exD excy hnL hX hret
  have hce : 0 + 0 ≤ (xR X).cells ∧ 0 + 0 ≤ (xR X).slots := ⟨Nat.zero_le _, Nat.zero_le _⟩
  have hF : Fr (fun a b => (a = 242 ∧ 7 ≤ b ∧ b ≤ 14) ∨ (a = 243)) M M := Fr.rf
  have hbk2 : 0 ≤ bk ∧ bk ≤ 1 := by have := hI.at 210 40 ro_210_40; omega
  have hnr2 : 0 ≤ nr ∧ nr ≤ 6 := by have := hI.at 213 bk (ra_213 _); omega
  have cp : ∀ n : Nat, (∀ (x4 : Int), ∀ (Mc : MM), I32 x4 → Iv Mc → Fr (fun a b => (a = 242 ∧ 7 ≤ b ∧ b ≤ 14) ∨ (a = 243)) M Mc → Mc.1 210 40 = bk → Mc.1 213 bk = nr → (0 ≤ x4) → 0 ≤ 32 * (2147483648 - x4) + 1 → 32 * (2147483648 - x4) + 1 < (n : Int) → J X B N 0 0 3 [(0, rv B 210), (1, iv a), (2, iv b), (3, iv c), (4, iv x4)] [] Mc) := by
    intro n
    induction n with
    | zero => exact by intros; exfalso; omega
    | succ n ih =>
      · intro x4 Mc hxx4 hI hF hk_0 hk_1 h2 hm0 hm1
        refine j_iload hX dX11_knownIn_3 4 rfl ?_
        refine j_iload_n hX dX11_knownIn_5 rfl 3 rfl ?_
        refine j_icmp_ge (tgt := 35) hX dX11_knownIn_6 (by decide) (by omega) (by omega) (fun hc1 => ?_) (fun hc1 => ?_)
        · skip
          refine j_aload_n hX dX11_knownIn_35 rfl 0 rfl ?_
          refine gf_X11_110 hX (by omega) (by omega) kc_210 (fc_210_47 hI) (by decide) dX11_knownIn_36 ?_
          refine j_bipush hX dX11_knownIn_39 rfl ?_
          refine j_iload_n hX dX11_knownIn_41 rfl 1 rfl ?_
          refine j_iadd hX dX11_knownIn_42 ?_
          refine j_iald hX (by omega) (by omega) kc_242 (by omega) (by omega) (by omega) dX11_knownIn_43 ?_
          refine j_name hI (rk_242 (by omega) (by omega)) (fun v2 hv3 hl4 hh5 => ?_)
          refine j_iload_n hX dX11_knownIn_44 rfl 2 rfl ?_
          refine j_callSI hX lk_X11_368 (c_X11_has _ _ _ _ _ _ _ _ (by omega) (by omega)) (by omega) hce rfl rfl (Nat.le_of_ble_eq_true rfl) dX11_knownIn_45 (fun z6 M7 hz9 hp8 => ?_)
          obtain ⟨hE10, hb11, hq12⟩ := hp8
          replace hE10 := hE10.symm
          subst hE10
          refine j_if_eq (tgt := 56) hX dX11_knownIn_48 (by decide) (by omega) (fun hc13 => ?_) (fun hc13 => ?_)
          · skip
            refine j_iconst hX dX11_knownIn_56 ?_
            exact hret _ _ _ _ dX11_knownIn_57 rfl (by omega) ⟨hI, hF⟩
          · skip
            refine j_iload hX dX11_knownIn_51 4 rfl ?_
            refine j_goto (tgt := 57) hX dX11_knownIn_53 (by decide) ?_
            exact hret _ _ _ _ dX11_knownIn_57 rfl (by omega) ⟨hI, hF⟩
        · skip
          refine j_aload_n hX dX11_knownIn_9 rfl 0 rfl ?_
          refine gf_X11_110 hX (by omega) (by omega) kc_210 (fc_210_47 hI) (by decide) dX11_knownIn_10 ?_
          refine j_bipush hX dX11_knownIn_13 rfl ?_
          refine j_iload_n hX dX11_knownIn_15 rfl 1 rfl ?_
          refine j_iadd hX dX11_knownIn_16 ?_
          refine j_iald hX (by omega) (by omega) kc_242 (by omega) (by omega) (by omega) dX11_knownIn_17 ?_
          refine j_name hI (rk_242 (by omega) (by omega)) (fun v14 hv15 hl16 hh17 => ?_)
          refine j_iload_n hX dX11_knownIn_18 rfl 2 rfl ?_
          refine j_callSI hX lk_X11_368 (c_X11_has _ _ _ _ _ _ _ _ (by omega) (by omega)) (by omega) hce rfl rfl (Nat.le_of_ble_eq_true rfl) dX11_knownIn_19 (fun z18 M19 hz21 hp20 => ?_)
          obtain ⟨hE22, hb23, hq24⟩ := hp20
          replace hE22 := hE22.symm
          subst hE22
          refine j_if_ne (tgt := 35) hX dX11_knownIn_22 (by decide) (by omega) (fun hc25 => ?_) (fun hc25 => ?_)
          · skip
            refine j_aload_n hX dX11_knownIn_35 rfl 0 rfl ?_
            refine gf_X11_110 hX (by omega) (by omega) kc_210 (fc_210_47 hI) (by decide) dX11_knownIn_36 ?_
            refine j_bipush hX dX11_knownIn_39 rfl ?_
            refine j_iload_n hX dX11_knownIn_41 rfl 1 rfl ?_
            refine j_iadd hX dX11_knownIn_42 ?_
            refine j_iald hX (by omega) (by omega) kc_242 (by omega) (by omega) (by omega) dX11_knownIn_43 ?_
            refine j_name hI (rk_242 (by omega) (by omega)) (fun v26 hv27 hl28 hh29 => ?_)
            refine j_iload_n hX dX11_knownIn_44 rfl 2 rfl ?_
            refine j_callSI hX lk_X11_368 (c_X11_has _ _ _ _ _ _ _ _ (by omega) (by omega)) (by omega) hce rfl rfl (Nat.le_of_ble_eq_true rfl) dX11_knownIn_45 (fun z30 M31 hz33 hp32 => ?_)
            obtain ⟨hE34, hb35, hq36⟩ := hp32
            replace hE34 := hE34.symm
            subst hE34
            refine j_if_eq (tgt := 56) hX dX11_knownIn_48 (by decide) (by omega) (fun hc37 => ?_) (fun hc37 => ?_)
            · skip
              refine j_iconst hX dX11_knownIn_56 ?_
              exact hret _ _ _ _ dX11_knownIn_57 rfl (by omega) ⟨hI, hF⟩
            · skip
              refine j_iload hX dX11_knownIn_51 4 rfl ?_
              refine j_goto (tgt := 57) hX dX11_knownIn_53 (by decide) ?_
              exact hret _ _ _ _ dX11_knownIn_57 rfl (by omega) ⟨hI, hF⟩
          · skip
            refine j_aload_n hX dX11_knownIn_25 rfl 0 rfl ?_
            refine j_callVV hX lk_X11_444 (c_X11_goHour _ _ _ _ _ _ _ _ (by omega) hI hk_0 hk_1) (by omega) hce rfl rfl (by omega) (by omega) kc_210 rfl rfl (Nat.le_of_ble_eq_true rfl) dX11_knownIn_26 (fun M39 hp40 => ?_)
            obtain ⟨hI43, hG44⟩ := hp40
            have hk45 := kp_fr hG44 (by omega) hk_0
            have hk46 := kp_fr hG44 (by omega) hk_1
            have hF47 := Fr.trans hF hG44 (fun a b h => by omega)
            refine j_iinc (lv' := [(4, _), (0, _), (1, _), (2, _), (3, _)]) hX dX11_knownIn_29 4 rfl (by rw [hnL]; decide) rfl ?_
            refine j_goto (tgt := 3) hX dX11_knownIn_32 (by decide) ?_
            refine j_sub [1, 2, 3, 4, 0] rfl ?_
            exact ih _ _ (by omega) hI43 hF47 hk45 hk46 (by first | assumption | omega) (by omega) (by omega)
  show J X B N 0 0 0 [(0, rv B 210), (1, iv a), (2, iv b), (3, iv c)] [] M
  refine j_iconst hX dX11_knownIn_0 ?_
  refine j_istore (lv' := [(4, _), (0, _), (1, _), (2, _), (3, _)]) hX dX11_knownIn_1 (by rw [hnL]; decide) rfl ?_
  refine j_sub [1, 2, 3, 4, 0] rfl ?_
  refine (cp (Int.toNat (68719476800 + 1))) _ _ (by omega) hI hF hbk hnr (by first | assumption | omega) ?_ ?_
  · omega
  · omega
set_option maxHeartbeats 2000000 in
set_option maxRecDepth 20000 in
theorem c_X11_when (l : Launch) (D : va_G) (cy : Nat → ClassId) (B N : Nat) (bk : Int) (nr : Int) (a : Int) (b : Int) (M : MM) (hN : 257 ≤ N) (hI : Iv M) (hpa : I32 a) (hpb : I32 b) (hbk : M.1 210 40 = bk) (hnr : M.1 213 bk = nr) (hLP : LQ nr 242 0 M) : CI l D cy B N 5 yX11_when cX11_when 4 (some .int) [rv B 210, iv a, iv b] M (fun z M' => Iv M' ∧ Fr (fun a (_ : Int) => (242 ≤ a ∧ a ≤ 243) ∨ (a = 245)) M M' ∧ (LQ nr 242 0 M')) := by
  refine mk_CI (by decide) (Nat.le_of_ble_eq_true rfl) ?_
  intro X exl exD excy hnL hX hret
  have hce : 0 + 0 ≤ (xR X).cells ∧ 0 + 0 ≤ (xR X).slots := ⟨Nat.zero_le _, Nat.zero_le _⟩
  have hF : Fr (fun a (_ : Int) => (242 ≤ a ∧ a ≤ 243) ∨ (a = 245)) M M := Fr.rf
  have hbk2 : 0 ≤ bk ∧ bk ≤ 1 := by have := hI.at 210 40 ro_210_40; omega
  have hnr2 : 0 ≤ nr ∧ nr ≤ 6 := by have := hI.at 213 bk (ra_213 _); omega
  show J X B N 0 0 0 [(0, rv B 210), (1, iv a), (2, iv b)] [] M
  refine j_aload_n hX dX11_when_0 rfl 0 rfl ?_
  refine j_iload_n hX dX11_when_1 rfl 1 rfl ?_
  refine j_callVI hX lk_X11_419 (c_X11_isRoom _ _ _ _ _ _ _ _ _ (by omega) hI (by omega) hbk hnr) (by omega) hce rfl rfl (by omega) (by omega) kc_210 rfl rfl (Nat.le_of_ble_eq_true rfl) dX11_when_2 (fun z1 M2 hz4 hp3 => ?_)
  obtain ⟨hE5, hb6, hq7⟩ := hp3
  replace hE5 := hE5.symm
  subst hE5
  refine j_if_eq (tgt := 16) hX dX11_when_5 (by decide) (by omega) (fun hc8 => ?_) (fun hc8 => ?_)
  · skip
    clear hq7
    refine j_iconst hX dX11_when_16 ?_
    exact hret _ _ _ _ dX11_when_17 rfl (by omega) ⟨hI, hF, hLP⟩
  · skip
    have hi9 := hq7 (by omega)
    clear hq7
    refine j_aload_n hX dX11_when_8 rfl 0 rfl ?_
    refine j_iload_n hX dX11_when_9 rfl 2 rfl ?_
    refine j_callVI hX lk_X11_429 (c_X11_isFact _ _ _ _ _ _ _ _ (by omega) hI (by omega) hbk) (by omega) hce rfl rfl (by omega) (by omega) kc_210 rfl rfl (Nat.le_of_ble_eq_true rfl) dX11_when_10 (fun z10 M11 hz13 hp12 => ?_)
    obtain ⟨hE14, hb15, hq16⟩ := hp12
    replace hE14 := hE14.symm
    subst hE14
    refine j_if_ne (tgt := 18) hX dX11_when_13 (by decide) (by omega) (fun hc17 => ?_) (fun hc17 => ?_)
    · skip
      have hi18 := hq16 (by omega)
      clear hq16
      refine j_aload_n hX dX11_when_18 rfl 0 rfl ?_
      refine j_callVV hX lk_X11_450 (c_X11_keepNow _ _ _ _ _ _ _ _ (by omega) hI hbk hnr hLP) (by omega) hce rfl rfl (by omega) (by omega) kc_210 rfl rfl (Nat.le_of_ble_eq_true rfl) dX11_when_19 (fun M20 hp21 => ?_)
      obtain ⟨hI24, hG25, hq26⟩ := hp21
      have hV27 := LQ_dp hLP (fun a b h => hG25 a b (by omega))
      have hk28 := kp_fr hG25 (by omega) hbk
      have hk29 := kp_fr hG25 (by omega) hnr
      have hF30 := Fr.trans hF hG25 (fun a b h => by omega)
      refine j_aload_n hX dX11_when_22 rfl 0 rfl ?_
      refine j_iload_n hX dX11_when_23 rfl 1 rfl ?_
      refine j_iload_n hX dX11_when_24 rfl 2 rfl ?_
      refine j_sipush hX dX11_when_25 rfl ?_
      refine j_callVI hX lk_X11_453 (c_X11_knownIn _ _ _ _ _ _ _ _ _ _ _ (by omega) hI24 (by omega) (by omega) (by omega) hk28 hk29 (by first | assumption | omega)) (by omega) hce rfl rfl (by omega) (by omega) kc_210 rfl rfl (Nat.le_of_ble_eq_true rfl) dX11_when_28 (fun z31 M32 hz34 hp33 => ?_)
      obtain ⟨hI36, hG37⟩ := hp33
      have hV38 := LQ_dp hV27 (fun a b h => hG37 a b (by omega))
      have hV39 := LQ_dp hq26 (fun a b h => hG37 a b (by omega))
      have hk40 := kp_fr hG37 (by omega) hk28
      have hk41 := kp_fr hG37 (by omega) hk29
      clear hk28 hk29
      have hF42 := Fr.trans hF30 hG37 (fun a b h => by omega)
      refine j_istore_n (lv' := [(3, _), (0, _), (1, _), (2, _)]) hX dX11_when_31 rfl (by rw [hnL]; decide) rfl ?_
      refine j_aload_n hX dX11_when_32 rfl 1 rfl ?_
      refine j_callVV hX lk_X11_456 (c_X11_bringBack _ _ _ _ _ _ _ _ (by omega) hI36 hk40 hk41 hV39) (by omega) hce rfl rfl (by omega) (by omega) kc_210 rfl rfl (Nat.le_of_ble_eq_true rfl) dX11_when_33 (fun M44 hp45 => ?_)
      obtain ⟨hI48, hG49, hq50⟩ := hp45
      have hV52 := LQ_dp hV39 (fun a b h => hG49 a b (by omega))
      have hk53 := kp_fr hG49 (by omega) hk40
      have hk54 := kp_fr hG49 (by omega) hk41
      clear hk40 hk41
      have hF55 := Fr.trans hF42 hG49 (fun a b h => by omega)
      refine j_iload_n hX dX11_when_36 rfl 0 rfl ?_
      exact hret _ _ _ _ dX11_when_37 rfl (by omega) ⟨hI48, hF55, hq50⟩
    · skip
      clear hq16
      refine j_iconst hX dX11_when_16 ?_
      exact hret _ _ _ _ dX11_when_17 rfl (by omega) ⟨hI, hF, hLP⟩
set_option maxHeartbeats 2000000 in
set_option maxRecDepth 20000 in
theorem c_X11_will (l : Launch) (D : va_G) (cy : Nat → ClassId) (B N : Nat) (bk : Int) (nr : Int) (a : Int) (b : Int) (M : MM) (hN : 257 ≤ N) (hI : Iv M) (hpa : I32 a) (hpb : I32 b) (hbk : M.1 210 40 = bk) (hnr : M.1 213 bk = nr) (hLP : LQ nr 242 0 M) : CI l D cy B N 4 yX11_will cX11_will 4 (some .int) [rv B 210, iv a, iv b] M (fun z M' => Iv M' ∧ Fr (fun a (_ : Int) => (242 ≤ a ∧ a ≤ 243) ∨ (a = 245)) M M' ∧ (LQ nr 242 0 M')) := by
  refine mk_CI (by decide) (Nat.le_of_ble_eq_true rfl) ?_
  intro X exl exD excy hnL hX hret
  have hce : 0 + 0 ≤ (xR X).cells ∧ 0 + 0 ≤ (xR X).slots := ⟨Nat.zero_le _, Nat.zero_le _⟩
  have hF : Fr (fun a (_ : Int) => (242 ≤ a ∧ a ≤ 243) ∨ (a = 245)) M M := Fr.rf
  have hbk2 : 0 ≤ bk ∧ bk ≤ 1 := by have := hI.at 210 40 ro_210_40; omega
  have hnr2 : 0 ≤ nr ∧ nr ≤ 6 := by have := hI.at 213 bk (ra_213 _); omega
  have cp : ∀ n : Nat, (∀ (x3 : Int), ∀ (Mc : MM), I32 x3 → Iv Mc → Fr (fun a (_ : Int) => (242 ≤ a ∧ a ≤ 243) ∨ (a = 245)) M Mc → Mc.1 210 40 = bk → Mc.1 213 bk = nr → LQ nr 242 0 Mc → LQ nr 245 0 Mc → (0 ≤ x3 ∧ x3 ≤ 240 ∧ 0 ≤ a ∧ a < nr ∧ b ≤ 240) → 0 ≤ 32 * (240 - x3) + 1 → 32 * (240 - x3) + 1 < (n : Int) → J X B N 0 0 27 [(0, rv B 210), (1, iv a), (2, iv b), (3, iv x3)] [] Mc) := by
    intro n
    induction n with
    | zero => exact by intros; exfalso; omega
    | succ n ih =>
      · intro x3 Mc hxx3 hI hF hk_0 hk_1 hV_0 hV_1 h2 hm0 hm1
        refine j_iload_n hX dX11_will_27 rfl 3 rfl ?_
        refine j_iload_n hX dX11_will_28 rfl 2 rfl ?_
        refine j_icmp_ge (tgt := 42) hX dX11_will_29 (by decide) (by omega) (by omega) (fun hc1 => ?_) (fun hc1 => ?_)
        · skip
          refine j_aload_n hX dX11_will_42 rfl 0 rfl ?_
          refine gf_X11_110 hX (by omega) (by omega) kc_210 (fc_210_47 hI) (by decide) dX11_will_43 ?_
          refine j_bipush hX dX11_will_46 rfl ?_
          refine j_iload_n hX dX11_will_48 rfl 1 rfl ?_
          refine j_iadd hX dX11_will_49 ?_
          refine j_iald hX (by omega) (by omega) kc_242 (by omega) (by omega) (by omega) dX11_will_50 ?_
          refine j_name hI (rk_242 (by omega) (by omega)) (fun v2 hv3 hl4 hh5 => ?_)
          refine j_istore_n (lv' := [(3, _), (0, _), (1, _), (2, _)]) hX dX11_will_51 rfl (by rw [hnL]; decide) rfl ?_
          refine j_aload_n hX dX11_will_52 rfl 1 rfl ?_
          refine j_callVV hX lk_X11_456 (c_X11_bringBack _ _ _ _ _ _ _ _ (by omega) hI hk_0 hk_1 hV_1) (by omega) hce rfl rfl (by omega) (by omega) kc_210 rfl rfl (Nat.le_of_ble_eq_true rfl) dX11_will_53 (fun M7 hp8 => ?_)
          obtain ⟨hI11, hG12, hq13⟩ := hp8
          have hV15 := LQ_dp hV_1 (fun a b h => hG12 a b (by omega))
          have hk16 := kp_fr hG12 (by omega) hk_0
          have hk17 := kp_fr hG12 (by omega) hk_1
          have hF18 := Fr.trans hF hG12 (fun a b h => by omega)
          refine j_iload_n hX dX11_will_56 rfl 0 rfl ?_
          exact hret _ _ _ _ dX11_will_57 rfl (by omega) ⟨hI11, hF18, hq13⟩
        · skip
          refine j_aload_n hX dX11_will_32 rfl 0 rfl ?_
          refine j_callVV hX lk_X11_444 (c_X11_goHour _ _ _ _ _ _ _ _ (by omega) hI hk_0 hk_1) (by omega) hce rfl rfl (by omega) (by omega) kc_210 rfl rfl (Nat.le_of_ble_eq_true rfl) dX11_will_33 (fun M20 hp21 => ?_)
          obtain ⟨hI24, hG25⟩ := hp21
          have hV26 := LQ_dp hV_0 (fun a b h => hG25 a b (by omega))
          have hV27 := LQ_dp hV_1 (fun a b h => hG25 a b (by omega))
          have hk28 := kp_fr hG25 (by omega) hk_0
          have hk29 := kp_fr hG25 (by omega) hk_1
          have hF30 := Fr.trans hF hG25 (fun a b h => by omega)
          refine j_iinc (lv' := [(3, _), (0, _), (1, _), (2, _)]) hX dX11_will_36 3 rfl (by rw [hnL]; decide) rfl ?_
          refine j_goto (tgt := 27) hX dX11_will_39 (by decide) ?_
          refine j_sub [1, 2, 3, 0] rfl ?_
          exact ih _ _ (by omega) hI24 hF30 hk28 hk29 hV26 hV27 (by first | assumption | omega) (by omega) (by omega)
  show J X B N 0 0 0 [(0, rv B 210), (1, iv a), (2, iv b)] [] M
  refine j_aload_n hX dX11_will_0 rfl 0 rfl ?_
  refine j_iload_n hX dX11_will_1 rfl 1 rfl ?_
  refine j_callVI hX lk_X11_419 (c_X11_isRoom _ _ _ _ _ _ _ _ _ (by omega) hI (by omega) hbk hnr) (by omega) hce rfl rfl (by omega) (by omega) kc_210 rfl rfl (Nat.le_of_ble_eq_true rfl) dX11_will_2 (fun z31 M32 hz34 hp33 => ?_)
  obtain ⟨hE35, hb36, hq37⟩ := hp33
  replace hE35 := hE35.symm
  subst hE35
  refine j_if_eq (tgt := 19) hX dX11_will_5 (by decide) (by omega) (fun hc38 => ?_) (fun hc38 => ?_)
  · skip
    clear hq37
    refine j_iconst hX dX11_will_19 ?_
    exact hret _ _ _ _ dX11_will_20 rfl (by omega) ⟨hI, hF, hLP⟩
  · skip
    have hi39 := hq37 (by omega)
    clear hq37
    refine j_iload_n hX dX11_will_8 rfl 2 rfl ?_
    refine j_iconst hX dX11_will_9 ?_
    refine j_sipush hX dX11_will_10 rfl ?_
    refine j_callSI hX lk_X11_388 (c_X11_isIn _ _ _ _ _ _ _ _ _ (by omega) (by omega) (by omega)) (by omega) hce rfl rfl (Nat.le_of_ble_eq_true rfl) dX11_will_13 (fun z40 M41 hz43 hp42 => ?_)
    obtain ⟨hE44, hb45, hq46, hq47⟩ := hp42
    replace hE44 := hE44.symm
    subst hE44
    refine j_if_ne (tgt := 21) hX dX11_will_16 (by decide) (by omega) (fun hc48 => ?_) (fun hc48 => ?_)
    · skip
      have hi49 := hq46 (by omega)
      clear hq46
      clear hq47
      refine j_aload_n hX dX11_will_21 rfl 0 rfl ?_
      refine j_callVV hX lk_X11_450 (c_X11_keepNow _ _ _ _ _ _ _ _ (by omega) hI hbk hnr hLP) (by omega) hce rfl rfl (by omega) (by omega) kc_210 rfl rfl (Nat.le_of_ble_eq_true rfl) dX11_will_22 (fun M51 hp52 => ?_)
      obtain ⟨hI55, hG56, hq57⟩ := hp52
      have hV58 := LQ_dp hLP (fun a b h => hG56 a b (by omega))
      have hk59 := kp_fr hG56 (by omega) hbk
      have hk60 := kp_fr hG56 (by omega) hnr
      have hF61 := Fr.trans hF hG56 (fun a b h => by omega)
      refine j_iconst hX dX11_will_25 ?_
      refine j_istore_n (lv' := [(3, _), (0, _), (1, _), (2, _)]) hX dX11_will_26 rfl (by rw [hnL]; decide) rfl ?_
      refine j_sub [1, 2, 3, 0] rfl ?_
      refine (cp (Int.toNat (7744 + 1))) _ _ (by omega) hI55 hF61 hk59 hk60 hV58 hq57 (by first | assumption | omega) ?_ ?_
      · omega
      · omega
    · skip
      clear hq46
      have hi62 := hq47 (by omega)
      clear hq47
      refine j_iconst hX dX11_will_19 ?_
      exact hret _ _ _ _ dX11_will_20 rfl (by omega) ⟨hI, hF, hLP⟩
set_option maxHeartbeats 2000000 in
set_option maxRecDepth 20000 in
theorem c_X11_hide (l : Launch) (D : va_G) (cy : Nat → ClassId) (B N : Nat) (bk : Int) (nr : Int) (a : Int) (b : Int) (c : Int) (M : MM) (hN : 257 ≤ N) (hI : Iv M) (hpa : I32 a) (hpb : I32 b) (hpc : I32 c) (hbk : M.1 210 40 = bk) (hnr : M.1 213 bk = nr) (hLP : LQ nr 242 0 M) : CI l D cy B N 5 yX11_hide cX11_hide 6 (some .int) [rv B 210, iv a, iv b, iv c] M (fun z M' => Iv M' ∧ Fr (fun a (_ : Int) => (242 ≤ a ∧ a ≤ 243) ∨ (a = 245)) M M' ∧ (LQ nr 242 0 M')) := by
  refine mk_CI (by decide) (Nat.le_of_ble_eq_true rfl) ?_
  intro X exl exD excy hnL hX hret
  have hce : 0 + 0 ≤ (xR X).cells ∧ 0 + 0 ≤ (xR X).slots := ⟨Nat.zero_le _, Nat.zero_le _⟩
  have hF : Fr (fun a (_ : Int) => (242 ≤ a ∧ a ≤ 243) ∨ (a = 245)) M M := Fr.rf
  have hbk2 : 0 ≤ bk ∧ bk ≤ 1 := by have := hI.at 210 40 ro_210_40; omega
  have hnr2 : 0 ≤ nr ∧ nr ≤ 6 := by have := hI.at 213 bk (ra_213 _); omega
  have cp : ∀ n : Nat, (∀ (x4 x5 : Int), ∀ (Mc : MM), I32 x4 → I32 x5 → Iv Mc → Fr (fun a (_ : Int) => (242 ≤ a ∧ a ≤ 243) ∨ (a = 245)) M Mc → Mc.1 210 40 = bk → Mc.1 213 bk = nr → LQ nr 242 0 Mc → LQ nr 245 0 Mc → (0 ≤ x5 ∧ x5 ≤ 64 ∧ 0 ≤ a ∧ a < nr) → 0 ≤ 32 * (64 - x5) + 1 → 32 * (64 - x5) + 1 < (n : Int) → J X B N 0 0 53 [(0, rv B 210), (1, iv a), (2, iv b), (3, iv c), (4, iv x4), (5, iv x5)] [] Mc) := by
    intro n
    induction n with
    | zero => exact by intros; exfalso; omega
    | succ n ih =>
      · intro x4 x5 Mc hxx4 hxx5 hI hF hk_0 hk_1 hV_0 hV_1 h2 hm0 hm1
        refine j_iload hX dX11_hide_53 5 rfl ?_
        refine j_iconst hX dX11_hide_55 ?_
        refine j_aload_n hX dX11_hide_56 rfl 0 rfl ?_
        refine j_callVI hX lk_X11_385 (c_X11_many _ _ _ _ _ _ _ _ (by omega) hI hk_0 hk_1) (by omega) hce rfl rfl (by omega) (by omega) kc_210 rfl rfl (Nat.le_of_ble_eq_true rfl) dX11_hide_57 (fun z1 M2 hz4 hp3 => ?_)
        obtain ⟨hE5, hq6⟩ := hp3
        replace hE5 := hE5.symm
        subst hE5
        refine j_ishl hX dX11_hide_60 (fun z7 hz8 hy9 => ?_)
        have hs := (shl_b hz8).1 (by omega) (by omega)
        refine j_icmp_ge (tgt := 144) hX dX11_hide_61 (by decide) (by omega) (by omega) (fun hc10 => ?_) (fun hc10 => ?_)
        · skip
          refine j_iload hX dX11_hide_144 4 rfl ?_
          refine j_if_ge (tgt := 153) hX dX11_hide_146 (by decide) (by omega) (fun hc11 => ?_) (fun hc11 => ?_)
          · skip
            refine j_iload_n hX dX11_hide_153 rfl 3 rfl ?_
            refine j_if_ne (tgt := 165) hX dX11_hide_154 (by decide) (by omega) (fun hc12 => ?_) (fun hc12 => ?_)
            · skip
              refine j_iload hX dX11_hide_165 4 rfl ?_
              exact hret _ _ _ _ dX11_hide_167 rfl (by omega) ⟨hI, hF, hV_0⟩
            · skip
              refine j_iload hX dX11_hide_157 4 rfl ?_
              refine j_callSI hX lk_X11_372 (c_X11_bitsOf _ _ _ _ _ _ _ (by omega)) (by omega) hce rfl rfl (Nat.le_of_ble_eq_true rfl) dX11_hide_159 (fun z13 M14 hz16 hp15 => ?_)
              have hE17 := hp15.symm
              subst hE17
              refine j_goto (tgt := 167) hX dX11_hide_162 (by decide) ?_
              exact hret _ _ _ _ dX11_hide_167 rfl (by omega) ⟨hI, hF, hV_0⟩
          · skip
            refine j_iconst hX dX11_hide_149 ?_
            refine j_goto (tgt := 167) hX dX11_hide_150 (by decide) ?_
            exact hret _ _ _ _ dX11_hide_167 rfl (by omega) ⟨hI, hF, hV_0⟩
        · skip
          refine j_iload hX dX11_hide_64 5 rfl ?_
          refine j_aload_n hX dX11_hide_66 rfl 0 rfl ?_
          refine gf_X11_110 hX (by omega) (by omega) kc_210 (fc_210_47 hI) (by decide) dX11_hide_67 ?_
          refine j_bipush hX dX11_hide_70 rfl ?_
          refine j_iald hX (by omega) (by omega) kc_242 (by omega) (by omega) (by omega) dX11_hide_72 ?_
          refine j_name hI ro_242_6 (fun v18 hv19 hl20 hh21 => ?_)
          have hk22 := hv19.symm
          refine j_iand hX dX11_hide_73 (fun z23 hz24 hy25 => ?_)
          refine j_if_ne (tgt := 138) hX dX11_hide_74 (by decide) (by omega) (fun hc26 => ?_) (fun hc26 => ?_)
          · skip
            refine j_iinc (lv' := [(5, _), (0, _), (1, _), (2, _), (3, _), (4, _)]) hX dX11_hide_138 5 rfl (by rw [hnL]; decide) rfl ?_
            refine j_goto (tgt := 53) hX dX11_hide_141 (by decide) ?_
            refine j_sub [1, 2, 3, 4, 5, 0] rfl ?_
            exact ih _ _ _ (by omega) (by omega) hI hF hk_0 hk_1 hV_0 hV_1 (by first | assumption | omega) (by omega) (by omega)
          · skip
            refine j_iload hX dX11_hide_77 5 rfl ?_
            refine j_callSI hX lk_X11_372 (c_X11_bitsOf _ _ _ _ _ _ _ (by omega)) (by omega) hce rfl rfl (Nat.le_of_ble_eq_true rfl) dX11_hide_79 (fun z27 M28 hz30 hp29 => ?_)
            have hE31 := hp29.symm
            subst hE31
            refine j_iconst hX dX11_hide_82 ?_
            refine j_icmp_gt (tgt := 138) hX dX11_hide_83 (by decide) (by omega) (by omega) (fun hc32 => ?_) (fun hc32 => ?_)
            · skip
              refine j_iinc (lv' := [(5, _), (0, _), (1, _), (2, _), (3, _), (4, _)]) hX dX11_hide_138 5 rfl (by rw [hnL]; decide) rfl ?_
              refine j_goto (tgt := 53) hX dX11_hide_141 (by decide) ?_
              refine j_sub [1, 2, 3, 4, 5, 0] rfl ?_
              exact ih _ _ _ (by omega) (by omega) hI hF hk_0 hk_1 hV_0 hV_1 (by first | assumption | omega) (by omega) (by omega)
            · skip
              refine j_iload hX dX11_hide_86 4 rfl ?_
              refine j_if_lt (tgt := 107) hX dX11_hide_88 (by decide) (by omega) (fun hc33 => ?_) (fun hc33 => ?_)
              · skip
                refine j_aload_n hX dX11_hide_107 rfl 0 rfl ?_
                refine gf_X11_110 hX (by omega) (by omega) kc_210 (fc_210_47 hI) (by decide) dX11_hide_108 ?_
                refine j_bipush hX dX11_hide_111 rfl ?_
                refine j_dup2 hX dX11_hide_113 rfl rfl ?_
                refine j_iald hX (by omega) (by omega) kc_242 (by omega) (by omega) (by omega) dX11_hide_114 ?_
                refine j_top hk22 ?_
                refine j_iload hX dX11_hide_115 5 rfl ?_
                refine j_ior hX dX11_hide_117 (fun z34 hz35 hy36 => ?_)
                refine j_iast hX (by omega) (by omega) kc_242 (by omega) (by omega) (by omega) (by omega) dX11_hide_118 ?_
                refine j_up hI ro_242_6 (by omega) (by omega) (Or.inl (by omega)) (fun M37 w38 hw39 hM40 hI41 hf42 => ?_)
                have hV43 := LQ_dp (M' := M37) hV_0 (fun a b h => by rw [hM40]; exact up_ne (by omega))
                have hV44 := LQ_dp (M' := M37) hV_1 (fun a b h => by rw [hM40]; exact up_ne (by omega))
                have hk45 := kp_up hM40 (by decide) hk_0
                have hk46 := kp_up hM40 (fun h => absurd h.1 (by decide)) hk_1
                clear hk22
                have hF47 := Fr.put hF hM40 (by omega)
                refine j_aload_n hX dX11_hide_119 rfl 0 rfl ?_
                refine j_iload_n hX dX11_hide_120 rfl 1 rfl ?_
                refine j_iload_n hX dX11_hide_121 rfl 2 rfl ?_
                refine j_bipush hX dX11_hide_122 rfl ?_
                refine j_callVI hX lk_X11_453 (c_X11_knownIn _ _ _ _ _ _ _ _ _ _ _ (by omega) hI41 (by omega) (by omega) (by omega) hk45 hk46 (by first | assumption | omega)) (by omega) hce rfl rfl (by omega) (by omega) kc_210 rfl rfl (Nat.le_of_ble_eq_true rfl) dX11_hide_124 (fun z48 M49 hz51 hp50 => ?_)
                obtain ⟨hI53, hG54⟩ := hp50
                have hV55 := LQ_dp hV43 (fun a b h => hG54 a b (by omega))
                have hV56 := LQ_dp hV44 (fun a b h => hG54 a b (by omega))
                have hk57 := kp_fr hG54 (by omega) hk45
                have hk58 := kp_fr hG54 (by omega) hk46
                have hk59 := kp_fr hG54 (by omega) hf42
                clear hk45 hk46 hf42
                have hF60 := Fr.trans hF47 hG54 (fun a b h => by omega)
                refine j_if_ge (tgt := 134) hX dX11_hide_127 (by decide) (by omega) (fun hc61 => ?_) (fun hc61 => ?_)
                · skip
                  refine j_aload_n hX dX11_hide_134 rfl 0 rfl ?_
                  refine j_callVV hX lk_X11_456 (c_X11_bringBack _ _ _ _ _ _ _ _ (by omega) hI53 hk57 hk58 hV56) (by omega) hce rfl rfl (by omega) (by omega) kc_210 rfl rfl (Nat.le_of_ble_eq_true rfl) dX11_hide_135 (fun M63 hp64 => ?_)
                  obtain ⟨hI67, hG68, hq69⟩ := hp64
                  have hV71 := LQ_dp hV56 (fun a b h => hG68 a b (by omega))
                  have hk72 := kp_fr hG68 (by omega) hk57
                  have hk73 := kp_fr hG68 (by omega) hk58
                  clear hk57 hk58 hk59
                  have hF74 := Fr.trans hF60 hG68 (fun a b h => by omega)
                  refine j_iinc (lv' := [(5, _), (0, _), (1, _), (2, _), (3, _), (4, _)]) hX dX11_hide_138 5 rfl (by rw [hnL]; decide) rfl ?_
                  refine j_goto (tgt := 53) hX dX11_hide_141 (by decide) ?_
                  refine j_sub [1, 2, 3, 4, 5, 0] rfl ?_
                  exact ih _ _ _ (by omega) (by omega) hI67 hF74 hk72 hk73 hq69 hV71 (by first | assumption | omega) (by omega) (by omega)
                · skip
                  refine j_iload hX dX11_hide_130 5 rfl ?_
                  refine j_istore (lv' := [(4, _), (0, _), (1, _), (2, _), (3, _), (5, _)]) hX dX11_hide_132 (by rw [hnL]; decide) rfl ?_
                  refine j_aload_n hX dX11_hide_134 rfl 1 rfl ?_
                  refine j_callVV hX lk_X11_456 (c_X11_bringBack _ _ _ _ _ _ _ _ (by omega) hI53 hk57 hk58 hV56) (by omega) hce rfl rfl (by omega) (by omega) kc_210 rfl rfl (Nat.le_of_ble_eq_true rfl) dX11_hide_135 (fun M76 hp77 => ?_)
                  obtain ⟨hI80, hG81, hq82⟩ := hp77
                  have hV84 := LQ_dp hV56 (fun a b h => hG81 a b (by omega))
                  have hk85 := kp_fr hG81 (by omega) hk57
                  have hk86 := kp_fr hG81 (by omega) hk58
                  clear hk57 hk58 hk59
                  have hF87 := Fr.trans hF60 hG81 (fun a b h => by omega)
                  refine j_iinc (lv' := [(5, _), (4, _), (0, _), (1, _), (2, _), (3, _)]) hX dX11_hide_138 5 rfl (by rw [hnL]; decide) rfl ?_
                  refine j_goto (tgt := 53) hX dX11_hide_141 (by decide) ?_
                  refine j_sub [2, 3, 4, 5, 1, 0] rfl ?_
                  exact ih _ _ _ (by omega) (by omega) hI80 hF87 hk85 hk86 hq82 hV84 (by first | assumption | omega) (by omega) (by omega)
              · skip
                refine j_iload hX dX11_hide_91 5 rfl ?_
                refine j_callSI hX lk_X11_372 (c_X11_bitsOf _ _ _ _ _ _ _ (by omega)) (by omega) hce rfl rfl (Nat.le_of_ble_eq_true rfl) dX11_hide_93 (fun z88 M89 hz91 hp90 => ?_)
                have hE92 := hp90.symm
                subst hE92
                refine j_iload hX dX11_hide_96 4 rfl ?_
                refine j_callSI hX lk_X11_372 (c_X11_bitsOf _ _ _ _ _ _ _ (by omega)) (by omega) hce rfl rfl (Nat.le_of_ble_eq_true rfl) dX11_hide_98 (fun z93 M94 hz96 hp95 => ?_)
                have hE97 := hp95.symm
                subst hE97
                refine j_icmp_lt (tgt := 107) hX dX11_hide_101 (by decide) (by omega) (by omega) (fun hc98 => ?_) (fun hc98 => ?_)
                · skip
                  refine j_aload_n hX dX11_hide_107 rfl 0 rfl ?_
                  refine gf_X11_110 hX (by omega) (by omega) kc_210 (fc_210_47 hI) (by decide) dX11_hide_108 ?_
                  refine j_bipush hX dX11_hide_111 rfl ?_
                  refine j_dup2 hX dX11_hide_113 rfl rfl ?_
                  refine j_iald hX (by omega) (by omega) kc_242 (by omega) (by omega) (by omega) dX11_hide_114 ?_
                  refine j_top hk22 ?_
                  refine j_iload hX dX11_hide_115 5 rfl ?_
                  refine j_ior hX dX11_hide_117 (fun z99 hz100 hy101 => ?_)
                  refine j_iast hX (by omega) (by omega) kc_242 (by omega) (by omega) (by omega) (by omega) dX11_hide_118 ?_
                  refine j_up hI ro_242_6 (by omega) (by omega) (Or.inl (by omega)) (fun M102 w103 hw104 hM105 hI106 hf107 => ?_)
                  have hV108 := LQ_dp (M' := M102) hV_0 (fun a b h => by rw [hM105]; exact up_ne (by omega))
                  have hV109 := LQ_dp (M' := M102) hV_1 (fun a b h => by rw [hM105]; exact up_ne (by omega))
                  have hk110 := kp_up hM105 (by decide) hk_0
                  have hk111 := kp_up hM105 (fun h => absurd h.1 (by decide)) hk_1
                  clear hk22
                  have hF112 := Fr.put hF hM105 (by omega)
                  refine j_aload_n hX dX11_hide_119 rfl 0 rfl ?_
                  refine j_iload_n hX dX11_hide_120 rfl 1 rfl ?_
                  refine j_iload_n hX dX11_hide_121 rfl 2 rfl ?_
                  refine j_bipush hX dX11_hide_122 rfl ?_
                  refine j_callVI hX lk_X11_453 (c_X11_knownIn _ _ _ _ _ _ _ _ _ _ _ (by omega) hI106 (by omega) (by omega) (by omega) hk110 hk111 (by first | assumption | omega)) (by omega) hce rfl rfl (by omega) (by omega) kc_210 rfl rfl (Nat.le_of_ble_eq_true rfl) dX11_hide_124 (fun z113 M114 hz116 hp115 => ?_)
                  obtain ⟨hI118, hG119⟩ := hp115
                  have hV120 := LQ_dp hV108 (fun a b h => hG119 a b (by omega))
                  have hV121 := LQ_dp hV109 (fun a b h => hG119 a b (by omega))
                  have hk122 := kp_fr hG119 (by omega) hk110
                  have hk123 := kp_fr hG119 (by omega) hk111
                  have hk124 := kp_fr hG119 (by omega) hf107
                  clear hk110 hk111 hf107
                  have hF125 := Fr.trans hF112 hG119 (fun a b h => by omega)
                  refine j_if_ge (tgt := 134) hX dX11_hide_127 (by decide) (by omega) (fun hc126 => ?_) (fun hc126 => ?_)
                  · skip
                    refine j_aload_n hX dX11_hide_134 rfl 0 rfl ?_
                    refine j_callVV hX lk_X11_456 (c_X11_bringBack _ _ _ _ _ _ _ _ (by omega) hI118 hk122 hk123 hV121) (by omega) hce rfl rfl (by omega) (by omega) kc_210 rfl rfl (Nat.le_of_ble_eq_true rfl) dX11_hide_135 (fun M128 hp129 => ?_)
                    obtain ⟨hI132, hG133, hq134⟩ := hp129
                    have hV136 := LQ_dp hV121 (fun a b h => hG133 a b (by omega))
                    have hk137 := kp_fr hG133 (by omega) hk122
                    have hk138 := kp_fr hG133 (by omega) hk123
                    clear hk122 hk123 hk124
                    have hF139 := Fr.trans hF125 hG133 (fun a b h => by omega)
                    refine j_iinc (lv' := [(5, _), (0, _), (1, _), (2, _), (3, _), (4, _)]) hX dX11_hide_138 5 rfl (by rw [hnL]; decide) rfl ?_
                    refine j_goto (tgt := 53) hX dX11_hide_141 (by decide) ?_
                    refine j_sub [1, 2, 3, 4, 5, 0] rfl ?_
                    exact ih _ _ _ (by omega) (by omega) hI132 hF139 hk137 hk138 hq134 hV136 (by first | assumption | omega) (by omega) (by omega)
                  · skip
                    refine j_iload hX dX11_hide_130 5 rfl ?_
                    refine j_istore (lv' := [(4, _), (0, _), (1, _), (2, _), (3, _), (5, _)]) hX dX11_hide_132 (by rw [hnL]; decide) rfl ?_
                    refine j_aload_n hX dX11_hide_134 rfl 1 rfl ?_
                    refine j_callVV hX lk_X11_456 (c_X11_bringBack _ _ _ _ _ _ _ _ (by omega) hI118 hk122 hk123 hV121) (by omega) hce rfl rfl (by omega) (by omega) kc_210 rfl rfl (Nat.le_of_ble_eq_true rfl) dX11_hide_135 (fun M141 hp142 => ?_)
                    obtain ⟨hI145, hG146, hq147⟩ := hp142
                    have hV149 := LQ_dp hV121 (fun a b h => hG146 a b (by omega))
                    have hk150 := kp_fr hG146 (by omega) hk122
                    have hk151 := kp_fr hG146 (by omega) hk123
                    clear hk122 hk123 hk124
                    have hF152 := Fr.trans hF125 hG146 (fun a b h => by omega)
                    refine j_iinc (lv' := [(5, _), (4, _), (0, _), (1, _), (2, _), (3, _)]) hX dX11_hide_138 5 rfl (by rw [hnL]; decide) rfl ?_
                    refine j_goto (tgt := 53) hX dX11_hide_141 (by decide) ?_
                    refine j_sub [2, 3, 4, 5, 1, 0] rfl ?_
                    exact ih _ _ _ (by omega) (by omega) hI145 hF152 hk150 hk151 hq147 hV149 (by first | assumption | omega) (by omega) (by omega)
                · skip
                  refine j_goto (tgt := 138) hX dX11_hide_104 (by decide) ?_
                  refine j_iinc (lv' := [(5, _), (0, _), (1, _), (2, _), (3, _), (4, _)]) hX dX11_hide_138 5 rfl (by rw [hnL]; decide) rfl ?_
                  refine j_goto (tgt := 53) hX dX11_hide_141 (by decide) ?_
                  refine j_sub [1, 2, 3, 4, 5, 0] rfl ?_
                  exact ih _ _ _ (by omega) (by omega) hI hF hk_0 hk_1 hV_0 hV_1 (by first | assumption | omega) (by omega) (by omega)
  show J X B N 0 0 0 [(0, rv B 210), (1, iv a), (2, iv b), (3, iv c)] [] M
  refine j_aload_n hX dX11_hide_0 rfl 0 rfl ?_
  refine j_iload_n hX dX11_hide_1 rfl 1 rfl ?_
  refine j_callVI hX lk_X11_419 (c_X11_isRoom _ _ _ _ _ _ _ _ _ (by omega) hI (by omega) hbk hnr) (by omega) hce rfl rfl (by omega) (by omega) kc_210 rfl rfl (Nat.le_of_ble_eq_true rfl) dX11_hide_2 (fun z153 M154 hz156 hp155 => ?_)
  obtain ⟨hE157, hb158, hq159⟩ := hp155
  replace hE157 := hE157.symm
  subst hE157
  refine j_if_eq (tgt := 41) hX dX11_hide_5 (by decide) (by omega) (fun hc160 => ?_) (fun hc160 => ?_)
  · skip
    clear hq159
    refine j_iconst hX dX11_hide_41 ?_
    exact hret _ _ _ _ dX11_hide_42 rfl (by omega) ⟨hI, hF, hLP⟩
  · skip
    have hi161 := hq159 (by omega)
    clear hq159
    refine j_aload_n hX dX11_hide_8 rfl 0 rfl ?_
    refine j_iload_n hX dX11_hide_9 rfl 2 rfl ?_
    refine j_callVI hX lk_X11_429 (c_X11_isFact _ _ _ _ _ _ _ _ (by omega) hI (by omega) hbk) (by omega) hce rfl rfl (by omega) (by omega) kc_210 rfl rfl (Nat.le_of_ble_eq_true rfl) dX11_hide_10 (fun z162 M163 hz165 hp164 => ?_)
    obtain ⟨hE166, hb167, hq168⟩ := hp164
    replace hE166 := hE166.symm
    subst hE166
    refine j_if_eq (tgt := 41) hX dX11_hide_13 (by decide) (by omega) (fun hc169 => ?_) (fun hc169 => ?_)
    · skip
      clear hq168
      refine j_iconst hX dX11_hide_41 ?_
      exact hret _ _ _ _ dX11_hide_42 rfl (by omega) ⟨hI, hF, hLP⟩
    · skip
      have hi170 := hq168 (by omega)
      clear hq168
      refine j_iload_n hX dX11_hide_16 rfl 3 rfl ?_
      refine j_iconst hX dX11_hide_17 ?_
      refine j_iconst hX dX11_hide_18 ?_
      refine j_callSI hX lk_X11_388 (c_X11_isIn _ _ _ _ _ _ _ _ _ (by omega) (by omega) (by omega)) (by omega) hce rfl rfl (Nat.le_of_ble_eq_true rfl) dX11_hide_19 (fun z171 M172 hz174 hp173 => ?_)
      obtain ⟨hE175, hb176, hq177, hq178⟩ := hp173
      replace hE175 := hE175.symm
      subst hE175
      refine j_if_eq (tgt := 41) hX dX11_hide_22 (by decide) (by omega) (fun hc179 => ?_) (fun hc179 => ?_)
      · skip
        clear hq177
        have hi180 := hq178 (by omega)
        clear hq178
        refine j_iconst hX dX11_hide_41 ?_
        exact hret _ _ _ _ dX11_hide_42 rfl (by omega) ⟨hI, hF, hLP⟩
      · skip
        have hi181 := hq177 (by omega)
        clear hq177
        clear hq178
        refine j_aload_n hX dX11_hide_25 rfl 0 rfl ?_
        refine gf_X11_110 hX (by omega) (by omega) kc_210 (fc_210_47 hI) (by decide) dX11_hide_26 ?_
        refine j_bipush hX dX11_hide_29 rfl ?_
        refine j_iload_n hX dX11_hide_31 rfl 1 rfl ?_
        refine j_iadd hX dX11_hide_32 ?_
        refine j_iald hX (by omega) (by omega) kc_242 (by omega) (by omega) (by omega) dX11_hide_33 ?_
        refine j_name hI (rk_242 (by omega) (by omega)) (fun v182 hv183 hl184 hh185 => ?_)
        refine j_iload_n hX dX11_hide_34 rfl 2 rfl ?_
        refine j_callSI hX lk_X11_368 (c_X11_has _ _ _ _ _ _ _ _ (by omega) (by omega)) (by omega) hce rfl rfl (Nat.le_of_ble_eq_true rfl) dX11_hide_35 (fun z186 M187 hz189 hp188 => ?_)
        obtain ⟨hE190, hb191, hq192⟩ := hp188
        replace hE190 := hE190.symm
        subst hE190
        refine j_if_eq (tgt := 43) hX dX11_hide_38 (by decide) (by omega) (fun hc193 => ?_) (fun hc193 => ?_)
        · skip
          refine j_iconst hX dX11_hide_43 ?_
          refine j_istore (lv' := [(4, _), (0, _), (1, _), (2, _), (3, _)]) hX dX11_hide_44 (by rw [hnL]; decide) rfl ?_
          refine j_aload_n hX dX11_hide_46 rfl 1 rfl ?_
          refine j_callVV hX lk_X11_450 (c_X11_keepNow _ _ _ _ _ _ _ _ (by omega) hI hbk hnr hLP) (by omega) hce rfl rfl (by omega) (by omega) kc_210 rfl rfl (Nat.le_of_ble_eq_true rfl) dX11_hide_47 (fun M195 hp196 => ?_)
          obtain ⟨hI199, hG200, hq201⟩ := hp196
          have hV202 := LQ_dp hLP (fun a b h => hG200 a b (by omega))
          have hk203 := kp_fr hG200 (by omega) hbk
          have hk204 := kp_fr hG200 (by omega) hnr
          have hF205 := Fr.trans hF hG200 (fun a b h => by omega)
          refine j_iconst hX dX11_hide_50 ?_
          refine j_istore (lv' := [(5, _), (4, _), (0, _), (1, _), (2, _), (3, _)]) hX dX11_hide_51 (by rw [hnL]; decide) rfl ?_
          refine j_sub [2, 3, 4, 5, 1, 0] rfl ?_
          refine (cp (Int.toNat (2112 + 1))) _ _ _ (by omega) (by omega) hI199 hF205 hk203 hk204 hV202 hq201 (by first | assumption | omega) ?_ ?_
          · omega
          · omega
        · skip
          refine j_iconst hX dX11_hide_41 ?_
          exact hret _ _ _ _ dX11_hide_42 rfl (by omega) ⟨hI, hF, hLP⟩
set_option maxHeartbeats 2000000 in
set_option maxRecDepth 20000 in
theorem c_X11_deaf (l : Launch) (D : va_G) (cy : Nat → ClassId) (B N : Nat) (bk : Int) (nr : Int) (a : Int) (M : MM) (hN : 257 ≤ N) (hI : Iv M) (hpa : I32 a) (hbk : M.1 210 40 = bk) (hnr : M.1 213 bk = nr) (hLP : LQ nr 242 0 M) : CI l D cy B N 4 yX11_deaf cX11_deaf 3 (some .int) [rv B 210, iv a] M (fun z M' => Iv M' ∧ Fr (fun a (_ : Int) => (242 ≤ a ∧ a ≤ 243) ∨ (a = 245)) M M' ∧ (LQ nr 242 0 M')) := by
  refine mk_CI (by decide) (Nat.le_of_ble_eq_true rfl) ?_
  intro X exl exD excy hnL hX hret
  have hce : 0 + 0 ≤ (xR X).cells ∧ 0 + 0 ≤ (xR X).slots := ⟨Nat.zero_le _, Nat.zero_le _⟩
  have hF : Fr (fun a (_ : Int) => (242 ≤ a ∧ a ≤ 243) ∨ (a = 245)) M M := Fr.rf
  have hbk2 : 0 ≤ bk ∧ bk ≤ 1 := by have := hI.at 210 40 ro_210_40; omega
  have hnr2 : 0 ≤ nr ∧ nr ≤ 6 := by have := hI.at 213 bk (ra_213 _); omega
  have cp : ∀ n : Nat, (∀ (x2 : Int), ∀ (Mc : MM), I32 x2 → Iv Mc → Fr (fun a (_ : Int) => (242 ≤ a ∧ a ≤ 243) ∨ (a = 245)) M Mc → Mc.1 210 40 = bk → Mc.1 213 bk = nr → LQ nr 242 0 Mc → LQ nr 245 0 Mc → (0 ≤ x2 ∧ x2 ≤ 240) → 0 ≤ 32 * (240 - x2) + 1 → 32 * (240 - x2) + 1 < (n : Int) → J X B N 0 0 16 [(0, rv B 210), (1, iv a), (2, iv x2)] [] Mc) := by
    intro n
    induction n with
    | zero => exact by intros; exfalso; omega
    | succ n ih =>
      · intro x2 Mc hxx2 hI hF hk_0 hk_1 hV_0 hV_1 h2 hm0 hm1
        refine j_iload_n hX dX11_deaf_16 rfl 2 rfl ?_
        refine j_sipush hX dX11_deaf_17 rfl ?_
        refine j_icmp_ge (tgt := 33) hX dX11_deaf_20 (by decide) (by omega) (by omega) (fun hc1 => ?_) (fun hc1 => ?_)
        · skip
          refine j_iconst hX dX11_deaf_33 ?_
          refine j_aload_n hX dX11_deaf_34 rfl 0 rfl ?_
          refine j_callVI hX lk_X11_385 (c_X11_many _ _ _ _ _ _ _ _ (by omega) hI hk_0 hk_1) (by omega) hce rfl rfl (by omega) (by omega) kc_210 rfl rfl (Nat.le_of_ble_eq_true rfl) dX11_deaf_35 (fun z2 M3 hz5 hp4 => ?_)
          obtain ⟨hE6, hq7⟩ := hp4
          replace hE6 := hE6.symm
          subst hE6
          refine j_ishl hX dX11_deaf_38 (fun z8 hz9 hy10 => ?_)
          refine j_iconst hX dX11_deaf_39 ?_
          refine j_isub hX dX11_deaf_40 ?_
          refine j_aload_n hX dX11_deaf_41 rfl 0 rfl ?_
          refine j_iload_n hX dX11_deaf_42 rfl 1 rfl ?_
          refine j_callVI hX lk_X11_432 (c_X11_knowersOf _ _ _ _ _ _ _ _ _ (by omega) hI (by omega) hk_0 hk_1) (by omega) hce rfl rfl (by omega) (by omega) kc_210 rfl rfl (Nat.le_of_ble_eq_true rfl) dX11_deaf_43 (fun z11 M12 hz14 hp13 => ?_)
          have hE15 := hp13.symm
          subst hE15
          refine j_iconst hX dX11_deaf_46 ?_
          refine j_ixor hX dX11_deaf_47 (fun z16 hz17 hy18 => ?_)
          refine j_iand hX dX11_deaf_48 (fun z19 hz20 hy21 => ?_)
          refine j_istore_n (lv' := [(2, _), (0, _), (1, _)]) hX dX11_deaf_49 rfl (by rw [hnL]; decide) rfl ?_
          refine j_aload_n hX dX11_deaf_50 rfl 1 rfl ?_
          refine j_callVV hX lk_X11_456 (c_X11_bringBack _ _ _ _ _ _ _ _ (by omega) hI hk_0 hk_1 hV_1) (by omega) hce rfl rfl (by omega) (by omega) kc_210 rfl rfl (Nat.le_of_ble_eq_true rfl) dX11_deaf_51 (fun M23 hp24 => ?_)
          obtain ⟨hI27, hG28, hq29⟩ := hp24
          have hV31 := LQ_dp hV_1 (fun a b h => hG28 a b (by omega))
          have hk32 := kp_fr hG28 (by omega) hk_0
          have hk33 := kp_fr hG28 (by omega) hk_1
          have hF34 := Fr.trans hF hG28 (fun a b h => by omega)
          refine j_iload_n hX dX11_deaf_54 rfl 0 rfl ?_
          exact hret _ _ _ _ dX11_deaf_55 rfl (by omega) ⟨hI27, hF34, hq29⟩
        · skip
          refine j_aload_n hX dX11_deaf_23 rfl 0 rfl ?_
          refine j_callVV hX lk_X11_444 (c_X11_goHour _ _ _ _ _ _ _ _ (by omega) hI hk_0 hk_1) (by omega) hce rfl rfl (by omega) (by omega) kc_210 rfl rfl (Nat.le_of_ble_eq_true rfl) dX11_deaf_24 (fun M36 hp37 => ?_)
          obtain ⟨hI40, hG41⟩ := hp37
          have hV42 := LQ_dp hV_0 (fun a b h => hG41 a b (by omega))
          have hV43 := LQ_dp hV_1 (fun a b h => hG41 a b (by omega))
          have hk44 := kp_fr hG41 (by omega) hk_0
          have hk45 := kp_fr hG41 (by omega) hk_1
          have hF46 := Fr.trans hF hG41 (fun a b h => by omega)
          refine j_iinc (lv' := [(2, _), (0, _), (1, _)]) hX dX11_deaf_27 2 rfl (by rw [hnL]; decide) rfl ?_
          refine j_goto (tgt := 16) hX dX11_deaf_30 (by decide) ?_
          refine j_sub [1, 2, 0] rfl ?_
          exact ih _ _ (by omega) hI40 hF46 hk44 hk45 hV42 hV43 (by first | assumption | omega) (by omega) (by omega)
  show J X B N 0 0 0 [(0, rv B 210), (1, iv a)] [] M
  refine j_aload_n hX dX11_deaf_0 rfl 0 rfl ?_
  refine j_iload_n hX dX11_deaf_1 rfl 1 rfl ?_
  refine j_callVI hX lk_X11_429 (c_X11_isFact _ _ _ _ _ _ _ _ (by omega) hI (by omega) hbk) (by omega) hce rfl rfl (by omega) (by omega) kc_210 rfl rfl (Nat.le_of_ble_eq_true rfl) dX11_deaf_2 (fun z47 M48 hz50 hp49 => ?_)
  obtain ⟨hE51, hb52, hq53⟩ := hp49
  replace hE51 := hE51.symm
  subst hE51
  refine j_if_ne (tgt := 10) hX dX11_deaf_5 (by decide) (by omega) (fun hc54 => ?_) (fun hc54 => ?_)
  · skip
    have hi55 := hq53 (by omega)
    clear hq53
    refine j_aload_n hX dX11_deaf_10 rfl 0 rfl ?_
    refine j_callVV hX lk_X11_450 (c_X11_keepNow _ _ _ _ _ _ _ _ (by omega) hI hbk hnr hLP) (by omega) hce rfl rfl (by omega) (by omega) kc_210 rfl rfl (Nat.le_of_ble_eq_true rfl) dX11_deaf_11 (fun M57 hp58 => ?_)
    obtain ⟨hI61, hG62, hq63⟩ := hp58
    have hV64 := LQ_dp hLP (fun a b h => hG62 a b (by omega))
    have hk65 := kp_fr hG62 (by omega) hbk
    have hk66 := kp_fr hG62 (by omega) hnr
    have hF67 := Fr.trans hF hG62 (fun a b h => by omega)
    refine j_iconst hX dX11_deaf_14 ?_
    refine j_istore_n (lv' := [(2, _), (0, _), (1, _)]) hX dX11_deaf_15 rfl (by rw [hnL]; decide) rfl ?_
    refine j_sub [1, 2, 0] rfl ?_
    refine (cp (Int.toNat (7744 + 1))) _ _ (by omega) hI61 hF67 hk65 hk66 hV64 hq63 (by first | assumption | omega) ?_ ?_
    · omega
    · omega
  · skip
    clear hq53
    refine j_iconst hX dX11_deaf_8 ?_
    exact hret _ _ _ _ dX11_deaf_9 rfl (by omega) ⟨hI, hF, hLP⟩
set_option maxHeartbeats 2000000 in
set_option maxRecDepth 20000 in
theorem c_X11_gossip (l : Launch) (D : va_G) (cy : Nat → ClassId) (B N : Nat) (bk : Int) (nr : Int) (a : Int) (M : MM) (hN : 257 ≤ N) (hI : Iv M) (hpa : I32 a) (hbk : M.1 210 40 = bk) (hnr : M.1 213 bk = nr) (hLP : LQ nr 242 0 M) : CI l D cy B N 4 yX11_gossip cX11_gossip 4 (some .int) [rv B 210, iv a] M (fun z M' => Iv M' ∧ Fr (fun a (_ : Int) => (242 ≤ a ∧ a ≤ 243) ∨ (a = 245)) M M' ∧ (LQ nr 242 0 M')) := by
  refine mk_CI (by decide) (Nat.le_of_ble_eq_true rfl) ?_
  intro X exl exD excy hnL hX hret
  have hce : 0 + 0 ≤ (xR X).cells ∧ 0 + 0 ≤ (xR X).slots := ⟨Nat.zero_le _, Nat.zero_le _⟩
  have hF : Fr (fun a (_ : Int) => (242 ≤ a ∧ a ≤ 243) ∨ (a = 245)) M M := Fr.rf
  have hbk2 : 0 ≤ bk ∧ bk ≤ 1 := by have := hI.at 210 40 ro_210_40; omega
  have hnr2 : 0 ≤ nr ∧ nr ≤ 6 := by have := hI.at 213 bk (ra_213 _); omega
  have cp : ∀ n : Nat, (∀ (x2 x3 : Int), ∀ (Mc : MM), I32 x2 → I32 x3 → Iv Mc → Fr (fun a (_ : Int) => (242 ≤ a ∧ a ≤ 243) ∨ (a = 245)) M Mc → Mc.1 210 40 = bk → Mc.1 213 bk = nr → LQ nr 242 0 Mc → LQ nr 245 0 Mc → (0 ≤ x3 ∧ x3 ≤ 240 ∧ a ≤ 240) → 0 ≤ 32 * (240 - x3) + 1 → 32 * (240 - x3) + 1 < (n : Int) → J X B N 0 0 24 [(0, rv B 210), (1, iv a), (2, iv x2), (3, iv x3)] [] Mc) := by
    intro n
    induction n with
    | zero => exact by intros; exfalso; omega
    | succ n ih =>
      · intro x2 x3 Mc hxx2 hxx3 hI hF hk_0 hk_1 hV_0 hV_1 h2 hm0 hm1
        refine j_iload_n hX dX11_gossip_24 rfl 3 rfl ?_
        refine j_iload_n hX dX11_gossip_25 rfl 1 rfl ?_
        refine j_icmp_ge (tgt := 39) hX dX11_gossip_26 (by decide) (by omega) (by omega) (fun hc1 => ?_) (fun hc1 => ?_)
        · skip
          refine j_aload_n hX dX11_gossip_39 rfl 0 rfl ?_
          refine j_callVI hX lk_X11_441 (c_X11_knownToAll _ _ _ _ _ _ _ _ (by omega) hI hk_0 hk_1) (by omega) hce rfl rfl (by omega) (by omega) kc_210 rfl rfl (Nat.le_of_ble_eq_true rfl) dX11_gossip_40 (fun z2 M3 hz5 hp4 => ?_)
          have hE6 := hp4.symm
          subst hE6
          refine j_iload_n hX dX11_gossip_43 rfl 2 rfl ?_
          refine j_isub hX dX11_gossip_44 ?_
          refine j_norm (fun z7 hz8 hy9 => ?_)
          refine j_istore_n (lv' := [(3, _), (0, _), (1, _), (2, _)]) hX dX11_gossip_45 rfl (by rw [hnL]; decide) rfl ?_
          refine j_aload_n hX dX11_gossip_46 rfl 1 rfl ?_
          refine j_callVV hX lk_X11_456 (c_X11_bringBack _ _ _ _ _ _ _ _ (by omega) hI hk_0 hk_1 hV_1) (by omega) hce rfl rfl (by omega) (by omega) kc_210 rfl rfl (Nat.le_of_ble_eq_true rfl) dX11_gossip_47 (fun M11 hp12 => ?_)
          obtain ⟨hI15, hG16, hq17⟩ := hp12
          have hV19 := LQ_dp hV_1 (fun a b h => hG16 a b (by omega))
          have hk20 := kp_fr hG16 (by omega) hk_0
          have hk21 := kp_fr hG16 (by omega) hk_1
          have hF22 := Fr.trans hF hG16 (fun a b h => by omega)
          refine j_iload_n hX dX11_gossip_50 rfl 0 rfl ?_
          exact hret _ _ _ _ dX11_gossip_51 rfl (by omega) ⟨hI15, hF22, hq17⟩
        · skip
          refine j_aload_n hX dX11_gossip_29 rfl 0 rfl ?_
          refine j_callVV hX lk_X11_444 (c_X11_goHour _ _ _ _ _ _ _ _ (by omega) hI hk_0 hk_1) (by omega) hce rfl rfl (by omega) (by omega) kc_210 rfl rfl (Nat.le_of_ble_eq_true rfl) dX11_gossip_30 (fun M24 hp25 => ?_)
          obtain ⟨hI28, hG29⟩ := hp25
          have hV30 := LQ_dp hV_0 (fun a b h => hG29 a b (by omega))
          have hV31 := LQ_dp hV_1 (fun a b h => hG29 a b (by omega))
          have hk32 := kp_fr hG29 (by omega) hk_0
          have hk33 := kp_fr hG29 (by omega) hk_1
          have hF34 := Fr.trans hF hG29 (fun a b h => by omega)
          refine j_iinc (lv' := [(3, _), (0, _), (1, _), (2, _)]) hX dX11_gossip_33 3 rfl (by rw [hnL]; decide) rfl ?_
          refine j_goto (tgt := 24) hX dX11_gossip_36 (by decide) ?_
          refine j_sub [1, 2, 3, 0] rfl ?_
          exact ih _ _ _ (by omega) (by omega) hI28 hF34 hk32 hk33 hV30 hV31 (by first | assumption | omega) (by omega) (by omega)
  show J X B N 0 0 0 [(0, rv B 210), (1, iv a)] [] M
  refine j_iload_n hX dX11_gossip_0 rfl 1 rfl ?_
  refine j_iconst hX dX11_gossip_1 ?_
  refine j_sipush hX dX11_gossip_2 rfl ?_
  refine j_callSI hX lk_X11_388 (c_X11_isIn _ _ _ _ _ _ _ _ _ (by omega) (by omega) (by omega)) (by omega) hce rfl rfl (Nat.le_of_ble_eq_true rfl) dX11_gossip_5 (fun z35 M36 hz38 hp37 => ?_)
  obtain ⟨hE39, hb40, hq41, hq42⟩ := hp37
  replace hE39 := hE39.symm
  subst hE39
  refine j_if_ne (tgt := 13) hX dX11_gossip_8 (by decide) (by omega) (fun hc43 => ?_) (fun hc43 => ?_)
  · skip
    have hi44 := hq41 (by omega)
    clear hq41
    clear hq42
    refine j_aload_n hX dX11_gossip_13 rfl 0 rfl ?_
    refine j_callVV hX lk_X11_450 (c_X11_keepNow _ _ _ _ _ _ _ _ (by omega) hI hbk hnr hLP) (by omega) hce rfl rfl (by omega) (by omega) kc_210 rfl rfl (Nat.le_of_ble_eq_true rfl) dX11_gossip_14 (fun M46 hp47 => ?_)
    obtain ⟨hI50, hG51, hq52⟩ := hp47
    have hV53 := LQ_dp hLP (fun a b h => hG51 a b (by omega))
    have hk54 := kp_fr hG51 (by omega) hbk
    have hk55 := kp_fr hG51 (by omega) hnr
    have hF56 := Fr.trans hF hG51 (fun a b h => by omega)
    refine j_aload_n hX dX11_gossip_17 rfl 0 rfl ?_
    refine j_callVI hX lk_X11_441 (c_X11_knownToAll _ _ _ _ _ _ _ _ (by omega) hI50 hk54 hk55) (by omega) hce rfl rfl (by omega) (by omega) kc_210 rfl rfl (Nat.le_of_ble_eq_true rfl) dX11_gossip_18 (fun z57 M58 hz60 hp59 => ?_)
    have hE61 := hp59.symm
    subst hE61
    refine j_istore_n (lv' := [(2, _), (0, _), (1, _)]) hX dX11_gossip_21 rfl (by rw [hnL]; decide) rfl ?_
    refine j_iconst hX dX11_gossip_22 ?_
    refine j_istore_n (lv' := [(3, _), (2, _), (0, _), (1, _)]) hX dX11_gossip_23 rfl (by rw [hnL]; decide) rfl ?_
    refine j_sub [2, 3, 1, 0] rfl ?_
    refine (cp (Int.toNat (7744 + 1))) _ _ _ (by omega) (by omega) hI50 hF56 hk54 hk55 hV53 hq52 (by first | assumption | omega) ?_ ?_
    · omega
    · omega
  · skip
    clear hq41
    have hi62 := hq42 (by omega)
    clear hq42
    refine j_iconst hX dX11_gossip_11 ?_
    exact hret _ _ _ _ dX11_gossip_12 rfl (by omega) ⟨hI, hF, hLP⟩
set_option maxHeartbeats 2000000 in
set_option maxRecDepth 20000 in
theorem c_X11_word (l : Launch) (D : va_G) (cy : Nat → ClassId) (B N : Nat) (bk : Int) (nr : Int) (a : Int) (b : Int) (M : MM) (hN : 257 ≤ N) (hI : Iv M) (hpa : I32 a) (hpb : I32 b) (hbk : M.1 210 40 = bk) (hnr : M.1 213 bk = nr) (hLP : LQ nr 242 0 M) : CI l D cy B N 3 yX11_word cX11_word 5 (some .int) [rv B 210, iv a, iv b] M (fun z M' => Iv M' ∧ Fr (fun a b => (a = 210 ∧ 54 ≤ b ∧ b ≤ 54) ∨ (a = 246)) M M') := by
  refine mk_CI (by decide) (Nat.le_of_ble_eq_true rfl) ?_
  intro X exl exD excy hnL hX hret
  have hce : 0 + 0 ≤ (xR X).cells ∧ 0 + 0 ≤ (xR X).slots := ⟨Nat.zero_le _, Nat.zero_le _⟩
  have hF : Fr (fun a b => (a = 210 ∧ 54 ≤ b ∧ b ≤ 54) ∨ (a = 246)) M M := Fr.rf
  have hbk2 : 0 ≤ bk ∧ bk ≤ 1 := by have := hI.at 210 40 ro_210_40; omega
  have hnr2 : 0 ≤ nr ∧ nr ≤ 6 := by have := hI.at 213 bk (ra_213 _); omega
  have cp : ∀ n : Nat, (∀ (x3 x4 : Int), ∀ (Mc : MM), I32 x3 → I32 x4 → Iv Mc → Fr (fun a b => (a = 210 ∧ 54 ≤ b ∧ b ≤ 54) ∨ (a = 246)) M Mc → Mc.1 210 40 = bk → Mc.1 213 bk = nr → LQ nr 242 0 Mc → (0 ≤ x3 ∧ x3 < nr ∧ 0 ≤ x4 ∧ x4 ≤ nr) → 0 ≤ 32 * (6 - x4) + 1 → 32 * (6 - x4) + 1 < (n : Int) → J X B N 0 0 35 [(0, rv B 210), (1, iv a), (2, iv b), (3, iv x3), (4, iv x4)] [] Mc) := by
    intro n
    induction n with
    | zero => exact by intros; exfalso; omega
    | succ n ih =>
      · intro x3 x4 Mc hxx3 hxx4 hI hF hk_0 hk_1 hV_0 h2 hm0 hm1
        refine j_iload_n hX dX11_word_35 rfl 3 rfl ?_
        refine j_iload_n hX dX11_word_36 rfl 2 rfl ?_
        refine j_icmp_eq (tgt := 85) hX dX11_word_37 (by decide) (by omega) (by omega) (fun hc1 => ?_) (fun hc1 => ?_)
        · skip
          refine j_aload_n hX dX11_word_85 rfl 0 rfl ?_
          refine j_iload hX dX11_word_86 4 rfl ?_
          refine j_iconst hX dX11_word_88 ?_
          refine j_iadd hX dX11_word_89 ?_
          refine pf_X11_404 hX (by omega) (by omega) kc_210 (by omega) dX11_word_90 ?_
          refine j_up hI ro_210_54 (by omega) (by omega) (Or.inl (by omega)) (fun M2 w3 hw4 hM5 hI6 hf7 => ?_)
          have hV8 := LQ_dp (M' := M2) hV_0 (fun a b h => by rw [hM5]; exact up_ne (by omega))
          have hk9 := kp_up hM5 (fun h => absurd h.2 (by decide)) hk_0
          have hk10 := kp_up hM5 (fun h => absurd h.1 (by decide)) hk_1
          have hF11 := Fr.put hF hM5 (by omega)
          refine j_iload hX dX11_word_93 4 rfl ?_
          exact hret _ _ _ _ dX11_word_95 rfl (by omega) ⟨hI6, hF11⟩
        · skip
          refine j_aload_n hX dX11_word_40 rfl 0 rfl ?_
          refine gf_X11_110 hX (by omega) (by omega) kc_210 (fc_210_47 hI) (by decide) dX11_word_41 ?_
          refine j_bipush hX dX11_word_44 rfl ?_
          refine j_iald hX (by omega) (by omega) kc_242 (by omega) (by omega) (by omega) dX11_word_46 ?_
          refine j_name hI ro_242_6 (fun v12 hv13 hl14 hh15 => ?_)
          have hk16 := hv13.symm
          refine j_iload_n hX dX11_word_47 rfl 3 rfl ?_
          refine j_callSI hX lk_X11_368 (c_X11_has _ _ _ _ _ _ _ _ (by omega) (by omega)) (by omega) hce rfl rfl (Nat.le_of_ble_eq_true rfl) dX11_word_48 (fun z17 M18 hz20 hp19 => ?_)
          obtain ⟨hE21, hb22, hq23⟩ := hp19
          replace hE21 := hE21.symm
          subst hE21
          refine j_if_ne (tgt := 63) hX dX11_word_51 (by decide) (by omega) (fun hc24 => ?_) (fun hc24 => ?_)
          · skip
            refine j_iconst hX dX11_word_63 ?_
            exact hret _ _ _ _ dX11_word_64 rfl (by omega) ⟨hI, hF⟩
          · skip
            refine j_iload hX dX11_word_54 4 rfl ?_
            refine j_aload_n hX dX11_word_56 rfl 0 rfl ?_
            refine j_callVI hX lk_X11_385 (c_X11_many _ _ _ _ _ _ _ _ (by omega) hI hk_0 hk_1) (by omega) hce rfl rfl (by omega) (by omega) kc_210 rfl rfl (Nat.le_of_ble_eq_true rfl) dX11_word_57 (fun z25 M26 hz28 hp27 => ?_)
            obtain ⟨hE29, hq30⟩ := hp27
            replace hE29 := hE29.symm
            subst hE29
            refine j_icmp_ne (tgt := 65) hX dX11_word_60 (by decide) (by omega) (by omega) (fun hc31 => ?_) (fun hc31 => ?_)
            · skip
              refine j_aload_n hX dX11_word_65 rfl 0 rfl ?_
              refine j_iload_n hX dX11_word_66 rfl 3 rfl ?_
              refine j_callVI hX lk_X11_423 (c_X11_shownBy _ _ _ _ _ _ _ _ _ (by omega) hI (by omega) hk_0 hk_1 hV_0 (by first | assumption | omega)) (by omega) hce rfl rfl (by omega) (by omega) kc_210 rfl rfl (Nat.le_of_ble_eq_true rfl) dX11_word_67 (fun z32 M33 hz35 hp34 => ?_)
              obtain ⟨hE36, hq37⟩ := hp34
              replace hE36 := hE36.symm
              subst hE36
              refine j_istore_n (lv' := [(3, _), (0, _), (1, _), (2, _), (4, _)]) hX dX11_word_70 rfl (by rw [hnL]; decide) rfl ?_
              refine j_iinc (lv' := [(4, _), (3, _), (0, _), (1, _), (2, _)]) hX dX11_word_71 4 rfl (by rw [hnL]; decide) rfl ?_
              refine j_aload_n hX dX11_word_74 rfl 2 rfl ?_
              refine gf_X11_122 hX (by omega) (by omega) kc_210 (fc_210_53 hI) (by decide) dX11_word_75 ?_
              refine j_iload hX dX11_word_78 0 rfl ?_
              refine j_iload_n hX dX11_word_80 rfl 1 rfl ?_
              refine j_iast hX (by omega) (by omega) kc_246 (by omega) (by omega) (by omega) (by omega) dX11_word_81 ?_
              refine j_up hI (ra_246 _) (by omega) (by omega) (Or.inl (by omega)) (fun M38 w39 hw40 hM41 hI42 hf43 => ?_)
              have hV44 := LQ_dp (M' := M38) hV_0 (fun a b h => by rw [hM41]; exact up_ne (by omega))
              have hk45 := kp_up hM41 (fun h => absurd h.1 (by decide)) hk_0
              have hk46 := kp_up hM41 (fun h => absurd h.1 (by decide)) hk_1
              have hk47 := kp_up hM41 (fun h => absurd h.1 (by decide)) hk16
              clear hk16
              have hF48 := Fr.put hF hM41 (by omega)
              refine j_goto (tgt := 35) hX dX11_word_82 (by decide) ?_
              refine j_sub [2, 3, 4, 1, 0] rfl ?_
              exact ih _ _ _ (by omega) (by omega) hI42 hF48 hk45 hk46 hV44 (by first | assumption | omega) (by omega) (by omega)
            · skip
              refine j_iconst hX dX11_word_63 ?_
              exact hret _ _ _ _ dX11_word_64 rfl (by omega) ⟨hI, hF⟩
  show J X B N 0 0 0 [(0, rv B 210), (1, iv a), (2, iv b)] [] M
  refine j_aload_n hX dX11_word_0 rfl 0 rfl ?_
  refine j_iconst hX dX11_word_1 ?_
  refine pf_X11_404 hX (by omega) (by omega) kc_210 (by omega) dX11_word_2 ?_
  refine j_up hI ro_210_54 (by omega) (by omega) (Or.inl (by omega)) (fun M49 w50 hw51 hM52 hI53 hf54 => ?_)
  have hV55 := LQ_dp (M' := M49) hLP (fun a b h => by rw [hM52]; exact up_ne (by omega))
  have hk56 := kp_up hM52 (fun h => absurd h.2 (by decide)) hbk
  have hk57 := kp_up hM52 (fun h => absurd h.1 (by decide)) hnr
  have hF58 := Fr.put hF hM52 (by omega)
  refine j_aload_n hX dX11_word_5 rfl 0 rfl ?_
  refine j_iload_n hX dX11_word_6 rfl 1 rfl ?_
  refine j_callVI hX lk_X11_419 (c_X11_isRoom _ _ _ _ _ _ _ _ _ (by omega) hI53 (by omega) hk56 hk57) (by omega) hce rfl rfl (by omega) (by omega) kc_210 rfl rfl (Nat.le_of_ble_eq_true rfl) dX11_word_7 (fun z59 M60 hz62 hp61 => ?_)
  obtain ⟨hE63, hb64, hq65⟩ := hp61
  replace hE63 := hE63.symm
  subst hE63
  refine j_if_eq (tgt := 21) hX dX11_word_10 (by decide) (by omega) (fun hc66 => ?_) (fun hc66 => ?_)
  · skip
    clear hq65
    refine j_iconst hX dX11_word_21 ?_
    exact hret _ _ _ _ dX11_word_22 rfl (by omega) ⟨hI53, hF58⟩
  · skip
    have hi67 := hq65 (by omega)
    clear hq65
    refine j_aload_n hX dX11_word_13 rfl 0 rfl ?_
    refine j_iload_n hX dX11_word_14 rfl 2 rfl ?_
    refine j_callVI hX lk_X11_419 (c_X11_isRoom _ _ _ _ _ _ _ _ _ (by omega) hI53 (by omega) hk56 hk57) (by omega) hce rfl rfl (by omega) (by omega) kc_210 rfl rfl (Nat.le_of_ble_eq_true rfl) dX11_word_15 (fun z68 M69 hz71 hp70 => ?_)
    obtain ⟨hE72, hb73, hq74⟩ := hp70
    replace hE72 := hE72.symm
    subst hE72
    refine j_if_ne (tgt := 23) hX dX11_word_18 (by decide) (by omega) (fun hc75 => ?_) (fun hc75 => ?_)
    · skip
      have hi76 := hq74 (by omega)
      clear hq74
      refine j_iload_n hX dX11_word_23 rfl 1 rfl ?_
      refine j_istore_n (lv' := [(3, _), (0, _), (1, _), (2, _)]) hX dX11_word_24 rfl (by rw [hnL]; decide) rfl ?_
      refine j_iconst hX dX11_word_25 ?_
      refine j_istore (lv' := [(4, _), (3, _), (0, _), (1, _), (2, _)]) hX dX11_word_26 (by rw [hnL]; decide) rfl ?_
      refine j_aload_n hX dX11_word_28 rfl 2 rfl ?_
      refine gf_X11_122 hX (by omega) (by omega) kc_210 (fc_210_53 hI53) (by decide) dX11_word_29 ?_
      refine j_iconst hX dX11_word_32 ?_
      refine j_iload_n hX dX11_word_33 rfl 3 rfl ?_
      refine j_iast hX (by omega) (by omega) kc_246 (by omega) (by omega) (by omega) (by omega) dX11_word_34 ?_
      refine j_up hI53 (ra_246 _) (by omega) (by omega) (Or.inl (by omega)) (fun M77 w78 hw79 hM80 hI81 hf82 => ?_)
      have hV83 := LQ_dp (M' := M77) hV55 (fun a b h => by rw [hM80]; exact up_ne (by omega))
      have hk84 := kp_up hM80 (fun h => absurd h.1 (by decide)) hk56
      have hk85 := kp_up hM80 (fun h => absurd h.1 (by decide)) hk57
      have hk86 := kp_up hM80 (fun h => absurd h.1 (by decide)) hf54
      clear hk56 hk57 hf54
      have hF87 := Fr.put hF58 hM80 (by omega)
      refine j_sub [2, 3, 4, 1, 0] rfl ?_
      refine (cp (Int.toNat (256 + 1))) _ _ _ (by omega) (by omega) hI81 hF87 hk84 hk85 hV83 (by first | assumption | omega) ?_ ?_
      · omega
      · omega
    · skip
      clear hq74
      refine j_iconst hX dX11_word_21 ?_
      exact hret _ _ _ _ dX11_word_22 rfl (by omega) ⟨hI53, hF58⟩
set_option maxHeartbeats 2000000 in
set_option maxRecDepth 20000 in
theorem c_X11_reach (l : Launch) (D : va_G) (cy : Nat → ClassId) (B N : Nat) (bk : Int) (nr : Int) (a : Int) (M : MM) (hN : 257 ≤ N) (hI : Iv M) (hpa : I32 a) (hbk : M.1 210 40 = bk) (hnr : M.1 213 bk = nr) (hLP : LQ nr 242 0 M) : CI l D cy B N 3 yX11_reach cX11_reach 5 (some .int) [rv B 210, iv a] M (fun z M' => M' = M) := by
  refine mk_CI (by decide) (Nat.le_of_ble_eq_true rfl) ?_
  intro X exl exD excy hnL hX hret
  have hce : 0 + 0 ≤ (xR X).cells ∧ 0 + 0 ≤ (xR X).slots := ⟨Nat.zero_le _, Nat.zero_le _⟩
  have hbk2 : 0 ≤ bk ∧ bk ≤ 1 := by have := hI.at 210 40 ro_210_40; omega
  have hnr2 : 0 ≤ nr ∧ nr ≤ 6 := by have := hI.at 213 bk (ra_213 _); omega
  have cp : ∀ n : Nat, (∀ (x2 x3 x4 : Int), I32 x2 → I32 x3 → I32 x4 → (0 ≤ x3 ∧ x3 < nr ∧ 0 ≤ x4 ∧ x4 ≤ 6) → 0 ≤ 32 * (6 - x4) + 1 → 32 * (6 - x4) + 1 < (n : Int) → J X B N 0 0 19 [(0, rv B 210), (1, iv a), (2, iv x2), (3, iv x3), (4, iv x4)] [] M) := by
    intro n
    induction n with
    | zero => exact by intros; exfalso; omega
    | succ n ih =>
      · intro x2 x3 x4 hxx2 hxx3 hxx4 h2 hm0 hm1
        refine j_iload hX dX11_reach_19 4 rfl ?_
        refine j_aload_n hX dX11_reach_21 rfl 0 rfl ?_
        refine j_callVI hX lk_X11_385 (c_X11_many _ _ _ _ _ _ _ _ (by omega) hI hbk hnr) (by omega) hce rfl rfl (by omega) (by omega) kc_210 rfl rfl (Nat.le_of_ble_eq_true rfl) dX11_reach_22 (fun z1 M2 hz4 hp3 => ?_)
        obtain ⟨hE5, hq6⟩ := hp3
        replace hE5 := hE5.symm
        subst hE5
        refine j_icmp_ge (tgt := 60) hX dX11_reach_25 (by decide) (by omega) (by omega) (fun hc7 => ?_) (fun hc7 => ?_)
        · skip
          refine j_iload_n hX dX11_reach_60 rfl 2 rfl ?_
          exact hret _ _ _ _ dX11_reach_61 rfl (by omega) rfl
        · skip
          refine j_aload_n hX dX11_reach_28 rfl 0 rfl ?_
          refine gf_X11_110 hX (by omega) (by omega) kc_210 (fc_210_47 hI) (by decide) dX11_reach_29 ?_
          refine j_bipush hX dX11_reach_32 rfl ?_
          refine j_iald hX (by omega) (by omega) kc_242 (by omega) (by omega) (by omega) dX11_reach_34 ?_
          refine j_name hI ro_242_6 (fun v8 hv9 hl10 hh11 => ?_)
          have hk12 := hv9.symm
          refine j_iload_n hX dX11_reach_35 rfl 3 rfl ?_
          refine j_callSI hX lk_X11_368 (c_X11_has _ _ _ _ _ _ _ _ (by omega) (by omega)) (by omega) hce rfl rfl (Nat.le_of_ble_eq_true rfl) dX11_reach_36 (fun z13 M14 hz16 hp15 => ?_)
          obtain ⟨hE17, hb18, hq19⟩ := hp15
          replace hE17 := hE17.symm
          subst hE17
          refine j_if_ne (tgt := 60) hX dX11_reach_39 (by decide) (by omega) (fun hc20 => ?_) (fun hc20 => ?_)
          · skip
            refine j_iload_n hX dX11_reach_60 rfl 2 rfl ?_
            exact hret _ _ _ _ dX11_reach_61 rfl (by omega) rfl
          · skip
            refine j_aload_n hX dX11_reach_42 rfl 0 rfl ?_
            refine j_iload_n hX dX11_reach_43 rfl 3 rfl ?_
            refine j_callVI hX lk_X11_423 (c_X11_shownBy _ _ _ _ _ _ _ _ _ (by omega) hI (by omega) hbk hnr hLP (by first | assumption | omega)) (by omega) hce rfl rfl (by omega) (by omega) kc_210 rfl rfl (Nat.le_of_ble_eq_true rfl) dX11_reach_44 (fun z21 M22 hz24 hp23 => ?_)
            obtain ⟨hE25, hq26⟩ := hp23
            replace hE25 := hE25.symm
            subst hE25
            refine j_istore_n (lv' := [(3, _), (0, _), (1, _), (2, _), (4, _)]) hX dX11_reach_47 rfl (by rw [hnL]; decide) rfl ?_
            refine j_iload_n hX dX11_reach_48 rfl 3 rfl ?_
            refine j_iconst hX dX11_reach_49 ?_
            refine j_iload_n hX dX11_reach_50 rfl 0 rfl ?_
            refine j_ishl hX dX11_reach_51 (fun z27 hz28 hy29 => ?_)
            refine j_ior hX dX11_reach_52 (fun z30 hz31 hy32 => ?_)
            refine j_istore_n (lv' := [(2, _), (3, _), (0, _), (1, _), (4, _)]) hX dX11_reach_53 rfl (by rw [hnL]; decide) rfl ?_
            refine j_iinc (lv' := [(4, _), (2, _), (3, _), (0, _), (1, _)]) hX dX11_reach_54 4 rfl (by rw [hnL]; decide) rfl ?_
            refine j_goto (tgt := 19) hX dX11_reach_57 (by decide) ?_
            refine j_sub [3, 4, 1, 2, 0] rfl ?_
            exact ih _ _ _ (by omega) (by omega) (by omega) (by first | assumption | omega) (by omega) (by omega)
  show J X B N 0 0 0 [(0, rv B 210), (1, iv a)] [] M
  refine j_aload_n hX dX11_reach_0 rfl 0 rfl ?_
  refine j_iload_n hX dX11_reach_1 rfl 1 rfl ?_
  refine j_callVI hX lk_X11_419 (c_X11_isRoom _ _ _ _ _ _ _ _ _ (by omega) hI (by omega) hbk hnr) (by omega) hce rfl rfl (by omega) (by omega) kc_210 rfl rfl (Nat.le_of_ble_eq_true rfl) dX11_reach_2 (fun z33 M34 hz36 hp35 => ?_)
  obtain ⟨hE37, hb38, hq39⟩ := hp35
  replace hE37 := hE37.symm
  subst hE37
  refine j_if_ne (tgt := 10) hX dX11_reach_5 (by decide) (by omega) (fun hc40 => ?_) (fun hc40 => ?_)
  · skip
    have hi41 := hq39 (by omega)
    clear hq39
    refine j_iconst hX dX11_reach_10 ?_
    refine j_iload_n hX dX11_reach_11 rfl 1 rfl ?_
    refine j_ishl hX dX11_reach_12 (fun z42 hz43 hy44 => ?_)
    refine j_istore_n (lv' := [(2, _), (0, _), (1, _)]) hX dX11_reach_13 rfl (by rw [hnL]; decide) rfl ?_
    refine j_iload_n hX dX11_reach_14 rfl 2 rfl ?_
    refine j_istore_n (lv' := [(3, _), (2, _), (0, _), (1, _)]) hX dX11_reach_15 rfl (by rw [hnL]; decide) rfl ?_
    refine j_iconst hX dX11_reach_16 ?_
    refine j_istore (lv' := [(4, _), (3, _), (2, _), (0, _), (1, _)]) hX dX11_reach_17 (by rw [hnL]; decide) rfl ?_
    refine j_sub [3, 4, 2, 1, 0] rfl ?_
    refine (cp (Int.toNat (256 + 1))) _ _ _ (by omega) (by omega) (by omega) (by first | assumption | omega) ?_ ?_
    · omega
    · omega
  · skip
    clear hq39
    refine j_iconst hX dX11_reach_8 ?_
    exact hret _ _ _ _ dX11_reach_9 rfl (by omega) rfl
