theorem dX11_asked_0 : decode cX11_asked 0 = .ok (.aload_n 0, 1) := by decide +kernel
theorem dX11_asked_1 : decode cX11_asked 1 = .ok (.getfield 110, 3) := by decide +kernel
theorem dX11_asked_4 : decode cX11_asked 4 = .ok (.iconst 0, 1) := by decide +kernel
theorem dX11_asked_5 : decode cX11_asked 5 = .ok (.aload_n 0, 1) := by decide +kernel
theorem dX11_asked_6 : decode cX11_asked 6 = .ok (.getfield 365, 3) := by decide +kernel
theorem dX11_asked_9 : decode cX11_asked 9 = .ok (.iadd, 1) := by decide +kernel
theorem dX11_asked_10 : decode cX11_asked 10 = .ok (.iaload, 1) := by decide +kernel
theorem dX11_asked_11 : decode cX11_asked 11 = .ok (.istore_n 3, 1) := by decide +kernel
theorem dX11_asked_12 : decode cX11_asked 12 = .ok (.iload_n 1, 1) := by decide +kernel
theorem dX11_asked_13 : decode cX11_asked 13 = .ok (.tableswitch 181 100 119 #[159, 181, 181, 181, 181, 167, 95, 133, 181, 181, 181, 181, 181, 181, 181, 110, 181, 181, 181, 149], 95) := by decide +kernel
theorem dX11_asked_108 : decode cX11_asked 108 = .ok (.aload_n 0, 1) := by decide +kernel
theorem dX11_asked_109 : decode cX11_asked 109 = .ok (.getfield 45, 3) := by decide +kernel
theorem dX11_asked_112 : decode cX11_asked 112 = .ok (.bipush 6, 2) := by decide +kernel
theorem dX11_asked_114 : decode cX11_asked 114 = .ok (.aload_n 0, 1) := by decide +kernel
theorem dX11_asked_115 : decode cX11_asked 115 = .ok (.getfield 279, 3) := by decide +kernel
theorem dX11_asked_118 : decode cX11_asked 118 = .ok (.imul, 1) := by decide +kernel
theorem dX11_asked_119 : decode cX11_asked 119 = .ok (.iload_n 3, 1) := by decide +kernel
theorem dX11_asked_120 : decode cX11_asked 120 = .ok (.iadd, 1) := by decide +kernel
theorem dX11_asked_121 : decode cX11_asked 121 = .ok (.iaload, 1) := by decide +kernel
theorem dX11_asked_122 : decode cX11_asked 122 = .ok (.ireturn, 1) := by decide +kernel
theorem dX11_asked_123 : decode cX11_asked 123 = .ok (.aload_n 0, 1) := by decide +kernel
theorem dX11_asked_124 : decode cX11_asked 124 = .ok (.getfield 110, 3) := by decide +kernel
theorem dX11_asked_127 : decode cX11_asked 127 = .ok (.bipush 6, 2) := by decide +kernel
theorem dX11_asked_129 : decode cX11_asked 129 = .ok (.iaload, 1) := by decide +kernel
theorem dX11_asked_130 : decode cX11_asked 130 = .ok (.aload_n 0, 1) := by decide +kernel
theorem dX11_asked_131 : decode cX11_asked 131 = .ok (.getfield 365, 3) := by decide +kernel
theorem dX11_asked_134 : decode cX11_asked 134 = .ok (.invokestatic 368, 3) := by decide +kernel
theorem dX11_asked_137 : decode cX11_asked 137 = .ok (.ifCond .eq 7, 3) := by decide +kernel
theorem dX11_asked_140 : decode cX11_asked 140 = .ok (.iconst 0, 1) := by decide +kernel
theorem dX11_asked_141 : decode cX11_asked 141 = .ok (.goto 4, 3) := by decide +kernel
theorem dX11_asked_144 : decode cX11_asked 144 = .ok (.iconst 1, 1) := by decide +kernel
theorem dX11_asked_145 : decode cX11_asked 145 = .ok (.ireturn, 1) := by decide +kernel
theorem dX11_asked_146 : decode cX11_asked 146 = .ok (.aload_n 0, 1) := by decide +kernel
theorem dX11_asked_147 : decode cX11_asked 147 = .ok (.getfield 110, 3) := by decide +kernel
theorem dX11_asked_150 : decode cX11_asked 150 = .ok (.bipush 7, 2) := by decide +kernel
theorem dX11_asked_152 : decode cX11_asked 152 = .ok (.aload_n 0, 1) := by decide +kernel
theorem dX11_asked_153 : decode cX11_asked 153 = .ok (.getfield 365, 3) := by decide +kernel
theorem dX11_asked_156 : decode cX11_asked 156 = .ok (.iadd, 1) := by decide +kernel
theorem dX11_asked_157 : decode cX11_asked 157 = .ok (.iaload, 1) := by decide +kernel
theorem dX11_asked_158 : decode cX11_asked 158 = .ok (.invokestatic 372, 3) := by decide +kernel
theorem dX11_asked_161 : decode cX11_asked 161 = .ok (.ireturn, 1) := by decide +kernel
theorem dX11_asked_162 : decode cX11_asked 162 = .ok (.aload_n 0, 1) := by decide +kernel
theorem dX11_asked_163 : decode cX11_asked 163 = .ok (.aload_n 0, 1) := by decide +kernel
theorem dX11_asked_164 : decode cX11_asked 164 = .ok (.getfield 365, 3) := by decide +kernel
theorem dX11_asked_167 : decode cX11_asked 167 = .ok (.iload_n 3, 1) := by decide +kernel
theorem dX11_asked_168 : decode cX11_asked 168 = .ok (.invokevirtual 375, 3) := by decide +kernel
theorem dX11_asked_171 : decode cX11_asked 171 = .ok (.ireturn, 1) := by decide +kernel
theorem dX11_asked_172 : decode cX11_asked 172 = .ok (.aload_n 0, 1) := by decide +kernel
theorem dX11_asked_173 : decode cX11_asked 173 = .ok (.getfield 110, 3) := by decide +kernel
theorem dX11_asked_176 : decode cX11_asked 176 = .ok (.bipush 14, 2) := by decide +kernel
theorem dX11_asked_178 : decode cX11_asked 178 = .ok (.iaload, 1) := by decide +kernel
theorem dX11_asked_179 : decode cX11_asked 179 = .ok (.ireturn, 1) := by decide +kernel
theorem dX11_asked_180 : decode cX11_asked 180 = .ok (.iload_n 3, 1) := by decide +kernel
theorem dX11_asked_181 : decode cX11_asked 181 = .ok (.aload_n 0, 1) := by decide +kernel
theorem dX11_asked_182 : decode cX11_asked 182 = .ok (.getfield 365, 3) := by decide +kernel
theorem dX11_asked_185 : decode cX11_asked 185 = .ok (.if_icmp .ne 7, 3) := by decide +kernel
theorem dX11_asked_188 : decode cX11_asked 188 = .ok (.iconst 1, 1) := by decide +kernel
theorem dX11_asked_189 : decode cX11_asked 189 = .ok (.goto 4, 3) := by decide +kernel
theorem dX11_asked_192 : decode cX11_asked 192 = .ok (.iconst 0, 1) := by decide +kernel
theorem dX11_asked_193 : decode cX11_asked 193 = .ok (.ireturn, 1) := by decide +kernel
theorem dX11_asked_194 : decode cX11_asked 194 = .ok (.iload_n 2, 1) := by decide +kernel
theorem dX11_asked_195 : decode cX11_asked 195 = .ok (.ireturn, 1) := by decide +kernel
theorem dX11_comes_0 : decode cX11_comes 0 = .ok (.iconst 0, 1) := by decide +kernel
theorem dX11_comes_1 : decode cX11_comes 1 = .ok (.istore_n 1, 1) := by decide +kernel
theorem dX11_comes_2 : decode cX11_comes 2 = .ok (.aload_n 0, 1) := by decide +kernel
theorem dX11_comes_3 : decode cX11_comes 3 = .ok (.getfield 69, 3) := by decide +kernel
theorem dX11_comes_6 : decode cX11_comes 6 = .ok (.aload_n 0, 1) := by decide +kernel
theorem dX11_comes_7 : decode cX11_comes 7 = .ok (.getfield 279, 3) := by decide +kernel
theorem dX11_comes_10 : decode cX11_comes 10 = .ok (.iaload, 1) := by decide +kernel
theorem dX11_comes_11 : decode cX11_comes 11 = .ok (.istore_n 2, 1) := by decide +kernel
theorem dX11_comes_12 : decode cX11_comes 12 = .ok (.iload_n 2, 1) := by decide +kernel
theorem dX11_comes_13 : decode cX11_comes 13 = .ok (.aload_n 0, 1) := by decide +kernel
theorem dX11_comes_14 : decode cX11_comes 14 = .ok (.getfield 72, 3) := by decide +kernel
theorem dX11_comes_17 : decode cX11_comes 17 = .ok (.aload_n 0, 1) := by decide +kernel
theorem dX11_comes_18 : decode cX11_comes 18 = .ok (.getfield 279, 3) := by decide +kernel
theorem dX11_comes_21 : decode cX11_comes 21 = .ok (.iaload, 1) := by decide +kernel
theorem dX11_comes_22 : decode cX11_comes 22 = .ok (.if_icmp .ge 108, 3) := by decide +kernel
theorem dX11_comes_25 : decode cX11_comes 25 = .ok (.aload_n 0, 1) := by decide +kernel
theorem dX11_comes_26 : decode cX11_comes 26 = .ok (.getfield 95, 3) := by decide +kernel
theorem dX11_comes_29 : decode cX11_comes 29 = .ok (.iload_n 2, 1) := by decide +kernel
theorem dX11_comes_30 : decode cX11_comes 30 = .ok (.iaload, 1) := by decide +kernel
theorem dX11_comes_31 : decode cX11_comes 31 = .ok (.istore_n 3, 1) := by decide +kernel
theorem dX11_comes_32 : decode cX11_comes 32 = .ok (.iload_n 3, 1) := by decide +kernel
theorem dX11_comes_33 : decode cX11_comes 33 = .ok (.bipush 126, 2) := by decide +kernel
theorem dX11_comes_35 : decode cX11_comes 35 = .ok (.if_icmp .ne 30, 3) := by decide +kernel
theorem dX11_comes_38 : decode cX11_comes 38 = .ok (.aload_n 0, 1) := by decide +kernel
theorem dX11_comes_39 : decode cX11_comes 39 = .ok (.getfield 107, 3) := by decide +kernel
theorem dX11_comes_42 : decode cX11_comes 42 = .ok (.iload_n 1, 1) := by decide +kernel
theorem dX11_comes_43 : decode cX11_comes 43 = .ok (.iconst 1, 1) := by decide +kernel
theorem dX11_comes_44 : decode cX11_comes 44 = .ok (.isub, 1) := by decide +kernel
theorem dX11_comes_45 : decode cX11_comes 45 = .ok (.aload_n 0, 1) := by decide +kernel
theorem dX11_comes_46 : decode cX11_comes 46 = .ok (.getfield 107, 3) := by decide +kernel
theorem dX11_comes_49 : decode cX11_comes 49 = .ok (.iload_n 1, 1) := by decide +kernel
theorem dX11_comes_50 : decode cX11_comes 50 = .ok (.iconst 1, 1) := by decide +kernel
theorem dX11_comes_51 : decode cX11_comes 51 = .ok (.isub, 1) := by decide +kernel
theorem dX11_comes_52 : decode cX11_comes 52 = .ok (.iaload, 1) := by decide +kernel
theorem dX11_comes_53 : decode cX11_comes 53 = .ok (.ifCond .ne 7, 3) := by decide +kernel
theorem dX11_comes_56 : decode cX11_comes 56 = .ok (.iconst 1, 1) := by decide +kernel
theorem dX11_comes_57 : decode cX11_comes 57 = .ok (.goto 4, 3) := by decide +kernel
theorem dX11_comes_60 : decode cX11_comes 60 = .ok (.iconst 0, 1) := by decide +kernel
theorem dX11_comes_61 : decode cX11_comes 61 = .ok (.iastore, 1) := by decide +kernel
theorem dX11_comes_62 : decode cX11_comes 62 = .ok (.goto 62, 3) := by decide +kernel
theorem dX11_comes_65 : decode cX11_comes 65 = .ok (.iload_n 3, 1) := by decide +kernel
theorem dX11_comes_66 : decode cX11_comes 66 = .ok (.invokestatic 224, 3) := by decide +kernel
theorem dX11_comes_69 : decode cX11_comes 69 = .ok (.ifCond .eq 26, 3) := by decide +kernel
theorem dX11_comes_72 : decode cX11_comes 72 = .ok (.aload_n 0, 1) := by decide +kernel
theorem dX11_comes_73 : decode cX11_comes 73 = .ok (.getfield 107, 3) := by decide +kernel
theorem dX11_comes_76 : decode cX11_comes 76 = .ok (.iload_n 1, 1) := by decide +kernel
theorem dX11_comes_77 : decode cX11_comes 77 = .ok (.aload_n 0, 1) := by decide +kernel
theorem dX11_comes_78 : decode cX11_comes 78 = .ok (.iload_n 3, 1) := by decide +kernel
theorem dX11_comes_79 : decode cX11_comes 79 = .ok (.aload_n 0, 1) := by decide +kernel
theorem dX11_comes_80 : decode cX11_comes 80 = .ok (.getfield 98, 3) := by decide +kernel
theorem dX11_comes_83 : decode cX11_comes 83 = .ok (.iload_n 2, 1) := by decide +kernel
theorem dX11_comes_84 : decode cX11_comes 84 = .ok (.iaload, 1) := by decide +kernel
theorem dX11_comes_85 : decode cX11_comes 85 = .ok (.invokevirtual 378, 3) := by decide +kernel
theorem dX11_comes_88 : decode cX11_comes 88 = .ok (.iastore, 1) := by decide +kernel
theorem dX11_comes_89 : decode cX11_comes 89 = .ok (.iinc 1 1, 3) := by decide +kernel
theorem dX11_comes_92 : decode cX11_comes 92 = .ok (.goto 32, 3) := by decide +kernel
theorem dX11_comes_95 : decode cX11_comes 95 = .ok (.iinc 1 (-1), 3) := by decide +kernel
theorem dX11_comes_98 : decode cX11_comes 98 = .ok (.aload_n 0, 1) := by decide +kernel
theorem dX11_comes_99 : decode cX11_comes 99 = .ok (.getfield 107, 3) := by decide +kernel
theorem dX11_comes_102 : decode cX11_comes 102 = .ok (.iload_n 1, 1) := by decide +kernel
theorem dX11_comes_103 : decode cX11_comes 103 = .ok (.iconst 1, 1) := by decide +kernel
theorem dX11_comes_104 : decode cX11_comes 104 = .ok (.isub, 1) := by decide +kernel
theorem dX11_comes_105 : decode cX11_comes 105 = .ok (.iload_n 3, 1) := by decide +kernel
theorem dX11_comes_106 : decode cX11_comes 106 = .ok (.aload_n 0, 1) := by decide +kernel
theorem dX11_comes_107 : decode cX11_comes 107 = .ok (.getfield 107, 3) := by decide +kernel
theorem dX11_comes_110 : decode cX11_comes 110 = .ok (.iload_n 1, 1) := by decide +kernel
theorem dX11_comes_111 : decode cX11_comes 111 = .ok (.iconst 1, 1) := by decide +kernel
theorem dX11_comes_112 : decode cX11_comes 112 = .ok (.isub, 1) := by decide +kernel
theorem dX11_comes_113 : decode cX11_comes 113 = .ok (.iaload, 1) := by decide +kernel
theorem dX11_comes_114 : decode cX11_comes 114 = .ok (.aload_n 0, 1) := by decide +kernel
theorem dX11_comes_115 : decode cX11_comes 115 = .ok (.getfield 107, 3) := by decide +kernel
theorem dX11_comes_118 : decode cX11_comes 118 = .ok (.iload_n 1, 1) := by decide +kernel
theorem dX11_comes_119 : decode cX11_comes 119 = .ok (.iaload, 1) := by decide +kernel
theorem dX11_comes_120 : decode cX11_comes 120 = .ok (.invokestatic 381, 3) := by decide +kernel
theorem dX11_comes_123 : decode cX11_comes 123 = .ok (.iastore, 1) := by decide +kernel
theorem dX11_comes_124 : decode cX11_comes 124 = .ok (.iinc 2 1, 3) := by decide +kernel
theorem dX11_comes_127 : decode cX11_comes 127 = .ok (.goto (-115), 3) := by decide +kernel
theorem dX11_comes_130 : decode cX11_comes 130 = .ok (.aload_n 0, 1) := by decide +kernel
theorem dX11_comes_131 : decode cX11_comes 131 = .ok (.getfield 107, 3) := by decide +kernel
theorem dX11_comes_134 : decode cX11_comes 134 = .ok (.iconst 0, 1) := by decide +kernel
theorem dX11_comes_135 : decode cX11_comes 135 = .ok (.iaload, 1) := by decide +kernel
theorem dX11_comes_136 : decode cX11_comes 136 = .ok (.ireturn, 1) := by decide +kernel
theorem dX11_rentOf_0 : decode cX11_rentOf 0 = .ok (.aload_n 0, 1) := by decide +kernel
theorem dX11_rentOf_1 : decode cX11_rentOf 1 = .ok (.getfield 79, 3) := by decide +kernel
theorem dX11_rentOf_4 : decode cX11_rentOf 4 = .ok (.aload_n 0, 1) := by decide +kernel
theorem dX11_rentOf_5 : decode cX11_rentOf 5 = .ok (.getfield 279, 3) := by decide +kernel
theorem dX11_rentOf_8 : decode cX11_rentOf 8 = .ok (.baload, 1) := by decide +kernel
theorem dX11_rentOf_9 : decode cX11_rentOf 9 = .ok (.ifCond .ne 5, 3) := by decide +kernel
theorem dX11_rentOf_12 : decode cX11_rentOf 12 = .ok (.iconst 0, 1) := by decide +kernel
theorem dX11_rentOf_13 : decode cX11_rentOf 13 = .ok (.ireturn, 1) := by decide +kernel
theorem dX11_rentOf_14 : decode cX11_rentOf 14 = .ok (.aload_n 0, 1) := by decide +kernel
theorem dX11_rentOf_15 : decode cX11_rentOf 15 = .ok (.iload_n 1, 1) := by decide +kernel
theorem dX11_rentOf_16 : decode cX11_rentOf 16 = .ok (.putfield 365, 3) := by decide +kernel
theorem dX11_rentOf_19 : decode cX11_rentOf 19 = .ok (.aload_n 0, 1) := by decide +kernel
theorem dX11_rentOf_20 : decode cX11_rentOf 20 = .ok (.invokevirtual 407, 3) := by decide +kernel
theorem dX11_rentOf_23 : decode cX11_rentOf 23 = .ok (.ireturn, 1) := by decide +kernel
theorem dX11_room_0 : decode cX11_room 0 = .ok (.aload_n 0, 1) := by decide +kernel
theorem dX11_room_1 : decode cX11_room 1 = .ok (.iload_n 1, 1) := by decide +kernel
theorem dX11_room_2 : decode cX11_room 2 = .ok (.invokevirtual 419, 3) := by decide +kernel
theorem dX11_room_5 : decode cX11_room 5 = .ok (.ifCond .ne 7, 3) := by decide +kernel
theorem dX11_room_8 : decode cX11_room 8 = .ok (.ldc_w 422, 3) := by decide +kernel
theorem dX11_room_11 : decode cX11_room 11 = .ok (.ireturn, 1) := by decide +kernel
theorem dX11_room_12 : decode cX11_room 12 = .ok (.iload_n 2, 1) := by decide +kernel
theorem dX11_room_13 : decode cX11_room 13 = .ok (.tableswitch 125 0 7 #[47, 56, 62, 74, 84, 90, 105, 111], 47) := by decide +kernel
theorem dX11_room_60 : decode cX11_room 60 = .ok (.aload_n 0, 1) := by decide +kernel
theorem dX11_room_61 : decode cX11_room 61 = .ok (.getfield 110, 3) := by decide +kernel
theorem dX11_room_64 : decode cX11_room 64 = .ok (.iconst 0, 1) := by decide +kernel
theorem dX11_room_65 : decode cX11_room 65 = .ok (.iload_n 1, 1) := by decide +kernel
theorem dX11_room_66 : decode cX11_room 66 = .ok (.iadd, 1) := by decide +kernel
theorem dX11_room_67 : decode cX11_room 67 = .ok (.iaload, 1) := by decide +kernel
theorem dX11_room_68 : decode cX11_room 68 = .ok (.ireturn, 1) := by decide +kernel
theorem dX11_room_69 : decode cX11_room 69 = .ok (.aload_n 0, 1) := by decide +kernel
theorem dX11_room_70 : decode cX11_room 70 = .ok (.iload_n 1, 1) := by decide +kernel
theorem dX11_room_71 : decode cX11_room 71 = .ok (.invokevirtual 423, 3) := by decide +kernel
theorem dX11_room_74 : decode cX11_room 74 = .ok (.ireturn, 1) := by decide +kernel
theorem dX11_room_75 : decode cX11_room 75 = .ok (.aload_n 0, 1) := by decide +kernel
theorem dX11_room_76 : decode cX11_room 76 = .ok (.getfield 110, 3) := by decide +kernel
theorem dX11_room_79 : decode cX11_room 79 = .ok (.bipush 6, 2) := by decide +kernel
theorem dX11_room_81 : decode cX11_room 81 = .ok (.iaload, 1) := by decide +kernel
theorem dX11_room_82 : decode cX11_room 82 = .ok (.iload_n 1, 1) := by decide +kernel
theorem dX11_room_83 : decode cX11_room 83 = .ok (.ishr, 1) := by decide +kernel
theorem dX11_room_84 : decode cX11_room 84 = .ok (.iconst 1, 1) := by decide +kernel
theorem dX11_room_85 : decode cX11_room 85 = .ok (.iand, 1) := by decide +kernel
theorem dX11_room_86 : decode cX11_room 86 = .ok (.ireturn, 1) := by decide +kernel
theorem dX11_room_87 : decode cX11_room 87 = .ok (.aload_n 0, 1) := by decide +kernel
theorem dX11_room_88 : decode cX11_room 88 = .ok (.getfield 110, 3) := by decide +kernel
theorem dX11_room_91 : decode cX11_room 91 = .ok (.bipush 7, 2) := by decide +kernel
theorem dX11_room_93 : decode cX11_room 93 = .ok (.iload_n 1, 1) := by decide +kernel
theorem dX11_room_94 : decode cX11_room 94 = .ok (.iadd, 1) := by decide +kernel
theorem dX11_room_95 : decode cX11_room 95 = .ok (.iaload, 1) := by decide +kernel
theorem dX11_room_96 : decode cX11_room 96 = .ok (.ireturn, 1) := by decide +kernel
theorem dX11_room_97 : decode cX11_room 97 = .ok (.aload_n 0, 1) := by decide +kernel
theorem dX11_room_98 : decode cX11_room 98 = .ok (.iload_n 1, 1) := by decide +kernel
theorem dX11_room_99 : decode cX11_room 99 = .ok (.invokevirtual 426, 3) := by decide +kernel
theorem dX11_room_102 : decode cX11_room 102 = .ok (.ireturn, 1) := by decide +kernel
theorem dX11_room_103 : decode cX11_room 103 = .ok (.aload_n 0, 1) := by decide +kernel
theorem dX11_room_104 : decode cX11_room 104 = .ok (.getfield 45, 3) := by decide +kernel
theorem dX11_room_107 : decode cX11_room 107 = .ok (.bipush 6, 2) := by decide +kernel
theorem dX11_room_109 : decode cX11_room 109 = .ok (.aload_n 0, 1) := by decide +kernel
theorem dX11_room_110 : decode cX11_room 110 = .ok (.getfield 279, 3) := by decide +kernel
theorem dX11_room_113 : decode cX11_room 113 = .ok (.imul, 1) := by decide +kernel
theorem dX11_room_114 : decode cX11_room 114 = .ok (.iload_n 1, 1) := by decide +kernel
theorem dX11_room_115 : decode cX11_room 115 = .ok (.iadd, 1) := by decide +kernel
theorem dX11_room_116 : decode cX11_room 116 = .ok (.iaload, 1) := by decide +kernel
theorem dX11_room_117 : decode cX11_room 117 = .ok (.ireturn, 1) := by decide +kernel
theorem dX11_room_118 : decode cX11_room 118 = .ok (.aload_n 0, 1) := by decide +kernel
theorem dX11_room_119 : decode cX11_room 119 = .ok (.iload_n 1, 1) := by decide +kernel
theorem dX11_room_120 : decode cX11_room 120 = .ok (.invokevirtual 392, 3) := by decide +kernel
theorem dX11_room_123 : decode cX11_room 123 = .ok (.ireturn, 1) := by decide +kernel
theorem dX11_room_124 : decode cX11_room 124 = .ok (.aload_n 0, 1) := by decide +kernel
theorem dX11_room_125 : decode cX11_room 125 = .ok (.iload_n 1, 1) := by decide +kernel
theorem dX11_room_126 : decode cX11_room 126 = .ok (.invokevirtual 413, 3) := by decide +kernel
theorem dX11_room_129 : decode cX11_room 129 = .ok (.ifCond .eq 7, 3) := by decide +kernel
theorem dX11_room_132 : decode cX11_room 132 = .ok (.iconst 1, 1) := by decide +kernel
theorem dX11_room_133 : decode cX11_room 133 = .ok (.goto 4, 3) := by decide +kernel
theorem dX11_room_136 : decode cX11_room 136 = .ok (.iconst 0, 1) := by decide +kernel
theorem dX11_room_137 : decode cX11_room 137 = .ok (.ireturn, 1) := by decide +kernel
theorem dX11_room_138 : decode cX11_room 138 = .ok (.ldc_w 422, 3) := by decide +kernel
theorem dX11_room_141 : decode cX11_room 141 = .ok (.ireturn, 1) := by decide +kernel
theorem dX11_rents_0 : decode cX11_rents 0 = .ok (.iconst 0, 1) := by decide +kernel
theorem dX11_rents_1 : decode cX11_rents 1 = .ok (.istore_n 1, 1) := by decide +kernel
theorem dX11_rents_2 : decode cX11_rents 2 = .ok (.iconst 0, 1) := by decide +kernel
theorem dX11_rents_3 : decode cX11_rents 3 = .ok (.istore_n 2, 1) := by decide +kernel
theorem dX11_rents_4 : decode cX11_rents 4 = .ok (.iload_n 2, 1) := by decide +kernel
theorem dX11_rents_5 : decode cX11_rents 5 = .ok (.aload_n 0, 1) := by decide +kernel
theorem dX11_rents_6 : decode cX11_rents 6 = .ok (.invokevirtual 385, 3) := by decide +kernel
theorem dX11_rents_9 : decode cX11_rents 9 = .ok (.if_icmp .ge 17, 3) := by decide +kernel
theorem dX11_rents_12 : decode cX11_rents 12 = .ok (.iload_n 1, 1) := by decide +kernel
theorem dX11_rents_13 : decode cX11_rents 13 = .ok (.aload_n 0, 1) := by decide +kernel
theorem dX11_rents_14 : decode cX11_rents 14 = .ok (.iload_n 2, 1) := by decide +kernel
theorem dX11_rents_15 : decode cX11_rents 15 = .ok (.invokevirtual 426, 3) := by decide +kernel
theorem dX11_rents_18 : decode cX11_rents 18 = .ok (.iadd, 1) := by decide +kernel
theorem dX11_rents_19 : decode cX11_rents 19 = .ok (.istore_n 1, 1) := by decide +kernel
theorem dX11_rents_20 : decode cX11_rents 20 = .ok (.iinc 2 1, 3) := by decide +kernel
theorem dX11_rents_23 : decode cX11_rents 23 = .ok (.goto (-19), 3) := by decide +kernel
theorem dX11_rents_26 : decode cX11_rents 26 = .ok (.iload_n 1, 1) := by decide +kernel
theorem dX11_rents_27 : decode cX11_rents 27 = .ok (.ireturn, 1) := by decide +kernel
set_option maxHeartbeats 2000000 in
set_option maxRecDepth 20000 in
theorem c_X11_asked (l : Launch) (D : va_G) (cy : Nat → ClassId) (B N : Nat) (bk : Int) (a : Int) (b : Int) (M : MM) (hN : 257 ≤ N) (hI : Iv M) (hpa : I32 a) (hpb : I32 b) (hbk : M.1 210 40 = bk) : CI l D cy B N 2 yX11_asked cX11_asked 4 (some .int) [rv B 210, iv a, iv b] M (fun z M' => M' = M) := by
  refine mk_CI (by decide) (Nat.le_of_ble_eq_true rfl) ?_
  intro X exl exD excy hnL hX hret
  have hce : 0 + 0 ≤ (xR X).cells ∧ 0 + 0 ≤ (xR X).slots := ⟨Nat.zero_le _, Nat.zero_le _⟩
  have hbk2 : 0 ≤ bk ∧ bk ≤ 1 := by have := hI.at 210 40 ro_210_40; omega
  show J X B N 0 0 0 [(0, rv B 210), (1, iv a), (2, iv b)] [] M
  refine j_aload_n hX dX11_asked_0 rfl 0 rfl ?_
  refine gf_X11_110 hX (by omega) (by omega) kc_210 (fc_210_47 hI) (by decide) dX11_asked_1 ?_
  refine j_iconst hX dX11_asked_4 ?_
  refine j_aload_n hX dX11_asked_5 rfl 0 rfl ?_
  refine gf_X11_365 hX (by omega) (by omega) kc_210 dX11_asked_6 ?_
  refine j_name hI ro_210_46 (fun v1 hv2 hl3 hh4 => ?_)
  have hk5 := hv2.symm
  refine j_iadd hX dX11_asked_9 ?_
  refine j_iald hX (by omega) (by omega) kc_242 (by omega) (by omega) (by omega) dX11_asked_10 ?_
  refine j_name hI (rs_242 (by omega) (by omega)) (fun v6 hv7 hl8 hh9 => ?_)
  refine j_istore_n (lv' := [(3, _), (0, _), (1, _), (2, _)]) hX dX11_asked_11 rfl (by rw [hnL]; decide) rfl ?_
  refine j_iload_n hX dX11_asked_12 rfl 2 rfl ?_
  refine j_table (tgd := 194) hX dX11_asked_13 (by omega) (by decide) (fun hc10 => ?_) (fun hc11 hc12 => ?_)
  · skip
    refine j_iload_n hX dX11_asked_194 rfl 3 rfl ?_
    exact hret _ _ _ _ dX11_asked_195 rfl (by omega) rfl
  · rcases (by omega : a = 100 ∨ a = 101 ∨ a = 102 ∨ a = 103 ∨ a = 104 ∨ a = 105 ∨ a = 106 ∨ a = 107 ∨ a = 108 ∨ a = 109 ∨ a = 110 ∨ a = 111 ∨ a = 112 ∨ a = 113 ∨ a = 114 ∨ a = 115 ∨ a = 116 ∨ a = 117 ∨ a = 118 ∨ a = 119) with hc13 | hc13 | hc13 | hc13 | hc13 | hc13 | hc13 | hc13 | hc13 | hc13 | hc13 | hc13 | hc13 | hc13 | hc13 | hc13 | hc13 | hc13 | hc13 | hc13
    · refine ⟨159, 172, by rw [hc13]; rfl, by decide, ?_⟩
      refine j_aload_n hX dX11_asked_172 rfl 1 rfl ?_
      refine gf_X11_110 hX (by omega) (by omega) kc_210 (fc_210_47 hI) (by decide) dX11_asked_173 ?_
      refine j_bipush hX dX11_asked_176 rfl ?_
      refine j_iald hX (by omega) (by omega) kc_242 (by omega) (by omega) (by omega) dX11_asked_178 ?_
      refine j_name hI ro_242_14 (fun v14 hv15 hl16 hh17 => ?_)
      have hk18 := hv15.symm
      exact hret _ _ _ _ dX11_asked_179 rfl (by omega) rfl
    · refine ⟨181, 194, by rw [hc13]; rfl, by decide, ?_⟩
      refine j_iload_n hX dX11_asked_194 rfl 3 rfl ?_
      exact hret _ _ _ _ dX11_asked_195 rfl (by omega) rfl
    · refine ⟨181, 194, by rw [hc13]; rfl, by decide, ?_⟩
      refine j_iload_n hX dX11_asked_194 rfl 3 rfl ?_
      exact hret _ _ _ _ dX11_asked_195 rfl (by omega) rfl
    · refine ⟨181, 194, by rw [hc13]; rfl, by decide, ?_⟩
      refine j_iload_n hX dX11_asked_194 rfl 3 rfl ?_
      exact hret _ _ _ _ dX11_asked_195 rfl (by omega) rfl
    · refine ⟨181, 194, by rw [hc13]; rfl, by decide, ?_⟩
      refine j_iload_n hX dX11_asked_194 rfl 3 rfl ?_
      exact hret _ _ _ _ dX11_asked_195 rfl (by omega) rfl
    · refine ⟨167, 180, by rw [hc13]; rfl, by decide, ?_⟩
      refine j_iload_n hX dX11_asked_180 rfl 0 rfl ?_
      refine j_aload_n hX dX11_asked_181 rfl 1 rfl ?_
      refine gf_X11_365 hX (by omega) (by omega) kc_210 dX11_asked_182 ?_
      refine j_top hk5 ?_
      refine j_icmp_ne (tgt := 192) hX dX11_asked_185 (by decide) (by omega) (by omega) (fun hc19 => ?_) (fun hc19 => ?_)
      · skip
        refine j_iconst hX dX11_asked_192 ?_
        exact hret _ _ _ _ dX11_asked_193 rfl (by omega) rfl
      · skip
        refine j_iconst hX dX11_asked_188 ?_
        refine j_goto (tgt := 193) hX dX11_asked_189 (by decide) ?_
        exact hret _ _ _ _ dX11_asked_193 rfl (by omega) rfl
    · refine ⟨95, 108, by rw [hc13]; rfl, by decide, ?_⟩
      refine j_aload_n hX dX11_asked_108 rfl 1 rfl ?_
      refine gf_X11_45 hX (by omega) (by omega) kc_210 (fc_210_19 hI) (by decide) dX11_asked_109 ?_
      refine j_bipush hX dX11_asked_112 rfl ?_
      refine j_aload_n hX dX11_asked_114 rfl 1 rfl ?_
      refine gf_X11_279 hX (by omega) (by omega) kc_210 dX11_asked_115 ?_
      refine j_top hbk ?_
      refine j_imul hX dX11_asked_118 ?_
      refine j_iload_n hX dX11_asked_119 rfl 0 rfl ?_
      refine j_iadd hX dX11_asked_120 ?_
      refine j_iald hX (by omega) (by omega) kc_221 (by omega) (by omega) (by omega) dX11_asked_121 ?_
      refine j_name hI (ra_221 _) (fun v20 hv21 hl22 hh23 => ?_)
      exact hret _ _ _ _ dX11_asked_122 rfl (by omega) rfl
    · refine ⟨133, 146, by rw [hc13]; rfl, by decide, ?_⟩
      refine j_aload_n hX dX11_asked_146 rfl 1 rfl ?_
      refine gf_X11_110 hX (by omega) (by omega) kc_210 (fc_210_47 hI) (by decide) dX11_asked_147 ?_
      refine j_bipush hX dX11_asked_150 rfl ?_
      refine j_aload_n hX dX11_asked_152 rfl 1 rfl ?_
      refine gf_X11_365 hX (by omega) (by omega) kc_210 dX11_asked_153 ?_
      refine j_top hk5 ?_
      refine j_iadd hX dX11_asked_156 ?_
      refine j_iald hX (by omega) (by omega) kc_242 (by omega) (by omega) (by omega) dX11_asked_157 ?_
      refine j_name hI (rk_242 (by omega) (by omega)) (fun v24 hv25 hl26 hh27 => ?_)
      refine j_callSI hX lk_X11_372 (c_X11_bitsOf _ _ _ _ _ _ _ (by omega)) (by omega) hce rfl rfl (Nat.le_of_ble_eq_true rfl) dX11_asked_158 (fun z28 M29 hz31 hp30 => ?_)
      have hE32 := hp30.symm
      subst hE32
      exact hret _ _ _ _ dX11_asked_161 rfl (by omega) rfl
    · refine ⟨181, 194, by rw [hc13]; rfl, by decide, ?_⟩
      refine j_iload_n hX dX11_asked_194 rfl 3 rfl ?_
      exact hret _ _ _ _ dX11_asked_195 rfl (by omega) rfl
    · refine ⟨181, 194, by rw [hc13]; rfl, by decide, ?_⟩
      refine j_iload_n hX dX11_asked_194 rfl 3 rfl ?_
      exact hret _ _ _ _ dX11_asked_195 rfl (by omega) rfl
    · refine ⟨181, 194, by rw [hc13]; rfl, by decide, ?_⟩
      refine j_iload_n hX dX11_asked_194 rfl 3 rfl ?_
      exact hret _ _ _ _ dX11_asked_195 rfl (by omega) rfl
    · refine ⟨181, 194, by rw [hc13]; rfl, by decide, ?_⟩
      refine j_iload_n hX dX11_asked_194 rfl 3 rfl ?_
      exact hret _ _ _ _ dX11_asked_195 rfl (by omega) rfl
    · refine ⟨181, 194, by rw [hc13]; rfl, by decide, ?_⟩
      refine j_iload_n hX dX11_asked_194 rfl 3 rfl ?_
      exact hret _ _ _ _ dX11_asked_195 rfl (by omega) rfl
    · refine ⟨181, 194, by rw [hc13]; rfl, by decide, ?_⟩
      refine j_iload_n hX dX11_asked_194 rfl 3 rfl ?_
      exact hret _ _ _ _ dX11_asked_195 rfl (by omega) rfl
    · refine ⟨181, 194, by rw [hc13]; rfl, by decide, ?_⟩
      refine j_iload_n hX dX11_asked_194 rfl 3 rfl ?_
      exact hret _ _ _ _ dX11_asked_195 rfl (by omega) rfl
    · refine ⟨110, 123, by rw [hc13]; rfl, by decide, ?_⟩
      refine j_aload_n hX dX11_asked_123 rfl 1 rfl ?_
      refine gf_X11_110 hX (by omega) (by omega) kc_210 (fc_210_47 hI) (by decide) dX11_asked_124 ?_
      refine j_bipush hX dX11_asked_127 rfl ?_
      refine j_iald hX (by omega) (by omega) kc_242 (by omega) (by omega) (by omega) dX11_asked_129 ?_
      refine j_name hI ro_242_6 (fun v33 hv34 hl35 hh36 => ?_)
      have hk37 := hv34.symm
      refine j_aload_n hX dX11_asked_130 rfl 1 rfl ?_
      refine gf_X11_365 hX (by omega) (by omega) kc_210 dX11_asked_131 ?_
      refine j_top hk5 ?_
      refine j_callSI hX lk_X11_368 (c_X11_has _ _ _ _ _ _ _ _ (by omega) (by omega)) (by omega) hce rfl rfl (Nat.le_of_ble_eq_true rfl) dX11_asked_134 (fun z38 M39 hz41 hp40 => ?_)
      obtain ⟨hE42, hb43, hq44⟩ := hp40
      replace hE42 := hE42.symm
      subst hE42
      refine j_if_eq (tgt := 144) hX dX11_asked_137 (by decide) (by omega) (fun hc45 => ?_) (fun hc45 => ?_)
      · skip
        refine j_iconst hX dX11_asked_144 ?_
        exact hret _ _ _ _ dX11_asked_145 rfl (by omega) rfl
      · skip
        refine j_iconst hX dX11_asked_140 ?_
        refine j_goto (tgt := 145) hX dX11_asked_141 (by decide) ?_
        exact hret _ _ _ _ dX11_asked_145 rfl (by omega) rfl
    · refine ⟨181, 194, by rw [hc13]; rfl, by decide, ?_⟩
      refine j_iload_n hX dX11_asked_194 rfl 3 rfl ?_
      exact hret _ _ _ _ dX11_asked_195 rfl (by omega) rfl
    · refine ⟨181, 194, by rw [hc13]; rfl, by decide, ?_⟩
      refine j_iload_n hX dX11_asked_194 rfl 3 rfl ?_
      exact hret _ _ _ _ dX11_asked_195 rfl (by omega) rfl
    · refine ⟨181, 194, by rw [hc13]; rfl, by decide, ?_⟩
      refine j_iload_n hX dX11_asked_194 rfl 3 rfl ?_
      exact hret _ _ _ _ dX11_asked_195 rfl (by omega) rfl
    · refine ⟨149, 162, by rw [hc13]; rfl, by decide, ?_⟩
      refine j_aload_n hX dX11_asked_162 rfl 1 rfl ?_
      refine j_aload_n hX dX11_asked_163 rfl 1 rfl ?_
      refine gf_X11_365 hX (by omega) (by omega) kc_210 dX11_asked_164 ?_
      refine j_top hk5 ?_
      refine j_iload_n hX dX11_asked_167 rfl 0 rfl ?_
      refine j_callVI hX lk_X11_375 (c_X11_wantBy _ _ _ _ _ _ _ _ _ (by omega) hI (by omega) (by omega) hbk (by first | assumption | omega)) (by omega) hce rfl rfl (by omega) (by omega) kc_210 rfl rfl (Nat.le_of_ble_eq_true rfl) dX11_asked_168 (fun z46 M47 hz49 hp48 => ?_)
      have hE50 := hp48.symm
      subst hE50
      exact hret _ _ _ _ dX11_asked_171 rfl (by omega) rfl
set_option maxHeartbeats 2000000 in
set_option maxRecDepth 20000 in
theorem c_X11_comes (l : Launch) (D : va_G) (cy : Nat → ClassId) (B N : Nat) (bk : Int) (lo : Int) (hi : Int) (M : MM) (hN : 257 ≤ N) (hI : Iv M) (hbk : M.1 210 40 = bk) (hlo : M.1 229 bk = lo) (hhi : M.1 230 bk = hi) (hW : RWF bk M) : CI l D cy B N 3 yX11_comes cX11_comes 4 (some .int) [rv B 210] M (fun z M' => Iv M' ∧ Fr (fun a (_ : Int) => (a = 241)) M M') := by
  refine mk_CI (by decide) (Nat.le_of_ble_eq_true rfl) ?_
  intro X exl exD excy hnL hX hret
  have hce : 0 + 0 ≤ (xR X).cells ∧ 0 + 0 ≤ (xR X).slots := ⟨Nat.zero_le _, Nat.zero_le _⟩
  have hF : Fr (fun a (_ : Int) => (a = 241)) M M := Fr.rf
  have hbk2 : 0 ≤ bk ∧ bk ≤ 1 := by have := hI.at 210 40 ro_210_40; omega
  have hwf := RWF_at hW hlo hhi
  have hwc0 := hwf.2.2.2
  have cp : ∀ n : Nat, (∀ (x1 x2 : Int), ∀ (Mc : MM), I32 x1 → I32 x2 → Iv Mc → Fr (fun a (_ : Int) => (a = 241)) M Mc → Mc.1 210 40 = bk → Mc.1 229 bk = lo → Mc.1 230 bk = hi → (lo ≤ x2 ∧ x2 ≤ hi) → (x1 = DP M lo (x2 - lo)) → 0 ≤ 32 * (2000 - x2) + 1 → 32 * (2000 - x2) + 1 < (n : Int) → J X B N 0 0 12 [(0, rv B 210), (1, iv x1), (2, iv x2)] [] Mc) := by
    intro n
    induction n with
    | zero => exact by intros; exfalso; omega
    | succ n ih =>
      · intro x1 x2 Mc hxx1 hxx2 hI hF hk_0 hk_1 hk_2 h2 h3 hm0 hm1
        refine j_iload_n hX dX11_comes_12 rfl 2 rfl ?_
        refine j_aload_n hX dX11_comes_13 rfl 0 rfl ?_
        refine gf_X11_72 hX (by omega) (by omega) kc_210 (fc_210_28 hI) (by decide) dX11_comes_14 ?_
        refine j_aload_n hX dX11_comes_17 rfl 0 rfl ?_
        refine gf_X11_279 hX (by omega) (by omega) kc_210 dX11_comes_18 ?_
        refine j_top hk_0 ?_
        refine j_iald hX (by omega) (by omega) kc_230 (by omega) (by omega) (by omega) dX11_comes_21 ?_
        refine j_top hk_2 ?_
        refine j_icmp_ge (tgt := 130) hX dX11_comes_22 (by decide) (by omega) (by omega) (fun hc1 => ?_) (fun hc1 => ?_)
        · skip
          refine j_aload_n hX dX11_comes_130 rfl 0 rfl ?_
          refine gf_X11_107 hX (by omega) (by omega) kc_210 (fc_210_39 hI) (by decide) dX11_comes_131 ?_
          refine j_iconst hX dX11_comes_134 ?_
          refine j_iald hX (by omega) (by omega) kc_241 (by omega) (by omega) (by omega) dX11_comes_135 ?_
          refine j_name hI (ra_241 _) (fun v2 hv3 hl4 hh5 => ?_)
          exact hret _ _ _ _ dX11_comes_136 rfl (by omega) ⟨hI, hF⟩
        · skip
          refine j_aload_n hX dX11_comes_25 rfl 0 rfl ?_
          refine gf_X11_95 hX (by omega) (by omega) kc_210 (fc_210_35 hI) (by decide) dX11_comes_26 ?_
          refine j_iload_n hX dX11_comes_29 rfl 2 rfl ?_
          refine j_iald hX (by omega) (by omega) kc_237 (by omega) (by omega) (by omega) dX11_comes_30 ?_
          refine j_name hI (ra_237 _) (fun v6 hv7 hl8 hh9 => ?_)
          obtain ⟨cd, hcd⟩ : ∃ cd : Int, cd = v6 := ⟨_, rfl⟩
          have hcv : cd = M.1 237 x2 := by rw [hcd, hv7]; exact hF _ _ (by omega)
          have hwc := WC_at hwc0 (by omega) (by omega) hcv
          refine j_istore_n (lv' := [(3, _), (0, _), (1, _), (2, _)]) hX dX11_comes_31 rfl (by rw [hnL]; decide) rfl ?_
          refine j_iload_n hX dX11_comes_32 rfl 0 rfl ?_
          refine j_bipush hX dX11_comes_33 rfl ?_
          refine j_icmp_ne (tgt := 65) hX dX11_comes_35 (by decide) (by omega) (by omega) (fun hc10 => ?_) (fun hc10 => ?_)
          · skip
            refine j_iload_n hX dX11_comes_65 rfl 0 rfl ?_
            refine j_callSI hX lk_X11_224 (c_X11_isLetter _ _ _ _ _ _ _ (by omega)) (by omega) hce rfl rfl (Nat.le_of_ble_eq_true rfl) dX11_comes_66 (fun z11 M12 hz14 hp13 => ?_)
            obtain ⟨hE15, hb16, hq17, hq18⟩ := hp13
            replace hE15 := hE15.symm
            subst hE15
            refine j_if_eq (tgt := 95) hX dX11_comes_69 (by decide) (by omega) (fun hc19 => ?_) (fun hc19 => ?_)
            · skip
              clear hq17
              have hi20 := hq18 (by omega)
              clear hq18
              have hbn : bin cd := ⟨by omega, by omega⟩
              have htd := td_b hbn
              have h2d := hwc.2.1 hbn
              refine j_iinc (lv' := [(1, _), (3, _), (0, _), (2, _)]) hX dX11_comes_95 2 rfl (by rw [hnL]; decide) rfl ?_
              refine j_aload_n hX dX11_comes_98 rfl 2 rfl ?_
              refine gf_X11_107 hX (by omega) (by omega) kc_210 (fc_210_39 hI) (by decide) dX11_comes_99 ?_
              refine j_iload_n hX dX11_comes_102 rfl 0 rfl ?_
              refine j_iconst hX dX11_comes_103 ?_
              refine j_isub hX dX11_comes_104 ?_
              refine j_iload_n hX dX11_comes_105 rfl 1 rfl ?_
              refine j_aload_n hX dX11_comes_106 rfl 2 rfl ?_
              refine gf_X11_107 hX (by omega) (by omega) kc_210 (fc_210_39 hI) (by decide) dX11_comes_107 ?_
              refine j_iload_n hX dX11_comes_110 rfl 0 rfl ?_
              refine j_iconst hX dX11_comes_111 ?_
              refine j_isub hX dX11_comes_112 ?_
              refine j_iald hX (by omega) (by omega) kc_241 (by omega) (by omega) (by omega) dX11_comes_113 ?_
              refine j_name hI (ra_241 _) (fun v21 hv22 hl23 hh24 => ?_)
              refine j_aload_n hX dX11_comes_114 rfl 2 rfl ?_
              refine gf_X11_107 hX (by omega) (by omega) kc_210 (fc_210_39 hI) (by decide) dX11_comes_115 ?_
              refine j_iload_n hX dX11_comes_118 rfl 0 rfl ?_
              refine j_iald hX (by omega) (by omega) kc_241 (by omega) (by omega) (by omega) dX11_comes_119 ?_
              refine j_name hI (ra_241 _) (fun v25 hv26 hl27 hh28 => ?_)
              refine j_callSI hX lk_X11_381 (c_X11_two _ _ _ _ _ _ _ _ _ (by omega) (by omega) (by omega)) (by omega) hce rfl rfl (Nat.le_of_ble_eq_true rfl) dX11_comes_120 (fun z29 M30 hz32 hp31 => ?_)
              have hE33 := hp31.symm
              subst hE33
              refine j_iast hX (by omega) (by omega) kc_241 (by omega) (by omega) (by omega) (by omega) dX11_comes_123 ?_
              refine j_up hI (ra_241 _) (by omega) (by omega) (Or.inl (by omega)) (fun M34 w35 hw36 hM37 hI38 hf39 => ?_)
              have hk40 := kp_up hM37 (fun h => absurd h.1 (by decide)) hk_0
              have hk41 := kp_up hM37 (fun h => absurd h.1 (by decide)) hk_1
              have hk42 := kp_up hM37 (fun h => absurd h.1 (by decide)) hk_2
              have hF43 := Fr.put hF hM37 (rfl)
              refine j_iinc (lv' := [(2, _), (1, _), (3, _), (0, _)]) hX dX11_comes_124 3 rfl (by rw [hnL]; decide) rfl ?_
              refine j_goto (tgt := 12) hX dX11_comes_127 (by decide) ?_
              refine j_sub [3, 1, 0] rfl ?_
              exact ih _ _ _ (by omega) (by omega) hI38 hF43 hk40 hk41 hk42 (by first | assumption | omega) (by first | exact DP_z | omega) (by omega) (by omega)
            · skip
              have hi44 := hq17 (by omega)
              clear hq17
              clear hq18
              have htd := td_l (c := cd) (by omega)
              refine j_aload_n hX dX11_comes_72 rfl 1 rfl ?_
              refine gf_X11_107 hX (by omega) (by omega) kc_210 (fc_210_39 hI) (by decide) dX11_comes_73 ?_
              refine j_iload_n hX dX11_comes_76 rfl 2 rfl ?_
              refine j_aload_n hX dX11_comes_77 rfl 1 rfl ?_
              refine j_iload_n hX dX11_comes_78 rfl 0 rfl ?_
              refine j_aload_n hX dX11_comes_79 rfl 1 rfl ?_
              refine gf_X11_98 hX (by omega) (by omega) kc_210 (fc_210_36 hI) (by decide) dX11_comes_80 ?_
              refine j_iload_n hX dX11_comes_83 rfl 3 rfl ?_
              refine j_iald hX (by omega) (by omega) kc_238 (by omega) (by omega) (by omega) dX11_comes_84 ?_
              refine j_name hI (ra_238 _) (fun v45 hv46 hl47 hh48 => ?_)
              refine j_callVI hX lk_X11_378 (c_X11_asked _ _ _ _ _ _ _ _ _ (by omega) hI (by omega) (by omega) hk_0) (by omega) hce rfl rfl (by omega) (by omega) kc_210 rfl rfl (Nat.le_of_ble_eq_true rfl) dX11_comes_85 (fun z49 M50 hz52 hp51 => ?_)
              have hE53 := hp51.symm
              subst hE53
              refine j_iast hX (by omega) (by omega) kc_241 (by omega) (by omega) (by omega) (by omega) dX11_comes_88 ?_
              refine j_up hI (ra_241 _) (by omega) (by omega) (Or.inl (by omega)) (fun M54 w55 hw56 hM57 hI58 hf59 => ?_)
              have hk60 := kp_up hM57 (fun h => absurd h.1 (by decide)) hk_0
              have hk61 := kp_up hM57 (fun h => absurd h.1 (by decide)) hk_1
              have hk62 := kp_up hM57 (fun h => absurd h.1 (by decide)) hk_2
              have hF63 := Fr.put hF hM57 (rfl)
              refine j_iinc (lv' := [(1, _), (3, _), (0, _), (2, _)]) hX dX11_comes_89 2 rfl (by rw [hnL]; decide) rfl ?_
              refine j_goto (tgt := 124) hX dX11_comes_92 (by decide) ?_
              refine j_iinc (lv' := [(2, _), (1, _), (3, _), (0, _)]) hX dX11_comes_124 3 rfl (by rw [hnL]; decide) rfl ?_
              refine j_goto (tgt := 12) hX dX11_comes_127 (by decide) ?_
              refine j_sub [3, 1, 0] rfl ?_
              exact ih _ _ _ (by omega) (by omega) hI58 hF63 hk60 hk61 hk62 (by first | assumption | omega) (by first | exact DP_z | omega) (by omega) (by omega)
          · skip
            have htd := td_of (v := cd) (by omega)
            have h1d := hwc.1 (by omega)
            refine j_aload_n hX dX11_comes_38 rfl 1 rfl ?_
            refine gf_X11_107 hX (by omega) (by omega) kc_210 (fc_210_39 hI) (by decide) dX11_comes_39 ?_
            refine j_iload_n hX dX11_comes_42 rfl 2 rfl ?_
            refine j_iconst hX dX11_comes_43 ?_
            refine j_isub hX dX11_comes_44 ?_
            refine j_aload_n hX dX11_comes_45 rfl 1 rfl ?_
            refine gf_X11_107 hX (by omega) (by omega) kc_210 (fc_210_39 hI) (by decide) dX11_comes_46 ?_
            refine j_iload_n hX dX11_comes_49 rfl 2 rfl ?_
            refine j_iconst hX dX11_comes_50 ?_
            refine j_isub hX dX11_comes_51 ?_
            refine j_iald hX (by omega) (by omega) kc_241 (by omega) (by omega) (by omega) dX11_comes_52 ?_
            refine j_name hI (ra_241 _) (fun v64 hv65 hl66 hh67 => ?_)
            refine j_if_ne (tgt := 60) hX dX11_comes_53 (by decide) (by omega) (fun hc68 => ?_) (fun hc68 => ?_)
            · skip
              refine j_iconst hX dX11_comes_60 ?_
              refine j_iast hX (by omega) (by omega) kc_241 (by omega) (by omega) (by omega) (by omega) dX11_comes_61 ?_
              refine j_up hI (ra_241 _) (by omega) (by omega) (Or.inl (by omega)) (fun M69 w70 hw71 hM72 hI73 hf74 => ?_)
              have hk75 := kp_up hM72 (fun h => absurd h.1 (by decide)) hk_0
              have hk76 := kp_up hM72 (fun h => absurd h.1 (by decide)) hk_1
              have hk77 := kp_up hM72 (fun h => absurd h.1 (by decide)) hk_2
              have hF78 := Fr.put hF hM72 (rfl)
              refine j_goto (tgt := 124) hX dX11_comes_62 (by decide) ?_
              refine j_iinc (lv' := [(2, _), (3, _), (0, _), (1, _)]) hX dX11_comes_124 3 rfl (by rw [hnL]; decide) rfl ?_
              refine j_goto (tgt := 12) hX dX11_comes_127 (by decide) ?_
              refine j_sub [2, 3, 0] rfl ?_
              exact ih _ _ _ (by omega) (by omega) hI73 hF78 hk75 hk76 hk77 (by first | assumption | omega) (by first | exact DP_z | omega) (by omega) (by omega)
            · skip
              refine j_iconst hX dX11_comes_56 ?_
              refine j_goto (tgt := 61) hX dX11_comes_57 (by decide) ?_
              refine j_iast hX (by omega) (by omega) kc_241 (by omega) (by omega) (by omega) (by omega) dX11_comes_61 ?_
              refine j_up hI (ra_241 _) (by omega) (by omega) (Or.inl (by omega)) (fun M79 w80 hw81 hM82 hI83 hf84 => ?_)
              have hk85 := kp_up hM82 (fun h => absurd h.1 (by decide)) hk_0
              have hk86 := kp_up hM82 (fun h => absurd h.1 (by decide)) hk_1
              have hk87 := kp_up hM82 (fun h => absurd h.1 (by decide)) hk_2
              have hF88 := Fr.put hF hM82 (rfl)
              refine j_goto (tgt := 124) hX dX11_comes_62 (by decide) ?_
              refine j_iinc (lv' := [(2, _), (3, _), (0, _), (1, _)]) hX dX11_comes_124 3 rfl (by rw [hnL]; decide) rfl ?_
              refine j_goto (tgt := 12) hX dX11_comes_127 (by decide) ?_
              refine j_sub [2, 3, 0] rfl ?_
              exact ih _ _ _ (by omega) (by omega) hI83 hF88 hk85 hk86 hk87 (by first | assumption | omega) (by first | exact DP_z | omega) (by omega) (by omega)
  show J X B N 0 0 0 [(0, rv B 210)] [] M
  refine j_iconst hX dX11_comes_0 ?_
  refine j_istore_n (lv' := [(1, _), (0, _)]) hX dX11_comes_1 rfl (by rw [hnL]; decide) rfl ?_
  refine j_aload_n hX dX11_comes_2 rfl 1 rfl ?_
  refine gf_X11_69 hX (by omega) (by omega) kc_210 (fc_210_27 hI) (by decide) dX11_comes_3 ?_
  refine j_aload_n hX dX11_comes_6 rfl 1 rfl ?_
  refine gf_X11_279 hX (by omega) (by omega) kc_210 dX11_comes_7 ?_
  refine j_top hbk ?_
  refine j_iald hX (by omega) (by omega) kc_229 (by omega) (by omega) (by omega) dX11_comes_10 ?_
  refine j_top hlo ?_
  refine j_istore_n (lv' := [(2, _), (1, _), (0, _)]) hX dX11_comes_11 rfl (by rw [hnL]; decide) rfl ?_
  refine j_sub [2, 1, 0] rfl ?_
  refine (cp (Int.toNat (64064 + 1))) _ _ _ (by omega) (by omega) hI hF hbk hlo hhi (by first | assumption | omega) (by first | exact DP_z | omega) ?_ ?_
  · omega
  · omega
set_option maxHeartbeats 2000000 in
set_option maxRecDepth 20000 in
theorem c_X11_rentOf (l : Launch) (D : va_G) (cy : Nat → ClassId) (B N : Nat) (bk : Int) (a : Int) (M : MM) (hN : 257 ≤ N) (hI : Iv M) (hpa : I32 a) (hbk : M.1 210 40 = bk) (h1 : 0 ≤ a ∧ a < 6) (hW : RWI bk M) : CI l D cy B N 4 yX11_rentOf cX11_rentOf 2 (some .int) [rv B 210, iv a] M (fun z M' => Iv M' ∧ Fr (fun a b => (a = 210 ∧ 46 ≤ b ∧ b ≤ 46) ∨ (a = 241)) M M') := by
  refine mk_CI (by decide) (Nat.le_of_ble_eq_true rfl) ?_
  intro X exl exD excy hnL hX hret
  have hce : 0 + 0 ≤ (xR X).cells ∧ 0 + 0 ≤ (xR X).slots := ⟨Nat.zero_le _, Nat.zero_le _⟩
  have hF : Fr (fun a b => (a = 210 ∧ 46 ≤ b ∧ b ≤ 46) ∨ (a = 241)) M M := Fr.rf
  have hbk2 : 0 ≤ bk ∧ bk ≤ 1 := by have := hI.at 210 40 ro_210_40; omega
  show J X B N 0 0 0 [(0, rv B 210), (1, iv a)] [] M
  refine j_aload_n hX dX11_rentOf_0 rfl 0 rfl ?_
  refine gf_X11_79 hX (by omega) (by omega) kc_210 (fc_210_30 hI) (by decide) dX11_rentOf_1 ?_
  refine j_aload_n hX dX11_rentOf_4 rfl 0 rfl ?_
  refine gf_X11_279 hX (by omega) (by omega) kc_210 dX11_rentOf_5 ?_
  refine j_top hbk ?_
  refine j_zald hX (by omega) (by omega) kc_232 (by omega) (by omega) (by omega) dX11_rentOf_8 ?_
  refine j_name hI (ra_232 _) (fun v1 hv2 hl3 hh4 => ?_)
  refine j_if_ne (tgt := 14) hX dX11_rentOf_9 (by decide) (by omega) (fun hc5 => ?_) (fun hc5 => ?_)
  · skip
    have hV6 := hW (by omega)
    refine j_aload_n hX dX11_rentOf_14 rfl 0 rfl ?_
    refine j_iload_n hX dX11_rentOf_15 rfl 1 rfl ?_
    refine pf_X11_365 hX (by omega) (by omega) kc_210 (by omega) dX11_rentOf_16 ?_
    refine j_up hI ro_210_46 (by omega) (by omega) (Or.inl (by omega)) (fun M7 w8 hw9 hM10 hI11 hf12 => ?_)
    have hV13 := RWI_dp (M' := M7) hW (fun a b h => by rw [hM10]; exact up_ne (by omega))
    have hV14 := RWF_dp (M' := M7) hV6 (fun a b h => by rw [hM10]; exact up_ne (by omega))
    have hk15 := kp_up hM10 (fun h => absurd h.2 (by decide)) hbk
    have hF16 := Fr.put hF hM10 ((Or.inl ⟨rfl, by decide, by decide⟩))
    refine j_aload_n hX dX11_rentOf_19 rfl 0 rfl ?_
    refine j_callVI hX lk_X11_407 (c_X11_comes _ _ _ _ _ _ _ _ _ (by omega) hI11 hk15 (by first | assumption | rfl) (by first | assumption | rfl) hV14) (by omega) hce rfl rfl (by omega) (by omega) kc_210 rfl rfl (Nat.le_of_ble_eq_true rfl) dX11_rentOf_20 (fun z17 M18 hz20 hp19 => ?_)
    obtain ⟨hI22, hG23⟩ := hp19
    have hV24 := RWI_dp hV13 (fun a b h => hG23 a b (by omega))
    have hV25 := RWF_dp hV14 (fun a b h => hG23 a b (by omega))
    have hk26 := kp_fr hG23 (fun h => absurd h (by decide)) hk15
    have hk27 := kp_fr hG23 (fun h => absurd h (by decide)) hf12
    clear hk15 hf12
    have hF28 := Fr.trans hF16 hG23 (fun a b h => (Or.inr h))
    exact hret _ _ _ _ dX11_rentOf_23 rfl (by omega) ⟨hI22, hF28⟩
  · skip
    refine j_iconst hX dX11_rentOf_12 ?_
    exact hret _ _ _ _ dX11_rentOf_13 rfl (by omega) ⟨hI, hF⟩
set_option maxHeartbeats 2000000 in
set_option maxRecDepth 20000 in
theorem c_X11_room (l : Launch) (D : va_G) (cy : Nat → ClassId) (B N : Nat) (bk : Int) (nr : Int) (a : Int) (b : Int) (M : MM) (hN : 257 ≤ N) (hI : Iv M) (hpa : I32 a) (hpb : I32 b) (hbk : M.1 210 40 = bk) (hnr : M.1 213 bk = nr) (hLP : LQ nr 242 0 M) (hW : RWI bk M) : CI l D cy B N 5 yX11_room cX11_room 3 (some .int) [rv B 210, iv a, iv b] M (fun z M' => Iv M' ∧ Fr (fun a b => (a = 210 ∧ 46 ≤ b ∧ b ≤ 46) ∨ (a = 241)) M M') := by
  refine mk_CI (by decide) (Nat.le_of_ble_eq_true rfl) ?_
  intro X exl exD excy hnL hX hret
  have hce : 0 + 0 ≤ (xR X).cells ∧ 0 + 0 ≤ (xR X).slots := ⟨Nat.zero_le _, Nat.zero_le _⟩
  have hF : Fr (fun a b => (a = 210 ∧ 46 ≤ b ∧ b ≤ 46) ∨ (a = 241)) M M := Fr.rf
  have hbk2 : 0 ≤ bk ∧ bk ≤ 1 := by have := hI.at 210 40 ro_210_40; omega
  have hnr2 : 0 ≤ nr ∧ nr ≤ 6 := by have := hI.at 213 bk (ra_213 _); omega
  show J X B N 0 0 0 [(0, rv B 210), (1, iv a), (2, iv b)] [] M
  refine j_aload_n hX dX11_room_0 rfl 0 rfl ?_
  refine j_iload_n hX dX11_room_1 rfl 1 rfl ?_
  refine j_callVI hX lk_X11_419 (c_X11_isRoom _ _ _ _ _ _ _ _ _ (by omega) hI (by omega) hbk hnr) (by omega) hce rfl rfl (by omega) (by omega) kc_210 rfl rfl (Nat.le_of_ble_eq_true rfl) dX11_room_2 (fun z1 M2 hz4 hp3 => ?_)
  obtain ⟨hE5, hb6, hq7⟩ := hp3
  replace hE5 := hE5.symm
  subst hE5
  refine j_if_ne (tgt := 12) hX dX11_room_5 (by decide) (by omega) (fun hc8 => ?_) (fun hc8 => ?_)
  · skip
    have hi9 := hq7 (by omega)
    clear hq7
    refine j_iload_n hX dX11_room_12 rfl 2 rfl ?_
    refine j_table (tgd := 138) hX dX11_room_13 (by omega) (by decide) (fun hc10 => ?_) (fun hc11 hc12 => ?_)
    · skip
      refine j_ldcw (n := (-1000000)) hX (in_7 107 (by first | rfl | decide +kernel) rfl) dX11_room_138 ?_
      exact hret _ _ _ _ dX11_room_141 rfl (by omega) ⟨hI, hF⟩
    · rcases (by omega : b = 0 ∨ b = 1 ∨ b = 2 ∨ b = 3 ∨ b = 4 ∨ b = 5 ∨ b = 6 ∨ b = 7) with hc13 | hc13 | hc13 | hc13 | hc13 | hc13 | hc13 | hc13
      · refine ⟨47, 60, by rw [hc13]; rfl, by decide, ?_⟩
        refine j_aload_n hX dX11_room_60 rfl 0 rfl ?_
        refine gf_X11_110 hX (by omega) (by omega) kc_210 (fc_210_47 hI) (by decide) dX11_room_61 ?_
        refine j_iconst hX dX11_room_64 ?_
        refine j_iload_n hX dX11_room_65 rfl 1 rfl ?_
        refine j_iadd hX dX11_room_66 ?_
        refine j_iald hX (by omega) (by omega) kc_242 (by omega) (by omega) (by omega) dX11_room_67 ?_
        refine j_name hI (rs_242 (by omega) (by omega)) (fun v14 hv15 hl16 hh17 => ?_)
        exact hret _ _ _ _ dX11_room_68 rfl (by omega) ⟨hI, hF⟩
      · refine ⟨56, 69, by rw [hc13]; rfl, by decide, ?_⟩
        refine j_aload_n hX dX11_room_69 rfl 0 rfl ?_
        refine j_iload_n hX dX11_room_70 rfl 1 rfl ?_
        refine j_callVI hX lk_X11_423 (c_X11_shownBy _ _ _ _ _ _ _ _ _ (by omega) hI (by omega) hbk hnr hLP (by first | assumption | omega)) (by omega) hce rfl rfl (by omega) (by omega) kc_210 rfl rfl (Nat.le_of_ble_eq_true rfl) dX11_room_71 (fun z18 M19 hz21 hp20 => ?_)
        obtain ⟨hE22, hq23⟩ := hp20
        replace hE22 := hE22.symm
        subst hE22
        exact hret _ _ _ _ dX11_room_74 rfl (by omega) ⟨hI, hF⟩
      · refine ⟨62, 75, by rw [hc13]; rfl, by decide, ?_⟩
        refine j_aload_n hX dX11_room_75 rfl 0 rfl ?_
        refine gf_X11_110 hX (by omega) (by omega) kc_210 (fc_210_47 hI) (by decide) dX11_room_76 ?_
        refine j_bipush hX dX11_room_79 rfl ?_
        refine j_iald hX (by omega) (by omega) kc_242 (by omega) (by omega) (by omega) dX11_room_81 ?_
        refine j_name hI ro_242_6 (fun v24 hv25 hl26 hh27 => ?_)
        have hk28 := hv25.symm
        refine j_iload_n hX dX11_room_82 rfl 1 rfl ?_
        refine j_ishr hX dX11_room_83 (fun z29 hz30 hy31 => ?_)
        refine j_iconst hX dX11_room_84 ?_
        refine j_iand hX dX11_room_85 (fun z32 hz33 hy34 => ?_)
        have ha35 := (and_f hz33 (by omega) (by omega)).2 (by omega)
        exact hret _ _ _ _ dX11_room_86 rfl (by omega) ⟨hI, hF⟩
      · refine ⟨74, 87, by rw [hc13]; rfl, by decide, ?_⟩
        refine j_aload_n hX dX11_room_87 rfl 0 rfl ?_
        refine gf_X11_110 hX (by omega) (by omega) kc_210 (fc_210_47 hI) (by decide) dX11_room_88 ?_
        refine j_bipush hX dX11_room_91 rfl ?_
        refine j_iload_n hX dX11_room_93 rfl 1 rfl ?_
        refine j_iadd hX dX11_room_94 ?_
        refine j_iald hX (by omega) (by omega) kc_242 (by omega) (by omega) (by omega) dX11_room_95 ?_
        refine j_name hI (rk_242 (by omega) (by omega)) (fun v36 hv37 hl38 hh39 => ?_)
        exact hret _ _ _ _ dX11_room_96 rfl (by omega) ⟨hI, hF⟩
      · refine ⟨84, 97, by rw [hc13]; rfl, by decide, ?_⟩
        refine j_aload_n hX dX11_room_97 rfl 0 rfl ?_
        refine j_iload_n hX dX11_room_98 rfl 1 rfl ?_
        refine j_callVI hX lk_X11_426 (c_X11_rentOf _ _ _ _ _ _ _ _ (by omega) hI (by omega) hbk (by first | assumption | omega) hW) (by omega) hce rfl rfl (by omega) (by omega) kc_210 rfl rfl (Nat.le_of_ble_eq_true rfl) dX11_room_99 (fun z40 M41 hz43 hp42 => ?_)
        obtain ⟨hI45, hG46⟩ := hp42
        have hV47 := LQ_dp hLP (fun a b h => hG46 a b (by omega))
        have hV48 := RWI_dp hW (fun a b h => hG46 a b (by omega))
        have hk49 := kp_fr hG46 (fun h => h.elim (fun h => absurd h.2.1 (by decide)) (fun h => absurd h (by decide))) hbk
        have hk50 := kp_fr hG46 (fun h => h.elim (fun h => absurd h.1 (by decide)) (fun h => absurd h (by decide))) hnr
        have hF51 := Fr.trans hF hG46 (fun a b h => h.elim (fun h => (Or.inl h)) (fun h => (Or.inr h)))
        exact hret _ _ _ _ dX11_room_102 rfl (by omega) ⟨hI45, hF51⟩
      · refine ⟨90, 103, by rw [hc13]; rfl, by decide, ?_⟩
        refine j_aload_n hX dX11_room_103 rfl 0 rfl ?_
        refine gf_X11_45 hX (by omega) (by omega) kc_210 (fc_210_19 hI) (by decide) dX11_room_104 ?_
        refine j_bipush hX dX11_room_107 rfl ?_
        refine j_aload_n hX dX11_room_109 rfl 0 rfl ?_
        refine gf_X11_279 hX (by omega) (by omega) kc_210 dX11_room_110 ?_
        refine j_top hbk ?_
        refine j_imul hX dX11_room_113 ?_
        refine j_iload_n hX dX11_room_114 rfl 1 rfl ?_
        refine j_iadd hX dX11_room_115 ?_
        refine j_iald hX (by omega) (by omega) kc_221 (by omega) (by omega) (by omega) dX11_room_116 ?_
        refine j_name hI (ra_221 _) (fun v52 hv53 hl54 hh55 => ?_)
        exact hret _ _ _ _ dX11_room_117 rfl (by omega) ⟨hI, hF⟩
      · refine ⟨105, 118, by rw [hc13]; rfl, by decide, ?_⟩
        refine j_aload_n hX dX11_room_118 rfl 0 rfl ?_
        refine j_iload_n hX dX11_room_119 rfl 1 rfl ?_
        refine j_callVI hX lk_X11_392 (c_X11_factsOf _ _ _ _ _ _ _ _ (by omega) hI (by omega) hbk) (by omega) hce rfl rfl (by omega) (by omega) kc_210 rfl rfl (Nat.le_of_ble_eq_true rfl) dX11_room_120 (fun z56 M57 hz59 hp58 => ?_)
        have hE60 := hp58.symm
        subst hE60
        exact hret _ _ _ _ dX11_room_123 rfl (by omega) ⟨hI, hF⟩
      · refine ⟨111, 124, by rw [hc13]; rfl, by decide, ?_⟩
        refine j_aload_n hX dX11_room_124 rfl 0 rfl ?_
        refine j_iload_n hX dX11_room_125 rfl 1 rfl ?_
        refine j_callVI hX lk_X11_413 (c_X11_doesSee _ _ _ _ _ _ _ (by omega) hI (by omega) (by first | assumption | omega)) (by omega) hce rfl rfl (by omega) (by omega) kc_210 rfl rfl (Nat.le_of_ble_eq_true rfl) dX11_room_126 (fun z61 M62 hz64 hp63 => ?_)
        obtain ⟨hE65, hb66⟩ := hp63
        replace hE65 := hE65.symm
        subst hE65
        refine j_if_eq (tgt := 136) hX dX11_room_129 (by decide) (by omega) (fun hc67 => ?_) (fun hc67 => ?_)
        · skip
          refine j_iconst hX dX11_room_136 ?_
          exact hret _ _ _ _ dX11_room_137 rfl (by omega) ⟨hI, hF⟩
        · skip
          refine j_iconst hX dX11_room_132 ?_
          refine j_goto (tgt := 137) hX dX11_room_133 (by decide) ?_
          exact hret _ _ _ _ dX11_room_137 rfl (by omega) ⟨hI, hF⟩
  · skip
    clear hq7
    refine j_ldcw (n := (-1000000)) hX (in_7 107 (by first | rfl | decide +kernel) rfl) dX11_room_8 ?_
    exact hret _ _ _ _ dX11_room_11 rfl (by omega) ⟨hI, hF⟩
set_option maxHeartbeats 2000000 in
set_option maxRecDepth 20000 in
theorem c_X11_rents (l : Launch) (D : va_G) (cy : Nat → ClassId) (B N : Nat) (bk : Int) (nr : Int) (M : MM) (hN : 257 ≤ N) (hI : Iv M) (hbk : M.1 210 40 = bk) (hnr : M.1 213 bk = nr) (hW : RWI bk M) : CI l D cy B N 5 yX11_rents cX11_rents 3 (some .int) [rv B 210] M (fun z M' => Iv M' ∧ Fr (fun a b => (a = 210 ∧ 46 ≤ b ∧ b ≤ 46) ∨ (a = 241)) M M') := by
  refine mk_CI (by decide) (Nat.le_of_ble_eq_true rfl) ?_
  intro X exl exD excy hnL hX hret
  have hce : 0 + 0 ≤ (xR X).cells ∧ 0 + 0 ≤ (xR X).slots := ⟨Nat.zero_le _, Nat.zero_le _⟩
  have hF : Fr (fun a b => (a = 210 ∧ 46 ≤ b ∧ b ≤ 46) ∨ (a = 241)) M M := Fr.rf
  have hbk2 : 0 ≤ bk ∧ bk ≤ 1 := by have := hI.at 210 40 ro_210_40; omega
  have hnr2 : 0 ≤ nr ∧ nr ≤ 6 := by have := hI.at 213 bk (ra_213 _); omega
  have cp : ∀ n : Nat, (∀ (x1 x2 : Int), ∀ (Mc : MM), I32 x1 → I32 x2 → Iv Mc → Fr (fun a b => (a = 210 ∧ 46 ≤ b ∧ b ≤ 46) ∨ (a = 241)) M Mc → Mc.1 210 40 = bk → Mc.1 213 bk = nr → RWI bk Mc → (0 ≤ x2 ∧ x2 ≤ 6) → 0 ≤ 32 * (6 - x2) + 1 → 32 * (6 - x2) + 1 < (n : Int) → J X B N 0 0 4 [(0, rv B 210), (1, iv x1), (2, iv x2)] [] Mc) := by
    intro n
    induction n with
    | zero => exact by intros; exfalso; omega
    | succ n ih =>
      · intro x1 x2 Mc hxx1 hxx2 hI hF hk_0 hk_1 hV_0 h2 hm0 hm1
        refine j_iload_n hX dX11_rents_4 rfl 2 rfl ?_
        refine j_aload_n hX dX11_rents_5 rfl 0 rfl ?_
        refine j_callVI hX lk_X11_385 (c_X11_many _ _ _ _ _ _ _ _ (by omega) hI hk_0 hk_1) (by omega) hce rfl rfl (by omega) (by omega) kc_210 rfl rfl (Nat.le_of_ble_eq_true rfl) dX11_rents_6 (fun z1 M2 hz4 hp3 => ?_)
        obtain ⟨hE5, hq6⟩ := hp3
        replace hE5 := hE5.symm
        subst hE5
        refine j_icmp_ge (tgt := 26) hX dX11_rents_9 (by decide) (by omega) (by omega) (fun hc7 => ?_) (fun hc7 => ?_)
        · skip
          refine j_iload_n hX dX11_rents_26 rfl 1 rfl ?_
          exact hret _ _ _ _ dX11_rents_27 rfl (by omega) ⟨hI, hF⟩
        · skip
          refine j_iload_n hX dX11_rents_12 rfl 1 rfl ?_
          refine j_aload_n hX dX11_rents_13 rfl 0 rfl ?_
          refine j_iload_n hX dX11_rents_14 rfl 2 rfl ?_
          refine j_callVI hX lk_X11_426 (c_X11_rentOf _ _ _ _ _ _ _ _ (by omega) hI (by omega) hk_0 (by first | assumption | omega) hV_0) (by omega) hce rfl rfl (by omega) (by omega) kc_210 rfl rfl (Nat.le_of_ble_eq_true rfl) dX11_rents_15 (fun z8 M9 hz11 hp10 => ?_)
          obtain ⟨hI13, hG14⟩ := hp10
          have hV15 := RWI_dp hV_0 (fun a b h => hG14 a b (by omega))
          have hk16 := kp_fr hG14 (fun h => h.elim (fun h => absurd h.2.1 (by decide)) (fun h => absurd h (by decide))) hk_0
          have hk17 := kp_fr hG14 (fun h => h.elim (fun h => absurd h.1 (by decide)) (fun h => absurd h (by decide))) hk_1
          have hF18 := Fr.trans hF hG14 (fun a b h => h.elim (fun h => (Or.inl h)) (fun h => (Or.inr h)))
          refine j_iadd hX dX11_rents_18 ?_
          refine j_norm (fun z19 hz20 hy21 => ?_)
          refine j_istore_n (lv' := [(1, _), (0, _), (2, _)]) hX dX11_rents_19 rfl (by rw [hnL]; decide) rfl ?_
          refine j_iinc (lv' := [(2, _), (1, _), (0, _)]) hX dX11_rents_20 2 rfl (by rw [hnL]; decide) rfl ?_
          refine j_goto (tgt := 4) hX dX11_rents_23 (by decide) ?_
          refine j_sub [2, 1, 0] rfl ?_
          exact ih _ _ _ (by omega) (by omega) hI13 hF18 hk16 hk17 hV15 (by first | assumption | omega) (by omega) (by omega)
  show J X B N 0 0 0 [(0, rv B 210)] [] M
  refine j_iconst hX dX11_rents_0 ?_
  refine j_istore_n (lv' := [(1, _), (0, _)]) hX dX11_rents_1 rfl (by rw [hnL]; decide) rfl ?_
  refine j_iconst hX dX11_rents_2 ?_
  refine j_istore_n (lv' := [(2, _), (1, _), (0, _)]) hX dX11_rents_3 rfl (by rw [hnL]; decide) rfl ?_
  refine j_sub [2, 1, 0] rfl ?_
  refine (cp (Int.toNat (256 + 1))) _ _ _ (by omega) (by omega) hI hF hbk hnr hW (by first | assumption | omega) ?_ ?_
  · omega
  · omega
