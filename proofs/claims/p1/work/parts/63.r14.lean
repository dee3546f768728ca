theorem dX11_readRule_0 : decode cX11_readRule 0 = .ok (.aload_n 0, 1) := by decide +kernel
theorem dX11_readRule_1 : decode cX11_readRule 1 = .ok (.iconst 0, 1) := by decide +kernel
theorem dX11_readRule_2 : decode cX11_readRule 2 = .ok (.putfield 332, 3) := by decide +kernel
theorem dX11_readRule_5 : decode cX11_readRule 5 = .ok (.aload_n 0, 1) := by decide +kernel
theorem dX11_readRule_6 : decode cX11_readRule 6 = .ok (.getfield 69, 3) := by decide +kernel
theorem dX11_readRule_9 : decode cX11_readRule 9 = .ok (.aload_n 0, 1) := by decide +kernel
theorem dX11_readRule_10 : decode cX11_readRule 10 = .ok (.getfield 270, 3) := by decide +kernel
theorem dX11_readRule_13 : decode cX11_readRule 13 = .ok (.iload_n 1, 1) := by decide +kernel
theorem dX11_readRule_14 : decode cX11_readRule 14 = .ok (.iadd, 1) := by decide +kernel
theorem dX11_readRule_15 : decode cX11_readRule 15 = .ok (.aload_n 0, 1) := by decide +kernel
theorem dX11_readRule_16 : decode cX11_readRule 16 = .ok (.getfield 273, 3) := by decide +kernel
theorem dX11_readRule_19 : decode cX11_readRule 19 = .ok (.iastore, 1) := by decide +kernel
theorem dX11_readRule_20 : decode cX11_readRule 20 = .ok (.aload_n 0, 1) := by decide +kernel
theorem dX11_readRule_21 : decode cX11_readRule 21 = .ok (.invokevirtual 335, 3) := by decide +kernel
theorem dX11_readRule_24 : decode cX11_readRule 24 = .ok (.aload_n 0, 1) := by decide +kernel
theorem dX11_readRule_25 : decode cX11_readRule 25 = .ok (.getfield 72, 3) := by decide +kernel
theorem dX11_readRule_28 : decode cX11_readRule 28 = .ok (.aload_n 0, 1) := by decide +kernel
theorem dX11_readRule_29 : decode cX11_readRule 29 = .ok (.getfield 270, 3) := by decide +kernel
theorem dX11_readRule_32 : decode cX11_readRule 32 = .ok (.iload_n 1, 1) := by decide +kernel
theorem dX11_readRule_33 : decode cX11_readRule 33 = .ok (.iadd, 1) := by decide +kernel
theorem dX11_readRule_34 : decode cX11_readRule 34 = .ok (.aload_n 0, 1) := by decide +kernel
theorem dX11_readRule_35 : decode cX11_readRule 35 = .ok (.getfield 273, 3) := by decide +kernel
theorem dX11_readRule_38 : decode cX11_readRule 38 = .ok (.iastore, 1) := by decide +kernel
theorem dX11_readRule_39 : decode cX11_readRule 39 = .ok (.return_, 1) := by decide +kernel
theorem dX11_clearBank_0 : decode cX11_clearBank 0 = .ok (.aload_n 0, 1) := by decide +kernel
theorem dX11_clearBank_1 : decode cX11_clearBank 1 = .ok (.getfield 20, 3) := by decide +kernel
theorem dX11_clearBank_4 : decode cX11_clearBank 4 = .ok (.aload_n 0, 1) := by decide +kernel
theorem dX11_clearBank_5 : decode cX11_clearBank 5 = .ok (.getfield 270, 3) := by decide +kernel
theorem dX11_clearBank_8 : decode cX11_clearBank 8 = .ok (.iconst 0, 1) := by decide +kernel
theorem dX11_clearBank_9 : decode cX11_clearBank 9 = .ok (.iastore, 1) := by decide +kernel
theorem dX11_clearBank_10 : decode cX11_clearBank 10 = .ok (.aload_n 0, 1) := by decide +kernel
theorem dX11_clearBank_11 : decode cX11_clearBank 11 = .ok (.getfield 24, 3) := by decide +kernel
theorem dX11_clearBank_14 : decode cX11_clearBank 14 = .ok (.aload_n 0, 1) := by decide +kernel
theorem dX11_clearBank_15 : decode cX11_clearBank 15 = .ok (.getfield 270, 3) := by decide +kernel
theorem dX11_clearBank_18 : decode cX11_clearBank 18 = .ok (.iconst 0, 1) := by decide +kernel
theorem dX11_clearBank_19 : decode cX11_clearBank 19 = .ok (.iastore, 1) := by decide +kernel
theorem dX11_clearBank_20 : decode cX11_clearBank 20 = .ok (.aload_n 0, 1) := by decide +kernel
theorem dX11_clearBank_21 : decode cX11_clearBank 21 = .ok (.getfield 27, 3) := by decide +kernel
theorem dX11_clearBank_24 : decode cX11_clearBank 24 = .ok (.aload_n 0, 1) := by decide +kernel
theorem dX11_clearBank_25 : decode cX11_clearBank 25 = .ok (.getfield 270, 3) := by decide +kernel
theorem dX11_clearBank_28 : decode cX11_clearBank 28 = .ok (.iconst 0, 1) := by decide +kernel
theorem dX11_clearBank_29 : decode cX11_clearBank 29 = .ok (.iastore, 1) := by decide +kernel
theorem dX11_clearBank_30 : decode cX11_clearBank 30 = .ok (.aload_n 0, 1) := by decide +kernel
theorem dX11_clearBank_31 : decode cX11_clearBank 31 = .ok (.getfield 30, 3) := by decide +kernel
theorem dX11_clearBank_34 : decode cX11_clearBank 34 = .ok (.aload_n 0, 1) := by decide +kernel
theorem dX11_clearBank_35 : decode cX11_clearBank 35 = .ok (.getfield 270, 3) := by decide +kernel
theorem dX11_clearBank_38 : decode cX11_clearBank 38 = .ok (.iconst 0, 1) := by decide +kernel
theorem dX11_clearBank_39 : decode cX11_clearBank 39 = .ok (.iastore, 1) := by decide +kernel
theorem dX11_clearBank_40 : decode cX11_clearBank 40 = .ok (.aload_n 0, 1) := by decide +kernel
theorem dX11_clearBank_41 : decode cX11_clearBank 41 = .ok (.getfield 33, 3) := by decide +kernel
theorem dX11_clearBank_44 : decode cX11_clearBank 44 = .ok (.aload_n 0, 1) := by decide +kernel
theorem dX11_clearBank_45 : decode cX11_clearBank 45 = .ok (.getfield 270, 3) := by decide +kernel
theorem dX11_clearBank_48 : decode cX11_clearBank 48 = .ok (.iconst 0, 1) := by decide +kernel
theorem dX11_clearBank_49 : decode cX11_clearBank 49 = .ok (.iastore, 1) := by decide +kernel
theorem dX11_clearBank_50 : decode cX11_clearBank 50 = .ok (.aload_n 0, 1) := by decide +kernel
theorem dX11_clearBank_51 : decode cX11_clearBank 51 = .ok (.getfield 36, 3) := by decide +kernel
theorem dX11_clearBank_54 : decode cX11_clearBank 54 = .ok (.aload_n 0, 1) := by decide +kernel
theorem dX11_clearBank_55 : decode cX11_clearBank 55 = .ok (.getfield 270, 3) := by decide +kernel
theorem dX11_clearBank_58 : decode cX11_clearBank 58 = .ok (.iconst 0, 1) := by decide +kernel
theorem dX11_clearBank_59 : decode cX11_clearBank 59 = .ok (.iastore, 1) := by decide +kernel
theorem dX11_clearBank_60 : decode cX11_clearBank 60 = .ok (.aload_n 0, 1) := by decide +kernel
theorem dX11_clearBank_61 : decode cX11_clearBank 61 = .ok (.getfield 57, 3) := by decide +kernel
theorem dX11_clearBank_64 : decode cX11_clearBank 64 = .ok (.aload_n 0, 1) := by decide +kernel
theorem dX11_clearBank_65 : decode cX11_clearBank 65 = .ok (.getfield 270, 3) := by decide +kernel
theorem dX11_clearBank_68 : decode cX11_clearBank 68 = .ok (.iconst 0, 1) := by decide +kernel
theorem dX11_clearBank_69 : decode cX11_clearBank 69 = .ok (.iastore, 1) := by decide +kernel
theorem dX11_clearBank_70 : decode cX11_clearBank 70 = .ok (.aload_n 0, 1) := by decide +kernel
theorem dX11_clearBank_71 : decode cX11_clearBank 71 = .ok (.getfield 75, 3) := by decide +kernel
theorem dX11_clearBank_74 : decode cX11_clearBank 74 = .ok (.aload_n 0, 1) := by decide +kernel
theorem dX11_clearBank_75 : decode cX11_clearBank 75 = .ok (.getfield 270, 3) := by decide +kernel
theorem dX11_clearBank_78 : decode cX11_clearBank 78 = .ok (.iconst 0, 1) := by decide +kernel
theorem dX11_clearBank_79 : decode cX11_clearBank 79 = .ok (.bastore, 1) := by decide +kernel
theorem dX11_clearBank_80 : decode cX11_clearBank 80 = .ok (.aload_n 0, 1) := by decide +kernel
theorem dX11_clearBank_81 : decode cX11_clearBank 81 = .ok (.getfield 79, 3) := by decide +kernel
theorem dX11_clearBank_84 : decode cX11_clearBank 84 = .ok (.aload_n 0, 1) := by decide +kernel
theorem dX11_clearBank_85 : decode cX11_clearBank 85 = .ok (.getfield 270, 3) := by decide +kernel
theorem dX11_clearBank_88 : decode cX11_clearBank 88 = .ok (.iconst 0, 1) := by decide +kernel
theorem dX11_clearBank_89 : decode cX11_clearBank 89 = .ok (.bastore, 1) := by decide +kernel
theorem dX11_clearBank_90 : decode cX11_clearBank 90 = .ok (.aload_n 0, 1) := by decide +kernel
theorem dX11_clearBank_91 : decode cX11_clearBank 91 = .ok (.getfield 82, 3) := by decide +kernel
theorem dX11_clearBank_94 : decode cX11_clearBank 94 = .ok (.aload_n 0, 1) := by decide +kernel
theorem dX11_clearBank_95 : decode cX11_clearBank 95 = .ok (.getfield 270, 3) := by decide +kernel
theorem dX11_clearBank_98 : decode cX11_clearBank 98 = .ok (.iconst 0, 1) := by decide +kernel
theorem dX11_clearBank_99 : decode cX11_clearBank 99 = .ok (.bastore, 1) := by decide +kernel
theorem dX11_clearBank_100 : decode cX11_clearBank 100 = .ok (.aload_n 0, 1) := by decide +kernel
theorem dX11_clearBank_101 : decode cX11_clearBank 101 = .ok (.getfield 85, 3) := by decide +kernel
theorem dX11_clearBank_104 : decode cX11_clearBank 104 = .ok (.aload_n 0, 1) := by decide +kernel
theorem dX11_clearBank_105 : decode cX11_clearBank 105 = .ok (.getfield 270, 3) := by decide +kernel
theorem dX11_clearBank_108 : decode cX11_clearBank 108 = .ok (.iconst 0, 1) := by decide +kernel
theorem dX11_clearBank_109 : decode cX11_clearBank 109 = .ok (.bastore, 1) := by decide +kernel
theorem dX11_clearBank_110 : decode cX11_clearBank 110 = .ok (.aload_n 0, 1) := by decide +kernel
theorem dX11_clearBank_111 : decode cX11_clearBank 111 = .ok (.sipush 560, 3) := by decide +kernel
theorem dX11_clearBank_114 : decode cX11_clearBank 114 = .ok (.aload_n 0, 1) := by decide +kernel
theorem dX11_clearBank_115 : decode cX11_clearBank 115 = .ok (.getfield 270, 3) := by decide +kernel
theorem dX11_clearBank_118 : decode cX11_clearBank 118 = .ok (.imul, 1) := by decide +kernel
theorem dX11_clearBank_119 : decode cX11_clearBank 119 = .ok (.putfield 273, 3) := by decide +kernel
theorem dX11_clearBank_122 : decode cX11_clearBank 122 = .ok (.return_, 1) := by decide +kernel
theorem dX11_isFull_0 : decode cX11_isFull 0 = .ok (.aload_n 0, 1) := by decide +kernel
theorem dX11_isFull_1 : decode cX11_isFull 1 = .ok (.ldc2_w 167, 3) := by decide +kernel
theorem dX11_isFull_4 : decode cX11_isFull 4 = .ok (.invokevirtual 259, 3) := by decide +kernel
theorem dX11_isFull_7 : decode cX11_isFull 7 = .ok (.ifCond .eq 35, 3) := by decide +kernel
theorem dX11_isFull_10 : decode cX11_isFull 10 = .ok (.aload_n 0, 1) := by decide +kernel
theorem dX11_isFull_11 : decode cX11_isFull 11 = .ok (.getfield 20, 3) := by decide +kernel
theorem dX11_isFull_14 : decode cX11_isFull 14 = .ok (.aload_n 0, 1) := by decide +kernel
theorem dX11_isFull_15 : decode cX11_isFull 15 = .ok (.getfield 270, 3) := by decide +kernel
theorem dX11_isFull_18 : decode cX11_isFull 18 = .ok (.iaload, 1) := by decide +kernel
theorem dX11_isFull_19 : decode cX11_isFull 19 = .ok (.bipush 6, 2) := by decide +kernel
theorem dX11_isFull_21 : decode cX11_isFull 21 = .ok (.if_icmp .eq 15, 3) := by decide +kernel
theorem dX11_isFull_24 : decode cX11_isFull 24 = .ok (.aload_n 0, 1) := by decide +kernel
theorem dX11_isFull_25 : decode cX11_isFull 25 = .ok (.getfield 75, 3) := by decide +kernel
theorem dX11_isFull_28 : decode cX11_isFull 28 = .ok (.aload_n 0, 1) := by decide +kernel
theorem dX11_isFull_29 : decode cX11_isFull 29 = .ok (.getfield 270, 3) := by decide +kernel
theorem dX11_isFull_32 : decode cX11_isFull 32 = .ok (.baload, 1) := by decide +kernel
theorem dX11_isFull_33 : decode cX11_isFull 33 = .ok (.ifCond .eq 7, 3) := by decide +kernel
theorem dX11_isFull_36 : decode cX11_isFull 36 = .ok (.iconst 1, 1) := by decide +kernel
theorem dX11_isFull_37 : decode cX11_isFull 37 = .ok (.goto 4, 3) := by decide +kernel
theorem dX11_isFull_40 : decode cX11_isFull 40 = .ok (.iconst 0, 1) := by decide +kernel
theorem dX11_isFull_41 : decode cX11_isFull 41 = .ok (.ireturn, 1) := by decide +kernel
theorem dX11_isFull_42 : decode cX11_isFull 42 = .ok (.aload_n 0, 1) := by decide +kernel
theorem dX11_isFull_43 : decode cX11_isFull 43 = .ok (.ldc2_w 173, 3) := by decide +kernel
theorem dX11_isFull_46 : decode cX11_isFull 46 = .ok (.invokevirtual 259, 3) := by decide +kernel
theorem dX11_isFull_49 : decode cX11_isFull 49 = .ok (.ifCond .eq 13, 3) := by decide +kernel
theorem dX11_isFull_52 : decode cX11_isFull 52 = .ok (.aload_n 0, 1) := by decide +kernel
theorem dX11_isFull_53 : decode cX11_isFull 53 = .ok (.getfield 75, 3) := by decide +kernel
theorem dX11_isFull_56 : decode cX11_isFull 56 = .ok (.aload_n 0, 1) := by decide +kernel
theorem dX11_isFull_57 : decode cX11_isFull 57 = .ok (.getfield 270, 3) := by decide +kernel
theorem dX11_isFull_60 : decode cX11_isFull 60 = .ok (.baload, 1) := by decide +kernel
theorem dX11_isFull_61 : decode cX11_isFull 61 = .ok (.ireturn, 1) := by decide +kernel
theorem dX11_isFull_62 : decode cX11_isFull 62 = .ok (.aload_n 0, 1) := by decide +kernel
theorem dX11_isFull_63 : decode cX11_isFull 63 = .ok (.ldc2_w 175, 3) := by decide +kernel
theorem dX11_isFull_66 : decode cX11_isFull 66 = .ok (.invokevirtual 259, 3) := by decide +kernel
theorem dX11_isFull_69 : decode cX11_isFull 69 = .ok (.ifCond .eq 23, 3) := by decide +kernel
theorem dX11_isFull_72 : decode cX11_isFull 72 = .ok (.aload_n 0, 1) := by decide +kernel
theorem dX11_isFull_73 : decode cX11_isFull 73 = .ok (.getfield 24, 3) := by decide +kernel
theorem dX11_isFull_76 : decode cX11_isFull 76 = .ok (.aload_n 0, 1) := by decide +kernel
theorem dX11_isFull_77 : decode cX11_isFull 77 = .ok (.getfield 270, 3) := by decide +kernel
theorem dX11_isFull_80 : decode cX11_isFull 80 = .ok (.iaload, 1) := by decide +kernel
theorem dX11_isFull_81 : decode cX11_isFull 81 = .ok (.bipush 10, 2) := by decide +kernel
theorem dX11_isFull_83 : decode cX11_isFull 83 = .ok (.if_icmp .ne 7, 3) := by decide +kernel
theorem dX11_isFull_86 : decode cX11_isFull 86 = .ok (.iconst 1, 1) := by decide +kernel
theorem dX11_isFull_87 : decode cX11_isFull 87 = .ok (.goto 4, 3) := by decide +kernel
theorem dX11_isFull_90 : decode cX11_isFull 90 = .ok (.iconst 0, 1) := by decide +kernel
theorem dX11_isFull_91 : decode cX11_isFull 91 = .ok (.ireturn, 1) := by decide +kernel
theorem dX11_isFull_92 : decode cX11_isFull 92 = .ok (.aload_n 0, 1) := by decide +kernel
theorem dX11_isFull_93 : decode cX11_isFull 93 = .ok (.ldc2_w 187, 3) := by decide +kernel
theorem dX11_isFull_96 : decode cX11_isFull 96 = .ok (.invokevirtual 259, 3) := by decide +kernel
theorem dX11_isFull_99 : decode cX11_isFull 99 = .ok (.ifCond .eq 13, 3) := by decide +kernel
theorem dX11_isFull_102 : decode cX11_isFull 102 = .ok (.aload_n 0, 1) := by decide +kernel
theorem dX11_isFull_103 : decode cX11_isFull 103 = .ok (.getfield 79, 3) := by decide +kernel
theorem dX11_isFull_106 : decode cX11_isFull 106 = .ok (.aload_n 0, 1) := by decide +kernel
theorem dX11_isFull_107 : decode cX11_isFull 107 = .ok (.getfield 270, 3) := by decide +kernel
theorem dX11_isFull_110 : decode cX11_isFull 110 = .ok (.baload, 1) := by decide +kernel
theorem dX11_isFull_111 : decode cX11_isFull 111 = .ok (.ireturn, 1) := by decide +kernel
theorem dX11_isFull_112 : decode cX11_isFull 112 = .ok (.aload_n 0, 1) := by decide +kernel
theorem dX11_isFull_113 : decode cX11_isFull 113 = .ok (.ldc2_w 189, 3) := by decide +kernel
theorem dX11_isFull_116 : decode cX11_isFull 116 = .ok (.invokevirtual 259, 3) := by decide +kernel
theorem dX11_isFull_119 : decode cX11_isFull 119 = .ok (.ifCond .eq 13, 3) := by decide +kernel
theorem dX11_isFull_122 : decode cX11_isFull 122 = .ok (.aload_n 0, 1) := by decide +kernel
theorem dX11_isFull_123 : decode cX11_isFull 123 = .ok (.getfield 82, 3) := by decide +kernel
theorem dX11_isFull_126 : decode cX11_isFull 126 = .ok (.aload_n 0, 1) := by decide +kernel
theorem dX11_isFull_127 : decode cX11_isFull 127 = .ok (.getfield 270, 3) := by decide +kernel
theorem dX11_isFull_130 : decode cX11_isFull 130 = .ok (.baload, 1) := by decide +kernel
theorem dX11_isFull_131 : decode cX11_isFull 131 = .ok (.ireturn, 1) := by decide +kernel
theorem dX11_isFull_132 : decode cX11_isFull 132 = .ok (.aload_n 0, 1) := by decide +kernel
theorem dX11_isFull_133 : decode cX11_isFull 133 = .ok (.ldc2_w 193, 3) := by decide +kernel
theorem dX11_isFull_136 : decode cX11_isFull 136 = .ok (.invokevirtual 259, 3) := by decide +kernel
theorem dX11_isFull_139 : decode cX11_isFull 139 = .ok (.ifCond .eq 13, 3) := by decide +kernel
theorem dX11_isFull_142 : decode cX11_isFull 142 = .ok (.aload_n 0, 1) := by decide +kernel
theorem dX11_isFull_143 : decode cX11_isFull 143 = .ok (.getfield 85, 3) := by decide +kernel
theorem dX11_isFull_146 : decode cX11_isFull 146 = .ok (.aload_n 0, 1) := by decide +kernel
theorem dX11_isFull_147 : decode cX11_isFull 147 = .ok (.getfield 270, 3) := by decide +kernel
theorem dX11_isFull_150 : decode cX11_isFull 150 = .ok (.baload, 1) := by decide +kernel
theorem dX11_isFull_151 : decode cX11_isFull 151 = .ok (.ireturn, 1) := by decide +kernel
theorem dX11_isFull_152 : decode cX11_isFull 152 = .ok (.aload_n 0, 1) := by decide +kernel
theorem dX11_isFull_153 : decode cX11_isFull 153 = .ok (.ldc2_w 183, 3) := by decide +kernel
theorem dX11_isFull_156 : decode cX11_isFull 156 = .ok (.invokevirtual 259, 3) := by decide +kernel
theorem dX11_isFull_159 : decode cX11_isFull 159 = .ok (.ifCond .ne 17, 3) := by decide +kernel
theorem dX11_isFull_162 : decode cX11_isFull 162 = .ok (.aload_n 0, 1) := by decide +kernel
theorem dX11_isFull_163 : decode cX11_isFull 163 = .ok (.ldc2_w 185, 3) := by decide +kernel
theorem dX11_isFull_166 : decode cX11_isFull 166 = .ok (.invokevirtual 259, 3) := by decide +kernel
theorem dX11_isFull_169 : decode cX11_isFull 169 = .ok (.ifCond .ne 7, 3) := by decide +kernel
theorem dX11_isFull_172 : decode cX11_isFull 172 = .ok (.iconst 1, 1) := by decide +kernel
theorem dX11_isFull_173 : decode cX11_isFull 173 = .ok (.goto 4, 3) := by decide +kernel
theorem dX11_isFull_176 : decode cX11_isFull 176 = .ok (.iconst 0, 1) := by decide +kernel
theorem dX11_isFull_177 : decode cX11_isFull 177 = .ok (.ireturn, 1) := by decide +kernel
set_option maxHeartbeats 2000000 in
set_option maxRecDepth 20000 in
theorem c_X11_readRule (l : Launch) (D : va_G) (cy : Nat → ClassId) (B N : Nat) (m : Int) (w : Int) (lo : Int) (a : Int) (M : MM) (hN : 257 ≤ N) (hI : Iv M) (hpa : I32 a) (hw : M.1 210 41 = w) (hulo : M.1 210 42 = lo) (hML : ML m M) (h1 : a = 0 ∧ M.1 210 4 = 0 ∧ m ≤ 10000 ∧ lo = 560 * w) : CV l D cy B N 6 yX11_readRule cX11_readRule 2 none [rv B 210, iv a] M (fun M' => Iv M' ∧ Fr (fun a b => (a = 210 ∧ 4 ≤ b ∧ b ≤ 10) ∨ (a = 210 ∧ 42 ≤ b ∧ b ≤ 45) ∨ (a = 216) ∨ (a = 229 ∧ w ≤ b ∧ b ≤ w) ∨ (a = 230 ∧ w ≤ b ∧ b ≤ w) ∨ (a = 237 ∧ 560 * w ≤ b ∧ b ≤ 560 * w + 559) ∨ (238 ≤ a ∧ a ≤ 240)) M M' ∧ (ML m M') ∧ (M'.1 210 4 = 0 → RWF w M')) := by
  refine mk_CV (by decide) (Nat.le_of_ble_eq_true rfl) ?_
  intro X exl exD excy hnL hX hret
  have hce : 0 + 0 ≤ (xR X).cells ∧ 0 + 0 ≤ (xR X).slots := ⟨Nat.zero_le _, Nat.zero_le _⟩
  have hF : Fr (fun a b => (a = 210 ∧ 4 ≤ b ∧ b ≤ 10) ∨ (a = 210 ∧ 42 ≤ b ∧ b ≤ 45) ∨ (a = 216) ∨ (a = 229 ∧ w ≤ b ∧ b ≤ w) ∨ (a = 230 ∧ w ≤ b ∧ b ≤ w) ∨ (a = 237 ∧ 560 * w ≤ b ∧ b ≤ 560 * w + 559) ∨ (238 ≤ a ∧ a ≤ 240)) M M := Fr.rf
  have hk1 : M.1 210 4 = M.1 210 4 := rfl
  have hw2 : 0 ≤ w ∧ w ≤ 1 := by have := hI.at 210 41 ro_210_41; omega
  show J X B N 0 0 0 [(0, rv B 210), (1, iv a)] [] M
  refine j_aload_n hX dX11_readRule_0 rfl 0 rfl ?_
  refine j_iconst hX dX11_readRule_1 ?_
  refine pf_X11_332 hX (by omega) (by omega) kc_210 (by omega) dX11_readRule_2 ?_
  refine j_up hI ro_210_45 (by omega) (by omega) (Or.inl (by omega)) (fun M2 w3 hw4 hM5 hI6 hf7 => ?_)
  have hV8 := ML_dp (M' := M2) hML (fun a b h => by rw [hM5]; exact up_ne (by omega))
  have hk9 := kp_up hM5 (fun h => absurd h.2 (by decide)) hw
  have hk10 := kp_up hM5 (fun h => absurd h.2 (by decide)) hulo
  have hk11 := kp_up hM5 (fun h => absurd h.2 (by decide)) hk1
  clear hk1
  have hF12 := Fr.put hF hM5 ((Or.inr (Or.inl ⟨rfl, by decide, by decide⟩)))
  refine j_aload_n hX dX11_readRule_5 rfl 0 rfl ?_
  refine gf_X11_69 hX (by omega) (by omega) kc_210 (fc_210_27 hI6) (by decide) dX11_readRule_6 ?_
  refine j_aload_n hX dX11_readRule_9 rfl 0 rfl ?_
  refine gf_X11_270 hX (by omega) (by omega) kc_210 dX11_readRule_10 ?_
  refine j_top hk9 ?_
  refine j_iload_n hX dX11_readRule_13 rfl 1 rfl ?_
  refine j_iadd hX dX11_readRule_14 ?_
  refine j_aload_n hX dX11_readRule_15 rfl 0 rfl ?_
  refine gf_X11_273 hX (by omega) (by omega) kc_210 dX11_readRule_16 ?_
  refine j_top hk10 ?_
  refine j_iast hX (by omega) (by omega) kc_229 (by omega) (by omega) (by omega) (by omega) dX11_readRule_19 ?_
  refine j_up hI6 (ra_229 _) (by omega) (by omega) (Or.inl (by omega)) (fun M13 w14 hw15 hM16 hI17 hf18 => ?_)
  have hV19 := ML_dp (M' := M13) hV8 (fun a b h => by rw [hM16]; exact up_ne (by omega))
  have hk20 := kp_up hM16 (fun h => absurd h.1 (by decide)) hk9
  have hk21 := kp_up hM16 (fun h => absurd h.1 (by decide)) hk10
  have hk22 := kp_up hM16 (fun h => absurd h.1 (by decide)) hk11
  have hk23 := kp_up hM16 (fun h => absurd h.1 (by decide)) hf7
  clear hk9 hk10 hk11 hf7
  have hF24 := Fr.put hF12 hM16 ((Or.inr (Or.inr (Or.inr (Or.inl ⟨rfl, by omega, by omega⟩)))))
  refine j_aload_n hX dX11_readRule_20 rfl 0 rfl ?_
  refine j_callVV hX lk_X11_335 (c_X11_e _ _ _ _ _ _ _ _ (by omega) hI17 hk21 hV19 (by first | assumption | omega)) (by omega) hce rfl rfl (by omega) (by omega) kc_210 rfl rfl (Nat.le_of_ble_eq_true rfl) dX11_readRule_21 (fun M26 hp27 => ?_)
  obtain ⟨hI30, hG31, hq32, hq33⟩ := hp27
  have hk35 := kp_fr hG31 (fun h => h.elim (fun h => absurd h.2.2 (by decide)) (fun h => h.elim (fun h => absurd h.2.1 (by decide)) (fun h => h.elim (fun h => absurd h (by decide)) (fun h => h.elim (fun h => absurd h.1 (by decide)) (fun h => absurd h.1 (by decide)))))) hk20
  have hk36 := kp_fr hG31 (fun h => h.elim (fun h => absurd h.1 (by decide)) (fun h => h.elim (fun h => absurd h.1 (by decide)) (fun h => h.elim (fun h => absurd h (by decide)) (fun h => h.elim (fun h => absurd h.1 (by decide)) (fun h => absurd h.1 (by decide)))))) hf18
  clear hk20 hk21 hk22 hk23 hf18
  have hF37 := Fr.trans hF24 hG31 (fun a b h => h.elim (fun h => (Or.inl h)) (fun h => h.elim (fun h => (Or.inr (Or.inl h))) (fun h => h.elim (fun h => (Or.inr (Or.inr (Or.inl h)))) (fun h => h.elim (fun h => (Or.inr (Or.inr (Or.inr (Or.inr (Or.inr (Or.inl ⟨h.1, by omega, by omega⟩))))))) (fun h => (Or.inr (Or.inr (Or.inr (Or.inr (Or.inr (Or.inr h)))))))))))
  have hk38 : M26.1 210 4 = M26.1 210 4 := rfl
  have hk39 : M26.1 210 42 = M26.1 210 42 := rfl
  have hdn := hq33
  have hV40 := (CF_rf : CF M26 M26)
  refine j_aload_n hX dX11_readRule_24 rfl 0 rfl ?_
  refine gf_X11_72 hX (by omega) (by omega) kc_210 (fc_210_28 hI30) (by decide) dX11_readRule_25 ?_
  refine j_aload_n hX dX11_readRule_28 rfl 0 rfl ?_
  refine gf_X11_270 hX (by omega) (by omega) kc_210 dX11_readRule_29 ?_
  refine j_top hk35 ?_
  refine j_iload_n hX dX11_readRule_32 rfl 1 rfl ?_
  refine j_iadd hX dX11_readRule_33 ?_
  refine j_aload_n hX dX11_readRule_34 rfl 0 rfl ?_
  refine gf_X11_273 hX (by omega) (by omega) kc_210 dX11_readRule_35 ?_
  refine j_name hI30 ro_210_42 (fun v41 hv42 hl43 hh44 => ?_)
  have hk45 := hv42.symm
  refine j_iast hX (by omega) (by omega) kc_230 (by omega) (by omega) (by omega) (by omega) dX11_readRule_38 ?_
  refine j_up hI30 (ra_230 _) (by omega) (by omega) (Or.inl (by omega)) (fun M46 w47 hw48 hM49 hI50 hf51 => ?_)
  have hV52 := ML_dp (M' := M46) hq32 (fun a b h => by rw [hM49]; exact up_ne (by omega))
  have hV53 := CF_dp (M' := M46) hV40 (fun a b h => by rw [hM49]; exact up_ne (by omega))
  have hk54 := kp_up hM49 (fun h => absurd h.1 (by decide)) hk35
  have hk55 := kp_up hM49 (fun h => absurd h.1 (by decide)) hk36
  have hk56 := kp_up hM49 (fun h => absurd h.1 (by decide)) hk38
  have hk57 := kp_up hM49 (fun h => absurd h.1 (by decide)) hk45
  clear hk35 hk36 hk38 hk45
  have hF58 := Fr.put hF37 hM49 ((Or.inr (Or.inr (Or.inr (Or.inr (Or.inl ⟨rfl, by omega, by omega⟩))))))
  exact hret _ _ _ dX11_readRule_39 ⟨hI50, hF58, hV52, fun h => rwf_mk (j := w + a) (hdn (by omega)) (by omega) (by omega) (by omega) (by omega) hV53⟩
set_option maxHeartbeats 2000000 in
set_option maxRecDepth 20000 in
theorem c_X11_clearBank (l : Launch) (D : va_G) (cy : Nat → ClassId) (B N : Nat) (w : Int) (M : MM) (hN : 257 ≤ N) (hI : Iv M) (hw : M.1 210 41 = w) : CV l D cy B N 1 yX11_clearBank cX11_clearBank 1 none [rv B 210] M (fun M' => Iv M' ∧ Fr (fun a b => (a = 213 ∧ w ≤ b ∧ b ≤ w) ∨ (a = 214 ∧ w ≤ b ∧ b ≤ w) ∨ (a = 215 ∧ w ≤ b ∧ b ≤ w) ∨ (a = 216 ∧ w ≤ b ∧ b ≤ w) ∨ (a = 217 ∧ w ≤ b ∧ b ≤ w) ∨ (a = 218 ∧ w ≤ b ∧ b ≤ w) ∨ (a = 225 ∧ w ≤ b ∧ b ≤ w) ∨ (a = 231 ∧ w ≤ b ∧ b ≤ w) ∨ (a = 232 ∧ w ≤ b ∧ b ≤ w) ∨ (a = 233 ∧ w ≤ b ∧ b ≤ w) ∨ (a = 234 ∧ w ≤ b ∧ b ≤ w) ∨ (a = 210 ∧ 42 ≤ b ∧ b ≤ 42)) M M' ∧ (M'.1 213 w = 0 ∧ M'.1 231 w = 0 ∧ M'.1 232 w = 0 ∧ M'.1 210 42 = 560 * w)) := by
  refine mk_CV (by decide) (Nat.le_of_ble_eq_true rfl) ?_
  intro X exl exD excy hnL hX hret
  have hce : 0 + 0 ≤ (xR X).cells ∧ 0 + 0 ≤ (xR X).slots := ⟨Nat.zero_le _, Nat.zero_le _⟩
  have hF : Fr (fun a b => (a = 213 ∧ w ≤ b ∧ b ≤ w) ∨ (a = 214 ∧ w ≤ b ∧ b ≤ w) ∨ (a = 215 ∧ w ≤ b ∧ b ≤ w) ∨ (a = 216 ∧ w ≤ b ∧ b ≤ w) ∨ (a = 217 ∧ w ≤ b ∧ b ≤ w) ∨ (a = 218 ∧ w ≤ b ∧ b ≤ w) ∨ (a = 225 ∧ w ≤ b ∧ b ≤ w) ∨ (a = 231 ∧ w ≤ b ∧ b ≤ w) ∨ (a = 232 ∧ w ≤ b ∧ b ≤ w) ∨ (a = 233 ∧ w ≤ b ∧ b ≤ w) ∨ (a = 234 ∧ w ≤ b ∧ b ≤ w) ∨ (a = 210 ∧ 42 ≤ b ∧ b ≤ 42)) M M := Fr.rf
  have hw2 : 0 ≤ w ∧ w ≤ 1 := by have := hI.at 210 41 ro_210_41; omega
  show J X B N 0 0 0 [(0, rv B 210)] [] M
  refine j_aload_n hX dX11_clearBank_0 rfl 0 rfl ?_
  refine gf_X11_20 hX (by omega) (by omega) kc_210 (fc_210_11 hI) (by decide) dX11_clearBank_1 ?_
  refine j_aload_n hX dX11_clearBank_4 rfl 0 rfl ?_
  refine gf_X11_270 hX (by omega) (by omega) kc_210 dX11_clearBank_5 ?_
  refine j_top hw ?_
  refine j_iconst hX dX11_clearBank_8 ?_
  refine j_iast hX (by omega) (by omega) kc_213 (by omega) (by omega) (by omega) (by omega) dX11_clearBank_9 ?_
  refine j_up hI (ra_213 _) (by omega) (by omega) (Or.inl (by omega)) (fun M1 w2 hw3 hM4 hI5 hf6 => ?_)
  have hk7 := kp_up hM4 (fun h => absurd h.1 (by decide)) hw
  have hF8 := Fr.put hF hM4 ((Or.inl ⟨rfl, by omega, by omega⟩))
  refine j_aload_n hX dX11_clearBank_10 rfl 0 rfl ?_
  refine gf_X11_24 hX (by omega) (by omega) kc_210 (fc_210_12 hI5) (by decide) dX11_clearBank_11 ?_
  refine j_aload_n hX dX11_clearBank_14 rfl 0 rfl ?_
  refine gf_X11_270 hX (by omega) (by omega) kc_210 dX11_clearBank_15 ?_
  refine j_top hk7 ?_
  refine j_iconst hX dX11_clearBank_18 ?_
  refine j_iast hX (by omega) (by omega) kc_214 (by omega) (by omega) (by omega) (by omega) dX11_clearBank_19 ?_
  refine j_up hI5 (ra_214 _) (by omega) (by omega) (Or.inl (by omega)) (fun M9 w10 hw11 hM12 hI13 hf14 => ?_)
  have hk15 := kp_up hM12 (fun h => absurd h.1 (by decide)) hk7
  have hk16 := kp_up hM12 (fun h => absurd h.1 (by decide)) hf6
  clear hk7 hf6
  have hF17 := Fr.put hF8 hM12 ((Or.inr (Or.inl ⟨rfl, by omega, by omega⟩)))
  refine j_aload_n hX dX11_clearBank_20 rfl 0 rfl ?_
  refine gf_X11_27 hX (by omega) (by omega) kc_210 (fc_210_13 hI13) (by decide) dX11_clearBank_21 ?_
  refine j_aload_n hX dX11_clearBank_24 rfl 0 rfl ?_
  refine gf_X11_270 hX (by omega) (by omega) kc_210 dX11_clearBank_25 ?_
  refine j_top hk15 ?_
  refine j_iconst hX dX11_clearBank_28 ?_
  refine j_iast hX (by omega) (by omega) kc_215 (by omega) (by omega) (by omega) (by omega) dX11_clearBank_29 ?_
  refine j_up hI13 (ra_215 _) (by omega) (by omega) (Or.inl (by omega)) (fun M18 w19 hw20 hM21 hI22 hf23 => ?_)
  have hk24 := kp_up hM21 (fun h => absurd h.1 (by decide)) hk15
  have hk25 := kp_up hM21 (fun h => absurd h.1 (by decide)) hk16
  clear hk15 hk16
  have hF26 := Fr.put hF17 hM21 ((Or.inr (Or.inr (Or.inl ⟨rfl, by omega, by omega⟩))))
  refine j_aload_n hX dX11_clearBank_30 rfl 0 rfl ?_
  refine gf_X11_30 hX (by omega) (by omega) kc_210 (fc_210_14 hI22) (by decide) dX11_clearBank_31 ?_
  refine j_aload_n hX dX11_clearBank_34 rfl 0 rfl ?_
  refine gf_X11_270 hX (by omega) (by omega) kc_210 dX11_clearBank_35 ?_
  refine j_top hk24 ?_
  refine j_iconst hX dX11_clearBank_38 ?_
  refine j_iast hX (by omega) (by omega) kc_216 (by omega) (by omega) (by omega) (by omega) dX11_clearBank_39 ?_
  refine j_up hI22 (ra_216 _) (by omega) (by omega) (Or.inl (by omega)) (fun M27 w28 hw29 hM30 hI31 hf32 => ?_)
  have hk33 := kp_up hM30 (fun h => absurd h.1 (by decide)) hk24
  have hk34 := kp_up hM30 (fun h => absurd h.1 (by decide)) hk25
  clear hk24 hk25
  have hF35 := Fr.put hF26 hM30 ((Or.inr (Or.inr (Or.inr (Or.inl ⟨rfl, by omega, by omega⟩)))))
  refine j_aload_n hX dX11_clearBank_40 rfl 0 rfl ?_
  refine gf_X11_33 hX (by omega) (by omega) kc_210 (fc_210_15 hI31) (by decide) dX11_clearBank_41 ?_
  refine j_aload_n hX dX11_clearBank_44 rfl 0 rfl ?_
  refine gf_X11_270 hX (by omega) (by omega) kc_210 dX11_clearBank_45 ?_
  refine j_top hk33 ?_
  refine j_iconst hX dX11_clearBank_48 ?_
  refine j_iast hX (by omega) (by omega) kc_217 (by omega) (by omega) (by omega) (by omega) dX11_clearBank_49 ?_
  refine j_up hI31 (ra_217 _) (by omega) (by omega) (Or.inl (by omega)) (fun M36 w37 hw38 hM39 hI40 hf41 => ?_)
  have hk42 := kp_up hM39 (fun h => absurd h.1 (by decide)) hk33
  have hk43 := kp_up hM39 (fun h => absurd h.1 (by decide)) hk34
  clear hk33 hk34
  have hF44 := Fr.put hF35 hM39 ((Or.inr (Or.inr (Or.inr (Or.inr (Or.inl ⟨rfl, by omega, by omega⟩))))))
  refine j_aload_n hX dX11_clearBank_50 rfl 0 rfl ?_
  refine gf_X11_36 hX (by omega) (by omega) kc_210 (fc_210_16 hI40) (by decide) dX11_clearBank_51 ?_
  refine j_aload_n hX dX11_clearBank_54 rfl 0 rfl ?_
  refine gf_X11_270 hX (by omega) (by omega) kc_210 dX11_clearBank_55 ?_
  refine j_top hk42 ?_
  refine j_iconst hX dX11_clearBank_58 ?_
  refine j_iast hX (by omega) (by omega) kc_218 (by omega) (by omega) (by omega) (by omega) dX11_clearBank_59 ?_
  refine j_up hI40 (ra_218 _) (by omega) (by omega) (Or.inl (by omega)) (fun M45 w46 hw47 hM48 hI49 hf50 => ?_)
  have hk51 := kp_up hM48 (fun h => absurd h.1 (by decide)) hk42
  have hk52 := kp_up hM48 (fun h => absurd h.1 (by decide)) hk43
  clear hk42 hk43
  have hF53 := Fr.put hF44 hM48 ((Or.inr (Or.inr (Or.inr (Or.inr (Or.inr (Or.inl ⟨rfl, by omega, by omega⟩)))))))
  refine j_aload_n hX dX11_clearBank_60 rfl 0 rfl ?_
  refine gf_X11_57 hX (by omega) (by omega) kc_210 (fc_210_23 hI49) (by decide) dX11_clearBank_61 ?_
  refine j_aload_n hX dX11_clearBank_64 rfl 0 rfl ?_
  refine gf_X11_270 hX (by omega) (by omega) kc_210 dX11_clearBank_65 ?_
  refine j_top hk51 ?_
  refine j_iconst hX dX11_clearBank_68 ?_
  refine j_iast hX (by omega) (by omega) kc_225 (by omega) (by omega) (by omega) (by omega) dX11_clearBank_69 ?_
  refine j_up hI49 (ra_225 _) (by omega) (by omega) (Or.inl (by omega)) (fun M54 w55 hw56 hM57 hI58 hf59 => ?_)
  have hk60 := kp_up hM57 (fun h => absurd h.1 (by decide)) hk51
  have hk61 := kp_up hM57 (fun h => absurd h.1 (by decide)) hk52
  clear hk51 hk52
  have hF62 := Fr.put hF53 hM57 ((Or.inr (Or.inr (Or.inr (Or.inr (Or.inr (Or.inr (Or.inl ⟨rfl, by omega, by omega⟩))))))))
  refine j_aload_n hX dX11_clearBank_70 rfl 0 rfl ?_
  refine gf_X11_75 hX (by omega) (by omega) kc_210 (fc_210_29 hI58) (by decide) dX11_clearBank_71 ?_
  refine j_aload_n hX dX11_clearBank_74 rfl 0 rfl ?_
  refine gf_X11_270 hX (by omega) (by omega) kc_210 dX11_clearBank_75 ?_
  refine j_top hk60 ?_
  refine j_iconst hX dX11_clearBank_78 ?_
  refine j_zast hX (by omega) (by omega) kc_231 (by omega) (by omega) (by omega) (by omega) dX11_clearBank_79 ?_
  refine j_up hI58 (ra_231 _) (by omega) (by omega) (Or.inl (by omega)) (fun M63 w64 hw65 hM66 hI67 hf68 => ?_)
  have hk69 := kp_up hM66 (fun h => absurd h.1 (by decide)) hk60
  have hk70 := kp_up hM66 (fun h => absurd h.1 (by decide)) hk61
  clear hk60 hk61
  have hF71 := Fr.put hF62 hM66 ((Or.inr (Or.inr (Or.inr (Or.inr (Or.inr (Or.inr (Or.inr (Or.inl ⟨rfl, by omega, by omega⟩)))))))))
  refine j_aload_n hX dX11_clearBank_80 rfl 0 rfl ?_
  refine gf_X11_79 hX (by omega) (by omega) kc_210 (fc_210_30 hI67) (by decide) dX11_clearBank_81 ?_
  refine j_aload_n hX dX11_clearBank_84 rfl 0 rfl ?_
  refine gf_X11_270 hX (by omega) (by omega) kc_210 dX11_clearBank_85 ?_
  refine j_top hk69 ?_
  refine j_iconst hX dX11_clearBank_88 ?_
  refine j_zast hX (by omega) (by omega) kc_232 (by omega) (by omega) (by omega) (by omega) dX11_clearBank_89 ?_
  refine j_up hI67 (ra_232 _) (by omega) (by omega) (Or.inl (by omega)) (fun M72 w73 hw74 hM75 hI76 hf77 => ?_)
  have hk78 := kp_up hM75 (fun h => absurd h.1 (by decide)) hk69
  have hk79 := kp_up hM75 (fun h => absurd h.1 (by decide)) hk70
  have hk80 := kp_up hM75 (fun h => absurd h.1 (by decide)) hf68
  clear hk69 hk70 hf68
  have hF81 := Fr.put hF71 hM75 ((Or.inr (Or.inr (Or.inr (Or.inr (Or.inr (Or.inr (Or.inr (Or.inr (Or.inl ⟨rfl, by omega, by omega⟩))))))))))
  refine j_aload_n hX dX11_clearBank_90 rfl 0 rfl ?_
  refine gf_X11_82 hX (by omega) (by omega) kc_210 (fc_210_31 hI76) (by decide) dX11_clearBank_91 ?_
  refine j_aload_n hX dX11_clearBank_94 rfl 0 rfl ?_
  refine gf_X11_270 hX (by omega) (by omega) kc_210 dX11_clearBank_95 ?_
  refine j_top hk78 ?_
  refine j_iconst hX dX11_clearBank_98 ?_
  refine j_zast hX (by omega) (by omega) kc_233 (by omega) (by omega) (by omega) (by omega) dX11_clearBank_99 ?_
  refine j_up hI76 (ra_233 _) (by omega) (by omega) (Or.inl (by omega)) (fun M82 w83 hw84 hM85 hI86 hf87 => ?_)
  have hk88 := kp_up hM85 (fun h => absurd h.1 (by decide)) hk78
  have hk89 := kp_up hM85 (fun h => absurd h.1 (by decide)) hk79
  have hk90 := kp_up hM85 (fun h => absurd h.1 (by decide)) hk80
  have hk91 := kp_up hM85 (fun h => absurd h.1 (by decide)) hf77
  clear hk78 hk79 hk80 hf77
  have hF92 := Fr.put hF81 hM85 ((Or.inr (Or.inr (Or.inr (Or.inr (Or.inr (Or.inr (Or.inr (Or.inr (Or.inr (Or.inl ⟨rfl, by omega, by omega⟩)))))))))))
  refine j_aload_n hX dX11_clearBank_100 rfl 0 rfl ?_
  refine gf_X11_85 hX (by omega) (by omega) kc_210 (fc_210_32 hI86) (by decide) dX11_clearBank_101 ?_
  refine j_aload_n hX dX11_clearBank_104 rfl 0 rfl ?_
  refine gf_X11_270 hX (by omega) (by omega) kc_210 dX11_clearBank_105 ?_
  refine j_top hk88 ?_
  refine j_iconst hX dX11_clearBank_108 ?_
  refine j_zast hX (by omega) (by omega) kc_234 (by omega) (by omega) (by omega) (by omega) dX11_clearBank_109 ?_
  refine j_up hI86 (ra_234 _) (by omega) (by omega) (Or.inl (by omega)) (fun M93 w94 hw95 hM96 hI97 hf98 => ?_)
  have hk99 := kp_up hM96 (fun h => absurd h.1 (by decide)) hk88
  have hk100 := kp_up hM96 (fun h => absurd h.1 (by decide)) hk89
  have hk101 := kp_up hM96 (fun h => absurd h.1 (by decide)) hk90
  have hk102 := kp_up hM96 (fun h => absurd h.1 (by decide)) hk91
  clear hk88 hk89 hk90 hk91
  have hF103 := Fr.put hF92 hM96 ((Or.inr (Or.inr (Or.inr (Or.inr (Or.inr (Or.inr (Or.inr (Or.inr (Or.inr (Or.inr (Or.inl ⟨rfl, by omega, by omega⟩))))))))))))
  refine j_aload_n hX dX11_clearBank_110 rfl 0 rfl ?_
  refine j_sipush hX dX11_clearBank_111 rfl ?_
  refine j_aload_n hX dX11_clearBank_114 rfl 0 rfl ?_
  refine gf_X11_270 hX (by omega) (by omega) kc_210 dX11_clearBank_115 ?_
  refine j_top hk99 ?_
  refine j_imul hX dX11_clearBank_118 ?_
  refine pf_X11_273 hX (by omega) (by omega) kc_210 (by omega) dX11_clearBank_119 ?_
  refine j_up hI97 ro_210_42 (by omega) (by omega) (Or.inl (by omega)) (fun M104 w105 hw106 hM107 hI108 hf109 => ?_)
  have hk110 := kp_up hM107 (fun h => absurd h.2 (by decide)) hk99
  have hk111 := kp_up hM107 (fun h => absurd h.1 (by decide)) hk100
  have hk112 := kp_up hM107 (fun h => absurd h.1 (by decide)) hk101
  have hk113 := kp_up hM107 (fun h => absurd h.1 (by decide)) hk102
  clear hk99 hk100 hk101 hk102
  have hF114 := Fr.put hF103 hM107 ((Or.inr (Or.inr (Or.inr (Or.inr (Or.inr (Or.inr (Or.inr (Or.inr (Or.inr (Or.inr (Or.inr ⟨rfl, by decide, by decide⟩))))))))))))
  exact hret _ _ _ dX11_clearBank_122 ⟨hI108, hF114, by first | assumption | omega⟩
set_option maxHeartbeats 2000000 in
set_option maxRecDepth 20000 in
theorem c_X11_isFull (l : Launch) (D : va_G) (cy : Nat → ClassId) (B N : Nat) (w : Int) (M : MM) (hN : 257 ≤ N) (hI : Iv M) (hw : M.1 210 41 = w) : CI l D cy B N 2 yX11_isFull cX11_isFull 1 (some .boolean) [rv B 210] M (fun z M' => M' = M ∧ (0 ≤ z ∧ z ≤ 1) ∧ (z = 0 → M.1 210 8 = 3 → FU w M)) := by
  refine mk_CI (by decide) (Nat.le_of_ble_eq_true rfl) ?_
  intro X exl exD excy hnL hX hret
  have hce : 0 + 0 ≤ (xR X).cells ∧ 0 + 0 ≤ (xR X).slots := ⟨Nat.zero_le _, Nat.zero_le _⟩
  have hw2 : 0 ≤ w ∧ w ≤ 1 := by have := hI.at 210 41 ro_210_41; omega
  show J X B N 0 0 0 [(0, rv B 210)] [] M
  refine j_aload_n hX dX11_isFull_0 rfl 0 rfl ?_
  refine j_ldc2 hX (in_6 188 (by first | rfl | decide +kernel) rfl) dX11_isFull_1 ?_
  refine j_callVI hX lk_X11_259 (c_X11_isWord _ _ _ _ _ _ _ (by omega) hI) (by omega) hce rfl rfl (by omega) (by omega) kc_210 rfl rfl (Nat.le_of_ble_eq_true rfl) dX11_isFull_4 (fun z1 M2 hz4 hp3 => ?_)
  obtain ⟨hE5, hb6, hq7, hq8⟩ := hp3
  replace hE5 := hE5.symm
  subst hE5
  refine j_if_eq (tgt := 42) hX dX11_isFull_7 (by decide) (by omega) (fun hc9 => ?_) (fun hc9 => ?_)
  · skip
    clear hq7
    have hi10 := hq8 (by omega)
    clear hq8
    refine j_aload_n hX dX11_isFull_42 rfl 0 rfl ?_
    refine j_ldc2 hX (in_6 191 (by first | rfl | decide +kernel) rfl) dX11_isFull_43 ?_
    refine j_callVI hX lk_X11_259 (c_X11_isWord _ _ _ _ _ _ _ (by omega) hI) (by omega) hce rfl rfl (by omega) (by omega) kc_210 rfl rfl (Nat.le_of_ble_eq_true rfl) dX11_isFull_46 (fun z11 M12 hz14 hp13 => ?_)
    obtain ⟨hE15, hb16, hq17, hq18⟩ := hp13
    replace hE15 := hE15.symm
    subst hE15
    refine j_if_eq (tgt := 62) hX dX11_isFull_49 (by decide) (by omega) (fun hc19 => ?_) (fun hc19 => ?_)
    · skip
      clear hq17
      have hi20 := hq18 (by omega)
      clear hq18
      refine j_aload_n hX dX11_isFull_62 rfl 0 rfl ?_
      refine j_ldc2 hX (in_6 192 (by first | rfl | decide +kernel) rfl) dX11_isFull_63 ?_
      refine j_callVI hX lk_X11_259 (c_X11_isWord _ _ _ _ _ _ _ (by omega) hI) (by omega) hce rfl rfl (by omega) (by omega) kc_210 rfl rfl (Nat.le_of_ble_eq_true rfl) dX11_isFull_66 (fun z21 M22 hz24 hp23 => ?_)
      obtain ⟨hE25, hb26, hq27, hq28⟩ := hp23
      replace hE25 := hE25.symm
      subst hE25
      refine j_if_eq (tgt := 92) hX dX11_isFull_69 (by decide) (by omega) (fun hc29 => ?_) (fun hc29 => ?_)
      · skip
        clear hq27
        have hi30 := hq28 (by omega)
        clear hq28
        refine j_aload_n hX dX11_isFull_92 rfl 0 rfl ?_
        refine j_ldc2 hX (in_6 198 (by first | rfl | decide +kernel) rfl) dX11_isFull_93 ?_
        refine j_callVI hX lk_X11_259 (c_X11_isWord _ _ _ _ _ _ _ (by omega) hI) (by omega) hce rfl rfl (by omega) (by omega) kc_210 rfl rfl (Nat.le_of_ble_eq_true rfl) dX11_isFull_96 (fun z31 M32 hz34 hp33 => ?_)
        obtain ⟨hE35, hb36, hq37, hq38⟩ := hp33
        replace hE35 := hE35.symm
        subst hE35
        refine j_if_eq (tgt := 112) hX dX11_isFull_99 (by decide) (by omega) (fun hc39 => ?_) (fun hc39 => ?_)
        · skip
          clear hq37
          have hi40 := hq38 (by omega)
          clear hq38
          refine j_aload_n hX dX11_isFull_112 rfl 0 rfl ?_
          refine j_ldc2 hX (in_6 199 (by first | rfl | decide +kernel) rfl) dX11_isFull_113 ?_
          refine j_callVI hX lk_X11_259 (c_X11_isWord _ _ _ _ _ _ _ (by omega) hI) (by omega) hce rfl rfl (by omega) (by omega) kc_210 rfl rfl (Nat.le_of_ble_eq_true rfl) dX11_isFull_116 (fun z41 M42 hz44 hp43 => ?_)
          obtain ⟨hE45, hb46, hq47, hq48⟩ := hp43
          replace hE45 := hE45.symm
          subst hE45
          refine j_if_eq (tgt := 132) hX dX11_isFull_119 (by decide) (by omega) (fun hc49 => ?_) (fun hc49 => ?_)
          · skip
            clear hq47
            have hi50 := hq48 (by omega)
            clear hq48
            refine j_aload_n hX dX11_isFull_132 rfl 0 rfl ?_
            refine j_ldc2 hX (in_6 201 (by first | rfl | decide +kernel) rfl) dX11_isFull_133 ?_
            refine j_callVI hX lk_X11_259 (c_X11_isWord _ _ _ _ _ _ _ (by omega) hI) (by omega) hce rfl rfl (by omega) (by omega) kc_210 rfl rfl (Nat.le_of_ble_eq_true rfl) dX11_isFull_136 (fun z51 M52 hz54 hp53 => ?_)
            obtain ⟨hE55, hb56, hq57, hq58⟩ := hp53
            replace hE55 := hE55.symm
            subst hE55
            refine j_if_eq (tgt := 152) hX dX11_isFull_139 (by decide) (by omega) (fun hc59 => ?_) (fun hc59 => ?_)
            · skip
              clear hq57
              have hi60 := hq58 (by omega)
              clear hq58
              refine j_aload_n hX dX11_isFull_152 rfl 0 rfl ?_
              refine j_ldc2 hX (in_6 196 (by first | rfl | decide +kernel) rfl) dX11_isFull_153 ?_
              refine j_callVI hX lk_X11_259 (c_X11_isWord _ _ _ _ _ _ _ (by omega) hI) (by omega) hce rfl rfl (by omega) (by omega) kc_210 rfl rfl (Nat.le_of_ble_eq_true rfl) dX11_isFull_156 (fun z61 M62 hz64 hp63 => ?_)
              obtain ⟨hE65, hb66, hq67, hq68⟩ := hp63
              replace hE65 := hE65.symm
              subst hE65
              refine j_if_ne (tgt := 176) hX dX11_isFull_159 (by decide) (by omega) (fun hc69 => ?_) (fun hc69 => ?_)
              · skip
                have hi70 := hq67 (by omega)
                clear hq67
                clear hq68
                refine j_iconst hX dX11_isFull_176 ?_
                exact hret _ _ _ _ dX11_isFull_177 (nb (by omega)) (by omega) ⟨rfl, by omega, by first | (intro h; exfalso; omega) | exact fun _ h8 => ⟨fun e => by first | omega | exact absurd (And.intro h8 e) (by assumption) | exact absurd (e.symm.trans (by assumption : M.1 210 8 = 3 ∧ M.2 210 10 = _).2) (by decide), fun e => by first | omega | exact absurd (And.intro h8 e) (by assumption) | exact absurd (e.symm.trans (by assumption : M.1 210 8 = 3 ∧ M.2 210 10 = _).2) (by decide), fun e => by first | omega | exact absurd (And.intro h8 e) (by assumption) | exact absurd (e.symm.trans (by assumption : M.1 210 8 = 3 ∧ M.2 210 10 = _).2) (by decide), fun e => by first | omega | exact absurd (And.intro h8 e) (by assumption) | exact absurd (e.symm.trans (by assumption : M.1 210 8 = 3 ∧ M.2 210 10 = _).2) (by decide)⟩⟩
              · skip
                clear hq67
                have hi71 := hq68 (by omega)
                clear hq68
                refine j_aload_n hX dX11_isFull_162 rfl 0 rfl ?_
                refine j_ldc2 hX (in_6 197 (by first | rfl | decide +kernel) rfl) dX11_isFull_163 ?_
                refine j_callVI hX lk_X11_259 (c_X11_isWord _ _ _ _ _ _ _ (by omega) hI) (by omega) hce rfl rfl (by omega) (by omega) kc_210 rfl rfl (Nat.le_of_ble_eq_true rfl) dX11_isFull_166 (fun z72 M73 hz75 hp74 => ?_)
                obtain ⟨hE76, hb77, hq78, hq79⟩ := hp74
                replace hE76 := hE76.symm
                subst hE76
                refine j_if_ne (tgt := 176) hX dX11_isFull_169 (by decide) (by omega) (fun hc80 => ?_) (fun hc80 => ?_)
                · skip
                  have hi81 := hq78 (by omega)
                  clear hq78
                  clear hq79
                  refine j_iconst hX dX11_isFull_176 ?_
                  exact hret _ _ _ _ dX11_isFull_177 (nb (by omega)) (by omega) ⟨rfl, by omega, by first | (intro h; exfalso; omega) | exact fun _ h8 => ⟨fun e => by first | omega | exact absurd (And.intro h8 e) (by assumption) | exact absurd (e.symm.trans (by assumption : M.1 210 8 = 3 ∧ M.2 210 10 = _).2) (by decide), fun e => by first | omega | exact absurd (And.intro h8 e) (by assumption) | exact absurd (e.symm.trans (by assumption : M.1 210 8 = 3 ∧ M.2 210 10 = _).2) (by decide), fun e => by first | omega | exact absurd (And.intro h8 e) (by assumption) | exact absurd (e.symm.trans (by assumption : M.1 210 8 = 3 ∧ M.2 210 10 = _).2) (by decide), fun e => by first | omega | exact absurd (And.intro h8 e) (by assumption) | exact absurd (e.symm.trans (by assumption : M.1 210 8 = 3 ∧ M.2 210 10 = _).2) (by decide)⟩⟩
                · skip
                  clear hq78
                  have hi82 := hq79 (by omega)
                  clear hq79
                  refine j_iconst hX dX11_isFull_172 ?_
                  refine j_goto (tgt := 177) hX dX11_isFull_173 (by decide) ?_
                  exact hret _ _ _ _ dX11_isFull_177 (nb (by omega)) (by omega) ⟨rfl, by omega, by first | (intro h; exfalso; omega) | exact fun _ h8 => ⟨fun e => by first | omega | exact absurd (And.intro h8 e) (by assumption) | exact absurd (e.symm.trans (by assumption : M.1 210 8 = 3 ∧ M.2 210 10 = _).2) (by decide), fun e => by first | omega | exact absurd (And.intro h8 e) (by assumption) | exact absurd (e.symm.trans (by assumption : M.1 210 8 = 3 ∧ M.2 210 10 = _).2) (by decide), fun e => by first | omega | exact absurd (And.intro h8 e) (by assumption) | exact absurd (e.symm.trans (by assumption : M.1 210 8 = 3 ∧ M.2 210 10 = _).2) (by decide), fun e => by first | omega | exact absurd (And.intro h8 e) (by assumption) | exact absurd (e.symm.trans (by assumption : M.1 210 8 = 3 ∧ M.2 210 10 = _).2) (by decide)⟩⟩
            · skip
              have hi83 := hq57 (by omega)
              clear hq57
              clear hq58
              refine j_aload_n hX dX11_isFull_142 rfl 0 rfl ?_
              refine gf_X11_85 hX (by omega) (by omega) kc_210 (fc_210_32 hI) (by decide) dX11_isFull_143 ?_
              refine j_aload_n hX dX11_isFull_146 rfl 0 rfl ?_
              refine gf_X11_270 hX (by omega) (by omega) kc_210 dX11_isFull_147 ?_
              refine j_top hw ?_
              refine j_zald hX (by omega) (by omega) kc_234 (by omega) (by omega) (by omega) dX11_isFull_150 ?_
              refine j_name hI (ra_234 _) (fun v84 hv85 hl86 hh87 => ?_)
              exact hret _ _ _ _ dX11_isFull_151 (nb (by omega)) (by omega) ⟨rfl, by omega, by first | (intro h; exfalso; omega) | exact fun _ h8 => ⟨fun e => by first | omega | exact absurd (And.intro h8 e) (by assumption) | exact absurd (e.symm.trans (by assumption : M.1 210 8 = 3 ∧ M.2 210 10 = _).2) (by decide), fun e => by first | omega | exact absurd (And.intro h8 e) (by assumption) | exact absurd (e.symm.trans (by assumption : M.1 210 8 = 3 ∧ M.2 210 10 = _).2) (by decide), fun e => by first | omega | exact absurd (And.intro h8 e) (by assumption) | exact absurd (e.symm.trans (by assumption : M.1 210 8 = 3 ∧ M.2 210 10 = _).2) (by decide), fun e => by first | omega | exact absurd (And.intro h8 e) (by assumption) | exact absurd (e.symm.trans (by assumption : M.1 210 8 = 3 ∧ M.2 210 10 = _).2) (by decide)⟩⟩
          · skip
            have hi88 := hq47 (by omega)
            clear hq47
            clear hq48
            refine j_aload_n hX dX11_isFull_122 rfl 0 rfl ?_
            refine gf_X11_82 hX (by omega) (by omega) kc_210 (fc_210_31 hI) (by decide) dX11_isFull_123 ?_
            refine j_aload_n hX dX11_isFull_126 rfl 0 rfl ?_
            refine gf_X11_270 hX (by omega) (by omega) kc_210 dX11_isFull_127 ?_
            refine j_top hw ?_
            refine j_zald hX (by omega) (by omega) kc_233 (by omega) (by omega) (by omega) dX11_isFull_130 ?_
            refine j_name hI (ra_233 _) (fun v89 hv90 hl91 hh92 => ?_)
            exact hret _ _ _ _ dX11_isFull_131 (nb (by omega)) (by omega) ⟨rfl, by omega, by first | (intro h; exfalso; omega) | exact fun _ h8 => ⟨fun e => by first | omega | exact absurd (And.intro h8 e) (by assumption) | exact absurd (e.symm.trans (by assumption : M.1 210 8 = 3 ∧ M.2 210 10 = _).2) (by decide), fun e => by first | omega | exact absurd (And.intro h8 e) (by assumption) | exact absurd (e.symm.trans (by assumption : M.1 210 8 = 3 ∧ M.2 210 10 = _).2) (by decide), fun e => by first | omega | exact absurd (And.intro h8 e) (by assumption) | exact absurd (e.symm.trans (by assumption : M.1 210 8 = 3 ∧ M.2 210 10 = _).2) (by decide), fun e => by first | omega | exact absurd (And.intro h8 e) (by assumption) | exact absurd (e.symm.trans (by assumption : M.1 210 8 = 3 ∧ M.2 210 10 = _).2) (by decide)⟩⟩
        · skip
          have hi93 := hq37 (by omega)
          clear hq37
          clear hq38
          refine j_aload_n hX dX11_isFull_102 rfl 0 rfl ?_
          refine gf_X11_79 hX (by omega) (by omega) kc_210 (fc_210_30 hI) (by decide) dX11_isFull_103 ?_
          refine j_aload_n hX dX11_isFull_106 rfl 0 rfl ?_
          refine gf_X11_270 hX (by omega) (by omega) kc_210 dX11_isFull_107 ?_
          refine j_top hw ?_
          refine j_zald hX (by omega) (by omega) kc_232 (by omega) (by omega) (by omega) dX11_isFull_110 ?_
          refine j_name hI (ra_232 _) (fun v94 hv95 hl96 hh97 => ?_)
          exact hret _ _ _ _ dX11_isFull_111 (nb (by omega)) (by omega) ⟨rfl, by omega, by first | (intro h; exfalso; omega) | exact fun _ h8 => ⟨fun e => by first | omega | exact absurd (And.intro h8 e) (by assumption) | exact absurd (e.symm.trans (by assumption : M.1 210 8 = 3 ∧ M.2 210 10 = _).2) (by decide), fun e => by first | omega | exact absurd (And.intro h8 e) (by assumption) | exact absurd (e.symm.trans (by assumption : M.1 210 8 = 3 ∧ M.2 210 10 = _).2) (by decide), fun e => by first | omega | exact absurd (And.intro h8 e) (by assumption) | exact absurd (e.symm.trans (by assumption : M.1 210 8 = 3 ∧ M.2 210 10 = _).2) (by decide), fun e => by first | omega | exact absurd (And.intro h8 e) (by assumption) | exact absurd (e.symm.trans (by assumption : M.1 210 8 = 3 ∧ M.2 210 10 = _).2) (by decide)⟩⟩
      · skip
        have hi98 := hq27 (by omega)
        clear hq27
        clear hq28
        refine j_aload_n hX dX11_isFull_72 rfl 0 rfl ?_
        refine gf_X11_24 hX (by omega) (by omega) kc_210 (fc_210_12 hI) (by decide) dX11_isFull_73 ?_
        refine j_aload_n hX dX11_isFull_76 rfl 0 rfl ?_
        refine gf_X11_270 hX (by omega) (by omega) kc_210 dX11_isFull_77 ?_
        refine j_top hw ?_
        refine j_iald hX (by omega) (by omega) kc_214 (by omega) (by omega) (by omega) dX11_isFull_80 ?_
        refine j_name hI (ra_214 _) (fun v99 hv100 hl101 hh102 => ?_)
        refine j_bipush hX dX11_isFull_81 rfl ?_
        refine j_icmp_ne (tgt := 90) hX dX11_isFull_83 (by decide) (by omega) (by omega) (fun hc103 => ?_) (fun hc103 => ?_)
        · skip
          refine j_iconst hX dX11_isFull_90 ?_
          exact hret _ _ _ _ dX11_isFull_91 (nb (by omega)) (by omega) ⟨rfl, by omega, by first | (intro h; exfalso; omega) | exact fun _ h8 => ⟨fun e => by first | omega | exact absurd (And.intro h8 e) (by assumption) | exact absurd (e.symm.trans (by assumption : M.1 210 8 = 3 ∧ M.2 210 10 = _).2) (by decide), fun e => by first | omega | exact absurd (And.intro h8 e) (by assumption) | exact absurd (e.symm.trans (by assumption : M.1 210 8 = 3 ∧ M.2 210 10 = _).2) (by decide), fun e => by first | omega | exact absurd (And.intro h8 e) (by assumption) | exact absurd (e.symm.trans (by assumption : M.1 210 8 = 3 ∧ M.2 210 10 = _).2) (by decide), fun e => by first | omega | exact absurd (And.intro h8 e) (by assumption) | exact absurd (e.symm.trans (by assumption : M.1 210 8 = 3 ∧ M.2 210 10 = _).2) (by decide)⟩⟩
        · skip
          refine j_iconst hX dX11_isFull_86 ?_
          refine j_goto (tgt := 91) hX dX11_isFull_87 (by decide) ?_
          exact hret _ _ _ _ dX11_isFull_91 (nb (by omega)) (by omega) ⟨rfl, by omega, by first | (intro h; exfalso; omega) | exact fun _ h8 => ⟨fun e => by first | omega | exact absurd (And.intro h8 e) (by assumption) | exact absurd (e.symm.trans (by assumption : M.1 210 8 = 3 ∧ M.2 210 10 = _).2) (by decide), fun e => by first | omega | exact absurd (And.intro h8 e) (by assumption) | exact absurd (e.symm.trans (by assumption : M.1 210 8 = 3 ∧ M.2 210 10 = _).2) (by decide), fun e => by first | omega | exact absurd (And.intro h8 e) (by assumption) | exact absurd (e.symm.trans (by assumption : M.1 210 8 = 3 ∧ M.2 210 10 = _).2) (by decide), fun e => by first | omega | exact absurd (And.intro h8 e) (by assumption) | exact absurd (e.symm.trans (by assumption : M.1 210 8 = 3 ∧ M.2 210 10 = _).2) (by decide)⟩⟩
    · skip
      have hi104 := hq17 (by omega)
      clear hq17
      clear hq18
      refine j_aload_n hX dX11_isFull_52 rfl 0 rfl ?_
      refine gf_X11_75 hX (by omega) (by omega) kc_210 (fc_210_29 hI) (by decide) dX11_isFull_53 ?_
      refine j_aload_n hX dX11_isFull_56 rfl 0 rfl ?_
      refine gf_X11_270 hX (by omega) (by omega) kc_210 dX11_isFull_57 ?_
      refine j_top hw ?_
      refine j_zald hX (by omega) (by omega) kc_231 (by omega) (by omega) (by omega) dX11_isFull_60 ?_
      refine j_name hI (ra_231 _) (fun v105 hv106 hl107 hh108 => ?_)
      exact hret _ _ _ _ dX11_isFull_61 (nb (by omega)) (by omega) ⟨rfl, by omega, by first | (intro h; exfalso; omega) | exact fun _ h8 => ⟨fun e => by first | omega | exact absurd (And.intro h8 e) (by assumption) | exact absurd (e.symm.trans (by assumption : M.1 210 8 = 3 ∧ M.2 210 10 = _).2) (by decide), fun e => by first | omega | exact absurd (And.intro h8 e) (by assumption) | exact absurd (e.symm.trans (by assumption : M.1 210 8 = 3 ∧ M.2 210 10 = _).2) (by decide), fun e => by first | omega | exact absurd (And.intro h8 e) (by assumption) | exact absurd (e.symm.trans (by assumption : M.1 210 8 = 3 ∧ M.2 210 10 = _).2) (by decide), fun e => by first | omega | exact absurd (And.intro h8 e) (by assumption) | exact absurd (e.symm.trans (by assumption : M.1 210 8 = 3 ∧ M.2 210 10 = _).2) (by decide)⟩⟩
  · skip
    have hi109 := hq7 (by omega)
    clear hq7
    clear hq8
    refine j_aload_n hX dX11_isFull_10 rfl 0 rfl ?_
    refine gf_X11_20 hX (by omega) (by omega) kc_210 (fc_210_11 hI) (by decide) dX11_isFull_11 ?_
    refine j_aload_n hX dX11_isFull_14 rfl 0 rfl ?_
    refine gf_X11_270 hX (by omega) (by omega) kc_210 dX11_isFull_15 ?_
    refine j_top hw ?_
    refine j_iald hX (by omega) (by omega) kc_213 (by omega) (by omega) (by omega) dX11_isFull_18 ?_
    refine j_name hI (ra_213 _) (fun v110 hv111 hl112 hh113 => ?_)
    refine j_bipush hX dX11_isFull_19 rfl ?_
    refine j_icmp_eq (tgt := 36) hX dX11_isFull_21 (by decide) (by omega) (by omega) (fun hc114 => ?_) (fun hc114 => ?_)
    · skip
      refine j_iconst hX dX11_isFull_36 ?_
      refine j_goto (tgt := 41) hX dX11_isFull_37 (by decide) ?_
      exact hret _ _ _ _ dX11_isFull_41 (nb (by omega)) (by omega) ⟨rfl, by omega, by first | (intro h; exfalso; omega) | exact fun _ h8 => ⟨fun e => by first | omega | exact absurd (And.intro h8 e) (by assumption) | exact absurd (e.symm.trans (by assumption : M.1 210 8 = 3 ∧ M.2 210 10 = _).2) (by decide), fun e => by first | omega | exact absurd (And.intro h8 e) (by assumption) | exact absurd (e.symm.trans (by assumption : M.1 210 8 = 3 ∧ M.2 210 10 = _).2) (by decide), fun e => by first | omega | exact absurd (And.intro h8 e) (by assumption) | exact absurd (e.symm.trans (by assumption : M.1 210 8 = 3 ∧ M.2 210 10 = _).2) (by decide), fun e => by first | omega | exact absurd (And.intro h8 e) (by assumption) | exact absurd (e.symm.trans (by assumption : M.1 210 8 = 3 ∧ M.2 210 10 = _).2) (by decide)⟩⟩
    · skip
      refine j_aload_n hX dX11_isFull_24 rfl 0 rfl ?_
      refine gf_X11_75 hX (by omega) (by omega) kc_210 (fc_210_29 hI) (by decide) dX11_isFull_25 ?_
      refine j_aload_n hX dX11_isFull_28 rfl 0 rfl ?_
      refine gf_X11_270 hX (by omega) (by omega) kc_210 dX11_isFull_29 ?_
      refine j_top hw ?_
      refine j_zald hX (by omega) (by omega) kc_231 (by omega) (by omega) (by omega) dX11_isFull_32 ?_
      refine j_name hI (ra_231 _) (fun v115 hv116 hl117 hh118 => ?_)
      refine j_if_eq (tgt := 40) hX dX11_isFull_33 (by decide) (by omega) (fun hc119 => ?_) (fun hc119 => ?_)
      · skip
        refine j_iconst hX dX11_isFull_40 ?_
        exact hret _ _ _ _ dX11_isFull_41 (nb (by omega)) (by omega) ⟨rfl, by omega, by first | (intro h; exfalso; omega) | exact fun _ h8 => ⟨fun e => by first | omega | exact absurd (And.intro h8 e) (by assumption) | exact absurd (e.symm.trans (by assumption : M.1 210 8 = 3 ∧ M.2 210 10 = _).2) (by decide), fun e => by first | omega | exact absurd (And.intro h8 e) (by assumption) | exact absurd (e.symm.trans (by assumption : M.1 210 8 = 3 ∧ M.2 210 10 = _).2) (by decide), fun e => by first | omega | exact absurd (And.intro h8 e) (by assumption) | exact absurd (e.symm.trans (by assumption : M.1 210 8 = 3 ∧ M.2 210 10 = _).2) (by decide), fun e => by first | omega | exact absurd (And.intro h8 e) (by assumption) | exact absurd (e.symm.trans (by assumption : M.1 210 8 = 3 ∧ M.2 210 10 = _).2) (by decide)⟩⟩
      · skip
        refine j_iconst hX dX11_isFull_36 ?_
        refine j_goto (tgt := 41) hX dX11_isFull_37 (by decide) ?_
        exact hret _ _ _ _ dX11_isFull_41 (nb (by omega)) (by omega) ⟨rfl, by omega, by first | (intro h; exfalso; omega) | exact fun _ h8 => ⟨fun e => by first | omega | exact absurd (And.intro h8 e) (by assumption) | exact absurd (e.symm.trans (by assumption : M.1 210 8 = 3 ∧ M.2 210 10 = _).2) (by decide), fun e => by first | omega | exact absurd (And.intro h8 e) (by assumption) | exact absurd (e.symm.trans (by assumption : M.1 210 8 = 3 ∧ M.2 210 10 = _).2) (by decide), fun e => by first | omega | exact absurd (And.intro h8 e) (by assumption) | exact absurd (e.symm.trans (by assumption : M.1 210 8 = 3 ∧ M.2 210 10 = _).2) (by decide), fun e => by first | omega | exact absurd (And.intro h8 e) (by assumption) | exact absurd (e.symm.trans (by assumption : M.1 210 8 = 3 ∧ M.2 210 10 = _).2) (by decide)⟩⟩
