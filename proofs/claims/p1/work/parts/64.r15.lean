theorem dX11_readRoom_0 : decode cX11_readRoom 0 = .ok (.bipush 6, 2) := by decide +kernel
theorem dX11_readRoom_2 : decode cX11_readRoom 2 = .ok (.aload_n 0, 1) := by decide +kernel
theorem dX11_readRoom_3 : decode cX11_readRoom 3 = .ok (.getfield 270, 3) := by decide +kernel
theorem dX11_readRoom_6 : decode cX11_readRoom 6 = .ok (.imul, 1) := by decide +kernel
theorem dX11_readRoom_7 : decode cX11_readRoom 7 = .ok (.aload_n 0, 1) := by decide +kernel
theorem dX11_readRoom_8 : decode cX11_readRoom 8 = .ok (.getfield 20, 3) := by decide +kernel
theorem dX11_readRoom_11 : decode cX11_readRoom 11 = .ok (.aload_n 0, 1) := by decide +kernel
theorem dX11_readRoom_12 : decode cX11_readRoom 12 = .ok (.getfield 270, 3) := by decide +kernel
theorem dX11_readRoom_15 : decode cX11_readRoom 15 = .ok (.iaload, 1) := by decide +kernel
theorem dX11_readRoom_16 : decode cX11_readRoom 16 = .ok (.iadd, 1) := by decide +kernel
theorem dX11_readRoom_17 : decode cX11_readRoom 17 = .ok (.istore_n 1, 1) := by decide +kernel
theorem dX11_readRoom_18 : decode cX11_readRoom 18 = .ok (.aload_n 0, 1) := by decide +kernel
theorem dX11_readRoom_19 : decode cX11_readRoom 19 = .ok (.getfield 88, 3) := by decide +kernel
theorem dX11_readRoom_22 : decode cX11_readRoom 22 = .ok (.iload_n 1, 1) := by decide +kernel
theorem dX11_readRoom_23 : decode cX11_readRoom 23 = .ok (.aload_n 0, 1) := by decide +kernel
theorem dX11_readRoom_24 : decode cX11_readRoom 24 = .ok (.aload_n 0, 1) := by decide +kernel
theorem dX11_readRoom_25 : decode cX11_readRoom 25 = .ok (.invokevirtual 318, 3) := by decide +kernel
theorem dX11_readRoom_28 : decode cX11_readRoom 28 = .ok (.invokevirtual 322, 3) := by decide +kernel
theorem dX11_readRoom_31 : decode cX11_readRoom 31 = .ok (.lastore, 1) := by decide +kernel
theorem dX11_readRoom_32 : decode cX11_readRoom 32 = .ok (.aload_n 0, 1) := by decide +kernel
theorem dX11_readRoom_33 : decode cX11_readRoom 33 = .ok (.getfield 45, 3) := by decide +kernel
theorem dX11_readRoom_36 : decode cX11_readRoom 36 = .ok (.iload_n 1, 1) := by decide +kernel
theorem dX11_readRoom_37 : decode cX11_readRoom 37 = .ok (.aload_n 0, 1) := by decide +kernel
theorem dX11_readRoom_38 : decode cX11_readRoom 38 = .ok (.ldc2_w 169, 3) := by decide +kernel
theorem dX11_readRoom_41 : decode cX11_readRoom 41 = .ok (.iconst 0, 1) := by decide +kernel
theorem dX11_readRoom_42 : decode cX11_readRoom 42 = .ok (.bipush 9, 2) := by decide +kernel
theorem dX11_readRoom_44 : decode cX11_readRoom 44 = .ok (.invokevirtual 307, 3) := by decide +kernel
theorem dX11_readRoom_47 : decode cX11_readRoom 47 = .ok (.iastore, 1) := by decide +kernel
theorem dX11_readRoom_48 : decode cX11_readRoom 48 = .ok (.aload_n 0, 1) := by decide +kernel
theorem dX11_readRoom_49 : decode cX11_readRoom 49 = .ok (.invokevirtual 249, 3) := by decide +kernel
theorem dX11_readRoom_52 : decode cX11_readRoom 52 = .ok (.ifCond .eq 40, 3) := by decide +kernel
theorem dX11_readRoom_55 : decode cX11_readRoom 55 = .ok (.aload_n 0, 1) := by decide +kernel
theorem dX11_readRoom_56 : decode cX11_readRoom 56 = .ok (.ldc2_w 171, 3) := by decide +kernel
theorem dX11_readRoom_59 : decode cX11_readRoom 59 = .ok (.invokevirtual 259, 3) := by decide +kernel
theorem dX11_readRoom_62 : decode cX11_readRoom 62 = .ok (.ifCond .eq 30, 3) := by decide +kernel
theorem dX11_readRoom_65 : decode cX11_readRoom 65 = .ok (.aload_n 0, 1) := by decide +kernel
theorem dX11_readRoom_66 : decode cX11_readRoom 66 = .ok (.getfield 36, 3) := by decide +kernel
theorem dX11_readRoom_69 : decode cX11_readRoom 69 = .ok (.aload_n 0, 1) := by decide +kernel
theorem dX11_readRoom_70 : decode cX11_readRoom 70 = .ok (.getfield 270, 3) := by decide +kernel
theorem dX11_readRoom_73 : decode cX11_readRoom 73 = .ok (.dup2, 1) := by decide +kernel
theorem dX11_readRoom_74 : decode cX11_readRoom 74 = .ok (.iaload, 1) := by decide +kernel
theorem dX11_readRoom_75 : decode cX11_readRoom 75 = .ok (.iconst 1, 1) := by decide +kernel
theorem dX11_readRoom_76 : decode cX11_readRoom 76 = .ok (.aload_n 0, 1) := by decide +kernel
theorem dX11_readRoom_77 : decode cX11_readRoom 77 = .ok (.getfield 20, 3) := by decide +kernel
theorem dX11_readRoom_80 : decode cX11_readRoom 80 = .ok (.aload_n 0, 1) := by decide +kernel
theorem dX11_readRoom_81 : decode cX11_readRoom 81 = .ok (.getfield 270, 3) := by decide +kernel
theorem dX11_readRoom_84 : decode cX11_readRoom 84 = .ok (.iaload, 1) := by decide +kernel
theorem dX11_readRoom_85 : decode cX11_readRoom 85 = .ok (.ishl, 1) := by decide +kernel
theorem dX11_readRoom_86 : decode cX11_readRoom 86 = .ok (.ior, 1) := by decide +kernel
theorem dX11_readRoom_87 : decode cX11_readRoom 87 = .ok (.iastore, 1) := by decide +kernel
theorem dX11_readRoom_88 : decode cX11_readRoom 88 = .ok (.aload_n 0, 1) := by decide +kernel
theorem dX11_readRoom_89 : decode cX11_readRoom 89 = .ok (.invokevirtual 253, 3) := by decide +kernel
theorem dX11_readRoom_92 : decode cX11_readRoom 92 = .ok (.aload_n 0, 1) := by decide +kernel
theorem dX11_readRoom_93 : decode cX11_readRoom 93 = .ok (.getfield 60, 3) := by decide +kernel
theorem dX11_readRoom_96 : decode cX11_readRoom 96 = .ok (.iload_n 1, 1) := by decide +kernel
theorem dX11_readRoom_97 : decode cX11_readRoom 97 = .ok (.iconst 0, 1) := by decide +kernel
theorem dX11_readRoom_98 : decode cX11_readRoom 98 = .ok (.iastore, 1) := by decide +kernel
theorem dX11_readRoom_99 : decode cX11_readRoom 99 = .ok (.aload_n 0, 1) := by decide +kernel
theorem dX11_readRoom_100 : decode cX11_readRoom 100 = .ok (.getfield 66, 3) := by decide +kernel
theorem dX11_readRoom_103 : decode cX11_readRoom 103 = .ok (.iload_n 1, 1) := by decide +kernel
theorem dX11_readRoom_104 : decode cX11_readRoom 104 = .ok (.iconst 0, 1) := by decide +kernel
theorem dX11_readRoom_105 : decode cX11_readRoom 105 = .ok (.iastore, 1) := by decide +kernel
theorem dX11_readRoom_106 : decode cX11_readRoom 106 = .ok (.iconst 0, 1) := by decide +kernel
theorem dX11_readRoom_107 : decode cX11_readRoom 107 = .ok (.istore_n 2, 1) := by decide +kernel
theorem dX11_readRoom_108 : decode cX11_readRoom 108 = .ok (.iload_n 2, 1) := by decide +kernel
theorem dX11_readRoom_109 : decode cX11_readRoom 109 = .ok (.bipush 6, 2) := by decide +kernel
theorem dX11_readRoom_111 : decode cX11_readRoom 111 = .ok (.if_icmp .ge 21, 3) := by decide +kernel
theorem dX11_readRoom_114 : decode cX11_readRoom 114 = .ok (.aload_n 0, 1) := by decide +kernel
theorem dX11_readRoom_115 : decode cX11_readRoom 115 = .ok (.getfield 63, 3) := by decide +kernel
theorem dX11_readRoom_118 : decode cX11_readRoom 118 = .ok (.bipush 6, 2) := by decide +kernel
theorem dX11_readRoom_120 : decode cX11_readRoom 120 = .ok (.iload_n 1, 1) := by decide +kernel
theorem dX11_readRoom_121 : decode cX11_readRoom 121 = .ok (.imul, 1) := by decide +kernel
theorem dX11_readRoom_122 : decode cX11_readRoom 122 = .ok (.iload_n 2, 1) := by decide +kernel
theorem dX11_readRoom_123 : decode cX11_readRoom 123 = .ok (.iadd, 1) := by decide +kernel
theorem dX11_readRoom_124 : decode cX11_readRoom 124 = .ok (.iconst 0, 1) := by decide +kernel
theorem dX11_readRoom_125 : decode cX11_readRoom 125 = .ok (.iastore, 1) := by decide +kernel
theorem dX11_readRoom_126 : decode cX11_readRoom 126 = .ok (.iinc 2 1, 3) := by decide +kernel
theorem dX11_readRoom_129 : decode cX11_readRoom 129 = .ok (.goto (-21), 3) := by decide +kernel
theorem dX11_readRoom_132 : decode cX11_readRoom 132 = .ok (.aload_n 0, 1) := by decide +kernel
theorem dX11_readRoom_133 : decode cX11_readRoom 133 = .ok (.getfield 20, 3) := by decide +kernel
theorem dX11_readRoom_136 : decode cX11_readRoom 136 = .ok (.aload_n 0, 1) := by decide +kernel
theorem dX11_readRoom_137 : decode cX11_readRoom 137 = .ok (.getfield 270, 3) := by decide +kernel
theorem dX11_readRoom_140 : decode cX11_readRoom 140 = .ok (.dup2, 1) := by decide +kernel
theorem dX11_readRoom_141 : decode cX11_readRoom 141 = .ok (.iaload, 1) := by decide +kernel
theorem dX11_readRoom_142 : decode cX11_readRoom 142 = .ok (.iconst 1, 1) := by decide +kernel
theorem dX11_readRoom_143 : decode cX11_readRoom 143 = .ok (.iadd, 1) := by decide +kernel
theorem dX11_readRoom_144 : decode cX11_readRoom 144 = .ok (.iastore, 1) := by decide +kernel
theorem dX11_readRoom_145 : decode cX11_readRoom 145 = .ok (.return_, 1) := by decide +kernel
theorem dX11_readFact_0 : decode cX11_readFact 0 = .ok (.bipush 10, 2) := by decide +kernel
theorem dX11_readFact_2 : decode cX11_readFact 2 = .ok (.aload_n 0, 1) := by decide +kernel
theorem dX11_readFact_3 : decode cX11_readFact 3 = .ok (.getfield 270, 3) := by decide +kernel
theorem dX11_readFact_6 : decode cX11_readFact 6 = .ok (.imul, 1) := by decide +kernel
theorem dX11_readFact_7 : decode cX11_readFact 7 = .ok (.aload_n 0, 1) := by decide +kernel
theorem dX11_readFact_8 : decode cX11_readFact 8 = .ok (.getfield 24, 3) := by decide +kernel
theorem dX11_readFact_11 : decode cX11_readFact 11 = .ok (.aload_n 0, 1) := by decide +kernel
theorem dX11_readFact_12 : decode cX11_readFact 12 = .ok (.getfield 270, 3) := by decide +kernel
theorem dX11_readFact_15 : decode cX11_readFact 15 = .ok (.iaload, 1) := by decide +kernel
theorem dX11_readFact_16 : decode cX11_readFact 16 = .ok (.iadd, 1) := by decide +kernel
theorem dX11_readFact_17 : decode cX11_readFact 17 = .ok (.istore_n 1, 1) := by decide +kernel
theorem dX11_readFact_18 : decode cX11_readFact 18 = .ok (.aload_n 0, 1) := by decide +kernel
theorem dX11_readFact_19 : decode cX11_readFact 19 = .ok (.getfield 92, 3) := by decide +kernel
theorem dX11_readFact_22 : decode cX11_readFact 22 = .ok (.iload_n 1, 1) := by decide +kernel
theorem dX11_readFact_23 : decode cX11_readFact 23 = .ok (.aload_n 0, 1) := by decide +kernel
theorem dX11_readFact_24 : decode cX11_readFact 24 = .ok (.aload_n 0, 1) := by decide +kernel
theorem dX11_readFact_25 : decode cX11_readFact 25 = .ok (.invokevirtual 329, 3) := by decide +kernel
theorem dX11_readFact_28 : decode cX11_readFact 28 = .ok (.invokevirtual 322, 3) := by decide +kernel
theorem dX11_readFact_31 : decode cX11_readFact 31 = .ok (.lastore, 1) := by decide +kernel
theorem dX11_readFact_32 : decode cX11_readFact 32 = .ok (.aload_n 0, 1) := by decide +kernel
theorem dX11_readFact_33 : decode cX11_readFact 33 = .ok (.aload_n 0, 1) := by decide +kernel
theorem dX11_readFact_34 : decode cX11_readFact 34 = .ok (.ldc2_w 177, 3) := by decide +kernel
theorem dX11_readFact_37 : decode cX11_readFact 37 = .ok (.invokevirtual 259, 3) := by decide +kernel
theorem dX11_readFact_40 : decode cX11_readFact 40 = .ok (.invokevirtual 262, 3) := by decide +kernel
theorem dX11_readFact_43 : decode cX11_readFact 43 = .ok (.aload_n 0, 1) := by decide +kernel
theorem dX11_readFact_44 : decode cX11_readFact 44 = .ok (.getfield 51, 3) := by decide +kernel
theorem dX11_readFact_47 : decode cX11_readFact 47 = .ok (.iload_n 1, 1) := by decide +kernel
theorem dX11_readFact_48 : decode cX11_readFact 48 = .ok (.aload_n 0, 1) := by decide +kernel
theorem dX11_readFact_49 : decode cX11_readFact 49 = .ok (.aload_n 0, 1) := by decide +kernel
theorem dX11_readFact_50 : decode cX11_readFact 50 = .ok (.invokevirtual 318, 3) := by decide +kernel
theorem dX11_readFact_53 : decode cX11_readFact 53 = .ok (.invokevirtual 326, 3) := by decide +kernel
theorem dX11_readFact_56 : decode cX11_readFact 56 = .ok (.iastore, 1) := by decide +kernel
theorem dX11_readFact_57 : decode cX11_readFact 57 = .ok (.aload_n 0, 1) := by decide +kernel
theorem dX11_readFact_58 : decode cX11_readFact 58 = .ok (.getfield 54, 3) := by decide +kernel
theorem dX11_readFact_61 : decode cX11_readFact 61 = .ok (.iload_n 1, 1) := by decide +kernel
theorem dX11_readFact_62 : decode cX11_readFact 62 = .ok (.aload_n 0, 1) := by decide +kernel
theorem dX11_readFact_63 : decode cX11_readFact 63 = .ok (.ldc2_w 179, 3) := by decide +kernel
theorem dX11_readFact_66 : decode cX11_readFact 66 = .ok (.iconst 0, 1) := by decide +kernel
theorem dX11_readFact_67 : decode cX11_readFact 67 = .ok (.bipush 23, 2) := by decide +kernel
theorem dX11_readFact_69 : decode cX11_readFact 69 = .ok (.invokevirtual 307, 3) := by decide +kernel
theorem dX11_readFact_72 : decode cX11_readFact 72 = .ok (.iastore, 1) := by decide +kernel
theorem dX11_readFact_73 : decode cX11_readFact 73 = .ok (.aload_n 0, 1) := by decide +kernel
theorem dX11_readFact_74 : decode cX11_readFact 74 = .ok (.invokevirtual 249, 3) := by decide +kernel
theorem dX11_readFact_77 : decode cX11_readFact 77 = .ok (.ifCond .eq 40, 3) := by decide +kernel
theorem dX11_readFact_80 : decode cX11_readFact 80 = .ok (.aload_n 0, 1) := by decide +kernel
theorem dX11_readFact_81 : decode cX11_readFact 81 = .ok (.ldc2_w 181, 3) := by decide +kernel
theorem dX11_readFact_84 : decode cX11_readFact 84 = .ok (.invokevirtual 259, 3) := by decide +kernel
theorem dX11_readFact_87 : decode cX11_readFact 87 = .ok (.ifCond .eq 30, 3) := by decide +kernel
theorem dX11_readFact_90 : decode cX11_readFact 90 = .ok (.aload_n 0, 1) := by decide +kernel
theorem dX11_readFact_91 : decode cX11_readFact 91 = .ok (.getfield 57, 3) := by decide +kernel
theorem dX11_readFact_94 : decode cX11_readFact 94 = .ok (.aload_n 0, 1) := by decide +kernel
theorem dX11_readFact_95 : decode cX11_readFact 95 = .ok (.getfield 270, 3) := by decide +kernel
theorem dX11_readFact_98 : decode cX11_readFact 98 = .ok (.dup2, 1) := by decide +kernel
theorem dX11_readFact_99 : decode cX11_readFact 99 = .ok (.iaload, 1) := by decide +kernel
theorem dX11_readFact_100 : decode cX11_readFact 100 = .ok (.iconst 1, 1) := by decide +kernel
theorem dX11_readFact_101 : decode cX11_readFact 101 = .ok (.aload_n 0, 1) := by decide +kernel
theorem dX11_readFact_102 : decode cX11_readFact 102 = .ok (.getfield 24, 3) := by decide +kernel
theorem dX11_readFact_105 : decode cX11_readFact 105 = .ok (.aload_n 0, 1) := by decide +kernel
theorem dX11_readFact_106 : decode cX11_readFact 106 = .ok (.getfield 270, 3) := by decide +kernel
theorem dX11_readFact_109 : decode cX11_readFact 109 = .ok (.iaload, 1) := by decide +kernel
theorem dX11_readFact_110 : decode cX11_readFact 110 = .ok (.ishl, 1) := by decide +kernel
theorem dX11_readFact_111 : decode cX11_readFact 111 = .ok (.ior, 1) := by decide +kernel
theorem dX11_readFact_112 : decode cX11_readFact 112 = .ok (.iastore, 1) := by decide +kernel
theorem dX11_readFact_113 : decode cX11_readFact 113 = .ok (.aload_n 0, 1) := by decide +kernel
theorem dX11_readFact_114 : decode cX11_readFact 114 = .ok (.invokevirtual 253, 3) := by decide +kernel
theorem dX11_readFact_117 : decode cX11_readFact 117 = .ok (.aload_n 0, 1) := by decide +kernel
theorem dX11_readFact_118 : decode cX11_readFact 118 = .ok (.getfield 24, 3) := by decide +kernel
theorem dX11_readFact_121 : decode cX11_readFact 121 = .ok (.aload_n 0, 1) := by decide +kernel
theorem dX11_readFact_122 : decode cX11_readFact 122 = .ok (.getfield 270, 3) := by decide +kernel
theorem dX11_readFact_125 : decode cX11_readFact 125 = .ok (.dup2, 1) := by decide +kernel
theorem dX11_readFact_126 : decode cX11_readFact 126 = .ok (.iaload, 1) := by decide +kernel
theorem dX11_readFact_127 : decode cX11_readFact 127 = .ok (.iconst 1, 1) := by decide +kernel
theorem dX11_readFact_128 : decode cX11_readFact 128 = .ok (.iadd, 1) := by decide +kernel
theorem dX11_readFact_129 : decode cX11_readFact 129 = .ok (.iastore, 1) := by decide +kernel
theorem dX11_readFact_130 : decode cX11_readFact 130 = .ok (.return_, 1) := by decide +kernel
theorem dX11_readTells_0 : decode cX11_readTells 0 = .ok (.aload_n 0, 1) := by decide +kernel
theorem dX11_readTells_1 : decode cX11_readTells 1 = .ok (.aload_n 0, 1) := by decide +kernel
theorem dX11_readTells_2 : decode cX11_readTells 2 = .ok (.invokevirtual 318, 3) := by decide +kernel
theorem dX11_readTells_5 : decode cX11_readTells 5 = .ok (.invokevirtual 326, 3) := by decide +kernel
theorem dX11_readTells_8 : decode cX11_readTells 8 = .ok (.istore_n 1, 1) := by decide +kernel
theorem dX11_readTells_9 : decode cX11_readTells 9 = .ok (.aload_n 0, 1) := by decide +kernel
theorem dX11_readTells_10 : decode cX11_readTells 10 = .ok (.invokevirtual 249, 3) := by decide +kernel
theorem dX11_readTells_13 : decode cX11_readTells 13 = .ok (.ifCond .ne 4, 3) := by decide +kernel
theorem dX11_readTells_16 : decode cX11_readTells 16 = .ok (.return_, 1) := by decide +kernel
theorem dX11_readTells_17 : decode cX11_readTells 17 = .ok (.aload_n 0, 1) := by decide +kernel
theorem dX11_readTells_18 : decode cX11_readTells 18 = .ok (.invokevirtual 318, 3) := by decide +kernel
theorem dX11_readTells_21 : decode cX11_readTells 21 = .ok (.istore_n 2, 1) := by decide +kernel
theorem dX11_readTells_22 : decode cX11_readTells 22 = .ok (.iload_n 2, 1) := by decide +kernel
theorem dX11_readTells_23 : decode cX11_readTells 23 = .ok (.ifCond .lt 39, 3) := by decide +kernel
theorem dX11_readTells_26 : decode cX11_readTells 26 = .ok (.iload_n 2, 1) := by decide +kernel
theorem dX11_readTells_27 : decode cX11_readTells 27 = .ok (.iload_n 1, 1) := by decide +kernel
theorem dX11_readTells_28 : decode cX11_readTells 28 = .ok (.if_icmp .eq 25, 3) := by decide +kernel
theorem dX11_readTells_31 : decode cX11_readTells 31 = .ok (.aload_n 0, 1) := by decide +kernel
theorem dX11_readTells_32 : decode cX11_readTells 32 = .ok (.getfield 60, 3) := by decide +kernel
theorem dX11_readTells_35 : decode cX11_readTells 35 = .ok (.bipush 6, 2) := by decide +kernel
theorem dX11_readTells_37 : decode cX11_readTells 37 = .ok (.aload_n 0, 1) := by decide +kernel
theorem dX11_readTells_38 : decode cX11_readTells 38 = .ok (.getfield 270, 3) := by decide +kernel
theorem dX11_readTells_41 : decode cX11_readTells 41 = .ok (.imul, 1) := by decide +kernel
theorem dX11_readTells_42 : decode cX11_readTells 42 = .ok (.iload_n 2, 1) := by decide +kernel
theorem dX11_readTells_43 : decode cX11_readTells 43 = .ok (.iadd, 1) := by decide +kernel
theorem dX11_readTells_44 : decode cX11_readTells 44 = .ok (.iaload, 1) := by decide +kernel
theorem dX11_readTells_45 : decode cX11_readTells 45 = .ok (.iload_n 1, 1) := by decide +kernel
theorem dX11_readTells_46 : decode cX11_readTells 46 = .ok (.ishr, 1) := by decide +kernel
theorem dX11_readTells_47 : decode cX11_readTells 47 = .ok (.iconst 1, 1) := by decide +kernel
theorem dX11_readTells_48 : decode cX11_readTells 48 = .ok (.iand, 1) := by decide +kernel
theorem dX11_readTells_49 : decode cX11_readTells 49 = .ok (.iconst 1, 1) := by decide +kernel
theorem dX11_readTells_50 : decode cX11_readTells 50 = .ok (.if_icmp .ne 12, 3) := by decide +kernel
theorem dX11_readTells_53 : decode cX11_readTells 53 = .ok (.aload_n 0, 1) := by decide +kernel
theorem dX11_readTells_54 : decode cX11_readTells 54 = .ok (.iconst 3, 1) := by decide +kernel
theorem dX11_readTells_55 : decode cX11_readTells 55 = .ok (.aload_n 0, 1) := by decide +kernel
theorem dX11_readTells_56 : decode cX11_readTells 56 = .ok (.getfield 214, 3) := by decide +kernel
theorem dX11_readTells_59 : decode cX11_readTells 59 = .ok (.invokevirtual 245, 3) := by decide +kernel
theorem dX11_readTells_62 : decode cX11_readTells 62 = .ok (.aload_n 0, 1) := by decide +kernel
theorem dX11_readTells_63 : decode cX11_readTells 63 = .ok (.iload_n 2, 1) := by decide +kernel
theorem dX11_readTells_64 : decode cX11_readTells 64 = .ok (.invokevirtual 326, 3) := by decide +kernel
theorem dX11_readTells_67 : decode cX11_readTells 67 = .ok (.istore_n 2, 1) := by decide +kernel
theorem dX11_readTells_68 : decode cX11_readTells 68 = .ok (.aload_n 0, 1) := by decide +kernel
theorem dX11_readTells_69 : decode cX11_readTells 69 = .ok (.invokevirtual 249, 3) := by decide +kernel
theorem dX11_readTells_72 : decode cX11_readTells 72 = .ok (.ifCond .ne 4, 3) := by decide +kernel
theorem dX11_readTells_75 : decode cX11_readTells 75 = .ok (.return_, 1) := by decide +kernel
theorem dX11_readTells_76 : decode cX11_readTells 76 = .ok (.aload_n 0, 1) := by decide +kernel
theorem dX11_readTells_77 : decode cX11_readTells 77 = .ok (.getfield 60, 3) := by decide +kernel
theorem dX11_readTells_80 : decode cX11_readTells 80 = .ok (.bipush 6, 2) := by decide +kernel
theorem dX11_readTells_82 : decode cX11_readTells 82 = .ok (.aload_n 0, 1) := by decide +kernel
theorem dX11_readTells_83 : decode cX11_readTells 83 = .ok (.getfield 270, 3) := by decide +kernel
theorem dX11_readTells_86 : decode cX11_readTells 86 = .ok (.imul, 1) := by decide +kernel
theorem dX11_readTells_87 : decode cX11_readTells 87 = .ok (.iload_n 2, 1) := by decide +kernel
theorem dX11_readTells_88 : decode cX11_readTells 88 = .ok (.iadd, 1) := by decide +kernel
theorem dX11_readTells_89 : decode cX11_readTells 89 = .ok (.dup2, 1) := by decide +kernel
theorem dX11_readTells_90 : decode cX11_readTells 90 = .ok (.iaload, 1) := by decide +kernel
theorem dX11_readTells_91 : decode cX11_readTells 91 = .ok (.iconst 1, 1) := by decide +kernel
theorem dX11_readTells_92 : decode cX11_readTells 92 = .ok (.iload_n 1, 1) := by decide +kernel
theorem dX11_readTells_93 : decode cX11_readTells 93 = .ok (.ishl, 1) := by decide +kernel
theorem dX11_readTells_94 : decode cX11_readTells 94 = .ok (.ior, 1) := by decide +kernel
theorem dX11_readTells_95 : decode cX11_readTells 95 = .ok (.iastore, 1) := by decide +kernel
theorem dX11_readTells_96 : decode cX11_readTells 96 = .ok (.aload_n 0, 1) := by decide +kernel
theorem dX11_readTells_97 : decode cX11_readTells 97 = .ok (.getfield 27, 3) := by decide +kernel
theorem dX11_readTells_100 : decode cX11_readTells 100 = .ok (.aload_n 0, 1) := by decide +kernel
theorem dX11_readTells_101 : decode cX11_readTells 101 = .ok (.getfield 270, 3) := by decide +kernel
theorem dX11_readTells_104 : decode cX11_readTells 104 = .ok (.dup2, 1) := by decide +kernel
theorem dX11_readTells_105 : decode cX11_readTells 105 = .ok (.iaload, 1) := by decide +kernel
theorem dX11_readTells_106 : decode cX11_readTells 106 = .ok (.iconst 1, 1) := by decide +kernel
theorem dX11_readTells_107 : decode cX11_readTells 107 = .ok (.iadd, 1) := by decide +kernel
theorem dX11_readTells_108 : decode cX11_readTells 108 = .ok (.iastore, 1) := by decide +kernel
theorem dX11_readTells_109 : decode cX11_readTells 109 = .ok (.return_, 1) := by decide +kernel
theorem dX11_readWants_0 : decode cX11_readWants 0 = .ok (.bipush 6, 2) := by decide +kernel
theorem dX11_readWants_2 : decode cX11_readWants 2 = .ok (.aload_n 0, 1) := by decide +kernel
theorem dX11_readWants_3 : decode cX11_readWants 3 = .ok (.getfield 270, 3) := by decide +kernel
theorem dX11_readWants_6 : decode cX11_readWants 6 = .ok (.imul, 1) := by decide +kernel
theorem dX11_readWants_7 : decode cX11_readWants 7 = .ok (.aload_n 0, 1) := by decide +kernel
theorem dX11_readWants_8 : decode cX11_readWants 8 = .ok (.aload_n 0, 1) := by decide +kernel
theorem dX11_readWants_9 : decode cX11_readWants 9 = .ok (.invokevirtual 318, 3) := by decide +kernel
theorem dX11_readWants_12 : decode cX11_readWants 12 = .ok (.invokevirtual 326, 3) := by decide +kernel
theorem dX11_readWants_15 : decode cX11_readWants 15 = .ok (.iadd, 1) := by decide +kernel
theorem dX11_readWants_16 : decode cX11_readWants 16 = .ok (.istore_n 1, 1) := by decide +kernel
theorem dX11_readWants_17 : decode cX11_readWants 17 = .ok (.aload_n 0, 1) := by decide +kernel
theorem dX11_readWants_18 : decode cX11_readWants 18 = .ok (.invokevirtual 249, 3) := by decide +kernel
theorem dX11_readWants_21 : decode cX11_readWants 21 = .ok (.ifCond .ne 4, 3) := by decide +kernel
theorem dX11_readWants_24 : decode cX11_readWants 24 = .ok (.return_, 1) := by decide +kernel
theorem dX11_readWants_25 : decode cX11_readWants 25 = .ok (.aload_n 0, 1) := by decide +kernel
theorem dX11_readWants_26 : decode cX11_readWants 26 = .ok (.invokevirtual 318, 3) := by decide +kernel
theorem dX11_readWants_29 : decode cX11_readWants 29 = .ok (.istore_n 2, 1) := by decide +kernel
theorem dX11_readWants_30 : decode cX11_readWants 30 = .ok (.iload_n 2, 1) := by decide +kernel
theorem dX11_readWants_31 : decode cX11_readWants 31 = .ok (.ifCond .lt 26, 3) := by decide +kernel
theorem dX11_readWants_34 : decode cX11_readWants 34 = .ok (.aload_n 0, 1) := by decide +kernel
theorem dX11_readWants_35 : decode cX11_readWants 35 = .ok (.getfield 66, 3) := by decide +kernel
theorem dX11_readWants_38 : decode cX11_readWants 38 = .ok (.iload_n 1, 1) := by decide +kernel
theorem dX11_readWants_39 : decode cX11_readWants 39 = .ok (.iaload, 1) := by decide +kernel
theorem dX11_readWants_40 : decode cX11_readWants 40 = .ok (.iload_n 2, 1) := by decide +kernel
theorem dX11_readWants_41 : decode cX11_readWants 41 = .ok (.ishr, 1) := by decide +kernel
theorem dX11_readWants_42 : decode cX11_readWants 42 = .ok (.iconst 1, 1) := by decide +kernel
theorem dX11_readWants_43 : decode cX11_readWants 43 = .ok (.iand, 1) := by decide +kernel
theorem dX11_readWants_44 : decode cX11_readWants 44 = .ok (.iconst 1, 1) := by decide +kernel
theorem dX11_readWants_45 : decode cX11_readWants 45 = .ok (.if_icmp .ne 12, 3) := by decide +kernel
theorem dX11_readWants_48 : decode cX11_readWants 48 = .ok (.aload_n 0, 1) := by decide +kernel
theorem dX11_readWants_49 : decode cX11_readWants 49 = .ok (.iconst 3, 1) := by decide +kernel
theorem dX11_readWants_50 : decode cX11_readWants 50 = .ok (.aload_n 0, 1) := by decide +kernel
theorem dX11_readWants_51 : decode cX11_readWants 51 = .ok (.getfield 214, 3) := by decide +kernel
theorem dX11_readWants_54 : decode cX11_readWants 54 = .ok (.invokevirtual 245, 3) := by decide +kernel
theorem dX11_readWants_57 : decode cX11_readWants 57 = .ok (.aload_n 0, 1) := by decide +kernel
theorem dX11_readWants_58 : decode cX11_readWants 58 = .ok (.iload_n 2, 1) := by decide +kernel
theorem dX11_readWants_59 : decode cX11_readWants 59 = .ok (.invokevirtual 326, 3) := by decide +kernel
theorem dX11_readWants_62 : decode cX11_readWants 62 = .ok (.istore_n 2, 1) := by decide +kernel
theorem dX11_readWants_63 : decode cX11_readWants 63 = .ok (.aload_n 0, 1) := by decide +kernel
theorem dX11_readWants_64 : decode cX11_readWants 64 = .ok (.iconst 0, 1) := by decide +kernel
theorem dX11_readWants_65 : decode cX11_readWants 65 = .ok (.bipush 99, 2) := by decide +kernel
theorem dX11_readWants_67 : decode cX11_readWants 67 = .ok (.invokevirtual 266, 3) := by decide +kernel
theorem dX11_readWants_70 : decode cX11_readWants 70 = .ok (.istore_n 3, 1) := by decide +kernel
theorem dX11_readWants_71 : decode cX11_readWants 71 = .ok (.aload_n 0, 1) := by decide +kernel
theorem dX11_readWants_72 : decode cX11_readWants 72 = .ok (.invokevirtual 249, 3) := by decide +kernel
theorem dX11_readWants_75 : decode cX11_readWants 75 = .ok (.ifCond .ne 4, 3) := by decide +kernel
theorem dX11_readWants_78 : decode cX11_readWants 78 = .ok (.return_, 1) := by decide +kernel
theorem dX11_readWants_79 : decode cX11_readWants 79 = .ok (.aload_n 0, 1) := by decide +kernel
theorem dX11_readWants_80 : decode cX11_readWants 80 = .ok (.getfield 66, 3) := by decide +kernel
theorem dX11_readWants_83 : decode cX11_readWants 83 = .ok (.iload_n 1, 1) := by decide +kernel
theorem dX11_readWants_84 : decode cX11_readWants 84 = .ok (.dup2, 1) := by decide +kernel
theorem dX11_readWants_85 : decode cX11_readWants 85 = .ok (.iaload, 1) := by decide +kernel
theorem dX11_readWants_86 : decode cX11_readWants 86 = .ok (.iconst 1, 1) := by decide +kernel
theorem dX11_readWants_87 : decode cX11_readWants 87 = .ok (.iload_n 2, 1) := by decide +kernel
theorem dX11_readWants_88 : decode cX11_readWants 88 = .ok (.ishl, 1) := by decide +kernel
theorem dX11_readWants_89 : decode cX11_readWants 89 = .ok (.ior, 1) := by decide +kernel
theorem dX11_readWants_90 : decode cX11_readWants 90 = .ok (.iastore, 1) := by decide +kernel
theorem dX11_readWants_91 : decode cX11_readWants 91 = .ok (.aload_n 0, 1) := by decide +kernel
theorem dX11_readWants_92 : decode cX11_readWants 92 = .ok (.getfield 63, 3) := by decide +kernel
theorem dX11_readWants_95 : decode cX11_readWants 95 = .ok (.bipush 6, 2) := by decide +kernel
theorem dX11_readWants_97 : decode cX11_readWants 97 = .ok (.iload_n 1, 1) := by decide +kernel
theorem dX11_readWants_98 : decode cX11_readWants 98 = .ok (.imul, 1) := by decide +kernel
theorem dX11_readWants_99 : decode cX11_readWants 99 = .ok (.iload_n 2, 1) := by decide +kernel
theorem dX11_readWants_100 : decode cX11_readWants 100 = .ok (.iadd, 1) := by decide +kernel
theorem dX11_readWants_101 : decode cX11_readWants 101 = .ok (.iload_n 3, 1) := by decide +kernel
theorem dX11_readWants_102 : decode cX11_readWants 102 = .ok (.iastore, 1) := by decide +kernel
theorem dX11_readWants_103 : decode cX11_readWants 103 = .ok (.return_, 1) := by decide +kernel
set_option maxHeartbeats 2000000 in
set_option maxRecDepth 20000 in
theorem c_X11_readRoom (l : Launch) (D : va_G) (cy : Nat → ClassId) (B N : Nat) (m : Int) (w : Int) (nw : Int) (M : MM) (hN : 257 ≤ N) (hI : Iv M) (hw : M.1 210 41 = w) (hnw : M.1 213 w = nw) (hML : ML m M) (h1 : nw ≤ 5) : CV l D cy B N 5 yX11_readRoom cX11_readRoom 3 none [rv B 210] M (fun M' => Iv M' ∧ Fr (fun a b => (a = 210 ∧ 4 ≤ b ∧ b ≤ 10) ∨ (a = 213 ∧ w ≤ b ∧ b ≤ w) ∨ (a = 218 ∧ w ≤ b ∧ b ≤ w) ∨ (a = 221 ∧ 6 * w ≤ b ∧ b ≤ 6 * w + 5) ∨ (a = 226 ∧ 6 * w ≤ b ∧ b ≤ 6 * w + 5) ∨ (a = 228 ∧ 6 * w ≤ b ∧ b ≤ 6 * w + 5) ∨ (a = 227 ∧ 36 * w ≤ b ∧ b ≤ 36 * w + 35)) M M' ∧ (ML m M')) := by
  refine mk_CV (by decide) (Nat.le_of_ble_eq_true rfl) ?_
  intro X exl exD excy hnL hX hret
  have hce : 0 + 0 ≤ (xR X).cells ∧ 0 + 0 ≤ (xR X).slots := ⟨Nat.zero_le _, Nat.zero_le _⟩
  have hF : Fr (fun a b => (a = 210 ∧ 4 ≤ b ∧ b ≤ 10) ∨ (a = 213 ∧ w ≤ b ∧ b ≤ w) ∨ (a = 218 ∧ w ≤ b ∧ b ≤ w) ∨ (a = 221 ∧ 6 * w ≤ b ∧ b ≤ 6 * w + 5) ∨ (a = 226 ∧ 6 * w ≤ b ∧ b ≤ 6 * w + 5) ∨ (a = 228 ∧ 6 * w ≤ b ∧ b ≤ 6 * w + 5) ∨ (a = 227 ∧ 36 * w ≤ b ∧ b ≤ 36 * w + 35)) M M := Fr.rf
  have hk1 : M.1 210 4 = M.1 210 4 := rfl
  have hw2 : 0 ≤ w ∧ w ≤ 1 := by have := hI.at 210 41 ro_210_41; omega
  have hnw2 : 0 ≤ nw ∧ nw ≤ 6 := by have := hI.at 213 w (ra_213 _); omega
  have cp : ∀ n : Nat, (∀ (x1 x2 : Int), ∀ (Mc : MM), I32 x1 → I32 x2 → Iv Mc → Fr (fun a b => (a = 210 ∧ 4 ≤ b ∧ b ≤ 10) ∨ (a = 213 ∧ w ≤ b ∧ b ≤ w) ∨ (a = 218 ∧ w ≤ b ∧ b ≤ w) ∨ (a = 221 ∧ 6 * w ≤ b ∧ b ≤ 6 * w + 5) ∨ (a = 226 ∧ 6 * w ≤ b ∧ b ≤ 6 * w + 5) ∨ (a = 228 ∧ 6 * w ≤ b ∧ b ≤ 6 * w + 5) ∨ (a = 227 ∧ 36 * w ≤ b ∧ b ≤ 36 * w + 35)) M Mc → Mc.1 210 41 = w → Mc.1 213 w = nw → ML m Mc → (0 ≤ x2 ∧ x2 ≤ 6 ∧ x1 = 6 * w + nw) → 0 ≤ 32 * (6 - x2) + 1 → 32 * (6 - x2) + 1 < (n : Int) → J X B N 0 0 108 [(0, rv B 210), (1, iv x1), (2, iv x2)] [] Mc) := by
    intro n
    induction n with
    | zero => exact by intros; exfalso; omega
    | succ n ih =>
      · intro x1 x2 Mc hxx1 hxx2 hI hF hk_0 hk_1 hV_0 h2 hm0 hm1
        have hk2 : Mc.1 210 4 = Mc.1 210 4 := rfl
        refine j_iload_n hX dX11_readRoom_108 rfl 2 rfl ?_
        refine j_bipush hX dX11_readRoom_109 rfl ?_
        refine j_icmp_ge (tgt := 132) hX dX11_readRoom_111 (by decide) (by omega) (by omega) (fun hc3 => ?_) (fun hc3 => ?_)
        · skip
          refine j_aload_n hX dX11_readRoom_132 rfl 0 rfl ?_
          refine gf_X11_20 hX (by omega) (by omega) kc_210 (fc_210_11 hI) (by decide) dX11_readRoom_133 ?_
          refine j_aload_n hX dX11_readRoom_136 rfl 0 rfl ?_
          refine gf_X11_270 hX (by omega) (by omega) kc_210 dX11_readRoom_137 ?_
          refine j_top hk_0 ?_
          refine j_dup2 hX dX11_readRoom_140 rfl rfl ?_
          refine j_iald hX (by omega) (by omega) kc_213 (by omega) (by omega) (by omega) dX11_readRoom_141 ?_
          refine j_top hk_1 ?_
          refine j_iconst hX dX11_readRoom_142 ?_
          refine j_iadd hX dX11_readRoom_143 ?_
          refine j_iast hX (by omega) (by omega) kc_213 (by omega) (by omega) (by omega) (by omega) dX11_readRoom_144 ?_
          refine j_up hI (ra_213 _) (by omega) (by omega) (Or.inl (by omega)) (fun M4 w5 hw6 hM7 hI8 hf9 => ?_)
          have hV10 := ML_dp (M' := M4) hV_0 (fun a b h => by rw [hM7]; exact up_ne (by omega))
          have hk11 := kp_up hM7 (fun h => absurd h.1 (by decide)) hk_0
          have hk12 := kp_up hM7 (fun h => absurd h.1 (by decide)) hk2
          clear hk2
          have hF13 := Fr.put hF hM7 ((Or.inr (Or.inl ⟨rfl, by omega, by omega⟩)))
          exact hret _ _ _ dX11_readRoom_145 ⟨hI8, hF13, by first | assumption | omega⟩
        · skip
          refine j_aload_n hX dX11_readRoom_114 rfl 0 rfl ?_
          refine gf_X11_63 hX (by omega) (by omega) kc_210 (fc_210_25 hI) (by decide) dX11_readRoom_115 ?_
          refine j_bipush hX dX11_readRoom_118 rfl ?_
          refine j_iload_n hX dX11_readRoom_120 rfl 1 rfl ?_
          refine j_imul hX dX11_readRoom_121 ?_
          refine j_iload_n hX dX11_readRoom_122 rfl 2 rfl ?_
          refine j_iadd hX dX11_readRoom_123 ?_
          refine j_iconst hX dX11_readRoom_124 ?_
          refine j_iast hX (by omega) (by omega) kc_227 (by omega) (by omega) (by omega) (by omega) dX11_readRoom_125 ?_
          refine j_up hI (ra_227 _) (by omega) (by omega) (Or.inl (by omega)) (fun M14 w15 hw16 hM17 hI18 hf19 => ?_)
          have hV20 := ML_dp (M' := M14) hV_0 (fun a b h => by rw [hM17]; exact up_ne (by omega))
          have hk21 := kp_up hM17 (fun h => absurd h.1 (by decide)) hk_0
          have hk22 := kp_up hM17 (fun h => absurd h.1 (by decide)) hk_1
          have hk23 := kp_up hM17 (fun h => absurd h.1 (by decide)) hk2
          clear hk2
          have hF24 := Fr.put hF hM17 ((Or.inr (Or.inr (Or.inr (Or.inr (Or.inr (Or.inr ⟨rfl, by omega, by omega⟩)))))))
          refine j_iinc (lv' := [(2, _), (0, _), (1, _)]) hX dX11_readRoom_126 2 rfl (by rw [hnL]; decide) rfl ?_
          refine j_goto (tgt := 108) hX dX11_readRoom_129 (by decide) ?_
          refine j_sub [1, 2, 0] rfl ?_
          exact ih _ _ _ (by omega) (by omega) hI18 hF24 hk21 hk22 hV20 (by first | assumption | omega) (by omega) (by omega)
  show J X B N 0 0 0 [(0, rv B 210)] [] M
  refine j_bipush hX dX11_readRoom_0 rfl ?_
  refine j_aload_n hX dX11_readRoom_2 rfl 0 rfl ?_
  refine gf_X11_270 hX (by omega) (by omega) kc_210 dX11_readRoom_3 ?_
  refine j_top hw ?_
  refine j_imul hX dX11_readRoom_6 ?_
  refine j_aload_n hX dX11_readRoom_7 rfl 0 rfl ?_
  refine gf_X11_20 hX (by omega) (by omega) kc_210 (fc_210_11 hI) (by decide) dX11_readRoom_8 ?_
  refine j_aload_n hX dX11_readRoom_11 rfl 0 rfl ?_
  refine gf_X11_270 hX (by omega) (by omega) kc_210 dX11_readRoom_12 ?_
  refine j_top hw ?_
  refine j_iald hX (by omega) (by omega) kc_213 (by omega) (by omega) (by omega) dX11_readRoom_15 ?_
  refine j_top hnw ?_
  refine j_iadd hX dX11_readRoom_16 ?_
  refine j_istore_n (lv' := [(1, _), (0, _)]) hX dX11_readRoom_17 rfl (by rw [hnL]; decide) rfl ?_
  refine j_aload_n hX dX11_readRoom_18 rfl 1 rfl ?_
  refine gf_X11_88 hX (by omega) (by omega) kc_210 (fc_210_33 hI) (by decide) dX11_readRoom_19 ?_
  refine j_iload_n hX dX11_readRoom_22 rfl 0 rfl ?_
  refine j_aload_n hX dX11_readRoom_23 rfl 1 rfl ?_
  refine j_aload_n hX dX11_readRoom_24 rfl 1 rfl ?_
  refine j_callVI hX lk_X11_318 (c_X11_roomHere _ _ _ _ _ _ _ _ (by omega) hI hw hnw) (by omega) hce rfl rfl (by omega) (by omega) kc_210 rfl rfl (Nat.le_of_ble_eq_true rfl) dX11_readRoom_25 (fun z25 M26 hz28 hp27 => ?_)
  obtain ⟨hE29, hq30⟩ := hp27
  replace hE29 := hE29.symm
  subst hE29
  refine j_callVL hX lk_X11_322 (c_X11_fresh _ _ _ _ _ _ _ _ (by omega) hI (by omega) hML) (by omega) hce rfl rfl (by omega) (by omega) kc_210 rfl rfl (Nat.le_of_ble_eq_true rfl) dX11_readRoom_28 (fun z31 M32 hp33 => ?_)
  obtain ⟨hI36, hG37, hq38, hq39⟩ := hp33
  have hk41 := kp_fr hG37 (fun h => absurd h.2.2 (by decide)) hw
  have hk42 := kp_fr hG37 (fun h => absurd h.1 (by decide)) hnw
  clear hk1
  have hF43 := Fr.trans hF hG37 (fun a b h => (Or.inl h))
  have hk44 : M32.1 210 4 = M32.1 210 4 := rfl
  refine j_last hX (by omega) (by omega) kc_235 (by omega) (by omega) (by omega) dX11_readRoom_31 ?_
  refine j_upL hI36 (fun M45 hM46 hI47 => ?_)
  have hV48 := ML_dp (M' := M45) hq38 (fun a b h => by rw [hM46])
  have hk49 := kp_l hM46 hk41
  have hk50 := kp_l hM46 hk42
  have hk51 := kp_l hM46 hk44
  clear hk41 hk42 hk44
  have hF52 := Fr.l hF43 hM46
  refine j_aload_n hX dX11_readRoom_32 rfl 1 rfl ?_
  refine gf_X11_45 hX (by omega) (by omega) kc_210 (fc_210_19 hI47) (by decide) dX11_readRoom_33 ?_
  refine j_iload_n hX dX11_readRoom_36 rfl 0 rfl ?_
  refine j_aload_n hX dX11_readRoom_37 rfl 1 rfl ?_
  refine j_ldc2 hX (in_6 189 (by first | rfl | decide +kernel) rfl) dX11_readRoom_38 ?_
  refine j_iconst hX dX11_readRoom_41 ?_
  refine j_bipush hX dX11_readRoom_42 rfl ?_
  refine j_callVI hX lk_X11_307 (c_X11_after _ _ _ _ _ _ _ _ _ _ (by omega) hI47 (by omega) (by omega) hV48 (by first | assumption | omega)) (by omega) hce rfl rfl (by omega) (by omega) kc_210 rfl rfl (Nat.le_of_ble_eq_true rfl) dX11_readRoom_44 (fun z53 M54 hz56 hp55 => ?_)
  obtain ⟨hI58, hG59, hq60, hq61, hq62⟩ := hp55
  have hk64 := kp_fr hG59 (fun h => absurd h.2.2 (by decide)) hk49
  have hk65 := kp_fr hG59 (fun h => absurd h.1 (by decide)) hk50
  clear hk49 hk50 hk51
  have hF66 := Fr.trans hF52 hG59 (fun a b h => (Or.inl h))
  have hk67 : M54.1 210 4 = M54.1 210 4 := rfl
  refine j_iast hX (by omega) (by omega) kc_221 (by omega) (by omega) (by omega) (by omega) dX11_readRoom_47 ?_
  refine j_up hI58 (ra_221 _) (by omega) (by omega) (Or.inl (by omega)) (fun M68 w69 hw70 hM71 hI72 hf73 => ?_)
  have hV74 := ML_dp (M' := M68) hq60 (fun a b h => by rw [hM71]; exact up_ne (by omega))
  have hk75 := kp_up hM71 (fun h => absurd h.1 (by decide)) hk64
  have hk76 := kp_up hM71 (fun h => absurd h.1 (by decide)) hk65
  have hk77 := kp_up hM71 (fun h => absurd h.1 (by decide)) hk67
  clear hk64 hk65 hk67
  have hF78 := Fr.put hF66 hM71 ((Or.inr (Or.inr (Or.inr (Or.inl ⟨rfl, by omega, by omega⟩)))))
  refine j_aload_n hX dX11_readRoom_48 rfl 1 rfl ?_
  refine j_callVI hX lk_X11_249 (c_X11_isGood _ _ _ _ _ _ (by omega) hI72) (by omega) hce rfl rfl (by omega) (by omega) kc_210 rfl rfl (Nat.le_of_ble_eq_true rfl) dX11_readRoom_49 (fun z79 M80 hz82 hp81 => ?_)
  obtain ⟨hE83, hb84, hq85, hq86⟩ := hp81
  replace hE83 := hE83.symm
  subst hE83
  refine j_if_eq (tgt := 92) hX dX11_readRoom_52 (by decide) (by omega) (fun hc87 => ?_) (fun hc87 => ?_)
  · skip
    clear hq85
    have hi88 := hq86 (by omega)
    clear hq86
    refine j_aload_n hX dX11_readRoom_92 rfl 1 rfl ?_
    refine gf_X11_60 hX (by omega) (by omega) kc_210 (fc_210_24 hI72) (by decide) dX11_readRoom_93 ?_
    refine j_iload_n hX dX11_readRoom_96 rfl 0 rfl ?_
    refine j_iconst hX dX11_readRoom_97 ?_
    refine j_iast hX (by omega) (by omega) kc_226 (by omega) (by omega) (by omega) (by omega) dX11_readRoom_98 ?_
    refine j_up hI72 (ra_226 _) (by omega) (by omega) (Or.inl (by omega)) (fun M89 w90 hw91 hM92 hI93 hf94 => ?_)
    have hV95 := ML_dp (M' := M89) hV74 (fun a b h => by rw [hM92]; exact up_ne (by omega))
    have hk96 := kp_up hM92 (fun h => absurd h.1 (by decide)) hk75
    have hk97 := kp_up hM92 (fun h => absurd h.1 (by decide)) hk76
    have hk98 := kp_up hM92 (fun h => absurd h.1 (by decide)) hk77
    clear hk75 hk76 hk77
    have hF99 := Fr.put hF78 hM92 ((Or.inr (Or.inr (Or.inr (Or.inr (Or.inl ⟨rfl, by omega, by omega⟩))))))
    refine j_aload_n hX dX11_readRoom_99 rfl 1 rfl ?_
    refine gf_X11_66 hX (by omega) (by omega) kc_210 (fc_210_26 hI93) (by decide) dX11_readRoom_100 ?_
    refine j_iload_n hX dX11_readRoom_103 rfl 0 rfl ?_
    refine j_iconst hX dX11_readRoom_104 ?_
    refine j_iast hX (by omega) (by omega) kc_228 (by omega) (by omega) (by omega) (by omega) dX11_readRoom_105 ?_
    refine j_up hI93 (ra_228 _) (by omega) (by omega) (Or.inl (by omega)) (fun M100 w101 hw102 hM103 hI104 hf105 => ?_)
    have hV106 := ML_dp (M' := M100) hV95 (fun a b h => by rw [hM103]; exact up_ne (by omega))
    have hk107 := kp_up hM103 (fun h => absurd h.1 (by decide)) hk96
    have hk108 := kp_up hM103 (fun h => absurd h.1 (by decide)) hk97
    have hk109 := kp_up hM103 (fun h => absurd h.1 (by decide)) hk98
    clear hk96 hk97 hk98
    have hF110 := Fr.put hF99 hM103 ((Or.inr (Or.inr (Or.inr (Or.inr (Or.inr (Or.inl ⟨rfl, by omega, by omega⟩)))))))
    refine j_iconst hX dX11_readRoom_106 ?_
    refine j_istore_n (lv' := [(2, _), (1, _), (0, _)]) hX dX11_readRoom_107 rfl (by rw [hnL]; decide) rfl ?_
    refine j_sub [2, 1, 0] rfl ?_
    refine (cp (Int.toNat (256 + 1))) _ _ _ (by omega) (by omega) hI104 hF110 hk107 hk108 hV106 (by first | assumption | omega) ?_ ?_
    · omega
    · omega
  · skip
    have hi111 := hq85 (by omega)
    clear hq85
    clear hq86
    refine j_aload_n hX dX11_readRoom_55 rfl 1 rfl ?_
    refine j_ldc2 hX (in_6 190 (by first | rfl | decide +kernel) rfl) dX11_readRoom_56 ?_
    refine j_callVI hX lk_X11_259 (c_X11_isWord _ _ _ _ _ _ _ (by omega) hI72) (by omega) hce rfl rfl (by omega) (by omega) kc_210 rfl rfl (Nat.le_of_ble_eq_true rfl) dX11_readRoom_59 (fun z112 M113 hz115 hp114 => ?_)
    obtain ⟨hE116, hb117, hq118, hq119⟩ := hp114
    replace hE116 := hE116.symm
    subst hE116
    refine j_if_eq (tgt := 92) hX dX11_readRoom_62 (by decide) (by omega) (fun hc120 => ?_) (fun hc120 => ?_)
    · skip
      clear hq118
      have hi121 := hq119 (by omega)
      clear hq119
      refine j_aload_n hX dX11_readRoom_92 rfl 1 rfl ?_
      refine gf_X11_60 hX (by omega) (by omega) kc_210 (fc_210_24 hI72) (by decide) dX11_readRoom_93 ?_
      refine j_iload_n hX dX11_readRoom_96 rfl 0 rfl ?_
      refine j_iconst hX dX11_readRoom_97 ?_
      refine j_iast hX (by omega) (by omega) kc_226 (by omega) (by omega) (by omega) (by omega) dX11_readRoom_98 ?_
      refine j_up hI72 (ra_226 _) (by omega) (by omega) (Or.inl (by omega)) (fun M122 w123 hw124 hM125 hI126 hf127 => ?_)
      have hV128 := ML_dp (M' := M122) hV74 (fun a b h => by rw [hM125]; exact up_ne (by omega))
      have hk129 := kp_up hM125 (fun h => absurd h.1 (by decide)) hk75
      have hk130 := kp_up hM125 (fun h => absurd h.1 (by decide)) hk76
      have hk131 := kp_up hM125 (fun h => absurd h.1 (by decide)) hk77
      clear hk75 hk76 hk77
      have hF132 := Fr.put hF78 hM125 ((Or.inr (Or.inr (Or.inr (Or.inr (Or.inl ⟨rfl, by omega, by omega⟩))))))
      refine j_aload_n hX dX11_readRoom_99 rfl 1 rfl ?_
      refine gf_X11_66 hX (by omega) (by omega) kc_210 (fc_210_26 hI126) (by decide) dX11_readRoom_100 ?_
      refine j_iload_n hX dX11_readRoom_103 rfl 0 rfl ?_
      refine j_iconst hX dX11_readRoom_104 ?_
      refine j_iast hX (by omega) (by omega) kc_228 (by omega) (by omega) (by omega) (by omega) dX11_readRoom_105 ?_
      refine j_up hI126 (ra_228 _) (by omega) (by omega) (Or.inl (by omega)) (fun M133 w134 hw135 hM136 hI137 hf138 => ?_)
      have hV139 := ML_dp (M' := M133) hV128 (fun a b h => by rw [hM136]; exact up_ne (by omega))
      have hk140 := kp_up hM136 (fun h => absurd h.1 (by decide)) hk129
      have hk141 := kp_up hM136 (fun h => absurd h.1 (by decide)) hk130
      have hk142 := kp_up hM136 (fun h => absurd h.1 (by decide)) hk131
      clear hk129 hk130 hk131
      have hF143 := Fr.put hF132 hM136 ((Or.inr (Or.inr (Or.inr (Or.inr (Or.inr (Or.inl ⟨rfl, by omega, by omega⟩)))))))
      refine j_iconst hX dX11_readRoom_106 ?_
      refine j_istore_n (lv' := [(2, _), (1, _), (0, _)]) hX dX11_readRoom_107 rfl (by rw [hnL]; decide) rfl ?_
      refine j_sub [2, 1, 0] rfl ?_
      refine (cp (Int.toNat (256 + 1))) _ _ _ (by omega) (by omega) hI137 hF143 hk140 hk141 hV139 (by first | assumption | omega) ?_ ?_
      · omega
      · omega
    · skip
      have hi144 := hq118 (by omega)
      clear hq118
      clear hq119
      refine j_aload_n hX dX11_readRoom_65 rfl 1 rfl ?_
      refine gf_X11_36 hX (by omega) (by omega) kc_210 (fc_210_16 hI72) (by decide) dX11_readRoom_66 ?_
      refine j_aload_n hX dX11_readRoom_69 rfl 1 rfl ?_
      refine gf_X11_270 hX (by omega) (by omega) kc_210 dX11_readRoom_70 ?_
      refine j_top hk75 ?_
      refine j_dup2 hX dX11_readRoom_73 rfl rfl ?_
      refine j_iald hX (by omega) (by omega) kc_218 (by omega) (by omega) (by omega) dX11_readRoom_74 ?_
      refine j_name hI72 (ra_218 _) (fun v145 hv146 hl147 hh148 => ?_)
      refine j_iconst hX dX11_readRoom_75 ?_
      refine j_aload_n hX dX11_readRoom_76 rfl 1 rfl ?_
      refine gf_X11_20 hX (by omega) (by omega) kc_210 (fc_210_11 hI72) (by decide) dX11_readRoom_77 ?_
      refine j_aload_n hX dX11_readRoom_80 rfl 1 rfl ?_
      refine gf_X11_270 hX (by omega) (by omega) kc_210 dX11_readRoom_81 ?_
      refine j_top hk75 ?_
      refine j_iald hX (by omega) (by omega) kc_213 (by omega) (by omega) (by omega) dX11_readRoom_84 ?_
      refine j_top hk76 ?_
      refine j_ishl hX dX11_readRoom_85 (fun z149 hz150 hy151 => ?_)
      refine j_ior hX dX11_readRoom_86 (fun z152 hz153 hy154 => ?_)
      refine j_iast hX (by omega) (by omega) kc_218 (by omega) (by omega) (by omega) (by omega) dX11_readRoom_87 ?_
      refine j_up hI72 (ra_218 _) (by omega) (by omega) (Or.inl (by omega)) (fun M155 w156 hw157 hM158 hI159 hf160 => ?_)
      have hV161 := ML_dp (M' := M155) hV74 (fun a b h => by rw [hM158]; exact up_ne (by omega))
      have hk162 := kp_up hM158 (fun h => absurd h.1 (by decide)) hk75
      have hk163 := kp_up hM158 (fun h => absurd h.1 (by decide)) hk76
      have hk164 := kp_up hM158 (fun h => absurd h.1 (by decide)) hk77
      clear hk75 hk76 hk77
      have hF165 := Fr.put hF78 hM158 ((Or.inr (Or.inr (Or.inl ⟨rfl, by omega, by omega⟩))))
      refine j_aload_n hX dX11_readRoom_88 rfl 1 rfl ?_
      refine j_callVV hX lk_X11_253 (c_X11_goOn _ _ _ _ _ _ _ _ (by omega) hI159 (by first | assumption | rfl) hV161) (by omega) hce rfl rfl (by omega) (by omega) kc_210 rfl rfl (Nat.le_of_ble_eq_true rfl) dX11_readRoom_89 (fun M167 hp168 => ?_)
      obtain ⟨hI171, hG172, hq173, hq174⟩ := hp168
      have hk176 := kp_fr hG172 (fun h => absurd h.2.2 (by decide)) hk162
      have hk177 := kp_fr hG172 (fun h => absurd h.1 (by decide)) hk163
      have hk178 := kp_fr hG172 (fun h => absurd h.2.1 (by decide)) hk164
      clear hk162 hk163 hk164
      have hF179 := Fr.trans hF165 hG172 (fun a b h => (Or.inl ⟨h.1, Int.le_trans (by decide) h.2.1, Int.le_trans h.2.2 (by decide)⟩))
      refine j_aload_n hX dX11_readRoom_92 rfl 1 rfl ?_
      refine gf_X11_60 hX (by omega) (by omega) kc_210 (fc_210_24 hI171) (by decide) dX11_readRoom_93 ?_
      refine j_iload_n hX dX11_readRoom_96 rfl 0 rfl ?_
      refine j_iconst hX dX11_readRoom_97 ?_
      refine j_iast hX (by omega) (by omega) kc_226 (by omega) (by omega) (by omega) (by omega) dX11_readRoom_98 ?_
      refine j_up hI171 (ra_226 _) (by omega) (by omega) (Or.inl (by omega)) (fun M180 w181 hw182 hM183 hI184 hf185 => ?_)
      have hV186 := ML_dp (M' := M180) hq173 (fun a b h => by rw [hM183]; exact up_ne (by omega))
      have hk187 := kp_up hM183 (fun h => absurd h.1 (by decide)) hk176
      have hk188 := kp_up hM183 (fun h => absurd h.1 (by decide)) hk177
      have hk189 := kp_up hM183 (fun h => absurd h.1 (by decide)) hk178
      clear hk176 hk177 hk178
      have hF190 := Fr.put hF179 hM183 ((Or.inr (Or.inr (Or.inr (Or.inr (Or.inl ⟨rfl, by omega, by omega⟩))))))
      refine j_aload_n hX dX11_readRoom_99 rfl 1 rfl ?_
      refine gf_X11_66 hX (by omega) (by omega) kc_210 (fc_210_26 hI184) (by decide) dX11_readRoom_100 ?_
      refine j_iload_n hX dX11_readRoom_103 rfl 0 rfl ?_
      refine j_iconst hX dX11_readRoom_104 ?_
      refine j_iast hX (by omega) (by omega) kc_228 (by omega) (by omega) (by omega) (by omega) dX11_readRoom_105 ?_
      refine j_up hI184 (ra_228 _) (by omega) (by omega) (Or.inl (by omega)) (fun M191 w192 hw193 hM194 hI195 hf196 => ?_)
      have hV197 := ML_dp (M' := M191) hV186 (fun a b h => by rw [hM194]; exact up_ne (by omega))
      have hk198 := kp_up hM194 (fun h => absurd h.1 (by decide)) hk187
      have hk199 := kp_up hM194 (fun h => absurd h.1 (by decide)) hk188
      have hk200 := kp_up hM194 (fun h => absurd h.1 (by decide)) hk189
      clear hk187 hk188 hk189
      have hF201 := Fr.put hF190 hM194 ((Or.inr (Or.inr (Or.inr (Or.inr (Or.inr (Or.inl ⟨rfl, by omega, by omega⟩)))))))
      refine j_iconst hX dX11_readRoom_106 ?_
      refine j_istore_n (lv' := [(2, _), (1, _), (0, _)]) hX dX11_readRoom_107 rfl (by rw [hnL]; decide) rfl ?_
      refine j_sub [2, 1, 0] rfl ?_
      refine (cp (Int.toNat (256 + 1))) _ _ _ (by omega) (by omega) hI195 hF201 hk198 hk199 hV197 (by first | assumption | omega) ?_ ?_
      · omega
      · omega
set_option maxHeartbeats 2000000 in
set_option maxRecDepth 20000 in
theorem c_X11_readFact (l : Launch) (D : va_G) (cy : Nat → ClassId) (B N : Nat) (m : Int) (w : Int) (nw : Int) (fw : Int) (M : MM) (hN : 257 ≤ N) (hI : Iv M) (hw : M.1 210 41 = w) (hnw : M.1 213 w = nw) (hfw : M.1 214 w = fw) (hML : ML m M) (h1 : fw ≤ 9) : CV l D cy B N 5 yX11_readFact cX11_readFact 2 none [rv B 210] M (fun M' => Iv M' ∧ Fr (fun a b => (a = 210 ∧ 4 ≤ b ∧ b ≤ 10) ∨ (a = 214 ∧ w ≤ b ∧ b ≤ w) ∨ (a = 225 ∧ w ≤ b ∧ b ≤ w) ∨ (a = 223 ∧ 10 * w ≤ b ∧ b ≤ 10 * w + 9) ∨ (a = 224 ∧ 10 * w ≤ b ∧ b ≤ 10 * w + 9)) M M' ∧ (ML m M')) := by
  refine mk_CV (by decide) (Nat.le_of_ble_eq_true rfl) ?_
  intro X exl exD excy hnL hX hret
  have hce : 0 + 0 ≤ (xR X).cells ∧ 0 + 0 ≤ (xR X).slots := ⟨Nat.zero_le _, Nat.zero_le _⟩
  have hF : Fr (fun a b => (a = 210 ∧ 4 ≤ b ∧ b ≤ 10) ∨ (a = 214 ∧ w ≤ b ∧ b ≤ w) ∨ (a = 225 ∧ w ≤ b ∧ b ≤ w) ∨ (a = 223 ∧ 10 * w ≤ b ∧ b ≤ 10 * w + 9) ∨ (a = 224 ∧ 10 * w ≤ b ∧ b ≤ 10 * w + 9)) M M := Fr.rf
  have hk1 : M.1 210 4 = M.1 210 4 := rfl
  have hw2 : 0 ≤ w ∧ w ≤ 1 := by have := hI.at 210 41 ro_210_41; omega
  have hnw2 : 0 ≤ nw ∧ nw ≤ 6 := by have := hI.at 213 w (ra_213 _); omega
  have hfw2 : 0 ≤ fw ∧ fw ≤ 10 := by have := hI.at 214 w (ra_214 _); omega
  show J X B N 0 0 0 [(0, rv B 210)] [] M
  refine j_bipush hX dX11_readFact_0 rfl ?_
  refine j_aload_n hX dX11_readFact_2 rfl 0 rfl ?_
  refine gf_X11_270 hX (by omega) (by omega) kc_210 dX11_readFact_3 ?_
  refine j_top hw ?_
  refine j_imul hX dX11_readFact_6 ?_
  refine j_aload_n hX dX11_readFact_7 rfl 0 rfl ?_
  refine gf_X11_24 hX (by omega) (by omega) kc_210 (fc_210_12 hI) (by decide) dX11_readFact_8 ?_
  refine j_aload_n hX dX11_readFact_11 rfl 0 rfl ?_
  refine gf_X11_270 hX (by omega) (by omega) kc_210 dX11_readFact_12 ?_
  refine j_top hw ?_
  refine j_iald hX (by omega) (by omega) kc_214 (by omega) (by omega) (by omega) dX11_readFact_15 ?_
  refine j_top hfw ?_
  refine j_iadd hX dX11_readFact_16 ?_
  refine j_istore_n (lv' := [(1, _), (0, _)]) hX dX11_readFact_17 rfl (by rw [hnL]; decide) rfl ?_
  refine j_aload_n hX dX11_readFact_18 rfl 1 rfl ?_
  refine gf_X11_92 hX (by omega) (by omega) kc_210 (fc_210_34 hI) (by decide) dX11_readFact_19 ?_
  refine j_iload_n hX dX11_readFact_22 rfl 0 rfl ?_
  refine j_aload_n hX dX11_readFact_23 rfl 1 rfl ?_
  refine j_aload_n hX dX11_readFact_24 rfl 1 rfl ?_
  refine j_callVI hX lk_X11_329 (c_X11_factHere _ _ _ _ _ _ _ (by omega) hI hw) (by omega) hce rfl rfl (by omega) (by omega) kc_210 rfl rfl (Nat.le_of_ble_eq_true rfl) dX11_readFact_25 (fun z2 M3 hz5 hp4 => ?_)
  have hE6 := hp4.symm
  subst hE6
  refine j_callVL hX lk_X11_322 (c_X11_fresh _ _ _ _ _ _ _ _ (by omega) hI (by omega) hML) (by omega) hce rfl rfl (by omega) (by omega) kc_210 rfl rfl (Nat.le_of_ble_eq_true rfl) dX11_readFact_28 (fun z7 M8 hp9 => ?_)
  obtain ⟨hI12, hG13, hq14, hq15⟩ := hp9
  have hk17 := kp_fr hG13 (fun h => absurd h.2.2 (by decide)) hw
  have hk18 := kp_fr hG13 (fun h => absurd h.1 (by decide)) hnw
  have hk19 := kp_fr hG13 (fun h => absurd h.1 (by decide)) hfw
  clear hk1
  have hF20 := Fr.trans hF hG13 (fun a b h => (Or.inl h))
  have hk21 : M8.1 210 4 = M8.1 210 4 := rfl
  refine j_last hX (by omega) (by omega) kc_236 (by omega) (by omega) (by omega) dX11_readFact_31 ?_
  refine j_upL hI12 (fun M22 hM23 hI24 => ?_)
  have hV25 := ML_dp (M' := M22) hq14 (fun a b h => by rw [hM23])
  have hk26 := kp_l hM23 hk17
  have hk27 := kp_l hM23 hk18
  have hk28 := kp_l hM23 hk19
  have hk29 := kp_l hM23 hk21
  clear hk17 hk18 hk19 hk21
  have hF30 := Fr.l hF20 hM23
  refine j_aload_n hX dX11_readFact_32 rfl 1 rfl ?_
  refine j_aload_n hX dX11_readFact_33 rfl 1 rfl ?_
  refine j_ldc2 hX (in_6 193 (by first | rfl | decide +kernel) rfl) dX11_readFact_34 ?_
  refine j_callVI hX lk_X11_259 (c_X11_isWord _ _ _ _ _ _ _ (by omega) hI24) (by omega) hce rfl rfl (by omega) (by omega) kc_210 rfl rfl (Nat.le_of_ble_eq_true rfl) dX11_readFact_37 (fun z31 M32 hz34 hp33 => ?_)
  obtain ⟨hE35, hb36, hq37, hq38⟩ := hp33
  replace hE35 := hE35.symm
  subst hE35
  refine j_callVV hX lk_X11_262 (c_X11_must _ _ _ _ _ _ _ _ (by omega) hI24 (by omega) hV25 (by first | assumption | omega)) (by omega) hce rfl rfl (by omega) (by omega) kc_210 rfl rfl (Nat.le_of_ble_eq_true rfl) dX11_readFact_40 (fun M40 hp41 => ?_)
  obtain ⟨hI44, hG45, hq46, hq47, hq48⟩ := hp41
  have hk50 := kp_fr hG45 (fun h => absurd h.2.2 (by decide)) hk26
  have hk51 := kp_fr hG45 (fun h => absurd h.1 (by decide)) hk27
  have hk52 := kp_fr hG45 (fun h => absurd h.1 (by decide)) hk28
  clear hk26 hk27 hk28 hk29
  have hF53 := Fr.trans hF30 hG45 (fun a b h => (Or.inl h))
  have hk54 : M40.1 210 4 = M40.1 210 4 := rfl
  refine j_aload_n hX dX11_readFact_43 rfl 1 rfl ?_
  refine gf_X11_51 hX (by omega) (by omega) kc_210 (fc_210_21 hI44) (by decide) dX11_readFact_44 ?_
  refine j_iload_n hX dX11_readFact_47 rfl 0 rfl ?_
  refine j_aload_n hX dX11_readFact_48 rfl 1 rfl ?_
  refine j_aload_n hX dX11_readFact_49 rfl 1 rfl ?_
  refine j_callVI hX lk_X11_318 (c_X11_roomHere _ _ _ _ _ _ _ _ (by omega) hI44 hk50 hk51) (by omega) hce rfl rfl (by omega) (by omega) kc_210 rfl rfl (Nat.le_of_ble_eq_true rfl) dX11_readFact_50 (fun z55 M56 hz58 hp57 => ?_)
  obtain ⟨hE59, hq60⟩ := hp57
  replace hE59 := hE59.symm
  subst hE59
  refine j_callVI hX lk_X11_326 (c_X11_known _ _ _ _ _ _ _ _ (by omega) hI44 (by omega) hq46) (by omega) hce rfl rfl (by omega) (by omega) kc_210 rfl rfl (Nat.le_of_ble_eq_true rfl) dX11_readFact_53 (fun z61 M62 hz64 hp63 => ?_)
  obtain ⟨hI66, hG67, hq68, hq69, hq70, hq71, hq72⟩ := hp63
  have hk74 := kp_fr hG67 (fun h => absurd h.2.2 (by decide)) hk50
  have hk75 := kp_fr hG67 (fun h => absurd h.1 (by decide)) hk51
  have hk76 := kp_fr hG67 (fun h => absurd h.1 (by decide)) hk52
  clear hk50 hk51 hk52 hk54
  have hF77 := Fr.trans hF53 hG67 (fun a b h => (Or.inl h))
  have hk78 : M62.1 210 4 = M62.1 210 4 := rfl
  refine j_iast hX (by omega) (by omega) kc_223 (by omega) (by omega) (by omega) (by omega) dX11_readFact_56 ?_
  refine j_up hI66 (ra_223 _) (by omega) (by omega) (Or.inl (by omega)) (fun M79 w80 hw81 hM82 hI83 hf84 => ?_)
  have hV85 := ML_dp (M' := M79) hq68 (fun a b h => by rw [hM82]; exact up_ne (by omega))
  have hk86 := kp_up hM82 (fun h => absurd h.1 (by decide)) hk74
  have hk87 := kp_up hM82 (fun h => absurd h.1 (by decide)) hk75
  have hk88 := kp_up hM82 (fun h => absurd h.1 (by decide)) hk76
  have hk89 := kp_up hM82 (fun h => absurd h.1 (by decide)) hk78
  clear hk74 hk75 hk76 hk78
  have hF90 := Fr.put hF77 hM82 ((Or.inr (Or.inr (Or.inr (Or.inl ⟨rfl, by omega, by omega⟩)))))
  refine j_aload_n hX dX11_readFact_57 rfl 1 rfl ?_
  refine gf_X11_54 hX (by omega) (by omega) kc_210 (fc_210_22 hI83) (by decide) dX11_readFact_58 ?_
  refine j_iload_n hX dX11_readFact_61 rfl 0 rfl ?_
  refine j_aload_n hX dX11_readFact_62 rfl 1 rfl ?_
  refine j_ldc2 hX (in_6 194 (by first | rfl | decide +kernel) rfl) dX11_readFact_63 ?_
  refine j_iconst hX dX11_readFact_66 ?_
  refine j_bipush hX dX11_readFact_67 rfl ?_
  refine j_callVI hX lk_X11_307 (c_X11_after _ _ _ _ _ _ _ _ _ _ (by omega) hI83 (by omega) (by omega) hV85 (by first | assumption | omega)) (by omega) hce rfl rfl (by omega) (by omega) kc_210 rfl rfl (Nat.le_of_ble_eq_true rfl) dX11_readFact_69 (fun z91 M92 hz94 hp93 => ?_)
  obtain ⟨hI96, hG97, hq98, hq99, hq100⟩ := hp93
  have hk102 := kp_fr hG97 (fun h => absurd h.2.2 (by decide)) hk86
  have hk103 := kp_fr hG97 (fun h => absurd h.1 (by decide)) hk87
  have hk104 := kp_fr hG97 (fun h => absurd h.1 (by decide)) hk88
  clear hk86 hk87 hk88 hk89
  have hF105 := Fr.trans hF90 hG97 (fun a b h => (Or.inl h))
  have hk106 : M92.1 210 4 = M92.1 210 4 := rfl
  refine j_iast hX (by omega) (by omega) kc_224 (by omega) (by omega) (by omega) (by omega) dX11_readFact_72 ?_
  refine j_up hI96 (ra_224 _) (by omega) (by omega) (Or.inl (by omega)) (fun M107 w108 hw109 hM110 hI111 hf112 => ?_)
  have hV113 := ML_dp (M' := M107) hq98 (fun a b h => by rw [hM110]; exact up_ne (by omega))
  have hk114 := kp_up hM110 (fun h => absurd h.1 (by decide)) hk102
  have hk115 := kp_up hM110 (fun h => absurd h.1 (by decide)) hk103
  have hk116 := kp_up hM110 (fun h => absurd h.1 (by decide)) hk104
  have hk117 := kp_up hM110 (fun h => absurd h.1 (by decide)) hk106
  clear hk102 hk103 hk104 hk106
  have hF118 := Fr.put hF105 hM110 ((Or.inr (Or.inr (Or.inr (Or.inr ⟨rfl, by omega, by omega⟩)))))
  refine j_aload_n hX dX11_readFact_73 rfl 1 rfl ?_
  refine j_callVI hX lk_X11_249 (c_X11_isGood _ _ _ _ _ _ (by omega) hI111) (by omega) hce rfl rfl (by omega) (by omega) kc_210 rfl rfl (Nat.le_of_ble_eq_true rfl) dX11_readFact_74 (fun z119 M120 hz122 hp121 => ?_)
  obtain ⟨hE123, hb124, hq125, hq126⟩ := hp121
  replace hE123 := hE123.symm
  subst hE123
  refine j_if_eq (tgt := 117) hX dX11_readFact_77 (by decide) (by omega) (fun hc127 => ?_) (fun hc127 => ?_)
  · skip
    clear hq125
    have hi128 := hq126 (by omega)
    clear hq126
    refine j_aload_n hX dX11_readFact_117 rfl 1 rfl ?_
    refine gf_X11_24 hX (by omega) (by omega) kc_210 (fc_210_12 hI111) (by decide) dX11_readFact_118 ?_
    refine j_aload_n hX dX11_readFact_121 rfl 1 rfl ?_
    refine gf_X11_270 hX (by omega) (by omega) kc_210 dX11_readFact_122 ?_
    refine j_top hk114 ?_
    refine j_dup2 hX dX11_readFact_125 rfl rfl ?_
    refine j_iald hX (by omega) (by omega) kc_214 (by omega) (by omega) (by omega) dX11_readFact_126 ?_
    refine j_top hk116 ?_
    refine j_iconst hX dX11_readFact_127 ?_
    refine j_iadd hX dX11_readFact_128 ?_
    refine j_iast hX (by omega) (by omega) kc_214 (by omega) (by omega) (by omega) (by omega) dX11_readFact_129 ?_
    refine j_up hI111 (ra_214 _) (by omega) (by omega) (Or.inl (by omega)) (fun M129 w130 hw131 hM132 hI133 hf134 => ?_)
    have hV135 := ML_dp (M' := M129) hV113 (fun a b h => by rw [hM132]; exact up_ne (by omega))
    have hk136 := kp_up hM132 (fun h => absurd h.1 (by decide)) hk114
    have hk137 := kp_up hM132 (fun h => absurd h.1 (by decide)) hk115
    have hk138 := kp_up hM132 (fun h => absurd h.1 (by decide)) hk117
    clear hk114 hk115 hk116 hk117
    have hF139 := Fr.put hF118 hM132 ((Or.inr (Or.inl ⟨rfl, by omega, by omega⟩)))
    exact hret _ _ _ dX11_readFact_130 ⟨hI133, hF139, by first | assumption | omega⟩
  · skip
    have hi140 := hq125 (by omega)
    clear hq125
    clear hq126
    refine j_aload_n hX dX11_readFact_80 rfl 1 rfl ?_
    refine j_ldc2 hX (in_6 195 (by first | rfl | decide +kernel) rfl) dX11_readFact_81 ?_
    refine j_callVI hX lk_X11_259 (c_X11_isWord _ _ _ _ _ _ _ (by omega) hI111) (by omega) hce rfl rfl (by omega) (by omega) kc_210 rfl rfl (Nat.le_of_ble_eq_true rfl) dX11_readFact_84 (fun z141 M142 hz144 hp143 => ?_)
    obtain ⟨hE145, hb146, hq147, hq148⟩ := hp143
    replace hE145 := hE145.symm
    subst hE145
    refine j_if_eq (tgt := 117) hX dX11_readFact_87 (by decide) (by omega) (fun hc149 => ?_) (fun hc149 => ?_)
    · skip
      clear hq147
      have hi150 := hq148 (by omega)
      clear hq148
      refine j_aload_n hX dX11_readFact_117 rfl 1 rfl ?_
      refine gf_X11_24 hX (by omega) (by omega) kc_210 (fc_210_12 hI111) (by decide) dX11_readFact_118 ?_
      refine j_aload_n hX dX11_readFact_121 rfl 1 rfl ?_
      refine gf_X11_270 hX (by omega) (by omega) kc_210 dX11_readFact_122 ?_
      refine j_top hk114 ?_
      refine j_dup2 hX dX11_readFact_125 rfl rfl ?_
      refine j_iald hX (by omega) (by omega) kc_214 (by omega) (by omega) (by omega) dX11_readFact_126 ?_
      refine j_top hk116 ?_
      refine j_iconst hX dX11_readFact_127 ?_
      refine j_iadd hX dX11_readFact_128 ?_
      refine j_iast hX (by omega) (by omega) kc_214 (by omega) (by omega) (by omega) (by omega) dX11_readFact_129 ?_
      refine j_up hI111 (ra_214 _) (by omega) (by omega) (Or.inl (by omega)) (fun M151 w152 hw153 hM154 hI155 hf156 => ?_)
      have hV157 := ML_dp (M' := M151) hV113 (fun a b h => by rw [hM154]; exact up_ne (by omega))
      have hk158 := kp_up hM154 (fun h => absurd h.1 (by decide)) hk114
      have hk159 := kp_up hM154 (fun h => absurd h.1 (by decide)) hk115
      have hk160 := kp_up hM154 (fun h => absurd h.1 (by decide)) hk117
      clear hk114 hk115 hk116 hk117
      have hF161 := Fr.put hF118 hM154 ((Or.inr (Or.inl ⟨rfl, by omega, by omega⟩)))
      exact hret _ _ _ dX11_readFact_130 ⟨hI155, hF161, by first | assumption | omega⟩
    · skip
      have hi162 := hq147 (by omega)
      clear hq147
      clear hq148
      refine j_aload_n hX dX11_readFact_90 rfl 1 rfl ?_
      refine gf_X11_57 hX (by omega) (by omega) kc_210 (fc_210_23 hI111) (by decide) dX11_readFact_91 ?_
      refine j_aload_n hX dX11_readFact_94 rfl 1 rfl ?_
      refine gf_X11_270 hX (by omega) (by omega) kc_210 dX11_readFact_95 ?_
      refine j_top hk114 ?_
      refine j_dup2 hX dX11_readFact_98 rfl rfl ?_
      refine j_iald hX (by omega) (by omega) kc_225 (by omega) (by omega) (by omega) dX11_readFact_99 ?_
      refine j_name hI111 (ra_225 _) (fun v163 hv164 hl165 hh166 => ?_)
      refine j_iconst hX dX11_readFact_100 ?_
      refine j_aload_n hX dX11_readFact_101 rfl 1 rfl ?_
      refine gf_X11_24 hX (by omega) (by omega) kc_210 (fc_210_12 hI111) (by decide) dX11_readFact_102 ?_
      refine j_aload_n hX dX11_readFact_105 rfl 1 rfl ?_
      refine gf_X11_270 hX (by omega) (by omega) kc_210 dX11_readFact_106 ?_
      refine j_top hk114 ?_
      refine j_iald hX (by omega) (by omega) kc_214 (by omega) (by omega) (by omega) dX11_readFact_109 ?_
      refine j_top hk116 ?_
      refine j_ishl hX dX11_readFact_110 (fun z167 hz168 hy169 => ?_)
      refine j_ior hX dX11_readFact_111 (fun z170 hz171 hy172 => ?_)
      refine j_iast hX (by omega) (by omega) kc_225 (by omega) (by omega) (by omega) (by omega) dX11_readFact_112 ?_
      refine j_up hI111 (ra_225 _) (by omega) (by omega) (Or.inl (by omega)) (fun M173 w174 hw175 hM176 hI177 hf178 => ?_)
      have hV179 := ML_dp (M' := M173) hV113 (fun a b h => by rw [hM176]; exact up_ne (by omega))
      have hk180 := kp_up hM176 (fun h => absurd h.1 (by decide)) hk114
      have hk181 := kp_up hM176 (fun h => absurd h.1 (by decide)) hk115
      have hk182 := kp_up hM176 (fun h => absurd h.1 (by decide)) hk116
      have hk183 := kp_up hM176 (fun h => absurd h.1 (by decide)) hk117
      clear hk114 hk115 hk116 hk117
      have hF184 := Fr.put hF118 hM176 ((Or.inr (Or.inr (Or.inl ⟨rfl, by omega, by omega⟩))))
      refine j_aload_n hX dX11_readFact_113 rfl 1 rfl ?_
      refine j_callVV hX lk_X11_253 (c_X11_goOn _ _ _ _ _ _ _ _ (by omega) hI177 (by first | assumption | rfl) hV179) (by omega) hce rfl rfl (by omega) (by omega) kc_210 rfl rfl (Nat.le_of_ble_eq_true rfl) dX11_readFact_114 (fun M186 hp187 => ?_)
      obtain ⟨hI190, hG191, hq192, hq193⟩ := hp187
      have hk195 := kp_fr hG191 (fun h => absurd h.2.2 (by decide)) hk180
      have hk196 := kp_fr hG191 (fun h => absurd h.1 (by decide)) hk181
      have hk197 := kp_fr hG191 (fun h => absurd h.1 (by decide)) hk182
      have hk198 := kp_fr hG191 (fun h => absurd h.2.1 (by decide)) hk183
      clear hk180 hk181 hk182 hk183
      have hF199 := Fr.trans hF184 hG191 (fun a b h => (Or.inl ⟨h.1, Int.le_trans (by decide) h.2.1, Int.le_trans h.2.2 (by decide)⟩))
      refine j_aload_n hX dX11_readFact_117 rfl 1 rfl ?_
      refine gf_X11_24 hX (by omega) (by omega) kc_210 (fc_210_12 hI190) (by decide) dX11_readFact_118 ?_
      refine j_aload_n hX dX11_readFact_121 rfl 1 rfl ?_
      refine gf_X11_270 hX (by omega) (by omega) kc_210 dX11_readFact_122 ?_
      refine j_top hk195 ?_
      refine j_dup2 hX dX11_readFact_125 rfl rfl ?_
      refine j_iald hX (by omega) (by omega) kc_214 (by omega) (by omega) (by omega) dX11_readFact_126 ?_
      refine j_top hk197 ?_
      refine j_iconst hX dX11_readFact_127 ?_
      refine j_iadd hX dX11_readFact_128 ?_
      refine j_iast hX (by omega) (by omega) kc_214 (by omega) (by omega) (by omega) (by omega) dX11_readFact_129 ?_
      refine j_up hI190 (ra_214 _) (by omega) (by omega) (Or.inl (by omega)) (fun M200 w201 hw202 hM203 hI204 hf205 => ?_)
      have hV206 := ML_dp (M' := M200) hq192 (fun a b h => by rw [hM203]; exact up_ne (by omega))
      have hk207 := kp_up hM203 (fun h => absurd h.1 (by decide)) hk195
      have hk208 := kp_up hM203 (fun h => absurd h.1 (by decide)) hk196
      have hk209 := kp_up hM203 (fun h => absurd h.1 (by decide)) hk198
      clear hk195 hk196 hk197 hk198
      have hF210 := Fr.put hF199 hM203 ((Or.inr (Or.inl ⟨rfl, by omega, by omega⟩)))
      exact hret _ _ _ dX11_readFact_130 ⟨hI204, hF210, by first | assumption | omega⟩
set_option maxHeartbeats 2000000 in
set_option maxRecDepth 20000 in
theorem c_X11_readTells (l : Launch) (D : va_G) (cy : Nat → ClassId) (B N : Nat) (m : Int) (w : Int) (nw : Int) (M : MM) (hN : 257 ≤ N) (hI : Iv M) (hw : M.1 210 41 = w) (hnw : M.1 213 w = nw) (hML : ML m M) : CV l D cy B N 4 yX11_readTells cX11_readTells 3 none [rv B 210] M (fun M' => Iv M' ∧ Fr (fun a b => (a = 210 ∧ 4 ≤ b ∧ b ≤ 10) ∨ (a = 215 ∧ w ≤ b ∧ b ≤ w) ∨ (a = 226 ∧ 6 * w ≤ b ∧ b ≤ 6 * w + 5)) M M' ∧ (ML m M')) := by
  refine mk_CV (by decide) (Nat.le_of_ble_eq_true rfl) ?_
  intro X exl exD excy hnL hX hret
  have hce : 0 + 0 ≤ (xR X).cells ∧ 0 + 0 ≤ (xR X).slots := ⟨Nat.zero_le _, Nat.zero_le _⟩
  have hF : Fr (fun a b => (a = 210 ∧ 4 ≤ b ∧ b ≤ 10) ∨ (a = 215 ∧ w ≤ b ∧ b ≤ w) ∨ (a = 226 ∧ 6 * w ≤ b ∧ b ≤ 6 * w + 5)) M M := Fr.rf
  have hk1 : M.1 210 4 = M.1 210 4 := rfl
  have hw2 : 0 ≤ w ∧ w ≤ 1 := by have := hI.at 210 41 ro_210_41; omega
  have hnw2 : 0 ≤ nw ∧ nw ≤ 6 := by have := hI.at 213 w (ra_213 _); omega
  show J X B N 0 0 0 [(0, rv B 210)] [] M
  refine j_aload_n hX dX11_readTells_0 rfl 0 rfl ?_
  refine j_aload_n hX dX11_readTells_1 rfl 0 rfl ?_
  refine j_callVI hX lk_X11_318 (c_X11_roomHere _ _ _ _ _ _ _ _ (by omega) hI hw hnw) (by omega) hce rfl rfl (by omega) (by omega) kc_210 rfl rfl (Nat.le_of_ble_eq_true rfl) dX11_readTells_2 (fun z2 M3 hz5 hp4 => ?_)
  obtain ⟨hE6, hq7⟩ := hp4
  replace hE6 := hE6.symm
  subst hE6
  refine j_callVI hX lk_X11_326 (c_X11_known _ _ _ _ _ _ _ _ (by omega) hI (by omega) hML) (by omega) hce rfl rfl (by omega) (by omega) kc_210 rfl rfl (Nat.le_of_ble_eq_true rfl) dX11_readTells_5 (fun z8 M9 hz11 hp10 => ?_)
  obtain ⟨hI13, hG14, hq15, hq16, hq17, hq18, hq19⟩ := hp10
  have hk21 := kp_fr hG14 (fun h => absurd h.2.2 (by decide)) hw
  have hk22 := kp_fr hG14 (fun h => absurd h.1 (by decide)) hnw
  clear hk1
  have hF23 := Fr.trans hF hG14 (fun a b h => (Or.inl h))
  have hk24 : M9.1 210 4 = M9.1 210 4 := rfl
  refine j_istore_n (lv' := [(1, _), (0, _)]) hX dX11_readTells_8 rfl (by rw [hnL]; decide) rfl ?_
  refine j_aload_n hX dX11_readTells_9 rfl 1 rfl ?_
  refine j_callVI hX lk_X11_249 (c_X11_isGood _ _ _ _ _ _ (by omega) hI13) (by omega) hce rfl rfl (by omega) (by omega) kc_210 rfl rfl (Nat.le_of_ble_eq_true rfl) dX11_readTells_10 (fun z25 M26 hz28 hp27 => ?_)
  obtain ⟨hE29, hb30, hq31, hq32⟩ := hp27
  replace hE29 := hE29.symm
  subst hE29
  refine j_if_ne (tgt := 17) hX dX11_readTells_13 (by decide) (by omega) (fun hc33 => ?_) (fun hc33 => ?_)
  · skip
    have hi34 := hq31 (by omega)
    clear hq31
    clear hq32
    refine j_aload_n hX dX11_readTells_17 rfl 1 rfl ?_
    refine j_callVI hX lk_X11_318 (c_X11_roomHere _ _ _ _ _ _ _ _ (by omega) hI13 hk21 hk22) (by omega) hce rfl rfl (by omega) (by omega) kc_210 rfl rfl (Nat.le_of_ble_eq_true rfl) dX11_readTells_18 (fun z35 M36 hz38 hp37 => ?_)
    obtain ⟨hE39, hq40⟩ := hp37
    replace hE39 := hE39.symm
    subst hE39
    refine j_istore_n (lv' := [(2, _), (1, _), (0, _)]) hX dX11_readTells_21 rfl (by rw [hnL]; decide) rfl ?_
    refine j_iload_n hX dX11_readTells_22 rfl 0 rfl ?_
    refine j_if_lt (tgt := 62) hX dX11_readTells_23 (by decide) (by omega) (fun hc41 => ?_) (fun hc41 => ?_)
    · skip
      refine j_aload_n hX dX11_readTells_62 rfl 2 rfl ?_
      refine j_iload_n hX dX11_readTells_63 rfl 0 rfl ?_
      refine j_callVI hX lk_X11_326 (c_X11_known _ _ _ _ _ _ _ _ (by omega) hI13 (by omega) hq15) (by omega) hce rfl rfl (by omega) (by omega) kc_210 rfl rfl (Nat.le_of_ble_eq_true rfl) dX11_readTells_64 (fun z42 M43 hz45 hp44 => ?_)
      obtain ⟨hI47, hG48, hq49, hq50, hq51, hq52, hq53⟩ := hp44
      have hk55 := kp_fr hG48 (fun h => absurd h.2.2 (by decide)) hk21
      have hk56 := kp_fr hG48 (fun h => absurd h.1 (by decide)) hk22
      clear hk21 hk22 hk24
      have hF57 := Fr.trans hF23 hG48 (fun a b h => (Or.inl h))
      have hk58 : M43.1 210 4 = M43.1 210 4 := rfl
      refine j_istore_n (lv' := [(2, _), (1, _), (0, _)]) hX dX11_readTells_67 rfl (by rw [hnL]; decide) rfl ?_
      refine j_aload_n hX dX11_readTells_68 rfl 2 rfl ?_
      refine j_callVI hX lk_X11_249 (c_X11_isGood _ _ _ _ _ _ (by omega) hI47) (by omega) hce rfl rfl (by omega) (by omega) kc_210 rfl rfl (Nat.le_of_ble_eq_true rfl) dX11_readTells_69 (fun z59 M60 hz62 hp61 => ?_)
      obtain ⟨hE63, hb64, hq65, hq66⟩ := hp61
      replace hE63 := hE63.symm
      subst hE63
      refine j_if_ne (tgt := 76) hX dX11_readTells_72 (by decide) (by omega) (fun hc67 => ?_) (fun hc67 => ?_)
      · skip
        have hi68 := hq65 (by omega)
        clear hq65
        clear hq66
        refine j_aload_n hX dX11_readTells_76 rfl 2 rfl ?_
        refine gf_X11_60 hX (by omega) (by omega) kc_210 (fc_210_24 hI47) (by decide) dX11_readTells_77 ?_
        refine j_bipush hX dX11_readTells_80 rfl ?_
        refine j_aload_n hX dX11_readTells_82 rfl 2 rfl ?_
        refine gf_X11_270 hX (by omega) (by omega) kc_210 dX11_readTells_83 ?_
        refine j_top hk55 ?_
        refine j_imul hX dX11_readTells_86 ?_
        refine j_iload_n hX dX11_readTells_87 rfl 0 rfl ?_
        refine j_iadd hX dX11_readTells_88 ?_
        refine j_dup2 hX dX11_readTells_89 rfl rfl ?_
        refine j_iald hX (by omega) (by omega) kc_226 (by omega) (by omega) (by omega) dX11_readTells_90 ?_
        refine j_name hI47 (ra_226 _) (fun v69 hv70 hl71 hh72 => ?_)
        refine j_iconst hX dX11_readTells_91 ?_
        refine j_iload_n hX dX11_readTells_92 rfl 1 rfl ?_
        refine j_ishl hX dX11_readTells_93 (fun z73 hz74 hy75 => ?_)
        refine j_ior hX dX11_readTells_94 (fun z76 hz77 hy78 => ?_)
        refine j_iast hX (by omega) (by omega) kc_226 (by omega) (by omega) (by omega) (by omega) dX11_readTells_95 ?_
        refine j_up hI47 (ra_226 _) (by omega) (by omega) (Or.inl (by omega)) (fun M79 w80 hw81 hM82 hI83 hf84 => ?_)
        have hV85 := ML_dp (M' := M79) hq49 (fun a b h => by rw [hM82]; exact up_ne (by omega))
        have hk86 := kp_up hM82 (fun h => absurd h.1 (by decide)) hk55
        have hk87 := kp_up hM82 (fun h => absurd h.1 (by decide)) hk56
        have hk88 := kp_up hM82 (fun h => absurd h.1 (by decide)) hk58
        clear hk55 hk56 hk58
        have hF89 := Fr.put hF57 hM82 ((Or.inr (Or.inr ⟨rfl, by omega, by omega⟩)))
        refine j_aload_n hX dX11_readTells_96 rfl 2 rfl ?_
        refine gf_X11_27 hX (by omega) (by omega) kc_210 (fc_210_13 hI83) (by decide) dX11_readTells_97 ?_
        refine j_aload_n hX dX11_readTells_100 rfl 2 rfl ?_
        refine gf_X11_270 hX (by omega) (by omega) kc_210 dX11_readTells_101 ?_
        refine j_top hk86 ?_
        refine j_dup2 hX dX11_readTells_104 rfl rfl ?_
        refine j_iald hX (by omega) (by omega) kc_215 (by omega) (by omega) (by omega) dX11_readTells_105 ?_
        refine j_name hI83 (ra_215 _) (fun v90 hv91 hl92 hh93 => ?_)
        refine j_iconst hX dX11_readTells_106 ?_
        refine j_iadd hX dX11_readTells_107 ?_
        refine j_norm (fun z94 hz95 hy96 => ?_)
        refine j_iast hX (by omega) (by omega) kc_215 (by omega) (by omega) (by omega) (by omega) dX11_readTells_108 ?_
        refine j_up hI83 (ra_215 _) (by omega) (by omega) (Or.inl (by omega)) (fun M97 w98 hw99 hM100 hI101 hf102 => ?_)
        have hV103 := ML_dp (M' := M97) hV85 (fun a b h => by rw [hM100]; exact up_ne (by omega))
        have hk104 := kp_up hM100 (fun h => absurd h.1 (by decide)) hk86
        have hk105 := kp_up hM100 (fun h => absurd h.1 (by decide)) hk87
        have hk106 := kp_up hM100 (fun h => absurd h.1 (by decide)) hk88
        clear hk86 hk87 hk88
        have hF107 := Fr.put hF89 hM100 ((Or.inr (Or.inl ⟨rfl, by omega, by omega⟩)))
        exact hret _ _ _ dX11_readTells_109 ⟨hI101, hF107, by first | assumption | omega⟩
      · skip
        clear hq65
        have hi108 := hq66 (by omega)
        clear hq66
        exact hret _ _ _ dX11_readTells_75 ⟨hI47, hF57, by first | assumption | omega⟩
    · skip
      refine j_iload_n hX dX11_readTells_26 rfl 0 rfl ?_
      refine j_iload_n hX dX11_readTells_27 rfl 1 rfl ?_
      refine j_icmp_eq (tgt := 53) hX dX11_readTells_28 (by decide) (by omega) (by omega) (fun hc109 => ?_) (fun hc109 => ?_)
      · skip
        refine j_aload_n hX dX11_readTells_53 rfl 2 rfl ?_
        refine j_iconst hX dX11_readTells_54 ?_
        refine j_aload_n hX dX11_readTells_55 rfl 2 rfl ?_
        refine gf_X11_214 hX (by omega) (by omega) kc_210 dX11_readTells_56 ?_
        refine j_name hI13 ro_210_6 (fun v110 hv111 hl112 hh113 => ?_)
        have hk114 := hv111.symm
        refine j_callVV hX lk_X11_245 (c_X11_fails _ _ _ _ _ _ _ _ _ (by omega) hI13 (by omega) (by omega) hq15 (by first | assumption | omega)) (by omega) hce rfl rfl (by omega) (by omega) kc_210 rfl rfl (Nat.le_of_ble_eq_true rfl) dX11_readTells_59 (fun M116 hp117 => ?_)
        obtain ⟨hI120, hG121, hq122, hq123⟩ := hp117
        have hk125 := kp_fr hG121 (fun h => absurd h.2.2 (by decide)) hk21
        have hk126 := kp_fr hG121 (fun h => absurd h.1 (by decide)) hk22
        have hk127 := kp_fr hG121 (fun h => absurd h.2.2 (by decide)) hk114
        clear hk21 hk22 hk24 hk114
        have hF128 := Fr.trans hF23 hG121 (fun a b h => (Or.inl ⟨h.1, Int.le_trans (by decide) h.2.1, Int.le_trans h.2.2 (by decide)⟩))
        have hk129 : M116.1 210 4 = M116.1 210 4 := rfl
        refine j_aload_n hX dX11_readTells_62 rfl 2 rfl ?_
        refine j_iload_n hX dX11_readTells_63 rfl 0 rfl ?_
        refine j_callVI hX lk_X11_326 (c_X11_known _ _ _ _ _ _ _ _ (by omega) hI120 (by omega) hq122) (by omega) hce rfl rfl (by omega) (by omega) kc_210 rfl rfl (Nat.le_of_ble_eq_true rfl) dX11_readTells_64 (fun z130 M131 hz133 hp132 => ?_)
        obtain ⟨hI135, hG136, hq137, hq138, hq139, hq140, hq141⟩ := hp132
        have hk143 := kp_fr hG136 (fun h => absurd h.2.2 (by decide)) hk125
        have hk144 := kp_fr hG136 (fun h => absurd h.1 (by decide)) hk126
        clear hk125 hk126 hk127 hk129
        have hF145 := Fr.trans hF128 hG136 (fun a b h => (Or.inl h))
        have hk146 : M131.1 210 4 = M131.1 210 4 := rfl
        refine j_istore_n (lv' := [(2, _), (1, _), (0, _)]) hX dX11_readTells_67 rfl (by rw [hnL]; decide) rfl ?_
        refine j_aload_n hX dX11_readTells_68 rfl 2 rfl ?_
        refine j_callVI hX lk_X11_249 (c_X11_isGood _ _ _ _ _ _ (by omega) hI135) (by omega) hce rfl rfl (by omega) (by omega) kc_210 rfl rfl (Nat.le_of_ble_eq_true rfl) dX11_readTells_69 (fun z147 M148 hz150 hp149 => ?_)
        obtain ⟨hE151, hb152, hq153, hq154⟩ := hp149
        replace hE151 := hE151.symm
        subst hE151
        refine j_if_ne (tgt := 76) hX dX11_readTells_72 (by decide) (by omega) (fun hc155 => ?_) (fun hc155 => ?_)
        · skip
          have hi156 := hq153 (by omega)
          clear hq153
          clear hq154
          refine j_aload_n hX dX11_readTells_76 rfl 2 rfl ?_
          refine gf_X11_60 hX (by omega) (by omega) kc_210 (fc_210_24 hI135) (by decide) dX11_readTells_77 ?_
          refine j_bipush hX dX11_readTells_80 rfl ?_
          refine j_aload_n hX dX11_readTells_82 rfl 2 rfl ?_
          refine gf_X11_270 hX (by omega) (by omega) kc_210 dX11_readTells_83 ?_
          refine j_top hk143 ?_
          refine j_imul hX dX11_readTells_86 ?_
          refine j_iload_n hX dX11_readTells_87 rfl 0 rfl ?_
          refine j_iadd hX dX11_readTells_88 ?_
          refine j_dup2 hX dX11_readTells_89 rfl rfl ?_
          refine j_iald hX (by omega) (by omega) kc_226 (by omega) (by omega) (by omega) dX11_readTells_90 ?_
          refine j_name hI135 (ra_226 _) (fun v157 hv158 hl159 hh160 => ?_)
          refine j_iconst hX dX11_readTells_91 ?_
          refine j_iload_n hX dX11_readTells_92 rfl 1 rfl ?_
          refine j_ishl hX dX11_readTells_93 (fun z161 hz162 hy163 => ?_)
          refine j_ior hX dX11_readTells_94 (fun z164 hz165 hy166 => ?_)
          refine j_iast hX (by omega) (by omega) kc_226 (by omega) (by omega) (by omega) (by omega) dX11_readTells_95 ?_
          refine j_up hI135 (ra_226 _) (by omega) (by omega) (Or.inl (by omega)) (fun M167 w168 hw169 hM170 hI171 hf172 => ?_)
          have hV173 := ML_dp (M' := M167) hq137 (fun a b h => by rw [hM170]; exact up_ne (by omega))
          have hk174 := kp_up hM170 (fun h => absurd h.1 (by decide)) hk143
          have hk175 := kp_up hM170 (fun h => absurd h.1 (by decide)) hk144
          have hk176 := kp_up hM170 (fun h => absurd h.1 (by decide)) hk146
          clear hk143 hk144 hk146
          have hF177 := Fr.put hF145 hM170 ((Or.inr (Or.inr ⟨rfl, by omega, by omega⟩)))
          refine j_aload_n hX dX11_readTells_96 rfl 2 rfl ?_
          refine gf_X11_27 hX (by omega) (by omega) kc_210 (fc_210_13 hI171) (by decide) dX11_readTells_97 ?_
          refine j_aload_n hX dX11_readTells_100 rfl 2 rfl ?_
          refine gf_X11_270 hX (by omega) (by omega) kc_210 dX11_readTells_101 ?_
          refine j_top hk174 ?_
          refine j_dup2 hX dX11_readTells_104 rfl rfl ?_
          refine j_iald hX (by omega) (by omega) kc_215 (by omega) (by omega) (by omega) dX11_readTells_105 ?_
          refine j_name hI171 (ra_215 _) (fun v178 hv179 hl180 hh181 => ?_)
          refine j_iconst hX dX11_readTells_106 ?_
          refine j_iadd hX dX11_readTells_107 ?_
          refine j_norm (fun z182 hz183 hy184 => ?_)
          refine j_iast hX (by omega) (by omega) kc_215 (by omega) (by omega) (by omega) (by omega) dX11_readTells_108 ?_
          refine j_up hI171 (ra_215 _) (by omega) (by omega) (Or.inl (by omega)) (fun M185 w186 hw187 hM188 hI189 hf190 => ?_)
          have hV191 := ML_dp (M' := M185) hV173 (fun a b h => by rw [hM188]; exact up_ne (by omega))
          have hk192 := kp_up hM188 (fun h => absurd h.1 (by decide)) hk174
          have hk193 := kp_up hM188 (fun h => absurd h.1 (by decide)) hk175
          have hk194 := kp_up hM188 (fun h => absurd h.1 (by decide)) hk176
          clear hk174 hk175 hk176
          have hF195 := Fr.put hF177 hM188 ((Or.inr (Or.inl ⟨rfl, by omega, by omega⟩)))
          exact hret _ _ _ dX11_readTells_109 ⟨hI189, hF195, by first | assumption | omega⟩
        · skip
          clear hq153
          have hi196 := hq154 (by omega)
          clear hq154
          exact hret _ _ _ dX11_readTells_75 ⟨hI135, hF145, by first | assumption | omega⟩
      · skip
        refine j_aload_n hX dX11_readTells_31 rfl 2 rfl ?_
        refine gf_X11_60 hX (by omega) (by omega) kc_210 (fc_210_24 hI13) (by decide) dX11_readTells_32 ?_
        refine j_bipush hX dX11_readTells_35 rfl ?_
        refine j_aload_n hX dX11_readTells_37 rfl 2 rfl ?_
        refine gf_X11_270 hX (by omega) (by omega) kc_210 dX11_readTells_38 ?_
        refine j_top hk21 ?_
        refine j_imul hX dX11_readTells_41 ?_
        refine j_iload_n hX dX11_readTells_42 rfl 0 rfl ?_
        refine j_iadd hX dX11_readTells_43 ?_
        refine j_iald hX (by omega) (by omega) kc_226 (by omega) (by omega) (by omega) dX11_readTells_44 ?_
        refine j_name hI13 (ra_226 _) (fun v197 hv198 hl199 hh200 => ?_)
        refine j_iload_n hX dX11_readTells_45 rfl 1 rfl ?_
        refine j_ishr hX dX11_readTells_46 (fun z201 hz202 hy203 => ?_)
        refine j_iconst hX dX11_readTells_47 ?_
        refine j_iand hX dX11_readTells_48 (fun z204 hz205 hy206 => ?_)
        have ha207 := (and_f hz205 (by omega) (by omega)).2 (by omega)
        refine j_iconst hX dX11_readTells_49 ?_
        refine j_icmp_ne (tgt := 62) hX dX11_readTells_50 (by decide) (by omega) (by omega) (fun hc208 => ?_) (fun hc208 => ?_)
        · skip
          refine j_aload_n hX dX11_readTells_62 rfl 2 rfl ?_
          refine j_iload_n hX dX11_readTells_63 rfl 0 rfl ?_
          refine j_callVI hX lk_X11_326 (c_X11_known _ _ _ _ _ _ _ _ (by omega) hI13 (by omega) hq15) (by omega) hce rfl rfl (by omega) (by omega) kc_210 rfl rfl (Nat.le_of_ble_eq_true rfl) dX11_readTells_64 (fun z209 M210 hz212 hp211 => ?_)
          obtain ⟨hI214, hG215, hq216, hq217, hq218, hq219, hq220⟩ := hp211
          have hk222 := kp_fr hG215 (fun h => absurd h.2.2 (by decide)) hk21
          have hk223 := kp_fr hG215 (fun h => absurd h.1 (by decide)) hk22
          clear hk21 hk22 hk24
          have hF224 := Fr.trans hF23 hG215 (fun a b h => (Or.inl h))
          have hk225 : M210.1 210 4 = M210.1 210 4 := rfl
          refine j_istore_n (lv' := [(2, _), (1, _), (0, _)]) hX dX11_readTells_67 rfl (by rw [hnL]; decide) rfl ?_
          refine j_aload_n hX dX11_readTells_68 rfl 2 rfl ?_
          refine j_callVI hX lk_X11_249 (c_X11_isGood _ _ _ _ _ _ (by omega) hI214) (by omega) hce rfl rfl (by omega) (by omega) kc_210 rfl rfl (Nat.le_of_ble_eq_true rfl) dX11_readTells_69 (fun z226 M227 hz229 hp228 => ?_)
          obtain ⟨hE230, hb231, hq232, hq233⟩ := hp228
          replace hE230 := hE230.symm
          subst hE230
          refine j_if_ne (tgt := 76) hX dX11_readTells_72 (by decide) (by omega) (fun hc234 => ?_) (fun hc234 => ?_)
          · skip
            have hi235 := hq232 (by omega)
            clear hq232
            clear hq233
            refine j_aload_n hX dX11_readTells_76 rfl 2 rfl ?_
            refine gf_X11_60 hX (by omega) (by omega) kc_210 (fc_210_24 hI214) (by decide) dX11_readTells_77 ?_
            refine j_bipush hX dX11_readTells_80 rfl ?_
            refine j_aload_n hX dX11_readTells_82 rfl 2 rfl ?_
            refine gf_X11_270 hX (by omega) (by omega) kc_210 dX11_readTells_83 ?_
            refine j_top hk222 ?_
            refine j_imul hX dX11_readTells_86 ?_
            refine j_iload_n hX dX11_readTells_87 rfl 0 rfl ?_
            refine j_iadd hX dX11_readTells_88 ?_
            refine j_dup2 hX dX11_readTells_89 rfl rfl ?_
            refine j_iald hX (by omega) (by omega) kc_226 (by omega) (by omega) (by omega) dX11_readTells_90 ?_
            refine j_name hI214 (ra_226 _) (fun v236 hv237 hl238 hh239 => ?_)
            refine j_iconst hX dX11_readTells_91 ?_
            refine j_iload_n hX dX11_readTells_92 rfl 1 rfl ?_
            refine j_ishl hX dX11_readTells_93 (fun z240 hz241 hy242 => ?_)
            refine j_ior hX dX11_readTells_94 (fun z243 hz244 hy245 => ?_)
            refine j_iast hX (by omega) (by omega) kc_226 (by omega) (by omega) (by omega) (by omega) dX11_readTells_95 ?_
            refine j_up hI214 (ra_226 _) (by omega) (by omega) (Or.inl (by omega)) (fun M246 w247 hw248 hM249 hI250 hf251 => ?_)
            have hV252 := ML_dp (M' := M246) hq216 (fun a b h => by rw [hM249]; exact up_ne (by omega))
            have hk253 := kp_up hM249 (fun h => absurd h.1 (by decide)) hk222
            have hk254 := kp_up hM249 (fun h => absurd h.1 (by decide)) hk223
            have hk255 := kp_up hM249 (fun h => absurd h.1 (by decide)) hk225
            clear hk222 hk223 hk225
            have hF256 := Fr.put hF224 hM249 ((Or.inr (Or.inr ⟨rfl, by omega, by omega⟩)))
            refine j_aload_n hX dX11_readTells_96 rfl 2 rfl ?_
            refine gf_X11_27 hX (by omega) (by omega) kc_210 (fc_210_13 hI250) (by decide) dX11_readTells_97 ?_
            refine j_aload_n hX dX11_readTells_100 rfl 2 rfl ?_
            refine gf_X11_270 hX (by omega) (by omega) kc_210 dX11_readTells_101 ?_
            refine j_top hk253 ?_
            refine j_dup2 hX dX11_readTells_104 rfl rfl ?_
            refine j_iald hX (by omega) (by omega) kc_215 (by omega) (by omega) (by omega) dX11_readTells_105 ?_
            refine j_name hI250 (ra_215 _) (fun v257 hv258 hl259 hh260 => ?_)
            refine j_iconst hX dX11_readTells_106 ?_
            refine j_iadd hX dX11_readTells_107 ?_
            refine j_norm (fun z261 hz262 hy263 => ?_)
            refine j_iast hX (by omega) (by omega) kc_215 (by omega) (by omega) (by omega) (by omega) dX11_readTells_108 ?_
            refine j_up hI250 (ra_215 _) (by omega) (by omega) (Or.inl (by omega)) (fun M264 w265 hw266 hM267 hI268 hf269 => ?_)
            have hV270 := ML_dp (M' := M264) hV252 (fun a b h => by rw [hM267]; exact up_ne (by omega))
            have hk271 := kp_up hM267 (fun h => absurd h.1 (by decide)) hk253
            have hk272 := kp_up hM267 (fun h => absurd h.1 (by decide)) hk254
            have hk273 := kp_up hM267 (fun h => absurd h.1 (by decide)) hk255
            clear hk253 hk254 hk255
            have hF274 := Fr.put hF256 hM267 ((Or.inr (Or.inl ⟨rfl, by omega, by omega⟩)))
            exact hret _ _ _ dX11_readTells_109 ⟨hI268, hF274, by first | assumption | omega⟩
          · skip
            clear hq232
            have hi275 := hq233 (by omega)
            clear hq233
            exact hret _ _ _ dX11_readTells_75 ⟨hI214, hF224, by first | assumption | omega⟩
        · skip
          refine j_aload_n hX dX11_readTells_53 rfl 2 rfl ?_
          refine j_iconst hX dX11_readTells_54 ?_
          refine j_aload_n hX dX11_readTells_55 rfl 2 rfl ?_
          refine gf_X11_214 hX (by omega) (by omega) kc_210 dX11_readTells_56 ?_
          refine j_name hI13 ro_210_6 (fun v276 hv277 hl278 hh279 => ?_)
          have hk280 := hv277.symm
          refine j_callVV hX lk_X11_245 (c_X11_fails _ _ _ _ _ _ _ _ _ (by omega) hI13 (by omega) (by omega) hq15 (by first | assumption | omega)) (by omega) hce rfl rfl (by omega) (by omega) kc_210 rfl rfl (Nat.le_of_ble_eq_true rfl) dX11_readTells_59 (fun M282 hp283 => ?_)
          obtain ⟨hI286, hG287, hq288, hq289⟩ := hp283
          have hk291 := kp_fr hG287 (fun h => absurd h.2.2 (by decide)) hk21
          have hk292 := kp_fr hG287 (fun h => absurd h.1 (by decide)) hk22
          have hk293 := kp_fr hG287 (fun h => absurd h.2.2 (by decide)) hk280
          clear hk21 hk22 hk24 hk280
          have hF294 := Fr.trans hF23 hG287 (fun a b h => (Or.inl ⟨h.1, Int.le_trans (by decide) h.2.1, Int.le_trans h.2.2 (by decide)⟩))
          have hk295 : M282.1 210 4 = M282.1 210 4 := rfl
          refine j_aload_n hX dX11_readTells_62 rfl 2 rfl ?_
          refine j_iload_n hX dX11_readTells_63 rfl 0 rfl ?_
          refine j_callVI hX lk_X11_326 (c_X11_known _ _ _ _ _ _ _ _ (by omega) hI286 (by omega) hq288) (by omega) hce rfl rfl (by omega) (by omega) kc_210 rfl rfl (Nat.le_of_ble_eq_true rfl) dX11_readTells_64 (fun z296 M297 hz299 hp298 => ?_)
          obtain ⟨hI301, hG302, hq303, hq304, hq305, hq306, hq307⟩ := hp298
          have hk309 := kp_fr hG302 (fun h => absurd h.2.2 (by decide)) hk291
          have hk310 := kp_fr hG302 (fun h => absurd h.1 (by decide)) hk292
          clear hk291 hk292 hk293 hk295
          have hF311 := Fr.trans hF294 hG302 (fun a b h => (Or.inl h))
          have hk312 : M297.1 210 4 = M297.1 210 4 := rfl
          refine j_istore_n (lv' := [(2, _), (1, _), (0, _)]) hX dX11_readTells_67 rfl (by rw [hnL]; decide) rfl ?_
          refine j_aload_n hX dX11_readTells_68 rfl 2 rfl ?_
          refine j_callVI hX lk_X11_249 (c_X11_isGood _ _ _ _ _ _ (by omega) hI301) (by omega) hce rfl rfl (by omega) (by omega) kc_210 rfl rfl (Nat.le_of_ble_eq_true rfl) dX11_readTells_69 (fun z313 M314 hz316 hp315 => ?_)
          obtain ⟨hE317, hb318, hq319, hq320⟩ := hp315
          replace hE317 := hE317.symm
          subst hE317
          refine j_if_ne (tgt := 76) hX dX11_readTells_72 (by decide) (by omega) (fun hc321 => ?_) (fun hc321 => ?_)
          · skip
            have hi322 := hq319 (by omega)
            clear hq319
            clear hq320
            refine j_aload_n hX dX11_readTells_76 rfl 2 rfl ?_
            refine gf_X11_60 hX (by omega) (by omega) kc_210 (fc_210_24 hI301) (by decide) dX11_readTells_77 ?_
            refine j_bipush hX dX11_readTells_80 rfl ?_
            refine j_aload_n hX dX11_readTells_82 rfl 2 rfl ?_
            refine gf_X11_270 hX (by omega) (by omega) kc_210 dX11_readTells_83 ?_
            refine j_top hk309 ?_
            refine j_imul hX dX11_readTells_86 ?_
            refine j_iload_n hX dX11_readTells_87 rfl 0 rfl ?_
            refine j_iadd hX dX11_readTells_88 ?_
            refine j_dup2 hX dX11_readTells_89 rfl rfl ?_
            refine j_iald hX (by omega) (by omega) kc_226 (by omega) (by omega) (by omega) dX11_readTells_90 ?_
            refine j_name hI301 (ra_226 _) (fun v323 hv324 hl325 hh326 => ?_)
            refine j_iconst hX dX11_readTells_91 ?_
            refine j_iload_n hX dX11_readTells_92 rfl 1 rfl ?_
            refine j_ishl hX dX11_readTells_93 (fun z327 hz328 hy329 => ?_)
            refine j_ior hX dX11_readTells_94 (fun z330 hz331 hy332 => ?_)
            refine j_iast hX (by omega) (by omega) kc_226 (by omega) (by omega) (by omega) (by omega) dX11_readTells_95 ?_
            refine j_up hI301 (ra_226 _) (by omega) (by omega) (Or.inl (by omega)) (fun M333 w334 hw335 hM336 hI337 hf338 => ?_)
            have hV339 := ML_dp (M' := M333) hq303 (fun a b h => by rw [hM336]; exact up_ne (by omega))
            have hk340 := kp_up hM336 (fun h => absurd h.1 (by decide)) hk309
            have hk341 := kp_up hM336 (fun h => absurd h.1 (by decide)) hk310
            have hk342 := kp_up hM336 (fun h => absurd h.1 (by decide)) hk312
            clear hk309 hk310 hk312
            have hF343 := Fr.put hF311 hM336 ((Or.inr (Or.inr ⟨rfl, by omega, by omega⟩)))
            refine j_aload_n hX dX11_readTells_96 rfl 2 rfl ?_
            refine gf_X11_27 hX (by omega) (by omega) kc_210 (fc_210_13 hI337) (by decide) dX11_readTells_97 ?_
            refine j_aload_n hX dX11_readTells_100 rfl 2 rfl ?_
            refine gf_X11_270 hX (by omega) (by omega) kc_210 dX11_readTells_101 ?_
            refine j_top hk340 ?_
            refine j_dup2 hX dX11_readTells_104 rfl rfl ?_
            refine j_iald hX (by omega) (by omega) kc_215 (by omega) (by omega) (by omega) dX11_readTells_105 ?_
            refine j_name hI337 (ra_215 _) (fun v344 hv345 hl346 hh347 => ?_)
            refine j_iconst hX dX11_readTells_106 ?_
            refine j_iadd hX dX11_readTells_107 ?_
            refine j_norm (fun z348 hz349 hy350 => ?_)
            refine j_iast hX (by omega) (by omega) kc_215 (by omega) (by omega) (by omega) (by omega) dX11_readTells_108 ?_
            refine j_up hI337 (ra_215 _) (by omega) (by omega) (Or.inl (by omega)) (fun M351 w352 hw353 hM354 hI355 hf356 => ?_)
            have hV357 := ML_dp (M' := M351) hV339 (fun a b h => by rw [hM354]; exact up_ne (by omega))
            have hk358 := kp_up hM354 (fun h => absurd h.1 (by decide)) hk340
            have hk359 := kp_up hM354 (fun h => absurd h.1 (by decide)) hk341
            have hk360 := kp_up hM354 (fun h => absurd h.1 (by decide)) hk342
            clear hk340 hk341 hk342
            have hF361 := Fr.put hF343 hM354 ((Or.inr (Or.inl ⟨rfl, by omega, by omega⟩)))
            exact hret _ _ _ dX11_readTells_109 ⟨hI355, hF361, by first | assumption | omega⟩
          · skip
            clear hq319
            have hi362 := hq320 (by omega)
            clear hq320
            exact hret _ _ _ dX11_readTells_75 ⟨hI301, hF311, by first | assumption | omega⟩
  · skip
    clear hq31
    have hi363 := hq32 (by omega)
    clear hq32
    exact hret _ _ _ dX11_readTells_16 ⟨hI13, hF23, by first | assumption | omega⟩
set_option maxHeartbeats 2000000 in
set_option maxRecDepth 20000 in
theorem c_X11_readWants (l : Launch) (D : va_G) (cy : Nat → ClassId) (B N : Nat) (m : Int) (w : Int) (nw : Int) (M : MM) (hN : 257 ≤ N) (hI : Iv M) (hw : M.1 210 41 = w) (hnw : M.1 213 w = nw) (hML : ML m M) : CV l D cy B N 4 yX11_readWants cX11_readWants 4 none [rv B 210] M (fun M' => Iv M' ∧ Fr (fun a b => (a = 210 ∧ 4 ≤ b ∧ b ≤ 10) ∨ (a = 228 ∧ 6 * w ≤ b ∧ b ≤ 6 * w + 5) ∨ (a = 227 ∧ 36 * w ≤ b ∧ b ≤ 36 * w + 35)) M M' ∧ (ML m M')) := by
  refine mk_CV (by decide) (Nat.le_of_ble_eq_true rfl) ?_
  intro X exl exD excy hnL hX hret
  have hce : 0 + 0 ≤ (xR X).cells ∧ 0 + 0 ≤ (xR X).slots := ⟨Nat.zero_le _, Nat.zero_le _⟩
  have hF : Fr (fun a b => (a = 210 ∧ 4 ≤ b ∧ b ≤ 10) ∨ (a = 228 ∧ 6 * w ≤ b ∧ b ≤ 6 * w + 5) ∨ (a = 227 ∧ 36 * w ≤ b ∧ b ≤ 36 * w + 35)) M M := Fr.rf
  have hk1 : M.1 210 4 = M.1 210 4 := rfl
  have hw2 : 0 ≤ w ∧ w ≤ 1 := by have := hI.at 210 41 ro_210_41; omega
  have hnw2 : 0 ≤ nw ∧ nw ≤ 6 := by have := hI.at 213 w (ra_213 _); omega
  show J X B N 0 0 0 [(0, rv B 210)] [] M
  refine j_bipush hX dX11_readWants_0 rfl ?_
  refine j_aload_n hX dX11_readWants_2 rfl 0 rfl ?_
  refine gf_X11_270 hX (by omega) (by omega) kc_210 dX11_readWants_3 ?_
  refine j_top hw ?_
  refine j_imul hX dX11_readWants_6 ?_
  refine j_aload_n hX dX11_readWants_7 rfl 0 rfl ?_
  refine j_aload_n hX dX11_readWants_8 rfl 0 rfl ?_
  refine j_callVI hX lk_X11_318 (c_X11_roomHere _ _ _ _ _ _ _ _ (by omega) hI hw hnw) (by omega) hce rfl rfl (by omega) (by omega) kc_210 rfl rfl (Nat.le_of_ble_eq_true rfl) dX11_readWants_9 (fun z2 M3 hz5 hp4 => ?_)
  obtain ⟨hE6, hq7⟩ := hp4
  replace hE6 := hE6.symm
  subst hE6
  refine j_callVI hX lk_X11_326 (c_X11_known _ _ _ _ _ _ _ _ (by omega) hI (by omega) hML) (by omega) hce rfl rfl (by omega) (by omega) kc_210 rfl rfl (Nat.le_of_ble_eq_true rfl) dX11_readWants_12 (fun z8 M9 hz11 hp10 => ?_)
  obtain ⟨hI13, hG14, hq15, hq16, hq17, hq18, hq19⟩ := hp10
  have hk21 := kp_fr hG14 (fun h => absurd h.2.2 (by decide)) hw
  have hk22 := kp_fr hG14 (fun h => absurd h.1 (by decide)) hnw
  clear hk1
  have hF23 := Fr.trans hF hG14 (fun a b h => (Or.inl h))
  have hk24 : M9.1 210 4 = M9.1 210 4 := rfl
  refine j_iadd hX dX11_readWants_15 ?_
  refine j_istore_n (lv' := [(1, _), (0, _)]) hX dX11_readWants_16 rfl (by rw [hnL]; decide) rfl ?_
  refine j_aload_n hX dX11_readWants_17 rfl 1 rfl ?_
  refine j_callVI hX lk_X11_249 (c_X11_isGood _ _ _ _ _ _ (by omega) hI13) (by omega) hce rfl rfl (by omega) (by omega) kc_210 rfl rfl (Nat.le_of_ble_eq_true rfl) dX11_readWants_18 (fun z25 M26 hz28 hp27 => ?_)
  obtain ⟨hE29, hb30, hq31, hq32⟩ := hp27
  replace hE29 := hE29.symm
  subst hE29
  refine j_if_ne (tgt := 25) hX dX11_readWants_21 (by decide) (by omega) (fun hc33 => ?_) (fun hc33 => ?_)
  · skip
    have hi34 := hq31 (by omega)
    clear hq31
    clear hq32
    refine j_aload_n hX dX11_readWants_25 rfl 1 rfl ?_
    refine j_callVI hX lk_X11_318 (c_X11_roomHere _ _ _ _ _ _ _ _ (by omega) hI13 hk21 hk22) (by omega) hce rfl rfl (by omega) (by omega) kc_210 rfl rfl (Nat.le_of_ble_eq_true rfl) dX11_readWants_26 (fun z35 M36 hz38 hp37 => ?_)
    obtain ⟨hE39, hq40⟩ := hp37
    replace hE39 := hE39.symm
    subst hE39
    refine j_istore_n (lv' := [(2, _), (1, _), (0, _)]) hX dX11_readWants_29 rfl (by rw [hnL]; decide) rfl ?_
    refine j_iload_n hX dX11_readWants_30 rfl 0 rfl ?_
    refine j_if_lt (tgt := 57) hX dX11_readWants_31 (by decide) (by omega) (fun hc41 => ?_) (fun hc41 => ?_)
    · skip
      refine j_aload_n hX dX11_readWants_57 rfl 2 rfl ?_
      refine j_iload_n hX dX11_readWants_58 rfl 0 rfl ?_
      refine j_callVI hX lk_X11_326 (c_X11_known _ _ _ _ _ _ _ _ (by omega) hI13 (by omega) hq15) (by omega) hce rfl rfl (by omega) (by omega) kc_210 rfl rfl (Nat.le_of_ble_eq_true rfl) dX11_readWants_59 (fun z42 M43 hz45 hp44 => ?_)
      obtain ⟨hI47, hG48, hq49, hq50, hq51, hq52, hq53⟩ := hp44
      have hk55 := kp_fr hG48 (fun h => absurd h.2.2 (by decide)) hk21
      have hk56 := kp_fr hG48 (fun h => absurd h.1 (by decide)) hk22
      clear hk21 hk22 hk24
      have hF57 := Fr.trans hF23 hG48 (fun a b h => (Or.inl h))
      have hk58 : M43.1 210 4 = M43.1 210 4 := rfl
      refine j_istore_n (lv' := [(2, _), (1, _), (0, _)]) hX dX11_readWants_62 rfl (by rw [hnL]; decide) rfl ?_
      refine j_aload_n hX dX11_readWants_63 rfl 2 rfl ?_
      refine j_iconst hX dX11_readWants_64 ?_
      refine j_bipush hX dX11_readWants_65 rfl ?_
      refine j_callVI hX lk_X11_266 (c_X11_numeral _ _ _ _ _ _ _ _ _ (by omega) hI47 (by omega) (by omega) hq49 (by first | assumption | omega)) (by omega) hce rfl rfl (by omega) (by omega) kc_210 rfl rfl (Nat.le_of_ble_eq_true rfl) dX11_readWants_67 (fun z59 M60 hz62 hp61 => ?_)
      obtain ⟨hI64, hG65, hq66, hq67, hq68⟩ := hp61
      have hk70 := kp_fr hG65 (fun h => absurd h.2.2 (by decide)) hk55
      have hk71 := kp_fr hG65 (fun h => absurd h.1 (by decide)) hk56
      clear hk55 hk56 hk58
      have hF72 := Fr.trans hF57 hG65 (fun a b h => (Or.inl h))
      have hk73 : M60.1 210 4 = M60.1 210 4 := rfl
      refine j_istore_n (lv' := [(3, _), (2, _), (1, _), (0, _)]) hX dX11_readWants_70 rfl (by rw [hnL]; decide) rfl ?_
      refine j_aload_n hX dX11_readWants_71 rfl 3 rfl ?_
      refine j_callVI hX lk_X11_249 (c_X11_isGood _ _ _ _ _ _ (by omega) hI64) (by omega) hce rfl rfl (by omega) (by omega) kc_210 rfl rfl (Nat.le_of_ble_eq_true rfl) dX11_readWants_72 (fun z74 M75 hz77 hp76 => ?_)
      obtain ⟨hE78, hb79, hq80, hq81⟩ := hp76
      replace hE78 := hE78.symm
      subst hE78
      refine j_if_ne (tgt := 79) hX dX11_readWants_75 (by decide) (by omega) (fun hc82 => ?_) (fun hc82 => ?_)
      · skip
        have hi83 := hq80 (by omega)
        clear hq80
        clear hq81
        refine j_aload_n hX dX11_readWants_79 rfl 3 rfl ?_
        refine gf_X11_66 hX (by omega) (by omega) kc_210 (fc_210_26 hI64) (by decide) dX11_readWants_80 ?_
        refine j_iload_n hX dX11_readWants_83 rfl 2 rfl ?_
        refine j_dup2 hX dX11_readWants_84 rfl rfl ?_
        refine j_iald hX (by omega) (by omega) kc_228 (by omega) (by omega) (by omega) dX11_readWants_85 ?_
        refine j_name hI64 (ra_228 _) (fun v84 hv85 hl86 hh87 => ?_)
        refine j_iconst hX dX11_readWants_86 ?_
        refine j_iload_n hX dX11_readWants_87 rfl 1 rfl ?_
        refine j_ishl hX dX11_readWants_88 (fun z88 hz89 hy90 => ?_)
        refine j_ior hX dX11_readWants_89 (fun z91 hz92 hy93 => ?_)
        refine j_iast hX (by omega) (by omega) kc_228 (by omega) (by omega) (by omega) (by omega) dX11_readWants_90 ?_
        refine j_up hI64 (ra_228 _) (by omega) (by omega) (Or.inl (by omega)) (fun M94 w95 hw96 hM97 hI98 hf99 => ?_)
        have hV100 := ML_dp (M' := M94) hq66 (fun a b h => by rw [hM97]; exact up_ne (by omega))
        have hk101 := kp_up hM97 (fun h => absurd h.1 (by decide)) hk70
        have hk102 := kp_up hM97 (fun h => absurd h.1 (by decide)) hk71
        have hk103 := kp_up hM97 (fun h => absurd h.1 (by decide)) hk73
        clear hk70 hk71 hk73
        have hF104 := Fr.put hF72 hM97 ((Or.inr (Or.inl ⟨rfl, by omega, by omega⟩)))
        refine j_aload_n hX dX11_readWants_91 rfl 3 rfl ?_
        refine gf_X11_63 hX (by omega) (by omega) kc_210 (fc_210_25 hI98) (by decide) dX11_readWants_92 ?_
        refine j_bipush hX dX11_readWants_95 rfl ?_
        refine j_iload_n hX dX11_readWants_97 rfl 2 rfl ?_
        refine j_imul hX dX11_readWants_98 ?_
        refine j_iload_n hX dX11_readWants_99 rfl 1 rfl ?_
        refine j_iadd hX dX11_readWants_100 ?_
        refine j_iload_n hX dX11_readWants_101 rfl 0 rfl ?_
        refine j_iast hX (by omega) (by omega) kc_227 (by omega) (by omega) (by omega) (by omega) dX11_readWants_102 ?_
        refine j_up hI98 (ra_227 _) (by omega) (by omega) (Or.inl (by omega)) (fun M105 w106 hw107 hM108 hI109 hf110 => ?_)
        have hV111 := ML_dp (M' := M105) hV100 (fun a b h => by rw [hM108]; exact up_ne (by omega))
        have hk112 := kp_up hM108 (fun h => absurd h.1 (by decide)) hk101
        have hk113 := kp_up hM108 (fun h => absurd h.1 (by decide)) hk102
        have hk114 := kp_up hM108 (fun h => absurd h.1 (by decide)) hk103
        clear hk101 hk102 hk103
        have hF115 := Fr.put hF104 hM108 ((Or.inr (Or.inr ⟨rfl, by omega, by omega⟩)))
        exact hret _ _ _ dX11_readWants_103 ⟨hI109, hF115, by first | assumption | omega⟩
      · skip
        clear hq80
        have hi116 := hq81 (by omega)
        clear hq81
        exact hret _ _ _ dX11_readWants_78 ⟨hI64, hF72, by first | assumption | omega⟩
    · skip
      refine j_aload_n hX dX11_readWants_34 rfl 2 rfl ?_
      refine gf_X11_66 hX (by omega) (by omega) kc_210 (fc_210_26 hI13) (by decide) dX11_readWants_35 ?_
      refine j_iload_n hX dX11_readWants_38 rfl 1 rfl ?_
      refine j_iald hX (by omega) (by omega) kc_228 (by omega) (by omega) (by omega) dX11_readWants_39 ?_
      refine j_name hI13 (ra_228 _) (fun v117 hv118 hl119 hh120 => ?_)
      refine j_iload_n hX dX11_readWants_40 rfl 0 rfl ?_
      refine j_ishr hX dX11_readWants_41 (fun z121 hz122 hy123 => ?_)
      refine j_iconst hX dX11_readWants_42 ?_
      refine j_iand hX dX11_readWants_43 (fun z124 hz125 hy126 => ?_)
      have ha127 := (and_f hz125 (by omega) (by omega)).2 (by omega)
      refine j_iconst hX dX11_readWants_44 ?_
      refine j_icmp_ne (tgt := 57) hX dX11_readWants_45 (by decide) (by omega) (by omega) (fun hc128 => ?_) (fun hc128 => ?_)
      · skip
        refine j_aload_n hX dX11_readWants_57 rfl 2 rfl ?_
        refine j_iload_n hX dX11_readWants_58 rfl 0 rfl ?_
        refine j_callVI hX lk_X11_326 (c_X11_known _ _ _ _ _ _ _ _ (by omega) hI13 (by omega) hq15) (by omega) hce rfl rfl (by omega) (by omega) kc_210 rfl rfl (Nat.le_of_ble_eq_true rfl) dX11_readWants_59 (fun z129 M130 hz132 hp131 => ?_)
        obtain ⟨hI134, hG135, hq136, hq137, hq138, hq139, hq140⟩ := hp131
        have hk142 := kp_fr hG135 (fun h => absurd h.2.2 (by decide)) hk21
        have hk143 := kp_fr hG135 (fun h => absurd h.1 (by decide)) hk22
        clear hk21 hk22 hk24
        have hF144 := Fr.trans hF23 hG135 (fun a b h => (Or.inl h))
        have hk145 : M130.1 210 4 = M130.1 210 4 := rfl
        refine j_istore_n (lv' := [(2, _), (1, _), (0, _)]) hX dX11_readWants_62 rfl (by rw [hnL]; decide) rfl ?_
        refine j_aload_n hX dX11_readWants_63 rfl 2 rfl ?_
        refine j_iconst hX dX11_readWants_64 ?_
        refine j_bipush hX dX11_readWants_65 rfl ?_
        refine j_callVI hX lk_X11_266 (c_X11_numeral _ _ _ _ _ _ _ _ _ (by omega) hI134 (by omega) (by omega) hq136 (by first | assumption | omega)) (by omega) hce rfl rfl (by omega) (by omega) kc_210 rfl rfl (Nat.le_of_ble_eq_true rfl) dX11_readWants_67 (fun z146 M147 hz149 hp148 => ?_)
        obtain ⟨hI151, hG152, hq153, hq154, hq155⟩ := hp148
        have hk157 := kp_fr hG152 (fun h => absurd h.2.2 (by decide)) hk142
        have hk158 := kp_fr hG152 (fun h => absurd h.1 (by decide)) hk143
        clear hk142 hk143 hk145
        have hF159 := Fr.trans hF144 hG152 (fun a b h => (Or.inl h))
        have hk160 : M147.1 210 4 = M147.1 210 4 := rfl
        refine j_istore_n (lv' := [(3, _), (2, _), (1, _), (0, _)]) hX dX11_readWants_70 rfl (by rw [hnL]; decide) rfl ?_
        refine j_aload_n hX dX11_readWants_71 rfl 3 rfl ?_
        refine j_callVI hX lk_X11_249 (c_X11_isGood _ _ _ _ _ _ (by omega) hI151) (by omega) hce rfl rfl (by omega) (by omega) kc_210 rfl rfl (Nat.le_of_ble_eq_true rfl) dX11_readWants_72 (fun z161 M162 hz164 hp163 => ?_)
        obtain ⟨hE165, hb166, hq167, hq168⟩ := hp163
        replace hE165 := hE165.symm
        subst hE165
        refine j_if_ne (tgt := 79) hX dX11_readWants_75 (by decide) (by omega) (fun hc169 => ?_) (fun hc169 => ?_)
        · skip
          have hi170 := hq167 (by omega)
          clear hq167
          clear hq168
          refine j_aload_n hX dX11_readWants_79 rfl 3 rfl ?_
          refine gf_X11_66 hX (by omega) (by omega) kc_210 (fc_210_26 hI151) (by decide) dX11_readWants_80 ?_
          refine j_iload_n hX dX11_readWants_83 rfl 2 rfl ?_
          refine j_dup2 hX dX11_readWants_84 rfl rfl ?_
          refine j_iald hX (by omega) (by omega) kc_228 (by omega) (by omega) (by omega) dX11_readWants_85 ?_
          refine j_name hI151 (ra_228 _) (fun v171 hv172 hl173 hh174 => ?_)
          refine j_iconst hX dX11_readWants_86 ?_
          refine j_iload_n hX dX11_readWants_87 rfl 1 rfl ?_
          refine j_ishl hX dX11_readWants_88 (fun z175 hz176 hy177 => ?_)
          refine j_ior hX dX11_readWants_89 (fun z178 hz179 hy180 => ?_)
          refine j_iast hX (by omega) (by omega) kc_228 (by omega) (by omega) (by omega) (by omega) dX11_readWants_90 ?_
          refine j_up hI151 (ra_228 _) (by omega) (by omega) (Or.inl (by omega)) (fun M181 w182 hw183 hM184 hI185 hf186 => ?_)
          have hV187 := ML_dp (M' := M181) hq153 (fun a b h => by rw [hM184]; exact up_ne (by omega))
          have hk188 := kp_up hM184 (fun h => absurd h.1 (by decide)) hk157
          have hk189 := kp_up hM184 (fun h => absurd h.1 (by decide)) hk158
          have hk190 := kp_up hM184 (fun h => absurd h.1 (by decide)) hk160
          clear hk157 hk158 hk160
          have hF191 := Fr.put hF159 hM184 ((Or.inr (Or.inl ⟨rfl, by omega, by omega⟩)))
          refine j_aload_n hX dX11_readWants_91 rfl 3 rfl ?_
          refine gf_X11_63 hX (by omega) (by omega) kc_210 (fc_210_25 hI185) (by decide) dX11_readWants_92 ?_
          refine j_bipush hX dX11_readWants_95 rfl ?_
          refine j_iload_n hX dX11_readWants_97 rfl 2 rfl ?_
          refine j_imul hX dX11_readWants_98 ?_
          refine j_iload_n hX dX11_readWants_99 rfl 1 rfl ?_
          refine j_iadd hX dX11_readWants_100 ?_
          refine j_iload_n hX dX11_readWants_101 rfl 0 rfl ?_
          refine j_iast hX (by omega) (by omega) kc_227 (by omega) (by omega) (by omega) (by omega) dX11_readWants_102 ?_
          refine j_up hI185 (ra_227 _) (by omega) (by omega) (Or.inl (by omega)) (fun M192 w193 hw194 hM195 hI196 hf197 => ?_)
          have hV198 := ML_dp (M' := M192) hV187 (fun a b h => by rw [hM195]; exact up_ne (by omega))
          have hk199 := kp_up hM195 (fun h => absurd h.1 (by decide)) hk188
          have hk200 := kp_up hM195 (fun h => absurd h.1 (by decide)) hk189
          have hk201 := kp_up hM195 (fun h => absurd h.1 (by decide)) hk190
          clear hk188 hk189 hk190
          have hF202 := Fr.put hF191 hM195 ((Or.inr (Or.inr ⟨rfl, by omega, by omega⟩)))
          exact hret _ _ _ dX11_readWants_103 ⟨hI196, hF202, by first | assumption | omega⟩
        · skip
          clear hq167
          have hi203 := hq168 (by omega)
          clear hq168
          exact hret _ _ _ dX11_readWants_78 ⟨hI151, hF159, by first | assumption | omega⟩
      · skip
        refine j_aload_n hX dX11_readWants_48 rfl 2 rfl ?_
        refine j_iconst hX dX11_readWants_49 ?_
        refine j_aload_n hX dX11_readWants_50 rfl 2 rfl ?_
        refine gf_X11_214 hX (by omega) (by omega) kc_210 dX11_readWants_51 ?_
        refine j_name hI13 ro_210_6 (fun v204 hv205 hl206 hh207 => ?_)
        have hk208 := hv205.symm
        refine j_callVV hX lk_X11_245 (c_X11_fails _ _ _ _ _ _ _ _ _ (by omega) hI13 (by omega) (by omega) hq15 (by first | assumption | omega)) (by omega) hce rfl rfl (by omega) (by omega) kc_210 rfl rfl (Nat.le_of_ble_eq_true rfl) dX11_readWants_54 (fun M210 hp211 => ?_)
        obtain ⟨hI214, hG215, hq216, hq217⟩ := hp211
        have hk219 := kp_fr hG215 (fun h => absurd h.2.2 (by decide)) hk21
        have hk220 := kp_fr hG215 (fun h => absurd h.1 (by decide)) hk22
        have hk221 := kp_fr hG215 (fun h => absurd h.2.2 (by decide)) hk208
        clear hk21 hk22 hk24 hk208
        have hF222 := Fr.trans hF23 hG215 (fun a b h => (Or.inl ⟨h.1, Int.le_trans (by decide) h.2.1, Int.le_trans h.2.2 (by decide)⟩))
        have hk223 : M210.1 210 4 = M210.1 210 4 := rfl
        refine j_aload_n hX dX11_readWants_57 rfl 2 rfl ?_
        refine j_iload_n hX dX11_readWants_58 rfl 0 rfl ?_
        refine j_callVI hX lk_X11_326 (c_X11_known _ _ _ _ _ _ _ _ (by omega) hI214 (by omega) hq216) (by omega) hce rfl rfl (by omega) (by omega) kc_210 rfl rfl (Nat.le_of_ble_eq_true rfl) dX11_readWants_59 (fun z224 M225 hz227 hp226 => ?_)
        obtain ⟨hI229, hG230, hq231, hq232, hq233, hq234, hq235⟩ := hp226
        have hk237 := kp_fr hG230 (fun h => absurd h.2.2 (by decide)) hk219
        have hk238 := kp_fr hG230 (fun h => absurd h.1 (by decide)) hk220
        clear hk219 hk220 hk221 hk223
        have hF239 := Fr.trans hF222 hG230 (fun a b h => (Or.inl h))
        have hk240 : M225.1 210 4 = M225.1 210 4 := rfl
        refine j_istore_n (lv' := [(2, _), (1, _), (0, _)]) hX dX11_readWants_62 rfl (by rw [hnL]; decide) rfl ?_
        refine j_aload_n hX dX11_readWants_63 rfl 2 rfl ?_
        refine j_iconst hX dX11_readWants_64 ?_
        refine j_bipush hX dX11_readWants_65 rfl ?_
        refine j_callVI hX lk_X11_266 (c_X11_numeral _ _ _ _ _ _ _ _ _ (by omega) hI229 (by omega) (by omega) hq231 (by first | assumption | omega)) (by omega) hce rfl rfl (by omega) (by omega) kc_210 rfl rfl (Nat.le_of_ble_eq_true rfl) dX11_readWants_67 (fun z241 M242 hz244 hp243 => ?_)
        obtain ⟨hI246, hG247, hq248, hq249, hq250⟩ := hp243
        have hk252 := kp_fr hG247 (fun h => absurd h.2.2 (by decide)) hk237
        have hk253 := kp_fr hG247 (fun h => absurd h.1 (by decide)) hk238
        clear hk237 hk238 hk240
        have hF254 := Fr.trans hF239 hG247 (fun a b h => (Or.inl h))
        have hk255 : M242.1 210 4 = M242.1 210 4 := rfl
        refine j_istore_n (lv' := [(3, _), (2, _), (1, _), (0, _)]) hX dX11_readWants_70 rfl (by rw [hnL]; decide) rfl ?_
        refine j_aload_n hX dX11_readWants_71 rfl 3 rfl ?_
        refine j_callVI hX lk_X11_249 (c_X11_isGood _ _ _ _ _ _ (by omega) hI246) (by omega) hce rfl rfl (by omega) (by omega) kc_210 rfl rfl (Nat.le_of_ble_eq_true rfl) dX11_readWants_72 (fun z256 M257 hz259 hp258 => ?_)
        obtain ⟨hE260, hb261, hq262, hq263⟩ := hp258
        replace hE260 := hE260.symm
        subst hE260
        refine j_if_ne (tgt := 79) hX dX11_readWants_75 (by decide) (by omega) (fun hc264 => ?_) (fun hc264 => ?_)
        · skip
          have hi265 := hq262 (by omega)
          clear hq262
          clear hq263
          refine j_aload_n hX dX11_readWants_79 rfl 3 rfl ?_
          refine gf_X11_66 hX (by omega) (by omega) kc_210 (fc_210_26 hI246) (by decide) dX11_readWants_80 ?_
          refine j_iload_n hX dX11_readWants_83 rfl 2 rfl ?_
          refine j_dup2 hX dX11_readWants_84 rfl rfl ?_
          refine j_iald hX (by omega) (by omega) kc_228 (by omega) (by omega) (by omega) dX11_readWants_85 ?_
          refine j_name hI246 (ra_228 _) (fun v266 hv267 hl268 hh269 => ?_)
          refine j_iconst hX dX11_readWants_86 ?_
          refine j_iload_n hX dX11_readWants_87 rfl 1 rfl ?_
          refine j_ishl hX dX11_readWants_88 (fun z270 hz271 hy272 => ?_)
          refine j_ior hX dX11_readWants_89 (fun z273 hz274 hy275 => ?_)
          refine j_iast hX (by omega) (by omega) kc_228 (by omega) (by omega) (by omega) (by omega) dX11_readWants_90 ?_
          refine j_up hI246 (ra_228 _) (by omega) (by omega) (Or.inl (by omega)) (fun M276 w277 hw278 hM279 hI280 hf281 => ?_)
          have hV282 := ML_dp (M' := M276) hq248 (fun a b h => by rw [hM279]; exact up_ne (by omega))
          have hk283 := kp_up hM279 (fun h => absurd h.1 (by decide)) hk252
          have hk284 := kp_up hM279 (fun h => absurd h.1 (by decide)) hk253
          have hk285 := kp_up hM279 (fun h => absurd h.1 (by decide)) hk255
          clear hk252 hk253 hk255
          have hF286 := Fr.put hF254 hM279 ((Or.inr (Or.inl ⟨rfl, by omega, by omega⟩)))
          refine j_aload_n hX dX11_readWants_91 rfl 3 rfl ?_
          refine gf_X11_63 hX (by omega) (by omega) kc_210 (fc_210_25 hI280) (by decide) dX11_readWants_92 ?_
          refine j_bipush hX dX11_readWants_95 rfl ?_
          refine j_iload_n hX dX11_readWants_97 rfl 2 rfl ?_
          refine j_imul hX dX11_readWants_98 ?_
          refine j_iload_n hX dX11_readWants_99 rfl 1 rfl ?_
          refine j_iadd hX dX11_readWants_100 ?_
          refine j_iload_n hX dX11_readWants_101 rfl 0 rfl ?_
          refine j_iast hX (by omega) (by omega) kc_227 (by omega) (by omega) (by omega) (by omega) dX11_readWants_102 ?_
          refine j_up hI280 (ra_227 _) (by omega) (by omega) (Or.inl (by omega)) (fun M287 w288 hw289 hM290 hI291 hf292 => ?_)
          have hV293 := ML_dp (M' := M287) hV282 (fun a b h => by rw [hM290]; exact up_ne (by omega))
          have hk294 := kp_up hM290 (fun h => absurd h.1 (by decide)) hk283
          have hk295 := kp_up hM290 (fun h => absurd h.1 (by decide)) hk284
          have hk296 := kp_up hM290 (fun h => absurd h.1 (by decide)) hk285
          clear hk283 hk284 hk285
          have hF297 := Fr.put hF286 hM290 ((Or.inr (Or.inr ⟨rfl, by omega, by omega⟩)))
          exact hret _ _ _ dX11_readWants_103 ⟨hI291, hF297, by first | assumption | omega⟩
        · skip
          clear hq262
          have hi298 := hq263 (by omega)
          clear hq263
          exact hret _ _ _ dX11_readWants_78 ⟨hI246, hF254, by first | assumption | omega⟩
  · skip
    clear hq31
    have hi299 := hq32 (by omega)
    clear hq32
    exact hret _ _ _ dX11_readWants_24 ⟨hI13, hF23, by first | assumption | omega⟩
