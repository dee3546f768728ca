theorem dX3_forget_0 : decode cX3_forget 0 = .ok (.aload_n 0, 1) := by decide +kernel
theorem dX3_forget_1 : decode cX3_forget 1 = .ok (.iconst 0, 1) := by decide +kernel
theorem dX3_forget_2 : decode cX3_forget 2 = .ok (.putfield 43, 3) := by decide +kernel
theorem dX3_forget_5 : decode cX3_forget 5 = .ok (.aload_n 0, 1) := by decide +kernel
theorem dX3_forget_6 : decode cX3_forget 6 = .ok (.iconst 0, 1) := by decide +kernel
theorem dX3_forget_7 : decode cX3_forget 7 = .ok (.putfield 39, 3) := by decide +kernel
theorem dX3_forget_10 : decode cX3_forget 10 = .ok (.return_, 1) := by decide +kernel
theorem dX3_add_0 : decode cX3_add 0 = .ok (.aload_n 0, 1) := by decide +kernel
theorem dX3_add_1 : decode cX3_add 1 = .ok (.getfield 43, 3) := by decide +kernel
theorem dX3_add_4 : decode cX3_add 4 = .ok (.bipush 30, 2) := by decide +kernel
theorem dX3_add_6 : decode cX3_add 6 = .ok (.if_icmp .lt 5, 3) := by decide +kernel
theorem dX3_add_9 : decode cX3_add 9 = .ok (.iconst (-1), 1) := by decide +kernel
theorem dX3_add_10 : decode cX3_add 10 = .ok (.ireturn, 1) := by decide +kernel
theorem dX3_add_11 : decode cX3_add 11 = .ok (.aload_n 0, 1) := by decide +kernel
theorem dX3_add_12 : decode cX3_add 12 = .ok (.getfield 18, 3) := by decide +kernel
theorem dX3_add_15 : decode cX3_add 15 = .ok (.aload_n 0, 1) := by decide +kernel
theorem dX3_add_16 : decode cX3_add 16 = .ok (.getfield 43, 3) := by decide +kernel
theorem dX3_add_19 : decode cX3_add 19 = .ok (.iload_n 1, 1) := by decide +kernel
theorem dX3_add_20 : decode cX3_add 20 = .ok (.iastore, 1) := by decide +kernel
theorem dX3_add_21 : decode cX3_add 21 = .ok (.aload_n 0, 1) := by decide +kernel
theorem dX3_add_22 : decode cX3_add 22 = .ok (.getfield 22, 3) := by decide +kernel
theorem dX3_add_25 : decode cX3_add 25 = .ok (.aload_n 0, 1) := by decide +kernel
theorem dX3_add_26 : decode cX3_add 26 = .ok (.getfield 43, 3) := by decide +kernel
theorem dX3_add_29 : decode cX3_add 29 = .ok (.iload_n 2, 1) := by decide +kernel
theorem dX3_add_30 : decode cX3_add 30 = .ok (.iastore, 1) := by decide +kernel
theorem dX3_add_31 : decode cX3_add 31 = .ok (.aload_n 0, 1) := by decide +kernel
theorem dX3_add_32 : decode cX3_add 32 = .ok (.getfield 25, 3) := by decide +kernel
theorem dX3_add_35 : decode cX3_add 35 = .ok (.aload_n 0, 1) := by decide +kernel
theorem dX3_add_36 : decode cX3_add 36 = .ok (.getfield 43, 3) := by decide +kernel
theorem dX3_add_39 : decode cX3_add 39 = .ok (.iload 4, 2) := by decide +kernel
theorem dX3_add_41 : decode cX3_add 41 = .ok (.iastore, 1) := by decide +kernel
theorem dX3_add_42 : decode cX3_add 42 = .ok (.aload_n 0, 1) := by decide +kernel
theorem dX3_add_43 : decode cX3_add 43 = .ok (.getfield 28, 3) := by decide +kernel
theorem dX3_add_46 : decode cX3_add 46 = .ok (.aload_n 0, 1) := by decide +kernel
theorem dX3_add_47 : decode cX3_add 47 = .ok (.getfield 43, 3) := by decide +kernel
theorem dX3_add_50 : decode cX3_add 50 = .ok (.iconst (-1), 1) := by decide +kernel
theorem dX3_add_51 : decode cX3_add 51 = .ok (.iastore, 1) := by decide +kernel
theorem dX3_add_52 : decode cX3_add 52 = .ok (.iload_n 3, 1) := by decide +kernel
theorem dX3_add_53 : decode cX3_add 53 = .ok (.ifCond .ne 18, 3) := by decide +kernel
theorem dX3_add_56 : decode cX3_add 56 = .ok (.aload_n 0, 1) := by decide +kernel
theorem dX3_add_57 : decode cX3_add 57 = .ok (.dup, 1) := by decide +kernel
theorem dX3_add_58 : decode cX3_add 58 = .ok (.getfield 39, 3) := by decide +kernel
theorem dX3_add_61 : decode cX3_add 61 = .ok (.iconst 1, 1) := by decide +kernel
theorem dX3_add_62 : decode cX3_add 62 = .ok (.aload_n 0, 1) := by decide +kernel
theorem dX3_add_63 : decode cX3_add 63 = .ok (.getfield 43, 3) := by decide +kernel
theorem dX3_add_66 : decode cX3_add 66 = .ok (.ishl, 1) := by decide +kernel
theorem dX3_add_67 : decode cX3_add 67 = .ok (.ior, 1) := by decide +kernel
theorem dX3_add_68 : decode cX3_add 68 = .ok (.putfield 39, 3) := by decide +kernel
theorem dX3_add_71 : decode cX3_add 71 = .ok (.aload_n 0, 1) := by decide +kernel
theorem dX3_add_72 : decode cX3_add 72 = .ok (.dup, 1) := by decide +kernel
theorem dX3_add_73 : decode cX3_add 73 = .ok (.getfield 43, 3) := by decide +kernel
theorem dX3_add_76 : decode cX3_add 76 = .ok (.iconst 1, 1) := by decide +kernel
theorem dX3_add_77 : decode cX3_add 77 = .ok (.iadd, 1) := by decide +kernel
theorem dX3_add_78 : decode cX3_add 78 = .ok (.putfield 43, 3) := by decide +kernel
theorem dX3_add_81 : decode cX3_add 81 = .ok (.aload_n 0, 1) := by decide +kernel
theorem dX3_add_82 : decode cX3_add 82 = .ok (.getfield 43, 3) := by decide +kernel
theorem dX3_add_85 : decode cX3_add 85 = .ok (.iconst 1, 1) := by decide +kernel
theorem dX3_add_86 : decode cX3_add 86 = .ok (.isub, 1) := by decide +kernel
theorem dX3_add_87 : decode cX3_add 87 = .ok (.ireturn, 1) := by decide +kernel
theorem dX3_takeFrom_0 : decode cX3_takeFrom 0 = .ok (.iload_n 1, 1) := by decide +kernel
theorem dX3_takeFrom_1 : decode cX3_takeFrom 1 = .ok (.ifCond .lt 21, 3) := by decide +kernel
theorem dX3_takeFrom_4 : decode cX3_takeFrom 4 = .ok (.iload_n 1, 1) := by decide +kernel
theorem dX3_takeFrom_5 : decode cX3_takeFrom 5 = .ok (.aload_n 0, 1) := by decide +kernel
theorem dX3_takeFrom_6 : decode cX3_takeFrom 6 = .ok (.getfield 43, 3) := by decide +kernel
theorem dX3_takeFrom_9 : decode cX3_takeFrom 9 = .ok (.if_icmp .ge 13, 3) := by decide +kernel
theorem dX3_takeFrom_12 : decode cX3_takeFrom 12 = .ok (.aload_n 0, 1) := by decide +kernel
theorem dX3_takeFrom_13 : decode cX3_takeFrom 13 = .ok (.getfield 28, 3) := by decide +kernel
theorem dX3_takeFrom_16 : decode cX3_takeFrom 16 = .ok (.iload_n 1, 1) := by decide +kernel
theorem dX3_takeFrom_17 : decode cX3_takeFrom 17 = .ok (.iaload, 1) := by decide +kernel
theorem dX3_takeFrom_18 : decode cX3_takeFrom 18 = .ok (.iconst (-1), 1) := by decide +kernel
theorem dX3_takeFrom_19 : decode cX3_takeFrom 19 = .ok (.if_icmp .eq 5, 3) := by decide +kernel
theorem dX3_takeFrom_22 : decode cX3_takeFrom 22 = .ok (.iconst 0, 1) := by decide +kernel
theorem dX3_takeFrom_23 : decode cX3_takeFrom 23 = .ok (.ireturn, 1) := by decide +kernel
theorem dX3_takeFrom_24 : decode cX3_takeFrom 24 = .ok (.aload_n 0, 1) := by decide +kernel
theorem dX3_takeFrom_25 : decode cX3_takeFrom 25 = .ok (.getfield 28, 3) := by decide +kernel
theorem dX3_takeFrom_28 : decode cX3_takeFrom 28 = .ok (.iload_n 1, 1) := by decide +kernel
theorem dX3_takeFrom_29 : decode cX3_takeFrom 29 = .ok (.iload_n 2, 1) := by decide +kernel
theorem dX3_takeFrom_30 : decode cX3_takeFrom 30 = .ok (.iastore, 1) := by decide +kernel
theorem dX3_takeFrom_31 : decode cX3_takeFrom 31 = .ok (.iconst 1, 1) := by decide +kernel
theorem dX3_takeFrom_32 : decode cX3_takeFrom 32 = .ok (.ireturn, 1) := by decide +kernel
theorem dX3_counts_0 : decode cX3_counts 0 = .ok (.aload_n 0, 1) := by decide +kernel
theorem dX3_counts_1 : decode cX3_counts 1 = .ok (.getfield 28, 3) := by decide +kernel
theorem dX3_counts_4 : decode cX3_counts 4 = .ok (.iload_n 1, 1) := by decide +kernel
theorem dX3_counts_5 : decode cX3_counts 5 = .ok (.iaload, 1) := by decide +kernel
theorem dX3_counts_6 : decode cX3_counts 6 = .ok (.iconst (-1), 1) := by decide +kernel
theorem dX3_counts_7 : decode cX3_counts 7 = .ok (.if_icmp .eq 17, 3) := by decide +kernel
theorem dX3_counts_10 : decode cX3_counts 10 = .ok (.aload_n 0, 1) := by decide +kernel
theorem dX3_counts_11 : decode cX3_counts 11 = .ok (.getfield 28, 3) := by decide +kernel
theorem dX3_counts_14 : decode cX3_counts 14 = .ok (.iload_n 1, 1) := by decide +kernel
theorem dX3_counts_15 : decode cX3_counts 15 = .ok (.iaload, 1) := by decide +kernel
theorem dX3_counts_16 : decode cX3_counts 16 = .ok (.iload_n 2, 1) := by decide +kernel
theorem dX3_counts_17 : decode cX3_counts 17 = .ok (.if_icmp .gt 7, 3) := by decide +kernel
theorem dX3_counts_20 : decode cX3_counts 20 = .ok (.iconst 1, 1) := by decide +kernel
theorem dX3_counts_21 : decode cX3_counts 21 = .ok (.goto 4, 3) := by decide +kernel
theorem dX3_counts_24 : decode cX3_counts 24 = .ok (.iconst 0, 1) := by decide +kernel
theorem dX3_counts_25 : decode cX3_counts 25 = .ok (.istore_n 3, 1) := by decide +kernel
theorem dX3_counts_26 : decode cX3_counts 26 = .ok (.aload_n 0, 1) := by decide +kernel
theorem dX3_counts_27 : decode cX3_counts 27 = .ok (.getfield 25, 3) := by decide +kernel
theorem dX3_counts_30 : decode cX3_counts 30 = .ok (.iload_n 1, 1) := by decide +kernel
theorem dX3_counts_31 : decode cX3_counts 31 = .ok (.iaload, 1) := by decide +kernel
theorem dX3_counts_32 : decode cX3_counts 32 = .ok (.iload_n 2, 1) := by decide +kernel
theorem dX3_counts_33 : decode cX3_counts 33 = .ok (.if_icmp .gt 11, 3) := by decide +kernel
theorem dX3_counts_36 : decode cX3_counts 36 = .ok (.iload_n 3, 1) := by decide +kernel
theorem dX3_counts_37 : decode cX3_counts 37 = .ok (.ifCond .ne 7, 3) := by decide +kernel
theorem dX3_counts_40 : decode cX3_counts 40 = .ok (.iconst 1, 1) := by decide +kernel
theorem dX3_counts_41 : decode cX3_counts 41 = .ok (.goto 4, 3) := by decide +kernel
theorem dX3_counts_44 : decode cX3_counts 44 = .ok (.iconst 0, 1) := by decide +kernel
theorem dX3_counts_45 : decode cX3_counts 45 = .ok (.ireturn, 1) := by decide +kernel
theorem dX3_allowAsKnown_0 : decode cX3_allowAsKnown 0 = .ok (.aload_n 0, 1) := by decide +kernel
theorem dX3_allowAsKnown_1 : decode cX3_allowAsKnown 1 = .ok (.getfield 31, 3) := by decide +kernel
theorem dX3_allowAsKnown_4 : decode cX3_allowAsKnown 4 = .ok (.iconst (-1), 1) := by decide +kernel
theorem dX3_allowAsKnown_5 : decode cX3_allowAsKnown 5 = .ok (.invokestatic 46, 3) := by decide +kernel
theorem dX3_allowAsKnown_8 : decode cX3_allowAsKnown 8 = .ok (.iconst 0, 1) := by decide +kernel
theorem dX3_allowAsKnown_9 : decode cX3_allowAsKnown 9 = .ok (.istore_n 2, 1) := by decide +kernel
theorem dX3_allowAsKnown_10 : decode cX3_allowAsKnown 10 = .ok (.iload_n 2, 1) := by decide +kernel
theorem dX3_allowAsKnown_11 : decode cX3_allowAsKnown 11 = .ok (.aload_n 0, 1) := by decide +kernel
theorem dX3_allowAsKnown_12 : decode cX3_allowAsKnown 12 = .ok (.getfield 43, 3) := by decide +kernel
theorem dX3_allowAsKnown_15 : decode cX3_allowAsKnown 15 = .ok (.if_icmp .ge 71, 3) := by decide +kernel
theorem dX3_allowAsKnown_18 : decode cX3_allowAsKnown 18 = .ok (.aload_n 0, 1) := by decide +kernel
theorem dX3_allowAsKnown_19 : decode cX3_allowAsKnown 19 = .ok (.iload_n 2, 1) := by decide +kernel
theorem dX3_allowAsKnown_20 : decode cX3_allowAsKnown 20 = .ok (.iload_n 1, 1) := by decide +kernel
theorem dX3_allowAsKnown_21 : decode cX3_allowAsKnown 21 = .ok (.invokevirtual 52, 3) := by decide +kernel
theorem dX3_allowAsKnown_24 : decode cX3_allowAsKnown 24 = .ok (.ifCond .eq 56, 3) := by decide +kernel
theorem dX3_allowAsKnown_27 : decode cX3_allowAsKnown 27 = .ok (.iconst 1, 1) := by decide +kernel
theorem dX3_allowAsKnown_28 : decode cX3_allowAsKnown 28 = .ok (.aload_n 0, 1) := by decide +kernel
theorem dX3_allowAsKnown_29 : decode cX3_allowAsKnown 29 = .ok (.getfield 22, 3) := by decide +kernel
theorem dX3_allowAsKnown_32 : decode cX3_allowAsKnown 32 = .ok (.iload_n 2, 1) := by decide +kernel
theorem dX3_allowAsKnown_33 : decode cX3_allowAsKnown 33 = .ok (.iaload, 1) := by decide +kernel
theorem dX3_allowAsKnown_34 : decode cX3_allowAsKnown 34 = .ok (.ishl, 1) := by decide +kernel
theorem dX3_allowAsKnown_35 : decode cX3_allowAsKnown 35 = .ok (.istore_n 3, 1) := by decide +kernel
theorem dX3_allowAsKnown_36 : decode cX3_allowAsKnown 36 = .ok (.aload_n 0, 1) := by decide +kernel
theorem dX3_allowAsKnown_37 : decode cX3_allowAsKnown 37 = .ok (.getfield 39, 3) := by decide +kernel
theorem dX3_allowAsKnown_40 : decode cX3_allowAsKnown 40 = .ok (.iload_n 2, 1) := by decide +kernel
theorem dX3_allowAsKnown_41 : decode cX3_allowAsKnown 41 = .ok (.ishr, 1) := by decide +kernel
theorem dX3_allowAsKnown_42 : decode cX3_allowAsKnown 42 = .ok (.iconst 1, 1) := by decide +kernel
theorem dX3_allowAsKnown_43 : decode cX3_allowAsKnown 43 = .ok (.iand, 1) := by decide +kernel
theorem dX3_allowAsKnown_44 : decode cX3_allowAsKnown 44 = .ok (.ifCond .eq 7, 3) := by decide +kernel
theorem dX3_allowAsKnown_47 : decode cX3_allowAsKnown 47 = .ok (.iconst 1, 1) := by decide +kernel
theorem dX3_allowAsKnown_48 : decode cX3_allowAsKnown 48 = .ok (.goto 4, 3) := by decide +kernel
theorem dX3_allowAsKnown_51 : decode cX3_allowAsKnown 51 = .ok (.iconst 0, 1) := by decide +kernel
theorem dX3_allowAsKnown_52 : decode cX3_allowAsKnown 52 = .ok (.istore 4, 2) := by decide +kernel
theorem dX3_allowAsKnown_54 : decode cX3_allowAsKnown 54 = .ok (.aload_n 0, 1) := by decide +kernel
theorem dX3_allowAsKnown_55 : decode cX3_allowAsKnown 55 = .ok (.getfield 31, 3) := by decide +kernel
theorem dX3_allowAsKnown_58 : decode cX3_allowAsKnown 58 = .ok (.aload_n 0, 1) := by decide +kernel
theorem dX3_allowAsKnown_59 : decode cX3_allowAsKnown 59 = .ok (.getfield 18, 3) := by decide +kernel
theorem dX3_allowAsKnown_62 : decode cX3_allowAsKnown 62 = .ok (.iload_n 2, 1) := by decide +kernel
theorem dX3_allowAsKnown_63 : decode cX3_allowAsKnown 63 = .ok (.iaload, 1) := by decide +kernel
theorem dX3_allowAsKnown_64 : decode cX3_allowAsKnown 64 = .ok (.dup2, 1) := by decide +kernel
theorem dX3_allowAsKnown_65 : decode cX3_allowAsKnown 65 = .ok (.iaload, 1) := by decide +kernel
theorem dX3_allowAsKnown_66 : decode cX3_allowAsKnown 66 = .ok (.iload 4, 2) := by decide +kernel
theorem dX3_allowAsKnown_68 : decode cX3_allowAsKnown 68 = .ok (.ifCond .eq 9, 3) := by decide +kernel
theorem dX3_allowAsKnown_71 : decode cX3_allowAsKnown 71 = .ok (.iload_n 3, 1) := by decide +kernel
theorem dX3_allowAsKnown_72 : decode cX3_allowAsKnown 72 = .ok (.iconst (-1), 1) := by decide +kernel
theorem dX3_allowAsKnown_73 : decode cX3_allowAsKnown 73 = .ok (.ixor, 1) := by decide +kernel
theorem dX3_allowAsKnown_74 : decode cX3_allowAsKnown 74 = .ok (.goto 4, 3) := by decide +kernel
theorem dX3_allowAsKnown_77 : decode cX3_allowAsKnown 77 = .ok (.iload_n 3, 1) := by decide +kernel
theorem dX3_allowAsKnown_78 : decode cX3_allowAsKnown 78 = .ok (.iand, 1) := by decide +kernel
theorem dX3_allowAsKnown_79 : decode cX3_allowAsKnown 79 = .ok (.iastore, 1) := by decide +kernel
theorem dX3_allowAsKnown_80 : decode cX3_allowAsKnown 80 = .ok (.iinc 2 1, 3) := by decide +kernel
theorem dX3_allowAsKnown_83 : decode cX3_allowAsKnown 83 = .ok (.goto (-73), 3) := by decide +kernel
theorem dX3_allowAsKnown_86 : decode cX3_allowAsKnown 86 = .ok (.return_, 1) := by decide +kernel
theorem dX3_tally_0 : decode cX3_tally 0 = .ok (.aload_n 0, 1) := by decide +kernel
theorem dX3_tally_1 : decode cX3_tally 1 = .ok (.iload_n 2, 1) := by decide +kernel
theorem dX3_tally_2 : decode cX3_tally 2 = .ok (.invokevirtual 56, 3) := by decide +kernel
theorem dX3_tally_5 : decode cX3_tally 5 = .ok (.iconst 0, 1) := by decide +kernel
theorem dX3_tally_6 : decode cX3_tally 6 = .ok (.istore_n 3, 1) := by decide +kernel
theorem dX3_tally_7 : decode cX3_tally 7 = .ok (.iload_n 3, 1) := by decide +kernel
theorem dX3_tally_8 : decode cX3_tally 8 = .ok (.bipush 6, 2) := by decide +kernel
theorem dX3_tally_10 : decode cX3_tally 10 = .ok (.if_icmp .ge 19, 3) := by decide +kernel
theorem dX3_tally_13 : decode cX3_tally 13 = .ok (.aload_n 0, 1) := by decide +kernel
theorem dX3_tally_14 : decode cX3_tally 14 = .ok (.getfield 36, 3) := by decide +kernel
theorem dX3_tally_17 : decode cX3_tally 17 = .ok (.iload_n 3, 1) := by decide +kernel
theorem dX3_tally_18 : decode cX3_tally 18 = .ok (.aaload, 1) := by decide +kernel
theorem dX3_tally_19 : decode cX3_tally 19 = .ok (.iconst 0, 1) := by decide +kernel
theorem dX3_tally_20 : decode cX3_tally 20 = .ok (.invokestatic 46, 3) := by decide +kernel
theorem dX3_tally_23 : decode cX3_tally 23 = .ok (.iinc 3 1, 3) := by decide +kernel
theorem dX3_tally_26 : decode cX3_tally 26 = .ok (.goto (-19), 3) := by decide +kernel
theorem dX3_tally_29 : decode cX3_tally 29 = .ok (.iconst 0, 1) := by decide +kernel
theorem dX3_tally_30 : decode cX3_tally 30 = .ok (.istore_n 3, 1) := by decide +kernel
theorem dX3_tally_31 : decode cX3_tally 31 = .ok (.aload_n 0, 1) := by decide +kernel
theorem dX3_tally_32 : decode cX3_tally 32 = .ok (.getfield 12, 3) := by decide +kernel
theorem dX3_tally_35 : decode cX3_tally 35 = .ok (.iload_n 1, 1) := by decide +kernel
theorem dX3_tally_36 : decode cX3_tally 36 = .ok (.invokevirtual 60, 3) := by decide +kernel
theorem dX3_tally_39 : decode cX3_tally 39 = .ok (.istore 4, 2) := by decide +kernel
theorem dX3_tally_41 : decode cX3_tally 41 = .ok (.iconst 0, 1) := by decide +kernel
theorem dX3_tally_42 : decode cX3_tally 42 = .ok (.istore 5, 2) := by decide +kernel
theorem dX3_tally_44 : decode cX3_tally 44 = .ok (.iload 5, 2) := by decide +kernel
theorem dX3_tally_46 : decode cX3_tally 46 = .ok (.iload 4, 2) := by decide +kernel
theorem dX3_tally_48 : decode cX3_tally 48 = .ok (.if_icmp .ge 70, 3) := by decide +kernel
theorem dX3_tally_51 : decode cX3_tally 51 = .ok (.aload_n 0, 1) := by decide +kernel
theorem dX3_tally_52 : decode cX3_tally 52 = .ok (.getfield 12, 3) := by decide +kernel
theorem dX3_tally_55 : decode cX3_tally 55 = .ok (.aload_n 0, 1) := by decide +kernel
theorem dX3_tally_56 : decode cX3_tally 56 = .ok (.getfield 31, 3) := by decide +kernel
theorem dX3_tally_59 : decode cX3_tally 59 = .ok (.invokevirtual 64, 3) := by decide +kernel
theorem dX3_tally_62 : decode cX3_tally 62 = .ok (.ifCond .eq 43, 3) := by decide +kernel
theorem dX3_tally_65 : decode cX3_tally 65 = .ok (.iinc 3 1, 3) := by decide +kernel
theorem dX3_tally_68 : decode cX3_tally 68 = .ok (.iconst 0, 1) := by decide +kernel
theorem dX3_tally_69 : decode cX3_tally 69 = .ok (.istore 6, 2) := by decide +kernel
theorem dX3_tally_71 : decode cX3_tally 71 = .ok (.iload 6, 2) := by decide +kernel
theorem dX3_tally_73 : decode cX3_tally 73 = .ok (.iload_n 1, 1) := by decide +kernel
theorem dX3_tally_74 : decode cX3_tally 74 = .ok (.if_icmp .ge 31, 3) := by decide +kernel
theorem dX3_tally_77 : decode cX3_tally 77 = .ok (.aload_n 0, 1) := by decide +kernel
theorem dX3_tally_78 : decode cX3_tally 78 = .ok (.getfield 36, 3) := by decide +kernel
theorem dX3_tally_81 : decode cX3_tally 81 = .ok (.iload 6, 2) := by decide +kernel
theorem dX3_tally_83 : decode cX3_tally 83 = .ok (.aaload, 1) := by decide +kernel
theorem dX3_tally_84 : decode cX3_tally 84 = .ok (.aload_n 0, 1) := by decide +kernel
theorem dX3_tally_85 : decode cX3_tally 85 = .ok (.getfield 12, 3) := by decide +kernel
theorem dX3_tally_88 : decode cX3_tally 88 = .ok (.getfield 68, 3) := by decide +kernel
theorem dX3_tally_91 : decode cX3_tally 91 = .ok (.iload 6, 2) := by decide +kernel
theorem dX3_tally_93 : decode cX3_tally 93 = .ok (.iaload, 1) := by decide +kernel
theorem dX3_tally_94 : decode cX3_tally 94 = .ok (.dup2, 1) := by decide +kernel
theorem dX3_tally_95 : decode cX3_tally 95 = .ok (.iaload, 1) := by decide +kernel
theorem dX3_tally_96 : decode cX3_tally 96 = .ok (.iconst 1, 1) := by decide +kernel
theorem dX3_tally_97 : decode cX3_tally 97 = .ok (.iadd, 1) := by decide +kernel
theorem dX3_tally_98 : decode cX3_tally 98 = .ok (.iastore, 1) := by decide +kernel
theorem dX3_tally_99 : decode cX3_tally 99 = .ok (.iinc 6 1, 3) := by decide +kernel
theorem dX3_tally_102 : decode cX3_tally 102 = .ok (.goto (-31), 3) := by decide +kernel
theorem dX3_tally_105 : decode cX3_tally 105 = .ok (.aload_n 0, 1) := by decide +kernel
theorem dX3_tally_106 : decode cX3_tally 106 = .ok (.getfield 12, 3) := by decide +kernel
theorem dX3_tally_109 : decode cX3_tally 109 = .ok (.invokevirtual 71, 3) := by decide +kernel
theorem dX3_tally_112 : decode cX3_tally 112 = .ok (.iinc 5 1, 3) := by decide +kernel
theorem dX3_tally_115 : decode cX3_tally 115 = .ok (.goto (-71), 3) := by decide +kernel
theorem dX3_tally_118 : decode cX3_tally 118 = .ok (.iload_n 3, 1) := by decide +kernel
theorem dX3_tally_119 : decode cX3_tally 119 = .ok (.ireturn, 1) := by decide +kernel
theorem dX3_sameInAll_0 : decode cX3_sameInAll 0 = .ok (.iconst 0, 1) := by decide +kernel
theorem dX3_sameInAll_1 : decode cX3_sameInAll 1 = .ok (.istore_n 3, 1) := by decide +kernel
theorem dX3_sameInAll_2 : decode cX3_sameInAll 2 = .ok (.iload_n 3, 1) := by decide +kernel
theorem dX3_sameInAll_3 : decode cX3_sameInAll 3 = .ok (.bipush 6, 2) := by decide +kernel
theorem dX3_sameInAll_5 : decode cX3_sameInAll 5 = .ok (.if_icmp .ge 23, 3) := by decide +kernel
theorem dX3_sameInAll_8 : decode cX3_sameInAll 8 = .ok (.aload_n 0, 1) := by decide +kernel
theorem dX3_sameInAll_9 : decode cX3_sameInAll 9 = .ok (.getfield 36, 3) := by decide +kernel
theorem dX3_sameInAll_12 : decode cX3_sameInAll 12 = .ok (.iload_n 1, 1) := by decide +kernel
theorem dX3_sameInAll_13 : decode cX3_sameInAll 13 = .ok (.aaload, 1) := by decide +kernel
theorem dX3_sameInAll_14 : decode cX3_sameInAll 14 = .ok (.iload_n 3, 1) := by decide +kernel
theorem dX3_sameInAll_15 : decode cX3_sameInAll 15 = .ok (.iaload, 1) := by decide +kernel
theorem dX3_sameInAll_16 : decode cX3_sameInAll 16 = .ok (.iload_n 2, 1) := by decide +kernel
theorem dX3_sameInAll_17 : decode cX3_sameInAll 17 = .ok (.if_icmp .ne 5, 3) := by decide +kernel
theorem dX3_sameInAll_20 : decode cX3_sameInAll 20 = .ok (.iload_n 3, 1) := by decide +kernel
theorem dX3_sameInAll_21 : decode cX3_sameInAll 21 = .ok (.ireturn, 1) := by decide +kernel
theorem dX3_sameInAll_22 : decode cX3_sameInAll 22 = .ok (.iinc 3 1, 3) := by decide +kernel
theorem dX3_sameInAll_25 : decode cX3_sameInAll 25 = .ok (.goto (-23), 3) := by decide +kernel
theorem dX3_sameInAll_28 : decode cX3_sameInAll 28 = .ok (.bipush (-2), 2) := by decide +kernel
theorem dX3_sameInAll_30 : decode cX3_sameInAll 30 = .ok (.ireturn, 1) := by decide +kernel
theorem dX3_mostLeft_0 : decode cX3_mostLeft 0 = .ok (.iconst 0, 1) := by decide +kernel
theorem dX3_mostLeft_1 : decode cX3_mostLeft 1 = .ok (.istore_n 2, 1) := by decide +kernel
theorem dX3_mostLeft_2 : decode cX3_mostLeft 2 = .ok (.iconst 0, 1) := by decide +kernel
theorem dX3_mostLeft_3 : decode cX3_mostLeft 3 = .ok (.istore_n 3, 1) := by decide +kernel
theorem dX3_mostLeft_4 : decode cX3_mostLeft 4 = .ok (.iload_n 3, 1) := by decide +kernel
theorem dX3_mostLeft_5 : decode cX3_mostLeft 5 = .ok (.bipush 6, 2) := by decide +kernel
theorem dX3_mostLeft_7 : decode cX3_mostLeft 7 = .ok (.if_icmp .ge 22, 3) := by decide +kernel
theorem dX3_mostLeft_10 : decode cX3_mostLeft 10 = .ok (.iload_n 2, 1) := by decide +kernel
theorem dX3_mostLeft_11 : decode cX3_mostLeft 11 = .ok (.aload_n 0, 1) := by decide +kernel
theorem dX3_mostLeft_12 : decode cX3_mostLeft 12 = .ok (.getfield 36, 3) := by decide +kernel
theorem dX3_mostLeft_15 : decode cX3_mostLeft 15 = .ok (.iload_n 1, 1) := by decide +kernel
theorem dX3_mostLeft_16 : decode cX3_mostLeft 16 = .ok (.aaload, 1) := by decide +kernel
theorem dX3_mostLeft_17 : decode cX3_mostLeft 17 = .ok (.iload_n 3, 1) := by decide +kernel
theorem dX3_mostLeft_18 : decode cX3_mostLeft 18 = .ok (.iaload, 1) := by decide +kernel
theorem dX3_mostLeft_19 : decode cX3_mostLeft 19 = .ok (.invokestatic 74, 3) := by decide +kernel
theorem dX3_mostLeft_22 : decode cX3_mostLeft 22 = .ok (.istore_n 2, 1) := by decide +kernel
theorem dX3_mostLeft_23 : decode cX3_mostLeft 23 = .ok (.iinc 3 1, 3) := by decide +kernel
theorem dX3_mostLeft_26 : decode cX3_mostLeft 26 = .ok (.goto (-22), 3) := by decide +kernel
theorem dX3_mostLeft_29 : decode cX3_mostLeft 29 = .ok (.iload_n 2, 1) := by decide +kernel
theorem dX3_mostLeft_30 : decode cX3_mostLeft 30 = .ok (.ireturn, 1) := by decide +kernel
set_option maxHeartbeats 2000000 in
set_option maxRecDepth 20000 in
theorem c_X3_forget (l : Launch) (D : va_G) (cy : Nat → ClassId) (B N : Nat) (M : MM) (hN : 210 ≤ N) (hI : Iv M) : CV l D cy B N 1 yX3_forget cX3_forget 1 none [rv B 164] M (fun M' => Iv M' ∧ Fr (fun a b => (a = 164 ∧ 7 ≤ b ∧ b ≤ 8)) M M') := by
  refine mk_CV (by decide) (Nat.le_of_ble_eq_true rfl) ?_
  intro X exl exD excy hnL hX hret
  have hce : 0 + 0 ≤ (xR X).cells ∧ 0 + 0 ≤ (xR X).slots := ⟨Nat.zero_le _, Nat.zero_le _⟩
  have hF : Fr (fun a b => (a = 164 ∧ 7 ≤ b ∧ b ≤ 8)) M M := Fr.rf
  show J X B N 0 0 0 [(0, rv B 164)] [] M
  refine j_aload_n hX dX3_forget_0 rfl 0 rfl ?_
  refine j_iconst hX dX3_forget_1 ?_
  refine pf_X3_43 hX (by omega) (by omega) kc_164 (by omega) dX3_forget_2 ?_
  refine j_up hI ro_164_8 (by omega) (by omega) (Or.inl (by omega)) (fun M1 w2 hw3 hM4 hI5 hf6 => ?_)
  have hF7 := Fr.put hF hM4 (by omega)
  refine j_aload_n hX dX3_forget_5 rfl 0 rfl ?_
  refine j_iconst hX dX3_forget_6 ?_
  refine pf_X3_39 hX (by omega) (by omega) kc_164 (by omega) dX3_forget_7 ?_
  refine j_up hI5 ro_164_7 (by omega) (by omega) (Or.inl (by omega)) (fun M8 w9 hw10 hM11 hI12 hf13 => ?_)
  have hk14 := kp_up hM11 (fun h => absurd h.2 (by decide)) hf6
  clear hf6
  have hF15 := Fr.put hF7 hM11 (by omega)
  exact hret _ _ _ dX3_forget_10 ⟨hI12, hF15⟩
set_option maxHeartbeats 2000000 in
set_option maxRecDepth 20000 in
theorem c_X3_add (l : Launch) (D : va_G) (cy : Nat → ClassId) (B N : Nat) (a : Int) (b : Int) (c : Int) (d : Int) (M : MM) (hN : 210 ≤ N) (hI : Iv M) (hpa : I32 a) (hpb : I32 b) (hpc : I32 c) (hpd : I32 d) (h1 : 0 ≤ a ∧ a ≤ 5 ∧ 0 ≤ b ∧ b ≤ 5 ∧ 0 ≤ c ∧ c ≤ 1) : CI l D cy B N 1 yX3_add cX3_add 5 (some .int) [rv B 164, iv a, iv b, iv c, iv d] M (fun z M' => Iv M' ∧ Fr (fun a b => (a = 164 ∧ 7 ≤ b ∧ b ≤ 8) ∨ (167 ≤ a ∧ a ≤ 170)) M M') := by
  refine mk_CI (by decide) (Nat.le_of_ble_eq_true rfl) ?_
  intro X exl exD excy hnL hX hret
  have hce : 0 + 0 ≤ (xR X).cells ∧ 0 + 0 ≤ (xR X).slots := ⟨Nat.zero_le _, Nat.zero_le _⟩
  have hF : Fr (fun a b => (a = 164 ∧ 7 ≤ b ∧ b ≤ 8) ∨ (167 ≤ a ∧ a ≤ 170)) M M := Fr.rf
  show J X B N 0 0 0 [(0, rv B 164), (1, iv a), (2, iv b), (3, iv c), (4, iv d)] [] M
  refine j_aload_n hX dX3_add_0 rfl 0 rfl ?_
  refine gf_X3_43 hX (by omega) (by omega) kc_164 dX3_add_1 ?_
  refine j_name hI ro_164_8 (fun v1 hv2 hl3 hh4 => ?_)
  have hk5 := hv2.symm
  refine j_bipush hX dX3_add_4 rfl ?_
  refine j_icmp_lt (tgt := 11) hX dX3_add_6 (by decide) (by omega) (by omega) (fun hc6 => ?_) (fun hc6 => ?_)
  · skip
    refine j_aload_n hX dX3_add_11 rfl 0 rfl ?_
    refine gf_X3_18 hX (by omega) (by omega) kc_164 (fc_164_1 hI) (by decide) dX3_add_12 ?_
    refine j_aload_n hX dX3_add_15 rfl 0 rfl ?_
    refine gf_X3_43 hX (by omega) (by omega) kc_164 dX3_add_16 ?_
    refine j_top hk5 ?_
    refine j_iload_n hX dX3_add_19 rfl 1 rfl ?_
    refine j_iast hX (by omega) (by omega) kc_167 (by omega) (by omega) (by omega) (by omega) dX3_add_20 ?_
    refine j_up hI (ra_167 _) (by omega) (by omega) (Or.inl (by omega)) (fun M7 w8 hw9 hM10 hI11 hf12 => ?_)
    have hk13 := kp_up hM10 (fun h => absurd h.1 (by decide)) hk5
    clear hk5
    have hF14 := Fr.put hF hM10 (by omega)
    refine j_aload_n hX dX3_add_21 rfl 0 rfl ?_
    refine gf_X3_22 hX (by omega) (by omega) kc_164 (fc_164_2 hI11) (by decide) dX3_add_22 ?_
    refine j_aload_n hX dX3_add_25 rfl 0 rfl ?_
    refine gf_X3_43 hX (by omega) (by omega) kc_164 dX3_add_26 ?_
    refine j_top hk13 ?_
    refine j_iload_n hX dX3_add_29 rfl 2 rfl ?_
    refine j_iast hX (by omega) (by omega) kc_168 (by omega) (by omega) (by omega) (by omega) dX3_add_30 ?_
    refine j_up hI11 (ra_168 _) (by omega) (by omega) (Or.inl (by omega)) (fun M15 w16 hw17 hM18 hI19 hf20 => ?_)
    have hk21 := kp_up hM18 (fun h => absurd h.1 (by decide)) hk13
    clear hk13
    have hF22 := Fr.put hF14 hM18 (by omega)
    refine j_aload_n hX dX3_add_31 rfl 0 rfl ?_
    refine gf_X3_25 hX (by omega) (by omega) kc_164 (fc_164_3 hI19) (by decide) dX3_add_32 ?_
    refine j_aload_n hX dX3_add_35 rfl 0 rfl ?_
    refine gf_X3_43 hX (by omega) (by omega) kc_164 dX3_add_36 ?_
    refine j_top hk21 ?_
    refine j_iload hX dX3_add_39 4 rfl ?_
    refine j_iast hX (by omega) (by omega) kc_169 (by omega) (by omega) (by omega) (by omega) dX3_add_41 ?_
    refine j_up hI19 (ra_169 _) (by omega) (by omega) (Or.inl (by omega)) (fun M23 w24 hw25 hM26 hI27 hf28 => ?_)
    have hk29 := kp_up hM26 (fun h => absurd h.1 (by decide)) hk21
    clear hk21
    have hF30 := Fr.put hF22 hM26 (by omega)
    refine j_aload_n hX dX3_add_42 rfl 0 rfl ?_
    refine gf_X3_28 hX (by omega) (by omega) kc_164 (fc_164_4 hI27) (by decide) dX3_add_43 ?_
    refine j_aload_n hX dX3_add_46 rfl 0 rfl ?_
    refine gf_X3_43 hX (by omega) (by omega) kc_164 dX3_add_47 ?_
    refine j_top hk29 ?_
    refine j_iconst hX dX3_add_50 ?_
    refine j_iast hX (by omega) (by omega) kc_170 (by omega) (by omega) (by omega) (by omega) dX3_add_51 ?_
    refine j_up hI27 (ra_170 _) (by omega) (by omega) (Or.inl (by omega)) (fun M31 w32 hw33 hM34 hI35 hf36 => ?_)
    have hk37 := kp_up hM34 (fun h => absurd h.1 (by decide)) hk29
    clear hk29
    have hF38 := Fr.put hF30 hM34 (by omega)
    refine j_iload_n hX dX3_add_52 rfl 3 rfl ?_
    refine j_if_ne (tgt := 71) hX dX3_add_53 (by decide) (by omega) (fun hc39 => ?_) (fun hc39 => ?_)
    · skip
      refine j_aload_n hX dX3_add_71 rfl 0 rfl ?_
      refine j_dup hX dX3_add_72 rfl ?_
      refine gf_X3_43 hX (by omega) (by omega) kc_164 dX3_add_73 ?_
      refine j_top hk37 ?_
      refine j_iconst hX dX3_add_76 ?_
      refine j_iadd hX dX3_add_77 ?_
      refine pf_X3_43 hX (by omega) (by omega) kc_164 (by omega) dX3_add_78 ?_
      refine j_up hI35 ro_164_8 (by omega) (by omega) (Or.inl (by omega)) (fun M40 w41 hw42 hM43 hI44 hf45 => ?_)
      clear hk37
      have hF46 := Fr.put hF38 hM43 (by omega)
      refine j_aload_n hX dX3_add_81 rfl 0 rfl ?_
      refine gf_X3_43 hX (by omega) (by omega) kc_164 dX3_add_82 ?_
      refine j_top hf45 ?_
      refine j_iconst hX dX3_add_85 ?_
      refine j_isub hX dX3_add_86 ?_
      exact hret _ _ _ _ dX3_add_87 rfl (by omega) ⟨hI44, hF46⟩
    · skip
      refine j_aload_n hX dX3_add_56 rfl 0 rfl ?_
      refine j_dup hX dX3_add_57 rfl ?_
      refine gf_X3_39 hX (by omega) (by omega) kc_164 dX3_add_58 ?_
      refine j_name hI35 ro_164_7 (fun v47 hv48 hl49 hh50 => ?_)
      have hk51 := hv48.symm
      refine j_iconst hX dX3_add_61 ?_
      refine j_aload_n hX dX3_add_62 rfl 0 rfl ?_
      refine gf_X3_43 hX (by omega) (by omega) kc_164 dX3_add_63 ?_
      refine j_top hk37 ?_
      refine j_ishl hX dX3_add_66 (fun z52 hz53 hy54 => ?_)
      refine j_ior hX dX3_add_67 (fun z55 hz56 hy57 => ?_)
      refine pf_X3_39 hX (by omega) (by omega) kc_164 (by omega) dX3_add_68 ?_
      refine j_up hI35 ro_164_7 (by omega) (by omega) (Or.inl (by omega)) (fun M58 w59 hw60 hM61 hI62 hf63 => ?_)
      have hk64 := kp_up hM61 (fun h => absurd h.2 (by decide)) hk37
      clear hk37 hk51
      have hF65 := Fr.put hF38 hM61 (by omega)
      refine j_aload_n hX dX3_add_71 rfl 0 rfl ?_
      refine j_dup hX dX3_add_72 rfl ?_
      refine gf_X3_43 hX (by omega) (by omega) kc_164 dX3_add_73 ?_
      refine j_top hk64 ?_
      refine j_iconst hX dX3_add_76 ?_
      refine j_iadd hX dX3_add_77 ?_
      refine pf_X3_43 hX (by omega) (by omega) kc_164 (by omega) dX3_add_78 ?_
      refine j_up hI62 ro_164_8 (by omega) (by omega) (Or.inl (by omega)) (fun M66 w67 hw68 hM69 hI70 hf71 => ?_)
      have hk72 := kp_up hM69 (fun h => absurd h.2 (by decide)) hf63
      clear hk64 hf63
      have hF73 := Fr.put hF65 hM69 (by omega)
      refine j_aload_n hX dX3_add_81 rfl 0 rfl ?_
      refine gf_X3_43 hX (by omega) (by omega) kc_164 dX3_add_82 ?_
      refine j_top hf71 ?_
      refine j_iconst hX dX3_add_85 ?_
      refine j_isub hX dX3_add_86 ?_
      exact hret _ _ _ _ dX3_add_87 rfl (by omega) ⟨hI70, hF73⟩
  · skip
    refine j_iconst hX dX3_add_9 ?_
    exact hret _ _ _ _ dX3_add_10 rfl (by omega) ⟨hI, hF⟩
set_option maxHeartbeats 2000000 in
set_option maxRecDepth 20000 in
theorem c_X3_takeFrom (l : Launch) (D : va_G) (cy : Nat → ClassId) (B N : Nat) (a : Int) (b : Int) (M : MM) (hN : 210 ≤ N) (hI : Iv M) (hpa : I32 a) (hpb : I32 b) : CI l D cy B N 1 yX3_takeFrom cX3_takeFrom 3 (some .boolean) [rv B 164, iv a, iv b] M (fun z M' => Iv M' ∧ Fr (fun a (_ : Int) => (a = 170)) M M' ∧ (0 ≤ z ∧ z ≤ 1)) := by
  refine mk_CI (by decide) (Nat.le_of_ble_eq_true rfl) ?_
  intro X exl exD excy hnL hX hret
  have hce : 0 + 0 ≤ (xR X).cells ∧ 0 + 0 ≤ (xR X).slots := ⟨Nat.zero_le _, Nat.zero_le _⟩
  have hF : Fr (fun a (_ : Int) => (a = 170)) M M := Fr.rf
  show J X B N 0 0 0 [(0, rv B 164), (1, iv a), (2, iv b)] [] M
  refine j_iload_n hX dX3_takeFrom_0 rfl 1 rfl ?_
  refine j_if_lt (tgt := 22) hX dX3_takeFrom_1 (by decide) (by omega) (fun hc1 => ?_) (fun hc1 => ?_)
  · skip
    refine j_iconst hX dX3_takeFrom_22 ?_
    exact hret _ _ _ _ dX3_takeFrom_23 (nb (by omega)) (by omega) ⟨hI, hF, by omega⟩
  · skip
    refine j_iload_n hX dX3_takeFrom_4 rfl 1 rfl ?_
    refine j_aload_n hX dX3_takeFrom_5 rfl 0 rfl ?_
    refine gf_X3_43 hX (by omega) (by omega) kc_164 dX3_takeFrom_6 ?_
    refine j_name hI ro_164_8 (fun v2 hv3 hl4 hh5 => ?_)
    have hk6 := hv3.symm
    refine j_icmp_ge (tgt := 22) hX dX3_takeFrom_9 (by decide) (by omega) (by omega) (fun hc7 => ?_) (fun hc7 => ?_)
    · skip
      refine j_iconst hX dX3_takeFrom_22 ?_
      exact hret _ _ _ _ dX3_takeFrom_23 (nb (by omega)) (by omega) ⟨hI, hF, by omega⟩
    · skip
      refine j_aload_n hX dX3_takeFrom_12 rfl 0 rfl ?_
      refine gf_X3_28 hX (by omega) (by omega) kc_164 (fc_164_4 hI) (by decide) dX3_takeFrom_13 ?_
      refine j_iload_n hX dX3_takeFrom_16 rfl 1 rfl ?_
      refine j_iald hX (by omega) (by omega) kc_170 (by omega) (by omega) (by omega) dX3_takeFrom_17 ?_
      refine j_name hI (ra_170 _) (fun v8 hv9 hl10 hh11 => ?_)
      refine j_iconst hX dX3_takeFrom_18 ?_
      refine j_icmp_eq (tgt := 24) hX dX3_takeFrom_19 (by decide) (by omega) (by omega) (fun hc12 => ?_) (fun hc12 => ?_)
      · skip
        refine j_aload_n hX dX3_takeFrom_24 rfl 0 rfl ?_
        refine gf_X3_28 hX (by omega) (by omega) kc_164 (fc_164_4 hI) (by decide) dX3_takeFrom_25 ?_
        refine j_iload_n hX dX3_takeFrom_28 rfl 1 rfl ?_
        refine j_iload_n hX dX3_takeFrom_29 rfl 2 rfl ?_
        refine j_iast hX (by omega) (by omega) kc_170 (by omega) (by omega) (by omega) (by omega) dX3_takeFrom_30 ?_
        refine j_up hI (ra_170 _) (by omega) (by omega) (Or.inl (by omega)) (fun M13 w14 hw15 hM16 hI17 hf18 => ?_)
        have hk19 := kp_up hM16 (fun h => absurd h.1 (by decide)) hk6
        clear hk6
        have hF20 := Fr.put hF hM16 (by omega)
        refine j_iconst hX dX3_takeFrom_31 ?_
        exact hret _ _ _ _ dX3_takeFrom_32 (nb (by omega)) (by omega) ⟨hI17, hF20, by omega⟩
      · skip
        refine j_iconst hX dX3_takeFrom_22 ?_
        exact hret _ _ _ _ dX3_takeFrom_23 (nb (by omega)) (by omega) ⟨hI, hF, by omega⟩
set_option maxHeartbeats 2000000 in
set_option maxRecDepth 20000 in
theorem c_X3_counts (l : Launch) (D : va_G) (cy : Nat → ClassId) (B N : Nat) (a : Int) (b : Int) (M : MM) (hN : 210 ≤ N) (hI : Iv M) (hpa : I32 a) (hpb : I32 b) (h1 : 0 ≤ a ∧ a < 30) : CI l D cy B N 1 yX3_counts cX3_counts 4 (some .boolean) [rv B 164, iv a, iv b] M (fun z M' => M' = M ∧ (0 ≤ z ∧ z ≤ 1)) := by
  refine mk_CI (by decide) (Nat.le_of_ble_eq_true rfl) ?_
  intro X exl exD excy hnL hX hret
  have hce : 0 + 0 ≤ (xR X).cells ∧ 0 + 0 ≤ (xR X).slots := ⟨Nat.zero_le _, Nat.zero_le _⟩
  show J X B N 0 0 0 [(0, rv B 164), (1, iv a), (2, iv b)] [] M
  refine j_aload_n hX dX3_counts_0 rfl 0 rfl ?_
  refine gf_X3_28 hX (by omega) (by omega) kc_164 (fc_164_4 hI) (by decide) dX3_counts_1 ?_
  refine j_iload_n hX dX3_counts_4 rfl 1 rfl ?_
  refine j_iald hX (by omega) (by omega) kc_170 (by omega) (by omega) (by omega) dX3_counts_5 ?_
  refine j_name hI (ra_170 _) (fun v1 hv2 hl3 hh4 => ?_)
  refine j_iconst hX dX3_counts_6 ?_
  refine j_icmp_eq (tgt := 24) hX dX3_counts_7 (by decide) (by omega) (by omega) (fun hc5 => ?_) (fun hc5 => ?_)
  · skip
    refine j_iconst hX dX3_counts_24 ?_
    refine j_istore_n (lv' := [(3, _), (0, _), (1, _), (2, _)]) hX dX3_counts_25 rfl (by rw [hnL]; decide) rfl ?_
    refine j_aload_n hX dX3_counts_26 rfl 1 rfl ?_
    refine gf_X3_25 hX (by omega) (by omega) kc_164 (fc_164_3 hI) (by decide) dX3_counts_27 ?_
    refine j_iload_n hX dX3_counts_30 rfl 2 rfl ?_
    refine j_iald hX (by omega) (by omega) kc_169 (by omega) (by omega) (by omega) dX3_counts_31 ?_
    refine j_name hI (ra_169 _) (fun v6 hv7 hl8 hh9 => ?_)
    refine j_iload_n hX dX3_counts_32 rfl 3 rfl ?_
    refine j_icmp_gt (tgt := 44) hX dX3_counts_33 (by decide) (by omega) (by omega) (fun hc10 => ?_) (fun hc10 => ?_)
    · skip
      refine j_iconst hX dX3_counts_44 ?_
      exact hret _ _ _ _ dX3_counts_45 (nb (by omega)) (by omega) ⟨rfl, by omega⟩
    · skip
      refine j_iload_n hX dX3_counts_36 rfl 0 rfl ?_
      refine j_if_ne (tgt := 44) hX dX3_counts_37 (by decide) (by omega) (fun hc11 => ?_) (fun hc11 => ?_)
      · skip
        refine j_iconst hX dX3_counts_44 ?_
        exact hret _ _ _ _ dX3_counts_45 (nb (by omega)) (by omega) ⟨rfl, by omega⟩
      · skip
        refine j_iconst hX dX3_counts_40 ?_
        refine j_goto (tgt := 45) hX dX3_counts_41 (by decide) ?_
        exact hret _ _ _ _ dX3_counts_45 (nb (by omega)) (by omega) ⟨rfl, by omega⟩
  · skip
    refine j_aload_n hX dX3_counts_10 rfl 0 rfl ?_
    refine gf_X3_28 hX (by omega) (by omega) kc_164 (fc_164_4 hI) (by decide) dX3_counts_11 ?_
    refine j_iload_n hX dX3_counts_14 rfl 1 rfl ?_
    refine j_iald hX (by omega) (by omega) kc_170 (by omega) (by omega) (by omega) dX3_counts_15 ?_
    refine j_name hI (ra_170 _) (fun v12 hv13 hl14 hh15 => ?_)
    refine j_iload_n hX dX3_counts_16 rfl 2 rfl ?_
    refine j_icmp_gt (tgt := 24) hX dX3_counts_17 (by decide) (by omega) (by omega) (fun hc16 => ?_) (fun hc16 => ?_)
    · skip
      refine j_iconst hX dX3_counts_24 ?_
      refine j_istore_n (lv' := [(3, _), (0, _), (1, _), (2, _)]) hX dX3_counts_25 rfl (by rw [hnL]; decide) rfl ?_
      refine j_aload_n hX dX3_counts_26 rfl 1 rfl ?_
      refine gf_X3_25 hX (by omega) (by omega) kc_164 (fc_164_3 hI) (by decide) dX3_counts_27 ?_
      refine j_iload_n hX dX3_counts_30 rfl 2 rfl ?_
      refine j_iald hX (by omega) (by omega) kc_169 (by omega) (by omega) (by omega) dX3_counts_31 ?_
      refine j_name hI (ra_169 _) (fun v17 hv18 hl19 hh20 => ?_)
      refine j_iload_n hX dX3_counts_32 rfl 3 rfl ?_
      refine j_icmp_gt (tgt := 44) hX dX3_counts_33 (by decide) (by omega) (by omega) (fun hc21 => ?_) (fun hc21 => ?_)
      · skip
        refine j_iconst hX dX3_counts_44 ?_
        exact hret _ _ _ _ dX3_counts_45 (nb (by omega)) (by omega) ⟨rfl, by omega⟩
      · skip
        refine j_iload_n hX dX3_counts_36 rfl 0 rfl ?_
        refine j_if_ne (tgt := 44) hX dX3_counts_37 (by decide) (by omega) (fun hc22 => ?_) (fun hc22 => ?_)
        · skip
          refine j_iconst hX dX3_counts_44 ?_
          exact hret _ _ _ _ dX3_counts_45 (nb (by omega)) (by omega) ⟨rfl, by omega⟩
        · skip
          refine j_iconst hX dX3_counts_40 ?_
          refine j_goto (tgt := 45) hX dX3_counts_41 (by decide) ?_
          exact hret _ _ _ _ dX3_counts_45 (nb (by omega)) (by omega) ⟨rfl, by omega⟩
    · skip
      refine j_iconst hX dX3_counts_20 ?_
      refine j_goto (tgt := 25) hX dX3_counts_21 (by decide) ?_
      refine j_istore_n (lv' := [(3, _), (0, _), (1, _), (2, _)]) hX dX3_counts_25 rfl (by rw [hnL]; decide) rfl ?_
      refine j_aload_n hX dX3_counts_26 rfl 1 rfl ?_
      refine gf_X3_25 hX (by omega) (by omega) kc_164 (fc_164_3 hI) (by decide) dX3_counts_27 ?_
      refine j_iload_n hX dX3_counts_30 rfl 2 rfl ?_
      refine j_iald hX (by omega) (by omega) kc_169 (by omega) (by omega) (by omega) dX3_counts_31 ?_
      refine j_name hI (ra_169 _) (fun v23 hv24 hl25 hh26 => ?_)
      refine j_iload_n hX dX3_counts_32 rfl 3 rfl ?_
      refine j_icmp_gt (tgt := 44) hX dX3_counts_33 (by decide) (by omega) (by omega) (fun hc27 => ?_) (fun hc27 => ?_)
      · skip
        refine j_iconst hX dX3_counts_44 ?_
        exact hret _ _ _ _ dX3_counts_45 (nb (by omega)) (by omega) ⟨rfl, by omega⟩
      · skip
        refine j_iload_n hX dX3_counts_36 rfl 0 rfl ?_
        refine j_if_ne (tgt := 44) hX dX3_counts_37 (by decide) (by omega) (fun hc28 => ?_) (fun hc28 => ?_)
        · skip
          refine j_iconst hX dX3_counts_44 ?_
          exact hret _ _ _ _ dX3_counts_45 (nb (by omega)) (by omega) ⟨rfl, by omega⟩
        · skip
          refine j_iconst hX dX3_counts_40 ?_
          refine j_goto (tgt := 45) hX dX3_counts_41 (by decide) ?_
          exact hret _ _ _ _ dX3_counts_45 (nb (by omega)) (by omega) ⟨rfl, by omega⟩
set_option maxHeartbeats 2000000 in
set_option maxRecDepth 20000 in
theorem c_X3_allowAsKnown (l : Launch) (D : va_G) (cy : Nat → ClassId) (B N : Nat) (a : Int) (M : MM) (hN : 210 ≤ N) (hI : Iv M) (hpa : I32 a) : CV l D cy B N 2 yX3_allowAsKnown cX3_allowAsKnown 5 none [rv B 164, iv a] M (fun M' => Iv M' ∧ Fr (fun a (_ : Int) => (a = 171)) M M') := by
  refine mk_CV (by decide) (Nat.le_of_ble_eq_true rfl) ?_
  intro X exl exD excy hnL hX hret
  have hce : 0 + 0 ≤ (xR X).cells ∧ 0 + 0 ≤ (xR X).slots := ⟨Nat.zero_le _, Nat.zero_le _⟩
  have hF : Fr (fun a (_ : Int) => (a = 171)) M M := Fr.rf
  have cp : ∀ n : Nat, (∀ (x2 : Int), ∀ (Mc : MM), I32 x2 → Iv Mc → Fr (fun a (_ : Int) => (a = 171)) M Mc → (0 ≤ x2 ∧ x2 ≤ 30) → 0 ≤ 32 * (30 - x2) + 1 → 32 * (30 - x2) + 1 < (n : Int) → J X B N 0 0 10 [(0, rv B 164), (1, iv a), (2, iv x2)] [] Mc) := by
    intro n
    induction n with
    | zero => exact by intros; exfalso; omega
    | succ n ih =>
      · intro x2 Mc hxx2 hI hF h2 hm0 hm1
        refine j_iload_n hX dX3_allowAsKnown_10 rfl 2 rfl ?_
        refine j_aload_n hX dX3_allowAsKnown_11 rfl 0 rfl ?_
        refine gf_X3_43 hX (by omega) (by omega) kc_164 dX3_allowAsKnown_12 ?_
        refine j_name hI ro_164_8 (fun v1 hv2 hl3 hh4 => ?_)
        have hk5 := hv2.symm
        refine j_icmp_ge (tgt := 86) hX dX3_allowAsKnown_15 (by decide) (by omega) (by omega) (fun hc6 => ?_) (fun hc6 => ?_)
        · skip
          exact hret _ _ _ dX3_allowAsKnown_86 ⟨hI, hF⟩
        · skip
          refine j_aload_n hX dX3_allowAsKnown_18 rfl 0 rfl ?_
          refine j_iload_n hX dX3_allowAsKnown_19 rfl 2 rfl ?_
          refine j_iload_n hX dX3_allowAsKnown_20 rfl 1 rfl ?_
          refine j_callVI hX lk_X3_52 (c_X3_counts _ _ _ _ _ _ _ _ (by omega) hI (by omega) (by omega) (by first | assumption | omega)) (by omega) hce rfl rfl (by omega) (by omega) kc_164 rfl rfl (Nat.le_of_ble_eq_true rfl) dX3_allowAsKnown_21 (fun z7 M8 hz10 hp9 => ?_)
          obtain ⟨rfl, hb11⟩ := hp9
          refine j_if_eq (tgt := 80) hX dX3_allowAsKnown_24 (by decide) (by omega) (fun hc12 => ?_) (fun hc12 => ?_)
          · skip
            refine j_iinc (lv' := [(2, _), (0, _), (1, _)]) hX dX3_allowAsKnown_80 2 rfl (by rw [hnL]; decide) rfl ?_
            refine j_goto (tgt := 10) hX dX3_allowAsKnown_83 (by decide) ?_
            refine j_sub [1, 2, 0] rfl ?_
            exact ih _ _ (by omega) hI hF (by first | assumption | omega) (by omega) (by omega)
          · skip
            refine j_iconst hX dX3_allowAsKnown_27 ?_
            refine j_aload_n hX dX3_allowAsKnown_28 rfl 0 rfl ?_
            refine gf_X3_22 hX (by omega) (by omega) kc_164 (fc_164_2 hI) (by decide) dX3_allowAsKnown_29 ?_
            refine j_iload_n hX dX3_allowAsKnown_32 rfl 2 rfl ?_
            refine j_iald hX (by omega) (by omega) kc_168 (by omega) (by omega) (by omega) dX3_allowAsKnown_33 ?_
            refine j_name hI (ra_168 _) (fun v13 hv14 hl15 hh16 => ?_)
            refine j_ishl hX dX3_allowAsKnown_34 (fun z17 hz18 hy19 => ?_)
            refine j_istore_n (lv' := [(3, _), (0, _), (1, _), (2, _)]) hX dX3_allowAsKnown_35 rfl (by rw [hnL]; decide) rfl ?_
            refine j_aload_n hX dX3_allowAsKnown_36 rfl 1 rfl ?_
            refine gf_X3_39 hX (by omega) (by omega) kc_164 dX3_allowAsKnown_37 ?_
            refine j_name hI ro_164_7 (fun v20 hv21 hl22 hh23 => ?_)
            have hk24 := hv21.symm
            refine j_iload_n hX dX3_allowAsKnown_40 rfl 3 rfl ?_
            refine j_ishr hX dX3_allowAsKnown_41 (fun z25 hz26 hy27 => ?_)
            refine j_iconst hX dX3_allowAsKnown_42 ?_
            refine j_iand hX dX3_allowAsKnown_43 (fun z28 hz29 hy30 => ?_)
            have ha31 := (and_f hz29 (by omega) (by omega)).2 (by omega)
            refine j_if_eq (tgt := 51) hX dX3_allowAsKnown_44 (by decide) (by omega) (fun hc32 => ?_) (fun hc32 => ?_)
            · skip
              refine j_iconst hX dX3_allowAsKnown_51 ?_
              refine j_istore (lv' := [(4, _), (3, _), (0, _), (1, _), (2, _)]) hX dX3_allowAsKnown_52 (by rw [hnL]; decide) rfl ?_
              refine j_aload_n hX dX3_allowAsKnown_54 rfl 2 rfl ?_
              refine gf_X3_31 hX (by omega) (by omega) kc_164 (fc_164_5 hI) (by decide) dX3_allowAsKnown_55 ?_
              refine j_aload_n hX dX3_allowAsKnown_58 rfl 2 rfl ?_
              refine gf_X3_18 hX (by omega) (by omega) kc_164 (fc_164_1 hI) (by decide) dX3_allowAsKnown_59 ?_
              refine j_iload_n hX dX3_allowAsKnown_62 rfl 4 rfl ?_
              refine j_iald hX (by omega) (by omega) kc_167 (by omega) (by omega) (by omega) dX3_allowAsKnown_63 ?_
              refine j_name hI (ra_167 _) (fun v33 hv34 hl35 hh36 => ?_)
              refine j_dup2 hX dX3_allowAsKnown_64 rfl rfl ?_
              refine j_iald hX (by omega) (by omega) kc_171 (by omega) (by omega) (by omega) dX3_allowAsKnown_65 ?_
              refine j_name hI (ra_171 _) (fun v37 hv38 hl39 hh40 => ?_)
              refine j_iload hX dX3_allowAsKnown_66 0 rfl ?_
              refine j_if_eq (tgt := 77) hX dX3_allowAsKnown_68 (by decide) (by omega) (fun hc41 => ?_) (fun hc41 => ?_)
              · skip
                refine j_iload_n hX dX3_allowAsKnown_77 rfl 1 rfl ?_
                refine j_iand hX dX3_allowAsKnown_78 (fun z42 hz43 hy44 => ?_)
                refine j_iast hX (by omega) (by omega) kc_171 (by omega) (by omega) (by omega) (by omega) dX3_allowAsKnown_79 ?_
                refine j_up hI (ra_171 _) (by omega) (by omega) (Or.inl (by omega)) (fun M45 w46 hw47 hM48 hI49 hf50 => ?_)
                have hk51 := kp_up hM48 (fun h => absurd h.1 (by decide)) hk5
                have hk52 := kp_up hM48 (fun h => absurd h.1 (by decide)) hk24
                clear hk5 hk24
                have hF53 := Fr.put hF hM48 (by omega)
                refine j_iinc (lv' := [(2, _), (4, _), (3, _), (0, _), (1, _)]) hX dX3_allowAsKnown_80 4 rfl (by rw [hnL]; decide) rfl ?_
                refine j_goto (tgt := 10) hX dX3_allowAsKnown_83 (by decide) ?_
                refine j_sub [3, 4, 0] rfl ?_
                exact ih _ _ (by omega) hI49 hF53 (by first | assumption | omega) (by omega) (by omega)
              · skip
                refine j_iload_n hX dX3_allowAsKnown_71 rfl 1 rfl ?_
                refine j_iconst hX dX3_allowAsKnown_72 ?_
                refine j_ixor hX dX3_allowAsKnown_73 (fun z54 hz55 hy56 => ?_)
                refine j_goto (tgt := 78) hX dX3_allowAsKnown_74 (by decide) ?_
                refine j_iand hX dX3_allowAsKnown_78 (fun z57 hz58 hy59 => ?_)
                refine j_iast hX (by omega) (by omega) kc_171 (by omega) (by omega) (by omega) (by omega) dX3_allowAsKnown_79 ?_
                refine j_up hI (ra_171 _) (by omega) (by omega) (Or.inl (by omega)) (fun M60 w61 hw62 hM63 hI64 hf65 => ?_)
                have hk66 := kp_up hM63 (fun h => absurd h.1 (by decide)) hk5
                have hk67 := kp_up hM63 (fun h => absurd h.1 (by decide)) hk24
                clear hk5 hk24
                have hF68 := Fr.put hF hM63 (by omega)
                refine j_iinc (lv' := [(2, _), (4, _), (3, _), (0, _), (1, _)]) hX dX3_allowAsKnown_80 4 rfl (by rw [hnL]; decide) rfl ?_
                refine j_goto (tgt := 10) hX dX3_allowAsKnown_83 (by decide) ?_
                refine j_sub [3, 4, 0] rfl ?_
                exact ih _ _ (by omega) hI64 hF68 (by first | assumption | omega) (by omega) (by omega)
            · skip
              refine j_iconst hX dX3_allowAsKnown_47 ?_
              refine j_goto (tgt := 52) hX dX3_allowAsKnown_48 (by decide) ?_
              refine j_istore (lv' := [(4, _), (3, _), (0, _), (1, _), (2, _)]) hX dX3_allowAsKnown_52 (by rw [hnL]; decide) rfl ?_
              refine j_aload_n hX dX3_allowAsKnown_54 rfl 2 rfl ?_
              refine gf_X3_31 hX (by omega) (by omega) kc_164 (fc_164_5 hI) (by decide) dX3_allowAsKnown_55 ?_
              refine j_aload_n hX dX3_allowAsKnown_58 rfl 2 rfl ?_
              refine gf_X3_18 hX (by omega) (by omega) kc_164 (fc_164_1 hI) (by decide) dX3_allowAsKnown_59 ?_
              refine j_iload_n hX dX3_allowAsKnown_62 rfl 4 rfl ?_
              refine j_iald hX (by omega) (by omega) kc_167 (by omega) (by omega) (by omega) dX3_allowAsKnown_63 ?_
              refine j_name hI (ra_167 _) (fun v69 hv70 hl71 hh72 => ?_)
              refine j_dup2 hX dX3_allowAsKnown_64 rfl rfl ?_
              refine j_iald hX (by omega) (by omega) kc_171 (by omega) (by omega) (by omega) dX3_allowAsKnown_65 ?_
              refine j_name hI (ra_171 _) (fun v73 hv74 hl75 hh76 => ?_)
              refine j_iload hX dX3_allowAsKnown_66 0 rfl ?_
              refine j_if_eq (tgt := 77) hX dX3_allowAsKnown_68 (by decide) (by omega) (fun hc77 => ?_) (fun hc77 => ?_)
              · skip
                refine j_iload_n hX dX3_allowAsKnown_77 rfl 1 rfl ?_
                refine j_iand hX dX3_allowAsKnown_78 (fun z78 hz79 hy80 => ?_)
                refine j_iast hX (by omega) (by omega) kc_171 (by omega) (by omega) (by omega) (by omega) dX3_allowAsKnown_79 ?_
                refine j_up hI (ra_171 _) (by omega) (by omega) (Or.inl (by omega)) (fun M81 w82 hw83 hM84 hI85 hf86 => ?_)
                have hk87 := kp_up hM84 (fun h => absurd h.1 (by decide)) hk5
                have hk88 := kp_up hM84 (fun h => absurd h.1 (by decide)) hk24
                clear hk5 hk24
                have hF89 := Fr.put hF hM84 (by omega)
                refine j_iinc (lv' := [(2, _), (4, _), (3, _), (0, _), (1, _)]) hX dX3_allowAsKnown_80 4 rfl (by rw [hnL]; decide) rfl ?_
                refine j_goto (tgt := 10) hX dX3_allowAsKnown_83 (by decide) ?_
                refine j_sub [3, 4, 0] rfl ?_
                exact ih _ _ (by omega) hI85 hF89 (by first | assumption | omega) (by omega) (by omega)
              · skip
                refine j_iload_n hX dX3_allowAsKnown_71 rfl 1 rfl ?_
                refine j_iconst hX dX3_allowAsKnown_72 ?_
                refine j_ixor hX dX3_allowAsKnown_73 (fun z90 hz91 hy92 => ?_)
                refine j_goto (tgt := 78) hX dX3_allowAsKnown_74 (by decide) ?_
                refine j_iand hX dX3_allowAsKnown_78 (fun z93 hz94 hy95 => ?_)
                refine j_iast hX (by omega) (by omega) kc_171 (by omega) (by omega) (by omega) (by omega) dX3_allowAsKnown_79 ?_
                refine j_up hI (ra_171 _) (by omega) (by omega) (Or.inl (by omega)) (fun M96 w97 hw98 hM99 hI100 hf101 => ?_)
                have hk102 := kp_up hM99 (fun h => absurd h.1 (by decide)) hk5
                have hk103 := kp_up hM99 (fun h => absurd h.1 (by decide)) hk24
                clear hk5 hk24
                have hF104 := Fr.put hF hM99 (by omega)
                refine j_iinc (lv' := [(2, _), (4, _), (3, _), (0, _), (1, _)]) hX dX3_allowAsKnown_80 4 rfl (by rw [hnL]; decide) rfl ?_
                refine j_goto (tgt := 10) hX dX3_allowAsKnown_83 (by decide) ?_
                refine j_sub [3, 4, 0] rfl ?_
                exact ih _ _ (by omega) hI100 hF104 (by first | assumption | omega) (by omega) (by omega)
  show J X B N 0 0 0 [(0, rv B 164), (1, iv a)] [] M
  refine j_aload_n hX dX3_allowAsKnown_0 rfl 0 rfl ?_
  refine gf_X3_31 hX (by omega) (by omega) kc_164 (fc_164_5 hI) (by decide) dX3_allowAsKnown_1 ?_
  refine j_iconst hX dX3_allowAsKnown_4 ?_
  refine j_callSV hX lk_X3_46 (c_J7_fill_53178 _ _ _ _ _ 171 _ _ _ _ _ (by omega) hI (by omega) (kc_171) (fun j => (ra_171 j)) (⟨by omega, by omega, by omega⟩) (by omega) (by omega)) (by omega) hce rfl rfl (Nat.le_of_ble_eq_true rfl) dX3_allowAsKnown_5 (fun M106 hp107 => ?_)
  obtain ⟨hI109, hG110⟩ := hp107
  have hF111 := Fr.trans hF hG110 (fun a b h => by omega)
  refine j_iconst hX dX3_allowAsKnown_8 ?_
  refine j_istore_n (lv' := [(2, _), (0, _), (1, _)]) hX dX3_allowAsKnown_9 rfl (by rw [hnL]; decide) rfl ?_
  refine j_sub [1, 2, 0] rfl ?_
  refine (cp (Int.toNat (1024 + 1))) _ _ (by omega) hI109 hF111 (by first | assumption | omega) ?_ ?_
  · omega
  · omega
set_option maxHeartbeats 2000000 in
set_option maxRecDepth 20000 in
theorem c_X3_tally (l : Launch) (D : va_G) (cy : Nat → ClassId) (B N : Nat) (a : Int) (b : Int) (M : MM) (hN : 210 ≤ N) (hI : Iv M) (hpa : I32 a) (hpb : I32 b) (h1 : 0 ≤ a ∧ a ≤ 6) : CI l D cy B N 3 yX3_tally cX3_tally 7 (some .int) [rv B 164, iv a, iv b] M (fun z M' => Iv M' ∧ Fr (fun a (_ : Int) => (165 ≤ a ∧ a ≤ 166) ∨ (171 ≤ a ∧ a ≤ 178)) M M') := by
  refine mk_CI (by decide) (Nat.le_of_ble_eq_true rfl) ?_
  intro X exl exD excy hnL hX hret
  have hce : 0 + 0 ≤ (xR X).cells ∧ 0 + 0 ≤ (xR X).slots := ⟨Nat.zero_le _, Nat.zero_le _⟩
  have hF : Fr (fun a (_ : Int) => (165 ≤ a ∧ a ≤ 166) ∨ (171 ≤ a ∧ a ≤ 178)) M M := Fr.rf
  have cp : ∀ n : Nat, (∀ (x3 : Int), ∀ (Mc : MM), I32 x3 → Iv Mc → Fr (fun a (_ : Int) => (165 ≤ a ∧ a ≤ 166) ∨ (171 ≤ a ∧ a ≤ 178)) M Mc → (0 ≤ x3 ∧ x3 ≤ 6) → 0 ≤ 32 * (100000000000 + 6 - x3) + 3 → 32 * (100000000000 + 6 - x3) + 3 < (n : Int) → J X B N 0 0 7 [(0, rv B 164), (1, iv a), (2, iv b), (3, iv x3)] [] Mc) ∧ (∀ (x3 x4 x5 : Int), ∀ (Mc : MM), I32 x3 → I32 x4 → I32 x5 → Iv Mc → Fr (fun a (_ : Int) => (165 ≤ a ∧ a ≤ 166) ∨ (171 ≤ a ∧ a ≤ 178)) M Mc → (0 ≤ x5 ∧ 0 ≤ x3 ∧ x3 ≤ x5) → 0 ≤ 32 * ((2147483648 - x5) * 10 + 9) + 2 → 32 * ((2147483648 - x5) * 10 + 9) + 2 < (n : Int) → J X B N 0 0 44 [(0, rv B 164), (1, iv a), (2, iv b), (3, iv x3), (4, iv x4), (5, iv x5)] [] Mc) ∧ (∀ (x3 x4 x5 x6 : Int), ∀ (Mc : MM), I32 x3 → I32 x4 → I32 x5 → I32 x6 → Iv Mc → Fr (fun a (_ : Int) => (165 ≤ a ∧ a ≤ 166) ∨ (171 ≤ a ∧ a ≤ 178)) M Mc → (0 ≤ x5 ∧ x5 < x4 ∧ 0 ≤ x3 ∧ x3 ≤ x5 + 1 ∧ 0 ≤ x6 ∧ x6 ≤ 6) → 0 ≤ 32 * ((2147483648 - x5) * 10 + 7 - x6) + 1 → 32 * ((2147483648 - x5) * 10 + 7 - x6) + 1 < (n : Int) → J X B N 0 0 71 [(0, rv B 164), (1, iv a), (2, iv b), (3, iv x3), (4, iv x4), (5, iv x5), (6, iv x6)] [] Mc) := by
    intro n
    induction n with
    | zero => exact ⟨by intros; exfalso; omega, by intros; exfalso; omega, by intros; exfalso; omega⟩
    | succ n ih =>
      refine ⟨?_, ?_, ?_⟩
      · intro x3 Mc hxx3 hI hF h2 hm0 hm1
        refine j_iload_n hX dX3_tally_7 rfl 3 rfl ?_
        refine j_bipush hX dX3_tally_8 rfl ?_
        refine j_icmp_ge (tgt := 29) hX dX3_tally_10 (by decide) (by omega) (by omega) (fun hc1 => ?_) (fun hc1 => ?_)
        · skip
          refine j_iconst hX dX3_tally_29 ?_
          refine j_istore_n (lv' := [(3, _), (0, _), (1, _), (2, _)]) hX dX3_tally_30 rfl (by rw [hnL]; decide) rfl ?_
          refine j_aload_n hX dX3_tally_31 rfl 1 rfl ?_
          refine gf_X3_12 hX (by omega) (by omega) kc_164 (fc_164_0 hI) (by decide) dX3_tally_32 ?_
          refine j_iload_n hX dX3_tally_35 rfl 2 rfl ?_
          refine j_callVI hX lk_X3_60 (c_X4_first _ _ _ _ _ 165 _ _ (by omega) hI (by omega) (by omega) (by first | assumption | omega)) (by omega) hce rfl rfl (by omega) (by omega) kc_165 rfl rfl (Nat.le_of_ble_eq_true rfl) dX3_tally_36 (fun z2 M3 hz5 hp4 => ?_)
          obtain ⟨hI6, hG7, hq8⟩ := hp4
          have hF9 := Fr.trans hF hG7 (fun a b h => by omega)
          refine j_istore (lv' := [(4, _), (3, _), (0, _), (1, _), (2, _)]) hX dX3_tally_39 (by rw [hnL]; decide) rfl ?_
          refine j_iconst hX dX3_tally_41 ?_
          refine j_istore (lv' := [(5, _), (4, _), (3, _), (0, _), (1, _), (2, _)]) hX dX3_tally_42 (by rw [hnL]; decide) rfl ?_
          refine j_sub [3, 4, 5, 2, 1, 0] rfl ?_
          exact ih.2.1 _ _ _ _ (by omega) (by omega) (by omega) hI6 hF9 (by first | assumption | omega) (by omega) (by omega)
        · skip
          refine j_aload_n hX dX3_tally_13 rfl 0 rfl ?_
          refine gf_X3_36 hX (by omega) (by omega) kc_164 (fc_164_6 hI) (by decide) dX3_tally_14 ?_
          refine j_iload_n hX dX3_tally_17 rfl 3 rfl ?_
          refine j_aald5 hX (by omega) (by omega) kc_172 (by omega) (by omega) (by omega) (ftl hI (by omega) (by omega)) (by omega) dX3_tally_18 ?_
          refine j_iconst hX dX3_tally_19 ?_
          refine j_callSV hX lk_X3_46 (c_J7_fill_53178 _ _ _ _ _ _ _ _ _ _ _ (by omega) hI (by omega) ((kt (by omega) (by omega))) (fun j => (at_ (by omega) (by omega) j)) (⟨by omega, by omega, by omega⟩) (by omega) (by omega)) (by omega) hce rfl rfl (Nat.le_of_ble_eq_true rfl) dX3_tally_20 (fun M11 hp12 => ?_)
          obtain ⟨hI14, hG15⟩ := hp12
          have hF16 := Fr.trans hF hG15 (fun a b h => by omega)
          refine j_iinc (lv' := [(3, _), (0, _), (1, _), (2, _)]) hX dX3_tally_23 3 rfl (by rw [hnL]; decide) rfl ?_
          refine j_goto (tgt := 7) hX dX3_tally_26 (by decide) ?_
          refine j_sub [1, 2, 3, 0] rfl ?_
          exact ih.1 _ _ (by omega) hI14 hF16 (by first | assumption | omega) (by omega) (by omega)
      · intro x3 x4 x5 Mc hxx3 hxx4 hxx5 hI hF h2 hm0 hm1
        refine j_iload hX dX3_tally_44 5 rfl ?_
        refine j_iload hX dX3_tally_46 4 rfl ?_
        refine j_icmp_ge (tgt := 118) hX dX3_tally_48 (by decide) (by omega) (by omega) (fun hc17 => ?_) (fun hc17 => ?_)
        · skip
          refine j_iload_n hX dX3_tally_118 rfl 3 rfl ?_
          exact hret _ _ _ _ dX3_tally_119 rfl (by omega) ⟨hI, hF⟩
        · skip
          refine j_aload_n hX dX3_tally_51 rfl 0 rfl ?_
          refine gf_X3_12 hX (by omega) (by omega) kc_164 (fc_164_0 hI) (by decide) dX3_tally_52 ?_
          refine j_aload_n hX dX3_tally_55 rfl 0 rfl ?_
          refine gf_X3_31 hX (by omega) (by omega) kc_164 (fc_164_5 hI) (by decide) dX3_tally_56 ?_
          refine j_callVI hX lk_X3_64 (c_X4_isAllowed _ _ _ _ _ 165 171 _ (by omega) hI (by omega) (by omega)) (by omega) hce rfl rfl (by omega) (by omega) kc_165 rfl rfl (Nat.le_of_ble_eq_true rfl) dX3_tally_59 (fun z18 M19 hz21 hp20 => ?_)
          obtain ⟨rfl, hb22⟩ := hp20
          refine j_if_eq (tgt := 105) hX dX3_tally_62 (by decide) (by omega) (fun hc23 => ?_) (fun hc23 => ?_)
          · skip
            refine j_aload_n hX dX3_tally_105 rfl 0 rfl ?_
            refine gf_X3_12 hX (by omega) (by omega) kc_164 (fc_164_0 hI) (by decide) dX3_tally_106 ?_
            refine j_callVV hX lk_X3_71 (c_X4_next _ _ _ _ _ 165 _ (by omega) hI (by omega)) (by omega) hce rfl rfl (by omega) (by omega) kc_165 rfl rfl (Nat.le_of_ble_eq_true rfl) dX3_tally_109 (fun M25 hp26 => ?_)
            obtain ⟨hI28, hG29⟩ := hp26
            have hF30 := Fr.trans hF hG29 (fun a b h => by omega)
            refine j_iinc (lv' := [(5, _), (0, _), (1, _), (2, _), (3, _), (4, _)]) hX dX3_tally_112 5 rfl (by rw [hnL]; decide) rfl ?_
            refine j_goto (tgt := 44) hX dX3_tally_115 (by decide) ?_
            refine j_sub [1, 2, 3, 4, 5, 0] rfl ?_
            exact ih.2.1 _ _ _ _ (by omega) (by omega) (by omega) hI28 hF30 (by first | assumption | omega) (by omega) (by omega)
          · skip
            refine j_iinc (lv' := [(3, _), (0, _), (1, _), (2, _), (4, _), (5, _)]) hX dX3_tally_65 3 rfl (by rw [hnL]; decide) rfl ?_
            refine j_iconst hX dX3_tally_68 ?_
            refine j_istore (lv' := [(6, _), (3, _), (0, _), (1, _), (2, _), (4, _), (5, _)]) hX dX3_tally_69 (by rw [hnL]; decide) rfl ?_
            refine j_sub [2, 3, 4, 1, 5, 6, 0] rfl ?_
            exact ih.2.2 _ _ _ _ _ (by omega) (by omega) (by omega) (by omega) hI hF (by first | assumption | omega) (by omega) (by omega)
      · intro x3 x4 x5 x6 Mc hxx3 hxx4 hxx5 hxx6 hI hF h2 hm0 hm1
        refine j_iload hX dX3_tally_71 6 rfl ?_
        refine j_iload_n hX dX3_tally_73 rfl 1 rfl ?_
        refine j_icmp_ge (tgt := 105) hX dX3_tally_74 (by decide) (by omega) (by omega) (fun hc31 => ?_) (fun hc31 => ?_)
        · skip
          refine j_aload_n hX dX3_tally_105 rfl 0 rfl ?_
          refine gf_X3_12 hX (by omega) (by omega) kc_164 (fc_164_0 hI) (by decide) dX3_tally_106 ?_
          refine j_callVV hX lk_X3_71 (c_X4_next _ _ _ _ _ 165 _ (by omega) hI (by omega)) (by omega) hce rfl rfl (by omega) (by omega) kc_165 rfl rfl (Nat.le_of_ble_eq_true rfl) dX3_tally_109 (fun M33 hp34 => ?_)
          obtain ⟨hI36, hG37⟩ := hp34
          have hF38 := Fr.trans hF hG37 (fun a b h => by omega)
          refine j_iinc (lv' := [(5, _), (0, _), (1, _), (2, _), (3, _), (4, _), (6, _)]) hX dX3_tally_112 5 rfl (by rw [hnL]; decide) rfl ?_
          refine j_goto (tgt := 44) hX dX3_tally_115 (by decide) ?_
          refine j_sub [1, 2, 3, 4, 5, 0] rfl ?_
          exact ih.2.1 _ _ _ _ (by omega) (by omega) (by omega) hI36 hF38 (by first | assumption | omega) (by omega) (by omega)
        · skip
          refine j_aload_n hX dX3_tally_77 rfl 0 rfl ?_
          refine gf_X3_36 hX (by omega) (by omega) kc_164 (fc_164_6 hI) (by decide) dX3_tally_78 ?_
          refine j_iload hX dX3_tally_81 6 rfl ?_
          refine j_aald5 hX (by omega) (by omega) kc_172 (by omega) (by omega) (by omega) (ftl hI (by omega) (by omega)) (by omega) dX3_tally_83 ?_
          refine j_aload_n hX dX3_tally_84 rfl 0 rfl ?_
          refine gf_X3_12 hX (by omega) (by omega) kc_164 (fc_164_0 hI) (by decide) dX3_tally_85 ?_
          refine gf_X3_68 hX (by omega) (by omega) kc_165 (fc_165_0 hI) (by decide) dX3_tally_88 ?_
          refine j_iload hX dX3_tally_91 6 rfl ?_
          refine j_iald hX (by omega) (by omega) kc_166 (by omega) (by omega) (by omega) dX3_tally_93 ?_
          refine j_name hI (ra_166 _) (fun v39 hv40 hl41 hh42 => ?_)
          refine j_dup2 hX dX3_tally_94 rfl rfl ?_
          refine j_iald hX (by omega) (by omega) (kt (by omega) (by omega)) (by omega) (by omega) (by omega) dX3_tally_95 ?_
          refine j_name hI (at_ (by omega) (by omega) _) (fun v43 hv44 hl45 hh46 => ?_)
          refine j_iconst hX dX3_tally_96 ?_
          refine j_iadd hX dX3_tally_97 ?_
          refine j_norm (fun z47 hz48 hy49 => ?_)
          refine j_iast hX (by omega) (by omega) (kt (by omega) (by omega)) (by omega) (by omega) (by omega) (by omega) dX3_tally_98 ?_
          refine j_up hI (at_ (by omega) (by omega) _) (by omega) (by omega) (Or.inl (by omega)) (fun M50 w51 hw52 hM53 hI54 hf55 => ?_)
          have hF56 := Fr.put hF hM53 (by omega)
          refine j_iinc (lv' := [(6, _), (0, _), (1, _), (2, _), (3, _), (4, _), (5, _)]) hX dX3_tally_99 6 rfl (by rw [hnL]; decide) rfl ?_
          refine j_goto (tgt := 71) hX dX3_tally_102 (by decide) ?_
          refine j_sub [1, 2, 3, 4, 5, 6, 0] rfl ?_
          exact ih.2.2 _ _ _ _ _ (by omega) (by omega) (by omega) (by omega) hI54 hF56 (by first | assumption | omega) (by omega) (by omega)
  show J X B N 0 0 0 [(0, rv B 164), (1, iv a), (2, iv b)] [] M
  refine j_aload_n hX dX3_tally_0 rfl 0 rfl ?_
  refine j_iload_n hX dX3_tally_1 rfl 2 rfl ?_
  refine j_callVV hX lk_X3_56 (c_X3_allowAsKnown _ _ _ _ _ _ _ (by omega) hI (by omega)) (by omega) hce rfl rfl (by omega) (by omega) kc_164 rfl rfl (Nat.le_of_ble_eq_true rfl) dX3_tally_2 (fun M58 hp59 => ?_)
  obtain ⟨hI61, hG62⟩ := hp59
  have hF63 := Fr.trans hF hG62 (fun a b h => by omega)
  refine j_iconst hX dX3_tally_5 ?_
  refine j_istore_n (lv' := [(3, _), (0, _), (1, _), (2, _)]) hX dX3_tally_6 rfl (by rw [hnL]; decide) rfl ?_
  refine j_sub [1, 2, 3, 0] rfl ?_
  refine (cp (Int.toNat (6400000000064 + 1))).1 _ _ (by omega) hI61 hF63 (by first | assumption | omega) ?_ ?_
  · omega
  · omega
set_option maxHeartbeats 2000000 in
set_option maxRecDepth 20000 in
theorem c_X3_sameInAll (l : Launch) (D : va_G) (cy : Nat → ClassId) (B N : Nat) (a : Int) (b : Int) (M : MM) (hN : 210 ≤ N) (hI : Iv M) (hpa : I32 a) (hpb : I32 b) (h1 : 0 ≤ a ∧ a < 6) : CI l D cy B N 1 yX3_sameInAll cX3_sameInAll 4 (some .int) [rv B 164, iv a, iv b] M (fun z M' => M' = M) := by
  refine mk_CI (by decide) (Nat.le_of_ble_eq_true rfl) ?_
  intro X exl exD excy hnL hX hret
  have hce : 0 + 0 ≤ (xR X).cells ∧ 0 + 0 ≤ (xR X).slots := ⟨Nat.zero_le _, Nat.zero_le _⟩
  have cp : ∀ n : Nat, (∀ (x3 : Int), I32 x3 → (0 ≤ x3 ∧ x3 ≤ 6) → 0 ≤ 32 * (6 - x3) + 1 → 32 * (6 - x3) + 1 < (n : Int) → J X B N 0 0 2 [(0, rv B 164), (1, iv a), (2, iv b), (3, iv x3)] [] M) := by
    intro n
    induction n with
    | zero => exact by intros; exfalso; omega
    | succ n ih =>
      · intro x3 hxx3 h2 hm0 hm1
        refine j_iload_n hX dX3_sameInAll_2 rfl 3 rfl ?_
        refine j_bipush hX dX3_sameInAll_3 rfl ?_
        refine j_icmp_ge (tgt := 28) hX dX3_sameInAll_5 (by decide) (by omega) (by omega) (fun hc1 => ?_) (fun hc1 => ?_)
        · skip
          refine j_bipush hX dX3_sameInAll_28 rfl ?_
          exact hret _ _ _ _ dX3_sameInAll_30 rfl (by omega) rfl
        · skip
          refine j_aload_n hX dX3_sameInAll_8 rfl 0 rfl ?_
          refine gf_X3_36 hX (by omega) (by omega) kc_164 (fc_164_6 hI) (by decide) dX3_sameInAll_9 ?_
          refine j_iload_n hX dX3_sameInAll_12 rfl 1 rfl ?_
          refine j_aald5 hX (by omega) (by omega) kc_172 (by omega) (by omega) (by omega) (ftl hI (by omega) (by omega)) (by omega) dX3_sameInAll_13 ?_
          refine j_iload_n hX dX3_sameInAll_14 rfl 3 rfl ?_
          refine j_iald hX (by omega) (by omega) (kt (by omega) (by omega)) (by omega) (by omega) (by omega) dX3_sameInAll_15 ?_
          refine j_name hI (at_ (by omega) (by omega) _) (fun v2 hv3 hl4 hh5 => ?_)
          refine j_iload_n hX dX3_sameInAll_16 rfl 2 rfl ?_
          refine j_icmp_ne (tgt := 22) hX dX3_sameInAll_17 (by decide) (by omega) (by omega) (fun hc6 => ?_) (fun hc6 => ?_)
          · skip
            refine j_iinc (lv' := [(3, _), (0, _), (1, _), (2, _)]) hX dX3_sameInAll_22 3 rfl (by rw [hnL]; decide) rfl ?_
            refine j_goto (tgt := 2) hX dX3_sameInAll_25 (by decide) ?_
            refine j_sub [1, 2, 3, 0] rfl ?_
            exact ih _ (by omega) (by first | assumption | omega) (by omega) (by omega)
          · skip
            refine j_iload_n hX dX3_sameInAll_20 rfl 3 rfl ?_
            exact hret _ _ _ _ dX3_sameInAll_21 rfl (by omega) rfl
  show J X B N 0 0 0 [(0, rv B 164), (1, iv a), (2, iv b)] [] M
  refine j_iconst hX dX3_sameInAll_0 ?_
  refine j_istore_n (lv' := [(3, _), (0, _), (1, _), (2, _)]) hX dX3_sameInAll_1 rfl (by rw [hnL]; decide) rfl ?_
  refine j_sub [1, 2, 3, 0] rfl ?_
  refine (cp (Int.toNat (256 + 1))) _ (by omega) (by first | assumption | omega) ?_ ?_
  · omega
  · omega
set_option maxHeartbeats 2000000 in
set_option maxRecDepth 20000 in
theorem c_X3_mostLeft (l : Launch) (D : va_G) (cy : Nat → ClassId) (B N : Nat) (a : Int) (M : MM) (hN : 210 ≤ N) (hI : Iv M) (hpa : I32 a) (h1 : 0 ≤ a ∧ a < 6) : CI l D cy B N 2 yX3_mostLeft cX3_mostLeft 4 (some .int) [rv B 164, iv a] M (fun z M' => M' = M) := by
  refine mk_CI (by decide) (Nat.le_of_ble_eq_true rfl) ?_
  intro X exl exD excy hnL hX hret
  have hce : 0 + 0 ≤ (xR X).cells ∧ 0 + 0 ≤ (xR X).slots := ⟨Nat.zero_le _, Nat.zero_le _⟩
  have cp : ∀ n : Nat, (∀ (x2 x3 : Int), I32 x2 → I32 x3 → (0 ≤ x3 ∧ x3 ≤ 6) → 0 ≤ 32 * (6 - x3) + 1 → 32 * (6 - x3) + 1 < (n : Int) → J X B N 0 0 4 [(0, rv B 164), (1, iv a), (2, iv x2), (3, iv x3)] [] M) := by
    intro n
    induction n with
    | zero => exact by intros; exfalso; omega
    | succ n ih =>
      · intro x2 x3 hxx2 hxx3 h2 hm0 hm1
        refine j_iload_n hX dX3_mostLeft_4 rfl 3 rfl ?_
        refine j_bipush hX dX3_mostLeft_5 rfl ?_
        refine j_icmp_ge (tgt := 29) hX dX3_mostLeft_7 (by decide) (by omega) (by omega) (fun hc1 => ?_) (fun hc1 => ?_)
        · skip
          refine j_iload_n hX dX3_mostLeft_29 rfl 2 rfl ?_
          exact hret _ _ _ _ dX3_mostLeft_30 rfl (by omega) rfl
        · skip
          refine j_iload_n hX dX3_mostLeft_10 rfl 2 rfl ?_
          refine j_aload_n hX dX3_mostLeft_11 rfl 0 rfl ?_
          refine gf_X3_36 hX (by omega) (by omega) kc_164 (fc_164_6 hI) (by decide) dX3_mostLeft_12 ?_
          refine j_iload_n hX dX3_mostLeft_15 rfl 1 rfl ?_
          refine j_aald5 hX (by omega) (by omega) kc_172 (by omega) (by omega) (by omega) (ftl hI (by omega) (by omega)) (by omega) dX3_mostLeft_16 ?_
          refine j_iload_n hX dX3_mostLeft_17 rfl 3 rfl ?_
          refine j_iald hX (by omega) (by omega) (kt (by omega) (by omega)) (by omega) (by omega) (by omega) dX3_mostLeft_18 ?_
          refine j_name hI (at_ (by omega) (by omega) _) (fun v2 hv3 hl4 hh5 => ?_)
          refine j_mmax hX (in_5 161 (by first | rfl | decide +kernel) rfl) (by decide) hce (by omega) (by omega) (Nat.le_of_ble_eq_true rfl) dX3_mostLeft_19 (fun z6 hz7 => ?_)
          refine j_istore_n (lv' := [(2, _), (0, _), (1, _), (3, _)]) hX dX3_mostLeft_22 rfl (by rw [hnL]; decide) rfl ?_
          refine j_iinc (lv' := [(3, _), (2, _), (0, _), (1, _)]) hX dX3_mostLeft_23 3 rfl (by rw [hnL]; decide) rfl ?_
          refine j_goto (tgt := 4) hX dX3_mostLeft_26 (by decide) ?_
          refine j_sub [2, 3, 1, 0] rfl ?_
          exact ih _ _ (by omega) (by omega) (by first | assumption | omega) (by omega) (by omega)
  show J X B N 0 0 0 [(0, rv B 164), (1, iv a)] [] M
  refine j_iconst hX dX3_mostLeft_0 ?_
  refine j_istore_n (lv' := [(2, _), (0, _), (1, _)]) hX dX3_mostLeft_1 rfl (by rw [hnL]; decide) rfl ?_
  refine j_iconst hX dX3_mostLeft_2 ?_
  refine j_istore_n (lv' := [(3, _), (2, _), (0, _), (1, _)]) hX dX3_mostLeft_3 rfl (by rw [hnL]; decide) rfl ?_
  refine j_sub [2, 3, 1, 0] rfl ?_
  refine (cp (Int.toNat (256 + 1))) _ _ (by omega) (by omega) (by first | assumption | omega) ?_ ?_
  · omega
  · omega
