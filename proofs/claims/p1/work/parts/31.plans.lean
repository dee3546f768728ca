theorem dX5_forgetAims_0 : decode cX5_forgetAims 0 = .ok (.aload_n 0, 1) := by decide +kernel
theorem dX5_forgetAims_1 : decode cX5_forgetAims 1 = .ok (.getfield 18, 3) := by decide +kernel
theorem dX5_forgetAims_4 : decode cX5_forgetAims 4 = .ok (.iconst (-1), 1) := by decide +kernel
theorem dX5_forgetAims_5 : decode cX5_forgetAims 5 = .ok (.invokestatic 31, 3) := by decide +kernel
theorem dX5_forgetAims_8 : decode cX5_forgetAims 8 = .ok (.return_, 1) := by decide +kernel
theorem dX5_setAim_0 : decode cX5_setAim 0 = .ok (.iconst 0, 1) := by decide +kernel
theorem dX5_setAim_1 : decode cX5_setAim 1 = .ok (.istore_n 3, 1) := by decide +kernel
theorem dX5_setAim_2 : decode cX5_setAim 2 = .ok (.iload_n 3, 1) := by decide +kernel
theorem dX5_setAim_3 : decode cX5_setAim 3 = .ok (.bipush 6, 2) := by decide +kernel
theorem dX5_setAim_5 : decode cX5_setAim 5 = .ok (.if_icmp .ge 26, 3) := by decide +kernel
theorem dX5_setAim_8 : decode cX5_setAim 8 = .ok (.iload_n 3, 1) := by decide +kernel
theorem dX5_setAim_9 : decode cX5_setAim 9 = .ok (.iload_n 1, 1) := by decide +kernel
theorem dX5_setAim_10 : decode cX5_setAim 10 = .ok (.if_icmp .eq 15, 3) := by decide +kernel
theorem dX5_setAim_13 : decode cX5_setAim 13 = .ok (.aload_n 0, 1) := by decide +kernel
theorem dX5_setAim_14 : decode cX5_setAim 14 = .ok (.getfield 18, 3) := by decide +kernel
theorem dX5_setAim_17 : decode cX5_setAim 17 = .ok (.iload_n 3, 1) := by decide +kernel
theorem dX5_setAim_18 : decode cX5_setAim 18 = .ok (.iaload, 1) := by decide +kernel
theorem dX5_setAim_19 : decode cX5_setAim 19 = .ok (.iload_n 2, 1) := by decide +kernel
theorem dX5_setAim_20 : decode cX5_setAim 20 = .ok (.if_icmp .ne 5, 3) := by decide +kernel
theorem dX5_setAim_23 : decode cX5_setAim 23 = .ok (.iconst 0, 1) := by decide +kernel
theorem dX5_setAim_24 : decode cX5_setAim 24 = .ok (.ireturn, 1) := by decide +kernel
theorem dX5_setAim_25 : decode cX5_setAim 25 = .ok (.iinc 3 1, 3) := by decide +kernel
theorem dX5_setAim_28 : decode cX5_setAim 28 = .ok (.goto (-26), 3) := by decide +kernel
theorem dX5_setAim_31 : decode cX5_setAim 31 = .ok (.aload_n 0, 1) := by decide +kernel
theorem dX5_setAim_32 : decode cX5_setAim 32 = .ok (.getfield 18, 3) := by decide +kernel
theorem dX5_setAim_35 : decode cX5_setAim 35 = .ok (.iload_n 1, 1) := by decide +kernel
theorem dX5_setAim_36 : decode cX5_setAim 36 = .ok (.iload_n 2, 1) := by decide +kernel
theorem dX5_setAim_37 : decode cX5_setAim 37 = .ok (.iastore, 1) := by decide +kernel
theorem dX5_setAim_38 : decode cX5_setAim 38 = .ok (.iconst 1, 1) := by decide +kernel
theorem dX5_setAim_39 : decode cX5_setAim 39 = .ok (.ireturn, 1) := by decide +kernel
theorem dX5_dropAim_0 : decode cX5_dropAim 0 = .ok (.aload_n 0, 1) := by decide +kernel
theorem dX5_dropAim_1 : decode cX5_dropAim 1 = .ok (.getfield 18, 3) := by decide +kernel
theorem dX5_dropAim_4 : decode cX5_dropAim 4 = .ok (.iload_n 1, 1) := by decide +kernel
theorem dX5_dropAim_5 : decode cX5_dropAim 5 = .ok (.iaload, 1) := by decide +kernel
theorem dX5_dropAim_6 : decode cX5_dropAim 6 = .ok (.iconst (-1), 1) := by decide +kernel
theorem dX5_dropAim_7 : decode cX5_dropAim 7 = .ok (.if_icmp .ne 5, 3) := by decide +kernel
theorem dX5_dropAim_10 : decode cX5_dropAim 10 = .ok (.iconst 0, 1) := by decide +kernel
theorem dX5_dropAim_11 : decode cX5_dropAim 11 = .ok (.ireturn, 1) := by decide +kernel
theorem dX5_dropAim_12 : decode cX5_dropAim 12 = .ok (.aload_n 0, 1) := by decide +kernel
theorem dX5_dropAim_13 : decode cX5_dropAim 13 = .ok (.getfield 18, 3) := by decide +kernel
theorem dX5_dropAim_16 : decode cX5_dropAim 16 = .ok (.iload_n 1, 1) := by decide +kernel
theorem dX5_dropAim_17 : decode cX5_dropAim 17 = .ok (.iconst (-1), 1) := by decide +kernel
theorem dX5_dropAim_18 : decode cX5_dropAim 18 = .ok (.iastore, 1) := by decide +kernel
theorem dX5_dropAim_19 : decode cX5_dropAim 19 = .ok (.iconst 1, 1) := by decide +kernel
theorem dX5_dropAim_20 : decode cX5_dropAim 20 = .ok (.ireturn, 1) := by decide +kernel
theorem dX5_aimCount_0 : decode cX5_aimCount 0 = .ok (.iconst 0, 1) := by decide +kernel
theorem dX5_aimCount_1 : decode cX5_aimCount 1 = .ok (.istore_n 1, 1) := by decide +kernel
theorem dX5_aimCount_2 : decode cX5_aimCount 2 = .ok (.iconst 0, 1) := by decide +kernel
theorem dX5_aimCount_3 : decode cX5_aimCount 3 = .ok (.istore_n 2, 1) := by decide +kernel
theorem dX5_aimCount_4 : decode cX5_aimCount 4 = .ok (.iload_n 2, 1) := by decide +kernel
theorem dX5_aimCount_5 : decode cX5_aimCount 5 = .ok (.bipush 6, 2) := by decide +kernel
theorem dX5_aimCount_7 : decode cX5_aimCount 7 = .ok (.if_icmp .ge 22, 3) := by decide +kernel
theorem dX5_aimCount_10 : decode cX5_aimCount 10 = .ok (.aload_n 0, 1) := by decide +kernel
theorem dX5_aimCount_11 : decode cX5_aimCount 11 = .ok (.getfield 18, 3) := by decide +kernel
theorem dX5_aimCount_14 : decode cX5_aimCount 14 = .ok (.iload_n 2, 1) := by decide +kernel
theorem dX5_aimCount_15 : decode cX5_aimCount 15 = .ok (.iaload, 1) := by decide +kernel
theorem dX5_aimCount_16 : decode cX5_aimCount 16 = .ok (.iconst (-1), 1) := by decide +kernel
theorem dX5_aimCount_17 : decode cX5_aimCount 17 = .ok (.if_icmp .eq 6, 3) := by decide +kernel
theorem dX5_aimCount_20 : decode cX5_aimCount 20 = .ok (.iinc 1 1, 3) := by decide +kernel
theorem dX5_aimCount_23 : decode cX5_aimCount 23 = .ok (.iinc 2 1, 3) := by decide +kernel
theorem dX5_aimCount_26 : decode cX5_aimCount 26 = .ok (.goto (-22), 3) := by decide +kernel
theorem dX5_aimCount_29 : decode cX5_aimCount 29 = .ok (.iload_n 1, 1) := by decide +kernel
theorem dX5_aimCount_30 : decode cX5_aimCount 30 = .ok (.ireturn, 1) := by decide +kernel
theorem dX5_allowAims_0 : decode cX5_allowAims 0 = .ok (.iconst 0, 1) := by decide +kernel
theorem dX5_allowAims_1 : decode cX5_allowAims 1 = .ok (.istore_n 2, 1) := by decide +kernel
theorem dX5_allowAims_2 : decode cX5_allowAims 2 = .ok (.iload_n 2, 1) := by decide +kernel
theorem dX5_allowAims_3 : decode cX5_allowAims 3 = .ok (.bipush 6, 2) := by decide +kernel
theorem dX5_allowAims_5 : decode cX5_allowAims 5 = .ok (.if_icmp .ge 55, 3) := by decide +kernel
theorem dX5_allowAims_8 : decode cX5_allowAims 8 = .ok (.aload_n 0, 1) := by decide +kernel
theorem dX5_allowAims_9 : decode cX5_allowAims 9 = .ok (.getfield 22, 3) := by decide +kernel
theorem dX5_allowAims_12 : decode cX5_allowAims 12 = .ok (.iload_n 2, 1) := by decide +kernel
theorem dX5_allowAims_13 : decode cX5_allowAims 13 = .ok (.aload_n 0, 1) := by decide +kernel
theorem dX5_allowAims_14 : decode cX5_allowAims 14 = .ok (.getfield 18, 3) := by decide +kernel
theorem dX5_allowAims_17 : decode cX5_allowAims 17 = .ok (.iload_n 2, 1) := by decide +kernel
theorem dX5_allowAims_18 : decode cX5_allowAims 18 = .ok (.iaload, 1) := by decide +kernel
theorem dX5_allowAims_19 : decode cX5_allowAims 19 = .ok (.iconst (-1), 1) := by decide +kernel
theorem dX5_allowAims_20 : decode cX5_allowAims 20 = .ok (.if_icmp .ne 7, 3) := by decide +kernel
theorem dX5_allowAims_23 : decode cX5_allowAims 23 = .ok (.iconst (-1), 1) := by decide +kernel
theorem dX5_allowAims_24 : decode cX5_allowAims 24 = .ok (.goto 11, 3) := by decide +kernel
theorem dX5_allowAims_27 : decode cX5_allowAims 27 = .ok (.iconst 1, 1) := by decide +kernel
theorem dX5_allowAims_28 : decode cX5_allowAims 28 = .ok (.aload_n 0, 1) := by decide +kernel
theorem dX5_allowAims_29 : decode cX5_allowAims 29 = .ok (.getfield 18, 3) := by decide +kernel
theorem dX5_allowAims_32 : decode cX5_allowAims 32 = .ok (.iload_n 2, 1) := by decide +kernel
theorem dX5_allowAims_33 : decode cX5_allowAims 33 = .ok (.iaload, 1) := by decide +kernel
theorem dX5_allowAims_34 : decode cX5_allowAims 34 = .ok (.ishl, 1) := by decide +kernel
theorem dX5_allowAims_35 : decode cX5_allowAims 35 = .ok (.iastore, 1) := by decide +kernel
theorem dX5_allowAims_36 : decode cX5_allowAims 36 = .ok (.iload_n 1, 1) := by decide +kernel
theorem dX5_allowAims_37 : decode cX5_allowAims 37 = .ok (.ifCond .ne 17, 3) := by decide +kernel
theorem dX5_allowAims_40 : decode cX5_allowAims 40 = .ok (.aload_n 0, 1) := by decide +kernel
theorem dX5_allowAims_41 : decode cX5_allowAims 41 = .ok (.getfield 22, 3) := by decide +kernel
theorem dX5_allowAims_44 : decode cX5_allowAims 44 = .ok (.iload_n 2, 1) := by decide +kernel
theorem dX5_allowAims_45 : decode cX5_allowAims 45 = .ok (.dup2, 1) := by decide +kernel
theorem dX5_allowAims_46 : decode cX5_allowAims 46 = .ok (.iaload, 1) := by decide +kernel
theorem dX5_allowAims_47 : decode cX5_allowAims 47 = .ok (.iconst 1, 1) := by decide +kernel
theorem dX5_allowAims_48 : decode cX5_allowAims 48 = .ok (.iload_n 2, 1) := by decide +kernel
theorem dX5_allowAims_49 : decode cX5_allowAims 49 = .ok (.ishl, 1) := by decide +kernel
theorem dX5_allowAims_50 : decode cX5_allowAims 50 = .ok (.iconst (-1), 1) := by decide +kernel
theorem dX5_allowAims_51 : decode cX5_allowAims 51 = .ok (.ixor, 1) := by decide +kernel
theorem dX5_allowAims_52 : decode cX5_allowAims 52 = .ok (.iand, 1) := by decide +kernel
theorem dX5_allowAims_53 : decode cX5_allowAims 53 = .ok (.iastore, 1) := by decide +kernel
theorem dX5_allowAims_54 : decode cX5_allowAims 54 = .ok (.iinc 2 1, 3) := by decide +kernel
theorem dX5_allowAims_57 : decode cX5_allowAims 57 = .ok (.goto (-55), 3) := by decide +kernel
theorem dX5_allowAims_60 : decode cX5_allowAims 60 = .ok (.return_, 1) := by decide +kernel
theorem dX5_ringOf_0 : decode cX5_ringOf 0 = .ok (.iconst 0, 1) := by decide +kernel
theorem dX5_ringOf_1 : decode cX5_ringOf 1 = .ok (.istore_n 3, 1) := by decide +kernel
theorem dX5_ringOf_2 : decode cX5_ringOf 2 = .ok (.iload_n 1, 1) := by decide +kernel
theorem dX5_ringOf_3 : decode cX5_ringOf 3 = .ok (.istore 4, 2) := by decide +kernel
theorem dX5_ringOf_5 : decode cX5_ringOf 5 = .ok (.iconst 0, 1) := by decide +kernel
theorem dX5_ringOf_6 : decode cX5_ringOf 6 = .ok (.istore 5, 2) := by decide +kernel
theorem dX5_ringOf_8 : decode cX5_ringOf 8 = .ok (.iload 5, 2) := by decide +kernel
theorem dX5_ringOf_10 : decode cX5_ringOf 10 = .ok (.iload_n 2, 1) := by decide +kernel
theorem dX5_ringOf_11 : decode cX5_ringOf 11 = .ok (.if_icmp .ge 25, 3) := by decide +kernel
theorem dX5_ringOf_14 : decode cX5_ringOf 14 = .ok (.aload_n 0, 1) := by decide +kernel
theorem dX5_ringOf_15 : decode cX5_ringOf 15 = .ok (.getfield 25, 3) := by decide +kernel
theorem dX5_ringOf_18 : decode cX5_ringOf 18 = .ok (.iload 4, 2) := by decide +kernel
theorem dX5_ringOf_20 : decode cX5_ringOf 20 = .ok (.iaload, 1) := by decide +kernel
theorem dX5_ringOf_21 : decode cX5_ringOf 21 = .ok (.istore 4, 2) := by decide +kernel
theorem dX5_ringOf_23 : decode cX5_ringOf 23 = .ok (.iload_n 3, 1) := by decide +kernel
theorem dX5_ringOf_24 : decode cX5_ringOf 24 = .ok (.iconst 1, 1) := by decide +kernel
theorem dX5_ringOf_25 : decode cX5_ringOf 25 = .ok (.iload 4, 2) := by decide +kernel
theorem dX5_ringOf_27 : decode cX5_ringOf 27 = .ok (.ishl, 1) := by decide +kernel
theorem dX5_ringOf_28 : decode cX5_ringOf 28 = .ok (.ior, 1) := by decide +kernel
theorem dX5_ringOf_29 : decode cX5_ringOf 29 = .ok (.istore_n 3, 1) := by decide +kernel
theorem dX5_ringOf_30 : decode cX5_ringOf 30 = .ok (.iinc 5 1, 3) := by decide +kernel
theorem dX5_ringOf_33 : decode cX5_ringOf 33 = .ok (.goto (-25), 3) := by decide +kernel
theorem dX5_ringOf_36 : decode cX5_ringOf 36 = .ok (.iload_n 3, 1) := by decide +kernel
theorem dX5_ringOf_37 : decode cX5_ringOf 37 = .ok (.ireturn, 1) := by decide +kernel
theorem dX5_swapsTo_0 : decode cX5_swapsTo 0 = .ok (.iconst 0, 1) := by decide +kernel
theorem dX5_swapsTo_1 : decode cX5_swapsTo 1 = .ok (.istore_n 3, 1) := by decide +kernel
theorem dX5_swapsTo_2 : decode cX5_swapsTo 2 = .ok (.iload_n 3, 1) := by decide +kernel
theorem dX5_swapsTo_3 : decode cX5_swapsTo 3 = .ok (.iload_n 2, 1) := by decide +kernel
theorem dX5_swapsTo_4 : decode cX5_swapsTo 4 = .ok (.if_icmp .ge 23, 3) := by decide +kernel
theorem dX5_swapsTo_7 : decode cX5_swapsTo 7 = .ok (.aload_n 0, 1) := by decide +kernel
theorem dX5_swapsTo_8 : decode cX5_swapsTo 8 = .ok (.getfield 25, 3) := by decide +kernel
theorem dX5_swapsTo_11 : decode cX5_swapsTo 11 = .ok (.iload_n 3, 1) := by decide +kernel
theorem dX5_swapsTo_12 : decode cX5_swapsTo 12 = .ok (.aload_n 0, 1) := by decide +kernel
theorem dX5_swapsTo_13 : decode cX5_swapsTo 13 = .ok (.getfield 28, 3) := by decide +kernel
theorem dX5_swapsTo_16 : decode cX5_swapsTo 16 = .ok (.aload_n 1, 1) := by decide +kernel
theorem dX5_swapsTo_17 : decode cX5_swapsTo 17 = .ok (.iload_n 3, 1) := by decide +kernel
theorem dX5_swapsTo_18 : decode cX5_swapsTo 18 = .ok (.iaload, 1) := by decide +kernel
theorem dX5_swapsTo_19 : decode cX5_swapsTo 19 = .ok (.iaload, 1) := by decide +kernel
theorem dX5_swapsTo_20 : decode cX5_swapsTo 20 = .ok (.iastore, 1) := by decide +kernel
theorem dX5_swapsTo_21 : decode cX5_swapsTo 21 = .ok (.iinc 3 1, 3) := by decide +kernel
theorem dX5_swapsTo_24 : decode cX5_swapsTo 24 = .ok (.goto (-22), 3) := by decide +kernel
theorem dX5_swapsTo_27 : decode cX5_swapsTo 27 = .ok (.iconst 0, 1) := by decide +kernel
theorem dX5_swapsTo_28 : decode cX5_swapsTo 28 = .ok (.istore_n 3, 1) := by decide +kernel
theorem dX5_swapsTo_29 : decode cX5_swapsTo 29 = .ok (.iload_n 2, 1) := by decide +kernel
theorem dX5_swapsTo_30 : decode cX5_swapsTo 30 = .ok (.istore 4, 2) := by decide +kernel
theorem dX5_swapsTo_32 : decode cX5_swapsTo 32 = .ok (.iconst 0, 1) := by decide +kernel
theorem dX5_swapsTo_33 : decode cX5_swapsTo 33 = .ok (.istore 5, 2) := by decide +kernel
theorem dX5_swapsTo_35 : decode cX5_swapsTo 35 = .ok (.iload 5, 2) := by decide +kernel
theorem dX5_swapsTo_37 : decode cX5_swapsTo 37 = .ok (.iload_n 2, 1) := by decide +kernel
theorem dX5_swapsTo_38 : decode cX5_swapsTo 38 = .ok (.if_icmp .ge 31, 3) := by decide +kernel
theorem dX5_swapsTo_41 : decode cX5_swapsTo 41 = .ok (.iload_n 3, 1) := by decide +kernel
theorem dX5_swapsTo_42 : decode cX5_swapsTo 42 = .ok (.iload 5, 2) := by decide +kernel
theorem dX5_swapsTo_44 : decode cX5_swapsTo 44 = .ok (.ishr, 1) := by decide +kernel
theorem dX5_swapsTo_45 : decode cX5_swapsTo 45 = .ok (.iconst 1, 1) := by decide +kernel
theorem dX5_swapsTo_46 : decode cX5_swapsTo 46 = .ok (.iand, 1) := by decide +kernel
theorem dX5_swapsTo_47 : decode cX5_swapsTo 47 = .ok (.ifCond .ne 16, 3) := by decide +kernel
theorem dX5_swapsTo_50 : decode cX5_swapsTo 50 = .ok (.iinc 4 (-1), 3) := by decide +kernel
theorem dX5_swapsTo_53 : decode cX5_swapsTo 53 = .ok (.iload_n 3, 1) := by decide +kernel
theorem dX5_swapsTo_54 : decode cX5_swapsTo 54 = .ok (.aload_n 0, 1) := by decide +kernel
theorem dX5_swapsTo_55 : decode cX5_swapsTo 55 = .ok (.iload 5, 2) := by decide +kernel
theorem dX5_swapsTo_57 : decode cX5_swapsTo 57 = .ok (.iload_n 2, 1) := by decide +kernel
theorem dX5_swapsTo_58 : decode cX5_swapsTo 58 = .ok (.invokevirtual 74, 3) := by decide +kernel
theorem dX5_swapsTo_61 : decode cX5_swapsTo 61 = .ok (.ior, 1) := by decide +kernel
theorem dX5_swapsTo_62 : decode cX5_swapsTo 62 = .ok (.istore_n 3, 1) := by decide +kernel
theorem dX5_swapsTo_63 : decode cX5_swapsTo 63 = .ok (.iinc 5 1, 3) := by decide +kernel
theorem dX5_swapsTo_66 : decode cX5_swapsTo 66 = .ok (.goto (-31), 3) := by decide +kernel
theorem dX5_swapsTo_69 : decode cX5_swapsTo 69 = .ok (.iload 4, 2) := by decide +kernel
theorem dX5_swapsTo_71 : decode cX5_swapsTo 71 = .ok (.ireturn, 1) := by decide +kernel
theorem dX5_fairLots_0 : decode cX5_fairLots 0 = .ok (.aload_n 0, 1) := by decide +kernel
theorem dX5_fairLots_1 : decode cX5_fairLots 1 = .ok (.iconst 0, 1) := by decide +kernel
theorem dX5_fairLots_2 : decode cX5_fairLots 2 = .ok (.invokevirtual 37, 3) := by decide +kernel
theorem dX5_fairLots_5 : decode cX5_fairLots 5 = .ok (.iconst 0, 1) := by decide +kernel
theorem dX5_fairLots_6 : decode cX5_fairLots 6 = .ok (.istore_n 2, 1) := by decide +kernel
theorem dX5_fairLots_7 : decode cX5_fairLots 7 = .ok (.aload_n 0, 1) := by decide +kernel
theorem dX5_fairLots_8 : decode cX5_fairLots 8 = .ok (.getfield 12, 3) := by decide +kernel
theorem dX5_fairLots_11 : decode cX5_fairLots 11 = .ok (.iload_n 1, 1) := by decide +kernel
theorem dX5_fairLots_12 : decode cX5_fairLots 12 = .ok (.invokevirtual 52, 3) := by decide +kernel
theorem dX5_fairLots_15 : decode cX5_fairLots 15 = .ok (.istore_n 3, 1) := by decide +kernel
theorem dX5_fairLots_16 : decode cX5_fairLots 16 = .ok (.iconst 0, 1) := by decide +kernel
theorem dX5_fairLots_17 : decode cX5_fairLots 17 = .ok (.istore 4, 2) := by decide +kernel
theorem dX5_fairLots_19 : decode cX5_fairLots 19 = .ok (.iload 4, 2) := by decide +kernel
theorem dX5_fairLots_21 : decode cX5_fairLots 21 = .ok (.iload_n 3, 1) := by decide +kernel
theorem dX5_fairLots_22 : decode cX5_fairLots 22 = .ok (.if_icmp .ge 33, 3) := by decide +kernel
theorem dX5_fairLots_25 : decode cX5_fairLots 25 = .ok (.aload_n 0, 1) := by decide +kernel
theorem dX5_fairLots_26 : decode cX5_fairLots 26 = .ok (.getfield 12, 3) := by decide +kernel
theorem dX5_fairLots_29 : decode cX5_fairLots 29 = .ok (.aload_n 0, 1) := by decide +kernel
theorem dX5_fairLots_30 : decode cX5_fairLots 30 = .ok (.getfield 22, 3) := by decide +kernel
theorem dX5_fairLots_33 : decode cX5_fairLots 33 = .ok (.invokevirtual 56, 3) := by decide +kernel
theorem dX5_fairLots_36 : decode cX5_fairLots 36 = .ok (.ifCond .eq 6, 3) := by decide +kernel
theorem dX5_fairLots_39 : decode cX5_fairLots 39 = .ok (.iinc 2 1, 3) := by decide +kernel
theorem dX5_fairLots_42 : decode cX5_fairLots 42 = .ok (.aload_n 0, 1) := by decide +kernel
theorem dX5_fairLots_43 : decode cX5_fairLots 43 = .ok (.getfield 12, 3) := by decide +kernel
theorem dX5_fairLots_46 : decode cX5_fairLots 46 = .ok (.invokevirtual 71, 3) := by decide +kernel
theorem dX5_fairLots_49 : decode cX5_fairLots 49 = .ok (.iinc 4 1, 3) := by decide +kernel
theorem dX5_fairLots_52 : decode cX5_fairLots 52 = .ok (.goto (-33), 3) := by decide +kernel
theorem dX5_fairLots_55 : decode cX5_fairLots 55 = .ok (.iload_n 2, 1) := by decide +kernel
theorem dX5_fairLots_56 : decode cX5_fairLots 56 = .ok (.ireturn, 1) := by decide +kernel
theorem dX5_lotsThatPlease_0 : decode cX5_lotsThatPlease 0 = .ok (.iconst 0, 1) := by decide +kernel
theorem dX5_lotsThatPlease_1 : decode cX5_lotsThatPlease 1 = .ok (.istore_n 3, 1) := by decide +kernel
theorem dX5_lotsThatPlease_2 : decode cX5_lotsThatPlease 2 = .ok (.aload_n 0, 1) := by decide +kernel
theorem dX5_lotsThatPlease_3 : decode cX5_lotsThatPlease 3 = .ok (.getfield 12, 3) := by decide +kernel
theorem dX5_lotsThatPlease_6 : decode cX5_lotsThatPlease 6 = .ok (.aload_n 1, 1) := by decide +kernel
theorem dX5_lotsThatPlease_7 : decode cX5_lotsThatPlease 7 = .ok (.getfield 41, 3) := by decide +kernel
theorem dX5_lotsThatPlease_10 : decode cX5_lotsThatPlease 10 = .ok (.invokevirtual 52, 3) := by decide +kernel
theorem dX5_lotsThatPlease_13 : decode cX5_lotsThatPlease 13 = .ok (.istore 4, 2) := by decide +kernel
theorem dX5_lotsThatPlease_15 : decode cX5_lotsThatPlease 15 = .ok (.iconst 0, 1) := by decide +kernel
theorem dX5_lotsThatPlease_16 : decode cX5_lotsThatPlease 16 = .ok (.istore 5, 2) := by decide +kernel
theorem dX5_lotsThatPlease_18 : decode cX5_lotsThatPlease 18 = .ok (.iload 5, 2) := by decide +kernel
theorem dX5_lotsThatPlease_20 : decode cX5_lotsThatPlease 20 = .ok (.iload 4, 2) := by decide +kernel
theorem dX5_lotsThatPlease_22 : decode cX5_lotsThatPlease 22 = .ok (.if_icmp .ge 68, 3) := by decide +kernel
theorem dX5_lotsThatPlease_25 : decode cX5_lotsThatPlease 25 = .ok (.iconst 0, 1) := by decide +kernel
theorem dX5_lotsThatPlease_26 : decode cX5_lotsThatPlease 26 = .ok (.istore 6, 2) := by decide +kernel
theorem dX5_lotsThatPlease_28 : decode cX5_lotsThatPlease 28 = .ok (.iconst 0, 1) := by decide +kernel
theorem dX5_lotsThatPlease_29 : decode cX5_lotsThatPlease 29 = .ok (.istore 7, 2) := by decide +kernel
theorem dX5_lotsThatPlease_31 : decode cX5_lotsThatPlease 31 = .ok (.iload 7, 2) := by decide +kernel
theorem dX5_lotsThatPlease_33 : decode cX5_lotsThatPlease 33 = .ok (.aload_n 1, 1) := by decide +kernel
theorem dX5_lotsThatPlease_34 : decode cX5_lotsThatPlease 34 = .ok (.getfield 41, 3) := by decide +kernel
theorem dX5_lotsThatPlease_37 : decode cX5_lotsThatPlease 37 = .ok (.if_icmp .ge 31, 3) := by decide +kernel
theorem dX5_lotsThatPlease_40 : decode cX5_lotsThatPlease 40 = .ok (.aload_n 1, 1) := by decide +kernel
theorem dX5_lotsThatPlease_41 : decode cX5_lotsThatPlease 41 = .ok (.iload 7, 2) := by decide +kernel
theorem dX5_lotsThatPlease_43 : decode cX5_lotsThatPlease 43 = .ok (.aload_n 0, 1) := by decide +kernel
theorem dX5_lotsThatPlease_44 : decode cX5_lotsThatPlease 44 = .ok (.getfield 12, 3) := by decide +kernel
theorem dX5_lotsThatPlease_47 : decode cX5_lotsThatPlease 47 = .ok (.getfield 60, 3) := by decide +kernel
theorem dX5_lotsThatPlease_50 : decode cX5_lotsThatPlease 50 = .ok (.iload 7, 2) := by decide +kernel
theorem dX5_lotsThatPlease_52 : decode cX5_lotsThatPlease 52 = .ok (.iaload, 1) := by decide +kernel
theorem dX5_lotsThatPlease_53 : decode cX5_lotsThatPlease 53 = .ok (.invokevirtual 86, 3) := by decide +kernel
theorem dX5_lotsThatPlease_56 : decode cX5_lotsThatPlease 56 = .ok (.ifCond .le 6, 3) := by decide +kernel
theorem dX5_lotsThatPlease_59 : decode cX5_lotsThatPlease 59 = .ok (.iinc 6 1, 3) := by decide +kernel
theorem dX5_lotsThatPlease_62 : decode cX5_lotsThatPlease 62 = .ok (.iinc 7 1, 3) := by decide +kernel
theorem dX5_lotsThatPlease_65 : decode cX5_lotsThatPlease 65 = .ok (.goto (-34), 3) := by decide +kernel
theorem dX5_lotsThatPlease_68 : decode cX5_lotsThatPlease 68 = .ok (.iload 6, 2) := by decide +kernel
theorem dX5_lotsThatPlease_70 : decode cX5_lotsThatPlease 70 = .ok (.iload_n 2, 1) := by decide +kernel
theorem dX5_lotsThatPlease_71 : decode cX5_lotsThatPlease 71 = .ok (.if_icmp .lt 6, 3) := by decide +kernel
theorem dX5_lotsThatPlease_74 : decode cX5_lotsThatPlease 74 = .ok (.iinc 3 1, 3) := by decide +kernel
theorem dX5_lotsThatPlease_77 : decode cX5_lotsThatPlease 77 = .ok (.aload_n 0, 1) := by decide +kernel
theorem dX5_lotsThatPlease_78 : decode cX5_lotsThatPlease 78 = .ok (.getfield 12, 3) := by decide +kernel
theorem dX5_lotsThatPlease_81 : decode cX5_lotsThatPlease 81 = .ok (.invokevirtual 71, 3) := by decide +kernel
theorem dX5_lotsThatPlease_84 : decode cX5_lotsThatPlease 84 = .ok (.iinc 5 1, 3) := by decide +kernel
theorem dX5_lotsThatPlease_87 : decode cX5_lotsThatPlease 87 = .ok (.goto (-69), 3) := by decide +kernel
theorem dX5_lotsThatPlease_90 : decode cX5_lotsThatPlease 90 = .ok (.iload_n 3, 1) := by decide +kernel
theorem dX5_lotsThatPlease_91 : decode cX5_lotsThatPlease 91 = .ok (.ireturn, 1) := by decide +kernel
theorem dX5_bestLot_0 : decode cX5_bestLot 0 = .ok (.iconst (-1), 1) := by decide +kernel
theorem dX5_bestLot_1 : decode cX5_bestLot 1 = .ok (.istore_n 3, 1) := by decide +kernel
theorem dX5_bestLot_2 : decode cX5_bestLot 2 = .ok (.aload_n 0, 1) := by decide +kernel
theorem dX5_bestLot_3 : decode cX5_bestLot 3 = .ok (.getfield 12, 3) := by decide +kernel
theorem dX5_bestLot_6 : decode cX5_bestLot 6 = .ok (.aload_n 1, 1) := by decide +kernel
theorem dX5_bestLot_7 : decode cX5_bestLot 7 = .ok (.getfield 41, 3) := by decide +kernel
theorem dX5_bestLot_10 : decode cX5_bestLot 10 = .ok (.invokevirtual 52, 3) := by decide +kernel
theorem dX5_bestLot_13 : decode cX5_bestLot 13 = .ok (.istore 4, 2) := by decide +kernel
theorem dX5_bestLot_15 : decode cX5_bestLot 15 = .ok (.iconst 0, 1) := by decide +kernel
theorem dX5_bestLot_16 : decode cX5_bestLot 16 = .ok (.istore 5, 2) := by decide +kernel
theorem dX5_bestLot_18 : decode cX5_bestLot 18 = .ok (.iload 5, 2) := by decide +kernel
theorem dX5_bestLot_20 : decode cX5_bestLot 20 = .ok (.iload 4, 2) := by decide +kernel
theorem dX5_bestLot_22 : decode cX5_bestLot 22 = .ok (.if_icmp .ge 75, 3) := by decide +kernel
theorem dX5_bestLot_25 : decode cX5_bestLot 25 = .ok (.iconst 0, 1) := by decide +kernel
theorem dX5_bestLot_26 : decode cX5_bestLot 26 = .ok (.istore 6, 2) := by decide +kernel
theorem dX5_bestLot_28 : decode cX5_bestLot 28 = .ok (.iconst 0, 1) := by decide +kernel
theorem dX5_bestLot_29 : decode cX5_bestLot 29 = .ok (.istore 7, 2) := by decide +kernel
theorem dX5_bestLot_31 : decode cX5_bestLot 31 = .ok (.iload 7, 2) := by decide +kernel
theorem dX5_bestLot_33 : decode cX5_bestLot 33 = .ok (.aload_n 1, 1) := by decide +kernel
theorem dX5_bestLot_34 : decode cX5_bestLot 34 = .ok (.getfield 41, 3) := by decide +kernel
theorem dX5_bestLot_37 : decode cX5_bestLot 37 = .ok (.if_icmp .ge 30, 3) := by decide +kernel
theorem dX5_bestLot_40 : decode cX5_bestLot 40 = .ok (.iload 6, 2) := by decide +kernel
theorem dX5_bestLot_42 : decode cX5_bestLot 42 = .ok (.aload_n 1, 1) := by decide +kernel
theorem dX5_bestLot_43 : decode cX5_bestLot 43 = .ok (.iload 7, 2) := by decide +kernel
theorem dX5_bestLot_45 : decode cX5_bestLot 45 = .ok (.aload_n 0, 1) := by decide +kernel
theorem dX5_bestLot_46 : decode cX5_bestLot 46 = .ok (.getfield 12, 3) := by decide +kernel
theorem dX5_bestLot_49 : decode cX5_bestLot 49 = .ok (.getfield 60, 3) := by decide +kernel
theorem dX5_bestLot_52 : decode cX5_bestLot 52 = .ok (.iload 7, 2) := by decide +kernel
theorem dX5_bestLot_54 : decode cX5_bestLot 54 = .ok (.iaload, 1) := by decide +kernel
theorem dX5_bestLot_55 : decode cX5_bestLot 55 = .ok (.invokevirtual 86, 3) := by decide +kernel
theorem dX5_bestLot_58 : decode cX5_bestLot 58 = .ok (.iadd, 1) := by decide +kernel
theorem dX5_bestLot_59 : decode cX5_bestLot 59 = .ok (.istore 6, 2) := by decide +kernel
theorem dX5_bestLot_61 : decode cX5_bestLot 61 = .ok (.iinc 7 1, 3) := by decide +kernel
theorem dX5_bestLot_64 : decode cX5_bestLot 64 = .ok (.goto (-33), 3) := by decide +kernel
theorem dX5_bestLot_67 : decode cX5_bestLot 67 = .ok (.iload 6, 2) := by decide +kernel
theorem dX5_bestLot_69 : decode cX5_bestLot 69 = .ok (.iload_n 3, 1) := by decide +kernel
theorem dX5_bestLot_70 : decode cX5_bestLot 70 = .ok (.if_icmp .le 14, 3) := by decide +kernel
theorem dX5_bestLot_73 : decode cX5_bestLot 73 = .ok (.iload 6, 2) := by decide +kernel
theorem dX5_bestLot_75 : decode cX5_bestLot 75 = .ok (.istore_n 3, 1) := by decide +kernel
theorem dX5_bestLot_76 : decode cX5_bestLot 76 = .ok (.aload_n 0, 1) := by decide +kernel
theorem dX5_bestLot_77 : decode cX5_bestLot 77 = .ok (.getfield 12, 3) := by decide +kernel
theorem dX5_bestLot_80 : decode cX5_bestLot 80 = .ok (.aload_n 2, 1) := by decide +kernel
theorem dX5_bestLot_81 : decode cX5_bestLot 81 = .ok (.invokevirtual 67, 3) := by decide +kernel
theorem dX5_bestLot_84 : decode cX5_bestLot 84 = .ok (.aload_n 0, 1) := by decide +kernel
theorem dX5_bestLot_85 : decode cX5_bestLot 85 = .ok (.getfield 12, 3) := by decide +kernel
theorem dX5_bestLot_88 : decode cX5_bestLot 88 = .ok (.invokevirtual 71, 3) := by decide +kernel
theorem dX5_bestLot_91 : decode cX5_bestLot 91 = .ok (.iinc 5 1, 3) := by decide +kernel
theorem dX5_bestLot_94 : decode cX5_bestLot 94 = .ok (.goto (-76), 3) := by decide +kernel
theorem dX5_bestLot_97 : decode cX5_bestLot 97 = .ok (.iload_n 3, 1) := by decide +kernel
theorem dX5_bestLot_98 : decode cX5_bestLot 98 = .ok (.ireturn, 1) := by decide +kernel
set_option maxHeartbeats 2000000 in
set_option maxRecDepth 20000 in
theorem c_X5_forgetAims (l : Launch) (D : va_G) (cy : Nat → ClassId) (B N : Nat) (M : MM) (hN : 210 ≤ N) (hI : Iv M) : CV l D cy B N 2 yX5_forgetAims cX5_forgetAims 1 none [rv B 157] M (fun M' => Iv M' ∧ Fr (fun a (_ : Int) => (a = 160)) M M') := by
  refine mk_CV (by decide) (Nat.le_of_ble_eq_true rfl) ?_
  intro X exl exD excy hnL hX hret
  have hce : 0 + 0 ≤ (xR X).cells ∧ 0 + 0 ≤ (xR X).slots := ⟨Nat.zero_le _, Nat.zero_le _⟩
  have hF : Fr (fun a (_ : Int) => (a = 160)) M M := Fr.rf
  show J X B N 0 0 0 [(0, rv B 157)] [] M
  refine j_aload_n hX dX5_forgetAims_0 rfl 0 rfl ?_
  refine gf_X5_18 hX (by omega) (by omega) kc_157 (fc_157_1 hI) (by decide) dX5_forgetAims_1 ?_
  refine j_iconst hX dX5_forgetAims_4 ?_
  refine j_callSV hX lk_X5_31 (c_J7_fill_53178 _ _ _ _ _ 160 _ _ _ _ _ (by omega) hI (by omega) (kc_160) (fun j => (ra_160 j)) (⟨by omega, by omega, by omega⟩) (by omega) (by omega)) (by omega) hce rfl rfl (Nat.le_of_ble_eq_true rfl) dX5_forgetAims_5 (fun M2 hp3 => ?_)
  obtain ⟨hI5, hG6⟩ := hp3
  have hF7 := Fr.trans hF hG6 (fun a b h => by omega)
  exact hret _ _ _ dX5_forgetAims_8 ⟨hI5, hF7⟩
set_option maxHeartbeats 2000000 in
set_option maxRecDepth 20000 in
theorem c_X5_setAim (l : Launch) (D : va_G) (cy : Nat → ClassId) (B N : Nat) (a : Int) (b : Int) (M : MM) (hN : 210 ≤ N) (hI : Iv M) (hpa : I32 a) (hpb : I32 b) (h1 : 0 ≤ a ∧ a < 6 ∧ 0 ≤ b ∧ b < 6) : CI l D cy B N 1 yX5_setAim cX5_setAim 4 (some .boolean) [rv B 157, iv a, iv b] M (fun z M' => Iv M' ∧ Fr (fun a (_ : Int) => (a = 160)) M M' ∧ (0 ≤ z ∧ z ≤ 1)) := by
  refine mk_CI (by decide) (Nat.le_of_ble_eq_true rfl) ?_
  intro X exl exD excy hnL hX hret
  have hce : 0 + 0 ≤ (xR X).cells ∧ 0 + 0 ≤ (xR X).slots := ⟨Nat.zero_le _, Nat.zero_le _⟩
  have hF : Fr (fun a (_ : Int) => (a = 160)) M M := Fr.rf
  have cp : ∀ n : Nat, (∀ (x3 : Int), ∀ (Mc : MM), I32 x3 → Iv Mc → Fr (fun a (_ : Int) => (a = 160)) M Mc → (0 ≤ x3 ∧ x3 ≤ 6) → 0 ≤ 32 * (6 - x3) + 1 → 32 * (6 - x3) + 1 < (n : Int) → J X B N 0 0 2 [(0, rv B 157), (1, iv a), (2, iv b), (3, iv x3)] [] Mc) := by
    intro n
    induction n with
    | zero => exact by intros; exfalso; omega
    | succ n ih =>
      · intro x3 Mc hxx3 hI hF h2 hm0 hm1
        refine j_iload_n hX dX5_setAim_2 rfl 3 rfl ?_
        refine j_bipush hX dX5_setAim_3 rfl ?_
        refine j_icmp_ge (tgt := 31) hX dX5_setAim_5 (by decide) (by omega) (by omega) (fun hc1 => ?_) (fun hc1 => ?_)
        · skip
          refine j_aload_n hX dX5_setAim_31 rfl 0 rfl ?_
          refine gf_X5_18 hX (by omega) (by omega) kc_157 (fc_157_1 hI) (by decide) dX5_setAim_32 ?_
          refine j_iload_n hX dX5_setAim_35 rfl 1 rfl ?_
          refine j_iload_n hX dX5_setAim_36 rfl 2 rfl ?_
          refine j_iast hX (by omega) (by omega) kc_160 (by omega) (by omega) (by omega) (by omega) dX5_setAim_37 ?_
          refine j_up hI (ra_160 _) (by omega) (by omega) (Or.inl (by omega)) (fun M2 w3 hw4 hM5 hI6 hf7 => ?_)
          have hF8 := Fr.put hF hM5 (by omega)
          refine j_iconst hX dX5_setAim_38 ?_
          exact hret _ _ _ _ dX5_setAim_39 (nb (by omega)) (by omega) ⟨hI6, hF8, by omega⟩
        · skip
          refine j_iload_n hX dX5_setAim_8 rfl 3 rfl ?_
          refine j_iload_n hX dX5_setAim_9 rfl 1 rfl ?_
          refine j_icmp_eq (tgt := 25) hX dX5_setAim_10 (by decide) (by omega) (by omega) (fun hc9 => ?_) (fun hc9 => ?_)
          · skip
            refine j_iinc (lv' := [(3, _), (0, _), (1, _), (2, _)]) hX dX5_setAim_25 3 rfl (by rw [hnL]; decide) rfl ?_
            refine j_goto (tgt := 2) hX dX5_setAim_28 (by decide) ?_
            refine j_sub [1, 2, 3, 0] rfl ?_
            exact ih _ _ (by omega) hI hF (by first | assumption | omega) (by omega) (by omega)
          · skip
            refine j_aload_n hX dX5_setAim_13 rfl 0 rfl ?_
            refine gf_X5_18 hX (by omega) (by omega) kc_157 (fc_157_1 hI) (by decide) dX5_setAim_14 ?_
            refine j_iload_n hX dX5_setAim_17 rfl 3 rfl ?_
            refine j_iald hX (by omega) (by omega) kc_160 (by omega) (by omega) (by omega) dX5_setAim_18 ?_
            refine j_name hI (ra_160 _) (fun v10 hv11 hl12 hh13 => ?_)
            refine j_iload_n hX dX5_setAim_19 rfl 2 rfl ?_
            refine j_icmp_ne (tgt := 25) hX dX5_setAim_20 (by decide) (by omega) (by omega) (fun hc14 => ?_) (fun hc14 => ?_)
            · skip
              refine j_iinc (lv' := [(3, _), (0, _), (1, _), (2, _)]) hX dX5_setAim_25 3 rfl (by rw [hnL]; decide) rfl ?_
              refine j_goto (tgt := 2) hX dX5_setAim_28 (by decide) ?_
              refine j_sub [1, 2, 3, 0] rfl ?_
              exact ih _ _ (by omega) hI hF (by first | assumption | omega) (by omega) (by omega)
            · skip
              refine j_iconst hX dX5_setAim_23 ?_
              exact hret _ _ _ _ dX5_setAim_24 (nb (by omega)) (by omega) ⟨hI, hF, by omega⟩
  show J X B N 0 0 0 [(0, rv B 157), (1, iv a), (2, iv b)] [] M
  refine j_iconst hX dX5_setAim_0 ?_
  refine j_istore_n (lv' := [(3, _), (0, _), (1, _), (2, _)]) hX dX5_setAim_1 rfl (by rw [hnL]; decide) rfl ?_
  refine j_sub [1, 2, 3, 0] rfl ?_
  refine (cp (Int.toNat (256 + 1))) _ _ (by omega) hI hF (by first | assumption | omega) ?_ ?_
  · omega
  · omega
set_option maxHeartbeats 2000000 in
set_option maxRecDepth 20000 in
theorem c_X5_dropAim (l : Launch) (D : va_G) (cy : Nat → ClassId) (B N : Nat) (a : Int) (M : MM) (hN : 210 ≤ N) (hI : Iv M) (hpa : I32 a) (h1 : 0 ≤ a ∧ a < 6) : CI l D cy B N 1 yX5_dropAim cX5_dropAim 2 (some .boolean) [rv B 157, iv a] M (fun z M' => Iv M' ∧ Fr (fun a (_ : Int) => (a = 160)) M M' ∧ (0 ≤ z ∧ z ≤ 1)) := by
  refine mk_CI (by decide) (Nat.le_of_ble_eq_true rfl) ?_
  intro X exl exD excy hnL hX hret
  have hce : 0 + 0 ≤ (xR X).cells ∧ 0 + 0 ≤ (xR X).slots := ⟨Nat.zero_le _, Nat.zero_le _⟩
  have hF : Fr (fun a (_ : Int) => (a = 160)) M M := Fr.rf
  show J X B N 0 0 0 [(0, rv B 157), (1, iv a)] [] M
  refine j_aload_n hX dX5_dropAim_0 rfl 0 rfl ?_
  refine gf_X5_18 hX (by omega) (by omega) kc_157 (fc_157_1 hI) (by decide) dX5_dropAim_1 ?_
  refine j_iload_n hX dX5_dropAim_4 rfl 1 rfl ?_
  refine j_iald hX (by omega) (by omega) kc_160 (by omega) (by omega) (by omega) dX5_dropAim_5 ?_
  refine j_name hI (ra_160 _) (fun v1 hv2 hl3 hh4 => ?_)
  refine j_iconst hX dX5_dropAim_6 ?_
  refine j_icmp_ne (tgt := 12) hX dX5_dropAim_7 (by decide) (by omega) (by omega) (fun hc5 => ?_) (fun hc5 => ?_)
  · skip
    refine j_aload_n hX dX5_dropAim_12 rfl 0 rfl ?_
    refine gf_X5_18 hX (by omega) (by omega) kc_157 (fc_157_1 hI) (by decide) dX5_dropAim_13 ?_
    refine j_iload_n hX dX5_dropAim_16 rfl 1 rfl ?_
    refine j_iconst hX dX5_dropAim_17 ?_
    refine j_iast hX (by omega) (by omega) kc_160 (by omega) (by omega) (by omega) (by omega) dX5_dropAim_18 ?_
    refine j_up hI (ra_160 _) (by omega) (by omega) (Or.inl (by omega)) (fun M6 w7 hw8 hM9 hI10 hf11 => ?_)
    have hF12 := Fr.put hF hM9 (by omega)
    refine j_iconst hX dX5_dropAim_19 ?_
    exact hret _ _ _ _ dX5_dropAim_20 (nb (by omega)) (by omega) ⟨hI10, hF12, by omega⟩
  · skip
    refine j_iconst hX dX5_dropAim_10 ?_
    exact hret _ _ _ _ dX5_dropAim_11 (nb (by omega)) (by omega) ⟨hI, hF, by omega⟩
set_option maxHeartbeats 2000000 in
set_option maxRecDepth 20000 in
theorem c_X5_aimCount (l : Launch) (D : va_G) (cy : Nat → ClassId) (B N : Nat) (M : MM) (hN : 210 ≤ N) (hI : Iv M) : CI l D cy B N 1 yX5_aimCount cX5_aimCount 3 (some .int) [rv B 157] M (fun z M' => M' = M) := by
  refine mk_CI (by decide) (Nat.le_of_ble_eq_true rfl) ?_
  intro X exl exD excy hnL hX hret
  have hce : 0 + 0 ≤ (xR X).cells ∧ 0 + 0 ≤ (xR X).slots := ⟨Nat.zero_le _, Nat.zero_le _⟩
  have cp : ∀ n : Nat, (∀ (x1 x2 : Int), I32 x1 → I32 x2 → (0 ≤ x2 ∧ x2 ≤ 6 ∧ 0 ≤ x1 ∧ x1 ≤ x2) → 0 ≤ 32 * (6 - x2) + 1 → 32 * (6 - x2) + 1 < (n : Int) → J X B N 0 0 4 [(0, rv B 157), (1, iv x1), (2, iv x2)] [] M) := by
    intro n
    induction n with
    | zero => exact by intros; exfalso; omega
    | succ n ih =>
      · intro x1 x2 hxx1 hxx2 h2 hm0 hm1
        refine j_iload_n hX dX5_aimCount_4 rfl 2 rfl ?_
        refine j_bipush hX dX5_aimCount_5 rfl ?_
        refine j_icmp_ge (tgt := 29) hX dX5_aimCount_7 (by decide) (by omega) (by omega) (fun hc1 => ?_) (fun hc1 => ?_)
        · skip
          refine j_iload_n hX dX5_aimCount_29 rfl 1 rfl ?_
          exact hret _ _ _ _ dX5_aimCount_30 rfl (by omega) rfl
        · skip
          refine j_aload_n hX dX5_aimCount_10 rfl 0 rfl ?_
          refine gf_X5_18 hX (by omega) (by omega) kc_157 (fc_157_1 hI) (by decide) dX5_aimCount_11 ?_
          refine j_iload_n hX dX5_aimCount_14 rfl 2 rfl ?_
          refine j_iald hX (by omega) (by omega) kc_160 (by omega) (by omega) (by omega) dX5_aimCount_15 ?_
          refine j_name hI (ra_160 _) (fun v2 hv3 hl4 hh5 => ?_)
          refine j_iconst hX dX5_aimCount_16 ?_
          refine j_icmp_eq (tgt := 23) hX dX5_aimCount_17 (by decide) (by omega) (by omega) (fun hc6 => ?_) (fun hc6 => ?_)
          · skip
            refine j_iinc (lv' := [(2, _), (0, _), (1, _)]) hX dX5_aimCount_23 2 rfl (by rw [hnL]; decide) rfl ?_
            refine j_goto (tgt := 4) hX dX5_aimCount_26 (by decide) ?_
            refine j_sub [1, 2, 0] rfl ?_
            exact ih _ _ (by omega) (by omega) (by first | assumption | omega) (by omega) (by omega)
          · skip
            refine j_iinc (lv' := [(1, _), (0, _), (2, _)]) hX dX5_aimCount_20 1 rfl (by rw [hnL]; decide) rfl ?_
            refine j_iinc (lv' := [(2, _), (1, _), (0, _)]) hX dX5_aimCount_23 2 rfl (by rw [hnL]; decide) rfl ?_
            refine j_goto (tgt := 4) hX dX5_aimCount_26 (by decide) ?_
            refine j_sub [2, 1, 0] rfl ?_
            exact ih _ _ (by omega) (by omega) (by first | assumption | omega) (by omega) (by omega)
  show J X B N 0 0 0 [(0, rv B 157)] [] M
  refine j_iconst hX dX5_aimCount_0 ?_
  refine j_istore_n (lv' := [(1, _), (0, _)]) hX dX5_aimCount_1 rfl (by rw [hnL]; decide) rfl ?_
  refine j_iconst hX dX5_aimCount_2 ?_
  refine j_istore_n (lv' := [(2, _), (1, _), (0, _)]) hX dX5_aimCount_3 rfl (by rw [hnL]; decide) rfl ?_
  refine j_sub [2, 1, 0] rfl ?_
  refine (cp (Int.toNat (256 + 1))) _ _ (by omega) (by omega) (by first | assumption | omega) ?_ ?_
  · omega
  · omega
set_option maxHeartbeats 2000000 in
set_option maxRecDepth 20000 in
theorem c_X5_allowAims (l : Launch) (D : va_G) (cy : Nat → ClassId) (B N : Nat) (a : Int) (M : MM) (hN : 210 ≤ N) (hI : Iv M) (hpa : I32 a) (h1 : 0 ≤ a ∧ a ≤ 1) : CV l D cy B N 1 yX5_allowAims cX5_allowAims 3 none [rv B 157, iv a] M (fun M' => Iv M' ∧ Fr (fun a (_ : Int) => (a = 161)) M M') := by
  refine mk_CV (by decide) (Nat.le_of_ble_eq_true rfl) ?_
  intro X exl exD excy hnL hX hret
  have hce : 0 + 0 ≤ (xR X).cells ∧ 0 + 0 ≤ (xR X).slots := ⟨Nat.zero_le _, Nat.zero_le _⟩
  have hF : Fr (fun a (_ : Int) => (a = 161)) M M := Fr.rf
  have cp : ∀ n : Nat, (∀ (x2 : Int), ∀ (Mc : MM), I32 x2 → Iv Mc → Fr (fun a (_ : Int) => (a = 161)) M Mc → (0 ≤ x2 ∧ x2 ≤ 6) → 0 ≤ 32 * (6 - x2) + 1 → 32 * (6 - x2) + 1 < (n : Int) → J X B N 0 0 2 [(0, rv B 157), (1, iv a), (2, iv x2)] [] Mc) := by
    intro n
    induction n with
    | zero => exact by intros; exfalso; omega
    | succ n ih =>
      · intro x2 Mc hxx2 hI hF h2 hm0 hm1
        refine j_iload_n hX dX5_allowAims_2 rfl 2 rfl ?_
        refine j_bipush hX dX5_allowAims_3 rfl ?_
        refine j_icmp_ge (tgt := 60) hX dX5_allowAims_5 (by decide) (by omega) (by omega) (fun hc1 => ?_) (fun hc1 => ?_)
        · skip
          exact hret _ _ _ dX5_allowAims_60 ⟨hI, hF⟩
        · skip
          refine j_aload_n hX dX5_allowAims_8 rfl 0 rfl ?_
          refine gf_X5_22 hX (by omega) (by omega) kc_157 (fc_157_2 hI) (by decide) dX5_allowAims_9 ?_
          refine j_iload_n hX dX5_allowAims_12 rfl 2 rfl ?_
          refine j_aload_n hX dX5_allowAims_13 rfl 0 rfl ?_
          refine gf_X5_18 hX (by omega) (by omega) kc_157 (fc_157_1 hI) (by decide) dX5_allowAims_14 ?_
          refine j_iload_n hX dX5_allowAims_17 rfl 2 rfl ?_
          refine j_iald hX (by omega) (by omega) kc_160 (by omega) (by omega) (by omega) dX5_allowAims_18 ?_
          refine j_name hI (ra_160 _) (fun v2 hv3 hl4 hh5 => ?_)
          refine j_iconst hX dX5_allowAims_19 ?_
          refine j_icmp_ne (tgt := 27) hX dX5_allowAims_20 (by decide) (by omega) (by omega) (fun hc6 => ?_) (fun hc6 => ?_)
          · skip
            refine j_iconst hX dX5_allowAims_27 ?_
            refine j_aload_n hX dX5_allowAims_28 rfl 0 rfl ?_
            refine gf_X5_18 hX (by omega) (by omega) kc_157 (fc_157_1 hI) (by decide) dX5_allowAims_29 ?_
            refine j_iload_n hX dX5_allowAims_32 rfl 2 rfl ?_
            refine j_iald hX (by omega) (by omega) kc_160 (by omega) (by omega) (by omega) dX5_allowAims_33 ?_
            refine j_name hI (ra_160 _) (fun v7 hv8 hl9 hh10 => ?_)
            refine j_ishl hX dX5_allowAims_34 (fun z11 hz12 hy13 => ?_)
            refine j_iast hX (by omega) (by omega) kc_161 (by omega) (by omega) (by omega) (by omega) dX5_allowAims_35 ?_
            refine j_up hI (ra_161 _) (by omega) (by omega) (Or.inl (by omega)) (fun M14 w15 hw16 hM17 hI18 hf19 => ?_)
            have hF20 := Fr.put hF hM17 (by omega)
            refine j_iload_n hX dX5_allowAims_36 rfl 1 rfl ?_
            refine j_if_ne (tgt := 54) hX dX5_allowAims_37 (by decide) (by omega) (fun hc21 => ?_) (fun hc21 => ?_)
            · skip
              refine j_iinc (lv' := [(2, _), (0, _), (1, _)]) hX dX5_allowAims_54 2 rfl (by rw [hnL]; decide) rfl ?_
              refine j_goto (tgt := 2) hX dX5_allowAims_57 (by decide) ?_
              refine j_sub [1, 2, 0] rfl ?_
              exact ih _ _ (by omega) hI18 hF20 (by first | assumption | omega) (by omega) (by omega)
            · skip
              refine j_aload_n hX dX5_allowAims_40 rfl 0 rfl ?_
              refine gf_X5_22 hX (by omega) (by omega) kc_157 (fc_157_2 hI18) (by decide) dX5_allowAims_41 ?_
              refine j_iload_n hX dX5_allowAims_44 rfl 2 rfl ?_
              refine j_dup2 hX dX5_allowAims_45 rfl rfl ?_
              refine j_iald hX (by omega) (by omega) kc_161 (by omega) (by omega) (by omega) dX5_allowAims_46 ?_
              refine j_name hI18 (ra_161 _) (fun v22 hv23 hl24 hh25 => ?_)
              refine j_iconst hX dX5_allowAims_47 ?_
              refine j_iload_n hX dX5_allowAims_48 rfl 2 rfl ?_
              refine j_ishl hX dX5_allowAims_49 (fun z26 hz27 hy28 => ?_)
              refine j_iconst hX dX5_allowAims_50 ?_
              refine j_ixor hX dX5_allowAims_51 (fun z29 hz30 hy31 => ?_)
              refine j_iand hX dX5_allowAims_52 (fun z32 hz33 hy34 => ?_)
              refine j_iast hX (by omega) (by omega) kc_161 (by omega) (by omega) (by omega) (by omega) dX5_allowAims_53 ?_
              refine j_up hI18 (ra_161 _) (by omega) (by omega) (Or.inl (by omega)) (fun M35 w36 hw37 hM38 hI39 hf40 => ?_)
              have hF41 := Fr.put hF20 hM38 (by omega)
              refine j_iinc (lv' := [(2, _), (0, _), (1, _)]) hX dX5_allowAims_54 2 rfl (by rw [hnL]; decide) rfl ?_
              refine j_goto (tgt := 2) hX dX5_allowAims_57 (by decide) ?_
              refine j_sub [1, 2, 0] rfl ?_
              exact ih _ _ (by omega) hI39 hF41 (by first | assumption | omega) (by omega) (by omega)
          · skip
            refine j_iconst hX dX5_allowAims_23 ?_
            refine j_goto (tgt := 35) hX dX5_allowAims_24 (by decide) ?_
            refine j_iast hX (by omega) (by omega) kc_161 (by omega) (by omega) (by omega) (by omega) dX5_allowAims_35 ?_
            refine j_up hI (ra_161 _) (by omega) (by omega) (Or.inl (by omega)) (fun M42 w43 hw44 hM45 hI46 hf47 => ?_)
            have hF48 := Fr.put hF hM45 (by omega)
            refine j_iload_n hX dX5_allowAims_36 rfl 1 rfl ?_
            refine j_if_ne (tgt := 54) hX dX5_allowAims_37 (by decide) (by omega) (fun hc49 => ?_) (fun hc49 => ?_)
            · skip
              refine j_iinc (lv' := [(2, _), (0, _), (1, _)]) hX dX5_allowAims_54 2 rfl (by rw [hnL]; decide) rfl ?_
              refine j_goto (tgt := 2) hX dX5_allowAims_57 (by decide) ?_
              refine j_sub [1, 2, 0] rfl ?_
              exact ih _ _ (by omega) hI46 hF48 (by first | assumption | omega) (by omega) (by omega)
            · skip
              refine j_aload_n hX dX5_allowAims_40 rfl 0 rfl ?_
              refine gf_X5_22 hX (by omega) (by omega) kc_157 (fc_157_2 hI46) (by decide) dX5_allowAims_41 ?_
              refine j_iload_n hX dX5_allowAims_44 rfl 2 rfl ?_
              refine j_dup2 hX dX5_allowAims_45 rfl rfl ?_
              refine j_iald hX (by omega) (by omega) kc_161 (by omega) (by omega) (by omega) dX5_allowAims_46 ?_
              refine j_name hI46 (ra_161 _) (fun v50 hv51 hl52 hh53 => ?_)
              refine j_iconst hX dX5_allowAims_47 ?_
              refine j_iload_n hX dX5_allowAims_48 rfl 2 rfl ?_
              refine j_ishl hX dX5_allowAims_49 (fun z54 hz55 hy56 => ?_)
              refine j_iconst hX dX5_allowAims_50 ?_
              refine j_ixor hX dX5_allowAims_51 (fun z57 hz58 hy59 => ?_)
              refine j_iand hX dX5_allowAims_52 (fun z60 hz61 hy62 => ?_)
              refine j_iast hX (by omega) (by omega) kc_161 (by omega) (by omega) (by omega) (by omega) dX5_allowAims_53 ?_
              refine j_up hI46 (ra_161 _) (by omega) (by omega) (Or.inl (by omega)) (fun M63 w64 hw65 hM66 hI67 hf68 => ?_)
              have hF69 := Fr.put hF48 hM66 (by omega)
              refine j_iinc (lv' := [(2, _), (0, _), (1, _)]) hX dX5_allowAims_54 2 rfl (by rw [hnL]; decide) rfl ?_
              refine j_goto (tgt := 2) hX dX5_allowAims_57 (by decide) ?_
              refine j_sub [1, 2, 0] rfl ?_
              exact ih _ _ (by omega) hI67 hF69 (by first | assumption | omega) (by omega) (by omega)
  show J X B N 0 0 0 [(0, rv B 157), (1, iv a)] [] M
  refine j_iconst hX dX5_allowAims_0 ?_
  refine j_istore_n (lv' := [(2, _), (0, _), (1, _)]) hX dX5_allowAims_1 rfl (by rw [hnL]; decide) rfl ?_
  refine j_sub [1, 2, 0] rfl ?_
  refine (cp (Int.toNat (256 + 1))) _ _ (by omega) hI hF (by first | assumption | omega) ?_ ?_
  · omega
  · omega
set_option maxHeartbeats 2000000 in
set_option maxRecDepth 20000 in
theorem c_X5_ringOf (l : Launch) (D : va_G) (cy : Nat → ClassId) (B N : Nat) (a : Int) (b : Int) (M : MM) (hN : 210 ≤ N) (hI : Iv M) (hpa : I32 a) (hpb : I32 b) (h1 : 0 ≤ a ∧ a < 6 ∧ 0 ≤ b ∧ b ≤ 6) : CI l D cy B N 1 yX5_ringOf cX5_ringOf 6 (some .int) [rv B 157, iv a, iv b] M (fun z M' => M' = M) := by
  refine mk_CI (by decide) (Nat.le_of_ble_eq_true rfl) ?_
  intro X exl exD excy hnL hX hret
  have hce : 0 + 0 ≤ (xR X).cells ∧ 0 + 0 ≤ (xR X).slots := ⟨Nat.zero_le _, Nat.zero_le _⟩
  have cp : ∀ n : Nat, (∀ (x3 x4 x5 : Int), I32 x3 → I32 x4 → I32 x5 → (0 ≤ x4 ∧ x4 < 6 ∧ 0 ≤ x5 ∧ x5 ≤ 6) → 0 ≤ 32 * (6 - x5) + 1 → 32 * (6 - x5) + 1 < (n : Int) → J X B N 0 0 8 [(0, rv B 157), (1, iv a), (2, iv b), (3, iv x3), (4, iv x4), (5, iv x5)] [] M) := by
    intro n
    induction n with
    | zero => exact by intros; exfalso; omega
    | succ n ih =>
      · intro x3 x4 x5 hxx3 hxx4 hxx5 h2 hm0 hm1
        refine j_iload hX dX5_ringOf_8 5 rfl ?_
        refine j_iload_n hX dX5_ringOf_10 rfl 2 rfl ?_
        refine j_icmp_ge (tgt := 36) hX dX5_ringOf_11 (by decide) (by omega) (by omega) (fun hc1 => ?_) (fun hc1 => ?_)
        · skip
          refine j_iload_n hX dX5_ringOf_36 rfl 3 rfl ?_
          exact hret _ _ _ _ dX5_ringOf_37 rfl (by omega) rfl
        · skip
          refine j_aload_n hX dX5_ringOf_14 rfl 0 rfl ?_
          refine gf_X5_25 hX (by omega) (by omega) kc_157 (fc_157_3 hI) (by decide) dX5_ringOf_15 ?_
          refine j_iload hX dX5_ringOf_18 4 rfl ?_
          refine j_iald hX (by omega) (by omega) kc_162 (by omega) (by omega) (by omega) dX5_ringOf_20 ?_
          refine j_name hI (ra_162 _) (fun v2 hv3 hl4 hh5 => ?_)
          refine j_istore (lv' := [(4, _), (0, _), (1, _), (2, _), (3, _), (5, _)]) hX dX5_ringOf_21 (by rw [hnL]; decide) rfl ?_
          refine j_iload_n hX dX5_ringOf_23 rfl 4 rfl ?_
          refine j_iconst hX dX5_ringOf_24 ?_
          refine j_iload hX dX5_ringOf_25 0 rfl ?_
          refine j_ishl hX dX5_ringOf_27 (fun z6 hz7 hy8 => ?_)
          refine j_ior hX dX5_ringOf_28 (fun z9 hz10 hy11 => ?_)
          refine j_istore_n (lv' := [(3, _), (4, _), (0, _), (1, _), (2, _), (5, _)]) hX dX5_ringOf_29 rfl (by rw [hnL]; decide) rfl ?_
          refine j_iinc (lv' := [(5, _), (3, _), (4, _), (0, _), (1, _), (2, _)]) hX dX5_ringOf_30 5 rfl (by rw [hnL]; decide) rfl ?_
          refine j_goto (tgt := 8) hX dX5_ringOf_33 (by decide) ?_
          refine j_sub [3, 4, 5, 1, 2, 0] rfl ?_
          exact ih _ _ _ (by omega) (by omega) (by omega) (by first | assumption | omega) (by omega) (by omega)
  show J X B N 0 0 0 [(0, rv B 157), (1, iv a), (2, iv b)] [] M
  refine j_iconst hX dX5_ringOf_0 ?_
  refine j_istore_n (lv' := [(3, _), (0, _), (1, _), (2, _)]) hX dX5_ringOf_1 rfl (by rw [hnL]; decide) rfl ?_
  refine j_iload_n hX dX5_ringOf_2 rfl 2 rfl ?_
  refine j_istore (lv' := [(4, _), (3, _), (0, _), (1, _), (2, _)]) hX dX5_ringOf_3 (by rw [hnL]; decide) rfl ?_
  refine j_iconst hX dX5_ringOf_5 ?_
  refine j_istore (lv' := [(5, _), (4, _), (3, _), (0, _), (1, _), (2, _)]) hX dX5_ringOf_6 (by rw [hnL]; decide) rfl ?_
  refine j_sub [3, 4, 5, 2, 1, 0] rfl ?_
  refine (cp (Int.toNat (256 + 1))) _ _ _ (by omega) (by omega) (by omega) (by first | assumption | omega) ?_ ?_
  · omega
  · omega
set_option maxHeartbeats 2000000 in
set_option maxRecDepth 20000 in
theorem c_X5_swapsTo (l : Launch) (D : va_G) (cy : Nat → ClassId) (B N : Nat) (a : Int) (M : MM) (hN : 210 ≤ N) (hI : Iv M) (hpa : I32 a) (h1 : 0 ≤ a ∧ a ≤ 6) : CI l D cy B N 2 yX5_swapsTo cX5_swapsTo 6 (some .int) [rv B 157, rv B 159, iv a] M (fun z M' => Iv M' ∧ Fr (fun a (_ : Int) => (a = 162)) M M') := by
  refine mk_CI (by decide) (Nat.le_of_ble_eq_true rfl) ?_
  intro X exl exD excy hnL hX hret
  have hce : 0 + 0 ≤ (xR X).cells ∧ 0 + 0 ≤ (xR X).slots := ⟨Nat.zero_le _, Nat.zero_le _⟩
  have hF : Fr (fun a (_ : Int) => (a = 162)) M M := Fr.rf
  have cp : ∀ n : Nat, (∀ (x3 : Int), ∀ (Mc : MM), I32 x3 → Iv Mc → Fr (fun a (_ : Int) => (a = 162)) M Mc → (0 ≤ x3 ∧ x3 ≤ 6) → 0 ≤ 32 * (100 + 6 - x3) + 2 → 32 * (100 + 6 - x3) + 2 < (n : Int) → J X B N 0 0 2 [(0, rv B 157), (1, rv B 159), (2, iv a), (3, iv x3)] [] Mc) ∧ (∀ (x3 x4 x5 : Int), ∀ (Mc : MM), I32 x3 → I32 x4 → I32 x5 → Iv Mc → Fr (fun a (_ : Int) => (a = 162)) M Mc → (0 ≤ x5 ∧ x5 ≤ 6 ∧ a - x5 ≤ x4 ∧ x4 ≤ a) → 0 ≤ 32 * (6 - x5) + 1 → 32 * (6 - x5) + 1 < (n : Int) → J X B N 0 0 35 [(0, rv B 157), (1, rv B 159), (2, iv a), (3, iv x3), (4, iv x4), (5, iv x5)] [] Mc) := by
    intro n
    induction n with
    | zero => exact ⟨by intros; exfalso; omega, by intros; exfalso; omega⟩
    | succ n ih =>
      refine ⟨?_, ?_⟩
      · intro x3 Mc hxx3 hI hF h2 hm0 hm1
        refine j_iload_n hX dX5_swapsTo_2 rfl 3 rfl ?_
        refine j_iload_n hX dX5_swapsTo_3 rfl 2 rfl ?_
        refine j_icmp_ge (tgt := 27) hX dX5_swapsTo_4 (by decide) (by omega) (by omega) (fun hc1 => ?_) (fun hc1 => ?_)
        · skip
          refine j_iconst hX dX5_swapsTo_27 ?_
          refine j_istore_n (lv' := [(3, _), (0, _), (1, _), (2, _)]) hX dX5_swapsTo_28 rfl (by rw [hnL]; decide) rfl ?_
          refine j_iload_n hX dX5_swapsTo_29 rfl 3 rfl ?_
          refine j_istore (lv' := [(4, _), (3, _), (0, _), (1, _), (2, _)]) hX dX5_swapsTo_30 (by rw [hnL]; decide) rfl ?_
          refine j_iconst hX dX5_swapsTo_32 ?_
          refine j_istore (lv' := [(5, _), (4, _), (3, _), (0, _), (1, _), (2, _)]) hX dX5_swapsTo_33 (by rw [hnL]; decide) rfl ?_
          refine j_sub [3, 4, 5, 2, 1, 0] rfl ?_
          exact ih.2 _ _ _ _ (by omega) (by omega) (by omega) hI hF (by first | assumption | omega) (by omega) (by omega)
        · skip
          refine j_aload_n hX dX5_swapsTo_7 rfl 0 rfl ?_
          refine gf_X5_25 hX (by omega) (by omega) kc_157 (fc_157_3 hI) (by decide) dX5_swapsTo_8 ?_
          refine j_iload_n hX dX5_swapsTo_11 rfl 3 rfl ?_
          refine j_aload_n hX dX5_swapsTo_12 rfl 0 rfl ?_
          refine gf_X5_28 hX (by omega) (by omega) kc_157 (fc_157_4 hI) (by decide) dX5_swapsTo_13 ?_
          refine j_aload_n hX dX5_swapsTo_16 rfl 1 rfl ?_
          refine j_iload_n hX dX5_swapsTo_17 rfl 3 rfl ?_
          refine j_iald hX (by omega) (by omega) kc_159 (by omega) (by omega) (by omega) dX5_swapsTo_18 ?_
          refine j_name hI (ra_159 _) (fun v2 hv3 hl4 hh5 => ?_)
          refine j_iald hX (by omega) (by omega) kc_163 (by omega) (by omega) (by omega) dX5_swapsTo_19 ?_
          refine j_name hI (ra_163 _) (fun v6 hv7 hl8 hh9 => ?_)
          refine j_iast hX (by omega) (by omega) kc_162 (by omega) (by omega) (by omega) (by omega) dX5_swapsTo_20 ?_
          refine j_up hI (ra_162 _) (by omega) (by omega) (Or.inl (by omega)) (fun M10 w11 hw12 hM13 hI14 hf15 => ?_)
          have hF16 := Fr.put hF hM13 (by omega)
          refine j_iinc (lv' := [(3, _), (0, _), (1, _), (2, _)]) hX dX5_swapsTo_21 3 rfl (by rw [hnL]; decide) rfl ?_
          refine j_goto (tgt := 2) hX dX5_swapsTo_24 (by decide) ?_
          refine j_sub [1, 2, 3, 0] rfl ?_
          exact ih.1 _ _ (by omega) hI14 hF16 (by first | assumption | omega) (by omega) (by omega)
      · intro x3 x4 x5 Mc hxx3 hxx4 hxx5 hI hF h2 hm0 hm1
        refine j_iload hX dX5_swapsTo_35 5 rfl ?_
        refine j_iload_n hX dX5_swapsTo_37 rfl 2 rfl ?_
        refine j_icmp_ge (tgt := 69) hX dX5_swapsTo_38 (by decide) (by omega) (by omega) (fun hc17 => ?_) (fun hc17 => ?_)
        · skip
          refine j_iload hX dX5_swapsTo_69 4 rfl ?_
          exact hret _ _ _ _ dX5_swapsTo_71 rfl (by omega) ⟨hI, hF⟩
        · skip
          refine j_iload_n hX dX5_swapsTo_41 rfl 3 rfl ?_
          refine j_iload hX dX5_swapsTo_42 5 rfl ?_
          refine j_ishr hX dX5_swapsTo_44 (fun z18 hz19 hy20 => ?_)
          refine j_iconst hX dX5_swapsTo_45 ?_
          refine j_iand hX dX5_swapsTo_46 (fun z21 hz22 hy23 => ?_)
          have ha24 := (and_f hz22 (by omega) (by omega)).2 (by omega)
          refine j_if_ne (tgt := 63) hX dX5_swapsTo_47 (by decide) (by omega) (fun hc25 => ?_) (fun hc25 => ?_)
          · skip
            refine j_iinc (lv' := [(5, _), (0, _), (1, _), (2, _), (3, _), (4, _)]) hX dX5_swapsTo_63 5 rfl (by rw [hnL]; decide) rfl ?_
            refine j_goto (tgt := 35) hX dX5_swapsTo_66 (by decide) ?_
            refine j_sub [1, 2, 3, 4, 5, 0] rfl ?_
            exact ih.2 _ _ _ _ (by omega) (by omega) (by omega) hI hF (by first | assumption | omega) (by omega) (by omega)
          · skip
            refine j_iinc (lv' := [(4, _), (0, _), (1, _), (2, _), (3, _), (5, _)]) hX dX5_swapsTo_50 4 rfl (by rw [hnL]; decide) rfl ?_
            refine j_iload_n hX dX5_swapsTo_53 rfl 4 rfl ?_
            refine j_aload_n hX dX5_swapsTo_54 rfl 1 rfl ?_
            refine j_iload hX dX5_swapsTo_55 5 rfl ?_
            refine j_iload_n hX dX5_swapsTo_57 rfl 3 rfl ?_
            refine j_callVI hX lk_X5_74 (c_X5_ringOf _ _ _ _ _ _ _ _ (by omega) hI (by omega) (by omega) (by first | assumption | omega)) (by omega) hce rfl rfl (by omega) (by omega) kc_157 rfl rfl (Nat.le_of_ble_eq_true rfl) dX5_swapsTo_58 (fun z26 M27 hz29 hp28 => ?_)
            subst hp28
            refine j_ior hX dX5_swapsTo_61 (fun z30 hz31 hy32 => ?_)
            refine j_istore_n (lv' := [(3, _), (4, _), (0, _), (1, _), (2, _), (5, _)]) hX dX5_swapsTo_62 rfl (by rw [hnL]; decide) rfl ?_
            refine j_iinc (lv' := [(5, _), (3, _), (4, _), (0, _), (1, _), (2, _)]) hX dX5_swapsTo_63 5 rfl (by rw [hnL]; decide) rfl ?_
            refine j_goto (tgt := 35) hX dX5_swapsTo_66 (by decide) ?_
            refine j_sub [3, 4, 5, 1, 2, 0] rfl ?_
            exact ih.2 _ _ _ _ (by omega) (by omega) (by omega) hI hF (by first | assumption | omega) (by omega) (by omega)
  show J X B N 0 0 0 [(0, rv B 157), (1, rv B 159), (2, iv a)] [] M
  refine j_iconst hX dX5_swapsTo_0 ?_
  refine j_istore_n (lv' := [(3, _), (0, _), (1, _), (2, _)]) hX dX5_swapsTo_1 rfl (by rw [hnL]; decide) rfl ?_
  refine j_sub [1, 2, 3, 0] rfl ?_
  refine (cp (Int.toNat (6464 + 1))).1 _ _ (by omega) hI hF (by first | assumption | omega) ?_ ?_
  · omega
  · omega
set_option maxHeartbeats 2000000 in
set_option maxRecDepth 20000 in
theorem c_X5_fairLots (l : Launch) (D : va_G) (cy : Nat → ClassId) (B N : Nat) (a : Int) (M : MM) (hN : 210 ≤ N) (hI : Iv M) (hpa : I32 a) (h1 : 0 ≤ a ∧ a ≤ 6) : CI l D cy B N 3 yX5_fairLots cX5_fairLots 5 (some .int) [rv B 157, iv a] M (fun z M' => Iv M' ∧ Fr (fun a (_ : Int) => (158 ≤ a ∧ a ≤ 159) ∨ (a = 161)) M M') := by
  refine mk_CI (by decide) (Nat.le_of_ble_eq_true rfl) ?_
  intro X exl exD excy hnL hX hret
  have hce : 0 + 0 ≤ (xR X).cells ∧ 0 + 0 ≤ (xR X).slots := ⟨Nat.zero_le _, Nat.zero_le _⟩
  have hF : Fr (fun a (_ : Int) => (158 ≤ a ∧ a ≤ 159) ∨ (a = 161)) M M := Fr.rf
  have cp : ∀ n : Nat, (∀ (x2 x3 x4 : Int), ∀ (Mc : MM), I32 x2 → I32 x3 → I32 x4 → Iv Mc → Fr (fun a (_ : Int) => (158 ≤ a ∧ a ≤ 159) ∨ (a = 161)) M Mc → (0 ≤ x4 ∧ 0 ≤ x2 ∧ x2 ≤ x4) → 0 ≤ 32 * (2147483648 - x4) + 1 → 32 * (2147483648 - x4) + 1 < (n : Int) → J X B N 0 0 19 [(0, rv B 157), (1, iv a), (2, iv x2), (3, iv x3), (4, iv x4)] [] Mc) := by
    intro n
    induction n with
    | zero => exact by intros; exfalso; omega
    | succ n ih =>
      · intro x2 x3 x4 Mc hxx2 hxx3 hxx4 hI hF h2 hm0 hm1
        refine j_iload hX dX5_fairLots_19 4 rfl ?_
        refine j_iload_n hX dX5_fairLots_21 rfl 3 rfl ?_
        refine j_icmp_ge (tgt := 55) hX dX5_fairLots_22 (by decide) (by omega) (by omega) (fun hc1 => ?_) (fun hc1 => ?_)
        · skip
          refine j_iload_n hX dX5_fairLots_55 rfl 2 rfl ?_
          exact hret _ _ _ _ dX5_fairLots_56 rfl (by omega) ⟨hI, hF⟩
        · skip
          refine j_aload_n hX dX5_fairLots_25 rfl 0 rfl ?_
          refine gf_X5_12 hX (by omega) (by omega) kc_157 (fc_157_0 hI) (by decide) dX5_fairLots_26 ?_
          refine j_aload_n hX dX5_fairLots_29 rfl 0 rfl ?_
          refine gf_X5_22 hX (by omega) (by omega) kc_157 (fc_157_2 hI) (by decide) dX5_fairLots_30 ?_
          refine j_callVI hX lk_X5_56 (c_X4_isAllowed _ _ _ _ _ 158 161 _ (by omega) hI (by omega) (by omega)) (by omega) hce rfl rfl (by omega) (by omega) kc_158 rfl rfl (Nat.le_of_ble_eq_true rfl) dX5_fairLots_33 (fun z2 M3 hz5 hp4 => ?_)
          obtain ⟨rfl, hb6⟩ := hp4
          refine j_if_eq (tgt := 42) hX dX5_fairLots_36 (by decide) (by omega) (fun hc7 => ?_) (fun hc7 => ?_)
          · skip
            refine j_aload_n hX dX5_fairLots_42 rfl 0 rfl ?_
            refine gf_X5_12 hX (by omega) (by omega) kc_157 (fc_157_0 hI) (by decide) dX5_fairLots_43 ?_
            refine j_callVV hX lk_X5_71 (c_X4_next _ _ _ _ _ 158 _ (by omega) hI (by omega)) (by omega) hce rfl rfl (by omega) (by omega) kc_158 rfl rfl (Nat.le_of_ble_eq_true rfl) dX5_fairLots_46 (fun M9 hp10 => ?_)
            obtain ⟨hI12, hG13⟩ := hp10
            have hF14 := Fr.trans hF hG13 (fun a b h => by omega)
            refine j_iinc (lv' := [(4, _), (0, _), (1, _), (2, _), (3, _)]) hX dX5_fairLots_49 4 rfl (by rw [hnL]; decide) rfl ?_
            refine j_goto (tgt := 19) hX dX5_fairLots_52 (by decide) ?_
            refine j_sub [1, 2, 3, 4, 0] rfl ?_
            exact ih _ _ _ _ (by omega) (by omega) (by omega) hI12 hF14 (by first | assumption | omega) (by omega) (by omega)
          · skip
            refine j_iinc (lv' := [(2, _), (0, _), (1, _), (3, _), (4, _)]) hX dX5_fairLots_39 2 rfl (by rw [hnL]; decide) rfl ?_
            refine j_aload_n hX dX5_fairLots_42 rfl 1 rfl ?_
            refine gf_X5_12 hX (by omega) (by omega) kc_157 (fc_157_0 hI) (by decide) dX5_fairLots_43 ?_
            refine j_callVV hX lk_X5_71 (c_X4_next _ _ _ _ _ 158 _ (by omega) hI (by omega)) (by omega) hce rfl rfl (by omega) (by omega) kc_158 rfl rfl (Nat.le_of_ble_eq_true rfl) dX5_fairLots_46 (fun M16 hp17 => ?_)
            obtain ⟨hI19, hG20⟩ := hp17
            have hF21 := Fr.trans hF hG20 (fun a b h => by omega)
            refine j_iinc (lv' := [(4, _), (2, _), (0, _), (1, _), (3, _)]) hX dX5_fairLots_49 4 rfl (by rw [hnL]; decide) rfl ?_
            refine j_goto (tgt := 19) hX dX5_fairLots_52 (by decide) ?_
            refine j_sub [2, 3, 1, 4, 0] rfl ?_
            exact ih _ _ _ _ (by omega) (by omega) (by omega) hI19 hF21 (by first | assumption | omega) (by omega) (by omega)
  show J X B N 0 0 0 [(0, rv B 157), (1, iv a)] [] M
  refine j_aload_n hX dX5_fairLots_0 rfl 0 rfl ?_
  refine j_iconst hX dX5_fairLots_1 ?_
  refine j_callVV hX lk_X5_37 (c_X5_allowAims _ _ _ _ _ _ _ (by omega) hI (by omega) (by first | assumption | omega)) (by omega) hce rfl rfl (by omega) (by omega) kc_157 rfl rfl (Nat.le_of_ble_eq_true rfl) dX5_fairLots_2 (fun M23 hp24 => ?_)
  obtain ⟨hI26, hG27⟩ := hp24
  have hF28 := Fr.trans hF hG27 (fun a b h => by omega)
  refine j_iconst hX dX5_fairLots_5 ?_
  refine j_istore_n (lv' := [(2, _), (0, _), (1, _)]) hX dX5_fairLots_6 rfl (by rw [hnL]; decide) rfl ?_
  refine j_aload_n hX dX5_fairLots_7 rfl 1 rfl ?_
  refine gf_X5_12 hX (by omega) (by omega) kc_157 (fc_157_0 hI26) (by decide) dX5_fairLots_8 ?_
  refine j_iload_n hX dX5_fairLots_11 rfl 2 rfl ?_
  refine j_callVI hX lk_X5_52 (c_X4_first _ _ _ _ _ 158 _ _ (by omega) hI26 (by omega) (by omega) (by first | assumption | omega)) (by omega) hce rfl rfl (by omega) (by omega) kc_158 rfl rfl (Nat.le_of_ble_eq_true rfl) dX5_fairLots_12 (fun z29 M30 hz32 hp31 => ?_)
  obtain ⟨hI33, hG34, hq35⟩ := hp31
  have hF36 := Fr.trans hF28 hG34 (fun a b h => by omega)
  refine j_istore_n (lv' := [(3, _), (2, _), (0, _), (1, _)]) hX dX5_fairLots_15 rfl (by rw [hnL]; decide) rfl ?_
  refine j_iconst hX dX5_fairLots_16 ?_
  refine j_istore (lv' := [(4, _), (3, _), (2, _), (0, _), (1, _)]) hX dX5_fairLots_17 (by rw [hnL]; decide) rfl ?_
  refine j_sub [3, 4, 2, 1, 0] rfl ?_
  refine (cp (Int.toNat (68719476800 + 1))) _ _ _ _ (by omega) (by omega) (by omega) hI33 hF36 (by first | assumption | omega) ?_ ?_
  · omega
  · omega
set_option maxHeartbeats 2000000 in
set_option maxRecDepth 20000 in
theorem c_X5_lotsThatPlease (l : Launch) (D : va_G) (cy : Nat → ClassId) (B N : Nat) (q : Int) (nr : Int) (a : Int) (M : MM) (hN : 210 ≤ N) (hI : Iv M) (hpa : I32 a) (hq : q = 5 ∨ q = 180) (hnr : M.1 q 0 = nr) (hnb : 0 ≤ nr ∧ nr ≤ 6) : CI l D cy B N 3 yX5_lotsThatPlease cX5_lotsThatPlease 8 (some .int) [rv B 157, rv B q, iv a] M (fun z M' => Iv M' ∧ Fr (fun a (_ : Int) => (158 ≤ a ∧ a ≤ 159)) M M') := by
  refine mk_CI (by decide) (Nat.le_of_ble_eq_true rfl) ?_
  intro X exl exD excy hnL hX hret
  have hce : 0 + 0 ≤ (xR X).cells ∧ 0 + 0 ≤ (xR X).slots := ⟨Nat.zero_le _, Nat.zero_le _⟩
  have hdq : 5 ≤ q ∧ q ≤ 180 := by omega
  have hF : Fr (fun a (_ : Int) => (158 ≤ a ∧ a ≤ 159)) M M := Fr.rf
  have cp : ∀ n : Nat, (∀ (x3 x4 x5 : Int), ∀ (Mc : MM), I32 x3 → I32 x4 → I32 x5 → Iv Mc → Fr (fun a (_ : Int) => (158 ≤ a ∧ a ≤ 159)) M Mc → Mc.1 q 0 = nr → (0 ≤ x5 ∧ 0 ≤ x3 ∧ x3 ≤ x5) → 0 ≤ 32 * ((2147483648 - x5) * 10 + 9) + 2 → 32 * ((2147483648 - x5) * 10 + 9) + 2 < (n : Int) → J X B N 0 0 18 [(0, rv B 157), (1, rv B q), (2, iv a), (3, iv x3), (4, iv x4), (5, iv x5)] [] Mc) ∧ (∀ (x3 x4 x5 x6 x7 : Int), ∀ (Mc : MM), I32 x3 → I32 x4 → I32 x5 → I32 x6 → I32 x7 → Iv Mc → Fr (fun a (_ : Int) => (158 ≤ a ∧ a ≤ 159)) M Mc → Mc.1 q 0 = nr → (0 ≤ x5 ∧ x5 < x4 ∧ 0 ≤ x3 ∧ x3 ≤ x5 ∧ 0 ≤ x7 ∧ x7 ≤ 6 ∧ 0 ≤ x6 ∧ x6 ≤ x7) → 0 ≤ 32 * ((2147483648 - x5) * 10 + 7 - x7) + 1 → 32 * ((2147483648 - x5) * 10 + 7 - x7) + 1 < (n : Int) → J X B N 0 0 31 [(0, rv B 157), (1, rv B q), (2, iv a), (3, iv x3), (4, iv x4), (5, iv x5), (6, iv x6), (7, iv x7)] [] Mc) := by
    intro n
    induction n with
    | zero => exact ⟨by intros; exfalso; omega, by intros; exfalso; omega⟩
    | succ n ih =>
      refine ⟨?_, ?_⟩
      · intro x3 x4 x5 Mc hxx3 hxx4 hxx5 hI hF hk_0 h2 hm0 hm1
        refine j_iload hX dX5_lotsThatPlease_18 5 rfl ?_
        refine j_iload hX dX5_lotsThatPlease_20 4 rfl ?_
        refine j_icmp_ge (tgt := 90) hX dX5_lotsThatPlease_22 (by decide) (by omega) (by omega) (fun hc1 => ?_) (fun hc1 => ?_)
        · skip
          refine j_iload_n hX dX5_lotsThatPlease_90 rfl 3 rfl ?_
          exact hret _ _ _ _ dX5_lotsThatPlease_91 rfl (by omega) ⟨hI, hF⟩
        · skip
          refine j_iconst hX dX5_lotsThatPlease_25 ?_
          refine j_istore (lv' := [(6, _), (0, _), (1, _), (2, _), (3, _), (4, _), (5, _)]) hX dX5_lotsThatPlease_26 (by rw [hnL]; decide) rfl ?_
          refine j_iconst hX dX5_lotsThatPlease_28 ?_
          refine j_istore (lv' := [(7, _), (6, _), (0, _), (1, _), (2, _), (3, _), (4, _), (5, _)]) hX dX5_lotsThatPlease_29 (by rw [hnL]; decide) rfl ?_
          refine j_sub [2, 3, 4, 5, 6, 7, 1, 0] rfl ?_
          exact ih.2 _ _ _ _ _ _ (by omega) (by omega) (by omega) (by omega) (by omega) hI hF hk_0 (by first | assumption | omega) (by omega) (by omega)
      · intro x3 x4 x5 x6 x7 Mc hxx3 hxx4 hxx5 hxx6 hxx7 hI hF hk_0 h2 hm0 hm1
        refine j_iload hX dX5_lotsThatPlease_31 7 rfl ?_
        refine j_aload_n hX dX5_lotsThatPlease_33 rfl 1 rfl ?_
        refine gf_X5_41 hX (by omega) (by omega) (kq hq) dX5_lotsThatPlease_34 ?_
        refine j_top hk_0 ?_
        refine j_icmp_ge (tgt := 68) hX dX5_lotsThatPlease_37 (by decide) (by omega) (by omega) (fun hc2 => ?_) (fun hc2 => ?_)
        · skip
          refine j_iload hX dX5_lotsThatPlease_68 6 rfl ?_
          refine j_iload_n hX dX5_lotsThatPlease_70 rfl 2 rfl ?_
          refine j_icmp_lt (tgt := 77) hX dX5_lotsThatPlease_71 (by decide) (by omega) (by omega) (fun hc3 => ?_) (fun hc3 => ?_)
          · skip
            refine j_aload_n hX dX5_lotsThatPlease_77 rfl 0 rfl ?_
            refine gf_X5_12 hX (by omega) (by omega) kc_157 (fc_157_0 hI) (by decide) dX5_lotsThatPlease_78 ?_
            refine j_callVV hX lk_X5_71 (c_X4_next _ _ _ _ _ 158 _ (by omega) hI (by omega)) (by omega) hce rfl rfl (by omega) (by omega) kc_158 rfl rfl (Nat.le_of_ble_eq_true rfl) dX5_lotsThatPlease_81 (fun M5 hp6 => ?_)
            obtain ⟨hI8, hG9⟩ := hp6
            have hk10 := kp_fr hG9 (by omega) hk_0
            have hF11 := Fr.trans hF hG9 (fun a b h => by omega)
            refine j_iinc (lv' := [(5, _), (0, _), (1, _), (2, _), (3, _), (4, _), (6, _), (7, _)]) hX dX5_lotsThatPlease_84 5 rfl (by rw [hnL]; decide) rfl ?_
            refine j_goto (tgt := 18) hX dX5_lotsThatPlease_87 (by decide) ?_
            refine j_sub [1, 2, 3, 4, 5, 0] rfl ?_
            exact ih.1 _ _ _ _ (by omega) (by omega) (by omega) hI8 hF11 hk10 (by first | assumption | omega) (by omega) (by omega)
          · skip
            refine j_iinc (lv' := [(3, _), (0, _), (1, _), (2, _), (4, _), (5, _), (6, _), (7, _)]) hX dX5_lotsThatPlease_74 3 rfl (by rw [hnL]; decide) rfl ?_
            refine j_aload_n hX dX5_lotsThatPlease_77 rfl 1 rfl ?_
            refine gf_X5_12 hX (by omega) (by omega) kc_157 (fc_157_0 hI) (by decide) dX5_lotsThatPlease_78 ?_
            refine j_callVV hX lk_X5_71 (c_X4_next _ _ _ _ _ 158 _ (by omega) hI (by omega)) (by omega) hce rfl rfl (by omega) (by omega) kc_158 rfl rfl (Nat.le_of_ble_eq_true rfl) dX5_lotsThatPlease_81 (fun M13 hp14 => ?_)
            obtain ⟨hI16, hG17⟩ := hp14
            have hk18 := kp_fr hG17 (by omega) hk_0
            have hF19 := Fr.trans hF hG17 (fun a b h => by omega)
            refine j_iinc (lv' := [(5, _), (3, _), (0, _), (1, _), (2, _), (4, _), (6, _), (7, _)]) hX dX5_lotsThatPlease_84 5 rfl (by rw [hnL]; decide) rfl ?_
            refine j_goto (tgt := 18) hX dX5_lotsThatPlease_87 (by decide) ?_
            refine j_sub [2, 3, 4, 1, 5, 0] rfl ?_
            exact ih.1 _ _ _ _ (by omega) (by omega) (by omega) hI16 hF19 hk18 (by first | assumption | omega) (by omega) (by omega)
        · skip
          refine j_aload_n hX dX5_lotsThatPlease_40 rfl 1 rfl ?_
          refine j_iload hX dX5_lotsThatPlease_41 7 rfl ?_
          refine j_aload_n hX dX5_lotsThatPlease_43 rfl 0 rfl ?_
          refine gf_X5_12 hX (by omega) (by omega) kc_157 (fc_157_0 hI) (by decide) dX5_lotsThatPlease_44 ?_
          refine gf_X5_60 hX (by omega) (by omega) kc_158 (fc_158_0 hI) (by decide) dX5_lotsThatPlease_47 ?_
          refine j_iload hX dX5_lotsThatPlease_50 7 rfl ?_
          refine j_iald hX (by omega) (by omega) kc_159 (by omega) (by omega) (by omega) dX5_lotsThatPlease_52 ?_
          refine j_name hI (ra_159 _) (fun v20 hv21 hl22 hh23 => ?_)
          refine j_callVI hX lk_X5_86 (c_X6_wantOf _ _ _ _ _ q _ _ _ (by omega) hI (by omega) (by omega) hq (by first | assumption | omega)) (by omega) hce rfl rfl (by omega) (by omega) (kq hq) rfl rfl (Nat.le_of_ble_eq_true rfl) dX5_lotsThatPlease_53 (fun z24 M25 hz27 hp26 => ?_)
          obtain ⟨rfl, hq28⟩ := hp26
          refine j_if_le (tgt := 62) hX dX5_lotsThatPlease_56 (by decide) (by omega) (fun hc29 => ?_) (fun hc29 => ?_)
          · skip
            refine j_iinc (lv' := [(7, _), (0, _), (1, _), (2, _), (3, _), (4, _), (5, _), (6, _)]) hX dX5_lotsThatPlease_62 7 rfl (by rw [hnL]; decide) rfl ?_
            refine j_goto (tgt := 31) hX dX5_lotsThatPlease_65 (by decide) ?_
            refine j_sub [1, 2, 3, 4, 5, 6, 7, 0] rfl ?_
            exact ih.2 _ _ _ _ _ _ (by omega) (by omega) (by omega) (by omega) (by omega) hI hF hk_0 (by first | assumption | omega) (by omega) (by omega)
          · skip
            refine j_iinc (lv' := [(6, _), (0, _), (1, _), (2, _), (3, _), (4, _), (5, _), (7, _)]) hX dX5_lotsThatPlease_59 6 rfl (by rw [hnL]; decide) rfl ?_
            refine j_iinc (lv' := [(7, _), (6, _), (0, _), (1, _), (2, _), (3, _), (4, _), (5, _)]) hX dX5_lotsThatPlease_62 7 rfl (by rw [hnL]; decide) rfl ?_
            refine j_goto (tgt := 31) hX dX5_lotsThatPlease_65 (by decide) ?_
            refine j_sub [2, 3, 4, 5, 6, 7, 1, 0] rfl ?_
            exact ih.2 _ _ _ _ _ _ (by omega) (by omega) (by omega) (by omega) (by omega) hI hF hk_0 (by first | assumption | omega) (by omega) (by omega)
  show J X B N 0 0 0 [(0, rv B 157), (1, rv B q), (2, iv a)] [] M
  refine j_iconst hX dX5_lotsThatPlease_0 ?_
  refine j_istore_n (lv' := [(3, _), (0, _), (1, _), (2, _)]) hX dX5_lotsThatPlease_1 rfl (by rw [hnL]; decide) rfl ?_
  refine j_aload_n hX dX5_lotsThatPlease_2 rfl 1 rfl ?_
  refine gf_X5_12 hX (by omega) (by omega) kc_157 (fc_157_0 hI) (by decide) dX5_lotsThatPlease_3 ?_
  refine j_aload_n hX dX5_lotsThatPlease_6 rfl 2 rfl ?_
  refine gf_X5_41 hX (by omega) (by omega) (kq hq) dX5_lotsThatPlease_7 ?_
  refine j_top hnr ?_
  refine j_callVI hX lk_X5_52 (c_X4_first _ _ _ _ _ 158 _ _ (by omega) hI (by omega) (by omega) (by first | assumption | omega)) (by omega) hce rfl rfl (by omega) (by omega) kc_158 rfl rfl (Nat.le_of_ble_eq_true rfl) dX5_lotsThatPlease_10 (fun z30 M31 hz33 hp32 => ?_)
  obtain ⟨hI34, hG35, hq36⟩ := hp32
  have hk37 := kp_fr hG35 (by omega) hnr
  have hF38 := Fr.trans hF hG35 (fun a b h => by omega)
  refine j_istore (lv' := [(4, _), (3, _), (0, _), (1, _), (2, _)]) hX dX5_lotsThatPlease_13 (by rw [hnL]; decide) rfl ?_
  refine j_iconst hX dX5_lotsThatPlease_15 ?_
  refine j_istore (lv' := [(5, _), (4, _), (3, _), (0, _), (1, _), (2, _)]) hX dX5_lotsThatPlease_16 (by rw [hnL]; decide) rfl ?_
  refine j_sub [3, 4, 5, 2, 1, 0] rfl ?_
  refine (cp (Int.toNat (960000000064 + 1))).1 _ _ _ _ (by omega) (by omega) (by omega) hI34 hF38 hk37 (by first | assumption | omega) ?_ ?_
  · omega
  · omega
set_option maxHeartbeats 2000000 in
set_option maxRecDepth 20000 in
theorem c_X5_bestLot (l : Launch) (D : va_G) (cy : Nat → ClassId) (B N : Nat) (q : Int) (nr : Int) (M : MM) (hN : 210 ≤ N) (hI : Iv M) (hq : q = 5 ∨ q = 180) (hnr : M.1 q 0 = nr) (hnb : 0 ≤ nr ∧ nr ≤ 6) : CI l D cy B N 3 yX5_bestLot cX5_bestLot 8 (some .int) [rv B 157, rv B q, rv B 179] M (fun z M' => Iv M' ∧ Fr (fun a (_ : Int) => (158 ≤ a ∧ a ≤ 159) ∨ (a = 179)) M M') := by
  refine mk_CI (by decide) (Nat.le_of_ble_eq_true rfl) ?_
  intro X exl exD excy hnL hX hret
  have hce : 0 + 0 ≤ (xR X).cells ∧ 0 + 0 ≤ (xR X).slots := ⟨Nat.zero_le _, Nat.zero_le _⟩
  have hdq : 5 ≤ q ∧ q ≤ 180 := by omega
  have hF : Fr (fun a (_ : Int) => (158 ≤ a ∧ a ≤ 159) ∨ (a = 179)) M M := Fr.rf
  have cp : ∀ n : Nat, (∀ (x3 x4 x5 : Int), ∀ (Mc : MM), I32 x3 → I32 x4 → I32 x5 → Iv Mc → Fr (fun a (_ : Int) => (158 ≤ a ∧ a ≤ 159) ∨ (a = 179)) M Mc → Mc.1 q 0 = nr → (0 ≤ x5) → 0 ≤ 32 * ((2147483648 - x5) * 10 + 9) + 2 → 32 * ((2147483648 - x5) * 10 + 9) + 2 < (n : Int) → J X B N 0 0 18 [(0, rv B 157), (1, rv B q), (2, rv B 179), (3, iv x3), (4, iv x4), (5, iv x5)] [] Mc) ∧ (∀ (x3 x4 x5 x6 x7 : Int), ∀ (Mc : MM), I32 x3 → I32 x4 → I32 x5 → I32 x6 → I32 x7 → Iv Mc → Fr (fun a (_ : Int) => (158 ≤ a ∧ a ≤ 159) ∨ (a = 179)) M Mc → Mc.1 q 0 = nr → (0 ≤ x5 ∧ x5 < x4 ∧ 0 ≤ x7 ∧ x7 ≤ 6) → 0 ≤ 32 * ((2147483648 - x5) * 10 + 7 - x7) + 1 → 32 * ((2147483648 - x5) * 10 + 7 - x7) + 1 < (n : Int) → J X B N 0 0 31 [(0, rv B 157), (1, rv B q), (2, rv B 179), (3, iv x3), (4, iv x4), (5, iv x5), (6, iv x6), (7, iv x7)] [] Mc) := by
    intro n
    induction n with
    | zero => exact ⟨by intros; exfalso; omega, by intros; exfalso; omega⟩
    | succ n ih =>
      refine ⟨?_, ?_⟩
      · intro x3 x4 x5 Mc hxx3 hxx4 hxx5 hI hF hk_0 h2 hm0 hm1
        refine j_iload hX dX5_bestLot_18 5 rfl ?_
        refine j_iload hX dX5_bestLot_20 4 rfl ?_
        refine j_icmp_ge (tgt := 97) hX dX5_bestLot_22 (by decide) (by omega) (by omega) (fun hc1 => ?_) (fun hc1 => ?_)
        · skip
          refine j_iload_n hX dX5_bestLot_97 rfl 3 rfl ?_
          exact hret _ _ _ _ dX5_bestLot_98 rfl (by omega) ⟨hI, hF⟩
        · skip
          refine j_iconst hX dX5_bestLot_25 ?_
          refine j_istore (lv' := [(6, _), (0, _), (1, _), (2, _), (3, _), (4, _), (5, _)]) hX dX5_bestLot_26 (by rw [hnL]; decide) rfl ?_
          refine j_iconst hX dX5_bestLot_28 ?_
          refine j_istore (lv' := [(7, _), (6, _), (0, _), (1, _), (2, _), (3, _), (4, _), (5, _)]) hX dX5_bestLot_29 (by rw [hnL]; decide) rfl ?_
          refine j_sub [2, 3, 4, 5, 6, 7, 1, 0] rfl ?_
          exact ih.2 _ _ _ _ _ _ (by omega) (by omega) (by omega) (by omega) (by omega) hI hF hk_0 (by first | assumption | omega) (by omega) (by omega)
      · intro x3 x4 x5 x6 x7 Mc hxx3 hxx4 hxx5 hxx6 hxx7 hI hF hk_0 h2 hm0 hm1
        refine j_iload hX dX5_bestLot_31 7 rfl ?_
        refine j_aload_n hX dX5_bestLot_33 rfl 1 rfl ?_
        refine gf_X5_41 hX (by omega) (by omega) (kq hq) dX5_bestLot_34 ?_
        refine j_top hk_0 ?_
        refine j_icmp_ge (tgt := 67) hX dX5_bestLot_37 (by decide) (by omega) (by omega) (fun hc2 => ?_) (fun hc2 => ?_)
        · skip
          refine j_iload hX dX5_bestLot_67 6 rfl ?_
          refine j_iload_n hX dX5_bestLot_69 rfl 3 rfl ?_
          refine j_icmp_le (tgt := 84) hX dX5_bestLot_70 (by decide) (by omega) (by omega) (fun hc3 => ?_) (fun hc3 => ?_)
          · skip
            refine j_aload_n hX dX5_bestLot_84 rfl 0 rfl ?_
            refine gf_X5_12 hX (by omega) (by omega) kc_157 (fc_157_0 hI) (by decide) dX5_bestLot_85 ?_
            refine j_callVV hX lk_X5_71 (c_X4_next _ _ _ _ _ 158 _ (by omega) hI (by omega)) (by omega) hce rfl rfl (by omega) (by omega) kc_158 rfl rfl (Nat.le_of_ble_eq_true rfl) dX5_bestLot_88 (fun M5 hp6 => ?_)
            obtain ⟨hI8, hG9⟩ := hp6
            have hk10 := kp_fr hG9 (by omega) hk_0
            have hF11 := Fr.trans hF hG9 (fun a b h => by omega)
            refine j_iinc (lv' := [(5, _), (0, _), (1, _), (2, _), (3, _), (4, _), (6, _), (7, _)]) hX dX5_bestLot_91 5 rfl (by rw [hnL]; decide) rfl ?_
            refine j_goto (tgt := 18) hX dX5_bestLot_94 (by decide) ?_
            refine j_sub [1, 2, 3, 4, 5, 0] rfl ?_
            exact ih.1 _ _ _ _ (by omega) (by omega) (by omega) hI8 hF11 hk10 (by first | assumption | omega) (by omega) (by omega)
          · skip
            refine j_iload hX dX5_bestLot_73 6 rfl ?_
            refine j_istore_n (lv' := [(3, _), (0, _), (1, _), (2, _), (4, _), (5, _), (6, _), (7, _)]) hX dX5_bestLot_75 rfl (by rw [hnL]; decide) rfl ?_
            refine j_aload_n hX dX5_bestLot_76 rfl 1 rfl ?_
            refine gf_X5_12 hX (by omega) (by omega) kc_157 (fc_157_0 hI) (by decide) dX5_bestLot_77 ?_
            refine j_aload_n hX dX5_bestLot_80 rfl 3 rfl ?_
            refine j_callVV hX lk_X5_67 (c_X4_copyTo _ _ _ _ _ 158 _ (by omega) hI (by omega)) (by omega) hce rfl rfl (by omega) (by omega) kc_158 rfl rfl (Nat.le_of_ble_eq_true rfl) dX5_bestLot_81 (fun M13 hp14 => ?_)
            obtain ⟨hI16, hG17⟩ := hp14
            have hk18 := kp_fr hG17 (by omega) hk_0
            have hF19 := Fr.trans hF hG17 (fun a b h => by omega)
            refine j_aload_n hX dX5_bestLot_84 rfl 1 rfl ?_
            refine gf_X5_12 hX (by omega) (by omega) kc_157 (fc_157_0 hI16) (by decide) dX5_bestLot_85 ?_
            refine j_callVV hX lk_X5_71 (c_X4_next _ _ _ _ _ 158 _ (by omega) hI16 (by omega)) (by omega) hce rfl rfl (by omega) (by omega) kc_158 rfl rfl (Nat.le_of_ble_eq_true rfl) dX5_bestLot_88 (fun M21 hp22 => ?_)
            obtain ⟨hI24, hG25⟩ := hp22
            have hk26 := kp_fr hG25 (by omega) hk18
            clear hk18
            have hF27 := Fr.trans hF19 hG25 (fun a b h => by omega)
            refine j_iinc (lv' := [(5, _), (3, _), (0, _), (1, _), (2, _), (4, _), (6, _), (7, _)]) hX dX5_bestLot_91 5 rfl (by rw [hnL]; decide) rfl ?_
            refine j_goto (tgt := 18) hX dX5_bestLot_94 (by decide) ?_
            refine j_sub [2, 3, 4, 1, 5, 0] rfl ?_
            exact ih.1 _ _ _ _ (by omega) (by omega) (by omega) hI24 hF27 hk26 (by first | assumption | omega) (by omega) (by omega)
        · skip
          refine j_iload hX dX5_bestLot_40 6 rfl ?_
          refine j_aload_n hX dX5_bestLot_42 rfl 1 rfl ?_
          refine j_iload hX dX5_bestLot_43 7 rfl ?_
          refine j_aload_n hX dX5_bestLot_45 rfl 0 rfl ?_
          refine gf_X5_12 hX (by omega) (by omega) kc_157 (fc_157_0 hI) (by decide) dX5_bestLot_46 ?_
          refine gf_X5_60 hX (by omega) (by omega) kc_158 (fc_158_0 hI) (by decide) dX5_bestLot_49 ?_
          refine j_iload hX dX5_bestLot_52 7 rfl ?_
          refine j_iald hX (by omega) (by omega) kc_159 (by omega) (by omega) (by omega) dX5_bestLot_54 ?_
          refine j_name hI (ra_159 _) (fun v28 hv29 hl30 hh31 => ?_)
          refine j_callVI hX lk_X5_86 (c_X6_wantOf _ _ _ _ _ q _ _ _ (by omega) hI (by omega) (by omega) hq (by first | assumption | omega)) (by omega) hce rfl rfl (by omega) (by omega) (kq hq) rfl rfl (Nat.le_of_ble_eq_true rfl) dX5_bestLot_55 (fun z32 M33 hz35 hp34 => ?_)
          obtain ⟨rfl, hq36⟩ := hp34
          refine j_iadd hX dX5_bestLot_58 ?_
          refine j_norm (fun z37 hz38 hy39 => ?_)
          refine j_istore (lv' := [(6, _), (0, _), (1, _), (2, _), (3, _), (4, _), (5, _), (7, _)]) hX dX5_bestLot_59 (by rw [hnL]; decide) rfl ?_
          refine j_iinc (lv' := [(7, _), (6, _), (0, _), (1, _), (2, _), (3, _), (4, _), (5, _)]) hX dX5_bestLot_61 7 rfl (by rw [hnL]; decide) rfl ?_
          refine j_goto (tgt := 31) hX dX5_bestLot_64 (by decide) ?_
          refine j_sub [2, 3, 4, 5, 6, 7, 1, 0] rfl ?_
          exact ih.2 _ _ _ _ _ _ (by omega) (by omega) (by omega) (by omega) (by omega) hI hF hk_0 (by first | assumption | omega) (by omega) (by omega)
  show J X B N 0 0 0 [(0, rv B 157), (1, rv B q), (2, rv B 179)] [] M
  refine j_iconst hX dX5_bestLot_0 ?_
  refine j_istore_n (lv' := [(3, _), (0, _), (1, _), (2, _)]) hX dX5_bestLot_1 rfl (by rw [hnL]; decide) rfl ?_
  refine j_aload_n hX dX5_bestLot_2 rfl 1 rfl ?_
  refine gf_X5_12 hX (by omega) (by omega) kc_157 (fc_157_0 hI) (by decide) dX5_bestLot_3 ?_
  refine j_aload_n hX dX5_bestLot_6 rfl 2 rfl ?_
  refine gf_X5_41 hX (by omega) (by omega) (kq hq) dX5_bestLot_7 ?_
  refine j_top hnr ?_
  refine j_callVI hX lk_X5_52 (c_X4_first _ _ _ _ _ 158 _ _ (by omega) hI (by omega) (by omega) (by first | assumption | omega)) (by omega) hce rfl rfl (by omega) (by omega) kc_158 rfl rfl (Nat.le_of_ble_eq_true rfl) dX5_bestLot_10 (fun z40 M41 hz43 hp42 => ?_)
  obtain ⟨hI44, hG45, hq46⟩ := hp42
  have hk47 := kp_fr hG45 (by omega) hnr
  have hF48 := Fr.trans hF hG45 (fun a b h => by omega)
  refine j_istore (lv' := [(4, _), (3, _), (0, _), (1, _), (2, _)]) hX dX5_bestLot_13 (by rw [hnL]; decide) rfl ?_
  refine j_iconst hX dX5_bestLot_15 ?_
  refine j_istore (lv' := [(5, _), (4, _), (3, _), (0, _), (1, _), (2, _)]) hX dX5_bestLot_16 (by rw [hnL]; decide) rfl ?_
  refine j_sub [3, 4, 5, 2, 1, 0] rfl ?_
  refine (cp (Int.toNat (960000000064 + 1))).1 _ _ _ _ (by omega) (by omega) (by omega) hI44 hF48 hk47 (by first | assumption | omega) ?_ ?_
  · omega
  · omega
