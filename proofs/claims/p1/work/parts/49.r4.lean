theorem dX11_many_0 : decode cX11_many 0 = .ok (.aload_n 0, 1) := by decide +kernel
theorem dX11_many_1 : decode cX11_many 1 = .ok (.getfield 20, 3) := by decide +kernel
theorem dX11_many_4 : decode cX11_many 4 = .ok (.aload_n 0, 1) := by decide +kernel
theorem dX11_many_5 : decode cX11_many 5 = .ok (.getfield 279, 3) := by decide +kernel
theorem dX11_many_8 : decode cX11_many 8 = .ok (.iaload, 1) := by decide +kernel
theorem dX11_many_9 : decode cX11_many 9 = .ok (.ireturn, 1) := by decide +kernel
theorem dX11_isRoom_0 : decode cX11_isRoom 0 = .ok (.iload_n 1, 1) := by decide +kernel
theorem dX11_isRoom_1 : decode cX11_isRoom 1 = .ok (.iconst 0, 1) := by decide +kernel
theorem dX11_isRoom_2 : decode cX11_isRoom 2 = .ok (.aload_n 0, 1) := by decide +kernel
theorem dX11_isRoom_3 : decode cX11_isRoom 3 = .ok (.invokevirtual 385, 3) := by decide +kernel
theorem dX11_isRoom_6 : decode cX11_isRoom 6 = .ok (.iconst 1, 1) := by decide +kernel
theorem dX11_isRoom_7 : decode cX11_isRoom 7 = .ok (.isub, 1) := by decide +kernel
theorem dX11_isRoom_8 : decode cX11_isRoom 8 = .ok (.invokestatic 388, 3) := by decide +kernel
theorem dX11_isRoom_11 : decode cX11_isRoom 11 = .ok (.ireturn, 1) := by decide +kernel
theorem dX11_isFact_0 : decode cX11_isFact 0 = .ok (.iload_n 1, 1) := by decide +kernel
theorem dX11_isFact_1 : decode cX11_isFact 1 = .ok (.iconst 0, 1) := by decide +kernel
theorem dX11_isFact_2 : decode cX11_isFact 2 = .ok (.aload_n 0, 1) := by decide +kernel
theorem dX11_isFact_3 : decode cX11_isFact 3 = .ok (.getfield 24, 3) := by decide +kernel
theorem dX11_isFact_6 : decode cX11_isFact 6 = .ok (.aload_n 0, 1) := by decide +kernel
theorem dX11_isFact_7 : decode cX11_isFact 7 = .ok (.getfield 279, 3) := by decide +kernel
theorem dX11_isFact_10 : decode cX11_isFact 10 = .ok (.iaload, 1) := by decide +kernel
theorem dX11_isFact_11 : decode cX11_isFact 11 = .ok (.iconst 1, 1) := by decide +kernel
theorem dX11_isFact_12 : decode cX11_isFact 12 = .ok (.isub, 1) := by decide +kernel
theorem dX11_isFact_13 : decode cX11_isFact 13 = .ok (.invokestatic 388, 3) := by decide +kernel
theorem dX11_isFact_16 : decode cX11_isFact 16 = .ok (.ireturn, 1) := by decide +kernel
theorem dX11_wantBy_0 : decode cX11_wantBy 0 = .ok (.aload_n 0, 1) := by decide +kernel
theorem dX11_wantBy_1 : decode cX11_wantBy 1 = .ok (.getfield 63, 3) := by decide +kernel
theorem dX11_wantBy_4 : decode cX11_wantBy 4 = .ok (.bipush 6, 2) := by decide +kernel
theorem dX11_wantBy_6 : decode cX11_wantBy 6 = .ok (.bipush 6, 2) := by decide +kernel
theorem dX11_wantBy_8 : decode cX11_wantBy 8 = .ok (.aload_n 0, 1) := by decide +kernel
theorem dX11_wantBy_9 : decode cX11_wantBy 9 = .ok (.getfield 279, 3) := by decide +kernel
theorem dX11_wantBy_12 : decode cX11_wantBy 12 = .ok (.imul, 1) := by decide +kernel
theorem dX11_wantBy_13 : decode cX11_wantBy 13 = .ok (.iload_n 1, 1) := by decide +kernel
theorem dX11_wantBy_14 : decode cX11_wantBy 14 = .ok (.iadd, 1) := by decide +kernel
theorem dX11_wantBy_15 : decode cX11_wantBy 15 = .ok (.imul, 1) := by decide +kernel
theorem dX11_wantBy_16 : decode cX11_wantBy 16 = .ok (.iload_n 2, 1) := by decide +kernel
theorem dX11_wantBy_17 : decode cX11_wantBy 17 = .ok (.iadd, 1) := by decide +kernel
theorem dX11_wantBy_18 : decode cX11_wantBy 18 = .ok (.iaload, 1) := by decide +kernel
theorem dX11_wantBy_19 : decode cX11_wantBy 19 = .ok (.ireturn, 1) := by decide +kernel
theorem dX11_factsOf_0 : decode cX11_factsOf 0 = .ok (.iconst 0, 1) := by decide +kernel
theorem dX11_factsOf_1 : decode cX11_factsOf 1 = .ok (.istore_n 2, 1) := by decide +kernel
theorem dX11_factsOf_2 : decode cX11_factsOf 2 = .ok (.iconst 0, 1) := by decide +kernel
theorem dX11_factsOf_3 : decode cX11_factsOf 3 = .ok (.istore_n 3, 1) := by decide +kernel
theorem dX11_factsOf_4 : decode cX11_factsOf 4 = .ok (.iload_n 3, 1) := by decide +kernel
theorem dX11_factsOf_5 : decode cX11_factsOf 5 = .ok (.aload_n 0, 1) := by decide +kernel
theorem dX11_factsOf_6 : decode cX11_factsOf 6 = .ok (.getfield 24, 3) := by decide +kernel
theorem dX11_factsOf_9 : decode cX11_factsOf 9 = .ok (.aload_n 0, 1) := by decide +kernel
theorem dX11_factsOf_10 : decode cX11_factsOf 10 = .ok (.getfield 279, 3) := by decide +kernel
theorem dX11_factsOf_13 : decode cX11_factsOf 13 = .ok (.iaload, 1) := by decide +kernel
theorem dX11_factsOf_14 : decode cX11_factsOf 14 = .ok (.if_icmp .ge 33, 3) := by decide +kernel
theorem dX11_factsOf_17 : decode cX11_factsOf 17 = .ok (.aload_n 0, 1) := by decide +kernel
theorem dX11_factsOf_18 : decode cX11_factsOf 18 = .ok (.getfield 51, 3) := by decide +kernel
theorem dX11_factsOf_21 : decode cX11_factsOf 21 = .ok (.bipush 10, 2) := by decide +kernel
theorem dX11_factsOf_23 : decode cX11_factsOf 23 = .ok (.aload_n 0, 1) := by decide +kernel
theorem dX11_factsOf_24 : decode cX11_factsOf 24 = .ok (.getfield 279, 3) := by decide +kernel
theorem dX11_factsOf_27 : decode cX11_factsOf 27 = .ok (.imul, 1) := by decide +kernel
theorem dX11_factsOf_28 : decode cX11_factsOf 28 = .ok (.iload_n 3, 1) := by decide +kernel
theorem dX11_factsOf_29 : decode cX11_factsOf 29 = .ok (.iadd, 1) := by decide +kernel
theorem dX11_factsOf_30 : decode cX11_factsOf 30 = .ok (.iaload, 1) := by decide +kernel
theorem dX11_factsOf_31 : decode cX11_factsOf 31 = .ok (.iload_n 1, 1) := by decide +kernel
theorem dX11_factsOf_32 : decode cX11_factsOf 32 = .ok (.if_icmp .ne 9, 3) := by decide +kernel
theorem dX11_factsOf_35 : decode cX11_factsOf 35 = .ok (.iload_n 2, 1) := by decide +kernel
theorem dX11_factsOf_36 : decode cX11_factsOf 36 = .ok (.iconst 1, 1) := by decide +kernel
theorem dX11_factsOf_37 : decode cX11_factsOf 37 = .ok (.iload_n 3, 1) := by decide +kernel
theorem dX11_factsOf_38 : decode cX11_factsOf 38 = .ok (.ishl, 1) := by decide +kernel
theorem dX11_factsOf_39 : decode cX11_factsOf 39 = .ok (.ior, 1) := by decide +kernel
theorem dX11_factsOf_40 : decode cX11_factsOf 40 = .ok (.istore_n 2, 1) := by decide +kernel
theorem dX11_factsOf_41 : decode cX11_factsOf 41 = .ok (.iinc 3 1, 3) := by decide +kernel
theorem dX11_factsOf_44 : decode cX11_factsOf 44 = .ok (.goto (-40), 3) := by decide +kernel
theorem dX11_factsOf_47 : decode cX11_factsOf 47 = .ok (.iload_n 2, 1) := by decide +kernel
theorem dX11_factsOf_48 : decode cX11_factsOf 48 = .ok (.ireturn, 1) := by decide +kernel
theorem dX11_isDarkAt_0 : decode cX11_isDarkAt 0 = .ok (.aload_n 0, 1) := by decide +kernel
theorem dX11_isDarkAt_1 : decode cX11_isDarkAt 1 = .ok (.getfield 82, 3) := by decide +kernel
theorem dX11_isDarkAt_4 : decode cX11_isDarkAt 4 = .ok (.aload_n 0, 1) := by decide +kernel
theorem dX11_isDarkAt_5 : decode cX11_isDarkAt 5 = .ok (.getfield 279, 3) := by decide +kernel
theorem dX11_isDarkAt_8 : decode cX11_isDarkAt 8 = .ok (.baload, 1) := by decide +kernel
theorem dX11_isDarkAt_9 : decode cX11_isDarkAt 9 = .ok (.ifCond .ne 5, 3) := by decide +kernel
theorem dX11_isDarkAt_12 : decode cX11_isDarkAt 12 = .ok (.iconst 0, 1) := by decide +kernel
theorem dX11_isDarkAt_13 : decode cX11_isDarkAt 13 = .ok (.ireturn, 1) := by decide +kernel
theorem dX11_isDarkAt_14 : decode cX11_isDarkAt 14 = .ok (.aload_n 0, 1) := by decide +kernel
theorem dX11_isDarkAt_15 : decode cX11_isDarkAt 15 = .ok (.getfield 39, 3) := by decide +kernel
theorem dX11_isDarkAt_18 : decode cX11_isDarkAt 18 = .ok (.aload_n 0, 1) := by decide +kernel
theorem dX11_isDarkAt_19 : decode cX11_isDarkAt 19 = .ok (.getfield 279, 3) := by decide +kernel
theorem dX11_isDarkAt_22 : decode cX11_isDarkAt 22 = .ok (.iaload, 1) := by decide +kernel
theorem dX11_isDarkAt_23 : decode cX11_isDarkAt 23 = .ok (.istore_n 2, 1) := by decide +kernel
theorem dX11_isDarkAt_24 : decode cX11_isDarkAt 24 = .ok (.aload_n 0, 1) := by decide +kernel
theorem dX11_isDarkAt_25 : decode cX11_isDarkAt 25 = .ok (.getfield 42, 3) := by decide +kernel
theorem dX11_isDarkAt_28 : decode cX11_isDarkAt 28 = .ok (.aload_n 0, 1) := by decide +kernel
theorem dX11_isDarkAt_29 : decode cX11_isDarkAt 29 = .ok (.getfield 279, 3) := by decide +kernel
theorem dX11_isDarkAt_32 : decode cX11_isDarkAt 32 = .ok (.iaload, 1) := by decide +kernel
theorem dX11_isDarkAt_33 : decode cX11_isDarkAt 33 = .ok (.istore_n 3, 1) := by decide +kernel
theorem dX11_isDarkAt_34 : decode cX11_isDarkAt 34 = .ok (.iload_n 2, 1) := by decide +kernel
theorem dX11_isDarkAt_35 : decode cX11_isDarkAt 35 = .ok (.iload_n 3, 1) := by decide +kernel
theorem dX11_isDarkAt_36 : decode cX11_isDarkAt 36 = .ok (.if_icmp .gt 21, 3) := by decide +kernel
theorem dX11_isDarkAt_39 : decode cX11_isDarkAt 39 = .ok (.iload_n 1, 1) := by decide +kernel
theorem dX11_isDarkAt_40 : decode cX11_isDarkAt 40 = .ok (.iload_n 2, 1) := by decide +kernel
theorem dX11_isDarkAt_41 : decode cX11_isDarkAt 41 = .ok (.if_icmp .lt 12, 3) := by decide +kernel
theorem dX11_isDarkAt_44 : decode cX11_isDarkAt 44 = .ok (.iload_n 1, 1) := by decide +kernel
theorem dX11_isDarkAt_45 : decode cX11_isDarkAt 45 = .ok (.iload_n 3, 1) := by decide +kernel
theorem dX11_isDarkAt_46 : decode cX11_isDarkAt 46 = .ok (.if_icmp .gt 7, 3) := by decide +kernel
theorem dX11_isDarkAt_49 : decode cX11_isDarkAt 49 = .ok (.iconst 1, 1) := by decide +kernel
theorem dX11_isDarkAt_50 : decode cX11_isDarkAt 50 = .ok (.goto 22, 3) := by decide +kernel
theorem dX11_isDarkAt_53 : decode cX11_isDarkAt 53 = .ok (.iconst 0, 1) := by decide +kernel
theorem dX11_isDarkAt_54 : decode cX11_isDarkAt 54 = .ok (.goto 18, 3) := by decide +kernel
theorem dX11_isDarkAt_57 : decode cX11_isDarkAt 57 = .ok (.iload_n 1, 1) := by decide +kernel
theorem dX11_isDarkAt_58 : decode cX11_isDarkAt 58 = .ok (.iload_n 2, 1) := by decide +kernel
theorem dX11_isDarkAt_59 : decode cX11_isDarkAt 59 = .ok (.if_icmp .ge 8, 3) := by decide +kernel
theorem dX11_isDarkAt_62 : decode cX11_isDarkAt 62 = .ok (.iload_n 1, 1) := by decide +kernel
theorem dX11_isDarkAt_63 : decode cX11_isDarkAt 63 = .ok (.iload_n 3, 1) := by decide +kernel
theorem dX11_isDarkAt_64 : decode cX11_isDarkAt 64 = .ok (.if_icmp .gt 7, 3) := by decide +kernel
theorem dX11_isDarkAt_67 : decode cX11_isDarkAt 67 = .ok (.iconst 1, 1) := by decide +kernel
theorem dX11_isDarkAt_68 : decode cX11_isDarkAt 68 = .ok (.goto 4, 3) := by decide +kernel
theorem dX11_isDarkAt_71 : decode cX11_isDarkAt 71 = .ok (.iconst 0, 1) := by decide +kernel
theorem dX11_isDarkAt_72 : decode cX11_isDarkAt 72 = .ok (.ireturn, 1) := by decide +kernel
theorem dX11_doesSee_0 : decode cX11_doesSee 0 = .ok (.aload_n 0, 1) := by decide +kernel
theorem dX11_doesSee_1 : decode cX11_doesSee 1 = .ok (.getfield 110, 3) := by decide +kernel
theorem dX11_doesSee_4 : decode cX11_doesSee 4 = .ok (.bipush 6, 2) := by decide +kernel
theorem dX11_doesSee_6 : decode cX11_doesSee 6 = .ok (.iaload, 1) := by decide +kernel
theorem dX11_doesSee_7 : decode cX11_doesSee 7 = .ok (.aload_n 0, 1) := by decide +kernel
theorem dX11_doesSee_8 : decode cX11_doesSee 8 = .ok (.getfield 110, 3) := by decide +kernel
theorem dX11_doesSee_11 : decode cX11_doesSee 11 = .ok (.iconst 0, 1) := by decide +kernel
theorem dX11_doesSee_12 : decode cX11_doesSee 12 = .ok (.iload_n 1, 1) := by decide +kernel
theorem dX11_doesSee_13 : decode cX11_doesSee 13 = .ok (.iadd, 1) := by decide +kernel
theorem dX11_doesSee_14 : decode cX11_doesSee 14 = .ok (.iaload, 1) := by decide +kernel
theorem dX11_doesSee_15 : decode cX11_doesSee 15 = .ok (.invokestatic 368, 3) := by decide +kernel
theorem dX11_doesSee_18 : decode cX11_doesSee 18 = .ok (.ifCond .ne 7, 3) := by decide +kernel
theorem dX11_doesSee_21 : decode cX11_doesSee 21 = .ok (.iconst 1, 1) := by decide +kernel
theorem dX11_doesSee_22 : decode cX11_doesSee 22 = .ok (.goto 4, 3) := by decide +kernel
theorem dX11_doesSee_25 : decode cX11_doesSee 25 = .ok (.iconst 0, 1) := by decide +kernel
theorem dX11_doesSee_26 : decode cX11_doesSee 26 = .ok (.ireturn, 1) := by decide +kernel
theorem dX11_factsNow_0 : decode cX11_factsNow 0 = .ok (.iconst 0, 1) := by decide +kernel
theorem dX11_factsNow_1 : decode cX11_factsNow 1 = .ok (.istore_n 2, 1) := by decide +kernel
theorem dX11_factsNow_2 : decode cX11_factsNow 2 = .ok (.aload_n 0, 1) := by decide +kernel
theorem dX11_factsNow_3 : decode cX11_factsNow 3 = .ok (.aload_n 0, 1) := by decide +kernel
theorem dX11_factsNow_4 : decode cX11_factsNow 4 = .ok (.getfield 110, 3) := by decide +kernel
theorem dX11_factsNow_7 : decode cX11_factsNow 7 = .ok (.bipush 13, 2) := by decide +kernel
theorem dX11_factsNow_9 : decode cX11_factsNow 9 = .ok (.iaload, 1) := by decide +kernel
theorem dX11_factsNow_10 : decode cX11_factsNow 10 = .ok (.invokevirtual 410, 3) := by decide +kernel
theorem dX11_factsNow_13 : decode cX11_factsNow 13 = .ok (.istore_n 3, 1) := by decide +kernel
theorem dX11_factsNow_14 : decode cX11_factsNow 14 = .ok (.iconst 0, 1) := by decide +kernel
theorem dX11_factsNow_15 : decode cX11_factsNow 15 = .ok (.istore 4, 2) := by decide +kernel
theorem dX11_factsNow_17 : decode cX11_factsNow 17 = .ok (.iload 4, 2) := by decide +kernel
theorem dX11_factsNow_19 : decode cX11_factsNow 19 = .ok (.aload_n 0, 1) := by decide +kernel
theorem dX11_factsNow_20 : decode cX11_factsNow 20 = .ok (.getfield 24, 3) := by decide +kernel
theorem dX11_factsNow_23 : decode cX11_factsNow 23 = .ok (.aload_n 0, 1) := by decide +kernel
theorem dX11_factsNow_24 : decode cX11_factsNow 24 = .ok (.getfield 279, 3) := by decide +kernel
theorem dX11_factsNow_27 : decode cX11_factsNow 27 = .ok (.iaload, 1) := by decide +kernel
theorem dX11_factsNow_28 : decode cX11_factsNow 28 = .ok (.if_icmp .ge 81, 3) := by decide +kernel
theorem dX11_factsNow_31 : decode cX11_factsNow 31 = .ok (.aload_n 0, 1) := by decide +kernel
theorem dX11_factsNow_32 : decode cX11_factsNow 32 = .ok (.getfield 51, 3) := by decide +kernel
theorem dX11_factsNow_35 : decode cX11_factsNow 35 = .ok (.bipush 10, 2) := by decide +kernel
theorem dX11_factsNow_37 : decode cX11_factsNow 37 = .ok (.aload_n 0, 1) := by decide +kernel
theorem dX11_factsNow_38 : decode cX11_factsNow 38 = .ok (.getfield 279, 3) := by decide +kernel
theorem dX11_factsNow_41 : decode cX11_factsNow 41 = .ok (.imul, 1) := by decide +kernel
theorem dX11_factsNow_42 : decode cX11_factsNow 42 = .ok (.iload 4, 2) := by decide +kernel
theorem dX11_factsNow_44 : decode cX11_factsNow 44 = .ok (.iadd, 1) := by decide +kernel
theorem dX11_factsNow_45 : decode cX11_factsNow 45 = .ok (.iaload, 1) := by decide +kernel
theorem dX11_factsNow_46 : decode cX11_factsNow 46 = .ok (.iload_n 1, 1) := by decide +kernel
theorem dX11_factsNow_47 : decode cX11_factsNow 47 = .ok (.if_icmp .ne 56, 3) := by decide +kernel
theorem dX11_factsNow_50 : decode cX11_factsNow 50 = .ok (.aload_n 0, 1) := by decide +kernel
theorem dX11_factsNow_51 : decode cX11_factsNow 51 = .ok (.getfield 54, 3) := by decide +kernel
theorem dX11_factsNow_54 : decode cX11_factsNow 54 = .ok (.bipush 10, 2) := by decide +kernel
theorem dX11_factsNow_56 : decode cX11_factsNow 56 = .ok (.aload_n 0, 1) := by decide +kernel
theorem dX11_factsNow_57 : decode cX11_factsNow 57 = .ok (.getfield 279, 3) := by decide +kernel
theorem dX11_factsNow_60 : decode cX11_factsNow 60 = .ok (.imul, 1) := by decide +kernel
theorem dX11_factsNow_61 : decode cX11_factsNow 61 = .ok (.iload 4, 2) := by decide +kernel
theorem dX11_factsNow_63 : decode cX11_factsNow 63 = .ok (.iadd, 1) := by decide +kernel
theorem dX11_factsNow_64 : decode cX11_factsNow 64 = .ok (.iaload, 1) := by decide +kernel
theorem dX11_factsNow_65 : decode cX11_factsNow 65 = .ok (.aload_n 0, 1) := by decide +kernel
theorem dX11_factsNow_66 : decode cX11_factsNow 66 = .ok (.getfield 110, 3) := by decide +kernel
theorem dX11_factsNow_69 : decode cX11_factsNow 69 = .ok (.bipush 13, 2) := by decide +kernel
theorem dX11_factsNow_71 : decode cX11_factsNow 71 = .ok (.iaload, 1) := by decide +kernel
theorem dX11_factsNow_72 : decode cX11_factsNow 72 = .ok (.if_icmp .ne 31, 3) := by decide +kernel
theorem dX11_factsNow_75 : decode cX11_factsNow 75 = .ok (.iload_n 3, 1) := by decide +kernel
theorem dX11_factsNow_76 : decode cX11_factsNow 76 = .ok (.ifCond .eq 20, 3) := by decide +kernel
theorem dX11_factsNow_79 : decode cX11_factsNow 79 = .ok (.aload_n 0, 1) := by decide +kernel
theorem dX11_factsNow_80 : decode cX11_factsNow 80 = .ok (.getfield 57, 3) := by decide +kernel
theorem dX11_factsNow_83 : decode cX11_factsNow 83 = .ok (.aload_n 0, 1) := by decide +kernel
theorem dX11_factsNow_84 : decode cX11_factsNow 84 = .ok (.getfield 279, 3) := by decide +kernel
theorem dX11_factsNow_87 : decode cX11_factsNow 87 = .ok (.iaload, 1) := by decide +kernel
theorem dX11_factsNow_88 : decode cX11_factsNow 88 = .ok (.iload 4, 2) := by decide +kernel
theorem dX11_factsNow_90 : decode cX11_factsNow 90 = .ok (.invokestatic 368, 3) := by decide +kernel
theorem dX11_factsNow_93 : decode cX11_factsNow 93 = .ok (.ifCond .eq 10, 3) := by decide +kernel
theorem dX11_factsNow_96 : decode cX11_factsNow 96 = .ok (.iload_n 2, 1) := by decide +kernel
theorem dX11_factsNow_97 : decode cX11_factsNow 97 = .ok (.iconst 1, 1) := by decide +kernel
theorem dX11_factsNow_98 : decode cX11_factsNow 98 = .ok (.iload 4, 2) := by decide +kernel
theorem dX11_factsNow_100 : decode cX11_factsNow 100 = .ok (.ishl, 1) := by decide +kernel
theorem dX11_factsNow_101 : decode cX11_factsNow 101 = .ok (.ior, 1) := by decide +kernel
theorem dX11_factsNow_102 : decode cX11_factsNow 102 = .ok (.istore_n 2, 1) := by decide +kernel
theorem dX11_factsNow_103 : decode cX11_factsNow 103 = .ok (.iinc 4 1, 3) := by decide +kernel
theorem dX11_factsNow_106 : decode cX11_factsNow 106 = .ok (.goto (-89), 3) := by decide +kernel
theorem dX11_factsNow_109 : decode cX11_factsNow 109 = .ok (.iload_n 2, 1) := by decide +kernel
theorem dX11_factsNow_110 : decode cX11_factsNow 110 = .ok (.ireturn, 1) := by decide +kernel
theorem dX11_knownToAll_0 : decode cX11_knownToAll 0 = .ok (.iconst 0, 1) := by decide +kernel
theorem dX11_knownToAll_1 : decode cX11_knownToAll 1 = .ok (.istore_n 1, 1) := by decide +kernel
theorem dX11_knownToAll_2 : decode cX11_knownToAll 2 = .ok (.iconst 0, 1) := by decide +kernel
theorem dX11_knownToAll_3 : decode cX11_knownToAll 3 = .ok (.istore_n 2, 1) := by decide +kernel
theorem dX11_knownToAll_4 : decode cX11_knownToAll 4 = .ok (.iload_n 2, 1) := by decide +kernel
theorem dX11_knownToAll_5 : decode cX11_knownToAll 5 = .ok (.aload_n 0, 1) := by decide +kernel
theorem dX11_knownToAll_6 : decode cX11_knownToAll 6 = .ok (.invokevirtual 385, 3) := by decide +kernel
theorem dX11_knownToAll_9 : decode cX11_knownToAll 9 = .ok (.if_icmp .ge 24, 3) := by decide +kernel
theorem dX11_knownToAll_12 : decode cX11_knownToAll 12 = .ok (.iload_n 1, 1) := by decide +kernel
theorem dX11_knownToAll_13 : decode cX11_knownToAll 13 = .ok (.aload_n 0, 1) := by decide +kernel
theorem dX11_knownToAll_14 : decode cX11_knownToAll 14 = .ok (.getfield 110, 3) := by decide +kernel
theorem dX11_knownToAll_17 : decode cX11_knownToAll 17 = .ok (.bipush 7, 2) := by decide +kernel
theorem dX11_knownToAll_19 : decode cX11_knownToAll 19 = .ok (.iload_n 2, 1) := by decide +kernel
theorem dX11_knownToAll_20 : decode cX11_knownToAll 20 = .ok (.iadd, 1) := by decide +kernel
theorem dX11_knownToAll_21 : decode cX11_knownToAll 21 = .ok (.iaload, 1) := by decide +kernel
theorem dX11_knownToAll_22 : decode cX11_knownToAll 22 = .ok (.invokestatic 372, 3) := by decide +kernel
theorem dX11_knownToAll_25 : decode cX11_knownToAll 25 = .ok (.iadd, 1) := by decide +kernel
theorem dX11_knownToAll_26 : decode cX11_knownToAll 26 = .ok (.istore_n 1, 1) := by decide +kernel
theorem dX11_knownToAll_27 : decode cX11_knownToAll 27 = .ok (.iinc 2 1, 3) := by decide +kernel
theorem dX11_knownToAll_30 : decode cX11_knownToAll 30 = .ok (.goto (-26), 3) := by decide +kernel
theorem dX11_knownToAll_33 : decode cX11_knownToAll 33 = .ok (.iload_n 1, 1) := by decide +kernel
theorem dX11_knownToAll_34 : decode cX11_knownToAll 34 = .ok (.ireturn, 1) := by decide +kernel
theorem dX11_knowersOf_0 : decode cX11_knowersOf 0 = .ok (.iconst 0, 1) := by decide +kernel
theorem dX11_knowersOf_1 : decode cX11_knowersOf 1 = .ok (.istore_n 2, 1) := by decide +kernel
theorem dX11_knowersOf_2 : decode cX11_knowersOf 2 = .ok (.iconst 0, 1) := by decide +kernel
theorem dX11_knowersOf_3 : decode cX11_knowersOf 3 = .ok (.istore_n 3, 1) := by decide +kernel
theorem dX11_knowersOf_4 : decode cX11_knowersOf 4 = .ok (.iload_n 3, 1) := by decide +kernel
theorem dX11_knowersOf_5 : decode cX11_knowersOf 5 = .ok (.aload_n 0, 1) := by decide +kernel
theorem dX11_knowersOf_6 : decode cX11_knowersOf 6 = .ok (.invokevirtual 385, 3) := by decide +kernel
theorem dX11_knowersOf_9 : decode cX11_knowersOf 9 = .ok (.if_icmp .ge 31, 3) := by decide +kernel
theorem dX11_knowersOf_12 : decode cX11_knowersOf 12 = .ok (.aload_n 0, 1) := by decide +kernel
theorem dX11_knowersOf_13 : decode cX11_knowersOf 13 = .ok (.getfield 110, 3) := by decide +kernel
theorem dX11_knowersOf_16 : decode cX11_knowersOf 16 = .ok (.bipush 7, 2) := by decide +kernel
theorem dX11_knowersOf_18 : decode cX11_knowersOf 18 = .ok (.iload_n 3, 1) := by decide +kernel
theorem dX11_knowersOf_19 : decode cX11_knowersOf 19 = .ok (.iadd, 1) := by decide +kernel
theorem dX11_knowersOf_20 : decode cX11_knowersOf 20 = .ok (.iaload, 1) := by decide +kernel
theorem dX11_knowersOf_21 : decode cX11_knowersOf 21 = .ok (.iload_n 1, 1) := by decide +kernel
theorem dX11_knowersOf_22 : decode cX11_knowersOf 22 = .ok (.invokestatic 368, 3) := by decide +kernel
theorem dX11_knowersOf_25 : decode cX11_knowersOf 25 = .ok (.ifCond .eq 9, 3) := by decide +kernel
theorem dX11_knowersOf_28 : decode cX11_knowersOf 28 = .ok (.iload_n 2, 1) := by decide +kernel
theorem dX11_knowersOf_29 : decode cX11_knowersOf 29 = .ok (.iconst 1, 1) := by decide +kernel
theorem dX11_knowersOf_30 : decode cX11_knowersOf 30 = .ok (.iload_n 3, 1) := by decide +kernel
theorem dX11_knowersOf_31 : decode cX11_knowersOf 31 = .ok (.ishl, 1) := by decide +kernel
theorem dX11_knowersOf_32 : decode cX11_knowersOf 32 = .ok (.ior, 1) := by decide +kernel
theorem dX11_knowersOf_33 : decode cX11_knowersOf 33 = .ok (.istore_n 2, 1) := by decide +kernel
theorem dX11_knowersOf_34 : decode cX11_knowersOf 34 = .ok (.iinc 3 1, 3) := by decide +kernel
theorem dX11_knowersOf_37 : decode cX11_knowersOf 37 = .ok (.goto (-33), 3) := by decide +kernel
theorem dX11_knowersOf_40 : decode cX11_knowersOf 40 = .ok (.iload_n 2, 1) := by decide +kernel
theorem dX11_knowersOf_41 : decode cX11_knowersOf 41 = .ok (.ireturn, 1) := by decide +kernel
theorem dX11_fault_0 : decode cX11_fault 0 = .ok (.iload_n 1, 1) := by decide +kernel
theorem dX11_fault_1 : decode cX11_fault 1 = .ok (.ifCond .ne 10, 3) := by decide +kernel
theorem dX11_fault_4 : decode cX11_fault 4 = .ok (.aload_n 0, 1) := by decide +kernel
theorem dX11_fault_5 : decode cX11_fault 5 = .ok (.getfield 164, 3) := by decide +kernel
theorem dX11_fault_8 : decode cX11_fault 8 = .ok (.goto 16, 3) := by decide +kernel
theorem dX11_fault_11 : decode cX11_fault 11 = .ok (.iload_n 1, 1) := by decide +kernel
theorem dX11_fault_12 : decode cX11_fault 12 = .ok (.iconst 1, 1) := by decide +kernel
theorem dX11_fault_13 : decode cX11_fault 13 = .ok (.if_icmp .ne 10, 3) := by decide +kernel
theorem dX11_fault_16 : decode cX11_fault 16 = .ok (.aload_n 0, 1) := by decide +kernel
theorem dX11_fault_17 : decode cX11_fault 17 = .ok (.getfield 16, 3) := by decide +kernel
theorem dX11_fault_20 : decode cX11_fault 20 = .ok (.goto 4, 3) := by decide +kernel
theorem dX11_fault_23 : decode cX11_fault 23 = .ok (.iconst (-1), 1) := by decide +kernel
theorem dX11_fault_24 : decode cX11_fault 24 = .ok (.ireturn, 1) := by decide +kernel
theorem dX11_fact_0 : decode cX11_fact 0 = .ok (.aload_n 0, 1) := by decide +kernel
theorem dX11_fact_1 : decode cX11_fact 1 = .ok (.iload_n 1, 1) := by decide +kernel
theorem dX11_fact_2 : decode cX11_fact 2 = .ok (.invokevirtual 429, 3) := by decide +kernel
theorem dX11_fact_5 : decode cX11_fact 5 = .ok (.ifCond .ne 5, 3) := by decide +kernel
theorem dX11_fact_8 : decode cX11_fact 8 = .ok (.iconst (-1), 1) := by decide +kernel
theorem dX11_fact_9 : decode cX11_fact 9 = .ok (.ireturn, 1) := by decide +kernel
theorem dX11_fact_10 : decode cX11_fact 10 = .ok (.iload_n 2, 1) := by decide +kernel
theorem dX11_fact_11 : decode cX11_fact 11 = .ok (.tableswitch 79 0 3 #[29, 44, 59, 73], 29) := by decide +kernel
theorem dX11_fact_40 : decode cX11_fact 40 = .ok (.aload_n 0, 1) := by decide +kernel
theorem dX11_fact_41 : decode cX11_fact 41 = .ok (.getfield 51, 3) := by decide +kernel
theorem dX11_fact_44 : decode cX11_fact 44 = .ok (.bipush 10, 2) := by decide +kernel
theorem dX11_fact_46 : decode cX11_fact 46 = .ok (.aload_n 0, 1) := by decide +kernel
theorem dX11_fact_47 : decode cX11_fact 47 = .ok (.getfield 279, 3) := by decide +kernel
theorem dX11_fact_50 : decode cX11_fact 50 = .ok (.imul, 1) := by decide +kernel
theorem dX11_fact_51 : decode cX11_fact 51 = .ok (.iload_n 1, 1) := by decide +kernel
theorem dX11_fact_52 : decode cX11_fact 52 = .ok (.iadd, 1) := by decide +kernel
theorem dX11_fact_53 : decode cX11_fact 53 = .ok (.iaload, 1) := by decide +kernel
theorem dX11_fact_54 : decode cX11_fact 54 = .ok (.ireturn, 1) := by decide +kernel
theorem dX11_fact_55 : decode cX11_fact 55 = .ok (.aload_n 0, 1) := by decide +kernel
theorem dX11_fact_56 : decode cX11_fact 56 = .ok (.getfield 54, 3) := by decide +kernel
theorem dX11_fact_59 : decode cX11_fact 59 = .ok (.bipush 10, 2) := by decide +kernel
theorem dX11_fact_61 : decode cX11_fact 61 = .ok (.aload_n 0, 1) := by decide +kernel
theorem dX11_fact_62 : decode cX11_fact 62 = .ok (.getfield 279, 3) := by decide +kernel
theorem dX11_fact_65 : decode cX11_fact 65 = .ok (.imul, 1) := by decide +kernel
theorem dX11_fact_66 : decode cX11_fact 66 = .ok (.iload_n 1, 1) := by decide +kernel
theorem dX11_fact_67 : decode cX11_fact 67 = .ok (.iadd, 1) := by decide +kernel
theorem dX11_fact_68 : decode cX11_fact 68 = .ok (.iaload, 1) := by decide +kernel
theorem dX11_fact_69 : decode cX11_fact 69 = .ok (.ireturn, 1) := by decide +kernel
theorem dX11_fact_70 : decode cX11_fact 70 = .ok (.aload_n 0, 1) := by decide +kernel
theorem dX11_fact_71 : decode cX11_fact 71 = .ok (.getfield 57, 3) := by decide +kernel
theorem dX11_fact_74 : decode cX11_fact 74 = .ok (.aload_n 0, 1) := by decide +kernel
theorem dX11_fact_75 : decode cX11_fact 75 = .ok (.getfield 279, 3) := by decide +kernel
theorem dX11_fact_78 : decode cX11_fact 78 = .ok (.iaload, 1) := by decide +kernel
theorem dX11_fact_79 : decode cX11_fact 79 = .ok (.iload_n 1, 1) := by decide +kernel
theorem dX11_fact_80 : decode cX11_fact 80 = .ok (.ishr, 1) := by decide +kernel
theorem dX11_fact_81 : decode cX11_fact 81 = .ok (.iconst 1, 1) := by decide +kernel
theorem dX11_fact_82 : decode cX11_fact 82 = .ok (.iand, 1) := by decide +kernel
theorem dX11_fact_83 : decode cX11_fact 83 = .ok (.ireturn, 1) := by decide +kernel
theorem dX11_fact_84 : decode cX11_fact 84 = .ok (.aload_n 0, 1) := by decide +kernel
theorem dX11_fact_85 : decode cX11_fact 85 = .ok (.iload_n 1, 1) := by decide +kernel
theorem dX11_fact_86 : decode cX11_fact 86 = .ok (.invokevirtual 432, 3) := by decide +kernel
theorem dX11_fact_89 : decode cX11_fact 89 = .ok (.ireturn, 1) := by decide +kernel
theorem dX11_fact_90 : decode cX11_fact 90 = .ok (.iconst (-1), 1) := by decide +kernel
theorem dX11_fact_91 : decode cX11_fact 91 = .ok (.ireturn, 1) := by decide +kernel
theorem dX11_wants_0 : decode cX11_wants 0 = .ok (.aload_n 0, 1) := by decide +kernel
theorem dX11_wants_1 : decode cX11_wants 1 = .ok (.iload_n 1, 1) := by decide +kernel
theorem dX11_wants_2 : decode cX11_wants 2 = .ok (.invokevirtual 419, 3) := by decide +kernel
theorem dX11_wants_5 : decode cX11_wants 5 = .ok (.ifCond .eq 20, 3) := by decide +kernel
theorem dX11_wants_8 : decode cX11_wants 8 = .ok (.aload_n 0, 1) := by decide +kernel
theorem dX11_wants_9 : decode cX11_wants 9 = .ok (.iload_n 2, 1) := by decide +kernel
theorem dX11_wants_10 : decode cX11_wants 10 = .ok (.invokevirtual 419, 3) := by decide +kernel
theorem dX11_wants_13 : decode cX11_wants 13 = .ok (.ifCond .eq 12, 3) := by decide +kernel
theorem dX11_wants_16 : decode cX11_wants 16 = .ok (.aload_n 0, 1) := by decide +kernel
theorem dX11_wants_17 : decode cX11_wants 17 = .ok (.iload_n 1, 1) := by decide +kernel
theorem dX11_wants_18 : decode cX11_wants 18 = .ok (.iload_n 2, 1) := by decide +kernel
theorem dX11_wants_19 : decode cX11_wants 19 = .ok (.invokevirtual 375, 3) := by decide +kernel
theorem dX11_wants_22 : decode cX11_wants 22 = .ok (.goto 4, 3) := by decide +kernel
theorem dX11_wants_25 : decode cX11_wants 25 = .ok (.iconst (-1), 1) := by decide +kernel
theorem dX11_wants_26 : decode cX11_wants 26 = .ok (.ireturn, 1) := by decide +kernel
theorem dX11_dark_0 : decode cX11_dark 0 = .ok (.iload_n 1, 1) := by decide +kernel
theorem dX11_dark_1 : decode cX11_dark 1 = .ok (.iconst 0, 1) := by decide +kernel
theorem dX11_dark_2 : decode cX11_dark 2 = .ok (.bipush 23, 2) := by decide +kernel
theorem dX11_dark_4 : decode cX11_dark 4 = .ok (.invokestatic 388, 3) := by decide +kernel
theorem dX11_dark_7 : decode cX11_dark 7 = .ok (.ifCond .ne 7, 3) := by decide +kernel
theorem dX11_dark_10 : decode cX11_dark 10 = .ok (.iconst (-1), 1) := by decide +kernel
theorem dX11_dark_11 : decode cX11_dark 11 = .ok (.goto 16, 3) := by decide +kernel
theorem dX11_dark_14 : decode cX11_dark 14 = .ok (.aload_n 0, 1) := by decide +kernel
theorem dX11_dark_15 : decode cX11_dark 15 = .ok (.iload_n 1, 1) := by decide +kernel
theorem dX11_dark_16 : decode cX11_dark 16 = .ok (.invokevirtual 410, 3) := by decide +kernel
theorem dX11_dark_19 : decode cX11_dark 19 = .ok (.ifCond .eq 7, 3) := by decide +kernel
theorem dX11_dark_22 : decode cX11_dark 22 = .ok (.iconst 1, 1) := by decide +kernel
theorem dX11_dark_23 : decode cX11_dark 23 = .ok (.goto 4, 3) := by decide +kernel
theorem dX11_dark_26 : decode cX11_dark 26 = .ok (.iconst 0, 1) := by decide +kernel
theorem dX11_dark_27 : decode cX11_dark 27 = .ok (.ireturn, 1) := by decide +kernel
theorem dX11_lies_0 : decode cX11_lies 0 = .ok (.iload_n 1, 1) := by decide +kernel
theorem dX11_lies_1 : decode cX11_lies 1 = .ok (.iconst 0, 1) := by decide +kernel
theorem dX11_lies_2 : decode cX11_lies 2 = .ok (.aload_n 0, 1) := by decide +kernel
theorem dX11_lies_3 : decode cX11_lies 3 = .ok (.getfield 404, 3) := by decide +kernel
theorem dX11_lies_6 : decode cX11_lies 6 = .ok (.iconst 1, 1) := by decide +kernel
theorem dX11_lies_7 : decode cX11_lies 7 = .ok (.isub, 1) := by decide +kernel
theorem dX11_lies_8 : decode cX11_lies 8 = .ok (.invokestatic 388, 3) := by decide +kernel
theorem dX11_lies_11 : decode cX11_lies 11 = .ok (.ifCond .eq 12, 3) := by decide +kernel
theorem dX11_lies_14 : decode cX11_lies 14 = .ok (.aload_n 0, 1) := by decide +kernel
theorem dX11_lies_15 : decode cX11_lies 15 = .ok (.getfield 122, 3) := by decide +kernel
theorem dX11_lies_18 : decode cX11_lies 18 = .ok (.iload_n 1, 1) := by decide +kernel
theorem dX11_lies_19 : decode cX11_lies 19 = .ok (.iaload, 1) := by decide +kernel
theorem dX11_lies_20 : decode cX11_lies 20 = .ok (.goto 4, 3) := by decide +kernel
theorem dX11_lies_23 : decode cX11_lies 23 = .ok (.iconst (-1), 1) := by decide +kernel
theorem dX11_lies_24 : decode cX11_lies 24 = .ok (.ireturn, 1) := by decide +kernel
theorem dX11_harm_0 : decode cX11_harm 0 = .ok (.aload_n 0, 1) := by decide +kernel
theorem dX11_harm_1 : decode cX11_harm 1 = .ok (.iload_n 1, 1) := by decide +kernel
theorem dX11_harm_2 : decode cX11_harm 2 = .ok (.invokevirtual 419, 3) := by decide +kernel
theorem dX11_harm_5 : decode cX11_harm 5 = .ok (.ifCond .ne 5, 3) := by decide +kernel
theorem dX11_harm_8 : decode cX11_harm 8 = .ok (.iconst (-1), 1) := by decide +kernel
theorem dX11_harm_9 : decode cX11_harm 9 = .ok (.ireturn, 1) := by decide +kernel
theorem dX11_harm_10 : decode cX11_harm 10 = .ok (.iconst 0, 1) := by decide +kernel
theorem dX11_harm_11 : decode cX11_harm 11 = .ok (.istore_n 2, 1) := by decide +kernel
theorem dX11_harm_12 : decode cX11_harm 12 = .ok (.iconst 0, 1) := by decide +kernel
theorem dX11_harm_13 : decode cX11_harm 13 = .ok (.istore_n 3, 1) := by decide +kernel
theorem dX11_harm_14 : decode cX11_harm 14 = .ok (.iload_n 3, 1) := by decide +kernel
theorem dX11_harm_15 : decode cX11_harm 15 = .ok (.aload_n 0, 1) := by decide +kernel
theorem dX11_harm_16 : decode cX11_harm 16 = .ok (.invokevirtual 385, 3) := by decide +kernel
theorem dX11_harm_19 : decode cX11_harm 19 = .ok (.if_icmp .ge 35, 3) := by decide +kernel
theorem dX11_harm_22 : decode cX11_harm 22 = .ok (.iload_n 3, 1) := by decide +kernel
theorem dX11_harm_23 : decode cX11_harm 23 = .ok (.iload_n 1, 1) := by decide +kernel
theorem dX11_harm_24 : decode cX11_harm 24 = .ok (.if_icmp .eq 24, 3) := by decide +kernel
theorem dX11_harm_27 : decode cX11_harm 27 = .ok (.iload_n 2, 1) := by decide +kernel
theorem dX11_harm_28 : decode cX11_harm 28 = .ok (.aload_n 0, 1) := by decide +kernel
theorem dX11_harm_29 : decode cX11_harm 29 = .ok (.getfield 110, 3) := by decide +kernel
theorem dX11_harm_32 : decode cX11_harm 32 = .ok (.bipush 7, 2) := by decide +kernel
theorem dX11_harm_34 : decode cX11_harm 34 = .ok (.iload_n 3, 1) := by decide +kernel
theorem dX11_harm_35 : decode cX11_harm 35 = .ok (.iadd, 1) := by decide +kernel
theorem dX11_harm_36 : decode cX11_harm 36 = .ok (.iaload, 1) := by decide +kernel
theorem dX11_harm_37 : decode cX11_harm 37 = .ok (.aload_n 0, 1) := by decide +kernel
theorem dX11_harm_38 : decode cX11_harm 38 = .ok (.iload_n 1, 1) := by decide +kernel
theorem dX11_harm_39 : decode cX11_harm 39 = .ok (.invokevirtual 392, 3) := by decide +kernel
theorem dX11_harm_42 : decode cX11_harm 42 = .ok (.iand, 1) := by decide +kernel
theorem dX11_harm_43 : decode cX11_harm 43 = .ok (.invokestatic 372, 3) := by decide +kernel
theorem dX11_harm_46 : decode cX11_harm 46 = .ok (.iadd, 1) := by decide +kernel
theorem dX11_harm_47 : decode cX11_harm 47 = .ok (.istore_n 2, 1) := by decide +kernel
theorem dX11_harm_48 : decode cX11_harm 48 = .ok (.iinc 3 1, 3) := by decide +kernel
theorem dX11_harm_51 : decode cX11_harm 51 = .ok (.goto (-37), 3) := by decide +kernel
theorem dX11_harm_54 : decode cX11_harm 54 = .ok (.iload_n 2, 1) := by decide +kernel
theorem dX11_harm_55 : decode cX11_harm 55 = .ok (.ireturn, 1) := by decide +kernel
theorem dX11_aim_0 : decode cX11_aim 0 = .ok (.aload_n 0, 1) := by decide +kernel
theorem dX11_aim_1 : decode cX11_aim 1 = .ok (.iload_n 1, 1) := by decide +kernel
theorem dX11_aim_2 : decode cX11_aim 2 = .ok (.invokevirtual 419, 3) := by decide +kernel
theorem dX11_aim_5 : decode cX11_aim 5 = .ok (.ifCond .eq 11, 3) := by decide +kernel
theorem dX11_aim_8 : decode cX11_aim 8 = .ok (.aload_n 0, 1) := by decide +kernel
theorem dX11_aim_9 : decode cX11_aim 9 = .ok (.iload_n 2, 1) := by decide +kernel
theorem dX11_aim_10 : decode cX11_aim 10 = .ok (.invokevirtual 419, 3) := by decide +kernel
theorem dX11_aim_13 : decode cX11_aim 13 = .ok (.ifCond .ne 5, 3) := by decide +kernel
theorem dX11_aim_16 : decode cX11_aim 16 = .ok (.iconst 0, 1) := by decide +kernel
theorem dX11_aim_17 : decode cX11_aim 17 = .ok (.ireturn, 1) := by decide +kernel
theorem dX11_aim_18 : decode cX11_aim 18 = .ok (.iconst 0, 1) := by decide +kernel
theorem dX11_aim_19 : decode cX11_aim 19 = .ok (.istore_n 3, 1) := by decide +kernel
theorem dX11_aim_20 : decode cX11_aim 20 = .ok (.iload_n 3, 1) := by decide +kernel
theorem dX11_aim_21 : decode cX11_aim 21 = .ok (.aload_n 0, 1) := by decide +kernel
theorem dX11_aim_22 : decode cX11_aim 22 = .ok (.invokevirtual 385, 3) := by decide +kernel
theorem dX11_aim_25 : decode cX11_aim 25 = .ok (.if_icmp .ge 26, 3) := by decide +kernel
theorem dX11_aim_28 : decode cX11_aim 28 = .ok (.iload_n 3, 1) := by decide +kernel
theorem dX11_aim_29 : decode cX11_aim 29 = .ok (.iload_n 1, 1) := by decide +kernel
theorem dX11_aim_30 : decode cX11_aim 30 = .ok (.if_icmp .eq 15, 3) := by decide +kernel
theorem dX11_aim_33 : decode cX11_aim 33 = .ok (.aload_n 0, 1) := by decide +kernel
theorem dX11_aim_34 : decode cX11_aim 34 = .ok (.getfield 125, 3) := by decide +kernel
theorem dX11_aim_37 : decode cX11_aim 37 = .ok (.iload_n 3, 1) := by decide +kernel
theorem dX11_aim_38 : decode cX11_aim 38 = .ok (.iaload, 1) := by decide +kernel
theorem dX11_aim_39 : decode cX11_aim 39 = .ok (.iload_n 2, 1) := by decide +kernel
theorem dX11_aim_40 : decode cX11_aim 40 = .ok (.if_icmp .ne 5, 3) := by decide +kernel
theorem dX11_aim_43 : decode cX11_aim 43 = .ok (.iconst 0, 1) := by decide +kernel
theorem dX11_aim_44 : decode cX11_aim 44 = .ok (.ireturn, 1) := by decide +kernel
theorem dX11_aim_45 : decode cX11_aim 45 = .ok (.iinc 3 1, 3) := by decide +kernel
theorem dX11_aim_48 : decode cX11_aim 48 = .ok (.goto (-28), 3) := by decide +kernel
theorem dX11_aim_51 : decode cX11_aim 51 = .ok (.aload_n 0, 1) := by decide +kernel
theorem dX11_aim_52 : decode cX11_aim 52 = .ok (.getfield 125, 3) := by decide +kernel
theorem dX11_aim_55 : decode cX11_aim 55 = .ok (.iload_n 1, 1) := by decide +kernel
theorem dX11_aim_56 : decode cX11_aim 56 = .ok (.iload_n 2, 1) := by decide +kernel
theorem dX11_aim_57 : decode cX11_aim 57 = .ok (.iastore, 1) := by decide +kernel
theorem dX11_aim_58 : decode cX11_aim 58 = .ok (.iconst 1, 1) := by decide +kernel
theorem dX11_aim_59 : decode cX11_aim 59 = .ok (.ireturn, 1) := by decide +kernel
theorem dX11_drop_0 : decode cX11_drop 0 = .ok (.aload_n 0, 1) := by decide +kernel
theorem dX11_drop_1 : decode cX11_drop 1 = .ok (.iload_n 1, 1) := by decide +kernel
theorem dX11_drop_2 : decode cX11_drop 2 = .ok (.invokevirtual 419, 3) := by decide +kernel
theorem dX11_drop_5 : decode cX11_drop 5 = .ok (.ifCond .eq 12, 3) := by decide +kernel
theorem dX11_drop_8 : decode cX11_drop 8 = .ok (.aload_n 0, 1) := by decide +kernel
theorem dX11_drop_9 : decode cX11_drop 9 = .ok (.getfield 125, 3) := by decide +kernel
theorem dX11_drop_12 : decode cX11_drop 12 = .ok (.iload_n 1, 1) := by decide +kernel
theorem dX11_drop_13 : decode cX11_drop 13 = .ok (.iaload, 1) := by decide +kernel
theorem dX11_drop_14 : decode cX11_drop 14 = .ok (.ifCond .ge 5, 3) := by decide +kernel
theorem dX11_drop_17 : decode cX11_drop 17 = .ok (.iconst 0, 1) := by decide +kernel
theorem dX11_drop_18 : decode cX11_drop 18 = .ok (.ireturn, 1) := by decide +kernel
theorem dX11_drop_19 : decode cX11_drop 19 = .ok (.aload_n 0, 1) := by decide +kernel
theorem dX11_drop_20 : decode cX11_drop 20 = .ok (.getfield 125, 3) := by decide +kernel
theorem dX11_drop_23 : decode cX11_drop 23 = .ok (.iload_n 1, 1) := by decide +kernel
theorem dX11_drop_24 : decode cX11_drop 24 = .ok (.iconst (-1), 1) := by decide +kernel
theorem dX11_drop_25 : decode cX11_drop 25 = .ok (.iastore, 1) := by decide +kernel
theorem dX11_drop_26 : decode cX11_drop 26 = .ok (.iconst 1, 1) := by decide +kernel
theorem dX11_drop_27 : decode cX11_drop 27 = .ok (.ireturn, 1) := by decide +kernel
theorem dX11_mutual_0 : decode cX11_mutual 0 = .ok (.iconst 0, 1) := by decide +kernel
theorem dX11_mutual_1 : decode cX11_mutual 1 = .ok (.istore_n 1, 1) := by decide +kernel
theorem dX11_mutual_2 : decode cX11_mutual 2 = .ok (.iconst 0, 1) := by decide +kernel
theorem dX11_mutual_3 : decode cX11_mutual 3 = .ok (.istore_n 2, 1) := by decide +kernel
theorem dX11_mutual_4 : decode cX11_mutual 4 = .ok (.iload_n 2, 1) := by decide +kernel
theorem dX11_mutual_5 : decode cX11_mutual 5 = .ok (.aload_n 0, 1) := by decide +kernel
theorem dX11_mutual_6 : decode cX11_mutual 6 = .ok (.invokevirtual 385, 3) := by decide +kernel
theorem dX11_mutual_9 : decode cX11_mutual 9 = .ok (.if_icmp .ge 73, 3) := by decide +kernel
theorem dX11_mutual_12 : decode cX11_mutual 12 = .ok (.iconst 0, 1) := by decide +kernel
theorem dX11_mutual_13 : decode cX11_mutual 13 = .ok (.istore_n 3, 1) := by decide +kernel
theorem dX11_mutual_14 : decode cX11_mutual 14 = .ok (.iload_n 3, 1) := by decide +kernel
theorem dX11_mutual_15 : decode cX11_mutual 15 = .ok (.iload_n 2, 1) := by decide +kernel
theorem dX11_mutual_16 : decode cX11_mutual 16 = .ok (.if_icmp .ge 60, 3) := by decide +kernel
theorem dX11_mutual_19 : decode cX11_mutual 19 = .ok (.aload_n 0, 1) := by decide +kernel
theorem dX11_mutual_20 : decode cX11_mutual 20 = .ok (.getfield 110, 3) := by decide +kernel
theorem dX11_mutual_23 : decode cX11_mutual 23 = .ok (.iconst 0, 1) := by decide +kernel
theorem dX11_mutual_24 : decode cX11_mutual 24 = .ok (.iload_n 2, 1) := by decide +kernel
theorem dX11_mutual_25 : decode cX11_mutual 25 = .ok (.iadd, 1) := by decide +kernel
theorem dX11_mutual_26 : decode cX11_mutual 26 = .ok (.iaload, 1) := by decide +kernel
theorem dX11_mutual_27 : decode cX11_mutual 27 = .ok (.iload_n 3, 1) := by decide +kernel
theorem dX11_mutual_28 : decode cX11_mutual 28 = .ok (.if_icmp .ne 42, 3) := by decide +kernel
theorem dX11_mutual_31 : decode cX11_mutual 31 = .ok (.aload_n 0, 1) := by decide +kernel
theorem dX11_mutual_32 : decode cX11_mutual 32 = .ok (.getfield 110, 3) := by decide +kernel
theorem dX11_mutual_35 : decode cX11_mutual 35 = .ok (.iconst 0, 1) := by decide +kernel
theorem dX11_mutual_36 : decode cX11_mutual 36 = .ok (.iload_n 3, 1) := by decide +kernel
theorem dX11_mutual_37 : decode cX11_mutual 37 = .ok (.iadd, 1) := by decide +kernel
theorem dX11_mutual_38 : decode cX11_mutual 38 = .ok (.iaload, 1) := by decide +kernel
theorem dX11_mutual_39 : decode cX11_mutual 39 = .ok (.iload_n 2, 1) := by decide +kernel
theorem dX11_mutual_40 : decode cX11_mutual 40 = .ok (.if_icmp .eq 6, 3) := by decide +kernel
theorem dX11_mutual_43 : decode cX11_mutual 43 = .ok (.goto 27, 3) := by decide +kernel
theorem dX11_mutual_46 : decode cX11_mutual 46 = .ok (.iload_n 1, 1) := by decide +kernel
theorem dX11_mutual_47 : decode cX11_mutual 47 = .ok (.aload_n 0, 1) := by decide +kernel
theorem dX11_mutual_48 : decode cX11_mutual 48 = .ok (.iload_n 2, 1) := by decide +kernel
theorem dX11_mutual_49 : decode cX11_mutual 49 = .ok (.invokevirtual 413, 3) := by decide +kernel
theorem dX11_mutual_52 : decode cX11_mutual 52 = .ok (.ifCond .eq 15, 3) := by decide +kernel
theorem dX11_mutual_55 : decode cX11_mutual 55 = .ok (.aload_n 0, 1) := by decide +kernel
theorem dX11_mutual_56 : decode cX11_mutual 56 = .ok (.iload_n 3, 1) := by decide +kernel
theorem dX11_mutual_57 : decode cX11_mutual 57 = .ok (.invokevirtual 413, 3) := by decide +kernel
theorem dX11_mutual_60 : decode cX11_mutual 60 = .ok (.ifCond .eq 7, 3) := by decide +kernel
theorem dX11_mutual_63 : decode cX11_mutual 63 = .ok (.iconst 1, 1) := by decide +kernel
theorem dX11_mutual_64 : decode cX11_mutual 64 = .ok (.goto 4, 3) := by decide +kernel
theorem dX11_mutual_67 : decode cX11_mutual 67 = .ok (.iconst 0, 1) := by decide +kernel
theorem dX11_mutual_68 : decode cX11_mutual 68 = .ok (.iadd, 1) := by decide +kernel
theorem dX11_mutual_69 : decode cX11_mutual 69 = .ok (.istore_n 1, 1) := by decide +kernel
theorem dX11_mutual_70 : decode cX11_mutual 70 = .ok (.iinc 3 1, 3) := by decide +kernel
theorem dX11_mutual_73 : decode cX11_mutual 73 = .ok (.goto (-59), 3) := by decide +kernel
theorem dX11_mutual_76 : decode cX11_mutual 76 = .ok (.iinc 2 1, 3) := by decide +kernel
theorem dX11_mutual_79 : decode cX11_mutual 79 = .ok (.goto (-75), 3) := by decide +kernel
theorem dX11_mutual_82 : decode cX11_mutual 82 = .ok (.iload_n 1, 1) := by decide +kernel
theorem dX11_mutual_83 : decode cX11_mutual 83 = .ok (.ireturn, 1) := by decide +kernel
theorem dX11_aims_0 : decode cX11_aims 0 = .ok (.iconst 0, 1) := by decide +kernel
theorem dX11_aims_1 : decode cX11_aims 1 = .ok (.istore_n 1, 1) := by decide +kernel
theorem dX11_aims_2 : decode cX11_aims 2 = .ok (.iconst 0, 1) := by decide +kernel
theorem dX11_aims_3 : decode cX11_aims 3 = .ok (.istore_n 2, 1) := by decide +kernel
theorem dX11_aims_4 : decode cX11_aims 4 = .ok (.iload_n 2, 1) := by decide +kernel
theorem dX11_aims_5 : decode cX11_aims 5 = .ok (.aload_n 0, 1) := by decide +kernel
theorem dX11_aims_6 : decode cX11_aims 6 = .ok (.invokevirtual 385, 3) := by decide +kernel
theorem dX11_aims_9 : decode cX11_aims 9 = .ok (.if_icmp .ge 26, 3) := by decide +kernel
theorem dX11_aims_12 : decode cX11_aims 12 = .ok (.iload_n 1, 1) := by decide +kernel
theorem dX11_aims_13 : decode cX11_aims 13 = .ok (.aload_n 0, 1) := by decide +kernel
theorem dX11_aims_14 : decode cX11_aims 14 = .ok (.getfield 125, 3) := by decide +kernel
theorem dX11_aims_17 : decode cX11_aims 17 = .ok (.iload_n 2, 1) := by decide +kernel
theorem dX11_aims_18 : decode cX11_aims 18 = .ok (.iaload, 1) := by decide +kernel
theorem dX11_aims_19 : decode cX11_aims 19 = .ok (.ifCond .lt 7, 3) := by decide +kernel
theorem dX11_aims_22 : decode cX11_aims 22 = .ok (.iconst 1, 1) := by decide +kernel
theorem dX11_aims_23 : decode cX11_aims 23 = .ok (.goto 4, 3) := by decide +kernel
theorem dX11_aims_26 : decode cX11_aims 26 = .ok (.iconst 0, 1) := by decide +kernel
theorem dX11_aims_27 : decode cX11_aims 27 = .ok (.iadd, 1) := by decide +kernel
theorem dX11_aims_28 : decode cX11_aims 28 = .ok (.istore_n 1, 1) := by decide +kernel
theorem dX11_aims_29 : decode cX11_aims 29 = .ok (.iinc 2 1, 3) := by decide +kernel
theorem dX11_aims_32 : decode cX11_aims 32 = .ok (.goto (-28), 3) := by decide +kernel
theorem dX11_aims_35 : decode cX11_aims 35 = .ok (.iload_n 1, 1) := by decide +kernel
theorem dX11_aims_36 : decode cX11_aims 36 = .ok (.ireturn, 1) := by decide +kernel
theorem dX11_about_0 : decode cX11_about 0 = .ok (.iload_n 1, 1) := by decide +kernel
theorem dX11_about_1 : decode cX11_about 1 = .ok (.tableswitch 165 0 13 #[71, 76, 86, 94, 102, 110, 120, 125, 130, 135, 140, 145, 150, 160], 71) := by decide +kernel
theorem dX11_about_72 : decode cX11_about 72 = .ok (.aload_n 0, 1) := by decide +kernel
theorem dX11_about_73 : decode cX11_about 73 = .ok (.invokevirtual 385, 3) := by decide +kernel
theorem dX11_about_76 : decode cX11_about 76 = .ok (.ireturn, 1) := by decide +kernel
theorem dX11_about_77 : decode cX11_about 77 = .ok (.aload_n 0, 1) := by decide +kernel
theorem dX11_about_78 : decode cX11_about 78 = .ok (.getfield 24, 3) := by decide +kernel
theorem dX11_about_81 : decode cX11_about 81 = .ok (.aload_n 0, 1) := by decide +kernel
theorem dX11_about_82 : decode cX11_about 82 = .ok (.getfield 279, 3) := by decide +kernel
theorem dX11_about_85 : decode cX11_about 85 = .ok (.iaload, 1) := by decide +kernel
theorem dX11_about_86 : decode cX11_about 86 = .ok (.ireturn, 1) := by decide +kernel
theorem dX11_about_87 : decode cX11_about 87 = .ok (.aload_n 0, 1) := by decide +kernel
theorem dX11_about_88 : decode cX11_about 88 = .ok (.getfield 110, 3) := by decide +kernel
theorem dX11_about_91 : decode cX11_about 91 = .ok (.bipush 13, 2) := by decide +kernel
theorem dX11_about_93 : decode cX11_about 93 = .ok (.iaload, 1) := by decide +kernel
theorem dX11_about_94 : decode cX11_about 94 = .ok (.ireturn, 1) := by decide +kernel
theorem dX11_about_95 : decode cX11_about 95 = .ok (.aload_n 0, 1) := by decide +kernel
theorem dX11_about_96 : decode cX11_about 96 = .ok (.getfield 110, 3) := by decide +kernel
theorem dX11_about_99 : decode cX11_about 99 = .ok (.bipush 14, 2) := by decide +kernel
theorem dX11_about_101 : decode cX11_about 101 = .ok (.iaload, 1) := by decide +kernel
theorem dX11_about_102 : decode cX11_about 102 = .ok (.ireturn, 1) := by decide +kernel
theorem dX11_about_103 : decode cX11_about 103 = .ok (.aload_n 0, 1) := by decide +kernel
theorem dX11_about_104 : decode cX11_about 104 = .ok (.getfield 110, 3) := by decide +kernel
theorem dX11_about_107 : decode cX11_about 107 = .ok (.bipush 15, 2) := by decide +kernel
theorem dX11_about_109 : decode cX11_about 109 = .ok (.iaload, 1) := by decide +kernel
theorem dX11_about_110 : decode cX11_about 110 = .ok (.ireturn, 1) := by decide +kernel
theorem dX11_about_111 : decode cX11_about 111 = .ok (.aload_n 0, 1) := by decide +kernel
theorem dX11_about_112 : decode cX11_about 112 = .ok (.getfield 27, 3) := by decide +kernel
theorem dX11_about_115 : decode cX11_about 115 = .ok (.aload_n 0, 1) := by decide +kernel
theorem dX11_about_116 : decode cX11_about 116 = .ok (.getfield 279, 3) := by decide +kernel
theorem dX11_about_119 : decode cX11_about 119 = .ok (.iaload, 1) := by decide +kernel
theorem dX11_about_120 : decode cX11_about 120 = .ok (.ireturn, 1) := by decide +kernel
theorem dX11_about_121 : decode cX11_about 121 = .ok (.aload_n 0, 1) := by decide +kernel
theorem dX11_about_122 : decode cX11_about 122 = .ok (.invokevirtual 502, 3) := by decide +kernel
theorem dX11_about_125 : decode cX11_about 125 = .ok (.ireturn, 1) := by decide +kernel
theorem dX11_about_126 : decode cX11_about 126 = .ok (.aload_n 0, 1) := by decide +kernel
theorem dX11_about_127 : decode cX11_about 127 = .ok (.getfield 395, 3) := by decide +kernel
theorem dX11_about_130 : decode cX11_about 130 = .ok (.ireturn, 1) := by decide +kernel
theorem dX11_about_131 : decode cX11_about 131 = .ok (.aload_n 0, 1) := by decide +kernel
theorem dX11_about_132 : decode cX11_about 132 = .ok (.getfield 398, 3) := by decide +kernel
theorem dX11_about_135 : decode cX11_about 135 = .ok (.ireturn, 1) := by decide +kernel
theorem dX11_about_136 : decode cX11_about 136 = .ok (.aload_n 0, 1) := by decide +kernel
theorem dX11_about_137 : decode cX11_about 137 = .ok (.getfield 401, 3) := by decide +kernel
theorem dX11_about_140 : decode cX11_about 140 = .ok (.ireturn, 1) := by decide +kernel
theorem dX11_about_141 : decode cX11_about 141 = .ok (.aload_n 0, 1) := by decide +kernel
theorem dX11_about_142 : decode cX11_about 142 = .ok (.getfield 489, 3) := by decide +kernel
theorem dX11_about_145 : decode cX11_about 145 = .ok (.ireturn, 1) := by decide +kernel
theorem dX11_about_146 : decode cX11_about 146 = .ok (.aload_n 0, 1) := by decide +kernel
theorem dX11_about_147 : decode cX11_about 147 = .ok (.getfield 276, 3) := by decide +kernel
theorem dX11_about_150 : decode cX11_about 150 = .ok (.ireturn, 1) := by decide +kernel
theorem dX11_about_151 : decode cX11_about 151 = .ok (.aload_n 0, 1) := by decide +kernel
theorem dX11_about_152 : decode cX11_about 152 = .ok (.getfield 30, 3) := by decide +kernel
theorem dX11_about_155 : decode cX11_about 155 = .ok (.aload_n 0, 1) := by decide +kernel
theorem dX11_about_156 : decode cX11_about 156 = .ok (.getfield 279, 3) := by decide +kernel
theorem dX11_about_159 : decode cX11_about 159 = .ok (.iaload, 1) := by decide +kernel
theorem dX11_about_160 : decode cX11_about 160 = .ok (.ireturn, 1) := by decide +kernel
theorem dX11_about_161 : decode cX11_about 161 = .ok (.aload_n 0, 1) := by decide +kernel
theorem dX11_about_162 : decode cX11_about 162 = .ok (.getfield 404, 3) := by decide +kernel
theorem dX11_about_165 : decode cX11_about 165 = .ok (.ireturn, 1) := by decide +kernel
theorem dX11_about_166 : decode cX11_about 166 = .ok (.iconst (-1), 1) := by decide +kernel
theorem dX11_about_167 : decode cX11_about 167 = .ok (.ireturn, 1) := by decide +kernel
set_option maxHeartbeats 2000000 in
set_option maxRecDepth 20000 in
theorem c_X11_many (l : Launch) (D : va_G) (cy : Nat → ClassId) (B N : Nat) (bk : Int) (nr : Int) (M : MM) (hN : 257 ≤ N) (hI : Iv M) (hbk : M.1 210 40 = bk) (hnr : M.1 213 bk = nr) : CI l D cy B N 1 yX11_many cX11_many 1 (some .int) [rv B 210] M (fun z M' => M' = M ∧ (z = nr)) := by
  refine mk_CI (by decide) (Nat.le_of_ble_eq_true rfl) ?_
  intro X exl exD excy hnL hX hret
  have hce : 0 + 0 ≤ (xR X).cells ∧ 0 + 0 ≤ (xR X).slots := ⟨Nat.zero_le _, Nat.zero_le _⟩
  have hbk2 : 0 ≤ bk ∧ bk ≤ 1 := by have := hI.at 210 40 ro_210_40; omega
  have hnr2 : 0 ≤ nr ∧ nr ≤ 6 := by have := hI.at 213 bk (ra_213 _); omega
  show J X B N 0 0 0 [(0, rv B 210)] [] M
  refine j_aload_n hX dX11_many_0 rfl 0 rfl ?_
  refine gf_X11_20 hX (by omega) (by omega) kc_210 (fc_210_11 hI) (by decide) dX11_many_1 ?_
  refine j_aload_n hX dX11_many_4 rfl 0 rfl ?_
  refine gf_X11_279 hX (by omega) (by omega) kc_210 dX11_many_5 ?_
  refine j_top hbk ?_
  refine j_iald hX (by omega) (by omega) kc_213 (by omega) (by omega) (by omega) dX11_many_8 ?_
  refine j_top hnr ?_
  exact hret _ _ _ _ dX11_many_9 rfl (by omega) ⟨rfl, by first | assumption | omega⟩
set_option maxHeartbeats 2000000 in
set_option maxRecDepth 20000 in
theorem c_X11_isRoom (l : Launch) (D : va_G) (cy : Nat → ClassId) (B N : Nat) (bk : Int) (nr : Int) (a : Int) (M : MM) (hN : 257 ≤ N) (hI : Iv M) (hpa : I32 a) (hbk : M.1 210 40 = bk) (hnr : M.1 213 bk = nr) : CI l D cy B N 2 yX11_isRoom cX11_isRoom 2 (some .boolean) [rv B 210, iv a] M (fun z M' => M' = M ∧ (0 ≤ z ∧ z ≤ 1) ∧ (z = 1 → 0 ≤ a ∧ a < nr)) := by
  refine mk_CI (by decide) (Nat.le_of_ble_eq_true rfl) ?_
  intro X exl exD excy hnL hX hret
  have hce : 0 + 0 ≤ (xR X).cells ∧ 0 + 0 ≤ (xR X).slots := ⟨Nat.zero_le _, Nat.zero_le _⟩
  have hbk2 : 0 ≤ bk ∧ bk ≤ 1 := by have := hI.at 210 40 ro_210_40; omega
  have hnr2 : 0 ≤ nr ∧ nr ≤ 6 := by have := hI.at 213 bk (ra_213 _); omega
  show J X B N 0 0 0 [(0, rv B 210), (1, iv a)] [] M
  refine j_iload_n hX dX11_isRoom_0 rfl 1 rfl ?_
  refine j_iconst hX dX11_isRoom_1 ?_
  refine j_aload_n hX dX11_isRoom_2 rfl 0 rfl ?_
  refine j_callVI hX lk_X11_385 (c_X11_many _ _ _ _ _ _ _ _ (by omega) hI hbk hnr) (by omega) hce rfl rfl (by omega) (by omega) kc_210 rfl rfl (Nat.le_of_ble_eq_true rfl) dX11_isRoom_3 (fun z1 M2 hz4 hp3 => ?_)
  obtain ⟨hE5, hq6⟩ := hp3
  replace hE5 := hE5.symm
  subst hE5
  refine j_iconst hX dX11_isRoom_6 ?_
  refine j_isub hX dX11_isRoom_7 ?_
  refine j_callSI hX lk_X11_388 (c_X11_isIn _ _ _ _ _ _ _ _ _ (by omega) (by omega) (by omega)) (by omega) hce rfl rfl (Nat.le_of_ble_eq_true rfl) dX11_isRoom_8 (fun z7 M8 hz10 hp9 => ?_)
  obtain ⟨hE11, hb12, hq13, hq14⟩ := hp9
  replace hE11 := hE11.symm
  subst hE11
  exact hret _ _ _ _ dX11_isRoom_11 (nb (by omega)) (by omega) ⟨rfl, by omega, by first | assumption | omega⟩
set_option maxHeartbeats 2000000 in
set_option maxRecDepth 20000 in
theorem c_X11_isFact (l : Launch) (D : va_G) (cy : Nat → ClassId) (B N : Nat) (bk : Int) (a : Int) (M : MM) (hN : 257 ≤ N) (hI : Iv M) (hpa : I32 a) (hbk : M.1 210 40 = bk) : CI l D cy B N 2 yX11_isFact cX11_isFact 2 (some .boolean) [rv B 210, iv a] M (fun z M' => M' = M ∧ (0 ≤ z ∧ z ≤ 1) ∧ (z = 1 → 0 ≤ a ∧ a < 10)) := by
  refine mk_CI (by decide) (Nat.le_of_ble_eq_true rfl) ?_
  intro X exl exD excy hnL hX hret
  have hce : 0 + 0 ≤ (xR X).cells ∧ 0 + 0 ≤ (xR X).slots := ⟨Nat.zero_le _, Nat.zero_le _⟩
  have hbk2 : 0 ≤ bk ∧ bk ≤ 1 := by have := hI.at 210 40 ro_210_40; omega
  show J X B N 0 0 0 [(0, rv B 210), (1, iv a)] [] M
  refine j_iload_n hX dX11_isFact_0 rfl 1 rfl ?_
  refine j_iconst hX dX11_isFact_1 ?_
  refine j_aload_n hX dX11_isFact_2 rfl 0 rfl ?_
  refine gf_X11_24 hX (by omega) (by omega) kc_210 (fc_210_12 hI) (by decide) dX11_isFact_3 ?_
  refine j_aload_n hX dX11_isFact_6 rfl 0 rfl ?_
  refine gf_X11_279 hX (by omega) (by omega) kc_210 dX11_isFact_7 ?_
  refine j_top hbk ?_
  refine j_iald hX (by omega) (by omega) kc_214 (by omega) (by omega) (by omega) dX11_isFact_10 ?_
  refine j_name hI (ra_214 _) (fun v1 hv2 hl3 hh4 => ?_)
  refine j_iconst hX dX11_isFact_11 ?_
  refine j_isub hX dX11_isFact_12 ?_
  refine j_callSI hX lk_X11_388 (c_X11_isIn _ _ _ _ _ _ _ _ _ (by omega) (by omega) (by omega)) (by omega) hce rfl rfl (Nat.le_of_ble_eq_true rfl) dX11_isFact_13 (fun z5 M6 hz8 hp7 => ?_)
  obtain ⟨hE9, hb10, hq11, hq12⟩ := hp7
  replace hE9 := hE9.symm
  subst hE9
  exact hret _ _ _ _ dX11_isFact_16 (nb (by omega)) (by omega) ⟨rfl, by omega, by first | assumption | omega⟩
set_option maxHeartbeats 2000000 in
set_option maxRecDepth 20000 in
theorem c_X11_wantBy (l : Launch) (D : va_G) (cy : Nat → ClassId) (B N : Nat) (bk : Int) (a : Int) (b : Int) (M : MM) (hN : 257 ≤ N) (hI : Iv M) (hpa : I32 a) (hpb : I32 b) (hbk : M.1 210 40 = bk) (h1 : 0 ≤ a ∧ a < 6 ∧ 0 ≤ b ∧ b < 6) : CI l D cy B N 1 yX11_wantBy cX11_wantBy 3 (some .int) [rv B 210, iv a, iv b] M (fun z M' => M' = M) := by
  refine mk_CI (by decide) (Nat.le_of_ble_eq_true rfl) ?_
  intro X exl exD excy hnL hX hret
  have hce : 0 + 0 ≤ (xR X).cells ∧ 0 + 0 ≤ (xR X).slots := ⟨Nat.zero_le _, Nat.zero_le _⟩
  have hbk2 : 0 ≤ bk ∧ bk ≤ 1 := by have := hI.at 210 40 ro_210_40; omega
  show J X B N 0 0 0 [(0, rv B 210), (1, iv a), (2, iv b)] [] M
  refine j_aload_n hX dX11_wantBy_0 rfl 0 rfl ?_
  refine gf_X11_63 hX (by omega) (by omega) kc_210 (fc_210_25 hI) (by decide) dX11_wantBy_1 ?_
  refine j_bipush hX dX11_wantBy_4 rfl ?_
  refine j_bipush hX dX11_wantBy_6 rfl ?_
  refine j_aload_n hX dX11_wantBy_8 rfl 0 rfl ?_
  refine gf_X11_279 hX (by omega) (by omega) kc_210 dX11_wantBy_9 ?_
  refine j_top hbk ?_
  refine j_imul hX dX11_wantBy_12 ?_
  refine j_iload_n hX dX11_wantBy_13 rfl 1 rfl ?_
  refine j_iadd hX dX11_wantBy_14 ?_
  refine j_imul hX dX11_wantBy_15 ?_
  refine j_iload_n hX dX11_wantBy_16 rfl 2 rfl ?_
  refine j_iadd hX dX11_wantBy_17 ?_
  refine j_iald hX (by omega) (by omega) kc_227 (by omega) (by omega) (by omega) dX11_wantBy_18 ?_
  refine j_name hI (ra_227 _) (fun v1 hv2 hl3 hh4 => ?_)
  exact hret _ _ _ _ dX11_wantBy_19 rfl (by omega) rfl
set_option maxHeartbeats 2000000 in
set_option maxRecDepth 20000 in
theorem c_X11_factsOf (l : Launch) (D : va_G) (cy : Nat → ClassId) (B N : Nat) (bk : Int) (a : Int) (M : MM) (hN : 257 ≤ N) (hI : Iv M) (hpa : I32 a) (hbk : M.1 210 40 = bk) : CI l D cy B N 1 yX11_factsOf cX11_factsOf 4 (some .int) [rv B 210, iv a] M (fun z M' => M' = M) := by
  refine mk_CI (by decide) (Nat.le_of_ble_eq_true rfl) ?_
  intro X exl exD excy hnL hX hret
  have hce : 0 + 0 ≤ (xR X).cells ∧ 0 + 0 ≤ (xR X).slots := ⟨Nat.zero_le _, Nat.zero_le _⟩
  have hbk2 : 0 ≤ bk ∧ bk ≤ 1 := by have := hI.at 210 40 ro_210_40; omega
  have cp : ∀ n : Nat, (∀ (x2 x3 : Int), I32 x2 → I32 x3 → (0 ≤ x3 ∧ x3 ≤ 10) → 0 ≤ 32 * (10 - x3) + 1 → 32 * (10 - x3) + 1 < (n : Int) → J X B N 0 0 4 [(0, rv B 210), (1, iv a), (2, iv x2), (3, iv x3)] [] M) := by
    intro n
    induction n with
    | zero => exact by intros; exfalso; omega
    | succ n ih =>
      · intro x2 x3 hxx2 hxx3 h2 hm0 hm1
        refine j_iload_n hX dX11_factsOf_4 rfl 3 rfl ?_
        refine j_aload_n hX dX11_factsOf_5 rfl 0 rfl ?_
        refine gf_X11_24 hX (by omega) (by omega) kc_210 (fc_210_12 hI) (by decide) dX11_factsOf_6 ?_
        refine j_aload_n hX dX11_factsOf_9 rfl 0 rfl ?_
        refine gf_X11_279 hX (by omega) (by omega) kc_210 dX11_factsOf_10 ?_
        refine j_top hbk ?_
        refine j_iald hX (by omega) (by omega) kc_214 (by omega) (by omega) (by omega) dX11_factsOf_13 ?_
        refine j_name hI (ra_214 _) (fun v1 hv2 hl3 hh4 => ?_)
        refine j_icmp_ge (tgt := 47) hX dX11_factsOf_14 (by decide) (by omega) (by omega) (fun hc5 => ?_) (fun hc5 => ?_)
        · skip
          refine j_iload_n hX dX11_factsOf_47 rfl 2 rfl ?_
          exact hret _ _ _ _ dX11_factsOf_48 rfl (by omega) rfl
        · skip
          refine j_aload_n hX dX11_factsOf_17 rfl 0 rfl ?_
          refine gf_X11_51 hX (by omega) (by omega) kc_210 (fc_210_21 hI) (by decide) dX11_factsOf_18 ?_
          refine j_bipush hX dX11_factsOf_21 rfl ?_
          refine j_aload_n hX dX11_factsOf_23 rfl 0 rfl ?_
          refine gf_X11_279 hX (by omega) (by omega) kc_210 dX11_factsOf_24 ?_
          refine j_top hbk ?_
          refine j_imul hX dX11_factsOf_27 ?_
          refine j_iload_n hX dX11_factsOf_28 rfl 3 rfl ?_
          refine j_iadd hX dX11_factsOf_29 ?_
          refine j_iald hX (by omega) (by omega) kc_223 (by omega) (by omega) (by omega) dX11_factsOf_30 ?_
          refine j_name hI (ra_223 _) (fun v6 hv7 hl8 hh9 => ?_)
          refine j_iload_n hX dX11_factsOf_31 rfl 1 rfl ?_
          refine j_icmp_ne (tgt := 41) hX dX11_factsOf_32 (by decide) (by omega) (by omega) (fun hc10 => ?_) (fun hc10 => ?_)
          · skip
            refine j_iinc (lv' := [(3, _), (0, _), (1, _), (2, _)]) hX dX11_factsOf_41 3 rfl (by rw [hnL]; decide) rfl ?_
            refine j_goto (tgt := 4) hX dX11_factsOf_44 (by decide) ?_
            refine j_sub [1, 2, 3, 0] rfl ?_
            exact ih _ _ (by omega) (by omega) (by first | assumption | omega) (by omega) (by omega)
          · skip
            refine j_iload_n hX dX11_factsOf_35 rfl 2 rfl ?_
            refine j_iconst hX dX11_factsOf_36 ?_
            refine j_iload_n hX dX11_factsOf_37 rfl 3 rfl ?_
            refine j_ishl hX dX11_factsOf_38 (fun z11 hz12 hy13 => ?_)
            refine j_ior hX dX11_factsOf_39 (fun z14 hz15 hy16 => ?_)
            refine j_istore_n (lv' := [(2, _), (0, _), (1, _), (3, _)]) hX dX11_factsOf_40 rfl (by rw [hnL]; decide) rfl ?_
            refine j_iinc (lv' := [(3, _), (2, _), (0, _), (1, _)]) hX dX11_factsOf_41 3 rfl (by rw [hnL]; decide) rfl ?_
            refine j_goto (tgt := 4) hX dX11_factsOf_44 (by decide) ?_
            refine j_sub [2, 3, 1, 0] rfl ?_
            exact ih _ _ (by omega) (by omega) (by first | assumption | omega) (by omega) (by omega)
  show J X B N 0 0 0 [(0, rv B 210), (1, iv a)] [] M
  refine j_iconst hX dX11_factsOf_0 ?_
  refine j_istore_n (lv' := [(2, _), (0, _), (1, _)]) hX dX11_factsOf_1 rfl (by rw [hnL]; decide) rfl ?_
  refine j_iconst hX dX11_factsOf_2 ?_
  refine j_istore_n (lv' := [(3, _), (2, _), (0, _), (1, _)]) hX dX11_factsOf_3 rfl (by rw [hnL]; decide) rfl ?_
  refine j_sub [2, 3, 1, 0] rfl ?_
  refine (cp (Int.toNat (384 + 1))) _ _ (by omega) (by omega) (by first | assumption | omega) ?_ ?_
  · omega
  · omega
set_option maxHeartbeats 2000000 in
set_option maxRecDepth 20000 in
theorem c_X11_isDarkAt (l : Launch) (D : va_G) (cy : Nat → ClassId) (B N : Nat) (bk : Int) (a : Int) (M : MM) (hN : 257 ≤ N) (hI : Iv M) (hpa : I32 a) (hbk : M.1 210 40 = bk) : CI l D cy B N 1 yX11_isDarkAt cX11_isDarkAt 4 (some .boolean) [rv B 210, iv a] M (fun z M' => M' = M ∧ (0 ≤ z ∧ z ≤ 1)) := by
  refine mk_CI (by decide) (Nat.le_of_ble_eq_true rfl) ?_
  intro X exl exD excy hnL hX hret
  have hce : 0 + 0 ≤ (xR X).cells ∧ 0 + 0 ≤ (xR X).slots := ⟨Nat.zero_le _, Nat.zero_le _⟩
  have hbk2 : 0 ≤ bk ∧ bk ≤ 1 := by have := hI.at 210 40 ro_210_40; omega
  show J X B N 0 0 0 [(0, rv B 210), (1, iv a)] [] M
  refine j_aload_n hX dX11_isDarkAt_0 rfl 0 rfl ?_
  refine gf_X11_82 hX (by omega) (by omega) kc_210 (fc_210_31 hI) (by decide) dX11_isDarkAt_1 ?_
  refine j_aload_n hX dX11_isDarkAt_4 rfl 0 rfl ?_
  refine gf_X11_279 hX (by omega) (by omega) kc_210 dX11_isDarkAt_5 ?_
  refine j_top hbk ?_
  refine j_zald hX (by omega) (by omega) kc_233 (by omega) (by omega) (by omega) dX11_isDarkAt_8 ?_
  refine j_name hI (ra_233 _) (fun v1 hv2 hl3 hh4 => ?_)
  refine j_if_ne (tgt := 14) hX dX11_isDarkAt_9 (by decide) (by omega) (fun hc5 => ?_) (fun hc5 => ?_)
  · skip
    refine j_aload_n hX dX11_isDarkAt_14 rfl 0 rfl ?_
    refine gf_X11_39 hX (by omega) (by omega) kc_210 (fc_210_17 hI) (by decide) dX11_isDarkAt_15 ?_
    refine j_aload_n hX dX11_isDarkAt_18 rfl 0 rfl ?_
    refine gf_X11_279 hX (by omega) (by omega) kc_210 dX11_isDarkAt_19 ?_
    refine j_top hbk ?_
    refine j_iald hX (by omega) (by omega) kc_219 (by omega) (by omega) (by omega) dX11_isDarkAt_22 ?_
    refine j_name hI (ra_219 _) (fun v6 hv7 hl8 hh9 => ?_)
    refine j_istore_n (lv' := [(2, _), (0, _), (1, _)]) hX dX11_isDarkAt_23 rfl (by rw [hnL]; decide) rfl ?_
    refine j_aload_n hX dX11_isDarkAt_24 rfl 1 rfl ?_
    refine gf_X11_42 hX (by omega) (by omega) kc_210 (fc_210_18 hI) (by decide) dX11_isDarkAt_25 ?_
    refine j_aload_n hX dX11_isDarkAt_28 rfl 1 rfl ?_
    refine gf_X11_279 hX (by omega) (by omega) kc_210 dX11_isDarkAt_29 ?_
    refine j_top hbk ?_
    refine j_iald hX (by omega) (by omega) kc_220 (by omega) (by omega) (by omega) dX11_isDarkAt_32 ?_
    refine j_name hI (ra_220 _) (fun v10 hv11 hl12 hh13 => ?_)
    refine j_istore_n (lv' := [(3, _), (2, _), (0, _), (1, _)]) hX dX11_isDarkAt_33 rfl (by rw [hnL]; decide) rfl ?_
    refine j_iload_n hX dX11_isDarkAt_34 rfl 1 rfl ?_
    refine j_iload_n hX dX11_isDarkAt_35 rfl 0 rfl ?_
    refine j_icmp_gt (tgt := 57) hX dX11_isDarkAt_36 (by decide) (by omega) (by omega) (fun hc14 => ?_) (fun hc14 => ?_)
    · skip
      refine j_iload_n hX dX11_isDarkAt_57 rfl 3 rfl ?_
      refine j_iload_n hX dX11_isDarkAt_58 rfl 1 rfl ?_
      refine j_icmp_ge (tgt := 67) hX dX11_isDarkAt_59 (by decide) (by omega) (by omega) (fun hc15 => ?_) (fun hc15 => ?_)
      · skip
        refine j_iconst hX dX11_isDarkAt_67 ?_
        refine j_goto (tgt := 72) hX dX11_isDarkAt_68 (by decide) ?_
        exact hret _ _ _ _ dX11_isDarkAt_72 (nb (by omega)) (by omega) ⟨rfl, by omega⟩
      · skip
        refine j_iload_n hX dX11_isDarkAt_62 rfl 3 rfl ?_
        refine j_iload_n hX dX11_isDarkAt_63 rfl 0 rfl ?_
        refine j_icmp_gt (tgt := 71) hX dX11_isDarkAt_64 (by decide) (by omega) (by omega) (fun hc16 => ?_) (fun hc16 => ?_)
        · skip
          refine j_iconst hX dX11_isDarkAt_71 ?_
          exact hret _ _ _ _ dX11_isDarkAt_72 (nb (by omega)) (by omega) ⟨rfl, by omega⟩
        · skip
          refine j_iconst hX dX11_isDarkAt_67 ?_
          refine j_goto (tgt := 72) hX dX11_isDarkAt_68 (by decide) ?_
          exact hret _ _ _ _ dX11_isDarkAt_72 (nb (by omega)) (by omega) ⟨rfl, by omega⟩
    · skip
      refine j_iload_n hX dX11_isDarkAt_39 rfl 3 rfl ?_
      refine j_iload_n hX dX11_isDarkAt_40 rfl 1 rfl ?_
      refine j_icmp_lt (tgt := 53) hX dX11_isDarkAt_41 (by decide) (by omega) (by omega) (fun hc17 => ?_) (fun hc17 => ?_)
      · skip
        refine j_iconst hX dX11_isDarkAt_53 ?_
        refine j_goto (tgt := 72) hX dX11_isDarkAt_54 (by decide) ?_
        exact hret _ _ _ _ dX11_isDarkAt_72 (nb (by omega)) (by omega) ⟨rfl, by omega⟩
      · skip
        refine j_iload_n hX dX11_isDarkAt_44 rfl 3 rfl ?_
        refine j_iload_n hX dX11_isDarkAt_45 rfl 0 rfl ?_
        refine j_icmp_gt (tgt := 53) hX dX11_isDarkAt_46 (by decide) (by omega) (by omega) (fun hc18 => ?_) (fun hc18 => ?_)
        · skip
          refine j_iconst hX dX11_isDarkAt_53 ?_
          refine j_goto (tgt := 72) hX dX11_isDarkAt_54 (by decide) ?_
          exact hret _ _ _ _ dX11_isDarkAt_72 (nb (by omega)) (by omega) ⟨rfl, by omega⟩
        · skip
          refine j_iconst hX dX11_isDarkAt_49 ?_
          refine j_goto (tgt := 72) hX dX11_isDarkAt_50 (by decide) ?_
          exact hret _ _ _ _ dX11_isDarkAt_72 (nb (by omega)) (by omega) ⟨rfl, by omega⟩
  · skip
    refine j_iconst hX dX11_isDarkAt_12 ?_
    exact hret _ _ _ _ dX11_isDarkAt_13 (nb (by omega)) (by omega) ⟨rfl, by omega⟩
set_option maxHeartbeats 2000000 in
set_option maxRecDepth 20000 in
theorem c_X11_doesSee (l : Launch) (D : va_G) (cy : Nat → ClassId) (B N : Nat) (a : Int) (M : MM) (hN : 257 ≤ N) (hI : Iv M) (hpa : I32 a) (h1 : 0 ≤ a ∧ a < 6) : CI l D cy B N 2 yX11_doesSee cX11_doesSee 2 (some .boolean) [rv B 210, iv a] M (fun z M' => M' = M ∧ (0 ≤ z ∧ z ≤ 1)) := by
  refine mk_CI (by decide) (Nat.le_of_ble_eq_true rfl) ?_
  intro X exl exD excy hnL hX hret
  have hce : 0 + 0 ≤ (xR X).cells ∧ 0 + 0 ≤ (xR X).slots := ⟨Nat.zero_le _, Nat.zero_le _⟩
  show J X B N 0 0 0 [(0, rv B 210), (1, iv a)] [] M
  refine j_aload_n hX dX11_doesSee_0 rfl 0 rfl ?_
  refine gf_X11_110 hX (by omega) (by omega) kc_210 (fc_210_47 hI) (by decide) dX11_doesSee_1 ?_
  refine j_bipush hX dX11_doesSee_4 rfl ?_
  refine j_iald hX (by omega) (by omega) kc_242 (by omega) (by omega) (by omega) dX11_doesSee_6 ?_
  refine j_name hI ro_242_6 (fun v1 hv2 hl3 hh4 => ?_)
  have hk5 := hv2.symm
  refine j_aload_n hX dX11_doesSee_7 rfl 0 rfl ?_
  refine gf_X11_110 hX (by omega) (by omega) kc_210 (fc_210_47 hI) (by decide) dX11_doesSee_8 ?_
  refine j_iconst hX dX11_doesSee_11 ?_
  refine j_iload_n hX dX11_doesSee_12 rfl 1 rfl ?_
  refine j_iadd hX dX11_doesSee_13 ?_
  refine j_iald hX (by omega) (by omega) kc_242 (by omega) (by omega) (by omega) dX11_doesSee_14 ?_
  refine j_name hI (rs_242 (by omega) (by omega)) (fun v6 hv7 hl8 hh9 => ?_)
  refine j_callSI hX lk_X11_368 (c_X11_has _ _ _ _ _ _ _ _ (by omega) (by omega)) (by omega) hce rfl rfl (Nat.le_of_ble_eq_true rfl) dX11_doesSee_15 (fun z10 M11 hz13 hp12 => ?_)
  obtain ⟨hE14, hb15, hq16⟩ := hp12
  replace hE14 := hE14.symm
  subst hE14
  refine j_if_ne (tgt := 25) hX dX11_doesSee_18 (by decide) (by omega) (fun hc17 => ?_) (fun hc17 => ?_)
  · skip
    refine j_iconst hX dX11_doesSee_25 ?_
    exact hret _ _ _ _ dX11_doesSee_26 (nb (by omega)) (by omega) ⟨rfl, by omega⟩
  · skip
    refine j_iconst hX dX11_doesSee_21 ?_
    refine j_goto (tgt := 26) hX dX11_doesSee_22 (by decide) ?_
    exact hret _ _ _ _ dX11_doesSee_26 (nb (by omega)) (by omega) ⟨rfl, by omega⟩
set_option maxHeartbeats 2000000 in
set_option maxRecDepth 20000 in
theorem c_X11_factsNow (l : Launch) (D : va_G) (cy : Nat → ClassId) (B N : Nat) (bk : Int) (a : Int) (M : MM) (hN : 257 ≤ N) (hI : Iv M) (hpa : I32 a) (hbk : M.1 210 40 = bk) : CI l D cy B N 2 yX11_factsNow cX11_factsNow 5 (some .int) [rv B 210, iv a] M (fun z M' => M' = M) := by
  refine mk_CI (by decide) (Nat.le_of_ble_eq_true rfl) ?_
  intro X exl exD excy hnL hX hret
  have hce : 0 + 0 ≤ (xR X).cells ∧ 0 + 0 ≤ (xR X).slots := ⟨Nat.zero_le _, Nat.zero_le _⟩
  have hbk2 : 0 ≤ bk ∧ bk ≤ 1 := by have := hI.at 210 40 ro_210_40; omega
  have cp : ∀ n : Nat, (∀ (x2 x3 x4 : Int), I32 x2 → I32 x3 → I32 x4 → (0 ≤ x4 ∧ x4 ≤ 10) → (0 ≤ x3 ∧ x3 ≤ 1) → 0 ≤ 32 * (10 - x4) + 1 → 32 * (10 - x4) + 1 < (n : Int) → J X B N 0 0 17 [(0, rv B 210), (1, iv a), (2, iv x2), (3, iv x3), (4, iv x4)] [] M) := by
    intro n
    induction n with
    | zero => exact by intros; exfalso; omega
    | succ n ih =>
      · intro x2 x3 x4 hxx2 hxx3 hxx4 h2 h3 hm0 hm1
        refine j_iload hX dX11_factsNow_17 4 rfl ?_
        refine j_aload_n hX dX11_factsNow_19 rfl 0 rfl ?_
        refine gf_X11_24 hX (by omega) (by omega) kc_210 (fc_210_12 hI) (by decide) dX11_factsNow_20 ?_
        refine j_aload_n hX dX11_factsNow_23 rfl 0 rfl ?_
        refine gf_X11_279 hX (by omega) (by omega) kc_210 dX11_factsNow_24 ?_
        refine j_top hbk ?_
        refine j_iald hX (by omega) (by omega) kc_214 (by omega) (by omega) (by omega) dX11_factsNow_27 ?_
        refine j_name hI (ra_214 _) (fun v1 hv2 hl3 hh4 => ?_)
        refine j_icmp_ge (tgt := 109) hX dX11_factsNow_28 (by decide) (by omega) (by omega) (fun hc5 => ?_) (fun hc5 => ?_)
        · skip
          refine j_iload_n hX dX11_factsNow_109 rfl 2 rfl ?_
          exact hret _ _ _ _ dX11_factsNow_110 rfl (by omega) rfl
        · skip
          refine j_aload_n hX dX11_factsNow_31 rfl 0 rfl ?_
          refine gf_X11_51 hX (by omega) (by omega) kc_210 (fc_210_21 hI) (by decide) dX11_factsNow_32 ?_
          refine j_bipush hX dX11_factsNow_35 rfl ?_
          refine j_aload_n hX dX11_factsNow_37 rfl 0 rfl ?_
          refine gf_X11_279 hX (by omega) (by omega) kc_210 dX11_factsNow_38 ?_
          refine j_top hbk ?_
          refine j_imul hX dX11_factsNow_41 ?_
          refine j_iload hX dX11_factsNow_42 4 rfl ?_
          refine j_iadd hX dX11_factsNow_44 ?_
          refine j_iald hX (by omega) (by omega) kc_223 (by omega) (by omega) (by omega) dX11_factsNow_45 ?_
          refine j_name hI (ra_223 _) (fun v6 hv7 hl8 hh9 => ?_)
          refine j_iload_n hX dX11_factsNow_46 rfl 1 rfl ?_
          refine j_icmp_ne (tgt := 103) hX dX11_factsNow_47 (by decide) (by omega) (by omega) (fun hc10 => ?_) (fun hc10 => ?_)
          · skip
            refine j_iinc (lv' := [(4, _), (0, _), (1, _), (2, _), (3, _)]) hX dX11_factsNow_103 4 rfl (by rw [hnL]; decide) rfl ?_
            refine j_goto (tgt := 17) hX dX11_factsNow_106 (by decide) ?_
            refine j_sub [1, 2, 3, 4, 0] rfl ?_
            exact ih _ _ _ (by omega) (by omega) (by omega) (by first | assumption | omega) (by first | assumption | omega) (by omega) (by omega)
          · skip
            refine j_aload_n hX dX11_factsNow_50 rfl 0 rfl ?_
            refine gf_X11_54 hX (by omega) (by omega) kc_210 (fc_210_22 hI) (by decide) dX11_factsNow_51 ?_
            refine j_bipush hX dX11_factsNow_54 rfl ?_
            refine j_aload_n hX dX11_factsNow_56 rfl 0 rfl ?_
            refine gf_X11_279 hX (by omega) (by omega) kc_210 dX11_factsNow_57 ?_
            refine j_top hbk ?_
            refine j_imul hX dX11_factsNow_60 ?_
            refine j_iload hX dX11_factsNow_61 4 rfl ?_
            refine j_iadd hX dX11_factsNow_63 ?_
            refine j_iald hX (by omega) (by omega) kc_224 (by omega) (by omega) (by omega) dX11_factsNow_64 ?_
            refine j_name hI (ra_224 _) (fun v11 hv12 hl13 hh14 => ?_)
            refine j_aload_n hX dX11_factsNow_65 rfl 0 rfl ?_
            refine gf_X11_110 hX (by omega) (by omega) kc_210 (fc_210_47 hI) (by decide) dX11_factsNow_66 ?_
            refine j_bipush hX dX11_factsNow_69 rfl ?_
            refine j_iald hX (by omega) (by omega) kc_242 (by omega) (by omega) (by omega) dX11_factsNow_71 ?_
            refine j_name hI ro_242_13 (fun v15 hv16 hl17 hh18 => ?_)
            have hk19 := hv16.symm
            refine j_icmp_ne (tgt := 103) hX dX11_factsNow_72 (by decide) (by omega) (by omega) (fun hc20 => ?_) (fun hc20 => ?_)
            · skip
              refine j_iinc (lv' := [(4, _), (0, _), (1, _), (2, _), (3, _)]) hX dX11_factsNow_103 4 rfl (by rw [hnL]; decide) rfl ?_
              refine j_goto (tgt := 17) hX dX11_factsNow_106 (by decide) ?_
              refine j_sub [1, 2, 3, 4, 0] rfl ?_
              exact ih _ _ _ (by omega) (by omega) (by omega) (by first | assumption | omega) (by first | assumption | omega) (by omega) (by omega)
            · skip
              refine j_iload_n hX dX11_factsNow_75 rfl 3 rfl ?_
              refine j_if_eq (tgt := 96) hX dX11_factsNow_76 (by decide) (by omega) (fun hc21 => ?_) (fun hc21 => ?_)
              · skip
                refine j_iload_n hX dX11_factsNow_96 rfl 2 rfl ?_
                refine j_iconst hX dX11_factsNow_97 ?_
                refine j_iload hX dX11_factsNow_98 4 rfl ?_
                refine j_ishl hX dX11_factsNow_100 (fun z22 hz23 hy24 => ?_)
                refine j_ior hX dX11_factsNow_101 (fun z25 hz26 hy27 => ?_)
                refine j_istore_n (lv' := [(2, _), (0, _), (1, _), (3, _), (4, _)]) hX dX11_factsNow_102 rfl (by rw [hnL]; decide) rfl ?_
                refine j_iinc (lv' := [(4, _), (2, _), (0, _), (1, _), (3, _)]) hX dX11_factsNow_103 4 rfl (by rw [hnL]; decide) rfl ?_
                refine j_goto (tgt := 17) hX dX11_factsNow_106 (by decide) ?_
                refine j_sub [2, 3, 1, 4, 0] rfl ?_
                exact ih _ _ _ (by omega) (by omega) (by omega) (by first | assumption | omega) (by first | assumption | omega) (by omega) (by omega)
              · skip
                refine j_aload_n hX dX11_factsNow_79 rfl 0 rfl ?_
                refine gf_X11_57 hX (by omega) (by omega) kc_210 (fc_210_23 hI) (by decide) dX11_factsNow_80 ?_
                refine j_aload_n hX dX11_factsNow_83 rfl 0 rfl ?_
                refine gf_X11_279 hX (by omega) (by omega) kc_210 dX11_factsNow_84 ?_
                refine j_top hbk ?_
                refine j_iald hX (by omega) (by omega) kc_225 (by omega) (by omega) (by omega) dX11_factsNow_87 ?_
                refine j_name hI (ra_225 _) (fun v28 hv29 hl30 hh31 => ?_)
                refine j_iload hX dX11_factsNow_88 4 rfl ?_
                refine j_callSI hX lk_X11_368 (c_X11_has _ _ _ _ _ _ _ _ (by omega) (by omega)) (by omega) hce rfl rfl (Nat.le_of_ble_eq_true rfl) dX11_factsNow_90 (fun z32 M33 hz35 hp34 => ?_)
                obtain ⟨hE36, hb37, hq38⟩ := hp34
                replace hE36 := hE36.symm
                subst hE36
                refine j_if_eq (tgt := 103) hX dX11_factsNow_93 (by decide) (by omega) (fun hc39 => ?_) (fun hc39 => ?_)
                · skip
                  refine j_iinc (lv' := [(4, _), (0, _), (1, _), (2, _), (3, _)]) hX dX11_factsNow_103 4 rfl (by rw [hnL]; decide) rfl ?_
                  refine j_goto (tgt := 17) hX dX11_factsNow_106 (by decide) ?_
                  refine j_sub [1, 2, 3, 4, 0] rfl ?_
                  exact ih _ _ _ (by omega) (by omega) (by omega) (by first | assumption | omega) (by first | assumption | omega) (by omega) (by omega)
                · skip
                  refine j_iload_n hX dX11_factsNow_96 rfl 2 rfl ?_
                  refine j_iconst hX dX11_factsNow_97 ?_
                  refine j_iload hX dX11_factsNow_98 4 rfl ?_
                  refine j_ishl hX dX11_factsNow_100 (fun z40 hz41 hy42 => ?_)
                  refine j_ior hX dX11_factsNow_101 (fun z43 hz44 hy45 => ?_)
                  refine j_istore_n (lv' := [(2, _), (0, _), (1, _), (3, _), (4, _)]) hX dX11_factsNow_102 rfl (by rw [hnL]; decide) rfl ?_
                  refine j_iinc (lv' := [(4, _), (2, _), (0, _), (1, _), (3, _)]) hX dX11_factsNow_103 4 rfl (by rw [hnL]; decide) rfl ?_
                  refine j_goto (tgt := 17) hX dX11_factsNow_106 (by decide) ?_
                  refine j_sub [2, 3, 1, 4, 0] rfl ?_
                  exact ih _ _ _ (by omega) (by omega) (by omega) (by first | assumption | omega) (by first | assumption | omega) (by omega) (by omega)
  show J X B N 0 0 0 [(0, rv B 210), (1, iv a)] [] M
  refine j_iconst hX dX11_factsNow_0 ?_
  refine j_istore_n (lv' := [(2, _), (0, _), (1, _)]) hX dX11_factsNow_1 rfl (by rw [hnL]; decide) rfl ?_
  refine j_aload_n hX dX11_factsNow_2 rfl 1 rfl ?_
  refine j_aload_n hX dX11_factsNow_3 rfl 1 rfl ?_
  refine gf_X11_110 hX (by omega) (by omega) kc_210 (fc_210_47 hI) (by decide) dX11_factsNow_4 ?_
  refine j_bipush hX dX11_factsNow_7 rfl ?_
  refine j_iald hX (by omega) (by omega) kc_242 (by omega) (by omega) (by omega) dX11_factsNow_9 ?_
  refine j_name hI ro_242_13 (fun v46 hv47 hl48 hh49 => ?_)
  have hk50 := hv47.symm
  refine j_callVI hX lk_X11_410 (c_X11_isDarkAt _ _ _ _ _ _ _ _ (by omega) hI (by omega) hbk) (by omega) hce rfl rfl (by omega) (by omega) kc_210 rfl rfl (Nat.le_of_ble_eq_true rfl) dX11_factsNow_10 (fun z51 M52 hz54 hp53 => ?_)
  obtain ⟨hE55, hb56⟩ := hp53
  replace hE55 := hE55.symm
  subst hE55
  refine j_istore_n (lv' := [(3, _), (2, _), (0, _), (1, _)]) hX dX11_factsNow_13 rfl (by rw [hnL]; decide) rfl ?_
  refine j_iconst hX dX11_factsNow_14 ?_
  refine j_istore (lv' := [(4, _), (3, _), (2, _), (0, _), (1, _)]) hX dX11_factsNow_15 (by rw [hnL]; decide) rfl ?_
  refine j_sub [3, 4, 2, 1, 0] rfl ?_
  refine (cp (Int.toNat (384 + 1))) _ _ _ (by omega) (by omega) (by omega) (by first | assumption | omega) (by first | assumption | omega) ?_ ?_
  · omega
  · omega
set_option maxHeartbeats 2000000 in
set_option maxRecDepth 20000 in
theorem c_X11_knownToAll (l : Launch) (D : va_G) (cy : Nat → ClassId) (B N : Nat) (bk : Int) (nr : Int) (M : MM) (hN : 257 ≤ N) (hI : Iv M) (hbk : M.1 210 40 = bk) (hnr : M.1 213 bk = nr) : CI l D cy B N 2 yX11_knownToAll cX11_knownToAll 3 (some .int) [rv B 210] M (fun z M' => M' = M) := by
  refine mk_CI (by decide) (Nat.le_of_ble_eq_true rfl) ?_
  intro X exl exD excy hnL hX hret
  have hce : 0 + 0 ≤ (xR X).cells ∧ 0 + 0 ≤ (xR X).slots := ⟨Nat.zero_le _, Nat.zero_le _⟩
  have hbk2 : 0 ≤ bk ∧ bk ≤ 1 := by have := hI.at 210 40 ro_210_40; omega
  have hnr2 : 0 ≤ nr ∧ nr ≤ 6 := by have := hI.at 213 bk (ra_213 _); omega
  have cp : ∀ n : Nat, (∀ (x1 x2 : Int), I32 x1 → I32 x2 → (0 ≤ x2 ∧ x2 ≤ 6) → 0 ≤ 32 * (6 - x2) + 1 → 32 * (6 - x2) + 1 < (n : Int) → J X B N 0 0 4 [(0, rv B 210), (1, iv x1), (2, iv x2)] [] M) := by
    intro n
    induction n with
    | zero => exact by intros; exfalso; omega
    | succ n ih =>
      · intro x1 x2 hxx1 hxx2 h2 hm0 hm1
        refine j_iload_n hX dX11_knownToAll_4 rfl 2 rfl ?_
        refine j_aload_n hX dX11_knownToAll_5 rfl 0 rfl ?_
        refine j_callVI hX lk_X11_385 (c_X11_many _ _ _ _ _ _ _ _ (by omega) hI hbk hnr) (by omega) hce rfl rfl (by omega) (by omega) kc_210 rfl rfl (Nat.le_of_ble_eq_true rfl) dX11_knownToAll_6 (fun z1 M2 hz4 hp3 => ?_)
        obtain ⟨hE5, hq6⟩ := hp3
        replace hE5 := hE5.symm
        subst hE5
        refine j_icmp_ge (tgt := 33) hX dX11_knownToAll_9 (by decide) (by omega) (by omega) (fun hc7 => ?_) (fun hc7 => ?_)
        · skip
          refine j_iload_n hX dX11_knownToAll_33 rfl 1 rfl ?_
          exact hret _ _ _ _ dX11_knownToAll_34 rfl (by omega) rfl
        · skip
          refine j_iload_n hX dX11_knownToAll_12 rfl 1 rfl ?_
          refine j_aload_n hX dX11_knownToAll_13 rfl 0 rfl ?_
          refine gf_X11_110 hX (by omega) (by omega) kc_210 (fc_210_47 hI) (by decide) dX11_knownToAll_14 ?_
          refine j_bipush hX dX11_knownToAll_17 rfl ?_
          refine j_iload_n hX dX11_knownToAll_19 rfl 2 rfl ?_
          refine j_iadd hX dX11_knownToAll_20 ?_
          refine j_iald hX (by omega) (by omega) kc_242 (by omega) (by omega) (by omega) dX11_knownToAll_21 ?_
          refine j_name hI (rk_242 (by omega) (by omega)) (fun v8 hv9 hl10 hh11 => ?_)
          refine j_callSI hX lk_X11_372 (c_X11_bitsOf _ _ _ _ _ _ _ (by omega)) (by omega) hce rfl rfl (Nat.le_of_ble_eq_true rfl) dX11_knownToAll_22 (fun z12 M13 hz15 hp14 => ?_)
          have hE16 := hp14.symm
          subst hE16
          refine j_iadd hX dX11_knownToAll_25 ?_
          refine j_norm (fun z17 hz18 hy19 => ?_)
          refine j_istore_n (lv' := [(1, _), (0, _), (2, _)]) hX dX11_knownToAll_26 rfl (by rw [hnL]; decide) rfl ?_
          refine j_iinc (lv' := [(2, _), (1, _), (0, _)]) hX dX11_knownToAll_27 2 rfl (by rw [hnL]; decide) rfl ?_
          refine j_goto (tgt := 4) hX dX11_knownToAll_30 (by decide) ?_
          refine j_sub [2, 1, 0] rfl ?_
          exact ih _ _ (by omega) (by omega) (by first | assumption | omega) (by omega) (by omega)
  show J X B N 0 0 0 [(0, rv B 210)] [] M
  refine j_iconst hX dX11_knownToAll_0 ?_
  refine j_istore_n (lv' := [(1, _), (0, _)]) hX dX11_knownToAll_1 rfl (by rw [hnL]; decide) rfl ?_
  refine j_iconst hX dX11_knownToAll_2 ?_
  refine j_istore_n (lv' := [(2, _), (1, _), (0, _)]) hX dX11_knownToAll_3 rfl (by rw [hnL]; decide) rfl ?_
  refine j_sub [2, 1, 0] rfl ?_
  refine (cp (Int.toNat (256 + 1))) _ _ (by omega) (by omega) (by first | assumption | omega) ?_ ?_
  · omega
  · omega
set_option maxHeartbeats 2000000 in
set_option maxRecDepth 20000 in
theorem c_X11_knowersOf (l : Launch) (D : va_G) (cy : Nat → ClassId) (B N : Nat) (bk : Int) (nr : Int) (a : Int) (M : MM) (hN : 257 ≤ N) (hI : Iv M) (hpa : I32 a) (hbk : M.1 210 40 = bk) (hnr : M.1 213 bk = nr) : CI l D cy B N 2 yX11_knowersOf cX11_knowersOf 4 (some .int) [rv B 210, iv a] M (fun z M' => M' = M) := by
  refine mk_CI (by decide) (Nat.le_of_ble_eq_true rfl) ?_
  intro X exl exD excy hnL hX hret
  have hce : 0 + 0 ≤ (xR X).cells ∧ 0 + 0 ≤ (xR X).slots := ⟨Nat.zero_le _, Nat.zero_le _⟩
  have hbk2 : 0 ≤ bk ∧ bk ≤ 1 := by have := hI.at 210 40 ro_210_40; omega
  have hnr2 : 0 ≤ nr ∧ nr ≤ 6 := by have := hI.at 213 bk (ra_213 _); omega
  have cp : ∀ n : Nat, (∀ (x2 x3 : Int), I32 x2 → I32 x3 → (0 ≤ x3 ∧ x3 ≤ 6) → 0 ≤ 32 * (6 - x3) + 1 → 32 * (6 - x3) + 1 < (n : Int) → J X B N 0 0 4 [(0, rv B 210), (1, iv a), (2, iv x2), (3, iv x3)] [] M) := by
    intro n
    induction n with
    | zero => exact by intros; exfalso; omega
    | succ n ih =>
      · intro x2 x3 hxx2 hxx3 h2 hm0 hm1
        refine j_iload_n hX dX11_knowersOf_4 rfl 3 rfl ?_
        refine j_aload_n hX dX11_knowersOf_5 rfl 0 rfl ?_
        refine j_callVI hX lk_X11_385 (c_X11_many _ _ _ _ _ _ _ _ (by omega) hI hbk hnr) (by omega) hce rfl rfl (by omega) (by omega) kc_210 rfl rfl (Nat.le_of_ble_eq_true rfl) dX11_knowersOf_6 (fun z1 M2 hz4 hp3 => ?_)
        obtain ⟨hE5, hq6⟩ := hp3
        replace hE5 := hE5.symm
        subst hE5
        refine j_icmp_ge (tgt := 40) hX dX11_knowersOf_9 (by decide) (by omega) (by omega) (fun hc7 => ?_) (fun hc7 => ?_)
        · skip
          refine j_iload_n hX dX11_knowersOf_40 rfl 2 rfl ?_
          exact hret _ _ _ _ dX11_knowersOf_41 rfl (by omega) rfl
        · skip
          refine j_aload_n hX dX11_knowersOf_12 rfl 0 rfl ?_
          refine gf_X11_110 hX (by omega) (by omega) kc_210 (fc_210_47 hI) (by decide) dX11_knowersOf_13 ?_
          refine j_bipush hX dX11_knowersOf_16 rfl ?_
          refine j_iload_n hX dX11_knowersOf_18 rfl 3 rfl ?_
          refine j_iadd hX dX11_knowersOf_19 ?_
          refine j_iald hX (by omega) (by omega) kc_242 (by omega) (by omega) (by omega) dX11_knowersOf_20 ?_
          refine j_name hI (rk_242 (by omega) (by omega)) (fun v8 hv9 hl10 hh11 => ?_)
          refine j_iload_n hX dX11_knowersOf_21 rfl 1 rfl ?_
          refine j_callSI hX lk_X11_368 (c_X11_has _ _ _ _ _ _ _ _ (by omega) (by omega)) (by omega) hce rfl rfl (Nat.le_of_ble_eq_true rfl) dX11_knowersOf_22 (fun z12 M13 hz15 hp14 => ?_)
          obtain ⟨hE16, hb17, hq18⟩ := hp14
          replace hE16 := hE16.symm
          subst hE16
          refine j_if_eq (tgt := 34) hX dX11_knowersOf_25 (by decide) (by omega) (fun hc19 => ?_) (fun hc19 => ?_)
          · skip
            refine j_iinc (lv' := [(3, _), (0, _), (1, _), (2, _)]) hX dX11_knowersOf_34 3 rfl (by rw [hnL]; decide) rfl ?_
            refine j_goto (tgt := 4) hX dX11_knowersOf_37 (by decide) ?_
            refine j_sub [1, 2, 3, 0] rfl ?_
            exact ih _ _ (by omega) (by omega) (by first | assumption | omega) (by omega) (by omega)
          · skip
            refine j_iload_n hX dX11_knowersOf_28 rfl 2 rfl ?_
            refine j_iconst hX dX11_knowersOf_29 ?_
            refine j_iload_n hX dX11_knowersOf_30 rfl 3 rfl ?_
            refine j_ishl hX dX11_knowersOf_31 (fun z20 hz21 hy22 => ?_)
            refine j_ior hX dX11_knowersOf_32 (fun z23 hz24 hy25 => ?_)
            refine j_istore_n (lv' := [(2, _), (0, _), (1, _), (3, _)]) hX dX11_knowersOf_33 rfl (by rw [hnL]; decide) rfl ?_
            refine j_iinc (lv' := [(3, _), (2, _), (0, _), (1, _)]) hX dX11_knowersOf_34 3 rfl (by rw [hnL]; decide) rfl ?_
            refine j_goto (tgt := 4) hX dX11_knowersOf_37 (by decide) ?_
            refine j_sub [2, 3, 1, 0] rfl ?_
            exact ih _ _ (by omega) (by omega) (by first | assumption | omega) (by omega) (by omega)
  show J X B N 0 0 0 [(0, rv B 210), (1, iv a)] [] M
  refine j_iconst hX dX11_knowersOf_0 ?_
  refine j_istore_n (lv' := [(2, _), (0, _), (1, _)]) hX dX11_knowersOf_1 rfl (by rw [hnL]; decide) rfl ?_
  refine j_iconst hX dX11_knowersOf_2 ?_
  refine j_istore_n (lv' := [(3, _), (2, _), (0, _), (1, _)]) hX dX11_knowersOf_3 rfl (by rw [hnL]; decide) rfl ?_
  refine j_sub [2, 3, 1, 0] rfl ?_
  refine (cp (Int.toNat (256 + 1))) _ _ (by omega) (by omega) (by first | assumption | omega) ?_ ?_
  · omega
  · omega
set_option maxHeartbeats 2000000 in
set_option maxRecDepth 20000 in
theorem c_X11_fault (l : Launch) (D : va_G) (cy : Nat → ClassId) (B N : Nat) (a : Int) (M : MM) (hN : 257 ≤ N) (hI : Iv M) (hpa : I32 a) : CI l D cy B N 1 yX11_fault cX11_fault 2 (some .int) [rv B 210, iv a] M (fun z M' => M' = M) := by
  refine mk_CI (by decide) (Nat.le_of_ble_eq_true rfl) ?_
  intro X exl exD excy hnL hX hret
  have hce : 0 + 0 ≤ (xR X).cells ∧ 0 + 0 ≤ (xR X).slots := ⟨Nat.zero_le _, Nat.zero_le _⟩
  show J X B N 0 0 0 [(0, rv B 210), (1, iv a)] [] M
  refine j_iload_n hX dX11_fault_0 rfl 1 rfl ?_
  refine j_if_ne (tgt := 11) hX dX11_fault_1 (by decide) (by omega) (fun hc1 => ?_) (fun hc1 => ?_)
  · skip
    refine j_iload_n hX dX11_fault_11 rfl 1 rfl ?_
    refine j_iconst hX dX11_fault_12 ?_
    refine j_icmp_ne (tgt := 23) hX dX11_fault_13 (by decide) (by omega) (by omega) (fun hc2 => ?_) (fun hc2 => ?_)
    · skip
      refine j_iconst hX dX11_fault_23 ?_
      exact hret _ _ _ _ dX11_fault_24 rfl (by omega) rfl
    · skip
      refine j_aload_n hX dX11_fault_16 rfl 0 rfl ?_
      refine gf_X11_16 hX (by omega) (by omega) kc_210 dX11_fault_17 ?_
      refine j_name hI ro_210_5 (fun v3 hv4 hl5 hh6 => ?_)
      have hk7 := hv4.symm
      refine j_goto (tgt := 24) hX dX11_fault_20 (by decide) ?_
      exact hret _ _ _ _ dX11_fault_24 rfl (by omega) rfl
  · skip
    refine j_aload_n hX dX11_fault_4 rfl 0 rfl ?_
    refine gf_X11_164 hX (by omega) (by omega) kc_210 dX11_fault_5 ?_
    refine j_name hI ro_210_4 (fun v8 hv9 hl10 hh11 => ?_)
    have hk12 := hv9.symm
    refine j_goto (tgt := 24) hX dX11_fault_8 (by decide) ?_
    exact hret _ _ _ _ dX11_fault_24 rfl (by omega) rfl
set_option maxHeartbeats 2000000 in
set_option maxRecDepth 20000 in
theorem c_X11_fact (l : Launch) (D : va_G) (cy : Nat → ClassId) (B N : Nat) (bk : Int) (nr : Int) (a : Int) (b : Int) (M : MM) (hN : 257 ≤ N) (hI : Iv M) (hpa : I32 a) (hpb : I32 b) (hbk : M.1 210 40 = bk) (hnr : M.1 213 bk = nr) : CI l D cy B N 3 yX11_fact cX11_fact 3 (some .int) [rv B 210, iv a, iv b] M (fun z M' => M' = M) := by
  refine mk_CI (by decide) (Nat.le_of_ble_eq_true rfl) ?_
  intro X exl exD excy hnL hX hret
  have hce : 0 + 0 ≤ (xR X).cells ∧ 0 + 0 ≤ (xR X).slots := ⟨Nat.zero_le _, Nat.zero_le _⟩
  have hbk2 : 0 ≤ bk ∧ bk ≤ 1 := by have := hI.at 210 40 ro_210_40; omega
  have hnr2 : 0 ≤ nr ∧ nr ≤ 6 := by have := hI.at 213 bk (ra_213 _); omega
  show J X B N 0 0 0 [(0, rv B 210), (1, iv a), (2, iv b)] [] M
  refine j_aload_n hX dX11_fact_0 rfl 0 rfl ?_
  refine j_iload_n hX dX11_fact_1 rfl 1 rfl ?_
  refine j_callVI hX lk_X11_429 (c_X11_isFact _ _ _ _ _ _ _ _ (by omega) hI (by omega) hbk) (by omega) hce rfl rfl (by omega) (by omega) kc_210 rfl rfl (Nat.le_of_ble_eq_true rfl) dX11_fact_2 (fun z1 M2 hz4 hp3 => ?_)
  obtain ⟨hE5, hb6, hq7⟩ := hp3
  replace hE5 := hE5.symm
  subst hE5
  refine j_if_ne (tgt := 10) hX dX11_fact_5 (by decide) (by omega) (fun hc8 => ?_) (fun hc8 => ?_)
  · skip
    have hi9 := hq7 (by omega)
    clear hq7
    refine j_iload_n hX dX11_fact_10 rfl 2 rfl ?_
    refine j_table (tgd := 90) hX dX11_fact_11 (by omega) (by decide) (fun hc10 => ?_) (fun hc11 hc12 => ?_)
    · skip
      refine j_iconst hX dX11_fact_90 ?_
      exact hret _ _ _ _ dX11_fact_91 rfl (by omega) rfl
    · rcases (by omega : b = 0 ∨ b = 1 ∨ b = 2 ∨ b = 3) with hc13 | hc13 | hc13 | hc13
      · refine ⟨29, 40, by rw [hc13]; rfl, by decide, ?_⟩
        refine j_aload_n hX dX11_fact_40 rfl 0 rfl ?_
        refine gf_X11_51 hX (by omega) (by omega) kc_210 (fc_210_21 hI) (by decide) dX11_fact_41 ?_
        refine j_bipush hX dX11_fact_44 rfl ?_
        refine j_aload_n hX dX11_fact_46 rfl 0 rfl ?_
        refine gf_X11_279 hX (by omega) (by omega) kc_210 dX11_fact_47 ?_
        refine j_top hbk ?_
        refine j_imul hX dX11_fact_50 ?_
        refine j_iload_n hX dX11_fact_51 rfl 1 rfl ?_
        refine j_iadd hX dX11_fact_52 ?_
        refine j_iald hX (by omega) (by omega) kc_223 (by omega) (by omega) (by omega) dX11_fact_53 ?_
        refine j_name hI (ra_223 _) (fun v14 hv15 hl16 hh17 => ?_)
        exact hret _ _ _ _ dX11_fact_54 rfl (by omega) rfl
      · refine ⟨44, 55, by rw [hc13]; rfl, by decide, ?_⟩
        refine j_aload_n hX dX11_fact_55 rfl 0 rfl ?_
        refine gf_X11_54 hX (by omega) (by omega) kc_210 (fc_210_22 hI) (by decide) dX11_fact_56 ?_
        refine j_bipush hX dX11_fact_59 rfl ?_
        refine j_aload_n hX dX11_fact_61 rfl 0 rfl ?_
        refine gf_X11_279 hX (by omega) (by omega) kc_210 dX11_fact_62 ?_
        refine j_top hbk ?_
        refine j_imul hX dX11_fact_65 ?_
        refine j_iload_n hX dX11_fact_66 rfl 1 rfl ?_
        refine j_iadd hX dX11_fact_67 ?_
        refine j_iald hX (by omega) (by omega) kc_224 (by omega) (by omega) (by omega) dX11_fact_68 ?_
        refine j_name hI (ra_224 _) (fun v18 hv19 hl20 hh21 => ?_)
        exact hret _ _ _ _ dX11_fact_69 rfl (by omega) rfl
      · refine ⟨59, 70, by rw [hc13]; rfl, by decide, ?_⟩
        refine j_aload_n hX dX11_fact_70 rfl 0 rfl ?_
        refine gf_X11_57 hX (by omega) (by omega) kc_210 (fc_210_23 hI) (by decide) dX11_fact_71 ?_
        refine j_aload_n hX dX11_fact_74 rfl 0 rfl ?_
        refine gf_X11_279 hX (by omega) (by omega) kc_210 dX11_fact_75 ?_
        refine j_top hbk ?_
        refine j_iald hX (by omega) (by omega) kc_225 (by omega) (by omega) (by omega) dX11_fact_78 ?_
        refine j_name hI (ra_225 _) (fun v22 hv23 hl24 hh25 => ?_)
        refine j_iload_n hX dX11_fact_79 rfl 1 rfl ?_
        refine j_ishr hX dX11_fact_80 (fun z26 hz27 hy28 => ?_)
        refine j_iconst hX dX11_fact_81 ?_
        refine j_iand hX dX11_fact_82 (fun z29 hz30 hy31 => ?_)
        have ha32 := (and_f hz30 (by omega) (by omega)).2 (by omega)
        exact hret _ _ _ _ dX11_fact_83 rfl (by omega) rfl
      · refine ⟨73, 84, by rw [hc13]; rfl, by decide, ?_⟩
        refine j_aload_n hX dX11_fact_84 rfl 0 rfl ?_
        refine j_iload_n hX dX11_fact_85 rfl 1 rfl ?_
        refine j_callVI hX lk_X11_432 (c_X11_knowersOf _ _ _ _ _ _ _ _ _ (by omega) hI (by omega) hbk hnr) (by omega) hce rfl rfl (by omega) (by omega) kc_210 rfl rfl (Nat.le_of_ble_eq_true rfl) dX11_fact_86 (fun z33 M34 hz36 hp35 => ?_)
        have hE37 := hp35.symm
        subst hE37
        exact hret _ _ _ _ dX11_fact_89 rfl (by omega) rfl
  · skip
    clear hq7
    refine j_iconst hX dX11_fact_8 ?_
    exact hret _ _ _ _ dX11_fact_9 rfl (by omega) rfl
set_option maxHeartbeats 2000000 in
set_option maxRecDepth 20000 in
theorem c_X11_wants (l : Launch) (D : va_G) (cy : Nat → ClassId) (B N : Nat) (bk : Int) (nr : Int) (a : Int) (b : Int) (M : MM) (hN : 257 ≤ N) (hI : Iv M) (hpa : I32 a) (hpb : I32 b) (hbk : M.1 210 40 = bk) (hnr : M.1 213 bk = nr) : CI l D cy B N 3 yX11_wants cX11_wants 3 (some .int) [rv B 210, iv a, iv b] M (fun z M' => M' = M) := by
  refine mk_CI (by decide) (Nat.le_of_ble_eq_true rfl) ?_
  intro X exl exD excy hnL hX hret
  have hce : 0 + 0 ≤ (xR X).cells ∧ 0 + 0 ≤ (xR X).slots := ⟨Nat.zero_le _, Nat.zero_le _⟩
  have hbk2 : 0 ≤ bk ∧ bk ≤ 1 := by have := hI.at 210 40 ro_210_40; omega
  have hnr2 : 0 ≤ nr ∧ nr ≤ 6 := by have := hI.at 213 bk (ra_213 _); omega
  show J X B N 0 0 0 [(0, rv B 210), (1, iv a), (2, iv b)] [] M
  refine j_aload_n hX dX11_wants_0 rfl 0 rfl ?_
  refine j_iload_n hX dX11_wants_1 rfl 1 rfl ?_
  refine j_callVI hX lk_X11_419 (c_X11_isRoom _ _ _ _ _ _ _ _ _ (by omega) hI (by omega) hbk hnr) (by omega) hce rfl rfl (by omega) (by omega) kc_210 rfl rfl (Nat.le_of_ble_eq_true rfl) dX11_wants_2 (fun z1 M2 hz4 hp3 => ?_)
  obtain ⟨hE5, hb6, hq7⟩ := hp3
  replace hE5 := hE5.symm
  subst hE5
  refine j_if_eq (tgt := 25) hX dX11_wants_5 (by decide) (by omega) (fun hc8 => ?_) (fun hc8 => ?_)
  · skip
    clear hq7
    refine j_iconst hX dX11_wants_25 ?_
    exact hret _ _ _ _ dX11_wants_26 rfl (by omega) rfl
  · skip
    have hi9 := hq7 (by omega)
    clear hq7
    refine j_aload_n hX dX11_wants_8 rfl 0 rfl ?_
    refine j_iload_n hX dX11_wants_9 rfl 2 rfl ?_
    refine j_callVI hX lk_X11_419 (c_X11_isRoom _ _ _ _ _ _ _ _ _ (by omega) hI (by omega) hbk hnr) (by omega) hce rfl rfl (by omega) (by omega) kc_210 rfl rfl (Nat.le_of_ble_eq_true rfl) dX11_wants_10 (fun z10 M11 hz13 hp12 => ?_)
    obtain ⟨hE14, hb15, hq16⟩ := hp12
    replace hE14 := hE14.symm
    subst hE14
    refine j_if_eq (tgt := 25) hX dX11_wants_13 (by decide) (by omega) (fun hc17 => ?_) (fun hc17 => ?_)
    · skip
      clear hq16
      refine j_iconst hX dX11_wants_25 ?_
      exact hret _ _ _ _ dX11_wants_26 rfl (by omega) rfl
    · skip
      have hi18 := hq16 (by omega)
      clear hq16
      refine j_aload_n hX dX11_wants_16 rfl 0 rfl ?_
      refine j_iload_n hX dX11_wants_17 rfl 1 rfl ?_
      refine j_iload_n hX dX11_wants_18 rfl 2 rfl ?_
      refine j_callVI hX lk_X11_375 (c_X11_wantBy _ _ _ _ _ _ _ _ _ (by omega) hI (by omega) (by omega) hbk (by first | assumption | omega)) (by omega) hce rfl rfl (by omega) (by omega) kc_210 rfl rfl (Nat.le_of_ble_eq_true rfl) dX11_wants_19 (fun z19 M20 hz22 hp21 => ?_)
      have hE23 := hp21.symm
      subst hE23
      refine j_goto (tgt := 26) hX dX11_wants_22 (by decide) ?_
      exact hret _ _ _ _ dX11_wants_26 rfl (by omega) rfl
set_option maxHeartbeats 2000000 in
set_option maxRecDepth 20000 in
theorem c_X11_dark (l : Launch) (D : va_G) (cy : Nat → ClassId) (B N : Nat) (bk : Int) (a : Int) (M : MM) (hN : 257 ≤ N) (hI : Iv M) (hpa : I32 a) (hbk : M.1 210 40 = bk) : CI l D cy B N 2 yX11_dark cX11_dark 2 (some .int) [rv B 210, iv a] M (fun z M' => M' = M) := by
  refine mk_CI (by decide) (Nat.le_of_ble_eq_true rfl) ?_
  intro X exl exD excy hnL hX hret
  have hce : 0 + 0 ≤ (xR X).cells ∧ 0 + 0 ≤ (xR X).slots := ⟨Nat.zero_le _, Nat.zero_le _⟩
  have hbk2 : 0 ≤ bk ∧ bk ≤ 1 := by have := hI.at 210 40 ro_210_40; omega
  show J X B N 0 0 0 [(0, rv B 210), (1, iv a)] [] M
  refine j_iload_n hX dX11_dark_0 rfl 1 rfl ?_
  refine j_iconst hX dX11_dark_1 ?_
  refine j_bipush hX dX11_dark_2 rfl ?_
  refine j_callSI hX lk_X11_388 (c_X11_isIn _ _ _ _ _ _ _ _ _ (by omega) (by omega) (by omega)) (by omega) hce rfl rfl (Nat.le_of_ble_eq_true rfl) dX11_dark_4 (fun z1 M2 hz4 hp3 => ?_)
  obtain ⟨hE5, hb6, hq7, hq8⟩ := hp3
  replace hE5 := hE5.symm
  subst hE5
  refine j_if_ne (tgt := 14) hX dX11_dark_7 (by decide) (by omega) (fun hc9 => ?_) (fun hc9 => ?_)
  · skip
    have hi10 := hq7 (by omega)
    clear hq7
    clear hq8
    refine j_aload_n hX dX11_dark_14 rfl 0 rfl ?_
    refine j_iload_n hX dX11_dark_15 rfl 1 rfl ?_
    refine j_callVI hX lk_X11_410 (c_X11_isDarkAt _ _ _ _ _ _ _ _ (by omega) hI (by omega) hbk) (by omega) hce rfl rfl (by omega) (by omega) kc_210 rfl rfl (Nat.le_of_ble_eq_true rfl) dX11_dark_16 (fun z11 M12 hz14 hp13 => ?_)
    obtain ⟨hE15, hb16⟩ := hp13
    replace hE15 := hE15.symm
    subst hE15
    refine j_if_eq (tgt := 26) hX dX11_dark_19 (by decide) (by omega) (fun hc17 => ?_) (fun hc17 => ?_)
    · skip
      refine j_iconst hX dX11_dark_26 ?_
      exact hret _ _ _ _ dX11_dark_27 rfl (by omega) rfl
    · skip
      refine j_iconst hX dX11_dark_22 ?_
      refine j_goto (tgt := 27) hX dX11_dark_23 (by decide) ?_
      exact hret _ _ _ _ dX11_dark_27 rfl (by omega) rfl
  · skip
    clear hq7
    have hi18 := hq8 (by omega)
    clear hq8
    refine j_iconst hX dX11_dark_10 ?_
    refine j_goto (tgt := 27) hX dX11_dark_11 (by decide) ?_
    exact hret _ _ _ _ dX11_dark_27 rfl (by omega) rfl
set_option maxHeartbeats 2000000 in
set_option maxRecDepth 20000 in
theorem c_X11_lies (l : Launch) (D : va_G) (cy : Nat → ClassId) (B N : Nat) (a : Int) (M : MM) (hN : 257 ≤ N) (hI : Iv M) (hpa : I32 a) : CI l D cy B N 2 yX11_lies cX11_lies 2 (some .int) [rv B 210, iv a] M (fun z M' => M' = M) := by
  refine mk_CI (by decide) (Nat.le_of_ble_eq_true rfl) ?_
  intro X exl exD excy hnL hX hret
  have hce : 0 + 0 ≤ (xR X).cells ∧ 0 + 0 ≤ (xR X).slots := ⟨Nat.zero_le _, Nat.zero_le _⟩
  show J X B N 0 0 0 [(0, rv B 210), (1, iv a)] [] M
  refine j_iload_n hX dX11_lies_0 rfl 1 rfl ?_
  refine j_iconst hX dX11_lies_1 ?_
  refine j_aload_n hX dX11_lies_2 rfl 0 rfl ?_
  refine gf_X11_404 hX (by omega) (by omega) kc_210 dX11_lies_3 ?_
  refine j_name hI ro_210_54 (fun v1 hv2 hl3 hh4 => ?_)
  have hk5 := hv2.symm
  refine j_iconst hX dX11_lies_6 ?_
  refine j_isub hX dX11_lies_7 ?_
  refine j_callSI hX lk_X11_388 (c_X11_isIn _ _ _ _ _ _ _ _ _ (by omega) (by omega) (by omega)) (by omega) hce rfl rfl (Nat.le_of_ble_eq_true rfl) dX11_lies_8 (fun z6 M7 hz9 hp8 => ?_)
  obtain ⟨hE10, hb11, hq12, hq13⟩ := hp8
  replace hE10 := hE10.symm
  subst hE10
  refine j_if_eq (tgt := 23) hX dX11_lies_11 (by decide) (by omega) (fun hc14 => ?_) (fun hc14 => ?_)
  · skip
    clear hq12
    have hi15 := hq13 (by omega)
    clear hq13
    refine j_iconst hX dX11_lies_23 ?_
    exact hret _ _ _ _ dX11_lies_24 rfl (by omega) rfl
  · skip
    have hi16 := hq12 (by omega)
    clear hq12
    clear hq13
    refine j_aload_n hX dX11_lies_14 rfl 0 rfl ?_
    refine gf_X11_122 hX (by omega) (by omega) kc_210 (fc_210_53 hI) (by decide) dX11_lies_15 ?_
    refine j_iload_n hX dX11_lies_18 rfl 1 rfl ?_
    refine j_iald hX (by omega) (by omega) kc_246 (by omega) (by omega) (by omega) dX11_lies_19 ?_
    refine j_name hI (ra_246 _) (fun v17 hv18 hl19 hh20 => ?_)
    refine j_goto (tgt := 24) hX dX11_lies_20 (by decide) ?_
    exact hret _ _ _ _ dX11_lies_24 rfl (by omega) rfl
set_option maxHeartbeats 2000000 in
set_option maxRecDepth 20000 in
theorem c_X11_harm (l : Launch) (D : va_G) (cy : Nat → ClassId) (B N : Nat) (bk : Int) (nr : Int) (a : Int) (M : MM) (hN : 257 ≤ N) (hI : Iv M) (hpa : I32 a) (hbk : M.1 210 40 = bk) (hnr : M.1 213 bk = nr) : CI l D cy B N 3 yX11_harm cX11_harm 4 (some .int) [rv B 210, iv a] M (fun z M' => M' = M) := by
  refine mk_CI (by decide) (Nat.le_of_ble_eq_true rfl) ?_
  intro X exl exD excy hnL hX hret
  have hce : 0 + 0 ≤ (xR X).cells ∧ 0 + 0 ≤ (xR X).slots := ⟨Nat.zero_le _, Nat.zero_le _⟩
  have hbk2 : 0 ≤ bk ∧ bk ≤ 1 := by have := hI.at 210 40 ro_210_40; omega
  have hnr2 : 0 ≤ nr ∧ nr ≤ 6 := by have := hI.at 213 bk (ra_213 _); omega
  have cp : ∀ n : Nat, (∀ (x2 x3 : Int), I32 x2 → I32 x3 → (0 ≤ x3 ∧ x3 ≤ 6) → 0 ≤ 32 * (6 - x3) + 1 → 32 * (6 - x3) + 1 < (n : Int) → J X B N 0 0 14 [(0, rv B 210), (1, iv a), (2, iv x2), (3, iv x3)] [] M) := by
    intro n
    induction n with
    | zero => exact by intros; exfalso; omega
    | succ n ih =>
      · intro x2 x3 hxx2 hxx3 h2 hm0 hm1
        refine j_iload_n hX dX11_harm_14 rfl 3 rfl ?_
        refine j_aload_n hX dX11_harm_15 rfl 0 rfl ?_
        refine j_callVI hX lk_X11_385 (c_X11_many _ _ _ _ _ _ _ _ (by omega) hI hbk hnr) (by omega) hce rfl rfl (by omega) (by omega) kc_210 rfl rfl (Nat.le_of_ble_eq_true rfl) dX11_harm_16 (fun z1 M2 hz4 hp3 => ?_)
        obtain ⟨hE5, hq6⟩ := hp3
        replace hE5 := hE5.symm
        subst hE5
        refine j_icmp_ge (tgt := 54) hX dX11_harm_19 (by decide) (by omega) (by omega) (fun hc7 => ?_) (fun hc7 => ?_)
        · skip
          refine j_iload_n hX dX11_harm_54 rfl 2 rfl ?_
          exact hret _ _ _ _ dX11_harm_55 rfl (by omega) rfl
        · skip
          refine j_iload_n hX dX11_harm_22 rfl 3 rfl ?_
          refine j_iload_n hX dX11_harm_23 rfl 1 rfl ?_
          refine j_icmp_eq (tgt := 48) hX dX11_harm_24 (by decide) (by omega) (by omega) (fun hc8 => ?_) (fun hc8 => ?_)
          · skip
            refine j_iinc (lv' := [(3, _), (0, _), (1, _), (2, _)]) hX dX11_harm_48 3 rfl (by rw [hnL]; decide) rfl ?_
            refine j_goto (tgt := 14) hX dX11_harm_51 (by decide) ?_
            refine j_sub [1, 2, 3, 0] rfl ?_
            exact ih _ _ (by omega) (by omega) (by first | assumption | omega) (by omega) (by omega)
          · skip
            refine j_iload_n hX dX11_harm_27 rfl 2 rfl ?_
            refine j_aload_n hX dX11_harm_28 rfl 0 rfl ?_
            refine gf_X11_110 hX (by omega) (by omega) kc_210 (fc_210_47 hI) (by decide) dX11_harm_29 ?_
            refine j_bipush hX dX11_harm_32 rfl ?_
            refine j_iload_n hX dX11_harm_34 rfl 3 rfl ?_
            refine j_iadd hX dX11_harm_35 ?_
            refine j_iald hX (by omega) (by omega) kc_242 (by omega) (by omega) (by omega) dX11_harm_36 ?_
            refine j_name hI (rk_242 (by omega) (by omega)) (fun v9 hv10 hl11 hh12 => ?_)
            refine j_aload_n hX dX11_harm_37 rfl 0 rfl ?_
            refine j_iload_n hX dX11_harm_38 rfl 1 rfl ?_
            refine j_callVI hX lk_X11_392 (c_X11_factsOf _ _ _ _ _ _ _ _ (by omega) hI (by omega) hbk) (by omega) hce rfl rfl (by omega) (by omega) kc_210 rfl rfl (Nat.le_of_ble_eq_true rfl) dX11_harm_39 (fun z13 M14 hz16 hp15 => ?_)
            have hE17 := hp15.symm
            subst hE17
            refine j_iand hX dX11_harm_42 (fun z18 hz19 hy20 => ?_)
            refine j_callSI hX lk_X11_372 (c_X11_bitsOf _ _ _ _ _ _ _ (by omega)) (by omega) hce rfl rfl (Nat.le_of_ble_eq_true rfl) dX11_harm_43 (fun z21 M22 hz24 hp23 => ?_)
            have hE25 := hp23.symm
            subst hE25
            refine j_iadd hX dX11_harm_46 ?_
            refine j_norm (fun z26 hz27 hy28 => ?_)
            refine j_istore_n (lv' := [(2, _), (0, _), (1, _), (3, _)]) hX dX11_harm_47 rfl (by rw [hnL]; decide) rfl ?_
            refine j_iinc (lv' := [(3, _), (2, _), (0, _), (1, _)]) hX dX11_harm_48 3 rfl (by rw [hnL]; decide) rfl ?_
            refine j_goto (tgt := 14) hX dX11_harm_51 (by decide) ?_
            refine j_sub [2, 3, 1, 0] rfl ?_
            exact ih _ _ (by omega) (by omega) (by first | assumption | omega) (by omega) (by omega)
  show J X B N 0 0 0 [(0, rv B 210), (1, iv a)] [] M
  refine j_aload_n hX dX11_harm_0 rfl 0 rfl ?_
  refine j_iload_n hX dX11_harm_1 rfl 1 rfl ?_
  refine j_callVI hX lk_X11_419 (c_X11_isRoom _ _ _ _ _ _ _ _ _ (by omega) hI (by omega) hbk hnr) (by omega) hce rfl rfl (by omega) (by omega) kc_210 rfl rfl (Nat.le_of_ble_eq_true rfl) dX11_harm_2 (fun z29 M30 hz32 hp31 => ?_)
  obtain ⟨hE33, hb34, hq35⟩ := hp31
  replace hE33 := hE33.symm
  subst hE33
  refine j_if_ne (tgt := 10) hX dX11_harm_5 (by decide) (by omega) (fun hc36 => ?_) (fun hc36 => ?_)
  · skip
    have hi37 := hq35 (by omega)
    clear hq35
    refine j_iconst hX dX11_harm_10 ?_
    refine j_istore_n (lv' := [(2, _), (0, _), (1, _)]) hX dX11_harm_11 rfl (by rw [hnL]; decide) rfl ?_
    refine j_iconst hX dX11_harm_12 ?_
    refine j_istore_n (lv' := [(3, _), (2, _), (0, _), (1, _)]) hX dX11_harm_13 rfl (by rw [hnL]; decide) rfl ?_
    refine j_sub [2, 3, 1, 0] rfl ?_
    refine (cp (Int.toNat (256 + 1))) _ _ (by omega) (by omega) (by first | assumption | omega) ?_ ?_
    · omega
    · omega
  · skip
    clear hq35
    refine j_iconst hX dX11_harm_8 ?_
    exact hret _ _ _ _ dX11_harm_9 rfl (by omega) rfl
set_option maxHeartbeats 2000000 in
set_option maxRecDepth 20000 in
theorem c_X11_aim (l : Launch) (D : va_G) (cy : Nat → ClassId) (B N : Nat) (bk : Int) (nr : Int) (a : Int) (b : Int) (M : MM) (hN : 257 ≤ N) (hI : Iv M) (hpa : I32 a) (hpb : I32 b) (hbk : M.1 210 40 = bk) (hnr : M.1 213 bk = nr) : CI l D cy B N 3 yX11_aim cX11_aim 4 (some .boolean) [rv B 210, iv a, iv b] M (fun z M' => Iv M' ∧ Fr (fun a (_ : Int) => (a = 247)) M M' ∧ (0 ≤ z ∧ z ≤ 1)) := by
  refine mk_CI (by decide) (Nat.le_of_ble_eq_true rfl) ?_
  intro X exl exD excy hnL hX hret
  have hce : 0 + 0 ≤ (xR X).cells ∧ 0 + 0 ≤ (xR X).slots := ⟨Nat.zero_le _, Nat.zero_le _⟩
  have hF : Fr (fun a (_ : Int) => (a = 247)) M M := Fr.rf
  have hbk2 : 0 ≤ bk ∧ bk ≤ 1 := by have := hI.at 210 40 ro_210_40; omega
  have hnr2 : 0 ≤ nr ∧ nr ≤ 6 := by have := hI.at 213 bk (ra_213 _); omega
  have cp : ∀ n : Nat, (∀ (x3 : Int), ∀ (Mc : MM), I32 x3 → Iv Mc → Fr (fun a (_ : Int) => (a = 247)) M Mc → Mc.1 210 40 = bk → Mc.1 213 bk = nr → (0 ≤ x3 ∧ x3 ≤ 6) → (0 ≤ a ∧ a < nr ∧ 0 ≤ b ∧ b < nr) → 0 ≤ 32 * (6 - x3) + 1 → 32 * (6 - x3) + 1 < (n : Int) → J X B N 0 0 20 [(0, rv B 210), (1, iv a), (2, iv b), (3, iv x3)] [] Mc) := by
    intro n
    induction n with
    | zero => exact by intros; exfalso; omega
    | succ n ih =>
      · intro x3 Mc hxx3 hI hF hk_0 hk_1 h2 h3 hm0 hm1
        refine j_iload_n hX dX11_aim_20 rfl 3 rfl ?_
        refine j_aload_n hX dX11_aim_21 rfl 0 rfl ?_
        refine j_callVI hX lk_X11_385 (c_X11_many _ _ _ _ _ _ _ _ (by omega) hI hk_0 hk_1) (by omega) hce rfl rfl (by omega) (by omega) kc_210 rfl rfl (Nat.le_of_ble_eq_true rfl) dX11_aim_22 (fun z1 M2 hz4 hp3 => ?_)
        obtain ⟨hE5, hq6⟩ := hp3
        replace hE5 := hE5.symm
        subst hE5
        refine j_icmp_ge (tgt := 51) hX dX11_aim_25 (by decide) (by omega) (by omega) (fun hc7 => ?_) (fun hc7 => ?_)
        · skip
          refine j_aload_n hX dX11_aim_51 rfl 0 rfl ?_
          refine gf_X11_125 hX (by omega) (by omega) kc_210 (fc_210_55 hI) (by decide) dX11_aim_52 ?_
          refine j_iload_n hX dX11_aim_55 rfl 1 rfl ?_
          refine j_iload_n hX dX11_aim_56 rfl 2 rfl ?_
          refine j_iast hX (by omega) (by omega) kc_247 (by omega) (by omega) (by omega) (by omega) dX11_aim_57 ?_
          refine j_up hI (ra_247 _) (by omega) (by omega) (Or.inl (by omega)) (fun M8 w9 hw10 hM11 hI12 hf13 => ?_)
          have hk14 := kp_up hM11 (fun h => absurd h.1 (by decide)) hk_0
          have hk15 := kp_up hM11 (fun h => absurd h.1 (by decide)) hk_1
          have hF16 := Fr.put hF hM11 (by omega)
          refine j_iconst hX dX11_aim_58 ?_
          exact hret _ _ _ _ dX11_aim_59 (nb (by omega)) (by omega) ⟨hI12, hF16, by omega⟩
        · skip
          refine j_iload_n hX dX11_aim_28 rfl 3 rfl ?_
          refine j_iload_n hX dX11_aim_29 rfl 1 rfl ?_
          refine j_icmp_eq (tgt := 45) hX dX11_aim_30 (by decide) (by omega) (by omega) (fun hc17 => ?_) (fun hc17 => ?_)
          · skip
            refine j_iinc (lv' := [(3, _), (0, _), (1, _), (2, _)]) hX dX11_aim_45 3 rfl (by rw [hnL]; decide) rfl ?_
            refine j_goto (tgt := 20) hX dX11_aim_48 (by decide) ?_
            refine j_sub [1, 2, 3, 0] rfl ?_
            exact ih _ _ (by omega) hI hF hk_0 hk_1 (by first | assumption | omega) (by first | assumption | omega) (by omega) (by omega)
          · skip
            refine j_aload_n hX dX11_aim_33 rfl 0 rfl ?_
            refine gf_X11_125 hX (by omega) (by omega) kc_210 (fc_210_55 hI) (by decide) dX11_aim_34 ?_
            refine j_iload_n hX dX11_aim_37 rfl 3 rfl ?_
            refine j_iald hX (by omega) (by omega) kc_247 (by omega) (by omega) (by omega) dX11_aim_38 ?_
            refine j_name hI (ra_247 _) (fun v18 hv19 hl20 hh21 => ?_)
            refine j_iload_n hX dX11_aim_39 rfl 2 rfl ?_
            refine j_icmp_ne (tgt := 45) hX dX11_aim_40 (by decide) (by omega) (by omega) (fun hc22 => ?_) (fun hc22 => ?_)
            · skip
              refine j_iinc (lv' := [(3, _), (0, _), (1, _), (2, _)]) hX dX11_aim_45 3 rfl (by rw [hnL]; decide) rfl ?_
              refine j_goto (tgt := 20) hX dX11_aim_48 (by decide) ?_
              refine j_sub [1, 2, 3, 0] rfl ?_
              exact ih _ _ (by omega) hI hF hk_0 hk_1 (by first | assumption | omega) (by first | assumption | omega) (by omega) (by omega)
            · skip
              refine j_iconst hX dX11_aim_43 ?_
              exact hret _ _ _ _ dX11_aim_44 (nb (by omega)) (by omega) ⟨hI, hF, by omega⟩
  show J X B N 0 0 0 [(0, rv B 210), (1, iv a), (2, iv b)] [] M
  refine j_aload_n hX dX11_aim_0 rfl 0 rfl ?_
  refine j_iload_n hX dX11_aim_1 rfl 1 rfl ?_
  refine j_callVI hX lk_X11_419 (c_X11_isRoom _ _ _ _ _ _ _ _ _ (by omega) hI (by omega) hbk hnr) (by omega) hce rfl rfl (by omega) (by omega) kc_210 rfl rfl (Nat.le_of_ble_eq_true rfl) dX11_aim_2 (fun z23 M24 hz26 hp25 => ?_)
  obtain ⟨hE27, hb28, hq29⟩ := hp25
  replace hE27 := hE27.symm
  subst hE27
  refine j_if_eq (tgt := 16) hX dX11_aim_5 (by decide) (by omega) (fun hc30 => ?_) (fun hc30 => ?_)
  · skip
    clear hq29
    refine j_iconst hX dX11_aim_16 ?_
    exact hret _ _ _ _ dX11_aim_17 (nb (by omega)) (by omega) ⟨hI, hF, by omega⟩
  · skip
    have hi31 := hq29 (by omega)
    clear hq29
    refine j_aload_n hX dX11_aim_8 rfl 0 rfl ?_
    refine j_iload_n hX dX11_aim_9 rfl 2 rfl ?_
    refine j_callVI hX lk_X11_419 (c_X11_isRoom _ _ _ _ _ _ _ _ _ (by omega) hI (by omega) hbk hnr) (by omega) hce rfl rfl (by omega) (by omega) kc_210 rfl rfl (Nat.le_of_ble_eq_true rfl) dX11_aim_10 (fun z32 M33 hz35 hp34 => ?_)
    obtain ⟨hE36, hb37, hq38⟩ := hp34
    replace hE36 := hE36.symm
    subst hE36
    refine j_if_ne (tgt := 18) hX dX11_aim_13 (by decide) (by omega) (fun hc39 => ?_) (fun hc39 => ?_)
    · skip
      have hi40 := hq38 (by omega)
      clear hq38
      refine j_iconst hX dX11_aim_18 ?_
      refine j_istore_n (lv' := [(3, _), (0, _), (1, _), (2, _)]) hX dX11_aim_19 rfl (by rw [hnL]; decide) rfl ?_
      refine j_sub [1, 2, 3, 0] rfl ?_
      refine (cp (Int.toNat (256 + 1))) _ _ (by omega) hI hF hbk hnr (by first | assumption | omega) (by first | assumption | omega) ?_ ?_
      · omega
      · omega
    · skip
      clear hq38
      refine j_iconst hX dX11_aim_16 ?_
      exact hret _ _ _ _ dX11_aim_17 (nb (by omega)) (by omega) ⟨hI, hF, by omega⟩
set_option maxHeartbeats 2000000 in
set_option maxRecDepth 20000 in
theorem c_X11_drop (l : Launch) (D : va_G) (cy : Nat → ClassId) (B N : Nat) (bk : Int) (nr : Int) (a : Int) (M : MM) (hN : 257 ≤ N) (hI : Iv M) (hpa : I32 a) (hbk : M.1 210 40 = bk) (hnr : M.1 213 bk = nr) : CI l D cy B N 3 yX11_drop cX11_drop 2 (some .boolean) [rv B 210, iv a] M (fun z M' => Iv M' ∧ Fr (fun a (_ : Int) => (a = 247)) M M' ∧ (0 ≤ z ∧ z ≤ 1)) := by
  refine mk_CI (by decide) (Nat.le_of_ble_eq_true rfl) ?_
  intro X exl exD excy hnL hX hret
  have hce : 0 + 0 ≤ (xR X).cells ∧ 0 + 0 ≤ (xR X).slots := ⟨Nat.zero_le _, Nat.zero_le _⟩
  have hF : Fr (fun a (_ : Int) => (a = 247)) M M := Fr.rf
  have hbk2 : 0 ≤ bk ∧ bk ≤ 1 := by have := hI.at 210 40 ro_210_40; omega
  have hnr2 : 0 ≤ nr ∧ nr ≤ 6 := by have := hI.at 213 bk (ra_213 _); omega
  show J X B N 0 0 0 [(0, rv B 210), (1, iv a)] [] M
  refine j_aload_n hX dX11_drop_0 rfl 0 rfl ?_
  refine j_iload_n hX dX11_drop_1 rfl 1 rfl ?_
  refine j_callVI hX lk_X11_419 (c_X11_isRoom _ _ _ _ _ _ _ _ _ (by omega) hI (by omega) hbk hnr) (by omega) hce rfl rfl (by omega) (by omega) kc_210 rfl rfl (Nat.le_of_ble_eq_true rfl) dX11_drop_2 (fun z1 M2 hz4 hp3 => ?_)
  obtain ⟨hE5, hb6, hq7⟩ := hp3
  replace hE5 := hE5.symm
  subst hE5
  refine j_if_eq (tgt := 17) hX dX11_drop_5 (by decide) (by omega) (fun hc8 => ?_) (fun hc8 => ?_)
  · skip
    clear hq7
    refine j_iconst hX dX11_drop_17 ?_
    exact hret _ _ _ _ dX11_drop_18 (nb (by omega)) (by omega) ⟨hI, hF, by omega⟩
  · skip
    have hi9 := hq7 (by omega)
    clear hq7
    refine j_aload_n hX dX11_drop_8 rfl 0 rfl ?_
    refine gf_X11_125 hX (by omega) (by omega) kc_210 (fc_210_55 hI) (by decide) dX11_drop_9 ?_
    refine j_iload_n hX dX11_drop_12 rfl 1 rfl ?_
    refine j_iald hX (by omega) (by omega) kc_247 (by omega) (by omega) (by omega) dX11_drop_13 ?_
    refine j_name hI (ra_247 _) (fun v10 hv11 hl12 hh13 => ?_)
    refine j_if_ge (tgt := 19) hX dX11_drop_14 (by decide) (by omega) (fun hc14 => ?_) (fun hc14 => ?_)
    · skip
      refine j_aload_n hX dX11_drop_19 rfl 0 rfl ?_
      refine gf_X11_125 hX (by omega) (by omega) kc_210 (fc_210_55 hI) (by decide) dX11_drop_20 ?_
      refine j_iload_n hX dX11_drop_23 rfl 1 rfl ?_
      refine j_iconst hX dX11_drop_24 ?_
      refine j_iast hX (by omega) (by omega) kc_247 (by omega) (by omega) (by omega) (by omega) dX11_drop_25 ?_
      refine j_up hI (ra_247 _) (by omega) (by omega) (Or.inl (by omega)) (fun M15 w16 hw17 hM18 hI19 hf20 => ?_)
      have hk21 := kp_up hM18 (fun h => absurd h.1 (by decide)) hbk
      have hk22 := kp_up hM18 (fun h => absurd h.1 (by decide)) hnr
      have hF23 := Fr.put hF hM18 (by omega)
      refine j_iconst hX dX11_drop_26 ?_
      exact hret _ _ _ _ dX11_drop_27 (nb (by omega)) (by omega) ⟨hI19, hF23, by omega⟩
    · skip
      refine j_iconst hX dX11_drop_17 ?_
      exact hret _ _ _ _ dX11_drop_18 (nb (by omega)) (by omega) ⟨hI, hF, by omega⟩
set_option maxHeartbeats 2000000 in
set_option maxRecDepth 20000 in
theorem c_X11_mutual (l : Launch) (D : va_G) (cy : Nat → ClassId) (B N : Nat) (bk : Int) (nr : Int) (M : MM) (hN : 257 ≤ N) (hI : Iv M) (hbk : M.1 210 40 = bk) (hnr : M.1 213 bk = nr) : CI l D cy B N 3 yX11_mutual cX11_mutual 4 (some .int) [rv B 210] M (fun z M' => M' = M) := by
  refine mk_CI (by decide) (Nat.le_of_ble_eq_true rfl) ?_
  intro X exl exD excy hnL hX hret
  have hce : 0 + 0 ≤ (xR X).cells ∧ 0 + 0 ≤ (xR X).slots := ⟨Nat.zero_le _, Nat.zero_le _⟩
  have hbk2 : 0 ≤ bk ∧ bk ≤ 1 := by have := hI.at 210 40 ro_210_40; omega
  have hnr2 : 0 ≤ nr ∧ nr ≤ 6 := by have := hI.at 213 bk (ra_213 _); omega
  have cp : ∀ n : Nat, (∀ (x1 x2 : Int), I32 x1 → I32 x2 → (0 ≤ x2 ∧ x2 ≤ 6) → 0 ≤ 32 * (10 * (6 - x2)+1) + 2 → 32 * (10 * (6 - x2)+1) + 2 < (n : Int) → J X B N 0 0 4 [(0, rv B 210), (1, iv x1), (2, iv x2)] [] M) ∧ (∀ (x1 x2 x3 : Int), I32 x1 → I32 x2 → I32 x3 → (0 ≤ x2 ∧ x2 < nr ∧ 0 ≤ x3 ∧ x3 ≤ x2) → 0 ≤ 32 * (10 * (6 - x2) - x3) + 1 → 32 * (10 * (6 - x2) - x3) + 1 < (n : Int) → J X B N 0 0 14 [(0, rv B 210), (1, iv x1), (2, iv x2), (3, iv x3)] [] M) := by
    intro n
    induction n with
    | zero => exact ⟨by intros; exfalso; omega, by intros; exfalso; omega⟩
    | succ n ih =>
      refine ⟨?_, ?_⟩
      · intro x1 x2 hxx1 hxx2 h2 hm0 hm1
        refine j_iload_n hX dX11_mutual_4 rfl 2 rfl ?_
        refine j_aload_n hX dX11_mutual_5 rfl 0 rfl ?_
        refine j_callVI hX lk_X11_385 (c_X11_many _ _ _ _ _ _ _ _ (by omega) hI hbk hnr) (by omega) hce rfl rfl (by omega) (by omega) kc_210 rfl rfl (Nat.le_of_ble_eq_true rfl) dX11_mutual_6 (fun z1 M2 hz4 hp3 => ?_)
        obtain ⟨hE5, hq6⟩ := hp3
        replace hE5 := hE5.symm
        subst hE5
        refine j_icmp_ge (tgt := 82) hX dX11_mutual_9 (by decide) (by omega) (by omega) (fun hc7 => ?_) (fun hc7 => ?_)
        · skip
          refine j_iload_n hX dX11_mutual_82 rfl 1 rfl ?_
          exact hret _ _ _ _ dX11_mutual_83 rfl (by omega) rfl
        · skip
          refine j_iconst hX dX11_mutual_12 ?_
          refine j_istore_n (lv' := [(3, _), (0, _), (1, _), (2, _)]) hX dX11_mutual_13 rfl (by rw [hnL]; decide) rfl ?_
          refine j_sub [1, 2, 3, 0] rfl ?_
          exact ih.2 _ _ _ (by omega) (by omega) (by omega) (by first | assumption | omega) (by omega) (by omega)
      · intro x1 x2 x3 hxx1 hxx2 hxx3 h2 hm0 hm1
        refine j_iload_n hX dX11_mutual_14 rfl 3 rfl ?_
        refine j_iload_n hX dX11_mutual_15 rfl 2 rfl ?_
        refine j_icmp_ge (tgt := 76) hX dX11_mutual_16 (by decide) (by omega) (by omega) (fun hc8 => ?_) (fun hc8 => ?_)
        · skip
          refine j_iinc (lv' := [(2, _), (0, _), (1, _), (3, _)]) hX dX11_mutual_76 2 rfl (by rw [hnL]; decide) rfl ?_
          refine j_goto (tgt := 4) hX dX11_mutual_79 (by decide) ?_
          refine j_sub [1, 2, 0] rfl ?_
          exact ih.1 _ _ (by omega) (by omega) (by first | assumption | omega) (by omega) (by omega)
        · skip
          refine j_aload_n hX dX11_mutual_19 rfl 0 rfl ?_
          refine gf_X11_110 hX (by omega) (by omega) kc_210 (fc_210_47 hI) (by decide) dX11_mutual_20 ?_
          refine j_iconst hX dX11_mutual_23 ?_
          refine j_iload_n hX dX11_mutual_24 rfl 2 rfl ?_
          refine j_iadd hX dX11_mutual_25 ?_
          refine j_iald hX (by omega) (by omega) kc_242 (by omega) (by omega) (by omega) dX11_mutual_26 ?_
          refine j_name hI (rs_242 (by omega) (by omega)) (fun v9 hv10 hl11 hh12 => ?_)
          refine j_iload_n hX dX11_mutual_27 rfl 3 rfl ?_
          refine j_icmp_ne (tgt := 70) hX dX11_mutual_28 (by decide) (by omega) (by omega) (fun hc13 => ?_) (fun hc13 => ?_)
          · skip
            refine j_iinc (lv' := [(3, _), (0, _), (1, _), (2, _)]) hX dX11_mutual_70 3 rfl (by rw [hnL]; decide) rfl ?_
            refine j_goto (tgt := 14) hX dX11_mutual_73 (by decide) ?_
            refine j_sub [1, 2, 3, 0] rfl ?_
            exact ih.2 _ _ _ (by omega) (by omega) (by omega) (by first | assumption | omega) (by omega) (by omega)
          · skip
            refine j_aload_n hX dX11_mutual_31 rfl 0 rfl ?_
            refine gf_X11_110 hX (by omega) (by omega) kc_210 (fc_210_47 hI) (by decide) dX11_mutual_32 ?_
            refine j_iconst hX dX11_mutual_35 ?_
            refine j_iload_n hX dX11_mutual_36 rfl 3 rfl ?_
            refine j_iadd hX dX11_mutual_37 ?_
            refine j_iald hX (by omega) (by omega) kc_242 (by omega) (by omega) (by omega) dX11_mutual_38 ?_
            refine j_name hI (rs_242 (by omega) (by omega)) (fun v14 hv15 hl16 hh17 => ?_)
            refine j_iload_n hX dX11_mutual_39 rfl 2 rfl ?_
            refine j_icmp_eq (tgt := 46) hX dX11_mutual_40 (by decide) (by omega) (by omega) (fun hc18 => ?_) (fun hc18 => ?_)
            · skip
              refine j_iload_n hX dX11_mutual_46 rfl 1 rfl ?_
              refine j_aload_n hX dX11_mutual_47 rfl 0 rfl ?_
              refine j_iload_n hX dX11_mutual_48 rfl 2 rfl ?_
              refine j_callVI hX lk_X11_413 (c_X11_doesSee _ _ _ _ _ _ _ (by omega) hI (by omega) (by first | assumption | omega)) (by omega) hce rfl rfl (by omega) (by omega) kc_210 rfl rfl (Nat.le_of_ble_eq_true rfl) dX11_mutual_49 (fun z19 M20 hz22 hp21 => ?_)
              obtain ⟨hE23, hb24⟩ := hp21
              replace hE23 := hE23.symm
              subst hE23
              refine j_if_eq (tgt := 67) hX dX11_mutual_52 (by decide) (by omega) (fun hc25 => ?_) (fun hc25 => ?_)
              · skip
                refine j_iconst hX dX11_mutual_67 ?_
                refine j_iadd hX dX11_mutual_68 ?_
                refine j_norm (fun z26 hz27 hy28 => ?_)
                refine j_istore_n (lv' := [(1, _), (0, _), (2, _), (3, _)]) hX dX11_mutual_69 rfl (by rw [hnL]; decide) rfl ?_
                refine j_iinc (lv' := [(3, _), (1, _), (0, _), (2, _)]) hX dX11_mutual_70 3 rfl (by rw [hnL]; decide) rfl ?_
                refine j_goto (tgt := 14) hX dX11_mutual_73 (by decide) ?_
                refine j_sub [2, 1, 3, 0] rfl ?_
                exact ih.2 _ _ _ (by omega) (by omega) (by omega) (by first | assumption | omega) (by omega) (by omega)
              · skip
                refine j_aload_n hX dX11_mutual_55 rfl 0 rfl ?_
                refine j_iload_n hX dX11_mutual_56 rfl 3 rfl ?_
                refine j_callVI hX lk_X11_413 (c_X11_doesSee _ _ _ _ _ _ _ (by omega) hI (by omega) (by first | assumption | omega)) (by omega) hce rfl rfl (by omega) (by omega) kc_210 rfl rfl (Nat.le_of_ble_eq_true rfl) dX11_mutual_57 (fun z29 M30 hz32 hp31 => ?_)
                obtain ⟨hE33, hb34⟩ := hp31
                replace hE33 := hE33.symm
                subst hE33
                refine j_if_eq (tgt := 67) hX dX11_mutual_60 (by decide) (by omega) (fun hc35 => ?_) (fun hc35 => ?_)
                · skip
                  refine j_iconst hX dX11_mutual_67 ?_
                  refine j_iadd hX dX11_mutual_68 ?_
                  refine j_norm (fun z36 hz37 hy38 => ?_)
                  refine j_istore_n (lv' := [(1, _), (0, _), (2, _), (3, _)]) hX dX11_mutual_69 rfl (by rw [hnL]; decide) rfl ?_
                  refine j_iinc (lv' := [(3, _), (1, _), (0, _), (2, _)]) hX dX11_mutual_70 3 rfl (by rw [hnL]; decide) rfl ?_
                  refine j_goto (tgt := 14) hX dX11_mutual_73 (by decide) ?_
                  refine j_sub [2, 1, 3, 0] rfl ?_
                  exact ih.2 _ _ _ (by omega) (by omega) (by omega) (by first | assumption | omega) (by omega) (by omega)
                · skip
                  refine j_iconst hX dX11_mutual_63 ?_
                  refine j_goto (tgt := 68) hX dX11_mutual_64 (by decide) ?_
                  refine j_iadd hX dX11_mutual_68 ?_
                  refine j_norm (fun z39 hz40 hy41 => ?_)
                  refine j_istore_n (lv' := [(1, _), (0, _), (2, _), (3, _)]) hX dX11_mutual_69 rfl (by rw [hnL]; decide) rfl ?_
                  refine j_iinc (lv' := [(3, _), (1, _), (0, _), (2, _)]) hX dX11_mutual_70 3 rfl (by rw [hnL]; decide) rfl ?_
                  refine j_goto (tgt := 14) hX dX11_mutual_73 (by decide) ?_
                  refine j_sub [2, 1, 3, 0] rfl ?_
                  exact ih.2 _ _ _ (by omega) (by omega) (by omega) (by first | assumption | omega) (by omega) (by omega)
            · skip
              refine j_goto (tgt := 70) hX dX11_mutual_43 (by decide) ?_
              refine j_iinc (lv' := [(3, _), (0, _), (1, _), (2, _)]) hX dX11_mutual_70 3 rfl (by rw [hnL]; decide) rfl ?_
              refine j_goto (tgt := 14) hX dX11_mutual_73 (by decide) ?_
              refine j_sub [1, 2, 3, 0] rfl ?_
              exact ih.2 _ _ _ (by omega) (by omega) (by omega) (by first | assumption | omega) (by omega) (by omega)
  show J X B N 0 0 0 [(0, rv B 210)] [] M
  refine j_iconst hX dX11_mutual_0 ?_
  refine j_istore_n (lv' := [(1, _), (0, _)]) hX dX11_mutual_1 rfl (by rw [hnL]; decide) rfl ?_
  refine j_iconst hX dX11_mutual_2 ?_
  refine j_istore_n (lv' := [(2, _), (1, _), (0, _)]) hX dX11_mutual_3 rfl (by rw [hnL]; decide) rfl ?_
  refine j_sub [2, 1, 0] rfl ?_
  refine (cp (Int.toNat (3264 + 1))).1 _ _ (by omega) (by omega) (by first | assumption | omega) ?_ ?_
  · omega
  · omega
set_option maxHeartbeats 2000000 in
set_option maxRecDepth 20000 in
theorem c_X11_aims (l : Launch) (D : va_G) (cy : Nat → ClassId) (B N : Nat) (bk : Int) (nr : Int) (M : MM) (hN : 257 ≤ N) (hI : Iv M) (hbk : M.1 210 40 = bk) (hnr : M.1 213 bk = nr) : CI l D cy B N 2 yX11_aims cX11_aims 3 (some .int) [rv B 210] M (fun z M' => M' = M) := by
  refine mk_CI (by decide) (Nat.le_of_ble_eq_true rfl) ?_
  intro X exl exD excy hnL hX hret
  have hce : 0 + 0 ≤ (xR X).cells ∧ 0 + 0 ≤ (xR X).slots := ⟨Nat.zero_le _, Nat.zero_le _⟩
  have hbk2 : 0 ≤ bk ∧ bk ≤ 1 := by have := hI.at 210 40 ro_210_40; omega
  have hnr2 : 0 ≤ nr ∧ nr ≤ 6 := by have := hI.at 213 bk (ra_213 _); omega
  have cp : ∀ n : Nat, (∀ (x1 x2 : Int), I32 x1 → I32 x2 → (0 ≤ x2 ∧ x2 ≤ 6) → (0 ≤ x1 ∧ x1 ≤ x2) → 0 ≤ 32 * (6 - x2) + 1 → 32 * (6 - x2) + 1 < (n : Int) → J X B N 0 0 4 [(0, rv B 210), (1, iv x1), (2, iv x2)] [] M) := by
    intro n
    induction n with
    | zero => exact by intros; exfalso; omega
    | succ n ih =>
      · intro x1 x2 hxx1 hxx2 h2 h3 hm0 hm1
        refine j_iload_n hX dX11_aims_4 rfl 2 rfl ?_
        refine j_aload_n hX dX11_aims_5 rfl 0 rfl ?_
        refine j_callVI hX lk_X11_385 (c_X11_many _ _ _ _ _ _ _ _ (by omega) hI hbk hnr) (by omega) hce rfl rfl (by omega) (by omega) kc_210 rfl rfl (Nat.le_of_ble_eq_true rfl) dX11_aims_6 (fun z1 M2 hz4 hp3 => ?_)
        obtain ⟨hE5, hq6⟩ := hp3
        replace hE5 := hE5.symm
        subst hE5
        refine j_icmp_ge (tgt := 35) hX dX11_aims_9 (by decide) (by omega) (by omega) (fun hc7 => ?_) (fun hc7 => ?_)
        · skip
          refine j_iload_n hX dX11_aims_35 rfl 1 rfl ?_
          exact hret _ _ _ _ dX11_aims_36 rfl (by omega) rfl
        · skip
          refine j_iload_n hX dX11_aims_12 rfl 1 rfl ?_
          refine j_aload_n hX dX11_aims_13 rfl 0 rfl ?_
          refine gf_X11_125 hX (by omega) (by omega) kc_210 (fc_210_55 hI) (by decide) dX11_aims_14 ?_
          refine j_iload_n hX dX11_aims_17 rfl 2 rfl ?_
          refine j_iald hX (by omega) (by omega) kc_247 (by omega) (by omega) (by omega) dX11_aims_18 ?_
          refine j_name hI (ra_247 _) (fun v8 hv9 hl10 hh11 => ?_)
          refine j_if_lt (tgt := 26) hX dX11_aims_19 (by decide) (by omega) (fun hc12 => ?_) (fun hc12 => ?_)
          · skip
            refine j_iconst hX dX11_aims_26 ?_
            refine j_iadd hX dX11_aims_27 ?_
            refine j_istore_n (lv' := [(1, _), (0, _), (2, _)]) hX dX11_aims_28 rfl (by rw [hnL]; decide) rfl ?_
            refine j_iinc (lv' := [(2, _), (1, _), (0, _)]) hX dX11_aims_29 2 rfl (by rw [hnL]; decide) rfl ?_
            refine j_goto (tgt := 4) hX dX11_aims_32 (by decide) ?_
            refine j_sub [2, 1, 0] rfl ?_
            exact ih _ _ (by omega) (by omega) (by first | assumption | omega) (by first | assumption | omega) (by omega) (by omega)
          · skip
            refine j_iconst hX dX11_aims_22 ?_
            refine j_goto (tgt := 27) hX dX11_aims_23 (by decide) ?_
            refine j_iadd hX dX11_aims_27 ?_
            refine j_istore_n (lv' := [(1, _), (0, _), (2, _)]) hX dX11_aims_28 rfl (by rw [hnL]; decide) rfl ?_
            refine j_iinc (lv' := [(2, _), (1, _), (0, _)]) hX dX11_aims_29 2 rfl (by rw [hnL]; decide) rfl ?_
            refine j_goto (tgt := 4) hX dX11_aims_32 (by decide) ?_
            refine j_sub [2, 1, 0] rfl ?_
            exact ih _ _ (by omega) (by omega) (by first | assumption | omega) (by first | assumption | omega) (by omega) (by omega)
  show J X B N 0 0 0 [(0, rv B 210)] [] M
  refine j_iconst hX dX11_aims_0 ?_
  refine j_istore_n (lv' := [(1, _), (0, _)]) hX dX11_aims_1 rfl (by rw [hnL]; decide) rfl ?_
  refine j_iconst hX dX11_aims_2 ?_
  refine j_istore_n (lv' := [(2, _), (1, _), (0, _)]) hX dX11_aims_3 rfl (by rw [hnL]; decide) rfl ?_
  refine j_sub [2, 1, 0] rfl ?_
  refine (cp (Int.toNat (256 + 1))) _ _ (by omega) (by omega) (by first | assumption | omega) (by first | assumption | omega) ?_ ?_
  · omega
  · omega
set_option maxHeartbeats 2000000 in
set_option maxRecDepth 20000 in
theorem c_X11_about (l : Launch) (D : va_G) (cy : Nat → ClassId) (B N : Nat) (bk : Int) (nr : Int) (a : Int) (M : MM) (hN : 257 ≤ N) (hI : Iv M) (hpa : I32 a) (hbk : M.1 210 40 = bk) (hnr : M.1 213 bk = nr) : CI l D cy B N 3 yX11_about cX11_about 2 (some .int) [rv B 210, iv a] M (fun z M' => M' = M) := by
  refine mk_CI (by decide) (Nat.le_of_ble_eq_true rfl) ?_
  intro X exl exD excy hnL hX hret
  have hce : 0 + 0 ≤ (xR X).cells ∧ 0 + 0 ≤ (xR X).slots := ⟨Nat.zero_le _, Nat.zero_le _⟩
  have hbk2 : 0 ≤ bk ∧ bk ≤ 1 := by have := hI.at 210 40 ro_210_40; omega
  have hnr2 : 0 ≤ nr ∧ nr ≤ 6 := by have := hI.at 213 bk (ra_213 _); omega
  show J X B N 0 0 0 [(0, rv B 210), (1, iv a)] [] M
  refine j_iload_n hX dX11_about_0 rfl 1 rfl ?_
  refine j_table (tgd := 166) hX dX11_about_1 (by omega) (by decide) (fun hc1 => ?_) (fun hc2 hc3 => ?_)
  · skip
    refine j_iconst hX dX11_about_166 ?_
    exact hret _ _ _ _ dX11_about_167 rfl (by omega) rfl
  · rcases (by omega : a = 0 ∨ a = 1 ∨ a = 2 ∨ a = 3 ∨ a = 4 ∨ a = 5 ∨ a = 6 ∨ a = 7 ∨ a = 8 ∨ a = 9 ∨ a = 10 ∨ a = 11 ∨ a = 12 ∨ a = 13) with hc4 | hc4 | hc4 | hc4 | hc4 | hc4 | hc4 | hc4 | hc4 | hc4 | hc4 | hc4 | hc4 | hc4
    · refine ⟨71, 72, by rw [hc4]; rfl, by decide, ?_⟩
      refine j_aload_n hX dX11_about_72 rfl 0 rfl ?_
      refine j_callVI hX lk_X11_385 (c_X11_many _ _ _ _ _ _ _ _ (by omega) hI hbk hnr) (by omega) hce rfl rfl (by omega) (by omega) kc_210 rfl rfl (Nat.le_of_ble_eq_true rfl) dX11_about_73 (fun z5 M6 hz8 hp7 => ?_)
      obtain ⟨hE9, hq10⟩ := hp7
      replace hE9 := hE9.symm
      subst hE9
      exact hret _ _ _ _ dX11_about_76 rfl (by omega) rfl
    · refine ⟨76, 77, by rw [hc4]; rfl, by decide, ?_⟩
      refine j_aload_n hX dX11_about_77 rfl 0 rfl ?_
      refine gf_X11_24 hX (by omega) (by omega) kc_210 (fc_210_12 hI) (by decide) dX11_about_78 ?_
      refine j_aload_n hX dX11_about_81 rfl 0 rfl ?_
      refine gf_X11_279 hX (by omega) (by omega) kc_210 dX11_about_82 ?_
      refine j_top hbk ?_
      refine j_iald hX (by omega) (by omega) kc_214 (by omega) (by omega) (by omega) dX11_about_85 ?_
      refine j_name hI (ra_214 _) (fun v11 hv12 hl13 hh14 => ?_)
      exact hret _ _ _ _ dX11_about_86 rfl (by omega) rfl
    · refine ⟨86, 87, by rw [hc4]; rfl, by decide, ?_⟩
      refine j_aload_n hX dX11_about_87 rfl 0 rfl ?_
      refine gf_X11_110 hX (by omega) (by omega) kc_210 (fc_210_47 hI) (by decide) dX11_about_88 ?_
      refine j_bipush hX dX11_about_91 rfl ?_
      refine j_iald hX (by omega) (by omega) kc_242 (by omega) (by omega) (by omega) dX11_about_93 ?_
      refine j_name hI ro_242_13 (fun v15 hv16 hl17 hh18 => ?_)
      have hk19 := hv16.symm
      exact hret _ _ _ _ dX11_about_94 rfl (by omega) rfl
    · refine ⟨94, 95, by rw [hc4]; rfl, by decide, ?_⟩
      refine j_aload_n hX dX11_about_95 rfl 0 rfl ?_
      refine gf_X11_110 hX (by omega) (by omega) kc_210 (fc_210_47 hI) (by decide) dX11_about_96 ?_
      refine j_bipush hX dX11_about_99 rfl ?_
      refine j_iald hX (by omega) (by omega) kc_242 (by omega) (by omega) (by omega) dX11_about_101 ?_
      refine j_name hI ro_242_14 (fun v20 hv21 hl22 hh23 => ?_)
      have hk24 := hv21.symm
      exact hret _ _ _ _ dX11_about_102 rfl (by omega) rfl
    · refine ⟨102, 103, by rw [hc4]; rfl, by decide, ?_⟩
      refine j_aload_n hX dX11_about_103 rfl 0 rfl ?_
      refine gf_X11_110 hX (by omega) (by omega) kc_210 (fc_210_47 hI) (by decide) dX11_about_104 ?_
      refine j_bipush hX dX11_about_107 rfl ?_
      refine j_iald hX (by omega) (by omega) kc_242 (by omega) (by omega) (by omega) dX11_about_109 ?_
      refine j_name hI ro_242_15 (fun v25 hv26 hl27 hh28 => ?_)
      have hk29 := hv26.symm
      exact hret _ _ _ _ dX11_about_110 rfl (by omega) rfl
    · refine ⟨110, 111, by rw [hc4]; rfl, by decide, ?_⟩
      refine j_aload_n hX dX11_about_111 rfl 0 rfl ?_
      refine gf_X11_27 hX (by omega) (by omega) kc_210 (fc_210_13 hI) (by decide) dX11_about_112 ?_
      refine j_aload_n hX dX11_about_115 rfl 0 rfl ?_
      refine gf_X11_279 hX (by omega) (by omega) kc_210 dX11_about_116 ?_
      refine j_top hbk ?_
      refine j_iald hX (by omega) (by omega) kc_215 (by omega) (by omega) (by omega) dX11_about_119 ?_
      refine j_name hI (ra_215 _) (fun v30 hv31 hl32 hh33 => ?_)
      exact hret _ _ _ _ dX11_about_120 rfl (by omega) rfl
    · refine ⟨120, 121, by rw [hc4]; rfl, by decide, ?_⟩
      refine j_aload_n hX dX11_about_121 rfl 0 rfl ?_
      refine j_callVI hX lk_X11_502 (c_X11_aims _ _ _ _ _ _ _ _ (by omega) hI hbk hnr) (by omega) hce rfl rfl (by omega) (by omega) kc_210 rfl rfl (Nat.le_of_ble_eq_true rfl) dX11_about_122 (fun z34 M35 hz37 hp36 => ?_)
      have hE38 := hp36.symm
      subst hE38
      exact hret _ _ _ _ dX11_about_125 rfl (by omega) rfl
    · refine ⟨125, 126, by rw [hc4]; rfl, by decide, ?_⟩
      refine j_aload_n hX dX11_about_126 rfl 0 rfl ?_
      refine gf_X11_395 hX (by omega) (by omega) kc_210 dX11_about_127 ?_
      refine j_name hI ro_210_50 (fun v39 hv40 hl41 hh42 => ?_)
      have hk43 := hv40.symm
      exact hret _ _ _ _ dX11_about_130 rfl (by omega) rfl
    · refine ⟨130, 131, by rw [hc4]; rfl, by decide, ?_⟩
      refine j_aload_n hX dX11_about_131 rfl 0 rfl ?_
      refine gf_X11_398 hX (by omega) (by omega) kc_210 dX11_about_132 ?_
      refine j_name hI ro_210_51 (fun v44 hv45 hl46 hh47 => ?_)
      have hk48 := hv45.symm
      exact hret _ _ _ _ dX11_about_135 rfl (by omega) rfl
    · refine ⟨135, 136, by rw [hc4]; rfl, by decide, ?_⟩
      refine j_aload_n hX dX11_about_136 rfl 0 rfl ?_
      refine gf_X11_401 hX (by omega) (by omega) kc_210 dX11_about_137 ?_
      refine j_name hI ro_210_63 (fun v49 hv50 hl51 hh52 => ?_)
      have hk53 := hv50.symm
      exact hret _ _ _ _ dX11_about_140 rfl (by omega) rfl
    · refine ⟨140, 141, by rw [hc4]; rfl, by decide, ?_⟩
      refine j_aload_n hX dX11_about_141 rfl 0 rfl ?_
      refine gf_X11_489 hX (by omega) (by omega) kc_210 dX11_about_142 ?_
      refine j_name hI ro_210_64 (fun v54 hv55 hl56 hh57 => ?_)
      have hk58 := hv55.symm
      exact hret _ _ _ _ dX11_about_145 rfl (by omega) rfl
    · refine ⟨145, 146, by rw [hc4]; rfl, by decide, ?_⟩
      refine j_aload_n hX dX11_about_146 rfl 0 rfl ?_
      refine gf_X11_276 hX (by omega) (by omega) kc_210 dX11_about_147 ?_
      refine j_name hI ro_210_2 (fun v59 hv60 hl61 hh62 => ?_)
      have hk63 := hv60.symm
      exact hret _ _ _ _ dX11_about_150 rfl (by omega) rfl
    · refine ⟨150, 151, by rw [hc4]; rfl, by decide, ?_⟩
      refine j_aload_n hX dX11_about_151 rfl 0 rfl ?_
      refine gf_X11_30 hX (by omega) (by omega) kc_210 (fc_210_14 hI) (by decide) dX11_about_152 ?_
      refine j_aload_n hX dX11_about_155 rfl 0 rfl ?_
      refine gf_X11_279 hX (by omega) (by omega) kc_210 dX11_about_156 ?_
      refine j_top hbk ?_
      refine j_iald hX (by omega) (by omega) kc_216 (by omega) (by omega) (by omega) dX11_about_159 ?_
      refine j_name hI (ra_216 _) (fun v64 hv65 hl66 hh67 => ?_)
      exact hret _ _ _ _ dX11_about_160 rfl (by omega) rfl
    · refine ⟨160, 161, by rw [hc4]; rfl, by decide, ?_⟩
      refine j_aload_n hX dX11_about_161 rfl 0 rfl ?_
      refine gf_X11_404 hX (by omega) (by omega) kc_210 dX11_about_162 ?_
      refine j_name hI ro_210_54 (fun v68 hv69 hl70 hh71 => ?_)
      have hk72 := hv69.symm
      exact hret _ _ _ _ dX11_about_165 rfl (by omega) rfl
