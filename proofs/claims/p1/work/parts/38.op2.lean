theorem dX10_lookAhead_0 : decode cX10_lookAhead 0 = .ok (.aload_n 0, 1) := by decide +kernel
theorem dX10_lookAhead_1 : decode cX10_lookAhead 1 = .ok (.getfield 33, 3) := by decide +kernel
theorem dX10_lookAhead_4 : decode cX10_lookAhead 4 = .ok (.aload_n 0, 1) := by decide +kernel
theorem dX10_lookAhead_5 : decode cX10_lookAhead 5 = .ok (.getfield 19, 3) := by decide +kernel
theorem dX10_lookAhead_8 : decode cX10_lookAhead 8 = .ok (.invokevirtual 124, 3) := by decide +kernel
theorem dX10_lookAhead_11 : decode cX10_lookAhead 11 = .ok (.invokevirtual 204, 3) := by decide +kernel
theorem dX10_lookAhead_14 : decode cX10_lookAhead 14 = .ok (.iconst 0, 1) := by decide +kernel
theorem dX10_lookAhead_15 : decode cX10_lookAhead 15 = .ok (.istore_n 2, 1) := by decide +kernel
theorem dX10_lookAhead_16 : decode cX10_lookAhead 16 = .ok (.iload_n 2, 1) := by decide +kernel
theorem dX10_lookAhead_17 : decode cX10_lookAhead 17 = .ok (.iload_n 1, 1) := by decide +kernel
theorem dX10_lookAhead_18 : decode cX10_lookAhead 18 = .ok (.if_icmp .ge 25, 3) := by decide +kernel
theorem dX10_lookAhead_21 : decode cX10_lookAhead 21 = .ok (.aload_n 0, 1) := by decide +kernel
theorem dX10_lookAhead_22 : decode cX10_lookAhead 22 = .ok (.getfield 26, 3) := by decide +kernel
theorem dX10_lookAhead_25 : decode cX10_lookAhead 25 = .ok (.aload_n 0, 1) := by decide +kernel
theorem dX10_lookAhead_26 : decode cX10_lookAhead 26 = .ok (.getfield 62, 3) := by decide +kernel
theorem dX10_lookAhead_29 : decode cX10_lookAhead 29 = .ok (.aload_n 0, 1) := by decide +kernel
theorem dX10_lookAhead_30 : decode cX10_lookAhead 30 = .ok (.getfield 33, 3) := by decide +kernel
theorem dX10_lookAhead_33 : decode cX10_lookAhead 33 = .ok (.invokevirtual 194, 3) := by decide +kernel
theorem dX10_lookAhead_36 : decode cX10_lookAhead 36 = .ok (.pop, 1) := by decide +kernel
theorem dX10_lookAhead_37 : decode cX10_lookAhead 37 = .ok (.iinc 2 1, 3) := by decide +kernel
theorem dX10_lookAhead_40 : decode cX10_lookAhead 40 = .ok (.goto (-24), 3) := by decide +kernel
theorem dX10_lookAhead_43 : decode cX10_lookAhead 43 = .ok (.return_, 1) := by decide +kernel
theorem dX10_staysHidden_0 : decode cX10_staysHidden 0 = .ok (.aload_n 0, 1) := by decide +kernel
theorem dX10_staysHidden_1 : decode cX10_staysHidden 1 = .ok (.getfield 33, 3) := by decide +kernel
theorem dX10_staysHidden_4 : decode cX10_staysHidden 4 = .ok (.aload_n 0, 1) := by decide +kernel
theorem dX10_staysHidden_5 : decode cX10_staysHidden 5 = .ok (.getfield 19, 3) := by decide +kernel
theorem dX10_staysHidden_8 : decode cX10_staysHidden 8 = .ok (.invokevirtual 124, 3) := by decide +kernel
theorem dX10_staysHidden_11 : decode cX10_staysHidden 11 = .ok (.invokevirtual 204, 3) := by decide +kernel
theorem dX10_staysHidden_14 : decode cX10_staysHidden 14 = .ok (.aload_n 0, 1) := by decide +kernel
theorem dX10_staysHidden_15 : decode cX10_staysHidden 15 = .ok (.getfield 33, 3) := by decide +kernel
theorem dX10_staysHidden_18 : decode cX10_staysHidden 18 = .ok (.dup, 1) := by decide +kernel
theorem dX10_staysHidden_19 : decode cX10_staysHidden 19 = .ok (.getfield 178, 3) := by decide +kernel
theorem dX10_staysHidden_22 : decode cX10_staysHidden 22 = .ok (.iload_n 3, 1) := by decide +kernel
theorem dX10_staysHidden_23 : decode cX10_staysHidden 23 = .ok (.ior, 1) := by decide +kernel
theorem dX10_staysHidden_24 : decode cX10_staysHidden 24 = .ok (.putfield 178, 3) := by decide +kernel
theorem dX10_staysHidden_27 : decode cX10_staysHidden 27 = .ok (.iconst 0, 1) := by decide +kernel
theorem dX10_staysHidden_28 : decode cX10_staysHidden 28 = .ok (.istore 4, 2) := by decide +kernel
theorem dX10_staysHidden_30 : decode cX10_staysHidden 30 = .ok (.iload 4, 2) := by decide +kernel
theorem dX10_staysHidden_32 : decode cX10_staysHidden 32 = .ok (.bipush 120, 2) := by decide +kernel
theorem dX10_staysHidden_34 : decode cX10_staysHidden 34 = .ok (.if_icmp .ge 39, 3) := by decide +kernel
theorem dX10_staysHidden_37 : decode cX10_staysHidden 37 = .ok (.aload_n 0, 1) := by decide +kernel
theorem dX10_staysHidden_38 : decode cX10_staysHidden 38 = .ok (.getfield 26, 3) := by decide +kernel
theorem dX10_staysHidden_41 : decode cX10_staysHidden 41 = .ok (.aload_n 0, 1) := by decide +kernel
theorem dX10_staysHidden_42 : decode cX10_staysHidden 42 = .ok (.getfield 62, 3) := by decide +kernel
theorem dX10_staysHidden_45 : decode cX10_staysHidden 45 = .ok (.aload_n 0, 1) := by decide +kernel
theorem dX10_staysHidden_46 : decode cX10_staysHidden 46 = .ok (.getfield 33, 3) := by decide +kernel
theorem dX10_staysHidden_49 : decode cX10_staysHidden 49 = .ok (.invokevirtual 194, 3) := by decide +kernel
theorem dX10_staysHidden_52 : decode cX10_staysHidden 52 = .ok (.pop, 1) := by decide +kernel
theorem dX10_staysHidden_53 : decode cX10_staysHidden 53 = .ok (.aload_n 0, 1) := by decide +kernel
theorem dX10_staysHidden_54 : decode cX10_staysHidden 54 = .ok (.getfield 33, 3) := by decide +kernel
theorem dX10_staysHidden_57 : decode cX10_staysHidden 57 = .ok (.iload_n 1, 1) := by decide +kernel
theorem dX10_staysHidden_58 : decode cX10_staysHidden 58 = .ok (.iload_n 2, 1) := by decide +kernel
theorem dX10_staysHidden_59 : decode cX10_staysHidden 59 = .ok (.invokevirtual 208, 3) := by decide +kernel
theorem dX10_staysHidden_62 : decode cX10_staysHidden 62 = .ok (.ifCond .eq 5, 3) := by decide +kernel
theorem dX10_staysHidden_65 : decode cX10_staysHidden 65 = .ok (.iconst 0, 1) := by decide +kernel
theorem dX10_staysHidden_66 : decode cX10_staysHidden 66 = .ok (.ireturn, 1) := by decide +kernel
theorem dX10_staysHidden_67 : decode cX10_staysHidden 67 = .ok (.iinc 4 1, 3) := by decide +kernel
theorem dX10_staysHidden_70 : decode cX10_staysHidden 70 = .ok (.goto (-40), 3) := by decide +kernel
theorem dX10_staysHidden_73 : decode cX10_staysHidden 73 = .ok (.iconst 1, 1) := by decide +kernel
theorem dX10_staysHidden_74 : decode cX10_staysHidden 74 = .ok (.ireturn, 1) := by decide +kernel
theorem dX10_when_0 : decode cX10_when 0 = .ok (.aload_n 0, 1) := by decide +kernel
theorem dX10_when_1 : decode cX10_when 1 = .ok (.getfield 62, 3) := by decide +kernel
theorem dX10_when_4 : decode cX10_when 4 = .ok (.iload_n 1, 1) := by decide +kernel
theorem dX10_when_5 : decode cX10_when 5 = .ok (.invokevirtual 120, 3) := by decide +kernel
theorem dX10_when_8 : decode cX10_when 8 = .ok (.ifCond .eq 14, 3) := by decide +kernel
theorem dX10_when_11 : decode cX10_when 11 = .ok (.aload_n 0, 1) := by decide +kernel
theorem dX10_when_12 : decode cX10_when 12 = .ok (.getfield 62, 3) := by decide +kernel
theorem dX10_when_15 : decode cX10_when 15 = .ok (.iload_n 2, 1) := by decide +kernel
theorem dX10_when_16 : decode cX10_when 16 = .ok (.invokevirtual 153, 3) := by decide +kernel
theorem dX10_when_19 : decode cX10_when 19 = .ok (.ifCond .ne 5, 3) := by decide +kernel
theorem dX10_when_22 : decode cX10_when 22 = .ok (.iconst (-1), 1) := by decide +kernel
theorem dX10_when_23 : decode cX10_when 23 = .ok (.ireturn, 1) := by decide +kernel
theorem dX10_when_24 : decode cX10_when 24 = .ok (.aload_n 0, 1) := by decide +kernel
theorem dX10_when_25 : decode cX10_when 25 = .ok (.getfield 33, 3) := by decide +kernel
theorem dX10_when_28 : decode cX10_when 28 = .ok (.aload_n 0, 1) := by decide +kernel
theorem dX10_when_29 : decode cX10_when 29 = .ok (.getfield 19, 3) := by decide +kernel
theorem dX10_when_32 : decode cX10_when 32 = .ok (.invokevirtual 124, 3) := by decide +kernel
theorem dX10_when_35 : decode cX10_when 35 = .ok (.invokevirtual 204, 3) := by decide +kernel
theorem dX10_when_38 : decode cX10_when 38 = .ok (.iconst 0, 1) := by decide +kernel
theorem dX10_when_39 : decode cX10_when 39 = .ok (.istore_n 3, 1) := by decide +kernel
theorem dX10_when_40 : decode cX10_when 40 = .ok (.iload_n 3, 1) := by decide +kernel
theorem dX10_when_41 : decode cX10_when 41 = .ok (.sipush 240, 3) := by decide +kernel
theorem dX10_when_44 : decode cX10_when 44 = .ok (.if_icmp .ge 39, 3) := by decide +kernel
theorem dX10_when_47 : decode cX10_when 47 = .ok (.aload_n 0, 1) := by decide +kernel
theorem dX10_when_48 : decode cX10_when 48 = .ok (.getfield 33, 3) := by decide +kernel
theorem dX10_when_51 : decode cX10_when 51 = .ok (.iload_n 1, 1) := by decide +kernel
theorem dX10_when_52 : decode cX10_when 52 = .ok (.iload_n 2, 1) := by decide +kernel
theorem dX10_when_53 : decode cX10_when 53 = .ok (.invokevirtual 208, 3) := by decide +kernel
theorem dX10_when_56 : decode cX10_when 56 = .ok (.ifCond .eq 5, 3) := by decide +kernel
theorem dX10_when_59 : decode cX10_when 59 = .ok (.iload_n 3, 1) := by decide +kernel
theorem dX10_when_60 : decode cX10_when 60 = .ok (.ireturn, 1) := by decide +kernel
theorem dX10_when_61 : decode cX10_when 61 = .ok (.aload_n 0, 1) := by decide +kernel
theorem dX10_when_62 : decode cX10_when 62 = .ok (.getfield 26, 3) := by decide +kernel
theorem dX10_when_65 : decode cX10_when 65 = .ok (.aload_n 0, 1) := by decide +kernel
theorem dX10_when_66 : decode cX10_when 66 = .ok (.getfield 62, 3) := by decide +kernel
theorem dX10_when_69 : decode cX10_when 69 = .ok (.aload_n 0, 1) := by decide +kernel
theorem dX10_when_70 : decode cX10_when 70 = .ok (.getfield 33, 3) := by decide +kernel
theorem dX10_when_73 : decode cX10_when 73 = .ok (.invokevirtual 194, 3) := by decide +kernel
theorem dX10_when_76 : decode cX10_when 76 = .ok (.pop, 1) := by decide +kernel
theorem dX10_when_77 : decode cX10_when 77 = .ok (.iinc 3 1, 3) := by decide +kernel
theorem dX10_when_80 : decode cX10_when 80 = .ok (.goto (-40), 3) := by decide +kernel
theorem dX10_when_83 : decode cX10_when 83 = .ok (.aload_n 0, 1) := by decide +kernel
theorem dX10_when_84 : decode cX10_when 84 = .ok (.getfield 33, 3) := by decide +kernel
theorem dX10_when_87 : decode cX10_when 87 = .ok (.iload_n 1, 1) := by decide +kernel
theorem dX10_when_88 : decode cX10_when 88 = .ok (.iload_n 2, 1) := by decide +kernel
theorem dX10_when_89 : decode cX10_when 89 = .ok (.invokevirtual 208, 3) := by decide +kernel
theorem dX10_when_92 : decode cX10_when 92 = .ok (.ifCond .eq 9, 3) := by decide +kernel
theorem dX10_when_95 : decode cX10_when 95 = .ok (.sipush 240, 3) := by decide +kernel
theorem dX10_when_98 : decode cX10_when 98 = .ok (.goto 4, 3) := by decide +kernel
theorem dX10_when_101 : decode cX10_when 101 = .ok (.iconst (-1), 1) := by decide +kernel
theorem dX10_when_102 : decode cX10_when 102 = .ok (.ireturn, 1) := by decide +kernel
theorem dX10_will_0 : decode cX10_will 0 = .ok (.aload_n 0, 1) := by decide +kernel
theorem dX10_will_1 : decode cX10_will 1 = .ok (.getfield 62, 3) := by decide +kernel
theorem dX10_will_4 : decode cX10_will 4 = .ok (.iload_n 1, 1) := by decide +kernel
theorem dX10_will_5 : decode cX10_will 5 = .ok (.invokevirtual 120, 3) := by decide +kernel
theorem dX10_will_8 : decode cX10_will 8 = .ok (.ifCond .eq 14, 3) := by decide +kernel
theorem dX10_will_11 : decode cX10_will 11 = .ok (.iload_n 2, 1) := by decide +kernel
theorem dX10_will_12 : decode cX10_will 12 = .ok (.ifCond .lt 10, 3) := by decide +kernel
theorem dX10_will_15 : decode cX10_will 15 = .ok (.iload_n 2, 1) := by decide +kernel
theorem dX10_will_16 : decode cX10_will 16 = .ok (.sipush 240, 3) := by decide +kernel
theorem dX10_will_19 : decode cX10_will 19 = .ok (.if_icmp .le 5, 3) := by decide +kernel
theorem dX10_will_22 : decode cX10_will 22 = .ok (.iconst (-1), 1) := by decide +kernel
theorem dX10_will_23 : decode cX10_will 23 = .ok (.ireturn, 1) := by decide +kernel
theorem dX10_will_24 : decode cX10_will 24 = .ok (.aload_n 0, 1) := by decide +kernel
theorem dX10_will_25 : decode cX10_will 25 = .ok (.iload_n 2, 1) := by decide +kernel
theorem dX10_will_26 : decode cX10_will 26 = .ok (.invokevirtual 212, 3) := by decide +kernel
theorem dX10_will_29 : decode cX10_will 29 = .ok (.aload_n 0, 1) := by decide +kernel
theorem dX10_will_30 : decode cX10_will 30 = .ok (.getfield 33, 3) := by decide +kernel
theorem dX10_will_33 : decode cX10_will 33 = .ok (.getfield 138, 3) := by decide +kernel
theorem dX10_will_36 : decode cX10_will 36 = .ok (.iload_n 1, 1) := by decide +kernel
theorem dX10_will_37 : decode cX10_will 37 = .ok (.iaload, 1) := by decide +kernel
theorem dX10_will_38 : decode cX10_will 38 = .ok (.ireturn, 1) := by decide +kernel
theorem dX10_deaf_0 : decode cX10_deaf 0 = .ok (.aload_n 0, 1) := by decide +kernel
theorem dX10_deaf_1 : decode cX10_deaf 1 = .ok (.getfield 62, 3) := by decide +kernel
theorem dX10_deaf_4 : decode cX10_deaf 4 = .ok (.iload_n 1, 1) := by decide +kernel
theorem dX10_deaf_5 : decode cX10_deaf 5 = .ok (.invokevirtual 153, 3) := by decide +kernel
theorem dX10_deaf_8 : decode cX10_deaf 8 = .ok (.ifCond .ne 5, 3) := by decide +kernel
theorem dX10_deaf_11 : decode cX10_deaf 11 = .ok (.iconst (-1), 1) := by decide +kernel
theorem dX10_deaf_12 : decode cX10_deaf 12 = .ok (.ireturn, 1) := by decide +kernel
theorem dX10_deaf_13 : decode cX10_deaf 13 = .ok (.aload_n 0, 1) := by decide +kernel
theorem dX10_deaf_14 : decode cX10_deaf 14 = .ok (.sipush 240, 3) := by decide +kernel
theorem dX10_deaf_17 : decode cX10_deaf 17 = .ok (.invokevirtual 212, 3) := by decide +kernel
theorem dX10_deaf_20 : decode cX10_deaf 20 = .ok (.aload_n 0, 1) := by decide +kernel
theorem dX10_deaf_21 : decode cX10_deaf 21 = .ok (.getfield 62, 3) := by decide +kernel
theorem dX10_deaf_24 : decode cX10_deaf 24 = .ok (.invokevirtual 220, 3) := by decide +kernel
theorem dX10_deaf_27 : decode cX10_deaf 27 = .ok (.aload_n 0, 1) := by decide +kernel
theorem dX10_deaf_28 : decode cX10_deaf 28 = .ok (.getfield 33, 3) := by decide +kernel
theorem dX10_deaf_31 : decode cX10_deaf 31 = .ok (.iload_n 1, 1) := by decide +kernel
theorem dX10_deaf_32 : decode cX10_deaf 32 = .ok (.invokevirtual 165, 3) := by decide +kernel
theorem dX10_deaf_35 : decode cX10_deaf 35 = .ok (.iconst (-1), 1) := by decide +kernel
theorem dX10_deaf_36 : decode cX10_deaf 36 = .ok (.ixor, 1) := by decide +kernel
theorem dX10_deaf_37 : decode cX10_deaf 37 = .ok (.iand, 1) := by decide +kernel
theorem dX10_deaf_38 : decode cX10_deaf 38 = .ok (.ireturn, 1) := by decide +kernel
theorem dX10_gossip_0 : decode cX10_gossip 0 = .ok (.iload_n 1, 1) := by decide +kernel
theorem dX10_gossip_1 : decode cX10_gossip 1 = .ok (.ifCond .lt 10, 3) := by decide +kernel
theorem dX10_gossip_4 : decode cX10_gossip 4 = .ok (.iload_n 1, 1) := by decide +kernel
theorem dX10_gossip_5 : decode cX10_gossip 5 = .ok (.sipush 240, 3) := by decide +kernel
theorem dX10_gossip_8 : decode cX10_gossip 8 = .ok (.if_icmp .le 5, 3) := by decide +kernel
theorem dX10_gossip_11 : decode cX10_gossip 11 = .ok (.iconst (-1), 1) := by decide +kernel
theorem dX10_gossip_12 : decode cX10_gossip 12 = .ok (.ireturn, 1) := by decide +kernel
theorem dX10_gossip_13 : decode cX10_gossip 13 = .ok (.aload_n 0, 1) := by decide +kernel
theorem dX10_gossip_14 : decode cX10_gossip 14 = .ok (.iload_n 1, 1) := by decide +kernel
theorem dX10_gossip_15 : decode cX10_gossip 15 = .ok (.invokevirtual 212, 3) := by decide +kernel
theorem dX10_gossip_18 : decode cX10_gossip 18 = .ok (.aload_n 0, 1) := by decide +kernel
theorem dX10_gossip_19 : decode cX10_gossip 19 = .ok (.getfield 33, 3) := by decide +kernel
theorem dX10_gossip_22 : decode cX10_gossip 22 = .ok (.invokevirtual 224, 3) := by decide +kernel
theorem dX10_gossip_25 : decode cX10_gossip 25 = .ok (.aload_n 0, 1) := by decide +kernel
theorem dX10_gossip_26 : decode cX10_gossip 26 = .ok (.getfield 19, 3) := by decide +kernel
theorem dX10_gossip_29 : decode cX10_gossip 29 = .ok (.invokevirtual 124, 3) := by decide +kernel
theorem dX10_gossip_32 : decode cX10_gossip 32 = .ok (.invokevirtual 224, 3) := by decide +kernel
theorem dX10_gossip_35 : decode cX10_gossip 35 = .ok (.isub, 1) := by decide +kernel
theorem dX10_gossip_36 : decode cX10_gossip 36 = .ok (.ireturn, 1) := by decide +kernel
theorem dX10_rentOf_0 : decode cX10_rentOf 0 = .ok (.aload_n 0, 1) := by decide +kernel
theorem dX10_rentOf_1 : decode cX10_rentOf 1 = .ok (.getfield 19, 3) := by decide +kernel
theorem dX10_rentOf_4 : decode cX10_rentOf 4 = .ok (.invokevirtual 124, 3) := by decide +kernel
theorem dX10_rentOf_7 : decode cX10_rentOf 7 = .ok (.astore_n 2, 1) := by decide +kernel
theorem dX10_rentOf_8 : decode cX10_rentOf 8 = .ok (.aload_n 0, 1) := by decide +kernel
theorem dX10_rentOf_9 : decode cX10_rentOf 9 = .ok (.getfield 62, 3) := by decide +kernel
theorem dX10_rentOf_12 : decode cX10_rentOf 12 = .ok (.getfield 317, 3) := by decide +kernel
theorem dX10_rentOf_15 : decode cX10_rentOf 15 = .ok (.astore_n 3, 1) := by decide +kernel
theorem dX10_rentOf_16 : decode cX10_rentOf 16 = .ok (.aload_n 2, 1) := by decide +kernel
theorem dX10_rentOf_17 : decode cX10_rentOf 17 = .ok (.getfield 128, 3) := by decide +kernel
theorem dX10_rentOf_20 : decode cX10_rentOf 20 = .ok (.iload_n 1, 1) := by decide +kernel
theorem dX10_rentOf_21 : decode cX10_rentOf 21 = .ok (.iaload, 1) := by decide +kernel
theorem dX10_rentOf_22 : decode cX10_rentOf 22 = .ok (.istore 4, 2) := by decide +kernel
theorem dX10_rentOf_24 : decode cX10_rentOf 24 = .ok (.aload_n 3, 1) := by decide +kernel
theorem dX10_rentOf_25 : decode cX10_rentOf 25 = .ok (.sipush 201, 3) := by decide +kernel
theorem dX10_rentOf_28 : decode cX10_rentOf 28 = .ok (.aload_n 0, 1) := by decide +kernel
theorem dX10_rentOf_29 : decode cX10_rentOf 29 = .ok (.getfield 62, 3) := by decide +kernel
theorem dX10_rentOf_32 : decode cX10_rentOf 32 = .ok (.getfield 144, 3) := by decide +kernel
theorem dX10_rentOf_35 : decode cX10_rentOf 35 = .ok (.iload 4, 2) := by decide +kernel
theorem dX10_rentOf_37 : decode cX10_rentOf 37 = .ok (.iaload, 1) := by decide +kernel
theorem dX10_rentOf_38 : decode cX10_rentOf 38 = .ok (.invokevirtual 326, 3) := by decide +kernel
theorem dX10_rentOf_41 : decode cX10_rentOf 41 = .ok (.aload_n 3, 1) := by decide +kernel
theorem dX10_rentOf_42 : decode cX10_rentOf 42 = .ok (.sipush 217, 3) := by decide +kernel
theorem dX10_rentOf_45 : decode cX10_rentOf 45 = .ok (.aload_n 2, 1) := by decide +kernel
theorem dX10_rentOf_46 : decode cX10_rentOf 46 = .ok (.iload_n 1, 1) := by decide +kernel
theorem dX10_rentOf_47 : decode cX10_rentOf 47 = .ok (.invokevirtual 135, 3) := by decide +kernel
theorem dX10_rentOf_50 : decode cX10_rentOf 50 = .ok (.ifCond .eq 7, 3) := by decide +kernel
theorem dX10_rentOf_53 : decode cX10_rentOf 53 = .ok (.iconst 0, 1) := by decide +kernel
theorem dX10_rentOf_54 : decode cX10_rentOf 54 = .ok (.goto 4, 3) := by decide +kernel
theorem dX10_rentOf_57 : decode cX10_rentOf 57 = .ok (.iconst 1, 1) := by decide +kernel
theorem dX10_rentOf_58 : decode cX10_rentOf 58 = .ok (.invokevirtual 326, 3) := by decide +kernel
theorem dX10_rentOf_61 : decode cX10_rentOf 61 = .ok (.aload_n 3, 1) := by decide +kernel
theorem dX10_rentOf_62 : decode cX10_rentOf 62 = .ok (.sipush 218, 3) := by decide +kernel
theorem dX10_rentOf_65 : decode cX10_rentOf 65 = .ok (.aload_n 2, 1) := by decide +kernel
theorem dX10_rentOf_66 : decode cX10_rentOf 66 = .ok (.getfield 138, 3) := by decide +kernel
theorem dX10_rentOf_69 : decode cX10_rentOf 69 = .ok (.iload_n 1, 1) := by decide +kernel
theorem dX10_rentOf_70 : decode cX10_rentOf 70 = .ok (.iaload, 1) := by decide +kernel
theorem dX10_rentOf_71 : decode cX10_rentOf 71 = .ok (.invokestatic 215, 3) := by decide +kernel
theorem dX10_rentOf_74 : decode cX10_rentOf 74 = .ok (.invokevirtual 326, 3) := by decide +kernel
theorem dX10_rentOf_77 : decode cX10_rentOf 77 = .ok (.aload_n 3, 1) := by decide +kernel
theorem dX10_rentOf_78 : decode cX10_rentOf 78 = .ok (.sipush 219, 3) := by decide +kernel
theorem dX10_rentOf_81 : decode cX10_rentOf 81 = .ok (.aload_n 0, 1) := by decide +kernel
theorem dX10_rentOf_82 : decode cX10_rentOf 82 = .ok (.getfield 62, 3) := by decide +kernel
theorem dX10_rentOf_85 : decode cX10_rentOf 85 = .ok (.iload_n 1, 1) := by decide +kernel
theorem dX10_rentOf_86 : decode cX10_rentOf 86 = .ok (.iload 4, 2) := by decide +kernel
theorem dX10_rentOf_88 : decode cX10_rentOf 88 = .ok (.invokevirtual 168, 3) := by decide +kernel
theorem dX10_rentOf_91 : decode cX10_rentOf 91 = .ok (.invokevirtual 326, 3) := by decide +kernel
theorem dX10_rentOf_94 : decode cX10_rentOf 94 = .ok (.aload_n 3, 1) := by decide +kernel
theorem dX10_rentOf_95 : decode cX10_rentOf 95 = .ok (.sipush 220, 3) := by decide +kernel
theorem dX10_rentOf_98 : decode cX10_rentOf 98 = .ok (.aload_n 2, 1) := by decide +kernel
theorem dX10_rentOf_99 : decode cX10_rentOf 99 = .ok (.getfield 191, 3) := by decide +kernel
theorem dX10_rentOf_102 : decode cX10_rentOf 102 = .ok (.invokevirtual 326, 3) := by decide +kernel
theorem dX10_rentOf_105 : decode cX10_rentOf 105 = .ok (.aload_n 3, 1) := by decide +kernel
theorem dX10_rentOf_106 : decode cX10_rentOf 106 = .ok (.sipush 221, 3) := by decide +kernel
theorem dX10_rentOf_109 : decode cX10_rentOf 109 = .ok (.iload 4, 2) := by decide +kernel
theorem dX10_rentOf_111 : decode cX10_rentOf 111 = .ok (.iload_n 1, 1) := by decide +kernel
theorem dX10_rentOf_112 : decode cX10_rentOf 112 = .ok (.if_icmp .ne 7, 3) := by decide +kernel
theorem dX10_rentOf_115 : decode cX10_rentOf 115 = .ok (.iconst 1, 1) := by decide +kernel
theorem dX10_rentOf_116 : decode cX10_rentOf 116 = .ok (.goto 4, 3) := by decide +kernel
theorem dX10_rentOf_119 : decode cX10_rentOf 119 = .ok (.iconst 0, 1) := by decide +kernel
theorem dX10_rentOf_120 : decode cX10_rentOf 120 = .ok (.invokevirtual 326, 3) := by decide +kernel
theorem dX10_rentOf_123 : decode cX10_rentOf 123 = .ok (.aload_n 3, 1) := by decide +kernel
theorem dX10_rentOf_124 : decode cX10_rentOf 124 = .ok (.invokevirtual 329, 3) := by decide +kernel
theorem dX10_rentOf_127 : decode cX10_rentOf 127 = .ok (.ireturn, 1) := by decide +kernel
theorem dX10_rents_0 : decode cX10_rents 0 = .ok (.iconst 0, 1) := by decide +kernel
theorem dX10_rents_1 : decode cX10_rents 1 = .ok (.istore_n 1, 1) := by decide +kernel
theorem dX10_rents_2 : decode cX10_rents 2 = .ok (.iconst 0, 1) := by decide +kernel
theorem dX10_rents_3 : decode cX10_rents 3 = .ok (.istore_n 2, 1) := by decide +kernel
theorem dX10_rents_4 : decode cX10_rents 4 = .ok (.iload_n 2, 1) := by decide +kernel
theorem dX10_rents_5 : decode cX10_rents 5 = .ok (.aload_n 0, 1) := by decide +kernel
theorem dX10_rents_6 : decode cX10_rents 6 = .ok (.getfield 62, 3) := by decide +kernel
theorem dX10_rents_9 : decode cX10_rents 9 = .ok (.getfield 111, 3) := by decide +kernel
theorem dX10_rents_12 : decode cX10_rents 12 = .ok (.if_icmp .ge 17, 3) := by decide +kernel
theorem dX10_rents_15 : decode cX10_rents 15 = .ok (.iload_n 1, 1) := by decide +kernel
theorem dX10_rents_16 : decode cX10_rents 16 = .ok (.aload_n 0, 1) := by decide +kernel
theorem dX10_rents_17 : decode cX10_rents 17 = .ok (.iload_n 2, 1) := by decide +kernel
theorem dX10_rents_18 : decode cX10_rents 18 = .ok (.invokevirtual 141, 3) := by decide +kernel
theorem dX10_rents_21 : decode cX10_rents 21 = .ok (.iadd, 1) := by decide +kernel
theorem dX10_rents_22 : decode cX10_rents 22 = .ok (.istore_n 1, 1) := by decide +kernel
theorem dX10_rents_23 : decode cX10_rents 23 = .ok (.iinc 2 1, 3) := by decide +kernel
theorem dX10_rents_26 : decode cX10_rents 26 = .ok (.goto (-22), 3) := by decide +kernel
theorem dX10_rents_29 : decode cX10_rents 29 = .ok (.iload_n 1, 1) := by decide +kernel
theorem dX10_rents_30 : decode cX10_rents 30 = .ok (.ireturn, 1) := by decide +kernel
set_option maxHeartbeats 2000000 in
set_option maxRecDepth 20000 in
theorem c_X10_lookAhead (l : Launch) (D : va_G) (cy : Nat → ClassId) (B N : Nat) (q : Int) (nr : Int) (a : Int) (M : MM) (hN : 210 ≤ N) (hI : Iv M) (hpa : I32 a) (hq : q = 5 ∨ q = 180) (ht : M.1 0 8 = q) (hnr : M.1 q 0 = nr) (hVn : Vn nr M) (hnb : 0 ≤ nr ∧ nr ≤ 6) : CV l D cy B N 5 yX10_lookAhead cX10_lookAhead 3 none [rv B 0, iv a] M (fun M' => Iv M' ∧ Fr (fun a (_ : Int) => (152 ≤ a ∧ a ≤ 155)) M M' ∧ (V nr 153 M')) := by
  refine mk_CV (by decide) (Nat.le_of_ble_eq_true rfl) ?_
  intro X exl exD excy hnL hX hret
  have hce : 0 + 0 ≤ (xR X).cells ∧ 0 + 0 ≤ (xR X).slots := ⟨Nat.zero_le _, Nat.zero_le _⟩
  have hdq : 5 ≤ q ∧ q ≤ 180 := by omega
  have hF : Fr (fun a (_ : Int) => (152 ≤ a ∧ a ≤ 155)) M M := Fr.rf
  have cp : ∀ n : Nat, (∀ (x2 : Int), ∀ (Mc : MM), I32 x2 → Iv Mc → Fr (fun a (_ : Int) => (152 ≤ a ∧ a ≤ 155)) M Mc → Mc.1 0 8 = q → Mc.1 q 0 = nr → V nr 153 Mc → (0 ≤ x2) → 0 ≤ 32 * (2147483648 - x2) + 1 → 32 * (2147483648 - x2) + 1 < (n : Int) → J X B N 0 0 16 [(0, rv B 0), (1, iv a), (2, iv x2)] [] Mc) := by
    intro n
    induction n with
    | zero => exact by intros; exfalso; omega
    | succ n ih =>
      · intro x2 Mc hxx2 hI hF hk_0 hk_1 hV_0 h2 hm0 hm1
        refine j_iload_n hX dX10_lookAhead_16 rfl 2 rfl ?_
        refine j_iload_n hX dX10_lookAhead_17 rfl 1 rfl ?_
        refine j_icmp_ge (tgt := 43) hX dX10_lookAhead_18 (by decide) (by omega) (by omega) (fun hc1 => ?_) (fun hc1 => ?_)
        · skip
          exact hret _ _ _ dX10_lookAhead_43 ⟨hI, hF, by assumption⟩
        · skip
          refine j_aload_n hX dX10_lookAhead_21 rfl 0 rfl ?_
          refine gf_X10_26 hX (by omega) (by omega) kc_0 (fc_0_2 hI) (by decide) dX10_lookAhead_22 ?_
          refine j_aload_n hX dX10_lookAhead_25 rfl 0 rfl ?_
          refine gf_X10_62 hX (by omega) (by omega) kc_0 hk_0 (by omega) dX10_lookAhead_26 ?_
          refine j_aload_n hX dX10_lookAhead_29 rfl 0 rfl ?_
          refine gf_X10_33 hX (by omega) (by omega) kc_0 (fc_0_3 hI) (by decide) dX10_lookAhead_30 ?_
          have h153 : Sc 153 := by unfold Sc; omega
          refine j_callVI hX lk_X10_194 (c_X1_passHour _ _ _ _ _ q 153 _ _ (by omega) hI hq h153 hk_1 (by first | assumption | omega) (by first | assumption | omega)) (by omega) hce rfl rfl (by omega) (by omega) kc_151 rfl rfl (Nat.le_of_ble_eq_true rfl) dX10_lookAhead_33 (fun z2 M3 hz5 hp4 => ?_)
          obtain ⟨hI7, hG8, hq9⟩ := hp4
          have hk11 := kp_fr hG8 (by omega) hk_0
          have hk12 := kp_fr hG8 (by omega) hk_1
          have hF13 := Fr.trans hF hG8 (fun a b h => by omega)
          refine j_pop hX dX10_lookAhead_36 rfl ?_
          refine j_iinc (lv' := [(2, _), (0, _), (1, _)]) hX dX10_lookAhead_37 2 rfl (by rw [hnL]; decide) rfl ?_
          refine j_goto (tgt := 16) hX dX10_lookAhead_40 (by decide) ?_
          refine j_sub [1, 2, 0] rfl ?_
          exact ih _ _ (by omega) hI7 hF13 hk11 hk12 hq9 (by first | assumption | omega) (by omega) (by omega)
  show J X B N 0 0 0 [(0, rv B 0), (1, iv a)] [] M
  refine j_aload_n hX dX10_lookAhead_0 rfl 0 rfl ?_
  refine gf_X10_33 hX (by omega) (by omega) kc_0 (fc_0_3 hI) (by decide) dX10_lookAhead_1 ?_
  have h153 : Sc 153 := by unfold Sc; omega
  refine j_aload_n hX dX10_lookAhead_4 rfl 0 rfl ?_
  refine gf_X10_19 hX (by omega) (by omega) kc_0 (fc_0_1 hI) (by decide) dX10_lookAhead_5 ?_
  refine j_callVR hX lk_X10_124 (c_X0_now _ _ _ _ _ _ (by omega) hI) (by omega) hce rfl rfl (by omega) (by omega) kc_26 rfl rfl (Nat.le_of_ble_eq_true rfl) dX10_lookAhead_8 (fun sw M14 hz16 hp15 => ?_)
  obtain ⟨hE17, hq18, hq19⟩ := hp15
  replace hE17 := hE17.symm
  subst hE17
  have hV20 : V nr sw M := by rw [hq19]; exact hVn
  have hsw : Sc sw := hq18
  have hbsw := sc_b hsw
  have hdsw : 28 ≤ sw ∧ sw ≤ 207 := by omega
  refine j_callVV hX lk_X10_204 (c_X8_copyFrom _ _ _ _ _ 153 sw _ _ (by omega) hI h153 hsw (by first | assumption | omega)) (by omega) hce rfl rfl (by omega) (by omega) (sc_k0 h153) rfl rfl (Nat.le_of_ble_eq_true rfl) dX10_lookAhead_11 (fun M22 hp23 => ?_)
  obtain ⟨hI26, hG27, hq28⟩ := hp23
  have hV29 := Vn_fr hVn hI hG27 (fun a b h => by omega)
  have hk31 := kp_fr hG27 (by omega) ht
  have hk32 := kp_fr hG27 (by omega) hnr
  have hF33 := Fr.trans hF hG27 (fun a b h => by omega)
  refine j_iconst hX dX10_lookAhead_14 ?_
  refine j_istore_n (lv' := [(2, _), (0, _), (1, _)]) hX dX10_lookAhead_15 rfl (by rw [hnL]; decide) rfl ?_
  refine j_sub [1, 2, 0] rfl ?_
  refine (cp (Int.toNat (68719476800 + 1))) _ _ (by omega) hI26 hF33 hk31 hk32 hq28 (by first | assumption | omega) ?_ ?_
  · omega
  · omega
set_option maxHeartbeats 2000000 in
set_option maxRecDepth 20000 in
theorem c_X10_staysHidden (l : Launch) (D : va_G) (cy : Nat → ClassId) (B N : Nat) (q : Int) (nr : Int) (a : Int) (b : Int) (c : Int) (M : MM) (hN : 210 ≤ N) (hI : Iv M) (hpa : I32 a) (hpb : I32 b) (hpc : I32 c) (hq : q = 5 ∨ q = 180) (ht : M.1 0 8 = q) (hnr : M.1 q 0 = nr) (hVn : Vn nr M) (hnb : 0 ≤ nr ∧ nr ≤ 6) (h1 : 0 ≤ a ∧ a < 6) : CI l D cy B N 5 yX10_staysHidden cX10_staysHidden 5 (some .boolean) [rv B 0, iv a, iv b, iv c] M (fun z M' => Iv M' ∧ Fr (fun a (_ : Int) => (152 ≤ a ∧ a ≤ 155)) M M' ∧ (0 ≤ z ∧ z ≤ 1)) := by
  refine mk_CI (by decide) (Nat.le_of_ble_eq_true rfl) ?_
  intro X exl exD excy hnL hX hret
  have hce : 0 + 0 ≤ (xR X).cells ∧ 0 + 0 ≤ (xR X).slots := ⟨Nat.zero_le _, Nat.zero_le _⟩
  have hdq : 5 ≤ q ∧ q ≤ 180 := by omega
  have hF : Fr (fun a (_ : Int) => (152 ≤ a ∧ a ≤ 155)) M M := Fr.rf
  have cp : ∀ n : Nat, (∀ (x4 : Int), ∀ (Mc : MM), I32 x4 → Iv Mc → Fr (fun a (_ : Int) => (152 ≤ a ∧ a ≤ 155)) M Mc → Mc.1 0 8 = q → Mc.1 q 0 = nr → V nr 153 Mc → (0 ≤ x4 ∧ x4 ≤ 120) → 0 ≤ 32 * (120 - x4) + 1 → 32 * (120 - x4) + 1 < (n : Int) → J X B N 0 0 30 [(0, rv B 0), (1, iv a), (2, iv b), (3, iv c), (4, iv x4)] [] Mc) := by
    intro n
    induction n with
    | zero => exact by intros; exfalso; omega
    | succ n ih =>
      · intro x4 Mc hxx4 hI hF hk_0 hk_1 hV_0 h2 hm0 hm1
        refine j_iload hX dX10_staysHidden_30 4 rfl ?_
        refine j_bipush hX dX10_staysHidden_32 rfl ?_
        refine j_icmp_ge (tgt := 73) hX dX10_staysHidden_34 (by decide) (by omega) (by omega) (fun hc1 => ?_) (fun hc1 => ?_)
        · skip
          refine j_iconst hX dX10_staysHidden_73 ?_
          exact hret _ _ _ _ dX10_staysHidden_74 (nb (by omega)) (by omega) ⟨hI, hF, by omega⟩
        · skip
          refine j_aload_n hX dX10_staysHidden_37 rfl 0 rfl ?_
          refine gf_X10_26 hX (by omega) (by omega) kc_0 (fc_0_2 hI) (by decide) dX10_staysHidden_38 ?_
          refine j_aload_n hX dX10_staysHidden_41 rfl 0 rfl ?_
          refine gf_X10_62 hX (by omega) (by omega) kc_0 hk_0 (by omega) dX10_staysHidden_42 ?_
          refine j_aload_n hX dX10_staysHidden_45 rfl 0 rfl ?_
          refine gf_X10_33 hX (by omega) (by omega) kc_0 (fc_0_3 hI) (by decide) dX10_staysHidden_46 ?_
          have h153 : Sc 153 := by unfold Sc; omega
          refine j_callVI hX lk_X10_194 (c_X1_passHour _ _ _ _ _ q 153 _ _ (by omega) hI hq h153 hk_1 (by first | assumption | omega) (by first | assumption | omega)) (by omega) hce rfl rfl (by omega) (by omega) kc_151 rfl rfl (Nat.le_of_ble_eq_true rfl) dX10_staysHidden_49 (fun z2 M3 hz5 hp4 => ?_)
          obtain ⟨hI7, hG8, hq9⟩ := hp4
          have hk11 := kp_fr hG8 (by omega) hk_0
          have hk12 := kp_fr hG8 (by omega) hk_1
          have hF13 := Fr.trans hF hG8 (fun a b h => by omega)
          refine j_pop hX dX10_staysHidden_52 rfl ?_
          refine j_aload_n hX dX10_staysHidden_53 rfl 0 rfl ?_
          refine gf_X10_33 hX (by omega) (by omega) kc_0 (fc_0_3 hI7) (by decide) dX10_staysHidden_54 ?_
          have h153 : Sc 153 := by unfold Sc; omega
          refine j_iload_n hX dX10_staysHidden_57 rfl 1 rfl ?_
          refine j_iload_n hX dX10_staysHidden_58 rfl 2 rfl ?_
          refine j_callVI hX lk_X10_208 (c_X8_doesKnow _ _ _ _ _ 153 _ _ _ (by omega) hI7 (by omega) (by omega) h153 (by first | assumption | omega)) (by omega) hce rfl rfl (by omega) (by omega) (sc_k0 h153) rfl rfl (Nat.le_of_ble_eq_true rfl) dX10_staysHidden_59 (fun z14 M15 hz17 hp16 => ?_)
          obtain ⟨hE18, hb19⟩ := hp16
          replace hE18 := hE18.symm
          subst hE18
          refine j_if_eq (tgt := 67) hX dX10_staysHidden_62 (by decide) (by omega) (fun hc20 => ?_) (fun hc20 => ?_)
          · skip
            refine j_iinc (lv' := [(4, _), (0, _), (1, _), (2, _), (3, _)]) hX dX10_staysHidden_67 4 rfl (by rw [hnL]; decide) rfl ?_
            refine j_goto (tgt := 30) hX dX10_staysHidden_70 (by decide) ?_
            refine j_sub [1, 2, 3, 4, 0] rfl ?_
            exact ih _ _ (by omega) hI7 hF13 hk11 hk12 hq9 (by first | assumption | omega) (by omega) (by omega)
          · skip
            refine j_iconst hX dX10_staysHidden_65 ?_
            exact hret _ _ _ _ dX10_staysHidden_66 (nb (by omega)) (by omega) ⟨hI7, hF13, by omega⟩
  show J X B N 0 0 0 [(0, rv B 0), (1, iv a), (2, iv b), (3, iv c)] [] M
  refine j_aload_n hX dX10_staysHidden_0 rfl 0 rfl ?_
  refine gf_X10_33 hX (by omega) (by omega) kc_0 (fc_0_3 hI) (by decide) dX10_staysHidden_1 ?_
  have h153 : Sc 153 := by unfold Sc; omega
  refine j_aload_n hX dX10_staysHidden_4 rfl 0 rfl ?_
  refine gf_X10_19 hX (by omega) (by omega) kc_0 (fc_0_1 hI) (by decide) dX10_staysHidden_5 ?_
  refine j_callVR hX lk_X10_124 (c_X0_now _ _ _ _ _ _ (by omega) hI) (by omega) hce rfl rfl (by omega) (by omega) kc_26 rfl rfl (Nat.le_of_ble_eq_true rfl) dX10_staysHidden_8 (fun sw M21 hz23 hp22 => ?_)
  obtain ⟨hE24, hq25, hq26⟩ := hp22
  replace hE24 := hE24.symm
  subst hE24
  have hV27 : V nr sw M := by rw [hq26]; exact hVn
  have hsw : Sc sw := hq25
  have hbsw := sc_b hsw
  have hdsw : 28 ≤ sw ∧ sw ≤ 207 := by omega
  refine j_callVV hX lk_X10_204 (c_X8_copyFrom _ _ _ _ _ 153 sw _ _ (by omega) hI h153 hsw (by first | assumption | omega)) (by omega) hce rfl rfl (by omega) (by omega) (sc_k0 h153) rfl rfl (Nat.le_of_ble_eq_true rfl) dX10_staysHidden_11 (fun M29 hp30 => ?_)
  obtain ⟨hI33, hG34, hq35⟩ := hp30
  have hV36 := Vn_fr hVn hI hG34 (fun a b h => by omega)
  have hk38 := kp_fr hG34 (by omega) ht
  have hk39 := kp_fr hG34 (by omega) hnr
  have hF40 := Fr.trans hF hG34 (fun a b h => by omega)
  refine j_aload_n hX dX10_staysHidden_14 rfl 0 rfl ?_
  refine gf_X10_33 hX (by omega) (by omega) kc_0 (fc_0_3 hI33) (by decide) dX10_staysHidden_15 ?_
  have h153 : Sc 153 := by unfold Sc; omega
  refine j_dup hX dX10_staysHidden_18 rfl ?_
  refine gf_X10_178 hX (by omega) (by omega) (sc_k0 h153) dX10_staysHidden_19 ?_
  refine j_name hI33 (sc_r2 h153) (fun v41 hv42 hl43 hh44 => ?_)
  have hk45 := hv42.symm
  refine j_iload_n hX dX10_staysHidden_22 rfl 3 rfl ?_
  refine j_ior hX dX10_staysHidden_23 (fun z46 hz47 hy48 => ?_)
  refine pf_X10_178 hX (by omega) (by omega) (sc_k0 h153) (by omega) dX10_staysHidden_24 ?_
  refine j_up hI33 (sc_r2 h153) (by omega) (by omega) (Or.inl (by omega)) (fun M49 w50 hw51 hM52 hI53 hf54 => ?_)
  have hV56 := V_up hq35 hM52 (by omega) (by omega)
  have hk57 := kp_up hM52 (by omega) hk38
  have hk58 := kp_up hM52 (by omega) hk39
  clear hk38 hk39 hk45
  have hF59 := Fr.put hF40 hM52 (by omega)
  refine j_iconst hX dX10_staysHidden_27 ?_
  refine j_istore (lv' := [(4, _), (0, _), (1, _), (2, _), (3, _)]) hX dX10_staysHidden_28 (by rw [hnL]; decide) rfl ?_
  refine j_sub [1, 2, 3, 4, 0] rfl ?_
  refine (cp (Int.toNat (3904 + 1))) _ _ (by omega) hI53 hF59 hk57 hk58 hV56 (by first | assumption | omega) ?_ ?_
  · omega
  · omega
set_option maxHeartbeats 2000000 in
set_option maxRecDepth 20000 in
theorem c_X10_when (l : Launch) (D : va_G) (cy : Nat → ClassId) (B N : Nat) (q : Int) (nr : Int) (a : Int) (b : Int) (M : MM) (hN : 210 ≤ N) (hI : Iv M) (hpa : I32 a) (hpb : I32 b) (hq : q = 5 ∨ q = 180) (ht : M.1 0 8 = q) (hnr : M.1 q 0 = nr) (hVn : Vn nr M) (hnb : 0 ≤ nr ∧ nr ≤ 6) : CI l D cy B N 5 yX10_when cX10_when 4 (some .int) [rv B 0, iv a, iv b] M (fun z M' => Iv M' ∧ Fr (fun a (_ : Int) => (152 ≤ a ∧ a ≤ 155)) M M') := by
  refine mk_CI (by decide) (Nat.le_of_ble_eq_true rfl) ?_
  intro X exl exD excy hnL hX hret
  have hce : 0 + 0 ≤ (xR X).cells ∧ 0 + 0 ≤ (xR X).slots := ⟨Nat.zero_le _, Nat.zero_le _⟩
  have hdq : 5 ≤ q ∧ q ≤ 180 := by omega
  have hF : Fr (fun a (_ : Int) => (152 ≤ a ∧ a ≤ 155)) M M := Fr.rf
  have cp : ∀ n : Nat, (∀ (x3 : Int), ∀ (Mc : MM), I32 x3 → Iv Mc → Fr (fun a (_ : Int) => (152 ≤ a ∧ a ≤ 155)) M Mc → Mc.1 0 8 = q → Mc.1 q 0 = nr → V nr 153 Mc → (0 ≤ x3 ∧ x3 ≤ 240 ∧ 0 ≤ a ∧ a < 6) → 0 ≤ 32 * (240 - x3) + 1 → 32 * (240 - x3) + 1 < (n : Int) → J X B N 0 0 40 [(0, rv B 0), (1, iv a), (2, iv b), (3, iv x3)] [] Mc) := by
    intro n
    induction n with
    | zero => exact by intros; exfalso; omega
    | succ n ih =>
      · intro x3 Mc hxx3 hI hF hk_0 hk_1 hV_0 h2 hm0 hm1
        refine j_iload_n hX dX10_when_40 rfl 3 rfl ?_
        refine j_sipush hX dX10_when_41 rfl ?_
        refine j_icmp_ge (tgt := 83) hX dX10_when_44 (by decide) (by omega) (by omega) (fun hc1 => ?_) (fun hc1 => ?_)
        · skip
          refine j_aload_n hX dX10_when_83 rfl 0 rfl ?_
          refine gf_X10_33 hX (by omega) (by omega) kc_0 (fc_0_3 hI) (by decide) dX10_when_84 ?_
          have h153 : Sc 153 := by unfold Sc; omega
          refine j_iload_n hX dX10_when_87 rfl 1 rfl ?_
          refine j_iload_n hX dX10_when_88 rfl 2 rfl ?_
          refine j_callVI hX lk_X10_208 (c_X8_doesKnow _ _ _ _ _ 153 _ _ _ (by omega) hI (by omega) (by omega) h153 (by first | assumption | omega)) (by omega) hce rfl rfl (by omega) (by omega) (sc_k0 h153) rfl rfl (Nat.le_of_ble_eq_true rfl) dX10_when_89 (fun z2 M3 hz5 hp4 => ?_)
          obtain ⟨hE6, hb7⟩ := hp4
          replace hE6 := hE6.symm
          subst hE6
          refine j_if_eq (tgt := 101) hX dX10_when_92 (by decide) (by omega) (fun hc8 => ?_) (fun hc8 => ?_)
          · skip
            refine j_iconst hX dX10_when_101 ?_
            exact hret _ _ _ _ dX10_when_102 rfl (by omega) ⟨hI, hF⟩
          · skip
            refine j_sipush hX dX10_when_95 rfl ?_
            refine j_goto (tgt := 102) hX dX10_when_98 (by decide) ?_
            exact hret _ _ _ _ dX10_when_102 rfl (by omega) ⟨hI, hF⟩
        · skip
          refine j_aload_n hX dX10_when_47 rfl 0 rfl ?_
          refine gf_X10_33 hX (by omega) (by omega) kc_0 (fc_0_3 hI) (by decide) dX10_when_48 ?_
          have h153 : Sc 153 := by unfold Sc; omega
          refine j_iload_n hX dX10_when_51 rfl 1 rfl ?_
          refine j_iload_n hX dX10_when_52 rfl 2 rfl ?_
          refine j_callVI hX lk_X10_208 (c_X8_doesKnow _ _ _ _ _ 153 _ _ _ (by omega) hI (by omega) (by omega) h153 (by first | assumption | omega)) (by omega) hce rfl rfl (by omega) (by omega) (sc_k0 h153) rfl rfl (Nat.le_of_ble_eq_true rfl) dX10_when_53 (fun z9 M10 hz12 hp11 => ?_)
          obtain ⟨hE13, hb14⟩ := hp11
          replace hE13 := hE13.symm
          subst hE13
          refine j_if_eq (tgt := 61) hX dX10_when_56 (by decide) (by omega) (fun hc15 => ?_) (fun hc15 => ?_)
          · skip
            refine j_aload_n hX dX10_when_61 rfl 0 rfl ?_
            refine gf_X10_26 hX (by omega) (by omega) kc_0 (fc_0_2 hI) (by decide) dX10_when_62 ?_
            refine j_aload_n hX dX10_when_65 rfl 0 rfl ?_
            refine gf_X10_62 hX (by omega) (by omega) kc_0 hk_0 (by omega) dX10_when_66 ?_
            refine j_aload_n hX dX10_when_69 rfl 0 rfl ?_
            refine gf_X10_33 hX (by omega) (by omega) kc_0 (fc_0_3 hI) (by decide) dX10_when_70 ?_
            have h153 : Sc 153 := by unfold Sc; omega
            refine j_callVI hX lk_X10_194 (c_X1_passHour _ _ _ _ _ q 153 _ _ (by omega) hI hq h153 hk_1 (by first | assumption | omega) (by first | assumption | omega)) (by omega) hce rfl rfl (by omega) (by omega) kc_151 rfl rfl (Nat.le_of_ble_eq_true rfl) dX10_when_73 (fun z16 M17 hz19 hp18 => ?_)
            obtain ⟨hI21, hG22, hq23⟩ := hp18
            have hk25 := kp_fr hG22 (by omega) hk_0
            have hk26 := kp_fr hG22 (by omega) hk_1
            have hF27 := Fr.trans hF hG22 (fun a b h => by omega)
            refine j_pop hX dX10_when_76 rfl ?_
            refine j_iinc (lv' := [(3, _), (0, _), (1, _), (2, _)]) hX dX10_when_77 3 rfl (by rw [hnL]; decide) rfl ?_
            refine j_goto (tgt := 40) hX dX10_when_80 (by decide) ?_
            refine j_sub [1, 2, 3, 0] rfl ?_
            exact ih _ _ (by omega) hI21 hF27 hk25 hk26 hq23 (by first | assumption | omega) (by omega) (by omega)
          · skip
            refine j_iload_n hX dX10_when_59 rfl 3 rfl ?_
            exact hret _ _ _ _ dX10_when_60 rfl (by omega) ⟨hI, hF⟩
  show J X B N 0 0 0 [(0, rv B 0), (1, iv a), (2, iv b)] [] M
  refine j_aload_n hX dX10_when_0 rfl 0 rfl ?_
  refine gf_X10_62 hX (by omega) (by omega) kc_0 ht (by omega) dX10_when_1 ?_
  refine j_iload_n hX dX10_when_4 rfl 1 rfl ?_
  refine j_callVI hX lk_X10_120 (c_X6_hasRoom _ _ _ _ _ q _ _ (by omega) hI (by omega) hq) (by omega) hce rfl rfl (by omega) (by omega) (kq hq) rfl rfl (Nat.le_of_ble_eq_true rfl) dX10_when_5 (fun z28 M29 hz31 hp30 => ?_)
  obtain ⟨hE32, hb33, hq34⟩ := hp30
  replace hE32 := hE32.symm
  subst hE32
  refine j_if_eq (tgt := 22) hX dX10_when_8 (by decide) (by omega) (fun hc35 => ?_) (fun hc35 => ?_)
  · skip
    clear hq34
    refine j_iconst hX dX10_when_22 ?_
    exact hret _ _ _ _ dX10_when_23 rfl (by omega) ⟨hI, hF⟩
  · skip
    have hi36 := hq34 (by omega)
    clear hq34
    refine j_aload_n hX dX10_when_11 rfl 0 rfl ?_
    refine gf_X10_62 hX (by omega) (by omega) kc_0 ht (by omega) dX10_when_12 ?_
    refine j_iload_n hX dX10_when_15 rfl 2 rfl ?_
    refine j_callVI hX lk_X10_153 (c_X6_hasFact _ _ _ _ _ q _ _ (by omega) hI (by omega) hq) (by omega) hce rfl rfl (by omega) (by omega) (kq hq) rfl rfl (Nat.le_of_ble_eq_true rfl) dX10_when_16 (fun z37 M38 hz40 hp39 => ?_)
    obtain ⟨hE41, hb42, hq43⟩ := hp39
    replace hE41 := hE41.symm
    subst hE41
    refine j_if_ne (tgt := 24) hX dX10_when_19 (by decide) (by omega) (fun hc44 => ?_) (fun hc44 => ?_)
    · skip
      have hi45 := hq43 (by omega)
      clear hq43
      refine j_aload_n hX dX10_when_24 rfl 0 rfl ?_
      refine gf_X10_33 hX (by omega) (by omega) kc_0 (fc_0_3 hI) (by decide) dX10_when_25 ?_
      have h153 : Sc 153 := by unfold Sc; omega
      refine j_aload_n hX dX10_when_28 rfl 0 rfl ?_
      refine gf_X10_19 hX (by omega) (by omega) kc_0 (fc_0_1 hI) (by decide) dX10_when_29 ?_
      refine j_callVR hX lk_X10_124 (c_X0_now _ _ _ _ _ _ (by omega) hI) (by omega) hce rfl rfl (by omega) (by omega) kc_26 rfl rfl (Nat.le_of_ble_eq_true rfl) dX10_when_32 (fun sw M46 hz48 hp47 => ?_)
      obtain ⟨hE49, hq50, hq51⟩ := hp47
      replace hE49 := hE49.symm
      subst hE49
      have hV52 : V nr sw M := by rw [hq51]; exact hVn
      have hsw : Sc sw := hq50
      have hbsw := sc_b hsw
      have hdsw : 28 ≤ sw ∧ sw ≤ 207 := by omega
      refine j_callVV hX lk_X10_204 (c_X8_copyFrom _ _ _ _ _ 153 sw _ _ (by omega) hI h153 hsw (by first | assumption | omega)) (by omega) hce rfl rfl (by omega) (by omega) (sc_k0 h153) rfl rfl (Nat.le_of_ble_eq_true rfl) dX10_when_35 (fun M54 hp55 => ?_)
      obtain ⟨hI58, hG59, hq60⟩ := hp55
      have hV61 := Vn_fr hVn hI hG59 (fun a b h => by omega)
      have hk63 := kp_fr hG59 (by omega) ht
      have hk64 := kp_fr hG59 (by omega) hnr
      have hF65 := Fr.trans hF hG59 (fun a b h => by omega)
      refine j_iconst hX dX10_when_38 ?_
      refine j_istore_n (lv' := [(3, _), (0, _), (1, _), (2, _)]) hX dX10_when_39 rfl (by rw [hnL]; decide) rfl ?_
      refine j_sub [1, 2, 3, 0] rfl ?_
      refine (cp (Int.toNat (7744 + 1))) _ _ (by omega) hI58 hF65 hk63 hk64 hq60 (by first | assumption | omega) ?_ ?_
      · omega
      · omega
    · skip
      clear hq43
      refine j_iconst hX dX10_when_22 ?_
      exact hret _ _ _ _ dX10_when_23 rfl (by omega) ⟨hI, hF⟩
set_option maxHeartbeats 2000000 in
set_option maxRecDepth 20000 in
theorem c_X10_will (l : Launch) (D : va_G) (cy : Nat → ClassId) (B N : Nat) (q : Int) (nr : Int) (a : Int) (b : Int) (M : MM) (hN : 210 ≤ N) (hI : Iv M) (hpa : I32 a) (hpb : I32 b) (hq : q = 5 ∨ q = 180) (ht : M.1 0 8 = q) (hnr : M.1 q 0 = nr) (hVn : Vn nr M) (hnb : 0 ≤ nr ∧ nr ≤ 6) : CI l D cy B N 6 yX10_will cX10_will 3 (some .int) [rv B 0, iv a, iv b] M (fun z M' => Iv M' ∧ Fr (fun a (_ : Int) => (152 ≤ a ∧ a ≤ 155)) M M') := by
  refine mk_CI (by decide) (Nat.le_of_ble_eq_true rfl) ?_
  intro X exl exD excy hnL hX hret
  have hce : 0 + 0 ≤ (xR X).cells ∧ 0 + 0 ≤ (xR X).slots := ⟨Nat.zero_le _, Nat.zero_le _⟩
  have hdq : 5 ≤ q ∧ q ≤ 180 := by omega
  have hF : Fr (fun a (_ : Int) => (152 ≤ a ∧ a ≤ 155)) M M := Fr.rf
  show J X B N 0 0 0 [(0, rv B 0), (1, iv a), (2, iv b)] [] M
  refine j_aload_n hX dX10_will_0 rfl 0 rfl ?_
  refine gf_X10_62 hX (by omega) (by omega) kc_0 ht (by omega) dX10_will_1 ?_
  refine j_iload_n hX dX10_will_4 rfl 1 rfl ?_
  refine j_callVI hX lk_X10_120 (c_X6_hasRoom _ _ _ _ _ q _ _ (by omega) hI (by omega) hq) (by omega) hce rfl rfl (by omega) (by omega) (kq hq) rfl rfl (Nat.le_of_ble_eq_true rfl) dX10_will_5 (fun z1 M2 hz4 hp3 => ?_)
  obtain ⟨hE5, hb6, hq7⟩ := hp3
  replace hE5 := hE5.symm
  subst hE5
  refine j_if_eq (tgt := 22) hX dX10_will_8 (by decide) (by omega) (fun hc8 => ?_) (fun hc8 => ?_)
  · skip
    clear hq7
    refine j_iconst hX dX10_will_22 ?_
    exact hret _ _ _ _ dX10_will_23 rfl (by omega) ⟨hI, hF⟩
  · skip
    have hi9 := hq7 (by omega)
    clear hq7
    refine j_iload_n hX dX10_will_11 rfl 2 rfl ?_
    refine j_if_lt (tgt := 22) hX dX10_will_12 (by decide) (by omega) (fun hc10 => ?_) (fun hc10 => ?_)
    · skip
      refine j_iconst hX dX10_will_22 ?_
      exact hret _ _ _ _ dX10_will_23 rfl (by omega) ⟨hI, hF⟩
    · skip
      refine j_iload_n hX dX10_will_15 rfl 2 rfl ?_
      refine j_sipush hX dX10_will_16 rfl ?_
      refine j_icmp_le (tgt := 24) hX dX10_will_19 (by decide) (by omega) (by omega) (fun hc11 => ?_) (fun hc11 => ?_)
      · skip
        refine j_aload_n hX dX10_will_24 rfl 0 rfl ?_
        refine j_iload_n hX dX10_will_25 rfl 2 rfl ?_
        refine j_callVV hX lk_X10_212 (c_X10_lookAhead _ _ _ _ _ _ _ _ _ (by omega) hI (by omega) (by assumption) ht hnr (by first | assumption | omega) (by first | assumption | omega)) (by omega) hce rfl rfl (by omega) (by omega) kc_0 rfl rfl (Nat.le_of_ble_eq_true rfl) dX10_will_26 (fun M13 hp14 => ?_)
        obtain ⟨hI17, hG18, hq19⟩ := hp14
        have hV20 := Vn_fr hVn hI hG18 (fun a b h => by omega)
        have hk21 := kp_fr hG18 (by omega) ht
        have hk22 := kp_fr hG18 (by omega) hnr
        have hF23 := Fr.trans hF hG18 (fun a b h => by omega)
        refine j_aload_n hX dX10_will_29 rfl 0 rfl ?_
        refine gf_X10_33 hX (by omega) (by omega) kc_0 (fc_0_3 hI17) (by decide) dX10_will_30 ?_
        have h153 : Sc 153 := by unfold Sc; omega
        refine gf_X10_138 hX (by omega) (by omega) (sc_k0 h153) (sc_f1 hI17 h153) (by omega) dX10_will_33 ?_
        refine j_iload_n hX dX10_will_36 rfl 1 rfl ?_
        refine j_iald hX (by omega) (by omega) (sc_k2 h153) (by omega) (by omega) (by omega) dX10_will_37 ?_
        refine j_name hI17 (sc_n h153 _) (fun v24 hv25 hl26 hh27 => ?_)
        exact hret _ _ _ _ dX10_will_38 rfl (by omega) ⟨hI17, hF23⟩
      · skip
        refine j_iconst hX dX10_will_22 ?_
        exact hret _ _ _ _ dX10_will_23 rfl (by omega) ⟨hI, hF⟩
set_option maxHeartbeats 2000000 in
set_option maxRecDepth 20000 in
theorem c_X10_deaf (l : Launch) (D : va_G) (cy : Nat → ClassId) (B N : Nat) (q : Int) (nr : Int) (a : Int) (M : MM) (hN : 210 ≤ N) (hI : Iv M) (hpa : I32 a) (hq : q = 5 ∨ q = 180) (ht : M.1 0 8 = q) (hnr : M.1 q 0 = nr) (hVn : Vn nr M) (hnb : 0 ≤ nr ∧ nr ≤ 6) : CI l D cy B N 6 yX10_deaf cX10_deaf 2 (some .int) [rv B 0, iv a] M (fun z M' => Iv M' ∧ Fr (fun a (_ : Int) => (152 ≤ a ∧ a ≤ 155)) M M') := by
  refine mk_CI (by decide) (Nat.le_of_ble_eq_true rfl) ?_
  intro X exl exD excy hnL hX hret
  have hce : 0 + 0 ≤ (xR X).cells ∧ 0 + 0 ≤ (xR X).slots := ⟨Nat.zero_le _, Nat.zero_le _⟩
  have hdq : 5 ≤ q ∧ q ≤ 180 := by omega
  have hF : Fr (fun a (_ : Int) => (152 ≤ a ∧ a ≤ 155)) M M := Fr.rf
  show J X B N 0 0 0 [(0, rv B 0), (1, iv a)] [] M
  refine j_aload_n hX dX10_deaf_0 rfl 0 rfl ?_
  refine gf_X10_62 hX (by omega) (by omega) kc_0 ht (by omega) dX10_deaf_1 ?_
  refine j_iload_n hX dX10_deaf_4 rfl 1 rfl ?_
  refine j_callVI hX lk_X10_153 (c_X6_hasFact _ _ _ _ _ q _ _ (by omega) hI (by omega) hq) (by omega) hce rfl rfl (by omega) (by omega) (kq hq) rfl rfl (Nat.le_of_ble_eq_true rfl) dX10_deaf_5 (fun z1 M2 hz4 hp3 => ?_)
  obtain ⟨hE5, hb6, hq7⟩ := hp3
  replace hE5 := hE5.symm
  subst hE5
  refine j_if_ne (tgt := 13) hX dX10_deaf_8 (by decide) (by omega) (fun hc8 => ?_) (fun hc8 => ?_)
  · skip
    have hi9 := hq7 (by omega)
    clear hq7
    refine j_aload_n hX dX10_deaf_13 rfl 0 rfl ?_
    refine j_sipush hX dX10_deaf_14 rfl ?_
    refine j_callVV hX lk_X10_212 (c_X10_lookAhead _ _ _ _ _ _ _ _ _ (by omega) hI (by omega) (by assumption) ht hnr (by first | assumption | omega) (by first | assumption | omega)) (by omega) hce rfl rfl (by omega) (by omega) kc_0 rfl rfl (Nat.le_of_ble_eq_true rfl) dX10_deaf_17 (fun M11 hp12 => ?_)
    obtain ⟨hI15, hG16, hq17⟩ := hp12
    have hV18 := Vn_fr hVn hI hG16 (fun a b h => by omega)
    have hk19 := kp_fr hG16 (by omega) ht
    have hk20 := kp_fr hG16 (by omega) hnr
    have hF21 := Fr.trans hF hG16 (fun a b h => by omega)
    refine j_aload_n hX dX10_deaf_20 rfl 0 rfl ?_
    refine gf_X10_62 hX (by omega) (by omega) kc_0 hk19 (by omega) dX10_deaf_21 ?_
    refine j_callVI hX lk_X10_220 (c_X6_allRooms _ _ _ _ _ q _ (by omega) hI15 hq) (by omega) hce rfl rfl (by omega) (by omega) (kq hq) rfl rfl (Nat.le_of_ble_eq_true rfl) dX10_deaf_24 (fun z22 M23 hz25 hp24 => ?_)
    obtain ⟨hE26, hq27⟩ := hp24
    replace hE26 := hE26.symm
    subst hE26
    refine j_aload_n hX dX10_deaf_27 rfl 0 rfl ?_
    refine gf_X10_33 hX (by omega) (by omega) kc_0 (fc_0_3 hI15) (by decide) dX10_deaf_28 ?_
    have h153 : Sc 153 := by unfold Sc; omega
    refine j_iload_n hX dX10_deaf_31 rfl 1 rfl ?_
    refine j_callVI hX lk_X10_165 (c_X8_knowersOf _ _ _ _ _ 153 _ _ (by omega) hI15 (by omega) h153) (by omega) hce rfl rfl (by omega) (by omega) (sc_k0 h153) rfl rfl (Nat.le_of_ble_eq_true rfl) dX10_deaf_32 (fun z28 M29 hz31 hp30 => ?_)
    have hE32 := hp30.symm
    subst hE32
    refine j_iconst hX dX10_deaf_35 ?_
    refine j_ixor hX dX10_deaf_36 (fun z33 hz34 hy35 => ?_)
    refine j_iand hX dX10_deaf_37 (fun z36 hz37 hy38 => ?_)
    exact hret _ _ _ _ dX10_deaf_38 rfl (by omega) ⟨hI15, hF21⟩
  · skip
    clear hq7
    refine j_iconst hX dX10_deaf_11 ?_
    exact hret _ _ _ _ dX10_deaf_12 rfl (by omega) ⟨hI, hF⟩
set_option maxHeartbeats 2000000 in
set_option maxRecDepth 20000 in
theorem c_X10_gossip (l : Launch) (D : va_G) (cy : Nat → ClassId) (B N : Nat) (q : Int) (nr : Int) (a : Int) (M : MM) (hN : 210 ≤ N) (hI : Iv M) (hpa : I32 a) (hq : q = 5 ∨ q = 180) (ht : M.1 0 8 = q) (hnr : M.1 q 0 = nr) (hVn : Vn nr M) (hnb : 0 ≤ nr ∧ nr ≤ 6) : CI l D cy B N 6 yX10_gossip cX10_gossip 2 (some .int) [rv B 0, iv a] M (fun z M' => Iv M' ∧ Fr (fun a (_ : Int) => (152 ≤ a ∧ a ≤ 155)) M M') := by
  refine mk_CI (by decide) (Nat.le_of_ble_eq_true rfl) ?_
  intro X exl exD excy hnL hX hret
  have hce : 0 + 0 ≤ (xR X).cells ∧ 0 + 0 ≤ (xR X).slots := ⟨Nat.zero_le _, Nat.zero_le _⟩
  have hdq : 5 ≤ q ∧ q ≤ 180 := by omega
  have hF : Fr (fun a (_ : Int) => (152 ≤ a ∧ a ≤ 155)) M M := Fr.rf
  show J X B N 0 0 0 [(0, rv B 0), (1, iv a)] [] M
  refine j_iload_n hX dX10_gossip_0 rfl 1 rfl ?_
  refine j_if_lt (tgt := 11) hX dX10_gossip_1 (by decide) (by omega) (fun hc1 => ?_) (fun hc1 => ?_)
  · skip
    refine j_iconst hX dX10_gossip_11 ?_
    exact hret _ _ _ _ dX10_gossip_12 rfl (by omega) ⟨hI, hF⟩
  · skip
    refine j_iload_n hX dX10_gossip_4 rfl 1 rfl ?_
    refine j_sipush hX dX10_gossip_5 rfl ?_
    refine j_icmp_le (tgt := 13) hX dX10_gossip_8 (by decide) (by omega) (by omega) (fun hc2 => ?_) (fun hc2 => ?_)
    · skip
      refine j_aload_n hX dX10_gossip_13 rfl 0 rfl ?_
      refine j_iload_n hX dX10_gossip_14 rfl 1 rfl ?_
      refine j_callVV hX lk_X10_212 (c_X10_lookAhead _ _ _ _ _ _ _ _ _ (by omega) hI (by omega) (by assumption) ht hnr (by first | assumption | omega) (by first | assumption | omega)) (by omega) hce rfl rfl (by omega) (by omega) kc_0 rfl rfl (Nat.le_of_ble_eq_true rfl) dX10_gossip_15 (fun M4 hp5 => ?_)
      obtain ⟨hI8, hG9, hq10⟩ := hp5
      have hV11 := Vn_fr hVn hI hG9 (fun a b h => by omega)
      have hk12 := kp_fr hG9 (by omega) ht
      have hk13 := kp_fr hG9 (by omega) hnr
      have hF14 := Fr.trans hF hG9 (fun a b h => by omega)
      refine j_aload_n hX dX10_gossip_18 rfl 0 rfl ?_
      refine gf_X10_33 hX (by omega) (by omega) kc_0 (fc_0_3 hI8) (by decide) dX10_gossip_19 ?_
      have h153 : Sc 153 := by unfold Sc; omega
      refine j_callVI hX lk_X10_224 (c_X8_knownInAll _ _ _ _ _ 153 _ (by omega) hI8 h153) (by omega) hce rfl rfl (by omega) (by omega) (sc_k0 h153) rfl rfl (Nat.le_of_ble_eq_true rfl) dX10_gossip_22 (fun z15 M16 hz18 hp17 => ?_)
      have hE19 := hp17.symm
      subst hE19
      refine j_aload_n hX dX10_gossip_25 rfl 0 rfl ?_
      refine gf_X10_19 hX (by omega) (by omega) kc_0 (fc_0_1 hI8) (by decide) dX10_gossip_26 ?_
      refine j_callVR hX lk_X10_124 (c_X0_now _ _ _ _ _ _ (by omega) hI8) (by omega) hce rfl rfl (by omega) (by omega) kc_26 rfl rfl (Nat.le_of_ble_eq_true rfl) dX10_gossip_29 (fun sw M20 hz22 hp21 => ?_)
      obtain ⟨hE23, hq24, hq25⟩ := hp21
      replace hE23 := hE23.symm
      subst hE23
      have hsw : Sc sw := hq24
      have hbsw := sc_b hsw
      have hdsw : 28 ≤ sw ∧ sw ≤ 207 := by omega
      refine j_callVI hX lk_X10_224 (c_X8_knownInAll _ _ _ _ _ sw _ (by omega) hI8 hsw) (by omega) hce rfl rfl (by omega) (by omega) (sc_k0 hsw) rfl rfl (Nat.le_of_ble_eq_true rfl) dX10_gossip_32 (fun z26 M27 hz29 hp28 => ?_)
      have hE30 := hp28.symm
      subst hE30
      refine j_isub hX dX10_gossip_35 ?_
      refine j_norm (fun z31 hz32 hy33 => ?_)
      exact hret _ _ _ _ dX10_gossip_36 rfl (by omega) ⟨hI8, hF14⟩
    · skip
      refine j_iconst hX dX10_gossip_11 ?_
      exact hret _ _ _ _ dX10_gossip_12 rfl (by omega) ⟨hI, hF⟩
set_option maxHeartbeats 2000000 in
set_option maxRecDepth 20000 in
theorem c_X10_rentOf (l : Launch) (D : va_G) (cy : Nat → ClassId) (B N : Nat) (q : Int) (nr : Int) (a : Int) (M : MM) (hN : 210 ≤ N) (hI : Iv M) (hpa : I32 a) (hq : q = 5 ∨ q = 180) (ht : M.1 0 8 = q) (hnr : M.1 q 0 = nr) (hVn : Vn nr M) (hnb : 0 ≤ nr ∧ nr ≤ 6) (h1 : 0 ≤ a ∧ a < nr) : CI l D cy B N 3 yX10_rentOf cX10_rentOf 5 (some .int) [rv B 0, iv a] M (fun z M' => Iv M' ∧ Fr (fun a b => (a = q + 15 ∧ 5 ≤ b ∧ b ≤ 5) ∨ (q + 17 ≤ a ∧ a ≤ q + 18)) M M') := by
  refine mk_CI (by decide) (Nat.le_of_ble_eq_true rfl) ?_
  intro X exl exD excy hnL hX hret
  have hce : 0 + 0 ≤ (xR X).cells ∧ 0 + 0 ≤ (xR X).slots := ⟨Nat.zero_le _, Nat.zero_le _⟩
  have hdq : 5 ≤ q ∧ q ≤ 180 := by omega
  have hF : Fr (fun a b => (a = q + 15 ∧ 5 ≤ b ∧ b ≤ 5) ∨ (q + 17 ≤ a ∧ a ≤ q + 18)) M M := Fr.rf
  show J X B N 0 0 0 [(0, rv B 0), (1, iv a)] [] M
  refine j_aload_n hX dX10_rentOf_0 rfl 0 rfl ?_
  refine gf_X10_19 hX (by omega) (by omega) kc_0 (fc_0_1 hI) (by decide) dX10_rentOf_1 ?_
  refine j_callVR hX lk_X10_124 (c_X0_now _ _ _ _ _ _ (by omega) hI) (by omega) hce rfl rfl (by omega) (by omega) kc_26 rfl rfl (Nat.le_of_ble_eq_true rfl) dX10_rentOf_4 (fun sw M1 hz3 hp2 => ?_)
  obtain ⟨hE4, hq5, hq6⟩ := hp2
  replace hE4 := hE4.symm
  subst hE4
  have hV7 : V nr sw M := by rw [hq6]; exact hVn
  have hsw : Sc sw := hq5
  have hbsw := sc_b hsw
  have hdsw : 28 ≤ sw ∧ sw ≤ 207 := by omega
  refine j_astore_n (lv' := [(2, _), (0, _), (1, _)]) hX dX10_rentOf_7 rfl (by rw [hnL]; decide) rfl ?_
  refine j_aload_n hX dX10_rentOf_8 rfl 1 rfl ?_
  refine gf_X10_62 hX (by omega) (by omega) kc_0 ht (by omega) dX10_rentOf_9 ?_
  refine gf_X10_317 hX (by omega) (by omega) (kq hq) (fq_17 hI hq) (by omega) dX10_rentOf_12 ?_
  refine j_astore_n (lv' := [(3, _), (2, _), (0, _), (1, _)]) hX dX10_rentOf_15 rfl (by rw [hnL]; decide) rfl ?_
  refine j_aload_n hX dX10_rentOf_16 rfl 1 rfl ?_
  refine gf_X10_128 hX (by omega) (by omega) (sc_k0 hsw) (sc_f0 hI hsw) (by omega) dX10_rentOf_17 ?_
  refine j_iload_n hX dX10_rentOf_20 rfl 3 rfl ?_
  refine j_iald hX (by omega) (by omega) (sc_k1 hsw) (by omega) (by omega) (by omega) dX10_rentOf_21 ?_
  refine j_name hI (sc_w hsw _) (fun v8 hv9 hl10 hh11 => ?_)
  have hva12 := V_at hV7 hv9 (by omega) (by omega)
  refine j_istore (lv' := [(4, _), (3, _), (2, _), (0, _), (1, _)]) hX dX10_rentOf_22 (by rw [hnL]; decide) rfl ?_
  refine j_aload_n hX dX10_rentOf_24 rfl 1 rfl ?_
  refine j_sipush hX dX10_rentOf_25 rfl ?_
  refine j_aload_n hX dX10_rentOf_28 rfl 3 rfl ?_
  refine gf_X10_62 hX (by omega) (by omega) kc_0 ht (by omega) dX10_rentOf_29 ?_
  refine gf_X10_144 hX (by omega) (by omega) (kq hq) (fq_2 hI hq) (by omega) dX10_rentOf_32 ?_
  refine j_iload hX dX10_rentOf_35 0 rfl ?_
  refine j_iald hX (by omega) (by omega) (kq_2 hq) (by omega) (by omega) (by omega) dX10_rentOf_37 ?_
  refine j_name hI (aq_2 hq _) (fun v13 hv14 hl15 hh16 => ?_)
  refine j_callVV hX lk_X10_326 (c_X2_setUnit _ _ _ _ _ q _ _ _ (by omega) hI (by omega) (by omega) hq (by first | assumption | omega)) (by omega) hce rfl rfl (by omega) (by omega) (kq_15 hq) rfl rfl (Nat.le_of_ble_eq_true rfl) dX10_rentOf_38 (fun M18 hp19 => ?_)
  obtain ⟨hI22, hG23⟩ := hp19
  have hV24 := Vn_fr hVn hI hG23 (fun a b h => by omega)
  have hV25 := V_fr hV7 hG23 (fun b => by omega) (by omega)
  have hk26 := kp_fr hG23 (by omega) ht
  have hk27 := kp_fr hG23 (by omega) hnr
  have hF28 := Fr.trans hF hG23 (fun a b h => by omega)
  refine j_aload_n hX dX10_rentOf_41 rfl 1 rfl ?_
  refine j_sipush hX dX10_rentOf_42 rfl ?_
  refine j_aload_n hX dX10_rentOf_45 rfl 2 rfl ?_
  refine j_iload_n hX dX10_rentOf_46 rfl 4 rfl ?_
  refine j_callVI hX lk_X10_135 (c_X8_isDrawn _ _ _ _ _ sw _ _ (by omega) hI22 (by omega) hsw) (by omega) hce rfl rfl (by omega) (by omega) (sc_k0 hsw) rfl rfl (Nat.le_of_ble_eq_true rfl) dX10_rentOf_47 (fun z29 M30 hz32 hp31 => ?_)
  obtain ⟨hE33, hb34⟩ := hp31
  replace hE33 := hE33.symm
  subst hE33
  refine j_if_eq (tgt := 57) hX dX10_rentOf_50 (by decide) (by omega) (fun hc35 => ?_) (fun hc35 => ?_)
  · skip
    refine j_iconst hX dX10_rentOf_57 ?_
    refine j_callVV hX lk_X10_326 (c_X2_setUnit _ _ _ _ _ q _ _ _ (by omega) hI22 (by omega) (by omega) hq (by first | assumption | omega)) (by omega) hce rfl rfl (by omega) (by omega) (kq_15 hq) rfl rfl (Nat.le_of_ble_eq_true rfl) dX10_rentOf_58 (fun M37 hp38 => ?_)
    obtain ⟨hI41, hG42⟩ := hp38
    have hV43 := Vn_fr hV24 hI22 hG42 (fun a b h => by omega)
    have hV44 := V_fr hV25 hG42 (fun b => by omega) (by omega)
    have hk45 := kp_fr hG42 (by omega) hk26
    have hk46 := kp_fr hG42 (by omega) hk27
    clear hk26 hk27
    have hF47 := Fr.trans hF28 hG42 (fun a b h => by omega)
    refine j_aload_n hX dX10_rentOf_61 rfl 1 rfl ?_
    refine j_sipush hX dX10_rentOf_62 rfl ?_
    refine j_aload_n hX dX10_rentOf_65 rfl 2 rfl ?_
    refine gf_X10_138 hX (by omega) (by omega) (sc_k0 hsw) (sc_f1 hI41 hsw) (by omega) dX10_rentOf_66 ?_
    refine j_iload_n hX dX10_rentOf_69 rfl 4 rfl ?_
    refine j_iald hX (by omega) (by omega) (sc_k2 hsw) (by omega) (by omega) (by omega) dX10_rentOf_70 ?_
    refine j_name hI41 (sc_n hsw _) (fun v48 hv49 hl50 hh51 => ?_)
    refine j_callSI hX lk_X10_215 (c_J6_bitCount_0f7a4 _ _ _ _ _ _ _ (by omega)) (by omega) hce rfl rfl (Nat.le_of_ble_eq_true rfl) dX10_rentOf_71 (fun z52 M53 hz55 hp54 => ?_)
    have hE56 := hp54.symm
    subst hE56
    refine j_callVV hX lk_X10_326 (c_X2_setUnit _ _ _ _ _ q _ _ _ (by omega) hI41 (by omega) (by omega) hq (by first | assumption | omega)) (by omega) hce rfl rfl (by omega) (by omega) (kq_15 hq) rfl rfl (Nat.le_of_ble_eq_true rfl) dX10_rentOf_74 (fun M58 hp59 => ?_)
    obtain ⟨hI62, hG63⟩ := hp59
    have hV64 := Vn_fr hV43 hI41 hG63 (fun a b h => by omega)
    have hV65 := V_fr hV44 hG63 (fun b => by omega) (by omega)
    have hk66 := kp_fr hG63 (by omega) hk45
    have hk67 := kp_fr hG63 (by omega) hk46
    clear hk45 hk46
    have hF68 := Fr.trans hF47 hG63 (fun a b h => by omega)
    refine j_aload_n hX dX10_rentOf_77 rfl 1 rfl ?_
    refine j_sipush hX dX10_rentOf_78 rfl ?_
    refine j_aload_n hX dX10_rentOf_81 rfl 3 rfl ?_
    refine gf_X10_62 hX (by omega) (by omega) kc_0 hk66 (by omega) dX10_rentOf_82 ?_
    refine j_iload_n hX dX10_rentOf_85 rfl 4 rfl ?_
    refine j_iload hX dX10_rentOf_86 0 rfl ?_
    refine j_callVI hX lk_X10_168 (c_X6_wantOf _ _ _ _ _ q _ _ _ (by omega) hI62 (by omega) (by omega) hq (by first | assumption | omega)) (by omega) hce rfl rfl (by omega) (by omega) (kq hq) rfl rfl (Nat.le_of_ble_eq_true rfl) dX10_rentOf_88 (fun z69 M70 hz72 hp71 => ?_)
    obtain ⟨hE73, hq74⟩ := hp71
    replace hE73 := hE73.symm
    subst hE73
    refine j_callVV hX lk_X10_326 (c_X2_setUnit _ _ _ _ _ q _ _ _ (by omega) hI62 (by omega) (by omega) hq (by first | assumption | omega)) (by omega) hce rfl rfl (by omega) (by omega) (kq_15 hq) rfl rfl (Nat.le_of_ble_eq_true rfl) dX10_rentOf_91 (fun M76 hp77 => ?_)
    obtain ⟨hI80, hG81⟩ := hp77
    have hV82 := Vn_fr hV64 hI62 hG81 (fun a b h => by omega)
    have hV83 := V_fr hV65 hG81 (fun b => by omega) (by omega)
    have hk84 := kp_fr hG81 (by omega) hk66
    have hk85 := kp_fr hG81 (by omega) hk67
    clear hk66 hk67
    have hF86 := Fr.trans hF68 hG81 (fun a b h => by omega)
    refine j_aload_n hX dX10_rentOf_94 rfl 1 rfl ?_
    refine j_sipush hX dX10_rentOf_95 rfl ?_
    refine j_aload_n hX dX10_rentOf_98 rfl 2 rfl ?_
    refine gf_X10_191 hX (by omega) (by omega) (sc_k0 hsw) dX10_rentOf_99 ?_
    refine j_name hI80 (sc_r4 hsw) (fun v87 hv88 hl89 hh90 => ?_)
    have hk91 := hv88.symm
    refine j_callVV hX lk_X10_326 (c_X2_setUnit _ _ _ _ _ q _ _ _ (by omega) hI80 (by omega) (by omega) hq (by first | assumption | omega)) (by omega) hce rfl rfl (by omega) (by omega) (kq_15 hq) rfl rfl (Nat.le_of_ble_eq_true rfl) dX10_rentOf_102 (fun M93 hp94 => ?_)
    obtain ⟨hI97, hG98⟩ := hp94
    have hV99 := Vn_fr hV82 hI80 hG98 (fun a b h => by omega)
    have hV100 := V_fr hV83 hG98 (fun b => by omega) (by omega)
    have hk101 := kp_fr hG98 (by omega) hk84
    have hk102 := kp_fr hG98 (by omega) hk85
    have hk103 := kp_fr hG98 (by omega) hk91
    clear hk84 hk85 hk91
    have hF104 := Fr.trans hF86 hG98 (fun a b h => by omega)
    refine j_aload_n hX dX10_rentOf_105 rfl 1 rfl ?_
    refine j_sipush hX dX10_rentOf_106 rfl ?_
    refine j_iload hX dX10_rentOf_109 0 rfl ?_
    refine j_iload_n hX dX10_rentOf_111 rfl 4 rfl ?_
    refine j_icmp_ne (tgt := 119) hX dX10_rentOf_112 (by decide) (by omega) (by omega) (fun hc105 => ?_) (fun hc105 => ?_)
    · skip
      refine j_iconst hX dX10_rentOf_119 ?_
      refine j_callVV hX lk_X10_326 (c_X2_setUnit _ _ _ _ _ q _ _ _ (by omega) hI97 (by omega) (by omega) hq (by first | assumption | omega)) (by omega) hce rfl rfl (by omega) (by omega) (kq_15 hq) rfl rfl (Nat.le_of_ble_eq_true rfl) dX10_rentOf_120 (fun M107 hp108 => ?_)
      obtain ⟨hI111, hG112⟩ := hp108
      have hV113 := Vn_fr hV99 hI97 hG112 (fun a b h => by omega)
      have hV114 := V_fr hV100 hG112 (fun b => by omega) (by omega)
      have hk115 := kp_fr hG112 (by omega) hk101
      have hk116 := kp_fr hG112 (by omega) hk102
      have hk117 := kp_fr hG112 (by omega) hk103
      clear hk101 hk102 hk103
      have hF118 := Fr.trans hF104 hG112 (fun a b h => by omega)
      refine j_aload_n hX dX10_rentOf_123 rfl 1 rfl ?_
      refine j_callVI hX lk_X10_329 (c_X2_value _ _ _ _ _ q _ (by omega) hI111 hq) (by omega) hce rfl rfl (by omega) (by omega) (kq_15 hq) rfl rfl (Nat.le_of_ble_eq_true rfl) dX10_rentOf_124 (fun z119 M120 hz122 hp121 => ?_)
      obtain ⟨hI124, hG125⟩ := hp121
      have hV126 := Vn_fr hV113 hI111 hG125 (fun a b h => by omega)
      have hV127 := V_fr hV114 hG125 (fun b => by omega) (by omega)
      have hk128 := kp_fr hG125 (by omega) hk115
      have hk129 := kp_fr hG125 (by omega) hk116
      have hk130 := kp_fr hG125 (by omega) hk117
      clear hk115 hk116 hk117
      have hF131 := Fr.trans hF118 hG125 (fun a b h => by omega)
      exact hret _ _ _ _ dX10_rentOf_127 rfl (by omega) ⟨hI124, hF131⟩
    · skip
      refine j_iconst hX dX10_rentOf_115 ?_
      refine j_goto (tgt := 120) hX dX10_rentOf_116 (by decide) ?_
      refine j_callVV hX lk_X10_326 (c_X2_setUnit _ _ _ _ _ q _ _ _ (by omega) hI97 (by omega) (by omega) hq (by first | assumption | omega)) (by omega) hce rfl rfl (by omega) (by omega) (kq_15 hq) rfl rfl (Nat.le_of_ble_eq_true rfl) dX10_rentOf_120 (fun M133 hp134 => ?_)
      obtain ⟨hI137, hG138⟩ := hp134
      have hV139 := Vn_fr hV99 hI97 hG138 (fun a b h => by omega)
      have hV140 := V_fr hV100 hG138 (fun b => by omega) (by omega)
      have hk141 := kp_fr hG138 (by omega) hk101
      have hk142 := kp_fr hG138 (by omega) hk102
      have hk143 := kp_fr hG138 (by omega) hk103
      clear hk101 hk102 hk103
      have hF144 := Fr.trans hF104 hG138 (fun a b h => by omega)
      refine j_aload_n hX dX10_rentOf_123 rfl 1 rfl ?_
      refine j_callVI hX lk_X10_329 (c_X2_value _ _ _ _ _ q _ (by omega) hI137 hq) (by omega) hce rfl rfl (by omega) (by omega) (kq_15 hq) rfl rfl (Nat.le_of_ble_eq_true rfl) dX10_rentOf_124 (fun z145 M146 hz148 hp147 => ?_)
      obtain ⟨hI150, hG151⟩ := hp147
      have hV152 := Vn_fr hV139 hI137 hG151 (fun a b h => by omega)
      have hV153 := V_fr hV140 hG151 (fun b => by omega) (by omega)
      have hk154 := kp_fr hG151 (by omega) hk141
      have hk155 := kp_fr hG151 (by omega) hk142
      have hk156 := kp_fr hG151 (by omega) hk143
      clear hk141 hk142 hk143
      have hF157 := Fr.trans hF144 hG151 (fun a b h => by omega)
      exact hret _ _ _ _ dX10_rentOf_127 rfl (by omega) ⟨hI150, hF157⟩
  · skip
    refine j_iconst hX dX10_rentOf_53 ?_
    refine j_goto (tgt := 58) hX dX10_rentOf_54 (by decide) ?_
    refine j_callVV hX lk_X10_326 (c_X2_setUnit _ _ _ _ _ q _ _ _ (by omega) hI22 (by omega) (by omega) hq (by first | assumption | omega)) (by omega) hce rfl rfl (by omega) (by omega) (kq_15 hq) rfl rfl (Nat.le_of_ble_eq_true rfl) dX10_rentOf_58 (fun M159 hp160 => ?_)
    obtain ⟨hI163, hG164⟩ := hp160
    have hV165 := Vn_fr hV24 hI22 hG164 (fun a b h => by omega)
    have hV166 := V_fr hV25 hG164 (fun b => by omega) (by omega)
    have hk167 := kp_fr hG164 (by omega) hk26
    have hk168 := kp_fr hG164 (by omega) hk27
    clear hk26 hk27
    have hF169 := Fr.trans hF28 hG164 (fun a b h => by omega)
    refine j_aload_n hX dX10_rentOf_61 rfl 1 rfl ?_
    refine j_sipush hX dX10_rentOf_62 rfl ?_
    refine j_aload_n hX dX10_rentOf_65 rfl 2 rfl ?_
    refine gf_X10_138 hX (by omega) (by omega) (sc_k0 hsw) (sc_f1 hI163 hsw) (by omega) dX10_rentOf_66 ?_
    refine j_iload_n hX dX10_rentOf_69 rfl 4 rfl ?_
    refine j_iald hX (by omega) (by omega) (sc_k2 hsw) (by omega) (by omega) (by omega) dX10_rentOf_70 ?_
    refine j_name hI163 (sc_n hsw _) (fun v170 hv171 hl172 hh173 => ?_)
    refine j_callSI hX lk_X10_215 (c_J6_bitCount_0f7a4 _ _ _ _ _ _ _ (by omega)) (by omega) hce rfl rfl (Nat.le_of_ble_eq_true rfl) dX10_rentOf_71 (fun z174 M175 hz177 hp176 => ?_)
    have hE178 := hp176.symm
    subst hE178
    refine j_callVV hX lk_X10_326 (c_X2_setUnit _ _ _ _ _ q _ _ _ (by omega) hI163 (by omega) (by omega) hq (by first | assumption | omega)) (by omega) hce rfl rfl (by omega) (by omega) (kq_15 hq) rfl rfl (Nat.le_of_ble_eq_true rfl) dX10_rentOf_74 (fun M180 hp181 => ?_)
    obtain ⟨hI184, hG185⟩ := hp181
    have hV186 := Vn_fr hV165 hI163 hG185 (fun a b h => by omega)
    have hV187 := V_fr hV166 hG185 (fun b => by omega) (by omega)
    have hk188 := kp_fr hG185 (by omega) hk167
    have hk189 := kp_fr hG185 (by omega) hk168
    clear hk167 hk168
    have hF190 := Fr.trans hF169 hG185 (fun a b h => by omega)
    refine j_aload_n hX dX10_rentOf_77 rfl 1 rfl ?_
    refine j_sipush hX dX10_rentOf_78 rfl ?_
    refine j_aload_n hX dX10_rentOf_81 rfl 3 rfl ?_
    refine gf_X10_62 hX (by omega) (by omega) kc_0 hk188 (by omega) dX10_rentOf_82 ?_
    refine j_iload_n hX dX10_rentOf_85 rfl 4 rfl ?_
    refine j_iload hX dX10_rentOf_86 0 rfl ?_
    refine j_callVI hX lk_X10_168 (c_X6_wantOf _ _ _ _ _ q _ _ _ (by omega) hI184 (by omega) (by omega) hq (by first | assumption | omega)) (by omega) hce rfl rfl (by omega) (by omega) (kq hq) rfl rfl (Nat.le_of_ble_eq_true rfl) dX10_rentOf_88 (fun z191 M192 hz194 hp193 => ?_)
    obtain ⟨hE195, hq196⟩ := hp193
    replace hE195 := hE195.symm
    subst hE195
    refine j_callVV hX lk_X10_326 (c_X2_setUnit _ _ _ _ _ q _ _ _ (by omega) hI184 (by omega) (by omega) hq (by first | assumption | omega)) (by omega) hce rfl rfl (by omega) (by omega) (kq_15 hq) rfl rfl (Nat.le_of_ble_eq_true rfl) dX10_rentOf_91 (fun M198 hp199 => ?_)
    obtain ⟨hI202, hG203⟩ := hp199
    have hV204 := Vn_fr hV186 hI184 hG203 (fun a b h => by omega)
    have hV205 := V_fr hV187 hG203 (fun b => by omega) (by omega)
    have hk206 := kp_fr hG203 (by omega) hk188
    have hk207 := kp_fr hG203 (by omega) hk189
    clear hk188 hk189
    have hF208 := Fr.trans hF190 hG203 (fun a b h => by omega)
    refine j_aload_n hX dX10_rentOf_94 rfl 1 rfl ?_
    refine j_sipush hX dX10_rentOf_95 rfl ?_
    refine j_aload_n hX dX10_rentOf_98 rfl 2 rfl ?_
    refine gf_X10_191 hX (by omega) (by omega) (sc_k0 hsw) dX10_rentOf_99 ?_
    refine j_name hI202 (sc_r4 hsw) (fun v209 hv210 hl211 hh212 => ?_)
    have hk213 := hv210.symm
    refine j_callVV hX lk_X10_326 (c_X2_setUnit _ _ _ _ _ q _ _ _ (by omega) hI202 (by omega) (by omega) hq (by first | assumption | omega)) (by omega) hce rfl rfl (by omega) (by omega) (kq_15 hq) rfl rfl (Nat.le_of_ble_eq_true rfl) dX10_rentOf_102 (fun M215 hp216 => ?_)
    obtain ⟨hI219, hG220⟩ := hp216
    have hV221 := Vn_fr hV204 hI202 hG220 (fun a b h => by omega)
    have hV222 := V_fr hV205 hG220 (fun b => by omega) (by omega)
    have hk223 := kp_fr hG220 (by omega) hk206
    have hk224 := kp_fr hG220 (by omega) hk207
    have hk225 := kp_fr hG220 (by omega) hk213
    clear hk206 hk207 hk213
    have hF226 := Fr.trans hF208 hG220 (fun a b h => by omega)
    refine j_aload_n hX dX10_rentOf_105 rfl 1 rfl ?_
    refine j_sipush hX dX10_rentOf_106 rfl ?_
    refine j_iload hX dX10_rentOf_109 0 rfl ?_
    refine j_iload_n hX dX10_rentOf_111 rfl 4 rfl ?_
    refine j_icmp_ne (tgt := 119) hX dX10_rentOf_112 (by decide) (by omega) (by omega) (fun hc227 => ?_) (fun hc227 => ?_)
    · skip
      refine j_iconst hX dX10_rentOf_119 ?_
      refine j_callVV hX lk_X10_326 (c_X2_setUnit _ _ _ _ _ q _ _ _ (by omega) hI219 (by omega) (by omega) hq (by first | assumption | omega)) (by omega) hce rfl rfl (by omega) (by omega) (kq_15 hq) rfl rfl (Nat.le_of_ble_eq_true rfl) dX10_rentOf_120 (fun M229 hp230 => ?_)
      obtain ⟨hI233, hG234⟩ := hp230
      have hV235 := Vn_fr hV221 hI219 hG234 (fun a b h => by omega)
      have hV236 := V_fr hV222 hG234 (fun b => by omega) (by omega)
      have hk237 := kp_fr hG234 (by omega) hk223
      have hk238 := kp_fr hG234 (by omega) hk224
      have hk239 := kp_fr hG234 (by omega) hk225
      clear hk223 hk224 hk225
      have hF240 := Fr.trans hF226 hG234 (fun a b h => by omega)
      refine j_aload_n hX dX10_rentOf_123 rfl 1 rfl ?_
      refine j_callVI hX lk_X10_329 (c_X2_value _ _ _ _ _ q _ (by omega) hI233 hq) (by omega) hce rfl rfl (by omega) (by omega) (kq_15 hq) rfl rfl (Nat.le_of_ble_eq_true rfl) dX10_rentOf_124 (fun z241 M242 hz244 hp243 => ?_)
      obtain ⟨hI246, hG247⟩ := hp243
      have hV248 := Vn_fr hV235 hI233 hG247 (fun a b h => by omega)
      have hV249 := V_fr hV236 hG247 (fun b => by omega) (by omega)
      have hk250 := kp_fr hG247 (by omega) hk237
      have hk251 := kp_fr hG247 (by omega) hk238
      have hk252 := kp_fr hG247 (by omega) hk239
      clear hk237 hk238 hk239
      have hF253 := Fr.trans hF240 hG247 (fun a b h => by omega)
      exact hret _ _ _ _ dX10_rentOf_127 rfl (by omega) ⟨hI246, hF253⟩
    · skip
      refine j_iconst hX dX10_rentOf_115 ?_
      refine j_goto (tgt := 120) hX dX10_rentOf_116 (by decide) ?_
      refine j_callVV hX lk_X10_326 (c_X2_setUnit _ _ _ _ _ q _ _ _ (by omega) hI219 (by omega) (by omega) hq (by first | assumption | omega)) (by omega) hce rfl rfl (by omega) (by omega) (kq_15 hq) rfl rfl (Nat.le_of_ble_eq_true rfl) dX10_rentOf_120 (fun M255 hp256 => ?_)
      obtain ⟨hI259, hG260⟩ := hp256
      have hV261 := Vn_fr hV221 hI219 hG260 (fun a b h => by omega)
      have hV262 := V_fr hV222 hG260 (fun b => by omega) (by omega)
      have hk263 := kp_fr hG260 (by omega) hk223
      have hk264 := kp_fr hG260 (by omega) hk224
      have hk265 := kp_fr hG260 (by omega) hk225
      clear hk223 hk224 hk225
      have hF266 := Fr.trans hF226 hG260 (fun a b h => by omega)
      refine j_aload_n hX dX10_rentOf_123 rfl 1 rfl ?_
      refine j_callVI hX lk_X10_329 (c_X2_value _ _ _ _ _ q _ (by omega) hI259 hq) (by omega) hce rfl rfl (by omega) (by omega) (kq_15 hq) rfl rfl (Nat.le_of_ble_eq_true rfl) dX10_rentOf_124 (fun z267 M268 hz270 hp269 => ?_)
      obtain ⟨hI272, hG273⟩ := hp269
      have hV274 := Vn_fr hV261 hI259 hG273 (fun a b h => by omega)
      have hV275 := V_fr hV262 hG273 (fun b => by omega) (by omega)
      have hk276 := kp_fr hG273 (by omega) hk263
      have hk277 := kp_fr hG273 (by omega) hk264
      have hk278 := kp_fr hG273 (by omega) hk265
      clear hk263 hk264 hk265
      have hF279 := Fr.trans hF266 hG273 (fun a b h => by omega)
      exact hret _ _ _ _ dX10_rentOf_127 rfl (by omega) ⟨hI272, hF279⟩
set_option maxHeartbeats 2000000 in
set_option maxRecDepth 20000 in
theorem c_X10_rents (l : Launch) (D : va_G) (cy : Nat → ClassId) (B N : Nat) (q : Int) (nr : Int) (M : MM) (hN : 210 ≤ N) (hI : Iv M) (hq : q = 5 ∨ q = 180) (ht : M.1 0 8 = q) (hnr : M.1 q 0 = nr) (hVn : Vn nr M) (hnb : 0 ≤ nr ∧ nr ≤ 6) : CI l D cy B N 4 yX10_rents cX10_rents 3 (some .int) [rv B 0] M (fun z M' => Iv M' ∧ Fr (fun a b => (a = q + 15 ∧ 5 ≤ b ∧ b ≤ 5) ∨ (q + 17 ≤ a ∧ a ≤ q + 18)) M M') := by
  refine mk_CI (by decide) (Nat.le_of_ble_eq_true rfl) ?_
  intro X exl exD excy hnL hX hret
  have hce : 0 + 0 ≤ (xR X).cells ∧ 0 + 0 ≤ (xR X).slots := ⟨Nat.zero_le _, Nat.zero_le _⟩
  have hdq : 5 ≤ q ∧ q ≤ 180 := by omega
  have hF : Fr (fun a b => (a = q + 15 ∧ 5 ≤ b ∧ b ≤ 5) ∨ (q + 17 ≤ a ∧ a ≤ q + 18)) M M := Fr.rf
  have cp : ∀ n : Nat, (∀ (x1 x2 : Int), ∀ (Mc : MM), I32 x1 → I32 x2 → Iv Mc → Fr (fun a b => (a = q + 15 ∧ 5 ≤ b ∧ b ≤ 5) ∨ (q + 17 ≤ a ∧ a ≤ q + 18)) M Mc → Mc.1 0 8 = q → Mc.1 q 0 = nr → Vn nr Mc → (0 ≤ x2 ∧ x2 ≤ 6) → 0 ≤ 32 * (6 - x2) + 1 → 32 * (6 - x2) + 1 < (n : Int) → J X B N 0 0 4 [(0, rv B 0), (1, iv x1), (2, iv x2)] [] Mc) := by
    intro n
    induction n with
    | zero => exact by intros; exfalso; omega
    | succ n ih =>
      · intro x1 x2 Mc hxx1 hxx2 hI hF hk_0 hk_1 hV_0 h2 hm0 hm1
        refine j_iload_n hX dX10_rents_4 rfl 2 rfl ?_
        refine j_aload_n hX dX10_rents_5 rfl 0 rfl ?_
        refine gf_X10_62 hX (by omega) (by omega) kc_0 hk_0 (by omega) dX10_rents_6 ?_
        refine gf_X10_111 hX (by omega) (by omega) (kq hq) dX10_rents_9 ?_
        refine j_top hk_1 ?_
        refine j_icmp_ge (tgt := 29) hX dX10_rents_12 (by decide) (by omega) (by omega) (fun hc1 => ?_) (fun hc1 => ?_)
        · skip
          refine j_iload_n hX dX10_rents_29 rfl 1 rfl ?_
          exact hret _ _ _ _ dX10_rents_30 rfl (by omega) ⟨hI, hF⟩
        · skip
          refine j_iload_n hX dX10_rents_15 rfl 1 rfl ?_
          refine j_aload_n hX dX10_rents_16 rfl 0 rfl ?_
          refine j_iload_n hX dX10_rents_17 rfl 2 rfl ?_
          refine j_callVI hX lk_X10_141 (c_X10_rentOf _ _ _ _ _ _ _ _ _ (by omega) hI (by omega) (by assumption) hk_0 hk_1 (by first | assumption | omega) (by first | assumption | omega) (by first | assumption | omega)) (by omega) hce rfl rfl (by omega) (by omega) kc_0 rfl rfl (Nat.le_of_ble_eq_true rfl) dX10_rents_18 (fun z2 M3 hz5 hp4 => ?_)
          obtain ⟨hI7, hG8⟩ := hp4
          have hV9 := Vn_fr hV_0 hI hG8 (fun a b h => by omega)
          have hk10 := kp_fr hG8 (by omega) hk_0
          have hk11 := kp_fr hG8 (by omega) hk_1
          have hF12 := Fr.trans hF hG8 (fun a b h => by omega)
          refine j_iadd hX dX10_rents_21 ?_
          refine j_norm (fun z13 hz14 hy15 => ?_)
          refine j_istore_n (lv' := [(1, _), (0, _), (2, _)]) hX dX10_rents_22 rfl (by rw [hnL]; decide) rfl ?_
          refine j_iinc (lv' := [(2, _), (1, _), (0, _)]) hX dX10_rents_23 2 rfl (by rw [hnL]; decide) rfl ?_
          refine j_goto (tgt := 4) hX dX10_rents_26 (by decide) ?_
          refine j_sub [2, 1, 0] rfl ?_
          exact ih _ _ _ (by omega) (by omega) hI7 hF12 hk10 hk11 hV9 (by first | assumption | omega) (by omega) (by omega)
  show J X B N 0 0 0 [(0, rv B 0)] [] M
  refine j_iconst hX dX10_rents_0 ?_
  refine j_istore_n (lv' := [(1, _), (0, _)]) hX dX10_rents_1 rfl (by rw [hnL]; decide) rfl ?_
  refine j_iconst hX dX10_rents_2 ?_
  refine j_istore_n (lv' := [(2, _), (1, _), (0, _)]) hX dX10_rents_3 rfl (by rw [hnL]; decide) rfl ?_
  refine j_sub [2, 1, 0] rfl ?_
  refine (cp (Int.toNat (256 + 1))) _ _ _ (by omega) (by omega) hI hF ht hnr hVn (by first | assumption | omega) ?_ ?_
  · omega
  · omega
