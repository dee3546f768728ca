theorem dX10_lookAhead_0 : decode cX10_lookAhead 0 = .ok (.aload_n 0, 1) := by decide +kernel
theorem dX10_lookAhead_1 : decode cX10_lookAhead 1 = .ok (.getfield 33, 3) := by decide +kernel
theorem dX10_lookAhead_4 : decode cX10_lookAhead 4 = .ok (.aload_n 0, 1) := by decide +kernel
theorem dX10_lookAhead_5 : decode cX10_lookAhead 5 = .ok (.getfield 19, 3) := by decide +kernel
theorem dX10_lookAhead_8 : decode cX10_lookAhead 8 = .ok (.invokevirtual 124, 3) := by decide +kernel
theorem dX10_lookAhead_11 : decode cX10_lookAhead 11 = .ok (.invokevirtual 204, 3) := by decide +kernel
theorem dX10_lookAhead_14 : decode cX10_lookAhead 14 = .ok (.iconst 0, 1) := by decide +kernel
theorem dX10_lookAhead_15 : decode cX10_lookAhead 15 = .ok (.istore_n 2, 1) := by decide +kernel
theorem dX10_lookAhead_16 : decode cX10_lookAhead 16 = .ok (.iload_n 2, 1) := by decide +kernel
theorem dX10_lookAhead_17 : decode cX10_lookAhead 17 = .ok (.iload_n 1, 1) := by decide +kernel
theorem dX10_lookAhead_18 : decode cX10_lookAhead 18 = .ok (.if_icmp .ge 25, 3) := by decide +kernel
theorem dX10_lookAhead_21 : decode cX10_lookAhead 21 = .ok (.aload_n 0, 1) := by decide +kernel
theorem dX10_lookAhead_22 : decode cX10_lookAhead 22 = .ok (.getfield 26, 3) := by decide +kernel
theorem dX10_lookAhead_25 : decode cX10_lookAhead 25 = .ok (.aload_n 0, 1) := by decide +kernel
theorem dX10_lookAhead_26 : decode cX10_lookAhead 26 = .ok (.getfield 62, 3) := by decide +kernel
theorem dX10_lookAhead_29 : decode cX10_lookAhead 29 = .ok (.aload_n 0, 1) := by decide +kernel
theorem dX10_lookAhead_30 : decode cX10_lookAhead 30 = .ok (.getfield 33, 3) := by decide +kernel
theorem dX10_lookAhead_33 : decode cX10_lookAhead 33 = .ok (.invokevirtual 194, 3) := by decide +kernel
theorem dX10_lookAhead_36 : decode cX10_lookAhead 36 = .ok (.pop, 1) := by decide +kernel
theorem dX10_lookAhead_37 : decode cX10_lookAhead 37 = .ok (.iinc 2 1, 3) := by decide +kernel
theorem dX10_lookAhead_40 : decode cX10_lookAhead 40 = .ok (.goto (-24), 3) := by decide +kernel
theorem dX10_lookAhead_43 : decode cX10_lookAhead 43 = .ok (.return_, 1) := by decide +kernel
theorem dX10_staysHidden_0 : decode cX10_staysHidden 0 = .ok (.aload_n 0, 1) := by decide +kernel
theorem dX10_staysHidden_1 : decode cX10_staysHidden 1 = .ok (.getfield 33, 3) := by decide +kernel
theorem dX10_staysHidden_4 : decode cX10_staysHidden 4 = .ok (.aload_n 0, 1) := by decide +kernel
theorem dX10_staysHidden_5 : decode cX10_staysHidden 5 = .ok (.getfield 19, 3) := by decide +kernel
theorem dX10_staysHidden_8 : decode cX10_staysHidden 8 = .ok (.invokevirtual 124, 3) := by decide +kernel
theorem dX10_staysHidden_11 : decode cX10_staysHidden 11 = .ok (.invokevirtual 204, 3) := by decide +kernel
theorem dX10_staysHidden_14 : decode cX10_staysHidden 14 = .ok (.aload_n 0, 1) := by decide +kernel
theorem dX10_staysHidden_15 : decode cX10_staysHidden 15 = .ok (.getfield 33, 3) := by decide +kernel
theorem dX10_staysHidden_18 : decode cX10_staysHidden 18 = .ok (.dup, 1) := by decide +kernel
theorem dX10_staysHidden_19 : decode cX10_staysHidden 19 = .ok (.getfield 178, 3) := by decide +kernel
theorem dX10_staysHidden_22 : decode cX10_staysHidden 22 = .ok (.iload_n 3, 1) := by decide +kernel
theorem dX10_staysHidden_23 : decode cX10_staysHidden 23 = .ok (.ior, 1) := by decide +kernel
theorem dX10_staysHidden_24 : decode cX10_staysHidden 24 = .ok (.putfield 178, 3) := by decide +kernel
theorem dX10_staysHidden_27 : decode cX10_staysHidden 27 = .ok (.iconst 0, 1) := by decide +kernel
theorem dX10_staysHidden_28 : decode cX10_staysHidden 28 = .ok (.istore 4, 2) := by decide +kernel
theorem dX10_staysHidden_30 : decode cX10_staysHidden 30 = .ok (.iload 4, 2) := by decide +kernel
theorem dX10_staysHidden_32 : decode cX10_staysHidden 32 = .ok (.bipush 120, 2) := by decide +kernel
theorem dX10_staysHidden_34 : decode cX10_staysHidden 34 = .ok (.if_icmp .ge 39, 3) := by decide +kernel
theorem dX10_staysHidden_37 : decode cX10_staysHidden 37 = .ok (.aload_n 0, 1) := by decide +kernel
theorem dX10_staysHidden_38 : decode cX10_staysHidden 38 = .ok (.getfield 26, 3) := by decide +kernel
theorem dX10_staysHidden_41 : decode cX10_staysHidden 41 = .ok (.aload_n 0, 1) := by decide +kernel
theorem dX10_staysHidden_42 : decode cX10_staysHidden 42 = .ok (.getfield 62, 3) := by decide +kernel
theorem dX10_staysHidden_45 : decode cX10_staysHidden 45 = .ok (.aload_n 0, 1) := by decide +kernel
theorem dX10_staysHidden_46 : decode cX10_staysHidden 46 = .ok (.getfield 33, 3) := by decide +kernel
theorem dX10_staysHidden_49 : decode cX10_staysHidden 49 = .ok (.invokevirtual 194, 3) := by decide +kernel
theorem dX10_staysHidden_52 : decode cX10_staysHidden 52 = .ok (.pop, 1) := by decide +kernel
theorem dX10_staysHidden_53 : decode cX10_staysHidden 53 = .ok (.aload_n 0, 1) := by decide +kernel
theorem dX10_staysHidden_54 : decode cX10_staysHidden 54 = .ok (.getfield 33, 3) := by decide +kernel
theorem dX10_staysHidden_57 : decode cX10_staysHidden 57 = .ok (.iload_n 1, 1) := by decide +kernel
theorem dX10_staysHidden_58 : decode cX10_staysHidden 58 = .ok (.iload_n 2, 1) := by decide +kernel
theorem dX10_staysHidden_59 : decode cX10_staysHidden 59 = .ok (.invokevirtual 208, 3) := by decide +kernel
theorem dX10_staysHidden_62 : decode cX10_staysHidden 62 = .ok (.ifCond .eq 5, 3) := by decide +kernel
theorem dX10_staysHidden_65 : decode cX10_staysHidden 65 = .ok (.iconst 0, 1) := by decide +kernel
theorem dX10_staysHidden_66 : decode cX10_staysHidden 66 = .ok (.ireturn, 1) := by decide +kernel
theorem dX10_staysHidden_67 : decode cX10_staysHidden 67 = .ok (.iinc 4 1, 3) := by decide +kernel
theorem dX10_staysHidden_70 : decode cX10_staysHidden 70 = .ok (.goto (-40), 3) := by decide +kernel
theorem dX10_staysHidden_73 : decode cX10_staysHidden 73 = .ok (.iconst 1, 1) := by decide +kernel
theorem dX10_staysHidden_74 : decode cX10_staysHidden 74 = .ok (.ireturn, 1) := by decide +kernel
theorem dX10_when_0 : decode cX10_when 0 = .ok (.aload_n 0, 1) := by decide +kernel
theorem dX10_when_1 : decode cX10_when 1 = .ok (.getfield 62, 3) := by decide +kernel
theorem dX10_when_4 : decode cX10_when 4 = .ok (.iload_n 1, 1) := by decide +kernel
theorem dX10_when_5 : decode cX10_when 5 = .ok (.invokevirtual 120, 3) := by decide +kernel
theorem dX10_when_8 : decode cX10_when 8 = .ok (.ifCond .eq 14, 3) := by decide +kernel
theorem dX10_when_11 : decode cX10_when 11 = .ok (.aload_n 0, 1) := by decide +kernel
theorem dX10_when_12 : decode cX10_when 12 = .ok (.getfield 62, 3) := by decide +kernel
theorem dX10_when_15 : decode cX10_when 15 = .ok (.iload_n 2, 1) := by decide +kernel
theorem dX10_when_16 : decode cX10_when 16 = .ok (.invokevirtual 153, 3) := by decide +kernel
theorem dX10_when_19 : decode cX10_when 19 = .ok (.ifCond .ne 5, 3) := by decide +kernel
theorem dX10_when_22 : decode cX10_when 22 = .ok (.iconst (-1), 1) := by decide +kernel
theorem dX10_when_23 : decode cX10_when 23 = .ok (.ireturn, 1) := by decide +kernel
theorem dX10_when_24 : decode cX10_when 24 = .ok (.aload_n 0, 1) := by decide +kernel
theorem dX10_when_25 : decode cX10_when 25 = .ok (.getfield 33, 3) := by decide +kernel
theorem dX10_when_28 : decode cX10_when 28 = .ok (.aload_n 0, 1) := by decide +kernel
theorem dX10_when_29 : decode cX10_when 29 = .ok (.getfield 19, 3) := by decide +kernel
theorem dX10_when_32 : decode cX10_when 32 = .ok (.invokevirtual 124, 3) := by decide +kernel
theorem dX10_when_35 : decode cX10_when 35 = .ok (.invokevirtual 204, 3) := by decide +kernel
theorem dX10_when_38 : decode cX10_when 38 = .ok (.iconst 0, 1) := by decide +kernel
theorem dX10_when_39 : decode cX10_when 39 = .ok (.istore_n 3, 1) := by decide +kernel
theorem dX10_when_40 : decode cX10_when 40 = .ok (.iload_n 3, 1) := by decide +kernel
theorem dX10_when_41 : decode cX10_when 41 = .ok (.sipush 240, 3) := by decide +kernel
theorem dX10_when_44 : decode cX10_when 44 = .ok (.if_icmp .ge 39, 3) := by decide +kernel
theorem dX10_when_47 : decode cX10_when 47 = .ok (.aload_n 0, 1) := by decide +kernel
theorem dX10_when_48 : decode cX10_when 48 = .ok (.getfield 33, 3) := by decide +kernel
theorem dX10_when_51 : decode cX10_when 51 = .ok (.iload_n 1, 1) := by decide +kernel
theorem dX10_when_52 : decode cX10_when 52 = .ok (.iload_n 2, 1) := by decide +kernel
theorem dX10_when_53 : decode cX10_when 53 = .ok (.invokevirtual 208, 3) := by decide +kernel
theorem dX10_when_56 : decode cX10_when 56 = .ok (.ifCond .eq 5, 3) := by decide +kernel
theorem dX10_when_59 : decode cX10_when 59 = .ok (.iload_n 3, 1) := by decide +kernel
theorem dX10_when_60 : decode cX10_when 60 = .ok (.ireturn, 1) := by decide +kernel
theorem dX10_when_61 : decode cX10_when 61 = .ok (.aload_n 0, 1) := by decide +kernel
theorem dX10_when_62 : decode cX10_when 62 = .ok (.getfield 26, 3) := by decide +kernel
theorem dX10_when_65 : decode cX10_when 65 = .ok (.aload_n 0, 1) := by decide +kernel
theorem dX10_when_66 : decode cX10_when 66 = .ok (.getfield 62, 3) := by decide +kernel
theorem dX10_when_69 : decode cX10_when 69 = .ok (.aload_n 0, 1) := by decide +kernel
theorem dX10_when_70 : decode cX10_when 70 = .ok (.getfield 33, 3) := by decide +kernel
theorem dX10_when_73 : decode cX10_when 73 = .ok (.invokevirtual 194, 3) := by decide +kernel
theorem dX10_when_76 : decode cX10_when 76 = .ok (.pop, 1) := by decide +kernel
theorem dX10_when_77 : decode cX10_when 77 = .ok (.iinc 3 1, 3) := by decide +kernel
theorem dX10_when_80 : decode cX10_when 80 = .ok (.goto (-40), 3) := by decide +kernel
theorem dX10_when_83 : decode cX10_when 83 = .ok (.aload_n 0, 1) := by decide +kernel
theorem dX10_when_84 : decode cX10_when 84 = .ok (.getfield 33, 3) := by decide +kernel
theorem dX10_when_87 : decode cX10_when 87 = .ok (.iload_n 1, 1) := by decide +kernel
theorem dX10_when_88 : decode cX10_when 88 = .ok (.iload_n 2, 1) := by decide +kernel
theorem dX10_when_89 : decode cX10_when 89 = .ok (.invokevirtual 208, 3) := by decide +kernel
theorem dX10_when_92 : decode cX10_when 92 = .ok (.ifCond .eq 9, 3) := by decide +kernel
theorem dX10_when_95 : decode cX10_when 95 = .ok (.sipush 240, 3) := by decide +kernel
theorem dX10_when_98 : decode cX10_when 98 = .ok (.goto 4, 3) := by decide +kernel
theorem dX10_when_101 : decode cX10_when 101 = .ok (.iconst (-1), 1) := by decide +kernel
theorem dX10_when_102 : decode cX10_when 102 = .ok (.ireturn, 1) := by decide +kernel
theorem dX10_will_0 : decode cX10_will 0 = .ok (.aload_n 0, 1) := by decide +kernel
theorem dX10_will_1 : decode cX10_will 1 = .ok (.getfield 62, 3) := by decide +kernel
theorem dX10_will_4 : decode cX10_will 4 = .ok (.iload_n 1, 1) := by decide +kernel
theorem dX10_will_5 : decode cX10_will 5 = .ok (.invokevirtual 120, 3) := by decide +kernel
theorem dX10_will_8 : decode cX10_will 8 = .ok (.ifCond .eq 14, 3) := by decide +kernel
theorem dX10_will_11 : decode cX10_will 11 = .ok (.iload_n 2, 1) := by decide +kernel
theorem dX10_will_12 : decode cX10_will 12 = .ok (.ifCond .lt 10, 3) := by decide +kernel
theorem dX10_will_15 : decode cX10_will 15 = .ok (.iload_n 2, 1) := by decide +kernel
theorem dX10_will_16 : decode cX10_will 16 = .ok (.sipush 240, 3) := by decide +kernel
theorem dX10_will_19 : decode cX10_will 19 = .ok (.if_icmp .le 5, 3) := by decide +kernel
theorem dX10_will_22 : decode cX10_will 22 = .ok (.iconst (-1), 1) := by decide +kernel
theorem dX10_will_23 : decode cX10_will 23 = .ok (.ireturn, 1) := by decide +kernel
theorem dX10_will_24 : decode cX10_will 24 = .ok (.aload_n 0, 1) := by decide +kernel
theorem dX10_will_25 : decode cX10_will 25 = .ok (.iload_n 2, 1) := by decide +kernel
theorem dX10_will_26 : decode cX10_will 26 = .ok (.invokevirtual 212, 3) := by decide +kernel
theorem dX10_will_29 : decode cX10_will 29 = .ok (.aload_n 0, 1) := by decide +kernel
theorem dX10_will_30 : decode cX10_will 30 = .ok (.getfield 33, 3) := by decide +kernel
theorem dX10_will_33 : decode cX10_will 33 = .ok (.getfield 138, 3) := by decide +kernel
theorem dX10_will_36 : decode cX10_will 36 = .ok (.iload_n 1, 1) := by decide +kernel
theorem dX10_will_37 : decode cX10_will 37 = .ok (.iaload, 1) := by decide +kernel
theorem dX10_will_38 : decode cX10_will 38 = .ok (.ireturn, 1) := by decide +kernel
theorem dX10_deaf_0 : decode cX10_deaf 0 = .ok (.aload_n 0, 1) := by decide +kernel
theorem dX10_deaf_1 : decode cX10_deaf 1 = .ok (.getfield 62, 3) := by decide +kernel
theorem dX10_deaf_4 : decode cX10_deaf 4 = .ok (.iload_n 1, 1) := by decide +kernel
theorem dX10_deaf_5 : decode cX10_deaf 5 = .ok (.invokevirtual 153, 3) := by decide +kernel
theorem dX10_deaf_8 : decode cX10_deaf 8 = .ok (.ifCond .ne 5, 3) := by decide +kernel
theorem dX10_deaf_11 : decode cX10_deaf 11 = .ok (.iconst (-1), 1) := by decide +kernel
theorem dX10_deaf_12 : decode cX10_deaf 12 = .ok (.ireturn, 1) := by decide +kernel
theorem dX10_deaf_13 : decode cX10_deaf 13 = .ok (.aload_n 0, 1) := by decide +kernel
theorem dX10_deaf_14 : decode cX10_deaf 14 = .ok (.sipush 240, 3) := by decide +kernel
theorem dX10_deaf_17 : decode cX10_deaf 17 = .ok (.invokevirtual 212, 3) := by decide +kernel
theorem dX10_deaf_20 : decode cX10_deaf 20 = .ok (.aload_n 0, 1) := by decide +kernel
theorem dX10_deaf_21 : decode cX10_deaf 21 = .ok (.getfield 62, 3) := by decide +kernel
theorem dX10_deaf_24 : decode cX10_deaf 24 = .ok (.invokevirtual 220, 3) := by decide +kernel
theorem dX10_deaf_27 : decode cX10_deaf 27 = .ok (.aload_n 0, 1) := by decide +kernel
theorem dX10_deaf_28 : decode cX10_deaf 28 = .ok (.getfield 33, 3) := by decide +kernel
theorem dX10_deaf_31 : decode cX10_deaf 31 = .ok (.iload_n 1, 1) := by decide +kernel
theorem dX10_deaf_32 : decode cX10_deaf 32 = .ok (.invokevirtual 165, 3) := by decide +kernel
theorem dX10_deaf_35 : decode cX10_deaf 35 = .ok (.iconst (-1), 1) := by decide +kernel
theorem dX10_deaf_36 : decode cX10_deaf 36 = .ok (.ixor, 1) := by decide +kernel
theorem dX10_deaf_37 : decode cX10_deaf 37 = .ok (.iand, 1) := by decide +kernel
theorem dX10_deaf_38 : decode cX10_deaf 38 = .ok (.ireturn, 1) := by decide +kernel
theorem dX10_gossip_0 : decode cX10_gossip 0 = .ok (.iload_n 1, 1) := by decide +kernel
theorem dX10_gossip_1 : decode cX10_gossip 1 = .ok (.ifCond .lt 10, 3) := by decide +kernel
theorem dX10_gossip_4 : decode cX10_gossip 4 = .ok (.iload_n 1, 1) := by decide +kernel
theorem dX10_gossip_5 : decode cX10_gossip 5 = .ok (.sipush 240, 3) := by decide +kernel
theorem dX10_gossip_8 : decode cX10_gossip 8 = .ok (.if_icmp .le 5, 3) := by decide +kernel
theorem dX10_gossip_11 : decode cX10_gossip 11 = .ok (.iconst (-1), 1) := by decide +kernel
theorem dX10_gossip_12 : decode cX10_gossip 12 = .ok (.ireturn, 1) := by decide +kernel
theorem dX10_gossip_13 : decode cX10_gossip 13 = .ok (.aload_n 0, 1) := by decide +kernel
theorem dX10_gossip_14 : decode cX10_gossip 14 = .ok (.iload_n 1, 1) := by decide +kernel
theorem dX10_gossip_15 : decode cX10_gossip 15 = .ok (.invokevirtual 212, 3) := by decide +kernel
theorem dX10_gossip_18 : decode cX10_gossip 18 = .ok (.aload_n 0, 1) := by decide +kernel
theorem dX10_gossip_19 : decode cX10_gossip 19 = .ok (.getfield 33, 3) := by decide +kernel
theorem dX10_gossip_22 : decode cX10_gossip 22 = .ok (.invokevirtual 224, 3) := by decide +kernel
theorem dX10_gossip_25 : decode cX10_gossip 25 = .ok (.aload_n 0, 1) := by decide +kernel
theorem dX10_gossip_26 : decode cX10_gossip 26 = .ok (.getfield 19, 3) := by decide +kernel
theorem dX10_gossip_29 : decode cX10_gossip 29 = .ok (.invokevirtual 124, 3) := by decide +kernel
theorem dX10_gossip_32 : decode cX10_gossip 32 = .ok (.invokevirtual 224, 3) := by decide +kernel
theorem dX10_gossip_35 : decode cX10_gossip 35 = .ok (.isub, 1) := by decide +kernel
theorem dX10_gossip_36 : decode cX10_gossip 36 = .ok (.ireturn, 1) := by decide +kernel
theorem dX10_rentOf_0 : decode cX10_rentOf 0 = .ok (.aload_n 0, 1) := by decide +kernel
theorem dX10_rentOf_1 : decode cX10_rentOf 1 = .ok (.getfield 19, 3) := by decide +kernel
theorem dX10_rentOf_4 : decode cX10_rentOf 4 = .ok (.invokevirtual 124, 3) := by decide +kernel
theorem dX10_rentOf_7 : decode cX10_rentOf 7 = .ok (.astore_n 2, 1) := by decide +kernel
theorem dX10_rentOf_8 : decode cX10_rentOf 8 = .ok (.aload_n 0, 1) := by decide +kernel
theorem dX10_rentOf_9 : decode cX10_rentOf 9 = .ok (.getfield 62, 3) := by decide +kernel
theorem dX10_rentOf_12 : decode cX10_rentOf 12 = .ok (.getfield 317, 3) := by decide +kernel
theorem dX10_rentOf_15 : decode cX10_rentOf 15 = .ok (.astore_n 3, 1) := by decide +kernel
theorem dX10_rentOf_16 : decode cX10_rentOf 16 = .ok (.aload_n 2, 1) := by decide +kernel
theorem dX10_rentOf_17 : decode cX10_rentOf 17 = .ok (.getfield 128, 3) := by decide +kernel
theorem dX10_rentOf_20 : decode cX10_rentOf 20 = .ok (.iload_n 1, 1) := by decide +kernel
theorem dX10_rentOf_21 : decode cX10_rentOf 21 = .ok (.iaload, 1) := by decide +kernel
theorem dX10_rentOf_22 : decode cX10_rentOf 22 = .ok (.istore 4, 2) := by decide +kernel
theorem dX10_rentOf_24 : decode cX10_rentOf 24 = .ok (.aload_n 3, 1) := by decide +kernel
theorem dX10_rentOf_25 : decode cX10_rentOf 25 = .ok (.sipush 201, 3) := by decide +kernel
theorem dX10_rentOf_28 : decode cX10_rentOf 28 = .ok (.aload_n 0, 1) := by decide +kernel
theorem dX10_rentOf_29 : decode cX10_rentOf 29 = .ok (.getfield 62, 3) := by decide +kernel
theorem dX10_rentOf_32 : decode cX10_rentOf 32 = .ok (.getfield 144, 3) := by decide +kernel
theorem dX10_rentOf_35 : decode cX10_rentOf 35 = .ok (.iload 4, 2) := by decide +kernel
theorem dX10_rentOf_37 : decode cX10_rentOf 37 = .ok (.iaload, 1) := by decide +kernel
theorem dX10_rentOf_38 : decode cX10_rentOf 38 = .ok (.invokevirtual 326, 3) := by decide +kernel
theorem dX10_rentOf_41 : decode cX10_rentOf 41 = .ok (.aload_n 3, 1) := by decide +kernel
theorem dX10_rentOf_42 : decode cX10_rentOf 42 = .ok (.sipush 217, 3) := by decide +kernel
theorem dX10_rentOf_45 : decode cX10_rentOf 45 = .ok (.aload_n 2, 1) := by decide +kernel
theorem dX10_rentOf_46 : decode cX10_rentOf 46 = .ok (.iload_n 1, 1) := by decide +kernel
theorem dX10_rentOf_47 : decode cX10_rentOf 47 = .ok (.invokevirtual 135, 3) := by decide +kernel
theorem dX10_rentOf_50 : decode cX10_rentOf 50 = .ok (.ifCond .eq 7, 3) := by decide +kernel
theorem dX10_rentOf_53 : decode cX10_rentOf 53 = .ok (.iconst 0, 1) := by decide +kernel
theorem dX10_rentOf_54 : decode cX10_rentOf 54 = .ok (.goto 4, 3) := by decide +kernel
theorem dX10_rentOf_57 : decode cX10_rentOf 57 = .ok (.iconst 1, 1) := by decide +kernel
theorem dX10_rentOf_58 : decode cX10_rentOf 58 = .ok (.invokevirtual 326, 3) := by decide +kernel
theorem dX10_rentOf_61 : decode cX10_rentOf 61 = .ok (.aload_n 3, 1) := by decide +kernel
theorem dX10_rentOf_62 : decode cX10_rentOf 62 = .ok (.sipush 218, 3) := by decide +kernel
theorem dX10_rentOf_65 : decode cX10_rentOf 65 = .ok (.aload_n 2, 1) := by decide +kernel
theorem dX10_rentOf_66 : decode cX10_rentOf 66 = .ok (.getfield 138, 3) := by decide +kernel
theorem dX10_rentOf_69 : decode cX10_rentOf 69 = .ok (.iload_n 1, 1) := by decide +kernel
theorem dX10_rentOf_70 : decode cX10_rentOf 70 = .ok (.iaload, 1) := by decide +kernel
theorem dX10_rentOf_71 : decode cX10_rentOf 71 = .ok (.invokestatic 215, 3) := by decide +kernel
theorem dX10_rentOf_74 : decode cX10_rentOf 74 = .ok (.invokevirtual 326, 3) := by decide +kernel
theorem dX10_rentOf_77 : decode cX10_rentOf 77 = .ok (.aload_n 3, 1) := by decide +kernel
theorem dX10_rentOf_78 : decode cX10_rentOf 78 = .ok (.sipush 219, 3) := by decide +kernel
theorem dX10_rentOf_81 : decode cX10_rentOf 81 = .ok (.aload_n 0, 1) := by decide +kernel
theorem dX10_rentOf_82 : decode cX10_rentOf 82 = .ok (.getfield 62, 3) := by decide +kernel
theorem dX10_rentOf_85 : decode cX10_rentOf 85 = .ok (.iload_n 1, 1) := by decide +kernel
theorem dX10_rentOf_86 : decode cX10_rentOf 86 = .ok (.iload 4, 2) := by decide +kernel
theorem dX10_rentOf_88 : decode cX10_rentOf 88 = .ok (.invokevirtual 168, 3) := by decide +kernel
theorem dX10_rentOf_91 : decode cX10_rentOf 91 = .ok (.invokevirtual 326, 3) := by decide +kernel
theorem dX10_rentOf_94 : decode cX10_rentOf 94 = .ok (.aload_n 3, 1) := by decide +kernel
theorem dX10_rentOf_95 : decode cX10_rentOf 95 = .ok (.sipush 220, 3) := by decide +kernel
theorem dX10_rentOf_98 : decode cX10_rentOf 98 = .ok (.aload_n 2, 1) := by decide +kernel
theorem dX10_rentOf_99 : decode cX10_rentOf 99 = .ok (.getfield 191, 3) := by decide +kernel
theorem dX10_rentOf_102 : decode cX10_rentOf 102 = .ok (.invokevirtual 326, 3) := by decide +kernel
theorem dX10_rentOf_105 : decode cX10_rentOf 105 = .ok (.aload_n 3, 1) := by decide +kernel
theorem dX10_rentOf_106 : decode cX10_rentOf 106 = .ok (.sipush 221, 3) := by decide +kernel
theorem dX10_rentOf_109 : decode cX10_rentOf 109 = .ok (.iload 4, 2) := by decide +kernel
theorem dX10_rentOf_111 : decode cX10_rentOf 111 = .ok (.iload_n 1, 1) := by decide +kernel
theorem dX10_rentOf_112 : decode cX10_rentOf 112 = .ok (.if_icmp .ne 7, 3) := by decide +kernel
theorem dX10_rentOf_115 : decode cX10_rentOf 115 = .ok (.iconst 1, 1) := by decide +kernel
theorem dX10_rentOf_116 : decode cX10_rentOf 116 = .ok (.goto 4, 3) := by decide +kernel
theorem dX10_rentOf_119 : decode cX10_rentOf 119 = .ok (.iconst 0, 1) := by decide +kernel
theorem dX10_rentOf_120 : decode cX10_rentOf 120 = .ok (.invokevirtual 326, 3) := by decide +kernel
theorem dX10_rentOf_123 : decode cX10_rentOf 123 = .ok (.aload_n 3, 1) := by decide +kernel
theorem dX10_rentOf_124 : decode cX10_rentOf 124 = .ok (.invokevirtual 329, 3) := by decide +kernel
theorem dX10_rentOf_127 : decode cX10_rentOf 127 = .ok (.ireturn, 1) := by decide +kernel
theorem dX10_rents_0 : decode cX10_rents 0 = .ok (.iconst 0, 1) := by decide +kernel
theorem dX10_rents_1 : decode cX10_rents 1 = .ok (.istore_n 1, 1) := by decide +kernel
theorem dX10_rents_2 : decode cX10_rents 2 = .ok (.iconst 0, 1) := by decide +kernel
theorem dX10_rents_3 : decode cX10_rents 3 = .ok (.istore_n 2, 1) := by decide +kernel
theorem dX10_rents_4 : decode cX10_rents 4 = .ok (.iload_n 2, 1) := by decide +kernel
theorem dX10_rents_5 : decode cX10_rents 5 = .ok (.aload_n 0, 1) := by decide +kernel
theorem dX10_rents_6 : decode cX10_rents 6 = .ok (.getfield 62, 3) := by decide +kernel
theorem dX10_rents_9 : decode cX10_rents 9 = .ok (.getfield 111, 3) := by decide +kernel
theorem dX10_rents_12 : decode cX10_rents 12 = .ok (.if_icmp .ge 17, 3) := by decide +kernel
theorem dX10_rents_15 : decode cX10_rents 15 = .ok (.iload_n 1, 1) := by decide +kernel
theorem dX10_rents_16 : decode cX10_rents 16 = .ok (.aload_n 0, 1) := by decide +kernel
theorem dX10_rents_17 : decode cX10_rents 17 = .ok (.iload_n 2, 1) := by decide +kernel
theorem dX10_rents_18 : decode cX10_rents 18 = .ok (.invokevirtual 141, 3) := by decide +kernel
theorem dX10_rents_21 : decode cX10_rents 21 = .ok (.iadd, 1) := by decide +kernel
theorem dX10_rents_22 : decode cX10_rents 22 = .ok (.istore_n 1, 1) := by decide +kernel
theorem dX10_rents_23 : decode cX10_rents 23 = .ok (.iinc 2 1, 3) := by decide +kernel
theorem dX10_rents_26 : decode cX10_rents 26 = .ok (.goto (-22), 3) := by decide +kernel
theorem dX10_rents_29 : decode cX10_rents 29 = .ok (.iload_n 1, 1) := by decide +kernel
theorem dX10_rents_30 : decode cX10_rents 30 = .ok (.ireturn, 1) := by decide +kernel
set_option maxHeartbeats 2000000 in
set_option maxRecDepth 20000 in
theorem c_X10_lookAhead (l : Launch) (D : va_G) (cy : Nat → ClassId) (B N : Nat) (q : Int) (nr : Int) (a : Int) (M : MM) (hN : 210 ≤ N) (hI : Iv M) (hpa : I32 a) (hq : q = 5 ∨ q = 180) (ht : M.1 0 8 = q) (hnr : M.1 q 0 = nr) (hVn : Vn nr M) (hnb : 0 ≤ nr ∧ nr ≤ 6) : CV l D cy B N 5 yX10_lookAhead cX10_lookAhead 3 none [rv B 0, iv a] M (fun M' => Iv M' ∧ Fr (fun a (_ : Int) => (152 ≤ a ∧ a ≤ 155)) M M' ∧ (V nr 153 M')) := by
  refine mk_CV (by decide) (Nat.le_of_ble_eq_true rfl) ?_
  intro X exl exD excy hnL hX hret
  have hce : 0 + 0 ≤ (xR X).cells ∧ 0 + 0 ≤ (xR X).slots := ⟨Nat.zero_le _, Nat.zero_le _⟩
  have hdq : 5 ≤ q ∧ q ≤ 180 := by omega
  have hF : Fr (fun a (_ : Int) => (152 ≤ a ∧ a ≤ 155)) M M := Fr.rf
  have cp : ∀ n : Nat, (∀ (x2 : Int), ∀ (Mc : MM), I32 x2 → Iv Mc → Fr (fun a (_ : Int) => (152 ≤ a ∧ a ≤ 155)) M Mc → Mc.1 0 8 = q → Mc.1 q 0 = nr → V nr 153 Mc → (0 ≤ x2) → 0 ≤ 32 * (2147483648 - x2) + 1 → 32 * (2147483648 - x2) + 1 < (n : Int) → J X B N 0 0 16 [(0, rv B 0), (1, iv a), (2, iv x2)] [] Mc) := by
    intro n
    induction n with
    | zero => exact by intros; exfalso; omega
    | succ n ih =>
      · intro x2 Mc hxx2 hI hF hk_0 hk_1 hV_0 h2 hm0 hm1
        refine j_iload_n hX dX10_lookAhead_16 rfl 2 rfl ?_
        refine j_iload_n hX dX10_lookAhead_17 rfl 1 rfl ?_
        refine j_icmp_ge (tgt := 43) hX dX10_lookAhead_18 (by decide) (by omega) (by omega) (fun hc1 => ?_) (fun hc1 => ?_)
        · skip
          exact hret _ _ _ dX10_lookAhead_43 ⟨hI, hF, by assumption⟩
        · skip
          refine j_aload_n hX dX10_lookAhead_21 rfl 0 rfl ?_
          refine gf_X10_26 hX (by omega) (by omega) kc_0 (fc_0_2 hI) (by decide) dX10_lookAhead_22 ?_
          refine j_aload_n hX dX10_lookAhead_25 rfl 0 rfl ?_
          refine gf_X10_62 hX (by omega) (by omega) kc_0 hk_0 (by omega) dX10_lookAhead_26 ?_
          refine j_aload_n hX dX10_lookAhead_29 rfl 0 rfl ?_
          refine gf_X10_33 hX (by omega) (by omega) kc_0 (fc_0_3 hI) (by decide) dX10_lookAhead_30 ?_
          have h153 : Sc 153 := by unfold Sc; omega
          refine j_callVI hX lk_X10_194 (c_X1_passHour _ _ _ _ _ q 153 _ _ (by omega) hI hq h153 hk_1 (by first | assumption | omega) (by first | assumption | omega)) (by omega) hce rfl rfl (by omega) (by omega) kc_151 rfl rfl (Nat.le_of_ble_eq_true rfl) dX10_lookAhead_33 (fun z2 M3 hz5 hp4 => ?_)
          obtain ⟨hI6, hG7, hq8⟩ := hp4
          have hk10 := kp_fr hG7 (by omega) hk_0
          have hk11 := kp_fr hG7 (by omega) hk_1
          have hF12 := Fr.trans hF hG7 (fun a b h => by omega)
          refine j_pop hX dX10_lookAhead_36 rfl ?_
          refine j_iinc (lv' := [(2, _), (0, _), (1, _)]) hX dX10_lookAhead_37 2 rfl (by rw [hnL]; decide) rfl ?_
          refine j_goto (tgt := 16) hX dX10_lookAhead_40 (by decide) ?_
          refine j_sub [1, 2, 0] rfl ?_
          exact ih _ _ (by omega) hI6 hF12 hk10 hk11 hq8 (by first | assumption | omega) (by omega) (by omega)
  show J X B N 0 0 0 [(0, rv B 0), (1, iv a)] [] M
  refine j_aload_n hX dX10_lookAhead_0 rfl 0 rfl ?_
  refine gf_X10_33 hX (by omega) (by omega) kc_0 (fc_0_3 hI) (by decide) dX10_lookAhead_1 ?_
  have h153 : Sc 153 := by unfold Sc; omega
  refine j_aload_n hX dX10_lookAhead_4 rfl 0 rfl ?_
  refine gf_X10_19 hX (by omega) (by omega) kc_0 (fc_0_1 hI) (by decide) dX10_lookAhead_5 ?_
  refine j_callVR hX lk_X10_124 (c_X0_now _ _ _ _ _ _ (by omega) hI) (by omega) hce rfl rfl (by omega) (by omega) kc_26 rfl rfl (Nat.le_of_ble_eq_true rfl) dX10_lookAhead_8 (fun sw M13 hz15 hp14 => ?_)
  obtain ⟨rfl, hq16, hq17⟩ := hp14
  have hV18 : V nr sw M := by rw [hq17]; exact hVn
  have hsw : Sc sw := hq16
  have hbsw := sc_b hsw
  have hdsw : 28 ≤ sw ∧ sw ≤ 207 := by omega
  refine j_callVV hX lk_X10_204 (c_X8_copyFrom _ _ _ _ _ 153 sw _ _ (by omega) hI h153 hsw (by first | assumption | omega)) (by omega) hce rfl rfl (by omega) (by omega) (sc_k0 h153) rfl rfl (Nat.le_of_ble_eq_true rfl) dX10_lookAhead_11 (fun M20 hp21 => ?_)
  obtain ⟨hI23, hG24, hq25⟩ := hp21
  have hV26 := Vn_fr hVn hI hG24 (fun a b h => by omega)
  have hk28 := kp_fr hG24 (by omega) ht
  have hk29 := kp_fr hG24 (by omega) hnr
  have hF30 := Fr.trans hF hG24 (fun a b h => by omega)
  refine j_iconst hX dX10_lookAhead_14 ?_
  refine j_istore_n (lv' := [(2, _), (0, _), (1, _)]) hX dX10_lookAhead_15 rfl (by rw [hnL]; decide) rfl ?_
  refine j_sub [1, 2, 0] rfl ?_
  refine (cp (Int.toNat (68719476800 + 1))) _ _ (by omega) hI23 hF30 hk28 hk29 hq25 (by first | assumption | omega) ?_ ?_
  · omega
  · omega
set_option maxHeartbeats 2000000 in
set_option maxRecDepth 20000 in
theorem c_X10_staysHidden (l : Launch) (D : va_G) (cy : Nat → ClassId) (B N : Nat) (q : Int) (nr : Int) (a : Int) (b : Int) (c : Int) (M : MM) (hN : 210 ≤ N) (hI : Iv M) (hpa : I32 a) (hpb : I32 b) (hpc : I32 c) (hq : q = 5 ∨ q = 180) (ht : M.1 0 8 = q) (hnr : M.1 q 0 = nr) (hVn : Vn nr M) (hnb : 0 ≤ nr ∧ nr ≤ 6) (h1 : 0 ≤ a ∧ a < 6) : CI l D cy B N 5 yX10_staysHidden cX10_staysHidden 5 (some .boolean) [rv B 0, iv a, iv b, iv c] M (fun z M' => Iv M' ∧ Fr (fun a (_ : Int) => (152 ≤ a ∧ a ≤ 155)) M M' ∧ (0 ≤ z ∧ z ≤ 1)) := by
  refine mk_CI (by decide) (Nat.le_of_ble_eq_true rfl) ?_
  intro X exl exD excy hnL hX hret
  have hce : 0 + 0 ≤ (xR X).cells ∧ 0 + 0 ≤ (xR X).slots := ⟨Nat.zero_le _, Nat.zero_le _⟩
  have hdq : 5 ≤ q ∧ q ≤ 180 := by omega
  have hF : Fr (fun a (_ : Int) => (152 ≤ a ∧ a ≤ 155)) M M := Fr.rf
  have cp : ∀ n : Nat, (∀ (x4 : Int), ∀ (Mc : MM), I32 x4 → Iv Mc → Fr (fun a (_ : Int) => (152 ≤ a ∧ a ≤ 155)) M Mc → Mc.1 0 8 = q → Mc.1 q 0 = nr → V nr 153 Mc → (0 ≤ x4 ∧ x4 ≤ 120) → 0 ≤ 32 * (120 - x4) + 1 → 32 * (120 - x4) + 1 < (n : Int) → J X B N 0 0 30 [(0, rv B 0), (1, iv a), (2, iv b), (3, iv c), (4, iv x4)] [] Mc) := by
    intro n
    induction n with
    | zero => exact by intros; exfalso; omega
    | succ n ih =>
      · intro x4 Mc hxx4 hI hF hk_0 hk_1 hV_0 h2 hm0 hm1
        refine j_iload hX dX10_staysHidden_30 4 rfl ?_
        refine j_bipush hX dX10_staysHidden_32 rfl ?_
        refine j_icmp_ge (tgt := 73) hX dX10_staysHidden_34 (by decide) (by omega) (by omega) (fun hc1 => ?_) (fun hc1 => ?_)
        · skip
          refine j_iconst hX dX10_staysHidden_73 ?_
          exact hret _ _ _ _ dX10_staysHidden_74 (nb (by omega)) (by omega) ⟨hI, hF, by omega⟩
        · skip
          refine j_aload_n hX dX10_staysHidden_37 rfl 0 rfl ?_
          refine gf_X10_26 hX (by omega) (by omega) kc_0 (fc_0_2 hI) (by decide) dX10_staysHidden_38 ?_
          refine j_aload_n hX dX10_staysHidden_41 rfl 0 rfl ?_
          refine gf_X10_62 hX (by omega) (by omega) kc_0 hk_0 (by omega) dX10_staysHidden_42 ?_
          refine j_aload_n hX dX10_staysHidden_45 rfl 0 rfl ?_
          refine gf_X10_33 hX (by omega) (by omega) kc_0 (fc_0_3 hI) (by decide) dX10_staysHidden_46 ?_
          have h153 : Sc 153 := by unfold Sc; omega
          refine j_callVI hX lk_X10_194 (c_X1_passHour _ _ _ _ _ q 153 _ _ (by omega) hI hq h153 hk_1 (by first | assumption | omega) (by first | assumption | omega)) (by omega) hce rfl rfl (by omega) (by omega) kc_151 rfl rfl (Nat.le_of_ble_eq_true rfl) dX10_staysHidden_49 (fun z2 M3 hz5 hp4 => ?_)
          obtain ⟨hI6, hG7, hq8⟩ := hp4
          have hk10 := kp_fr hG7 (by omega) hk_0
          have hk11 := kp_fr hG7 (by omega) hk_1
          have hF12 := Fr.trans hF hG7 (fun a b h => by omega)
          refine j_pop hX dX10_staysHidden_52 rfl ?_
          refine j_aload_n hX dX10_staysHidden_53 rfl 0 rfl ?_
          refine gf_X10_33 hX (by omega) (by omega) kc_0 (fc_0_3 hI6) (by decide) dX10_staysHidden_54 ?_
          have h153 : Sc 153 := by unfold Sc; omega
          refine j_iload_n hX dX10_staysHidden_57 rfl 1 rfl ?_
          refine j_iload_n hX dX10_staysHidden_58 rfl 2 rfl ?_
          refine j_callVI hX lk_X10_208 (c_X8_doesKnow _ _ _ _ _ 153 _ _ _ (by omega) hI6 (by omega) (by omega) h153 (by first | assumption | omega)) (by omega) hce rfl rfl (by omega) (by omega) (sc_k0 h153) rfl rfl (Nat.le_of_ble_eq_true rfl) dX10_staysHidden_59 (fun z13 M14 hz16 hp15 => ?_)
          obtain ⟨rfl, hb17⟩ := hp15
          refine j_if_eq (tgt := 67) hX dX10_staysHidden_62 (by decide) (by omega) (fun hc18 => ?_) (fun hc18 => ?_)
          · skip
            refine j_iinc (lv' := [(4, _), (0, _), (1, _), (2, _), (3, _)]) hX dX10_staysHidden_67 4 rfl (by rw [hnL]; decide) rfl ?_
            refine j_goto (tgt := 30) hX dX10_staysHidden_70 (by decide) ?_
            refine j_sub [1, 2, 3, 4, 0] rfl ?_
            exact ih _ _ (by omega) hI6 hF12 hk10 hk11 (by assumption) (by first | assumption | omega) (by omega) (by omega)
          · skip
            refine j_iconst hX dX10_staysHidden_65 ?_
            exact hret _ _ _ _ dX10_staysHidden_66 (nb (by omega)) (by omega) ⟨hI6, hF12, by omega⟩
  show J X B N 0 0 0 [(0, rv B 0), (1, iv a), (2, iv b), (3, iv c)] [] M
  refine j_aload_n hX dX10_staysHidden_0 rfl 0 rfl ?_
  refine gf_X10_33 hX (by omega) (by omega) kc_0 (fc_0_3 hI) (by decide) dX10_staysHidden_1 ?_
  have h153 : Sc 153 := by unfold Sc; omega
  refine j_aload_n hX dX10_staysHidden_4 rfl 0 rfl ?_
  refine gf_X10_19 hX (by omega) (by omega) kc_0 (fc_0_1 hI) (by decide) dX10_staysHidden_5 ?_
  refine j_callVR hX lk_X10_124 (c_X0_now _ _ _ _ _ _ (by omega) hI) (by omega) hce rfl rfl (by omega) (by omega) kc_26 rfl rfl (Nat.le_of_ble_eq_true rfl) dX10_staysHidden_8 (fun sw M19 hz21 hp20 => ?_)
  obtain ⟨rfl, hq22, hq23⟩ := hp20
  have hV24 : V nr sw M := by rw [hq23]; exact hVn
  have hsw : Sc sw := hq22
  have hbsw := sc_b hsw
  have hdsw : 28 ≤ sw ∧ sw ≤ 207 := by omega
  refine j_callVV hX lk_X10_204 (c_X8_copyFrom _ _ _ _ _ 153 sw _ _ (by omega) hI h153 hsw (by first | assumption | omega)) (by omega) hce rfl rfl (by omega) (by omega) (sc_k0 h153) rfl rfl (Nat.le_of_ble_eq_true rfl) dX10_staysHidden_11 (fun M26 hp27 => ?_)
  obtain ⟨hI29, hG30, hq31⟩ := hp27
  have hV32 := Vn_fr hVn hI hG30 (fun a b h => by omega)
  have hk34 := kp_fr hG30 (by omega) ht
  have hk35 := kp_fr hG30 (by omega) hnr
  have hF36 := Fr.trans hF hG30 (fun a b h => by omega)
  refine j_aload_n hX dX10_staysHidden_14 rfl 0 rfl ?_
  refine gf_X10_33 hX (by omega) (by omega) kc_0 (fc_0_3 hI29) (by decide) dX10_staysHidden_15 ?_
  have h153 : Sc 153 := by unfold Sc; omega
  refine j_dup hX dX10_staysHidden_18 rfl ?_
  refine gf_X10_178 hX (by omega) (by omega) (sc_k0 h153) dX10_staysHidden_19 ?_
  refine j_name hI29 (sc_r2 h153) (fun v37 hv38 hl39 hh40 => ?_)
  have hk41 := hv38.symm
  refine j_iload_n hX dX10_staysHidden_22 rfl 3 rfl ?_
  refine j_ior hX dX10_staysHidden_23 (fun z42 hz43 hy44 => ?_)
  refine pf_X10_178 hX (by omega) (by omega) (sc_k0 h153) (by omega) dX10_staysHidden_24 ?_
  refine j_up hI29 (sc_r2 h153) (by omega) (by omega) (Or.inl (by omega)) (fun M45 w46 hw47 hM48 hI49 hf50 => ?_)
  have hV52 := V_up hq31 hM48 (by omega) (by omega)
  have hk53 := kp_up hM48 (by omega) hk34
  have hk54 := kp_up hM48 (by omega) hk35
  clear hk34 hk35 hk41
  have hF55 := Fr.put hF36 hM48 (by omega)
  refine j_iconst hX dX10_staysHidden_27 ?_
  refine j_istore (lv' := [(4, _), (0, _), (1, _), (2, _), (3, _)]) hX dX10_staysHidden_28 (by rw [hnL]; decide) rfl ?_
  refine j_sub [1, 2, 3, 4, 0] rfl ?_
  refine (cp (Int.toNat (3904 + 1))) _ _ (by omega) hI49 hF55 hk53 hk54 hV52 (by first | assumption | omega) ?_ ?_
  · omega
  · omega
set_option maxHeartbeats 2000000 in
set_option maxRecDepth 20000 in
theorem c_X10_when (l : Launch) (D : va_G) (cy : Nat → ClassId) (B N : Nat) (q : Int) (nr : Int) (a : Int) (b : Int) (M : MM) (hN : 210 ≤ N) (hI : Iv M) (hpa : I32 a) (hpb : I32 b) (hq : q = 5 ∨ q = 180) (ht : M.1 0 8 = q) (hnr : M.1 q 0 = nr) (hVn : Vn nr M) (hnb : 0 ≤ nr ∧ nr ≤ 6) : CI l D cy B N 5 yX10_when cX10_when 4 (some .int) [rv B 0, iv a, iv b] M (fun z M' => Iv M' ∧ Fr (fun a (_ : Int) => (152 ≤ a ∧ a ≤ 155)) M M') := by
  refine mk_CI (by decide) (Nat.le_of_ble_eq_true rfl) ?_
  intro X exl exD excy hnL hX hret
  have hce : 0 + 0 ≤ (xR X).cells ∧ 0 + 0 ≤ (xR X).slots := ⟨Nat.zero_le _, Nat.zero_le _⟩
  have hdq : 5 ≤ q ∧ q ≤ 180 := by omega
  have hF : Fr (fun a (_ : Int) => (152 ≤ a ∧ a ≤ 155)) M M := Fr.rf
  have cp : ∀ n : Nat, (∀ (x3 : Int), ∀ (Mc : MM), I32 x3 → Iv Mc → Fr (fun a (_ : Int) => (152 ≤ a ∧ a ≤ 155)) M Mc → Mc.1 0 8 = q → Mc.1 q 0 = nr → V nr 153 Mc → (0 ≤ x3 ∧ x3 ≤ 240 ∧ 0 ≤ a ∧ a < 6) → 0 ≤ 32 * (240 - x3) + 1 → 32 * (240 - x3) + 1 < (n : Int) → J X B N 0 0 40 [(0, rv B 0), (1, iv a), (2, iv b), (3, iv x3)] [] Mc) := by
    intro n
    induction n with
    | zero => exact by intros; exfalso; omega
    | succ n ih =>
      · intro x3 Mc hxx3 hI hF hk_0 hk_1 hV_0 h2 hm0 hm1
        refine j_iload_n hX dX10_when_40 rfl 3 rfl ?_
        refine j_sipush hX dX10_when_41 rfl ?_
        refine j_icmp_ge (tgt := 83) hX dX10_when_44 (by decide) (by omega) (by omega) (fun hc1 => ?_) (fun hc1 => ?_)
        · skip
          refine j_aload_n hX dX10_when_83 rfl 0 rfl ?_
          refine gf_X10_33 hX (by omega) (by omega) kc_0 (fc_0_3 hI) (by decide) dX10_when_84 ?_
          have h153 : Sc 153 := by unfold Sc; omega
          refine j_iload_n hX dX10_when_87 rfl 1 rfl ?_
          refine j_iload_n hX dX10_when_88 rfl 2 rfl ?_
          refine j_callVI hX lk_X10_208 (c_X8_doesKnow _ _ _ _ _ 153 _ _ _ (by omega) hI (by omega) (by omega) h153 (by first | assumption | omega)) (by omega) hce rfl rfl (by omega) (by omega) (sc_k0 h153) rfl rfl (Nat.le_of_ble_eq_true rfl) dX10_when_89 (fun z2 M3 hz5 hp4 => ?_)
          obtain ⟨rfl, hb6⟩ := hp4
          refine j_if_eq (tgt := 101) hX dX10_when_92 (by decide) (by omega) (fun hc7 => ?_) (fun hc7 => ?_)
          · skip
            refine j_iconst hX dX10_when_101 ?_
            exact hret _ _ _ _ dX10_when_102 rfl (by omega) ⟨hI, hF⟩
          · skip
            refine j_sipush hX dX10_when_95 rfl ?_
            refine j_goto (tgt := 102) hX dX10_when_98 (by decide) ?_
            exact hret _ _ _ _ dX10_when_102 rfl (by omega) ⟨hI, hF⟩
        · skip
          refine j_aload_n hX dX10_when_47 rfl 0 rfl ?_
          refine gf_X10_33 hX (by omega) (by omega) kc_0 (fc_0_3 hI) (by decide) dX10_when_48 ?_
          have h153 : Sc 153 := by unfold Sc; omega
          refine j_iload_n hX dX10_when_51 rfl 1 rfl ?_
          refine j_iload_n hX dX10_when_52 rfl 2 rfl ?_
          refine j_callVI hX lk_X10_208 (c_X8_doesKnow _ _ _ _ _ 153 _ _ _ (by omega) hI (by omega) (by omega) h153 (by first | assumption | omega)) (by omega) hce rfl rfl (by omega) (by omega) (sc_k0 h153) rfl rfl (Nat.le_of_ble_eq_true rfl) dX10_when_53 (fun z8 M9 hz11 hp10 => ?_)
          obtain ⟨rfl, hb12⟩ := hp10
          refine j_if_eq (tgt := 61) hX dX10_when_56 (by decide) (by omega) (fun hc13 => ?_) (fun hc13 => ?_)
          · skip
            refine j_aload_n hX dX10_when_61 rfl 0 rfl ?_
            refine gf_X10_26 hX (by omega) (by omega) kc_0 (fc_0_2 hI) (by decide) dX10_when_62 ?_
            refine j_aload_n hX dX10_when_65 rfl 0 rfl ?_
            refine gf_X10_62 hX (by omega) (by omega) kc_0 hk_0 (by omega) dX10_when_66 ?_
            refine j_aload_n hX dX10_when_69 rfl 0 rfl ?_
            refine gf_X10_33 hX (by omega) (by omega) kc_0 (fc_0_3 hI) (by decide) dX10_when_70 ?_
            have h153 : Sc 153 := by unfold Sc; omega
            refine j_callVI hX lk_X10_194 (c_X1_passHour _ _ _ _ _ q 153 _ _ (by omega) hI hq h153 hk_1 (by first | assumption | omega) (by first | assumption | omega)) (by omega) hce rfl rfl (by omega) (by omega) kc_151 rfl rfl (Nat.le_of_ble_eq_true rfl) dX10_when_73 (fun z14 M15 hz17 hp16 => ?_)
            obtain ⟨hI18, hG19, hq20⟩ := hp16
            have hk22 := kp_fr hG19 (by omega) hk_0
            have hk23 := kp_fr hG19 (by omega) hk_1
            have hF24 := Fr.trans hF hG19 (fun a b h => by omega)
            refine j_pop hX dX10_when_76 rfl ?_
            refine j_iinc (lv' := [(3, _), (0, _), (1, _), (2, _)]) hX dX10_when_77 3 rfl (by rw [hnL]; decide) rfl ?_
            refine j_goto (tgt := 40) hX dX10_when_80 (by decide) ?_
            refine j_sub [1, 2, 3, 0] rfl ?_
            exact ih _ _ (by omega) hI18 hF24 hk22 hk23 hq20 (by first | assumption | omega) (by omega) (by omega)
          · skip
            refine j_iload_n hX dX10_when_59 rfl 3 rfl ?_
            exact hret _ _ _ _ dX10_when_60 rfl (by omega) ⟨hI, hF⟩
  show J X B N 0 0 0 [(0, rv B 0), (1, iv a), (2, iv b)] [] M
  refine j_aload_n hX dX10_when_0 rfl 0 rfl ?_
  refine gf_X10_62 hX (by omega) (by omega) kc_0 ht (by omega) dX10_when_1 ?_
  refine j_iload_n hX dX10_when_4 rfl 1 rfl ?_
  refine j_callVI hX lk_X10_120 (c_X6_hasRoom _ _ _ _ _ q _ _ (by omega) hI (by omega) hq) (by omega) hce rfl rfl (by omega) (by omega) (kq hq) rfl rfl (Nat.le_of_ble_eq_true rfl) dX10_when_5 (fun z25 M26 hz28 hp27 => ?_)
  obtain ⟨rfl, hb29, hq30⟩ := hp27
  refine j_if_eq (tgt := 22) hX dX10_when_8 (by decide) (by omega) (fun hc31 => ?_) (fun hc31 => ?_)
  · skip
    clear hq30
    refine j_iconst hX dX10_when_22 ?_
    exact hret _ _ _ _ dX10_when_23 rfl (by omega) ⟨hI, hF⟩
  · skip
    have hi32 := hq30 (by omega)
    clear hq30
    refine j_aload_n hX dX10_when_11 rfl 0 rfl ?_
    refine gf_X10_62 hX (by omega) (by omega) kc_0 ht (by omega) dX10_when_12 ?_
    refine j_iload_n hX dX10_when_15 rfl 2 rfl ?_
    refine j_callVI hX lk_X10_153 (c_X6_hasFact _ _ _ _ _ q _ _ (by omega) hI (by omega) hq) (by omega) hce rfl rfl (by omega) (by omega) (kq hq) rfl rfl (Nat.le_of_ble_eq_true rfl) dX10_when_16 (fun z33 M34 hz36 hp35 => ?_)
    obtain ⟨rfl, hb37, hq38⟩ := hp35
    refine j_if_ne (tgt := 24) hX dX10_when_19 (by decide) (by omega) (fun hc39 => ?_) (fun hc39 => ?_)
    · skip
      have hi40 := hq38 (by omega)
      clear hq38
      refine j_aload_n hX dX10_when_24 rfl 0 rfl ?_
      refine gf_X10_33 hX (by omega) (by omega) kc_0 (fc_0_3 hI) (by decide) dX10_when_25 ?_
      have h153 : Sc 153 := by unfold Sc; omega
      refine j_aload_n hX dX10_when_28 rfl 0 rfl ?_
      refine gf_X10_19 hX (by omega) (by omega) kc_0 (fc_0_1 hI) (by decide) dX10_when_29 ?_
      refine j_callVR hX lk_X10_124 (c_X0_now _ _ _ _ _ _ (by omega) hI) (by omega) hce rfl rfl (by omega) (by omega) kc_26 rfl rfl (Nat.le_of_ble_eq_true rfl) dX10_when_32 (fun sw M41 hz43 hp42 => ?_)
      obtain ⟨rfl, hq44, hq45⟩ := hp42
      have hV46 : V nr sw M := by rw [hq45]; exact hVn
      have hsw : Sc sw := hq44
      have hbsw := sc_b hsw
      have hdsw : 28 ≤ sw ∧ sw ≤ 207 := by omega
      refine j_callVV hX lk_X10_204 (c_X8_copyFrom _ _ _ _ _ 153 sw _ _ (by omega) hI h153 hsw (by first | assumption | omega)) (by omega) hce rfl rfl (by omega) (by omega) (sc_k0 h153) rfl rfl (Nat.le_of_ble_eq_true rfl) dX10_when_35 (fun M48 hp49 => ?_)
      obtain ⟨hI51, hG52, hq53⟩ := hp49
      have hV54 := Vn_fr hVn hI hG52 (fun a b h => by omega)
      have hk56 := kp_fr hG52 (by omega) ht
      have hk57 := kp_fr hG52 (by omega) hnr
      have hF58 := Fr.trans hF hG52 (fun a b h => by omega)
      refine j_iconst hX dX10_when_38 ?_
      refine j_istore_n (lv' := [(3, _), (0, _), (1, _), (2, _)]) hX dX10_when_39 rfl (by rw [hnL]; decide) rfl ?_
      refine j_sub [1, 2, 3, 0] rfl ?_
      refine (cp (Int.toNat (7744 + 1))) _ _ (by omega) hI51 hF58 hk56 hk57 hq53 (by first | assumption | omega) ?_ ?_
      · omega
      · omega
    · skip
      clear hq38
      refine j_iconst hX dX10_when_22 ?_
      exact hret _ _ _ _ dX10_when_23 rfl (by omega) ⟨hI, hF⟩
set_option maxHeartbeats 2000000 in
set_option maxRecDepth 20000 in
theorem c_X10_will (l : Launch) (D : va_G) (cy : Nat → ClassId) (B N : Nat) (q : Int) (nr : Int) (a : Int) (b : Int) (M : MM) (hN : 210 ≤ N) (hI : Iv M) (hpa : I32 a) (hpb : I32 b) (hq : q = 5 ∨ q = 180) (ht : M.1 0 8 = q) (hnr : M.1 q 0 = nr) (hVn : Vn nr M) (hnb : 0 ≤ nr ∧ nr ≤ 6) : CI l D cy B N 6 yX10_will cX10_will 3 (some .int) [rv B 0, iv a, iv b] M (fun z M' => Iv M' ∧ Fr (fun a (_ : Int) => (152 ≤ a ∧ a ≤ 155)) M M') := by
  refine mk_CI (by decide) (Nat.le_of_ble_eq_true rfl) ?_
  intro X exl exD excy hnL hX hret
  have hce : 0 + 0 ≤ (xR X).cells ∧ 0 + 0 ≤ (xR X).slots := ⟨Nat.zero_le _, Nat.zero_le _⟩
  have hdq : 5 ≤ q ∧ q ≤ 180 := by omega
  have hF : Fr (fun a (_ : Int) => (152 ≤ a ∧ a ≤ 155)) M M := Fr.rf
  show J X B N 0 0 0 [(0, rv B 0), (1, iv a), (2, iv b)] [] M
  refine j_aload_n hX dX10_will_0 rfl 0 rfl ?_
  refine gf_X10_62 hX (by omega) (by omega) kc_0 ht (by omega) dX10_will_1 ?_
  refine j_iload_n hX dX10_will_4 rfl 1 rfl ?_
  refine j_callVI hX lk_X10_120 (c_X6_hasRoom _ _ _ _ _ q _ _ (by omega) hI (by omega) hq) (by omega) hce rfl rfl (by omega) (by omega) (kq hq) rfl rfl (Nat.le_of_ble_eq_true rfl) dX10_will_5 (fun z1 M2 hz4 hp3 => ?_)
  obtain ⟨rfl, hb5, hq6⟩ := hp3
  refine j_if_eq (tgt := 22) hX dX10_will_8 (by decide) (by omega) (fun hc7 => ?_) (fun hc7 => ?_)
  · skip
    clear hq6
    refine j_iconst hX dX10_will_22 ?_
    exact hret _ _ _ _ dX10_will_23 rfl (by omega) ⟨hI, hF⟩
  · skip
    have hi8 := hq6 (by omega)
    clear hq6
    refine j_iload_n hX dX10_will_11 rfl 2 rfl ?_
    refine j_if_lt (tgt := 22) hX dX10_will_12 (by decide) (by omega) (fun hc9 => ?_) (fun hc9 => ?_)
    · skip
      refine j_iconst hX dX10_will_22 ?_
      exact hret _ _ _ _ dX10_will_23 rfl (by omega) ⟨hI, hF⟩
    · skip
      refine j_iload_n hX dX10_will_15 rfl 2 rfl ?_
      refine j_sipush hX dX10_will_16 rfl ?_
      refine j_icmp_le (tgt := 24) hX dX10_will_19 (by decide) (by omega) (by omega) (fun hc10 => ?_) (fun hc10 => ?_)
      · skip
        refine j_aload_n hX dX10_will_24 rfl 0 rfl ?_
        refine j_iload_n hX dX10_will_25 rfl 2 rfl ?_
        refine j_callVV hX lk_X10_212 (c_X10_lookAhead _ _ _ _ _ _ _ _ _ (by omega) hI (by omega) (by assumption) ht hnr (by first | assumption | omega) (by first | assumption | omega)) (by omega) hce rfl rfl (by omega) (by omega) kc_0 rfl rfl (Nat.le_of_ble_eq_true rfl) dX10_will_26 (fun M12 hp13 => ?_)
        obtain ⟨hI15, hG16, hq17⟩ := hp13
        have hV18 := Vn_fr hVn hI hG16 (fun a b h => by omega)
        have hk19 := kp_fr hG16 (by omega) ht
        have hk20 := kp_fr hG16 (by omega) hnr
        have hF21 := Fr.trans hF hG16 (fun a b h => by omega)
        refine j_aload_n hX dX10_will_29 rfl 0 rfl ?_
        refine gf_X10_33 hX (by omega) (by omega) kc_0 (fc_0_3 hI15) (by decide) dX10_will_30 ?_
        have h153 : Sc 153 := by unfold Sc; omega
        refine gf_X10_138 hX (by omega) (by omega) (sc_k0 h153) (sc_f1 hI15 h153) (by omega) dX10_will_33 ?_
        refine j_iload_n hX dX10_will_36 rfl 1 rfl ?_
        refine j_iald hX (by omega) (by omega) (sc_k2 h153) (by omega) (by omega) (by omega) dX10_will_37 ?_
        refine j_name hI15 (sc_n h153 _) (fun v22 hv23 hl24 hh25 => ?_)
        exact hret _ _ _ _ dX10_will_38 rfl (by omega) ⟨hI15, hF21⟩
      · skip
        refine j_iconst hX dX10_will_22 ?_
        exact hret _ _ _ _ dX10_will_23 rfl (by omega) ⟨hI, hF⟩
set_option maxHeartbeats 2000000 in
set_option maxRecDepth 20000 in
theorem c_X10_deaf (l : Launch) (D : va_G) (cy : Nat → ClassId) (B N : Nat) (q : Int) (nr : Int) (a : Int) (M : MM) (hN : 210 ≤ N) (hI : Iv M) (hpa : I32 a) (hq : q = 5 ∨ q = 180) (ht : M.1 0 8 = q) (hnr : M.1 q 0 = nr) (hVn : Vn nr M) (hnb : 0 ≤ nr ∧ nr ≤ 6) : CI l D cy B N 6 yX10_deaf cX10_deaf 2 (some .int) [rv B 0, iv a] M (fun z M' => Iv M' ∧ Fr (fun a (_ : Int) => (152 ≤ a ∧ a ≤ 155)) M M') := by
  refine mk_CI (by decide) (Nat.le_of_ble_eq_true rfl) ?_
  intro X exl exD excy hnL hX hret
  have hce : 0 + 0 ≤ (xR X).cells ∧ 0 + 0 ≤ (xR X).slots := ⟨Nat.zero_le _, Nat.zero_le _⟩
  have hdq : 5 ≤ q ∧ q ≤ 180 := by omega
  have hF : Fr (fun a (_ : Int) => (152 ≤ a ∧ a ≤ 155)) M M := Fr.rf
  show J X B N 0 0 0 [(0, rv B 0), (1, iv a)] [] M
  refine j_aload_n hX dX10_deaf_0 rfl 0 rfl ?_
  refine gf_X10_62 hX (by omega) (by omega) kc_0 ht (by omega) dX10_deaf_1 ?_
  refine j_iload_n hX dX10_deaf_4 rfl 1 rfl ?_
  refine j_callVI hX lk_X10_153 (c_X6_hasFact _ _ _ _ _ q _ _ (by omega) hI (by omega) hq) (by omega) hce rfl rfl (by omega) (by omega) (kq hq) rfl rfl (Nat.le_of_ble_eq_true rfl) dX10_deaf_5 (fun z1 M2 hz4 hp3 => ?_)
  obtain ⟨rfl, hb5, hq6⟩ := hp3
  refine j_if_ne (tgt := 13) hX dX10_deaf_8 (by decide) (by omega) (fun hc7 => ?_) (fun hc7 => ?_)
  · skip
    have hi8 := hq6 (by omega)
    clear hq6
    refine j_aload_n hX dX10_deaf_13 rfl 0 rfl ?_
    refine j_sipush hX dX10_deaf_14 rfl ?_
    refine j_callVV hX lk_X10_212 (c_X10_lookAhead _ _ _ _ _ _ _ _ _ (by omega) hI (by omega) (by assumption) ht hnr (by first | assumption | omega) (by first | assumption | omega)) (by omega) hce rfl rfl (by omega) (by omega) kc_0 rfl rfl (Nat.le_of_ble_eq_true rfl) dX10_deaf_17 (fun M10 hp11 => ?_)
    obtain ⟨hI13, hG14, hq15⟩ := hp11
    have hV16 := Vn_fr hVn hI hG14 (fun a b h => by omega)
    have hk17 := kp_fr hG14 (by omega) ht
    have hk18 := kp_fr hG14 (by omega) hnr
    have hF19 := Fr.trans hF hG14 (fun a b h => by omega)
    refine j_aload_n hX dX10_deaf_20 rfl 0 rfl ?_
    refine gf_X10_62 hX (by omega) (by omega) kc_0 hk17 (by omega) dX10_deaf_21 ?_
    refine j_callVI hX lk_X10_220 (c_X6_allRooms _ _ _ _ _ q _ (by omega) hI13 hq) (by omega) hce rfl rfl (by omega) (by omega) (kq hq) rfl rfl (Nat.le_of_ble_eq_true rfl) dX10_deaf_24 (fun z20 M21 hz23 hp22 => ?_)
    obtain ⟨rfl, hq24⟩ := hp22
    refine j_aload_n hX dX10_deaf_27 rfl 0 rfl ?_
    refine gf_X10_33 hX (by omega) (by omega) kc_0 (fc_0_3 hI13) (by decide) dX10_deaf_28 ?_
    have h153 : Sc 153 := by unfold Sc; omega
    refine j_iload_n hX dX10_deaf_31 rfl 1 rfl ?_
    refine j_callVI hX lk_X10_165 (c_X8_knowersOf _ _ _ _ _ 153 _ _ (by omega) hI13 (by omega) h153) (by omega) hce rfl rfl (by omega) (by omega) (sc_k0 h153) rfl rfl (Nat.le_of_ble_eq_true rfl) dX10_deaf_32 (fun z25 M26 hz28 hp27 => ?_)
    subst hp27
    refine j_iconst hX dX10_deaf_35 ?_
    refine j_ixor hX dX10_deaf_36 (fun z29 hz30 hy31 => ?_)
    refine j_iand hX dX10_deaf_37 (fun z32 hz33 hy34 => ?_)
    exact hret _ _ _ _ dX10_deaf_38 rfl (by omega) ⟨hI13, hF19⟩
  · skip
    clear hq6
    refine j_iconst hX dX10_deaf_11 ?_
    exact hret _ _ _ _ dX10_deaf_12 rfl (by omega) ⟨hI, hF⟩
set_option maxHeartbeats 2000000 in
set_option maxRecDepth 20000 in
theorem c_X10_gossip (l : Launch) (D : va_G) (cy : Nat → ClassId) (B N : Nat) (q : Int) (nr : Int) (a : Int) (M : MM) (hN : 210 ≤ N) (hI : Iv M) (hpa : I32 a) (hq : q = 5 ∨ q = 180) (ht : M.1 0 8 = q) (hnr : M.1 q 0 = nr) (hVn : Vn nr M) (hnb : 0 ≤ nr ∧ nr ≤ 6) : CI l D cy B N 6 yX10_gossip cX10_gossip 2 (some .int) [rv B 0, iv a] M (fun z M' => Iv M' ∧ Fr (fun a (_ : Int) => (152 ≤ a ∧ a ≤ 155)) M M') := by
  refine mk_CI (by decide) (Nat.le_of_ble_eq_true rfl) ?_
  intro X exl exD excy hnL hX hret
  have hce : 0 + 0 ≤ (xR X).cells ∧ 0 + 0 ≤ (xR X).slots := ⟨Nat.zero_le _, Nat.zero_le _⟩
  have hdq : 5 ≤ q ∧ q ≤ 180 := by omega
  have hF : Fr (fun a (_ : Int) => (152 ≤ a ∧ a ≤ 155)) M M := Fr.rf
  show J X B N 0 0 0 [(0, rv B 0), (1, iv a)] [] M
  refine j_iload_n hX dX10_gossip_0 rfl 1 rfl ?_
  refine j_if_lt (tgt := 11) hX dX10_gossip_1 (by decide) (by omega) (fun hc1 => ?_) (fun hc1 => ?_)
  · skip
    refine j_iconst hX dX10_gossip_11 ?_
    exact hret _ _ _ _ dX10_gossip_12 rfl (by omega) ⟨hI, hF⟩
  · skip
    refine j_iload_n hX dX10_gossip_4 rfl 1 rfl ?_
    refine j_sipush hX dX10_gossip_5 rfl ?_
    refine j_icmp_le (tgt := 13) hX dX10_gossip_8 (by decide) (by omega) (by omega) (fun hc2 => ?_) (fun hc2 => ?_)
    · skip
      refine j_aload_n hX dX10_gossip_13 rfl 0 rfl ?_
      refine j_iload_n hX dX10_gossip_14 rfl 1 rfl ?_
      refine j_callVV hX lk_X10_212 (c_X10_lookAhead _ _ _ _ _ _ _ _ _ (by omega) hI (by omega) (by assumption) ht hnr (by first | assumption | omega) (by first | assumption | omega)) (by omega) hce rfl rfl (by omega) (by omega) kc_0 rfl rfl (Nat.le_of_ble_eq_true rfl) dX10_gossip_15 (fun M4 hp5 => ?_)
      obtain ⟨hI7, hG8, hq9⟩ := hp5
      have hV10 := Vn_fr hVn hI hG8 (fun a b h => by omega)
      have hk11 := kp_fr hG8 (by omega) ht
      have hk12 := kp_fr hG8 (by omega) hnr
      have hF13 := Fr.trans hF hG8 (fun a b h => by omega)
      refine j_aload_n hX dX10_gossip_18 rfl 0 rfl ?_
      refine gf_X10_33 hX (by omega) (by omega) kc_0 (fc_0_3 hI7) (by decide) dX10_gossip_19 ?_
      have h153 : Sc 153 := by unfold Sc; omega
      refine j_callVI hX lk_X10_224 (c_X8_knownInAll _ _ _ _ _ 153 _ (by omega) hI7 h153) (by omega) hce rfl rfl (by omega) (by omega) (sc_k0 h153) rfl rfl (Nat.le_of_ble_eq_true rfl) dX10_gossip_22 (fun z14 M15 hz17 hp16 => ?_)
      subst hp16
      refine j_aload_n hX dX10_gossip_25 rfl 0 rfl ?_
      refine gf_X10_19 hX (by omega) (by omega) kc_0 (fc_0_1 hI7) (by decide) dX10_gossip_26 ?_
      refine j_callVR hX lk_X10_124 (c_X0_now _ _ _ _ _ _ (by omega) hI7) (by omega) hce rfl rfl (by omega) (by omega) kc_26 rfl rfl (Nat.le_of_ble_eq_true rfl) dX10_gossip_29 (fun sv18 M19 hz21 hp20 => ?_)
      obtain ⟨rfl, hq22, hq23⟩ := hp20
      have hsv18 : Sc sv18 := hq22
      have hbsv18 := sc_b hsv18
      have hdsv18 : 28 ≤ sv18 ∧ sv18 ≤ 207 := by omega
      refine j_callVI hX lk_X10_224 (c_X8_knownInAll _ _ _ _ _ sv18 _ (by omega) hI7 hsv18) (by omega) hce rfl rfl (by omega) (by omega) (sc_k0 hsv18) rfl rfl (Nat.le_of_ble_eq_true rfl) dX10_gossip_32 (fun z24 M25 hz27 hp26 => ?_)
      subst hp26
      refine j_isub hX dX10_gossip_35 ?_
      refine j_norm (fun z28 hz29 hy30 => ?_)
      exact hret _ _ _ _ dX10_gossip_36 rfl (by omega) ⟨hI7, hF13⟩
    · skip
      refine j_iconst hX dX10_gossip_11 ?_
      exact hret _ _ _ _ dX10_gossip_12 rfl (by omega) ⟨hI, hF⟩
set_option maxHeartbeats 2000000 in
set_option maxRecDepth 20000 in
theorem c_X10_rentOf (l : Launch) (D : va_G) (cy : Nat → ClassId) (B N : Nat) (q : Int) (nr : Int) (a : Int) (M : MM) (hN : 210 ≤ N) (hI : Iv M) (hpa : I32 a) (hq : q = 5 ∨ q = 180) (ht : M.1 0 8 = q) (hnr : M.1 q 0 = nr) (hVn : Vn nr M) (hnb : 0 ≤ nr ∧ nr ≤ 6) (h1 : 0 ≤ a ∧ a < nr) : CI l D cy B N 3 yX10_rentOf cX10_rentOf 5 (some .int) [rv B 0, iv a] M (fun z M' => Iv M' ∧ Fr (fun a b => (a = q + 15 ∧ 5 ≤ b ∧ b ≤ 5) ∨ (q + 17 ≤ a ∧ a ≤ q + 18)) M M') := by
  refine mk_CI (by decide) (Nat.le_of_ble_eq_true rfl) ?_
  intro X exl exD excy hnL hX hret
  have hce : 0 + 0 ≤ (xR X).cells ∧ 0 + 0 ≤ (xR X).slots := ⟨Nat.zero_le _, Nat.zero_le _⟩
  have hdq : 5 ≤ q ∧ q ≤ 180 := by omega
  have hF : Fr (fun a b => (a = q + 15 ∧ 5 ≤ b ∧ b ≤ 5) ∨ (q + 17 ≤ a ∧ a ≤ q + 18)) M M := Fr.rf
  show J X B N 0 0 0 [(0, rv B 0), (1, iv a)] [] M
  refine j_aload_n hX dX10_rentOf_0 rfl 0 rfl ?_
  refine gf_X10_19 hX (by omega) (by omega) kc_0 (fc_0_1 hI) (by decide) dX10_rentOf_1 ?_
  refine j_callVR hX lk_X10_124 (c_X0_now _ _ _ _ _ _ (by omega) hI) (by omega) hce rfl rfl (by omega) (by omega) kc_26 rfl rfl (Nat.le_of_ble_eq_true rfl) dX10_rentOf_4 (fun sw M1 hz3 hp2 => ?_)
  obtain ⟨rfl, hq4, hq5⟩ := hp2
  have hV6 : V nr sw M := by rw [hq5]; exact hVn
  have hsw : Sc sw := hq4
  have hbsw := sc_b hsw
  have hdsw : 28 ≤ sw ∧ sw ≤ 207 := by omega
  refine j_astore_n (lv' := [(2, _), (0, _), (1, _)]) hX dX10_rentOf_7 rfl (by rw [hnL]; decide) rfl ?_
  refine j_aload_n hX dX10_rentOf_8 rfl 1 rfl ?_
  refine gf_X10_62 hX (by omega) (by omega) kc_0 ht (by omega) dX10_rentOf_9 ?_
  refine gf_X10_317 hX (by omega) (by omega) (kq hq) (fq_17 hI hq) (by omega) dX10_rentOf_12 ?_
  refine j_astore_n (lv' := [(3, _), (2, _), (0, _), (1, _)]) hX dX10_rentOf_15 rfl (by rw [hnL]; decide) rfl ?_
  refine j_aload_n hX dX10_rentOf_16 rfl 1 rfl ?_
  refine gf_X10_128 hX (by omega) (by omega) (sc_k0 hsw) (sc_f0 hI hsw) (by omega) dX10_rentOf_17 ?_
  refine j_iload_n hX dX10_rentOf_20 rfl 3 rfl ?_
  refine j_iald hX (by omega) (by omega) (sc_k1 hsw) (by omega) (by omega) (by omega) dX10_rentOf_21 ?_
  refine j_name hI (sc_w hsw _) (fun v7 hv8 hl9 hh10 => ?_)
  have hva11 := V_at hV6 hv8 (by omega) (by omega)
  refine j_istore (lv' := [(4, _), (3, _), (2, _), (0, _), (1, _)]) hX dX10_rentOf_22 (by rw [hnL]; decide) rfl ?_
  refine j_aload_n hX dX10_rentOf_24 rfl 1 rfl ?_
  refine j_sipush hX dX10_rentOf_25 rfl ?_
  refine j_aload_n hX dX10_rentOf_28 rfl 3 rfl ?_
  refine gf_X10_62 hX (by omega) (by omega) kc_0 ht (by omega) dX10_rentOf_29 ?_
  refine gf_X10_144 hX (by omega) (by omega) (kq hq) (fq_2 hI hq) (by omega) dX10_rentOf_32 ?_
  refine j_iload hX dX10_rentOf_35 0 rfl ?_
  refine j_iald hX (by omega) (by omega) (kq_2 hq) (by omega) (by omega) (by omega) dX10_rentOf_37 ?_
  refine j_name hI (aq_2 hq _) (fun v12 hv13 hl14 hh15 => ?_)
  refine j_callVV hX lk_X10_326 (c_X2_setUnit _ _ _ _ _ q _ _ _ (by omega) hI (by omega) (by omega) hq (by first | assumption | omega)) (by omega) hce rfl rfl (by omega) (by omega) (kq_15 hq) rfl rfl (Nat.le_of_ble_eq_true rfl) dX10_rentOf_38 (fun M17 hp18 => ?_)
  obtain ⟨hI20, hG21⟩ := hp18
  have hV22 := Vn_fr hVn hI hG21 (fun a b h => by omega)
  have hV23 := V_fr hV6 hG21 (fun b => by omega) (by omega)
  have hk24 := kp_fr hG21 (by omega) ht
  have hk25 := kp_fr hG21 (by omega) hnr
  have hF26 := Fr.trans hF hG21 (fun a b h => by omega)
  refine j_aload_n hX dX10_rentOf_41 rfl 1 rfl ?_
  refine j_sipush hX dX10_rentOf_42 rfl ?_
  refine j_aload_n hX dX10_rentOf_45 rfl 2 rfl ?_
  refine j_iload_n hX dX10_rentOf_46 rfl 4 rfl ?_
  refine j_callVI hX lk_X10_135 (c_X8_isDrawn _ _ _ _ _ sw _ _ (by omega) hI20 (by omega) hsw) (by omega) hce rfl rfl (by omega) (by omega) (sc_k0 hsw) rfl rfl (Nat.le_of_ble_eq_true rfl) dX10_rentOf_47 (fun z27 M28 hz30 hp29 => ?_)
  obtain ⟨rfl, hb31⟩ := hp29
  refine j_if_eq (tgt := 57) hX dX10_rentOf_50 (by decide) (by omega) (fun hc32 => ?_) (fun hc32 => ?_)
  · skip
    refine j_iconst hX dX10_rentOf_57 ?_
    refine j_callVV hX lk_X10_326 (c_X2_setUnit _ _ _ _ _ q _ _ _ (by omega) hI20 (by omega) (by omega) hq (by first | assumption | omega)) (by omega) hce rfl rfl (by omega) (by omega) (kq_15 hq) rfl rfl (Nat.le_of_ble_eq_true rfl) dX10_rentOf_58 (fun M34 hp35 => ?_)
    obtain ⟨hI37, hG38⟩ := hp35
    have hV39 := Vn_fr hV22 hI20 hG38 (fun a b h => by omega)
    have hV40 := V_fr hV23 hG38 (fun b => by omega) (by omega)
    have hk41 := kp_fr hG38 (by omega) hk24
    have hk42 := kp_fr hG38 (by omega) hk25
    clear hk24 hk25
    have hF43 := Fr.trans hF26 hG38 (fun a b h => by omega)
    refine j_aload_n hX dX10_rentOf_61 rfl 1 rfl ?_
    refine j_sipush hX dX10_rentOf_62 rfl ?_
    refine j_aload_n hX dX10_rentOf_65 rfl 2 rfl ?_
    refine gf_X10_138 hX (by omega) (by omega) (sc_k0 hsw) (sc_f1 hI37 hsw) (by omega) dX10_rentOf_66 ?_
    refine j_iload_n hX dX10_rentOf_69 rfl 4 rfl ?_
    refine j_iald hX (by omega) (by omega) (sc_k2 hsw) (by omega) (by omega) (by omega) dX10_rentOf_70 ?_
    refine j_name hI37 (sc_n hsw _) (fun v44 hv45 hl46 hh47 => ?_)
    refine j_callSI hX lk_X10_215 (c_J6_bitCount_0f7a4 _ _ _ _ _ _ _ (by omega)) (by omega) hce rfl rfl (Nat.le_of_ble_eq_true rfl) dX10_rentOf_71 (fun z48 M49 hz51 hp50 => ?_)
    subst hp50
    refine j_callVV hX lk_X10_326 (c_X2_setUnit _ _ _ _ _ q _ _ _ (by omega) hI37 (by omega) (by omega) hq (by first | assumption | omega)) (by omega) hce rfl rfl (by omega) (by omega) (kq_15 hq) rfl rfl (Nat.le_of_ble_eq_true rfl) dX10_rentOf_74 (fun M53 hp54 => ?_)
    obtain ⟨hI56, hG57⟩ := hp54
    have hV58 := Vn_fr hV39 hI37 hG57 (fun a b h => by omega)
    have hV59 := V_fr hV40 hG57 (fun b => by omega) (by omega)
    have hk60 := kp_fr hG57 (by omega) hk41
    have hk61 := kp_fr hG57 (by omega) hk42
    clear hk41 hk42
    have hF62 := Fr.trans hF43 hG57 (fun a b h => by omega)
    refine j_aload_n hX dX10_rentOf_77 rfl 1 rfl ?_
    refine j_sipush hX dX10_rentOf_78 rfl ?_
    refine j_aload_n hX dX10_rentOf_81 rfl 3 rfl ?_
    refine gf_X10_62 hX (by omega) (by omega) kc_0 hk60 (by omega) dX10_rentOf_82 ?_
    refine j_iload_n hX dX10_rentOf_85 rfl 4 rfl ?_
    refine j_iload hX dX10_rentOf_86 0 rfl ?_
    refine j_callVI hX lk_X10_168 (c_X6_wantOf _ _ _ _ _ q _ _ _ (by omega) hI56 (by omega) (by omega) hq (by first | assumption | omega)) (by omega) hce rfl rfl (by omega) (by omega) (kq hq) rfl rfl (Nat.le_of_ble_eq_true rfl) dX10_rentOf_88 (fun z63 M64 hz66 hp65 => ?_)
    obtain ⟨rfl, hq67⟩ := hp65
    refine j_callVV hX lk_X10_326 (c_X2_setUnit _ _ _ _ _ q _ _ _ (by omega) hI56 (by omega) (by omega) hq (by first | assumption | omega)) (by omega) hce rfl rfl (by omega) (by omega) (kq_15 hq) rfl rfl (Nat.le_of_ble_eq_true rfl) dX10_rentOf_91 (fun M69 hp70 => ?_)
    obtain ⟨hI72, hG73⟩ := hp70
    have hV74 := Vn_fr hV58 hI56 hG73 (fun a b h => by omega)
    have hV75 := V_fr hV59 hG73 (fun b => by omega) (by omega)
    have hk76 := kp_fr hG73 (by omega) hk60
    have hk77 := kp_fr hG73 (by omega) hk61
    clear hk60 hk61
    have hF78 := Fr.trans hF62 hG73 (fun a b h => by omega)
    refine j_aload_n hX dX10_rentOf_94 rfl 1 rfl ?_
    refine j_sipush hX dX10_rentOf_95 rfl ?_
    refine j_aload_n hX dX10_rentOf_98 rfl 2 rfl ?_
    refine gf_X10_191 hX (by omega) (by omega) (sc_k0 hsw) dX10_rentOf_99 ?_
    refine j_name hI72 (sc_r4 hsw) (fun v79 hv80 hl81 hh82 => ?_)
    have hk83 := hv80.symm
    refine j_callVV hX lk_X10_326 (c_X2_setUnit _ _ _ _ _ q _ _ _ (by omega) hI72 (by omega) (by omega) hq (by first | assumption | omega)) (by omega) hce rfl rfl (by omega) (by omega) (kq_15 hq) rfl rfl (Nat.le_of_ble_eq_true rfl) dX10_rentOf_102 (fun M85 hp86 => ?_)
    obtain ⟨hI88, hG89⟩ := hp86
    have hV90 := Vn_fr hV74 hI72 hG89 (fun a b h => by omega)
    have hV91 := V_fr hV75 hG89 (fun b => by omega) (by omega)
    have hk92 := kp_fr hG89 (by omega) hk76
    have hk93 := kp_fr hG89 (by omega) hk77
    have hk94 := kp_fr hG89 (by omega) hk83
    clear hk76 hk77 hk83
    have hF95 := Fr.trans hF78 hG89 (fun a b h => by omega)
    refine j_aload_n hX dX10_rentOf_105 rfl 1 rfl ?_
    refine j_sipush hX dX10_rentOf_106 rfl ?_
    refine j_iload hX dX10_rentOf_109 0 rfl ?_
    refine j_iload_n hX dX10_rentOf_111 rfl 4 rfl ?_
    refine j_icmp_ne (tgt := 119) hX dX10_rentOf_112 (by decide) (by omega) (by omega) (fun hc96 => ?_) (fun hc96 => ?_)
    · skip
      refine j_iconst hX dX10_rentOf_119 ?_
      refine j_callVV hX lk_X10_326 (c_X2_setUnit _ _ _ _ _ q _ _ _ (by omega) hI88 (by omega) (by omega) hq (by first | assumption | omega)) (by omega) hce rfl rfl (by omega) (by omega) (kq_15 hq) rfl rfl (Nat.le_of_ble_eq_true rfl) dX10_rentOf_120 (fun M98 hp99 => ?_)
      obtain ⟨hI101, hG102⟩ := hp99
      have hV103 := Vn_fr hV90 hI88 hG102 (fun a b h => by omega)
      have hV104 := V_fr hV91 hG102 (fun b => by omega) (by omega)
      have hk105 := kp_fr hG102 (by omega) hk92
      have hk106 := kp_fr hG102 (by omega) hk93
      have hk107 := kp_fr hG102 (by omega) hk94
      clear hk92 hk93 hk94
      have hF108 := Fr.trans hF95 hG102 (fun a b h => by omega)
      refine j_aload_n hX dX10_rentOf_123 rfl 1 rfl ?_
      refine j_callVI hX lk_X10_329 (c_X2_value _ _ _ _ _ q _ (by omega) hI101 hq) (by omega) hce rfl rfl (by omega) (by omega) (kq_15 hq) rfl rfl (Nat.le_of_ble_eq_true rfl) dX10_rentOf_124 (fun z109 M110 hz112 hp111 => ?_)
      obtain ⟨hI113, hG114⟩ := hp111
      have hV115 := Vn_fr hV103 hI101 hG114 (fun a b h => by omega)
      have hV116 := V_fr hV104 hG114 (fun b => by omega) (by omega)
      have hk117 := kp_fr hG114 (by omega) hk105
      have hk118 := kp_fr hG114 (by omega) hk106
      have hk119 := kp_fr hG114 (by omega) hk107
      clear hk105 hk106 hk107
      have hF120 := Fr.trans hF108 hG114 (fun a b h => by omega)
      exact hret _ _ _ _ dX10_rentOf_127 rfl (by omega) ⟨hI113, hF120⟩
    · skip
      refine j_iconst hX dX10_rentOf_115 ?_
      refine j_goto (tgt := 120) hX dX10_rentOf_116 (by decide) ?_
      refine j_callVV hX lk_X10_326 (c_X2_setUnit _ _ _ _ _ q _ _ _ (by omega) hI88 (by omega) (by omega) hq (by first | assumption | omega)) (by omega) hce rfl rfl (by omega) (by omega) (kq_15 hq) rfl rfl (Nat.le_of_ble_eq_true rfl) dX10_rentOf_120 (fun M122 hp123 => ?_)
      obtain ⟨hI125, hG126⟩ := hp123
      have hV127 := Vn_fr hV90 hI88 hG126 (fun a b h => by omega)
      have hV128 := V_fr hV91 hG126 (fun b => by omega) (by omega)
      have hk129 := kp_fr hG126 (by omega) hk92
      have hk130 := kp_fr hG126 (by omega) hk93
      have hk131 := kp_fr hG126 (by omega) hk94
      clear hk92 hk93 hk94
      have hF132 := Fr.trans hF95 hG126 (fun a b h => by omega)
      refine j_aload_n hX dX10_rentOf_123 rfl 1 rfl ?_
      refine j_callVI hX lk_X10_329 (c_X2_value _ _ _ _ _ q _ (by omega) hI125 hq) (by omega) hce rfl rfl (by omega) (by omega) (kq_15 hq) rfl rfl (Nat.le_of_ble_eq_true rfl) dX10_rentOf_124 (fun z133 M134 hz136 hp135 => ?_)
      obtain ⟨hI137, hG138⟩ := hp135
      have hV139 := Vn_fr hV127 hI125 hG138 (fun a b h => by omega)
      have hV140 := V_fr hV128 hG138 (fun b => by omega) (by omega)
      have hk141 := kp_fr hG138 (by omega) hk129
      have hk142 := kp_fr hG138 (by omega) hk130
      have hk143 := kp_fr hG138 (by omega) hk131
      clear hk129 hk130 hk131
      have hF144 := Fr.trans hF132 hG138 (fun a b h => by omega)
      exact hret _ _ _ _ dX10_rentOf_127 rfl (by omega) ⟨hI137, hF144⟩
  · skip
    refine j_iconst hX dX10_rentOf_53 ?_
    refine j_goto (tgt := 58) hX dX10_rentOf_54 (by decide) ?_
    refine j_callVV hX lk_X10_326 (c_X2_setUnit _ _ _ _ _ q _ _ _ (by omega) hI20 (by omega) (by omega) hq (by first | assumption | omega)) (by omega) hce rfl rfl (by omega) (by omega) (kq_15 hq) rfl rfl (Nat.le_of_ble_eq_true rfl) dX10_rentOf_58 (fun M146 hp147 => ?_)
    obtain ⟨hI149, hG150⟩ := hp147
    have hV151 := Vn_fr hV22 hI20 hG150 (fun a b h => by omega)
    have hV152 := V_fr hV23 hG150 (fun b => by omega) (by omega)
    have hk153 := kp_fr hG150 (by omega) hk24
    have hk154 := kp_fr hG150 (by omega) hk25
    clear hk24 hk25
    have hF155 := Fr.trans hF26 hG150 (fun a b h => by omega)
    refine j_aload_n hX dX10_rentOf_61 rfl 1 rfl ?_
    refine j_sipush hX dX10_rentOf_62 rfl ?_
    refine j_aload_n hX dX10_rentOf_65 rfl 2 rfl ?_
    refine gf_X10_138 hX (by omega) (by omega) (sc_k0 hsw) (sc_f1 hI149 hsw) (by omega) dX10_rentOf_66 ?_
    refine j_iload_n hX dX10_rentOf_69 rfl 4 rfl ?_
    refine j_iald hX (by omega) (by omega) (sc_k2 hsw) (by omega) (by omega) (by omega) dX10_rentOf_70 ?_
    refine j_name hI149 (sc_n hsw _) (fun v156 hv157 hl158 hh159 => ?_)
    refine j_callSI hX lk_X10_215 (c_J6_bitCount_0f7a4 _ _ _ _ _ _ _ (by omega)) (by omega) hce rfl rfl (Nat.le_of_ble_eq_true rfl) dX10_rentOf_71 (fun z160 M161 hz163 hp162 => ?_)
    subst hp162
    refine j_callVV hX lk_X10_326 (c_X2_setUnit _ _ _ _ _ q _ _ _ (by omega) hI149 (by omega) (by omega) hq (by first | assumption | omega)) (by omega) hce rfl rfl (by omega) (by omega) (kq_15 hq) rfl rfl (Nat.le_of_ble_eq_true rfl) dX10_rentOf_74 (fun M165 hp166 => ?_)
    obtain ⟨hI168, hG169⟩ := hp166
    have hV170 := Vn_fr hV151 hI149 hG169 (fun a b h => by omega)
    have hV171 := V_fr hV152 hG169 (fun b => by omega) (by omega)
    have hk172 := kp_fr hG169 (by omega) hk153
    have hk173 := kp_fr hG169 (by omega) hk154
    clear hk153 hk154
    have hF174 := Fr.trans hF155 hG169 (fun a b h => by omega)
    refine j_aload_n hX dX10_rentOf_77 rfl 1 rfl ?_
    refine j_sipush hX dX10_rentOf_78 rfl ?_
    refine j_aload_n hX dX10_rentOf_81 rfl 3 rfl ?_
    refine gf_X10_62 hX (by omega) (by omega) kc_0 hk172 (by omega) dX10_rentOf_82 ?_
    refine j_iload_n hX dX10_rentOf_85 rfl 4 rfl ?_
    refine j_iload hX dX10_rentOf_86 0 rfl ?_
    refine j_callVI hX lk_X10_168 (c_X6_wantOf _ _ _ _ _ q _ _ _ (by omega) hI168 (by omega) (by omega) hq (by first | assumption | omega)) (by omega) hce rfl rfl (by omega) (by omega) (kq hq) rfl rfl (Nat.le_of_ble_eq_true rfl) dX10_rentOf_88 (fun z175 M176 hz178 hp177 => ?_)
    obtain ⟨rfl, hq179⟩ := hp177
    refine j_callVV hX lk_X10_326 (c_X2_setUnit _ _ _ _ _ q _ _ _ (by omega) hI168 (by omega) (by omega) hq (by first | assumption | omega)) (by omega) hce rfl rfl (by omega) (by omega) (kq_15 hq) rfl rfl (Nat.le_of_ble_eq_true rfl) dX10_rentOf_91 (fun M181 hp182 => ?_)
    obtain ⟨hI184, hG185⟩ := hp182
    have hV186 := Vn_fr hV170 hI168 hG185 (fun a b h => by omega)
    have hV187 := V_fr hV171 hG185 (fun b => by omega) (by omega)
    have hk188 := kp_fr hG185 (by omega) hk172
    have hk189 := kp_fr hG185 (by omega) hk173
    clear hk172 hk173
    have hF190 := Fr.trans hF174 hG185 (fun a b h => by omega)
    refine j_aload_n hX dX10_rentOf_94 rfl 1 rfl ?_
    refine j_sipush hX dX10_rentOf_95 rfl ?_
    refine j_aload_n hX dX10_rentOf_98 rfl 2 rfl ?_
    refine gf_X10_191 hX (by omega) (by omega) (sc_k0 hsw) dX10_rentOf_99 ?_
    refine j_name hI184 (sc_r4 hsw) (fun v191 hv192 hl193 hh194 => ?_)
    have hk195 := hv192.symm
    refine j_callVV hX lk_X10_326 (c_X2_setUnit _ _ _ _ _ q _ _ _ (by omega) hI184 (by omega) (by omega) hq (by first | assumption | omega)) (by omega) hce rfl rfl (by omega) (by omega) (kq_15 hq) rfl rfl (Nat.le_of_ble_eq_true rfl) dX10_rentOf_102 (fun M197 hp198 => ?_)
    obtain ⟨hI200, hG201⟩ := hp198
    have hV202 := Vn_fr hV186 hI184 hG201 (fun a b h => by omega)
    have hV203 := V_fr hV187 hG201 (fun b => by omega) (by omega)
    have hk204 := kp_fr hG201 (by omega) hk188
    have hk205 := kp_fr hG201 (by omega) hk189
    have hk206 := kp_fr hG201 (by omega) hk195
    clear hk188 hk189 hk195
    have hF207 := Fr.trans hF190 hG201 (fun a b h => by omega)
    refine j_aload_n hX dX10_rentOf_105 rfl 1 rfl ?_
    refine j_sipush hX dX10_rentOf_106 rfl ?_
    refine j_iload hX dX10_rentOf_109 0 rfl ?_
    refine j_iload_n hX dX10_rentOf_111 rfl 4 rfl ?_
    refine j_icmp_ne (tgt := 119) hX dX10_rentOf_112 (by decide) (by omega) (by omega) (fun hc208 => ?_) (fun hc208 => ?_)
    · skip
      refine j_iconst hX dX10_rentOf_119 ?_
      refine j_callVV hX lk_X10_326 (c_X2_setUnit _ _ _ _ _ q _ _ _ (by omega) hI200 (by omega) (by omega) hq (by first | assumption | omega)) (by omega) hce rfl rfl (by omega) (by omega) (kq_15 hq) rfl rfl (Nat.le_of_ble_eq_true rfl) dX10_rentOf_120 (fun M210 hp211 => ?_)
      obtain ⟨hI213, hG214⟩ := hp211
      have hV215 := Vn_fr hV202 hI200 hG214 (fun a b h => by omega)
      have hV216 := V_fr hV203 hG214 (fun b => by omega) (by omega)
      have hk217 := kp_fr hG214 (by omega) hk204
      have hk218 := kp_fr hG214 (by omega) hk205
      have hk219 := kp_fr hG214 (by omega) hk206
      clear hk204 hk205 hk206
      have hF220 := Fr.trans hF207 hG214 (fun a b h => by omega)
      refine j_aload_n hX dX10_rentOf_123 rfl 1 rfl ?_
      refine j_callVI hX lk_X10_329 (c_X2_value _ _ _ _ _ q _ (by omega) hI213 hq) (by omega) hce rfl rfl (by omega) (by omega) (kq_15 hq) rfl rfl (Nat.le_of_ble_eq_true rfl) dX10_rentOf_124 (fun z221 M222 hz224 hp223 => ?_)
      obtain ⟨hI225, hG226⟩ := hp223
      have hV227 := Vn_fr hV215 hI213 hG226 (fun a b h => by omega)
      have hV228 := V_fr hV216 hG226 (fun b => by omega) (by omega)
      have hk229 := kp_fr hG226 (by omega) hk217
      have hk230 := kp_fr hG226 (by omega) hk218
      have hk231 := kp_fr hG226 (by omega) hk219
      clear hk217 hk218 hk219
      have hF232 := Fr.trans hF220 hG226 (fun a b h => by omega)
      exact hret _ _ _ _ dX10_rentOf_127 rfl (by omega) ⟨hI225, hF232⟩
    · skip
      refine j_iconst hX dX10_rentOf_115 ?_
      refine j_goto (tgt := 120) hX dX10_rentOf_116 (by decide) ?_
      refine j_callVV hX lk_X10_326 (c_X2_setUnit _ _ _ _ _ q _ _ _ (by omega) hI200 (by omega) (by omega) hq (by first | assumption | omega)) (by omega) hce rfl rfl (by omega) (by omega) (kq_15 hq) rfl rfl (Nat.le_of_ble_eq_true rfl) dX10_rentOf_120 (fun M234 hp235 => ?_)
      obtain ⟨hI237, hG238⟩ := hp235
      have hV239 := Vn_fr hV202 hI200 hG238 (fun a b h => by omega)
      have hV240 := V_fr hV203 hG238 (fun b => by omega) (by omega)
      have hk241 := kp_fr hG238 (by omega) hk204
      have hk242 := kp_fr hG238 (by omega) hk205
      have hk243 := kp_fr hG238 (by omega) hk206
      clear hk204 hk205 hk206
      have hF244 := Fr.trans hF207 hG238 (fun a b h => by omega)
      refine j_aload_n hX dX10_rentOf_123 rfl 1 rfl ?_
      refine j_callVI hX lk_X10_329 (c_X2_value _ _ _ _ _ q _ (by omega) hI237 hq) (by omega) hce rfl rfl (by omega) (by omega) (kq_15 hq) rfl rfl (Nat.le_of_ble_eq_true rfl) dX10_rentOf_124 (fun z245 M246 hz248 hp247 => ?_)
      obtain ⟨hI249, hG250⟩ := hp247
      have hV251 := Vn_fr hV239 hI237 hG250 (fun a b h => by omega)
      have hV252 := V_fr hV240 hG250 (fun b => by omega) (by omega)
      have hk253 := kp_fr hG250 (by omega) hk241
      have hk254 := kp_fr hG250 (by omega) hk242
      have hk255 := kp_fr hG250 (by omega) hk243
      clear hk241 hk242 hk243
      have hF256 := Fr.trans hF244 hG250 (fun a b h => by omega)
      exact hret _ _ _ _ dX10_rentOf_127 rfl (by omega) ⟨hI249, hF256⟩
set_option maxHeartbeats 2000000 in
set_option maxRecDepth 20000 in
theorem c_X10_rents (l : Launch) (D : va_G) (cy : Nat → ClassId) (B N : Nat) (q : Int) (nr : Int) (M : MM) (hN : 210 ≤ N) (hI : Iv M) (hq : q = 5 ∨ q = 180) (ht : M.1 0 8 = q) (hnr : M.1 q 0 = nr) (hVn : Vn nr M) (hnb : 0 ≤ nr ∧ nr ≤ 6) : CI l D cy B N 4 yX10_rents cX10_rents 3 (some .int) [rv B 0] M (fun z M' => Iv M' ∧ Fr (fun a b => (a = q + 15 ∧ 5 ≤ b ∧ b ≤ 5) ∨ (q + 17 ≤ a ∧ a ≤ q + 18)) M M') := by
  refine mk_CI (by decide) (Nat.le_of_ble_eq_true rfl) ?_
  intro X exl exD excy hnL hX hret
  have hce : 0 + 0 ≤ (xR X).cells ∧ 0 + 0 ≤ (xR X).slots := ⟨Nat.zero_le _, Nat.zero_le _⟩
  have hdq : 5 ≤ q ∧ q ≤ 180 := by omega
  have hF : Fr (fun a b => (a = q + 15 ∧ 5 ≤ b ∧ b ≤ 5) ∨ (q + 17 ≤ a ∧ a ≤ q + 18)) M M := Fr.rf
  have cp : ∀ n : Nat, (∀ (x1 x2 : Int), ∀ (Mc : MM), I32 x1 → I32 x2 → Iv Mc → Fr (fun a b => (a = q + 15 ∧ 5 ≤ b ∧ b ≤ 5) ∨ (q + 17 ≤ a ∧ a ≤ q + 18)) M Mc → Mc.1 0 8 = q → Mc.1 q 0 = nr → Vn nr Mc → (0 ≤ x2 ∧ x2 ≤ 6) → 0 ≤ 32 * (6 - x2) + 1 → 32 * (6 - x2) + 1 < (n : Int) → J X B N 0 0 4 [(0, rv B 0), (1, iv x1), (2, iv x2)] [] Mc) := by
    intro n
    induction n with
    | zero => exact by intros; exfalso; omega
    | succ n ih =>
      · intro x1 x2 Mc hxx1 hxx2 hI hF hk_0 hk_1 hV_0 h2 hm0 hm1
        refine j_iload_n hX dX10_rents_4 rfl 2 rfl ?_
        refine j_aload_n hX dX10_rents_5 rfl 0 rfl ?_
        refine gf_X10_62 hX (by omega) (by omega) kc_0 hk_0 (by omega) dX10_rents_6 ?_
        refine gf_X10_111 hX (by omega) (by omega) (kq hq) dX10_rents_9 ?_
        refine j_top hk_1 ?_
        refine j_icmp_ge (tgt := 29) hX dX10_rents_12 (by decide) (by omega) (by omega) (fun hc1 => ?_) (fun hc1 => ?_)
        · skip
          refine j_iload_n hX dX10_rents_29 rfl 1 rfl ?_
          exact hret _ _ _ _ dX10_rents_30 rfl (by omega) ⟨hI, hF⟩
        · skip
          refine j_iload_n hX dX10_rents_15 rfl 1 rfl ?_
          refine j_aload_n hX dX10_rents_16 rfl 0 rfl ?_
          refine j_iload_n hX dX10_rents_17 rfl 2 rfl ?_
          refine j_callVI hX lk_X10_141 (c_X10_rentOf _ _ _ _ _ _ _ _ _ (by omega) hI (by omega) (by assumption) hk_0 hk_1 (by first | assumption | omega) (by first | assumption | omega) (by first | assumption | omega)) (by omega) hce rfl rfl (by omega) (by omega) kc_0 rfl rfl (Nat.le_of_ble_eq_true rfl) dX10_rents_18 (fun z2 M3 hz5 hp4 => ?_)
          obtain ⟨hI6, hG7⟩ := hp4
          have hV8 := Vn_fr hV_0 hI hG7 (fun a b h => by omega)
          have hk9 := kp_fr hG7 (by omega) hk_0
          have hk10 := kp_fr hG7 (by omega) hk_1
          have hF11 := Fr.trans hF hG7 (fun a b h => by omega)
          refine j_iadd hX dX10_rents_21 ?_
          refine j_norm (fun z12 hz13 hy14 => ?_)
          refine j_istore_n (lv' := [(1, _), (0, _), (2, _)]) hX dX10_rents_22 rfl (by rw [hnL]; decide) rfl ?_
          refine j_iinc (lv' := [(2, _), (1, _), (0, _)]) hX dX10_rents_23 2 rfl (by rw [hnL]; decide) rfl ?_
          refine j_goto (tgt := 4) hX dX10_rents_26 (by decide) ?_
          refine j_sub [2, 1, 0] rfl ?_
          exact ih _ _ _ (by omega) (by omega) hI6 hF11 hk9 hk10 hV8 (by first | assumption | omega) (by omega) (by omega)
  show J X B N 0 0 0 [(0, rv B 0)] [] M
  refine j_iconst hX dX10_rents_0 ?_
  refine j_istore_n (lv' := [(1, _), (0, _)]) hX dX10_rents_1 rfl (by rw [hnL]; decide) rfl ?_
  refine j_iconst hX dX10_rents_2 ?_
  refine j_istore_n (lv' := [(2, _), (1, _), (0, _)]) hX dX10_rents_3 rfl (by rw [hnL]; decide) rfl ?_
  refine j_sub [2, 1, 0] rfl ?_
  refine (cp (Int.toNat (256 + 1))) _ _ _ (by omega) (by omega) hI hF ht hnr hVn (by first | assumption | omega) ?_ ?_
  · omega
  · omega
