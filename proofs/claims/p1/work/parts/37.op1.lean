theorem dX10_feed_0 : decode cX10_feed 0 = .ok (.aload_n 0, 1) := by decide +kernel
theorem dX10_feed_1 : decode cX10_feed 1 = .ok (.getfield 10, 3) := by decide +kernel
theorem dX10_feed_4 : decode cX10_feed 4 = .ok (.getfield 80, 3) := by decide +kernel
theorem dX10_feed_7 : decode cX10_feed 7 = .ok (.astore 6, 2) := by decide +kernel
theorem dX10_feed_9 : decode cX10_feed 9 = .ok (.aload 6, 2) := by decide +kernel
theorem dX10_feed_11 : decode cX10_feed 11 = .ok (.bipush 20, 2) := by decide +kernel
theorem dX10_feed_13 : decode cX10_feed 13 = .ok (.invokevirtual 84, 3) := by decide +kernel
theorem dX10_feed_16 : decode cX10_feed 16 = .ok (.ifCond .ne 5, 3) := by decide +kernel
theorem dX10_feed_19 : decode cX10_feed 19 = .ok (.iconst (-1), 1) := by decide +kernel
theorem dX10_feed_20 : decode cX10_feed 20 = .ok (.ireturn, 1) := by decide +kernel
theorem dX10_feed_21 : decode cX10_feed 21 = .ok (.aload 6, 2) := by decide +kernel
theorem dX10_feed_23 : decode cX10_feed 23 = .ok (.iload_n 1, 1) := by decide +kernel
theorem dX10_feed_24 : decode cX10_feed 24 = .ok (.invokevirtual 90, 3) := by decide +kernel
theorem dX10_feed_27 : decode cX10_feed 27 = .ok (.aload 6, 2) := by decide +kernel
theorem dX10_feed_29 : decode cX10_feed 29 = .ok (.iload_n 2, 1) := by decide +kernel
theorem dX10_feed_30 : decode cX10_feed 30 = .ok (.invokevirtual 90, 3) := by decide +kernel
theorem dX10_feed_33 : decode cX10_feed 33 = .ok (.aload 6, 2) := by decide +kernel
theorem dX10_feed_35 : decode cX10_feed 35 = .ok (.iload_n 3, 1) := by decide +kernel
theorem dX10_feed_36 : decode cX10_feed 36 = .ok (.invokevirtual 90, 3) := by decide +kernel
theorem dX10_feed_39 : decode cX10_feed 39 = .ok (.aload 6, 2) := by decide +kernel
theorem dX10_feed_41 : decode cX10_feed 41 = .ok (.iload 4, 2) := by decide +kernel
theorem dX10_feed_43 : decode cX10_feed 43 = .ok (.invokevirtual 90, 3) := by decide +kernel
theorem dX10_feed_46 : decode cX10_feed 46 = .ok (.aload 6, 2) := by decide +kernel
theorem dX10_feed_48 : decode cX10_feed 48 = .ok (.iload 5, 2) := by decide +kernel
theorem dX10_feed_50 : decode cX10_feed 50 = .ok (.invokevirtual 90, 3) := by decide +kernel
theorem dX10_feed_53 : decode cX10_feed 53 = .ok (.aload 6, 2) := by decide +kernel
theorem dX10_feed_55 : decode cX10_feed 55 = .ok (.getfield 94, 3) := by decide +kernel
theorem dX10_feed_58 : decode cX10_feed 58 = .ok (.ireturn, 1) := by decide +kernel
theorem dX10_end_0 : decode cX10_end 0 = .ok (.iload_n 1, 1) := by decide +kernel
theorem dX10_end_1 : decode cX10_end 1 = .ok (.ifCond .lt 17, 3) := by decide +kernel
theorem dX10_end_4 : decode cX10_end 4 = .ok (.iload_n 1, 1) := by decide +kernel
theorem dX10_end_5 : decode cX10_end 5 = .ok (.aload_n 0, 1) := by decide +kernel
theorem dX10_end_6 : decode cX10_end 6 = .ok (.getfield 10, 3) := by decide +kernel
theorem dX10_end_9 : decode cX10_end 9 = .ok (.getfield 80, 3) := by decide +kernel
theorem dX10_end_12 : decode cX10_end 12 = .ok (.getfield 94, 3) := by decide +kernel
theorem dX10_end_15 : decode cX10_end 15 = .ok (.if_icmp .le 5, 3) := by decide +kernel
theorem dX10_end_18 : decode cX10_end 18 = .ok (.iconst (-1), 1) := by decide +kernel
theorem dX10_end_19 : decode cX10_end 19 = .ok (.ireturn, 1) := by decide +kernel
theorem dX10_end_20 : decode cX10_end 20 = .ok (.aload_n 0, 1) := by decide +kernel
theorem dX10_end_21 : decode cX10_end 21 = .ok (.getfield 10, 3) := by decide +kernel
theorem dX10_end_24 : decode cX10_end 24 = .ok (.getfield 80, 3) := by decide +kernel
theorem dX10_end_27 : decode cX10_end 27 = .ok (.iload_n 1, 1) := by decide +kernel
theorem dX10_end_28 : decode cX10_end 28 = .ok (.putfield 94, 3) := by decide +kernel
theorem dX10_end_31 : decode cX10_end 31 = .ok (.iload_n 1, 1) := by decide +kernel
theorem dX10_end_32 : decode cX10_end 32 = .ok (.ireturn, 1) := by decide +kernel
theorem dX10_fault_0 : decode cX10_fault 0 = .ok (.iload_n 1, 1) := by decide +kernel
theorem dX10_fault_1 : decode cX10_fault 1 = .ok (.lookupswitch 43 #[(0, 27), (1, 35)], 27) := by decide +kernel
theorem dX10_fault_28 : decode cX10_fault 28 = .ok (.aload_n 0, 1) := by decide +kernel
theorem dX10_fault_29 : decode cX10_fault 29 = .ok (.getfield 10, 3) := by decide +kernel
theorem dX10_fault_32 : decode cX10_fault 32 = .ok (.getfield 114, 3) := by decide +kernel
theorem dX10_fault_35 : decode cX10_fault 35 = .ok (.ireturn, 1) := by decide +kernel
theorem dX10_fault_36 : decode cX10_fault 36 = .ok (.aload_n 0, 1) := by decide +kernel
theorem dX10_fault_37 : decode cX10_fault 37 = .ok (.getfield 10, 3) := by decide +kernel
theorem dX10_fault_40 : decode cX10_fault 40 = .ok (.getfield 117, 3) := by decide +kernel
theorem dX10_fault_43 : decode cX10_fault 43 = .ok (.ireturn, 1) := by decide +kernel
theorem dX10_fault_44 : decode cX10_fault 44 = .ok (.iconst (-1), 1) := by decide +kernel
theorem dX10_fault_45 : decode cX10_fault 45 = .ok (.ireturn, 1) := by decide +kernel
theorem dX10_wants_0 : decode cX10_wants 0 = .ok (.aload_n 0, 1) := by decide +kernel
theorem dX10_wants_1 : decode cX10_wants 1 = .ok (.getfield 62, 3) := by decide +kernel
theorem dX10_wants_4 : decode cX10_wants 4 = .ok (.iload_n 1, 1) := by decide +kernel
theorem dX10_wants_5 : decode cX10_wants 5 = .ok (.invokevirtual 120, 3) := by decide +kernel
theorem dX10_wants_8 : decode cX10_wants 8 = .ok (.ifCond .eq 14, 3) := by decide +kernel
theorem dX10_wants_11 : decode cX10_wants 11 = .ok (.aload_n 0, 1) := by decide +kernel
theorem dX10_wants_12 : decode cX10_wants 12 = .ok (.getfield 62, 3) := by decide +kernel
theorem dX10_wants_15 : decode cX10_wants 15 = .ok (.iload_n 2, 1) := by decide +kernel
theorem dX10_wants_16 : decode cX10_wants 16 = .ok (.invokevirtual 120, 3) := by decide +kernel
theorem dX10_wants_19 : decode cX10_wants 19 = .ok (.ifCond .ne 5, 3) := by decide +kernel
theorem dX10_wants_22 : decode cX10_wants 22 = .ok (.iconst (-1), 1) := by decide +kernel
theorem dX10_wants_23 : decode cX10_wants 23 = .ok (.ireturn, 1) := by decide +kernel
theorem dX10_wants_24 : decode cX10_wants 24 = .ok (.aload_n 0, 1) := by decide +kernel
theorem dX10_wants_25 : decode cX10_wants 25 = .ok (.getfield 62, 3) := by decide +kernel
theorem dX10_wants_28 : decode cX10_wants 28 = .ok (.iload_n 1, 1) := by decide +kernel
theorem dX10_wants_29 : decode cX10_wants 29 = .ok (.iload_n 2, 1) := by decide +kernel
theorem dX10_wants_30 : decode cX10_wants 30 = .ok (.invokevirtual 168, 3) := by decide +kernel
theorem dX10_wants_33 : decode cX10_wants 33 = .ok (.ireturn, 1) := by decide +kernel
theorem dX10_dark_0 : decode cX10_dark 0 = .ok (.iload_n 1, 1) := by decide +kernel
theorem dX10_dark_1 : decode cX10_dark 1 = .ok (.ifCond .lt 9, 3) := by decide +kernel
theorem dX10_dark_4 : decode cX10_dark 4 = .ok (.iload_n 1, 1) := by decide +kernel
theorem dX10_dark_5 : decode cX10_dark 5 = .ok (.bipush 24, 2) := by decide +kernel
theorem dX10_dark_7 : decode cX10_dark 7 = .ok (.if_icmp .lt 5, 3) := by decide +kernel
theorem dX10_dark_10 : decode cX10_dark 10 = .ok (.iconst (-1), 1) := by decide +kernel
theorem dX10_dark_11 : decode cX10_dark 11 = .ok (.ireturn, 1) := by decide +kernel
theorem dX10_dark_12 : decode cX10_dark 12 = .ok (.aload_n 0, 1) := by decide +kernel
theorem dX10_dark_13 : decode cX10_dark 13 = .ok (.getfield 62, 3) := by decide +kernel
theorem dX10_dark_16 : decode cX10_dark 16 = .ok (.iload_n 1, 1) := by decide +kernel
theorem dX10_dark_17 : decode cX10_dark 17 = .ok (.invokevirtual 172, 3) := by decide +kernel
theorem dX10_dark_20 : decode cX10_dark 20 = .ok (.ifCond .eq 7, 3) := by decide +kernel
theorem dX10_dark_23 : decode cX10_dark 23 = .ok (.iconst 1, 1) := by decide +kernel
theorem dX10_dark_24 : decode cX10_dark 24 = .ok (.goto 4, 3) := by decide +kernel
theorem dX10_dark_27 : decode cX10_dark 27 = .ok (.iconst 0, 1) := by decide +kernel
theorem dX10_dark_28 : decode cX10_dark 28 = .ok (.ireturn, 1) := by decide +kernel
theorem dX10_lies_0 : decode cX10_lies 0 = .ok (.iload_n 1, 1) := by decide +kernel
theorem dX10_lies_1 : decode cX10_lies 1 = .ok (.ifCond .lt 20, 3) := by decide +kernel
theorem dX10_lies_4 : decode cX10_lies 4 = .ok (.iload_n 1, 1) := by decide +kernel
theorem dX10_lies_5 : decode cX10_lies 5 = .ok (.aload_n 0, 1) := by decide +kernel
theorem dX10_lies_6 : decode cX10_lies 6 = .ok (.getfield 70, 3) := by decide +kernel
theorem dX10_lies_9 : decode cX10_lies 9 = .ok (.if_icmp .ge 12, 3) := by decide +kernel
theorem dX10_lies_12 : decode cX10_lies 12 = .ok (.aload_n 0, 1) := by decide +kernel
theorem dX10_lies_13 : decode cX10_lies 13 = .ok (.getfield 55, 3) := by decide +kernel
theorem dX10_lies_16 : decode cX10_lies 16 = .ok (.iload_n 1, 1) := by decide +kernel
theorem dX10_lies_17 : decode cX10_lies 17 = .ok (.iaload, 1) := by decide +kernel
theorem dX10_lies_18 : decode cX10_lies 18 = .ok (.goto 4, 3) := by decide +kernel
theorem dX10_lies_21 : decode cX10_lies 21 = .ok (.iconst (-1), 1) := by decide +kernel
theorem dX10_lies_22 : decode cX10_lies 22 = .ok (.ireturn, 1) := by decide +kernel
theorem dX10_later_0 : decode cX10_later 0 = .ok (.iload_n 1, 1) := by decide +kernel
theorem dX10_later_1 : decode cX10_later 1 = .ok (.ifCond .lt 22, 3) := by decide +kernel
theorem dX10_later_4 : decode cX10_later 4 = .ok (.iload_n 1, 1) := by decide +kernel
theorem dX10_later_5 : decode cX10_later 5 = .ok (.sipush 1000, 3) := by decide +kernel
theorem dX10_later_8 : decode cX10_later 8 = .ok (.if_icmp .gt 15, 3) := by decide +kernel
theorem dX10_later_11 : decode cX10_later 11 = .ok (.aload_n 0, 1) := by decide +kernel
theorem dX10_later_12 : decode cX10_later 12 = .ok (.getfield 73, 3) := by decide +kernel
theorem dX10_later_15 : decode cX10_later 15 = .ok (.iload_n 1, 1) := by decide +kernel
theorem dX10_later_16 : decode cX10_later 16 = .ok (.iadd, 1) := by decide +kernel
theorem dX10_later_17 : decode cX10_later 17 = .ok (.ldc_w 280, 3) := by decide +kernel
theorem dX10_later_20 : decode cX10_later 20 = .ok (.if_icmp .le 5, 3) := by decide +kernel
theorem dX10_later_23 : decode cX10_later 23 = .ok (.iconst (-1), 1) := by decide +kernel
theorem dX10_later_24 : decode cX10_later 24 = .ok (.ireturn, 1) := by decide +kernel
theorem dX10_later_25 : decode cX10_later 25 = .ok (.aload_n 0, 1) := by decide +kernel
theorem dX10_later_26 : decode cX10_later 26 = .ok (.dup, 1) := by decide +kernel
theorem dX10_later_27 : decode cX10_later 27 = .ok (.getfield 73, 3) := by decide +kernel
theorem dX10_later_30 : decode cX10_later 30 = .ok (.iload_n 1, 1) := by decide +kernel
theorem dX10_later_31 : decode cX10_later 31 = .ok (.iadd, 1) := by decide +kernel
theorem dX10_later_32 : decode cX10_later 32 = .ok (.putfield 73, 3) := by decide +kernel
theorem dX10_later_35 : decode cX10_later 35 = .ok (.aload_n 0, 1) := by decide +kernel
theorem dX10_later_36 : decode cX10_later 36 = .ok (.getfield 73, 3) := by decide +kernel
theorem dX10_later_39 : decode cX10_later 39 = .ok (.ireturn, 1) := by decide +kernel
theorem dX10_glimpse_0 : decode cX10_glimpse 0 = .ok (.aload_n 0, 1) := by decide +kernel
theorem dX10_glimpse_1 : decode cX10_glimpse 1 = .ok (.getfield 62, 3) := by decide +kernel
theorem dX10_glimpse_4 : decode cX10_glimpse 4 = .ok (.iload_n 1, 1) := by decide +kernel
theorem dX10_glimpse_5 : decode cX10_glimpse 5 = .ok (.invokevirtual 120, 3) := by decide +kernel
theorem dX10_glimpse_8 : decode cX10_glimpse 8 = .ok (.ifCond .eq 14, 3) := by decide +kernel
theorem dX10_glimpse_11 : decode cX10_glimpse 11 = .ok (.aload_n 0, 1) := by decide +kernel
theorem dX10_glimpse_12 : decode cX10_glimpse 12 = .ok (.getfield 62, 3) := by decide +kernel
theorem dX10_glimpse_15 : decode cX10_glimpse 15 = .ok (.iload_n 2, 1) := by decide +kernel
theorem dX10_glimpse_16 : decode cX10_glimpse 16 = .ok (.invokevirtual 120, 3) := by decide +kernel
theorem dX10_glimpse_19 : decode cX10_glimpse 19 = .ok (.ifCond .ne 5, 3) := by decide +kernel
theorem dX10_glimpse_22 : decode cX10_glimpse 22 = .ok (.iconst (-1), 1) := by decide +kernel
theorem dX10_glimpse_23 : decode cX10_glimpse 23 = .ok (.ireturn, 1) := by decide +kernel
theorem dX10_glimpse_24 : decode cX10_glimpse 24 = .ok (.aload_n 0, 1) := by decide +kernel
theorem dX10_glimpse_25 : decode cX10_glimpse 25 = .ok (.getfield 51, 3) := by decide +kernel
theorem dX10_glimpse_28 : decode cX10_glimpse 28 = .ok (.iload_n 1, 1) := by decide +kernel
theorem dX10_glimpse_29 : decode cX10_glimpse 29 = .ok (.iload_n 2, 1) := by decide +kernel
theorem dX10_glimpse_30 : decode cX10_glimpse 30 = .ok (.iload_n 3, 1) := by decide +kernel
theorem dX10_glimpse_31 : decode cX10_glimpse 31 = .ok (.aload_n 0, 1) := by decide +kernel
theorem dX10_glimpse_32 : decode cX10_glimpse 32 = .ok (.getfield 73, 3) := by decide +kernel
theorem dX10_glimpse_35 : decode cX10_glimpse 35 = .ok (.invokevirtual 273, 3) := by decide +kernel
theorem dX10_glimpse_38 : decode cX10_glimpse 38 = .ok (.ireturn, 1) := by decide +kernel
theorem dX10_untell_0 : decode cX10_untell 0 = .ok (.aload_n 0, 1) := by decide +kernel
theorem dX10_untell_1 : decode cX10_untell 1 = .ok (.getfield 51, 3) := by decide +kernel
theorem dX10_untell_4 : decode cX10_untell 4 = .ok (.iload_n 1, 1) := by decide +kernel
theorem dX10_untell_5 : decode cX10_untell 5 = .ok (.aload_n 0, 1) := by decide +kernel
theorem dX10_untell_6 : decode cX10_untell 6 = .ok (.getfield 73, 3) := by decide +kernel
theorem dX10_untell_9 : decode cX10_untell 9 = .ok (.invokevirtual 277, 3) := by decide +kernel
theorem dX10_untell_12 : decode cX10_untell 12 = .ok (.ireturn, 1) := by decide +kernel
theorem dX10_lots_0 : decode cX10_lots 0 = .ok (.aload_n 0, 1) := by decide +kernel
theorem dX10_lots_1 : decode cX10_lots 1 = .ok (.getfield 51, 3) := by decide +kernel
theorem dX10_lots_4 : decode cX10_lots 4 = .ok (.aload_n 0, 1) := by decide +kernel
theorem dX10_lots_5 : decode cX10_lots 5 = .ok (.getfield 62, 3) := by decide +kernel
theorem dX10_lots_8 : decode cX10_lots 8 = .ok (.getfield 111, 3) := by decide +kernel
theorem dX10_lots_11 : decode cX10_lots 11 = .ok (.iload_n 1, 1) := by decide +kernel
theorem dX10_lots_12 : decode cX10_lots 12 = .ok (.invokevirtual 281, 3) := by decide +kernel
theorem dX10_lots_15 : decode cX10_lots 15 = .ok (.ireturn, 1) := by decide +kernel
theorem dX10_sure_0 : decode cX10_sure 0 = .ok (.aload_n 0, 1) := by decide +kernel
theorem dX10_sure_1 : decode cX10_sure 1 = .ok (.getfield 62, 3) := by decide +kernel
theorem dX10_sure_4 : decode cX10_sure 4 = .ok (.iload_n 1, 1) := by decide +kernel
theorem dX10_sure_5 : decode cX10_sure 5 = .ok (.invokevirtual 120, 3) := by decide +kernel
theorem dX10_sure_8 : decode cX10_sure 8 = .ok (.ifCond .ne 5, 3) := by decide +kernel
theorem dX10_sure_11 : decode cX10_sure 11 = .ok (.iconst (-1), 1) := by decide +kernel
theorem dX10_sure_12 : decode cX10_sure 12 = .ok (.ireturn, 1) := by decide +kernel
theorem dX10_sure_13 : decode cX10_sure 13 = .ok (.aload_n 0, 1) := by decide +kernel
theorem dX10_sure_14 : decode cX10_sure 14 = .ok (.getfield 51, 3) := by decide +kernel
theorem dX10_sure_17 : decode cX10_sure 17 = .ok (.aload_n 0, 1) := by decide +kernel
theorem dX10_sure_18 : decode cX10_sure 18 = .ok (.getfield 62, 3) := by decide +kernel
theorem dX10_sure_21 : decode cX10_sure 21 = .ok (.getfield 111, 3) := by decide +kernel
theorem dX10_sure_24 : decode cX10_sure 24 = .ok (.iload_n 2, 1) := by decide +kernel
theorem dX10_sure_25 : decode cX10_sure 25 = .ok (.invokevirtual 281, 3) := by decide +kernel
theorem dX10_sure_28 : decode cX10_sure 28 = .ok (.istore_n 3, 1) := by decide +kernel
theorem dX10_sure_29 : decode cX10_sure 29 = .ok (.iload_n 3, 1) := by decide +kernel
theorem dX10_sure_30 : decode cX10_sure 30 = .ok (.ifCond .ne 7, 3) := by decide +kernel
theorem dX10_sure_33 : decode cX10_sure 33 = .ok (.iconst (-1), 1) := by decide +kernel
theorem dX10_sure_34 : decode cX10_sure 34 = .ok (.goto 12, 3) := by decide +kernel
theorem dX10_sure_37 : decode cX10_sure 37 = .ok (.aload_n 0, 1) := by decide +kernel
theorem dX10_sure_38 : decode cX10_sure 38 = .ok (.getfield 51, 3) := by decide +kernel
theorem dX10_sure_41 : decode cX10_sure 41 = .ok (.iload_n 1, 1) := by decide +kernel
theorem dX10_sure_42 : decode cX10_sure 42 = .ok (.iload_n 3, 1) := by decide +kernel
theorem dX10_sure_43 : decode cX10_sure 43 = .ok (.invokevirtual 284, 3) := by decide +kernel
theorem dX10_sure_46 : decode cX10_sure 46 = .ok (.ireturn, 1) := by decide +kernel
theorem dX10_ask_0 : decode cX10_ask 0 = .ok (.iload_n 1, 1) := by decide +kernel
theorem dX10_ask_1 : decode cX10_ask 1 = .ok (.ifCond .lt 26, 3) := by decide +kernel
theorem dX10_ask_4 : decode cX10_ask 4 = .ok (.iload_n 1, 1) := by decide +kernel
theorem dX10_ask_5 : decode cX10_ask 5 = .ok (.iconst 1, 1) := by decide +kernel
theorem dX10_ask_6 : decode cX10_ask 6 = .ok (.if_icmp .gt 21, 3) := by decide +kernel
theorem dX10_ask_9 : decode cX10_ask 9 = .ok (.aload_n 0, 1) := by decide +kernel
theorem dX10_ask_10 : decode cX10_ask 10 = .ok (.getfield 51, 3) := by decide +kernel
theorem dX10_ask_13 : decode cX10_ask 13 = .ok (.aload_n 0, 1) := by decide +kernel
theorem dX10_ask_14 : decode cX10_ask 14 = .ok (.getfield 62, 3) := by decide +kernel
theorem dX10_ask_17 : decode cX10_ask 17 = .ok (.getfield 111, 3) := by decide +kernel
theorem dX10_ask_20 : decode cX10_ask 20 = .ok (.iload_n 2, 1) := by decide +kernel
theorem dX10_ask_21 : decode cX10_ask 21 = .ok (.invokevirtual 281, 3) := by decide +kernel
theorem dX10_ask_24 : decode cX10_ask 24 = .ok (.ifCond .ne 5, 3) := by decide +kernel
theorem dX10_ask_27 : decode cX10_ask 27 = .ok (.iconst (-1), 1) := by decide +kernel
theorem dX10_ask_28 : decode cX10_ask 28 = .ok (.ireturn, 1) := by decide +kernel
theorem dX10_ask_29 : decode cX10_ask 29 = .ok (.iconst (-1), 1) := by decide +kernel
theorem dX10_ask_30 : decode cX10_ask 30 = .ok (.istore_n 3, 1) := by decide +kernel
theorem dX10_ask_31 : decode cX10_ask 31 = .ok (.iconst (-1), 1) := by decide +kernel
theorem dX10_ask_32 : decode cX10_ask 32 = .ok (.istore 4, 2) := by decide +kernel
theorem dX10_ask_34 : decode cX10_ask 34 = .ok (.iconst 0, 1) := by decide +kernel
theorem dX10_ask_35 : decode cX10_ask 35 = .ok (.istore 5, 2) := by decide +kernel
theorem dX10_ask_37 : decode cX10_ask 37 = .ok (.iload 5, 2) := by decide +kernel
theorem dX10_ask_39 : decode cX10_ask 39 = .ok (.aload_n 0, 1) := by decide +kernel
theorem dX10_ask_40 : decode cX10_ask 40 = .ok (.getfield 62, 3) := by decide +kernel
theorem dX10_ask_43 : decode cX10_ask 43 = .ok (.getfield 111, 3) := by decide +kernel
theorem dX10_ask_46 : decode cX10_ask 46 = .ok (.if_icmp .ge 39, 3) := by decide +kernel
theorem dX10_ask_49 : decode cX10_ask 49 = .ok (.aload_n 0, 1) := by decide +kernel
theorem dX10_ask_50 : decode cX10_ask 50 = .ok (.getfield 51, 3) := by decide +kernel
theorem dX10_ask_53 : decode cX10_ask 53 = .ok (.iload 5, 2) := by decide +kernel
theorem dX10_ask_55 : decode cX10_ask 55 = .ok (.invokevirtual 287, 3) := by decide +kernel
theorem dX10_ask_58 : decode cX10_ask 58 = .ok (.istore 6, 2) := by decide +kernel
theorem dX10_ask_60 : decode cX10_ask 60 = .ok (.iload_n 3, 1) := by decide +kernel
theorem dX10_ask_61 : decode cX10_ask 61 = .ok (.iconst (-1), 1) := by decide +kernel
theorem dX10_ask_62 : decode cX10_ask 62 = .ok (.if_icmp .eq 10, 3) := by decide +kernel
theorem dX10_ask_65 : decode cX10_ask 65 = .ok (.iload 6, 2) := by decide +kernel
theorem dX10_ask_67 : decode cX10_ask 67 = .ok (.iload 4, 2) := by decide +kernel
theorem dX10_ask_69 : decode cX10_ask 69 = .ok (.if_icmp .ge 10, 3) := by decide +kernel
theorem dX10_ask_72 : decode cX10_ask 72 = .ok (.iload 5, 2) := by decide +kernel
theorem dX10_ask_74 : decode cX10_ask 74 = .ok (.istore_n 3, 1) := by decide +kernel
theorem dX10_ask_75 : decode cX10_ask 75 = .ok (.iload 6, 2) := by decide +kernel
theorem dX10_ask_77 : decode cX10_ask 77 = .ok (.istore 4, 2) := by decide +kernel
theorem dX10_ask_79 : decode cX10_ask 79 = .ok (.iinc 5 1, 3) := by decide +kernel
theorem dX10_ask_82 : decode cX10_ask 82 = .ok (.goto (-45), 3) := by decide +kernel
theorem dX10_ask_85 : decode cX10_ask 85 = .ok (.iload_n 1, 1) := by decide +kernel
theorem dX10_ask_86 : decode cX10_ask 86 = .ok (.ifCond .ne 7, 3) := by decide +kernel
theorem dX10_ask_89 : decode cX10_ask 89 = .ok (.iload_n 3, 1) := by decide +kernel
theorem dX10_ask_90 : decode cX10_ask 90 = .ok (.goto 5, 3) := by decide +kernel
theorem dX10_ask_93 : decode cX10_ask 93 = .ok (.iload 4, 2) := by decide +kernel
theorem dX10_ask_95 : decode cX10_ask 95 = .ok (.ireturn, 1) := by decide +kernel
theorem dX10_aim_0 : decode cX10_aim 0 = .ok (.aload_n 0, 1) := by decide +kernel
theorem dX10_aim_1 : decode cX10_aim 1 = .ok (.getfield 62, 3) := by decide +kernel
theorem dX10_aim_4 : decode cX10_aim 4 = .ok (.iload_n 1, 1) := by decide +kernel
theorem dX10_aim_5 : decode cX10_aim 5 = .ok (.invokevirtual 120, 3) := by decide +kernel
theorem dX10_aim_8 : decode cX10_aim 8 = .ok (.ifCond .eq 14, 3) := by decide +kernel
theorem dX10_aim_11 : decode cX10_aim 11 = .ok (.aload_n 0, 1) := by decide +kernel
theorem dX10_aim_12 : decode cX10_aim 12 = .ok (.getfield 62, 3) := by decide +kernel
theorem dX10_aim_15 : decode cX10_aim 15 = .ok (.iload_n 2, 1) := by decide +kernel
theorem dX10_aim_16 : decode cX10_aim 16 = .ok (.invokevirtual 120, 3) := by decide +kernel
theorem dX10_aim_19 : decode cX10_aim 19 = .ok (.ifCond .ne 5, 3) := by decide +kernel
theorem dX10_aim_22 : decode cX10_aim 22 = .ok (.iconst 0, 1) := by decide +kernel
theorem dX10_aim_23 : decode cX10_aim 23 = .ok (.ireturn, 1) := by decide +kernel
theorem dX10_aim_24 : decode cX10_aim 24 = .ok (.aload_n 0, 1) := by decide +kernel
theorem dX10_aim_25 : decode cX10_aim 25 = .ok (.getfield 44, 3) := by decide +kernel
theorem dX10_aim_28 : decode cX10_aim 28 = .ok (.iload_n 1, 1) := by decide +kernel
theorem dX10_aim_29 : decode cX10_aim 29 = .ok (.iload_n 2, 1) := by decide +kernel
theorem dX10_aim_30 : decode cX10_aim 30 = .ok (.invokevirtual 227, 3) := by decide +kernel
theorem dX10_aim_33 : decode cX10_aim 33 = .ok (.ireturn, 1) := by decide +kernel
theorem dX10_drop_0 : decode cX10_drop 0 = .ok (.aload_n 0, 1) := by decide +kernel
theorem dX10_drop_1 : decode cX10_drop 1 = .ok (.getfield 62, 3) := by decide +kernel
theorem dX10_drop_4 : decode cX10_drop 4 = .ok (.iload_n 1, 1) := by decide +kernel
theorem dX10_drop_5 : decode cX10_drop 5 = .ok (.invokevirtual 120, 3) := by decide +kernel
theorem dX10_drop_8 : decode cX10_drop 8 = .ok (.ifCond .eq 18, 3) := by decide +kernel
theorem dX10_drop_11 : decode cX10_drop 11 = .ok (.aload_n 0, 1) := by decide +kernel
theorem dX10_drop_12 : decode cX10_drop 12 = .ok (.getfield 44, 3) := by decide +kernel
theorem dX10_drop_15 : decode cX10_drop 15 = .ok (.iload_n 1, 1) := by decide +kernel
theorem dX10_drop_16 : decode cX10_drop 16 = .ok (.invokevirtual 230, 3) := by decide +kernel
theorem dX10_drop_19 : decode cX10_drop 19 = .ok (.ifCond .eq 7, 3) := by decide +kernel
theorem dX10_drop_22 : decode cX10_drop 22 = .ok (.iconst 1, 1) := by decide +kernel
theorem dX10_drop_23 : decode cX10_drop 23 = .ok (.goto 4, 3) := by decide +kernel
theorem dX10_drop_26 : decode cX10_drop 26 = .ok (.iconst 0, 1) := by decide +kernel
theorem dX10_drop_27 : decode cX10_drop 27 = .ok (.ireturn, 1) := by decide +kernel
theorem dX10_fair_0 : decode cX10_fair 0 = .ok (.aload_n 0, 1) := by decide +kernel
theorem dX10_fair_1 : decode cX10_fair 1 = .ok (.getfield 44, 3) := by decide +kernel
theorem dX10_fair_4 : decode cX10_fair 4 = .ok (.aload_n 0, 1) := by decide +kernel
theorem dX10_fair_5 : decode cX10_fair 5 = .ok (.getfield 62, 3) := by decide +kernel
theorem dX10_fair_8 : decode cX10_fair 8 = .ok (.getfield 111, 3) := by decide +kernel
theorem dX10_fair_11 : decode cX10_fair 11 = .ok (.invokevirtual 260, 3) := by decide +kernel
theorem dX10_fair_14 : decode cX10_fair 14 = .ok (.ireturn, 1) := by decide +kernel
theorem dX10_best_0 : decode cX10_best 0 = .ok (.aload_n 0, 1) := by decide +kernel
theorem dX10_best_1 : decode cX10_best 1 = .ok (.aload_n 0, 1) := by decide +kernel
theorem dX10_best_2 : decode cX10_best 2 = .ok (.getfield 62, 3) := by decide +kernel
theorem dX10_best_5 : decode cX10_best 5 = .ok (.getfield 111, 3) := by decide +kernel
theorem dX10_best_8 : decode cX10_best 8 = .ok (.putfield 70, 3) := by decide +kernel
theorem dX10_best_11 : decode cX10_best 11 = .ok (.aload_n 0, 1) := by decide +kernel
theorem dX10_best_12 : decode cX10_best 12 = .ok (.getfield 44, 3) := by decide +kernel
theorem dX10_best_15 : decode cX10_best 15 = .ok (.aload_n 0, 1) := by decide +kernel
theorem dX10_best_16 : decode cX10_best 16 = .ok (.getfield 62, 3) := by decide +kernel
theorem dX10_best_19 : decode cX10_best 19 = .ok (.aload_n 0, 1) := by decide +kernel
theorem dX10_best_20 : decode cX10_best 20 = .ok (.getfield 55, 3) := by decide +kernel
theorem dX10_best_23 : decode cX10_best 23 = .ok (.invokevirtual 240, 3) := by decide +kernel
theorem dX10_best_26 : decode cX10_best 26 = .ok (.ireturn, 1) := by decide +kernel
theorem dX10_commonDivisor_0 : decode cX10_commonDivisor 0 = .ok (.iload_n 0, 1) := by decide +kernel
theorem dX10_commonDivisor_1 : decode cX10_commonDivisor 1 = .ok (.istore_n 2, 1) := by decide +kernel
theorem dX10_commonDivisor_2 : decode cX10_commonDivisor 2 = .ok (.iload_n 1, 1) := by decide +kernel
theorem dX10_commonDivisor_3 : decode cX10_commonDivisor 3 = .ok (.istore_n 3, 1) := by decide +kernel
theorem dX10_commonDivisor_4 : decode cX10_commonDivisor 4 = .ok (.iconst 0, 1) := by decide +kernel
theorem dX10_commonDivisor_5 : decode cX10_commonDivisor 5 = .ok (.istore 4, 2) := by decide +kernel
theorem dX10_commonDivisor_7 : decode cX10_commonDivisor 7 = .ok (.iload 4, 2) := by decide +kernel
theorem dX10_commonDivisor_9 : decode cX10_commonDivisor 9 = .ok (.bipush 64, 2) := by decide +kernel
theorem dX10_commonDivisor_11 : decode cX10_commonDivisor 11 = .ok (.if_icmp .ge 23, 3) := by decide +kernel
theorem dX10_commonDivisor_14 : decode cX10_commonDivisor 14 = .ok (.iload_n 3, 1) := by decide +kernel
theorem dX10_commonDivisor_15 : decode cX10_commonDivisor 15 = .ok (.ifCond .eq 19, 3) := by decide +kernel
theorem dX10_commonDivisor_18 : decode cX10_commonDivisor 18 = .ok (.iload_n 2, 1) := by decide +kernel
theorem dX10_commonDivisor_19 : decode cX10_commonDivisor 19 = .ok (.iload_n 3, 1) := by decide +kernel
theorem dX10_commonDivisor_20 : decode cX10_commonDivisor 20 = .ok (.irem, 1) := by decide +kernel
theorem dX10_commonDivisor_21 : decode cX10_commonDivisor 21 = .ok (.istore 5, 2) := by decide +kernel
theorem dX10_commonDivisor_23 : decode cX10_commonDivisor 23 = .ok (.iload_n 3, 1) := by decide +kernel
theorem dX10_commonDivisor_24 : decode cX10_commonDivisor 24 = .ok (.istore_n 2, 1) := by decide +kernel
theorem dX10_commonDivisor_25 : decode cX10_commonDivisor 25 = .ok (.iload 5, 2) := by decide +kernel
theorem dX10_commonDivisor_27 : decode cX10_commonDivisor 27 = .ok (.istore_n 3, 1) := by decide +kernel
theorem dX10_commonDivisor_28 : decode cX10_commonDivisor 28 = .ok (.iinc 4 1, 3) := by decide +kernel
theorem dX10_commonDivisor_31 : decode cX10_commonDivisor 31 = .ok (.goto (-24), 3) := by decide +kernel
theorem dX10_commonDivisor_34 : decode cX10_commonDivisor 34 = .ok (.iload_n 2, 1) := by decide +kernel
theorem dX10_commonDivisor_35 : decode cX10_commonDivisor 35 = .ok (.ireturn, 1) := by decide +kernel
theorem dX10_odds_0 : decode cX10_odds 0 = .ok (.iload_n 1, 1) := by decide +kernel
theorem dX10_odds_1 : decode cX10_odds 1 = .ok (.ifCond .lt 18, 3) := by decide +kernel
theorem dX10_odds_4 : decode cX10_odds 4 = .ok (.iload_n 1, 1) := by decide +kernel
theorem dX10_odds_5 : decode cX10_odds 5 = .ok (.bipush 6, 2) := by decide +kernel
theorem dX10_odds_7 : decode cX10_odds 7 = .ok (.if_icmp .gt 12, 3) := by decide +kernel
theorem dX10_odds_10 : decode cX10_odds 10 = .ok (.iload_n 2, 1) := by decide +kernel
theorem dX10_odds_11 : decode cX10_odds 11 = .ok (.ifCond .lt 8, 3) := by decide +kernel
theorem dX10_odds_14 : decode cX10_odds 14 = .ok (.iload_n 2, 1) := by decide +kernel
theorem dX10_odds_15 : decode cX10_odds 15 = .ok (.iconst 1, 1) := by decide +kernel
theorem dX10_odds_16 : decode cX10_odds 16 = .ok (.if_icmp .le 5, 3) := by decide +kernel
theorem dX10_odds_19 : decode cX10_odds 19 = .ok (.iconst (-1), 1) := by decide +kernel
theorem dX10_odds_20 : decode cX10_odds 20 = .ok (.ireturn, 1) := by decide +kernel
theorem dX10_odds_21 : decode cX10_odds 21 = .ok (.aload_n 0, 1) := by decide +kernel
theorem dX10_odds_22 : decode cX10_odds 22 = .ok (.getfield 44, 3) := by decide +kernel
theorem dX10_odds_25 : decode cX10_odds 25 = .ok (.getfield 244, 3) := by decide +kernel
theorem dX10_odds_28 : decode cX10_odds 28 = .ok (.aload_n 0, 1) := by decide +kernel
theorem dX10_odds_29 : decode cX10_odds 29 = .ok (.getfield 62, 3) := by decide +kernel
theorem dX10_odds_32 : decode cX10_odds 32 = .ok (.getfield 111, 3) := by decide +kernel
theorem dX10_odds_35 : decode cX10_odds 35 = .ok (.invokevirtual 248, 3) := by decide +kernel
theorem dX10_odds_38 : decode cX10_odds 38 = .ok (.istore_n 3, 1) := by decide +kernel
theorem dX10_odds_39 : decode cX10_odds 39 = .ok (.aload_n 0, 1) := by decide +kernel
theorem dX10_odds_40 : decode cX10_odds 40 = .ok (.getfield 44, 3) := by decide +kernel
theorem dX10_odds_43 : decode cX10_odds 43 = .ok (.aload_n 0, 1) := by decide +kernel
theorem dX10_odds_44 : decode cX10_odds 44 = .ok (.getfield 62, 3) := by decide +kernel
theorem dX10_odds_47 : decode cX10_odds 47 = .ok (.iload_n 1, 1) := by decide +kernel
theorem dX10_odds_48 : decode cX10_odds 48 = .ok (.invokevirtual 253, 3) := by decide +kernel
theorem dX10_odds_51 : decode cX10_odds 51 = .ok (.istore 4, 2) := by decide +kernel
theorem dX10_odds_53 : decode cX10_odds 53 = .ok (.iload_n 3, 1) := by decide +kernel
theorem dX10_odds_54 : decode cX10_odds 54 = .ok (.iload 4, 2) := by decide +kernel
theorem dX10_odds_56 : decode cX10_odds 56 = .ok (.invokestatic 257, 3) := by decide +kernel
theorem dX10_odds_59 : decode cX10_odds 59 = .ok (.istore 5, 2) := by decide +kernel
theorem dX10_odds_61 : decode cX10_odds 61 = .ok (.iload 5, 2) := by decide +kernel
theorem dX10_odds_63 : decode cX10_odds 63 = .ok (.ifCond .ne 5, 3) := by decide +kernel
theorem dX10_odds_66 : decode cX10_odds 66 = .ok (.iconst (-1), 1) := by decide +kernel
theorem dX10_odds_67 : decode cX10_odds 67 = .ok (.ireturn, 1) := by decide +kernel
theorem dX10_odds_68 : decode cX10_odds 68 = .ok (.iload_n 2, 1) := by decide +kernel
theorem dX10_odds_69 : decode cX10_odds 69 = .ok (.ifCond .ne 8, 3) := by decide +kernel
theorem dX10_odds_72 : decode cX10_odds 72 = .ok (.iload 4, 2) := by decide +kernel
theorem dX10_odds_74 : decode cX10_odds 74 = .ok (.goto 4, 3) := by decide +kernel
theorem dX10_odds_77 : decode cX10_odds 77 = .ok (.iload_n 3, 1) := by decide +kernel
theorem dX10_odds_78 : decode cX10_odds 78 = .ok (.iload 5, 2) := by decide +kernel
theorem dX10_odds_80 : decode cX10_odds 80 = .ok (.idiv, 1) := by decide +kernel
theorem dX10_odds_81 : decode cX10_odds 81 = .ok (.ireturn, 1) := by decide +kernel
set_option maxHeartbeats 2000000 in
set_option maxRecDepth 20000 in
theorem c_X10_feed (l : Launch) (D : va_G) (cy : Nat → ClassId) (B N : Nat) (a : Int) (b : Int) (c : Int) (d : Int) (e : Int) (M : MM) (hN : 210 ≤ N) (hI : Iv M) (hpa : I32 a) (hpb : I32 b) (hpc : I32 c) (hpd : I32 d) (hpe : I32 e) : CI l D cy B N 2 yX10_feed cX10_feed 7 (some .int) [rv B 0, iv a, iv b, iv c, iv d, iv e] M (fun z M' => Iv M' ∧ Fr (fun a b => (a = 2 ∧ 2 ≤ b ∧ b ≤ 2) ∨ (a = 3)) M M') := by
  refine mk_CI (by decide) (Nat.le_of_ble_eq_true rfl) ?_
  intro X exl exD excy hnL hX hret
  have hce : 0 + 0 ≤ (xR X).cells ∧ 0 + 0 ≤ (xR X).slots := ⟨Nat.zero_le _, Nat.zero_le _⟩
  have hF : Fr (fun a b => (a = 2 ∧ 2 ≤ b ∧ b ≤ 2) ∨ (a = 3)) M M := Fr.rf
  show J X B N 0 0 0 [(0, rv B 0), (1, iv a), (2, iv b), (3, iv c), (4, iv d), (5, iv e)] [] M
  refine j_aload_n hX dX10_feed_0 rfl 0 rfl ?_
  refine gf_X10_10 hX (by omega) (by omega) kc_0 (fc_0_0 hI) (by decide) dX10_feed_1 ?_
  refine gf_X10_80 hX (by omega) (by omega) kc_1 (fc_1_0 hI) (by decide) dX10_feed_4 ?_
  refine j_astore (lv' := [(6, _), (0, _), (1, _), (2, _), (3, _), (4, _), (5, _)]) hX dX10_feed_7 (by rw [hnL]; decide) rfl ?_
  refine j_aload hX dX10_feed_9 0 rfl ?_
  refine j_bipush hX dX10_feed_11 rfl ?_
  refine j_callVI hX lk_X10_84 (c_X9_hasPlaceFor _ _ _ _ _ _ _ (by omega) hI (by omega) (by first | assumption | omega)) (by omega) hce rfl rfl (by omega) (by omega) kc_2 rfl rfl (Nat.le_of_ble_eq_true rfl) dX10_feed_13 (fun z1 M2 hz4 hp3 => ?_)
  obtain ⟨rfl, hb5, hq6⟩ := hp3
  refine j_if_ne (tgt := 21) hX dX10_feed_16 (by decide) (by omega) (fun hc7 => ?_) (fun hc7 => ?_)
  · skip
    have hi8 := hq6 (by omega)
    clear hq6
    refine j_aload hX dX10_feed_21 0 rfl ?_
    refine j_iload_n hX dX10_feed_23 rfl 2 rfl ?_
    refine j_callVV hX lk_X10_90 (c_X9_addFour _ _ _ _ _ _ _ (by omega) hI (by omega)) (by omega) hce rfl rfl (by omega) (by omega) kc_2 rfl rfl (Nat.le_of_ble_eq_true rfl) dX10_feed_24 (fun M10 hp11 => ?_)
    obtain ⟨hI13, hG14⟩ := hp11
    have hF15 := Fr.trans hF hG14 (fun a b h => by omega)
    refine j_aload hX dX10_feed_27 0 rfl ?_
    refine j_iload_n hX dX10_feed_29 rfl 3 rfl ?_
    refine j_callVV hX lk_X10_90 (c_X9_addFour _ _ _ _ _ _ _ (by omega) hI13 (by omega)) (by omega) hce rfl rfl (by omega) (by omega) kc_2 rfl rfl (Nat.le_of_ble_eq_true rfl) dX10_feed_30 (fun M17 hp18 => ?_)
    obtain ⟨hI20, hG21⟩ := hp18
    have hF22 := Fr.trans hF15 hG21 (fun a b h => by omega)
    refine j_aload hX dX10_feed_33 0 rfl ?_
    refine j_iload_n hX dX10_feed_35 rfl 4 rfl ?_
    refine j_callVV hX lk_X10_90 (c_X9_addFour _ _ _ _ _ _ _ (by omega) hI20 (by omega)) (by omega) hce rfl rfl (by omega) (by omega) kc_2 rfl rfl (Nat.le_of_ble_eq_true rfl) dX10_feed_36 (fun M24 hp25 => ?_)
    obtain ⟨hI27, hG28⟩ := hp25
    have hF29 := Fr.trans hF22 hG28 (fun a b h => by omega)
    refine j_aload hX dX10_feed_39 0 rfl ?_
    refine j_iload hX dX10_feed_41 5 rfl ?_
    refine j_callVV hX lk_X10_90 (c_X9_addFour _ _ _ _ _ _ _ (by omega) hI27 (by omega)) (by omega) hce rfl rfl (by omega) (by omega) kc_2 rfl rfl (Nat.le_of_ble_eq_true rfl) dX10_feed_43 (fun M31 hp32 => ?_)
    obtain ⟨hI34, hG35⟩ := hp32
    have hF36 := Fr.trans hF29 hG35 (fun a b h => by omega)
    refine j_aload hX dX10_feed_46 0 rfl ?_
    refine j_iload hX dX10_feed_48 6 rfl ?_
    refine j_callVV hX lk_X10_90 (c_X9_addFour _ _ _ _ _ _ _ (by omega) hI34 (by omega)) (by omega) hce rfl rfl (by omega) (by omega) kc_2 rfl rfl (Nat.le_of_ble_eq_true rfl) dX10_feed_50 (fun M38 hp39 => ?_)
    obtain ⟨hI41, hG42⟩ := hp39
    have hF43 := Fr.trans hF36 hG42 (fun a b h => by omega)
    refine j_aload hX dX10_feed_53 0 rfl ?_
    refine gf_X10_94 hX (by omega) (by omega) kc_2 dX10_feed_55 ?_
    refine j_name hI41 ro_2_2 (fun v44 hv45 hl46 hh47 => ?_)
    have hk48 := hv45.symm
    exact hret _ _ _ _ dX10_feed_58 rfl (by omega) ⟨hI41, hF43⟩
  · skip
    clear hq6
    refine j_iconst hX dX10_feed_19 ?_
    exact hret _ _ _ _ dX10_feed_20 rfl (by omega) ⟨hI, hF⟩
set_option maxHeartbeats 2000000 in
set_option maxRecDepth 20000 in
theorem c_X10_end (l : Launch) (D : va_G) (cy : Nat → ClassId) (B N : Nat) (a : Int) (M : MM) (hN : 210 ≤ N) (hI : Iv M) (hpa : I32 a) : CI l D cy B N 1 yX10_end cX10_end 2 (some .int) [rv B 0, iv a] M (fun z M' => Iv M' ∧ Fr (fun a b => (a = 2 ∧ 2 ≤ b ∧ b ≤ 2)) M M') := by
  refine mk_CI (by decide) (Nat.le_of_ble_eq_true rfl) ?_
  intro X exl exD excy hnL hX hret
  have hce : 0 + 0 ≤ (xR X).cells ∧ 0 + 0 ≤ (xR X).slots := ⟨Nat.zero_le _, Nat.zero_le _⟩
  have hF : Fr (fun a b => (a = 2 ∧ 2 ≤ b ∧ b ≤ 2)) M M := Fr.rf
  show J X B N 0 0 0 [(0, rv B 0), (1, iv a)] [] M
  refine j_iload_n hX dX10_end_0 rfl 1 rfl ?_
  refine j_if_lt (tgt := 18) hX dX10_end_1 (by decide) (by omega) (fun hc1 => ?_) (fun hc1 => ?_)
  · skip
    refine j_iconst hX dX10_end_18 ?_
    exact hret _ _ _ _ dX10_end_19 rfl (by omega) ⟨hI, hF⟩
  · skip
    refine j_iload_n hX dX10_end_4 rfl 1 rfl ?_
    refine j_aload_n hX dX10_end_5 rfl 0 rfl ?_
    refine gf_X10_10 hX (by omega) (by omega) kc_0 (fc_0_0 hI) (by decide) dX10_end_6 ?_
    refine gf_X10_80 hX (by omega) (by omega) kc_1 (fc_1_0 hI) (by decide) dX10_end_9 ?_
    refine gf_X10_94 hX (by omega) (by omega) kc_2 dX10_end_12 ?_
    refine j_name hI ro_2_2 (fun v2 hv3 hl4 hh5 => ?_)
    have hk6 := hv3.symm
    refine j_icmp_le (tgt := 20) hX dX10_end_15 (by decide) (by omega) (by omega) (fun hc7 => ?_) (fun hc7 => ?_)
    · skip
      refine j_aload_n hX dX10_end_20 rfl 0 rfl ?_
      refine gf_X10_10 hX (by omega) (by omega) kc_0 (fc_0_0 hI) (by decide) dX10_end_21 ?_
      refine gf_X10_80 hX (by omega) (by omega) kc_1 (fc_1_0 hI) (by decide) dX10_end_24 ?_
      refine j_iload_n hX dX10_end_27 rfl 1 rfl ?_
      refine pf_X10_94 hX (by omega) (by omega) kc_2 (by omega) dX10_end_28 ?_
      refine j_up hI ro_2_2 (by omega) (by omega) (Or.inl (by omega)) (fun M8 w9 hw10 hM11 hI12 hf13 => ?_)
      clear hk6
      have hF14 := Fr.put hF hM11 (by omega)
      refine j_iload_n hX dX10_end_31 rfl 1 rfl ?_
      exact hret _ _ _ _ dX10_end_32 rfl (by omega) ⟨hI12, hF14⟩
    · skip
      refine j_iconst hX dX10_end_18 ?_
      exact hret _ _ _ _ dX10_end_19 rfl (by omega) ⟨hI, hF⟩
set_option maxHeartbeats 2000000 in
set_option maxRecDepth 20000 in
theorem c_X10_fault (l : Launch) (D : va_G) (cy : Nat → ClassId) (B N : Nat) (a : Int) (M : MM) (hN : 210 ≤ N) (hI : Iv M) (hpa : I32 a) : CI l D cy B N 1 yX10_fault cX10_fault 2 (some .int) [rv B 0, iv a] M (fun z M' => M' = M) := by
  refine mk_CI (by decide) (Nat.le_of_ble_eq_true rfl) ?_
  intro X exl exD excy hnL hX hret
  have hce : 0 + 0 ≤ (xR X).cells ∧ 0 + 0 ≤ (xR X).slots := ⟨Nat.zero_le _, Nat.zero_le _⟩
  show J X B N 0 0 0 [(0, rv B 0), (1, iv a)] [] M
  refine j_iload_n hX dX10_fault_0 rfl 1 rfl ?_
  refine j_lookup hX dX10_fault_1 (by omega) (by decide) ?_
  rcases (by omega : (a = 0) ∨ (a = 1) ∨ (¬ 0 = a ∧ ¬ 1 = a)) with hc1 | hc1 | hc1
  · refine ⟨27, 28, by rw [hc1]; rfl, by decide, ?_⟩
    refine j_aload_n hX dX10_fault_28 rfl 0 rfl ?_
    refine gf_X10_10 hX (by omega) (by omega) kc_0 (fc_0_0 hI) (by decide) dX10_fault_29 ?_
    refine gf_X10_114 hX (by omega) (by omega) kc_1 dX10_fault_32 ?_
    refine j_name hI ro_1_2 (fun v2 hv3 hl4 hh5 => ?_)
    have hk6 := hv3.symm
    exact hret _ _ _ _ dX10_fault_35 rfl (by omega) rfl
  · refine ⟨35, 36, by rw [hc1]; rfl, by decide, ?_⟩
    refine j_aload_n hX dX10_fault_36 rfl 0 rfl ?_
    refine gf_X10_10 hX (by omega) (by omega) kc_0 (fc_0_0 hI) (by decide) dX10_fault_37 ?_
    refine gf_X10_117 hX (by omega) (by omega) kc_1 dX10_fault_40 ?_
    refine j_name hI ro_1_3 (fun v7 hv8 hl9 hh10 => ?_)
    have hk11 := hv8.symm
    exact hret _ _ _ _ dX10_fault_43 rfl (by omega) rfl
  · refine ⟨43, 44, by simp [Op.lookupswitch.offset, hc1], by decide, ?_⟩
    refine j_iconst hX dX10_fault_44 ?_
    exact hret _ _ _ _ dX10_fault_45 rfl (by omega) rfl
set_option maxHeartbeats 2000000 in
set_option maxRecDepth 20000 in
theorem c_X10_wants (l : Launch) (D : va_G) (cy : Nat → ClassId) (B N : Nat) (q : Int) (nr : Int) (a : Int) (b : Int) (M : MM) (hN : 210 ≤ N) (hI : Iv M) (hpa : I32 a) (hpb : I32 b) (hq : q = 5 ∨ q = 180) (ht : M.1 0 8 = q) (hnr : M.1 q 0 = nr) (hnb : 0 ≤ nr ∧ nr ≤ 6) : CI l D cy B N 3 yX10_wants cX10_wants 3 (some .int) [rv B 0, iv a, iv b] M (fun z M' => M' = M) := by
  refine mk_CI (by decide) (Nat.le_of_ble_eq_true rfl) ?_
  intro X exl exD excy hnL hX hret
  have hce : 0 + 0 ≤ (xR X).cells ∧ 0 + 0 ≤ (xR X).slots := ⟨Nat.zero_le _, Nat.zero_le _⟩
  have hdq : 5 ≤ q ∧ q ≤ 180 := by omega
  show J X B N 0 0 0 [(0, rv B 0), (1, iv a), (2, iv b)] [] M
  refine j_aload_n hX dX10_wants_0 rfl 0 rfl ?_
  refine gf_X10_62 hX (by omega) (by omega) kc_0 ht (by omega) dX10_wants_1 ?_
  refine j_iload_n hX dX10_wants_4 rfl 1 rfl ?_
  refine j_callVI hX lk_X10_120 (c_X6_hasRoom _ _ _ _ _ q _ _ (by omega) hI (by omega) hq) (by omega) hce rfl rfl (by omega) (by omega) (kq hq) rfl rfl (Nat.le_of_ble_eq_true rfl) dX10_wants_5 (fun z1 M2 hz4 hp3 => ?_)
  obtain ⟨rfl, hb5, hq6⟩ := hp3
  refine j_if_eq (tgt := 22) hX dX10_wants_8 (by decide) (by omega) (fun hc7 => ?_) (fun hc7 => ?_)
  · skip
    clear hq6
    refine j_iconst hX dX10_wants_22 ?_
    exact hret _ _ _ _ dX10_wants_23 rfl (by omega) rfl
  · skip
    have hi8 := hq6 (by omega)
    clear hq6
    refine j_aload_n hX dX10_wants_11 rfl 0 rfl ?_
    refine gf_X10_62 hX (by omega) (by omega) kc_0 ht (by omega) dX10_wants_12 ?_
    refine j_iload_n hX dX10_wants_15 rfl 2 rfl ?_
    refine j_callVI hX lk_X10_120 (c_X6_hasRoom _ _ _ _ _ q _ _ (by omega) hI (by omega) hq) (by omega) hce rfl rfl (by omega) (by omega) (kq hq) rfl rfl (Nat.le_of_ble_eq_true rfl) dX10_wants_16 (fun z9 M10 hz12 hp11 => ?_)
    obtain ⟨rfl, hb13, hq14⟩ := hp11
    refine j_if_ne (tgt := 24) hX dX10_wants_19 (by decide) (by omega) (fun hc15 => ?_) (fun hc15 => ?_)
    · skip
      have hi16 := hq14 (by omega)
      clear hq14
      refine j_aload_n hX dX10_wants_24 rfl 0 rfl ?_
      refine gf_X10_62 hX (by omega) (by omega) kc_0 ht (by omega) dX10_wants_25 ?_
      refine j_iload_n hX dX10_wants_28 rfl 1 rfl ?_
      refine j_iload_n hX dX10_wants_29 rfl 2 rfl ?_
      refine j_callVI hX lk_X10_168 (c_X6_wantOf _ _ _ _ _ q _ _ _ (by omega) hI (by omega) (by omega) hq (by first | assumption | omega)) (by omega) hce rfl rfl (by omega) (by omega) (kq hq) rfl rfl (Nat.le_of_ble_eq_true rfl) dX10_wants_30 (fun z17 M18 hz20 hp19 => ?_)
      obtain ⟨rfl, hq21⟩ := hp19
      exact hret _ _ _ _ dX10_wants_33 rfl (by omega) rfl
    · skip
      clear hq14
      refine j_iconst hX dX10_wants_22 ?_
      exact hret _ _ _ _ dX10_wants_23 rfl (by omega) rfl
set_option maxHeartbeats 2000000 in
set_option maxRecDepth 20000 in
theorem c_X10_dark (l : Launch) (D : va_G) (cy : Nat → ClassId) (B N : Nat) (q : Int) (a : Int) (M : MM) (hN : 210 ≤ N) (hI : Iv M) (hpa : I32 a) (hq : q = 5 ∨ q = 180) (ht : M.1 0 8 = q) : CI l D cy B N 2 yX10_dark cX10_dark 2 (some .int) [rv B 0, iv a] M (fun z M' => M' = M) := by
  refine mk_CI (by decide) (Nat.le_of_ble_eq_true rfl) ?_
  intro X exl exD excy hnL hX hret
  have hce : 0 + 0 ≤ (xR X).cells ∧ 0 + 0 ≤ (xR X).slots := ⟨Nat.zero_le _, Nat.zero_le _⟩
  have hdq : 5 ≤ q ∧ q ≤ 180 := by omega
  show J X B N 0 0 0 [(0, rv B 0), (1, iv a)] [] M
  refine j_iload_n hX dX10_dark_0 rfl 1 rfl ?_
  refine j_if_lt (tgt := 10) hX dX10_dark_1 (by decide) (by omega) (fun hc1 => ?_) (fun hc1 => ?_)
  · skip
    refine j_iconst hX dX10_dark_10 ?_
    exact hret _ _ _ _ dX10_dark_11 rfl (by omega) rfl
  · skip
    refine j_iload_n hX dX10_dark_4 rfl 1 rfl ?_
    refine j_bipush hX dX10_dark_5 rfl ?_
    refine j_icmp_lt (tgt := 12) hX dX10_dark_7 (by decide) (by omega) (by omega) (fun hc2 => ?_) (fun hc2 => ?_)
    · skip
      refine j_aload_n hX dX10_dark_12 rfl 0 rfl ?_
      refine gf_X10_62 hX (by omega) (by omega) kc_0 ht (by omega) dX10_dark_13 ?_
      refine j_iload_n hX dX10_dark_16 rfl 1 rfl ?_
      refine j_callVI hX lk_X10_172 (c_X6_isDark _ _ _ _ _ q _ _ (by omega) hI (by omega) hq) (by omega) hce rfl rfl (by omega) (by omega) (kq hq) rfl rfl (Nat.le_of_ble_eq_true rfl) dX10_dark_17 (fun z3 M4 hz6 hp5 => ?_)
      obtain ⟨rfl, hb7⟩ := hp5
      refine j_if_eq (tgt := 27) hX dX10_dark_20 (by decide) (by omega) (fun hc8 => ?_) (fun hc8 => ?_)
      · skip
        refine j_iconst hX dX10_dark_27 ?_
        exact hret _ _ _ _ dX10_dark_28 rfl (by omega) rfl
      · skip
        refine j_iconst hX dX10_dark_23 ?_
        refine j_goto (tgt := 28) hX dX10_dark_24 (by decide) ?_
        exact hret _ _ _ _ dX10_dark_28 rfl (by omega) rfl
    · skip
      refine j_iconst hX dX10_dark_10 ?_
      exact hret _ _ _ _ dX10_dark_11 rfl (by omega) rfl
set_option maxHeartbeats 2000000 in
set_option maxRecDepth 20000 in
theorem c_X10_lies (l : Launch) (D : va_G) (cy : Nat → ClassId) (B N : Nat) (a : Int) (M : MM) (hN : 210 ≤ N) (hI : Iv M) (hpa : I32 a) : CI l D cy B N 1 yX10_lies cX10_lies 2 (some .int) [rv B 0, iv a] M (fun z M' => M' = M) := by
  refine mk_CI (by decide) (Nat.le_of_ble_eq_true rfl) ?_
  intro X exl exD excy hnL hX hret
  have hce : 0 + 0 ≤ (xR X).cells ∧ 0 + 0 ≤ (xR X).slots := ⟨Nat.zero_le _, Nat.zero_le _⟩
  show J X B N 0 0 0 [(0, rv B 0), (1, iv a)] [] M
  refine j_iload_n hX dX10_lies_0 rfl 1 rfl ?_
  refine j_if_lt (tgt := 21) hX dX10_lies_1 (by decide) (by omega) (fun hc1 => ?_) (fun hc1 => ?_)
  · skip
    refine j_iconst hX dX10_lies_21 ?_
    exact hret _ _ _ _ dX10_lies_22 rfl (by omega) rfl
  · skip
    refine j_iload_n hX dX10_lies_4 rfl 1 rfl ?_
    refine j_aload_n hX dX10_lies_5 rfl 0 rfl ?_
    refine gf_X10_70 hX (by omega) (by omega) kc_0 dX10_lies_6 ?_
    refine j_name hI ro_0_10 (fun v2 hv3 hl4 hh5 => ?_)
    have hk6 := hv3.symm
    refine j_icmp_ge (tgt := 21) hX dX10_lies_9 (by decide) (by omega) (by omega) (fun hc7 => ?_) (fun hc7 => ?_)
    · skip
      refine j_iconst hX dX10_lies_21 ?_
      exact hret _ _ _ _ dX10_lies_22 rfl (by omega) rfl
    · skip
      refine j_aload_n hX dX10_lies_12 rfl 0 rfl ?_
      refine gf_X10_55 hX (by omega) (by omega) kc_0 (fc_0_7 hI) (by decide) dX10_lies_13 ?_
      refine j_iload_n hX dX10_lies_16 rfl 1 rfl ?_
      refine j_iald hX (by omega) (by omega) kc_179 (by omega) (by omega) (by omega) dX10_lies_17 ?_
      refine j_name hI (ra_179 _) (fun v8 hv9 hl10 hh11 => ?_)
      refine j_goto (tgt := 22) hX dX10_lies_18 (by decide) ?_
      exact hret _ _ _ _ dX10_lies_22 rfl (by omega) rfl
set_option maxHeartbeats 2000000 in
set_option maxRecDepth 20000 in
theorem c_X10_later (l : Launch) (D : va_G) (cy : Nat → ClassId) (B N : Nat) (a : Int) (M : MM) (hN : 210 ≤ N) (hI : Iv M) (hpa : I32 a) : CI l D cy B N 1 yX10_later cX10_later 2 (some .int) [rv B 0, iv a] M (fun z M' => Iv M' ∧ Fr (fun a b => (a = 0 ∧ 11 ≤ b ∧ b ≤ 11)) M M' ∧ ((0 ≤ a ∧ a ≤ 1000 ∧ M.1 0 11 + a ≤ 100000 → z = M.1 0 11 + a ∧ M'.1 0 11 = M.1 0 11 + a) ∧ (¬ (0 ≤ a ∧ a ≤ 1000 ∧ M.1 0 11 + a ≤ 100000) → z = -1 ∧ M'.1 0 11 = M.1 0 11))) := by
  refine mk_CI (by decide) (Nat.le_of_ble_eq_true rfl) ?_
  intro X exl exD excy hnL hX hret
  have hce : 0 + 0 ≤ (xR X).cells ∧ 0 + 0 ≤ (xR X).slots := ⟨Nat.zero_le _, Nat.zero_le _⟩
  have hF : Fr (fun a b => (a = 0 ∧ 11 ≤ b ∧ b ≤ 11)) M M := Fr.rf
  have hk1 : M.1 0 11 = M.1 0 11 := rfl
  have ht0 := hI.at 0 11 ro_0_11
  show J X B N 0 0 0 [(0, rv B 0), (1, iv a)] [] M
  refine j_iload_n hX dX10_later_0 rfl 1 rfl ?_
  refine j_if_lt (tgt := 23) hX dX10_later_1 (by decide) (by omega) (fun hc2 => ?_) (fun hc2 => ?_)
  · skip
    refine j_iconst hX dX10_later_23 ?_
    exact hret _ _ _ _ dX10_later_24 rfl (by omega) ⟨hI, hF, by first | assumption | omega⟩
  · skip
    refine j_iload_n hX dX10_later_4 rfl 1 rfl ?_
    refine j_sipush hX dX10_later_5 rfl ?_
    refine j_icmp_gt (tgt := 23) hX dX10_later_8 (by decide) (by omega) (by omega) (fun hc3 => ?_) (fun hc3 => ?_)
    · skip
      refine j_iconst hX dX10_later_23 ?_
      exact hret _ _ _ _ dX10_later_24 rfl (by omega) ⟨hI, hF, by first | assumption | omega⟩
    · skip
      refine j_aload_n hX dX10_later_11 rfl 0 rfl ?_
      refine gf_X10_73 hX (by omega) (by omega) kc_0 dX10_later_12 ?_
      refine j_name hI ro_0_11 (fun v4 hv5 hl6 hh7 => ?_)
      have hk8 := hv5.symm
      refine j_iload_n hX dX10_later_15 rfl 1 rfl ?_
      refine j_iadd hX dX10_later_16 ?_
      refine j_ldcw (n := 100000) hX (in_5 124 (by first | rfl | decide +kernel) rfl) dX10_later_17 ?_
      refine j_icmp_le (tgt := 25) hX dX10_later_20 (by decide) (by omega) (by omega) (fun hc9 => ?_) (fun hc9 => ?_)
      · skip
        refine j_aload_n hX dX10_later_25 rfl 0 rfl ?_
        refine j_dup hX dX10_later_26 rfl ?_
        refine gf_X10_73 hX (by omega) (by omega) kc_0 dX10_later_27 ?_
        refine j_top hk8 ?_
        refine j_iload_n hX dX10_later_30 rfl 1 rfl ?_
        refine j_iadd hX dX10_later_31 ?_
        refine pf_X10_73 hX (by omega) (by omega) kc_0 (by omega) dX10_later_32 ?_
        refine j_up hI ro_0_11 (by omega) (by omega) (Or.inl (by omega)) (fun M10 w11 hw12 hM13 hI14 hf15 => ?_)
        clear hk8
        have hF16 := Fr.put hF hM13 (by omega)
        refine j_aload_n hX dX10_later_35 rfl 0 rfl ?_
        refine gf_X10_73 hX (by omega) (by omega) kc_0 dX10_later_36 ?_
        refine j_top hf15 ?_
        exact hret _ _ _ _ dX10_later_39 rfl (by omega) ⟨hI14, hF16, by first | assumption | omega⟩
      · skip
        refine j_iconst hX dX10_later_23 ?_
        exact hret _ _ _ _ dX10_later_24 rfl (by omega) ⟨hI, hF, by first | assumption | omega⟩
set_option maxHeartbeats 2000000 in
set_option maxRecDepth 20000 in
theorem c_X10_glimpse (l : Launch) (D : va_G) (cy : Nat → ClassId) (B N : Nat) (q : Int) (nr : Int) (a : Int) (b : Int) (c : Int) (M : MM) (hN : 210 ≤ N) (hI : Iv M) (hpa : I32 a) (hpb : I32 b) (hpc : I32 c) (hq : q = 5 ∨ q = 180) (ht : M.1 0 8 = q) (hnr : M.1 q 0 = nr) (hnb : 0 ≤ nr ∧ nr ≤ 6) (h1 : 0 ≤ c ∧ c ≤ 1) : CI l D cy B N 2 yX10_glimpse cX10_glimpse 4 (some .int) [rv B 0, iv a, iv b, iv c] M (fun z M' => Iv M' ∧ Fr (fun a b => (a = 164 ∧ 7 ≤ b ∧ b ≤ 8) ∨ (167 ≤ a ∧ a ≤ 170)) M M') := by
  refine mk_CI (by decide) (Nat.le_of_ble_eq_true rfl) ?_
  intro X exl exD excy hnL hX hret
  have hce : 0 + 0 ≤ (xR X).cells ∧ 0 + 0 ≤ (xR X).slots := ⟨Nat.zero_le _, Nat.zero_le _⟩
  have hdq : 5 ≤ q ∧ q ≤ 180 := by omega
  have hF : Fr (fun a b => (a = 164 ∧ 7 ≤ b ∧ b ≤ 8) ∨ (167 ≤ a ∧ a ≤ 170)) M M := Fr.rf
  show J X B N 0 0 0 [(0, rv B 0), (1, iv a), (2, iv b), (3, iv c)] [] M
  refine j_aload_n hX dX10_glimpse_0 rfl 0 rfl ?_
  refine gf_X10_62 hX (by omega) (by omega) kc_0 ht (by omega) dX10_glimpse_1 ?_
  refine j_iload_n hX dX10_glimpse_4 rfl 1 rfl ?_
  refine j_callVI hX lk_X10_120 (c_X6_hasRoom _ _ _ _ _ q _ _ (by omega) hI (by omega) hq) (by omega) hce rfl rfl (by omega) (by omega) (kq hq) rfl rfl (Nat.le_of_ble_eq_true rfl) dX10_glimpse_5 (fun z1 M2 hz4 hp3 => ?_)
  obtain ⟨rfl, hb5, hq6⟩ := hp3
  refine j_if_eq (tgt := 22) hX dX10_glimpse_8 (by decide) (by omega) (fun hc7 => ?_) (fun hc7 => ?_)
  · skip
    clear hq6
    refine j_iconst hX dX10_glimpse_22 ?_
    exact hret _ _ _ _ dX10_glimpse_23 rfl (by omega) ⟨hI, hF⟩
  · skip
    have hi8 := hq6 (by omega)
    clear hq6
    refine j_aload_n hX dX10_glimpse_11 rfl 0 rfl ?_
    refine gf_X10_62 hX (by omega) (by omega) kc_0 ht (by omega) dX10_glimpse_12 ?_
    refine j_iload_n hX dX10_glimpse_15 rfl 2 rfl ?_
    refine j_callVI hX lk_X10_120 (c_X6_hasRoom _ _ _ _ _ q _ _ (by omega) hI (by omega) hq) (by omega) hce rfl rfl (by omega) (by omega) (kq hq) rfl rfl (Nat.le_of_ble_eq_true rfl) dX10_glimpse_16 (fun z9 M10 hz12 hp11 => ?_)
    obtain ⟨rfl, hb13, hq14⟩ := hp11
    refine j_if_ne (tgt := 24) hX dX10_glimpse_19 (by decide) (by omega) (fun hc15 => ?_) (fun hc15 => ?_)
    · skip
      have hi16 := hq14 (by omega)
      clear hq14
      refine j_aload_n hX dX10_glimpse_24 rfl 0 rfl ?_
      refine gf_X10_51 hX (by omega) (by omega) kc_0 (fc_0_6 hI) (by decide) dX10_glimpse_25 ?_
      refine j_iload_n hX dX10_glimpse_28 rfl 1 rfl ?_
      refine j_iload_n hX dX10_glimpse_29 rfl 2 rfl ?_
      refine j_iload_n hX dX10_glimpse_30 rfl 3 rfl ?_
      refine j_aload_n hX dX10_glimpse_31 rfl 0 rfl ?_
      refine gf_X10_73 hX (by omega) (by omega) kc_0 dX10_glimpse_32 ?_
      refine j_name hI ro_0_11 (fun v17 hv18 hl19 hh20 => ?_)
      have hk21 := hv18.symm
      refine j_callVI hX lk_X10_273 (c_X3_add _ _ _ _ _ _ _ _ _ _ (by omega) hI (by omega) (by omega) (by omega) (by omega) (by first | assumption | omega)) (by omega) hce rfl rfl (by omega) (by omega) kc_164 rfl rfl (Nat.le_of_ble_eq_true rfl) dX10_glimpse_35 (fun z22 M23 hz25 hp24 => ?_)
      obtain ⟨hI26, hG27⟩ := hp24
      have hk28 := kp_fr hG27 (by omega) ht
      have hk29 := kp_fr hG27 (by omega) hnr
      have hk30 := kp_fr hG27 (by omega) hk21
      clear hk21
      have hF31 := Fr.trans hF hG27 (fun a b h => by omega)
      exact hret _ _ _ _ dX10_glimpse_38 rfl (by omega) ⟨hI26, hF31⟩
    · skip
      clear hq14
      refine j_iconst hX dX10_glimpse_22 ?_
      exact hret _ _ _ _ dX10_glimpse_23 rfl (by omega) ⟨hI, hF⟩
set_option maxHeartbeats 2000000 in
set_option maxRecDepth 20000 in
theorem c_X10_untell (l : Launch) (D : va_G) (cy : Nat → ClassId) (B N : Nat) (a : Int) (M : MM) (hN : 210 ≤ N) (hI : Iv M) (hpa : I32 a) : CI l D cy B N 2 yX10_untell cX10_untell 2 (some .boolean) [rv B 0, iv a] M (fun z M' => Iv M' ∧ Fr (fun a (_ : Int) => (a = 170)) M M' ∧ (0 ≤ z ∧ z ≤ 1)) := by
  refine mk_CI (by decide) (Nat.le_of_ble_eq_true rfl) ?_
  intro X exl exD excy hnL hX hret
  have hce : 0 + 0 ≤ (xR X).cells ∧ 0 + 0 ≤ (xR X).slots := ⟨Nat.zero_le _, Nat.zero_le _⟩
  have hF : Fr (fun a (_ : Int) => (a = 170)) M M := Fr.rf
  show J X B N 0 0 0 [(0, rv B 0), (1, iv a)] [] M
  refine j_aload_n hX dX10_untell_0 rfl 0 rfl ?_
  refine gf_X10_51 hX (by omega) (by omega) kc_0 (fc_0_6 hI) (by decide) dX10_untell_1 ?_
  refine j_iload_n hX dX10_untell_4 rfl 1 rfl ?_
  refine j_aload_n hX dX10_untell_5 rfl 0 rfl ?_
  refine gf_X10_73 hX (by omega) (by omega) kc_0 dX10_untell_6 ?_
  refine j_name hI ro_0_11 (fun v1 hv2 hl3 hh4 => ?_)
  have hk5 := hv2.symm
  refine j_callVI hX lk_X10_277 (c_X3_takeFrom _ _ _ _ _ _ _ _ (by omega) hI (by omega) (by omega)) (by omega) hce rfl rfl (by omega) (by omega) kc_164 rfl rfl (Nat.le_of_ble_eq_true rfl) dX10_untell_9 (fun z6 M7 hz9 hp8 => ?_)
  obtain ⟨hI10, hG11, hb12⟩ := hp8
  have hk13 := kp_fr hG11 (by omega) hk5
  clear hk5
  have hF14 := Fr.trans hF hG11 (fun a b h => by omega)
  exact hret _ _ _ _ dX10_untell_12 (nb (by omega)) (by omega) ⟨hI10, hF14, by omega⟩
set_option maxHeartbeats 2000000 in
set_option maxRecDepth 20000 in
theorem c_X10_lots (l : Launch) (D : va_G) (cy : Nat → ClassId) (B N : Nat) (q : Int) (a : Int) (M : MM) (hN : 210 ≤ N) (hI : Iv M) (hpa : I32 a) (hq : q = 5 ∨ q = 180) (ht : M.1 0 8 = q) : CI l D cy B N 4 yX10_lots cX10_lots 2 (some .int) [rv B 0, iv a] M (fun z M' => Iv M' ∧ Fr (fun a (_ : Int) => (165 ≤ a ∧ a ≤ 166) ∨ (171 ≤ a ∧ a ≤ 178)) M M') := by
  refine mk_CI (by decide) (Nat.le_of_ble_eq_true rfl) ?_
  intro X exl exD excy hnL hX hret
  have hce : 0 + 0 ≤ (xR X).cells ∧ 0 + 0 ≤ (xR X).slots := ⟨Nat.zero_le _, Nat.zero_le _⟩
  have hdq : 5 ≤ q ∧ q ≤ 180 := by omega
  have hF : Fr (fun a (_ : Int) => (165 ≤ a ∧ a ≤ 166) ∨ (171 ≤ a ∧ a ≤ 178)) M M := Fr.rf
  show J X B N 0 0 0 [(0, rv B 0), (1, iv a)] [] M
  refine j_aload_n hX dX10_lots_0 rfl 0 rfl ?_
  refine gf_X10_51 hX (by omega) (by omega) kc_0 (fc_0_6 hI) (by decide) dX10_lots_1 ?_
  refine j_aload_n hX dX10_lots_4 rfl 0 rfl ?_
  refine gf_X10_62 hX (by omega) (by omega) kc_0 ht (by omega) dX10_lots_5 ?_
  refine gf_X10_111 hX (by omega) (by omega) (kq hq) dX10_lots_8 ?_
  refine j_name hI (rq_0 hq) (fun v1 hv2 hl3 hh4 => ?_)
  have hk5 := hv2.symm
  refine j_iload_n hX dX10_lots_11 rfl 1 rfl ?_
  refine j_callVI hX lk_X10_281 (c_X3_tally _ _ _ _ _ _ _ _ (by omega) hI (by omega) (by omega) (by first | assumption | omega)) (by omega) hce rfl rfl (by omega) (by omega) kc_164 rfl rfl (Nat.le_of_ble_eq_true rfl) dX10_lots_12 (fun z6 M7 hz9 hp8 => ?_)
  obtain ⟨hI10, hG11⟩ := hp8
  have hk12 := kp_fr hG11 (by omega) ht
  have hk13 := kp_fr hG11 (by omega) hk5
  clear hk5
  have hF14 := Fr.trans hF hG11 (fun a b h => by omega)
  exact hret _ _ _ _ dX10_lots_15 rfl (by omega) ⟨hI10, hF14⟩
set_option maxHeartbeats 2000000 in
set_option maxRecDepth 20000 in
theorem c_X10_sure (l : Launch) (D : va_G) (cy : Nat → ClassId) (B N : Nat) (q : Int) (nr : Int) (a : Int) (b : Int) (M : MM) (hN : 210 ≤ N) (hI : Iv M) (hpa : I32 a) (hpb : I32 b) (hq : q = 5 ∨ q = 180) (ht : M.1 0 8 = q) (hnr : M.1 q 0 = nr) (hnb : 0 ≤ nr ∧ nr ≤ 6) : CI l D cy B N 4 yX10_sure cX10_sure 4 (some .int) [rv B 0, iv a, iv b] M (fun z M' => Iv M' ∧ Fr (fun a (_ : Int) => (165 ≤ a ∧ a ≤ 166) ∨ (171 ≤ a ∧ a ≤ 178)) M M') := by
  refine mk_CI (by decide) (Nat.le_of_ble_eq_true rfl) ?_
  intro X exl exD excy hnL hX hret
  have hce : 0 + 0 ≤ (xR X).cells ∧ 0 + 0 ≤ (xR X).slots := ⟨Nat.zero_le _, Nat.zero_le _⟩
  have hdq : 5 ≤ q ∧ q ≤ 180 := by omega
  have hF : Fr (fun a (_ : Int) => (165 ≤ a ∧ a ≤ 166) ∨ (171 ≤ a ∧ a ≤ 178)) M M := Fr.rf
  show J X B N 0 0 0 [(0, rv B 0), (1, iv a), (2, iv b)] [] M
  refine j_aload_n hX dX10_sure_0 rfl 0 rfl ?_
  refine gf_X10_62 hX (by omega) (by omega) kc_0 ht (by omega) dX10_sure_1 ?_
  refine j_iload_n hX dX10_sure_4 rfl 1 rfl ?_
  refine j_callVI hX lk_X10_120 (c_X6_hasRoom _ _ _ _ _ q _ _ (by omega) hI (by omega) hq) (by omega) hce rfl rfl (by omega) (by omega) (kq hq) rfl rfl (Nat.le_of_ble_eq_true rfl) dX10_sure_5 (fun z1 M2 hz4 hp3 => ?_)
  obtain ⟨rfl, hb5, hq6⟩ := hp3
  refine j_if_ne (tgt := 13) hX dX10_sure_8 (by decide) (by omega) (fun hc7 => ?_) (fun hc7 => ?_)
  · skip
    have hi8 := hq6 (by omega)
    clear hq6
    refine j_aload_n hX dX10_sure_13 rfl 0 rfl ?_
    refine gf_X10_51 hX (by omega) (by omega) kc_0 (fc_0_6 hI) (by decide) dX10_sure_14 ?_
    refine j_aload_n hX dX10_sure_17 rfl 0 rfl ?_
    refine gf_X10_62 hX (by omega) (by omega) kc_0 ht (by omega) dX10_sure_18 ?_
    refine gf_X10_111 hX (by omega) (by omega) (kq hq) dX10_sure_21 ?_
    refine j_top hnr ?_
    refine j_iload_n hX dX10_sure_24 rfl 2 rfl ?_
    refine j_callVI hX lk_X10_281 (c_X3_tally _ _ _ _ _ _ _ _ (by omega) hI (by omega) (by omega) (by first | assumption | omega)) (by omega) hce rfl rfl (by omega) (by omega) kc_164 rfl rfl (Nat.le_of_ble_eq_true rfl) dX10_sure_25 (fun z9 M10 hz12 hp11 => ?_)
    obtain ⟨hI13, hG14⟩ := hp11
    have hk15 := kp_fr hG14 (by omega) ht
    have hk16 := kp_fr hG14 (by omega) hnr
    have hF17 := Fr.trans hF hG14 (fun a b h => by omega)
    refine j_istore_n (lv' := [(3, _), (0, _), (1, _), (2, _)]) hX dX10_sure_28 rfl (by rw [hnL]; decide) rfl ?_
    refine j_iload_n hX dX10_sure_29 rfl 0 rfl ?_
    refine j_if_ne (tgt := 37) hX dX10_sure_30 (by decide) (by omega) (fun hc18 => ?_) (fun hc18 => ?_)
    · skip
      refine j_aload_n hX dX10_sure_37 rfl 1 rfl ?_
      refine gf_X10_51 hX (by omega) (by omega) kc_0 (fc_0_6 hI13) (by decide) dX10_sure_38 ?_
      refine j_iload_n hX dX10_sure_41 rfl 2 rfl ?_
      refine j_iload_n hX dX10_sure_42 rfl 0 rfl ?_
      refine j_callVI hX lk_X10_284 (c_X3_sameInAll _ _ _ _ _ _ _ _ (by omega) hI13 (by omega) (by omega) (by first | assumption | omega)) (by omega) hce rfl rfl (by omega) (by omega) kc_164 rfl rfl (Nat.le_of_ble_eq_true rfl) dX10_sure_43 (fun z19 M20 hz22 hp21 => ?_)
      subst hp21
      exact hret _ _ _ _ dX10_sure_46 rfl (by omega) ⟨hI13, hF17⟩
    · skip
      refine j_iconst hX dX10_sure_33 ?_
      refine j_goto (tgt := 46) hX dX10_sure_34 (by decide) ?_
      exact hret _ _ _ _ dX10_sure_46 rfl (by omega) ⟨hI13, hF17⟩
  · skip
    clear hq6
    refine j_iconst hX dX10_sure_11 ?_
    exact hret _ _ _ _ dX10_sure_12 rfl (by omega) ⟨hI, hF⟩
set_option maxHeartbeats 2000000 in
set_option maxRecDepth 20000 in
theorem c_X10_ask (l : Launch) (D : va_G) (cy : Nat → ClassId) (B N : Nat) (q : Int) (nr : Int) (a : Int) (b : Int) (M : MM) (hN : 210 ≤ N) (hI : Iv M) (hpa : I32 a) (hpb : I32 b) (hq : q = 5 ∨ q = 180) (ht : M.1 0 8 = q) (hnr : M.1 q 0 = nr) (hnb : 0 ≤ nr ∧ nr ≤ 6) : CI l D cy B N 4 yX10_ask cX10_ask 7 (some .int) [rv B 0, iv a, iv b] M (fun z M' => Iv M' ∧ Fr (fun a (_ : Int) => (165 ≤ a ∧ a ≤ 166) ∨ (171 ≤ a ∧ a ≤ 178)) M M') := by
  refine mk_CI (by decide) (Nat.le_of_ble_eq_true rfl) ?_
  intro X exl exD excy hnL hX hret
  have hce : 0 + 0 ≤ (xR X).cells ∧ 0 + 0 ≤ (xR X).slots := ⟨Nat.zero_le _, Nat.zero_le _⟩
  have hdq : 5 ≤ q ∧ q ≤ 180 := by omega
  have hF : Fr (fun a (_ : Int) => (165 ≤ a ∧ a ≤ 166) ∨ (171 ≤ a ∧ a ≤ 178)) M M := Fr.rf
  have cp : ∀ n : Nat, (∀ (x3 x4 x5 : Int), ∀ (Mc : MM), I32 x3 → I32 x4 → I32 x5 → Iv Mc → Fr (fun a (_ : Int) => (165 ≤ a ∧ a ≤ 166) ∨ (171 ≤ a ∧ a ≤ 178)) M Mc → Mc.1 0 8 = q → Mc.1 q 0 = nr → (0 ≤ x5 ∧ x5 ≤ 6) → 0 ≤ 32 * (6 - x5) + 1 → 32 * (6 - x5) + 1 < (n : Int) → J X B N 0 0 37 [(0, rv B 0), (1, iv a), (2, iv b), (3, iv x3), (4, iv x4), (5, iv x5)] [] Mc) := by
    intro n
    induction n with
    | zero => exact by intros; exfalso; omega
    | succ n ih =>
      · intro x3 x4 x5 Mc hxx3 hxx4 hxx5 hI hF hk_0 hk_1 h2 hm0 hm1
        refine j_iload hX dX10_ask_37 5 rfl ?_
        refine j_aload_n hX dX10_ask_39 rfl 0 rfl ?_
        refine gf_X10_62 hX (by omega) (by omega) kc_0 hk_0 (by omega) dX10_ask_40 ?_
        refine gf_X10_111 hX (by omega) (by omega) (kq hq) dX10_ask_43 ?_
        refine j_top hk_1 ?_
        refine j_icmp_ge (tgt := 85) hX dX10_ask_46 (by decide) (by omega) (by omega) (fun hc1 => ?_) (fun hc1 => ?_)
        · skip
          refine j_iload_n hX dX10_ask_85 rfl 1 rfl ?_
          refine j_if_ne (tgt := 93) hX dX10_ask_86 (by decide) (by omega) (fun hc2 => ?_) (fun hc2 => ?_)
          · skip
            refine j_iload hX dX10_ask_93 4 rfl ?_
            exact hret _ _ _ _ dX10_ask_95 rfl (by omega) ⟨hI, hF⟩
          · skip
            refine j_iload_n hX dX10_ask_89 rfl 3 rfl ?_
            refine j_goto (tgt := 95) hX dX10_ask_90 (by decide) ?_
            exact hret _ _ _ _ dX10_ask_95 rfl (by omega) ⟨hI, hF⟩
        · skip
          refine j_aload_n hX dX10_ask_49 rfl 0 rfl ?_
          refine gf_X10_51 hX (by omega) (by omega) kc_0 (fc_0_6 hI) (by decide) dX10_ask_50 ?_
          refine j_iload hX dX10_ask_53 5 rfl ?_
          refine j_callVI hX lk_X10_287 (c_X3_mostLeft _ _ _ _ _ _ _ (by omega) hI (by omega) (by first | assumption | omega)) (by omega) hce rfl rfl (by omega) (by omega) kc_164 rfl rfl (Nat.le_of_ble_eq_true rfl) dX10_ask_55 (fun z3 M4 hz6 hp5 => ?_)
          subst hp5
          refine j_istore (lv' := [(6, _), (0, _), (1, _), (2, _), (3, _), (4, _), (5, _)]) hX dX10_ask_58 (by rw [hnL]; decide) rfl ?_
          refine j_iload_n hX dX10_ask_60 rfl 4 rfl ?_
          refine j_iconst hX dX10_ask_61 ?_
          refine j_icmp_eq (tgt := 72) hX dX10_ask_62 (by decide) (by omega) (by omega) (fun hc7 => ?_) (fun hc7 => ?_)
          · skip
            refine j_iload hX dX10_ask_72 6 rfl ?_
            refine j_istore_n (lv' := [(3, _), (6, _), (0, _), (1, _), (2, _), (4, _), (5, _)]) hX dX10_ask_74 rfl (by rw [hnL]; decide) rfl ?_
            refine j_iload hX dX10_ask_75 1 rfl ?_
            refine j_istore (lv' := [(4, _), (3, _), (6, _), (0, _), (1, _), (2, _), (5, _)]) hX dX10_ask_77 (by rw [hnL]; decide) rfl ?_
            refine j_iinc (lv' := [(5, _), (4, _), (3, _), (6, _), (0, _), (1, _), (2, _)]) hX dX10_ask_79 6 rfl (by rw [hnL]; decide) rfl ?_
            refine j_goto (tgt := 37) hX dX10_ask_82 (by decide) ?_
            refine j_sub [4, 5, 6, 2, 1, 0] rfl ?_
            exact ih _ _ _ _ (by omega) (by omega) (by omega) hI hF hk_0 hk_1 (by first | assumption | omega) (by omega) (by omega)
          · skip
            refine j_iload hX dX10_ask_65 0 rfl ?_
            refine j_iload hX dX10_ask_67 5 rfl ?_
            refine j_icmp_ge (tgt := 79) hX dX10_ask_69 (by decide) (by omega) (by omega) (fun hc8 => ?_) (fun hc8 => ?_)
            · skip
              refine j_iinc (lv' := [(5, _), (6, _), (0, _), (1, _), (2, _), (3, _), (4, _)]) hX dX10_ask_79 6 rfl (by rw [hnL]; decide) rfl ?_
              refine j_goto (tgt := 37) hX dX10_ask_82 (by decide) ?_
              refine j_sub [2, 3, 4, 5, 6, 0] rfl ?_
              exact ih _ _ _ _ (by omega) (by omega) (by omega) hI hF hk_0 hk_1 (by first | assumption | omega) (by omega) (by omega)
            · skip
              refine j_iload hX dX10_ask_72 6 rfl ?_
              refine j_istore_n (lv' := [(3, _), (6, _), (0, _), (1, _), (2, _), (4, _), (5, _)]) hX dX10_ask_74 rfl (by rw [hnL]; decide) rfl ?_
              refine j_iload hX dX10_ask_75 1 rfl ?_
              refine j_istore (lv' := [(4, _), (3, _), (6, _), (0, _), (1, _), (2, _), (5, _)]) hX dX10_ask_77 (by rw [hnL]; decide) rfl ?_
              refine j_iinc (lv' := [(5, _), (4, _), (3, _), (6, _), (0, _), (1, _), (2, _)]) hX dX10_ask_79 6 rfl (by rw [hnL]; decide) rfl ?_
              refine j_goto (tgt := 37) hX dX10_ask_82 (by decide) ?_
              refine j_sub [4, 5, 6, 2, 1, 0] rfl ?_
              exact ih _ _ _ _ (by omega) (by omega) (by omega) hI hF hk_0 hk_1 (by first | assumption | omega) (by omega) (by omega)
  show J X B N 0 0 0 [(0, rv B 0), (1, iv a), (2, iv b)] [] M
  refine j_iload_n hX dX10_ask_0 rfl 1 rfl ?_
  refine j_if_lt (tgt := 27) hX dX10_ask_1 (by decide) (by omega) (fun hc9 => ?_) (fun hc9 => ?_)
  · skip
    refine j_iconst hX dX10_ask_27 ?_
    exact hret _ _ _ _ dX10_ask_28 rfl (by omega) ⟨hI, hF⟩
  · skip
    refine j_iload_n hX dX10_ask_4 rfl 1 rfl ?_
    refine j_iconst hX dX10_ask_5 ?_
    refine j_icmp_gt (tgt := 27) hX dX10_ask_6 (by decide) (by omega) (by omega) (fun hc10 => ?_) (fun hc10 => ?_)
    · skip
      refine j_iconst hX dX10_ask_27 ?_
      exact hret _ _ _ _ dX10_ask_28 rfl (by omega) ⟨hI, hF⟩
    · skip
      refine j_aload_n hX dX10_ask_9 rfl 0 rfl ?_
      refine gf_X10_51 hX (by omega) (by omega) kc_0 (fc_0_6 hI) (by decide) dX10_ask_10 ?_
      refine j_aload_n hX dX10_ask_13 rfl 0 rfl ?_
      refine gf_X10_62 hX (by omega) (by omega) kc_0 ht (by omega) dX10_ask_14 ?_
      refine gf_X10_111 hX (by omega) (by omega) (kq hq) dX10_ask_17 ?_
      refine j_top hnr ?_
      refine j_iload_n hX dX10_ask_20 rfl 2 rfl ?_
      refine j_callVI hX lk_X10_281 (c_X3_tally _ _ _ _ _ _ _ _ (by omega) hI (by omega) (by omega) (by first | assumption | omega)) (by omega) hce rfl rfl (by omega) (by omega) kc_164 rfl rfl (Nat.le_of_ble_eq_true rfl) dX10_ask_21 (fun z11 M12 hz14 hp13 => ?_)
      obtain ⟨hI15, hG16⟩ := hp13
      have hk17 := kp_fr hG16 (by omega) ht
      have hk18 := kp_fr hG16 (by omega) hnr
      have hF19 := Fr.trans hF hG16 (fun a b h => by omega)
      refine j_if_ne (tgt := 29) hX dX10_ask_24 (by decide) (by omega) (fun hc20 => ?_) (fun hc20 => ?_)
      · skip
        refine j_iconst hX dX10_ask_29 ?_
        refine j_istore_n (lv' := [(3, _), (0, _), (1, _), (2, _)]) hX dX10_ask_30 rfl (by rw [hnL]; decide) rfl ?_
        refine j_iconst hX dX10_ask_31 ?_
        refine j_istore (lv' := [(4, _), (3, _), (0, _), (1, _), (2, _)]) hX dX10_ask_32 (by rw [hnL]; decide) rfl ?_
        refine j_iconst hX dX10_ask_34 ?_
        refine j_istore (lv' := [(5, _), (4, _), (3, _), (0, _), (1, _), (2, _)]) hX dX10_ask_35 (by rw [hnL]; decide) rfl ?_
        refine j_sub [3, 4, 5, 2, 1, 0] rfl ?_
        refine (cp (Int.toNat (256 + 1))) _ _ _ _ (by omega) (by omega) (by omega) hI15 hF19 hk17 hk18 (by first | assumption | omega) ?_ ?_
        · omega
        · omega
      · skip
        refine j_iconst hX dX10_ask_27 ?_
        exact hret _ _ _ _ dX10_ask_28 rfl (by omega) ⟨hI15, hF19⟩
set_option maxHeartbeats 2000000 in
set_option maxRecDepth 20000 in
theorem c_X10_aim (l : Launch) (D : va_G) (cy : Nat → ClassId) (B N : Nat) (q : Int) (nr : Int) (a : Int) (b : Int) (M : MM) (hN : 210 ≤ N) (hI : Iv M) (hpa : I32 a) (hpb : I32 b) (hq : q = 5 ∨ q = 180) (ht : M.1 0 8 = q) (hnr : M.1 q 0 = nr) (hnb : 0 ≤ nr ∧ nr ≤ 6) : CI l D cy B N 2 yX10_aim cX10_aim 3 (some .boolean) [rv B 0, iv a, iv b] M (fun z M' => Iv M' ∧ Fr (fun a (_ : Int) => (a = 160)) M M' ∧ (0 ≤ z ∧ z ≤ 1)) := by
  refine mk_CI (by decide) (Nat.le_of_ble_eq_true rfl) ?_
  intro X exl exD excy hnL hX hret
  have hce : 0 + 0 ≤ (xR X).cells ∧ 0 + 0 ≤ (xR X).slots := ⟨Nat.zero_le _, Nat.zero_le _⟩
  have hdq : 5 ≤ q ∧ q ≤ 180 := by omega
  have hF : Fr (fun a (_ : Int) => (a = 160)) M M := Fr.rf
  show J X B N 0 0 0 [(0, rv B 0), (1, iv a), (2, iv b)] [] M
  refine j_aload_n hX dX10_aim_0 rfl 0 rfl ?_
  refine gf_X10_62 hX (by omega) (by omega) kc_0 ht (by omega) dX10_aim_1 ?_
  refine j_iload_n hX dX10_aim_4 rfl 1 rfl ?_
  refine j_callVI hX lk_X10_120 (c_X6_hasRoom _ _ _ _ _ q _ _ (by omega) hI (by omega) hq) (by omega) hce rfl rfl (by omega) (by omega) (kq hq) rfl rfl (Nat.le_of_ble_eq_true rfl) dX10_aim_5 (fun z1 M2 hz4 hp3 => ?_)
  obtain ⟨rfl, hb5, hq6⟩ := hp3
  refine j_if_eq (tgt := 22) hX dX10_aim_8 (by decide) (by omega) (fun hc7 => ?_) (fun hc7 => ?_)
  · skip
    clear hq6
    refine j_iconst hX dX10_aim_22 ?_
    exact hret _ _ _ _ dX10_aim_23 (nb (by omega)) (by omega) ⟨hI, hF, by omega⟩
  · skip
    have hi8 := hq6 (by omega)
    clear hq6
    refine j_aload_n hX dX10_aim_11 rfl 0 rfl ?_
    refine gf_X10_62 hX (by omega) (by omega) kc_0 ht (by omega) dX10_aim_12 ?_
    refine j_iload_n hX dX10_aim_15 rfl 2 rfl ?_
    refine j_callVI hX lk_X10_120 (c_X6_hasRoom _ _ _ _ _ q _ _ (by omega) hI (by omega) hq) (by omega) hce rfl rfl (by omega) (by omega) (kq hq) rfl rfl (Nat.le_of_ble_eq_true rfl) dX10_aim_16 (fun z9 M10 hz12 hp11 => ?_)
    obtain ⟨rfl, hb13, hq14⟩ := hp11
    refine j_if_ne (tgt := 24) hX dX10_aim_19 (by decide) (by omega) (fun hc15 => ?_) (fun hc15 => ?_)
    · skip
      have hi16 := hq14 (by omega)
      clear hq14
      refine j_aload_n hX dX10_aim_24 rfl 0 rfl ?_
      refine gf_X10_44 hX (by omega) (by omega) kc_0 (fc_0_5 hI) (by decide) dX10_aim_25 ?_
      refine j_iload_n hX dX10_aim_28 rfl 1 rfl ?_
      refine j_iload_n hX dX10_aim_29 rfl 2 rfl ?_
      refine j_callVI hX lk_X10_227 (c_X5_setAim _ _ _ _ _ _ _ _ (by omega) hI (by omega) (by omega) (by first | assumption | omega)) (by omega) hce rfl rfl (by omega) (by omega) kc_157 rfl rfl (Nat.le_of_ble_eq_true rfl) dX10_aim_30 (fun z17 M18 hz20 hp19 => ?_)
      obtain ⟨hI21, hG22, hb23⟩ := hp19
      have hk24 := kp_fr hG22 (by omega) ht
      have hk25 := kp_fr hG22 (by omega) hnr
      have hF26 := Fr.trans hF hG22 (fun a b h => by omega)
      exact hret _ _ _ _ dX10_aim_33 (nb (by omega)) (by omega) ⟨hI21, hF26, by omega⟩
    · skip
      clear hq14
      refine j_iconst hX dX10_aim_22 ?_
      exact hret _ _ _ _ dX10_aim_23 (nb (by omega)) (by omega) ⟨hI, hF, by omega⟩
set_option maxHeartbeats 2000000 in
set_option maxRecDepth 20000 in
theorem c_X10_drop (l : Launch) (D : va_G) (cy : Nat → ClassId) (B N : Nat) (q : Int) (nr : Int) (a : Int) (M : MM) (hN : 210 ≤ N) (hI : Iv M) (hpa : I32 a) (hq : q = 5 ∨ q = 180) (ht : M.1 0 8 = q) (hnr : M.1 q 0 = nr) (hnb : 0 ≤ nr ∧ nr ≤ 6) : CI l D cy B N 2 yX10_drop cX10_drop 2 (some .boolean) [rv B 0, iv a] M (fun z M' => Iv M' ∧ Fr (fun a (_ : Int) => (a = 160)) M M' ∧ (0 ≤ z ∧ z ≤ 1)) := by
  refine mk_CI (by decide) (Nat.le_of_ble_eq_true rfl) ?_
  intro X exl exD excy hnL hX hret
  have hce : 0 + 0 ≤ (xR X).cells ∧ 0 + 0 ≤ (xR X).slots := ⟨Nat.zero_le _, Nat.zero_le _⟩
  have hdq : 5 ≤ q ∧ q ≤ 180 := by omega
  have hF : Fr (fun a (_ : Int) => (a = 160)) M M := Fr.rf
  show J X B N 0 0 0 [(0, rv B 0), (1, iv a)] [] M
  refine j_aload_n hX dX10_drop_0 rfl 0 rfl ?_
  refine gf_X10_62 hX (by omega) (by omega) kc_0 ht (by omega) dX10_drop_1 ?_
  refine j_iload_n hX dX10_drop_4 rfl 1 rfl ?_
  refine j_callVI hX lk_X10_120 (c_X6_hasRoom _ _ _ _ _ q _ _ (by omega) hI (by omega) hq) (by omega) hce rfl rfl (by omega) (by omega) (kq hq) rfl rfl (Nat.le_of_ble_eq_true rfl) dX10_drop_5 (fun z1 M2 hz4 hp3 => ?_)
  obtain ⟨rfl, hb5, hq6⟩ := hp3
  refine j_if_eq (tgt := 26) hX dX10_drop_8 (by decide) (by omega) (fun hc7 => ?_) (fun hc7 => ?_)
  · skip
    clear hq6
    refine j_iconst hX dX10_drop_26 ?_
    exact hret _ _ _ _ dX10_drop_27 (nb (by omega)) (by omega) ⟨hI, hF, by omega⟩
  · skip
    have hi8 := hq6 (by omega)
    clear hq6
    refine j_aload_n hX dX10_drop_11 rfl 0 rfl ?_
    refine gf_X10_44 hX (by omega) (by omega) kc_0 (fc_0_5 hI) (by decide) dX10_drop_12 ?_
    refine j_iload_n hX dX10_drop_15 rfl 1 rfl ?_
    refine j_callVI hX lk_X10_230 (c_X5_dropAim _ _ _ _ _ _ _ (by omega) hI (by omega) (by first | assumption | omega)) (by omega) hce rfl rfl (by omega) (by omega) kc_157 rfl rfl (Nat.le_of_ble_eq_true rfl) dX10_drop_16 (fun z9 M10 hz12 hp11 => ?_)
    obtain ⟨hI13, hG14, hb15⟩ := hp11
    have hk16 := kp_fr hG14 (by omega) ht
    have hk17 := kp_fr hG14 (by omega) hnr
    have hF18 := Fr.trans hF hG14 (fun a b h => by omega)
    refine j_if_eq (tgt := 26) hX dX10_drop_19 (by decide) (by omega) (fun hc19 => ?_) (fun hc19 => ?_)
    · skip
      refine j_iconst hX dX10_drop_26 ?_
      exact hret _ _ _ _ dX10_drop_27 (nb (by omega)) (by omega) ⟨hI13, hF18, by omega⟩
    · skip
      refine j_iconst hX dX10_drop_22 ?_
      refine j_goto (tgt := 27) hX dX10_drop_23 (by decide) ?_
      exact hret _ _ _ _ dX10_drop_27 (nb (by omega)) (by omega) ⟨hI13, hF18, by omega⟩
set_option maxHeartbeats 2000000 in
set_option maxRecDepth 20000 in
theorem c_X10_fair (l : Launch) (D : va_G) (cy : Nat → ClassId) (B N : Nat) (q : Int) (M : MM) (hN : 210 ≤ N) (hI : Iv M) (hq : q = 5 ∨ q = 180) (ht : M.1 0 8 = q) : CI l D cy B N 4 yX10_fair cX10_fair 1 (some .int) [rv B 0] M (fun z M' => Iv M' ∧ Fr (fun a (_ : Int) => (158 ≤ a ∧ a ≤ 159) ∨ (a = 161)) M M') := by
  refine mk_CI (by decide) (Nat.le_of_ble_eq_true rfl) ?_
  intro X exl exD excy hnL hX hret
  have hce : 0 + 0 ≤ (xR X).cells ∧ 0 + 0 ≤ (xR X).slots := ⟨Nat.zero_le _, Nat.zero_le _⟩
  have hdq : 5 ≤ q ∧ q ≤ 180 := by omega
  have hF : Fr (fun a (_ : Int) => (158 ≤ a ∧ a ≤ 159) ∨ (a = 161)) M M := Fr.rf
  show J X B N 0 0 0 [(0, rv B 0)] [] M
  refine j_aload_n hX dX10_fair_0 rfl 0 rfl ?_
  refine gf_X10_44 hX (by omega) (by omega) kc_0 (fc_0_5 hI) (by decide) dX10_fair_1 ?_
  refine j_aload_n hX dX10_fair_4 rfl 0 rfl ?_
  refine gf_X10_62 hX (by omega) (by omega) kc_0 ht (by omega) dX10_fair_5 ?_
  refine gf_X10_111 hX (by omega) (by omega) (kq hq) dX10_fair_8 ?_
  refine j_name hI (rq_0 hq) (fun v1 hv2 hl3 hh4 => ?_)
  have hk5 := hv2.symm
  refine j_callVI hX lk_X10_260 (c_X5_fairLots _ _ _ _ _ _ _ (by omega) hI (by omega) (by first | assumption | omega)) (by omega) hce rfl rfl (by omega) (by omega) kc_157 rfl rfl (Nat.le_of_ble_eq_true rfl) dX10_fair_11 (fun z6 M7 hz9 hp8 => ?_)
  obtain ⟨hI10, hG11⟩ := hp8
  have hk12 := kp_fr hG11 (by omega) ht
  have hk13 := kp_fr hG11 (by omega) hk5
  clear hk5
  have hF14 := Fr.trans hF hG11 (fun a b h => by omega)
  exact hret _ _ _ _ dX10_fair_14 rfl (by omega) ⟨hI10, hF14⟩
set_option maxHeartbeats 2000000 in
set_option maxRecDepth 20000 in
theorem c_X10_best (l : Launch) (D : va_G) (cy : Nat → ClassId) (B N : Nat) (q : Int) (nr : Int) (M : MM) (hN : 210 ≤ N) (hI : Iv M) (hq : q = 5 ∨ q = 180) (ht : M.1 0 8 = q) (hnr : M.1 q 0 = nr) (hnb : 0 ≤ nr ∧ nr ≤ 6) : CI l D cy B N 4 yX10_best cX10_best 1 (some .int) [rv B 0] M (fun z M' => Iv M' ∧ Fr (fun a b => (a = 0 ∧ 10 ≤ b ∧ b ≤ 10) ∨ (158 ≤ a ∧ a ≤ 159) ∨ (a = 179)) M M') := by
  refine mk_CI (by decide) (Nat.le_of_ble_eq_true rfl) ?_
  intro X exl exD excy hnL hX hret
  have hce : 0 + 0 ≤ (xR X).cells ∧ 0 + 0 ≤ (xR X).slots := ⟨Nat.zero_le _, Nat.zero_le _⟩
  have hdq : 5 ≤ q ∧ q ≤ 180 := by omega
  have hF : Fr (fun a b => (a = 0 ∧ 10 ≤ b ∧ b ≤ 10) ∨ (158 ≤ a ∧ a ≤ 159) ∨ (a = 179)) M M := Fr.rf
  show J X B N 0 0 0 [(0, rv B 0)] [] M
  refine j_aload_n hX dX10_best_0 rfl 0 rfl ?_
  refine j_aload_n hX dX10_best_1 rfl 0 rfl ?_
  refine gf_X10_62 hX (by omega) (by omega) kc_0 ht (by omega) dX10_best_2 ?_
  refine gf_X10_111 hX (by omega) (by omega) (kq hq) dX10_best_5 ?_
  refine j_top hnr ?_
  refine pf_X10_70 hX (by omega) (by omega) kc_0 (by omega) dX10_best_8 ?_
  refine j_up hI ro_0_10 (by omega) (by omega) (Or.inl (by omega)) (fun M1 w2 hw3 hM4 hI5 hf6 => ?_)
  have hk7 := kp_up hM4 (fun h => absurd h.2 (by decide)) ht
  have hk8 := kp_up hM4 (by omega) hnr
  have hF9 := Fr.put hF hM4 (by omega)
  refine j_aload_n hX dX10_best_11 rfl 0 rfl ?_
  refine gf_X10_44 hX (by omega) (by omega) kc_0 (fc_0_5 hI5) (by decide) dX10_best_12 ?_
  refine j_aload_n hX dX10_best_15 rfl 0 rfl ?_
  refine gf_X10_62 hX (by omega) (by omega) kc_0 hk7 (by omega) dX10_best_16 ?_
  refine j_aload_n hX dX10_best_19 rfl 0 rfl ?_
  refine gf_X10_55 hX (by omega) (by omega) kc_0 (fc_0_7 hI5) (by decide) dX10_best_20 ?_
  refine j_callVI hX lk_X10_240 (c_X5_bestLot _ _ _ _ _ q _ _ (by omega) hI5 hq hk8 (by first | assumption | omega)) (by omega) hce rfl rfl (by omega) (by omega) kc_157 rfl rfl (Nat.le_of_ble_eq_true rfl) dX10_best_23 (fun z10 M11 hz13 hp12 => ?_)
  obtain ⟨hI14, hG15⟩ := hp12
  have hk16 := kp_fr hG15 (by omega) hk7
  have hk17 := kp_fr hG15 (by omega) hk8
  have hk18 := kp_fr hG15 (by omega) hf6
  clear hk7 hk8 hf6
  have hF19 := Fr.trans hF9 hG15 (fun a b h => by omega)
  exact hret _ _ _ _ dX10_best_26 rfl (by omega) ⟨hI14, hF19⟩
set_option maxHeartbeats 2000000 in
set_option maxRecDepth 20000 in
theorem c_X10_commonDivisor (l : Launch) (D : va_G) (cy : Nat → ClassId) (B N : Nat) (a : Int) (b : Int) (M : MM) (hpa : I32 a) (hpb : I32 b) : CI l D cy B N 1 yX10_commonDivisor cX10_commonDivisor 6 (some .int) [iv a, iv b] M (fun z M' => M' = M) := by
  refine mk_CI (by decide) (Nat.le_of_ble_eq_true rfl) ?_
  intro X exl exD excy hnL hX hret
  have hce : 0 + 0 ≤ (xR X).cells ∧ 0 + 0 ≤ (xR X).slots := ⟨Nat.zero_le _, Nat.zero_le _⟩
  have cp : ∀ n : Nat, (∀ (x2 x3 x4 : Int), I32 x2 → I32 x3 → I32 x4 → (0 ≤ x4 ∧ x4 ≤ 64) → 0 ≤ 32 * (64 - x4) + 1 → 32 * (64 - x4) + 1 < (n : Int) → J X B N 0 0 7 [(0, iv a), (1, iv b), (2, iv x2), (3, iv x3), (4, iv x4)] [] M) := by
    intro n
    induction n with
    | zero => exact by intros; exfalso; omega
    | succ n ih =>
      · intro x2 x3 x4 hxx2 hxx3 hxx4 h2 hm0 hm1
        refine j_iload hX dX10_commonDivisor_7 4 rfl ?_
        refine j_bipush hX dX10_commonDivisor_9 rfl ?_
        refine j_icmp_ge (tgt := 34) hX dX10_commonDivisor_11 (by decide) (by omega) (by omega) (fun hc1 => ?_) (fun hc1 => ?_)
        · skip
          refine j_iload_n hX dX10_commonDivisor_34 rfl 2 rfl ?_
          exact hret _ _ _ _ dX10_commonDivisor_35 rfl (by omega) rfl
        · skip
          refine j_iload_n hX dX10_commonDivisor_14 rfl 3 rfl ?_
          refine j_if_eq (tgt := 34) hX dX10_commonDivisor_15 (by decide) (by omega) (fun hc2 => ?_) (fun hc2 => ?_)
          · skip
            refine j_iload_n hX dX10_commonDivisor_34 rfl 2 rfl ?_
            exact hret _ _ _ _ dX10_commonDivisor_35 rfl (by omega) rfl
          · skip
            refine j_iload_n hX dX10_commonDivisor_18 rfl 2 rfl ?_
            refine j_iload_n hX dX10_commonDivisor_19 rfl 3 rfl ?_
            refine j_irem hX dX10_commonDivisor_20 (by omega) (by omega) (by omega) (fun z3 hz4 hy5 => ?_)
            refine j_istore (lv' := [(5, _), (0, _), (1, _), (2, _), (3, _), (4, _)]) hX dX10_commonDivisor_21 (by rw [hnL]; decide) rfl ?_
            refine j_iload_n hX dX10_commonDivisor_23 rfl 4 rfl ?_
            refine j_istore_n (lv' := [(2, _), (5, _), (0, _), (1, _), (3, _), (4, _)]) hX dX10_commonDivisor_24 rfl (by rw [hnL]; decide) rfl ?_
            refine j_iload hX dX10_commonDivisor_25 1 rfl ?_
            refine j_istore_n (lv' := [(3, _), (2, _), (5, _), (0, _), (1, _), (4, _)]) hX dX10_commonDivisor_27 rfl (by rw [hnL]; decide) rfl ?_
            refine j_iinc (lv' := [(4, _), (3, _), (2, _), (5, _), (0, _), (1, _)]) hX dX10_commonDivisor_28 5 rfl (by rw [hnL]; decide) rfl ?_
            refine j_goto (tgt := 7) hX dX10_commonDivisor_31 (by decide) ?_
            refine j_sub [4, 5, 2, 1, 0] rfl ?_
            exact ih _ _ _ (by omega) (by omega) (by omega) (by first | assumption | omega) (by omega) (by omega)
  show J X B N 0 0 0 [(0, iv a), (1, iv b)] [] M
  refine j_iload_n hX dX10_commonDivisor_0 rfl 0 rfl ?_
  refine j_istore_n (lv' := [(2, _), (0, _), (1, _)]) hX dX10_commonDivisor_1 rfl (by rw [hnL]; decide) rfl ?_
  refine j_iload_n hX dX10_commonDivisor_2 rfl 2 rfl ?_
  refine j_istore_n (lv' := [(3, _), (2, _), (0, _), (1, _)]) hX dX10_commonDivisor_3 rfl (by rw [hnL]; decide) rfl ?_
  refine j_iconst hX dX10_commonDivisor_4 ?_
  refine j_istore (lv' := [(4, _), (3, _), (2, _), (0, _), (1, _)]) hX dX10_commonDivisor_5 (by rw [hnL]; decide) rfl ?_
  refine j_sub [3, 4, 2, 1, 0] rfl ?_
  refine (cp (Int.toNat (2112 + 1))) _ _ _ (by omega) (by omega) (by omega) (by first | assumption | omega) ?_ ?_
  · omega
  · omega
set_option maxHeartbeats 2000000 in
set_option maxRecDepth 20000 in
theorem c_X10_odds (l : Launch) (D : va_G) (cy : Nat → ClassId) (B N : Nat) (q : Int) (nr : Int) (a : Int) (b : Int) (M : MM) (hN : 210 ≤ N) (hI : Iv M) (hpa : I32 a) (hpb : I32 b) (hq : q = 5 ∨ q = 180) (ht : M.1 0 8 = q) (hnr : M.1 q 0 = nr) (hnb : 0 ≤ nr ∧ nr ≤ 6) : CI l D cy B N 4 yX10_odds cX10_odds 6 (some .int) [rv B 0, iv a, iv b] M (fun z M' => Iv M' ∧ Fr (fun a (_ : Int) => (158 ≤ a ∧ a ≤ 159)) M M') := by
  refine mk_CI (by decide) (Nat.le_of_ble_eq_true rfl) ?_
  intro X exl exD excy hnL hX hret
  have hce : 0 + 0 ≤ (xR X).cells ∧ 0 + 0 ≤ (xR X).slots := ⟨Nat.zero_le _, Nat.zero_le _⟩
  have hdq : 5 ≤ q ∧ q ≤ 180 := by omega
  have hF : Fr (fun a (_ : Int) => (158 ≤ a ∧ a ≤ 159)) M M := Fr.rf
  show J X B N 0 0 0 [(0, rv B 0), (1, iv a), (2, iv b)] [] M
  refine j_iload_n hX dX10_odds_0 rfl 1 rfl ?_
  refine j_if_lt (tgt := 19) hX dX10_odds_1 (by decide) (by omega) (fun hc1 => ?_) (fun hc1 => ?_)
  · skip
    refine j_iconst hX dX10_odds_19 ?_
    exact hret _ _ _ _ dX10_odds_20 rfl (by omega) ⟨hI, hF⟩
  · skip
    refine j_iload_n hX dX10_odds_4 rfl 1 rfl ?_
    refine j_bipush hX dX10_odds_5 rfl ?_
    refine j_icmp_gt (tgt := 19) hX dX10_odds_7 (by decide) (by omega) (by omega) (fun hc2 => ?_) (fun hc2 => ?_)
    · skip
      refine j_iconst hX dX10_odds_19 ?_
      exact hret _ _ _ _ dX10_odds_20 rfl (by omega) ⟨hI, hF⟩
    · skip
      refine j_iload_n hX dX10_odds_10 rfl 2 rfl ?_
      refine j_if_lt (tgt := 19) hX dX10_odds_11 (by decide) (by omega) (fun hc3 => ?_) (fun hc3 => ?_)
      · skip
        refine j_iconst hX dX10_odds_19 ?_
        exact hret _ _ _ _ dX10_odds_20 rfl (by omega) ⟨hI, hF⟩
      · skip
        refine j_iload_n hX dX10_odds_14 rfl 2 rfl ?_
        refine j_iconst hX dX10_odds_15 ?_
        refine j_icmp_le (tgt := 21) hX dX10_odds_16 (by decide) (by omega) (by omega) (fun hc4 => ?_) (fun hc4 => ?_)
        · skip
          refine j_aload_n hX dX10_odds_21 rfl 0 rfl ?_
          refine gf_X10_44 hX (by omega) (by omega) kc_0 (fc_0_5 hI) (by decide) dX10_odds_22 ?_
          refine gf_X10_244 hX (by omega) (by omega) kc_157 (fc_157_0 hI) (by decide) dX10_odds_25 ?_
          refine j_aload_n hX dX10_odds_28 rfl 0 rfl ?_
          refine gf_X10_62 hX (by omega) (by omega) kc_0 ht (by omega) dX10_odds_29 ?_
          refine gf_X10_111 hX (by omega) (by omega) (kq hq) dX10_odds_32 ?_
          refine j_top hnr ?_
          refine j_callVI hX lk_X10_248 (c_X4_first _ _ _ _ _ 158 _ _ (by omega) hI (by omega) (by omega) (by first | assumption | omega)) (by omega) hce rfl rfl (by omega) (by omega) kc_158 rfl rfl (Nat.le_of_ble_eq_true rfl) dX10_odds_35 (fun z5 M6 hz8 hp7 => ?_)
          obtain ⟨hI9, hG10, hq11⟩ := hp7
          have hk12 := kp_fr hG10 (by omega) ht
          have hk13 := kp_fr hG10 (by omega) hnr
          have hF14 := Fr.trans hF hG10 (fun a b h => by omega)
          refine j_istore_n (lv' := [(3, _), (0, _), (1, _), (2, _)]) hX dX10_odds_38 rfl (by rw [hnL]; decide) rfl ?_
          refine j_aload_n hX dX10_odds_39 rfl 1 rfl ?_
          refine gf_X10_44 hX (by omega) (by omega) kc_0 (fc_0_5 hI9) (by decide) dX10_odds_40 ?_
          refine j_aload_n hX dX10_odds_43 rfl 1 rfl ?_
          refine gf_X10_62 hX (by omega) (by omega) kc_0 hk12 (by omega) dX10_odds_44 ?_
          refine j_iload_n hX dX10_odds_47 rfl 2 rfl ?_
          refine j_callVI hX lk_X10_253 (c_X5_lotsThatPlease _ _ _ _ _ q _ _ _ (by omega) hI9 (by omega) hq hk13 (by first | assumption | omega)) (by omega) hce rfl rfl (by omega) (by omega) kc_157 rfl rfl (Nat.le_of_ble_eq_true rfl) dX10_odds_48 (fun z15 M16 hz18 hp17 => ?_)
          obtain ⟨hI19, hG20⟩ := hp17
          have hk21 := kp_fr hG20 (by omega) hk12
          have hk22 := kp_fr hG20 (by omega) hk13
          clear hk12 hk13
          have hF23 := Fr.trans hF14 hG20 (fun a b h => by omega)
          refine j_istore (lv' := [(4, _), (3, _), (0, _), (1, _), (2, _)]) hX dX10_odds_51 (by rw [hnL]; decide) rfl ?_
          refine j_iload_n hX dX10_odds_53 rfl 1 rfl ?_
          refine j_iload hX dX10_odds_54 0 rfl ?_
          refine j_callSI hX lk_X10_257 (c_X10_commonDivisor _ _ _ _ _ _ _ _ (by omega) (by omega)) (by omega) hce rfl rfl (Nat.le_of_ble_eq_true rfl) dX10_odds_56 (fun z24 M25 hz27 hp26 => ?_)
          subst hp26
          refine j_istore (lv' := [(5, _), (4, _), (3, _), (0, _), (1, _), (2, _)]) hX dX10_odds_59 (by rw [hnL]; decide) rfl ?_
          refine j_iload hX dX10_odds_61 0 rfl ?_
          refine j_if_ne (tgt := 68) hX dX10_odds_63 (by decide) (by omega) (fun hc28 => ?_) (fun hc28 => ?_)
          · skip
            refine j_iload_n hX dX10_odds_68 rfl 5 rfl ?_
            refine j_if_ne (tgt := 77) hX dX10_odds_69 (by decide) (by omega) (fun hc29 => ?_) (fun hc29 => ?_)
            · skip
              refine j_iload_n hX dX10_odds_77 rfl 2 rfl ?_
              refine j_iload hX dX10_odds_78 0 rfl ?_
              refine j_idiv hX dX10_odds_80 (by omega) (by omega) (by omega) (fun z30 hz31 hy32 => ?_)
              exact hret _ _ _ _ dX10_odds_81 rfl (by omega) ⟨hI19, hF23⟩
            · skip
              refine j_iload hX dX10_odds_72 1 rfl ?_
              refine j_goto (tgt := 78) hX dX10_odds_74 (by decide) ?_
              refine j_iload hX dX10_odds_78 0 rfl ?_
              refine j_idiv hX dX10_odds_80 (by omega) (by omega) (by omega) (fun z33 hz34 hy35 => ?_)
              exact hret _ _ _ _ dX10_odds_81 rfl (by omega) ⟨hI19, hF23⟩
          · skip
            refine j_iconst hX dX10_odds_66 ?_
            exact hret _ _ _ _ dX10_odds_67 rfl (by omega) ⟨hI19, hF23⟩
        · skip
          refine j_iconst hX dX10_odds_19 ?_
          exact hret _ _ _ _ dX10_odds_20 rfl (by omega) ⟨hI, hF⟩
