theorem dJ6_bitCount_0f7a4_0 : decode cJ6_bitCount_0f7a4 0 = .ok (.iload_n 0, 1) := by decide +kernel
theorem dJ6_bitCount_0f7a4_1 : decode cJ6_bitCount_0f7a4 1 = .ok (.iload_n 0, 1) := by decide +kernel
theorem dJ6_bitCount_0f7a4_2 : decode cJ6_bitCount_0f7a4 2 = .ok (.iconst 1, 1) := by decide +kernel
theorem dJ6_bitCount_0f7a4_3 : decode cJ6_bitCount_0f7a4 3 = .ok (.iushr, 1) := by decide +kernel
theorem dJ6_bitCount_0f7a4_4 : decode cJ6_bitCount_0f7a4 4 = .ok (.ldc_w 265, 3) := by decide +kernel
theorem dJ6_bitCount_0f7a4_7 : decode cJ6_bitCount_0f7a4 7 = .ok (.iand, 1) := by decide +kernel
theorem dJ6_bitCount_0f7a4_8 : decode cJ6_bitCount_0f7a4 8 = .ok (.isub, 1) := by decide +kernel
theorem dJ6_bitCount_0f7a4_9 : decode cJ6_bitCount_0f7a4 9 = .ok (.istore_n 0, 1) := by decide +kernel
theorem dJ6_bitCount_0f7a4_10 : decode cJ6_bitCount_0f7a4 10 = .ok (.iload_n 0, 1) := by decide +kernel
theorem dJ6_bitCount_0f7a4_11 : decode cJ6_bitCount_0f7a4 11 = .ok (.ldc_w 266, 3) := by decide +kernel
theorem dJ6_bitCount_0f7a4_14 : decode cJ6_bitCount_0f7a4 14 = .ok (.iand, 1) := by decide +kernel
theorem dJ6_bitCount_0f7a4_15 : decode cJ6_bitCount_0f7a4 15 = .ok (.iload_n 0, 1) := by decide +kernel
theorem dJ6_bitCount_0f7a4_16 : decode cJ6_bitCount_0f7a4 16 = .ok (.iconst 2, 1) := by decide +kernel
theorem dJ6_bitCount_0f7a4_17 : decode cJ6_bitCount_0f7a4 17 = .ok (.iushr, 1) := by decide +kernel
theorem dJ6_bitCount_0f7a4_18 : decode cJ6_bitCount_0f7a4 18 = .ok (.ldc_w 266, 3) := by decide +kernel
theorem dJ6_bitCount_0f7a4_21 : decode cJ6_bitCount_0f7a4 21 = .ok (.iand, 1) := by decide +kernel
theorem dJ6_bitCount_0f7a4_22 : decode cJ6_bitCount_0f7a4 22 = .ok (.iadd, 1) := by decide +kernel
theorem dJ6_bitCount_0f7a4_23 : decode cJ6_bitCount_0f7a4 23 = .ok (.istore_n 0, 1) := by decide +kernel
theorem dJ6_bitCount_0f7a4_24 : decode cJ6_bitCount_0f7a4 24 = .ok (.iload_n 0, 1) := by decide +kernel
theorem dJ6_bitCount_0f7a4_25 : decode cJ6_bitCount_0f7a4 25 = .ok (.iload_n 0, 1) := by decide +kernel
theorem dJ6_bitCount_0f7a4_26 : decode cJ6_bitCount_0f7a4 26 = .ok (.iconst 4, 1) := by decide +kernel
theorem dJ6_bitCount_0f7a4_27 : decode cJ6_bitCount_0f7a4 27 = .ok (.iushr, 1) := by decide +kernel
theorem dJ6_bitCount_0f7a4_28 : decode cJ6_bitCount_0f7a4 28 = .ok (.iadd, 1) := by decide +kernel
theorem dJ6_bitCount_0f7a4_29 : decode cJ6_bitCount_0f7a4 29 = .ok (.ldc_w 267, 3) := by decide +kernel
theorem dJ6_bitCount_0f7a4_32 : decode cJ6_bitCount_0f7a4 32 = .ok (.iand, 1) := by decide +kernel
theorem dJ6_bitCount_0f7a4_33 : decode cJ6_bitCount_0f7a4 33 = .ok (.istore_n 0, 1) := by decide +kernel
theorem dJ6_bitCount_0f7a4_34 : decode cJ6_bitCount_0f7a4 34 = .ok (.iload_n 0, 1) := by decide +kernel
theorem dJ6_bitCount_0f7a4_35 : decode cJ6_bitCount_0f7a4 35 = .ok (.iload_n 0, 1) := by decide +kernel
theorem dJ6_bitCount_0f7a4_36 : decode cJ6_bitCount_0f7a4 36 = .ok (.bipush 8, 2) := by decide +kernel
theorem dJ6_bitCount_0f7a4_38 : decode cJ6_bitCount_0f7a4 38 = .ok (.iushr, 1) := by decide +kernel
theorem dJ6_bitCount_0f7a4_39 : decode cJ6_bitCount_0f7a4 39 = .ok (.iadd, 1) := by decide +kernel
theorem dJ6_bitCount_0f7a4_40 : decode cJ6_bitCount_0f7a4 40 = .ok (.istore_n 0, 1) := by decide +kernel
theorem dJ6_bitCount_0f7a4_41 : decode cJ6_bitCount_0f7a4 41 = .ok (.iload_n 0, 1) := by decide +kernel
theorem dJ6_bitCount_0f7a4_42 : decode cJ6_bitCount_0f7a4 42 = .ok (.iload_n 0, 1) := by decide +kernel
theorem dJ6_bitCount_0f7a4_43 : decode cJ6_bitCount_0f7a4 43 = .ok (.bipush 16, 2) := by decide +kernel
theorem dJ6_bitCount_0f7a4_45 : decode cJ6_bitCount_0f7a4 45 = .ok (.iushr, 1) := by decide +kernel
theorem dJ6_bitCount_0f7a4_46 : decode cJ6_bitCount_0f7a4 46 = .ok (.iadd, 1) := by decide +kernel
theorem dJ6_bitCount_0f7a4_47 : decode cJ6_bitCount_0f7a4 47 = .ok (.istore_n 0, 1) := by decide +kernel
theorem dJ6_bitCount_0f7a4_48 : decode cJ6_bitCount_0f7a4 48 = .ok (.iload_n 0, 1) := by decide +kernel
theorem dJ6_bitCount_0f7a4_49 : decode cJ6_bitCount_0f7a4 49 = .ok (.bipush 63, 2) := by decide +kernel
theorem dJ6_bitCount_0f7a4_51 : decode cJ6_bitCount_0f7a4 51 = .ok (.iand, 1) := by decide +kernel
theorem dJ6_bitCount_0f7a4_52 : decode cJ6_bitCount_0f7a4 52 = .ok (.ireturn, 1) := by decide +kernel
theorem dX9_hasPlaceFor_0 : decode cX9_hasPlaceFor 0 = .ok (.aload_n 0, 1) := by decide +kernel
theorem dX9_hasPlaceFor_1 : decode cX9_hasPlaceFor 1 = .ok (.getfield 19, 3) := by decide +kernel
theorem dX9_hasPlaceFor_4 : decode cX9_hasPlaceFor 4 = .ok (.iload_n 1, 1) := by decide +kernel
theorem dX9_hasPlaceFor_5 : decode cX9_hasPlaceFor 5 = .ok (.iadd, 1) := by decide +kernel
theorem dX9_hasPlaceFor_6 : decode cX9_hasPlaceFor 6 = .ok (.sipush 1600, 3) := by decide +kernel
theorem dX9_hasPlaceFor_9 : decode cX9_hasPlaceFor 9 = .ok (.if_icmp .gt 7, 3) := by decide +kernel
theorem dX9_hasPlaceFor_12 : decode cX9_hasPlaceFor 12 = .ok (.iconst 1, 1) := by decide +kernel
theorem dX9_hasPlaceFor_13 : decode cX9_hasPlaceFor 13 = .ok (.goto 4, 3) := by decide +kernel
theorem dX9_hasPlaceFor_16 : decode cX9_hasPlaceFor 16 = .ok (.iconst 0, 1) := by decide +kernel
theorem dX9_hasPlaceFor_17 : decode cX9_hasPlaceFor 17 = .ok (.ireturn, 1) := by decide +kernel
theorem dX9_addFour_0 : decode cX9_addFour 0 = .ok (.bipush 24, 2) := by decide +kernel
theorem dX9_addFour_2 : decode cX9_addFour 2 = .ok (.istore_n 2, 1) := by decide +kernel
theorem dX9_addFour_3 : decode cX9_addFour 3 = .ok (.iload_n 2, 1) := by decide +kernel
theorem dX9_addFour_4 : decode cX9_addFour 4 = .ok (.ifCond .lt 42, 3) := by decide +kernel
theorem dX9_addFour_7 : decode cX9_addFour 7 = .ok (.aload_n 0, 1) := by decide +kernel
theorem dX9_addFour_8 : decode cX9_addFour 8 = .ok (.getfield 19, 3) := by decide +kernel
theorem dX9_addFour_11 : decode cX9_addFour 11 = .ok (.sipush 1600, 3) := by decide +kernel
theorem dX9_addFour_14 : decode cX9_addFour 14 = .ok (.if_icmp .ge 32, 3) := by decide +kernel
theorem dX9_addFour_17 : decode cX9_addFour 17 = .ok (.aload_n 0, 1) := by decide +kernel
theorem dX9_addFour_18 : decode cX9_addFour 18 = .ok (.getfield 9, 3) := by decide +kernel
theorem dX9_addFour_21 : decode cX9_addFour 21 = .ok (.aload_n 0, 1) := by decide +kernel
theorem dX9_addFour_22 : decode cX9_addFour 22 = .ok (.getfield 19, 3) := by decide +kernel
theorem dX9_addFour_25 : decode cX9_addFour 25 = .ok (.iload_n 1, 1) := by decide +kernel
theorem dX9_addFour_26 : decode cX9_addFour 26 = .ok (.iload_n 2, 1) := by decide +kernel
theorem dX9_addFour_27 : decode cX9_addFour 27 = .ok (.ishr, 1) := by decide +kernel
theorem dX9_addFour_28 : decode cX9_addFour 28 = .ok (.i2b, 1) := by decide +kernel
theorem dX9_addFour_29 : decode cX9_addFour 29 = .ok (.bastore, 1) := by decide +kernel
theorem dX9_addFour_30 : decode cX9_addFour 30 = .ok (.aload_n 0, 1) := by decide +kernel
theorem dX9_addFour_31 : decode cX9_addFour 31 = .ok (.dup, 1) := by decide +kernel
theorem dX9_addFour_32 : decode cX9_addFour 32 = .ok (.getfield 19, 3) := by decide +kernel
theorem dX9_addFour_35 : decode cX9_addFour 35 = .ok (.iconst 1, 1) := by decide +kernel
theorem dX9_addFour_36 : decode cX9_addFour 36 = .ok (.iadd, 1) := by decide +kernel
theorem dX9_addFour_37 : decode cX9_addFour 37 = .ok (.putfield 19, 3) := by decide +kernel
theorem dX9_addFour_40 : decode cX9_addFour 40 = .ok (.iinc 2 (-8), 3) := by decide +kernel
theorem dX9_addFour_43 : decode cX9_addFour 43 = .ok (.goto (-40), 3) := by decide +kernel
theorem dX9_addFour_46 : decode cX9_addFour 46 = .ok (.return_, 1) := by decide +kernel
theorem dX9_isLetterAt_0 : decode cX9_isLetterAt 0 = .ok (.iload_n 1, 1) := by decide +kernel
theorem dX9_isLetterAt_1 : decode cX9_isLetterAt 1 = .ok (.aload_n 0, 1) := by decide +kernel
theorem dX9_isLetterAt_2 : decode cX9_isLetterAt 2 = .ok (.getfield 19, 3) := by decide +kernel
theorem dX9_isLetterAt_5 : decode cX9_isLetterAt 5 = .ok (.if_icmp .ge 29, 3) := by decide +kernel
theorem dX9_isLetterAt_8 : decode cX9_isLetterAt 8 = .ok (.aload_n 0, 1) := by decide +kernel
theorem dX9_isLetterAt_9 : decode cX9_isLetterAt 9 = .ok (.getfield 9, 3) := by decide +kernel
theorem dX9_isLetterAt_12 : decode cX9_isLetterAt 12 = .ok (.iload_n 1, 1) := by decide +kernel
theorem dX9_isLetterAt_13 : decode cX9_isLetterAt 13 = .ok (.baload, 1) := by decide +kernel
theorem dX9_isLetterAt_14 : decode cX9_isLetterAt 14 = .ok (.bipush 97, 2) := by decide +kernel
theorem dX9_isLetterAt_16 : decode cX9_isLetterAt 16 = .ok (.if_icmp .lt 18, 3) := by decide +kernel
theorem dX9_isLetterAt_19 : decode cX9_isLetterAt 19 = .ok (.aload_n 0, 1) := by decide +kernel
theorem dX9_isLetterAt_20 : decode cX9_isLetterAt 20 = .ok (.getfield 9, 3) := by decide +kernel
theorem dX9_isLetterAt_23 : decode cX9_isLetterAt 23 = .ok (.iload_n 1, 1) := by decide +kernel
theorem dX9_isLetterAt_24 : decode cX9_isLetterAt 24 = .ok (.baload, 1) := by decide +kernel
theorem dX9_isLetterAt_25 : decode cX9_isLetterAt 25 = .ok (.bipush 122, 2) := by decide +kernel
theorem dX9_isLetterAt_27 : decode cX9_isLetterAt 27 = .ok (.if_icmp .gt 7, 3) := by decide +kernel
theorem dX9_isLetterAt_30 : decode cX9_isLetterAt 30 = .ok (.iconst 1, 1) := by decide +kernel
theorem dX9_isLetterAt_31 : decode cX9_isLetterAt 31 = .ok (.goto 4, 3) := by decide +kernel
theorem dX9_isLetterAt_34 : decode cX9_isLetterAt 34 = .ok (.iconst 0, 1) := by decide +kernel
theorem dX9_isLetterAt_35 : decode cX9_isLetterAt 35 = .ok (.ireturn, 1) := by decide +kernel
theorem dX9_isDigitAt_0 : decode cX9_isDigitAt 0 = .ok (.iload_n 1, 1) := by decide +kernel
theorem dX9_isDigitAt_1 : decode cX9_isDigitAt 1 = .ok (.aload_n 0, 1) := by decide +kernel
theorem dX9_isDigitAt_2 : decode cX9_isDigitAt 2 = .ok (.getfield 19, 3) := by decide +kernel
theorem dX9_isDigitAt_5 : decode cX9_isDigitAt 5 = .ok (.if_icmp .ge 29, 3) := by decide +kernel
theorem dX9_isDigitAt_8 : decode cX9_isDigitAt 8 = .ok (.aload_n 0, 1) := by decide +kernel
theorem dX9_isDigitAt_9 : decode cX9_isDigitAt 9 = .ok (.getfield 9, 3) := by decide +kernel
theorem dX9_isDigitAt_12 : decode cX9_isDigitAt 12 = .ok (.iload_n 1, 1) := by decide +kernel
theorem dX9_isDigitAt_13 : decode cX9_isDigitAt 13 = .ok (.baload, 1) := by decide +kernel
theorem dX9_isDigitAt_14 : decode cX9_isDigitAt 14 = .ok (.bipush 48, 2) := by decide +kernel
theorem dX9_isDigitAt_16 : decode cX9_isDigitAt 16 = .ok (.if_icmp .lt 18, 3) := by decide +kernel
theorem dX9_isDigitAt_19 : decode cX9_isDigitAt 19 = .ok (.aload_n 0, 1) := by decide +kernel
theorem dX9_isDigitAt_20 : decode cX9_isDigitAt 20 = .ok (.getfield 9, 3) := by decide +kernel
theorem dX9_isDigitAt_23 : decode cX9_isDigitAt 23 = .ok (.iload_n 1, 1) := by decide +kernel
theorem dX9_isDigitAt_24 : decode cX9_isDigitAt 24 = .ok (.baload, 1) := by decide +kernel
theorem dX9_isDigitAt_25 : decode cX9_isDigitAt 25 = .ok (.bipush 57, 2) := by decide +kernel
theorem dX9_isDigitAt_27 : decode cX9_isDigitAt 27 = .ok (.if_icmp .gt 7, 3) := by decide +kernel
theorem dX9_isDigitAt_30 : decode cX9_isDigitAt 30 = .ok (.iconst 1, 1) := by decide +kernel
theorem dX9_isDigitAt_31 : decode cX9_isDigitAt 31 = .ok (.goto 4, 3) := by decide +kernel
theorem dX9_isDigitAt_34 : decode cX9_isDigitAt 34 = .ok (.iconst 0, 1) := by decide +kernel
theorem dX9_isDigitAt_35 : decode cX9_isDigitAt 35 = .ok (.ireturn, 1) := by decide +kernel
theorem dX9_withLetter_0 : decode cX9_withLetter 0 = .ok (.lload_n 0, 1) := by decide +kernel
theorem dX9_withLetter_1 : decode cX9_withLetter 1 = .ok (.ldc2_w 79, 3) := by decide +kernel
theorem dX9_withLetter_4 : decode cX9_withLetter 4 = .ok (.lmul, 1) := by decide +kernel
theorem dX9_withLetter_5 : decode cX9_withLetter 5 = .ok (.iload_n 2, 1) := by decide +kernel
theorem dX9_withLetter_6 : decode cX9_withLetter 6 = .ok (.bipush 97, 2) := by decide +kernel
theorem dX9_withLetter_8 : decode cX9_withLetter 8 = .ok (.isub, 1) := by decide +kernel
theorem dX9_withLetter_9 : decode cX9_withLetter 9 = .ok (.iconst 1, 1) := by decide +kernel
theorem dX9_withLetter_10 : decode cX9_withLetter 10 = .ok (.iadd, 1) := by decide +kernel
theorem dX9_withLetter_11 : decode cX9_withLetter 11 = .ok (.i2l, 1) := by decide +kernel
theorem dX9_withLetter_12 : decode cX9_withLetter 12 = .ok (.ladd, 1) := by decide +kernel
theorem dX9_withLetter_13 : decode cX9_withLetter 13 = .ok (.lreturn, 1) := by decide +kernel
theorem dX9_kindOfWord_0 : decode cX9_kindOfWord 0 = .ok (.iconst 0, 1) := by decide +kernel
theorem dX9_kindOfWord_1 : decode cX9_kindOfWord 1 = .ok (.istore_n 1, 1) := by decide +kernel
theorem dX9_kindOfWord_2 : decode cX9_kindOfWord 2 = .ok (.iload_n 1, 1) := by decide +kernel
theorem dX9_kindOfWord_3 : decode cX9_kindOfWord 3 = .ok (.bipush 22, 2) := by decide +kernel
theorem dX9_kindOfWord_5 : decode cX9_kindOfWord 5 = .ok (.if_icmp .ge 29, 3) := by decide +kernel
theorem dX9_kindOfWord_8 : decode cX9_kindOfWord 8 = .ok (.aload_n 0, 1) := by decide +kernel
theorem dX9_kindOfWord_9 : decode cX9_kindOfWord 9 = .ok (.getfield 15, 3) := by decide +kernel
theorem dX9_kindOfWord_12 : decode cX9_kindOfWord 12 = .ok (.iload_n 1, 1) := by decide +kernel
theorem dX9_kindOfWord_13 : decode cX9_kindOfWord 13 = .ok (.laload, 1) := by decide +kernel
theorem dX9_kindOfWord_14 : decode cX9_kindOfWord 14 = .ok (.aload_n 0, 1) := by decide +kernel
theorem dX9_kindOfWord_15 : decode cX9_kindOfWord 15 = .ok (.getfield 35, 3) := by decide +kernel
theorem dX9_kindOfWord_18 : decode cX9_kindOfWord 18 = .ok (.lcmp, 1) := by decide +kernel
theorem dX9_kindOfWord_19 : decode cX9_kindOfWord 19 = .ok (.ifCond .ne 9, 3) := by decide +kernel
theorem dX9_kindOfWord_22 : decode cX9_kindOfWord 22 = .ok (.sipush 200, 3) := by decide +kernel
theorem dX9_kindOfWord_25 : decode cX9_kindOfWord 25 = .ok (.iload_n 1, 1) := by decide +kernel
theorem dX9_kindOfWord_26 : decode cX9_kindOfWord 26 = .ok (.iadd, 1) := by decide +kernel
theorem dX9_kindOfWord_27 : decode cX9_kindOfWord 27 = .ok (.ireturn, 1) := by decide +kernel
theorem dX9_kindOfWord_28 : decode cX9_kindOfWord 28 = .ok (.iinc 1 1, 3) := by decide +kernel
theorem dX9_kindOfWord_31 : decode cX9_kindOfWord 31 = .ok (.goto (-29), 3) := by decide +kernel
theorem dX9_kindOfWord_34 : decode cX9_kindOfWord 34 = .ok (.iconst 1, 1) := by decide +kernel
theorem dX9_kindOfWord_35 : decode cX9_kindOfWord 35 = .ok (.ireturn, 1) := by decide +kernel
theorem dX9_takeWord_0 : decode cX9_takeWord 0 = .ok (.aload_n 0, 1) := by decide +kernel
theorem dX9_takeWord_1 : decode cX9_takeWord 1 = .ok (.lconst 0, 1) := by decide +kernel
theorem dX9_takeWord_2 : decode cX9_takeWord 2 = .ok (.putfield 35, 3) := by decide +kernel
theorem dX9_takeWord_5 : decode cX9_takeWord 5 = .ok (.aload_n 0, 1) := by decide +kernel
theorem dX9_takeWord_6 : decode cX9_takeWord 6 = .ok (.getfield 23, 3) := by decide +kernel
theorem dX9_takeWord_9 : decode cX9_takeWord 9 = .ok (.aload_n 0, 1) := by decide +kernel
theorem dX9_takeWord_10 : decode cX9_takeWord 10 = .ok (.getfield 19, 3) := by decide +kernel
theorem dX9_takeWord_13 : decode cX9_takeWord 13 = .ok (.if_icmp .ge 47, 3) := by decide +kernel
theorem dX9_takeWord_16 : decode cX9_takeWord 16 = .ok (.aload_n 0, 1) := by decide +kernel
theorem dX9_takeWord_17 : decode cX9_takeWord 17 = .ok (.aload_n 0, 1) := by decide +kernel
theorem dX9_takeWord_18 : decode cX9_takeWord 18 = .ok (.getfield 23, 3) := by decide +kernel
theorem dX9_takeWord_21 : decode cX9_takeWord 21 = .ok (.invokevirtual 54, 3) := by decide +kernel
theorem dX9_takeWord_24 : decode cX9_takeWord 24 = .ok (.ifCond .eq 36, 3) := by decide +kernel
theorem dX9_takeWord_27 : decode cX9_takeWord 27 = .ok (.aload_n 0, 1) := by decide +kernel
theorem dX9_takeWord_28 : decode cX9_takeWord 28 = .ok (.aload_n 0, 1) := by decide +kernel
theorem dX9_takeWord_29 : decode cX9_takeWord 29 = .ok (.getfield 35, 3) := by decide +kernel
theorem dX9_takeWord_32 : decode cX9_takeWord 32 = .ok (.aload_n 0, 1) := by decide +kernel
theorem dX9_takeWord_33 : decode cX9_takeWord 33 = .ok (.getfield 9, 3) := by decide +kernel
theorem dX9_takeWord_36 : decode cX9_takeWord 36 = .ok (.aload_n 0, 1) := by decide +kernel
theorem dX9_takeWord_37 : decode cX9_takeWord 37 = .ok (.getfield 23, 3) := by decide +kernel
theorem dX9_takeWord_40 : decode cX9_takeWord 40 = .ok (.baload, 1) := by decide +kernel
theorem dX9_takeWord_41 : decode cX9_takeWord 41 = .ok (.invokestatic 50, 3) := by decide +kernel
theorem dX9_takeWord_44 : decode cX9_takeWord 44 = .ok (.putfield 35, 3) := by decide +kernel
theorem dX9_takeWord_47 : decode cX9_takeWord 47 = .ok (.aload_n 0, 1) := by decide +kernel
theorem dX9_takeWord_48 : decode cX9_takeWord 48 = .ok (.dup, 1) := by decide +kernel
theorem dX9_takeWord_49 : decode cX9_takeWord 49 = .ok (.getfield 23, 3) := by decide +kernel
theorem dX9_takeWord_52 : decode cX9_takeWord 52 = .ok (.iconst 1, 1) := by decide +kernel
theorem dX9_takeWord_53 : decode cX9_takeWord 53 = .ok (.iadd, 1) := by decide +kernel
theorem dX9_takeWord_54 : decode cX9_takeWord 54 = .ok (.putfield 23, 3) := by decide +kernel
theorem dX9_takeWord_57 : decode cX9_takeWord 57 = .ok (.goto (-52), 3) := by decide +kernel
theorem dX9_takeWord_60 : decode cX9_takeWord 60 = .ok (.aload_n 0, 1) := by decide +kernel
theorem dX9_takeWord_61 : decode cX9_takeWord 61 = .ok (.aload_n 0, 1) := by decide +kernel
theorem dX9_takeWord_62 : decode cX9_takeWord 62 = .ok (.getfield 23, 3) := by decide +kernel
theorem dX9_takeWord_65 : decode cX9_takeWord 65 = .ok (.aload_n 0, 1) := by decide +kernel
theorem dX9_takeWord_66 : decode cX9_takeWord 66 = .ok (.getfield 29, 3) := by decide +kernel
theorem dX9_takeWord_69 : decode cX9_takeWord 69 = .ok (.isub, 1) := by decide +kernel
theorem dX9_takeWord_70 : decode cX9_takeWord 70 = .ok (.bipush 8, 2) := by decide +kernel
theorem dX9_takeWord_72 : decode cX9_takeWord 72 = .ok (.if_icmp .le 7, 3) := by decide +kernel
theorem dX9_takeWord_75 : decode cX9_takeWord 75 = .ok (.iconst (-1), 1) := by decide +kernel
theorem dX9_takeWord_76 : decode cX9_takeWord 76 = .ok (.goto 7, 3) := by decide +kernel
theorem dX9_takeWord_79 : decode cX9_takeWord 79 = .ok (.aload_n 0, 1) := by decide +kernel
theorem dX9_takeWord_80 : decode cX9_takeWord 80 = .ok (.invokevirtual 70, 3) := by decide +kernel
theorem dX9_takeWord_83 : decode cX9_takeWord 83 = .ok (.putfield 26, 3) := by decide +kernel
theorem dX9_takeWord_86 : decode cX9_takeWord 86 = .ok (.return_, 1) := by decide +kernel
theorem dX9_takeNumber_0 : decode cX9_takeNumber 0 = .ok (.aload_n 0, 1) := by decide +kernel
theorem dX9_takeNumber_1 : decode cX9_takeNumber 1 = .ok (.iconst 0, 1) := by decide +kernel
theorem dX9_takeNumber_2 : decode cX9_takeNumber 2 = .ok (.putfield 32, 3) := by decide +kernel
theorem dX9_takeNumber_5 : decode cX9_takeNumber 5 = .ok (.aload_n 0, 1) := by decide +kernel
theorem dX9_takeNumber_6 : decode cX9_takeNumber 6 = .ok (.getfield 23, 3) := by decide +kernel
theorem dX9_takeNumber_9 : decode cX9_takeNumber 9 = .ok (.aload_n 0, 1) := by decide +kernel
theorem dX9_takeNumber_10 : decode cX9_takeNumber 10 = .ok (.getfield 19, 3) := by decide +kernel
theorem dX9_takeNumber_13 : decode cX9_takeNumber 13 = .ok (.if_icmp .ge 51, 3) := by decide +kernel
theorem dX9_takeNumber_16 : decode cX9_takeNumber 16 = .ok (.aload_n 0, 1) := by decide +kernel
theorem dX9_takeNumber_17 : decode cX9_takeNumber 17 = .ok (.aload_n 0, 1) := by decide +kernel
theorem dX9_takeNumber_18 : decode cX9_takeNumber 18 = .ok (.getfield 23, 3) := by decide +kernel
theorem dX9_takeNumber_21 : decode cX9_takeNumber 21 = .ok (.invokevirtual 61, 3) := by decide +kernel
theorem dX9_takeNumber_24 : decode cX9_takeNumber 24 = .ok (.ifCond .eq 40, 3) := by decide +kernel
theorem dX9_takeNumber_27 : decode cX9_takeNumber 27 = .ok (.aload_n 0, 1) := by decide +kernel
theorem dX9_takeNumber_28 : decode cX9_takeNumber 28 = .ok (.aload_n 0, 1) := by decide +kernel
theorem dX9_takeNumber_29 : decode cX9_takeNumber 29 = .ok (.getfield 32, 3) := by decide +kernel
theorem dX9_takeNumber_32 : decode cX9_takeNumber 32 = .ok (.bipush 10, 2) := by decide +kernel
theorem dX9_takeNumber_34 : decode cX9_takeNumber 34 = .ok (.imul, 1) := by decide +kernel
theorem dX9_takeNumber_35 : decode cX9_takeNumber 35 = .ok (.aload_n 0, 1) := by decide +kernel
theorem dX9_takeNumber_36 : decode cX9_takeNumber 36 = .ok (.getfield 9, 3) := by decide +kernel
theorem dX9_takeNumber_39 : decode cX9_takeNumber 39 = .ok (.aload_n 0, 1) := by decide +kernel
theorem dX9_takeNumber_40 : decode cX9_takeNumber 40 = .ok (.getfield 23, 3) := by decide +kernel
theorem dX9_takeNumber_43 : decode cX9_takeNumber 43 = .ok (.baload, 1) := by decide +kernel
theorem dX9_takeNumber_44 : decode cX9_takeNumber 44 = .ok (.bipush 48, 2) := by decide +kernel
theorem dX9_takeNumber_46 : decode cX9_takeNumber 46 = .ok (.isub, 1) := by decide +kernel
theorem dX9_takeNumber_47 : decode cX9_takeNumber 47 = .ok (.iadd, 1) := by decide +kernel
theorem dX9_takeNumber_48 : decode cX9_takeNumber 48 = .ok (.putfield 32, 3) := by decide +kernel
theorem dX9_takeNumber_51 : decode cX9_takeNumber 51 = .ok (.aload_n 0, 1) := by decide +kernel
theorem dX9_takeNumber_52 : decode cX9_takeNumber 52 = .ok (.dup, 1) := by decide +kernel
theorem dX9_takeNumber_53 : decode cX9_takeNumber 53 = .ok (.getfield 23, 3) := by decide +kernel
theorem dX9_takeNumber_56 : decode cX9_takeNumber 56 = .ok (.iconst 1, 1) := by decide +kernel
theorem dX9_takeNumber_57 : decode cX9_takeNumber 57 = .ok (.iadd, 1) := by decide +kernel
theorem dX9_takeNumber_58 : decode cX9_takeNumber 58 = .ok (.putfield 23, 3) := by decide +kernel
theorem dX9_takeNumber_61 : decode cX9_takeNumber 61 = .ok (.goto (-56), 3) := by decide +kernel
theorem dX9_takeNumber_64 : decode cX9_takeNumber 64 = .ok (.aload_n 0, 1) := by decide +kernel
theorem dX9_takeNumber_65 : decode cX9_takeNumber 65 = .ok (.getfield 23, 3) := by decide +kernel
theorem dX9_takeNumber_68 : decode cX9_takeNumber 68 = .ok (.aload_n 0, 1) := by decide +kernel
theorem dX9_takeNumber_69 : decode cX9_takeNumber 69 = .ok (.getfield 29, 3) := by decide +kernel
theorem dX9_takeNumber_72 : decode cX9_takeNumber 72 = .ok (.isub, 1) := by decide +kernel
theorem dX9_takeNumber_73 : decode cX9_takeNumber 73 = .ok (.iconst 4, 1) := by decide +kernel
theorem dX9_takeNumber_74 : decode cX9_takeNumber 74 = .ok (.if_icmp .gt 14, 3) := by decide +kernel
theorem dX9_takeNumber_77 : decode cX9_takeNumber 77 = .ok (.aload_n 0, 1) := by decide +kernel
theorem dX9_takeNumber_78 : decode cX9_takeNumber 78 = .ok (.aload_n 0, 1) := by decide +kernel
theorem dX9_takeNumber_79 : decode cX9_takeNumber 79 = .ok (.getfield 23, 3) := by decide +kernel
theorem dX9_takeNumber_82 : decode cX9_takeNumber 82 = .ok (.invokevirtual 54, 3) := by decide +kernel
theorem dX9_takeNumber_85 : decode cX9_takeNumber 85 = .ok (.ifCond .eq 7, 3) := by decide +kernel
theorem dX9_takeNumber_88 : decode cX9_takeNumber 88 = .ok (.iconst 1, 1) := by decide +kernel
theorem dX9_takeNumber_89 : decode cX9_takeNumber 89 = .ok (.goto 4, 3) := by decide +kernel
theorem dX9_takeNumber_92 : decode cX9_takeNumber 92 = .ok (.iconst 0, 1) := by decide +kernel
theorem dX9_takeNumber_93 : decode cX9_takeNumber 93 = .ok (.istore_n 1, 1) := by decide +kernel
theorem dX9_takeNumber_94 : decode cX9_takeNumber 94 = .ok (.aload_n 0, 1) := by decide +kernel
theorem dX9_takeNumber_95 : decode cX9_takeNumber 95 = .ok (.iload_n 1, 1) := by decide +kernel
theorem dX9_takeNumber_96 : decode cX9_takeNumber 96 = .ok (.ifCond .eq 7, 3) := by decide +kernel
theorem dX9_takeNumber_99 : decode cX9_takeNumber 99 = .ok (.iconst (-1), 1) := by decide +kernel
theorem dX9_takeNumber_100 : decode cX9_takeNumber 100 = .ok (.goto 4, 3) := by decide +kernel
theorem dX9_takeNumber_103 : decode cX9_takeNumber 103 = .ok (.iconst 2, 1) := by decide +kernel
theorem dX9_takeNumber_104 : decode cX9_takeNumber 104 = .ok (.putfield 26, 3) := by decide +kernel
theorem dX9_takeNumber_107 : decode cX9_takeNumber 107 = .ok (.return_, 1) := by decide +kernel
set_option maxHeartbeats 2000000 in
set_option maxRecDepth 20000 in
theorem c_J6_bitCount_0f7a4 (l : Launch) (D : va_G) (cy : Nat → ClassId) (B N : Nat) (a : Int) (M : MM) (hpa : I32 a) : CI l D cy B N 1 yJ6_bitCount_0f7a4 cJ6_bitCount_0f7a4 1 (some .int) [iv a] M (fun z M' => M' = M) := by
  refine mk_CI (by decide) (Nat.le_of_ble_eq_true rfl) ?_
  intro X exl exD excy hnL hX hret
  have hce : 0 + 0 ≤ (xR X).cells ∧ 0 + 0 ≤ (xR X).slots := ⟨Nat.zero_le _, Nat.zero_le _⟩
  show J X B N 0 0 0 [(0, iv a)] [] M
  refine j_iload_n hX dJ6_bitCount_0f7a4_0 rfl 0 rfl ?_
  refine j_iload_n hX dJ6_bitCount_0f7a4_1 rfl 0 rfl ?_
  refine j_iconst hX dJ6_bitCount_0f7a4_2 ?_
  refine j_iushr hX dJ6_bitCount_0f7a4_3 (fun z1 hz2 hy3 => ?_)
  refine j_ldcw (n := 1431655765) hX (in_4 38 (by first | rfl | decide +kernel) rfl) dJ6_bitCount_0f7a4_4 ?_
  refine j_iand hX dJ6_bitCount_0f7a4_7 (fun z4 hz5 hy6 => ?_)
  have ha7 := (and_f hz5 (by omega) (by omega)).2 (by omega)
  refine j_isub hX dJ6_bitCount_0f7a4_8 ?_
  refine j_norm (fun z8 hz9 hy10 => ?_)
  refine j_istore_n (lv' := [(0, _)]) hX dJ6_bitCount_0f7a4_9 rfl (by rw [hnL]; decide) rfl ?_
  refine j_iload_n hX dJ6_bitCount_0f7a4_10 rfl 0 rfl ?_
  refine j_ldcw (n := 858993459) hX (in_4 39 (by first | rfl | decide +kernel) rfl) dJ6_bitCount_0f7a4_11 ?_
  refine j_iand hX dJ6_bitCount_0f7a4_14 (fun z11 hz12 hy13 => ?_)
  have ha14 := (and_f hz12 (by omega) (by omega)).2 (by omega)
  refine j_iload_n hX dJ6_bitCount_0f7a4_15 rfl 0 rfl ?_
  refine j_iconst hX dJ6_bitCount_0f7a4_16 ?_
  refine j_iushr hX dJ6_bitCount_0f7a4_17 (fun z15 hz16 hy17 => ?_)
  refine j_ldcw (n := 858993459) hX (in_4 39 (by first | rfl | decide +kernel) rfl) dJ6_bitCount_0f7a4_18 ?_
  refine j_iand hX dJ6_bitCount_0f7a4_21 (fun z18 hz19 hy20 => ?_)
  have ha21 := (and_f hz19 (by omega) (by omega)).2 (by omega)
  refine j_iadd hX dJ6_bitCount_0f7a4_22 ?_
  refine j_norm (fun z22 hz23 hy24 => ?_)
  refine j_istore_n (lv' := [(0, _)]) hX dJ6_bitCount_0f7a4_23 rfl (by rw [hnL]; decide) rfl ?_
  refine j_iload_n hX dJ6_bitCount_0f7a4_24 rfl 0 rfl ?_
  refine j_iload_n hX dJ6_bitCount_0f7a4_25 rfl 0 rfl ?_
  refine j_iconst hX dJ6_bitCount_0f7a4_26 ?_
  refine j_iushr hX dJ6_bitCount_0f7a4_27 (fun z25 hz26 hy27 => ?_)
  refine j_iadd hX dJ6_bitCount_0f7a4_28 ?_
  refine j_norm (fun z28 hz29 hy30 => ?_)
  refine j_ldcw (n := 252645135) hX (in_4 40 (by first | rfl | decide +kernel) rfl) dJ6_bitCount_0f7a4_29 ?_
  refine j_iand hX dJ6_bitCount_0f7a4_32 (fun z31 hz32 hy33 => ?_)
  have ha34 := (and_f hz32 (by omega) (by omega)).2 (by omega)
  refine j_istore_n (lv' := [(0, _)]) hX dJ6_bitCount_0f7a4_33 rfl (by rw [hnL]; decide) rfl ?_
  refine j_iload_n hX dJ6_bitCount_0f7a4_34 rfl 0 rfl ?_
  refine j_iload_n hX dJ6_bitCount_0f7a4_35 rfl 0 rfl ?_
  refine j_bipush hX dJ6_bitCount_0f7a4_36 rfl ?_
  refine j_iushr hX dJ6_bitCount_0f7a4_38 (fun z35 hz36 hy37 => ?_)
  refine j_iadd hX dJ6_bitCount_0f7a4_39 ?_
  refine j_norm (fun z38 hz39 hy40 => ?_)
  refine j_istore_n (lv' := [(0, _)]) hX dJ6_bitCount_0f7a4_40 rfl (by rw [hnL]; decide) rfl ?_
  refine j_iload_n hX dJ6_bitCount_0f7a4_41 rfl 0 rfl ?_
  refine j_iload_n hX dJ6_bitCount_0f7a4_42 rfl 0 rfl ?_
  refine j_bipush hX dJ6_bitCount_0f7a4_43 rfl ?_
  refine j_iushr hX dJ6_bitCount_0f7a4_45 (fun z41 hz42 hy43 => ?_)
  refine j_iadd hX dJ6_bitCount_0f7a4_46 ?_
  refine j_norm (fun z44 hz45 hy46 => ?_)
  refine j_istore_n (lv' := [(0, _)]) hX dJ6_bitCount_0f7a4_47 rfl (by rw [hnL]; decide) rfl ?_
  refine j_iload_n hX dJ6_bitCount_0f7a4_48 rfl 0 rfl ?_
  refine j_bipush hX dJ6_bitCount_0f7a4_49 rfl ?_
  refine j_iand hX dJ6_bitCount_0f7a4_51 (fun z47 hz48 hy49 => ?_)
  have ha50 := (and_f hz48 (by omega) (by omega)).2 (by omega)
  exact hret _ _ _ _ dJ6_bitCount_0f7a4_52 rfl (by omega) rfl
set_option maxHeartbeats 2000000 in
set_option maxRecDepth 20000 in
theorem c_X9_hasPlaceFor (l : Launch) (D : va_G) (cy : Nat → ClassId) (B N : Nat) (a : Int) (M : MM) (hN : 210 ≤ N) (hI : Iv M) (hpa : I32 a) (h1 : 0 ≤ a ∧ a ≤ 100) : CI l D cy B N 1 yX9_hasPlaceFor cX9_hasPlaceFor 2 (some .boolean) [rv B 2, iv a] M (fun z M' => M' = M ∧ (0 ≤ z ∧ z ≤ 1) ∧ (z = 1 → M.1 2 2 + a ≤ 1600)) := by
  refine mk_CI (by decide) (Nat.le_of_ble_eq_true rfl) ?_
  intro X exl exD excy hnL hX hret
  have hce : 0 + 0 ≤ (xR X).cells ∧ 0 + 0 ≤ (xR X).slots := ⟨Nat.zero_le _, Nat.zero_le _⟩
  show J X B N 0 0 0 [(0, rv B 2), (1, iv a)] [] M
  refine j_aload_n hX dX9_hasPlaceFor_0 rfl 0 rfl ?_
  refine gf_X9_19 hX (by omega) (by omega) kc_2 dX9_hasPlaceFor_1 ?_
  refine j_name hI ro_2_2 (fun v1 hv2 hl3 hh4 => ?_)
  have hk5 := hv2.symm
  refine j_iload_n hX dX9_hasPlaceFor_4 rfl 1 rfl ?_
  refine j_iadd hX dX9_hasPlaceFor_5 ?_
  refine j_sipush hX dX9_hasPlaceFor_6 rfl ?_
  refine j_icmp_gt (tgt := 16) hX dX9_hasPlaceFor_9 (by decide) (by omega) (by omega) (fun hc6 => ?_) (fun hc6 => ?_)
  · skip
    refine j_iconst hX dX9_hasPlaceFor_16 ?_
    exact hret _ _ _ _ dX9_hasPlaceFor_17 (nb (by omega)) (by omega) ⟨rfl, by omega, by first | assumption | omega⟩
  · skip
    refine j_iconst hX dX9_hasPlaceFor_12 ?_
    refine j_goto (tgt := 17) hX dX9_hasPlaceFor_13 (by decide) ?_
    exact hret _ _ _ _ dX9_hasPlaceFor_17 (nb (by omega)) (by omega) ⟨rfl, by omega, by first | assumption | omega⟩
set_option maxHeartbeats 2000000 in
set_option maxRecDepth 20000 in
theorem c_X9_addFour (l : Launch) (D : va_G) (cy : Nat → ClassId) (B N : Nat) (a : Int) (M : MM) (hN : 210 ≤ N) (hI : Iv M) (hpa : I32 a) : CV l D cy B N 1 yX9_addFour cX9_addFour 3 none [rv B 2, iv a] M (fun M' => Iv M' ∧ Fr (fun a b => (a = 2 ∧ 2 ≤ b ∧ b ≤ 2) ∨ (a = 3)) M M') := by
  refine mk_CV (by decide) (Nat.le_of_ble_eq_true rfl) ?_
  intro X exl exD excy hnL hX hret
  have hce : 0 + 0 ≤ (xR X).cells ∧ 0 + 0 ≤ (xR X).slots := ⟨Nat.zero_le _, Nat.zero_le _⟩
  have hF : Fr (fun a b => (a = 2 ∧ 2 ≤ b ∧ b ≤ 2) ∨ (a = 3)) M M := Fr.rf
  have cp : ∀ n : Nat, (∀ (x2 : Int), ∀ (Mc : MM), I32 x2 → Iv Mc → Fr (fun a b => (a = 2 ∧ 2 ≤ b ∧ b ≤ 2) ∨ (a = 3)) M Mc → (-8 ≤ x2 ∧ x2 ≤ 24) → 0 ≤ 32 * (x2 + 8) + 1 → 32 * (x2 + 8) + 1 < (n : Int) → J X B N 0 0 3 [(0, rv B 2), (1, iv a), (2, iv x2)] [] Mc) := by
    intro n
    induction n with
    | zero => exact by intros; exfalso; omega
    | succ n ih =>
      · intro x2 Mc hxx2 hI hF h2 hm0 hm1
        refine j_iload_n hX dX9_addFour_3 rfl 2 rfl ?_
        refine j_if_lt (tgt := 46) hX dX9_addFour_4 (by decide) (by omega) (fun hc1 => ?_) (fun hc1 => ?_)
        · skip
          exact hret _ _ _ dX9_addFour_46 ⟨hI, hF⟩
        · skip
          refine j_aload_n hX dX9_addFour_7 rfl 0 rfl ?_
          refine gf_X9_19 hX (by omega) (by omega) kc_2 dX9_addFour_8 ?_
          refine j_name hI ro_2_2 (fun v2 hv3 hl4 hh5 => ?_)
          have hk6 := hv3.symm
          refine j_sipush hX dX9_addFour_11 rfl ?_
          refine j_icmp_ge (tgt := 46) hX dX9_addFour_14 (by decide) (by omega) (by omega) (fun hc7 => ?_) (fun hc7 => ?_)
          · skip
            exact hret _ _ _ dX9_addFour_46 ⟨hI, hF⟩
          · skip
            refine j_aload_n hX dX9_addFour_17 rfl 0 rfl ?_
            refine gf_X9_9 hX (by omega) (by omega) kc_2 (fc_2_0 hI) (by decide) dX9_addFour_18 ?_
            refine j_aload_n hX dX9_addFour_21 rfl 0 rfl ?_
            refine gf_X9_19 hX (by omega) (by omega) kc_2 dX9_addFour_22 ?_
            refine j_top hk6 ?_
            refine j_iload_n hX dX9_addFour_25 rfl 1 rfl ?_
            refine j_iload_n hX dX9_addFour_26 rfl 2 rfl ?_
            refine j_ishr hX dX9_addFour_27 (fun z8 hz9 hy10 => ?_)
            refine j_i2b hX dX9_addFour_28 (fun z11 hz12 hy13 => ?_)
            refine j_bast hX (by omega) (by omega) kc_3 (by omega) (by omega) (by omega) (by omega) (by omega) dX9_addFour_29 ?_
            refine j_up hI (ra_3 _) (by omega) (by omega) (Or.inl (by omega)) (fun M14 w15 hw16 hM17 hI18 hf19 => ?_)
            have hk20 := kp_up hM17 (fun h => absurd h.1 (by decide)) hk6
            have hF21 := Fr.put hF hM17 (by omega)
            refine j_aload_n hX dX9_addFour_30 rfl 0 rfl ?_
            refine j_dup hX dX9_addFour_31 rfl ?_
            refine gf_X9_19 hX (by omega) (by omega) kc_2 dX9_addFour_32 ?_
            refine j_top hk20 ?_
            refine j_iconst hX dX9_addFour_35 ?_
            refine j_iadd hX dX9_addFour_36 ?_
            refine pf_X9_19 hX (by omega) (by omega) kc_2 (by omega) dX9_addFour_37 ?_
            refine j_up hI18 ro_2_2 (by omega) (by omega) (Or.inl (by omega)) (fun M22 w23 hw24 hM25 hI26 hf27 => ?_)
            have hF28 := Fr.put hF21 hM25 (by omega)
            refine j_iinc (lv' := [(2, _), (0, _), (1, _)]) hX dX9_addFour_40 2 rfl (by rw [hnL]; decide) rfl ?_
            refine j_goto (tgt := 3) hX dX9_addFour_43 (by decide) ?_
            refine j_sub [1, 2, 0] rfl ?_
            exact ih _ _ (by omega) hI26 hF28 (by first | assumption | omega) (by omega) (by omega)
  show J X B N 0 0 0 [(0, rv B 2), (1, iv a)] [] M
  refine j_bipush hX dX9_addFour_0 rfl ?_
  refine j_istore_n (lv' := [(2, _), (0, _), (1, _)]) hX dX9_addFour_2 rfl (by rw [hnL]; decide) rfl ?_
  refine j_sub [1, 2, 0] rfl ?_
  refine (cp (Int.toNat (3264 + 1))) _ _ (by omega) hI hF (by first | assumption | omega) ?_ ?_
  · omega
  · omega
set_option maxHeartbeats 2000000 in
set_option maxRecDepth 20000 in
theorem c_X9_isLetterAt (l : Launch) (D : va_G) (cy : Nat → ClassId) (B N : Nat) (a : Int) (M : MM) (hN : 210 ≤ N) (hI : Iv M) (hpa : I32 a) (h1 : 0 ≤ a) : CI l D cy B N 1 yX9_isLetterAt cX9_isLetterAt 2 (some .boolean) [rv B 2, iv a] M (fun z M' => M' = M ∧ (0 ≤ z ∧ z ≤ 1)) := by
  refine mk_CI (by decide) (Nat.le_of_ble_eq_true rfl) ?_
  intro X exl exD excy hnL hX hret
  have hce : 0 + 0 ≤ (xR X).cells ∧ 0 + 0 ≤ (xR X).slots := ⟨Nat.zero_le _, Nat.zero_le _⟩
  show J X B N 0 0 0 [(0, rv B 2), (1, iv a)] [] M
  refine j_iload_n hX dX9_isLetterAt_0 rfl 1 rfl ?_
  refine j_aload_n hX dX9_isLetterAt_1 rfl 0 rfl ?_
  refine gf_X9_19 hX (by omega) (by omega) kc_2 dX9_isLetterAt_2 ?_
  refine j_name hI ro_2_2 (fun v1 hv2 hl3 hh4 => ?_)
  have hk5 := hv2.symm
  refine j_icmp_ge (tgt := 34) hX dX9_isLetterAt_5 (by decide) (by omega) (by omega) (fun hc6 => ?_) (fun hc6 => ?_)
  · skip
    refine j_iconst hX dX9_isLetterAt_34 ?_
    exact hret _ _ _ _ dX9_isLetterAt_35 (nb (by omega)) (by omega) ⟨rfl, by omega⟩
  · skip
    refine j_aload_n hX dX9_isLetterAt_8 rfl 0 rfl ?_
    refine gf_X9_9 hX (by omega) (by omega) kc_2 (fc_2_0 hI) (by decide) dX9_isLetterAt_9 ?_
    refine j_iload_n hX dX9_isLetterAt_12 rfl 1 rfl ?_
    refine j_bald hX (by omega) (by omega) kc_3 (by omega) (by omega) (by omega) dX9_isLetterAt_13 ?_
    refine j_name hI (ra_3 _) (fun v7 hv8 hl9 hh10 => ?_)
    refine j_bipush hX dX9_isLetterAt_14 rfl ?_
    refine j_icmp_lt (tgt := 34) hX dX9_isLetterAt_16 (by decide) (by omega) (by omega) (fun hc11 => ?_) (fun hc11 => ?_)
    · skip
      refine j_iconst hX dX9_isLetterAt_34 ?_
      exact hret _ _ _ _ dX9_isLetterAt_35 (nb (by omega)) (by omega) ⟨rfl, by omega⟩
    · skip
      refine j_aload_n hX dX9_isLetterAt_19 rfl 0 rfl ?_
      refine gf_X9_9 hX (by omega) (by omega) kc_2 (fc_2_0 hI) (by decide) dX9_isLetterAt_20 ?_
      refine j_iload_n hX dX9_isLetterAt_23 rfl 1 rfl ?_
      refine j_bald hX (by omega) (by omega) kc_3 (by omega) (by omega) (by omega) dX9_isLetterAt_24 ?_
      refine j_name hI (ra_3 _) (fun v12 hv13 hl14 hh15 => ?_)
      refine j_bipush hX dX9_isLetterAt_25 rfl ?_
      refine j_icmp_gt (tgt := 34) hX dX9_isLetterAt_27 (by decide) (by omega) (by omega) (fun hc16 => ?_) (fun hc16 => ?_)
      · skip
        refine j_iconst hX dX9_isLetterAt_34 ?_
        exact hret _ _ _ _ dX9_isLetterAt_35 (nb (by omega)) (by omega) ⟨rfl, by omega⟩
      · skip
        refine j_iconst hX dX9_isLetterAt_30 ?_
        refine j_goto (tgt := 35) hX dX9_isLetterAt_31 (by decide) ?_
        exact hret _ _ _ _ dX9_isLetterAt_35 (nb (by omega)) (by omega) ⟨rfl, by omega⟩
set_option maxHeartbeats 2000000 in
set_option maxRecDepth 20000 in
theorem c_X9_isDigitAt (l : Launch) (D : va_G) (cy : Nat → ClassId) (B N : Nat) (a : Int) (M : MM) (hN : 210 ≤ N) (hI : Iv M) (hpa : I32 a) (h1 : 0 ≤ a) : CI l D cy B N 1 yX9_isDigitAt cX9_isDigitAt 2 (some .boolean) [rv B 2, iv a] M (fun z M' => M' = M ∧ (0 ≤ z ∧ z ≤ 1) ∧ (z = 1 → a < M.1 2 2 ∧ 48 ≤ M.1 3 a ∧ M.1 3 a ≤ 57)) := by
  refine mk_CI (by decide) (Nat.le_of_ble_eq_true rfl) ?_
  intro X exl exD excy hnL hX hret
  have hce : 0 + 0 ≤ (xR X).cells ∧ 0 + 0 ≤ (xR X).slots := ⟨Nat.zero_le _, Nat.zero_le _⟩
  show J X B N 0 0 0 [(0, rv B 2), (1, iv a)] [] M
  refine j_iload_n hX dX9_isDigitAt_0 rfl 1 rfl ?_
  refine j_aload_n hX dX9_isDigitAt_1 rfl 0 rfl ?_
  refine gf_X9_19 hX (by omega) (by omega) kc_2 dX9_isDigitAt_2 ?_
  refine j_name hI ro_2_2 (fun v1 hv2 hl3 hh4 => ?_)
  have hk5 := hv2.symm
  refine j_icmp_ge (tgt := 34) hX dX9_isDigitAt_5 (by decide) (by omega) (by omega) (fun hc6 => ?_) (fun hc6 => ?_)
  · skip
    refine j_iconst hX dX9_isDigitAt_34 ?_
    exact hret _ _ _ _ dX9_isDigitAt_35 (nb (by omega)) (by omega) ⟨rfl, by omega, by first | assumption | omega⟩
  · skip
    refine j_aload_n hX dX9_isDigitAt_8 rfl 0 rfl ?_
    refine gf_X9_9 hX (by omega) (by omega) kc_2 (fc_2_0 hI) (by decide) dX9_isDigitAt_9 ?_
    refine j_iload_n hX dX9_isDigitAt_12 rfl 1 rfl ?_
    refine j_bald hX (by omega) (by omega) kc_3 (by omega) (by omega) (by omega) dX9_isDigitAt_13 ?_
    refine j_name hI (ra_3 _) (fun v7 hv8 hl9 hh10 => ?_)
    refine j_bipush hX dX9_isDigitAt_14 rfl ?_
    refine j_icmp_lt (tgt := 34) hX dX9_isDigitAt_16 (by decide) (by omega) (by omega) (fun hc11 => ?_) (fun hc11 => ?_)
    · skip
      refine j_iconst hX dX9_isDigitAt_34 ?_
      exact hret _ _ _ _ dX9_isDigitAt_35 (nb (by omega)) (by omega) ⟨rfl, by omega, by first | assumption | omega⟩
    · skip
      refine j_aload_n hX dX9_isDigitAt_19 rfl 0 rfl ?_
      refine gf_X9_9 hX (by omega) (by omega) kc_2 (fc_2_0 hI) (by decide) dX9_isDigitAt_20 ?_
      refine j_iload_n hX dX9_isDigitAt_23 rfl 1 rfl ?_
      refine j_bald hX (by omega) (by omega) kc_3 (by omega) (by omega) (by omega) dX9_isDigitAt_24 ?_
      refine j_name hI (ra_3 _) (fun v12 hv13 hl14 hh15 => ?_)
      refine j_bipush hX dX9_isDigitAt_25 rfl ?_
      refine j_icmp_gt (tgt := 34) hX dX9_isDigitAt_27 (by decide) (by omega) (by omega) (fun hc16 => ?_) (fun hc16 => ?_)
      · skip
        refine j_iconst hX dX9_isDigitAt_34 ?_
        exact hret _ _ _ _ dX9_isDigitAt_35 (nb (by omega)) (by omega) ⟨rfl, by omega, by first | assumption | omega⟩
      · skip
        refine j_iconst hX dX9_isDigitAt_30 ?_
        refine j_goto (tgt := 35) hX dX9_isDigitAt_31 (by decide) ?_
        exact hret _ _ _ _ dX9_isDigitAt_35 (nb (by omega)) (by omega) ⟨rfl, by omega, by first | assumption | omega⟩
set_option maxHeartbeats 2000000 in
set_option maxRecDepth 20000 in
theorem c_X9_withLetter (l : Launch) (D : va_G) (cy : Nat → ClassId) (B N : Nat) (a : Int64) (b : Int) (M : MM) (hpb : I32 b) : CL l D cy B N 1 yX9_withLetter cX9_withLetter 3 (some .long) [.long a, iv b] M (fun z M' => M' = M) := by
  refine mk_CL (by decide) (Nat.le_of_ble_eq_true rfl) ?_
  intro X exl exD excy hnL hX hret
  have hce : 0 + 0 ≤ (xR X).cells ∧ 0 + 0 ≤ (xR X).slots := ⟨Nat.zero_le _, Nat.zero_le _⟩
  show J X B N 0 0 0 [(0, .long a), (2, iv b)] [] M
  refine j_lload_n hX dX9_withLetter_0 rfl 0 rfl ?_
  refine j_ldc2 hX (in_1 94 (by first | rfl | decide +kernel) rfl) dX9_withLetter_1 ?_
  refine j_lmul hX dX9_withLetter_4 (fun z1 => ?_)
  refine j_iload_n hX dX9_withLetter_5 rfl 1 rfl ?_
  refine j_bipush hX dX9_withLetter_6 rfl ?_
  refine j_isub hX dX9_withLetter_8 ?_
  refine j_norm (fun z2 hz3 hy4 => ?_)
  refine j_iconst hX dX9_withLetter_9 ?_
  refine j_iadd hX dX9_withLetter_10 ?_
  refine j_norm (fun z5 hz6 hy7 => ?_)
  refine j_i2l hX dX9_withLetter_11 (fun z8 => ?_)
  refine j_ladd hX dX9_withLetter_12 (fun z9 => ?_)
  exact hret _ _ _ _ dX9_withLetter_13 rfl
set_option maxHeartbeats 2000000 in
set_option maxRecDepth 20000 in
theorem c_X9_kindOfWord (l : Launch) (D : va_G) (cy : Nat → ClassId) (B N : Nat) (M : MM) (hN : 210 ≤ N) (hI : Iv M) : CI l D cy B N 1 yX9_kindOfWord cX9_kindOfWord 2 (some .int) [rv B 2] M (fun z M' => M' = M ∧ (z ≠ 2)) := by
  refine mk_CI (by decide) (Nat.le_of_ble_eq_true rfl) ?_
  intro X exl exD excy hnL hX hret
  have hce : 0 + 0 ≤ (xR X).cells ∧ 0 + 0 ≤ (xR X).slots := ⟨Nat.zero_le _, Nat.zero_le _⟩
  have cp : ∀ n : Nat, (∀ (x1 : Int), I32 x1 → (0 ≤ x1 ∧ x1 ≤ 22) → 0 ≤ 32 * (22 - x1) + 1 → 32 * (22 - x1) + 1 < (n : Int) → J X B N 0 0 2 [(0, rv B 2), (1, iv x1)] [] M) := by
    intro n
    induction n with
    | zero => exact by intros; exfalso; omega
    | succ n ih =>
      · intro x1 hxx1 h2 hm0 hm1
        refine j_iload_n hX dX9_kindOfWord_2 rfl 1 rfl ?_
        refine j_bipush hX dX9_kindOfWord_3 rfl ?_
        refine j_icmp_ge (tgt := 34) hX dX9_kindOfWord_5 (by decide) (by omega) (by omega) (fun hc1 => ?_) (fun hc1 => ?_)
        · skip
          refine j_iconst hX dX9_kindOfWord_34 ?_
          exact hret _ _ _ _ dX9_kindOfWord_35 rfl (by omega) ⟨rfl, by first | assumption | omega⟩
        · skip
          refine j_aload_n hX dX9_kindOfWord_8 rfl 0 rfl ?_
          refine gf_X9_15 hX (by omega) (by omega) kc_2 (fc_2_1 hI) (by decide) dX9_kindOfWord_9 ?_
          refine j_iload_n hX dX9_kindOfWord_12 rfl 1 rfl ?_
          refine j_lald hX (by omega) (by omega) kc_4 (by omega) (by omega) (by omega) dX9_kindOfWord_13 ?_
          refine j_aload_n hX dX9_kindOfWord_14 rfl 0 rfl ?_
          refine gf_X9_35 hX (by omega) (by omega) kc_2 dX9_kindOfWord_15 ?_
          refine j_lcmp hX dX9_kindOfWord_18 (fun z2 hz3 hy4 he5 => ?_)
          refine j_if_ne (tgt := 28) hX dX9_kindOfWord_19 (by decide) (by omega) (fun hc6 => ?_) (fun hc6 => ?_)
          · skip
            refine j_iinc (lv' := [(1, _), (0, _)]) hX dX9_kindOfWord_28 1 rfl (by rw [hnL]; decide) rfl ?_
            refine j_goto (tgt := 2) hX dX9_kindOfWord_31 (by decide) ?_
            refine j_sub [1, 0] rfl ?_
            exact ih _ (by omega) (by first | assumption | omega) (by omega) (by omega)
          · skip
            refine j_sipush hX dX9_kindOfWord_22 rfl ?_
            refine j_iload_n hX dX9_kindOfWord_25 rfl 1 rfl ?_
            refine j_iadd hX dX9_kindOfWord_26 ?_
            exact hret _ _ _ _ dX9_kindOfWord_27 rfl (by omega) ⟨rfl, by first | assumption | omega⟩
  show J X B N 0 0 0 [(0, rv B 2)] [] M
  refine j_iconst hX dX9_kindOfWord_0 ?_
  refine j_istore_n (lv' := [(1, _), (0, _)]) hX dX9_kindOfWord_1 rfl (by rw [hnL]; decide) rfl ?_
  refine j_sub [1, 0] rfl ?_
  refine (cp (Int.toNat (768 + 1))) _ (by omega) (by first | assumption | omega) ?_ ?_
  · omega
  · omega
set_option maxHeartbeats 2000000 in
set_option maxRecDepth 20000 in
theorem c_X9_takeWord (l : Launch) (D : va_G) (cy : Nat → ClassId) (B N : Nat) (M : MM) (hN : 210 ≤ N) (hI : Iv M) : CV l D cy B N 2 yX9_takeWord cX9_takeWord 1 none [rv B 2] M (fun M' => Iv M' ∧ Fr (fun a b => (a = 2 ∧ 3 ≤ b ∧ b ≤ 4)) M M' ∧ (M'.1 2 4 ≠ 2)) := by
  refine mk_CV (by decide) (Nat.le_of_ble_eq_true rfl) ?_
  intro X exl exD excy hnL hX hret
  have hce : 0 + 0 ≤ (xR X).cells ∧ 0 + 0 ≤ (xR X).slots := ⟨Nat.zero_le _, Nat.zero_le _⟩
  have hF : Fr (fun a b => (a = 2 ∧ 3 ≤ b ∧ b ≤ 4)) M M := Fr.rf
  have cp : ∀ n : Nat, (∀ (Mc : MM), Iv Mc → Fr (fun a b => (a = 2 ∧ 3 ≤ b ∧ b ≤ 4)) M Mc → 0 ≤ 32 * (1600 - Mc.1 2 3) + 1 → 32 * (1600 - Mc.1 2 3) + 1 < (n : Int) → J X B N 0 0 5 [(0, rv B 2)] [] Mc) := by
    intro n
    induction n with
    | zero => exact by intros; exfalso; omega
    | succ n ih =>
      · intro  Mc hI hF hm0 hm1
        have hat := hI.at 2 3 ro_2_3
        refine j_aload_n hX dX9_takeWord_5 rfl 0 rfl ?_
        refine gf_X9_23 hX (by omega) (by omega) kc_2 dX9_takeWord_6 ?_
        refine j_name hI ro_2_3 (fun v1 hv2 hl3 hh4 => ?_)
        have hk5 := hv2.symm
        refine j_aload_n hX dX9_takeWord_9 rfl 0 rfl ?_
        refine gf_X9_19 hX (by omega) (by omega) kc_2 dX9_takeWord_10 ?_
        refine j_name hI ro_2_2 (fun v6 hv7 hl8 hh9 => ?_)
        have hk10 := hv7.symm
        refine j_icmp_ge (tgt := 60) hX dX9_takeWord_13 (by decide) (by omega) (by omega) (fun hc11 => ?_) (fun hc11 => ?_)
        · skip
          refine j_aload_n hX dX9_takeWord_60 rfl 0 rfl ?_
          refine j_aload_n hX dX9_takeWord_61 rfl 0 rfl ?_
          refine gf_X9_23 hX (by omega) (by omega) kc_2 dX9_takeWord_62 ?_
          refine j_top hk5 ?_
          refine j_aload_n hX dX9_takeWord_65 rfl 0 rfl ?_
          refine gf_X9_29 hX (by omega) (by omega) kc_2 dX9_takeWord_66 ?_
          refine j_name hI ro_2_5 (fun v12 hv13 hl14 hh15 => ?_)
          have hk16 := hv13.symm
          refine j_isub hX dX9_takeWord_69 ?_
          refine j_bipush hX dX9_takeWord_70 rfl ?_
          refine j_icmp_le (tgt := 79) hX dX9_takeWord_72 (by decide) (by omega) (by omega) (fun hc17 => ?_) (fun hc17 => ?_)
          · skip
            refine j_aload_n hX dX9_takeWord_79 rfl 0 rfl ?_
            refine j_callVI hX lk_X9_70 (c_X9_kindOfWord _ _ _ _ _ _ (by omega) hI) (by omega) hce rfl rfl (by omega) (by omega) kc_2 rfl rfl (Nat.le_of_ble_eq_true rfl) dX9_takeWord_80 (fun z18 M19 hz21 hp20 => ?_)
            obtain ⟨rfl, hq22⟩ := hp20
            refine pf_X9_26 hX (by omega) (by omega) kc_2 (by omega) dX9_takeWord_83 ?_
            refine j_up hI ro_2_4 (by omega) (by omega) (Or.inl (by omega)) (fun M23 w24 hw25 hM26 hI27 hf28 => ?_)
            have hk29 := kp_up hM26 (fun h => absurd h.2 (by decide)) hk5
            have hk30 := kp_up hM26 (fun h => absurd h.2 (by decide)) hk10
            have hk31 := kp_up hM26 (fun h => absurd h.2 (by decide)) hk16
            have hF32 := Fr.put hF hM26 (by omega)
            exact hret _ _ _ dX9_takeWord_86 ⟨hI27, hF32, by first | assumption | omega⟩
          · skip
            refine j_iconst hX dX9_takeWord_75 ?_
            refine j_goto (tgt := 83) hX dX9_takeWord_76 (by decide) ?_
            refine pf_X9_26 hX (by omega) (by omega) kc_2 (by omega) dX9_takeWord_83 ?_
            refine j_up hI ro_2_4 (by omega) (by omega) (Or.inl (by omega)) (fun M33 w34 hw35 hM36 hI37 hf38 => ?_)
            have hk39 := kp_up hM36 (fun h => absurd h.2 (by decide)) hk5
            have hk40 := kp_up hM36 (fun h => absurd h.2 (by decide)) hk10
            have hk41 := kp_up hM36 (fun h => absurd h.2 (by decide)) hk16
            have hF42 := Fr.put hF hM36 (by omega)
            exact hret _ _ _ dX9_takeWord_86 ⟨hI37, hF42, by first | assumption | omega⟩
        · skip
          refine j_aload_n hX dX9_takeWord_16 rfl 0 rfl ?_
          refine j_aload_n hX dX9_takeWord_17 rfl 0 rfl ?_
          refine gf_X9_23 hX (by omega) (by omega) kc_2 dX9_takeWord_18 ?_
          refine j_top hk5 ?_
          refine j_callVI hX lk_X9_54 (c_X9_isLetterAt _ _ _ _ _ _ _ (by omega) hI (by omega) (by first | assumption | omega)) (by omega) hce rfl rfl (by omega) (by omega) kc_2 rfl rfl (Nat.le_of_ble_eq_true rfl) dX9_takeWord_21 (fun z43 M44 hz46 hp45 => ?_)
          obtain ⟨rfl, hb47⟩ := hp45
          refine j_if_eq (tgt := 60) hX dX9_takeWord_24 (by decide) (by omega) (fun hc48 => ?_) (fun hc48 => ?_)
          · skip
            refine j_aload_n hX dX9_takeWord_60 rfl 0 rfl ?_
            refine j_aload_n hX dX9_takeWord_61 rfl 0 rfl ?_
            refine gf_X9_23 hX (by omega) (by omega) kc_2 dX9_takeWord_62 ?_
            refine j_top hk5 ?_
            refine j_aload_n hX dX9_takeWord_65 rfl 0 rfl ?_
            refine gf_X9_29 hX (by omega) (by omega) kc_2 dX9_takeWord_66 ?_
            refine j_name hI ro_2_5 (fun v49 hv50 hl51 hh52 => ?_)
            have hk53 := hv50.symm
            refine j_isub hX dX9_takeWord_69 ?_
            refine j_bipush hX dX9_takeWord_70 rfl ?_
            refine j_icmp_le (tgt := 79) hX dX9_takeWord_72 (by decide) (by omega) (by omega) (fun hc54 => ?_) (fun hc54 => ?_)
            · skip
              refine j_aload_n hX dX9_takeWord_79 rfl 0 rfl ?_
              refine j_callVI hX lk_X9_70 (c_X9_kindOfWord _ _ _ _ _ _ (by omega) hI) (by omega) hce rfl rfl (by omega) (by omega) kc_2 rfl rfl (Nat.le_of_ble_eq_true rfl) dX9_takeWord_80 (fun z55 M56 hz58 hp57 => ?_)
              obtain ⟨rfl, hq59⟩ := hp57
              refine pf_X9_26 hX (by omega) (by omega) kc_2 (by omega) dX9_takeWord_83 ?_
              refine j_up hI ro_2_4 (by omega) (by omega) (Or.inl (by omega)) (fun M60 w61 hw62 hM63 hI64 hf65 => ?_)
              have hk66 := kp_up hM63 (fun h => absurd h.2 (by decide)) hk5
              have hk67 := kp_up hM63 (fun h => absurd h.2 (by decide)) hk10
              have hk68 := kp_up hM63 (fun h => absurd h.2 (by decide)) hk53
              have hF69 := Fr.put hF hM63 (by omega)
              exact hret _ _ _ dX9_takeWord_86 ⟨hI64, hF69, by first | assumption | omega⟩
            · skip
              refine j_iconst hX dX9_takeWord_75 ?_
              refine j_goto (tgt := 83) hX dX9_takeWord_76 (by decide) ?_
              refine pf_X9_26 hX (by omega) (by omega) kc_2 (by omega) dX9_takeWord_83 ?_
              refine j_up hI ro_2_4 (by omega) (by omega) (Or.inl (by omega)) (fun M70 w71 hw72 hM73 hI74 hf75 => ?_)
              have hk76 := kp_up hM73 (fun h => absurd h.2 (by decide)) hk5
              have hk77 := kp_up hM73 (fun h => absurd h.2 (by decide)) hk10
              have hk78 := kp_up hM73 (fun h => absurd h.2 (by decide)) hk53
              have hF79 := Fr.put hF hM73 (by omega)
              exact hret _ _ _ dX9_takeWord_86 ⟨hI74, hF79, by first | assumption | omega⟩
          · skip
            refine j_aload_n hX dX9_takeWord_27 rfl 0 rfl ?_
            refine j_aload_n hX dX9_takeWord_28 rfl 0 rfl ?_
            refine gf_X9_35 hX (by omega) (by omega) kc_2 dX9_takeWord_29 ?_
            refine j_aload_n hX dX9_takeWord_32 rfl 0 rfl ?_
            refine gf_X9_9 hX (by omega) (by omega) kc_2 (fc_2_0 hI) (by decide) dX9_takeWord_33 ?_
            refine j_aload_n hX dX9_takeWord_36 rfl 0 rfl ?_
            refine gf_X9_23 hX (by omega) (by omega) kc_2 dX9_takeWord_37 ?_
            refine j_top hk5 ?_
            refine j_bald hX (by omega) (by omega) kc_3 (by omega) (by omega) (by omega) dX9_takeWord_40 ?_
            refine j_name hI (ra_3 _) (fun v80 hv81 hl82 hh83 => ?_)
            refine j_callSL hX lk_X9_50 (c_X9_withLetter _ _ _ _ _ _ _ _ (by omega)) (by omega) hce rfl rfl (Nat.le_of_ble_eq_true rfl) dX9_takeWord_41 (fun z84 M85 hp86 => ?_)
            subst hp86
            refine pf_X9_35 hX (by omega) (by omega) kc_2 dX9_takeWord_44 ?_
            refine j_upL hI (fun M88 hM89 hI90 => ?_)
            have hk91 := kp_l hM89 hk5
            have hk92 := kp_l hM89 hk10
            have hF93 := Fr.l hF hM89
            refine j_aload_n hX dX9_takeWord_47 rfl 0 rfl ?_
            refine j_dup hX dX9_takeWord_48 rfl ?_
            refine gf_X9_23 hX (by omega) (by omega) kc_2 dX9_takeWord_49 ?_
            refine j_top hk91 ?_
            refine j_iconst hX dX9_takeWord_52 ?_
            refine j_iadd hX dX9_takeWord_53 ?_
            refine pf_X9_23 hX (by omega) (by omega) kc_2 (by omega) dX9_takeWord_54 ?_
            refine j_up hI90 ro_2_3 (by omega) (by omega) (Or.inl (by omega)) (fun M94 w95 hw96 hM97 hI98 hf99 => ?_)
            have hk100 := kp_up hM97 (fun h => absurd h.2 (by decide)) hk92
            have hF101 := Fr.put hF93 hM97 (by omega)
            refine j_goto (tgt := 5) hX dX9_takeWord_57 (by decide) ?_
            have hat2 := hI98.at 2 3 ro_2_3
            exact ih _ hI98 hF101 (by omega) (by omega)
  show J X B N 0 0 0 [(0, rv B 2)] [] M
  refine j_aload_n hX dX9_takeWord_0 rfl 0 rfl ?_
  refine j_lconst hX dX9_takeWord_1 ?_
  refine pf_X9_35 hX (by omega) (by omega) kc_2 dX9_takeWord_2 ?_
  refine j_upL hI (fun M102 hM103 hI104 => ?_)
  have hF105 := Fr.l hF hM103
  have hat2 := hI104.at 2 3 ro_2_3
  refine (cp (Int.toNat (51264 + 1))) _ hI104 hF105 ?_ ?_
  · omega
  · omega
set_option maxHeartbeats 2000000 in
set_option maxRecDepth 20000 in
theorem c_X9_takeNumber (l : Launch) (D : va_G) (cy : Nat → ClassId) (B N : Nat) (M : MM) (hN : 210 ≤ N) (hI : Iv M) (h1 : M.1 2 5 = M.1 2 3) : CV l D cy B N 2 yX9_takeNumber cX9_takeNumber 2 none [rv B 2] M (fun M' => Iv M' ∧ Fr (fun a b => (a = 2 ∧ 3 ≤ b ∧ b ≤ 6)) M M' ∧ (KNo M')) := by
  refine mk_CV (by decide) (Nat.le_of_ble_eq_true rfl) ?_
  intro X exl exD excy hnL hX hret
  have hce : 0 + 0 ≤ (xR X).cells ∧ 0 + 0 ≤ (xR X).slots := ⟨Nat.zero_le _, Nat.zero_le _⟩
  have hF : Fr (fun a b => (a = 2 ∧ 3 ≤ b ∧ b ≤ 6)) M M := Fr.rf
  have hk1 : M.1 2 5 = M.1 2 5 := rfl
  have hk2 : M.1 2 3 = M.1 2 3 := rfl
  have hk3 : M.1 2 6 = M.1 2 6 := rfl
  have cp : ∀ n : Nat, (∀ (pl : Int), ∀ (Mc : MM), Iv Mc → Fr (fun a b => (a = 2 ∧ 3 ≤ b ∧ b ≤ 6)) M Mc → Mc.1 2 5 = pl → (0 ≤ pl ∧ pl ≤ Mc.1 2 3 ∧ (Mc.1 2 3 - pl ≤ 4 → 0 ≤ Mc.1 2 6) ∧ (Mc.1 2 3 = pl → Mc.1 2 6 = 0) ∧ (Mc.1 2 3 - pl = 1 → Mc.1 2 6 ≤ 9) ∧ (Mc.1 2 3 - pl = 2 → Mc.1 2 6 ≤ 99) ∧ (Mc.1 2 3 - pl = 3 → Mc.1 2 6 ≤ 999)) → 0 ≤ 32 * (1600 - Mc.1 2 3) + 1 → 32 * (1600 - Mc.1 2 3) + 1 < (n : Int) → J X B N 0 0 5 [(0, rv B 2)] [] Mc) := by
    intro n
    induction n with
    | zero => exact by intros; exfalso; omega
    | succ n ih =>
      · intro pl Mc hI hF hk_0 h2 hm0 hm1
        have hk4 : Mc.1 2 3 = Mc.1 2 3 := rfl
        have hk5 : Mc.1 2 6 = Mc.1 2 6 := rfl
        have hat := hI.at 2 3 ro_2_3
        refine j_aload_n hX dX9_takeNumber_5 rfl 0 rfl ?_
        refine gf_X9_23 hX (by omega) (by omega) kc_2 dX9_takeNumber_6 ?_
        refine j_name hI ro_2_3 (fun v6 hv7 hl8 hh9 => ?_)
        have hk10 := hv7.symm
        refine j_aload_n hX dX9_takeNumber_9 rfl 0 rfl ?_
        refine gf_X9_19 hX (by omega) (by omega) kc_2 dX9_takeNumber_10 ?_
        refine j_name hI ro_2_2 (fun v11 hv12 hl13 hh14 => ?_)
        have hk15 := hv12.symm
        refine j_icmp_ge (tgt := 64) hX dX9_takeNumber_13 (by decide) (by omega) (by omega) (fun hc16 => ?_) (fun hc16 => ?_)
        · skip
          refine j_aload_n hX dX9_takeNumber_64 rfl 0 rfl ?_
          refine gf_X9_23 hX (by omega) (by omega) kc_2 dX9_takeNumber_65 ?_
          refine j_top hk10 ?_
          refine j_aload_n hX dX9_takeNumber_68 rfl 0 rfl ?_
          refine gf_X9_29 hX (by omega) (by omega) kc_2 dX9_takeNumber_69 ?_
          refine j_top hk_0 ?_
          refine j_isub hX dX9_takeNumber_72 ?_
          refine j_norm (fun z17 hz18 hy19 => ?_)
          have hn20 := norm_f hz18
          refine j_iconst hX dX9_takeNumber_73 ?_
          refine j_icmp_gt (tgt := 88) hX dX9_takeNumber_74 (by decide) (by omega) (by omega) (fun hc21 => ?_) (fun hc21 => ?_)
          · skip
            refine j_iconst hX dX9_takeNumber_88 ?_
            refine j_goto (tgt := 93) hX dX9_takeNumber_89 (by decide) ?_
            refine j_istore_n (lv' := [(1, _), (0, _)]) hX dX9_takeNumber_93 rfl (by rw [hnL]; decide) rfl ?_
            refine j_aload_n hX dX9_takeNumber_94 rfl 1 rfl ?_
            refine j_iload_n hX dX9_takeNumber_95 rfl 0 rfl ?_
            refine j_if_eq (tgt := 103) hX dX9_takeNumber_96 (by decide) (by omega) (fun hc22 => ?_) (fun hc22 => ?_)
            · skip
              refine j_iconst hX dX9_takeNumber_103 ?_
              refine pf_X9_26 hX (by omega) (by omega) kc_2 (by omega) dX9_takeNumber_104 ?_
              refine j_up hI ro_2_4 (by omega) (by omega) (Or.inl (by omega)) (fun M23 w24 hw25 hM26 hI27 hf28 => ?_)
              have hk29 := kp_up hM26 (fun h => absurd h.2 (by decide)) hk_0
              have hk30 := kp_up hM26 (fun h => absurd h.2 (by decide)) hk10
              have hk31 := kp_up hM26 (fun h => absurd h.2 (by decide)) hk5
              have hk32 := kp_up hM26 (fun h => absurd h.2 (by decide)) hk15
              have hF33 := Fr.put hF hM26 (by omega)
              exact hret _ _ _ dX9_takeNumber_107 ⟨hI27, hF33, by intro h; omega⟩
            · skip
              refine j_iconst hX dX9_takeNumber_99 ?_
              refine j_goto (tgt := 104) hX dX9_takeNumber_100 (by decide) ?_
              refine pf_X9_26 hX (by omega) (by omega) kc_2 (by omega) dX9_takeNumber_104 ?_
              refine j_up hI ro_2_4 (by omega) (by omega) (Or.inl (by omega)) (fun M34 w35 hw36 hM37 hI38 hf39 => ?_)
              have hk40 := kp_up hM37 (fun h => absurd h.2 (by decide)) hk_0
              have hk41 := kp_up hM37 (fun h => absurd h.2 (by decide)) hk10
              have hk42 := kp_up hM37 (fun h => absurd h.2 (by decide)) hk5
              have hk43 := kp_up hM37 (fun h => absurd h.2 (by decide)) hk15
              have hF44 := Fr.put hF hM37 (by omega)
              exact hret _ _ _ dX9_takeNumber_107 ⟨hI38, hF44, by intro h; omega⟩
          · skip
            refine j_aload_n hX dX9_takeNumber_77 rfl 0 rfl ?_
            refine j_aload_n hX dX9_takeNumber_78 rfl 0 rfl ?_
            refine gf_X9_23 hX (by omega) (by omega) kc_2 dX9_takeNumber_79 ?_
            refine j_top hk10 ?_
            refine j_callVI hX lk_X9_54 (c_X9_isLetterAt _ _ _ _ _ _ _ (by omega) hI (by omega) (by first | assumption | omega)) (by omega) hce rfl rfl (by omega) (by omega) kc_2 rfl rfl (Nat.le_of_ble_eq_true rfl) dX9_takeNumber_82 (fun z45 M46 hz48 hp47 => ?_)
            obtain ⟨rfl, hb49⟩ := hp47
            refine j_if_eq (tgt := 92) hX dX9_takeNumber_85 (by decide) (by omega) (fun hc50 => ?_) (fun hc50 => ?_)
            · skip
              refine j_iconst hX dX9_takeNumber_92 ?_
              refine j_istore_n (lv' := [(1, _), (0, _)]) hX dX9_takeNumber_93 rfl (by rw [hnL]; decide) rfl ?_
              refine j_aload_n hX dX9_takeNumber_94 rfl 1 rfl ?_
              refine j_iload_n hX dX9_takeNumber_95 rfl 0 rfl ?_
              refine j_if_eq (tgt := 103) hX dX9_takeNumber_96 (by decide) (by omega) (fun hc51 => ?_) (fun hc51 => ?_)
              · skip
                refine j_iconst hX dX9_takeNumber_103 ?_
                refine pf_X9_26 hX (by omega) (by omega) kc_2 (by omega) dX9_takeNumber_104 ?_
                refine j_up hI ro_2_4 (by omega) (by omega) (Or.inl (by omega)) (fun M52 w53 hw54 hM55 hI56 hf57 => ?_)
                have hk58 := kp_up hM55 (fun h => absurd h.2 (by decide)) hk_0
                have hk59 := kp_up hM55 (fun h => absurd h.2 (by decide)) hk10
                have hk60 := kp_up hM55 (fun h => absurd h.2 (by decide)) hk5
                have hk61 := kp_up hM55 (fun h => absurd h.2 (by decide)) hk15
                have hF62 := Fr.put hF hM55 (by omega)
                exact hret _ _ _ dX9_takeNumber_107 ⟨hI56, hF62, by intro h; omega⟩
              · skip
                refine j_iconst hX dX9_takeNumber_99 ?_
                refine j_goto (tgt := 104) hX dX9_takeNumber_100 (by decide) ?_
                refine pf_X9_26 hX (by omega) (by omega) kc_2 (by omega) dX9_takeNumber_104 ?_
                refine j_up hI ro_2_4 (by omega) (by omega) (Or.inl (by omega)) (fun M63 w64 hw65 hM66 hI67 hf68 => ?_)
                have hk69 := kp_up hM66 (fun h => absurd h.2 (by decide)) hk_0
                have hk70 := kp_up hM66 (fun h => absurd h.2 (by decide)) hk10
                have hk71 := kp_up hM66 (fun h => absurd h.2 (by decide)) hk5
                have hk72 := kp_up hM66 (fun h => absurd h.2 (by decide)) hk15
                have hF73 := Fr.put hF hM66 (by omega)
                exact hret _ _ _ dX9_takeNumber_107 ⟨hI67, hF73, by intro h; omega⟩
            · skip
              refine j_iconst hX dX9_takeNumber_88 ?_
              refine j_goto (tgt := 93) hX dX9_takeNumber_89 (by decide) ?_
              refine j_istore_n (lv' := [(1, _), (0, _)]) hX dX9_takeNumber_93 rfl (by rw [hnL]; decide) rfl ?_
              refine j_aload_n hX dX9_takeNumber_94 rfl 1 rfl ?_
              refine j_iload_n hX dX9_takeNumber_95 rfl 0 rfl ?_
              refine j_if_eq (tgt := 103) hX dX9_takeNumber_96 (by decide) (by omega) (fun hc74 => ?_) (fun hc74 => ?_)
              · skip
                refine j_iconst hX dX9_takeNumber_103 ?_
                refine pf_X9_26 hX (by omega) (by omega) kc_2 (by omega) dX9_takeNumber_104 ?_
                refine j_up hI ro_2_4 (by omega) (by omega) (Or.inl (by omega)) (fun M75 w76 hw77 hM78 hI79 hf80 => ?_)
                have hk81 := kp_up hM78 (fun h => absurd h.2 (by decide)) hk_0
                have hk82 := kp_up hM78 (fun h => absurd h.2 (by decide)) hk10
                have hk83 := kp_up hM78 (fun h => absurd h.2 (by decide)) hk5
                have hk84 := kp_up hM78 (fun h => absurd h.2 (by decide)) hk15
                have hF85 := Fr.put hF hM78 (by omega)
                exact hret _ _ _ dX9_takeNumber_107 ⟨hI79, hF85, by intro h; omega⟩
              · skip
                refine j_iconst hX dX9_takeNumber_99 ?_
                refine j_goto (tgt := 104) hX dX9_takeNumber_100 (by decide) ?_
                refine pf_X9_26 hX (by omega) (by omega) kc_2 (by omega) dX9_takeNumber_104 ?_
                refine j_up hI ro_2_4 (by omega) (by omega) (Or.inl (by omega)) (fun M86 w87 hw88 hM89 hI90 hf91 => ?_)
                have hk92 := kp_up hM89 (fun h => absurd h.2 (by decide)) hk_0
                have hk93 := kp_up hM89 (fun h => absurd h.2 (by decide)) hk10
                have hk94 := kp_up hM89 (fun h => absurd h.2 (by decide)) hk5
                have hk95 := kp_up hM89 (fun h => absurd h.2 (by decide)) hk15
                have hF96 := Fr.put hF hM89 (by omega)
                exact hret _ _ _ dX9_takeNumber_107 ⟨hI90, hF96, by intro h; omega⟩
        · skip
          refine j_aload_n hX dX9_takeNumber_16 rfl 0 rfl ?_
          refine j_aload_n hX dX9_takeNumber_17 rfl 0 rfl ?_
          refine gf_X9_23 hX (by omega) (by omega) kc_2 dX9_takeNumber_18 ?_
          refine j_top hk10 ?_
          refine j_callVI hX lk_X9_61 (c_X9_isDigitAt _ _ _ _ _ _ _ (by omega) hI (by omega) (by first | assumption | omega)) (by omega) hce rfl rfl (by omega) (by omega) kc_2 rfl rfl (Nat.le_of_ble_eq_true rfl) dX9_takeNumber_21 (fun z97 M98 hz100 hp99 => ?_)
          obtain ⟨rfl, hb101, hq102⟩ := hp99
          refine j_if_eq (tgt := 64) hX dX9_takeNumber_24 (by decide) (by omega) (fun hc103 => ?_) (fun hc103 => ?_)
          · skip
            clear hq102
            refine j_aload_n hX dX9_takeNumber_64 rfl 0 rfl ?_
            refine gf_X9_23 hX (by omega) (by omega) kc_2 dX9_takeNumber_65 ?_
            refine j_top hk10 ?_
            refine j_aload_n hX dX9_takeNumber_68 rfl 0 rfl ?_
            refine gf_X9_29 hX (by omega) (by omega) kc_2 dX9_takeNumber_69 ?_
            refine j_top hk_0 ?_
            refine j_isub hX dX9_takeNumber_72 ?_
            refine j_norm (fun z104 hz105 hy106 => ?_)
            have hn107 := norm_f hz105
            refine j_iconst hX dX9_takeNumber_73 ?_
            refine j_icmp_gt (tgt := 88) hX dX9_takeNumber_74 (by decide) (by omega) (by omega) (fun hc108 => ?_) (fun hc108 => ?_)
            · skip
              refine j_iconst hX dX9_takeNumber_88 ?_
              refine j_goto (tgt := 93) hX dX9_takeNumber_89 (by decide) ?_
              refine j_istore_n (lv' := [(1, _), (0, _)]) hX dX9_takeNumber_93 rfl (by rw [hnL]; decide) rfl ?_
              refine j_aload_n hX dX9_takeNumber_94 rfl 1 rfl ?_
              refine j_iload_n hX dX9_takeNumber_95 rfl 0 rfl ?_
              refine j_if_eq (tgt := 103) hX dX9_takeNumber_96 (by decide) (by omega) (fun hc109 => ?_) (fun hc109 => ?_)
              · skip
                refine j_iconst hX dX9_takeNumber_103 ?_
                refine pf_X9_26 hX (by omega) (by omega) kc_2 (by omega) dX9_takeNumber_104 ?_
                refine j_up hI ro_2_4 (by omega) (by omega) (Or.inl (by omega)) (fun M110 w111 hw112 hM113 hI114 hf115 => ?_)
                have hk116 := kp_up hM113 (fun h => absurd h.2 (by decide)) hk_0
                have hk117 := kp_up hM113 (fun h => absurd h.2 (by decide)) hk10
                have hk118 := kp_up hM113 (fun h => absurd h.2 (by decide)) hk5
                have hk119 := kp_up hM113 (fun h => absurd h.2 (by decide)) hk15
                have hF120 := Fr.put hF hM113 (by omega)
                exact hret _ _ _ dX9_takeNumber_107 ⟨hI114, hF120, by intro h; omega⟩
              · skip
                refine j_iconst hX dX9_takeNumber_99 ?_
                refine j_goto (tgt := 104) hX dX9_takeNumber_100 (by decide) ?_
                refine pf_X9_26 hX (by omega) (by omega) kc_2 (by omega) dX9_takeNumber_104 ?_
                refine j_up hI ro_2_4 (by omega) (by omega) (Or.inl (by omega)) (fun M121 w122 hw123 hM124 hI125 hf126 => ?_)
                have hk127 := kp_up hM124 (fun h => absurd h.2 (by decide)) hk_0
                have hk128 := kp_up hM124 (fun h => absurd h.2 (by decide)) hk10
                have hk129 := kp_up hM124 (fun h => absurd h.2 (by decide)) hk5
                have hk130 := kp_up hM124 (fun h => absurd h.2 (by decide)) hk15
                have hF131 := Fr.put hF hM124 (by omega)
                exact hret _ _ _ dX9_takeNumber_107 ⟨hI125, hF131, by intro h; omega⟩
            · skip
              refine j_aload_n hX dX9_takeNumber_77 rfl 0 rfl ?_
              refine j_aload_n hX dX9_takeNumber_78 rfl 0 rfl ?_
              refine gf_X9_23 hX (by omega) (by omega) kc_2 dX9_takeNumber_79 ?_
              refine j_top hk10 ?_
              refine j_callVI hX lk_X9_54 (c_X9_isLetterAt _ _ _ _ _ _ _ (by omega) hI (by omega) (by first | assumption | omega)) (by omega) hce rfl rfl (by omega) (by omega) kc_2 rfl rfl (Nat.le_of_ble_eq_true rfl) dX9_takeNumber_82 (fun z132 M133 hz135 hp134 => ?_)
              obtain ⟨rfl, hb136⟩ := hp134
              refine j_if_eq (tgt := 92) hX dX9_takeNumber_85 (by decide) (by omega) (fun hc137 => ?_) (fun hc137 => ?_)
              · skip
                refine j_iconst hX dX9_takeNumber_92 ?_
                refine j_istore_n (lv' := [(1, _), (0, _)]) hX dX9_takeNumber_93 rfl (by rw [hnL]; decide) rfl ?_
                refine j_aload_n hX dX9_takeNumber_94 rfl 1 rfl ?_
                refine j_iload_n hX dX9_takeNumber_95 rfl 0 rfl ?_
                refine j_if_eq (tgt := 103) hX dX9_takeNumber_96 (by decide) (by omega) (fun hc138 => ?_) (fun hc138 => ?_)
                · skip
                  refine j_iconst hX dX9_takeNumber_103 ?_
                  refine pf_X9_26 hX (by omega) (by omega) kc_2 (by omega) dX9_takeNumber_104 ?_
                  refine j_up hI ro_2_4 (by omega) (by omega) (Or.inl (by omega)) (fun M139 w140 hw141 hM142 hI143 hf144 => ?_)
                  have hk145 := kp_up hM142 (fun h => absurd h.2 (by decide)) hk_0
                  have hk146 := kp_up hM142 (fun h => absurd h.2 (by decide)) hk10
                  have hk147 := kp_up hM142 (fun h => absurd h.2 (by decide)) hk5
                  have hk148 := kp_up hM142 (fun h => absurd h.2 (by decide)) hk15
                  have hF149 := Fr.put hF hM142 (by omega)
                  exact hret _ _ _ dX9_takeNumber_107 ⟨hI143, hF149, by intro h; omega⟩
                · skip
                  refine j_iconst hX dX9_takeNumber_99 ?_
                  refine j_goto (tgt := 104) hX dX9_takeNumber_100 (by decide) ?_
                  refine pf_X9_26 hX (by omega) (by omega) kc_2 (by omega) dX9_takeNumber_104 ?_
                  refine j_up hI ro_2_4 (by omega) (by omega) (Or.inl (by omega)) (fun M150 w151 hw152 hM153 hI154 hf155 => ?_)
                  have hk156 := kp_up hM153 (fun h => absurd h.2 (by decide)) hk_0
                  have hk157 := kp_up hM153 (fun h => absurd h.2 (by decide)) hk10
                  have hk158 := kp_up hM153 (fun h => absurd h.2 (by decide)) hk5
                  have hk159 := kp_up hM153 (fun h => absurd h.2 (by decide)) hk15
                  have hF160 := Fr.put hF hM153 (by omega)
                  exact hret _ _ _ dX9_takeNumber_107 ⟨hI154, hF160, by intro h; omega⟩
              · skip
                refine j_iconst hX dX9_takeNumber_88 ?_
                refine j_goto (tgt := 93) hX dX9_takeNumber_89 (by decide) ?_
                refine j_istore_n (lv' := [(1, _), (0, _)]) hX dX9_takeNumber_93 rfl (by rw [hnL]; decide) rfl ?_
                refine j_aload_n hX dX9_takeNumber_94 rfl 1 rfl ?_
                refine j_iload_n hX dX9_takeNumber_95 rfl 0 rfl ?_
                refine j_if_eq (tgt := 103) hX dX9_takeNumber_96 (by decide) (by omega) (fun hc161 => ?_) (fun hc161 => ?_)
                · skip
                  refine j_iconst hX dX9_takeNumber_103 ?_
                  refine pf_X9_26 hX (by omega) (by omega) kc_2 (by omega) dX9_takeNumber_104 ?_
                  refine j_up hI ro_2_4 (by omega) (by omega) (Or.inl (by omega)) (fun M162 w163 hw164 hM165 hI166 hf167 => ?_)
                  have hk168 := kp_up hM165 (fun h => absurd h.2 (by decide)) hk_0
                  have hk169 := kp_up hM165 (fun h => absurd h.2 (by decide)) hk10
                  have hk170 := kp_up hM165 (fun h => absurd h.2 (by decide)) hk5
                  have hk171 := kp_up hM165 (fun h => absurd h.2 (by decide)) hk15
                  have hF172 := Fr.put hF hM165 (by omega)
                  exact hret _ _ _ dX9_takeNumber_107 ⟨hI166, hF172, by intro h; omega⟩
                · skip
                  refine j_iconst hX dX9_takeNumber_99 ?_
                  refine j_goto (tgt := 104) hX dX9_takeNumber_100 (by decide) ?_
                  refine pf_X9_26 hX (by omega) (by omega) kc_2 (by omega) dX9_takeNumber_104 ?_
                  refine j_up hI ro_2_4 (by omega) (by omega) (Or.inl (by omega)) (fun M173 w174 hw175 hM176 hI177 hf178 => ?_)
                  have hk179 := kp_up hM176 (fun h => absurd h.2 (by decide)) hk_0
                  have hk180 := kp_up hM176 (fun h => absurd h.2 (by decide)) hk10
                  have hk181 := kp_up hM176 (fun h => absurd h.2 (by decide)) hk5
                  have hk182 := kp_up hM176 (fun h => absurd h.2 (by decide)) hk15
                  have hF183 := Fr.put hF hM176 (by omega)
                  exact hret _ _ _ dX9_takeNumber_107 ⟨hI177, hF183, by intro h; omega⟩
          · skip
            have hi184 := hq102 (by omega)
            clear hq102
            refine j_aload_n hX dX9_takeNumber_27 rfl 0 rfl ?_
            refine j_aload_n hX dX9_takeNumber_28 rfl 0 rfl ?_
            refine gf_X9_32 hX (by omega) (by omega) kc_2 dX9_takeNumber_29 ?_
            refine j_name hI ro_2_6 (fun v185 hv186 hl187 hh188 => ?_)
            have hk189 := hv186.symm
            refine j_bipush hX dX9_takeNumber_32 rfl ?_
            refine j_imul hX dX9_takeNumber_34 ?_
            refine j_norm (fun z190 hz191 hy192 => ?_)
            have hn193 := norm_f hz191
            refine j_aload_n hX dX9_takeNumber_35 rfl 0 rfl ?_
            refine gf_X9_9 hX (by omega) (by omega) kc_2 (fc_2_0 hI) (by decide) dX9_takeNumber_36 ?_
            refine j_aload_n hX dX9_takeNumber_39 rfl 0 rfl ?_
            refine gf_X9_23 hX (by omega) (by omega) kc_2 dX9_takeNumber_40 ?_
            refine j_top hk10 ?_
            refine j_bald hX (by omega) (by omega) kc_3 (by omega) (by omega) (by omega) dX9_takeNumber_43 ?_
            refine j_name hI (ra_3 _) (fun v194 hv195 hl196 hh197 => ?_)
            refine j_bipush hX dX9_takeNumber_44 rfl ?_
            refine j_isub hX dX9_takeNumber_46 ?_
            refine j_norm (fun z198 hz199 hy200 => ?_)
            have hn201 := norm_f hz199
            refine j_iadd hX dX9_takeNumber_47 ?_
            refine j_norm (fun z202 hz203 hy204 => ?_)
            have hn205 := norm_f hz203
            refine pf_X9_32 hX (by omega) (by omega) kc_2 (by omega) dX9_takeNumber_48 ?_
            refine j_up hI ro_2_6 (by omega) (by omega) (Or.inl (by omega)) (fun M206 w207 hw208 hM209 hI210 hf211 => ?_)
            have hk212 := kp_up hM209 (fun h => absurd h.2 (by decide)) hk_0
            have hk213 := kp_up hM209 (fun h => absurd h.2 (by decide)) hk10
            have hk214 := kp_up hM209 (fun h => absurd h.2 (by decide)) hk15
            have hF215 := Fr.put hF hM209 (by omega)
            refine j_aload_n hX dX9_takeNumber_51 rfl 0 rfl ?_
            refine j_dup hX dX9_takeNumber_52 rfl ?_
            refine gf_X9_23 hX (by omega) (by omega) kc_2 dX9_takeNumber_53 ?_
            refine j_top hk213 ?_
            refine j_iconst hX dX9_takeNumber_56 ?_
            refine j_iadd hX dX9_takeNumber_57 ?_
            refine j_norm (fun z216 hz217 hy218 => ?_)
            have hn219 := norm_f hz217
            refine pf_X9_23 hX (by omega) (by omega) kc_2 (by omega) dX9_takeNumber_58 ?_
            refine j_up hI210 ro_2_3 (by omega) (by omega) (Or.inl (by omega)) (fun M220 w221 hw222 hM223 hI224 hf225 => ?_)
            have hk226 := kp_up hM223 (fun h => absurd h.2 (by decide)) hk212
            have hk227 := kp_up hM223 (fun h => absurd h.2 (by decide)) hk214
            have hk228 := kp_up hM223 (fun h => absurd h.2 (by decide)) hf211
            have hF229 := Fr.put hF215 hM223 (by omega)
            refine j_goto (tgt := 5) hX dX9_takeNumber_61 (by decide) ?_
            have hat2 := hI224.at 2 3 ro_2_3
            exact ih _ _ hI224 hF229 hk226 (by first | assumption | omega) (by omega) (by omega)
  show J X B N 0 0 0 [(0, rv B 2)] [] M
  refine j_aload_n hX dX9_takeNumber_0 rfl 0 rfl ?_
  refine j_iconst hX dX9_takeNumber_1 ?_
  refine pf_X9_32 hX (by omega) (by omega) kc_2 (by omega) dX9_takeNumber_2 ?_
  refine j_up hI ro_2_6 (by omega) (by omega) (Or.inl (by omega)) (fun M230 w231 hw232 hM233 hI234 hf235 => ?_)
  have hk236 := kp_up hM233 (fun h => absurd h.2 (by decide)) hk1
  have hk237 := kp_up hM233 (fun h => absurd h.2 (by decide)) hk2
  have hF238 := Fr.put hF hM233 (by omega)
  have hat2 := hI234.at 2 3 ro_2_3
  refine (cp (Int.toNat (51264 + 1))) _ _ hI234 hF238 hk236 (by first | assumption | omega) ?_ ?_
  · omega
  · omega
