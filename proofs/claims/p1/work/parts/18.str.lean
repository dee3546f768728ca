theorem sh0 (x : Int32) : x >>> (0 : Int32) = x := by
  apply Int32.toBitVec_inj.mp
  rw [Int32.toBitVec_shiftRight]
  rw [show (0 : Int32).toBitVec.smod 32 = 0#32 by decide]
  simp
theorem nar_c {z : Int} (h0 : 0 ≤ z) (h1 : z ≤ 65535) : narrow .char (iv z) = iv z := by
  obtain ⟨i, hi, e⟩ : ∃ i : Nat, i < 65536 ∧ z = (i : Int) := ⟨z.toNat, by omega, by omega⟩
  subst e
  show Value.int (vp_nar .char (Int32.ofInt (i : Int))) = _
  rw [vp_nar_char]
  unfold iv
  congr 1
  apply Int32.toBitVec_inj.mp
  apply BitVec.eq_of_toNat_eq
  have e1 : (Int32.ofInt (i : Int)).toBitVec.toNat = i := by
    show (BitVec.ofInt 32 (i : Int)).toNat = i
    rw [BitVec.toNat_ofInt]
    omega
  simp [e1]
  omega
theorem i2c_id {a z : Int} (h : z = ((Int32.ofInt a).toUInt32 % 65536).toInt32.toInt) (h0 : 0 ≤ a) (h1 : a ≤ 255) : z = a := by
  obtain ⟨i, hi, e⟩ : ∃ i : Nat, i < 256 ∧ a = (i : Int) := ⟨a.toNat, by omega, by omega⟩
  subst e
  rw [h]
  exact (by decide +kernel : ∀ i : Nat, i < 256 → ((Int32.ofInt (i : Int)).toUInt32 % 65536).toInt32.toInt = (i : Int)) i hi
def b8 (c : Int) : Int := (Int32.ofInt c).toInt8.toInt
theorem b8_r (c : Int) : -128 ≤ b8 c ∧ b8 c ≤ 127 := by
  unfold b8
  have h1 := Int8.le_toInt (Int32.ofInt c).toInt8
  have h2 := Int8.toInt_lt (Int32.ofInt c).toInt8
  omega
theorem j_i2bx {X : CT} {B N ce sl L : Nat} {cc : ByteArray} {own : String} {pc : Nat} {lv : List (Nat × Value)} {st : List Value} {M : MM} (hX : Cx X B L cc own) {a : Int} (d : decode cc pc = .ok (.i2b, 1)) (kk : J X B N ce sl (pc + 1) lv (iv (b8 a) :: st) M) : J X B N ce sl pc lv (iv a :: st) M := by
  obtain ⟨p, l, e, R, s, m, args, below, meth, c, D, cy, nL, Q⟩ := X
  intro H locs ls hW hS hl
  refine lv_i2b hX.1 hX.2.1 d rfl ?_
  have h := kk
  rw [show b8 a = (Int32.ofInt a).toInt8.toInt32.toInt by unfold b8; rw [Int8.toInt_toInt32], iv_of] at h
  exact h H locs ls hW hS hl
theorem ny_J0_coder_7d493 : Cond.initialized yJ0_coder_7d493.cls ∈ gw ∧ Cond.code yJ0_coder_7d493 cJ0_coder_7d493 1 (some .byte) ∈ gw ∧ (yJ0_coder_7d493.cls ≠ "java/lang/invoke/MethodHandle" ∧ yJ0_coder_7d493.cls ≠ "java/lang/invoke/VarHandle" ∧ (parseMethodDescriptor yJ0_coder_7d493.desc).map (fun d => d.parameters.length) = some 0) ∧ 1 ≤ 45 := ⟨in_1 4 (by first | rfl | decide +kernel) rfl, in_1 50 (by first | rfl | decide +kernel) rfl, by decide +kernel, by decide⟩
theorem ln_J0_335 : LkV RJ0 335 yJ0_coder_7d493 cJ0_coder_7d493 1 (some .byte) 0 := ⟨⟨in_1 47 (by first | rfl | decide +kernel) rfl, ny_J0_coder_7d493⟩, in_1 48 (by first | rfl | decide +kernel) rfl, in_1 49 (by first | rfl | decide +kernel) rfl⟩
theorem ny_J0_isLatin1_aae02 : Cond.initialized yJ0_isLatin1_aae02.cls ∈ gw ∧ Cond.code yJ0_isLatin1_aae02 cJ0_isLatin1_aae02 1 (some .boolean) ∈ gw ∧ (yJ0_isLatin1_aae02.cls ≠ "java/lang/invoke/MethodHandle" ∧ yJ0_isLatin1_aae02.cls ≠ "java/lang/invoke/VarHandle" ∧ (parseMethodDescriptor yJ0_isLatin1_aae02.desc).map (fun d => d.parameters.length) = some 0) ∧ 1 ≤ 45 := ⟨in_1 4 (by first | rfl | decide +kernel) rfl, in_1 60 (by first | rfl | decide +kernel) rfl, by decide +kernel, by decide⟩
theorem ln_J0_492 : LkV RJ0 492 yJ0_isLatin1_aae02 cJ0_isLatin1_aae02 1 (some .boolean) 0 := ⟨⟨in_1 57 (by first | rfl | decide +kernel) rfl, ny_J0_isLatin1_aae02⟩, in_1 58 (by first | rfl | decide +kernel) rfl, in_1 59 (by first | rfl | decide +kernel) rfl⟩
theorem ny_J1_charAt_3b067 : Cond.initialized yJ1_charAt_3b067.cls ∈ gw ∧ Cond.code yJ1_charAt_3b067 cJ1_charAt_3b067 2 (some .char) ∈ gw ∧ (yJ1_charAt_3b067.cls ≠ "java/lang/invoke/MethodHandle" ∧ yJ1_charAt_3b067.cls ≠ "java/lang/invoke/VarHandle" ∧ (parseMethodDescriptor yJ1_charAt_3b067.desc).map (fun d => d.parameters.length) = some 2) ∧ 2 ≤ 45 := ⟨in_1 5 (by first | rfl | decide +kernel) rfl, in_1 63 (by first | rfl | decide +kernel) rfl, by decide +kernel, by decide⟩
theorem ln_J0_495 : LkS RJ0 495 yJ1_charAt_3b067 cJ1_charAt_3b067 2 (some .char) 2 := ⟨⟨in_1 61 (by first | rfl | decide +kernel) rfl, ny_J1_charAt_3b067⟩, in_1 62 (by first | rfl | decide +kernel) rfl⟩
theorem ny_J0_length_8abf5 : Cond.initialized yJ0_length_8abf5.cls ∈ gw ∧ Cond.code yJ0_length_8abf5 cJ0_length_8abf5 1 (some .int) ∈ gw ∧ (yJ0_length_8abf5.cls ≠ "java/lang/invoke/MethodHandle" ∧ yJ0_length_8abf5.cls ≠ "java/lang/invoke/VarHandle" ∧ (parseMethodDescriptor yJ0_length_8abf5.desc).map (fun d => d.parameters.length) = some 0) ∧ 1 ≤ 45 := ⟨in_1 4 (by first | rfl | decide +kernel) rfl, in_1 46 (by first | rfl | decide +kernel) rfl, by decide +kernel, by decide⟩
theorem ln_J0_505 : LkV RJ0 505 yJ0_length_8abf5 cJ0_length_8abf5 1 (some .int) 0 := ⟨⟨in_3 67 (by first | rfl | decide +kernel) rfl, ny_J0_length_8abf5⟩, in_1 44 (by first | rfl | decide +kernel) rfl, in_1 45 (by first | rfl | decide +kernel) rfl⟩
theorem ny_J0_indexOf_7cf53 : Cond.initialized yJ0_indexOf_7cf53.cls ∈ gw ∧ Cond.code yJ0_indexOf_7cf53 cJ0_indexOf_7cf53 3 (some .int) ∈ gw ∧ (yJ0_indexOf_7cf53.cls ≠ "java/lang/invoke/MethodHandle" ∧ yJ0_indexOf_7cf53.cls ≠ "java/lang/invoke/VarHandle" ∧ (parseMethodDescriptor yJ0_indexOf_7cf53.desc).map (fun d => d.parameters.length) = some 2) ∧ 3 ≤ 45 := ⟨in_1 4 (by first | rfl | decide +kernel) rfl, in_3 66 (by first | rfl | decide +kernel) rfl, by decide +kernel, by decide⟩
theorem ln_J0_633 : LkV RJ0 633 yJ0_indexOf_7cf53 cJ0_indexOf_7cf53 3 (some .int) 2 := ⟨⟨in_3 63 (by first | rfl | decide +kernel) rfl, ny_J0_indexOf_7cf53⟩, in_3 64 (by first | rfl | decide +kernel) rfl, in_3 65 (by first | rfl | decide +kernel) rfl⟩
theorem ny_J1_indexOf_4cfef : Cond.initialized yJ1_indexOf_4cfef.cls ∈ gw ∧ Cond.code yJ1_indexOf_4cfef cJ1_indexOf_4cfef 4 (some .int) ∈ gw ∧ (yJ1_indexOf_4cfef.cls ≠ "java/lang/invoke/MethodHandle" ∧ yJ1_indexOf_4cfef.cls ≠ "java/lang/invoke/VarHandle" ∧ (parseMethodDescriptor yJ1_indexOf_4cfef.desc).map (fun d => d.parameters.length) = some 4) ∧ 4 ≤ 45 := ⟨in_1 5 (by first | rfl | decide +kernel) rfl, in_3 70 (by first | rfl | decide +kernel) rfl, by decide +kernel, by decide⟩
theorem ln_J0_637 : LkS RJ0 637 yJ1_indexOf_4cfef cJ1_indexOf_4cfef 4 (some .int) 4 := ⟨⟨in_3 68 (by first | rfl | decide +kernel) rfl, ny_J1_indexOf_4cfef⟩, in_3 69 (by first | rfl | decide +kernel) rfl⟩
theorem ny_J0_checkIndex_df160 : Cond.initialized yJ0_checkIndex_df160.cls ∈ gw ∧ Cond.code yJ0_checkIndex_df160 cJ0_checkIndex_df160 2 none ∈ gw ∧ (yJ0_checkIndex_df160.cls ≠ "java/lang/invoke/MethodHandle" ∧ yJ0_checkIndex_df160.cls ≠ "java/lang/invoke/VarHandle" ∧ (parseMethodDescriptor yJ0_checkIndex_df160.desc).map (fun d => d.parameters.length) = some 2) ∧ 2 ≤ 45 := ⟨in_1 4 (by first | rfl | decide +kernel) rfl, in_1 66 (by first | rfl | decide +kernel) rfl, by decide +kernel, by decide⟩
theorem ln_J1_9 : LkS RJ1 9 yJ0_checkIndex_df160 cJ0_checkIndex_df160 2 none 2 := ⟨⟨in_1 64 (by first | rfl | decide +kernel) rfl, ny_J0_checkIndex_df160⟩, in_1 65 (by first | rfl | decide +kernel) rfl⟩
theorem ny_J1_canEncode_9a6ad : Cond.initialized yJ1_canEncode_9a6ad.cls ∈ gw ∧ Cond.code yJ1_canEncode_9a6ad cJ1_canEncode_9a6ad 1 (some .boolean) ∈ gw ∧ (yJ1_canEncode_9a6ad.cls ≠ "java/lang/invoke/MethodHandle" ∧ yJ1_canEncode_9a6ad.cls ≠ "java/lang/invoke/VarHandle" ∧ (parseMethodDescriptor yJ1_canEncode_9a6ad.desc).map (fun d => d.parameters.length) = some 1) ∧ 1 ≤ 45 := ⟨in_1 5 (by first | rfl | decide +kernel) rfl, in_3 73 (by first | rfl | decide +kernel) rfl, by decide +kernel, by decide⟩
theorem ln_J1_88 : LkS RJ1 88 yJ1_canEncode_9a6ad cJ1_canEncode_9a6ad 1 (some .boolean) 1 := ⟨⟨in_3 71 (by first | rfl | decide +kernel) rfl, ny_J1_canEncode_9a6ad⟩, in_3 72 (by first | rfl | decide +kernel) rfl⟩
theorem ny_J1_indexOfChar_4cfef : Cond.initialized yJ1_indexOfChar_4cfef.cls ∈ gw ∧ Cond.code yJ1_indexOfChar_4cfef cJ1_indexOfChar_4cfef 6 (some .int) ∈ gw ∧ (yJ1_indexOfChar_4cfef.cls ≠ "java/lang/invoke/MethodHandle" ∧ yJ1_indexOfChar_4cfef.cls ≠ "java/lang/invoke/VarHandle" ∧ (parseMethodDescriptor yJ1_indexOfChar_4cfef.desc).map (fun d => d.parameters.length) = some 4) ∧ 6 ≤ 45 := ⟨in_1 5 (by first | rfl | decide +kernel) rfl, in_3 80 (by first | rfl | decide +kernel) rfl, by decide +kernel, by decide⟩
theorem ln_J1_95 : LkS RJ1 95 yJ1_indexOfChar_4cfef cJ1_indexOfChar_4cfef 6 (some .int) 4 := ⟨⟨in_3 78 (by first | rfl | decide +kernel) rfl, ny_J1_indexOfChar_4cfef⟩, in_3 79 (by first | rfl | decide +kernel) rfl⟩
theorem ny_J3_checkIndex_8e157 : Cond.initialized yJ3_checkIndex_8e157.cls ∈ gw ∧ Cond.code yJ3_checkIndex_8e157 cJ3_checkIndex_8e157 3 (some .int) ∈ gw ∧ (yJ3_checkIndex_8e157.cls ≠ "java/lang/invoke/MethodHandle" ∧ yJ3_checkIndex_8e157.cls ≠ "java/lang/invoke/VarHandle" ∧ (parseMethodDescriptor yJ3_checkIndex_8e157.desc).map (fun d => d.parameters.length) = some 3) ∧ 3 ≤ 45 := ⟨in_1 6 (by first | rfl | decide +kernel) rfl, in_1 71 (by first | rfl | decide +kernel) rfl, by decide +kernel, by decide⟩
theorem ln_J0_1059 : LkS RJ0 1059 yJ3_checkIndex_8e157 cJ3_checkIndex_8e157 3 (some .int) 3 := ⟨⟨in_1 69 (by first | rfl | decide +kernel) rfl, ny_J3_checkIndex_8e157⟩, in_1 70 (by first | rfl | decide +kernel) rfl⟩
theorem ny_J0_charAt_5068e : Cond.initialized yJ0_charAt_5068e.cls ∈ gw ∧ Cond.code yJ0_charAt_5068e cJ0_charAt_5068e 2 (some .char) ∈ gw ∧ (yJ0_charAt_5068e.cls ≠ "java/lang/invoke/MethodHandle" ∧ yJ0_charAt_5068e.cls ≠ "java/lang/invoke/VarHandle" ∧ (parseMethodDescriptor yJ0_charAt_5068e.desc).map (fun d => d.parameters.length) = some 1) ∧ 2 ≤ 45 := ⟨in_1 4 (by first | rfl | decide +kernel) rfl, in_1 56 (by first | rfl | decide +kernel) rfl, by decide +kernel, by decide⟩
theorem ln_X9_46 : LkV RX9 46 yJ0_charAt_5068e cJ0_charAt_5068e 2 (some .char) 1 := ⟨⟨in_1 53 (by first | rfl | decide +kernel) rfl, ny_J0_charAt_5068e⟩, in_1 54 (by first | rfl | decide +kernel) rfl, in_1 55 (by first | rfl | decide +kernel) rfl⟩
theorem dJ0_coder_7d493_0 : decode cJ0_coder_7d493 0 = .ok (.getstatic 38, 3) := by decide +kernel
theorem dJ0_coder_7d493_3 : decode cJ0_coder_7d493 3 = .ok (.ifCond .eq 10, 3) := by decide +kernel
theorem dJ0_coder_7d493_6 : decode cJ0_coder_7d493 6 = .ok (.aload_n 0, 1) := by decide +kernel
theorem dJ0_coder_7d493_7 : decode cJ0_coder_7d493 7 = .ok (.getfield 15, 3) := by decide +kernel
theorem dJ0_coder_7d493_10 : decode cJ0_coder_7d493 10 = .ok (.goto 4, 3) := by decide +kernel
theorem dJ0_coder_7d493_13 : decode cJ0_coder_7d493 13 = .ok (.iconst 1, 1) := by decide +kernel
theorem dJ0_coder_7d493_14 : decode cJ0_coder_7d493 14 = .ok (.ireturn, 1) := by decide +kernel
theorem dJ0_isLatin1_aae02_0 : decode cJ0_isLatin1_aae02 0 = .ok (.getstatic 38, 3) := by decide +kernel
theorem dJ0_isLatin1_aae02_3 : decode cJ0_isLatin1_aae02 3 = .ok (.ifCond .eq 14, 3) := by decide +kernel
theorem dJ0_isLatin1_aae02_6 : decode cJ0_isLatin1_aae02 6 = .ok (.aload_n 0, 1) := by decide +kernel
theorem dJ0_isLatin1_aae02_7 : decode cJ0_isLatin1_aae02 7 = .ok (.getfield 15, 3) := by decide +kernel
theorem dJ0_isLatin1_aae02_10 : decode cJ0_isLatin1_aae02 10 = .ok (.ifCond .ne 7, 3) := by decide +kernel
theorem dJ0_isLatin1_aae02_13 : decode cJ0_isLatin1_aae02 13 = .ok (.iconst 1, 1) := by decide +kernel
theorem dJ0_isLatin1_aae02_14 : decode cJ0_isLatin1_aae02 14 = .ok (.goto 4, 3) := by decide +kernel
theorem dJ0_isLatin1_aae02_17 : decode cJ0_isLatin1_aae02 17 = .ok (.iconst 0, 1) := by decide +kernel
theorem dJ0_isLatin1_aae02_18 : decode cJ0_isLatin1_aae02 18 = .ok (.ireturn, 1) := by decide +kernel
theorem dJ0_length_8abf5_0 : decode cJ0_length_8abf5 0 = .ok (.aload_n 0, 1) := by decide +kernel
theorem dJ0_length_8abf5_1 : decode cJ0_length_8abf5 1 = .ok (.getfield 9, 3) := by decide +kernel
theorem dJ0_length_8abf5_4 : decode cJ0_length_8abf5 4 = .ok (.arraylength, 1) := by decide +kernel
theorem dJ0_length_8abf5_5 : decode cJ0_length_8abf5 5 = .ok (.aload_n 0, 1) := by decide +kernel
theorem dJ0_length_8abf5_6 : decode cJ0_length_8abf5 6 = .ok (.invokevirtual 335, 3) := by decide +kernel
theorem dJ0_length_8abf5_9 : decode cJ0_length_8abf5 9 = .ok (.ishr, 1) := by decide +kernel
theorem dJ0_length_8abf5_10 : decode cJ0_length_8abf5 10 = .ok (.ireturn, 1) := by decide +kernel
theorem dJ3_checkIndex_8e157_0 : decode cJ3_checkIndex_8e157 0 = .ok (.iload_n 0, 1) := by decide +kernel
theorem dJ3_checkIndex_8e157_1 : decode cJ3_checkIndex_8e157 1 = .ok (.ifCond .lt 8, 3) := by decide +kernel
theorem dJ3_checkIndex_8e157_4 : decode cJ3_checkIndex_8e157 4 = .ok (.iload_n 0, 1) := by decide +kernel
theorem dJ3_checkIndex_8e157_5 : decode cJ3_checkIndex_8e157 5 = .ok (.iload_n 1, 1) := by decide +kernel
theorem dJ3_checkIndex_8e157_6 : decode cJ3_checkIndex_8e157 6 = .ok (.if_icmp .lt 10, 3) := by decide +kernel
theorem dJ3_checkIndex_8e157_9 : decode cJ3_checkIndex_8e157 9 = .ok (.aload_n 2, 1) := by decide +kernel
theorem dJ3_checkIndex_8e157_10 : decode cJ3_checkIndex_8e157 10 = .ok (.iload_n 0, 1) := by decide +kernel
theorem dJ3_checkIndex_8e157_11 : decode cJ3_checkIndex_8e157 11 = .ok (.iload_n 1, 1) := by decide +kernel
theorem dJ3_checkIndex_8e157_12 : decode cJ3_checkIndex_8e157 12 = .ok (.invokestatic 95, 3) := by decide +kernel
theorem dJ3_checkIndex_8e157_15 : decode cJ3_checkIndex_8e157 15 = .ok (.athrow, 1) := by decide +kernel
theorem dJ3_checkIndex_8e157_16 : decode cJ3_checkIndex_8e157 16 = .ok (.iload_n 0, 1) := by decide +kernel
theorem dJ3_checkIndex_8e157_17 : decode cJ3_checkIndex_8e157 17 = .ok (.ireturn, 1) := by decide +kernel
theorem dJ0_checkIndex_df160_0 : decode cJ0_checkIndex_df160 0 = .ok (.iload_n 0, 1) := by decide +kernel
theorem dJ0_checkIndex_df160_1 : decode cJ0_checkIndex_df160 1 = .ok (.iload_n 1, 1) := by decide +kernel
theorem dJ0_checkIndex_df160_2 : decode cJ0_checkIndex_df160 2 = .ok (.getstatic 1053, 3) := by decide +kernel
theorem dJ0_checkIndex_df160_5 : decode cJ0_checkIndex_df160 5 = .ok (.invokestatic 1059, 3) := by decide +kernel
theorem dJ0_checkIndex_df160_8 : decode cJ0_checkIndex_df160 8 = .ok (.pop, 1) := by decide +kernel
theorem dJ0_checkIndex_df160_9 : decode cJ0_checkIndex_df160 9 = .ok (.return_, 1) := by decide +kernel
theorem dJ1_charAt_3b067_0 : decode cJ1_charAt_3b067 0 = .ok (.iload_n 1, 1) := by decide +kernel
theorem dJ1_charAt_3b067_1 : decode cJ1_charAt_3b067 1 = .ok (.aload_n 0, 1) := by decide +kernel
theorem dJ1_charAt_3b067_2 : decode cJ1_charAt_3b067 2 = .ok (.arraylength, 1) := by decide +kernel
theorem dJ1_charAt_3b067_3 : decode cJ1_charAt_3b067 3 = .ok (.invokestatic 9, 3) := by decide +kernel
theorem dJ1_charAt_3b067_6 : decode cJ1_charAt_3b067 6 = .ok (.aload_n 0, 1) := by decide +kernel
theorem dJ1_charAt_3b067_7 : decode cJ1_charAt_3b067 7 = .ok (.iload_n 1, 1) := by decide +kernel
theorem dJ1_charAt_3b067_8 : decode cJ1_charAt_3b067 8 = .ok (.baload, 1) := by decide +kernel
theorem dJ1_charAt_3b067_9 : decode cJ1_charAt_3b067 9 = .ok (.sipush 255, 3) := by decide +kernel
theorem dJ1_charAt_3b067_12 : decode cJ1_charAt_3b067 12 = .ok (.iand, 1) := by decide +kernel
theorem dJ1_charAt_3b067_13 : decode cJ1_charAt_3b067 13 = .ok (.i2c, 1) := by decide +kernel
theorem dJ1_charAt_3b067_14 : decode cJ1_charAt_3b067 14 = .ok (.ireturn, 1) := by decide +kernel
theorem dJ0_charAt_5068e_0 : decode cJ0_charAt_5068e 0 = .ok (.aload_n 0, 1) := by decide +kernel
theorem dJ0_charAt_5068e_1 : decode cJ0_charAt_5068e 1 = .ok (.invokevirtual 492, 3) := by decide +kernel
theorem dJ0_charAt_5068e_4 : decode cJ0_charAt_5068e 4 = .ok (.ifCond .eq 12, 3) := by decide +kernel
theorem dJ0_charAt_5068e_7 : decode cJ0_charAt_5068e 7 = .ok (.aload_n 0, 1) := by decide +kernel
theorem dJ0_charAt_5068e_8 : decode cJ0_charAt_5068e 8 = .ok (.getfield 9, 3) := by decide +kernel
theorem dJ0_charAt_5068e_11 : decode cJ0_charAt_5068e 11 = .ok (.iload_n 1, 1) := by decide +kernel
theorem dJ0_charAt_5068e_12 : decode cJ0_charAt_5068e 12 = .ok (.invokestatic 495, 3) := by decide +kernel
theorem dJ0_charAt_5068e_15 : decode cJ0_charAt_5068e 15 = .ok (.ireturn, 1) := by decide +kernel
theorem dJ0_charAt_5068e_16 : decode cJ0_charAt_5068e 16 = .ok (.aload_n 0, 1) := by decide +kernel
theorem dJ0_charAt_5068e_17 : decode cJ0_charAt_5068e 17 = .ok (.getfield 9, 3) := by decide +kernel
theorem dJ0_charAt_5068e_20 : decode cJ0_charAt_5068e 20 = .ok (.iload_n 1, 1) := by decide +kernel
theorem dJ0_charAt_5068e_21 : decode cJ0_charAt_5068e 21 = .ok (.invokestatic 498, 3) := by decide +kernel
theorem dJ0_charAt_5068e_24 : decode cJ0_charAt_5068e 24 = .ok (.ireturn, 1) := by decide +kernel
theorem dJ1_canEncode_9a6ad_0 : decode cJ1_canEncode_9a6ad 0 = .ok (.iload_n 0, 1) := by decide +kernel
theorem dJ1_canEncode_9a6ad_1 : decode cJ1_canEncode_9a6ad 1 = .ok (.ifCond .lt 14, 3) := by decide +kernel
theorem dJ1_canEncode_9a6ad_4 : decode cJ1_canEncode_9a6ad 4 = .ok (.iload_n 0, 1) := by decide +kernel
theorem dJ1_canEncode_9a6ad_5 : decode cJ1_canEncode_9a6ad 5 = .ok (.sipush 255, 3) := by decide +kernel
theorem dJ1_canEncode_9a6ad_8 : decode cJ1_canEncode_9a6ad 8 = .ok (.if_icmp .gt 7, 3) := by decide +kernel
theorem dJ1_canEncode_9a6ad_11 : decode cJ1_canEncode_9a6ad 11 = .ok (.iconst 1, 1) := by decide +kernel
theorem dJ1_canEncode_9a6ad_12 : decode cJ1_canEncode_9a6ad 12 = .ok (.goto 4, 3) := by decide +kernel
theorem dJ1_canEncode_9a6ad_15 : decode cJ1_canEncode_9a6ad 15 = .ok (.iconst 0, 1) := by decide +kernel
theorem dJ1_canEncode_9a6ad_16 : decode cJ1_canEncode_9a6ad 16 = .ok (.ireturn, 1) := by decide +kernel
theorem dJ1_indexOfChar_4cfef_0 : decode cJ1_indexOfChar_4cfef 0 = .ok (.iload_n 1, 1) := by decide +kernel
theorem dJ1_indexOfChar_4cfef_1 : decode cJ1_indexOfChar_4cfef 1 = .ok (.i2b, 1) := by decide +kernel
theorem dJ1_indexOfChar_4cfef_2 : decode cJ1_indexOfChar_4cfef 2 = .ok (.istore 4, 2) := by decide +kernel
theorem dJ1_indexOfChar_4cfef_4 : decode cJ1_indexOfChar_4cfef 4 = .ok (.iload_n 2, 1) := by decide +kernel
theorem dJ1_indexOfChar_4cfef_5 : decode cJ1_indexOfChar_4cfef 5 = .ok (.istore 5, 2) := by decide +kernel
theorem dJ1_indexOfChar_4cfef_7 : decode cJ1_indexOfChar_4cfef 7 = .ok (.iload 5, 2) := by decide +kernel
theorem dJ1_indexOfChar_4cfef_9 : decode cJ1_indexOfChar_4cfef 9 = .ok (.iload_n 3, 1) := by decide +kernel
theorem dJ1_indexOfChar_4cfef_10 : decode cJ1_indexOfChar_4cfef 10 = .ok (.if_icmp .ge 21, 3) := by decide +kernel
theorem dJ1_indexOfChar_4cfef_13 : decode cJ1_indexOfChar_4cfef 13 = .ok (.aload_n 0, 1) := by decide +kernel
theorem dJ1_indexOfChar_4cfef_14 : decode cJ1_indexOfChar_4cfef 14 = .ok (.iload 5, 2) := by decide +kernel
theorem dJ1_indexOfChar_4cfef_16 : decode cJ1_indexOfChar_4cfef 16 = .ok (.baload, 1) := by decide +kernel
theorem dJ1_indexOfChar_4cfef_17 : decode cJ1_indexOfChar_4cfef 17 = .ok (.iload 4, 2) := by decide +kernel
theorem dJ1_indexOfChar_4cfef_19 : decode cJ1_indexOfChar_4cfef 19 = .ok (.if_icmp .ne 6, 3) := by decide +kernel
theorem dJ1_indexOfChar_4cfef_22 : decode cJ1_indexOfChar_4cfef 22 = .ok (.iload 5, 2) := by decide +kernel
theorem dJ1_indexOfChar_4cfef_24 : decode cJ1_indexOfChar_4cfef 24 = .ok (.ireturn, 1) := by decide +kernel
theorem dJ1_indexOfChar_4cfef_25 : decode cJ1_indexOfChar_4cfef 25 = .ok (.iinc 5 1, 3) := by decide +kernel
theorem dJ1_indexOfChar_4cfef_28 : decode cJ1_indexOfChar_4cfef 28 = .ok (.goto (-21), 3) := by decide +kernel
theorem dJ1_indexOfChar_4cfef_31 : decode cJ1_indexOfChar_4cfef 31 = .ok (.iconst (-1), 1) := by decide +kernel
theorem dJ1_indexOfChar_4cfef_32 : decode cJ1_indexOfChar_4cfef 32 = .ok (.ireturn, 1) := by decide +kernel
theorem dJ1_indexOf_4cfef_0 : decode cJ1_indexOf_4cfef 0 = .ok (.iload_n 1, 1) := by decide +kernel
theorem dJ1_indexOf_4cfef_1 : decode cJ1_indexOf_4cfef 1 = .ok (.invokestatic 88, 3) := by decide +kernel
theorem dJ1_indexOf_4cfef_4 : decode cJ1_indexOf_4cfef 4 = .ok (.ifCond .ne 5, 3) := by decide +kernel
theorem dJ1_indexOf_4cfef_7 : decode cJ1_indexOf_4cfef 7 = .ok (.iconst (-1), 1) := by decide +kernel
theorem dJ1_indexOf_4cfef_8 : decode cJ1_indexOf_4cfef 8 = .ok (.ireturn, 1) := by decide +kernel
theorem dJ1_indexOf_4cfef_9 : decode cJ1_indexOf_4cfef 9 = .ok (.iload_n 2, 1) := by decide +kernel
theorem dJ1_indexOf_4cfef_10 : decode cJ1_indexOf_4cfef 10 = .ok (.iconst 0, 1) := by decide +kernel
theorem dJ1_indexOf_4cfef_11 : decode cJ1_indexOf_4cfef 11 = .ok (.invokestatic 92, 3) := by decide +kernel
theorem dJ1_indexOf_4cfef_14 : decode cJ1_indexOf_4cfef 14 = .ok (.istore_n 2, 1) := by decide +kernel
theorem dJ1_indexOf_4cfef_15 : decode cJ1_indexOf_4cfef 15 = .ok (.iload_n 3, 1) := by decide +kernel
theorem dJ1_indexOf_4cfef_16 : decode cJ1_indexOf_4cfef 16 = .ok (.aload_n 0, 1) := by decide +kernel
theorem dJ1_indexOf_4cfef_17 : decode cJ1_indexOf_4cfef 17 = .ok (.arraylength, 1) := by decide +kernel
theorem dJ1_indexOf_4cfef_18 : decode cJ1_indexOf_4cfef 18 = .ok (.invokestatic 38, 3) := by decide +kernel
theorem dJ1_indexOf_4cfef_21 : decode cJ1_indexOf_4cfef 21 = .ok (.istore_n 3, 1) := by decide +kernel
theorem dJ1_indexOf_4cfef_22 : decode cJ1_indexOf_4cfef 22 = .ok (.iload_n 2, 1) := by decide +kernel
theorem dJ1_indexOf_4cfef_23 : decode cJ1_indexOf_4cfef 23 = .ok (.iload_n 3, 1) := by decide +kernel
theorem dJ1_indexOf_4cfef_24 : decode cJ1_indexOf_4cfef 24 = .ok (.if_icmp .lt 5, 3) := by decide +kernel
theorem dJ1_indexOf_4cfef_27 : decode cJ1_indexOf_4cfef 27 = .ok (.iconst (-1), 1) := by decide +kernel
theorem dJ1_indexOf_4cfef_28 : decode cJ1_indexOf_4cfef 28 = .ok (.ireturn, 1) := by decide +kernel
theorem dJ1_indexOf_4cfef_29 : decode cJ1_indexOf_4cfef 29 = .ok (.aload_n 0, 1) := by decide +kernel
theorem dJ1_indexOf_4cfef_30 : decode cJ1_indexOf_4cfef 30 = .ok (.iload_n 1, 1) := by decide +kernel
theorem dJ1_indexOf_4cfef_31 : decode cJ1_indexOf_4cfef 31 = .ok (.iload_n 2, 1) := by decide +kernel
theorem dJ1_indexOf_4cfef_32 : decode cJ1_indexOf_4cfef 32 = .ok (.iload_n 3, 1) := by decide +kernel
theorem dJ1_indexOf_4cfef_33 : decode cJ1_indexOf_4cfef 33 = .ok (.invokestatic 95, 3) := by decide +kernel
theorem dJ1_indexOf_4cfef_36 : decode cJ1_indexOf_4cfef 36 = .ok (.ireturn, 1) := by decide +kernel
theorem dJ0_indexOf_7cf53_0 : decode cJ0_indexOf_7cf53 0 = .ok (.aload_n 0, 1) := by decide +kernel
theorem dJ0_indexOf_7cf53_1 : decode cJ0_indexOf_7cf53 1 = .ok (.invokevirtual 492, 3) := by decide +kernel
theorem dJ0_indexOf_7cf53_4 : decode cJ0_indexOf_7cf53 4 = .ok (.ifCond .eq 19, 3) := by decide +kernel
theorem dJ0_indexOf_7cf53_7 : decode cJ0_indexOf_7cf53 7 = .ok (.aload_n 0, 1) := by decide +kernel
theorem dJ0_indexOf_7cf53_8 : decode cJ0_indexOf_7cf53 8 = .ok (.getfield 9, 3) := by decide +kernel
theorem dJ0_indexOf_7cf53_11 : decode cJ0_indexOf_7cf53 11 = .ok (.iload_n 1, 1) := by decide +kernel
theorem dJ0_indexOf_7cf53_12 : decode cJ0_indexOf_7cf53 12 = .ok (.iload_n 2, 1) := by decide +kernel
theorem dJ0_indexOf_7cf53_13 : decode cJ0_indexOf_7cf53 13 = .ok (.aload_n 0, 1) := by decide +kernel
theorem dJ0_indexOf_7cf53_14 : decode cJ0_indexOf_7cf53 14 = .ok (.invokevirtual 505, 3) := by decide +kernel
theorem dJ0_indexOf_7cf53_17 : decode cJ0_indexOf_7cf53 17 = .ok (.invokestatic 637, 3) := by decide +kernel
theorem dJ0_indexOf_7cf53_20 : decode cJ0_indexOf_7cf53 20 = .ok (.goto 16, 3) := by decide +kernel
theorem dJ0_indexOf_7cf53_23 : decode cJ0_indexOf_7cf53 23 = .ok (.aload_n 0, 1) := by decide +kernel
theorem dJ0_indexOf_7cf53_24 : decode cJ0_indexOf_7cf53 24 = .ok (.getfield 9, 3) := by decide +kernel
theorem dJ0_indexOf_7cf53_27 : decode cJ0_indexOf_7cf53 27 = .ok (.iload_n 1, 1) := by decide +kernel
theorem dJ0_indexOf_7cf53_28 : decode cJ0_indexOf_7cf53 28 = .ok (.iload_n 2, 1) := by decide +kernel
theorem dJ0_indexOf_7cf53_29 : decode cJ0_indexOf_7cf53 29 = .ok (.aload_n 0, 1) := by decide +kernel
theorem dJ0_indexOf_7cf53_30 : decode cJ0_indexOf_7cf53 30 = .ok (.invokevirtual 505, 3) := by decide +kernel
theorem dJ0_indexOf_7cf53_33 : decode cJ0_indexOf_7cf53 33 = .ok (.invokestatic 640, 3) := by decide +kernel
theorem dJ0_indexOf_7cf53_36 : decode cJ0_indexOf_7cf53 36 = .ok (.ireturn, 1) := by decide +kernel
theorem dJ0_indexOf_0f7a4_0 : decode cJ0_indexOf_0f7a4 0 = .ok (.aload_n 0, 1) := by decide +kernel
theorem dJ0_indexOf_0f7a4_1 : decode cJ0_indexOf_0f7a4 1 = .ok (.iload_n 1, 1) := by decide +kernel
theorem dJ0_indexOf_0f7a4_2 : decode cJ0_indexOf_0f7a4 2 = .ok (.iconst 0, 1) := by decide +kernel
theorem dJ0_indexOf_0f7a4_3 : decode cJ0_indexOf_0f7a4 3 = .ok (.invokevirtual 633, 3) := by decide +kernel
theorem dJ0_indexOf_0f7a4_6 : decode cJ0_indexOf_0f7a4 6 = .ok (.ireturn, 1) := by decide +kernel
/-! the two String constants, and what the JDK does with them -/
abbrev xs (X : CT) : State := X.2.2.2.2.1
def SK (a v n : Nat) (f : Nat → Int32) (B : Nat) (U : State) : Prop := va_O "java/lang/String" a (fun q => B ≤ q) U U.heap ∧ va_OF "java/lang/String" "coder" "B" (.int 0) a (fun q => B ≤ q) U U.heap ∧ va_OF "java/lang/String" "value" "[B" (.ref v) a (fun q => B ≤ q) U U.heap ∧ va_T .byte v n (fun j => .int (f j)) (fun q => B ≤ q) U U.heap
theorem SK.go {a v n B : Nat} {f : Nat → Int32} {s U : State} {H : Heap} {locs : List Loc} (h : SK a v n f B s) (hS : va_S (fun q => B ≤ q) s.heap H locs) (hU : U.heap = H) (hW : s.WarmedH U.vm) : SK a v n f B U := by
  subst hU
  exact ⟨va_O.moved hW.alike (h.1.kept hS.2.1), va_OF.moved hW.alike (h.2.1.kept hS.2.1), va_OF.moved hW.alike (h.2.2.1.kept hS.2.1), va_T.moved hW.alike (h.2.2.2.kept hS.2.1)⟩
theorem SK.calls {a v n B : Nat} {f : Nat → Int32} {U : State} (h : SK a v n f B U) (g : JFrame) (mk : MethodId) (q : Array Value) : SK a v n f B (U.calling g mk q) :=
  ⟨va_O.moved (u := U) (U := U.calling g mk q) (Vm.Alike.refl U.vm) h.1, va_OF.moved (u := U) (U := U.calling g mk q) (Vm.Alike.refl U.vm) h.2.1, va_OF.moved (u := U) (U := U.calling g mk q) (Vm.Alike.refl U.vm) h.2.2.1, va_T.moved (u := U) (U := U.calling g mk q) (Vm.Alike.refl U.vm) h.2.2.2⟩
def CK (l : Launch) (D : va_G) (cy : Nat → ClassId) (B N a v n : Nat) (f : Nat → Int32) (L : Nat) (y : MethodName) (cc : ByteArray) (mx : Nat) (rt : Option FieldType) (av : List Value) (M : MM) (P : Int → Prop) : Prop :=
  Met l y (wsY y cc mx rt) (rmL L) (va_Pc av (fun U => (Ws D cy B N M U ∧ Ex B U) ∧ SK a v n f B U)) (va_Qi (fun r u => u = M ∧ P r.toInt) (Ws D cy B N) (fun q => B ≤ q)) 0 0 (fun q => B ≤ q)
theorem pk_blind {D : va_G} {cy : Nat → ClassId} {B N a v n : Nat} {f : Nat → Int32} {M : MM} {av : List Value} : FrameBlind (va_Pc av (fun U => (Ws D cy B N M U ∧ Ex B U) ∧ SK a v n f B U)) := fun A U g mk q => ⟨q.1, ⟨⟨q.2.1.1.1, va_K.moved (u := U) (U := U.calling g mk A) (Vm.Alike.refl U.vm) q.2.1.1.2⟩, q.2.1.2.calls g mk A⟩, q.2.2.calls g mk A⟩
section KS
variable {X : CT} {B N ce sl L : Nat} {cc : ByteArray} {own : String} {pc : Nat} {lv lv' : List (Nat × Value)} {st : List Value} {M : MM}
variable {a v n L' idx mx na : Nat} {f : Nat → Int32} {y : MethodName} {cc' : ByteArray} {rt : Option FieldType}
theorem mk_CK {l : Launch} {D : va_G} {cy : Nat → ClassId} {av : List Value} {ty : FieldType} {P : Int → Prop} (hy : plainName y.cls = true) (hav : (lg_sl av).length ≤ mx)
    (body : ∀ X : CT, xl X = l → xD X = D → xcy X = cy → xnL X = mx → Cx X B L cc y.cls → SK a v n f B (xs X) → (∀ (pc : Nat) (lv : List (Nat × Value)) (z : Int), decode cc pc = .ok (.ireturn, 1) → narrow ty (iv z) = iv z → I32 z → P z → J X B N 0 0 pc lv [iv z] M) → J X B N 0 0 0 (lv_args 0 av) [] M) : CK l D cy B N a v n f L y cc mx (some ty) av M P := by
  refine Met.ofW (cc := cc) (maxL := mx) (ret := some ty) hy rfl ?_
  intro p e s m args below meth c s₁ Bd hml hv
  obtain ⟨rfl, ⟨⟨hW, hK⟩, hEx⟩, hSK⟩ := hv
  have hts := atoms_spec (ws := wsY y cc mx (some ty)) Bd.pre
  have hown : s.vm.findClass y.cls = some m.cls := findClass_of_methodNamed Bd.named
  have hlocks := Bd.notSynchronized
  have hr := Bd.returns
  have hl := lv_entry av (n := mx) hav
  rw [lg_entry_eq]
  refine body (p, l, e, rmL L, s, m, av.toArray, below, meth, c, D, cy, mx, _) rfl rfl rfl rfl ⟨Bd.exec, Bd.bytes, hml, hown, fun w hw => hts w (List.mem_cons_of_mem _ hw), hK, Nat.le_refl _, Nat.le_refl _, hEx⟩ hSK ?_ s.heap [] _ hW va_S.rf hl
  intro pc lv z d hn hz hp H locs ls hW' hS' hl'
  refine W.zret Bd.exec Bd.bytes hr hn (fun t ht hw => ⟨⟨_, M, rfl, ⟨rfl, by show P (Int32.ofInt z).toInt; rw [i32_int hz]; exact hp⟩, by show Wd _ _ _ _ _ t.heap; rw [ht]; exact hW', va_K.moved hw.alike hK⟩, hS'.F ht⟩) (fun q hq => hS'.2.2 q hq) d hlocks
theorem j_aload_r (hX : Cx X B L cc own) {k : Fin 4} {i w : Nat} (d : decode cc pc = .ok (.aload_n k, 1)) (hi : (k : Nat) = i) (q : Nat) (hq : lv[q]? = some (i, .ref w)) (kk : J X B N ce sl (pc + 1) lv (.ref w :: st) M) : J X B N ce sl pc lv st M := by
  obtain ⟨p, l, e, R, s, m, args, below, meth, c, D, cy, nL, Q⟩ := X
  intro H locs ls hW hS hl
  exact lv_aload_n hX.1 hX.2.1 d hi (lv_at hl q hq) (kk H locs ls hW hS hl)
theorem j_kval (hX : Cx X B L cc own) (hK : SK a v n f B (xs X)) (hl : Cond.fieldLink own idx "java/lang/String" "value" "[B" ∈ gw) (d : decode cc pc = .ok (.getfield idx, 3)) (kk : J X B N ce sl (pc + 3) lv (.ref v :: st) M) : J X B N ce sl pc lv (.ref a :: st) M := by
  obtain ⟨p, l, e, R, s, m, args, below, meth, c, D, cy, nL, Q⟩ := X
  intro H locs ls hW hS hls
  obtain ⟨hexec, hb, hml, hown, hts, hK', hLf, hLl, hEx⟩ := hX
  exact vk_getf hexec hb hK.2.2.1 hS hown (hts _ hl) (fun _ h => h) d (kk H locs ls hW hS hls)
theorem j_kcod (hX : Cx X B L cc own) (hK : SK a v n f B (xs X)) (hl : Cond.fieldLink own idx "java/lang/String" "coder" "B" ∈ gw) (d : decode cc pc = .ok (.getfield idx, 3)) (kk : J X B N ce sl (pc + 3) lv (iv 0 :: st) M) : J X B N ce sl pc lv (.ref a :: st) M := by
  obtain ⟨p, l, e, R, s, m, args, below, meth, c, D, cy, nL, Q⟩ := X
  intro H locs ls hW hS hls
  obtain ⟨hexec, hb, hml, hown, hts, hK', hLf, hLl, hEx⟩ := hX
  exact vk_getf hexec hb hK.2.1 hS hown (hts _ hl) (fun _ h => h) d (kk H locs ls hW hS hls)
theorem j_kstat (hX : Cx X B L cc own) (hl : Cond.fieldLink own idx "java/lang/String" "COMPACT_STRINGS" "Z" ∈ gw) (d : decode cc pc = .ok (.getstatic idx, 3)) (kk : J X B N ce sl (pc + 3) lv (iv 1 :: st) M) : J X B N ce sl pc lv st M := by
  obtain ⟨p, l, e, R, s, m, args, below, meth, c, D, cy, nL, Q⟩ := X
  intro H locs ls hW hS hls
  obtain ⟨hexec, hb, hml, hown, hts, hK', hLf, hLl, hEx⟩ := hX
  exact va_gets hexec hb hEx.2.1 hS hown (hts _ hl) (fun _ h => h) d (kk H locs ls hW hS hls)
theorem j_kform (hX : Cx X B L cc own) (hl : Cond.fieldLink own idx "jdk/internal/util/Preconditions" "SIOOBE_FORMATTER" "Ljava/util/function/BiFunction;" ∈ gw) (d : decode cc pc = .ok (.getstatic idx, 3)) (kk : ∀ w : Value, (w = .null ∨ ∃ t, w = .ref t) → J X B N ce sl (pc + 3) lv (w :: st) M) : J X B N ce sl pc lv st M := by
  obtain ⟨p, l, e, R, s, m, args, below, meth, c, D, cy, nL, Q⟩ := X
  intro H locs ls hW hS hls
  obtain ⟨hexec, hb, hml, hown, hts, hK', hLf, hLl, hEx⟩ := hX
  rcases hEx.2.2.1 with hZ | ⟨t, hZ⟩
  · exact va_gets hexec hb hZ hS hown (hts _ hl) (fun _ h => h) d (kk _ (Or.inl rfl) H locs ls hW hS hls)
  · exact va_gets hexec hb hZ hS hown (hts _ hl) (fun _ h => h) d (kk _ (Or.inr ⟨t, rfl⟩) H locs ls hW hS hls)
theorem j_klen (hX : Cx X B L cc own) (hK : SK a v n f B (xs X)) (d : decode cc pc = .ok (.arraylength, 1)) (kk : J X B N ce sl (pc + 1) lv (iv (n : Int) :: st) M) : J X B N ce sl pc lv (.ref v :: st) M := by
  obtain ⟨p, l, e, R, s, m, args, below, meth, c, D, cy, nL, Q⟩ := X
  intro H locs ls hW hS hls
  obtain ⟨hexec, hb, hml, hown, hts, hK', hLf, hLl, hEx⟩ := hX
  obtain ⟨cell, h1, h2, h3, h4, h5, h6, h7⟩ := hK.2.2.2.kept hS.2.1
  refine W.alen (n := Int32.ofInt (n : Int)) hexec hb h1 h2 ?_ rfl rfl d (kk H locs ls hW hS hls)
  first
    | exact h5
    | exact h5.trans rfl
    | (rw [h5]; rfl)
theorem j_kbal (hX : Cx X B L cc own) (hK : SK a v n f B (xs X)) {i : Int} (hi0 : 0 ≤ i) (hi1 : i < (n : Int)) (hn : (n : Int) ≤ 2147483647) (d : decode cc pc = .ok (.baload, 1)) (kk : ∀ z : Int, z = (f i.toNat).toInt → I32 z → J X B N ce sl (pc + 1) lv (iv z :: st) M) : J X B N ce sl pc lv (iv i :: .ref v :: st) M := by
  obtain ⟨p, l, e, R, s, m, args, below, meth, c, D, cy, nL, Q⟩ := X
  intro H locs ls hW hS hls
  obtain ⟨hexec, hb, hml, hown, hts, hK', hLf, hLl, hEx⟩ := hX
  obtain ⟨cell, h1, h2, h3, h4, h5, h6, h7⟩ := hK.2.2.2.kept hS.2.1
  have h := kk _ rfl (i32_of _) H locs ls hW hS hls
  rw [iv_of] at h
  refine W.bald (v := .int (f i.toNat)) hexec hb h1 h2 h3 ?_ ?_ rfl rfl d h
  · rw [i32_nat hi0 (by omega), i32_0, i32_lt ⟨by omega, by omega⟩ ⟨by omega, by omega⟩]
    omega
  · rw [i32_nat hi0 (by omega)]
    exact h6 _ (by omega)
theorem j_callKV (hX : Cx X B L cc own) (hK : SK a v n f B (xs X)) (lk : LkV own idx y cc' mx rt na) (hyc : y.cls = "java/lang/String") {As stk : List Value} {P : Int → Prop} (hC : CK (xl X) (xD X) (xcy X) B N a v n f L' y cc' mx rt (.ref a :: As) M P) (hL : L' + 1 ≤ L) (hce : ce + 0 ≤ (xR X).cells ∧ sl + 0 ≤ (xR X).slots) (hstk : stk = As.reverse ++ .ref a :: st) (hna : As.length = na) (hst : (st.map fun v => v.category).sum ≤ 8) (d : decode cc pc = .ok (.invokevirtual idx, 3)) (kk : ∀ (z : Int), I32 z → P z → J X B N ce sl (pc + 3) lv (iv z :: st) M) : J X B N ce sl pc lv stk M := by
  obtain ⟨p, l, e, R, s, m, args, below, meth, c, D, cy, nL, Q⟩ := X
  intro H locs ls hW hS hls
  obtain ⟨hexec, hb, hml, hown, hts, hK', hLf, hLl, hEx⟩ := hX
  subst hstk
  have hrec : ∃ cell : Cell, H[a]? = some cell ∧ cell.vm.isStatics = false ∧ s.vm.findClass y.cls = some cell.cls := by
    obtain ⟨cell, h1, h2, h3, -⟩ := hK.1.kept hS.2.1
    exact ⟨cell, h1, h2, by rw [hyc]; exact h3⟩
  refine va_calli (va_runV (As := As) (rest := st) ⟨hexec, hb, hml, hown, hts⟩ hC ⟨lk_b hts lk.1 hLf hLl hL, hts _ lk.2.1, hts _ lk.2.2⟩ ⟨pk_blind, hrec, fun U hU hw => ⟨rfl, ⟨⟨by rw [hU]; exact hW, va_K.moved hw.alike hK'⟩, hEx.go hS hU hw⟩, hK.go hS hU hw⟩⟩ (g := F0 m pc ls (As.reverse ++ .ref a :: st)) rfl hna hls.1 rfl (lv_room hst) d hce) hS (fun _ _ h => h) (fun _ h => h) (fun r u t H1 locs1 ht hvm hp hB hz hk1 hS1 => ?_)
  have hW2 : Wd D cy B N M H1 := by rw [← hp.1]; exact ht ▸ hB.1
  have h := kk r.toInt (i32_of r) hp.2 H1 locs1 ls hW2 hS1 hls
  rw [iv_of] at h
  exact h
theorem j_callKS (hX : Cx X B L cc own) (hK : SK a v n f B (xs X)) (lk : LkS own idx y cc' mx rt na) {As stk : List Value} {P : Int → Prop} (hC : CK (xl X) (xD X) (xcy X) B N a v n f L' y cc' mx rt As M P) (hL : L' + 1 ≤ L) (hce : ce + 0 ≤ (xR X).cells ∧ sl + 0 ≤ (xR X).slots) (hstk : stk = As.reverse ++ st) (hna : As.length = na) (hst : (st.map fun v => v.category).sum ≤ 8) (d : decode cc pc = .ok (.invokestatic idx, 3)) (kk : ∀ (z : Int), I32 z → P z → J X B N ce sl (pc + 3) lv (iv z :: st) M) : J X B N ce sl pc lv stk M := by
  obtain ⟨p, l, e, R, s, m, args, below, meth, c, D, cy, nL, Q⟩ := X
  intro H locs ls hW hS hls
  obtain ⟨hexec, hb, hml, hown, hts, hK', hLf, hLl, hEx⟩ := hX
  subst hstk
  refine va_calli (va_runS (As := As) (rest := st) ⟨hexec, hb, hml, hown, hts⟩ hC ⟨lk_b hts lk.1 hLf hLl hL, hts _ lk.2⟩ ⟨pk_blind, fun U hU hw => ⟨rfl, ⟨⟨by rw [hU]; exact hW, va_K.moved hw.alike hK'⟩, hEx.go hS hU hw⟩, hK.go hS hU hw⟩⟩ (g := F0 m pc ls (As.reverse ++ st)) rfl hna hls.1 rfl (lv_room hst) d hce) hS (fun _ _ h => h) (fun _ h => h) (fun r u t H1 locs1 ht hvm hp hB hz hk1 hS1 => ?_)
  have hW2 : Wd D cy B N M H1 := by rw [← hp.1]; exact ht ▸ hB.1
  have h := kk r.toInt (i32_of r) hp.2 H1 locs1 ls hW2 hS1 hls
  rw [iv_of] at h
  exact h
/-- a constant is loaded -/
theorem j_ldcS (hX : Cx X B L cc "OtherPanes$Tape") {i : Nat} (hi : (i = 0 ∧ idx = 39) ∨ (i = 1 ∧ idx = 73)) (d : decode cc pc = .ok (.ldc idx, 2)) (kk : ∀ a v : Nat, SK a v (sln.getD i 0) (fun j => (sby.getD i []).getD j 0) B (xs X) → J X B N ce sl (pc + 2) lv (.ref a :: st) M) : J X B N ce sl pc lv st M := by
  obtain ⟨p, l, e, R, s, m, args, below, meth, c, D, cy, nL, Q⟩ := X
  intro H locs ls hW hS hls
  obtain ⟨hexec, hb, hml, hown, hts, hK', hLf, hLl, hEx⟩ := hX
  obtain ⟨⟨adK, adV, h1, h2, h3⟩, -⟩ := hEx
  rcases hi with ⟨e1, e2⟩ | ⟨e1, e2⟩ <;> subst e1 <;> subst e2
  · exact va_ldcS hexec hb hown h2 d (kk (adK 0) (adV 0) (h1.1 0 (by decide)) H locs ls hW hS hls)
  · exact va_ldcS hexec hb hown h3 d (kk (adK 1) (adV 1) (h1.1 1 (by decide)) H locs ls hW hS hls)
end KS
set_option maxHeartbeats 1000000 in
theorem c_J0_coder_7d493 (l : Launch) (D : va_G) (cy : Nat → ClassId) (B N a v n : Nat) (f : Nat → Int32) (M : MM) : CK l D cy B N a v n f 1 yJ0_coder_7d493 cJ0_coder_7d493 1 (some .byte) [.ref a] M (fun z => z = 0) := by
  refine mk_CK (by decide) (Nat.le_of_ble_eq_true rfl) ?_
  intro X exl exD excy hnL hX hK hret
  have hce : 0 + 0 ≤ (xR X).cells ∧ 0 + 0 ≤ (xR X).slots := ⟨Nat.zero_le _, Nat.zero_le _⟩
  show J X B N 0 0 0 [(0, .ref a)] [] M
  refine j_kstat hX (in_1 51 (by first | rfl | decide +kernel) rfl) dJ0_coder_7d493_0 ?_
  refine j_if_eq (tgt := 13) hX dJ0_coder_7d493_3 (by decide) (by omega) (fun h => absurd h (by omega)) (fun _ => ?_)
  refine j_aload_r hX dJ0_coder_7d493_6 rfl 0 rfl ?_
  refine j_kcod hX hK (in_8 158 (by first | rfl | decide +kernel) rfl) dJ0_coder_7d493_7 ?_
  refine j_goto (tgt := 14) hX dJ0_coder_7d493_10 (by decide) ?_
  exact hret _ _ _ dJ0_coder_7d493_14 (by decide) (by omega) rfl
set_option maxHeartbeats 1000000 in
theorem c_J0_isLatin1_aae02 (l : Launch) (D : va_G) (cy : Nat → ClassId) (B N a v n : Nat) (f : Nat → Int32) (M : MM) : CK l D cy B N a v n f 1 yJ0_isLatin1_aae02 cJ0_isLatin1_aae02 1 (some .boolean) [.ref a] M (fun z => z = 1) := by
  refine mk_CK (by decide) (Nat.le_of_ble_eq_true rfl) ?_
  intro X exl exD excy hnL hX hK hret
  have hce : 0 + 0 ≤ (xR X).cells ∧ 0 + 0 ≤ (xR X).slots := ⟨Nat.zero_le _, Nat.zero_le _⟩
  show J X B N 0 0 0 [(0, .ref a)] [] M
  refine j_kstat hX (in_1 51 (by first | rfl | decide +kernel) rfl) dJ0_isLatin1_aae02_0 ?_
  refine j_if_eq (tgt := 17) hX dJ0_isLatin1_aae02_3 (by decide) (by omega) (fun h => absurd h (by omega)) (fun _ => ?_)
  refine j_aload_r hX dJ0_isLatin1_aae02_6 rfl 0 rfl ?_
  refine j_kcod hX hK (in_8 158 (by first | rfl | decide +kernel) rfl) dJ0_isLatin1_aae02_7 ?_
  refine j_if_ne (tgt := 17) hX dJ0_isLatin1_aae02_10 (by decide) (by omega) (fun h => absurd rfl h) (fun _ => ?_)
  refine j_iconst hX dJ0_isLatin1_aae02_13 ?_
  refine j_goto (tgt := 18) hX dJ0_isLatin1_aae02_14 (by decide) ?_
  exact hret _ _ _ dJ0_isLatin1_aae02_18 (by decide) (by omega) rfl
set_option maxHeartbeats 1000000 in
theorem c_J0_length_8abf5 (l : Launch) (D : va_G) (cy : Nat → ClassId) (B N a v n : Nat) (f : Nat → Int32) (M : MM) (hn : (n : Int) ≤ 1000) : CK l D cy B N a v n f 2 yJ0_length_8abf5 cJ0_length_8abf5 1 (some .int) [.ref a] M (fun z => z = (n : Int)) := by
  refine mk_CK (by decide) (Nat.le_of_ble_eq_true rfl) ?_
  intro X exl exD excy hnL hX hK hret
  have hce : 0 + 0 ≤ (xR X).cells ∧ 0 + 0 ≤ (xR X).slots := ⟨Nat.zero_le _, Nat.zero_le _⟩
  show J X B N 0 0 0 [(0, .ref a)] [] M
  refine j_aload_r hX dJ0_length_8abf5_0 rfl 0 rfl ?_
  refine j_kval hX hK (in_8 157 (by first | rfl | decide +kernel) rfl) dJ0_length_8abf5_1 ?_
  refine j_klen hX hK dJ0_length_8abf5_4 ?_
  refine j_aload_r hX dJ0_length_8abf5_5 rfl 0 rfl ?_
  refine j_callKV hX hK ln_J0_335 rfl (c_J0_coder_7d493 _ _ _ _ _ _ _ _ _ _) (by omega) hce rfl rfl (Nat.le_of_ble_eq_true rfl) dJ0_length_8abf5_6 (fun z hz hp => ?_)
  subst hp
  refine j_ishr hX dJ0_length_8abf5_9 (fun z hz hy => ?_)
  have hz2 : z = (n : Int) := by
    rw [hz]
    have h0 : (Int32.ofInt 0 &&& 31 : Int32) = 0 := by decide
    rw [h0]
    have hs : (Int32.ofInt (n : Int) >>> (0 : Int32)) = Int32.ofInt (n : Int) := sh0 _
    rw [hs, i32_int ⟨by omega, by omega⟩]
  exact hret _ _ _ dJ0_length_8abf5_10 rfl (by omega) hz2
set_option maxHeartbeats 1000000 in
theorem c_J3_checkIndex_8e157 (l : Launch) (D : va_G) (cy : Nat → ClassId) (B N : Nat) (i k : Int) (w : Value) (M : MM) (hi : I32 i) (hk : I32 k) (h0 : 0 ≤ i) (h1 : i < k) (hw : w = .null ∨ ∃ t, w = .ref t) : CI l D cy B N 1 yJ3_checkIndex_8e157 cJ3_checkIndex_8e157 3 (some .int) [iv i, iv k, w] M (fun z M' => M' = M) := by
  refine mk_CI (by decide) (by rcases hw with h | ⟨t, h⟩ <;> subst h <;> exact Nat.le_of_ble_eq_true rfl) ?_
  intro X exl exD excy hnL hX hret
  have e0 : lv_args 0 [iv i, iv k, w] = [(0, iv i), (1, iv k), (2, w)] := by rcases hw with h | ⟨t, h⟩ <;> subst h <;> rfl
  rw [e0]
  refine j_iload_n hX dJ3_checkIndex_8e157_0 rfl 0 rfl ?_
  refine j_if_lt (tgt := 9) hX dJ3_checkIndex_8e157_1 (by decide) (by omega) (fun h => absurd h (by omega)) (fun _ => ?_)
  refine j_iload_n hX dJ3_checkIndex_8e157_4 rfl 0 rfl ?_
  refine j_iload_n hX dJ3_checkIndex_8e157_5 rfl 1 rfl ?_
  refine j_icmp_lt (tgt := 16) hX dJ3_checkIndex_8e157_6 (by decide) (by omega) (by omega) (fun _ => ?_) (fun h => absurd h1 (by omega))
  refine j_iload_n hX dJ3_checkIndex_8e157_16 rfl 0 rfl ?_
  exact hret _ _ _ _ dJ3_checkIndex_8e157_17 rfl (by omega) rfl
set_option maxHeartbeats 1000000 in
theorem c_J0_checkIndex_df160 (l : Launch) (D : va_G) (cy : Nat → ClassId) (B N : Nat) (i k : Int) (M : MM) (hi : I32 i) (hk : I32 k) (h0 : 0 ≤ i) (h1 : i < k) : CV l D cy B N 2 yJ0_checkIndex_df160 cJ0_checkIndex_df160 2 none [iv i, iv k] M (fun M' => M' = M) := by
  refine mk_CV (by decide) (Nat.le_of_ble_eq_true rfl) ?_
  intro X exl exD excy hnL hX hret
  have hce : 0 + 0 ≤ (xR X).cells ∧ 0 + 0 ≤ (xR X).slots := ⟨Nat.zero_le _, Nat.zero_le _⟩
  show J X B N 0 0 0 [(0, iv i), (1, iv k)] [] M
  refine j_iload_n hX dJ0_checkIndex_df160_0 rfl 0 rfl ?_
  refine j_iload_n hX dJ0_checkIndex_df160_1 rfl 1 rfl ?_
  refine j_kform hX (in_1 67 (by first | rfl | decide +kernel) rfl) dJ0_checkIndex_df160_2 (fun w hw => ?_)
  refine j_callSI hX ln_J0_1059 (c_J3_checkIndex_8e157 _ _ _ _ _ i k w M hi hk h0 h1 hw) (by omega) hce rfl rfl (Nat.le_of_ble_eq_true rfl) dJ0_checkIndex_df160_5 (fun z M' hz hp => ?_)
  subst hp
  refine j_pop hX dJ0_checkIndex_df160_8 rfl ?_
  exact hret _ _ _ dJ0_checkIndex_df160_9 rfl
set_option maxHeartbeats 1000000 in
theorem c_J1_charAt_3b067 (l : Launch) (D : va_G) (cy : Nat → ClassId) (B N a v n : Nat) (f : Nat → Int32) (i : Int) (M : MM) (hn : (n : Int) ≤ 1000) (h0 : 0 ≤ i) (h1 : i < (n : Int)) : CK l D cy B N a v n f 3 yJ1_charAt_3b067 cJ1_charAt_3b067 2 (some .char) [.ref v, iv i] M (fun z => 0 ≤ z ∧ z ≤ 65535) := by
  refine mk_CK (by decide) (Nat.le_of_ble_eq_true rfl) ?_
  intro X exl exD excy hnL hX hK hret
  have hce : 0 + 0 ≤ (xR X).cells ∧ 0 + 0 ≤ (xR X).slots := ⟨Nat.zero_le _, Nat.zero_le _⟩
  show J X B N 0 0 0 [(0, .ref v), (1, iv i)] [] M
  refine j_iload_n hX dJ1_charAt_3b067_0 rfl 1 rfl ?_
  refine j_aload_r hX dJ1_charAt_3b067_1 rfl 0 rfl ?_
  refine j_klen hX hK dJ1_charAt_3b067_2 ?_
  refine j_callSV hX ln_J1_9 (c_J0_checkIndex_df160 _ _ _ _ _ i (n : Int) M ⟨by omega, by omega⟩ ⟨by omega, by omega⟩ h0 h1) (by omega) hce rfl rfl (Nat.le_of_ble_eq_true rfl) dJ1_charAt_3b067_3 (fun M' hp => ?_)
  subst hp
  refine j_aload_r hX dJ1_charAt_3b067_6 rfl 0 rfl ?_
  refine j_iload_n hX dJ1_charAt_3b067_7 rfl 1 rfl ?_
  refine j_kbal hX hK h0 h1 (by omega) dJ1_charAt_3b067_8 (fun z hz hy => ?_)
  refine j_sipush hX dJ1_charAt_3b067_9 rfl ?_
  refine j_iand hX dJ1_charAt_3b067_12 (fun z2 hz2 hy2 => ?_)
  have ha := (and_f hz2 (by omega) (by omega)).2 (by omega)
  refine j_i2c hX dJ1_charAt_3b067_13 (fun z3 hz3 hy3 => ?_)
  have h3 : z3 = z2 := i2c_id hz3 (by omega) (by omega)
  exact hret _ _ _ dJ1_charAt_3b067_14 (nar_c (by omega) (by omega)) (by omega) (by omega)
set_option maxHeartbeats 1000000 in
theorem c_J0_charAt_5068e (l : Launch) (D : va_G) (cy : Nat → ClassId) (B N a v n : Nat) (f : Nat → Int32) (i : Int) (M : MM) (hn : (n : Int) ≤ 1000) (h0 : 0 ≤ i) (h1 : i < (n : Int)) : CK l D cy B N a v n f 4 yJ0_charAt_5068e cJ0_charAt_5068e 2 (some .char) [.ref a, iv i] M (fun z => 0 ≤ z ∧ z ≤ 65535) := by
  refine mk_CK (by decide) (Nat.le_of_ble_eq_true rfl) ?_
  intro X exl exD excy hnL hX hK hret
  have hce : 0 + 0 ≤ (xR X).cells ∧ 0 + 0 ≤ (xR X).slots := ⟨Nat.zero_le _, Nat.zero_le _⟩
  show J X B N 0 0 0 [(0, .ref a), (1, iv i)] [] M
  refine j_aload_r hX dJ0_charAt_5068e_0 rfl 0 rfl ?_
  refine j_callKV hX hK ln_J0_492 rfl (c_J0_isLatin1_aae02 _ _ _ _ _ _ _ _ _ _) (by omega) hce rfl rfl (Nat.le_of_ble_eq_true rfl) dJ0_charAt_5068e_1 (fun z hz hp => ?_)
  refine j_if_eq (tgt := 16) hX dJ0_charAt_5068e_4 (by decide) (by omega) (fun h => absurd h (by omega)) (fun _ => ?_)
  refine j_aload_r hX dJ0_charAt_5068e_7 rfl 0 rfl ?_
  refine j_kval hX hK (in_8 157 (by first | rfl | decide +kernel) rfl) dJ0_charAt_5068e_8 ?_
  refine j_iload_n hX dJ0_charAt_5068e_11 rfl 1 rfl ?_
  refine j_callKS hX hK ln_J0_495 (c_J1_charAt_3b067 _ _ _ _ _ _ _ _ _ i M hn h0 h1) (by omega) hce rfl rfl (Nat.le_of_ble_eq_true rfl) dJ0_charAt_5068e_12 (fun z2 hz2 hp2 => ?_)
  exact hret _ _ _ dJ0_charAt_5068e_15 (nar_c (by omega) (by omega)) (by omega) hp2
set_option maxHeartbeats 1000000 in
theorem c_J1_canEncode_9a6ad (l : Launch) (D : va_G) (cy : Nat → ClassId) (B N : Nat) (c : Int) (M : MM) (hc : I32 c) : CI l D cy B N 1 yJ1_canEncode_9a6ad cJ1_canEncode_9a6ad 1 (some .boolean) [iv c] M (fun z M' => M' = M ∧ (0 ≤ z ∧ z ≤ 1)) := by
  refine mk_CI (by decide) (Nat.le_of_ble_eq_true rfl) ?_
  intro X exl exD excy hnL hX hret
  show J X B N 0 0 0 [(0, iv c)] [] M
  refine j_iload_n hX dJ1_canEncode_9a6ad_0 rfl 0 rfl ?_
  refine j_if_lt (tgt := 15) hX dJ1_canEncode_9a6ad_1 (by decide) (by omega) (fun _ => ?_) (fun _ => ?_)
  · refine j_iconst hX dJ1_canEncode_9a6ad_15 ?_
    exact hret _ _ _ _ dJ1_canEncode_9a6ad_16 (nb (by omega)) (by omega) ⟨rfl, by omega⟩
  · refine j_iload_n hX dJ1_canEncode_9a6ad_4 rfl 0 rfl ?_
    refine j_sipush hX dJ1_canEncode_9a6ad_5 rfl ?_
    refine j_icmp_gt (tgt := 15) hX dJ1_canEncode_9a6ad_8 (by decide) (by omega) (by omega) (fun _ => ?_) (fun _ => ?_)
    · refine j_iconst hX dJ1_canEncode_9a6ad_15 ?_
      exact hret _ _ _ _ dJ1_canEncode_9a6ad_16 (nb (by omega)) (by omega) ⟨rfl, by omega⟩
    · refine j_iconst hX dJ1_canEncode_9a6ad_11 ?_
      refine j_goto (tgt := 16) hX dJ1_canEncode_9a6ad_12 (by decide) ?_
      exact hret _ _ _ _ dJ1_canEncode_9a6ad_16 (nb (by omega)) (by omega) ⟨rfl, by omega⟩
set_option maxHeartbeats 1000000 in
theorem c_J1_indexOfChar_4cfef (l : Launch) (D : va_G) (cy : Nat → ClassId) (B N a v n : Nat) (f : Nat → Int32) (c x k : Int) (M : MM) (hn : (n : Int) ≤ 1000) (hc : I32 c) (h0 : 0 ≤ x) (h1 : x ≤ k) (h2 : k ≤ (n : Int)) : CK l D cy B N a v n f 1 yJ1_indexOfChar_4cfef cJ1_indexOfChar_4cfef 6 (some .int) [.ref v, iv c, iv x, iv k] M (fun z => 0 ≤ z → ∃ j : Nat, j < n ∧ (f j).toInt = b8 c) := by
  refine mk_CK (by decide) (Nat.le_of_ble_eq_true rfl) ?_
  intro X exl exD excy hnL hX hK hret
  have hce : 0 + 0 ≤ (xR X).cells ∧ 0 + 0 ≤ (xR X).slots := ⟨Nat.zero_le _, Nat.zero_le _⟩
  have cp : ∀ q : Nat, ∀ y : Int, 0 ≤ y → y ≤ k → k - y < (q : Int) → J X B N 0 0 7 [(0, .ref v), (1, iv c), (2, iv x), (3, iv k), (4, iv (b8 c)), (5, iv y)] [] M := by
    intro q
    induction q with
    | zero => intros; exfalso; omega
    | succ q ih =>
      intro y hy0 hy1 hq
      refine j_iload hX dJ1_indexOfChar_4cfef_7 5 rfl ?_
      refine j_iload_n hX dJ1_indexOfChar_4cfef_9 rfl 3 rfl ?_
      refine j_icmp_ge (tgt := 31) hX dJ1_indexOfChar_4cfef_10 (by decide) (by omega) (by omega) (fun _ => ?_) (fun _ => ?_)
      · refine j_iconst hX dJ1_indexOfChar_4cfef_31 ?_
        exact hret _ _ _ dJ1_indexOfChar_4cfef_32 rfl (by omega) (fun h => absurd h (by omega))
      · refine j_aload_r hX dJ1_indexOfChar_4cfef_13 rfl 0 rfl ?_
        refine j_iload hX dJ1_indexOfChar_4cfef_14 5 rfl ?_
        refine j_kbal hX hK hy0 (by omega) (by omega) dJ1_indexOfChar_4cfef_16 (fun z hz hy => ?_)
        refine j_iload hX dJ1_indexOfChar_4cfef_17 4 rfl ?_
        have hb8 := b8_r c
        refine j_icmp_ne (tgt := 25) hX dJ1_indexOfChar_4cfef_19 (by decide) (by omega) (by omega) (fun _ => ?_) (fun he => ?_)
        · refine j_iinc (lv' := [(5, _), (0, _), (1, _), (2, _), (3, _), (4, _)]) hX dJ1_indexOfChar_4cfef_25 5 rfl (by rw [hnL]; decide) rfl ?_
          refine j_goto (tgt := 7) hX dJ1_indexOfChar_4cfef_28 (by decide) ?_
          refine j_sub [1, 2, 3, 4, 5, 0] rfl ?_
          exact ih _ (by omega) (by omega) (by omega)
        · refine j_iload hX dJ1_indexOfChar_4cfef_22 5 rfl ?_
          exact hret _ _ _ dJ1_indexOfChar_4cfef_24 rfl (by omega) (fun _ => ⟨y.toNat, by omega, by rw [← hz]; omega⟩)
  show J X B N 0 0 0 [(0, .ref v), (1, iv c), (2, iv x), (3, iv k)] [] M
  refine j_iload_n hX dJ1_indexOfChar_4cfef_0 rfl 1 rfl ?_
  refine j_i2bx hX dJ1_indexOfChar_4cfef_1 ?_
  refine j_istore (lv' := [(4, _), (0, _), (1, _), (2, _), (3, _)]) hX dJ1_indexOfChar_4cfef_2 (by rw [hnL]; decide) rfl ?_
  refine j_iload_n hX dJ1_indexOfChar_4cfef_4 rfl 3 rfl ?_
  refine j_istore (lv' := [(5, _), (4, _), (0, _), (1, _), (2, _), (3, _)]) hX dJ1_indexOfChar_4cfef_5 (by rw [hnL]; decide) rfl ?_
  refine j_sub [2, 3, 4, 5, 1, 0] rfl ?_
  exact cp 2000 x h0 h1 (by omega)
set_option maxHeartbeats 1000000 in
theorem c_J1_indexOf_4cfef (l : Launch) (D : va_G) (cy : Nat → ClassId) (B N a v n : Nat) (f : Nat → Int32) (c : Int) (M : MM) (hn : (n : Int) ≤ 1000) (hc : I32 c) : CK l D cy B N a v n f 2 yJ1_indexOf_4cfef cJ1_indexOf_4cfef 4 (some .int) [.ref v, iv c, iv 0, iv (n : Int)] M (fun z => 0 ≤ z → ∃ j : Nat, j < n ∧ (f j).toInt = b8 c) := by
  refine mk_CK (by decide) (Nat.le_of_ble_eq_true rfl) ?_
  intro X exl exD excy hnL hX hK hret
  have hce : 0 + 0 ≤ (xR X).cells ∧ 0 + 0 ≤ (xR X).slots := ⟨Nat.zero_le _, Nat.zero_le _⟩
  show J X B N 0 0 0 [(0, .ref v), (1, iv c), (2, iv 0), (3, iv (n : Int))] [] M
  refine j_iload_n hX dJ1_indexOf_4cfef_0 rfl 1 rfl ?_
  refine j_callSI hX ln_J1_88 (c_J1_canEncode_9a6ad _ _ _ _ _ c M hc) (by omega) hce rfl rfl (Nat.le_of_ble_eq_true rfl) dJ1_indexOf_4cfef_1 (fun z M' hz hp => ?_)
  obtain ⟨hE, hb⟩ := hp
  subst hE
  refine j_if_ne (tgt := 9) hX dJ1_indexOf_4cfef_4 (by decide) (by omega) (fun _ => ?_) (fun _ => ?_)
  · refine j_iload_n hX dJ1_indexOf_4cfef_9 rfl 2 rfl ?_
    refine j_iconst hX dJ1_indexOf_4cfef_10 ?_
    refine j_mmax hX (in_3 74 (by first | rfl | decide +kernel) rfl) (by omega) hce (by omega) (by omega) (Nat.le_of_ble_eq_true rfl) dJ1_indexOf_4cfef_11 (fun z1 hz1 => ?_)
    have e1 : z1 = 0 := by omega
    subst e1
    refine j_istore_n (lv' := [(2, _), (0, _), (1, _), (3, _)]) hX dJ1_indexOf_4cfef_14 rfl (by rw [hnL]; decide) rfl ?_
    refine j_iload_n hX dJ1_indexOf_4cfef_15 rfl 3 rfl ?_
    refine j_aload_r hX dJ1_indexOf_4cfef_16 rfl 1 rfl ?_
    refine j_klen hX hK dJ1_indexOf_4cfef_17 ?_
    refine j_mmin hX (in_3 75 (by first | rfl | decide +kernel) rfl) (by omega) hce (by omega) (by omega) (Nat.le_of_ble_eq_true rfl) dJ1_indexOf_4cfef_18 (fun z2 hz2 => ?_)
    have e2 : z2 = (n : Int) := by omega
    subst e2
    refine j_istore_n (lv' := [(3, _), (2, _), (0, _), (1, _)]) hX dJ1_indexOf_4cfef_21 rfl (by rw [hnL]; decide) rfl ?_
    refine j_iload_n hX dJ1_indexOf_4cfef_22 rfl 1 rfl ?_
    refine j_iload_n hX dJ1_indexOf_4cfef_23 rfl 0 rfl ?_
    refine j_icmp_lt (tgt := 29) hX dJ1_indexOf_4cfef_24 (by decide) (by omega) (by omega) (fun _ => ?_) (fun _ => ?_)
    · refine j_aload_r hX dJ1_indexOf_4cfef_29 rfl 2 rfl ?_
      refine j_iload_n hX dJ1_indexOf_4cfef_30 rfl 3 rfl ?_
      refine j_iload_n hX dJ1_indexOf_4cfef_31 rfl 1 rfl ?_
      refine j_iload_n hX dJ1_indexOf_4cfef_32 rfl 0 rfl ?_
      refine j_callKS hX hK ln_J1_95 (c_J1_indexOfChar_4cfef _ _ _ _ _ _ _ _ _ c 0 (n : Int) _ hn hc (by omega) (by omega) (by omega)) (by omega) hce rfl rfl (Nat.le_of_ble_eq_true rfl) dJ1_indexOf_4cfef_33 (fun z3 hz3 hp3 => ?_)
      exact hret _ _ _ dJ1_indexOf_4cfef_36 rfl (by omega) hp3
    · refine j_iconst hX dJ1_indexOf_4cfef_27 ?_
      exact hret _ _ _ dJ1_indexOf_4cfef_28 rfl (by omega) (fun h => absurd h (by omega))
  · refine j_iconst hX dJ1_indexOf_4cfef_7 ?_
    exact hret _ _ _ dJ1_indexOf_4cfef_8 rfl (by omega) (fun h => absurd h (by omega))
set_option maxHeartbeats 1000000 in
theorem c_J0_indexOf_7cf53 (l : Launch) (D : va_G) (cy : Nat → ClassId) (B N a v n : Nat) (f : Nat → Int32) (c : Int) (M : MM) (hn : (n : Int) ≤ 1000) (hc : I32 c) : CK l D cy B N a v n f 3 yJ0_indexOf_7cf53 cJ0_indexOf_7cf53 3 (some .int) [.ref a, iv c, iv 0] M (fun z => 0 ≤ z → ∃ j : Nat, j < n ∧ (f j).toInt = b8 c) := by
  refine mk_CK (by decide) (Nat.le_of_ble_eq_true rfl) ?_
  intro X exl exD excy hnL hX hK hret
  have hce : 0 + 0 ≤ (xR X).cells ∧ 0 + 0 ≤ (xR X).slots := ⟨Nat.zero_le _, Nat.zero_le _⟩
  show J X B N 0 0 0 [(0, .ref a), (1, iv c), (2, iv 0)] [] M
  refine j_aload_r hX dJ0_indexOf_7cf53_0 rfl 0 rfl ?_
  refine j_callKV hX hK ln_J0_492 rfl (c_J0_isLatin1_aae02 _ _ _ _ _ _ _ _ _ _) (by omega) hce rfl rfl (Nat.le_of_ble_eq_true rfl) dJ0_indexOf_7cf53_1 (fun z hz hp => ?_)
  refine j_if_eq (tgt := 23) hX dJ0_indexOf_7cf53_4 (by decide) (by omega) (fun h => absurd h (by omega)) (fun _ => ?_)
  refine j_aload_r hX dJ0_indexOf_7cf53_7 rfl 0 rfl ?_
  refine j_kval hX hK (in_8 157 (by first | rfl | decide +kernel) rfl) dJ0_indexOf_7cf53_8 ?_
  refine j_iload_n hX dJ0_indexOf_7cf53_11 rfl 1 rfl ?_
  refine j_iload_n hX dJ0_indexOf_7cf53_12 rfl 2 rfl ?_
  refine j_aload_r hX dJ0_indexOf_7cf53_13 rfl 0 rfl ?_
  refine j_callKV hX hK ln_J0_505 rfl (c_J0_length_8abf5 _ _ _ _ _ _ _ _ _ _ hn) (by omega) hce rfl rfl (Nat.le_of_ble_eq_true rfl) dJ0_indexOf_7cf53_14 (fun z2 hz2 hp2 => ?_)
  subst hp2
  refine j_callKS hX hK ln_J0_637 (c_J1_indexOf_4cfef _ _ _ _ _ _ _ _ _ c _ hn hc) (by omega) hce rfl rfl (Nat.le_of_ble_eq_true rfl) dJ0_indexOf_7cf53_17 (fun z3 hz3 hp3 => ?_)
  refine j_goto (tgt := 36) hX dJ0_indexOf_7cf53_20 (by decide) ?_
  exact hret _ _ _ dJ0_indexOf_7cf53_36 rfl (by omega) hp3
set_option maxHeartbeats 1000000 in
theorem c_J0_indexOf_0f7a4 (l : Launch) (D : va_G) (cy : Nat → ClassId) (B N a v n : Nat) (f : Nat → Int32) (c : Int) (M : MM) (hn : (n : Int) ≤ 1000) (hc : I32 c) : CK l D cy B N a v n f 4 yJ0_indexOf_0f7a4 cJ0_indexOf_0f7a4 2 (some .int) [.ref a, iv c] M (fun z => 0 ≤ z → ∃ j : Nat, j < n ∧ (f j).toInt = b8 c) := by
  refine mk_CK (by decide) (Nat.le_of_ble_eq_true rfl) ?_
  intro X exl exD excy hnL hX hK hret
  have hce : 0 + 0 ≤ (xR X).cells ∧ 0 + 0 ≤ (xR X).slots := ⟨Nat.zero_le _, Nat.zero_le _⟩
  show J X B N 0 0 0 [(0, .ref a), (1, iv c)] [] M
  refine j_aload_r hX dJ0_indexOf_0f7a4_0 rfl 0 rfl ?_
  refine j_iload_n hX dJ0_indexOf_0f7a4_1 rfl 1 rfl ?_
  refine j_iconst hX dJ0_indexOf_0f7a4_2 ?_
  refine j_callKV hX hK ln_J0_633 rfl (c_J0_indexOf_7cf53 _ _ _ _ _ _ _ _ _ c _ hn hc) (by omega) hce rfl rfl (Nat.le_of_ble_eq_true rfl) dJ0_indexOf_0f7a4_3 (fun z3 hz3 hp3 => ?_)
  exact hret _ _ _ dJ0_indexOf_0f7a4_6 rfl (by omega) hp3
