theorem dX9_hasPlaceFor_0 : decode cX9_hasPlaceFor 0 = .ok (.aload_n 0, 1) := by decide +kernel
theorem dX9_hasPlaceFor_1 : decode cX9_hasPlaceFor 1 = .ok (.getfield 19, 3) := by decide +kernel
theorem dX9_hasPlaceFor_4 : decode cX9_hasPlaceFor 4 = .ok (.iload_n 1, 1) := by decide +kernel
theorem dX9_hasPlaceFor_5 : decode cX9_hasPlaceFor 5 = .ok (.iadd, 1) := by decide +kernel
theorem dX9_hasPlaceFor_6 : decode cX9_hasPlaceFor 6 = .ok (.sipush 1600, 3) := by decide +kernel
theorem dX9_hasPlaceFor_9 : decode cX9_hasPlaceFor 9 = .ok (.if_icmp .gt 7, 3) := by decide +kernel
theorem dX9_hasPlaceFor_12 : decode cX9_hasPlaceFor 12 = .ok (.iconst 1, 1) := by decide +kernel
theorem dX9_hasPlaceFor_13 : decode cX9_hasPlaceFor 13 = .ok (.goto 4, 3) := by decide +kernel
theorem dX9_hasPlaceFor_16 : decode cX9_hasPlaceFor 16 = .ok (.iconst 0, 1) := by decide +kernel
theorem dX9_hasPlaceFor_17 : decode cX9_hasPlaceFor 17 = .ok (.ireturn, 1) := by decide +kernel
theorem dX9_addFour_0 : decode cX9_addFour 0 = .ok (.bipush 24, 2) := by decide +kernel
theorem dX9_addFour_2 : decode cX9_addFour 2 = .ok (.istore_n 2, 1) := by decide +kernel
theorem dX9_addFour_3 : decode cX9_addFour 3 = .ok (.iload_n 2, 1) := by decide +kernel
theorem dX9_addFour_4 : decode cX9_addFour 4 = .ok (.ifCond .lt 42, 3) := by decide +kernel
theorem dX9_addFour_7 : decode cX9_addFour 7 = .ok (.aload_n 0, 1) := by decide +kernel
theorem dX9_addFour_8 : decode cX9_addFour 8 = .ok (.getfield 19, 3) := by decide +kernel
theorem dX9_addFour_11 : decode cX9_addFour 11 = .ok (.sipush 1600, 3) := by decide +kernel
theorem dX9_addFour_14 : decode cX9_addFour 14 = .ok (.if_icmp .ge 32, 3) := by decide +kernel
theorem dX9_addFour_17 : decode cX9_addFour 17 = .ok (.aload_n 0, 1) := by decide +kernel
theorem dX9_addFour_18 : decode cX9_addFour 18 = .ok (.getfield 9, 3) := by decide +kernel
theorem dX9_addFour_21 : decode cX9_addFour 21 = .ok (.aload_n 0, 1) := by decide +kernel
theorem dX9_addFour_22 : decode cX9_addFour 22 = .ok (.getfield 19, 3) := by decide +kernel
theorem dX9_addFour_25 : decode cX9_addFour 25 = .ok (.iload_n 1, 1) := by decide +kernel
theorem dX9_addFour_26 : decode cX9_addFour 26 = .ok (.iload_n 2, 1) := by decide +kernel
theorem dX9_addFour_27 : decode cX9_addFour 27 = .ok (.ishr, 1) := by decide +kernel
theorem dX9_addFour_28 : decode cX9_addFour 28 = .ok (.i2b, 1) := by decide +kernel
theorem dX9_addFour_29 : decode cX9_addFour 29 = .ok (.bastore, 1) := by decide +kernel
theorem dX9_addFour_30 : decode cX9_addFour 30 = .ok (.aload_n 0, 1) := by decide +kernel
theorem dX9_addFour_31 : decode cX9_addFour 31 = .ok (.dup, 1) := by decide +kernel
theorem dX9_addFour_32 : decode cX9_addFour 32 = .ok (.getfield 19, 3) := by decide +kernel
theorem dX9_addFour_35 : decode cX9_addFour 35 = .ok (.iconst 1, 1) := by decide +kernel
theorem dX9_addFour_36 : decode cX9_addFour 36 = .ok (.iadd, 1) := by decide +kernel
theorem dX9_addFour_37 : decode cX9_addFour 37 = .ok (.putfield 19, 3) := by decide +kernel
theorem dX9_addFour_40 : decode cX9_addFour 40 = .ok (.iinc 2 (-8), 3) := by decide +kernel
theorem dX9_addFour_43 : decode cX9_addFour 43 = .ok (.goto (-40), 3) := by decide +kernel
theorem dX9_addFour_46 : decode cX9_addFour 46 = .ok (.return_, 1) := by decide +kernel
theorem dX9_isLetterAt_0 : decode cX9_isLetterAt 0 = .ok (.iload_n 1, 1) := by decide +kernel
theorem dX9_isLetterAt_1 : decode cX9_isLetterAt 1 = .ok (.aload_n 0, 1) := by decide +kernel
theorem dX9_isLetterAt_2 : decode cX9_isLetterAt 2 = .ok (.getfield 19, 3) := by decide +kernel
theorem dX9_isLetterAt_5 : decode cX9_isLetterAt 5 = .ok (.if_icmp .ge 29, 3) := by decide +kernel
theorem dX9_isLetterAt_8 : decode cX9_isLetterAt 8 = .ok (.aload_n 0, 1) := by decide +kernel
theorem dX9_isLetterAt_9 : decode cX9_isLetterAt 9 = .ok (.getfield 9, 3) := by decide +kernel
theorem dX9_isLetterAt_12 : decode cX9_isLetterAt 12 = .ok (.iload_n 1, 1) := by decide +kernel
theorem dX9_isLetterAt_13 : decode cX9_isLetterAt 13 = .ok (.baload, 1) := by decide +kernel
theorem dX9_isLetterAt_14 : decode cX9_isLetterAt 14 = .ok (.bipush 97, 2) := by decide +kernel
theorem dX9_isLetterAt_16 : decode cX9_isLetterAt 16 = .ok (.if_icmp .lt 18, 3) := by decide +kernel
theorem dX9_isLetterAt_19 : decode cX9_isLetterAt 19 = .ok (.aload_n 0, 1) := by decide +kernel
theorem dX9_isLetterAt_20 : decode cX9_isLetterAt 20 = .ok (.getfield 9, 3) := by decide +kernel
theorem dX9_isLetterAt_23 : decode cX9_isLetterAt 23 = .ok (.iload_n 1, 1) := by decide +kernel
theorem dX9_isLetterAt_24 : decode cX9_isLetterAt 24 = .ok (.baload, 1) := by decide +kernel
theorem dX9_isLetterAt_25 : decode cX9_isLetterAt 25 = .ok (.bipush 122, 2) := by decide +kernel
theorem dX9_isLetterAt_27 : decode cX9_isLetterAt 27 = .ok (.if_icmp .gt 7, 3) := by decide +kernel
theorem dX9_isLetterAt_30 : decode cX9_isLetterAt 30 = .ok (.iconst 1, 1) := by decide +kernel
theorem dX9_isLetterAt_31 : decode cX9_isLetterAt 31 = .ok (.goto 4, 3) := by decide +kernel
theorem dX9_isLetterAt_34 : decode cX9_isLetterAt 34 = .ok (.iconst 0, 1) := by decide +kernel
theorem dX9_isLetterAt_35 : decode cX9_isLetterAt 35 = .ok (.ireturn, 1) := by decide +kernel
theorem dX9_isDigitAt_0 : decode cX9_isDigitAt 0 = .ok (.iload_n 1, 1) := by decide +kernel
theorem dX9_isDigitAt_1 : decode cX9_isDigitAt 1 = .ok (.aload_n 0, 1) := by decide +kernel
theorem dX9_isDigitAt_2 : decode cX9_isDigitAt 2 = .ok (.getfield 19, 3) := by decide +kernel
theorem dX9_isDigitAt_5 : decode cX9_isDigitAt 5 = .ok (.if_icmp .ge 29, 3) := by decide +kernel
theorem dX9_isDigitAt_8 : decode cX9_isDigitAt 8 = .ok (.aload_n 0, 1) := by decide +kernel
theorem dX9_isDigitAt_9 : decode cX9_isDigitAt 9 = .ok (.getfield 9, 3) := by decide +kernel
theorem dX9_isDigitAt_12 : decode cX9_isDigitAt 12 = .ok (.iload_n 1, 1) := by decide +kernel
theorem dX9_isDigitAt_13 : decode cX9_isDigitAt 13 = .ok (.baload, 1) := by decide +kernel
theorem dX9_isDigitAt_14 : decode cX9_isDigitAt 14 = .ok (.bipush 48, 2) := by decide +kernel
theorem dX9_isDigitAt_16 : decode cX9_isDigitAt 16 = .ok (.if_icmp .lt 18, 3) := by decide +kernel
theorem dX9_isDigitAt_19 : decode cX9_isDigitAt 19 = .ok (.aload_n 0, 1) := by decide +kernel
theorem dX9_isDigitAt_20 : decode cX9_isDigitAt 20 = .ok (.getfield 9, 3) := by decide +kernel
theorem dX9_isDigitAt_23 : decode cX9_isDigitAt 23 = .ok (.iload_n 1, 1) := by decide +kernel
theorem dX9_isDigitAt_24 : decode cX9_isDigitAt 24 = .ok (.baload, 1) := by decide +kernel
theorem dX9_isDigitAt_25 : decode cX9_isDigitAt 25 = .ok (.bipush 57, 2) := by decide +kernel
theorem dX9_isDigitAt_27 : decode cX9_isDigitAt 27 = .ok (.if_icmp .gt 7, 3) := by decide +kernel
theorem dX9_isDigitAt_30 : decode cX9_isDigitAt 30 = .ok (.iconst 1, 1) := by decide +kernel
theorem dX9_isDigitAt_31 : decode cX9_isDigitAt 31 = .ok (.goto 4, 3) := by decide +kernel
theorem dX9_isDigitAt_34 : decode cX9_isDigitAt 34 = .ok (.iconst 0, 1) := by decide +kernel
theorem dX9_isDigitAt_35 : decode cX9_isDigitAt 35 = .ok (.ireturn, 1) := by decide +kernel
theorem dX9_withLetter_0 : decode cX9_withLetter 0 = .ok (.lload_n 0, 1) := by decide +kernel
theorem dX9_withLetter_1 : decode cX9_withLetter 1 = .ok (.ldc2_w 79, 3) := by decide +kernel
theorem dX9_withLetter_4 : decode cX9_withLetter 4 = .ok (.lmul, 1) := by decide +kernel
theorem dX9_withLetter_5 : decode cX9_withLetter 5 = .ok (.iload_n 2, 1) := by decide +kernel
theorem dX9_withLetter_6 : decode cX9_withLetter 6 = .ok (.bipush 97, 2) := by decide +kernel
theorem dX9_withLetter_8 : decode cX9_withLetter 8 = .ok (.isub, 1) := by decide +kernel
theorem dX9_withLetter_9 : decode cX9_withLetter 9 = .ok (.iconst 1, 1) := by decide +kernel
theorem dX9_withLetter_10 : decode cX9_withLetter 10 = .ok (.iadd, 1) := by decide +kernel
theorem dX9_withLetter_11 : decode cX9_withLetter 11 = .ok (.i2l, 1) := by decide +kernel
theorem dX9_withLetter_12 : decode cX9_withLetter 12 = .ok (.ladd, 1) := by decide +kernel
theorem dX9_withLetter_13 : decode cX9_withLetter 13 = .ok (.lreturn, 1) := by decide +kernel
set_option maxHeartbeats 4000000 in
set_option maxRecDepth 20000 in
theorem c_X9_hasPlaceFor (l : Launch) (D : va_G) (cy : Nat → ClassId) (B N : Nat) (a : Int) (M : MM) (hN : 210 ≤ N) (hI : Iv M) (hpa : I32 a) (h1 : 0 ≤ a ∧ a ≤ 100) : CI l D cy B N 1 yX9_hasPlaceFor cX9_hasPlaceFor 2 (some .boolean) [rv B 2, iv a] M (fun z M' => M' = M ∧ (z = 0 ∨ z = 1) ∧ (z = 1 → M.1 2 2 + a ≤ 1600)) := by
  refine mk_CI (by decide) (Nat.le_of_ble_eq_true rfl) ?_
  intro X exl exD excy hnL hX hret
  have hce : 0 + 0 ≤ (xR X).cells ∧ 0 + 0 ≤ (xR X).slots := ⟨Nat.zero_le _, Nat.zero_le _⟩
  show J X B N 0 0 0 [(0, rv B 2), (1, iv a)] [] M
  refine j_aload_n hX dX9_hasPlaceFor_0 rfl 0 rfl ?_
  refine gf_X9_19 hX (by omega) (by omega) kc_2 dX9_hasPlaceFor_1 ?_
  refine j_name hI ro_2_2 (fun v1 hv2 hl3 hh4 => ?_)
  have hk5 := hv2.symm
  refine j_iload_n hX dX9_hasPlaceFor_4 rfl 1 rfl ?_
  refine j_iadd hX dX9_hasPlaceFor_5 ?_
  refine j_sipush hX dX9_hasPlaceFor_6 rfl ?_
  refine j_icmp_gt (tgt := 16) hX dX9_hasPlaceFor_9 (by decide) (by omega) (by omega) (fun hc6 => ?_) (fun hc6 => ?_)
  · skip
    refine j_iconst hX dX9_hasPlaceFor_16 ?_
    exact hret _ _ _ _ dX9_hasPlaceFor_17 (nb (by omega)) (by omega) ⟨rfl, by omega, by omega⟩
  · skip
    refine j_iconst hX dX9_hasPlaceFor_12 ?_
    refine j_goto (tgt := 17) hX dX9_hasPlaceFor_13 (by decide) ?_
    exact hret _ _ _ _ dX9_hasPlaceFor_17 (nb (by omega)) (by omega) ⟨rfl, by omega, by omega⟩
set_option maxHeartbeats 4000000 in
set_option maxRecDepth 20000 in
theorem c_X9_addFour (l : Launch) (D : va_G) (cy : Nat → ClassId) (B N : Nat) (a : Int) (M : MM) (hN : 210 ≤ N) (hI : Iv M) (hpa : I32 a) : CV l D cy B N 1 yX9_addFour cX9_addFour 3 none [rv B 2, iv a] M (fun M' => Iv M' ∧ Fr (fun a b => (a = 2 ∧ 2 ≤ b ∧ b ≤ 2) ∨ (a = 3)) M M') := by
  refine mk_CV (by decide) (Nat.le_of_ble_eq_true rfl) ?_
  intro X exl exD excy hnL hX hret
  have hce : 0 + 0 ≤ (xR X).cells ∧ 0 + 0 ≤ (xR X).slots := ⟨Nat.zero_le _, Nat.zero_le _⟩
  have hF : Fr (fun a b => (a = 2 ∧ 2 ≤ b ∧ b ≤ 2) ∨ (a = 3)) M M := Fr.rf
  have cp : ∀ n : Nat, (∀ (x2 : Int), ∀ (Mc : MM), I32 x2 → Iv Mc → Fr (fun a b => (a = 2 ∧ 2 ≤ b ∧ b ≤ 2) ∨ (a = 3)) M Mc → (-8 ≤ x2 ∧ x2 ≤ 24) → 0 ≤ 32 * (x2 + 8) + 1 → 32 * (x2 + 8) + 1 < (n : Int) → J X B N 0 0 3 [(0, rv B 2), (1, iv a), (2, iv x2)] [] Mc) := by
    intro n
    induction n with
    | zero => exact by intros; exfalso; omega
    | succ n ih =>
      · intro x2 Mc hxx2 hI hF h2 hm0 hm1
        refine j_iload_n hX dX9_addFour_3 rfl 2 rfl ?_
        refine j_if_lt (tgt := 46) hX dX9_addFour_4 (by decide) (by omega) (fun hc1 => ?_) (fun hc1 => ?_)
        · skip
          exact hret _ _ _ dX9_addFour_46 ⟨hI, hF⟩
        · skip
          refine j_aload_n hX dX9_addFour_7 rfl 0 rfl ?_
          refine gf_X9_19 hX (by omega) (by omega) kc_2 dX9_addFour_8 ?_
          refine j_name hI ro_2_2 (fun v2 hv3 hl4 hh5 => ?_)
          have hk6 := hv3.symm
          refine j_sipush hX dX9_addFour_11 rfl ?_
          refine j_icmp_ge (tgt := 46) hX dX9_addFour_14 (by decide) (by omega) (by omega) (fun hc7 => ?_) (fun hc7 => ?_)
          · skip
            exact hret _ _ _ dX9_addFour_46 ⟨hI, hF⟩
          · skip
            refine j_aload_n hX dX9_addFour_17 rfl 0 rfl ?_
            refine gf_X9_9 hX (by omega) (by omega) kc_2 (fc_2_0 hI) (by decide) dX9_addFour_18 ?_
            refine j_aload_n hX dX9_addFour_21 rfl 0 rfl ?_
            refine gf_X9_19 hX (by omega) (by omega) kc_2 dX9_addFour_22 ?_
            refine j_top hk6 ?_
            refine j_iload_n hX dX9_addFour_25 rfl 1 rfl ?_
            refine j_iload_n hX dX9_addFour_26 rfl 2 rfl ?_
            refine j_ishr hX dX9_addFour_27 (fun z8 hz9 hy10 => ?_)
            refine j_i2b hX dX9_addFour_28 (fun z11 hz12 hy13 => ?_)
            refine j_bast hX (by omega) (by omega) kc_3 (by omega) (by omega) (by omega) (by omega) (by omega) dX9_addFour_29 ?_
            refine j_up hI (ra_3 _) (by omega) (by omega) (Or.inl (by omega)) (fun M14 w15 hw16 hM17 hI18 hf19 => ?_)
            have hk20 := kp_up hM17 (fun h => absurd h.1 (by decide)) hk6
            have hF21 := Fr.put hF hM17 (by omega)
            refine j_aload_n hX dX9_addFour_30 rfl 0 rfl ?_
            refine j_dup hX dX9_addFour_31 rfl ?_
            refine gf_X9_19 hX (by omega) (by omega) kc_2 dX9_addFour_32 ?_
            refine j_top hk20 ?_
            refine j_iconst hX dX9_addFour_35 ?_
            refine j_iadd hX dX9_addFour_36 ?_
            refine pf_X9_19 hX (by omega) (by omega) kc_2 (by omega) dX9_addFour_37 ?_
            refine j_up hI18 ro_2_2 (by omega) (by omega) (Or.inl (by omega)) (fun M22 w23 hw24 hM25 hI26 hf27 => ?_)
            have hF28 := Fr.put hF21 hM25 (by omega)
            refine j_iinc (lv' := [(2, _), (0, _), (1, _)]) hX dX9_addFour_40 2 rfl (by rw [hnL]; decide) rfl ?_
            refine j_goto (tgt := 3) hX dX9_addFour_43 (by decide) ?_
            refine j_sub [1, 2, 0] rfl ?_
            exact ih _ _ (by omega) hI26 hF28 (by omega) (by omega) (by omega)
  show J X B N 0 0 0 [(0, rv B 2), (1, iv a)] [] M
  refine j_bipush hX dX9_addFour_0 rfl ?_
  refine j_istore_n (lv' := [(2, _), (0, _), (1, _)]) hX dX9_addFour_2 rfl (by rw [hnL]; decide) rfl ?_
  refine j_sub [1, 2, 0] rfl ?_
  refine (cp (Int.toNat (3264 + 1))) _ _ (by omega) hI hF (by omega) ?_ ?_
  · omega
  · omega
set_option maxHeartbeats 4000000 in
set_option maxRecDepth 20000 in
theorem c_X9_isLetterAt (l : Launch) (D : va_G) (cy : Nat → ClassId) (B N : Nat) (a : Int) (M : MM) (hN : 210 ≤ N) (hI : Iv M) (hpa : I32 a) (h1 : 0 ≤ a) : CI l D cy B N 1 yX9_isLetterAt cX9_isLetterAt 2 (some .boolean) [rv B 2, iv a] M (fun z M' => M' = M ∧ (z = 0 ∨ z = 1)) := by
  refine mk_CI (by decide) (Nat.le_of_ble_eq_true rfl) ?_
  intro X exl exD excy hnL hX hret
  have hce : 0 + 0 ≤ (xR X).cells ∧ 0 + 0 ≤ (xR X).slots := ⟨Nat.zero_le _, Nat.zero_le _⟩
  show J X B N 0 0 0 [(0, rv B 2), (1, iv a)] [] M
  refine j_iload_n hX dX9_isLetterAt_0 rfl 1 rfl ?_
  refine j_aload_n hX dX9_isLetterAt_1 rfl 0 rfl ?_
  refine gf_X9_19 hX (by omega) (by omega) kc_2 dX9_isLetterAt_2 ?_
  refine j_name hI ro_2_2 (fun v1 hv2 hl3 hh4 => ?_)
  have hk5 := hv2.symm
  refine j_icmp_ge (tgt := 34) hX dX9_isLetterAt_5 (by decide) (by omega) (by omega) (fun hc6 => ?_) (fun hc6 => ?_)
  · skip
    refine j_iconst hX dX9_isLetterAt_34 ?_
    exact hret _ _ _ _ dX9_isLetterAt_35 (nb (by omega)) (by omega) ⟨rfl, by omega⟩
  · skip
    refine j_aload_n hX dX9_isLetterAt_8 rfl 0 rfl ?_
    refine gf_X9_9 hX (by omega) (by omega) kc_2 (fc_2_0 hI) (by decide) dX9_isLetterAt_9 ?_
    refine j_iload_n hX dX9_isLetterAt_12 rfl 1 rfl ?_
    refine j_bald hX (by omega) (by omega) kc_3 (by omega) (by omega) (by omega) dX9_isLetterAt_13 ?_
    refine j_name hI (ra_3 _) (fun v7 hv8 hl9 hh10 => ?_)
    refine j_bipush hX dX9_isLetterAt_14 rfl ?_
    refine j_icmp_lt (tgt := 34) hX dX9_isLetterAt_16 (by decide) (by omega) (by omega) (fun hc11 => ?_) (fun hc11 => ?_)
    · skip
      refine j_iconst hX dX9_isLetterAt_34 ?_
      exact hret _ _ _ _ dX9_isLetterAt_35 (nb (by omega)) (by omega) ⟨rfl, by omega⟩
    · skip
      refine j_aload_n hX dX9_isLetterAt_19 rfl 0 rfl ?_
      refine gf_X9_9 hX (by omega) (by omega) kc_2 (fc_2_0 hI) (by decide) dX9_isLetterAt_20 ?_
      refine j_iload_n hX dX9_isLetterAt_23 rfl 1 rfl ?_
      refine j_bald hX (by omega) (by omega) kc_3 (by omega) (by omega) (by omega) dX9_isLetterAt_24 ?_
      refine j_name hI (ra_3 _) (fun v12 hv13 hl14 hh15 => ?_)
      refine j_bipush hX dX9_isLetterAt_25 rfl ?_
      refine j_icmp_gt (tgt := 34) hX dX9_isLetterAt_27 (by decide) (by omega) (by omega) (fun hc16 => ?_) (fun hc16 => ?_)
      · skip
        refine j_iconst hX dX9_isLetterAt_34 ?_
        exact hret _ _ _ _ dX9_isLetterAt_35 (nb (by omega)) (by omega) ⟨rfl, by omega⟩
      · skip
        refine j_iconst hX dX9_isLetterAt_30 ?_
        refine j_goto (tgt := 35) hX dX9_isLetterAt_31 (by decide) ?_
        exact hret _ _ _ _ dX9_isLetterAt_35 (nb (by omega)) (by omega) ⟨rfl, by omega⟩
set_option maxHeartbeats 4000000 in
set_option maxRecDepth 20000 in
theorem c_X9_isDigitAt (l : Launch) (D : va_G) (cy : Nat → ClassId) (B N : Nat) (a : Int) (M : MM) (hN : 210 ≤ N) (hI : Iv M) (hpa : I32 a) (h1 : 0 ≤ a) : CI l D cy B N 1 yX9_isDigitAt cX9_isDigitAt 2 (some .boolean) [rv B 2, iv a] M (fun z M' => M' = M ∧ (z = 0 ∨ z = 1)) := by
  refine mk_CI (by decide) (Nat.le_of_ble_eq_true rfl) ?_
  intro X exl exD excy hnL hX hret
  have hce : 0 + 0 ≤ (xR X).cells ∧ 0 + 0 ≤ (xR X).slots := ⟨Nat.zero_le _, Nat.zero_le _⟩
  show J X B N 0 0 0 [(0, rv B 2), (1, iv a)] [] M
  refine j_iload_n hX dX9_isDigitAt_0 rfl 1 rfl ?_
  refine j_aload_n hX dX9_isDigitAt_1 rfl 0 rfl ?_
  refine gf_X9_19 hX (by omega) (by omega) kc_2 dX9_isDigitAt_2 ?_
  refine j_name hI ro_2_2 (fun v1 hv2 hl3 hh4 => ?_)
  have hk5 := hv2.symm
  refine j_icmp_ge (tgt := 34) hX dX9_isDigitAt_5 (by decide) (by omega) (by omega) (fun hc6 => ?_) (fun hc6 => ?_)
  · skip
    refine j_iconst hX dX9_isDigitAt_34 ?_
    exact hret _ _ _ _ dX9_isDigitAt_35 (nb (by omega)) (by omega) ⟨rfl, by omega⟩
  · skip
    refine j_aload_n hX dX9_isDigitAt_8 rfl 0 rfl ?_
    refine gf_X9_9 hX (by omega) (by omega) kc_2 (fc_2_0 hI) (by decide) dX9_isDigitAt_9 ?_
    refine j_iload_n hX dX9_isDigitAt_12 rfl 1 rfl ?_
    refine j_bald hX (by omega) (by omega) kc_3 (by omega) (by omega) (by omega) dX9_isDigitAt_13 ?_
    refine j_name hI (ra_3 _) (fun v7 hv8 hl9 hh10 => ?_)
    refine j_bipush hX dX9_isDigitAt_14 rfl ?_
    refine j_icmp_lt (tgt := 34) hX dX9_isDigitAt_16 (by decide) (by omega) (by omega) (fun hc11 => ?_) (fun hc11 => ?_)
    · skip
      refine j_iconst hX dX9_isDigitAt_34 ?_
      exact hret _ _ _ _ dX9_isDigitAt_35 (nb (by omega)) (by omega) ⟨rfl, by omega⟩
    · skip
      refine j_aload_n hX dX9_isDigitAt_19 rfl 0 rfl ?_
      refine gf_X9_9 hX (by omega) (by omega) kc_2 (fc_2_0 hI) (by decide) dX9_isDigitAt_20 ?_
      refine j_iload_n hX dX9_isDigitAt_23 rfl 1 rfl ?_
      refine j_bald hX (by omega) (by omega) kc_3 (by omega) (by omega) (by omega) dX9_isDigitAt_24 ?_
      refine j_name hI (ra_3 _) (fun v12 hv13 hl14 hh15 => ?_)
      refine j_bipush hX dX9_isDigitAt_25 rfl ?_
      refine j_icmp_gt (tgt := 34) hX dX9_isDigitAt_27 (by decide) (by omega) (by omega) (fun hc16 => ?_) (fun hc16 => ?_)
      · skip
        refine j_iconst hX dX9_isDigitAt_34 ?_
        exact hret _ _ _ _ dX9_isDigitAt_35 (nb (by omega)) (by omega) ⟨rfl, by omega⟩
      · skip
        refine j_iconst hX dX9_isDigitAt_30 ?_
        refine j_goto (tgt := 35) hX dX9_isDigitAt_31 (by decide) ?_
        exact hret _ _ _ _ dX9_isDigitAt_35 (nb (by omega)) (by omega) ⟨rfl, by omega⟩
set_option maxHeartbeats 4000000 in
set_option maxRecDepth 20000 in
theorem c_X9_withLetter (l : Launch) (D : va_G) (cy : Nat → ClassId) (B N : Nat) (a : Int64) (b : Int) (M : MM) (hpb : I32 b) : CL l D cy B N 1 yX9_withLetter cX9_withLetter 3 (some .long) [.long a, iv b] M (fun z M' => M' = M) := by
  refine mk_CL (by decide) (Nat.le_of_ble_eq_true rfl) ?_
  intro X exl exD excy hnL hX hret
  have hce : 0 + 0 ≤ (xR X).cells ∧ 0 + 0 ≤ (xR X).slots := ⟨Nat.zero_le _, Nat.zero_le _⟩
  show J X B N 0 0 0 [(0, .long a), (2, iv b)] [] M
  refine j_lload_n hX dX9_withLetter_0 rfl 0 rfl ?_
  refine j_ldc2 hX (in_1 94 (by first | rfl | decide +kernel) rfl) dX9_withLetter_1 ?_
  refine j_lmul hX dX9_withLetter_4 (fun z1 => ?_)
  refine j_iload_n hX dX9_withLetter_5 rfl 1 rfl ?_
  refine j_bipush hX dX9_withLetter_6 rfl ?_
  refine j_isub hX dX9_withLetter_8 ?_
  refine j_iconst hX dX9_withLetter_9 ?_
  refine j_iadd hX dX9_withLetter_10 ?_
  refine j_i2l hX dX9_withLetter_11 (fun z2 => ?_)
  refine j_ladd hX dX9_withLetter_12 (fun z3 => ?_)
  exact hret _ _ _ _ dX9_withLetter_13 rfl
