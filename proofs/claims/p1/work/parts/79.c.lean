set_option maxHeartbeats 2000000 in
set_option maxRecDepth 20000 in
theorem cv_X9_hasPlaceFor (l : Launch) (D : va_G) (cy : Nat → ClassId) (B N : Nat) (a : Int) (M : MM) (hN : 210 ≤ N) (hI : Iv M) (hpa : I32 a) (h1 : 0 ≤ a ∧ a ≤ 100) : CI l D cy B N 1 yX9_hasPlaceFor cX9_hasPlaceFor 2 (some .boolean) [rv B 2, iv a] M (fun z M' => M' = M ∧ (0 ≤ z ∧ z ≤ 1) ∧ (z = 1 → M.1 2 2 + a ≤ 1600) ∧ (z = 0 → 1600 < M.1 2 2 + a)) := by
  refine mk_CI (by decide) (Nat.le_of_ble_eq_true rfl) ?_
  intro X exl exD excy hnL hX hret
  have hce : 0 + 0 ≤ (xR X).cells ∧ 0 + 0 ≤ (xR X).slots := ⟨Nat.zero_le _, Nat.zero_le _⟩
  show J X B N 0 0 0 [(0, rv B 2), (1, iv a)] [] M
  refine j_aload_n hX dX9_hasPlaceFor_0 rfl 0 rfl ?_
  refine gf_X9_19 hX (by omega) (by omega) kc_2 dX9_hasPlaceFor_1 ?_
  refine j_name hI ro_2_2 (fun v1 hv2 hl3 hh4 => ?_)
  have hk5 := hv2.symm
  refine j_iload_n hX dX9_hasPlaceFor_4 rfl 1 rfl ?_
  refine j_iadd hX dX9_hasPlaceFor_5 ?_
  refine j_sipush hX dX9_hasPlaceFor_6 rfl ?_
  refine j_icmp_gt (tgt := 16) hX dX9_hasPlaceFor_9 (by decide) (by omega) (by omega) (fun hc6 => ?_) (fun hc6 => ?_)
  · skip
    refine j_iconst hX dX9_hasPlaceFor_16 ?_
    exact hret _ _ _ _ dX9_hasPlaceFor_17 (nb (by omega)) (by omega) ⟨rfl, by omega, by first | assumption | omega, by first | assumption | omega⟩
  · skip
    refine j_iconst hX dX9_hasPlaceFor_12 ?_
    refine j_goto (tgt := 17) hX dX9_hasPlaceFor_13 (by decide) ?_
    exact hret _ _ _ _ dX9_hasPlaceFor_17 (nb (by omega)) (by omega) ⟨rfl, by omega, by first | assumption | omega, by first | assumption | omega⟩
set_option maxHeartbeats 2000000 in
set_option maxRecDepth 20000 in
theorem cv_X9_addFour (l : Launch) (D : va_G) (cy : Nat → ClassId) (B N : Nat) (t0 : Int) (a : Int) (M : MM) (hN : 210 ≤ N) (hI : Iv M) (hpa : I32 a) (ht0 : M.1 2 2 = t0) (h1 : 0 ≤ t0 ∧ t0 ≤ 1500) : CV l D cy B N 1 yX9_addFour cX9_addFour 3 none [rv B 2, iv a] M (fun M' => Iv M' ∧ Fr (fun a b => (a = 2 ∧ 2 ≤ b ∧ b ≤ 2) ∨ (a = 3)) M M' ∧ (M'.1 2 2 = t0 + 4)) := by
  refine mk_CV (by decide) (Nat.le_of_ble_eq_true rfl) ?_
  intro X exl exD excy hnL hX hret
  have hce : 0 + 0 ≤ (xR X).cells ∧ 0 + 0 ≤ (xR X).slots := ⟨Nat.zero_le _, Nat.zero_le _⟩
  have hF : Fr (fun a b => (a = 2 ∧ 2 ≤ b ∧ b ≤ 2) ∨ (a = 3)) M M := Fr.rf
  have cp : ∀ n : Nat, (∀ (x2 : Int), ∀ (tc : Int), ∀ (Mc : MM), I32 x2 → Iv Mc → Fr (fun a b => (a = 2 ∧ 2 ≤ b ∧ b ≤ 2) ∨ (a = 3)) M Mc → Mc.1 2 2 = tc → (-8 ≤ x2 ∧ x2 ≤ 24 ∧ x2 = 24 - 8 * (tc - t0) ∧ t0 ≤ tc) → 0 ≤ 32 * (x2 + 8) + 1 → 32 * (x2 + 8) + 1 < (n : Int) → J X B N 0 0 3 [(0, rv B 2), (1, iv a), (2, iv x2)] [] Mc) := by
    intro n
    induction n with
    | zero => exact by intros; exfalso; omega
    | succ n ih =>
      · intro x2 tc Mc hxx2 hI hF hk_0 h2 hm0 hm1
        refine j_iload_n hX dX9_addFour_3 rfl 2 rfl ?_
        refine j_if_lt (tgt := 46) hX dX9_addFour_4 (by decide) (by omega) (fun hc1 => ?_) (fun hc1 => ?_)
        · skip
          exact hret _ _ _ dX9_addFour_46 ⟨hI, hF, by first | assumption | omega⟩
        · skip
          refine j_aload_n hX dX9_addFour_7 rfl 0 rfl ?_
          refine gf_X9_19 hX (by omega) (by omega) kc_2 dX9_addFour_8 ?_
          refine j_top hk_0 ?_
          refine j_sipush hX dX9_addFour_11 rfl ?_
          refine j_icmp_ge (tgt := 46) hX dX9_addFour_14 (by decide) (by omega) (by omega) (fun hc2 => ?_) (fun hc2 => ?_)
          · skip
            exact hret _ _ _ dX9_addFour_46 ⟨hI, hF, by first | assumption | omega⟩
          · skip
            refine j_aload_n hX dX9_addFour_17 rfl 0 rfl ?_
            refine gf_X9_9 hX (by omega) (by omega) kc_2 (fc_2_0 hI) (by decide) dX9_addFour_18 ?_
            refine j_aload_n hX dX9_addFour_21 rfl 0 rfl ?_
            refine gf_X9_19 hX (by omega) (by omega) kc_2 dX9_addFour_22 ?_
            refine j_top hk_0 ?_
            refine j_iload_n hX dX9_addFour_25 rfl 1 rfl ?_
            refine j_iload_n hX dX9_addFour_26 rfl 2 rfl ?_
            refine j_ishr hX dX9_addFour_27 (fun z3 hz4 hy5 => ?_)
            refine j_i2b hX dX9_addFour_28 (fun z6 hz7 hy8 => ?_)
            refine j_bast hX (by omega) (by omega) kc_3 (by omega) (by omega) (by omega) (by omega) (by omega) dX9_addFour_29 ?_
            refine j_up hI (ra_3 _) (by omega) (by omega) (Or.inl (by omega)) (fun M9 w10 hw11 hM12 hI13 hf14 => ?_)
            have hk15 := kp_up hM12 (fun h => absurd h.1 (by decide)) hk_0
            have hF16 := Fr.put hF hM12 ((Or.inr rfl))
            refine j_aload_n hX dX9_addFour_30 rfl 0 rfl ?_
            refine j_dup hX dX9_addFour_31 rfl ?_
            refine gf_X9_19 hX (by omega) (by omega) kc_2 dX9_addFour_32 ?_
            refine j_top hk15 ?_
            refine j_iconst hX dX9_addFour_35 ?_
            refine j_iadd hX dX9_addFour_36 ?_
            refine pf_X9_19 hX (by omega) (by omega) kc_2 (by omega) dX9_addFour_37 ?_
            refine j_up hI13 ro_2_2 (by omega) (by omega) (Or.inl (by omega)) (fun M17 w18 hw19 hM20 hI21 hf22 => ?_)
            clear hk15
            have hF23 := Fr.put hF16 hM20 ((Or.inl ⟨rfl, by decide, by decide⟩))
            refine j_iinc (lv' := [(2, _), (0, _), (1, _)]) hX dX9_addFour_40 2 rfl (by rw [hnL]; decide) rfl ?_
            refine j_goto (tgt := 3) hX dX9_addFour_43 (by decide) ?_
            refine j_sub [1, 2, 0] rfl ?_
            exact ih _ _ _ (by omega) hI21 hF23 hf22 (by first | assumption | omega) (by omega) (by omega)
  show J X B N 0 0 0 [(0, rv B 2), (1, iv a)] [] M
  refine j_bipush hX dX9_addFour_0 rfl ?_
  refine j_istore_n (lv' := [(2, _), (0, _), (1, _)]) hX dX9_addFour_2 rfl (by rw [hnL]; decide) rfl ?_
  refine j_sub [1, 2, 0] rfl ?_
  refine (cp (Int.toNat (3264 + 1))) _ _ _ (by omega) hI hF ht0 (by first | assumption | omega) ?_ ?_
  · omega
  · omega
set_option maxHeartbeats 2000000 in
set_option maxRecDepth 20000 in
theorem cv_X10_feed (l : Launch) (D : va_G) (cy : Nat → ClassId) (B N : Nat) (tl : Int) (a : Int) (b : Int) (c : Int) (d : Int) (e : Int) (M : MM) (hN : 210 ≤ N) (hI : Iv M) (hpa : I32 a) (hpb : I32 b) (hpc : I32 c) (hpd : I32 d) (hpe : I32 e) (htl : M.1 2 2 = tl) (hz2 : tl = 0) : CI l D cy B N 2 yX10_feed cX10_feed 7 (some .int) [rv B 0, iv a, iv b, iv c, iv d, iv e] M (fun z M' => Iv M' ∧ Fr (fun a b => (a = 2 ∧ 2 ≤ b ∧ b ≤ 2) ∨ (a = 3)) M M' ∧ (z = 20)) := by
  refine mk_CI (by decide) (Nat.le_of_ble_eq_true rfl) ?_
  intro X exl exD excy hnL hX hret
  have hce : 0 + 0 ≤ (xR X).cells ∧ 0 + 0 ≤ (xR X).slots := ⟨Nat.zero_le _, Nat.zero_le _⟩
  have hF : Fr (fun a b => (a = 2 ∧ 2 ≤ b ∧ b ≤ 2) ∨ (a = 3)) M M := Fr.rf
  show J X B N 0 0 0 [(0, rv B 0), (1, iv a), (2, iv b), (3, iv c), (4, iv d), (5, iv e)] [] M
  refine j_aload_n hX dX10_feed_0 rfl 0 rfl ?_
  refine gf_X10_10 hX (by omega) (by omega) kc_0 (fc_0_0 hI) (by decide) dX10_feed_1 ?_
  refine gf_X10_80 hX (by omega) (by omega) kc_1 (fc_1_0 hI) (by decide) dX10_feed_4 ?_
  refine j_astore (lv' := [(6, _), (0, _), (1, _), (2, _), (3, _), (4, _), (5, _)]) hX dX10_feed_7 (by rw [hnL]; decide) rfl ?_
  refine j_aload hX dX10_feed_9 0 rfl ?_
  refine j_bipush hX dX10_feed_11 rfl ?_
  refine j_callVI hX lk_X10_84 (cv_X9_hasPlaceFor _ _ _ _ _ _ _ (by omega) hI (by omega) (by first | assumption | omega)) (by omega) hce rfl rfl (by omega) (by omega) kc_2 rfl rfl (Nat.le_of_ble_eq_true rfl) dX10_feed_13 (fun z1 M2 hz4 hp3 => ?_)
  obtain ⟨hE5, hb6, hq7, hq8⟩ := hp3
  replace hE5 := hE5.symm
  subst hE5
  refine j_if_ne (tgt := 21) hX dX10_feed_16 (by decide) (by omega) (fun hc9 => ?_) (fun hc9 => ?_)
  · skip
    have hi10 := hq7 (by omega)
    clear hq7
    clear hq8
    refine j_aload hX dX10_feed_21 0 rfl ?_
    refine j_iload_n hX dX10_feed_23 rfl 2 rfl ?_
    refine j_callVV hX lk_X10_90 (cv_X9_addFour _ _ _ _ _ _ _ _ (by omega) hI (by omega) htl (by first | assumption | omega)) (by omega) hce rfl rfl (by omega) (by omega) kc_2 rfl rfl (Nat.le_of_ble_eq_true rfl) dX10_feed_24 (fun M12 hp13 => ?_)
    obtain ⟨hI16, hG17, hq18⟩ := hp13
    have hF19 := Fr.trans hF hG17 (fun a b h => h.elim (fun h => (Or.inl h)) (fun h => (Or.inr h)))
    refine j_aload hX dX10_feed_27 0 rfl ?_
    refine j_iload_n hX dX10_feed_29 rfl 3 rfl ?_
    refine j_callVV hX lk_X10_90 (cv_X9_addFour _ _ _ _ _ _ _ _ (by omega) hI16 (by omega) (by first | assumption | rfl) (by first | assumption | omega)) (by omega) hce rfl rfl (by omega) (by omega) kc_2 rfl rfl (Nat.le_of_ble_eq_true rfl) dX10_feed_30 (fun M21 hp22 => ?_)
    obtain ⟨hI25, hG26, hq27⟩ := hp22
    have hF28 := Fr.trans hF19 hG26 (fun a b h => h.elim (fun h => (Or.inl h)) (fun h => (Or.inr h)))
    refine j_aload hX dX10_feed_33 0 rfl ?_
    refine j_iload_n hX dX10_feed_35 rfl 4 rfl ?_
    refine j_callVV hX lk_X10_90 (cv_X9_addFour _ _ _ _ _ _ _ _ (by omega) hI25 (by omega) (by first | assumption | rfl) (by first | assumption | omega)) (by omega) hce rfl rfl (by omega) (by omega) kc_2 rfl rfl (Nat.le_of_ble_eq_true rfl) dX10_feed_36 (fun M30 hp31 => ?_)
    obtain ⟨hI34, hG35, hq36⟩ := hp31
    have hF37 := Fr.trans hF28 hG35 (fun a b h => h.elim (fun h => (Or.inl h)) (fun h => (Or.inr h)))
    refine j_aload hX dX10_feed_39 0 rfl ?_
    refine j_iload hX dX10_feed_41 5 rfl ?_
    refine j_callVV hX lk_X10_90 (cv_X9_addFour _ _ _ _ _ _ _ _ (by omega) hI34 (by omega) (by first | assumption | rfl) (by first | assumption | omega)) (by omega) hce rfl rfl (by omega) (by omega) kc_2 rfl rfl (Nat.le_of_ble_eq_true rfl) dX10_feed_43 (fun M39 hp40 => ?_)
    obtain ⟨hI43, hG44, hq45⟩ := hp40
    have hF46 := Fr.trans hF37 hG44 (fun a b h => h.elim (fun h => (Or.inl h)) (fun h => (Or.inr h)))
    refine j_aload hX dX10_feed_46 0 rfl ?_
    refine j_iload hX dX10_feed_48 6 rfl ?_
    refine j_callVV hX lk_X10_90 (cv_X9_addFour _ _ _ _ _ _ _ _ (by omega) hI43 (by omega) (by first | assumption | rfl) (by first | assumption | omega)) (by omega) hce rfl rfl (by omega) (by omega) kc_2 rfl rfl (Nat.le_of_ble_eq_true rfl) dX10_feed_50 (fun M48 hp49 => ?_)
    obtain ⟨hI52, hG53, hq54⟩ := hp49
    have hF55 := Fr.trans hF46 hG53 (fun a b h => h.elim (fun h => (Or.inl h)) (fun h => (Or.inr h)))
    refine j_aload hX dX10_feed_53 0 rfl ?_
    refine gf_X10_94 hX (by omega) (by omega) kc_2 dX10_feed_55 ?_
    refine j_name hI52 ro_2_2 (fun v56 hv57 hl58 hh59 => ?_)
    have hk60 := hv57.symm
    exact hret _ _ _ _ dX10_feed_58 rfl (by omega) ⟨hI52, hF55, by first | assumption | omega⟩
  · exfalso; omega
set_option maxHeartbeats 2000000 in
set_option maxRecDepth 20000 in
theorem cv_X10_end (l : Launch) (D : va_G) (cy : Nat → ClassId) (B N : Nat) (tl : Int) (a : Int) (M : MM) (hN : 210 ≤ N) (hI : Iv M) (hpa : I32 a) (htl : M.1 2 2 = tl) (hz2 : tl = 0) : CI l D cy B N 1 yX10_end cX10_end 2 (some .int) [rv B 0, iv a] M (fun z M' => Iv M' ∧ Fr (fun a b => (a = 2 ∧ 2 ≤ b ∧ b ≤ 2)) M M' ∧ ((a = 0 → z = 0) ∧ (¬ (a = 0) → z = -1))) := by
  refine mk_CI (by decide) (Nat.le_of_ble_eq_true rfl) ?_
  intro X exl exD excy hnL hX hret
  have hce : 0 + 0 ≤ (xR X).cells ∧ 0 + 0 ≤ (xR X).slots := ⟨Nat.zero_le _, Nat.zero_le _⟩
  have hF : Fr (fun a b => (a = 2 ∧ 2 ≤ b ∧ b ≤ 2)) M M := Fr.rf
  show J X B N 0 0 0 [(0, rv B 0), (1, iv a)] [] M
  refine j_iload_n hX dX10_end_0 rfl 1 rfl ?_
  refine j_if_lt (tgt := 18) hX dX10_end_1 (by decide) (by omega) (fun hc1 => ?_) (fun hc1 => ?_)
  · skip
    refine j_iconst hX dX10_end_18 ?_
    exact hret _ _ _ _ dX10_end_19 rfl (by omega) ⟨hI, hF, by first | assumption | omega⟩
  · skip
    refine j_iload_n hX dX10_end_4 rfl 1 rfl ?_
    refine j_aload_n hX dX10_end_5 rfl 0 rfl ?_
    refine gf_X10_10 hX (by omega) (by omega) kc_0 (fc_0_0 hI) (by decide) dX10_end_6 ?_
    refine gf_X10_80 hX (by omega) (by omega) kc_1 (fc_1_0 hI) (by decide) dX10_end_9 ?_
    refine gf_X10_94 hX (by omega) (by omega) kc_2 dX10_end_12 ?_
    refine j_top htl ?_
    refine j_icmp_le (tgt := 20) hX dX10_end_15 (by decide) (by omega) (by omega) (fun hc2 => ?_) (fun hc2 => ?_)
    · skip
      refine j_aload_n hX dX10_end_20 rfl 0 rfl ?_
      refine gf_X10_10 hX (by omega) (by omega) kc_0 (fc_0_0 hI) (by decide) dX10_end_21 ?_
      refine gf_X10_80 hX (by omega) (by omega) kc_1 (fc_1_0 hI) (by decide) dX10_end_24 ?_
      refine j_iload_n hX dX10_end_27 rfl 1 rfl ?_
      refine pf_X10_94 hX (by omega) (by omega) kc_2 (by omega) dX10_end_28 ?_
      refine j_up hI ro_2_2 (by omega) (by omega) (Or.inl (by omega)) (fun M3 w4 hw5 hM6 hI7 hf8 => ?_)
      have hF9 := Fr.put hF hM6 (⟨rfl, by decide, by decide⟩)
      refine j_iload_n hX dX10_end_31 rfl 1 rfl ?_
      exact hret _ _ _ _ dX10_end_32 rfl (by omega) ⟨hI7, hF9, by first | assumption | omega⟩
    · skip
      refine j_iconst hX dX10_end_18 ?_
      exact hret _ _ _ _ dX10_end_19 rfl (by omega) ⟨hI, hF, by first | assumption | omega⟩
set_option maxHeartbeats 2000000 in
set_option maxRecDepth 20000 in
theorem cv_X10_fault (l : Launch) (D : va_G) (cy : Nat → ClassId) (B N : Nat) (f2 : Int) (f3 : Int) (a : Int) (M : MM) (hN : 210 ≤ N) (hI : Iv M) (hpa : I32 a) (hf2 : M.1 1 2 = f2) (hf3 : M.1 1 3 = f3) (hz5 : f2 = 0 ∧ f3 = -1) : CI l D cy B N 1 yX10_fault cX10_fault 2 (some .int) [rv B 0, iv a] M (fun z M' => M' = M ∧ ((a = 0 → z = 0) ∧ (¬ (a = 0) → z = -1))) := by
  refine mk_CI (by decide) (Nat.le_of_ble_eq_true rfl) ?_
  intro X exl exD excy hnL hX hret
  have hce : 0 + 0 ≤ (xR X).cells ∧ 0 + 0 ≤ (xR X).slots := ⟨Nat.zero_le _, Nat.zero_le _⟩
  show J X B N 0 0 0 [(0, rv B 0), (1, iv a)] [] M
  refine j_iload_n hX dX10_fault_0 rfl 1 rfl ?_
  refine j_lookup hX dX10_fault_1 (by omega) (by decide) ?_
  rcases (by omega : (a = 0) ∨ (a = 1) ∨ (¬ 0 = a ∧ ¬ 1 = a)) with hc1 | hc1 | hc1
  · refine ⟨27, 28, by rw [hc1]; rfl, by decide, ?_⟩
    refine j_aload_n hX dX10_fault_28 rfl 0 rfl ?_
    refine gf_X10_10 hX (by omega) (by omega) kc_0 (fc_0_0 hI) (by decide) dX10_fault_29 ?_
    refine gf_X10_114 hX (by omega) (by omega) kc_1 dX10_fault_32 ?_
    refine j_top hf2 ?_
    exact hret _ _ _ _ dX10_fault_35 rfl (by omega) ⟨rfl, by first | assumption | omega⟩
  · refine ⟨35, 36, by rw [hc1]; rfl, by decide, ?_⟩
    refine j_aload_n hX dX10_fault_36 rfl 0 rfl ?_
    refine gf_X10_10 hX (by omega) (by omega) kc_0 (fc_0_0 hI) (by decide) dX10_fault_37 ?_
    refine gf_X10_117 hX (by omega) (by omega) kc_1 dX10_fault_40 ?_
    refine j_top hf3 ?_
    exact hret _ _ _ _ dX10_fault_43 rfl (by omega) ⟨rfl, by first | assumption | omega⟩
  · refine ⟨43, 44, by simp [Op.lookupswitch.offset, hc1], by decide, ?_⟩
    refine j_iconst hX dX10_fault_44 ?_
    exact hret _ _ _ _ dX10_fault_45 rfl (by omega) ⟨rfl, by first | assumption | omega⟩
set_option maxHeartbeats 2000000 in
set_option maxRecDepth 20000 in
theorem cv_X6_isDark (l : Launch) (D : va_G) (cy : Nat → ClassId) (B N : Nat) (q : Int) (df : Int) (a : Int) (M : MM) (hN : 210 ≤ N) (hI : Iv M) (hpa : I32 a) (hq : q = 5 ∨ q = 180) (hdf : M.1 q 14 = df) (hz6 : df = -1) : CI l D cy B N 1 yX6_isDark cX6_isDark 2 (some .boolean) [rv B q, iv a] M (fun z M' => M' = M ∧ (0 ≤ z ∧ z ≤ 1) ∧ (z = 0)) := by
  refine mk_CI (by decide) (Nat.le_of_ble_eq_true rfl) ?_
  intro X exl exD excy hnL hX hret
  have hce : 0 + 0 ≤ (xR X).cells ∧ 0 + 0 ≤ (xR X).slots := ⟨Nat.zero_le _, Nat.zero_le _⟩
  have hdq : 5 ≤ q ∧ q ≤ 180 := by omega
  show J X B N 0 0 0 [(0, rv B q), (1, iv a)] [] M
  refine j_aload_n hX dX6_isDark_0 rfl 0 rfl ?_
  refine gf_X6_59 hX (by omega) (by omega) (kq hq) dX6_isDark_1 ?_
  refine j_top hdf ?_
  refine j_iconst hX dX6_isDark_4 ?_
  refine j_icmp_ne (tgt := 10) hX dX6_isDark_5 (by decide) (by omega) (by omega) (fun hc1 => ?_) (fun hc1 => ?_)
  · exfalso; omega
  · skip
    refine j_iconst hX dX6_isDark_8 ?_
    exact hret _ _ _ _ dX6_isDark_9 (nb (by omega)) (by omega) ⟨rfl, by omega, by first | assumption | omega⟩
set_option maxHeartbeats 2000000 in
set_option maxRecDepth 20000 in
theorem cv_X10_dark (l : Launch) (D : va_G) (cy : Nat → ClassId) (B N : Nat) (q : Int) (df : Int) (a : Int) (M : MM) (hN : 210 ≤ N) (hI : Iv M) (hpa : I32 a) (hq : q = 5 ∨ q = 180) (ht : M.1 0 8 = q) (hdf : M.1 q 14 = df) (hz6 : df = -1) : CI l D cy B N 2 yX10_dark cX10_dark 2 (some .int) [rv B 0, iv a] M (fun z M' => M' = M ∧ ((0 ≤ a ∧ a ≤ 23 → z = 0) ∧ (¬ (0 ≤ a ∧ a ≤ 23) → z = -1))) := by
  refine mk_CI (by decide) (Nat.le_of_ble_eq_true rfl) ?_
  intro X exl exD excy hnL hX hret
  have hce : 0 + 0 ≤ (xR X).cells ∧ 0 + 0 ≤ (xR X).slots := ⟨Nat.zero_le _, Nat.zero_le _⟩
  have hdq : 5 ≤ q ∧ q ≤ 180 := by omega
  show J X B N 0 0 0 [(0, rv B 0), (1, iv a)] [] M
  refine j_iload_n hX dX10_dark_0 rfl 1 rfl ?_
  refine j_if_lt (tgt := 10) hX dX10_dark_1 (by decide) (by omega) (fun hc1 => ?_) (fun hc1 => ?_)
  · skip
    refine j_iconst hX dX10_dark_10 ?_
    exact hret _ _ _ _ dX10_dark_11 rfl (by omega) ⟨rfl, by first | assumption | omega⟩
  · skip
    refine j_iload_n hX dX10_dark_4 rfl 1 rfl ?_
    refine j_bipush hX dX10_dark_5 rfl ?_
    refine j_icmp_lt (tgt := 12) hX dX10_dark_7 (by decide) (by omega) (by omega) (fun hc2 => ?_) (fun hc2 => ?_)
    · skip
      refine j_aload_n hX dX10_dark_12 rfl 0 rfl ?_
      refine gf_X10_62 hX (by omega) (by omega) kc_0 ht (by omega) dX10_dark_13 ?_
      refine j_iload_n hX dX10_dark_16 rfl 1 rfl ?_
      refine j_callVI hX lk_X10_172 (cv_X6_isDark _ _ _ _ _ q _ _ _ (by omega) hI (by omega) hq hdf (by first | assumption | omega)) (by omega) hce rfl rfl (by omega) (by omega) (kq hq) rfl rfl (Nat.le_of_ble_eq_true rfl) dX10_dark_17 (fun z3 M4 hz6 hp5 => ?_)
      obtain ⟨hE7, hb8, hq9⟩ := hp5
      replace hE7 := hE7.symm
      subst hE7
      refine j_if_eq (tgt := 27) hX dX10_dark_20 (by decide) (by omega) (fun hc10 => ?_) (fun hc10 => ?_)
      · skip
        refine j_iconst hX dX10_dark_27 ?_
        exact hret _ _ _ _ dX10_dark_28 rfl (by omega) ⟨rfl, by first | assumption | omega⟩
      · skip
        refine j_iconst hX dX10_dark_23 ?_
        refine j_goto (tgt := 28) hX dX10_dark_24 (by decide) ?_
        exact hret _ _ _ _ dX10_dark_28 rfl (by omega) ⟨rfl, by first | assumption | omega⟩
    · skip
      refine j_iconst hX dX10_dark_10 ?_
      exact hret _ _ _ _ dX10_dark_11 rfl (by omega) ⟨rfl, by first | assumption | omega⟩
set_option maxHeartbeats 2000000 in
set_option maxRecDepth 20000 in
theorem cv_X0_takeBack (l : Launch) (D : va_G) (cy : Nat → ClassId) (B N : Nat) (ct : Int) (M : MM) (hN : 210 ≤ N) (hI : Iv M) (hat : M.1 26 1 = ct) (h1 : M.1 26 1 ≤ M.1 26 2) (hz7 : ct = 0) : CI l D cy B N 1 yX0_takeBack cX0_takeBack 1 (some .boolean) [rv B 26] M (fun z M' => Iv M' ∧ Fr (fun a b => (a = 26 ∧ 1 ≤ b ∧ b ≤ 1)) M M' ∧ (0 ≤ z ∧ z ≤ 1) ∧ (M'.1 26 1 ≤ M'.1 26 2) ∧ (z = 0)) := by
  refine mk_CI (by decide) (Nat.le_of_ble_eq_true rfl) ?_
  intro X exl exD excy hnL hX hret
  have hce : 0 + 0 ≤ (xR X).cells ∧ 0 + 0 ≤ (xR X).slots := ⟨Nat.zero_le _, Nat.zero_le _⟩
  have hF : Fr (fun a b => (a = 26 ∧ 1 ≤ b ∧ b ≤ 1)) M M := Fr.rf
  have hk1 : M.1 26 2 = M.1 26 2 := rfl
  show J X B N 0 0 0 [(0, rv B 26)] [] M
  refine j_aload_n hX dX0_takeBack_0 rfl 0 rfl ?_
  refine gf_X0_17 hX (by omega) (by omega) kc_26 dX0_takeBack_1 ?_
  refine j_top hat ?_
  refine j_if_gt (tgt := 9) hX dX0_takeBack_4 (by decide) (by omega) (fun hc2 => ?_) (fun hc2 => ?_)
  · exfalso; omega
  · skip
    refine j_iconst hX dX0_takeBack_7 ?_
    exact hret _ _ _ _ dX0_takeBack_8 (nb (by omega)) (by omega) ⟨hI, hF, by omega, by first | assumption | omega, by first | assumption | omega⟩
set_option maxHeartbeats 2000000 in
set_option maxRecDepth 20000 in
theorem cv_X0_doAgain (l : Launch) (D : va_G) (cy : Nat → ClassId) (B N : Nat) (ct : Int) (tp : Int) (M : MM) (hN : 210 ≤ N) (hI : Iv M) (hat : M.1 26 1 = ct) (htp : M.1 26 2 = tp) (h1 : M.1 26 1 ≤ M.1 26 2) (hz7 : ct = 0 ∧ tp = 0) : CI l D cy B N 1 yX0_doAgain cX0_doAgain 1 (some .boolean) [rv B 26] M (fun z M' => Iv M' ∧ Fr (fun a b => (a = 26 ∧ 1 ≤ b ∧ b ≤ 1)) M M' ∧ (0 ≤ z ∧ z ≤ 1) ∧ (M'.1 26 1 ≤ M'.1 26 2) ∧ (z = 0)) := by
  refine mk_CI (by decide) (Nat.le_of_ble_eq_true rfl) ?_
  intro X exl exD excy hnL hX hret
  have hce : 0 + 0 ≤ (xR X).cells ∧ 0 + 0 ≤ (xR X).slots := ⟨Nat.zero_le _, Nat.zero_le _⟩
  have hF : Fr (fun a b => (a = 26 ∧ 1 ≤ b ∧ b ≤ 1)) M M := Fr.rf
  show J X B N 0 0 0 [(0, rv B 26)] [] M
  refine j_aload_n hX dX0_doAgain_0 rfl 0 rfl ?_
  refine gf_X0_17 hX (by omega) (by omega) kc_26 dX0_doAgain_1 ?_
  refine j_top hat ?_
  refine j_aload_n hX dX0_doAgain_4 rfl 0 rfl ?_
  refine gf_X0_21 hX (by omega) (by omega) kc_26 dX0_doAgain_5 ?_
  refine j_top htp ?_
  refine j_icmp_lt (tgt := 13) hX dX0_doAgain_8 (by decide) (by omega) (by omega) (fun hc1 => ?_) (fun hc1 => ?_)
  · exfalso; omega
  · skip
    refine j_iconst hX dX0_doAgain_11 ?_
    exact hret _ _ _ _ dX0_doAgain_12 (nb (by omega)) (by omega) ⟨hI, hF, by omega, by first | assumption | omega, by first | assumption | omega⟩
set_option maxHeartbeats 2000000 in
set_option maxRecDepth 20000 in
theorem cv_X10_undo (l : Launch) (D : va_G) (cy : Nat → ClassId) (B N : Nat) (ct : Int) (M : MM) (hN : 210 ≤ N) (hI : Iv M) (hat : M.1 26 1 = ct) (h1 : M.1 26 1 ≤ M.1 26 2) (hz7 : ct = 0) : CI l D cy B N 2 yX10_undo cX10_undo 1 (some .boolean) [rv B 0] M (fun z M' => Iv M' ∧ Fr (fun a b => (a = 26 ∧ 1 ≤ b ∧ b ≤ 1)) M M' ∧ (0 ≤ z ∧ z ≤ 1) ∧ (M'.1 26 1 ≤ M'.1 26 2) ∧ (z = 0)) := by
  refine mk_CI (by decide) (Nat.le_of_ble_eq_true rfl) ?_
  intro X exl exD excy hnL hX hret
  have hce : 0 + 0 ≤ (xR X).cells ∧ 0 + 0 ≤ (xR X).slots := ⟨Nat.zero_le _, Nat.zero_le _⟩
  have hF : Fr (fun a b => (a = 26 ∧ 1 ≤ b ∧ b ≤ 1)) M M := Fr.rf
  show J X B N 0 0 0 [(0, rv B 0)] [] M
  refine j_aload_n hX dX10_undo_0 rfl 0 rfl ?_
  refine gf_X10_19 hX (by omega) (by omega) kc_0 (fc_0_1 hI) (by decide) dX10_undo_1 ?_
  refine j_callVI hX lk_X10_198 (cv_X0_takeBack _ _ _ _ _ _ _ (by omega) hI hat (by first | assumption | omega) (by first | assumption | omega)) (by omega) hce rfl rfl (by omega) (by omega) kc_26 rfl rfl (Nat.le_of_ble_eq_true rfl) dX10_undo_4 (fun z1 M2 hz4 hp3 => ?_)
  obtain ⟨hI6, hG7, hb8, hq9, hq10⟩ := hp3
  have hF11 := Fr.trans hF hG7 (fun a b h => h)
  exact hret _ _ _ _ dX10_undo_7 (nb (by omega)) (by omega) ⟨hI6, hF11, by omega, by first | assumption | omega, by first | assumption | omega⟩
set_option maxHeartbeats 2000000 in
set_option maxRecDepth 20000 in
theorem cv_X10_redo (l : Launch) (D : va_G) (cy : Nat → ClassId) (B N : Nat) (ct : Int) (tp : Int) (M : MM) (hN : 210 ≤ N) (hI : Iv M) (hat : M.1 26 1 = ct) (htp : M.1 26 2 = tp) (h1 : M.1 26 1 ≤ M.1 26 2) (hz7 : ct = 0 ∧ tp = 0) : CI l D cy B N 2 yX10_redo cX10_redo 1 (some .boolean) [rv B 0] M (fun z M' => Iv M' ∧ Fr (fun a b => (a = 26 ∧ 1 ≤ b ∧ b ≤ 1)) M M' ∧ (0 ≤ z ∧ z ≤ 1) ∧ (M'.1 26 1 ≤ M'.1 26 2) ∧ (z = 0)) := by
  refine mk_CI (by decide) (Nat.le_of_ble_eq_true rfl) ?_
  intro X exl exD excy hnL hX hret
  have hce : 0 + 0 ≤ (xR X).cells ∧ 0 + 0 ≤ (xR X).slots := ⟨Nat.zero_le _, Nat.zero_le _⟩
  have hF : Fr (fun a b => (a = 26 ∧ 1 ≤ b ∧ b ≤ 1)) M M := Fr.rf
  show J X B N 0 0 0 [(0, rv B 0)] [] M
  refine j_aload_n hX dX10_redo_0 rfl 0 rfl ?_
  refine gf_X10_19 hX (by omega) (by omega) kc_0 (fc_0_1 hI) (by decide) dX10_redo_1 ?_
  refine j_callVI hX lk_X10_201 (cv_X0_doAgain _ _ _ _ _ _ _ _ (by omega) hI hat htp (by first | assumption | omega) (by first | assumption | omega)) (by omega) hce rfl rfl (by omega) (by omega) kc_26 rfl rfl (Nat.le_of_ble_eq_true rfl) dX10_redo_4 (fun z1 M2 hz4 hp3 => ?_)
  obtain ⟨hI6, hG7, hb8, hq9, hq10⟩ := hp3
  have hk11 := kp_fr hG7 (fun h => absurd h.2.2 (by decide)) htp
  have hF12 := Fr.trans hF hG7 (fun a b h => h)
  exact hret _ _ _ _ dX10_redo_7 (nb (by omega)) (by omega) ⟨hI6, hF12, by omega, by first | assumption | omega, by first | assumption | omega⟩
set_option maxHeartbeats 2000000 in
set_option maxRecDepth 20000 in
theorem cv_X10_lies (l : Launch) (D : va_G) (cy : Nat → ClassId) (B N : Nat) (lc : Int) (a : Int) (M : MM) (hN : 210 ≤ N) (hI : Iv M) (hpa : I32 a) (hlc : M.1 0 10 = lc) (hz8 : lc = 0) : CI l D cy B N 1 yX10_lies cX10_lies 2 (some .int) [rv B 0, iv a] M (fun z M' => M' = M ∧ (z = -1)) := by
  refine mk_CI (by decide) (Nat.le_of_ble_eq_true rfl) ?_
  intro X exl exD excy hnL hX hret
  have hce : 0 + 0 ≤ (xR X).cells ∧ 0 + 0 ≤ (xR X).slots := ⟨Nat.zero_le _, Nat.zero_le _⟩
  show J X B N 0 0 0 [(0, rv B 0), (1, iv a)] [] M
  refine j_iload_n hX dX10_lies_0 rfl 1 rfl ?_
  refine j_if_lt (tgt := 21) hX dX10_lies_1 (by decide) (by omega) (fun hc1 => ?_) (fun hc1 => ?_)
  · skip
    refine j_iconst hX dX10_lies_21 ?_
    exact hret _ _ _ _ dX10_lies_22 rfl (by omega) ⟨rfl, by first | assumption | omega⟩
  · skip
    refine j_iload_n hX dX10_lies_4 rfl 1 rfl ?_
    refine j_aload_n hX dX10_lies_5 rfl 0 rfl ?_
    refine gf_X10_70 hX (by omega) (by omega) kc_0 dX10_lies_6 ?_
    refine j_top hlc ?_
    refine j_icmp_ge (tgt := 21) hX dX10_lies_9 (by decide) (by omega) (by omega) (fun hc2 => ?_) (fun hc2 => ?_)
    · skip
      refine j_iconst hX dX10_lies_21 ?_
      exact hret _ _ _ _ dX10_lies_22 rfl (by omega) ⟨rfl, by first | assumption | omega⟩
    · exfalso; omega
set_option maxHeartbeats 2000000 in
set_option maxRecDepth 20000 in
theorem cv_X3_takeFrom (l : Launch) (D : va_G) (cy : Nat → ClassId) (B N : Nat) (gc : Int) (a : Int) (b : Int) (M : MM) (hN : 210 ≤ N) (hI : Iv M) (hpa : I32 a) (hpb : I32 b) (hgc : M.1 164 8 = gc) (hz9 : gc = 0) : CI l D cy B N 1 yX3_takeFrom cX3_takeFrom 3 (some .boolean) [rv B 164, iv a, iv b] M (fun z M' => Iv M' ∧ Fr (fun a (_ : Int) => (a = 170)) M M' ∧ (0 ≤ z ∧ z ≤ 1) ∧ (z = 0)) := by
  refine mk_CI (by decide) (Nat.le_of_ble_eq_true rfl) ?_
  intro X exl exD excy hnL hX hret
  have hce : 0 + 0 ≤ (xR X).cells ∧ 0 + 0 ≤ (xR X).slots := ⟨Nat.zero_le _, Nat.zero_le _⟩
  have hF : Fr (fun a (_ : Int) => (a = 170)) M M := Fr.rf
  show J X B N 0 0 0 [(0, rv B 164), (1, iv a), (2, iv b)] [] M
  refine j_iload_n hX dX3_takeFrom_0 rfl 1 rfl ?_
  refine j_if_lt (tgt := 22) hX dX3_takeFrom_1 (by decide) (by omega) (fun hc1 => ?_) (fun hc1 => ?_)
  · skip
    refine j_iconst hX dX3_takeFrom_22 ?_
    exact hret _ _ _ _ dX3_takeFrom_23 (nb (by omega)) (by omega) ⟨hI, hF, by omega, by first | assumption | omega⟩
  · skip
    refine j_iload_n hX dX3_takeFrom_4 rfl 1 rfl ?_
    refine j_aload_n hX dX3_takeFrom_5 rfl 0 rfl ?_
    refine gf_X3_43 hX (by omega) (by omega) kc_164 dX3_takeFrom_6 ?_
    refine j_top hgc ?_
    refine j_icmp_ge (tgt := 22) hX dX3_takeFrom_9 (by decide) (by omega) (by omega) (fun hc2 => ?_) (fun hc2 => ?_)
    · skip
      refine j_iconst hX dX3_takeFrom_22 ?_
      exact hret _ _ _ _ dX3_takeFrom_23 (nb (by omega)) (by omega) ⟨hI, hF, by omega, by first | assumption | omega⟩
    · exfalso; omega
set_option maxHeartbeats 2000000 in
set_option maxRecDepth 20000 in
theorem cv_X10_untell (l : Launch) (D : va_G) (cy : Nat → ClassId) (B N : Nat) (gc : Int) (a : Int) (M : MM) (hN : 210 ≤ N) (hI : Iv M) (hpa : I32 a) (hgc : M.1 164 8 = gc) (hz9 : gc = 0) : CI l D cy B N 2 yX10_untell cX10_untell 2 (some .boolean) [rv B 0, iv a] M (fun z M' => Iv M' ∧ Fr (fun a (_ : Int) => (a = 170)) M M' ∧ (0 ≤ z ∧ z ≤ 1) ∧ (z = 0)) := by
  refine mk_CI (by decide) (Nat.le_of_ble_eq_true rfl) ?_
  intro X exl exD excy hnL hX hret
  have hce : 0 + 0 ≤ (xR X).cells ∧ 0 + 0 ≤ (xR X).slots := ⟨Nat.zero_le _, Nat.zero_le _⟩
  have hF : Fr (fun a (_ : Int) => (a = 170)) M M := Fr.rf
  show J X B N 0 0 0 [(0, rv B 0), (1, iv a)] [] M
  refine j_aload_n hX dX10_untell_0 rfl 0 rfl ?_
  refine gf_X10_51 hX (by omega) (by omega) kc_0 (fc_0_6 hI) (by decide) dX10_untell_1 ?_
  refine j_iload_n hX dX10_untell_4 rfl 1 rfl ?_
  refine j_aload_n hX dX10_untell_5 rfl 0 rfl ?_
  refine gf_X10_73 hX (by omega) (by omega) kc_0 dX10_untell_6 ?_
  refine j_name hI ro_0_11 (fun v1 hv2 hl3 hh4 => ?_)
  have hk5 := hv2.symm
  refine j_callVI hX lk_X10_277 (cv_X3_takeFrom _ _ _ _ _ _ _ _ _ (by omega) hI (by omega) (by omega) hgc (by first | assumption | omega)) (by omega) hce rfl rfl (by omega) (by omega) kc_164 rfl rfl (Nat.le_of_ble_eq_true rfl) dX10_untell_9 (fun z6 M7 hz9 hp8 => ?_)
  obtain ⟨hI11, hG12, hb13, hq14⟩ := hp8
  have hk15 := kp_fr hG12 (fun h => absurd h (by decide)) hgc
  have hk16 := kp_fr hG12 (fun h => absurd h (by decide)) hk5
  clear hk5
  have hF17 := Fr.trans hF hG12 (fun a b h => h)
  exact hret _ _ _ _ dX10_untell_12 (nb (by omega)) (by omega) ⟨hI11, hF17, by omega, by first | assumption | omega⟩
set_option maxHeartbeats 2000000 in
set_option maxRecDepth 20000 in
theorem cv_X10_back (l : Launch) (D : va_G) (cy : Nat → ClassId) (B N : Nat) (q : Int) (nr : Int) (fb : Int) (a : Int) (M : MM) (hN : 210 ≤ N) (hI : Iv M) (hpa : I32 a) (hq : q = 5 ∨ q = 180) (ht : M.1 0 8 = q) (hnr : M.1 q 0 = nr) (hfb : M.1 0 9 = fb) (hnb : 0 ≤ nr ∧ nr ≤ 6) (hRV : RV (M.1 26 2) nr M) (h1 : M.1 26 1 ≤ M.1 26 2) (hBF : BF nr M) (hz10 : fb = 0) : CI l D cy B N 3 yX10_back cX10_back 2 (some .int) [rv B 0, iv a] M (fun z M' => Iv M' ∧ Fr (fun a b => (a = 26 ∧ 1 ≤ b ∧ b ≤ 2) ∨ (28 ≤ a ∧ a ≤ 150)) M M' ∧ (RV (M'.1 26 2) nr M') ∧ (M'.1 26 1 ≤ M'.1 26 2) ∧ (z = -1)) := by
  refine mk_CI (by decide) (Nat.le_of_ble_eq_true rfl) ?_
  intro X exl exD excy hnL hX hret
  have hce : 0 + 0 ≤ (xR X).cells ∧ 0 + 0 ≤ (xR X).slots := ⟨Nat.zero_le _, Nat.zero_le _⟩
  have hdq : 5 ≤ q ∧ q ≤ 180 := by omega
  have hF : Fr (fun a b => (a = 26 ∧ 1 ≤ b ∧ b ≤ 2) ∨ (28 ≤ a ∧ a ≤ 150)) M M := Fr.rf
  have hk1 : M.1 26 2 = M.1 26 2 := rfl
  have hk2 : M.1 26 1 = M.1 26 1 := rfl
  show J X B N 0 0 0 [(0, rv B 0), (1, iv a)] [] M
  refine j_iload_n hX dX10_back_0 rfl 1 rfl ?_
  refine j_if_lt (tgt := 20) hX dX10_back_1 (by decide) (by omega) (fun hc3 => ?_) (fun hc3 => ?_)
  · skip
    refine j_iconst hX dX10_back_20 ?_
    exact hret _ _ _ _ dX10_back_21 rfl (by omega) ⟨hI, hF, by first | exact hrv | exact hRV, by omega, by first | assumption | omega⟩
  · skip
    refine j_iload_n hX dX10_back_4 rfl 1 rfl ?_
    refine j_iconst hX dX10_back_5 ?_
    refine j_icmp_ge (tgt := 20) hX dX10_back_6 (by decide) (by omega) (by omega) (fun hc4 => ?_) (fun hc4 => ?_)
    · skip
      refine j_iconst hX dX10_back_20 ?_
      exact hret _ _ _ _ dX10_back_21 rfl (by omega) ⟨hI, hF, by first | exact hrv | exact hRV, by omega, by first | assumption | omega⟩
    · skip
      refine j_aload_n hX dX10_back_9 rfl 0 rfl ?_
      refine gf_X10_66 hX (by omega) (by omega) kc_0 dX10_back_10 ?_
      refine j_top hfb ?_
      refine j_iload_n hX dX10_back_13 rfl 1 rfl ?_
      refine j_ishr hX dX10_back_14 (fun z5 hz6 hy7 => ?_)
      have hs0 := shr0 hz6 (by omega)
      refine j_iconst hX dX10_back_15 ?_
      refine j_iand hX dX10_back_16 (fun z8 hz9 hy10 => ?_)
      have ha11 := (and_f hz9 (by omega) (by omega)).2 (by omega)
      have hs1 := and0 hz9 (by omega)
      refine j_if_ne (tgt := 22) hX dX10_back_17 (by decide) (by omega) (fun hc12 => ?_) (fun hc12 => ?_)
      · exfalso; omega
      · skip
        refine j_iconst hX dX10_back_20 ?_
        exact hret _ _ _ _ dX10_back_21 rfl (by omega) ⟨hI, hF, by first | exact hrv | exact hRV, by omega, by first | assumption | omega⟩
set_option maxHeartbeats 2000000 in
set_option maxRecDepth 20000 in
theorem cv_X10_rents (l : Launch) (D : va_G) (cy : Nat → ClassId) (B N : Nat) (q : Int) (nr : Int) (M : MM) (hN : 210 ≤ N) (hI : Iv M) (hq : q = 5 ∨ q = 180) (ht : M.1 0 8 = q) (hnr : M.1 q 0 = nr) (hVn : Vn nr M) (hnb : 0 ≤ nr ∧ nr ≤ 6) (hz0 : nr = 0) : CI l D cy B N 4 yX10_rents cX10_rents 3 (some .int) [rv B 0] M (fun z M' => Iv M' ∧ Fr (fun a b => (a = q + 15 ∧ 5 ≤ b ∧ b ≤ 5) ∨ (q + 17 ≤ a ∧ a ≤ q + 18)) M M' ∧ (z = 0)) := by
  refine mk_CI (by decide) (Nat.le_of_ble_eq_true rfl) ?_
  intro X exl exD excy hnL hX hret
  have hce : 0 + 0 ≤ (xR X).cells ∧ 0 + 0 ≤ (xR X).slots := ⟨Nat.zero_le _, Nat.zero_le _⟩
  have hdq : 5 ≤ q ∧ q ≤ 180 := by omega
  have hF : Fr (fun a b => (a = q + 15 ∧ 5 ≤ b ∧ b ≤ 5) ∨ (q + 17 ≤ a ∧ a ≤ q + 18)) M M := Fr.rf
  show J X B N 0 0 0 [(0, rv B 0)] [] M
  refine j_iconst hX dX10_rents_0 ?_
  refine j_istore_n (lv' := [(1, _), (0, _)]) hX dX10_rents_1 rfl (by rw [hnL]; decide) rfl ?_
  refine j_iconst hX dX10_rents_2 ?_
  refine j_istore_n (lv' := [(2, _), (1, _), (0, _)]) hX dX10_rents_3 rfl (by rw [hnL]; decide) rfl ?_
  refine j_iload_n hX dX10_rents_4 rfl 0 rfl ?_
  refine j_aload_n hX dX10_rents_5 rfl 2 rfl ?_
  refine gf_X10_62 hX (by omega) (by omega) kc_0 ht (by omega) dX10_rents_6 ?_
  refine gf_X10_111 hX (by omega) (by omega) (kq hq) dX10_rents_9 ?_
  refine j_top hnr ?_
  refine j_icmp_ge (tgt := 29) hX dX10_rents_12 (by decide) (by omega) (by omega) (fun hc1 => ?_) (fun hc1 => ?_)
  · skip
    refine j_iload_n hX dX10_rents_29 rfl 1 rfl ?_
    exact hret _ _ _ _ dX10_rents_30 rfl (by omega) ⟨hI, hF, by first | assumption | omega⟩
  · exfalso; omega
set_option maxHeartbeats 2000000 in
set_option maxRecDepth 20000 in
theorem cv_X10_mutual (l : Launch) (D : va_G) (cy : Nat → ClassId) (B N : Nat) (q : Int) (nr : Int) (M : MM) (hN : 210 ≤ N) (hI : Iv M) (hq : q = 5 ∨ q = 180) (ht : M.1 0 8 = q) (hnr : M.1 q 0 = nr) (hnb : 0 ≤ nr ∧ nr ≤ 6) (hz0 : nr = 0) : CI l D cy B N 3 yX10_mutual cX10_mutual 6 (some .int) [rv B 0] M (fun z M' => M' = M ∧ (z = 0)) := by
  refine mk_CI (by decide) (Nat.le_of_ble_eq_true rfl) ?_
  intro X exl exD excy hnL hX hret
  have hce : 0 + 0 ≤ (xR X).cells ∧ 0 + 0 ≤ (xR X).slots := ⟨Nat.zero_le _, Nat.zero_le _⟩
  have hdq : 5 ≤ q ∧ q ≤ 180 := by omega
  show J X B N 0 0 0 [(0, rv B 0)] [] M
  refine j_aload_n hX dX10_mutual_0 rfl 0 rfl ?_
  refine gf_X10_19 hX (by omega) (by omega) kc_0 (fc_0_1 hI) (by decide) dX10_mutual_1 ?_
  refine j_callVR hX lk_X10_124 (c_X0_now _ _ _ _ _ _ (by omega) hI) (by omega) hce rfl rfl (by omega) (by omega) kc_26 rfl rfl (Nat.le_of_ble_eq_true rfl) dX10_mutual_4 (fun sw M1 hz3 hp2 => ?_)
  obtain ⟨hE4, hq5, hq6⟩ := hp2
  replace hE4 := hE4.symm
  subst hE4
  have hsw : Sc sw := hq5
  have hbsw := sc_b hsw
  have hdsw : 28 ≤ sw ∧ sw ≤ 207 := by omega
  refine j_astore_n (lv' := [(1, _), (0, _)]) hX dX10_mutual_7 rfl (by rw [hnL]; decide) rfl ?_
  refine j_iconst hX dX10_mutual_8 ?_
  refine j_istore_n (lv' := [(2, _), (1, _), (0, _)]) hX dX10_mutual_9 rfl (by rw [hnL]; decide) rfl ?_
  refine j_iconst hX dX10_mutual_10 ?_
  refine j_istore_n (lv' := [(3, _), (2, _), (1, _), (0, _)]) hX dX10_mutual_11 rfl (by rw [hnL]; decide) rfl ?_
  refine j_iload_n hX dX10_mutual_12 rfl 0 rfl ?_
  refine j_aload_n hX dX10_mutual_13 rfl 3 rfl ?_
  refine gf_X10_62 hX (by omega) (by omega) kc_0 ht (by omega) dX10_mutual_14 ?_
  refine gf_X10_111 hX (by omega) (by omega) (kq hq) dX10_mutual_17 ?_
  refine j_top hnr ?_
  refine j_icmp_ge (tgt := 86) hX dX10_mutual_20 (by decide) (by omega) (by omega) (fun hc7 => ?_) (fun hc7 => ?_)
  · skip
    refine j_iload_n hX dX10_mutual_86 rfl 1 rfl ?_
    exact hret _ _ _ _ dX10_mutual_87 rfl (by omega) ⟨rfl, by first | assumption | omega⟩
  · exfalso; omega
set_option maxHeartbeats 2000000 in
set_option maxRecDepth 20000 in
theorem cv_X10_hide (l : Launch) (D : va_G) (cy : Nat → ClassId) (B N : Nat) (q : Int) (nr : Int) (a : Int) (b : Int) (c : Int) (M : MM) (hN : 210 ≤ N) (hI : Iv M) (hpa : I32 a) (hpb : I32 b) (hpc : I32 c) (hq : q = 5 ∨ q = 180) (ht : M.1 0 8 = q) (hnr : M.1 q 0 = nr) (hVn : Vn nr M) (hnb : 0 ≤ nr ∧ nr ≤ 6) (hz0 : nr = 0) : CI l D cy B N 6 yX10_hide cX10_hide 6 (some .int) [rv B 0, iv a, iv b, iv c] M (fun z M' => Iv M' ∧ Fr (fun a (_ : Int) => (152 ≤ a ∧ a ≤ 155)) M M' ∧ (z = -1)) := by
  refine mk_CI (by decide) (Nat.le_of_ble_eq_true rfl) ?_
  intro X exl exD excy hnL hX hret
  have hce : 0 + 0 ≤ (xR X).cells ∧ 0 + 0 ≤ (xR X).slots := ⟨Nat.zero_le _, Nat.zero_le _⟩
  have hdq : 5 ≤ q ∧ q ≤ 180 := by omega
  have hF : Fr (fun a (_ : Int) => (152 ≤ a ∧ a ≤ 155)) M M := Fr.rf
  have hf4 := hI.at q 4 (rq_4 hq)
  show J X B N 0 0 0 [(0, rv B 0), (1, iv a), (2, iv b), (3, iv c)] [] M
  refine j_aload_n hX dX10_hide_0 rfl 0 rfl ?_
  refine gf_X10_62 hX (by omega) (by omega) kc_0 ht (by omega) dX10_hide_1 ?_
  refine j_iload_n hX dX10_hide_4 rfl 1 rfl ?_
  refine j_callVI hX lk_X10_120 (c_X6_hasRoom _ _ _ _ _ q _ _ (by omega) hI (by omega) hq) (by omega) hce rfl rfl (by omega) (by omega) (kq hq) rfl rfl (Nat.le_of_ble_eq_true rfl) dX10_hide_5 (fun z1 M2 hz4 hp3 => ?_)
  obtain ⟨hE5, hb6, hq7⟩ := hp3
  replace hE5 := hE5.symm
  subst hE5
  refine j_if_eq (tgt := 35) hX dX10_hide_8 (by decide) (by omega) (fun hc8 => ?_) (fun hc8 => ?_)
  · skip
    clear hq7
    refine j_iconst hX dX10_hide_35 ?_
    refine j_istore (lv' := [(4, _), (0, _), (1, _), (2, _), (3, _)]) hX dX10_hide_36 (by rw [hnL]; decide) rfl ?_
    refine j_iload hX dX10_hide_38 0 rfl ?_
    refine j_if_eq (tgt := 58) hX dX10_hide_40 (by decide) (by omega) (fun hc9 => ?_) (fun hc9 => ?_)
    · skip
      refine j_iconst hX dX10_hide_58 ?_
      exact hret _ _ _ _ dX10_hide_59 rfl (by omega) ⟨hI, hF, by first | assumption | omega⟩
    · exfalso; omega
  · exfalso; omega
set_option maxHeartbeats 2000000 in
set_option maxRecDepth 20000 in
theorem cv_X6_allFacts (l : Launch) (D : va_G) (cy : Nat → ClassId) (B N : Nat) (q : Int) (nf : Int) (M : MM) (hN : 210 ≤ N) (hI : Iv M) (hq : q = 5 ∨ q = 180) (hnf : M.1 q 4 = nf) (hz4 : nf = 0) : CI l D cy B N 1 yX6_allFacts cX6_allFacts 1 (some .int) [rv B q] M (fun z M' => M' = M ∧ (0 ≤ z ∧ z ≤ 1023) ∧ (z = 0)) := by
  refine mk_CI (by decide) (Nat.le_of_ble_eq_true rfl) ?_
  intro X exl exD excy hnL hX hret
  have hce : 0 + 0 ≤ (xR X).cells ∧ 0 + 0 ≤ (xR X).slots := ⟨Nat.zero_le _, Nat.zero_le _⟩
  have hdq : 5 ≤ q ∧ q ≤ 180 := by omega
  show J X B N 0 0 0 [(0, rv B q)] [] M
  refine j_iconst hX dX6_allFacts_0 ?_
  refine j_aload_n hX dX6_allFacts_1 rfl 0 rfl ?_
  refine gf_X6_26 hX (by omega) (by omega) (kq hq) dX6_allFacts_2 ?_
  refine j_top hnf ?_
  refine j_ishl hX dX6_allFacts_5 (fun z1 hz2 hy3 => ?_)
  have hs := (shl_b hz2).2.1 (by omega) (by omega)
  have hv := shl1 hz2 (by omega)
  refine j_iconst hX dX6_allFacts_6 ?_
  refine j_isub hX dX6_allFacts_7 ?_
  exact hret _ _ _ _ dX6_allFacts_8 rfl (by omega) ⟨rfl, by first | assumption | omega, by first | assumption | omega⟩
set_option maxHeartbeats 2000000 in
set_option maxRecDepth 20000 in
theorem cv_X6_allRooms (l : Launch) (D : va_G) (cy : Nat → ClassId) (B N : Nat) (q : Int) (nr : Int) (M : MM) (hN : 210 ≤ N) (hI : Iv M) (hq : q = 5 ∨ q = 180) (hnr : M.1 q 0 = nr) (hnb : 0 ≤ nr ∧ nr ≤ 6) (hz0 : nr = 0) : CI l D cy B N 1 yX6_allRooms cX6_allRooms 1 (some .int) [rv B q] M (fun z M' => M' = M ∧ (0 ≤ z ∧ z ≤ 63) ∧ (FB z nr) ∧ (z = 0)) := by
  refine mk_CI (by decide) (Nat.le_of_ble_eq_true rfl) ?_
  intro X exl exD excy hnL hX hret
  have hce : 0 + 0 ≤ (xR X).cells ∧ 0 + 0 ≤ (xR X).slots := ⟨Nat.zero_le _, Nat.zero_le _⟩
  have hdq : 5 ≤ q ∧ q ≤ 180 := by omega
  show J X B N 0 0 0 [(0, rv B q)] [] M
  refine j_iconst hX dX6_allRooms_0 ?_
  refine j_aload_n hX dX6_allRooms_1 rfl 0 rfl ?_
  refine gf_X6_9 hX (by omega) (by omega) (kq hq) dX6_allRooms_2 ?_
  refine j_top hnr ?_
  refine j_ishl hX dX6_allRooms_5 (fun z1 hz2 hy3 => ?_)
  have hsh := shl_b hz2
  have hfb := FB_full hz2 rfl hnb
  have hfr := full_r hz2 rfl hnb
  have hv := shl1 hz2 (by omega)
  refine j_iconst hX dX6_allRooms_6 ?_
  refine j_isub hX dX6_allRooms_7 ?_
  exact hret _ _ _ _ dX6_allRooms_8 rfl (by omega) ⟨rfl, by first | assumption | omega, hfb, by first | assumption | omega⟩
