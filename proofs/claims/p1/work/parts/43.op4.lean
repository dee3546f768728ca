theorem dX10_curtain_0 : decode cX10_curtain 0 = .ok (.aload_n 0, 1) := by decide +kernel
theorem dX10_curtain_1 : decode cX10_curtain 1 = .ok (.getfield 62, 3) := by decide +kernel
theorem dX10_curtain_4 : decode cX10_curtain 4 = .ok (.iload_n 1, 1) := by decide +kernel
theorem dX10_curtain_5 : decode cX10_curtain 5 = .ok (.invokevirtual 120, 3) := by decide +kernel
theorem dX10_curtain_8 : decode cX10_curtain 8 = .ok (.ifCond .ne 5, 3) := by decide +kernel
theorem dX10_curtain_11 : decode cX10_curtain 11 = .ok (.iconst (-1), 1) := by decide +kernel
theorem dX10_curtain_12 : decode cX10_curtain 12 = .ok (.ireturn, 1) := by decide +kernel
theorem dX10_curtain_13 : decode cX10_curtain 13 = .ok (.aload_n 0, 1) := by decide +kernel
theorem dX10_curtain_14 : decode cX10_curtain 14 = .ok (.getfield 19, 3) := by decide +kernel
theorem dX10_curtain_17 : decode cX10_curtain 17 = .ok (.invokevirtual 175, 3) := by decide +kernel
theorem dX10_curtain_20 : decode cX10_curtain 20 = .ok (.astore_n 2, 1) := by decide +kernel
theorem dX10_curtain_21 : decode cX10_curtain 21 = .ok (.aload_n 2, 1) := by decide +kernel
theorem dX10_curtain_22 : decode cX10_curtain 22 = .ok (.dup, 1) := by decide +kernel
theorem dX10_curtain_23 : decode cX10_curtain 23 = .ok (.getfield 178, 3) := by decide +kernel
theorem dX10_curtain_26 : decode cX10_curtain 26 = .ok (.iconst 1, 1) := by decide +kernel
theorem dX10_curtain_27 : decode cX10_curtain 27 = .ok (.iload_n 1, 1) := by decide +kernel
theorem dX10_curtain_28 : decode cX10_curtain 28 = .ok (.ishl, 1) := by decide +kernel
theorem dX10_curtain_29 : decode cX10_curtain 29 = .ok (.ixor, 1) := by decide +kernel
theorem dX10_curtain_30 : decode cX10_curtain 30 = .ok (.putfield 178, 3) := by decide +kernel
theorem dX10_curtain_33 : decode cX10_curtain 33 = .ok (.aload_n 2, 1) := by decide +kernel
theorem dX10_curtain_34 : decode cX10_curtain 34 = .ok (.iload_n 1, 1) := by decide +kernel
theorem dX10_curtain_35 : decode cX10_curtain 35 = .ok (.invokevirtual 135, 3) := by decide +kernel
theorem dX10_curtain_38 : decode cX10_curtain 38 = .ok (.ifCond .eq 7, 3) := by decide +kernel
theorem dX10_curtain_41 : decode cX10_curtain 41 = .ok (.iconst 1, 1) := by decide +kernel
theorem dX10_curtain_42 : decode cX10_curtain 42 = .ok (.goto 4, 3) := by decide +kernel
theorem dX10_curtain_45 : decode cX10_curtain 45 = .ok (.iconst 0, 1) := by decide +kernel
theorem dX10_curtain_46 : decode cX10_curtain 46 = .ok (.ireturn, 1) := by decide +kernel
theorem dX10_swap_0 : decode cX10_swap 0 = .ok (.aload_n 0, 1) := by decide +kernel
theorem dX10_swap_1 : decode cX10_swap 1 = .ok (.getfield 62, 3) := by decide +kernel
theorem dX10_swap_4 : decode cX10_swap 4 = .ok (.iload_n 1, 1) := by decide +kernel
theorem dX10_swap_5 : decode cX10_swap 5 = .ok (.invokevirtual 120, 3) := by decide +kernel
theorem dX10_swap_8 : decode cX10_swap 8 = .ok (.ifCond .eq 19, 3) := by decide +kernel
theorem dX10_swap_11 : decode cX10_swap 11 = .ok (.aload_n 0, 1) := by decide +kernel
theorem dX10_swap_12 : decode cX10_swap 12 = .ok (.getfield 62, 3) := by decide +kernel
theorem dX10_swap_15 : decode cX10_swap 15 = .ok (.iload_n 2, 1) := by decide +kernel
theorem dX10_swap_16 : decode cX10_swap 16 = .ok (.invokevirtual 120, 3) := by decide +kernel
theorem dX10_swap_19 : decode cX10_swap 19 = .ok (.ifCond .eq 8, 3) := by decide +kernel
theorem dX10_swap_22 : decode cX10_swap 22 = .ok (.iload_n 1, 1) := by decide +kernel
theorem dX10_swap_23 : decode cX10_swap 23 = .ok (.iload_n 2, 1) := by decide +kernel
theorem dX10_swap_24 : decode cX10_swap 24 = .ok (.if_icmp .ne 5, 3) := by decide +kernel
theorem dX10_swap_27 : decode cX10_swap 27 = .ok (.iconst (-1), 1) := by decide +kernel
theorem dX10_swap_28 : decode cX10_swap 28 = .ok (.ireturn, 1) := by decide +kernel
theorem dX10_swap_29 : decode cX10_swap 29 = .ok (.aload_n 0, 1) := by decide +kernel
theorem dX10_swap_30 : decode cX10_swap 30 = .ok (.getfield 19, 3) := by decide +kernel
theorem dX10_swap_33 : decode cX10_swap 33 = .ok (.invokevirtual 175, 3) := by decide +kernel
theorem dX10_swap_36 : decode cX10_swap 36 = .ok (.astore_n 3, 1) := by decide +kernel
theorem dX10_swap_37 : decode cX10_swap 37 = .ok (.aload_n 3, 1) := by decide +kernel
theorem dX10_swap_38 : decode cX10_swap 38 = .ok (.iload_n 1, 1) := by decide +kernel
theorem dX10_swap_39 : decode cX10_swap 39 = .ok (.iload_n 2, 1) := by decide +kernel
theorem dX10_swap_40 : decode cX10_swap 40 = .ok (.invokevirtual 181, 3) := by decide +kernel
theorem dX10_swap_43 : decode cX10_swap 43 = .ok (.aload_n 3, 1) := by decide +kernel
theorem dX10_swap_44 : decode cX10_swap 44 = .ok (.getfield 128, 3) := by decide +kernel
theorem dX10_swap_47 : decode cX10_swap 47 = .ok (.iload_n 1, 1) := by decide +kernel
theorem dX10_swap_48 : decode cX10_swap 48 = .ok (.iaload, 1) := by decide +kernel
theorem dX10_swap_49 : decode cX10_swap 49 = .ok (.ireturn, 1) := by decide +kernel
theorem dX10_cast_0 : decode cX10_cast 0 = .ok (.aload_n 0, 1) := by decide +kernel
theorem dX10_cast_1 : decode cX10_cast 1 = .ok (.getfield 19, 3) := by decide +kernel
theorem dX10_cast_4 : decode cX10_cast 4 = .ok (.invokevirtual 175, 3) := by decide +kernel
theorem dX10_cast_7 : decode cX10_cast 7 = .ok (.astore_n 1, 1) := by decide +kernel
theorem dX10_cast_8 : decode cX10_cast 8 = .ok (.aload_n 1, 1) := by decide +kernel
theorem dX10_cast_9 : decode cX10_cast 9 = .ok (.aload_n 0, 1) := by decide +kernel
theorem dX10_cast_10 : decode cX10_cast 10 = .ok (.getfield 62, 3) := by decide +kernel
theorem dX10_cast_13 : decode cX10_cast 13 = .ok (.getfield 111, 3) := by decide +kernel
theorem dX10_cast_16 : decode cX10_cast 16 = .ok (.invokevirtual 185, 3) := by decide +kernel
theorem dX10_cast_19 : decode cX10_cast 19 = .ok (.aload_n 1, 1) := by decide +kernel
theorem dX10_cast_20 : decode cX10_cast 20 = .ok (.aload_n 0, 1) := by decide +kernel
theorem dX10_cast_21 : decode cX10_cast 21 = .ok (.getfield 62, 3) := by decide +kernel
theorem dX10_cast_24 : decode cX10_cast 24 = .ok (.getfield 111, 3) := by decide +kernel
theorem dX10_cast_27 : decode cX10_cast 27 = .ok (.invokevirtual 188, 3) := by decide +kernel
theorem dX10_cast_30 : decode cX10_cast 30 = .ok (.ireturn, 1) := by decide +kernel
theorem dX10_hour_0 : decode cX10_hour 0 = .ok (.aload_n 0, 1) := by decide +kernel
theorem dX10_hour_1 : decode cX10_hour 1 = .ok (.getfield 19, 3) := by decide +kernel
theorem dX10_hour_4 : decode cX10_hour 4 = .ok (.invokevirtual 124, 3) := by decide +kernel
theorem dX10_hour_7 : decode cX10_hour 7 = .ok (.getfield 191, 3) := by decide +kernel
theorem dX10_hour_10 : decode cX10_hour 10 = .ok (.sipush 999, 3) := by decide +kernel
theorem dX10_hour_13 : decode cX10_hour 13 = .ok (.if_icmp .le 5, 3) := by decide +kernel
theorem dX10_hour_16 : decode cX10_hour 16 = .ok (.iconst (-1), 1) := by decide +kernel
theorem dX10_hour_17 : decode cX10_hour 17 = .ok (.ireturn, 1) := by decide +kernel
theorem dX10_hour_18 : decode cX10_hour 18 = .ok (.aload_n 0, 1) := by decide +kernel
theorem dX10_hour_19 : decode cX10_hour 19 = .ok (.getfield 26, 3) := by decide +kernel
theorem dX10_hour_22 : decode cX10_hour 22 = .ok (.aload_n 0, 1) := by decide +kernel
theorem dX10_hour_23 : decode cX10_hour 23 = .ok (.getfield 62, 3) := by decide +kernel
theorem dX10_hour_26 : decode cX10_hour 26 = .ok (.aload_n 0, 1) := by decide +kernel
theorem dX10_hour_27 : decode cX10_hour 27 = .ok (.getfield 19, 3) := by decide +kernel
theorem dX10_hour_30 : decode cX10_hour 30 = .ok (.invokevirtual 175, 3) := by decide +kernel
theorem dX10_hour_33 : decode cX10_hour 33 = .ok (.invokevirtual 194, 3) := by decide +kernel
theorem dX10_hour_36 : decode cX10_hour 36 = .ok (.ireturn, 1) := by decide +kernel
set_option maxHeartbeats 2000000 in
set_option maxRecDepth 20000 in
theorem c_X10_curtain (l : Launch) (D : va_G) (cy : Nat → ClassId) (B N : Nat) (q : Int) (nr : Int) (a : Int) (M : MM) (hN : 210 ≤ N) (hI : Iv M) (hpa : I32 a) (hq : q = 5 ∨ q = 180) (ht : M.1 0 8 = q) (hnr : M.1 q 0 = nr) (hnb : 0 ≤ nr ∧ nr ≤ 6) (hRV : RV (M.1 26 2) nr M) (h1 : M.1 26 1 ≤ M.1 26 2) : CI l D cy B N 3 yX10_curtain cX10_curtain 3 (some .int) [rv B 0, iv a] M (fun z M' => Iv M' ∧ Fr (fun a b => (a = 26 ∧ 1 ≤ b ∧ b ≤ 2) ∨ (27 ≤ a ∧ a ≤ 150)) M M' ∧ (RV (M'.1 26 2) nr M') ∧ (M'.1 26 1 ≤ M'.1 26 2)) := by
  refine mk_CI (by decide) (Nat.le_of_ble_eq_true rfl) ?_
  intro X exl exD excy hnL hX hret
  have hce : 0 + 0 ≤ (xR X).cells ∧ 0 + 0 ≤ (xR X).slots := ⟨Nat.zero_le _, Nat.zero_le _⟩
  have hdq : 5 ≤ q ∧ q ≤ 180 := by omega
  have hF : Fr (fun a b => (a = 26 ∧ 1 ≤ b ∧ b ≤ 2) ∨ (27 ≤ a ∧ a ≤ 150)) M M := Fr.rf
  have hk1 : M.1 26 2 = M.1 26 2 := rfl
  have hk2 : M.1 26 1 = M.1 26 1 := rfl
  show J X B N 0 0 0 [(0, rv B 0), (1, iv a)] [] M
  refine j_aload_n hX dX10_curtain_0 rfl 0 rfl ?_
  refine gf_X10_62 hX (by omega) (by omega) kc_0 ht (by omega) dX10_curtain_1 ?_
  refine j_iload_n hX dX10_curtain_4 rfl 1 rfl ?_
  refine j_callVI hX lk_X10_120 (c_X6_hasRoom _ _ _ _ _ q _ _ (by omega) hI (by omega) hq) (by omega) hce rfl rfl (by omega) (by omega) (kq hq) rfl rfl (Nat.le_of_ble_eq_true rfl) dX10_curtain_5 (fun z3 M4 hz6 hp5 => ?_)
  obtain ⟨hE7, hb8, hq9⟩ := hp5
  replace hE7 := hE7.symm
  subst hE7
  refine j_if_ne (tgt := 13) hX dX10_curtain_8 (by decide) (by omega) (fun hc10 => ?_) (fun hc10 => ?_)
  · skip
    have hi11 := hq9 (by omega)
    clear hq9
    refine j_aload_n hX dX10_curtain_13 rfl 0 rfl ?_
    refine gf_X10_19 hX (by omega) (by omega) kc_0 (fc_0_1 hI) (by decide) dX10_curtain_14 ?_
    refine j_callVR hX lk_X10_175 (c_X0_step _ _ _ _ _ _ _ (by omega) hI (by first | assumption | omega) (by first | assumption | omega)) (by omega) hce rfl rfl (by omega) (by omega) kc_26 rfl rfl (Nat.le_of_ble_eq_true rfl) dX10_curtain_17 (fun sw M12 hz14 hp13 => ?_)
    obtain ⟨hI16, hG17, hq18, hq19, hq20, hq21, hq22⟩ := hp13
    have hk24 := kp_fr hG17 (by omega) ht
    have hk25 := kp_fr hG17 (by omega) hnr
    clear hk1 hk2
    have hF26 := Fr.trans hF hG17 (fun a b h => by omega)
    have hk27 : M12.1 26 2 = M12.1 26 2 := rfl
    have hk28 : M12.1 26 1 = M12.1 26 1 := rfl
    have hrsw := sc_27 hI16 hq19
    have hsw : Sc sw := hq18
    have hbsw := sc_b hsw
    have hdsw : 28 ≤ sw ∧ sw ≤ 207 := by omega
    refine j_astore_n (lv' := [(2, _), (0, _), (1, _)]) hX dX10_curtain_20 rfl (by rw [hnL]; decide) rfl ?_
    refine j_aload_n hX dX10_curtain_21 rfl 0 rfl ?_
    refine j_dup hX dX10_curtain_22 rfl ?_
    refine gf_X10_178 hX (by omega) (by omega) (sc_k0 hsw) dX10_curtain_23 ?_
    refine j_name hI16 (sc_r2 hsw) (fun v29 hv30 hl31 hh32 => ?_)
    have hk33 := hv30.symm
    refine j_iconst hX dX10_curtain_26 ?_
    refine j_iload_n hX dX10_curtain_27 rfl 2 rfl ?_
    refine j_ishl hX dX10_curtain_28 (fun z34 hz35 hy36 => ?_)
    refine j_ixor hX dX10_curtain_29 (fun z37 hz38 hy39 => ?_)
    refine pf_X10_178 hX (by omega) (by omega) (sc_k0 hsw) (by omega) dX10_curtain_30 ?_
    refine j_up hI16 (sc_r2 hsw) (by omega) (by omega) (Or.inl (by omega)) (fun M40 w41 hw42 hM43 hI44 hf45 => ?_)
    have hV46 := RV_sc hq21 hI16 hsw hM43 (by decide)
    have hV47 := V_up hq22 hM43 (by omega) (by omega)
    have hk48 := kp_up hM43 (by omega) hk24
    have hk49 := kp_up hM43 (by omega) hk25
    have hk50 := kp_up hM43 (by omega) hk27
    have hk51 := kp_up hM43 (by omega) hk28
    clear hk24 hk25 hk27 hk28 hk33
    have hF52 := Fr.put hF26 hM43 (by omega)
    refine j_aload_n hX dX10_curtain_33 rfl 0 rfl ?_
    refine j_iload_n hX dX10_curtain_34 rfl 2 rfl ?_
    refine j_callVI hX lk_X10_135 (c_X8_isDrawn _ _ _ _ _ sw _ _ (by omega) hI44 (by omega) hsw) (by omega) hce rfl rfl (by omega) (by omega) (sc_k0 hsw) rfl rfl (Nat.le_of_ble_eq_true rfl) dX10_curtain_35 (fun z53 M54 hz56 hp55 => ?_)
    obtain ⟨hE57, hb58⟩ := hp55
    replace hE57 := hE57.symm
    subst hE57
    refine j_if_eq (tgt := 45) hX dX10_curtain_38 (by decide) (by omega) (fun hc59 => ?_) (fun hc59 => ?_)
    · skip
      refine j_iconst hX dX10_curtain_45 ?_
      exact hret _ _ _ _ dX10_curtain_46 rfl (by omega) ⟨hI44, hF52, RV_eq hV46 (by omega), by omega⟩
    · skip
      refine j_iconst hX dX10_curtain_41 ?_
      refine j_goto (tgt := 46) hX dX10_curtain_42 (by decide) ?_
      exact hret _ _ _ _ dX10_curtain_46 rfl (by omega) ⟨hI44, hF52, RV_eq hV46 (by omega), by omega⟩
  · skip
    clear hq9
    refine j_iconst hX dX10_curtain_11 ?_
    exact hret _ _ _ _ dX10_curtain_12 rfl (by omega) ⟨hI, hF, RV_eq hRV (by omega), by omega⟩
set_option maxHeartbeats 2000000 in
set_option maxRecDepth 20000 in
theorem c_X10_swap (l : Launch) (D : va_G) (cy : Nat → ClassId) (B N : Nat) (q : Int) (nr : Int) (a : Int) (b : Int) (M : MM) (hN : 210 ≤ N) (hI : Iv M) (hpa : I32 a) (hpb : I32 b) (hq : q = 5 ∨ q = 180) (ht : M.1 0 8 = q) (hnr : M.1 q 0 = nr) (hnb : 0 ≤ nr ∧ nr ≤ 6) (hRV : RV (M.1 26 2) nr M) (h1 : M.1 26 1 ≤ M.1 26 2) : CI l D cy B N 3 yX10_swap cX10_swap 4 (some .int) [rv B 0, iv a, iv b] M (fun z M' => Iv M' ∧ Fr (fun a b => (a = 26 ∧ 1 ≤ b ∧ b ≤ 2) ∨ (27 ≤ a ∧ a ≤ 150)) M M' ∧ (RV (M'.1 26 2) nr M') ∧ (M'.1 26 1 ≤ M'.1 26 2)) := by
  refine mk_CI (by decide) (Nat.le_of_ble_eq_true rfl) ?_
  intro X exl exD excy hnL hX hret
  have hce : 0 + 0 ≤ (xR X).cells ∧ 0 + 0 ≤ (xR X).slots := ⟨Nat.zero_le _, Nat.zero_le _⟩
  have hdq : 5 ≤ q ∧ q ≤ 180 := by omega
  have hF : Fr (fun a b => (a = 26 ∧ 1 ≤ b ∧ b ≤ 2) ∨ (27 ≤ a ∧ a ≤ 150)) M M := Fr.rf
  have hk1 : M.1 26 2 = M.1 26 2 := rfl
  have hk2 : M.1 26 1 = M.1 26 1 := rfl
  show J X B N 0 0 0 [(0, rv B 0), (1, iv a), (2, iv b)] [] M
  refine j_aload_n hX dX10_swap_0 rfl 0 rfl ?_
  refine gf_X10_62 hX (by omega) (by omega) kc_0 ht (by omega) dX10_swap_1 ?_
  refine j_iload_n hX dX10_swap_4 rfl 1 rfl ?_
  refine j_callVI hX lk_X10_120 (c_X6_hasRoom _ _ _ _ _ q _ _ (by omega) hI (by omega) hq) (by omega) hce rfl rfl (by omega) (by omega) (kq hq) rfl rfl (Nat.le_of_ble_eq_true rfl) dX10_swap_5 (fun z3 M4 hz6 hp5 => ?_)
  obtain ⟨hE7, hb8, hq9⟩ := hp5
  replace hE7 := hE7.symm
  subst hE7
  refine j_if_eq (tgt := 27) hX dX10_swap_8 (by decide) (by omega) (fun hc10 => ?_) (fun hc10 => ?_)
  · skip
    clear hq9
    refine j_iconst hX dX10_swap_27 ?_
    exact hret _ _ _ _ dX10_swap_28 rfl (by omega) ⟨hI, hF, RV_eq hRV (by omega), by omega⟩
  · skip
    have hi11 := hq9 (by omega)
    clear hq9
    refine j_aload_n hX dX10_swap_11 rfl 0 rfl ?_
    refine gf_X10_62 hX (by omega) (by omega) kc_0 ht (by omega) dX10_swap_12 ?_
    refine j_iload_n hX dX10_swap_15 rfl 2 rfl ?_
    refine j_callVI hX lk_X10_120 (c_X6_hasRoom _ _ _ _ _ q _ _ (by omega) hI (by omega) hq) (by omega) hce rfl rfl (by omega) (by omega) (kq hq) rfl rfl (Nat.le_of_ble_eq_true rfl) dX10_swap_16 (fun z12 M13 hz15 hp14 => ?_)
    obtain ⟨hE16, hb17, hq18⟩ := hp14
    replace hE16 := hE16.symm
    subst hE16
    refine j_if_eq (tgt := 27) hX dX10_swap_19 (by decide) (by omega) (fun hc19 => ?_) (fun hc19 => ?_)
    · skip
      clear hq18
      refine j_iconst hX dX10_swap_27 ?_
      exact hret _ _ _ _ dX10_swap_28 rfl (by omega) ⟨hI, hF, RV_eq hRV (by omega), by omega⟩
    · skip
      have hi20 := hq18 (by omega)
      clear hq18
      refine j_iload_n hX dX10_swap_22 rfl 1 rfl ?_
      refine j_iload_n hX dX10_swap_23 rfl 2 rfl ?_
      refine j_icmp_ne (tgt := 29) hX dX10_swap_24 (by decide) (by omega) (by omega) (fun hc21 => ?_) (fun hc21 => ?_)
      · skip
        refine j_aload_n hX dX10_swap_29 rfl 0 rfl ?_
        refine gf_X10_19 hX (by omega) (by omega) kc_0 (fc_0_1 hI) (by decide) dX10_swap_30 ?_
        refine j_callVR hX lk_X10_175 (c_X0_step _ _ _ _ _ _ _ (by omega) hI (by first | assumption | omega) (by first | assumption | omega)) (by omega) hce rfl rfl (by omega) (by omega) kc_26 rfl rfl (Nat.le_of_ble_eq_true rfl) dX10_swap_33 (fun sw M22 hz24 hp23 => ?_)
        obtain ⟨hI26, hG27, hq28, hq29, hq30, hq31, hq32⟩ := hp23
        have hk34 := kp_fr hG27 (by omega) ht
        have hk35 := kp_fr hG27 (by omega) hnr
        clear hk1 hk2
        have hF36 := Fr.trans hF hG27 (fun a b h => by omega)
        have hk37 : M22.1 26 2 = M22.1 26 2 := rfl
        have hk38 : M22.1 26 1 = M22.1 26 1 := rfl
        have hrsw := sc_27 hI26 hq29
        have hsw : Sc sw := hq28
        have hbsw := sc_b hsw
        have hdsw : 28 ≤ sw ∧ sw ≤ 207 := by omega
        refine j_astore_n (lv' := [(3, _), (0, _), (1, _), (2, _)]) hX dX10_swap_36 rfl (by rw [hnL]; decide) rfl ?_
        refine j_aload_n hX dX10_swap_37 rfl 0 rfl ?_
        refine j_iload_n hX dX10_swap_38 rfl 2 rfl ?_
        refine j_iload_n hX dX10_swap_39 rfl 3 rfl ?_
        refine j_callVV hX lk_X10_181 (c_X8_swapWindows _ _ _ _ _ sw _ _ _ _ (by omega) hI26 (by omega) (by omega) hsw (by first | assumption | omega) (by first | assumption | omega)) (by omega) hce rfl rfl (by omega) (by omega) (sc_k0 hsw) rfl rfl (Nat.le_of_ble_eq_true rfl) dX10_swap_40 (fun M40 hp41 => ?_)
        obtain ⟨hI44, hG45, hq46⟩ := hp41
        have hk49 := kp_fr hG45 (by omega) hk34
        have hk50 := kp_fr hG45 (by omega) hk35
        have hk51 := kp_fr hG45 (by omega) hk37
        have hk52 := kp_fr hG45 (by omega) hk38
        clear hk34 hk35 hk37 hk38
        have hF53 := Fr.trans hF36 hG45 (fun a b h => by omega)
        have hV54 : RV (M22.1 26 2) nr M40 := RV_mod hq31 hI26 hq46 hG45 (fun a b h => by omega) hsw
        refine j_aload_n hX dX10_swap_43 rfl 0 rfl ?_
        refine gf_X10_128 hX (by omega) (by omega) (sc_k0 hsw) (sc_f0 hI44 hsw) (by omega) dX10_swap_44 ?_
        refine j_iload_n hX dX10_swap_47 rfl 2 rfl ?_
        refine j_iald hX (by omega) (by omega) (sc_k1 hsw) (by omega) (by omega) (by omega) dX10_swap_48 ?_
        refine j_name hI44 (sc_w hsw _) (fun v55 hv56 hl57 hh58 => ?_)
        exact hret _ _ _ _ dX10_swap_49 rfl (by omega) ⟨hI44, hF53, RV_eq hV54 (by omega), by omega⟩
      · skip
        refine j_iconst hX dX10_swap_27 ?_
        exact hret _ _ _ _ dX10_swap_28 rfl (by omega) ⟨hI, hF, RV_eq hRV (by omega), by omega⟩
set_option maxHeartbeats 2000000 in
set_option maxRecDepth 20000 in
theorem c_X10_cast (l : Launch) (D : va_G) (cy : Nat → ClassId) (B N : Nat) (q : Int) (nr : Int) (M : MM) (hN : 210 ≤ N) (hI : Iv M) (hq : q = 5 ∨ q = 180) (ht : M.1 0 8 = q) (hnr : M.1 q 0 = nr) (hnb : 0 ≤ nr ∧ nr ≤ 6) (hRV : RV (M.1 26 2) nr M) (h1 : M.1 26 1 ≤ M.1 26 2) : CI l D cy B N 3 yX10_cast cX10_cast 2 (some .int) [rv B 0] M (fun z M' => Iv M' ∧ Fr (fun a b => (a = 26 ∧ 1 ≤ b ∧ b ≤ 2) ∨ (27 ≤ a ∧ a ≤ 150)) M M' ∧ (RV (M'.1 26 2) nr M') ∧ (M'.1 26 1 ≤ M'.1 26 2)) := by
  refine mk_CI (by decide) (Nat.le_of_ble_eq_true rfl) ?_
  intro X exl exD excy hnL hX hret
  have hce : 0 + 0 ≤ (xR X).cells ∧ 0 + 0 ≤ (xR X).slots := ⟨Nat.zero_le _, Nat.zero_le _⟩
  have hdq : 5 ≤ q ∧ q ≤ 180 := by omega
  have hF : Fr (fun a b => (a = 26 ∧ 1 ≤ b ∧ b ≤ 2) ∨ (27 ≤ a ∧ a ≤ 150)) M M := Fr.rf
  have hk1 : M.1 26 2 = M.1 26 2 := rfl
  have hk2 : M.1 26 1 = M.1 26 1 := rfl
  show J X B N 0 0 0 [(0, rv B 0)] [] M
  refine j_aload_n hX dX10_cast_0 rfl 0 rfl ?_
  refine gf_X10_19 hX (by omega) (by omega) kc_0 (fc_0_1 hI) (by decide) dX10_cast_1 ?_
  refine j_callVR hX lk_X10_175 (c_X0_step _ _ _ _ _ _ _ (by omega) hI (by first | assumption | omega) (by first | assumption | omega)) (by omega) hce rfl rfl (by omega) (by omega) kc_26 rfl rfl (Nat.le_of_ble_eq_true rfl) dX10_cast_4 (fun sw M3 hz5 hp4 => ?_)
  obtain ⟨hI7, hG8, hq9, hq10, hq11, hq12, hq13⟩ := hp4
  have hk15 := kp_fr hG8 (by omega) ht
  have hk16 := kp_fr hG8 (by omega) hnr
  clear hk1 hk2
  have hF17 := Fr.trans hF hG8 (fun a b h => by omega)
  have hk18 : M3.1 26 2 = M3.1 26 2 := rfl
  have hk19 : M3.1 26 1 = M3.1 26 1 := rfl
  have hrsw := sc_27 hI7 hq10
  have hsw : Sc sw := hq9
  have hbsw := sc_b hsw
  have hdsw : 28 ≤ sw ∧ sw ≤ 207 := by omega
  refine j_astore_n (lv' := [(1, _), (0, _)]) hX dX10_cast_7 rfl (by rw [hnL]; decide) rfl ?_
  refine j_aload_n hX dX10_cast_8 rfl 0 rfl ?_
  refine j_aload_n hX dX10_cast_9 rfl 1 rfl ?_
  refine gf_X10_62 hX (by omega) (by omega) kc_0 hk15 (by omega) dX10_cast_10 ?_
  refine gf_X10_111 hX (by omega) (by omega) (kq hq) dX10_cast_13 ?_
  refine j_top hk16 ?_
  refine j_callVV hX lk_X10_185 (c_X8_castLot _ _ _ _ _ sw _ _ (by omega) hI7 (by omega) hsw (by first | assumption | omega) (by first | assumption | omega)) (by omega) hce rfl rfl (by omega) (by omega) (sc_k0 hsw) rfl rfl (Nat.le_of_ble_eq_true rfl) dX10_cast_16 (fun M21 hp22 => ?_)
  obtain ⟨hI25, hG26, hq27⟩ := hp22
  have hk30 := kp_fr hG26 (by omega) hk15
  have hk31 := kp_fr hG26 (by omega) hk16
  have hk32 := kp_fr hG26 (by omega) hk18
  have hk33 := kp_fr hG26 (by omega) hk19
  clear hk15 hk16 hk18 hk19
  have hF34 := Fr.trans hF17 hG26 (fun a b h => by omega)
  have hV35 : RV (M3.1 26 2) nr M21 := RV_mod hq12 hI7 hq27 hG26 (fun a b h => by omega) hsw
  refine j_aload_n hX dX10_cast_19 rfl 0 rfl ?_
  refine j_aload_n hX dX10_cast_20 rfl 1 rfl ?_
  refine gf_X10_62 hX (by omega) (by omega) kc_0 hk30 (by omega) dX10_cast_21 ?_
  refine gf_X10_111 hX (by omega) (by omega) (kq hq) dX10_cast_24 ?_
  refine j_top hk31 ?_
  refine j_callVI hX lk_X10_188 (c_X8_showThemselves _ _ _ _ _ sw _ _ (by omega) hI25 (by omega) hsw (by first | assumption | omega)) (by omega) hce rfl rfl (by omega) (by omega) (sc_k0 hsw) rfl rfl (Nat.le_of_ble_eq_true rfl) dX10_cast_27 (fun z36 M37 hz39 hp38 => ?_)
  have hE40 := hp38.symm
  subst hE40
  exact hret _ _ _ _ dX10_cast_30 rfl (by omega) ⟨hI25, hF34, RV_eq hV35 (by omega), by omega⟩
set_option maxHeartbeats 2000000 in
set_option maxRecDepth 20000 in
theorem c_X10_hour (l : Launch) (D : va_G) (cy : Nat → ClassId) (B N : Nat) (q : Int) (nr : Int) (M : MM) (hN : 210 ≤ N) (hI : Iv M) (hq : q = 5 ∨ q = 180) (ht : M.1 0 8 = q) (hnr : M.1 q 0 = nr) (hnb : 0 ≤ nr ∧ nr ≤ 6) (hRV : RV (M.1 26 2) nr M) (h1 : M.1 26 1 ≤ M.1 26 2) : CI l D cy B N 5 yX10_hour cX10_hour 1 (some .int) [rv B 0] M (fun z M' => Iv M' ∧ Fr (fun a b => (a = 26 ∧ 1 ≤ b ∧ b ≤ 2) ∨ (27 ≤ a ∧ a ≤ 150) ∨ (a = 152)) M M' ∧ (RV (M'.1 26 2) nr M') ∧ (M'.1 26 1 ≤ M'.1 26 2)) := by
  refine mk_CI (by decide) (Nat.le_of_ble_eq_true rfl) ?_
  intro X exl exD excy hnL hX hret
  have hce : 0 + 0 ≤ (xR X).cells ∧ 0 + 0 ≤ (xR X).slots := ⟨Nat.zero_le _, Nat.zero_le _⟩
  have hdq : 5 ≤ q ∧ q ≤ 180 := by omega
  have hF : Fr (fun a b => (a = 26 ∧ 1 ≤ b ∧ b ≤ 2) ∨ (27 ≤ a ∧ a ≤ 150) ∨ (a = 152)) M M := Fr.rf
  have hk1 : M.1 26 2 = M.1 26 2 := rfl
  have hk2 : M.1 26 1 = M.1 26 1 := rfl
  show J X B N 0 0 0 [(0, rv B 0)] [] M
  refine j_aload_n hX dX10_hour_0 rfl 0 rfl ?_
  refine gf_X10_19 hX (by omega) (by omega) kc_0 (fc_0_1 hI) (by decide) dX10_hour_1 ?_
  refine j_callVR hX lk_X10_124 (c_X0_now _ _ _ _ _ _ (by omega) hI) (by omega) hce rfl rfl (by omega) (by omega) kc_26 rfl rfl (Nat.le_of_ble_eq_true rfl) dX10_hour_4 (fun sn M3 hz5 hp4 => ?_)
  obtain ⟨hE6, hq7, hq8⟩ := hp4
  replace hE6 := hE6.symm
  subst hE6
  have hsn : Sc sn := hq7
  have hbsn := sc_b hsn
  have hdsn : 28 ≤ sn ∧ sn ≤ 207 := by omega
  refine gf_X10_191 hX (by omega) (by omega) (sc_k0 hsn) dX10_hour_7 ?_
  refine j_name hI (sc_r4 hsn) (fun v9 hv10 hl11 hh12 => ?_)
  have hk13 := hv10.symm
  refine j_sipush hX dX10_hour_10 rfl ?_
  refine j_icmp_le (tgt := 18) hX dX10_hour_13 (by decide) (by omega) (by omega) (fun hc14 => ?_) (fun hc14 => ?_)
  · skip
    refine j_aload_n hX dX10_hour_18 rfl 0 rfl ?_
    refine gf_X10_26 hX (by omega) (by omega) kc_0 (fc_0_2 hI) (by decide) dX10_hour_19 ?_
    refine j_aload_n hX dX10_hour_22 rfl 0 rfl ?_
    refine gf_X10_62 hX (by omega) (by omega) kc_0 ht (by omega) dX10_hour_23 ?_
    refine j_aload_n hX dX10_hour_26 rfl 0 rfl ?_
    refine gf_X10_19 hX (by omega) (by omega) kc_0 (fc_0_1 hI) (by decide) dX10_hour_27 ?_
    refine j_callVR hX lk_X10_175 (c_X0_step _ _ _ _ _ _ _ (by omega) hI (by first | assumption | omega) (by first | assumption | omega)) (by omega) hce rfl rfl (by omega) (by omega) kc_26 rfl rfl (Nat.le_of_ble_eq_true rfl) dX10_hour_30 (fun sw M15 hz17 hp16 => ?_)
    obtain ⟨hI19, hG20, hq21, hq22, hq23, hq24, hq25⟩ := hp16
    have hk27 := kp_fr hG20 (by omega) ht
    have hk28 := kp_fr hG20 (by omega) hnr
    clear hk1 hk2 hk13
    have hF29 := Fr.trans hF hG20 (fun a b h => by omega)
    have hk30 : M15.1 26 2 = M15.1 26 2 := rfl
    have hk31 : M15.1 26 1 = M15.1 26 1 := rfl
    have hrsw := sc_27 hI19 hq22
    have hsw : Sc sw := hq21
    have hbsw := sc_b hsw
    have hdsw : 28 ≤ sw ∧ sw ≤ 207 := by omega
    refine j_callVI hX lk_X10_194 (c_X1_passHour _ _ _ _ _ q sw _ _ (by omega) hI19 hq hsw hk28 (by first | assumption | omega) (by first | assumption | omega)) (by omega) hce rfl rfl (by omega) (by omega) kc_151 rfl rfl (Nat.le_of_ble_eq_true rfl) dX10_hour_33 (fun z32 M33 hz35 hp34 => ?_)
    obtain ⟨hI37, hG38, hq39⟩ := hp34
    have hk42 := kp_fr hG38 (by omega) hk27
    have hk43 := kp_fr hG38 (by omega) hk28
    have hk44 := kp_fr hG38 (by omega) hk30
    have hk45 := kp_fr hG38 (by omega) hk31
    clear hk27 hk28 hk30 hk31
    have hF46 := Fr.trans hF29 hG38 (fun a b h => by omega)
    have hV47 : RV (M15.1 26 2) nr M33 := RV_mod hq24 hI19 hq39 hG38 (fun a b h => by omega) hsw
    exact hret _ _ _ _ dX10_hour_36 rfl (by omega) ⟨hI37, hF46, RV_eq hV47 (by omega), by omega⟩
  · skip
    refine j_iconst hX dX10_hour_16 ?_
    exact hret _ _ _ _ dX10_hour_17 rfl (by omega) ⟨hI, hF, RV_eq hRV (by omega), by omega⟩
