theorem dX10_rings_0 : decode cX10_rings 0 = .ok (.aload_n 0, 1) := by decide +kernel
theorem dX10_rings_1 : decode cX10_rings 1 = .ok (.aload_n 0, 1) := by decide +kernel
theorem dX10_rings_2 : decode cX10_rings 2 = .ok (.getfield 62, 3) := by decide +kernel
theorem dX10_rings_5 : decode cX10_rings 5 = .ok (.getfield 111, 3) := by decide +kernel
theorem dX10_rings_8 : decode cX10_rings 8 = .ok (.putfield 70, 3) := by decide +kernel
theorem dX10_rings_11 : decode cX10_rings 11 = .ok (.aload_n 0, 1) := by decide +kernel
theorem dX10_rings_12 : decode cX10_rings 12 = .ok (.getfield 44, 3) := by decide +kernel
theorem dX10_rings_15 : decode cX10_rings 15 = .ok (.aload_n 0, 1) := by decide +kernel
theorem dX10_rings_16 : decode cX10_rings 16 = .ok (.getfield 62, 3) := by decide +kernel
theorem dX10_rings_19 : decode cX10_rings 19 = .ok (.aload_n 0, 1) := by decide +kernel
theorem dX10_rings_20 : decode cX10_rings 20 = .ok (.getfield 19, 3) := by decide +kernel
theorem dX10_rings_23 : decode cX10_rings 23 = .ok (.invokevirtual 124, 3) := by decide +kernel
theorem dX10_rings_26 : decode cX10_rings 26 = .ok (.aload_n 0, 1) := by decide +kernel
theorem dX10_rings_27 : decode cX10_rings 27 = .ok (.getfield 55, 3) := by decide +kernel
theorem dX10_rings_30 : decode cX10_rings 30 = .ok (.invokevirtual 237, 3) := by decide +kernel
theorem dX10_rings_33 : decode cX10_rings 33 = .ok (.ireturn, 1) := by decide +kernel
theorem dX10_back_0 : decode cX10_back 0 = .ok (.iload_n 1, 1) := by decide +kernel
theorem dX10_back_1 : decode cX10_back 1 = .ok (.ifCond .lt 19, 3) := by decide +kernel
theorem dX10_back_4 : decode cX10_back 4 = .ok (.iload_n 1, 1) := by decide +kernel
theorem dX10_back_5 : decode cX10_back 5 = .ok (.iconst 3, 1) := by decide +kernel
theorem dX10_back_6 : decode cX10_back 6 = .ok (.if_icmp .ge 14, 3) := by decide +kernel
theorem dX10_back_9 : decode cX10_back 9 = .ok (.aload_n 0, 1) := by decide +kernel
theorem dX10_back_10 : decode cX10_back 10 = .ok (.getfield 66, 3) := by decide +kernel
theorem dX10_back_13 : decode cX10_back 13 = .ok (.iload_n 1, 1) := by decide +kernel
theorem dX10_back_14 : decode cX10_back 14 = .ok (.ishr, 1) := by decide +kernel
theorem dX10_back_15 : decode cX10_back 15 = .ok (.iconst 1, 1) := by decide +kernel
theorem dX10_back_16 : decode cX10_back 16 = .ok (.iand, 1) := by decide +kernel
theorem dX10_back_17 : decode cX10_back 17 = .ok (.ifCond .ne 5, 3) := by decide +kernel
theorem dX10_back_20 : decode cX10_back 20 = .ok (.iconst (-1), 1) := by decide +kernel
theorem dX10_back_21 : decode cX10_back 21 = .ok (.ireturn, 1) := by decide +kernel
theorem dX10_back_22 : decode cX10_back 22 = .ok (.aload_n 0, 1) := by decide +kernel
theorem dX10_back_23 : decode cX10_back 23 = .ok (.getfield 19, 3) := by decide +kernel
theorem dX10_back_26 : decode cX10_back 26 = .ok (.aload_n 0, 1) := by decide +kernel
theorem dX10_back_27 : decode cX10_back 27 = .ok (.getfield 37, 3) := by decide +kernel
theorem dX10_back_30 : decode cX10_back 30 = .ok (.iload_n 1, 1) := by decide +kernel
theorem dX10_back_31 : decode cX10_back 31 = .ok (.aaload, 1) := by decide +kernel
theorem dX10_back_32 : decode cX10_back 32 = .ok (.invokevirtual 290, 3) := by decide +kernel
theorem dX10_back_35 : decode cX10_back 35 = .ok (.aload_n 0, 1) := by decide +kernel
theorem dX10_back_36 : decode cX10_back 36 = .ok (.getfield 19, 3) := by decide +kernel
theorem dX10_back_39 : decode cX10_back 39 = .ok (.invokevirtual 124, 3) := by decide +kernel
theorem dX10_back_42 : decode cX10_back 42 = .ok (.getfield 191, 3) := by decide +kernel
theorem dX10_back_45 : decode cX10_back 45 = .ok (.ireturn, 1) := by decide +kernel
theorem dX10_quarter_0 : decode cX10_quarter 0 = .ok (.aload_n 0, 1) := by decide +kernel
theorem dX10_quarter_1 : decode cX10_quarter 1 = .ok (.getfield 10, 3) := by decide +kernel
theorem dX10_quarter_4 : decode cX10_quarter 4 = .ok (.invokevirtual 97, 3) := by decide +kernel
theorem dX10_quarter_7 : decode cX10_quarter 7 = .ok (.ifCond .ne 5, 3) := by decide +kernel
theorem dX10_quarter_10 : decode cX10_quarter 10 = .ok (.iconst (-1), 1) := by decide +kernel
theorem dX10_quarter_11 : decode cX10_quarter 11 = .ok (.ireturn, 1) := by decide +kernel
theorem dX10_quarter_12 : decode cX10_quarter 12 = .ok (.aload_n 0, 1) := by decide +kernel
theorem dX10_quarter_13 : decode cX10_quarter 13 = .ok (.aload_n 0, 1) := by decide +kernel
theorem dX10_quarter_14 : decode cX10_quarter 14 = .ok (.getfield 10, 3) := by decide +kernel
theorem dX10_quarter_17 : decode cX10_quarter 17 = .ok (.aload_n 0, 1) := by decide +kernel
theorem dX10_quarter_18 : decode cX10_quarter 18 = .ok (.getfield 62, 3) := by decide +kernel
theorem dX10_quarter_21 : decode cX10_quarter 21 = .ok (.invokevirtual 101, 3) := by decide +kernel
theorem dX10_quarter_24 : decode cX10_quarter 24 = .ok (.putfield 62, 3) := by decide +kernel
theorem dX10_quarter_27 : decode cX10_quarter 27 = .ok (.aload_n 0, 1) := by decide +kernel
theorem dX10_quarter_28 : decode cX10_quarter 28 = .ok (.getfield 10, 3) := by decide +kernel
theorem dX10_quarter_31 : decode cX10_quarter 31 = .ok (.getfield 80, 3) := by decide +kernel
theorem dX10_quarter_34 : decode cX10_quarter 34 = .ok (.iconst 0, 1) := by decide +kernel
theorem dX10_quarter_35 : decode cX10_quarter 35 = .ok (.putfield 94, 3) := by decide +kernel
theorem dX10_quarter_38 : decode cX10_quarter 38 = .ok (.aload_n 0, 1) := by decide +kernel
theorem dX10_quarter_39 : decode cX10_quarter 39 = .ok (.getfield 19, 3) := by decide +kernel
theorem dX10_quarter_42 : decode cX10_quarter 42 = .ok (.aload_n 0, 1) := by decide +kernel
theorem dX10_quarter_43 : decode cX10_quarter 43 = .ok (.getfield 62, 3) := by decide +kernel
theorem dX10_quarter_46 : decode cX10_quarter 46 = .ok (.invokevirtual 76, 3) := by decide +kernel
theorem dX10_quarter_49 : decode cX10_quarter 49 = .ok (.aload_n 0, 1) := by decide +kernel
theorem dX10_quarter_50 : decode cX10_quarter 50 = .ok (.getfield 44, 3) := by decide +kernel
theorem dX10_quarter_53 : decode cX10_quarter 53 = .ok (.invokevirtual 105, 3) := by decide +kernel
theorem dX10_quarter_56 : decode cX10_quarter 56 = .ok (.aload_n 0, 1) := by decide +kernel
theorem dX10_quarter_57 : decode cX10_quarter 57 = .ok (.getfield 51, 3) := by decide +kernel
theorem dX10_quarter_60 : decode cX10_quarter 60 = .ok (.invokevirtual 108, 3) := by decide +kernel
theorem dX10_quarter_63 : decode cX10_quarter 63 = .ok (.aload_n 0, 1) := by decide +kernel
theorem dX10_quarter_64 : decode cX10_quarter 64 = .ok (.iconst 0, 1) := by decide +kernel
theorem dX10_quarter_65 : decode cX10_quarter 65 = .ok (.putfield 66, 3) := by decide +kernel
theorem dX10_quarter_68 : decode cX10_quarter 68 = .ok (.aload_n 0, 1) := by decide +kernel
theorem dX10_quarter_69 : decode cX10_quarter 69 = .ok (.iconst 0, 1) := by decide +kernel
theorem dX10_quarter_70 : decode cX10_quarter 70 = .ok (.putfield 70, 3) := by decide +kernel
theorem dX10_quarter_73 : decode cX10_quarter 73 = .ok (.aload_n 0, 1) := by decide +kernel
theorem dX10_quarter_74 : decode cX10_quarter 74 = .ok (.getfield 62, 3) := by decide +kernel
theorem dX10_quarter_77 : decode cX10_quarter 77 = .ok (.getfield 111, 3) := by decide +kernel
theorem dX10_quarter_80 : decode cX10_quarter 80 = .ok (.ireturn, 1) := by decide +kernel
set_option maxHeartbeats 2000000 in
set_option maxRecDepth 20000 in
theorem c_X10_rings (l : Launch) (D : va_G) (cy : Nat → ClassId) (B N : Nat) (q : Int) (nr : Int) (M : MM) (hN : 210 ≤ N) (hI : Iv M) (hq : q = 5 ∨ q = 180) (ht : M.1 0 8 = q) (hnr : M.1 q 0 = nr) (hVn : Vn nr M) (hnb : 0 ≤ nr ∧ nr ≤ 6) : CI l D cy B N 5 yX10_rings cX10_rings 1 (some .int) [rv B 0] M (fun z M' => Iv M' ∧ Fr (fun a b => (a = 0 ∧ 10 ≤ b ∧ b ≤ 10) ∨ (a = 162) ∨ (a = 179)) M M') := by
  refine mk_CI (by decide) (Nat.le_of_ble_eq_true rfl) ?_
  intro X exl exD excy hnL hX hret
  have hce : 0 + 0 ≤ (xR X).cells ∧ 0 + 0 ≤ (xR X).slots := ⟨Nat.zero_le _, Nat.zero_le _⟩
  have hdq : 5 ≤ q ∧ q ≤ 180 := by omega
  have hF : Fr (fun a b => (a = 0 ∧ 10 ≤ b ∧ b ≤ 10) ∨ (a = 162) ∨ (a = 179)) M M := Fr.rf
  show J X B N 0 0 0 [(0, rv B 0)] [] M
  refine j_aload_n hX dX10_rings_0 rfl 0 rfl ?_
  refine j_aload_n hX dX10_rings_1 rfl 0 rfl ?_
  refine gf_X10_62 hX (by omega) (by omega) kc_0 ht (by omega) dX10_rings_2 ?_
  refine gf_X10_111 hX (by omega) (by omega) (kq hq) dX10_rings_5 ?_
  refine j_top hnr ?_
  refine pf_X10_70 hX (by omega) (by omega) kc_0 (by omega) dX10_rings_8 ?_
  refine j_up hI ro_0_10 (by omega) (by omega) (Or.inl (by omega)) (fun M1 w2 hw3 hM4 hI5 hf6 => ?_)
  have hV7 := Vn_up hVn hI hM4 (by omega)
  have hk8 := kp_up hM4 (fun h => absurd h.2 (by decide)) ht
  have hk9 := kp_up hM4 (by omega) hnr
  have hF10 := Fr.put hF hM4 ((Or.inl ⟨rfl, by decide, by decide⟩))
  refine j_aload_n hX dX10_rings_11 rfl 0 rfl ?_
  refine gf_X10_44 hX (by omega) (by omega) kc_0 (fc_0_5 hI5) (by decide) dX10_rings_12 ?_
  refine j_aload_n hX dX10_rings_15 rfl 0 rfl ?_
  refine gf_X10_62 hX (by omega) (by omega) kc_0 hk8 (by omega) dX10_rings_16 ?_
  refine j_aload_n hX dX10_rings_19 rfl 0 rfl ?_
  refine gf_X10_19 hX (by omega) (by omega) kc_0 (fc_0_1 hI5) (by decide) dX10_rings_20 ?_
  refine j_callVR hX lk_X10_124 (c_X0_now _ _ _ _ _ _ (by omega) hI5) (by omega) hce rfl rfl (by omega) (by omega) kc_26 rfl rfl (Nat.le_of_ble_eq_true rfl) dX10_rings_23 (fun sw M11 hz13 hp12 => ?_)
  obtain ⟨hE14, hq15, hq16⟩ := hp12
  replace hE14 := hE14.symm
  subst hE14
  have hV17 : V nr sw M1 := by rw [hq16]; exact hV7
  have hsw : Sc sw := hq15
  have hbsw := sc_b hsw
  have hdsw : 28 ≤ sw ∧ sw ≤ 207 := by omega
  refine j_aload_n hX dX10_rings_26 rfl 0 rfl ?_
  refine gf_X10_55 hX (by omega) (by omega) kc_0 (fc_0_7 hI5) (by decide) dX10_rings_27 ?_
  refine j_callVI hX lk_X10_237 (c_X5_tradeInRings _ _ _ _ _ q sw _ _ (by omega) hI5 hq hsw hk9 (by first | assumption | omega) (by first | assumption | omega)) (by omega) hce rfl rfl (by omega) (by omega) kc_157 rfl rfl (Nat.le_of_ble_eq_true rfl) dX10_rings_30 (fun z18 M19 hz21 hp20 => ?_)
  obtain ⟨hI23, hG24⟩ := hp20
  have hV25 := Vn_fr hV7 hI5 hG24 (fun a b h => by omega)
  have hV26 := V_fr hV17 hG24 (fun b => by omega) (by omega)
  have hk27 := kp_fr hG24 (fun h => h.elim (fun h => absurd h (by decide)) (fun h => absurd h (by decide))) hk8
  have hk28 := kp_fr hG24 (by omega) hk9
  have hk29 := kp_fr hG24 (fun h => h.elim (fun h => absurd h (by decide)) (fun h => absurd h (by decide))) hf6
  clear hk8 hk9 hf6
  have hF30 := Fr.trans hF10 hG24 (fun a b h => h.elim (fun h => (Or.inr (Or.inl h))) (fun h => (Or.inr (Or.inr h))))
  exact hret _ _ _ _ dX10_rings_33 rfl (by omega) ⟨hI23, hF30⟩
set_option maxHeartbeats 2000000 in
set_option maxRecDepth 20000 in
theorem c_X10_back (l : Launch) (D : va_G) (cy : Nat → ClassId) (B N : Nat) (q : Int) (nr : Int) (a : Int) (M : MM) (hN : 210 ≤ N) (hI : Iv M) (hpa : I32 a) (hq : q = 5 ∨ q = 180) (ht : M.1 0 8 = q) (hnr : M.1 q 0 = nr) (hnb : 0 ≤ nr ∧ nr ≤ 6) (hRV : RV (M.1 26 2) nr M) (h1 : M.1 26 1 ≤ M.1 26 2) (hBF : BF nr M) : CI l D cy B N 3 yX10_back cX10_back 2 (some .int) [rv B 0, iv a] M (fun z M' => Iv M' ∧ Fr (fun a b => (a = 26 ∧ 1 ≤ b ∧ b ≤ 2) ∨ (28 ≤ a ∧ a ≤ 150)) M M' ∧ (RV (M'.1 26 2) nr M') ∧ (M'.1 26 1 ≤ M'.1 26 2)) := by
  refine mk_CI (by decide) (Nat.le_of_ble_eq_true rfl) ?_
  intro X exl exD excy hnL hX hret
  have hce : 0 + 0 ≤ (xR X).cells ∧ 0 + 0 ≤ (xR X).slots := ⟨Nat.zero_le _, Nat.zero_le _⟩
  have hdq : 5 ≤ q ∧ q ≤ 180 := by omega
  have hF : Fr (fun a b => (a = 26 ∧ 1 ≤ b ∧ b ≤ 2) ∨ (28 ≤ a ∧ a ≤ 150)) M M := Fr.rf
  have hk1 : M.1 26 2 = M.1 26 2 := rfl
  have hk2 : M.1 26 1 = M.1 26 1 := rfl
  show J X B N 0 0 0 [(0, rv B 0), (1, iv a)] [] M
  refine j_iload_n hX dX10_back_0 rfl 1 rfl ?_
  refine j_if_lt (tgt := 20) hX dX10_back_1 (by decide) (by omega) (fun hc3 => ?_) (fun hc3 => ?_)
  · skip
    refine j_iconst hX dX10_back_20 ?_
    exact hret _ _ _ _ dX10_back_21 rfl (by omega) ⟨hI, hF, by first | exact hrv | exact hRV, by omega⟩
  · skip
    refine j_iload_n hX dX10_back_4 rfl 1 rfl ?_
    refine j_iconst hX dX10_back_5 ?_
    refine j_icmp_ge (tgt := 20) hX dX10_back_6 (by decide) (by omega) (by omega) (fun hc4 => ?_) (fun hc4 => ?_)
    · skip
      refine j_iconst hX dX10_back_20 ?_
      exact hret _ _ _ _ dX10_back_21 rfl (by omega) ⟨hI, hF, by first | exact hrv | exact hRV, by omega⟩
    · skip
      refine j_aload_n hX dX10_back_9 rfl 0 rfl ?_
      refine gf_X10_66 hX (by omega) (by omega) kc_0 dX10_back_10 ?_
      refine j_name hI ro_0_9 (fun v5 hv6 hl7 hh8 => ?_)
      have hk9 := hv6.symm
      refine j_iload_n hX dX10_back_13 rfl 1 rfl ?_
      refine j_ishr hX dX10_back_14 (fun z10 hz11 hy12 => ?_)
      refine j_iconst hX dX10_back_15 ?_
      refine j_iand hX dX10_back_16 (fun z13 hz14 hy15 => ?_)
      have ha16 := (and_f hz14 (by omega) (by omega)).2 (by omega)
      have hbt := bt_of (by assumption) hz14
      refine j_if_ne (tgt := 22) hX dX10_back_17 (by decide) (by omega) (fun hc17 => ?_) (fun hc17 => ?_)
      · skip
        refine j_aload_n hX dX10_back_22 rfl 0 rfl ?_
        refine gf_X10_19 hX (by omega) (by omega) kc_0 (fc_0_1 hI) (by decide) dX10_back_23 ?_
        refine j_aload_n hX dX10_back_26 rfl 0 rfl ?_
        refine gf_X10_37 hX (by omega) (by omega) kc_0 (fc_0_4 hI) (by decide) dX10_back_27 ?_
        refine j_iload_n hX dX10_back_30 rfl 1 rfl ?_
        refine j_aald4n hX (by omega) (by omega) kc_156 (by omega) (by omega) (by decide) (bx_sc hI (by omega) (by omega)) dX10_back_31 (fun sb esb hsb => ?_)
        have hbsb := sc_b hsb
        have hdsb : 28 ≤ sb ∧ sb ≤ 207 := by omega
        have hrsb := sc_156 hI esb (by omega) (by omega)
        have hsb3 := fbx hI (i := a) (by omega) (by omega)
        have hvb : V nr (201 + 3 * a) M := BF_at hBF (by omega) (by omega) (btf hbt (by assumption)) (by omega)
        have hV18 : V nr sb M := by rw [show sb = 201 + 3 * a by omega]; exact hvb
        refine j_callVV hX lk_X10_290 (c_X0_restartFrom _ _ _ _ _ sb _ _ (by omega) hI hsb (by first | assumption | omega)) (by omega) hce rfl rfl (by omega) (by omega) kc_26 rfl rfl (Nat.le_of_ble_eq_true rfl) dX10_back_32 (fun M20 hp21 => ?_)
        obtain ⟨hI24, hG25, hq26, hq27⟩ := hp21
        have hk29 := kp_fr hG25 (fun h => h.elim (fun h => absurd h.1 (by decide)) (fun h => absurd h.1 (by decide))) ht
        have hk30 := kp_fr hG25 (by omega) hnr
        have hk31 := kp_fr hG25 (fun h => h.elim (fun h => absurd h.1 (by decide)) (fun h => absurd h.1 (by decide))) hk9
        clear hk1 hk2 hk9
        have hF32 := Fr.trans hF hG25 (fun a b h => h.elim (fun h => (Or.inl h)) (fun h => (Or.inr h)))
        have hk33 : M20.1 26 2 = M20.1 26 2 := rfl
        have hk34 : M20.1 26 1 = M20.1 26 1 := rfl
        have hrv := RV_0 hq27 hq26.2
        have hz26 := hq26
        refine j_aload_n hX dX10_back_35 rfl 0 rfl ?_
        refine gf_X10_19 hX (by omega) (by omega) kc_0 (fc_0_1 hI24) (by decide) dX10_back_36 ?_
        refine j_callVR hX lk_X10_124 (c_X0_now _ _ _ _ _ _ (by omega) hI24) (by omega) hce rfl rfl (by omega) (by omega) kc_26 rfl rfl (Nat.le_of_ble_eq_true rfl) dX10_back_39 (fun sn M35 hz37 hp36 => ?_)
        obtain ⟨hE38, hq39, hq40⟩ := hp36
        replace hE38 := hE38.symm
        subst hE38
        have hsn : Sc sn := hq39
        have hbsn := sc_b hsn
        have hdsn : 28 ≤ sn ∧ sn ≤ 207 := by omega
        refine gf_X10_191 hX (by omega) (by omega) (sc_k0 hsn) dX10_back_42 ?_
        refine j_name hI24 (sc_r4 hsn) (fun v41 hv42 hl43 hh44 => ?_)
        have hk45 := hv42.symm
        exact hret _ _ _ _ dX10_back_45 rfl (by omega) ⟨hI24, hF32, by first | exact hrv | exact hRV, by omega⟩
      · skip
        refine j_iconst hX dX10_back_20 ?_
        exact hret _ _ _ _ dX10_back_21 rfl (by omega) ⟨hI, hF, by first | exact hrv | exact hRV, by omega⟩
set_option maxHeartbeats 2000000 in
set_option maxRecDepth 20000 in
theorem c2_X10_image (l : Launch) (D : va_G) (cy : Nat → ClassId) (B N : Nat) (q : Int) (nr : Int) (a : Int) (M : MM) (hN : 210 ≤ N) (hI : Iv M) (hpa : I32 a) (hq : q = 5 ∨ q = 180) (ht : M.1 0 8 = q) (hnr : M.1 q 0 = nr) (hVn : Vn nr M) (hnb : 0 ≤ nr ∧ nr ≤ 6) (hBF : BF nr M) : CI l D cy B N 2 yX10_image cX10_image 2 (some .int) [rv B 0, iv a] M (fun z M' => Iv M' ∧ Fr (fun a b => (a = 0 ∧ 9 ≤ b ∧ b ≤ 9) ∨ (201 ≤ a ∧ a ≤ 209)) M M' ∧ (BF nr M')) := by
  refine mk_CI (by decide) (Nat.le_of_ble_eq_true rfl) ?_
  intro X exl exD excy hnL hX hret
  have hce : 0 + 0 ≤ (xR X).cells ∧ 0 + 0 ≤ (xR X).slots := ⟨Nat.zero_le _, Nat.zero_le _⟩
  have hdq : 5 ≤ q ∧ q ≤ 180 := by omega
  have hF : Fr (fun a b => (a = 0 ∧ 9 ≤ b ∧ b ≤ 9) ∨ (201 ≤ a ∧ a ≤ 209)) M M := Fr.rf
  have hk1 : M.1 0 9 = M.1 0 9 := rfl
  show J X B N 0 0 0 [(0, rv B 0), (1, iv a)] [] M
  refine j_iload_n hX dX10_image_0 rfl 1 rfl ?_
  refine j_if_lt (tgt := 9) hX dX10_image_1 (by decide) (by omega) (fun hc2 => ?_) (fun hc2 => ?_)
  · skip
    refine j_iconst hX dX10_image_9 ?_
    exact hret _ _ _ _ dX10_image_10 rfl (by omega) ⟨hI, hF, by first | exact hBF | exact hbf⟩
  · skip
    refine j_iload_n hX dX10_image_4 rfl 1 rfl ?_
    refine j_iconst hX dX10_image_5 ?_
    refine j_icmp_lt (tgt := 11) hX dX10_image_6 (by decide) (by omega) (by omega) (fun hc3 => ?_) (fun hc3 => ?_)
    · skip
      refine j_aload_n hX dX10_image_11 rfl 0 rfl ?_
      refine gf_X10_37 hX (by omega) (by omega) kc_0 (fc_0_4 hI) (by decide) dX10_image_12 ?_
      refine j_iload_n hX dX10_image_15 rfl 1 rfl ?_
      refine j_aald4n hX (by omega) (by omega) kc_156 (by omega) (by omega) (by decide) (bx_sc hI (by omega) (by omega)) dX10_image_16 (fun sb esb hsb => ?_)
      have hbsb := sc_b hsb
      have hdsb : 28 ≤ sb ∧ sb ≤ 207 := by omega
      have hrsb := sc_156 hI esb (by omega) (by omega)
      have hsb3 := fbx hI (i := a) (by omega) (by omega)
      refine j_aload_n hX dX10_image_17 rfl 0 rfl ?_
      refine gf_X10_19 hX (by omega) (by omega) kc_0 (fc_0_1 hI) (by decide) dX10_image_18 ?_
      refine j_callVR hX lk_X10_124 (c_X0_now _ _ _ _ _ _ (by omega) hI) (by omega) hce rfl rfl (by omega) (by omega) kc_26 rfl rfl (Nat.le_of_ble_eq_true rfl) dX10_image_21 (fun sw M4 hz6 hp5 => ?_)
      obtain ⟨hE7, hq8, hq9⟩ := hp5
      replace hE7 := hE7.symm
      subst hE7
      have hV10 : V nr sw M := by rw [hq9]; exact hVn
      have hsw : Sc sw := hq8
      have hbsw := sc_b hsw
      have hdsw : 28 ≤ sw ∧ sw ≤ 207 := by omega
      refine j_callVV hX lk_X10_204 (c_X8_copyFrom _ _ _ _ _ sb sw _ _ (by omega) hI hsb hsw (by first | assumption | omega)) (by omega) hce rfl rfl (by omega) (by omega) (sc_k0 hsb) rfl rfl (Nat.le_of_ble_eq_true rfl) dX10_image_24 (fun M12 hp13 => ?_)
      obtain ⟨hI16, hG17, hq18⟩ := hp13
      have hk21 := kp_fr hG17 (by omega) ht
      have hk22 := kp_fr hG17 (by omega) hnr
      have hk23 := kp_fr hG17 (by omega) hk1
      clear hk1
      have hF24 := Fr.trans hF hG17 (fun a b h => by omega)
      have hvb := hq18
      have hgb := hG17
      refine j_aload_n hX dX10_image_27 rfl 0 rfl ?_
      refine j_dup hX dX10_image_28 rfl ?_
      refine gf_X10_66 hX (by omega) (by omega) kc_0 dX10_image_29 ?_
      refine j_name hI16 ro_0_9 (fun v25 hv26 hl27 hh28 => ?_)
      have hk29 := hv26.symm
      refine j_iconst hX dX10_image_32 ?_
      refine j_iload_n hX dX10_image_33 rfl 1 rfl ?_
      refine j_ishl hX dX10_image_34 (fun z30 hz31 hy32 => ?_)
      refine j_ior hX dX10_image_35 (fun z33 hz34 hy35 => ?_)
      have hor := orb_of (by assumption) hz34
      refine pf_X10_66 hX (by omega) (by omega) kc_0 (by omega) dX10_image_36 ?_
      refine j_up hI16 ro_0_9 (by omega) (by omega) (Or.inl (by omega)) (fun M36 w37 hw38 hM39 hI40 hf41 => ?_)
      have hk42 := kp_up hM39 (fun h => absurd h.2 (by decide)) hk21
      have hk43 := kp_up hM39 (by omega) hk22
      clear hk21 hk22 hk29
      have hF44 := Fr.put hF24 hM39 ((Or.inl ⟨rfl, by decide, by decide⟩))
      have hbf := BF_im hBF (by omega) (by omega) (by omega : sb = 201 + 3 * a) hvb hgb (fun c b h => by omega) (by omega) hM39 hw38 hor
      refine j_aload_n hX dX10_image_39 rfl 0 rfl ?_
      refine gf_X10_37 hX (by omega) (by omega) kc_0 (fc_0_4 hI40) (by decide) dX10_image_40 ?_
      refine j_iload_n hX dX10_image_43 rfl 1 rfl ?_
      refine j_aald4n hX (by omega) (by omega) kc_156 (by omega) (by omega) (by decide) (bx_sc hI40 (by omega) (by omega)) dX10_image_44 (fun sv45 hz46 hsv45 => ?_)
      have hbsv45 := sc_b hsv45
      have hdsv45 : 28 ≤ sv45 ∧ sv45 ≤ 207 := by omega
      have hrsv45 := sc_156 hI40 hz46 (by omega) (by omega)
      refine gf_X10_191 hX (by omega) (by omega) (sc_k0 hsv45) dX10_image_45 ?_
      refine j_name hI40 (sc_r4 hsv45) (fun v47 hv48 hl49 hh50 => ?_)
      have hk51 := hv48.symm
      exact hret _ _ _ _ dX10_image_48 rfl (by omega) ⟨hI40, hF44, by first | exact hBF | exact hbf⟩
    · skip
      refine j_iconst hX dX10_image_9 ?_
      exact hret _ _ _ _ dX10_image_10 rfl (by omega) ⟨hI, hF, by first | exact hBF | exact hbf⟩
set_option maxHeartbeats 2000000 in
set_option maxRecDepth 20000 in
theorem c_X10_quarter (l : Launch) (D : va_G) (cy : Nat → ClassId) (B N : Nat) (q : Int) (q2 : Int) (M : MM) (hN : 210 ≤ N) (hI : Iv M) (hq : q = 5 ∨ q = 180) (hq2 : q2 = 5 ∨ q2 = 180) (ht : M.1 0 8 = q) (hto2 : M.1 1 1 = q2) (hkn : KNo M) (h1 : q2 = 185 - q) (hCI : CIv M) : CI l D cy B N 67 yX10_quarter cX10_quarter 1 (some .int) [rv B 0] M (fun z M' => Iv M' ∧ Fr (fun a b => (a = 0 ∧ 8 ≤ b ∧ b ≤ 10) ∨ (a = 1 ∧ 1 ≤ b ∧ b ≤ 4) ∨ (a = 2 ∧ 2 ≤ b ∧ b ≤ 6) ∨ (q2 ≤ a ∧ a ≤ q2 + 20) ∨ (a = 26 ∧ 1 ≤ b ∧ b ≤ 2) ∨ (28 ≤ a ∧ a ≤ 150) ∨ (a = 160) ∨ (a = 164 ∧ 7 ≤ b ∧ b ≤ 8)) M M' ∧ (CIv M')) := by
  refine mk_CI (by decide) (Nat.le_of_ble_eq_true rfl) ?_
  intro X exl exD excy hnL hX hret
  have hce : 0 + 0 ≤ (xR X).cells ∧ 0 + 0 ≤ (xR X).slots := ⟨Nat.zero_le _, Nat.zero_le _⟩
  have hdq : 5 ≤ q ∧ q ≤ 180 := by omega
  have hdq2 : 5 ≤ q2 ∧ q2 ≤ 180 := by omega
  have hF : Fr (fun a b => (a = 0 ∧ 8 ≤ b ∧ b ≤ 10) ∨ (a = 1 ∧ 1 ≤ b ∧ b ≤ 4) ∨ (a = 2 ∧ 2 ≤ b ∧ b ≤ 6) ∨ (q2 ≤ a ∧ a ≤ q2 + 20) ∨ (a = 26 ∧ 1 ≤ b ∧ b ≤ 2) ∨ (28 ≤ a ∧ a ≤ 150) ∨ (a = 160) ∨ (a = 164 ∧ 7 ≤ b ∧ b ≤ 8)) M M := Fr.rf
  have hk1 : M.1 q2 0 = M.1 q2 0 := rfl
  have hk2 : M.1 26 1 = M.1 26 1 := rfl
  have hk3 : M.1 26 2 = M.1 26 2 := rfl
  show J X B N 0 0 0 [(0, rv B 0)] [] M
  refine j_aload_n hX dX10_quarter_0 rfl 0 rfl ?_
  refine gf_X10_10 hX (by omega) (by omega) kc_0 (fc_0_0 hI) (by decide) dX10_quarter_1 ?_
  refine j_callVI hX lk_X10_97 (c_X7_readDraft _ _ _ _ _ q2 _ (by omega) hI hq2 hto2 (by first | assumption | omega)) (by omega) hce rfl rfl (by omega) (by omega) kc_1 rfl rfl (Nat.le_of_ble_eq_true rfl) dX10_quarter_4 (fun z4 M5 hz7 hp6 => ?_)
  obtain ⟨hI9, hG10, hb11, hq12, hq13⟩ := hp6
  have hk14 := kp_fr hG10 (by omega) ht
  have hk15 := kp_fr hG10 (by omega) hto2
  have hk16 := kp_fr hG10 (by omega) hk2
  have hk17 := kp_fr hG10 (by omega) hk3
  clear hk1 hk2 hk3
  have hF18 := Fr.trans hF hG10 (fun a b h => by omega)
  have hk19 : M5.1 q2 0 = M5.1 q2 0 := rfl
  have hvq0 := hq13
  have hcf := CI_rd hCI hI hG10 (fun a b h => by omega) (by omega : q2 = 185 - M.1 0 8) hq12
  refine j_if_ne (tgt := 12) hX dX10_quarter_7 (by decide) (by omega) (fun hc20 => ?_) (fun hc20 => ?_)
  · skip
    have hi21 := hq13 (by omega)
    clear hq13
    obtain ⟨nr2, hnr2⟩ : ∃ n : Int, n = M5.1 q2 0 := ⟨_, rfl⟩
    have hr2 := hI9.at q2 0 (rq_0 hq2)
    have hV22 : VQ nr2 q2 M5 := by rw [hnr2]; exact hvq0 (by omega)
    refine j_aload_n hX dX10_quarter_12 rfl 0 rfl ?_
    refine j_aload_n hX dX10_quarter_13 rfl 0 rfl ?_
    refine gf_X10_10 hX (by omega) (by omega) kc_0 (fc_0_0 hI9) (by decide) dX10_quarter_14 ?_
    refine j_aload_n hX dX10_quarter_17 rfl 0 rfl ?_
    refine gf_X10_62 hX (by omega) (by omega) kc_0 hk14 (by omega) dX10_quarter_18 ?_
    refine j_callVR hX lk_X10_101 (c_X7_exchangeDraft _ _ _ _ _ q2 q _ (by omega) hI9 hq2 hq hk15) (by omega) hce rfl rfl (by omega) (by omega) kc_1 rfl rfl (Nat.le_of_ble_eq_true rfl) dX10_quarter_21 (fun qn M23 hz25 hp24 => ?_)
    obtain ⟨hI27, hG28, hq29, hq30⟩ := hp24
    have hV31 := KN_fr hq12 hG28 (by omega) (by omega)
    have hV32 := VQ_fr hV22 hG28 (fun b => by omega)
    have hk33 := kp_fr hG28 (fun h => absurd h.1 (by decide)) hk14
    have hk34 := kp_fr hG28 (fun h => absurd h.1 (by decide)) hk16
    have hk35 := kp_fr hG28 (fun h => absurd h.1 (by decide)) hk17
    have hk36 := kp_fr hG28 (by omega) hk19
    clear hk14 hk15 hk16 hk17 hk19
    have hF37 := Fr.trans hF18 hG28 (fun a b h => by omega)
    obtain ⟨hzq, h11⟩ := hq30
    have hqn0 : M23.1 qn 0 = nr2 := by rw [hzq]; omega
    have hV38 : VQ nr2 qn M23 := by rw [hzq]; assumption
    have hqn : qn = 5 ∨ qn = 180 := hq29
    refine pf_X10_62 hX (by omega) (by omega) kc_0 (by omega) (by omega) dX10_quarter_24 ?_
    refine j_up hI27 ro_0_8 (by omega) (by omega) (Or.inl (by omega)) (fun M39 w40 hw41 hM42 hI43 hf44 => ?_)
    have hV45 := KN_up hV31 hM42 (by omega)
    have hV46 := VQ_up hV32 hM42 (by omega)
    have hV47 := VQ_up hV38 hM42 (by omega)
    have hk48 := kp_up hM42 (by decide) hk34
    have hk49 := kp_up hM42 (by decide) hk35
    have hk50 := kp_up hM42 (by omega) hk36
    have hk51 := kp_up hM42 (by omega) hqn0
    have hk52 := kp_up hM42 (by decide) h11
    clear hk33 hk34 hk35 hk36
    have hF53 := Fr.put hF37 hM42 (by omega)
    replace hw41 := hw41.symm
    subst hw41
    refine j_aload_n hX dX10_quarter_27 rfl 0 rfl ?_
    refine gf_X10_10 hX (by omega) (by omega) kc_0 (fc_0_0 hI43) (by decide) dX10_quarter_28 ?_
    refine gf_X10_80 hX (by omega) (by omega) kc_1 (fc_1_0 hI43) (by decide) dX10_quarter_31 ?_
    refine j_iconst hX dX10_quarter_34 ?_
    refine pf_X10_94 hX (by omega) (by omega) kc_2 (by omega) dX10_quarter_35 ?_
    refine j_up hI43 ro_2_2 (by omega) (by omega) (Or.inl (by omega)) (fun M54 w55 hw56 hM57 hI58 hf59 => ?_)
    have hV60 := KN_up hV45 hM57 (by omega)
    have hV61 := VQ_up hV46 hM57 (by omega)
    have hV62 := VQ_up hV47 hM57 (by omega)
    have hk63 := kp_up hM57 (by decide) hk48
    have hk64 := kp_up hM57 (by decide) hk49
    have hk65 := kp_up hM57 (by omega) hk50
    have hk66 := kp_up hM57 (by omega) hk51
    have hk67 := kp_up hM57 (by decide) hk52
    have hk68 := kp_up hM57 (by decide) hf44
    clear hk48 hk49 hk50 hk51 hk52 hf44
    have hF69 := Fr.put hF53 hM57 (by omega)
    refine j_aload_n hX dX10_quarter_38 rfl 0 rfl ?_
    refine gf_X10_19 hX (by omega) (by omega) kc_0 (fc_0_1 hI58) (by decide) dX10_quarter_39 ?_
    refine j_aload_n hX dX10_quarter_42 rfl 0 rfl ?_
    refine gf_X10_62 hX (by omega) (by omega) kc_0 hk68 (by omega) dX10_quarter_43 ?_
    refine j_callVV hX lk_X10_76 (c_X0_restart _ _ _ _ _ qn _ _ (by omega) hI58 hqn hk66 (by first | assumption | omega) (by first | assumption | omega)) (by omega) hce rfl rfl (by omega) (by omega) kc_26 rfl rfl (Nat.le_of_ble_eq_true rfl) dX10_quarter_46 (fun M71 hp72 => ?_)
    obtain ⟨hI75, hG76, hq77, hq78⟩ := hp72
    have hV79 := KN_fr hV60 hG76 (by omega) (by omega)
    have hV80 := VQ_fr hV61 hG76 (fun b => by omega)
    have hV81 := VQ_fr hV62 hG76 (fun b => by omega)
    have hk82 := kp_fr hG76 (by omega) hk65
    have hk83 := kp_fr hG76 (by omega) hk66
    have hk84 := kp_fr hG76 (fun h => h.elim (fun h => absurd h.1 (by decide)) (fun h => absurd h.1 (by decide))) hk67
    have hk85 := kp_fr hG76 (fun h => h.elim (fun h => absurd h.1 (by decide)) (fun h => absurd h.1 (by decide))) hk68
    have hk86 := kp_fr hG76 (fun h => h.elim (fun h => absurd h.1 (by decide)) (fun h => absurd h.1 (by decide))) hf59
    clear hk63 hk64 hk65 hk66 hk67 hk68 hf59
    have hF87 := Fr.trans hF69 hG76 (fun a b h => by omega)
    have hk88 : M71.1 26 1 = M71.1 26 1 := rfl
    have hk89 : M71.1 26 2 = M71.1 26 2 := rfl
    have hz26 := hq77
    have hV90 : RV (M71.1 26 2) nr2 M71 := RV_0 hq78 hq77.2
    refine j_aload_n hX dX10_quarter_49 rfl 0 rfl ?_
    refine gf_X10_44 hX (by omega) (by omega) kc_0 (fc_0_5 hI75) (by decide) dX10_quarter_50 ?_
    refine j_callVV hX lk_X10_105 (c_X5_forgetAims _ _ _ _ _ _ (by omega) hI75) (by omega) hce rfl rfl (by omega) (by omega) kc_157 rfl rfl (Nat.le_of_ble_eq_true rfl) dX10_quarter_53 (fun M92 hp93 => ?_)
    obtain ⟨hI96, hG97⟩ := hp93
    have hV98 := KN_fr hV79 hG97 (by omega) (by omega)
    have hV99 := VQ_fr hV80 hG97 (fun b => by omega)
    have hV100 := VQ_fr hV81 hG97 (fun b => by omega)
    have hV101 := RV_fr hV90 hI75 hG97 (fun a b h => by omega)
    have hk102 := kp_fr hG97 (by omega) hk82
    have hk103 := kp_fr hG97 (by omega) hk83
    have hk104 := kp_fr hG97 (fun h => absurd h (by decide)) hk84
    have hk105 := kp_fr hG97 (fun h => absurd h (by decide)) hk85
    have hk106 := kp_fr hG97 (fun h => absurd h (by decide)) hk86
    have hk107 := kp_fr hG97 (fun h => absurd h (by decide)) hk88
    have hk108 := kp_fr hG97 (fun h => absurd h (by decide)) hk89
    clear hk82 hk83 hk84 hk85 hk86 hk88 hk89
    have hF109 := Fr.trans hF87 hG97 (fun a b h => by omega)
    refine j_aload_n hX dX10_quarter_56 rfl 0 rfl ?_
    refine gf_X10_51 hX (by omega) (by omega) kc_0 (fc_0_6 hI96) (by decide) dX10_quarter_57 ?_
    refine j_callVV hX lk_X10_108 (c_X3_forget _ _ _ _ _ _ (by omega) hI96) (by omega) hce rfl rfl (by omega) (by omega) kc_164 rfl rfl (Nat.le_of_ble_eq_true rfl) dX10_quarter_60 (fun M111 hp112 => ?_)
    obtain ⟨hI115, hG116⟩ := hp112
    have hV117 := KN_fr hV98 hG116 (by omega) (by omega)
    have hV118 := VQ_fr hV99 hG116 (fun b => by omega)
    have hV119 := VQ_fr hV100 hG116 (fun b => by omega)
    have hV120 := RV_fr hV101 hI96 hG116 (fun a b h => by omega)
    have hk121 := kp_fr hG116 (by omega) hk102
    have hk122 := kp_fr hG116 (by omega) hk103
    have hk123 := kp_fr hG116 (fun h => absurd h.1 (by decide)) hk104
    have hk124 := kp_fr hG116 (fun h => absurd h.1 (by decide)) hk105
    have hk125 := kp_fr hG116 (fun h => absurd h.1 (by decide)) hk106
    have hk126 := kp_fr hG116 (fun h => absurd h.1 (by decide)) hk107
    have hk127 := kp_fr hG116 (fun h => absurd h.1 (by decide)) hk108
    clear hk102 hk103 hk104 hk105 hk106 hk107 hk108
    have hF128 := Fr.trans hF109 hG116 (fun a b h => by omega)
    refine j_aload_n hX dX10_quarter_63 rfl 0 rfl ?_
    refine j_iconst hX dX10_quarter_64 ?_
    refine pf_X10_66 hX (by omega) (by omega) kc_0 (by omega) dX10_quarter_65 ?_
    refine j_up hI115 ro_0_9 (by omega) (by omega) (Or.inl (by omega)) (fun M129 w130 hw131 hM132 hI133 hf134 => ?_)
    have hV135 := KN_up hV117 hM132 (by omega)
    have hV136 := VQ_up hV118 hM132 (by omega)
    have hV137 := VQ_up hV119 hM132 (by omega)
    have hV138 := RV_up hV120 hI115 hM132 (by omega)
    have hk139 := kp_up hM132 (by omega) hk121
    have hk140 := kp_up hM132 (by omega) hk122
    have hk141 := kp_up hM132 (by decide) hk123
    have hk142 := kp_up hM132 (fun h => absurd h.2 (by decide)) hk124
    have hk143 := kp_up hM132 (by decide) hk125
    have hk144 := kp_up hM132 (by decide) hk126
    have hk145 := kp_up hM132 (by decide) hk127
    clear hk121 hk122 hk123 hk124 hk125 hk126 hk127
    have hF146 := Fr.put hF128 hM132 (by omega)
    refine j_aload_n hX dX10_quarter_68 rfl 0 rfl ?_
    refine j_iconst hX dX10_quarter_69 ?_
    refine pf_X10_70 hX (by omega) (by omega) kc_0 (by omega) dX10_quarter_70 ?_
    refine j_up hI133 ro_0_10 (by omega) (by omega) (Or.inl (by omega)) (fun M147 w148 hw149 hM150 hI151 hf152 => ?_)
    have hV153 := KN_up hV135 hM150 (by omega)
    have hV154 := VQ_up hV136 hM150 (by omega)
    have hV155 := VQ_up hV137 hM150 (by omega)
    have hV156 := RV_up hV138 hI133 hM150 (by omega)
    have hk157 := kp_up hM150 (by omega) hk139
    have hk158 := kp_up hM150 (by omega) hk140
    have hk159 := kp_up hM150 (by decide) hk141
    have hk160 := kp_up hM150 (fun h => absurd h.2 (by decide)) hk142
    have hk161 := kp_up hM150 (by decide) hk143
    have hk162 := kp_up hM150 (by decide) hk144
    have hk163 := kp_up hM150 (by decide) hk145
    have hk164 := kp_up hM150 (fun h => absurd h.2 (by decide)) hf134
    clear hk139 hk140 hk141 hk142 hk143 hk144 hk145 hf134
    have hF165 := Fr.put hF146 hM150 (by omega)
    refine j_aload_n hX dX10_quarter_73 rfl 0 rfl ?_
    refine gf_X10_62 hX (by omega) (by omega) kc_0 hk160 (by omega) dX10_quarter_74 ?_
    refine gf_X10_111 hX (by omega) (by omega) (kq hqn) dX10_quarter_77 ?_
    refine j_top hk158 ?_
    exact hret _ _ _ _ dX10_quarter_80 rfl (by omega) ⟨hI151, hF165, CI_mk (q := qn) (n := nr2) (by omega) hqn (by omega) (by omega) (by assumption) (by omega) (RV_eq hV156 (by omega)) (BF_0 (by omega))⟩
  · skip
    clear hq13
    refine j_iconst hX dX10_quarter_10 ?_
    exact hret _ _ _ _ dX10_quarter_11 rfl (by omega) ⟨hI9, hF18, hcf⟩
