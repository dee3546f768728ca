set_option maxHeartbeats 2000000 in
set_option maxRecDepth 20000 in
theorem cv_X4_first (l : Launch) (D : va_G) (cy : Nat → ClassId) (B N : Nat) (o : Int) (a : Int) (M : MM) (hN : 210 ≤ N) (hI : Iv M) (hpa : I32 a) (ho : o = 158 ∨ o = 165) (h1 : 0 ≤ a ∧ a ≤ 6) (hz0 : a = 0) : CI l D cy B N 2 yX4_first cX4_first 4 (some .int) [rv B o, iv a] M (fun z M' => Iv M' ∧ Fr (fun a (_ : Int) => (o ≤ a ∧ a ≤ o + 1)) M M' ∧ (M'.1 o 1 = a) ∧ (z = 1)) := by
  refine mk_CI (by decide) (Nat.le_of_ble_eq_true rfl) ?_
  intro X exl exD excy hnL hX hret
  have hce : 0 + 0 ≤ (xR X).cells ∧ 0 + 0 ≤ (xR X).slots := ⟨Nat.zero_le _, Nat.zero_le _⟩
  have hF : Fr (fun a (_ : Int) => (o ≤ a ∧ a ≤ o + 1)) M M := Fr.rf
  show J X B N 0 0 0 [(0, rv B o), (1, iv a)] [] M
  refine j_aload_n hX dX4_first_0 rfl 0 rfl ?_
  refine j_iload_n hX dX4_first_1 rfl 1 rfl ?_
  refine j_bipush hX dX4_first_2 rfl ?_
  refine j_mmin hX (in_5 11 (by first | rfl | decide +kernel) rfl) (by decide) hce (by omega) (by omega) (Nat.le_of_ble_eq_true rfl) dX4_first_4 (fun z1 hz2 => ?_)
  refine pf_X4_15 hX (by omega) (by omega) (ko_0 ho) (by omega) dX4_first_7 ?_
  refine j_up hI (rgo_1 ho) (by omega) (by omega) (Or.inl (by omega)) (fun M3 w4 hw5 hM6 hI7 hf8 => ?_)
  have hF9 := Fr.put hF hM6 (by omega)
  refine j_iconst hX dX4_first_10 ?_
  refine j_istore_n (lv' := [(2, _), (0, _), (1, _)]) hX dX4_first_11 rfl (by rw [hnL]; decide) rfl ?_
  refine j_iconst hX dX4_first_12 ?_
  refine j_istore_n (lv' := [(3, _), (2, _), (0, _), (1, _)]) hX dX4_first_13 rfl (by rw [hnL]; decide) rfl ?_
  refine j_iload_n hX dX4_first_14 rfl 0 rfl ?_
  refine j_aload_n hX dX4_first_15 rfl 2 rfl ?_
  refine gf_X4_15 hX (by omega) (by omega) (ko_0 ho) dX4_first_16 ?_
  refine j_top hf8 ?_
  refine j_icmp_ge (tgt := 41) hX dX4_first_19 (by decide) (by omega) (by omega) (fun hc10 => ?_) (fun hc10 => ?_)
  · skip
    refine j_iload_n hX dX4_first_41 rfl 1 rfl ?_
    exact hret _ _ _ _ dX4_first_42 rfl (by omega) ⟨hI7, hF9, by first | assumption | omega, by first | assumption | omega⟩
  · exfalso; omega
set_option maxHeartbeats 2000000 in
set_option maxRecDepth 20000 in
theorem cv_X4_isAllowed (l : Launch) (D : va_G) (cy : Nat → ClassId) (B N : Nat) (o : Int) (p : Int) (rm : Int) (M : MM) (hN : 210 ≤ N) (hI : Iv M) (ho : o = 158 ∨ o = 165) (hp : p = 161 ∨ p = 171) (hrm : M.1 o 1 = rm) (hz0 : rm = 0) : CI l D cy B N 1 yX4_isAllowed cX4_isAllowed 3 (some .boolean) [rv B o, rv B p] M (fun z M' => M' = M ∧ (0 ≤ z ∧ z ≤ 1) ∧ (z = 1)) := by
  refine mk_CI (by decide) (Nat.le_of_ble_eq_true rfl) ?_
  intro X exl exD excy hnL hX hret
  have hce : 0 + 0 ≤ (xR X).cells ∧ 0 + 0 ≤ (xR X).slots := ⟨Nat.zero_le _, Nat.zero_le _⟩
  show J X B N 0 0 0 [(0, rv B o), (1, rv B p)] [] M
  refine j_iconst hX dX4_isAllowed_0 ?_
  refine j_istore_n (lv' := [(2, _), (0, _), (1, _)]) hX dX4_isAllowed_1 rfl (by rw [hnL]; decide) rfl ?_
  refine j_iload_n hX dX4_isAllowed_2 rfl 0 rfl ?_
  refine j_aload_n hX dX4_isAllowed_3 rfl 1 rfl ?_
  refine gf_X4_15 hX (by omega) (by omega) (ko_0 ho) dX4_isAllowed_4 ?_
  refine j_top hrm ?_
  refine j_icmp_ge (tgt := 33) hX dX4_isAllowed_7 (by decide) (by omega) (by omega) (fun hc1 => ?_) (fun hc1 => ?_)
  · skip
    refine j_iconst hX dX4_isAllowed_33 ?_
    exact hret _ _ _ _ dX4_isAllowed_34 (nb (by omega)) (by omega) ⟨rfl, by omega, by first | assumption | omega⟩
  · exfalso; omega
set_option maxHeartbeats 2000000 in
set_option maxRecDepth 20000 in
theorem cv_X5_fairLots (l : Launch) (D : va_G) (cy : Nat → ClassId) (B N : Nat) (a : Int) (M : MM) (hN : 210 ≤ N) (hI : Iv M) (hpa : I32 a) (h1 : 0 ≤ a ∧ a ≤ 6) (hz0 : a = 0) : CI l D cy B N 3 yX5_fairLots cX5_fairLots 5 (some .int) [rv B 157, iv a] M (fun z M' => Iv M' ∧ Fr (fun a (_ : Int) => (158 ≤ a ∧ a ≤ 159) ∨ (a = 161)) M M' ∧ (z = 1)) := by
  refine mk_CI (by decide) (Nat.le_of_ble_eq_true rfl) ?_
  intro X exl exD excy hnL hX hret
  have hce : 0 + 0 ≤ (xR X).cells ∧ 0 + 0 ≤ (xR X).slots := ⟨Nat.zero_le _, Nat.zero_le _⟩
  have hF : Fr (fun a (_ : Int) => (158 ≤ a ∧ a ≤ 159) ∨ (a = 161)) M M := Fr.rf
  show J X B N 0 0 0 [(0, rv B 157), (1, iv a)] [] M
  refine j_aload_n hX dX5_fairLots_0 rfl 0 rfl ?_
  refine j_iconst hX dX5_fairLots_1 ?_
  refine j_callVV hX lk_X5_37 (c_X5_allowAims _ _ _ _ _ _ _ (by omega) hI (by omega) (by first | assumption | omega)) (by omega) hce rfl rfl (by omega) (by omega) kc_157 rfl rfl (Nat.le_of_ble_eq_true rfl) dX5_fairLots_2 (fun M2 hp3 => ?_)
  obtain ⟨hI6, hG7⟩ := hp3
  have hF8 := Fr.trans hF hG7 (fun a b h => (Or.inr h))
  refine j_iconst hX dX5_fairLots_5 ?_
  refine j_istore_n (lv' := [(2, _), (0, _), (1, _)]) hX dX5_fairLots_6 rfl (by rw [hnL]; decide) rfl ?_
  refine j_aload_n hX dX5_fairLots_7 rfl 1 rfl ?_
  refine gf_X5_12 hX (by omega) (by omega) kc_157 (fc_157_0 hI6) (by decide) dX5_fairLots_8 ?_
  refine j_iload_n hX dX5_fairLots_11 rfl 2 rfl ?_
  refine j_callVI hX lk_X5_52 (cv_X4_first _ _ _ _ _ 158 _ _ (by omega) hI6 (by omega) (by omega) (by first | assumption | omega) (by first | assumption | omega)) (by omega) hce rfl rfl (by omega) (by omega) kc_158 rfl rfl (Nat.le_of_ble_eq_true rfl) dX5_fairLots_12 (fun z9 M10 hz12 hp11 => ?_)
  obtain ⟨hI14, hG15, hq16, hq17⟩ := hp11
  have hF18 := Fr.trans hF8 hG15 (fun a b h => (Or.inl h))
  have hrm : M10.1 158 1 = 0 := by omega
  refine j_istore_n (lv' := [(3, _), (2, _), (0, _), (1, _)]) hX dX5_fairLots_15 rfl (by rw [hnL]; decide) rfl ?_
  refine j_iconst hX dX5_fairLots_16 ?_
  refine j_istore (lv' := [(4, _), (3, _), (2, _), (0, _), (1, _)]) hX dX5_fairLots_17 (by rw [hnL]; decide) rfl ?_
  refine j_iload hX dX5_fairLots_19 0 rfl ?_
  refine j_iload_n hX dX5_fairLots_21 rfl 1 rfl ?_
  refine j_icmp_ge (tgt := 55) hX dX5_fairLots_22 (by decide) (by omega) (by omega) (fun hc19 => ?_) (fun hc19 => ?_)
  · exfalso; omega
  · skip
    refine j_aload_n hX dX5_fairLots_25 rfl 3 rfl ?_
    refine gf_X5_12 hX (by omega) (by omega) kc_157 (fc_157_0 hI14) (by decide) dX5_fairLots_26 ?_
    refine j_aload_n hX dX5_fairLots_29 rfl 3 rfl ?_
    refine gf_X5_22 hX (by omega) (by omega) kc_157 (fc_157_2 hI14) (by decide) dX5_fairLots_30 ?_
    refine j_callVI hX lk_X5_56 (cv_X4_isAllowed _ _ _ _ _ 158 161 _ _ (by omega) hI14 (by omega) (by omega) hrm (by first | assumption | omega)) (by omega) hce rfl rfl (by omega) (by omega) kc_158 rfl rfl (Nat.le_of_ble_eq_true rfl) dX5_fairLots_33 (fun z20 M21 hz23 hp22 => ?_)
    obtain ⟨hE24, hb25, hq26⟩ := hp22
    replace hE24 := hE24.symm
    subst hE24
    refine j_if_eq (tgt := 42) hX dX5_fairLots_36 (by decide) (by omega) (fun hc27 => ?_) (fun hc27 => ?_)
    · exfalso; omega
    · skip
      refine j_iinc (lv' := [(2, _), (4, _), (3, _), (0, _), (1, _)]) hX dX5_fairLots_39 2 rfl (by rw [hnL]; decide) rfl ?_
      refine j_aload_n hX dX5_fairLots_42 rfl 3 rfl ?_
      refine gf_X5_12 hX (by omega) (by omega) kc_157 (fc_157_0 hI14) (by decide) dX5_fairLots_43 ?_
      refine j_callVV hX lk_X5_71 (c_X4_next _ _ _ _ _ 158 _ (by omega) hI14 (by omega)) (by omega) hce rfl rfl (by omega) (by omega) kc_158 rfl rfl (Nat.le_of_ble_eq_true rfl) dX5_fairLots_46 (fun M29 hp30 => ?_)
      obtain ⟨hI33, hG34⟩ := hp30
      have hk35 := kp_fr hG34 (fun h => absurd h (by decide)) hrm
      have hF36 := Fr.trans hF18 hG34 (fun a b h => (Or.inl ⟨by omega, by omega⟩))
      refine j_iinc (lv' := [(4, _), (2, _), (3, _), (0, _), (1, _)]) hX dX5_fairLots_49 1 rfl (by rw [hnL]; decide) rfl ?_
      refine j_goto (tgt := 19) hX dX5_fairLots_52 (by decide) ?_
      refine j_iload hX dX5_fairLots_19 0 rfl ?_
      refine j_iload_n hX dX5_fairLots_21 rfl 2 rfl ?_
      refine j_icmp_ge (tgt := 55) hX dX5_fairLots_22 (by decide) (by omega) (by omega) (fun hc37 => ?_) (fun hc37 => ?_)
      · skip
        refine j_iload_n hX dX5_fairLots_55 rfl 1 rfl ?_
        exact hret _ _ _ _ dX5_fairLots_56 rfl (by omega) ⟨hI33, hF36, by first | assumption | omega⟩
      · exfalso; omega
set_option maxHeartbeats 2000000 in
set_option maxRecDepth 20000 in
theorem cv_X10_fair (l : Launch) (D : va_G) (cy : Nat → ClassId) (B N : Nat) (q : Int) (nr : Int) (M : MM) (hN : 210 ≤ N) (hI : Iv M) (hq : q = 5 ∨ q = 180) (ht : M.1 0 8 = q) (hnr : M.1 q 0 = nr) (hz0 : nr = 0) : CI l D cy B N 4 yX10_fair cX10_fair 1 (some .int) [rv B 0] M (fun z M' => Iv M' ∧ Fr (fun a (_ : Int) => (158 ≤ a ∧ a ≤ 159) ∨ (a = 161)) M M' ∧ (z = 1)) := by
  refine mk_CI (by decide) (Nat.le_of_ble_eq_true rfl) ?_
  intro X exl exD excy hnL hX hret
  have hce : 0 + 0 ≤ (xR X).cells ∧ 0 + 0 ≤ (xR X).slots := ⟨Nat.zero_le _, Nat.zero_le _⟩
  have hdq : 5 ≤ q ∧ q ≤ 180 := by omega
  have hF : Fr (fun a (_ : Int) => (158 ≤ a ∧ a ≤ 159) ∨ (a = 161)) M M := Fr.rf
  show J X B N 0 0 0 [(0, rv B 0)] [] M
  refine j_aload_n hX dX10_fair_0 rfl 0 rfl ?_
  refine gf_X10_44 hX (by omega) (by omega) kc_0 (fc_0_5 hI) (by decide) dX10_fair_1 ?_
  refine j_aload_n hX dX10_fair_4 rfl 0 rfl ?_
  refine gf_X10_62 hX (by omega) (by omega) kc_0 ht (by omega) dX10_fair_5 ?_
  refine gf_X10_111 hX (by omega) (by omega) (kq hq) dX10_fair_8 ?_
  refine j_top hnr ?_
  refine j_callVI hX lk_X10_260 (cv_X5_fairLots _ _ _ _ _ _ _ (by omega) hI (by omega) (by first | assumption | omega) (by first | assumption | omega)) (by omega) hce rfl rfl (by omega) (by omega) kc_157 rfl rfl (Nat.le_of_ble_eq_true rfl) dX10_fair_11 (fun z1 M2 hz4 hp3 => ?_)
  obtain ⟨hI6, hG7, hq8⟩ := hp3
  have hk9 := kp_fr hG7 (fun h => h.elim (fun h => absurd h.1 (by decide)) (fun h => absurd h (by decide))) ht
  have hk10 := kp_fr hG7 (by omega) hnr
  have hF11 := Fr.trans hF hG7 (fun a b h => h.elim (fun h => (Or.inl h)) (fun h => (Or.inr h)))
  exact hret _ _ _ _ dX10_fair_14 rfl (by omega) ⟨hI6, hF11, by first | assumption | omega⟩
set_option maxHeartbeats 2000000 in
set_option maxRecDepth 20000 in
theorem cv_X5_lotsThatPlease (l : Launch) (D : va_G) (cy : Nat → ClassId) (B N : Nat) (q : Int) (nr : Int) (a : Int) (M : MM) (hN : 210 ≤ N) (hI : Iv M) (hpa : I32 a) (hq : q = 5 ∨ q = 180) (hnr : M.1 q 0 = nr) (hnb : 0 ≤ nr ∧ nr ≤ 6) (hz0 : nr = 0) : CI l D cy B N 3 yX5_lotsThatPlease cX5_lotsThatPlease 8 (some .int) [rv B 157, rv B q, iv a] M (fun z M' => Iv M' ∧ Fr (fun a (_ : Int) => (158 ≤ a ∧ a ≤ 159)) M M' ∧ ((a ≤ 0 → z = 1) ∧ (0 < a → z = 0))) := by
  refine mk_CI (by decide) (Nat.le_of_ble_eq_true rfl) ?_
  intro X exl exD excy hnL hX hret
  have hce : 0 + 0 ≤ (xR X).cells ∧ 0 + 0 ≤ (xR X).slots := ⟨Nat.zero_le _, Nat.zero_le _⟩
  have hdq : 5 ≤ q ∧ q ≤ 180 := by omega
  have hF : Fr (fun a (_ : Int) => (158 ≤ a ∧ a ≤ 159)) M M := Fr.rf
  show J X B N 0 0 0 [(0, rv B 157), (1, rv B q), (2, iv a)] [] M
  refine j_iconst hX dX5_lotsThatPlease_0 ?_
  refine j_istore_n (lv' := [(3, _), (0, _), (1, _), (2, _)]) hX dX5_lotsThatPlease_1 rfl (by rw [hnL]; decide) rfl ?_
  refine j_aload_n hX dX5_lotsThatPlease_2 rfl 1 rfl ?_
  refine gf_X5_12 hX (by omega) (by omega) kc_157 (fc_157_0 hI) (by decide) dX5_lotsThatPlease_3 ?_
  refine j_aload_n hX dX5_lotsThatPlease_6 rfl 2 rfl ?_
  refine gf_X5_41 hX (by omega) (by omega) (kq hq) dX5_lotsThatPlease_7 ?_
  refine j_top hnr ?_
  refine j_callVI hX lk_X5_52 (cv_X4_first _ _ _ _ _ 158 _ _ (by omega) hI (by omega) (by omega) (by first | assumption | omega) (by first | assumption | omega)) (by omega) hce rfl rfl (by omega) (by omega) kc_158 rfl rfl (Nat.le_of_ble_eq_true rfl) dX5_lotsThatPlease_10 (fun z1 M2 hz4 hp3 => ?_)
  obtain ⟨hI6, hG7, hq8, hq9⟩ := hp3
  have hk10 := kp_fr hG7 (by omega) hnr
  have hF11 := Fr.trans hF hG7 (fun a b h => h)
  refine j_istore (lv' := [(4, _), (3, _), (0, _), (1, _), (2, _)]) hX dX5_lotsThatPlease_13 (by rw [hnL]; decide) rfl ?_
  refine j_iconst hX dX5_lotsThatPlease_15 ?_
  refine j_istore (lv' := [(5, _), (4, _), (3, _), (0, _), (1, _), (2, _)]) hX dX5_lotsThatPlease_16 (by rw [hnL]; decide) rfl ?_
  refine j_iload hX dX5_lotsThatPlease_18 0 rfl ?_
  refine j_iload hX dX5_lotsThatPlease_20 1 rfl ?_
  refine j_icmp_ge (tgt := 90) hX dX5_lotsThatPlease_22 (by decide) (by omega) (by omega) (fun hc12 => ?_) (fun hc12 => ?_)
  · exfalso; omega
  · skip
    refine j_iconst hX dX5_lotsThatPlease_25 ?_
    refine j_istore (lv' := [(6, _), (5, _), (4, _), (3, _), (0, _), (1, _), (2, _)]) hX dX5_lotsThatPlease_26 (by rw [hnL]; decide) rfl ?_
    refine j_iconst hX dX5_lotsThatPlease_28 ?_
    refine j_istore (lv' := [(7, _), (6, _), (5, _), (4, _), (3, _), (0, _), (1, _), (2, _)]) hX dX5_lotsThatPlease_29 (by rw [hnL]; decide) rfl ?_
    refine j_iload hX dX5_lotsThatPlease_31 0 rfl ?_
    refine j_aload_n hX dX5_lotsThatPlease_33 rfl 6 rfl ?_
    refine gf_X5_41 hX (by omega) (by omega) (kq hq) dX5_lotsThatPlease_34 ?_
    refine j_top hk10 ?_
    refine j_icmp_ge (tgt := 68) hX dX5_lotsThatPlease_37 (by decide) (by omega) (by omega) (fun hc13 => ?_) (fun hc13 => ?_)
    · skip
      refine j_iload hX dX5_lotsThatPlease_68 1 rfl ?_
      refine j_iload_n hX dX5_lotsThatPlease_70 rfl 7 rfl ?_
      refine j_icmp_lt (tgt := 77) hX dX5_lotsThatPlease_71 (by decide) (by omega) (by omega) (fun hc14 => ?_) (fun hc14 => ?_)
      · skip
        refine j_aload_n hX dX5_lotsThatPlease_77 rfl 5 rfl ?_
        refine gf_X5_12 hX (by omega) (by omega) kc_157 (fc_157_0 hI6) (by decide) dX5_lotsThatPlease_78 ?_
        refine j_callVV hX lk_X5_71 (c_X4_next _ _ _ _ _ 158 _ (by omega) hI6 (by omega)) (by omega) hce rfl rfl (by omega) (by omega) kc_158 rfl rfl (Nat.le_of_ble_eq_true rfl) dX5_lotsThatPlease_81 (fun M16 hp17 => ?_)
        obtain ⟨hI20, hG21⟩ := hp17
        have hk22 := kp_fr hG21 (by omega) hk10
        clear hk10
        have hF23 := Fr.trans hF11 hG21 (fun a b h => ⟨by omega, by omega⟩)
        refine j_iinc (lv' := [(5, _), (7, _), (6, _), (4, _), (3, _), (0, _), (1, _), (2, _)]) hX dX5_lotsThatPlease_84 2 rfl (by rw [hnL]; decide) rfl ?_
        refine j_goto (tgt := 18) hX dX5_lotsThatPlease_87 (by decide) ?_
        refine j_iload hX dX5_lotsThatPlease_18 0 rfl ?_
        refine j_iload hX dX5_lotsThatPlease_20 3 rfl ?_
        refine j_icmp_ge (tgt := 90) hX dX5_lotsThatPlease_22 (by decide) (by omega) (by omega) (fun hc24 => ?_) (fun hc24 => ?_)
        · skip
          refine j_iload_n hX dX5_lotsThatPlease_90 rfl 4 rfl ?_
          exact hret _ _ _ _ dX5_lotsThatPlease_91 rfl (by omega) ⟨hI20, hF23, by first | assumption | omega⟩
        · exfalso; omega
      · skip
        refine j_iinc (lv' := [(3, _), (7, _), (6, _), (5, _), (4, _), (0, _), (1, _), (2, _)]) hX dX5_lotsThatPlease_74 4 rfl (by rw [hnL]; decide) rfl ?_
        refine j_aload_n hX dX5_lotsThatPlease_77 rfl 5 rfl ?_
        refine gf_X5_12 hX (by omega) (by omega) kc_157 (fc_157_0 hI6) (by decide) dX5_lotsThatPlease_78 ?_
        refine j_callVV hX lk_X5_71 (c_X4_next _ _ _ _ _ 158 _ (by omega) hI6 (by omega)) (by omega) hce rfl rfl (by omega) (by omega) kc_158 rfl rfl (Nat.le_of_ble_eq_true rfl) dX5_lotsThatPlease_81 (fun M26 hp27 => ?_)
        obtain ⟨hI30, hG31⟩ := hp27
        have hk32 := kp_fr hG31 (by omega) hk10
        clear hk10
        have hF33 := Fr.trans hF11 hG31 (fun a b h => ⟨by omega, by omega⟩)
        refine j_iinc (lv' := [(5, _), (3, _), (7, _), (6, _), (4, _), (0, _), (1, _), (2, _)]) hX dX5_lotsThatPlease_84 3 rfl (by rw [hnL]; decide) rfl ?_
        refine j_goto (tgt := 18) hX dX5_lotsThatPlease_87 (by decide) ?_
        refine j_iload hX dX5_lotsThatPlease_18 0 rfl ?_
        refine j_iload hX dX5_lotsThatPlease_20 4 rfl ?_
        refine j_icmp_ge (tgt := 90) hX dX5_lotsThatPlease_22 (by decide) (by omega) (by omega) (fun hc34 => ?_) (fun hc34 => ?_)
        · skip
          refine j_iload_n hX dX5_lotsThatPlease_90 rfl 1 rfl ?_
          exact hret _ _ _ _ dX5_lotsThatPlease_91 rfl (by omega) ⟨hI30, hF33, by first | assumption | omega⟩
        · exfalso; omega
    · exfalso; omega
set_option maxHeartbeats 2000000 in
set_option maxRecDepth 20000 in
theorem cv_X5_bestLot (l : Launch) (D : va_G) (cy : Nat → ClassId) (B N : Nat) (q : Int) (nr : Int) (M : MM) (hN : 210 ≤ N) (hI : Iv M) (hq : q = 5 ∨ q = 180) (hnr : M.1 q 0 = nr) (hnb : 0 ≤ nr ∧ nr ≤ 6) (hz0 : nr = 0) : CI l D cy B N 3 yX5_bestLot cX5_bestLot 8 (some .int) [rv B 157, rv B q, rv B 179] M (fun z M' => Iv M' ∧ Fr (fun a (_ : Int) => (158 ≤ a ∧ a ≤ 159) ∨ (a = 179)) M M' ∧ (z = 0)) := by
  refine mk_CI (by decide) (Nat.le_of_ble_eq_true rfl) ?_
  intro X exl exD excy hnL hX hret
  have hce : 0 + 0 ≤ (xR X).cells ∧ 0 + 0 ≤ (xR X).slots := ⟨Nat.zero_le _, Nat.zero_le _⟩
  have hdq : 5 ≤ q ∧ q ≤ 180 := by omega
  have hF : Fr (fun a (_ : Int) => (158 ≤ a ∧ a ≤ 159) ∨ (a = 179)) M M := Fr.rf
  show J X B N 0 0 0 [(0, rv B 157), (1, rv B q), (2, rv B 179)] [] M
  refine j_iconst hX dX5_bestLot_0 ?_
  refine j_istore_n (lv' := [(3, _), (0, _), (1, _), (2, _)]) hX dX5_bestLot_1 rfl (by rw [hnL]; decide) rfl ?_
  refine j_aload_n hX dX5_bestLot_2 rfl 1 rfl ?_
  refine gf_X5_12 hX (by omega) (by omega) kc_157 (fc_157_0 hI) (by decide) dX5_bestLot_3 ?_
  refine j_aload_n hX dX5_bestLot_6 rfl 2 rfl ?_
  refine gf_X5_41 hX (by omega) (by omega) (kq hq) dX5_bestLot_7 ?_
  refine j_top hnr ?_
  refine j_callVI hX lk_X5_52 (cv_X4_first _ _ _ _ _ 158 _ _ (by omega) hI (by omega) (by omega) (by first | assumption | omega) (by first | assumption | omega)) (by omega) hce rfl rfl (by omega) (by omega) kc_158 rfl rfl (Nat.le_of_ble_eq_true rfl) dX5_bestLot_10 (fun z1 M2 hz4 hp3 => ?_)
  obtain ⟨hI6, hG7, hq8, hq9⟩ := hp3
  have hk10 := kp_fr hG7 (by omega) hnr
  have hF11 := Fr.trans hF hG7 (fun a b h => (Or.inl h))
  refine j_istore (lv' := [(4, _), (3, _), (0, _), (1, _), (2, _)]) hX dX5_bestLot_13 (by rw [hnL]; decide) rfl ?_
  refine j_iconst hX dX5_bestLot_15 ?_
  refine j_istore (lv' := [(5, _), (4, _), (3, _), (0, _), (1, _), (2, _)]) hX dX5_bestLot_16 (by rw [hnL]; decide) rfl ?_
  refine j_iload hX dX5_bestLot_18 0 rfl ?_
  refine j_iload hX dX5_bestLot_20 1 rfl ?_
  refine j_icmp_ge (tgt := 97) hX dX5_bestLot_22 (by decide) (by omega) (by omega) (fun hc12 => ?_) (fun hc12 => ?_)
  · exfalso; omega
  · skip
    refine j_iconst hX dX5_bestLot_25 ?_
    refine j_istore (lv' := [(6, _), (5, _), (4, _), (3, _), (0, _), (1, _), (2, _)]) hX dX5_bestLot_26 (by rw [hnL]; decide) rfl ?_
    refine j_iconst hX dX5_bestLot_28 ?_
    refine j_istore (lv' := [(7, _), (6, _), (5, _), (4, _), (3, _), (0, _), (1, _), (2, _)]) hX dX5_bestLot_29 (by rw [hnL]; decide) rfl ?_
    refine j_iload hX dX5_bestLot_31 0 rfl ?_
    refine j_aload_n hX dX5_bestLot_33 rfl 6 rfl ?_
    refine gf_X5_41 hX (by omega) (by omega) (kq hq) dX5_bestLot_34 ?_
    refine j_top hk10 ?_
    refine j_icmp_ge (tgt := 67) hX dX5_bestLot_37 (by decide) (by omega) (by omega) (fun hc13 => ?_) (fun hc13 => ?_)
    · skip
      refine j_iload hX dX5_bestLot_67 1 rfl ?_
      refine j_iload_n hX dX5_bestLot_69 rfl 4 rfl ?_
      refine j_icmp_le (tgt := 84) hX dX5_bestLot_70 (by decide) (by omega) (by omega) (fun hc14 => ?_) (fun hc14 => ?_)
      · exfalso; omega
      · skip
        refine j_iload hX dX5_bestLot_73 1 rfl ?_
        refine j_istore_n (lv' := [(3, _), (7, _), (6, _), (5, _), (4, _), (0, _), (1, _), (2, _)]) hX dX5_bestLot_75 rfl (by rw [hnL]; decide) rfl ?_
        refine j_aload_n hX dX5_bestLot_76 rfl 5 rfl ?_
        refine gf_X5_12 hX (by omega) (by omega) kc_157 (fc_157_0 hI6) (by decide) dX5_bestLot_77 ?_
        refine j_aload_n hX dX5_bestLot_80 rfl 7 rfl ?_
        refine j_callVV hX lk_X5_67 (c_X4_copyTo _ _ _ _ _ 158 _ (by omega) hI6 (by omega)) (by omega) hce rfl rfl (by omega) (by omega) kc_158 rfl rfl (Nat.le_of_ble_eq_true rfl) dX5_bestLot_81 (fun M16 hp17 => ?_)
        obtain ⟨hI20, hG21⟩ := hp17
        have hk22 := kp_fr hG21 (by omega) hk10
        clear hk10
        have hF23 := Fr.trans hF11 hG21 (fun a b h => (Or.inr h))
        refine j_aload_n hX dX5_bestLot_84 rfl 5 rfl ?_
        refine gf_X5_12 hX (by omega) (by omega) kc_157 (fc_157_0 hI20) (by decide) dX5_bestLot_85 ?_
        refine j_callVV hX lk_X5_71 (c_X4_next _ _ _ _ _ 158 _ (by omega) hI20 (by omega)) (by omega) hce rfl rfl (by omega) (by omega) kc_158 rfl rfl (Nat.le_of_ble_eq_true rfl) dX5_bestLot_88 (fun M25 hp26 => ?_)
        obtain ⟨hI29, hG30⟩ := hp26
        have hk31 := kp_fr hG30 (by omega) hk22
        clear hk22
        have hF32 := Fr.trans hF23 hG30 (fun a b h => (Or.inl ⟨by omega, by omega⟩))
        refine j_iinc (lv' := [(5, _), (3, _), (7, _), (6, _), (4, _), (0, _), (1, _), (2, _)]) hX dX5_bestLot_91 3 rfl (by rw [hnL]; decide) rfl ?_
        refine j_goto (tgt := 18) hX dX5_bestLot_94 (by decide) ?_
        refine j_iload hX dX5_bestLot_18 0 rfl ?_
        refine j_iload hX dX5_bestLot_20 4 rfl ?_
        refine j_icmp_ge (tgt := 97) hX dX5_bestLot_22 (by decide) (by omega) (by omega) (fun hc33 => ?_) (fun hc33 => ?_)
        · skip
          refine j_iload_n hX dX5_bestLot_97 rfl 1 rfl ?_
          exact hret _ _ _ _ dX5_bestLot_98 rfl (by omega) ⟨hI29, hF32, by first | assumption | omega⟩
        · exfalso; omega
    · exfalso; omega
set_option maxHeartbeats 2000000 in
set_option maxRecDepth 20000 in
theorem cv_X10_best (l : Launch) (D : va_G) (cy : Nat → ClassId) (B N : Nat) (q : Int) (nr : Int) (M : MM) (hN : 210 ≤ N) (hI : Iv M) (hq : q = 5 ∨ q = 180) (ht : M.1 0 8 = q) (hnr : M.1 q 0 = nr) (hnb : 0 ≤ nr ∧ nr ≤ 6) (hz0 : nr = 0) : CI l D cy B N 4 yX10_best cX10_best 1 (some .int) [rv B 0] M (fun z M' => Iv M' ∧ Fr (fun a b => (a = 0 ∧ 10 ≤ b ∧ b ≤ 10) ∨ (158 ≤ a ∧ a ≤ 159) ∨ (a = 179)) M M' ∧ (z = 0)) := by
  refine mk_CI (by decide) (Nat.le_of_ble_eq_true rfl) ?_
  intro X exl exD excy hnL hX hret
  have hce : 0 + 0 ≤ (xR X).cells ∧ 0 + 0 ≤ (xR X).slots := ⟨Nat.zero_le _, Nat.zero_le _⟩
  have hdq : 5 ≤ q ∧ q ≤ 180 := by omega
  have hF : Fr (fun a b => (a = 0 ∧ 10 ≤ b ∧ b ≤ 10) ∨ (158 ≤ a ∧ a ≤ 159) ∨ (a = 179)) M M := Fr.rf
  show J X B N 0 0 0 [(0, rv B 0)] [] M
  refine j_aload_n hX dX10_best_0 rfl 0 rfl ?_
  refine j_aload_n hX dX10_best_1 rfl 0 rfl ?_
  refine gf_X10_62 hX (by omega) (by omega) kc_0 ht (by omega) dX10_best_2 ?_
  refine gf_X10_111 hX (by omega) (by omega) (kq hq) dX10_best_5 ?_
  refine j_top hnr ?_
  refine pf_X10_70 hX (by omega) (by omega) kc_0 (by omega) dX10_best_8 ?_
  refine j_up hI ro_0_10 (by omega) (by omega) (Or.inl (by omega)) (fun M1 w2 hw3 hM4 hI5 hf6 => ?_)
  have hk7 := kp_up hM4 (fun h => absurd h.2 (by decide)) ht
  have hk8 := kp_up hM4 (by omega) hnr
  have hF9 := Fr.put hF hM4 ((Or.inl ⟨rfl, by decide, by decide⟩))
  refine j_aload_n hX dX10_best_11 rfl 0 rfl ?_
  refine gf_X10_44 hX (by omega) (by omega) kc_0 (fc_0_5 hI5) (by decide) dX10_best_12 ?_
  refine j_aload_n hX dX10_best_15 rfl 0 rfl ?_
  refine gf_X10_62 hX (by omega) (by omega) kc_0 hk7 (by omega) dX10_best_16 ?_
  refine j_aload_n hX dX10_best_19 rfl 0 rfl ?_
  refine gf_X10_55 hX (by omega) (by omega) kc_0 (fc_0_7 hI5) (by decide) dX10_best_20 ?_
  refine j_callVI hX lk_X10_240 (cv_X5_bestLot _ _ _ _ _ q _ _ (by omega) hI5 hq hk8 (by first | assumption | omega) (by first | assumption | omega)) (by omega) hce rfl rfl (by omega) (by omega) kc_157 rfl rfl (Nat.le_of_ble_eq_true rfl) dX10_best_23 (fun z10 M11 hz13 hp12 => ?_)
  obtain ⟨hI15, hG16, hq17⟩ := hp12
  have hk18 := kp_fr hG16 (fun h => h.elim (fun h => absurd h.1 (by decide)) (fun h => absurd h (by decide))) hk7
  have hk19 := kp_fr hG16 (by omega) hk8
  have hk20 := kp_fr hG16 (fun h => h.elim (fun h => absurd h.1 (by decide)) (fun h => absurd h (by decide))) hf6
  clear hk7 hk8 hf6
  have hF21 := Fr.trans hF9 hG16 (fun a b h => h.elim (fun h => (Or.inr (Or.inl h))) (fun h => (Or.inr (Or.inr h))))
  exact hret _ _ _ _ dX10_best_26 rfl (by omega) ⟨hI15, hF21, by first | assumption | omega⟩
set_option maxHeartbeats 2000000 in
set_option maxRecDepth 20000 in
theorem cv_X5_swapsTo (l : Launch) (D : va_G) (cy : Nat → ClassId) (B N : Nat) (a : Int) (M : MM) (hN : 210 ≤ N) (hI : Iv M) (hpa : I32 a) (h1 : 0 ≤ a ∧ a ≤ 6) (hz0 : a = 0) : CI l D cy B N 2 yX5_swapsTo cX5_swapsTo 6 (some .int) [rv B 157, rv B 159, iv a] M (fun z M' => Iv M' ∧ Fr (fun a (_ : Int) => (a = 162)) M M' ∧ (z = 0)) := by
  refine mk_CI (by decide) (Nat.le_of_ble_eq_true rfl) ?_
  intro X exl exD excy hnL hX hret
  have hce : 0 + 0 ≤ (xR X).cells ∧ 0 + 0 ≤ (xR X).slots := ⟨Nat.zero_le _, Nat.zero_le _⟩
  have hF : Fr (fun a (_ : Int) => (a = 162)) M M := Fr.rf
  show J X B N 0 0 0 [(0, rv B 157), (1, rv B 159), (2, iv a)] [] M
  refine j_iconst hX dX5_swapsTo_0 ?_
  refine j_istore_n (lv' := [(3, _), (0, _), (1, _), (2, _)]) hX dX5_swapsTo_1 rfl (by rw [hnL]; decide) rfl ?_
  refine j_iload_n hX dX5_swapsTo_2 rfl 0 rfl ?_
  refine j_iload_n hX dX5_swapsTo_3 rfl 3 rfl ?_
  refine j_icmp_ge (tgt := 27) hX dX5_swapsTo_4 (by decide) (by omega) (by omega) (fun hc1 => ?_) (fun hc1 => ?_)
  · skip
    refine j_iconst hX dX5_swapsTo_27 ?_
    refine j_istore_n (lv' := [(3, _), (0, _), (1, _), (2, _)]) hX dX5_swapsTo_28 rfl (by rw [hnL]; decide) rfl ?_
    refine j_iload_n hX dX5_swapsTo_29 rfl 3 rfl ?_
    refine j_istore (lv' := [(4, _), (3, _), (0, _), (1, _), (2, _)]) hX dX5_swapsTo_30 (by rw [hnL]; decide) rfl ?_
    refine j_iconst hX dX5_swapsTo_32 ?_
    refine j_istore (lv' := [(5, _), (4, _), (3, _), (0, _), (1, _), (2, _)]) hX dX5_swapsTo_33 (by rw [hnL]; decide) rfl ?_
    refine j_iload hX dX5_swapsTo_35 0 rfl ?_
    refine j_iload_n hX dX5_swapsTo_37 rfl 5 rfl ?_
    refine j_icmp_ge (tgt := 69) hX dX5_swapsTo_38 (by decide) (by omega) (by omega) (fun hc2 => ?_) (fun hc2 => ?_)
    · skip
      refine j_iload hX dX5_swapsTo_69 1 rfl ?_
      exact hret _ _ _ _ dX5_swapsTo_71 rfl (by omega) ⟨hI, hF, by first | assumption | omega⟩
    · exfalso; omega
  · exfalso; omega
set_option maxHeartbeats 2000000 in
set_option maxRecDepth 20000 in
theorem cv_X5_fewestSwaps (l : Launch) (D : va_G) (cy : Nat → ClassId) (B N : Nat) (q : Int) (s : Int) (nr : Int) (M : MM) (hN : 210 ≤ N) (hI : Iv M) (hq : q = 5 ∨ q = 180) (hs : Sc s) (hnr : M.1 q 0 = nr) (hV : V nr s M) (hnb : 0 ≤ nr ∧ nr ≤ 6) (hz0 : nr = 0) : CI l D cy B N 3 yX5_fewestSwaps cX5_fewestSwaps 8 (some .int) [rv B 157, rv B q, rv B s, rv B 179] M (fun z M' => Iv M' ∧ Fr (fun a (_ : Int) => (158 ≤ a ∧ a ≤ 159) ∨ (161 ≤ a ∧ a ≤ 163) ∨ (a = 179)) M M' ∧ (z = 0)) := by
  refine mk_CI (by decide) (Nat.le_of_ble_eq_true rfl) ?_
  intro X exl exD excy hnL hX hret
  have hce : 0 + 0 ≤ (xR X).cells ∧ 0 + 0 ≤ (xR X).slots := ⟨Nat.zero_le _, Nat.zero_le _⟩
  have hdq : 5 ≤ q ∧ q ≤ 180 := by omega
  have hbs := sc_b hs
  have hds : 28 ≤ s ∧ s ≤ 207 := by omega
  have hF : Fr (fun a (_ : Int) => (158 ≤ a ∧ a ≤ 159) ∨ (161 ≤ a ∧ a ≤ 163) ∨ (a = 179)) M M := Fr.rf
  show J X B N 0 0 0 [(0, rv B 157), (1, rv B q), (2, rv B s), (3, rv B 179)] [] M
  refine j_aload_n hX dX5_fewestSwaps_0 rfl 0 rfl ?_
  refine j_iconst hX dX5_fewestSwaps_1 ?_
  refine j_callVV hX lk_X5_37 (c_X5_allowAims _ _ _ _ _ _ _ (by omega) hI (by omega) (by first | assumption | omega)) (by omega) hce rfl rfl (by omega) (by omega) kc_157 rfl rfl (Nat.le_of_ble_eq_true rfl) dX5_fewestSwaps_2 (fun M2 hp3 => ?_)
  obtain ⟨hI6, hG7⟩ := hp3
  have hV8 := V_fr hV hG7 (fun b => by omega) (by omega)
  have hk9 := kp_fr hG7 (by omega) hnr
  have hF10 := Fr.trans hF hG7 (fun a b h => (Or.inr (Or.inl ⟨by omega, by omega⟩)))
  refine j_iconst hX dX5_fewestSwaps_5 ?_
  refine j_istore (lv' := [(4, _), (0, _), (1, _), (2, _), (3, _)]) hX dX5_fewestSwaps_6 (by rw [hnL]; decide) rfl ?_
  refine j_iload hX dX5_fewestSwaps_8 0 rfl ?_
  refine j_aload_n hX dX5_fewestSwaps_10 rfl 2 rfl ?_
  refine gf_X5_41 hX (by omega) (by omega) (kq hq) dX5_fewestSwaps_11 ?_
  refine j_top hk9 ?_
  refine j_icmp_ge (tgt := 37) hX dX5_fewestSwaps_14 (by decide) (by omega) (by omega) (fun hc11 => ?_) (fun hc11 => ?_)
  · skip
    refine j_aload_n hX dX5_fewestSwaps_37 rfl 2 rfl ?_
    refine gf_X5_41 hX (by omega) (by omega) (kq hq) dX5_fewestSwaps_38 ?_
    refine j_top hk9 ?_
    refine j_iconst hX dX5_fewestSwaps_41 ?_
    refine j_iadd hX dX5_fewestSwaps_42 ?_
    refine j_istore (lv' := [(4, _), (0, _), (1, _), (2, _), (3, _)]) hX dX5_fewestSwaps_43 (by rw [hnL]; decide) rfl ?_
    refine j_aload_n hX dX5_fewestSwaps_45 rfl 1 rfl ?_
    refine gf_X5_12 hX (by omega) (by omega) kc_157 (fc_157_0 hI6) (by decide) dX5_fewestSwaps_46 ?_
    refine j_aload_n hX dX5_fewestSwaps_49 rfl 2 rfl ?_
    refine gf_X5_41 hX (by omega) (by omega) (kq hq) dX5_fewestSwaps_50 ?_
    refine j_top hk9 ?_
    refine j_callVI hX lk_X5_52 (cv_X4_first _ _ _ _ _ 158 _ _ (by omega) hI6 (by omega) (by omega) (by first | assumption | omega) (by first | assumption | omega)) (by omega) hce rfl rfl (by omega) (by omega) kc_158 rfl rfl (Nat.le_of_ble_eq_true rfl) dX5_fewestSwaps_53 (fun z12 M13 hz15 hp14 => ?_)
    obtain ⟨hI17, hG18, hq19, hq20⟩ := hp14
    have hV21 := V_fr hV8 hG18 (fun b => by omega) (by omega)
    have hk22 := kp_fr hG18 (by omega) hk9
    clear hk9
    have hF23 := Fr.trans hF10 hG18 (fun a b h => (Or.inl h))
    have hrm : M13.1 158 1 = 0 := by omega
    refine j_istore (lv' := [(5, _), (4, _), (0, _), (1, _), (2, _), (3, _)]) hX dX5_fewestSwaps_56 (by rw [hnL]; decide) rfl ?_
    refine j_iconst hX dX5_fewestSwaps_58 ?_
    refine j_istore (lv' := [(6, _), (5, _), (4, _), (0, _), (1, _), (2, _), (3, _)]) hX dX5_fewestSwaps_59 (by rw [hnL]; decide) rfl ?_
    refine j_iload hX dX5_fewestSwaps_61 0 rfl ?_
    refine j_iload hX dX5_fewestSwaps_63 1 rfl ?_
    refine j_icmp_ge (tgt := 131) hX dX5_fewestSwaps_65 (by decide) (by omega) (by omega) (fun hc24 => ?_) (fun hc24 => ?_)
    · exfalso; omega
    · skip
      refine j_aload_n hX dX5_fewestSwaps_68 rfl 3 rfl ?_
      refine gf_X5_12 hX (by omega) (by omega) kc_157 (fc_157_0 hI17) (by decide) dX5_fewestSwaps_69 ?_
      refine j_aload_n hX dX5_fewestSwaps_72 rfl 3 rfl ?_
      refine gf_X5_22 hX (by omega) (by omega) kc_157 (fc_157_2 hI17) (by decide) dX5_fewestSwaps_73 ?_
      refine j_callVI hX lk_X5_56 (cv_X4_isAllowed _ _ _ _ _ 158 161 _ _ (by omega) hI17 (by omega) (by omega) hrm (by first | assumption | omega)) (by omega) hce rfl rfl (by omega) (by omega) kc_158 rfl rfl (Nat.le_of_ble_eq_true rfl) dX5_fewestSwaps_76 (fun z25 M26 hz28 hp27 => ?_)
      obtain ⟨hE29, hb30, hq31⟩ := hp27
      replace hE29 := hE29.symm
      subst hE29
      refine j_if_eq (tgt := 118) hX dX5_fewestSwaps_79 (by decide) (by omega) (fun hc32 => ?_) (fun hc32 => ?_)
      · exfalso; omega
      · skip
        refine j_aload_n hX dX5_fewestSwaps_82 rfl 3 rfl ?_
        refine j_aload_n hX dX5_fewestSwaps_83 rfl 3 rfl ?_
        refine gf_X5_12 hX (by omega) (by omega) kc_157 (fc_157_0 hI17) (by decide) dX5_fewestSwaps_84 ?_
        refine gf_X5_60 hX (by omega) (by omega) kc_158 (fc_158_0 hI17) (by decide) dX5_fewestSwaps_87 ?_
        refine j_aload_n hX dX5_fewestSwaps_90 rfl 4 rfl ?_
        refine gf_X5_41 hX (by omega) (by omega) (kq hq) dX5_fewestSwaps_91 ?_
        refine j_top hk22 ?_
        refine j_callVI hX lk_X5_63 (cv_X5_swapsTo _ _ _ _ _ _ _ (by omega) hI17 (by omega) (by first | assumption | omega) (by first | assumption | omega)) (by omega) hce rfl rfl (by omega) (by omega) kc_157 rfl rfl (Nat.le_of_ble_eq_true rfl) dX5_fewestSwaps_94 (fun z33 M34 hz36 hp35 => ?_)
        obtain ⟨hI38, hG39, hq40⟩ := hp35
        have hV41 := V_fr hV21 hG39 (fun b => by omega) (by omega)
        have hk42 := kp_fr hG39 (by omega) hk22
        have hk43 := kp_fr hG39 (fun h => absurd h (by decide)) hrm
        clear hk22
        have hF44 := Fr.trans hF23 hG39 (fun a b h => (Or.inr (Or.inl ⟨by omega, by omega⟩)))
        refine j_istore (lv' := [(7, _), (6, _), (5, _), (4, _), (0, _), (1, _), (2, _), (3, _)]) hX dX5_fewestSwaps_97 (by rw [hnL]; decide) rfl ?_
        refine j_iload hX dX5_fewestSwaps_99 0 rfl ?_
        refine j_iload hX dX5_fewestSwaps_101 3 rfl ?_
        refine j_icmp_ge (tgt := 118) hX dX5_fewestSwaps_103 (by decide) (by omega) (by omega) (fun hc45 => ?_) (fun hc45 => ?_)
        · exfalso; omega
        · skip
          refine j_iload hX dX5_fewestSwaps_106 0 rfl ?_
          refine j_istore (lv' := [(4, _), (7, _), (6, _), (5, _), (0, _), (1, _), (2, _), (3, _)]) hX dX5_fewestSwaps_108 (by rw [hnL]; decide) rfl ?_
          refine j_aload_n hX dX5_fewestSwaps_110 rfl 4 rfl ?_
          refine gf_X5_12 hX (by omega) (by omega) kc_157 (fc_157_0 hI38) (by decide) dX5_fewestSwaps_111 ?_
          refine j_aload_n hX dX5_fewestSwaps_114 rfl 7 rfl ?_
          refine j_callVV hX lk_X5_67 (c_X4_copyTo _ _ _ _ _ 158 _ (by omega) hI38 (by omega)) (by omega) hce rfl rfl (by omega) (by omega) kc_158 rfl rfl (Nat.le_of_ble_eq_true rfl) dX5_fewestSwaps_115 (fun M47 hp48 => ?_)
          obtain ⟨hI51, hG52⟩ := hp48
          have hV53 := V_fr hV41 hG52 (fun b => by omega) (by omega)
          have hk54 := kp_fr hG52 (by omega) hk42
          have hk55 := kp_fr hG52 (fun h => absurd h (by decide)) hk43
          clear hk42 hk43
          have hF56 := Fr.trans hF44 hG52 (fun a b h => (Or.inr (Or.inr h)))
          refine j_aload_n hX dX5_fewestSwaps_118 rfl 4 rfl ?_
          refine gf_X5_12 hX (by omega) (by omega) kc_157 (fc_157_0 hI51) (by decide) dX5_fewestSwaps_119 ?_
          refine j_callVV hX lk_X5_71 (c_X4_next _ _ _ _ _ 158 _ (by omega) hI51 (by omega)) (by omega) hce rfl rfl (by omega) (by omega) kc_158 rfl rfl (Nat.le_of_ble_eq_true rfl) dX5_fewestSwaps_122 (fun M58 hp59 => ?_)
          obtain ⟨hI62, hG63⟩ := hp59
          have hV64 := V_fr hV53 hG63 (fun b => by omega) (by omega)
          have hk65 := kp_fr hG63 (by omega) hk54
          have hk66 := kp_fr hG63 (fun h => absurd h (by decide)) hk55
          clear hk54 hk55
          have hF67 := Fr.trans hF56 hG63 (fun a b h => (Or.inl ⟨by omega, by omega⟩))
          refine j_iinc (lv' := [(6, _), (4, _), (7, _), (5, _), (0, _), (1, _), (2, _), (3, _)]) hX dX5_fewestSwaps_125 2 rfl (by rw [hnL]; decide) rfl ?_
          refine j_goto (tgt := 61) hX dX5_fewestSwaps_128 (by decide) ?_
          refine j_iload hX dX5_fewestSwaps_61 0 rfl ?_
          refine j_iload hX dX5_fewestSwaps_63 3 rfl ?_
          refine j_icmp_ge (tgt := 131) hX dX5_fewestSwaps_65 (by decide) (by omega) (by omega) (fun hc68 => ?_) (fun hc68 => ?_)
          · skip
            refine j_iload hX dX5_fewestSwaps_131 1 rfl ?_
            exact hret _ _ _ _ dX5_fewestSwaps_133 rfl (by omega) ⟨hI62, hF67, by first | assumption | omega⟩
          · exfalso; omega
  · exfalso; omega
set_option maxHeartbeats 2000000 in
set_option maxRecDepth 20000 in
theorem cv_X10_swaps (l : Launch) (D : va_G) (cy : Nat → ClassId) (B N : Nat) (q : Int) (nr : Int) (M : MM) (hN : 210 ≤ N) (hI : Iv M) (hq : q = 5 ∨ q = 180) (ht : M.1 0 8 = q) (hnr : M.1 q 0 = nr) (hVn : Vn nr M) (hnb : 0 ≤ nr ∧ nr ≤ 6) (hz0 : nr = 0) : CI l D cy B N 4 yX10_swaps cX10_swaps 1 (some .int) [rv B 0] M (fun z M' => Iv M' ∧ Fr (fun a b => (a = 0 ∧ 10 ≤ b ∧ b ≤ 10) ∨ (158 ≤ a ∧ a ≤ 159) ∨ (161 ≤ a ∧ a ≤ 163) ∨ (a = 179)) M M' ∧ (z = 0)) := by
  refine mk_CI (by decide) (Nat.le_of_ble_eq_true rfl) ?_
  intro X exl exD excy hnL hX hret
  have hce : 0 + 0 ≤ (xR X).cells ∧ 0 + 0 ≤ (xR X).slots := ⟨Nat.zero_le _, Nat.zero_le _⟩
  have hdq : 5 ≤ q ∧ q ≤ 180 := by omega
  have hF : Fr (fun a b => (a = 0 ∧ 10 ≤ b ∧ b ≤ 10) ∨ (158 ≤ a ∧ a ≤ 159) ∨ (161 ≤ a ∧ a ≤ 163) ∨ (a = 179)) M M := Fr.rf
  show J X B N 0 0 0 [(0, rv B 0)] [] M
  refine j_aload_n hX dX10_swaps_0 rfl 0 rfl ?_
  refine j_aload_n hX dX10_swaps_1 rfl 0 rfl ?_
  refine gf_X10_62 hX (by omega) (by omega) kc_0 ht (by omega) dX10_swaps_2 ?_
  refine gf_X10_111 hX (by omega) (by omega) (kq hq) dX10_swaps_5 ?_
  refine j_top hnr ?_
  refine pf_X10_70 hX (by omega) (by omega) kc_0 (by omega) dX10_swaps_8 ?_
  refine j_up hI ro_0_10 (by omega) (by omega) (Or.inl (by omega)) (fun M1 w2 hw3 hM4 hI5 hf6 => ?_)
  have hV7 := Vn_up hVn hI hM4 (by omega)
  have hk8 := kp_up hM4 (fun h => absurd h.2 (by decide)) ht
  have hk9 := kp_up hM4 (by omega) hnr
  have hF10 := Fr.put hF hM4 ((Or.inl ⟨rfl, by decide, by decide⟩))
  refine j_aload_n hX dX10_swaps_11 rfl 0 rfl ?_
  refine gf_X10_44 hX (by omega) (by omega) kc_0 (fc_0_5 hI5) (by decide) dX10_swaps_12 ?_
  refine j_aload_n hX dX10_swaps_15 rfl 0 rfl ?_
  refine gf_X10_62 hX (by omega) (by omega) kc_0 hk8 (by omega) dX10_swaps_16 ?_
  refine j_aload_n hX dX10_swaps_19 rfl 0 rfl ?_
  refine gf_X10_19 hX (by omega) (by omega) kc_0 (fc_0_1 hI5) (by decide) dX10_swaps_20 ?_
  refine j_callVR hX lk_X10_124 (c_X0_now _ _ _ _ _ _ (by omega) hI5) (by omega) hce rfl rfl (by omega) (by omega) kc_26 rfl rfl (Nat.le_of_ble_eq_true rfl) dX10_swaps_23 (fun sw M11 hz13 hp12 => ?_)
  obtain ⟨hE14, hq15, hq16⟩ := hp12
  replace hE14 := hE14.symm
  subst hE14
  have hV17 : V nr sw M1 := by rw [hq16]; exact hV7
  have hsw : Sc sw := hq15
  have hbsw := sc_b hsw
  have hdsw : 28 ≤ sw ∧ sw ≤ 207 := by omega
  refine j_aload_n hX dX10_swaps_26 rfl 0 rfl ?_
  refine gf_X10_55 hX (by omega) (by omega) kc_0 (fc_0_7 hI5) (by decide) dX10_swaps_27 ?_
  refine j_callVI hX lk_X10_233 (cv_X5_fewestSwaps _ _ _ _ _ q sw _ _ (by omega) hI5 hq hsw hk9 (by first | assumption | omega) (by first | assumption | omega) (by first | assumption | omega)) (by omega) hce rfl rfl (by omega) (by omega) kc_157 rfl rfl (Nat.le_of_ble_eq_true rfl) dX10_swaps_30 (fun z18 M19 hz21 hp20 => ?_)
  obtain ⟨hI23, hG24, hq25⟩ := hp20
  have hV26 := Vn_fr hV7 hI5 hG24 (fun a b h => by omega)
  have hV27 := V_fr hV17 hG24 (fun b => by omega) (by omega)
  have hk28 := kp_fr hG24 (fun h => h.elim (fun h => absurd h.1 (by decide)) (fun h => h.elim (fun h => absurd h.1 (by decide)) (fun h => absurd h (by decide)))) hk8
  have hk29 := kp_fr hG24 (by omega) hk9
  have hk30 := kp_fr hG24 (fun h => h.elim (fun h => absurd h.1 (by decide)) (fun h => h.elim (fun h => absurd h.1 (by decide)) (fun h => absurd h (by decide)))) hf6
  clear hk8 hk9 hf6
  have hF31 := Fr.trans hF10 hG24 (fun a b h => h.elim (fun h => (Or.inr (Or.inl h))) (fun h => h.elim (fun h => (Or.inr (Or.inr (Or.inl h)))) (fun h => (Or.inr (Or.inr (Or.inr h))))))
  exact hret _ _ _ _ dX10_swaps_33 rfl (by omega) ⟨hI23, hF31, by first | assumption | omega⟩
set_option maxHeartbeats 2000000 in
set_option maxRecDepth 20000 in
theorem cv_X5_tradeInRings (l : Launch) (D : va_G) (cy : Nat → ClassId) (B N : Nat) (q : Int) (s : Int) (nr : Int) (M : MM) (hN : 210 ≤ N) (hI : Iv M) (hq : q = 5 ∨ q = 180) (hs : Sc s) (hnr : M.1 q 0 = nr) (hV : V nr s M) (hnb : 0 ≤ nr ∧ nr ≤ 6) (hz0 : nr = 0) : CI l D cy B N 4 yX5_tradeInRings cX5_tradeInRings 10 (some .int) [rv B 157, rv B q, rv B s, rv B 179] M (fun z M' => Iv M' ∧ Fr (fun a (_ : Int) => (a = 162) ∨ (a = 179)) M M' ∧ (z = 0)) := by
  refine mk_CI (by decide) (Nat.le_of_ble_eq_true rfl) ?_
  intro X exl exD excy hnL hX hret
  have hce : 0 + 0 ≤ (xR X).cells ∧ 0 + 0 ≤ (xR X).slots := ⟨Nat.zero_le _, Nat.zero_le _⟩
  have hdq : 5 ≤ q ∧ q ≤ 180 := by omega
  have hbs := sc_b hs
  have hds : 28 ≤ s ∧ s ≤ 207 := by omega
  have hF : Fr (fun a (_ : Int) => (a = 162) ∨ (a = 179)) M M := Fr.rf
  show J X B N 0 0 0 [(0, rv B 157), (1, rv B q), (2, rv B s), (3, rv B 179)] [] M
  refine j_aload_n hX dX5_tradeInRings_0 rfl 1 rfl ?_
  refine j_callVI hX lk_X5_78 (cv_X6_allRooms _ _ _ _ _ q _ _ (by omega) hI hq hnr (by first | assumption | omega) (by first | assumption | omega)) (by omega) hce rfl rfl (by omega) (by omega) (kq hq) rfl rfl (Nat.le_of_ble_eq_true rfl) dX5_tradeInRings_1 (fun z1 M2 hz4 hp3 => ?_)
  obtain ⟨hE5, hq6, hq7, hq8⟩ := hp3
  replace hE5 := hE5.symm
  subst hE5
  have hV9 := (Or.inl hq7 : PU z1 nr M)
  refine j_istore (lv' := [(4, _), (0, _), (1, _), (2, _), (3, _)]) hX dX5_tradeInRings_4 (by rw [hnL]; decide) rfl ?_
  refine j_iconst hX dX5_tradeInRings_6 ?_
  refine j_istore (lv' := [(5, _), (4, _), (0, _), (1, _), (2, _), (3, _)]) hX dX5_tradeInRings_7 (by rw [hnL]; decide) rfl ?_
  refine j_iconst hX dX5_tradeInRings_9 ?_
  refine j_istore (lv' := [(6, _), (5, _), (4, _), (0, _), (1, _), (2, _), (3, _)]) hX dX5_tradeInRings_10 (by rw [hnL]; decide) rfl ?_
  refine j_iload hX dX5_tradeInRings_12 0 rfl ?_
  refine j_aload_n hX dX5_tradeInRings_14 rfl 4 rfl ?_
  refine gf_X5_41 hX (by omega) (by omega) (kq hq) dX5_tradeInRings_15 ?_
  refine j_top hnr ?_
  refine j_icmp_ge (tgt := 150) hX dX5_tradeInRings_18 (by decide) (by omega) (by omega) (fun hc10 => ?_) (fun hc10 => ?_)
  · skip
    refine j_iload hX dX5_tradeInRings_150 1 rfl ?_
    exact hret _ _ _ _ dX5_tradeInRings_152 rfl (by omega) ⟨hI, hF, by first | assumption | omega⟩
  · exfalso; omega
set_option maxHeartbeats 2000000 in
set_option maxRecDepth 20000 in
theorem cv_X10_rings (l : Launch) (D : va_G) (cy : Nat → ClassId) (B N : Nat) (q : Int) (nr : Int) (M : MM) (hN : 210 ≤ N) (hI : Iv M) (hq : q = 5 ∨ q = 180) (ht : M.1 0 8 = q) (hnr : M.1 q 0 = nr) (hVn : Vn nr M) (hnb : 0 ≤ nr ∧ nr ≤ 6) (hz0 : nr = 0) : CI l D cy B N 5 yX10_rings cX10_rings 1 (some .int) [rv B 0] M (fun z M' => Iv M' ∧ Fr (fun a b => (a = 0 ∧ 10 ≤ b ∧ b ≤ 10) ∨ (a = 162) ∨ (a = 179)) M M' ∧ (z = 0)) := by
  refine mk_CI (by decide) (Nat.le_of_ble_eq_true rfl) ?_
  intro X exl exD excy hnL hX hret
  have hce : 0 + 0 ≤ (xR X).cells ∧ 0 + 0 ≤ (xR X).slots := ⟨Nat.zero_le _, Nat.zero_le _⟩
  have hdq : 5 ≤ q ∧ q ≤ 180 := by omega
  have hF : Fr (fun a b => (a = 0 ∧ 10 ≤ b ∧ b ≤ 10) ∨ (a = 162) ∨ (a = 179)) M M := Fr.rf
  show J X B N 0 0 0 [(0, rv B 0)] [] M
  refine j_aload_n hX dX10_rings_0 rfl 0 rfl ?_
  refine j_aload_n hX dX10_rings_1 rfl 0 rfl ?_
  refine gf_X10_62 hX (by omega) (by omega) kc_0 ht (by omega) dX10_rings_2 ?_
  refine gf_X10_111 hX (by omega) (by omega) (kq hq) dX10_rings_5 ?_
  refine j_top hnr ?_
  refine pf_X10_70 hX (by omega) (by omega) kc_0 (by omega) dX10_rings_8 ?_
  refine j_up hI ro_0_10 (by omega) (by omega) (Or.inl (by omega)) (fun M1 w2 hw3 hM4 hI5 hf6 => ?_)
  have hV7 := Vn_up hVn hI hM4 (by omega)
  have hk8 := kp_up hM4 (fun h => absurd h.2 (by decide)) ht
  have hk9 := kp_up hM4 (by omega) hnr
  have hF10 := Fr.put hF hM4 ((Or.inl ⟨rfl, by decide, by decide⟩))
  refine j_aload_n hX dX10_rings_11 rfl 0 rfl ?_
  refine gf_X10_44 hX (by omega) (by omega) kc_0 (fc_0_5 hI5) (by decide) dX10_rings_12 ?_
  refine j_aload_n hX dX10_rings_15 rfl 0 rfl ?_
  refine gf_X10_62 hX (by omega) (by omega) kc_0 hk8 (by omega) dX10_rings_16 ?_
  refine j_aload_n hX dX10_rings_19 rfl 0 rfl ?_
  refine gf_X10_19 hX (by omega) (by omega) kc_0 (fc_0_1 hI5) (by decide) dX10_rings_20 ?_
  refine j_callVR hX lk_X10_124 (c_X0_now _ _ _ _ _ _ (by omega) hI5) (by omega) hce rfl rfl (by omega) (by omega) kc_26 rfl rfl (Nat.le_of_ble_eq_true rfl) dX10_rings_23 (fun sw M11 hz13 hp12 => ?_)
  obtain ⟨hE14, hq15, hq16⟩ := hp12
  replace hE14 := hE14.symm
  subst hE14
  have hV17 : V nr sw M1 := by rw [hq16]; exact hV7
  have hsw : Sc sw := hq15
  have hbsw := sc_b hsw
  have hdsw : 28 ≤ sw ∧ sw ≤ 207 := by omega
  refine j_aload_n hX dX10_rings_26 rfl 0 rfl ?_
  refine gf_X10_55 hX (by omega) (by omega) kc_0 (fc_0_7 hI5) (by decide) dX10_rings_27 ?_
  refine j_callVI hX lk_X10_237 (cv_X5_tradeInRings _ _ _ _ _ q sw _ _ (by omega) hI5 hq hsw hk9 (by first | assumption | omega) (by first | assumption | omega) (by first | assumption | omega)) (by omega) hce rfl rfl (by omega) (by omega) kc_157 rfl rfl (Nat.le_of_ble_eq_true rfl) dX10_rings_30 (fun z18 M19 hz21 hp20 => ?_)
  obtain ⟨hI23, hG24, hq25⟩ := hp20
  have hV26 := Vn_fr hV7 hI5 hG24 (fun a b h => by omega)
  have hV27 := V_fr hV17 hG24 (fun b => by omega) (by omega)
  have hk28 := kp_fr hG24 (fun h => h.elim (fun h => absurd h (by decide)) (fun h => absurd h (by decide))) hk8
  have hk29 := kp_fr hG24 (by omega) hk9
  have hk30 := kp_fr hG24 (fun h => h.elim (fun h => absurd h (by decide)) (fun h => absurd h (by decide))) hf6
  clear hk8 hk9 hf6
  have hF31 := Fr.trans hF10 hG24 (fun a b h => h.elim (fun h => (Or.inr (Or.inl h))) (fun h => (Or.inr (Or.inr h))))
  exact hret _ _ _ _ dX10_rings_33 rfl (by omega) ⟨hI23, hF31, by first | assumption | omega⟩
set_option maxHeartbeats 2000000 in
set_option maxRecDepth 20000 in
theorem cv_X3_tally (l : Launch) (D : va_G) (cy : Nat → ClassId) (B N : Nat) (a : Int) (b : Int) (M : MM) (hN : 210 ≤ N) (hI : Iv M) (hpa : I32 a) (hpb : I32 b) (h1 : 0 ≤ a ∧ a ≤ 6) (hz0 : a = 0) : CI l D cy B N 3 yX3_tally cX3_tally 7 (some .int) [rv B 164, iv a, iv b] M (fun z M' => Iv M' ∧ Fr (fun a (_ : Int) => (165 ≤ a ∧ a ≤ 166) ∨ (171 ≤ a ∧ a ≤ 178)) M M' ∧ (z = 1)) := by
  refine mk_CI (by decide) (Nat.le_of_ble_eq_true rfl) ?_
  intro X exl exD excy hnL hX hret
  have hce : 0 + 0 ≤ (xR X).cells ∧ 0 + 0 ≤ (xR X).slots := ⟨Nat.zero_le _, Nat.zero_le _⟩
  have hF : Fr (fun a (_ : Int) => (165 ≤ a ∧ a ≤ 166) ∨ (171 ≤ a ∧ a ≤ 178)) M M := Fr.rf
  have cp : ∀ n : Nat, (∀ (x3 : Int), ∀ (Mc : MM), I32 x3 → Iv Mc → Fr (fun a (_ : Int) => (165 ≤ a ∧ a ≤ 166) ∨ (171 ≤ a ∧ a ≤ 178)) M Mc → (0 ≤ x3 ∧ x3 ≤ 6) → 0 ≤ 32 * (100000000000 + 6 - x3) + 1 → 32 * (100000000000 + 6 - x3) + 1 < (n : Int) → J X B N 0 0 7 [(0, rv B 164), (1, iv a), (2, iv b), (3, iv x3)] [] Mc) := by
    intro n
    induction n with
    | zero => exact by intros; exfalso; omega
    | succ n ih =>
      · intro x3 Mc hxx3 hI hF h2 hm0 hm1
        refine j_iload_n hX dX3_tally_7 rfl 3 rfl ?_
        refine j_bipush hX dX3_tally_8 rfl ?_
        refine j_icmp_ge (tgt := 29) hX dX3_tally_10 (by decide) (by omega) (by omega) (fun hc1 => ?_) (fun hc1 => ?_)
        · skip
          refine j_iconst hX dX3_tally_29 ?_
          refine j_istore_n (lv' := [(3, _), (0, _), (1, _), (2, _)]) hX dX3_tally_30 rfl (by rw [hnL]; decide) rfl ?_
          refine j_aload_n hX dX3_tally_31 rfl 1 rfl ?_
          refine gf_X3_12 hX (by omega) (by omega) kc_164 (fc_164_0 hI) (by decide) dX3_tally_32 ?_
          refine j_iload_n hX dX3_tally_35 rfl 2 rfl ?_
          refine j_callVI hX lk_X3_60 (cv_X4_first _ _ _ _ _ 165 _ _ (by omega) hI (by omega) (by omega) (by first | assumption | omega) (by first | assumption | omega)) (by omega) hce rfl rfl (by omega) (by omega) kc_165 rfl rfl (Nat.le_of_ble_eq_true rfl) dX3_tally_36 (fun z2 M3 hz5 hp4 => ?_)
          obtain ⟨hI7, hG8, hq9, hq10⟩ := hp4
          have hF11 := Fr.trans hF hG8 (fun a b h => (Or.inl h))
          have hrm : M3.1 165 1 = 0 := by omega
          refine j_istore (lv' := [(4, _), (3, _), (0, _), (1, _), (2, _)]) hX dX3_tally_39 (by rw [hnL]; decide) rfl ?_
          refine j_iconst hX dX3_tally_41 ?_
          refine j_istore (lv' := [(5, _), (4, _), (3, _), (0, _), (1, _), (2, _)]) hX dX3_tally_42 (by rw [hnL]; decide) rfl ?_
          refine j_iload hX dX3_tally_44 0 rfl ?_
          refine j_iload hX dX3_tally_46 1 rfl ?_
          refine j_icmp_ge (tgt := 118) hX dX3_tally_48 (by decide) (by omega) (by omega) (fun hc12 => ?_) (fun hc12 => ?_)
          · exfalso; omega
          · skip
            refine j_aload_n hX dX3_tally_51 rfl 3 rfl ?_
            refine gf_X3_12 hX (by omega) (by omega) kc_164 (fc_164_0 hI7) (by decide) dX3_tally_52 ?_
            refine j_aload_n hX dX3_tally_55 rfl 3 rfl ?_
            refine gf_X3_31 hX (by omega) (by omega) kc_164 (fc_164_5 hI7) (by decide) dX3_tally_56 ?_
            refine j_callVI hX lk_X3_64 (cv_X4_isAllowed _ _ _ _ _ 165 171 _ _ (by omega) hI7 (by omega) (by omega) hrm (by first | assumption | omega)) (by omega) hce rfl rfl (by omega) (by omega) kc_165 rfl rfl (Nat.le_of_ble_eq_true rfl) dX3_tally_59 (fun z13 M14 hz16 hp15 => ?_)
            obtain ⟨hE17, hb18, hq19⟩ := hp15
            replace hE17 := hE17.symm
            subst hE17
            refine j_if_eq (tgt := 105) hX dX3_tally_62 (by decide) (by omega) (fun hc20 => ?_) (fun hc20 => ?_)
            · exfalso; omega
            · skip
              refine j_iinc (lv' := [(3, _), (5, _), (4, _), (0, _), (1, _), (2, _)]) hX dX3_tally_65 2 rfl (by rw [hnL]; decide) rfl ?_
              refine j_iconst hX dX3_tally_68 ?_
              refine j_istore (lv' := [(6, _), (3, _), (5, _), (4, _), (0, _), (1, _), (2, _)]) hX dX3_tally_69 (by rw [hnL]; decide) rfl ?_
              refine j_iload hX dX3_tally_71 0 rfl ?_
              refine j_iload_n hX dX3_tally_73 rfl 5 rfl ?_
              refine j_icmp_ge (tgt := 105) hX dX3_tally_74 (by decide) (by omega) (by omega) (fun hc21 => ?_) (fun hc21 => ?_)
              · skip
                refine j_aload_n hX dX3_tally_105 rfl 4 rfl ?_
                refine gf_X3_12 hX (by omega) (by omega) kc_164 (fc_164_0 hI7) (by decide) dX3_tally_106 ?_
                refine j_callVV hX lk_X3_71 (c_X4_next _ _ _ _ _ 165 _ (by omega) hI7 (by omega)) (by omega) hce rfl rfl (by omega) (by omega) kc_165 rfl rfl (Nat.le_of_ble_eq_true rfl) dX3_tally_109 (fun M23 hp24 => ?_)
                obtain ⟨hI27, hG28⟩ := hp24
                have hk29 := kp_fr hG28 (fun h => absurd h (by decide)) hrm
                have hF30 := Fr.trans hF11 hG28 (fun a b h => (Or.inl ⟨by omega, by omega⟩))
                refine j_iinc (lv' := [(5, _), (6, _), (3, _), (4, _), (0, _), (1, _), (2, _)]) hX dX3_tally_112 2 rfl (by rw [hnL]; decide) rfl ?_
                refine j_goto (tgt := 44) hX dX3_tally_115 (by decide) ?_
                refine j_iload hX dX3_tally_44 0 rfl ?_
                refine j_iload hX dX3_tally_46 3 rfl ?_
                refine j_icmp_ge (tgt := 118) hX dX3_tally_48 (by decide) (by omega) (by omega) (fun hc31 => ?_) (fun hc31 => ?_)
                · skip
                  refine j_iload_n hX dX3_tally_118 rfl 2 rfl ?_
                  exact hret _ _ _ _ dX3_tally_119 rfl (by omega) ⟨hI27, hF30, by first | assumption | omega⟩
                · exfalso; omega
              · exfalso; omega
        · skip
          refine j_aload_n hX dX3_tally_13 rfl 0 rfl ?_
          refine gf_X3_36 hX (by omega) (by omega) kc_164 (fc_164_6 hI) (by decide) dX3_tally_14 ?_
          refine j_iload_n hX dX3_tally_17 rfl 3 rfl ?_
          refine j_aald5 hX (by omega) (by omega) kc_172 (by omega) (by omega) (by omega) (ftl hI (by omega) (by omega)) (by omega) dX3_tally_18 ?_
          refine j_iconst hX dX3_tally_19 ?_
          refine j_callSV hX lk_X3_46 (c_J7_fill_53178 _ _ _ _ _ _ _ _ _ _ _ (by omega) hI (by omega) ((kt (by omega) (by omega))) (fun j => (at_ (by omega) (by omega) j)) (⟨by omega, by omega, by omega⟩) (by omega) (by omega)) (by omega) hce rfl rfl (Nat.le_of_ble_eq_true rfl) dX3_tally_20 (fun M33 hp34 => ?_)
          obtain ⟨hI37, hG38⟩ := hp34
          have hF39 := Fr.trans hF hG38 (fun a b h => (Or.inr ⟨by omega, by omega⟩))
          refine j_iinc (lv' := [(3, _), (0, _), (1, _), (2, _)]) hX dX3_tally_23 3 rfl (by rw [hnL]; decide) rfl ?_
          refine j_goto (tgt := 7) hX dX3_tally_26 (by decide) ?_
          refine j_sub [1, 2, 3, 0] rfl ?_
          exact ih _ _ (by omega) hI37 hF39 (by first | assumption | omega) (by omega) (by omega)
  show J X B N 0 0 0 [(0, rv B 164), (1, iv a), (2, iv b)] [] M
  refine j_aload_n hX dX3_tally_0 rfl 0 rfl ?_
  refine j_iload_n hX dX3_tally_1 rfl 2 rfl ?_
  refine j_callVV hX lk_X3_56 (c_X3_allowAsKnown _ _ _ _ _ _ _ (by omega) hI (by omega)) (by omega) hce rfl rfl (by omega) (by omega) kc_164 rfl rfl (Nat.le_of_ble_eq_true rfl) dX3_tally_2 (fun M41 hp42 => ?_)
  obtain ⟨hI45, hG46⟩ := hp42
  have hF47 := Fr.trans hF hG46 (fun a b h => (Or.inr ⟨by omega, by omega⟩))
  refine j_iconst hX dX3_tally_5 ?_
  refine j_istore_n (lv' := [(3, _), (0, _), (1, _), (2, _)]) hX dX3_tally_6 rfl (by rw [hnL]; decide) rfl ?_
  refine j_sub [1, 2, 3, 0] rfl ?_
  refine (cp (Int.toNat (6400000000064 + 1))) _ _ (by omega) hI45 hF47 (by first | assumption | omega) ?_ ?_
  · omega
  · omega
set_option maxHeartbeats 2000000 in
set_option maxRecDepth 20000 in
theorem cv_X10_lots (l : Launch) (D : va_G) (cy : Nat → ClassId) (B N : Nat) (q : Int) (nr : Int) (a : Int) (M : MM) (hN : 210 ≤ N) (hI : Iv M) (hpa : I32 a) (hq : q = 5 ∨ q = 180) (ht : M.1 0 8 = q) (hnr : M.1 q 0 = nr) (hz0 : nr = 0) : CI l D cy B N 4 yX10_lots cX10_lots 2 (some .int) [rv B 0, iv a] M (fun z M' => Iv M' ∧ Fr (fun a (_ : Int) => (165 ≤ a ∧ a ≤ 166) ∨ (171 ≤ a ∧ a ≤ 178)) M M' ∧ (z = 1)) := by
  refine mk_CI (by decide) (Nat.le_of_ble_eq_true rfl) ?_
  intro X exl exD excy hnL hX hret
  have hce : 0 + 0 ≤ (xR X).cells ∧ 0 + 0 ≤ (xR X).slots := ⟨Nat.zero_le _, Nat.zero_le _⟩
  have hdq : 5 ≤ q ∧ q ≤ 180 := by omega
  have hF : Fr (fun a (_ : Int) => (165 ≤ a ∧ a ≤ 166) ∨ (171 ≤ a ∧ a ≤ 178)) M M := Fr.rf
  show J X B N 0 0 0 [(0, rv B 0), (1, iv a)] [] M
  refine j_aload_n hX dX10_lots_0 rfl 0 rfl ?_
  refine gf_X10_51 hX (by omega) (by omega) kc_0 (fc_0_6 hI) (by decide) dX10_lots_1 ?_
  refine j_aload_n hX dX10_lots_4 rfl 0 rfl ?_
  refine gf_X10_62 hX (by omega) (by omega) kc_0 ht (by omega) dX10_lots_5 ?_
  refine gf_X10_111 hX (by omega) (by omega) (kq hq) dX10_lots_8 ?_
  refine j_top hnr ?_
  refine j_iload_n hX dX10_lots_11 rfl 1 rfl ?_
  refine j_callVI hX lk_X10_281 (cv_X3_tally _ _ _ _ _ _ _ _ (by omega) hI (by omega) (by omega) (by first | assumption | omega) (by first | assumption | omega)) (by omega) hce rfl rfl (by omega) (by omega) kc_164 rfl rfl (Nat.le_of_ble_eq_true rfl) dX10_lots_12 (fun z1 M2 hz4 hp3 => ?_)
  obtain ⟨hI6, hG7, hq8⟩ := hp3
  have hk9 := kp_fr hG7 (fun h => h.elim (fun h => absurd h.1 (by decide)) (fun h => absurd h.1 (by decide))) ht
  have hk10 := kp_fr hG7 (by omega) hnr
  have hF11 := Fr.trans hF hG7 (fun a b h => h.elim (fun h => (Or.inl h)) (fun h => (Or.inr h)))
  exact hret _ _ _ _ dX10_lots_15 rfl (by omega) ⟨hI6, hF11, by first | assumption | omega⟩
set_option maxHeartbeats 2000000 in
set_option maxRecDepth 20000 in
theorem cv_X10_ask (l : Launch) (D : va_G) (cy : Nat → ClassId) (B N : Nat) (q : Int) (nr : Int) (a : Int) (b : Int) (M : MM) (hN : 210 ≤ N) (hI : Iv M) (hpa : I32 a) (hpb : I32 b) (hq : q = 5 ∨ q = 180) (ht : M.1 0 8 = q) (hnr : M.1 q 0 = nr) (hnb : 0 ≤ nr ∧ nr ≤ 6) (hz0 : nr = 0) : CI l D cy B N 4 yX10_ask cX10_ask 7 (some .int) [rv B 0, iv a, iv b] M (fun z M' => Iv M' ∧ Fr (fun a (_ : Int) => (165 ≤ a ∧ a ≤ 166) ∨ (171 ≤ a ∧ a ≤ 178)) M M' ∧ (z = -1)) := by
  refine mk_CI (by decide) (Nat.le_of_ble_eq_true rfl) ?_
  intro X exl exD excy hnL hX hret
  have hce : 0 + 0 ≤ (xR X).cells ∧ 0 + 0 ≤ (xR X).slots := ⟨Nat.zero_le _, Nat.zero_le _⟩
  have hdq : 5 ≤ q ∧ q ≤ 180 := by omega
  have hF : Fr (fun a (_ : Int) => (165 ≤ a ∧ a ≤ 166) ∨ (171 ≤ a ∧ a ≤ 178)) M M := Fr.rf
  show J X B N 0 0 0 [(0, rv B 0), (1, iv a), (2, iv b)] [] M
  refine j_iload_n hX dX10_ask_0 rfl 1 rfl ?_
  refine j_if_lt (tgt := 27) hX dX10_ask_1 (by decide) (by omega) (fun hc1 => ?_) (fun hc1 => ?_)
  · skip
    refine j_iconst hX dX10_ask_27 ?_
    exact hret _ _ _ _ dX10_ask_28 rfl (by omega) ⟨hI, hF, by first | assumption | omega⟩
  · skip
    refine j_iload_n hX dX10_ask_4 rfl 1 rfl ?_
    refine j_iconst hX dX10_ask_5 ?_
    refine j_icmp_gt (tgt := 27) hX dX10_ask_6 (by decide) (by omega) (by omega) (fun hc2 => ?_) (fun hc2 => ?_)
    · skip
      refine j_iconst hX dX10_ask_27 ?_
      exact hret _ _ _ _ dX10_ask_28 rfl (by omega) ⟨hI, hF, by first | assumption | omega⟩
    · skip
      refine j_aload_n hX dX10_ask_9 rfl 0 rfl ?_
      refine gf_X10_51 hX (by omega) (by omega) kc_0 (fc_0_6 hI) (by decide) dX10_ask_10 ?_
      refine j_aload_n hX dX10_ask_13 rfl 0 rfl ?_
      refine gf_X10_62 hX (by omega) (by omega) kc_0 ht (by omega) dX10_ask_14 ?_
      refine gf_X10_111 hX (by omega) (by omega) (kq hq) dX10_ask_17 ?_
      refine j_top hnr ?_
      refine j_iload_n hX dX10_ask_20 rfl 2 rfl ?_
      refine j_callVI hX lk_X10_281 (cv_X3_tally _ _ _ _ _ _ _ _ (by omega) hI (by omega) (by omega) (by first | assumption | omega) (by first | assumption | omega)) (by omega) hce rfl rfl (by omega) (by omega) kc_164 rfl rfl (Nat.le_of_ble_eq_true rfl) dX10_ask_21 (fun z3 M4 hz6 hp5 => ?_)
      obtain ⟨hI8, hG9, hq10⟩ := hp5
      have hk11 := kp_fr hG9 (fun h => h.elim (fun h => absurd h.1 (by decide)) (fun h => absurd h.1 (by decide))) ht
      have hk12 := kp_fr hG9 (by omega) hnr
      have hF13 := Fr.trans hF hG9 (fun a b h => h.elim (fun h => (Or.inl h)) (fun h => (Or.inr h)))
      refine j_if_ne (tgt := 29) hX dX10_ask_24 (by decide) (by omega) (fun hc14 => ?_) (fun hc14 => ?_)
      · skip
        refine j_iconst hX dX10_ask_29 ?_
        refine j_istore_n (lv' := [(3, _), (0, _), (1, _), (2, _)]) hX dX10_ask_30 rfl (by rw [hnL]; decide) rfl ?_
        refine j_iconst hX dX10_ask_31 ?_
        refine j_istore (lv' := [(4, _), (3, _), (0, _), (1, _), (2, _)]) hX dX10_ask_32 (by rw [hnL]; decide) rfl ?_
        refine j_iconst hX dX10_ask_34 ?_
        refine j_istore (lv' := [(5, _), (4, _), (3, _), (0, _), (1, _), (2, _)]) hX dX10_ask_35 (by rw [hnL]; decide) rfl ?_
        refine j_iload hX dX10_ask_37 0 rfl ?_
        refine j_aload_n hX dX10_ask_39 rfl 3 rfl ?_
        refine gf_X10_62 hX (by omega) (by omega) kc_0 hk11 (by omega) dX10_ask_40 ?_
        refine gf_X10_111 hX (by omega) (by omega) (kq hq) dX10_ask_43 ?_
        refine j_top hk12 ?_
        refine j_icmp_ge (tgt := 85) hX dX10_ask_46 (by decide) (by omega) (by omega) (fun hc15 => ?_) (fun hc15 => ?_)
        · skip
          refine j_iload_n hX dX10_ask_85 rfl 4 rfl ?_
          refine j_if_ne (tgt := 93) hX dX10_ask_86 (by decide) (by omega) (fun hc16 => ?_) (fun hc16 => ?_)
          · skip
            refine j_iload hX dX10_ask_93 1 rfl ?_
            exact hret _ _ _ _ dX10_ask_95 rfl (by omega) ⟨hI8, hF13, by first | assumption | omega⟩
          · skip
            refine j_iload_n hX dX10_ask_89 rfl 2 rfl ?_
            refine j_goto (tgt := 95) hX dX10_ask_90 (by decide) ?_
            exact hret _ _ _ _ dX10_ask_95 rfl (by omega) ⟨hI8, hF13, by first | assumption | omega⟩
        · exfalso; omega
      · skip
        refine j_iconst hX dX10_ask_27 ?_
        exact hret _ _ _ _ dX10_ask_28 rfl (by omega) ⟨hI8, hF13, by first | assumption | omega⟩
set_option maxHeartbeats 2000000 in
set_option maxRecDepth 20000 in
theorem cv_X10_commonDivisor (l : Launch) (D : va_G) (cy : Nat → ClassId) (B N : Nat) (a : Int) (b : Int) (M : MM) (hpa : I32 a) (hpb : I32 b) (hz1 : a = 1 ∧ (b = 0 ∨ b = 1)) : CI l D cy B N 1 yX10_commonDivisor cX10_commonDivisor 6 (some .int) [iv a, iv b] M (fun z M' => M' = M ∧ (z = 1)) := by
  refine mk_CI (by decide) (Nat.le_of_ble_eq_true rfl) ?_
  intro X exl exD excy hnL hX hret
  have hce : 0 + 0 ≤ (xR X).cells ∧ 0 + 0 ≤ (xR X).slots := ⟨Nat.zero_le _, Nat.zero_le _⟩
  show J X B N 0 0 0 [(0, iv a), (1, iv b)] [] M
  refine j_iload_n hX dX10_commonDivisor_0 rfl 0 rfl ?_
  refine j_istore_n (lv' := [(2, _), (0, _), (1, _)]) hX dX10_commonDivisor_1 rfl (by rw [hnL]; decide) rfl ?_
  refine j_iload_n hX dX10_commonDivisor_2 rfl 2 rfl ?_
  refine j_istore_n (lv' := [(3, _), (2, _), (0, _), (1, _)]) hX dX10_commonDivisor_3 rfl (by rw [hnL]; decide) rfl ?_
  refine j_iconst hX dX10_commonDivisor_4 ?_
  refine j_istore (lv' := [(4, _), (3, _), (2, _), (0, _), (1, _)]) hX dX10_commonDivisor_5 (by rw [hnL]; decide) rfl ?_
  refine j_iload hX dX10_commonDivisor_7 0 rfl ?_
  refine j_bipush hX dX10_commonDivisor_9 rfl ?_
  refine j_icmp_ge (tgt := 34) hX dX10_commonDivisor_11 (by decide) (by omega) (by omega) (fun hc1 => ?_) (fun hc1 => ?_)
  · exfalso; omega
  · skip
    refine j_iload_n hX dX10_commonDivisor_14 rfl 1 rfl ?_
    refine j_if_eq (tgt := 34) hX dX10_commonDivisor_15 (by decide) (by omega) (fun hc2 => ?_) (fun hc2 => ?_)
    · skip
      refine j_iload_n hX dX10_commonDivisor_34 rfl 2 rfl ?_
      exact hret _ _ _ _ dX10_commonDivisor_35 rfl (by omega) ⟨rfl, by first | assumption | omega⟩
    · skip
      refine j_iload_n hX dX10_commonDivisor_18 rfl 2 rfl ?_
      refine j_iload_n hX dX10_commonDivisor_19 rfl 1 rfl ?_
      refine j_irem hX dX10_commonDivisor_20 (by omega) (by omega) (by omega) (fun z3 hz4 hy5 => ?_)
      have hd0 : z3 = 0 := by rw [hz4, show a = 1 by omega, show b = 1 by omega]; decide
      refine j_istore (lv' := [(5, _), (4, _), (3, _), (2, _), (0, _), (1, _)]) hX dX10_commonDivisor_21 (by rw [hnL]; decide) rfl ?_
      refine j_iload_n hX dX10_commonDivisor_23 rfl 2 rfl ?_
      refine j_istore_n (lv' := [(2, _), (5, _), (4, _), (3, _), (0, _), (1, _)]) hX dX10_commonDivisor_24 rfl (by rw [hnL]; decide) rfl ?_
      refine j_iload hX dX10_commonDivisor_25 1 rfl ?_
      refine j_istore_n (lv' := [(3, _), (2, _), (5, _), (4, _), (0, _), (1, _)]) hX dX10_commonDivisor_27 rfl (by rw [hnL]; decide) rfl ?_
      refine j_iinc (lv' := [(4, _), (3, _), (2, _), (5, _), (0, _), (1, _)]) hX dX10_commonDivisor_28 3 rfl (by rw [hnL]; decide) rfl ?_
      refine j_goto (tgt := 7) hX dX10_commonDivisor_31 (by decide) ?_
      refine j_iload hX dX10_commonDivisor_7 0 rfl ?_
      refine j_bipush hX dX10_commonDivisor_9 rfl ?_
      refine j_icmp_ge (tgt := 34) hX dX10_commonDivisor_11 (by decide) (by omega) (by omega) (fun hc6 => ?_) (fun hc6 => ?_)
      · exfalso; omega
      · skip
        refine j_iload_n hX dX10_commonDivisor_14 rfl 1 rfl ?_
        refine j_if_eq (tgt := 34) hX dX10_commonDivisor_15 (by decide) (by omega) (fun hc7 => ?_) (fun hc7 => ?_)
        · skip
          refine j_iload_n hX dX10_commonDivisor_34 rfl 2 rfl ?_
          exact hret _ _ _ _ dX10_commonDivisor_35 rfl (by omega) ⟨rfl, by first | assumption | omega⟩
        · exfalso; omega
set_option maxHeartbeats 2000000 in
set_option maxRecDepth 20000 in
theorem cv_X10_odds (l : Launch) (D : va_G) (cy : Nat → ClassId) (B N : Nat) (q : Int) (nr : Int) (a : Int) (b : Int) (M : MM) (hN : 210 ≤ N) (hI : Iv M) (hpa : I32 a) (hpb : I32 b) (hq : q = 5 ∨ q = 180) (ht : M.1 0 8 = q) (hnr : M.1 q 0 = nr) (hnb : 0 ≤ nr ∧ nr ≤ 6) (hz0 : nr = 0) : CI l D cy B N 4 yX10_odds cX10_odds 6 (some .int) [rv B 0, iv a, iv b] M (fun z M' => Iv M' ∧ Fr (fun a (_ : Int) => (158 ≤ a ∧ a ≤ 159)) M M' ∧ ((¬ (0 ≤ a ∧ a ≤ 6 ∧ 0 ≤ b ∧ b ≤ 1) → z = -1) ∧ (a = 0 ∧ 0 ≤ b ∧ b ≤ 1 → z = 1) ∧ (1 ≤ a ∧ a ≤ 6 ∧ b = 0 → z = 0) ∧ (1 ≤ a ∧ a ≤ 6 ∧ b = 1 → z = 1))) := by
  refine mk_CI (by decide) (Nat.le_of_ble_eq_true rfl) ?_
  intro X exl exD excy hnL hX hret
  have hce : 0 + 0 ≤ (xR X).cells ∧ 0 + 0 ≤ (xR X).slots := ⟨Nat.zero_le _, Nat.zero_le _⟩
  have hdq : 5 ≤ q ∧ q ≤ 180 := by omega
  have hF : Fr (fun a (_ : Int) => (158 ≤ a ∧ a ≤ 159)) M M := Fr.rf
  show J X B N 0 0 0 [(0, rv B 0), (1, iv a), (2, iv b)] [] M
  refine j_iload_n hX dX10_odds_0 rfl 1 rfl ?_
  refine j_if_lt (tgt := 19) hX dX10_odds_1 (by decide) (by omega) (fun hc1 => ?_) (fun hc1 => ?_)
  · skip
    refine j_iconst hX dX10_odds_19 ?_
    exact hret _ _ _ _ dX10_odds_20 rfl (by omega) ⟨hI, hF, by first | assumption | omega⟩
  · skip
    refine j_iload_n hX dX10_odds_4 rfl 1 rfl ?_
    refine j_bipush hX dX10_odds_5 rfl ?_
    refine j_icmp_gt (tgt := 19) hX dX10_odds_7 (by decide) (by omega) (by omega) (fun hc2 => ?_) (fun hc2 => ?_)
    · skip
      refine j_iconst hX dX10_odds_19 ?_
      exact hret _ _ _ _ dX10_odds_20 rfl (by omega) ⟨hI, hF, by first | assumption | omega⟩
    · skip
      refine j_iload_n hX dX10_odds_10 rfl 2 rfl ?_
      refine j_if_lt (tgt := 19) hX dX10_odds_11 (by decide) (by omega) (fun hc3 => ?_) (fun hc3 => ?_)
      · skip
        refine j_iconst hX dX10_odds_19 ?_
        exact hret _ _ _ _ dX10_odds_20 rfl (by omega) ⟨hI, hF, by first | assumption | omega⟩
      · skip
        refine j_iload_n hX dX10_odds_14 rfl 2 rfl ?_
        refine j_iconst hX dX10_odds_15 ?_
        refine j_icmp_le (tgt := 21) hX dX10_odds_16 (by decide) (by omega) (by omega) (fun hc4 => ?_) (fun hc4 => ?_)
        · skip
          refine j_aload_n hX dX10_odds_21 rfl 0 rfl ?_
          refine gf_X10_44 hX (by omega) (by omega) kc_0 (fc_0_5 hI) (by decide) dX10_odds_22 ?_
          refine gf_X10_244 hX (by omega) (by omega) kc_157 (fc_157_0 hI) (by decide) dX10_odds_25 ?_
          refine j_aload_n hX dX10_odds_28 rfl 0 rfl ?_
          refine gf_X10_62 hX (by omega) (by omega) kc_0 ht (by omega) dX10_odds_29 ?_
          refine gf_X10_111 hX (by omega) (by omega) (kq hq) dX10_odds_32 ?_
          refine j_top hnr ?_
          refine j_callVI hX lk_X10_248 (cv_X4_first _ _ _ _ _ 158 _ _ (by omega) hI (by omega) (by omega) (by first | assumption | omega) (by first | assumption | omega)) (by omega) hce rfl rfl (by omega) (by omega) kc_158 rfl rfl (Nat.le_of_ble_eq_true rfl) dX10_odds_35 (fun z5 M6 hz8 hp7 => ?_)
          obtain ⟨hI10, hG11, hq12, hq13⟩ := hp7
          have hk14 := kp_fr hG11 (fun h => absurd h.1 (by decide)) ht
          have hk15 := kp_fr hG11 (by omega) hnr
          have hF16 := Fr.trans hF hG11 (fun a b h => h)
          refine j_istore_n (lv' := [(3, _), (0, _), (1, _), (2, _)]) hX dX10_odds_38 rfl (by rw [hnL]; decide) rfl ?_
          refine j_aload_n hX dX10_odds_39 rfl 1 rfl ?_
          refine gf_X10_44 hX (by omega) (by omega) kc_0 (fc_0_5 hI10) (by decide) dX10_odds_40 ?_
          refine j_aload_n hX dX10_odds_43 rfl 1 rfl ?_
          refine gf_X10_62 hX (by omega) (by omega) kc_0 hk14 (by omega) dX10_odds_44 ?_
          refine j_iload_n hX dX10_odds_47 rfl 2 rfl ?_
          refine j_callVI hX lk_X10_253 (cv_X5_lotsThatPlease _ _ _ _ _ q _ _ _ (by omega) hI10 (by omega) hq hk15 (by first | assumption | omega) (by first | assumption | omega)) (by omega) hce rfl rfl (by omega) (by omega) kc_157 rfl rfl (Nat.le_of_ble_eq_true rfl) dX10_odds_48 (fun z17 M18 hz20 hp19 => ?_)
          obtain ⟨hI22, hG23, hq24⟩ := hp19
          have hk25 := kp_fr hG23 (fun h => absurd h.1 (by decide)) hk14
          have hk26 := kp_fr hG23 (by omega) hk15
          clear hk14 hk15
          have hF27 := Fr.trans hF16 hG23 (fun a b h => h)
          refine j_istore (lv' := [(4, _), (3, _), (0, _), (1, _), (2, _)]) hX dX10_odds_51 (by rw [hnL]; decide) rfl ?_
          refine j_iload_n hX dX10_odds_53 rfl 1 rfl ?_
          refine j_iload hX dX10_odds_54 0 rfl ?_
          refine j_callSI hX lk_X10_257 (cv_X10_commonDivisor _ _ _ _ _ _ _ _ (by omega) (by omega) (by first | assumption | omega)) (by omega) hce rfl rfl (Nat.le_of_ble_eq_true rfl) dX10_odds_56 (fun z28 M29 hz31 hp30 => ?_)
          obtain ⟨hE32, hq33⟩ := hp30
          replace hE32 := hE32.symm
          subst hE32
          refine j_istore (lv' := [(5, _), (4, _), (3, _), (0, _), (1, _), (2, _)]) hX dX10_odds_59 (by rw [hnL]; decide) rfl ?_
          refine j_iload hX dX10_odds_61 0 rfl ?_
          refine j_if_ne (tgt := 68) hX dX10_odds_63 (by decide) (by omega) (fun hc34 => ?_) (fun hc34 => ?_)
          · skip
            refine j_iload_n hX dX10_odds_68 rfl 5 rfl ?_
            refine j_if_ne (tgt := 77) hX dX10_odds_69 (by decide) (by omega) (fun hc35 => ?_) (fun hc35 => ?_)
            · skip
              refine j_iload_n hX dX10_odds_77 rfl 2 rfl ?_
              refine j_iload hX dX10_odds_78 0 rfl ?_
              refine j_idiv hX dX10_odds_80 (by omega) (by omega) (by omega) (fun z36 hz37 hy38 => ?_)
              have hdv := tdiv_1 hz37 (by omega)
              exact hret _ _ _ _ dX10_odds_81 rfl (by omega) ⟨hI22, hF27, by first | assumption | omega⟩
            · skip
              refine j_iload hX dX10_odds_72 1 rfl ?_
              refine j_goto (tgt := 78) hX dX10_odds_74 (by decide) ?_
              refine j_iload hX dX10_odds_78 0 rfl ?_
              refine j_idiv hX dX10_odds_80 (by omega) (by omega) (by omega) (fun z39 hz40 hy41 => ?_)
              have hdv := tdiv_1 hz40 (by omega)
              exact hret _ _ _ _ dX10_odds_81 rfl (by omega) ⟨hI22, hF27, by first | assumption | omega⟩
          · exfalso; omega
        · skip
          refine j_iconst hX dX10_odds_19 ?_
          exact hret _ _ _ _ dX10_odds_20 rfl (by omega) ⟨hI, hF, by first | assumption | omega⟩
