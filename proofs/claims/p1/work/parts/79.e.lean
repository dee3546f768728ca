set_option maxHeartbeats 2000000 in
set_option maxRecDepth 20000 in
theorem cv_J6_bitCount_0f7a4 (l : Launch) (D : va_G) (cy : Nat → ClassId) (B N : Nat) (a : Int) (M : MM) (hpa : I32 a) (hz0 : a = 0) : CI l D cy B N 1 yJ6_bitCount_0f7a4 cJ6_bitCount_0f7a4 1 (some .int) [iv a] M (fun z M' => M' = M ∧ (z = 0)) := by
  refine mk_CI (by decide) (Nat.le_of_ble_eq_true rfl) ?_
  intro X exl exD excy hnL hX hret
  have hce : 0 + 0 ≤ (xR X).cells ∧ 0 + 0 ≤ (xR X).slots := ⟨Nat.zero_le _, Nat.zero_le _⟩
  show J X B N 0 0 0 [(0, iv a)] [] M
  refine j_iload_n hX dJ6_bitCount_0f7a4_0 rfl 0 rfl ?_
  refine j_iload_n hX dJ6_bitCount_0f7a4_1 rfl 0 rfl ?_
  refine j_iconst hX dJ6_bitCount_0f7a4_2 ?_
  refine j_iushr hX dJ6_bitCount_0f7a4_3 (fun z1 hz2 hy3 => ?_)
  have hv3 := ush0 hz2 (by omega)
  refine j_ldcw (n := 1431655765) hX (in_4 38 (by first | rfl | decide +kernel) rfl) dJ6_bitCount_0f7a4_4 ?_
  refine j_iand hX dJ6_bitCount_0f7a4_7 (fun z4 hz5 hy6 => ?_)
  have ha7 := (and_f hz5 (by omega) (by omega)).2 (by omega)
  have hv7 := and0 hz5 (by omega)
  refine j_isub hX dJ6_bitCount_0f7a4_8 ?_
  refine j_istore_n (lv' := [(0, _)]) hX dJ6_bitCount_0f7a4_9 rfl (by rw [hnL]; decide) rfl ?_
  refine j_iload_n hX dJ6_bitCount_0f7a4_10 rfl 0 rfl ?_
  refine j_ldcw (n := 858993459) hX (in_4 39 (by first | rfl | decide +kernel) rfl) dJ6_bitCount_0f7a4_11 ?_
  refine j_iand hX dJ6_bitCount_0f7a4_14 (fun z8 hz9 hy10 => ?_)
  have ha11 := (and_f hz9 (by omega) (by omega)).2 (by omega)
  have hv14 := and0 hz9 (by omega)
  refine j_iload_n hX dJ6_bitCount_0f7a4_15 rfl 0 rfl ?_
  refine j_iconst hX dJ6_bitCount_0f7a4_16 ?_
  refine j_iushr hX dJ6_bitCount_0f7a4_17 (fun z12 hz13 hy14 => ?_)
  have hv17 := ush0 hz13 (by omega)
  refine j_ldcw (n := 858993459) hX (in_4 39 (by first | rfl | decide +kernel) rfl) dJ6_bitCount_0f7a4_18 ?_
  refine j_iand hX dJ6_bitCount_0f7a4_21 (fun z15 hz16 hy17 => ?_)
  have ha18 := (and_f hz16 (by omega) (by omega)).2 (by omega)
  have hv21 := and0 hz16 (by omega)
  refine j_iadd hX dJ6_bitCount_0f7a4_22 ?_
  refine j_istore_n (lv' := [(0, _)]) hX dJ6_bitCount_0f7a4_23 rfl (by rw [hnL]; decide) rfl ?_
  refine j_iload_n hX dJ6_bitCount_0f7a4_24 rfl 0 rfl ?_
  refine j_iload_n hX dJ6_bitCount_0f7a4_25 rfl 0 rfl ?_
  refine j_iconst hX dJ6_bitCount_0f7a4_26 ?_
  refine j_iushr hX dJ6_bitCount_0f7a4_27 (fun z19 hz20 hy21 => ?_)
  have hv27 := ush0 hz20 (by omega)
  refine j_iadd hX dJ6_bitCount_0f7a4_28 ?_
  refine j_ldcw (n := 252645135) hX (in_4 40 (by first | rfl | decide +kernel) rfl) dJ6_bitCount_0f7a4_29 ?_
  refine j_iand hX dJ6_bitCount_0f7a4_32 (fun z22 hz23 hy24 => ?_)
  have ha25 := (and_f hz23 (by omega) (by omega)).2 (by omega)
  have hv32 := and0 hz23 (by omega)
  refine j_istore_n (lv' := [(0, _)]) hX dJ6_bitCount_0f7a4_33 rfl (by rw [hnL]; decide) rfl ?_
  refine j_iload_n hX dJ6_bitCount_0f7a4_34 rfl 0 rfl ?_
  refine j_iload_n hX dJ6_bitCount_0f7a4_35 rfl 0 rfl ?_
  refine j_bipush hX dJ6_bitCount_0f7a4_36 rfl ?_
  refine j_iushr hX dJ6_bitCount_0f7a4_38 (fun z26 hz27 hy28 => ?_)
  have hv38 := ush0 hz27 (by omega)
  refine j_iadd hX dJ6_bitCount_0f7a4_39 ?_
  refine j_istore_n (lv' := [(0, _)]) hX dJ6_bitCount_0f7a4_40 rfl (by rw [hnL]; decide) rfl ?_
  refine j_iload_n hX dJ6_bitCount_0f7a4_41 rfl 0 rfl ?_
  refine j_iload_n hX dJ6_bitCount_0f7a4_42 rfl 0 rfl ?_
  refine j_bipush hX dJ6_bitCount_0f7a4_43 rfl ?_
  refine j_iushr hX dJ6_bitCount_0f7a4_45 (fun z29 hz30 hy31 => ?_)
  have hv45 := ush0 hz30 (by omega)
  refine j_iadd hX dJ6_bitCount_0f7a4_46 ?_
  refine j_istore_n (lv' := [(0, _)]) hX dJ6_bitCount_0f7a4_47 rfl (by rw [hnL]; decide) rfl ?_
  refine j_iload_n hX dJ6_bitCount_0f7a4_48 rfl 0 rfl ?_
  refine j_bipush hX dJ6_bitCount_0f7a4_49 rfl ?_
  refine j_iand hX dJ6_bitCount_0f7a4_51 (fun z32 hz33 hy34 => ?_)
  have ha35 := (and_f hz33 (by omega) (by omega)).2 (by omega)
  have hv51 := and0 hz33 (by omega)
  exact hret _ _ _ _ dJ6_bitCount_0f7a4_52 rfl (by omega) ⟨rfl, by first | assumption | omega⟩
set_option maxHeartbeats 2000000 in
set_option maxRecDepth 20000 in
theorem cv_X8_knownInAll (l : Launch) (D : va_G) (cy : Nat → ClassId) (B N : Nat) (s : Int) (M : MM) (hN : 210 ≤ N) (hI : Iv M) (hs : Sc s) (hka : KA 0 (s + 2) M) : CI l D cy B N 2 yX8_knownInAll cX8_knownInAll 3 (some .int) [rv B s] M (fun z M' => M' = M ∧ (z = 0)) := by
  refine mk_CI (by decide) (Nat.le_of_ble_eq_true rfl) ?_
  intro X exl exD excy hnL hX hret
  have hce : 0 + 0 ≤ (xR X).cells ∧ 0 + 0 ≤ (xR X).slots := ⟨Nat.zero_le _, Nat.zero_le _⟩
  have hbs := sc_b hs
  have hds : 28 ≤ s ∧ s ≤ 207 := by omega
  have cp : ∀ n : Nat, (∀ (x1 x2 : Int), I32 x1 → I32 x2 → (0 ≤ x2 ∧ x2 ≤ 6 ∧ x1 = 0) → 0 ≤ 32 * (6 - x2) + 1 → 32 * (6 - x2) + 1 < (n : Int) → J X B N 0 0 4 [(0, rv B s), (1, iv x1), (2, iv x2)] [] M) := by
    intro n
    induction n with
    | zero => exact by intros; exfalso; omega
    | succ n ih =>
      · intro x1 x2 hxx1 hxx2 h2 hm0 hm1
        refine j_iload_n hX dX8_knownInAll_4 rfl 2 rfl ?_
        refine j_bipush hX dX8_knownInAll_5 rfl ?_
        refine j_icmp_ge (tgt := 28) hX dX8_knownInAll_7 (by decide) (by omega) (by omega) (fun hc1 => ?_) (fun hc1 => ?_)
        · skip
          refine j_iload_n hX dX8_knownInAll_28 rfl 1 rfl ?_
          exact hret _ _ _ _ dX8_knownInAll_29 rfl (by omega) ⟨rfl, by first | assumption | omega⟩
        · skip
          refine j_iload_n hX dX8_knownInAll_10 rfl 1 rfl ?_
          refine j_aload_n hX dX8_knownInAll_11 rfl 0 rfl ?_
          refine gf_X8_15 hX (by omega) (by omega) (sc_k0 hs) (sc_f1 hI hs) (by omega) dX8_knownInAll_12 ?_
          refine j_iload_n hX dX8_knownInAll_15 rfl 2 rfl ?_
          refine j_iald hX (by omega) (by omega) (sc_k2 hs) (by omega) (by omega) (by omega) dX8_knownInAll_16 ?_
          refine j_name hI (sc_n hs _) (fun v2 hv3 hl4 hh5 => ?_)
          refine j_callSI hX lk_X8_64 (cv_J6_bitCount_0f7a4 _ _ _ _ _ _ _ (by omega) (by have := hka x2 (by omega) (by omega); omega)) (by omega) hce rfl rfl (Nat.le_of_ble_eq_true rfl) dX8_knownInAll_17 (fun z6 M7 hz9 hp8 => ?_)
          obtain ⟨hE10, hq11⟩ := hp8
          replace hE10 := hE10.symm
          subst hE10
          refine j_iadd hX dX8_knownInAll_20 ?_
          refine j_istore_n (lv' := [(1, _), (0, _), (2, _)]) hX dX8_knownInAll_21 rfl (by rw [hnL]; decide) rfl ?_
          refine j_iinc (lv' := [(2, _), (1, _), (0, _)]) hX dX8_knownInAll_22 2 rfl (by rw [hnL]; decide) rfl ?_
          refine j_goto (tgt := 4) hX dX8_knownInAll_25 (by decide) ?_
          refine j_sub [2, 1, 0] rfl ?_
          exact ih _ _ (by omega) (by omega) (by first | assumption | omega) (by omega) (by omega)
  show J X B N 0 0 0 [(0, rv B s)] [] M
  refine j_iconst hX dX8_knownInAll_0 ?_
  refine j_istore_n (lv' := [(1, _), (0, _)]) hX dX8_knownInAll_1 rfl (by rw [hnL]; decide) rfl ?_
  refine j_iconst hX dX8_knownInAll_2 ?_
  refine j_istore_n (lv' := [(2, _), (1, _), (0, _)]) hX dX8_knownInAll_3 rfl (by rw [hnL]; decide) rfl ?_
  refine j_sub [2, 1, 0] rfl ?_
  refine (cp (Int.toNat (256 + 1))) _ _ (by omega) (by omega) (by first | assumption | omega) ?_ ?_
  · omega
  · omega
set_option maxHeartbeats 2000000 in
set_option maxRecDepth 20000 in
theorem cv_X1_meetAtTheWell (l : Launch) (D : va_G) (cy : Nat → ClassId) (B N : Nat) (q : Int) (s : Int) (nr : Int) (M : MM) (hN : 210 ≤ N) (hI : Iv M) (hq : q = 5 ∨ q = 180) (hs : Sc s) (hnr : M.1 q 0 = nr) (hz0 : nr = 0) : CI l D cy B N 3 yX1_meetAtTheWell cX1_meetAtTheWell 6 (some .int) [rv B 151, rv B q, rv B s] M (fun z M' => Iv M' ∧ Fr (fun a (_ : Int) => (a = 152)) M M' ∧ (z = 0)) := by
  refine mk_CI (by decide) (Nat.le_of_ble_eq_true rfl) ?_
  intro X exl exD excy hnL hX hret
  have hce : 0 + 0 ≤ (xR X).cells ∧ 0 + 0 ≤ (xR X).slots := ⟨Nat.zero_le _, Nat.zero_le _⟩
  have hdq : 5 ≤ q ∧ q ≤ 180 := by omega
  have hbs := sc_b hs
  have hds : 28 ≤ s ∧ s ≤ 207 := by omega
  have hF : Fr (fun a (_ : Int) => (a = 152)) M M := Fr.rf
  show J X B N 0 0 0 [(0, rv B 151), (1, rv B q), (2, rv B s)] [] M
  refine j_aload_n hX dX1_meetAtTheWell_0 rfl 2 rfl ?_
  refine gf_X1_50 hX (by omega) (by omega) (sc_k0 hs) (sc_f1 hI hs) (by omega) dX1_meetAtTheWell_1 ?_
  refine j_iconst hX dX1_meetAtTheWell_4 ?_
  refine j_aload_n hX dX1_meetAtTheWell_5 rfl 0 rfl ?_
  refine gf_X1_9 hX (by omega) (by omega) kc_151 (fc_151_0 hI) (by decide) dX1_meetAtTheWell_6 ?_
  refine j_iconst hX dX1_meetAtTheWell_9 ?_
  refine j_bipush hX dX1_meetAtTheWell_10 rfl ?_
  refine j_copy hX (in_4 152 (by first | rfl | decide +kernel) rfl) (by omega) (by omega) (sc_k2 hs) (by omega) (by omega) kc_152 (by omega) (by omega) (by omega) (by omega) (by omega) (by decide) (Nat.le_of_ble_eq_true rfl) dX1_meetAtTheWell_12 ?_
  refine j_cp hI (fun b => (sc_n hs b)) (fun b => (ra_152 b)) (by omega) (by omega) (by omega) (fun M1 hM2 hI3 => ?_)
  have hG4 := fr_cp hM2
  have hk5 := kp_fr hG4 (by omega) hnr
  have hF6 := Fr.trans hF hG4 (fun a b h => by omega)
  refine j_iconst hX dX1_meetAtTheWell_15 ?_
  refine j_istore_n (lv' := [(3, _), (0, _), (1, _), (2, _)]) hX dX1_meetAtTheWell_16 rfl (by rw [hnL]; decide) rfl ?_
  refine j_iconst hX dX1_meetAtTheWell_17 ?_
  refine j_istore (lv' := [(4, _), (3, _), (0, _), (1, _), (2, _)]) hX dX1_meetAtTheWell_18 (by rw [hnL]; decide) rfl ?_
  refine j_iload hX dX1_meetAtTheWell_20 0 rfl ?_
  refine j_aload_n hX dX1_meetAtTheWell_22 rfl 3 rfl ?_
  refine gf_X1_26 hX (by omega) (by omega) (kq hq) dX1_meetAtTheWell_23 ?_
  refine j_top hk5 ?_
  refine j_icmp_ge (tgt := 84) hX dX1_meetAtTheWell_26 (by decide) (by omega) (by omega) (fun hc7 => ?_) (fun hc7 => ?_)
  · skip
    refine j_iload_n hX dX1_meetAtTheWell_84 rfl 1 rfl ?_
    exact hret _ _ _ _ dX1_meetAtTheWell_85 rfl (by omega) ⟨hI3, hF6, by first | assumption | omega⟩
  · exfalso; omega
set_option maxHeartbeats 2000000 in
set_option maxRecDepth 20000 in
theorem cv_X1_passHour (l : Launch) (D : va_G) (cy : Nat → ClassId) (B N : Nat) (q : Int) (s : Int) (nr : Int) (M : MM) (hN : 210 ≤ N) (hI : Iv M) (hq : q = 5 ∨ q = 180) (hs : Sc s) (hnr : M.1 q 0 = nr) (hV : V nr s M) (hnb : 0 ≤ nr ∧ nr ≤ 6) (hz0 : nr = 0) : CI l D cy B N 4 yX1_passHour cX1_passHour 6 (some .int) [rv B 151, rv B q, rv B s] M (fun z M' => Iv M' ∧ Fr (fun a b => (a = s ∧ 3 ≤ b ∧ b ≤ 4) ∨ (a = 152)) M M' ∧ (V nr s M') ∧ (z = 0)) := by
  refine mk_CI (by decide) (Nat.le_of_ble_eq_true rfl) ?_
  intro X exl exD excy hnL hX hret
  have hce : 0 + 0 ≤ (xR X).cells ∧ 0 + 0 ≤ (xR X).slots := ⟨Nat.zero_le _, Nat.zero_le _⟩
  have hdq : 5 ≤ q ∧ q ≤ 180 := by omega
  have hbs := sc_b hs
  have hds : 28 ≤ s ∧ s ≤ 207 := by omega
  have hF : Fr (fun a b => (a = s ∧ 3 ≤ b ∧ b ≤ 4) ∨ (a = 152)) M M := Fr.rf
  have hh3 := hV.2
  have hV := hV.1
  show J X B N 0 0 0 [(0, rv B 151), (1, rv B q), (2, rv B s)] [] M
  refine j_iconst hX dX1_passHour_0 ?_
  refine j_istore_n (lv' := [(3, _), (0, _), (1, _), (2, _)]) hX dX1_passHour_1 rfl (by rw [hnL]; decide) rfl ?_
  refine j_aload_n hX dX1_passHour_2 rfl 2 rfl ?_
  refine gf_X1_15 hX (by omega) (by omega) (kq hq) (fq_19 hI hq) (by omega) dX1_passHour_3 ?_
  refine j_aload_n hX dX1_passHour_6 rfl 3 rfl ?_
  refine gf_X1_20 hX (by omega) (by omega) (sc_k0 hs) dX1_passHour_7 ?_
  refine j_name hI (sc_r3 hs) (fun v1 hv2 hl3 hh4 => ?_)
  have hk5 := hv2.symm
  refine j_iald hX (by omega) (by omega) (kq_20 hq) (by omega) (by omega) (by omega) dX1_passHour_10 ?_
  refine j_name hI (aq_20 hq _) (fun v6 hv7 hl8 hh9 => ?_)
  refine j_istore (lv' := [(4, _), (3, _), (0, _), (1, _), (2, _)]) hX dX1_passHour_11 (by rw [hnL]; decide) rfl ?_
  refine j_iconst hX dX1_passHour_13 ?_
  refine j_istore (lv' := [(5, _), (4, _), (3, _), (0, _), (1, _), (2, _)]) hX dX1_passHour_14 (by rw [hnL]; decide) rfl ?_
  refine j_iload hX dX1_passHour_16 0 rfl ?_
  refine j_aload_n hX dX1_passHour_18 rfl 4 rfl ?_
  refine gf_X1_26 hX (by omega) (by omega) (kq hq) dX1_passHour_19 ?_
  refine j_top hnr ?_
  refine j_icmp_ge (tgt := 69) hX dX1_passHour_22 (by decide) (by omega) (by omega) (fun hc10 => ?_) (fun hc10 => ?_)
  · skip
    refine j_aload_n hX dX1_passHour_69 rfl 5 rfl ?_
    refine j_dup hX dX1_passHour_70 rfl ?_
    refine gf_X1_20 hX (by omega) (by omega) (sc_k0 hs) dX1_passHour_71 ?_
    refine j_top hk5 ?_
    refine j_iconst hX dX1_passHour_74 ?_
    refine j_iadd hX dX1_passHour_75 ?_
    refine pf_X1_20 hX (by omega) (by omega) (sc_k0 hs) (by omega) dX1_passHour_76 ?_
    refine j_up hI (sc_r3 hs) (by omega) (by omega) (Or.inl (by omega)) (fun M11 w12 hw13 hM14 hI15 hf16 => ?_)
    have hV17 := VR_up hV hM14 (by omega)
    have hk18 := kp_up hM14 (by omega) hnr
    clear hk5
    have hF19 := Fr.put hF hM14 (by omega)
    refine j_aload_n hX dX1_passHour_79 rfl 5 rfl ?_
    refine gf_X1_20 hX (by omega) (by omega) (sc_k0 hs) dX1_passHour_80 ?_
    refine j_top hf16 ?_
    refine j_bipush hX dX1_passHour_83 rfl ?_
    refine j_icmp_lt (tgt := 112) hX dX1_passHour_85 (by decide) (by omega) (by omega) (fun hc20 => ?_) (fun hc20 => ?_)
    · skip
      refine j_iload_n hX dX1_passHour_112 rfl 2 rfl ?_
      exact hret _ _ _ _ dX1_passHour_113 rfl (by omega) ⟨hI15, hF19, ⟨by assumption, by omega⟩, by first | assumption | omega⟩
    · skip
      refine j_aload_n hX dX1_passHour_88 rfl 5 rfl ?_
      refine j_iconst hX dX1_passHour_89 ?_
      refine pf_X1_20 hX (by omega) (by omega) (sc_k0 hs) (by omega) dX1_passHour_90 ?_
      refine j_up hI15 (sc_r3 hs) (by omega) (by omega) (Or.inl (by omega)) (fun M21 w22 hw23 hM24 hI25 hf26 => ?_)
      have hV27 := VR_up hV17 hM24 (by omega)
      have hk28 := kp_up hM24 (by omega) hk18
      clear hk18 hf16
      have hF29 := Fr.put hF19 hM24 (by omega)
      refine j_aload_n hX dX1_passHour_93 rfl 5 rfl ?_
      refine j_dup hX dX1_passHour_94 rfl ?_
      refine gf_X1_43 hX (by omega) (by omega) (sc_k0 hs) dX1_passHour_95 ?_
      refine j_name hI25 (sc_r4 hs) (fun v30 hv31 hl32 hh33 => ?_)
      have hk34 := hv31.symm
      refine j_iconst hX dX1_passHour_98 ?_
      refine j_iadd hX dX1_passHour_99 ?_
      refine j_norm (fun z35 hz36 hy37 => ?_)
      refine pf_X1_43 hX (by omega) (by omega) (sc_k0 hs) (by omega) dX1_passHour_100 ?_
      refine j_up hI25 (sc_r4 hs) (by omega) (by omega) (Or.inl (by omega)) (fun M38 w39 hw40 hM41 hI42 hf43 => ?_)
      have hV44 := VR_up hV27 hM41 (by omega)
      have hk45 := kp_up hM41 (by omega) hk28
      have hk46 := kp_up hM41 (fun h => absurd h.2 (by decide)) hf26
      clear hk28 hf26 hk34
      have hF47 := Fr.put hF29 hM41 (by omega)
      refine j_iload_n hX dX1_passHour_103 rfl 2 rfl ?_
      refine j_aload_n hX dX1_passHour_104 rfl 3 rfl ?_
      refine j_aload_n hX dX1_passHour_105 rfl 4 rfl ?_
      refine j_aload_n hX dX1_passHour_106 rfl 5 rfl ?_
      refine j_callVI hX lk_X1_46 (cv_X1_meetAtTheWell _ _ _ _ _ q s _ _ (by omega) hI42 hq hs hk45 (by first | assumption | omega)) (by omega) hce rfl rfl (by omega) (by omega) kc_151 rfl rfl (Nat.le_of_ble_eq_true rfl) dX1_passHour_107 (fun z48 M49 hz51 hp50 => ?_)
      obtain ⟨hI53, hG54, hq55⟩ := hp50
      have hV56 := VR_fr hV44 hG54 (fun b => by omega)
      have hk57 := kp_fr hG54 (by omega) hk45
      have hk58 := kp_fr hG54 (by omega) hk46
      have hk59 := kp_fr hG54 (by omega) hf43
      clear hk45 hk46 hf43
      have hF60 := Fr.trans hF47 hG54 (fun a b h => by omega)
      refine j_iadd hX dX1_passHour_110 ?_
      refine j_istore_n (lv' := [(3, _), (5, _), (4, _), (0, _), (1, _), (2, _)]) hX dX1_passHour_111 rfl (by rw [hnL]; decide) rfl ?_
      refine j_iload_n hX dX1_passHour_112 rfl 0 rfl ?_
      exact hret _ _ _ _ dX1_passHour_113 rfl (by omega) ⟨hI53, hF60, ⟨by assumption, by omega⟩, by first | assumption | omega⟩
  · exfalso; omega
set_option maxHeartbeats 2000000 in
set_option maxRecDepth 20000 in
theorem cv_X8_showThemselves (l : Launch) (D : va_G) (cy : Nat → ClassId) (B N : Nat) (s : Int) (a : Int) (M : MM) (hN : 210 ≤ N) (hI : Iv M) (hpa : I32 a) (hs : Sc s) (h1 : 0 ≤ a ∧ a ≤ 6) (hz0 : a = 0) : CI l D cy B N 1 yX8_showThemselves cX8_showThemselves 4 (some .int) [rv B s, iv a] M (fun z M' => M' = M ∧ (z = 0)) := by
  refine mk_CI (by decide) (Nat.le_of_ble_eq_true rfl) ?_
  intro X exl exD excy hnL hX hret
  have hce : 0 + 0 ≤ (xR X).cells ∧ 0 + 0 ≤ (xR X).slots := ⟨Nat.zero_le _, Nat.zero_le _⟩
  have hbs := sc_b hs
  have hds : 28 ≤ s ∧ s ≤ 207 := by omega
  show J X B N 0 0 0 [(0, rv B s), (1, iv a)] [] M
  refine j_iconst hX dX8_showThemselves_0 ?_
  refine j_istore_n (lv' := [(2, _), (0, _), (1, _)]) hX dX8_showThemselves_1 rfl (by rw [hnL]; decide) rfl ?_
  refine j_iconst hX dX8_showThemselves_2 ?_
  refine j_istore_n (lv' := [(3, _), (2, _), (0, _), (1, _)]) hX dX8_showThemselves_3 rfl (by rw [hnL]; decide) rfl ?_
  refine j_iload_n hX dX8_showThemselves_4 rfl 0 rfl ?_
  refine j_iload_n hX dX8_showThemselves_5 rfl 3 rfl ?_
  refine j_icmp_ge (tgt := 28) hX dX8_showThemselves_6 (by decide) (by omega) (by omega) (fun hc1 => ?_) (fun hc1 => ?_)
  · skip
    refine j_iload_n hX dX8_showThemselves_28 rfl 1 rfl ?_
    exact hret _ _ _ _ dX8_showThemselves_29 rfl (by omega) ⟨rfl, by first | assumption | omega⟩
  · exfalso; omega
set_option maxHeartbeats 2000000 in
set_option maxRecDepth 20000 in
theorem cv_X10_cast (l : Launch) (D : va_G) (cy : Nat → ClassId) (B N : Nat) (q : Int) (nr : Int) (M : MM) (hN : 210 ≤ N) (hI : Iv M) (hq : q = 5 ∨ q = 180) (ht : M.1 0 8 = q) (hnr : M.1 q 0 = nr) (hnb : 0 ≤ nr ∧ nr ≤ 6) (hRV : RV (M.1 26 2) nr M) (h1 : M.1 26 1 ≤ M.1 26 2) (hz0 : nr = 0) : CI l D cy B N 3 yX10_cast cX10_cast 2 (some .int) [rv B 0] M (fun z M' => Iv M' ∧ Fr (fun a b => (a = 26 ∧ 1 ≤ b ∧ b ≤ 2) ∨ (27 ≤ a ∧ a ≤ 150)) M M' ∧ (RV (M'.1 26 2) nr M') ∧ (M'.1 26 1 ≤ M'.1 26 2) ∧ (z = 0)) := by
  refine mk_CI (by decide) (Nat.le_of_ble_eq_true rfl) ?_
  intro X exl exD excy hnL hX hret
  have hce : 0 + 0 ≤ (xR X).cells ∧ 0 + 0 ≤ (xR X).slots := ⟨Nat.zero_le _, Nat.zero_le _⟩
  have hdq : 5 ≤ q ∧ q ≤ 180 := by omega
  have hF : Fr (fun a b => (a = 26 ∧ 1 ≤ b ∧ b ≤ 2) ∨ (27 ≤ a ∧ a ≤ 150)) M M := Fr.rf
  have hk1 : M.1 26 2 = M.1 26 2 := rfl
  have hk2 : M.1 26 1 = M.1 26 1 := rfl
  show J X B N 0 0 0 [(0, rv B 0)] [] M
  refine j_aload_n hX dX10_cast_0 rfl 0 rfl ?_
  refine gf_X10_19 hX (by omega) (by omega) kc_0 (fc_0_1 hI) (by decide) dX10_cast_1 ?_
  refine j_callVR hX lk_X10_175 (c_X0_step _ _ _ _ _ _ _ (by omega) hI (by first | assumption | omega) (by first | assumption | omega)) (by omega) hce rfl rfl (by omega) (by omega) kc_26 rfl rfl (Nat.le_of_ble_eq_true rfl) dX10_cast_4 (fun sw M3 hz5 hp4 => ?_)
  obtain ⟨hI7, hG8, hq9, hq10, hq11, hq12, hq13⟩ := hp4
  have hk15 := kp_fr hG8 (fun h => h.elim (fun h => absurd h.1 (by decide)) (fun h => absurd h.1 (by decide))) ht
  have hk16 := kp_fr hG8 (by omega) hnr
  clear hk1 hk2
  have hF17 := Fr.trans hF hG8 (fun a b h => h.elim (fun h => (Or.inl h)) (fun h => (Or.inr h)))
  have hk18 : M3.1 26 2 = M3.1 26 2 := rfl
  have hk19 : M3.1 26 1 = M3.1 26 1 := rfl
  have hrsw := sc_27 hI7 hq10
  have hsw : Sc sw := hq9
  have hbsw := sc_b hsw
  have hdsw : 28 ≤ sw ∧ sw ≤ 207 := by omega
  refine j_astore_n (lv' := [(1, _), (0, _)]) hX dX10_cast_7 rfl (by rw [hnL]; decide) rfl ?_
  refine j_aload_n hX dX10_cast_8 rfl 0 rfl ?_
  refine j_aload_n hX dX10_cast_9 rfl 1 rfl ?_
  refine gf_X10_62 hX (by omega) (by omega) kc_0 hk15 (by omega) dX10_cast_10 ?_
  refine gf_X10_111 hX (by omega) (by omega) (kq hq) dX10_cast_13 ?_
  refine j_top hk16 ?_
  refine j_callVV hX lk_X10_185 (c_X8_castLot _ _ _ _ _ sw _ _ (by omega) hI7 (by omega) hsw (by first | assumption | omega) (by first | assumption | omega)) (by omega) hce rfl rfl (by omega) (by omega) (sc_k0 hsw) rfl rfl (Nat.le_of_ble_eq_true rfl) dX10_cast_16 (fun M21 hp22 => ?_)
  obtain ⟨hI25, hG26, hq27⟩ := hp22
  have hk30 := kp_fr hG26 (by omega) hk15
  have hk31 := kp_fr hG26 (by omega) hk16
  have hk32 := kp_fr hG26 (by omega) hk18
  have hk33 := kp_fr hG26 (by omega) hk19
  clear hk15 hk16 hk18 hk19
  have hF34 := Fr.trans hF17 hG26 (fun a b h => by omega)
  have hV35 : RV (M3.1 26 2) nr M21 := RV_mod hq12 hI7 hq27 hG26 (fun a b h => by omega) hsw
  refine j_aload_n hX dX10_cast_19 rfl 0 rfl ?_
  refine j_aload_n hX dX10_cast_20 rfl 1 rfl ?_
  refine gf_X10_62 hX (by omega) (by omega) kc_0 hk30 (by omega) dX10_cast_21 ?_
  refine gf_X10_111 hX (by omega) (by omega) (kq hq) dX10_cast_24 ?_
  refine j_top hk31 ?_
  refine j_callVI hX lk_X10_188 (cv_X8_showThemselves _ _ _ _ _ sw _ _ (by omega) hI25 (by omega) hsw (by first | assumption | omega) (by first | assumption | omega)) (by omega) hce rfl rfl (by omega) (by omega) (sc_k0 hsw) rfl rfl (Nat.le_of_ble_eq_true rfl) dX10_cast_27 (fun z36 M37 hz39 hp38 => ?_)
  obtain ⟨hE40, hq41⟩ := hp38
  replace hE40 := hE40.symm
  subst hE40
  exact hret _ _ _ _ dX10_cast_30 rfl (by omega) ⟨hI25, hF34, RV_eq hV35 (by omega), by omega, by first | assumption | omega⟩
set_option maxHeartbeats 2000000 in
set_option maxRecDepth 20000 in
theorem cv_X10_hour (l : Launch) (D : va_G) (cy : Nat → ClassId) (B N : Nat) (q : Int) (nr : Int) (M : MM) (hN : 210 ≤ N) (hI : Iv M) (hq : q = 5 ∨ q = 180) (ht : M.1 0 8 = q) (hnr : M.1 q 0 = nr) (hnb : 0 ≤ nr ∧ nr ≤ 6) (hRV : RV (M.1 26 2) nr M) (h1 : M.1 26 1 ≤ M.1 26 2) (hz0 : nr = 0) (hd0 : M.1 (M.1 27 (M.1 26 1)) 4 = 0) : CI l D cy B N 5 yX10_hour cX10_hour 1 (some .int) [rv B 0] M (fun z M' => Iv M' ∧ Fr (fun a b => (a = 26 ∧ 1 ≤ b ∧ b ≤ 2) ∨ (27 ≤ a ∧ a ≤ 150) ∨ (a = 152)) M M' ∧ (RV (M'.1 26 2) nr M') ∧ (M'.1 26 1 ≤ M'.1 26 2) ∧ (z = 0)) := by
  refine mk_CI (by decide) (Nat.le_of_ble_eq_true rfl) ?_
  intro X exl exD excy hnL hX hret
  have hce : 0 + 0 ≤ (xR X).cells ∧ 0 + 0 ≤ (xR X).slots := ⟨Nat.zero_le _, Nat.zero_le _⟩
  have hdq : 5 ≤ q ∧ q ≤ 180 := by omega
  have hF : Fr (fun a b => (a = 26 ∧ 1 ≤ b ∧ b ≤ 2) ∨ (27 ≤ a ∧ a ≤ 150) ∨ (a = 152)) M M := Fr.rf
  have hk1 : M.1 26 2 = M.1 26 2 := rfl
  have hk2 : M.1 26 1 = M.1 26 1 := rfl
  show J X B N 0 0 0 [(0, rv B 0)] [] M
  refine j_aload_n hX dX10_hour_0 rfl 0 rfl ?_
  refine gf_X10_19 hX (by omega) (by omega) kc_0 (fc_0_1 hI) (by decide) dX10_hour_1 ?_
  refine j_callVR hX lk_X10_124 (c_X0_now _ _ _ _ _ _ (by omega) hI) (by omega) hce rfl rfl (by omega) (by omega) kc_26 rfl rfl (Nat.le_of_ble_eq_true rfl) dX10_hour_4 (fun sn M3 hz5 hp4 => ?_)
  obtain ⟨hE6, hq7, hq8⟩ := hp4
  replace hE6 := hE6.symm
  subst hE6
  have hk4 : M.1 sn 4 = 0 := by rw [hq8]; exact hd0
  have hsn : Sc sn := hq7
  have hbsn := sc_b hsn
  have hdsn : 28 ≤ sn ∧ sn ≤ 207 := by omega
  refine gf_X10_191 hX (by omega) (by omega) (sc_k0 hsn) dX10_hour_7 ?_
  refine j_top hk4 ?_
  refine j_sipush hX dX10_hour_10 rfl ?_
  refine j_icmp_le (tgt := 18) hX dX10_hour_13 (by decide) (by omega) (by omega) (fun hc9 => ?_) (fun hc9 => ?_)
  · skip
    refine j_aload_n hX dX10_hour_18 rfl 0 rfl ?_
    refine gf_X10_26 hX (by omega) (by omega) kc_0 (fc_0_2 hI) (by decide) dX10_hour_19 ?_
    refine j_aload_n hX dX10_hour_22 rfl 0 rfl ?_
    refine gf_X10_62 hX (by omega) (by omega) kc_0 ht (by omega) dX10_hour_23 ?_
    refine j_aload_n hX dX10_hour_26 rfl 0 rfl ?_
    refine gf_X10_19 hX (by omega) (by omega) kc_0 (fc_0_1 hI) (by decide) dX10_hour_27 ?_
    refine j_callVR hX lk_X10_175 (c_X0_step _ _ _ _ _ _ _ (by omega) hI (by first | assumption | omega) (by first | assumption | omega)) (by omega) hce rfl rfl (by omega) (by omega) kc_26 rfl rfl (Nat.le_of_ble_eq_true rfl) dX10_hour_30 (fun sw M10 hz12 hp11 => ?_)
    obtain ⟨hI14, hG15, hq16, hq17, hq18, hq19, hq20⟩ := hp11
    have hk22 := kp_fr hG15 (fun h => h.elim (fun h => absurd h.1 (by decide)) (fun h => absurd h.1 (by decide))) ht
    have hk23 := kp_fr hG15 (by omega) hnr
    clear hk1 hk2 hk4
    have hF24 := Fr.trans hF hG15 (fun a b h => h.elim (fun h => (Or.inl h)) (fun h => (Or.inr (Or.inl h))))
    have hk25 : M10.1 26 2 = M10.1 26 2 := rfl
    have hk26 : M10.1 26 1 = M10.1 26 1 := rfl
    have hrsw := sc_27 hI14 hq17
    have hsw : Sc sw := hq16
    have hbsw := sc_b hsw
    have hdsw : 28 ≤ sw ∧ sw ≤ 207 := by omega
    refine j_callVI hX lk_X10_194 (cv_X1_passHour _ _ _ _ _ q sw _ _ (by omega) hI14 hq hsw hk23 (by first | assumption | omega) (by first | assumption | omega) (by first | assumption | omega)) (by omega) hce rfl rfl (by omega) (by omega) kc_151 rfl rfl (Nat.le_of_ble_eq_true rfl) dX10_hour_33 (fun z27 M28 hz30 hp29 => ?_)
    obtain ⟨hI32, hG33, hq34, hq35⟩ := hp29
    have hk38 := kp_fr hG33 (by omega) hk22
    have hk39 := kp_fr hG33 (by omega) hk23
    have hk40 := kp_fr hG33 (by omega) hk25
    have hk41 := kp_fr hG33 (by omega) hk26
    clear hk22 hk23 hk25 hk26
    have hF42 := Fr.trans hF24 hG33 (fun a b h => by omega)
    have hV43 : RV (M10.1 26 2) nr M28 := RV_mod hq19 hI14 hq34 hG33 (fun a b h => by omega) hsw
    exact hret _ _ _ _ dX10_hour_36 rfl (by omega) ⟨hI32, hF42, RV_eq hV43 (by omega), by omega, by first | assumption | omega⟩
  · exfalso; omega
set_option maxHeartbeats 2000000 in
set_option maxRecDepth 20000 in
theorem cv_X10_proof (l : Launch) (D : va_G) (cy : Nat → ClassId) (B N : Nat) (q : Int) (nr : Int) (nf : Int) (a : Int) (b : Int) (M : MM) (hN : 210 ≤ N) (hI : Iv M) (hpa : I32 a) (hpb : I32 b) (hq : q = 5 ∨ q = 180) (ht : M.1 0 8 = q) (hnr : M.1 q 0 = nr) (hnf : M.1 q 4 = nf) (hnb : 0 ≤ nr ∧ nr ≤ 6) (hz0 : nr = 0) (hz4 : nf = 0) : CI l D cy B N 2 yX10_proof cX10_proof 6 (some .int) [rv B 0, iv a, iv b] M (fun z M' => M' = M ∧ ((a = 0 ∧ 0 ≤ b ∧ b ≤ 1 → z = 0) ∧ (¬ (a = 0 ∧ 0 ≤ b ∧ b ≤ 1) → z = -1))) := by
  refine mk_CI (by decide) (Nat.le_of_ble_eq_true rfl) ?_
  intro X exl exD excy hnL hX hret
  have hce : 0 + 0 ≤ (xR X).cells ∧ 0 + 0 ≤ (xR X).slots := ⟨Nat.zero_le _, Nat.zero_le _⟩
  have hdq : 5 ≤ q ∧ q ≤ 180 := by omega
  show J X B N 0 0 0 [(0, rv B 0), (1, iv a), (2, iv b)] [] M
  refine j_iload_n hX dX10_proof_0 rfl 1 rfl ?_
  refine j_if_lt (tgt := 24) hX dX10_proof_1 (by decide) (by omega) (fun hc1 => ?_) (fun hc1 => ?_)
  · skip
    refine j_iconst hX dX10_proof_24 ?_
    exact hret _ _ _ _ dX10_proof_25 rfl (by omega) ⟨rfl, by first | assumption | omega⟩
  · skip
    refine j_iload_n hX dX10_proof_4 rfl 1 rfl ?_
    refine j_aload_n hX dX10_proof_5 rfl 0 rfl ?_
    refine gf_X10_62 hX (by omega) (by omega) kc_0 ht (by omega) dX10_proof_6 ?_
    refine j_callVI hX lk_X10_263 (cv_X6_allFacts _ _ _ _ _ q _ _ (by omega) hI hq hnf (by first | assumption | omega)) (by omega) hce rfl rfl (by omega) (by omega) (kq hq) rfl rfl (Nat.le_of_ble_eq_true rfl) dX10_proof_9 (fun z2 M3 hz5 hp4 => ?_)
    obtain ⟨hE6, hq7, hq8⟩ := hp4
    replace hE6 := hE6.symm
    subst hE6
    refine j_icmp_gt (tgt := 24) hX dX10_proof_12 (by decide) (by omega) (by omega) (fun hc9 => ?_) (fun hc9 => ?_)
    · skip
      refine j_iconst hX dX10_proof_24 ?_
      exact hret _ _ _ _ dX10_proof_25 rfl (by omega) ⟨rfl, by first | assumption | omega⟩
    · skip
      refine j_iload_n hX dX10_proof_15 rfl 2 rfl ?_
      refine j_if_lt (tgt := 24) hX dX10_proof_16 (by decide) (by omega) (fun hc10 => ?_) (fun hc10 => ?_)
      · skip
        refine j_iconst hX dX10_proof_24 ?_
        exact hret _ _ _ _ dX10_proof_25 rfl (by omega) ⟨rfl, by first | assumption | omega⟩
      · skip
        refine j_iload_n hX dX10_proof_19 rfl 2 rfl ?_
        refine j_iconst hX dX10_proof_20 ?_
        refine j_icmp_le (tgt := 26) hX dX10_proof_21 (by decide) (by omega) (by omega) (fun hc11 => ?_) (fun hc11 => ?_)
        · skip
          refine j_aload_n hX dX10_proof_26 rfl 0 rfl ?_
          refine gf_X10_19 hX (by omega) (by omega) kc_0 (fc_0_1 hI) (by decide) dX10_proof_27 ?_
          refine j_callVR hX lk_X10_124 (c_X0_now _ _ _ _ _ _ (by omega) hI) (by omega) hce rfl rfl (by omega) (by omega) kc_26 rfl rfl (Nat.le_of_ble_eq_true rfl) dX10_proof_30 (fun sw M12 hz14 hp13 => ?_)
          obtain ⟨hE15, hq16, hq17⟩ := hp13
          replace hE15 := hE15.symm
          subst hE15
          have hsw : Sc sw := hq16
          have hbsw := sc_b hsw
          have hdsw : 28 ≤ sw ∧ sw ≤ 207 := by omega
          refine j_astore_n (lv' := [(3, _), (0, _), (1, _), (2, _)]) hX dX10_proof_33 rfl (by rw [hnL]; decide) rfl ?_
          refine j_iconst hX dX10_proof_34 ?_
          refine j_istore (lv' := [(4, _), (3, _), (0, _), (1, _), (2, _)]) hX dX10_proof_35 (by rw [hnL]; decide) rfl ?_
          refine j_iload hX dX10_proof_37 0 rfl ?_
          refine j_aload_n hX dX10_proof_39 rfl 2 rfl ?_
          refine gf_X10_62 hX (by omega) (by omega) kc_0 ht (by omega) dX10_proof_40 ?_
          refine gf_X10_111 hX (by omega) (by omega) (kq hq) dX10_proof_43 ?_
          refine j_top hnr ?_
          refine j_icmp_gt (tgt := 111) hX dX10_proof_46 (by decide) (by omega) (by omega) (fun hc18 => ?_) (fun hc18 => ?_)
          · exfalso; omega
          · skip
            refine j_iconst hX dX10_proof_49 ?_
            refine j_istore (lv' := [(5, _), (4, _), (3, _), (0, _), (1, _), (2, _)]) hX dX10_proof_50 (by rw [hnL]; decide) rfl ?_
            refine j_iload hX dX10_proof_52 0 rfl ?_
            refine j_aload_n hX dX10_proof_54 rfl 3 rfl ?_
            refine gf_X10_62 hX (by omega) (by omega) kc_0 ht (by omega) dX10_proof_55 ?_
            refine j_callVI hX lk_X10_220 (cv_X6_allRooms _ _ _ _ _ q _ _ (by omega) hI hq hnr (by first | assumption | omega) (by first | assumption | omega)) (by omega) hce rfl rfl (by omega) (by omega) (kq hq) rfl rfl (Nat.le_of_ble_eq_true rfl) dX10_proof_58 (fun z19 M20 hz22 hp21 => ?_)
            obtain ⟨hE23, hq24, hq25, hq26⟩ := hp21
            replace hE23 := hE23.symm
            subst hE23
            refine j_icmp_gt (tgt := 105) hX dX10_proof_61 (by decide) (by omega) (by omega) (fun hc27 => ?_) (fun hc27 => ?_)
            · exfalso; omega
            · skip
              refine j_iload hX dX10_proof_64 0 rfl ?_
              refine j_callSI hX lk_X10_215 (cv_J6_bitCount_0f7a4 _ _ _ _ _ _ _ (by omega) (by first | assumption | omega)) (by omega) hce rfl rfl (Nat.le_of_ble_eq_true rfl) dX10_proof_66 (fun z28 M29 hz31 hp30 => ?_)
              obtain ⟨hE32, hq33⟩ := hp30
              replace hE32 := hE32.symm
              subst hE32
              refine j_iload hX dX10_proof_69 1 rfl ?_
              refine j_icmp_ne (tgt := 99) hX dX10_proof_71 (by decide) (by omega) (by omega) (fun hc34 => ?_) (fun hc34 => ?_)
              · exfalso; omega
              · skip
                refine j_iload_n hX dX10_proof_74 rfl 4 rfl ?_
                refine j_aload_n hX dX10_proof_75 rfl 2 rfl ?_
                refine j_iload hX dX10_proof_76 0 rfl ?_
                refine j_callVI hX lk_X10_266 (c_X8_knownTogether _ _ _ _ _ sw _ _ (by omega) hI (by omega) hsw) (by omega) hce rfl rfl (by omega) (by omega) (sc_k0 hsw) rfl rfl (Nat.le_of_ble_eq_true rfl) dX10_proof_78 (fun z35 M36 hz38 hp37 => ?_)
                have hE39 := hp37.symm
                subst hE39
                refine j_iconst hX dX10_proof_81 ?_
                refine j_ixor hX dX10_proof_82 (fun z40 hz41 hy42 => ?_)
                refine j_iand hX dX10_proof_83 (fun z43 hz44 hy45 => ?_)
                have hv := and0 hz44 (by omega)
                refine j_if_ne (tgt := 99) hX dX10_proof_84 (by decide) (by omega) (fun hc46 => ?_) (fun hc46 => ?_)
                · exfalso; omega
                · skip
                  refine j_iload_n hX dX10_proof_87 rfl 5 rfl ?_
                  refine j_if_ne (tgt := 96) hX dX10_proof_88 (by decide) (by omega) (fun hc47 => ?_) (fun hc47 => ?_)
                  · skip
                    refine j_iload hX dX10_proof_96 0 rfl ?_
                    exact hret _ _ _ _ dX10_proof_98 rfl (by omega) ⟨rfl, by first | assumption | omega⟩
                  · skip
                    refine j_iload hX dX10_proof_91 1 rfl ?_
                    refine j_goto (tgt := 98) hX dX10_proof_93 (by decide) ?_
                    exact hret _ _ _ _ dX10_proof_98 rfl (by omega) ⟨rfl, by first | assumption | omega⟩
        · skip
          refine j_iconst hX dX10_proof_24 ?_
          exact hret _ _ _ _ dX10_proof_25 rfl (by omega) ⟨rfl, by first | assumption | omega⟩
set_option maxHeartbeats 2000000 in
set_option maxRecDepth 20000 in
theorem cv_X8_copyFrom (l : Launch) (D : va_G) (cy : Nat → ClassId) (B N : Nat) (s : Int) (s2 : Int) (nr : Int) (M : MM) (hN : 210 ≤ N) (hI : Iv M) (hs : Sc s) (hs2 : Sc s2) (hV : V nr s2 M) (hap2 : s2 + 2 < s ∨ s + 2 < s2) (hka : KA 0 (s2 + 2) M) : CV l D cy B N 1 yX8_copyFrom cX8_copyFrom 2 none [rv B s, rv B s2] M (fun M' => Iv M' ∧ Fr (fun a (_ : Int) => (s ≤ a ∧ a ≤ s + 2)) M M' ∧ (V nr s M') ∧ (KA 0 (s + 2) M') ∧ (M'.1 s 4 = M.1 s2 4)) := by
  refine mk_CV (by decide) (Nat.le_of_ble_eq_true rfl) ?_
  intro X exl exD excy hnL hX hret
  have hce : 0 + 0 ≤ (xR X).cells ∧ 0 + 0 ≤ (xR X).slots := ⟨Nat.zero_le _, Nat.zero_le _⟩
  have hbs := sc_b hs
  have hds : 28 ≤ s ∧ s ≤ 207 := by omega
  have hbs2 := sc_b hs2
  have hds2 : 28 ≤ s2 ∧ s2 ≤ 207 := by omega
  have hF : Fr (fun a (_ : Int) => (s ≤ a ∧ a ≤ s + 2)) M M := Fr.rf
  have hk1 : M.1 s2 3 = M.1 s2 3 := rfl
  have hk2 : M.1 s2 4 = M.1 s2 4 := rfl
  have hh3 := hV.2
  have hap := sc_ap hs hs2
  show J X B N 0 0 0 [(0, rv B s), (1, rv B s2)] [] M
  refine j_aload_n hX dX8_copyFrom_0 rfl 1 rfl ?_
  refine gf_X8_9 hX (by omega) (by omega) (sc_k0 hs2) (sc_f0 hI hs2) (by omega) dX8_copyFrom_1 ?_
  refine j_iconst hX dX8_copyFrom_4 ?_
  refine j_aload_n hX dX8_copyFrom_5 rfl 0 rfl ?_
  refine gf_X8_9 hX (by omega) (by omega) (sc_k0 hs) (sc_f0 hI hs) (by omega) dX8_copyFrom_6 ?_
  refine j_iconst hX dX8_copyFrom_9 ?_
  refine j_bipush hX dX8_copyFrom_10 rfl ?_
  refine j_copy hX (in_4 110 (by first | rfl | decide +kernel) rfl) (by omega) (by omega) (sc_k1 hs2) (by omega) (by omega) (sc_k1 hs) (by omega) (by omega) (by omega) (by omega) (by omega) (by decide) (Nat.le_of_ble_eq_true rfl) dX8_copyFrom_12 ?_
  refine j_cp hI (fun b => (sc_w hs2 b)) (fun b => (sc_w hs b)) (by omega) (by omega) (by omega) (fun M3 hM4 hI5 => ?_)
  have hG6 := fr_cp hM4
  have hk7 := kp_fr hG6 (by omega) hk1
  have hk8 := kp_fr hG6 (by omega) hk2
  have hF9 := Fr.trans hF hG6 (fun a b h => by omega)
  have hE : ∀ r, 0 ≤ r → r < 6 → M3.1 (s + 1) r = M.1 (s2 + 1) r := fun r h0 h1 => cp_at hM4 h0 h1
  have hka0 := KA_fr hka hF9 (fun b h => by omega)
  have hV10 : VR nr s M3 := VR_copy hV.1 hE
  refine j_aload_n hX dX8_copyFrom_15 rfl 1 rfl ?_
  refine gf_X8_15 hX (by omega) (by omega) (sc_k0 hs2) (sc_f1 hI5 hs2) (by omega) dX8_copyFrom_16 ?_
  refine j_iconst hX dX8_copyFrom_19 ?_
  refine j_aload_n hX dX8_copyFrom_20 rfl 0 rfl ?_
  refine gf_X8_15 hX (by omega) (by omega) (sc_k0 hs) (sc_f1 hI5 hs) (by omega) dX8_copyFrom_21 ?_
  refine j_iconst hX dX8_copyFrom_24 ?_
  refine j_bipush hX dX8_copyFrom_25 rfl ?_
  refine j_copy hX (in_4 110 (by first | rfl | decide +kernel) rfl) (by omega) (by omega) (sc_k2 hs2) (by omega) (by omega) (sc_k2 hs) (by omega) (by omega) (by omega) (by omega) (by omega) (by decide) (Nat.le_of_ble_eq_true rfl) dX8_copyFrom_27 ?_
  refine j_cp hI5 (fun b => (sc_n hs2 b)) (fun b => (sc_n hs b)) (by omega) (by omega) (by omega) (fun M11 hM12 hI13 => ?_)
  have hG14 := fr_cp hM12
  have hV15 := VR_fr hV10 hG14 (fun b => by omega)
  have hk16 := kp_fr hG14 (by omega) hk7
  have hk17 := kp_fr hG14 (by omega) hk8
  have hF18 := Fr.trans hF9 hG14 (fun a b h => by omega)
  have hka1 := KA_cp hka0 hM12
  refine j_aload_n hX dX8_copyFrom_30 rfl 0 rfl ?_
  refine j_aload_n hX dX8_copyFrom_31 rfl 1 rfl ?_
  refine gf_X8_18 hX (by omega) (by omega) (sc_k0 hs2) dX8_copyFrom_32 ?_
  refine j_name hI13 (sc_r2 hs2) (fun v19 hv20 hl21 hh22 => ?_)
  have hk23 := hv20.symm
  refine pf_X8_18 hX (by omega) (by omega) (sc_k0 hs) (by omega) dX8_copyFrom_35 ?_
  refine j_up hI13 (sc_r2 hs) (by omega) (by omega) (Or.inl (by omega)) (fun M24 w25 hw26 hM27 hI28 hf29 => ?_)
  have hV30 := VR_up hV15 hM27 (by omega)
  have hk31 := kp_up hM27 (by omega) hk16
  have hk32 := kp_up hM27 (by omega) hk17
  clear hk16 hk17 hk23
  have hF33 := Fr.put hF18 hM27 (by omega)
  have hka2 := KA_up hka1 hM27 (by omega)
  refine j_aload_n hX dX8_copyFrom_38 rfl 0 rfl ?_
  refine j_aload_n hX dX8_copyFrom_39 rfl 1 rfl ?_
  refine gf_X8_22 hX (by omega) (by omega) (sc_k0 hs2) dX8_copyFrom_40 ?_
  refine j_name hI28 (sc_r3 hs2) (fun v34 hv35 hl36 hh37 => ?_)
  have hk38 := hv35.symm
  refine pf_X8_22 hX (by omega) (by omega) (sc_k0 hs) (by omega) dX8_copyFrom_43 ?_
  refine j_up hI28 (sc_r3 hs) (by omega) (by omega) (Or.inl (by omega)) (fun M39 w40 hw41 hM42 hI43 hf44 => ?_)
  have hV45 := VR_up hV30 hM42 (by omega)
  have hk46 := kp_up hM42 (by omega) hk32
  have hk47 := kp_up hM42 (fun h => absurd h.2 (by decide)) hf29
  clear hk38 hk32 hf29
  have hF48 := Fr.put hF33 hM42 (by omega)
  have hka3 := KA_up hka2 hM42 (by omega)
  refine j_aload_n hX dX8_copyFrom_46 rfl 0 rfl ?_
  refine j_aload_n hX dX8_copyFrom_47 rfl 1 rfl ?_
  refine gf_X8_25 hX (by omega) (by omega) (sc_k0 hs2) dX8_copyFrom_48 ?_
  refine j_name hI43 (sc_r4 hs2) (fun v49 hv50 hl51 hh52 => ?_)
  have hk53 := hv50.symm
  refine pf_X8_25 hX (by omega) (by omega) (sc_k0 hs) (by omega) dX8_copyFrom_51 ?_
  refine j_up hI43 (sc_r4 hs) (by omega) (by omega) (Or.inl (by omega)) (fun M54 w55 hw56 hM57 hI58 hf59 => ?_)
  have hV60 := VR_up hV45 hM57 (by omega)
  have hk61 := kp_up hM57 (fun h => absurd h.2 (by decide)) hk47
  have hk62 := kp_up hM57 (fun h => absurd h.2 (by decide)) hf44
  clear hk53 hk47 hf44
  have hF63 := Fr.put hF48 hM57 (by omega)
  have hka4 := KA_up hka3 hM57 (by omega)
  refine j_aload_n hX dX8_copyFrom_54 rfl 0 rfl ?_
  refine j_aload_n hX dX8_copyFrom_55 rfl 1 rfl ?_
  refine gf_X8_28 hX (by omega) (by omega) (sc_k0 hs2) dX8_copyFrom_56 ?_
  refine j_name hI58 (sc_r5 hs2) (fun v64 hv65 hl66 hh67 => ?_)
  have hk68 := hv65.symm
  refine pf_X8_28 hX (by omega) (by omega) (sc_k0 hs) (by omega) dX8_copyFrom_59 ?_
  refine j_up hI58 (sc_r5 hs) (by omega) (by omega) (Or.inl (by omega)) (fun M69 w70 hw71 hM72 hI73 hf74 => ?_)
  have hV75 := VR_up hV60 hM72 (by omega)
  have hk76 := kp_up hM72 (fun h => absurd h.2 (by decide)) hk61
  have hk77 := kp_up hM72 (fun h => absurd h.2 (by decide)) hk62
  have hk78 := kp_up hM72 (fun h => absurd h.2 (by decide)) hf59
  clear hk61 hk62 hf59 hk68
  have hF79 := Fr.put hF63 hM72 (by omega)
  have hka5 := KA_up hka4 hM72 (by omega)
  exact hret _ _ _ dX8_copyFrom_62 ⟨hI73, hF79, ⟨by assumption, by omega⟩, hka5, by omega⟩
set_option maxHeartbeats 2000000 in
set_option maxRecDepth 20000 in
theorem cv_X10_lookAhead (l : Launch) (D : va_G) (cy : Nat → ClassId) (B N : Nat) (q : Int) (nr : Int) (a : Int) (M : MM) (hN : 210 ≤ N) (hI : Iv M) (hpa : I32 a) (hq : q = 5 ∨ q = 180) (ht : M.1 0 8 = q) (hnr : M.1 q 0 = nr) (hVn : Vn nr M) (hnb : 0 ≤ nr ∧ nr ≤ 6) (hz0 : nr = 0) (hN0 : M.1 27 (M.1 26 1) = 28) (hK0 : KA 0 30 M) : CV l D cy B N 5 yX10_lookAhead cX10_lookAhead 3 none [rv B 0, iv a] M (fun M' => Iv M' ∧ Fr (fun a (_ : Int) => (152 ≤ a ∧ a ≤ 155)) M M' ∧ (V nr 153 M') ∧ (KA 0 155 M')) := by
  refine mk_CV (by decide) (Nat.le_of_ble_eq_true rfl) ?_
  intro X exl exD excy hnL hX hret
  have hce : 0 + 0 ≤ (xR X).cells ∧ 0 + 0 ≤ (xR X).slots := ⟨Nat.zero_le _, Nat.zero_le _⟩
  have hdq : 5 ≤ q ∧ q ≤ 180 := by omega
  have hF : Fr (fun a (_ : Int) => (152 ≤ a ∧ a ≤ 155)) M M := Fr.rf
  have cp : ∀ n : Nat, (∀ (x2 : Int), ∀ (Mc : MM), I32 x2 → Iv Mc → Fr (fun a (_ : Int) => (152 ≤ a ∧ a ≤ 155)) M Mc → Mc.1 0 8 = q → Mc.1 q 0 = nr → V nr 153 Mc → KA 0 155 Mc → (0 ≤ x2) → 0 ≤ 32 * (2147483648 - x2) + 1 → 32 * (2147483648 - x2) + 1 < (n : Int) → J X B N 0 0 16 [(0, rv B 0), (1, iv a), (2, iv x2)] [] Mc) := by
    intro n
    induction n with
    | zero => exact by intros; exfalso; omega
    | succ n ih =>
      · intro x2 Mc hxx2 hI hF hk_0 hk_1 hV_0 hV_1 h2 hm0 hm1
        refine j_iload_n hX dX10_lookAhead_16 rfl 2 rfl ?_
        refine j_iload_n hX dX10_lookAhead_17 rfl 1 rfl ?_
        refine j_icmp_ge (tgt := 43) hX dX10_lookAhead_18 (by decide) (by omega) (by omega) (fun hc1 => ?_) (fun hc1 => ?_)
        · skip
          exact hret _ _ _ dX10_lookAhead_43 ⟨hI, hF, by assumption, hV_1⟩
        · skip
          refine j_aload_n hX dX10_lookAhead_21 rfl 0 rfl ?_
          refine gf_X10_26 hX (by omega) (by omega) kc_0 (fc_0_2 hI) (by decide) dX10_lookAhead_22 ?_
          refine j_aload_n hX dX10_lookAhead_25 rfl 0 rfl ?_
          refine gf_X10_62 hX (by omega) (by omega) kc_0 hk_0 (by omega) dX10_lookAhead_26 ?_
          refine j_aload_n hX dX10_lookAhead_29 rfl 0 rfl ?_
          refine gf_X10_33 hX (by omega) (by omega) kc_0 (fc_0_3 hI) (by decide) dX10_lookAhead_30 ?_
          have h153 : Sc 153 := by unfold Sc; omega
          refine j_callVI hX lk_X10_194 (cv_X1_passHour _ _ _ _ _ q 153 _ _ (by omega) hI hq h153 hk_1 (by first | assumption | omega) (by first | assumption | omega) (by first | assumption | omega)) (by omega) hce rfl rfl (by omega) (by omega) kc_151 rfl rfl (Nat.le_of_ble_eq_true rfl) dX10_lookAhead_33 (fun z2 M3 hz5 hp4 => ?_)
          obtain ⟨hI7, hG8, hq9, hq10⟩ := hp4
          have hk13 := kp_fr hG8 (by omega) hk_0
          have hk14 := kp_fr hG8 (by omega) hk_1
          have hF15 := Fr.trans hF hG8 (fun a b h => by omega)
          have hkz3 := KA_fr hV_1 hG8 (fun b h => by omega)
          refine j_pop hX dX10_lookAhead_36 rfl ?_
          refine j_iinc (lv' := [(2, _), (0, _), (1, _)]) hX dX10_lookAhead_37 2 rfl (by rw [hnL]; decide) rfl ?_
          refine j_goto (tgt := 16) hX dX10_lookAhead_40 (by decide) ?_
          refine j_sub [1, 2, 0] rfl ?_
          exact ih _ _ (by omega) hI7 hF15 hk13 hk14 hq9 (by assumption) (by first | assumption | omega) (by omega) (by omega)
  show J X B N 0 0 0 [(0, rv B 0), (1, iv a)] [] M
  refine j_aload_n hX dX10_lookAhead_0 rfl 0 rfl ?_
  refine gf_X10_33 hX (by omega) (by omega) kc_0 (fc_0_3 hI) (by decide) dX10_lookAhead_1 ?_
  have h153 : Sc 153 := by unfold Sc; omega
  refine j_aload_n hX dX10_lookAhead_4 rfl 0 rfl ?_
  refine gf_X10_19 hX (by omega) (by omega) kc_0 (fc_0_1 hI) (by decide) dX10_lookAhead_5 ?_
  refine j_callVR hX lk_X10_124 (c_X0_now _ _ _ _ _ _ (by omega) hI) (by omega) hce rfl rfl (by omega) (by omega) kc_26 rfl rfl (Nat.le_of_ble_eq_true rfl) dX10_lookAhead_8 (fun sw M16 hz18 hp17 => ?_)
  obtain ⟨hE19, hq20, hq21⟩ := hp17
  replace hE19 := hE19.symm
  subst hE19
  have hsw28 : sw = 28 := hq21.trans hN0
  have hV22 : V nr sw M := by rw [hq21]; exact hVn
  have hsw : Sc sw := hq20
  have hbsw := sc_b hsw
  have hdsw : 28 ≤ sw ∧ sw ≤ 207 := by omega
  refine j_callVV hX lk_X10_204 (cv_X8_copyFrom _ _ _ _ _ 153 sw _ _ (by omega) hI h153 hsw (by first | assumption | omega) (by first | assumption | omega) (by rw [hsw28]; exact hK0)) (by omega) hce rfl rfl (by omega) (by omega) (sc_k0 h153) rfl rfl (Nat.le_of_ble_eq_true rfl) dX10_lookAhead_11 (fun M24 hp25 => ?_)
  obtain ⟨hI28, hG29, hq30, hq31, hq32⟩ := hp25
  have hV33 := Vn_fr hVn hI hG29 (fun a b h => by omega)
  have hk37 := kp_fr hG29 (by omega) ht
  have hk38 := kp_fr hG29 (by omega) hnr
  have hF39 := Fr.trans hF hG29 (fun a b h => by omega)
  refine j_iconst hX dX10_lookAhead_14 ?_
  refine j_istore_n (lv' := [(2, _), (0, _), (1, _)]) hX dX10_lookAhead_15 rfl (by rw [hnL]; decide) rfl ?_
  refine j_sub [1, 2, 0] rfl ?_
  refine (cp (Int.toNat (68719476800 + 1))) _ _ (by omega) hI28 hF39 hk37 hk38 hq30 hq31 (by first | assumption | omega) ?_ ?_
  · omega
  · omega
set_option maxHeartbeats 2000000 in
set_option maxRecDepth 20000 in
theorem cv_X10_gossip (l : Launch) (D : va_G) (cy : Nat → ClassId) (B N : Nat) (q : Int) (nr : Int) (a : Int) (M : MM) (hN : 210 ≤ N) (hI : Iv M) (hpa : I32 a) (hq : q = 5 ∨ q = 180) (ht : M.1 0 8 = q) (hnr : M.1 q 0 = nr) (hVn : Vn nr M) (hnb : 0 ≤ nr ∧ nr ≤ 6) (hz0 : nr = 0) (hN0 : M.1 27 (M.1 26 1) = 28) (hK0 : KA 0 30 M) : CI l D cy B N 6 yX10_gossip cX10_gossip 2 (some .int) [rv B 0, iv a] M (fun z M' => Iv M' ∧ Fr (fun a (_ : Int) => (152 ≤ a ∧ a ≤ 155)) M M' ∧ ((0 ≤ a ∧ a ≤ 240 → z = 0) ∧ (¬ (0 ≤ a ∧ a ≤ 240) → z = -1))) := by
  refine mk_CI (by decide) (Nat.le_of_ble_eq_true rfl) ?_
  intro X exl exD excy hnL hX hret
  have hce : 0 + 0 ≤ (xR X).cells ∧ 0 + 0 ≤ (xR X).slots := ⟨Nat.zero_le _, Nat.zero_le _⟩
  have hdq : 5 ≤ q ∧ q ≤ 180 := by omega
  have hF : Fr (fun a (_ : Int) => (152 ≤ a ∧ a ≤ 155)) M M := Fr.rf
  show J X B N 0 0 0 [(0, rv B 0), (1, iv a)] [] M
  refine j_iload_n hX dX10_gossip_0 rfl 1 rfl ?_
  refine j_if_lt (tgt := 11) hX dX10_gossip_1 (by decide) (by omega) (fun hc1 => ?_) (fun hc1 => ?_)
  · skip
    refine j_iconst hX dX10_gossip_11 ?_
    exact hret _ _ _ _ dX10_gossip_12 rfl (by omega) ⟨hI, hF, by first | assumption | omega⟩
  · skip
    refine j_iload_n hX dX10_gossip_4 rfl 1 rfl ?_
    refine j_sipush hX dX10_gossip_5 rfl ?_
    refine j_icmp_le (tgt := 13) hX dX10_gossip_8 (by decide) (by omega) (by omega) (fun hc2 => ?_) (fun hc2 => ?_)
    · skip
      refine j_aload_n hX dX10_gossip_13 rfl 0 rfl ?_
      refine j_iload_n hX dX10_gossip_14 rfl 1 rfl ?_
      refine j_callVV hX lk_X10_212 (cv_X10_lookAhead _ _ _ _ _ _ _ _ _ (by omega) hI (by omega) (by assumption) ht hnr (by first | assumption | omega) (by first | assumption | omega) (by first | assumption | omega) hN0 hK0) (by omega) hce rfl rfl (by omega) (by omega) kc_0 rfl rfl (Nat.le_of_ble_eq_true rfl) dX10_gossip_15 (fun M4 hp5 => ?_)
      obtain ⟨hI8, hG9, hq10, hq11⟩ := hp5
      have hV12 := Vn_fr hVn hI hG9 (fun a b h => by omega)
      have hV13 := N0_dp hN0 (fun a b h => hG9 a b (by omega))
      have hV14 := KA_dp hK0 (fun a b h => hG9 a b (by omega))
      have hk15 := kp_fr hG9 (fun h => absurd h.1 (by decide)) ht
      have hk16 := kp_fr hG9 (by omega) hnr
      have hF17 := Fr.trans hF hG9 (fun a b h => h)
      refine j_aload_n hX dX10_gossip_18 rfl 0 rfl ?_
      refine gf_X10_33 hX (by omega) (by omega) kc_0 (fc_0_3 hI8) (by decide) dX10_gossip_19 ?_
      have h153 : Sc 153 := by unfold Sc; omega
      refine j_callVI hX lk_X10_224 (cv_X8_knownInAll _ _ _ _ _ 153 _ (by omega) hI8 h153 (hq11)) (by omega) hce rfl rfl (by omega) (by omega) (sc_k0 h153) rfl rfl (Nat.le_of_ble_eq_true rfl) dX10_gossip_22 (fun z18 M19 hz21 hp20 => ?_)
      obtain ⟨hE22, hq23⟩ := hp20
      replace hE22 := hE22.symm
      subst hE22
      refine j_aload_n hX dX10_gossip_25 rfl 0 rfl ?_
      refine gf_X10_19 hX (by omega) (by omega) kc_0 (fc_0_1 hI8) (by decide) dX10_gossip_26 ?_
      refine j_callVR hX lk_X10_124 (c_X0_now _ _ _ _ _ _ (by omega) hI8) (by omega) hce rfl rfl (by omega) (by omega) kc_26 rfl rfl (Nat.le_of_ble_eq_true rfl) dX10_gossip_29 (fun sw M24 hz26 hp25 => ?_)
      obtain ⟨hE27, hq28, hq29⟩ := hp25
      replace hE27 := hE27.symm
      subst hE27
      have hsw28 : sw = 28 := hq29.trans hV13
      have hsw : Sc sw := hq28
      have hbsw := sc_b hsw
      have hdsw : 28 ≤ sw ∧ sw ≤ 207 := by omega
      refine j_callVI hX lk_X10_224 (cv_X8_knownInAll _ _ _ _ _ sw _ (by omega) hI8 hsw (by rw [hsw28]; exact hV14)) (by omega) hce rfl rfl (by omega) (by omega) (sc_k0 hsw) rfl rfl (Nat.le_of_ble_eq_true rfl) dX10_gossip_32 (fun z30 M31 hz33 hp32 => ?_)
      obtain ⟨hE34, hq35⟩ := hp32
      replace hE34 := hE34.symm
      subst hE34
      refine j_isub hX dX10_gossip_35 ?_
      exact hret _ _ _ _ dX10_gossip_36 rfl (by omega) ⟨hI8, hF17, by first | assumption | omega⟩
    · skip
      refine j_iconst hX dX10_gossip_11 ?_
      exact hret _ _ _ _ dX10_gossip_12 rfl (by omega) ⟨hI, hF, by first | assumption | omega⟩
set_option maxHeartbeats 2000000 in
set_option maxRecDepth 20000 in
theorem cv_X10_image (l : Launch) (D : va_G) (cy : Nat → ClassId) (B N : Nat) (q : Int) (nr : Int) (a : Int) (M : MM) (hN : 210 ≤ N) (hI : Iv M) (hpa : I32 a) (hq : q = 5 ∨ q = 180) (ht : M.1 0 8 = q) (hnr : M.1 q 0 = nr) (hVn : Vn nr M) (hnb : 0 ≤ nr ∧ nr ≤ 6) (hBF : BF nr M) (hN0 : M.1 27 (M.1 26 1) = 28) (hK0 : KA 0 30 M) (hd0 : M.1 28 4 = 0) : CI l D cy B N 2 yX10_image cX10_image 2 (some .int) [rv B 0, iv a] M (fun z M' => Iv M' ∧ Fr (fun a b => (a = 0 ∧ 9 ≤ b ∧ b ≤ 9) ∨ (201 ≤ a ∧ a ≤ 209)) M M' ∧ (BF nr M') ∧ ((0 ≤ a ∧ a ≤ 2 → z = 0) ∧ (¬ (0 ≤ a ∧ a ≤ 2) → z = -1))) := by
  refine mk_CI (by decide) (Nat.le_of_ble_eq_true rfl) ?_
  intro X exl exD excy hnL hX hret
  have hce : 0 + 0 ≤ (xR X).cells ∧ 0 + 0 ≤ (xR X).slots := ⟨Nat.zero_le _, Nat.zero_le _⟩
  have hdq : 5 ≤ q ∧ q ≤ 180 := by omega
  have hF : Fr (fun a b => (a = 0 ∧ 9 ≤ b ∧ b ≤ 9) ∨ (201 ≤ a ∧ a ≤ 209)) M M := Fr.rf
  have hk1 : M.1 0 9 = M.1 0 9 := rfl
  show J X B N 0 0 0 [(0, rv B 0), (1, iv a)] [] M
  refine j_iload_n hX dX10_image_0 rfl 1 rfl ?_
  refine j_if_lt (tgt := 9) hX dX10_image_1 (by decide) (by omega) (fun hc2 => ?_) (fun hc2 => ?_)
  · skip
    refine j_iconst hX dX10_image_9 ?_
    exact hret _ _ _ _ dX10_image_10 rfl (by omega) ⟨hI, hF, by first | exact hBF | exact hbf, by first | assumption | omega⟩
  · skip
    refine j_iload_n hX dX10_image_4 rfl 1 rfl ?_
    refine j_iconst hX dX10_image_5 ?_
    refine j_icmp_lt (tgt := 11) hX dX10_image_6 (by decide) (by omega) (by omega) (fun hc3 => ?_) (fun hc3 => ?_)
    · skip
      refine j_aload_n hX dX10_image_11 rfl 0 rfl ?_
      refine gf_X10_37 hX (by omega) (by omega) kc_0 (fc_0_4 hI) (by decide) dX10_image_12 ?_
      refine j_iload_n hX dX10_image_15 rfl 1 rfl ?_
      refine j_aald4n hX (by omega) (by omega) kc_156 (by omega) (by omega) (by decide) (bx_sc hI (by omega) (by omega)) dX10_image_16 (fun sb esb hsb => ?_)
      have hbsb := sc_b hsb
      have hdsb : 28 ≤ sb ∧ sb ≤ 207 := by omega
      have hrsb := sc_156 hI esb (by omega) (by omega)
      have hsb3 := fbx hI (i := a) (by omega) (by omega)
      refine j_aload_n hX dX10_image_17 rfl 0 rfl ?_
      refine gf_X10_19 hX (by omega) (by omega) kc_0 (fc_0_1 hI) (by decide) dX10_image_18 ?_
      refine j_callVR hX lk_X10_124 (c_X0_now _ _ _ _ _ _ (by omega) hI) (by omega) hce rfl rfl (by omega) (by omega) kc_26 rfl rfl (Nat.le_of_ble_eq_true rfl) dX10_image_21 (fun sw M4 hz6 hp5 => ?_)
      obtain ⟨hE7, hq8, hq9⟩ := hp5
      replace hE7 := hE7.symm
      subst hE7
      have hsw28 : sw = 28 := hq9.trans hN0
      have hV10 : V nr sw M := by rw [hq9]; exact hVn
      have hsw : Sc sw := hq8
      have hbsw := sc_b hsw
      have hdsw : 28 ≤ sw ∧ sw ≤ 207 := by omega
      refine j_callVV hX lk_X10_204 (cv_X8_copyFrom _ _ _ _ _ sb sw _ _ (by omega) hI hsb hsw (by first | assumption | omega) (by first | assumption | omega) (by rw [hsw28]; exact hK0)) (by omega) hce rfl rfl (by omega) (by omega) (sc_k0 hsb) rfl rfl (Nat.le_of_ble_eq_true rfl) dX10_image_24 (fun M12 hp13 => ?_)
      obtain ⟨hI16, hG17, hq18, hq19, hq20⟩ := hp13
      have hk23 := kp_fr hG17 (by omega) ht
      have hk24 := kp_fr hG17 (by omega) hnr
      have hk25 := kp_fr hG17 (by omega) hk1
      clear hk1
      have hF26 := Fr.trans hF hG17 (fun a b h => by omega)
      have hvb := hq18
      have hgb := hG17
      have hday : M12.1 sb 4 = 0 := by rw [hq20, hsw28]; exact hd0
      refine j_aload_n hX dX10_image_27 rfl 0 rfl ?_
      refine j_dup hX dX10_image_28 rfl ?_
      refine gf_X10_66 hX (by omega) (by omega) kc_0 dX10_image_29 ?_
      refine j_name hI16 ro_0_9 (fun v27 hv28 hl29 hh30 => ?_)
      have hk31 := hv28.symm
      refine j_iconst hX dX10_image_32 ?_
      refine j_iload_n hX dX10_image_33 rfl 1 rfl ?_
      refine j_ishl hX dX10_image_34 (fun z32 hz33 hy34 => ?_)
      refine j_ior hX dX10_image_35 (fun z35 hz36 hy37 => ?_)
      have hor := orb_of (by assumption) hz36
      refine pf_X10_66 hX (by omega) (by omega) kc_0 (by omega) dX10_image_36 ?_
      refine j_up hI16 ro_0_9 (by omega) (by omega) (Or.inl (by omega)) (fun M38 w39 hw40 hM41 hI42 hf43 => ?_)
      have hk44 := kp_up hM41 (fun h => absurd h.2 (by decide)) hk23
      have hk45 := kp_up hM41 (by omega) hk24
      have hk46 := kp_up hM41 (by omega) hday
      clear hk23 hk24 hk31
      have hF47 := Fr.put hF26 hM41 ((Or.inl ⟨rfl, by decide, by decide⟩))
      have hbf := BF_im hBF (by omega) (by omega) (by omega : sb = 201 + 3 * a) hvb hgb (fun c b h => by omega) (by omega) hM41 hw40 hor
      refine j_aload_n hX dX10_image_39 rfl 0 rfl ?_
      refine gf_X10_37 hX (by omega) (by omega) kc_0 (fc_0_4 hI42) (by decide) dX10_image_40 ?_
      refine j_iload_n hX dX10_image_43 rfl 1 rfl ?_
      refine j_aald4n hX (by omega) (by omega) kc_156 (by omega) (by omega) (by decide) (bx_sc hI42 (by omega) (by omega)) dX10_image_44 (fun sd esd hsd => ?_)
      have hbsd := sc_b hsd
      have hdsd : 28 ≤ sd ∧ sd ≤ 207 := by omega
      have hrsd := sc_156 hI42 esd (by omega) (by omega)
      have hsd3 := fbx hI42 (i := a) (by omega) (by omega)
      have hsdb : sd = sb := by omega
      have hdd : M38.1 sd 4 = 0 := by rw [hsdb]; assumption
      refine gf_X10_191 hX (by omega) (by omega) (sc_k0 hsd) dX10_image_45 ?_
      refine j_name hI42 (sc_r4 hsd) (fun v48 hv49 hl50 hh51 => ?_)
      have hk52 := hv49.symm
      exact hret _ _ _ _ dX10_image_48 rfl (by omega) ⟨hI42, hF47, by first | exact hBF | exact hbf, by first | assumption | omega⟩
    · skip
      refine j_iconst hX dX10_image_9 ?_
      exact hret _ _ _ _ dX10_image_10 rfl (by omega) ⟨hI, hF, by first | exact hBF | exact hbf, by first | assumption | omega⟩
set_option maxHeartbeats 2000000 in
set_option maxRecDepth 20000 in
theorem cv_X5_aimCount (l : Launch) (D : va_G) (cy : Nat → ClassId) (B N : Nat) (M : MM) (hN : 210 ≤ N) (hI : Iv M) (haim : KA (-1) 160 M) : CI l D cy B N 1 yX5_aimCount cX5_aimCount 3 (some .int) [rv B 157] M (fun z M' => M' = M ∧ (z = 0)) := by
  refine mk_CI (by decide) (Nat.le_of_ble_eq_true rfl) ?_
  intro X exl exD excy hnL hX hret
  have hce : 0 + 0 ≤ (xR X).cells ∧ 0 + 0 ≤ (xR X).slots := ⟨Nat.zero_le _, Nat.zero_le _⟩
  have cp : ∀ n : Nat, (∀ (x1 x2 : Int), I32 x1 → I32 x2 → (0 ≤ x2 ∧ x2 ≤ 6 ∧ x1 = 0) → 0 ≤ 32 * (6 - x2) + 1 → 32 * (6 - x2) + 1 < (n : Int) → J X B N 0 0 4 [(0, rv B 157), (1, iv x1), (2, iv x2)] [] M) := by
    intro n
    induction n with
    | zero => exact by intros; exfalso; omega
    | succ n ih =>
      · intro x1 x2 hxx1 hxx2 h2 hm0 hm1
        refine j_iload_n hX dX5_aimCount_4 rfl 2 rfl ?_
        refine j_bipush hX dX5_aimCount_5 rfl ?_
        refine j_icmp_ge (tgt := 29) hX dX5_aimCount_7 (by decide) (by omega) (by omega) (fun hc1 => ?_) (fun hc1 => ?_)
        · skip
          refine j_iload_n hX dX5_aimCount_29 rfl 1 rfl ?_
          exact hret _ _ _ _ dX5_aimCount_30 rfl (by omega) ⟨rfl, by first | assumption | omega⟩
        · skip
          refine j_aload_n hX dX5_aimCount_10 rfl 0 rfl ?_
          refine gf_X5_18 hX (by omega) (by omega) kc_157 (fc_157_1 hI) (by decide) dX5_aimCount_11 ?_
          refine j_iload_n hX dX5_aimCount_14 rfl 2 rfl ?_
          refine j_iald hX (by omega) (by omega) kc_160 (by omega) (by omega) (by omega) dX5_aimCount_15 ?_
          refine j_name hI (ra_160 _) (fun v2 hv3 hl4 hh5 => ?_)
          refine j_iconst hX dX5_aimCount_16 ?_
          refine j_icmp_eq (tgt := 23) hX dX5_aimCount_17 (by decide) (by omega) (by omega) (fun hc6 => ?_) (fun hc6 => ?_)
          · skip
            refine j_iinc (lv' := [(2, _), (0, _), (1, _)]) hX dX5_aimCount_23 2 rfl (by rw [hnL]; decide) rfl ?_
            refine j_goto (tgt := 4) hX dX5_aimCount_26 (by decide) ?_
            refine j_sub [1, 2, 0] rfl ?_
            exact ih _ _ (by omega) (by omega) (by first | assumption | omega) (by omega) (by omega)
          · exfalso; have := haim x2 (by omega) (by omega); omega
  show J X B N 0 0 0 [(0, rv B 157)] [] M
  refine j_iconst hX dX5_aimCount_0 ?_
  refine j_istore_n (lv' := [(1, _), (0, _)]) hX dX5_aimCount_1 rfl (by rw [hnL]; decide) rfl ?_
  refine j_iconst hX dX5_aimCount_2 ?_
  refine j_istore_n (lv' := [(2, _), (1, _), (0, _)]) hX dX5_aimCount_3 rfl (by rw [hnL]; decide) rfl ?_
  refine j_sub [2, 1, 0] rfl ?_
  refine (cp (Int.toNat (256 + 1))) _ _ (by omega) (by omega) (by first | assumption | omega) ?_ ?_
  · omega
  · omega
set_option maxHeartbeats 2000000 in
set_option maxRecDepth 20000 in
theorem cv_X10_about (l : Launch) (D : va_G) (cy : Nat → ClassId) (B N : Nat) (q : Int) (nr : Int) (nf : Int) (nt : Int) (ct : Int) (tp : Int) (gc : Int) (tm : Int) (tl : Int) (ru : Int) (lc : Int) (a : Int) (M : MM) (hN : 210 ≤ N) (hI : Iv M) (hpa : I32 a) (hq : q = 5 ∨ q = 180) (ht : M.1 0 8 = q) (hnr : M.1 q 0 = nr) (hnf : M.1 q 4 = nf) (hnt : M.1 q 11 = nt) (hat : M.1 26 1 = ct) (htp : M.1 26 2 = tp) (hgc : M.1 164 8 = gc) (htm : M.1 0 11 = tm) (htl : M.1 2 2 = tl) (hru : M.1 (q + 15) 4 = ru) (hlc : M.1 0 10 = lc) (hz : nr = 0 ∧ nf = 0 ∧ nt = 0 ∧ ct = 0 ∧ tp = 0 ∧ gc = 0 ∧ tm = 0 ∧ tl = 0 ∧ ru = 0 ∧ lc = 0) (hN0 : M.1 27 (M.1 26 1) = 28) (h28 : M.1 28 3 = 0 ∧ M.1 28 4 = 0 ∧ M.1 28 5 = 0) (haim : KA (-1) 160 M) : CI l D cy B N 2 yX10_about cX10_about 3 (some .int) [rv B 0, iv a] M (fun z M' => M' = M ∧ ((0 ≤ a ∧ a ≤ 13 → z = 0) ∧ (¬ (0 ≤ a ∧ a ≤ 13) → z = -1))) := by
  refine mk_CI (by decide) (Nat.le_of_ble_eq_true rfl) ?_
  intro X exl exD excy hnL hX hret
  have hce : 0 + 0 ≤ (xR X).cells ∧ 0 + 0 ≤ (xR X).slots := ⟨Nat.zero_le _, Nat.zero_le _⟩
  have hdq : 5 ≤ q ∧ q ≤ 180 := by omega
  show J X B N 0 0 0 [(0, rv B 0), (1, iv a)] [] M
  refine j_aload_n hX dX10_about_0 rfl 0 rfl ?_
  refine gf_X10_19 hX (by omega) (by omega) kc_0 (fc_0_1 hI) (by decide) dX10_about_1 ?_
  refine j_callVR hX lk_X10_124 (c_X0_now _ _ _ _ _ _ (by omega) hI) (by omega) hce rfl rfl (by omega) (by omega) kc_26 rfl rfl (Nat.le_of_ble_eq_true rfl) dX10_about_4 (fun sw M1 hz3 hp2 => ?_)
  obtain ⟨hE4, hq5, hq6⟩ := hp2
  replace hE4 := hE4.symm
  subst hE4
  have hsw28 : sw = 28 := hq6.trans hN0
  have hk3 : M.1 sw 3 = 0 := by rw [hsw28]; exact h28.1
  have hk4 : M.1 sw 4 = 0 := by rw [hsw28]; exact h28.2.1
  have hk5 : M.1 sw 5 = 0 := by rw [hsw28]; exact h28.2.2
  have hsw : Sc sw := hq5
  have hbsw := sc_b hsw
  have hdsw : 28 ≤ sw ∧ sw ≤ 207 := by omega
  refine j_astore_n (lv' := [(2, _), (0, _), (1, _)]) hX dX10_about_7 rfl (by rw [hnL]; decide) rfl ?_
  refine j_iload_n hX dX10_about_8 rfl 2 rfl ?_
  refine j_table (tgd := 191) hX dX10_about_9 (by omega) (by decide) (fun hc7 => ?_) (fun hc8 hc9 => ?_)
  · skip
    refine j_iconst hX dX10_about_191 ?_
    exact hret _ _ _ _ dX10_about_192 rfl (by omega) ⟨rfl, by first | assumption | omega⟩
  · rcases (by omega : a = 0 ∨ a = 1 ∨ a = 2 ∨ a = 3 ∨ a = 4 ∨ a = 5 ∨ a = 6 ∨ a = 7 ∨ a = 8 ∨ a = 9 ∨ a = 10 ∨ a = 11 ∨ a = 12 ∨ a = 13) with hc10 | hc10 | hc10 | hc10 | hc10 | hc10 | hc10 | hc10 | hc10 | hc10 | hc10 | hc10 | hc10 | hc10
    · refine ⟨71, 80, by rw [hc10]; rfl, by decide, ?_⟩
      refine j_aload_n hX dX10_about_80 rfl 1 rfl ?_
      refine gf_X10_62 hX (by omega) (by omega) kc_0 ht (by omega) dX10_about_81 ?_
      refine gf_X10_111 hX (by omega) (by omega) (kq hq) dX10_about_84 ?_
      refine j_top hnr ?_
      exact hret _ _ _ _ dX10_about_87 rfl (by omega) ⟨rfl, by first | assumption | omega⟩
    · refine ⟨79, 88, by rw [hc10]; rfl, by decide, ?_⟩
      refine j_aload_n hX dX10_about_88 rfl 1 rfl ?_
      refine gf_X10_62 hX (by omega) (by omega) kc_0 ht (by omega) dX10_about_89 ?_
      refine gf_X10_293 hX (by omega) (by omega) (kq hq) dX10_about_92 ?_
      refine j_top hnf ?_
      exact hret _ _ _ _ dX10_about_95 rfl (by omega) ⟨rfl, by first | assumption | omega⟩
    · refine ⟨87, 96, by rw [hc10]; rfl, by decide, ?_⟩
      refine j_aload_n hX dX10_about_96 rfl 0 rfl ?_
      refine gf_X10_296 hX (by omega) (by omega) (sc_k0 hsw) dX10_about_97 ?_
      refine j_top hk3 ?_
      exact hret _ _ _ _ dX10_about_100 rfl (by omega) ⟨rfl, by first | assumption | omega⟩
    · refine ⟨92, 101, by rw [hc10]; rfl, by decide, ?_⟩
      refine j_aload_n hX dX10_about_101 rfl 0 rfl ?_
      refine gf_X10_191 hX (by omega) (by omega) (sc_k0 hsw) dX10_about_102 ?_
      refine j_top hk4 ?_
      exact hret _ _ _ _ dX10_about_105 rfl (by omega) ⟨rfl, by first | assumption | omega⟩
    · refine ⟨97, 106, by rw [hc10]; rfl, by decide, ?_⟩
      refine j_aload_n hX dX10_about_106 rfl 0 rfl ?_
      refine gf_X10_299 hX (by omega) (by omega) (sc_k0 hsw) dX10_about_107 ?_
      refine j_top hk5 ?_
      exact hret _ _ _ _ dX10_about_110 rfl (by omega) ⟨rfl, by first | assumption | omega⟩
    · refine ⟨102, 111, by rw [hc10]; rfl, by decide, ?_⟩
      refine j_aload_n hX dX10_about_111 rfl 1 rfl ?_
      refine gf_X10_62 hX (by omega) (by omega) kc_0 ht (by omega) dX10_about_112 ?_
      refine gf_X10_302 hX (by omega) (by omega) (kq hq) dX10_about_115 ?_
      refine j_top hnt ?_
      exact hret _ _ _ _ dX10_about_118 rfl (by omega) ⟨rfl, by first | assumption | omega⟩
    · refine ⟨110, 119, by rw [hc10]; rfl, by decide, ?_⟩
      refine j_aload_n hX dX10_about_119 rfl 1 rfl ?_
      refine gf_X10_44 hX (by omega) (by omega) kc_0 (fc_0_5 hI) (by decide) dX10_about_120 ?_
      refine j_callVI hX lk_X10_305 (cv_X5_aimCount _ _ _ _ _ _ (by omega) hI (by first | assumption | omega)) (by omega) hce rfl rfl (by omega) (by omega) kc_157 rfl rfl (Nat.le_of_ble_eq_true rfl) dX10_about_123 (fun z11 M12 hz14 hp13 => ?_)
      obtain ⟨hE15, hq16⟩ := hp13
      replace hE15 := hE15.symm
      subst hE15
      exact hret _ _ _ _ dX10_about_126 rfl (by omega) ⟨rfl, by first | assumption | omega⟩
    · refine ⟨118, 127, by rw [hc10]; rfl, by decide, ?_⟩
      refine j_aload_n hX dX10_about_127 rfl 1 rfl ?_
      refine gf_X10_19 hX (by omega) (by omega) kc_0 (fc_0_1 hI) (by decide) dX10_about_128 ?_
      refine gf_X10_308 hX (by omega) (by omega) kc_26 dX10_about_131 ?_
      refine j_top hat ?_
      exact hret _ _ _ _ dX10_about_134 rfl (by omega) ⟨rfl, by first | assumption | omega⟩
    · refine ⟨126, 135, by rw [hc10]; rfl, by decide, ?_⟩
      refine j_aload_n hX dX10_about_135 rfl 1 rfl ?_
      refine gf_X10_19 hX (by omega) (by omega) kc_0 (fc_0_1 hI) (by decide) dX10_about_136 ?_
      refine gf_X10_311 hX (by omega) (by omega) kc_26 dX10_about_139 ?_
      refine j_top htp ?_
      refine j_aload_n hX dX10_about_142 rfl 1 rfl ?_
      refine gf_X10_19 hX (by omega) (by omega) kc_0 (fc_0_1 hI) (by decide) dX10_about_143 ?_
      refine gf_X10_308 hX (by omega) (by omega) kc_26 dX10_about_146 ?_
      refine j_top hat ?_
      refine j_isub hX dX10_about_149 ?_
      exact hret _ _ _ _ dX10_about_150 rfl (by omega) ⟨rfl, by first | assumption | omega⟩
    · refine ⟨142, 151, by rw [hc10]; rfl, by decide, ?_⟩
      refine j_aload_n hX dX10_about_151 rfl 1 rfl ?_
      refine gf_X10_51 hX (by omega) (by omega) kc_0 (fc_0_6 hI) (by decide) dX10_about_152 ?_
      refine gf_X10_314 hX (by omega) (by omega) kc_164 dX10_about_155 ?_
      refine j_top hgc ?_
      exact hret _ _ _ _ dX10_about_158 rfl (by omega) ⟨rfl, by first | assumption | omega⟩
    · refine ⟨150, 159, by rw [hc10]; rfl, by decide, ?_⟩
      refine j_aload_n hX dX10_about_159 rfl 1 rfl ?_
      refine gf_X10_73 hX (by omega) (by omega) kc_0 dX10_about_160 ?_
      refine j_top htm ?_
      exact hret _ _ _ _ dX10_about_163 rfl (by omega) ⟨rfl, by first | assumption | omega⟩
    · refine ⟨155, 164, by rw [hc10]; rfl, by decide, ?_⟩
      refine j_aload_n hX dX10_about_164 rfl 1 rfl ?_
      refine gf_X10_10 hX (by omega) (by omega) kc_0 (fc_0_0 hI) (by decide) dX10_about_165 ?_
      refine gf_X10_80 hX (by omega) (by omega) kc_1 (fc_1_0 hI) (by decide) dX10_about_168 ?_
      refine gf_X10_94 hX (by omega) (by omega) kc_2 dX10_about_171 ?_
      refine j_top htl ?_
      exact hret _ _ _ _ dX10_about_174 rfl (by omega) ⟨rfl, by first | assumption | omega⟩
    · refine ⟨166, 175, by rw [hc10]; rfl, by decide, ?_⟩
      refine j_aload_n hX dX10_about_175 rfl 1 rfl ?_
      refine gf_X10_62 hX (by omega) (by omega) kc_0 ht (by omega) dX10_about_176 ?_
      refine gf_X10_317 hX (by omega) (by omega) (kq hq) (fq_17 hI hq) (by omega) dX10_about_179 ?_
      refine gf_X10_321 hX (by omega) (by omega) (kq_15 hq) dX10_about_182 ?_
      refine j_top hru ?_
      exact hret _ _ _ _ dX10_about_185 rfl (by omega) ⟨rfl, by first | assumption | omega⟩
    · refine ⟨177, 186, by rw [hc10]; rfl, by decide, ?_⟩
      refine j_aload_n hX dX10_about_186 rfl 1 rfl ?_
      refine gf_X10_70 hX (by omega) (by omega) kc_0 dX10_about_187 ?_
      refine j_top hlc ?_
      exact hret _ _ _ _ dX10_about_190 rfl (by omega) ⟨rfl, by first | assumption | omega⟩
set_option maxHeartbeats 2000000 in
set_option maxRecDepth 20000 in
theorem cv_X9_advance (l : Launch) (D : va_G) (cy : Nat → ClassId) (B N : Nat) (tl : Int) (t3 : Int) (M : MM) (hN : 210 ≤ N) (hI : Iv M) (htl : M.1 2 2 = tl) (ht3 : M.1 2 3 = t3) (hkn : KNo M) (hz2 : tl = 0) (hz3 : t3 = 0) : CV l D cy B N 9 yX9_advance cX9_advance 1 none [rv B 2] M (fun M' => Iv M' ∧ Fr (fun a b => (a = 2 ∧ 3 ≤ b ∧ b ≤ 6)) M M' ∧ (KNo M') ∧ (M'.1 2 4 = 0)) := by
  refine mk_CV (by decide) (Nat.le_of_ble_eq_true rfl) ?_
  intro X exl exD excy hnL hX hret
  have hce : 0 + 0 ≤ (xR X).cells ∧ 0 + 0 ≤ (xR X).slots := ⟨Nat.zero_le _, Nat.zero_le _⟩
  have hF : Fr (fun a b => (a = 2 ∧ 3 ≤ b ∧ b ≤ 6)) M M := Fr.rf
  show J X B N 0 0 0 [(0, rv B 2)] [] M
  refine j_aload_n hX dX9_advance_0 rfl 0 rfl ?_
  refine gf_X9_23 hX (by omega) (by omega) kc_2 dX9_advance_1 ?_
  refine j_top ht3 ?_
  refine j_aload_n hX dX9_advance_4 rfl 0 rfl ?_
  refine gf_X9_19 hX (by omega) (by omega) kc_2 dX9_advance_5 ?_
  refine j_top htl ?_
  refine j_icmp_ge (tgt := 52) hX dX9_advance_8 (by decide) (by omega) (by omega) (fun hc1 => ?_) (fun hc1 => ?_)
  · skip
    refine j_aload_n hX dX9_advance_52 rfl 0 rfl ?_
    refine j_aload_n hX dX9_advance_53 rfl 0 rfl ?_
    refine gf_X9_23 hX (by omega) (by omega) kc_2 dX9_advance_54 ?_
    refine j_top ht3 ?_
    refine pf_X9_29 hX (by omega) (by omega) kc_2 (by omega) dX9_advance_57 ?_
    refine j_up hI ro_2_5 (by omega) (by omega) (Or.inl (by omega)) (fun M2 w3 hw4 hM5 hI6 hf7 => ?_)
    have hV8 := KN_up hkn hM5 (by omega)
    have hk9 := kp_up hM5 (fun h => absurd h.2 (by decide)) htl
    have hk10 := kp_up hM5 (fun h => absurd h.2 (by decide)) ht3
    have hF11 := Fr.put hF hM5 (⟨rfl, by decide, by decide⟩)
    refine j_aload_n hX dX9_advance_60 rfl 0 rfl ?_
    refine gf_X9_23 hX (by omega) (by omega) kc_2 dX9_advance_61 ?_
    refine j_top hk10 ?_
    refine j_aload_n hX dX9_advance_64 rfl 0 rfl ?_
    refine gf_X9_19 hX (by omega) (by omega) kc_2 dX9_advance_65 ?_
    refine j_top hk9 ?_
    refine j_icmp_lt (tgt := 79) hX dX9_advance_68 (by decide) (by omega) (by omega) (fun hc12 => ?_) (fun hc12 => ?_)
    · exfalso; omega
    · skip
      refine j_aload_n hX dX9_advance_71 rfl 0 rfl ?_
      refine j_iconst hX dX9_advance_72 ?_
      refine pf_X9_26 hX (by omega) (by omega) kc_2 (by omega) dX9_advance_73 ?_
      refine j_up hI6 ro_2_4 (by omega) (by omega) (Or.inl (by omega)) (fun M13 w14 hw15 hM16 hI17 hf18 => ?_)
      have hk20 := kp_up hM16 (fun h => absurd h.2 (by decide)) hk9
      have hk21 := kp_up hM16 (fun h => absurd h.2 (by decide)) hk10
      have hk22 := kp_up hM16 (fun h => absurd h.2 (by decide)) hf7
      clear hk9 hk10 hf7
      have hF23 := Fr.put hF11 hM16 (⟨rfl, by decide, by decide⟩)
      refine j_goto (tgt := 119) hX dX9_advance_76 (by decide) ?_
      exact hret _ _ _ dX9_advance_119 ⟨hI17, hF23, by first | assumption | (intro h; omega), by first | assumption | omega⟩
  · exfalso; omega
set_option maxHeartbeats 2000000 in
set_option maxRecDepth 20000 in
theorem cv_X7_readDraft (l : Launch) (D : va_G) (cy : Nat → ClassId) (B N : Nat) (q : Int) (tl : Int) (M : MM) (hN : 210 ≤ N) (hI : Iv M) (hq : q = 5 ∨ q = 180) (hto : M.1 1 1 = q) (htl : M.1 2 2 = tl) (hkn : KNo M) (hz2 : tl = 0) : CI l D cy B N 66 yX7_readDraft cX7_readDraft 3 (some .boolean) [rv B 1] M (fun z M' => Iv M' ∧ Fr (fun a b => (a = 1 ∧ 2 ≤ b ∧ b ≤ 4) ∨ (a = 2 ∧ 3 ≤ b ∧ b ≤ 6) ∨ (q ≤ a ∧ a ≤ q + 20)) M M' ∧ (0 ≤ z ∧ z ≤ 1) ∧ (KNo M') ∧ (z = 1 → VQ (M'.1 q 0) q M') ∧ (z = 1 ∧ M'.1 q 0 = 0)) := by
  refine mk_CI (by decide) (Nat.le_of_ble_eq_true rfl) ?_
  intro X exl exD excy hnL hX hret
  have hce : 0 + 0 ≤ (xR X).cells ∧ 0 + 0 ≤ (xR X).slots := ⟨Nat.zero_le _, Nat.zero_le _⟩
  have hdq : 5 ≤ q ∧ q ≤ 180 := by omega
  have hF : Fr (fun a b => (a = 1 ∧ 2 ≤ b ∧ b ≤ 4) ∨ (a = 2 ∧ 3 ≤ b ∧ b ≤ 6) ∨ (q ≤ a ∧ a ≤ q + 20)) M M := Fr.rf
  have hk1 : M.1 q 0 = M.1 q 0 := rfl
  have hk2 : M.1 q 9 = M.1 q 9 := rfl
  show J X B N 0 0 0 [(0, rv B 1)] [] M
  refine j_aload_n hX dX7_readDraft_0 rfl 0 rfl ?_
  refine j_iconst hX dX7_readDraft_1 ?_
  refine pf_X7_25 hX (by omega) (by omega) kc_1 (by omega) dX7_readDraft_2 ?_
  refine j_up hI ro_1_2 (by omega) (by omega) (Or.inl (by omega)) (fun M3 w4 hw5 hM6 hI7 hf8 => ?_)
  have hV9 := KN_up hkn hM6 (by omega)
  have hk10 := kp_up hM6 (fun h => absurd h.2 (by decide)) hto
  have hk11 := kp_up hM6 (by decide) htl
  have hk12 := kp_up hM6 (by omega) hk1
  have hk13 := kp_up hM6 (by omega) hk2
  clear hk1 hk2
  have hF14 := Fr.put hF hM6 (by omega)
  refine j_aload_n hX dX7_readDraft_5 rfl 0 rfl ?_
  refine j_iconst hX dX7_readDraft_6 ?_
  refine pf_X7_29 hX (by omega) (by omega) kc_1 (by omega) dX7_readDraft_7 ?_
  refine j_up hI7 ro_1_3 (by omega) (by omega) (Or.inl (by omega)) (fun M15 w16 hw17 hM18 hI19 hf20 => ?_)
  have hV21 := KN_up hV9 hM18 (by omega)
  have hk22 := kp_up hM18 (fun h => absurd h.2 (by decide)) hk10
  have hk23 := kp_up hM18 (by decide) hk11
  have hk24 := kp_up hM18 (by omega) hk12
  have hk25 := kp_up hM18 (by omega) hk13
  have hk26 := kp_up hM18 (fun h => absurd h.2 (by decide)) hf8
  clear hk10 hk11 hk12 hk13 hf8
  have hF27 := Fr.put hF14 hM18 (by omega)
  refine j_aload_n hX dX7_readDraft_10 rfl 0 rfl ?_
  refine gf_X7_21 hX (by omega) (by omega) kc_1 hk22 (by omega) dX7_readDraft_11 ?_
  refine j_callVV hX lk_X7_35 (c_X6_clear _ _ _ _ _ q _ (by omega) hI19 hq) (by omega) hce rfl rfl (by omega) (by omega) (kq hq) rfl rfl (Nat.le_of_ble_eq_true rfl) dX7_readDraft_14 (fun M29 hp30 => ?_)
  obtain ⟨hI33, hG34, hq35⟩ := hp30
  have hV36 := KN_fr hV21 hG34 (by omega) (by omega)
  have hk37 := kp_fr hG34 (by omega) hk22
  have hk38 := kp_fr hG34 (by omega) hk23
  have hk39 := kp_fr hG34 (by omega) hk26
  have hk40 := kp_fr hG34 (by omega) hf20
  clear hk22 hk23 hk24 hk25 hk26 hf20
  have hF41 := Fr.trans hF27 hG34 (fun a b h => by omega)
  have hk42 : M29.1 q 0 = M29.1 q 0 := rfl
  have hk43 : M29.1 q 9 = M29.1 q 9 := rfl
  have hc0 := hq35.1
  have hc9 := hq35.2.2.1
  refine j_aload_n hX dX7_readDraft_17 rfl 0 rfl ?_
  refine gf_X7_12 hX (by omega) (by omega) kc_1 (fc_1_0 hI33) (by decide) dX7_readDraft_18 ?_
  refine j_iconst hX dX7_readDraft_21 ?_
  refine pf_X7_38 hX (by omega) (by omega) kc_2 (by omega) dX7_readDraft_22 ?_
  refine j_up hI33 ro_2_3 (by omega) (by omega) (Or.inl (by omega)) (fun M44 w45 hw46 hM47 hI48 hf49 => ?_)
  have hV50 := KN_up hV36 hM47 (by omega)
  have hk51 := kp_up hM47 (by decide) hk37
  have hk52 := kp_up hM47 (fun h => absurd h.2 (by decide)) hk38
  have hk53 := kp_up hM47 (by decide) hk39
  have hk54 := kp_up hM47 (by decide) hk40
  have hk55 := kp_up hM47 (by omega) hc0
  have hk56 := kp_up hM47 (by omega) hc9
  clear hk37 hk38 hk39 hk40
  have hF57 := Fr.put hF41 hM47 (by omega)
  refine j_aload_n hX dX7_readDraft_25 rfl 0 rfl ?_
  refine gf_X7_12 hX (by omega) (by omega) kc_1 (fc_1_0 hI48) (by decide) dX7_readDraft_26 ?_
  refine j_callVV hX lk_X7_41 (cv_X9_advance _ _ _ _ _ _ _ _ (by omega) hI48 hk52 hf49 (by first | assumption | omega) (by first | assumption | omega) (by first | assumption | omega)) (by omega) hce rfl rfl (by omega) (by omega) kc_2 rfl rfl (Nat.le_of_ble_eq_true rfl) dX7_readDraft_29 (fun M59 hp60 => ?_)
  obtain ⟨hI63, hG64, hq65, hq66⟩ := hp60
  have hk68 := kp_fr hG64 (fun h => absurd h.1 (by decide)) hk51
  have hk69 := kp_fr hG64 (fun h => absurd h.2.1 (by decide)) hk52
  have hk70 := kp_fr hG64 (fun h => absurd h.1 (by decide)) hk53
  have hk71 := kp_fr hG64 (fun h => absurd h.1 (by decide)) hk54
  have hk72 := kp_fr hG64 (by omega) hk55
  have hk73 := kp_fr hG64 (by omega) hk56
  clear hk51 hk52 hk53 hk54 hk55 hk56 hf49
  have hF74 := Fr.trans hF57 hG64 (fun a b h => by omega)
  have hDL0 : DL q M59 := fun h => by omega
  have hkind := hq66
  refine j_iconst hX dX7_readDraft_32 ?_
  refine j_istore_n (lv' := [(1, _), (0, _)]) hX dX7_readDraft_33 rfl (by rw [hnL]; decide) rfl ?_
  refine j_iconst hX dX7_readDraft_34 ?_
  refine j_istore_n (lv' := [(2, _), (1, _), (0, _)]) hX dX7_readDraft_35 rfl (by rw [hnL]; decide) rfl ?_
  refine j_iload_n hX dX7_readDraft_36 rfl 0 rfl ?_
  refine j_sipush hX dX7_readDraft_37 rfl ?_
  refine j_icmp_ge (tgt := 85) hX dX7_readDraft_40 (by decide) (by omega) (by omega) (fun hc75 => ?_) (fun hc75 => ?_)
  · exfalso; omega
  · skip
    refine j_iload_n hX dX7_readDraft_43 rfl 1 rfl ?_
    refine j_if_eq (tgt := 85) hX dX7_readDraft_44 (by decide) (by omega) (fun hc76 => ?_) (fun hc76 => ?_)
    · exfalso; omega
    · skip
      refine j_aload_n hX dX7_readDraft_47 rfl 2 rfl ?_
      refine gf_X7_12 hX (by omega) (by omega) kc_1 (fc_1_0 hI63) (by decide) dX7_readDraft_48 ?_
      refine gf_X7_44 hX (by omega) (by omega) kc_2 dX7_readDraft_51 ?_
      refine j_top hkind ?_
      refine j_if_eq (tgt := 85) hX dX7_readDraft_54 (by decide) (by omega) (fun hc77 => ?_) (fun hc77 => ?_)
      · skip
        have hq0 := hI63.at q 0 (rq_0 hq)
        refine j_iload_n hX dX7_readDraft_85 rfl 1 rfl ?_
        refine j_if_eq (tgt := 96) hX dX7_readDraft_86 (by decide) (by omega) (fun hc78 => ?_) (fun hc78 => ?_)
        · exfalso; omega
        · skip
          refine j_aload_n hX dX7_readDraft_89 rfl 2 rfl ?_
          refine gf_X7_21 hX (by omega) (by omega) kc_1 hk68 (by omega) dX7_readDraft_90 ?_
          refine j_callVV hX lk_X7_55 (c_X6_settle _ _ _ _ _ q _ _ (by omega) hI63 hq hk72 (fun h => by omega) (by omega)) (by omega) hce rfl rfl (by omega) (by omega) (kq hq) rfl rfl (Nat.le_of_ble_eq_true rfl) dX7_readDraft_93 (fun M80 hp81 => ?_)
          obtain ⟨hI84, hG85, hq86⟩ := hp81
          have hV87 := KN_fr hq65 hG85 (by omega) (by omega)
          have hk88 := kp_fr hG85 (by omega) hk68
          have hk89 := kp_fr hG85 (by omega) hk69
          have hk90 := kp_fr hG85 (by omega) hk70
          have hk91 := kp_fr hG85 (by omega) hk71
          have hk92 := kp_fr hG85 (by omega) hk72
          have hk93 := kp_fr hG85 (by omega) hk73
          have hk94 := kp_fr hG85 (by omega) hkind
          clear hk68 hk69 hk70 hk71 hk72 hk73
          have hF95 := Fr.trans hF74 hG85 (fun a b h => by omega)
          have hPost : VQ (M80.1 q 0) q M80 := by rw [show M80.1 q 0 = 0 by omega]; exact hq86
          refine j_iload_n hX dX7_readDraft_96 rfl 1 rfl ?_
          exact hret _ _ _ _ dX7_readDraft_97 (nb (by omega)) (by omega) ⟨hI84, hF95, by omega, by first | assumption | omega, by first | (intro _; assumption) | (intro h; omega), by first | assumption | omega⟩
      · exfalso; omega
set_option maxHeartbeats 2000000 in
set_option maxRecDepth 20000 in
theorem cv_X10_quarter (l : Launch) (D : va_G) (cy : Nat → ClassId) (B N : Nat) (q : Int) (q2 : Int) (tl : Int) (M : MM) (hN : 210 ≤ N) (hI : Iv M) (hq : q = 5 ∨ q = 180) (hq2 : q2 = 5 ∨ q2 = 180) (ht : M.1 0 8 = q) (hto2 : M.1 1 1 = q2) (htl : M.1 2 2 = tl) (hkn : KNo M) (h1 : q2 = 185 - q) (hCI : CIv M) (hz2 : tl = 0) : CI l D cy B N 67 yX10_quarter cX10_quarter 1 (some .int) [rv B 0] M (fun z M' => Iv M' ∧ Fr (fun a b => (a = 0 ∧ 8 ≤ b ∧ b ≤ 10) ∨ (a = 1 ∧ 1 ≤ b ∧ b ≤ 4) ∨ (a = 2 ∧ 2 ≤ b ∧ b ≤ 6) ∨ (q2 ≤ a ∧ a ≤ q2 + 20) ∨ (a = 26 ∧ 1 ≤ b ∧ b ≤ 2) ∨ (28 ≤ a ∧ a ≤ 150) ∨ (a = 160) ∨ (a = 164 ∧ 7 ≤ b ∧ b ≤ 8)) M M' ∧ (CIv M') ∧ (z = 0)) := by
  refine mk_CI (by decide) (Nat.le_of_ble_eq_true rfl) ?_
  intro X exl exD excy hnL hX hret
  have hce : 0 + 0 ≤ (xR X).cells ∧ 0 + 0 ≤ (xR X).slots := ⟨Nat.zero_le _, Nat.zero_le _⟩
  have hdq : 5 ≤ q ∧ q ≤ 180 := by omega
  have hdq2 : 5 ≤ q2 ∧ q2 ≤ 180 := by omega
  have hF : Fr (fun a b => (a = 0 ∧ 8 ≤ b ∧ b ≤ 10) ∨ (a = 1 ∧ 1 ≤ b ∧ b ≤ 4) ∨ (a = 2 ∧ 2 ≤ b ∧ b ≤ 6) ∨ (q2 ≤ a ∧ a ≤ q2 + 20) ∨ (a = 26 ∧ 1 ≤ b ∧ b ≤ 2) ∨ (28 ≤ a ∧ a ≤ 150) ∨ (a = 160) ∨ (a = 164 ∧ 7 ≤ b ∧ b ≤ 8)) M M := Fr.rf
  have hk1 : M.1 q2 0 = M.1 q2 0 := rfl
  have hk2 : M.1 26 1 = M.1 26 1 := rfl
  have hk3 : M.1 26 2 = M.1 26 2 := rfl
  show J X B N 0 0 0 [(0, rv B 0)] [] M
  refine j_aload_n hX dX10_quarter_0 rfl 0 rfl ?_
  refine gf_X10_10 hX (by omega) (by omega) kc_0 (fc_0_0 hI) (by decide) dX10_quarter_1 ?_
  refine j_callVI hX lk_X10_97 (cv_X7_readDraft _ _ _ _ _ q2 _ _ (by omega) hI hq2 hto2 htl (by first | assumption | omega) (by first | assumption | omega)) (by omega) hce rfl rfl (by omega) (by omega) kc_1 rfl rfl (Nat.le_of_ble_eq_true rfl) dX10_quarter_4 (fun z4 M5 hz7 hp6 => ?_)
  obtain ⟨hI9, hG10, hb11, hq12, hq13, hq14⟩ := hp6
  have hk15 := kp_fr hG10 (by omega) ht
  have hk16 := kp_fr hG10 (by omega) hto2
  have hk17 := kp_fr hG10 (by omega) htl
  have hk18 := kp_fr hG10 (by omega) hk2
  have hk19 := kp_fr hG10 (by omega) hk3
  clear hk1 hk2 hk3
  have hF20 := Fr.trans hF hG10 (fun a b h => by omega)
  have hk21 : M5.1 q2 0 = M5.1 q2 0 := rfl
  have hvq0 := hq13
  have hcf := CI_rd hCI hI hG10 (fun a b h => by omega) (by omega : q2 = 185 - M.1 0 8) hq12
  have hrd := hq14
  refine j_if_ne (tgt := 12) hX dX10_quarter_7 (by decide) (by omega) (fun hc22 => ?_) (fun hc22 => ?_)
  · skip
    have hi23 := hq13 (by omega)
    clear hq13
    obtain ⟨nr2, hnr2⟩ : ∃ n : Int, n = M5.1 q2 0 := ⟨_, rfl⟩
    have hr2 := hI9.at q2 0 (rq_0 hq2)
    have hV24 : VQ nr2 q2 M5 := by rw [hnr2]; exact hvq0 (by omega)
    refine j_aload_n hX dX10_quarter_12 rfl 0 rfl ?_
    refine j_aload_n hX dX10_quarter_13 rfl 0 rfl ?_
    refine gf_X10_10 hX (by omega) (by omega) kc_0 (fc_0_0 hI9) (by decide) dX10_quarter_14 ?_
    refine j_aload_n hX dX10_quarter_17 rfl 0 rfl ?_
    refine gf_X10_62 hX (by omega) (by omega) kc_0 hk15 (by omega) dX10_quarter_18 ?_
    refine j_callVR hX lk_X10_101 (c_X7_exchangeDraft _ _ _ _ _ q2 q _ (by omega) hI9 hq2 hq hk16) (by omega) hce rfl rfl (by omega) (by omega) kc_1 rfl rfl (Nat.le_of_ble_eq_true rfl) dX10_quarter_21 (fun qn M25 hz27 hp26 => ?_)
    obtain ⟨hI29, hG30, hq31, hq32⟩ := hp26
    have hV33 := KN_fr hq12 hG30 (by omega) (by omega)
    have hV34 := VQ_fr hV24 hG30 (fun b => by omega)
    have hk35 := kp_fr hG30 (fun h => absurd h.1 (by decide)) hk15
    have hk36 := kp_fr hG30 (fun h => absurd h.1 (by decide)) hk17
    have hk37 := kp_fr hG30 (fun h => absurd h.1 (by decide)) hk18
    have hk38 := kp_fr hG30 (fun h => absurd h.1 (by decide)) hk19
    have hk39 := kp_fr hG30 (by omega) hk21
    clear hk15 hk16 hk17 hk18 hk19 hk21
    have hF40 := Fr.trans hF20 hG30 (fun a b h => by omega)
    obtain ⟨hzq, h11⟩ := hq32
    have hqn0 : M25.1 qn 0 = nr2 := by rw [hzq]; omega
    have hV41 : VQ nr2 qn M25 := by rw [hzq]; assumption
    have hqn : qn = 5 ∨ qn = 180 := hq31
    refine pf_X10_62 hX (by omega) (by omega) kc_0 (by omega) (by omega) dX10_quarter_24 ?_
    refine j_up hI29 ro_0_8 (by omega) (by omega) (Or.inl (by omega)) (fun M42 w43 hw44 hM45 hI46 hf47 => ?_)
    have hV48 := KN_up hV33 hM45 (by omega)
    have hV49 := VQ_up hV34 hM45 (by omega)
    have hV50 := VQ_up hV41 hM45 (by omega)
    have hk51 := kp_up hM45 (by decide) hk36
    have hk52 := kp_up hM45 (by decide) hk37
    have hk53 := kp_up hM45 (by decide) hk38
    have hk54 := kp_up hM45 (by omega) hk39
    have hk55 := kp_up hM45 (by omega) hqn0
    have hk56 := kp_up hM45 (by decide) h11
    clear hk35 hk36 hk37 hk38 hk39
    have hF57 := Fr.put hF40 hM45 (by omega)
    replace hw44 := hw44.symm
    subst hw44
    refine j_aload_n hX dX10_quarter_27 rfl 0 rfl ?_
    refine gf_X10_10 hX (by omega) (by omega) kc_0 (fc_0_0 hI46) (by decide) dX10_quarter_28 ?_
    refine gf_X10_80 hX (by omega) (by omega) kc_1 (fc_1_0 hI46) (by decide) dX10_quarter_31 ?_
    refine j_iconst hX dX10_quarter_34 ?_
    refine pf_X10_94 hX (by omega) (by omega) kc_2 (by omega) dX10_quarter_35 ?_
    refine j_up hI46 ro_2_2 (by omega) (by omega) (Or.inl (by omega)) (fun M58 w59 hw60 hM61 hI62 hf63 => ?_)
    have hV64 := KN_up hV48 hM61 (by omega)
    have hV65 := VQ_up hV49 hM61 (by omega)
    have hV66 := VQ_up hV50 hM61 (by omega)
    have hk67 := kp_up hM61 (by decide) hk52
    have hk68 := kp_up hM61 (by decide) hk53
    have hk69 := kp_up hM61 (by omega) hk54
    have hk70 := kp_up hM61 (by omega) hk55
    have hk71 := kp_up hM61 (by decide) hk56
    have hk72 := kp_up hM61 (by decide) hf47
    clear hk51 hk52 hk53 hk54 hk55 hk56 hf47
    have hF73 := Fr.put hF57 hM61 (by omega)
    refine j_aload_n hX dX10_quarter_38 rfl 0 rfl ?_
    refine gf_X10_19 hX (by omega) (by omega) kc_0 (fc_0_1 hI62) (by decide) dX10_quarter_39 ?_
    refine j_aload_n hX dX10_quarter_42 rfl 0 rfl ?_
    refine gf_X10_62 hX (by omega) (by omega) kc_0 hk72 (by omega) dX10_quarter_43 ?_
    refine j_callVV hX lk_X10_76 (c_X0_restart _ _ _ _ _ qn _ _ (by omega) hI62 hqn hk70 (by first | assumption | omega) (by first | assumption | omega)) (by omega) hce rfl rfl (by omega) (by omega) kc_26 rfl rfl (Nat.le_of_ble_eq_true rfl) dX10_quarter_46 (fun M75 hp76 => ?_)
    obtain ⟨hI79, hG80, hq81, hq82⟩ := hp76
    have hV83 := KN_fr hV64 hG80 (by omega) (by omega)
    have hV84 := VQ_fr hV65 hG80 (fun b => by omega)
    have hV85 := VQ_fr hV66 hG80 (fun b => by omega)
    have hk86 := kp_fr hG80 (by omega) hk69
    have hk87 := kp_fr hG80 (by omega) hk70
    have hk88 := kp_fr hG80 (fun h => h.elim (fun h => absurd h.1 (by decide)) (fun h => absurd h.1 (by decide))) hk71
    have hk89 := kp_fr hG80 (fun h => h.elim (fun h => absurd h.1 (by decide)) (fun h => absurd h.1 (by decide))) hk72
    have hk90 := kp_fr hG80 (fun h => h.elim (fun h => absurd h.1 (by decide)) (fun h => absurd h.1 (by decide))) hf63
    clear hk67 hk68 hk69 hk70 hk71 hk72 hf63
    have hF91 := Fr.trans hF73 hG80 (fun a b h => by omega)
    have hk92 : M75.1 26 1 = M75.1 26 1 := rfl
    have hk93 : M75.1 26 2 = M75.1 26 2 := rfl
    have hz26 := hq81
    have hV94 : RV (M75.1 26 2) nr2 M75 := RV_0 hq82 hq81.2
    refine j_aload_n hX dX10_quarter_49 rfl 0 rfl ?_
    refine gf_X10_44 hX (by omega) (by omega) kc_0 (fc_0_5 hI79) (by decide) dX10_quarter_50 ?_
    refine j_callVV hX lk_X10_105 (c_X5_forgetAims _ _ _ _ _ _ (by omega) hI79) (by omega) hce rfl rfl (by omega) (by omega) kc_157 rfl rfl (Nat.le_of_ble_eq_true rfl) dX10_quarter_53 (fun M96 hp97 => ?_)
    obtain ⟨hI100, hG101⟩ := hp97
    have hV102 := KN_fr hV83 hG101 (by omega) (by omega)
    have hV103 := VQ_fr hV84 hG101 (fun b => by omega)
    have hV104 := VQ_fr hV85 hG101 (fun b => by omega)
    have hV105 := RV_fr hV94 hI79 hG101 (fun a b h => by omega)
    have hk106 := kp_fr hG101 (by omega) hk86
    have hk107 := kp_fr hG101 (by omega) hk87
    have hk108 := kp_fr hG101 (fun h => absurd h (by decide)) hk88
    have hk109 := kp_fr hG101 (fun h => absurd h (by decide)) hk89
    have hk110 := kp_fr hG101 (fun h => absurd h (by decide)) hk90
    have hk111 := kp_fr hG101 (fun h => absurd h (by decide)) hk92
    have hk112 := kp_fr hG101 (fun h => absurd h (by decide)) hk93
    clear hk86 hk87 hk88 hk89 hk90 hk92 hk93
    have hF113 := Fr.trans hF91 hG101 (fun a b h => by omega)
    refine j_aload_n hX dX10_quarter_56 rfl 0 rfl ?_
    refine gf_X10_51 hX (by omega) (by omega) kc_0 (fc_0_6 hI100) (by decide) dX10_quarter_57 ?_
    refine j_callVV hX lk_X10_108 (c_X3_forget _ _ _ _ _ _ (by omega) hI100) (by omega) hce rfl rfl (by omega) (by omega) kc_164 rfl rfl (Nat.le_of_ble_eq_true rfl) dX10_quarter_60 (fun M115 hp116 => ?_)
    obtain ⟨hI119, hG120⟩ := hp116
    have hV121 := KN_fr hV102 hG120 (by omega) (by omega)
    have hV122 := VQ_fr hV103 hG120 (fun b => by omega)
    have hV123 := VQ_fr hV104 hG120 (fun b => by omega)
    have hV124 := RV_fr hV105 hI100 hG120 (fun a b h => by omega)
    have hk125 := kp_fr hG120 (by omega) hk106
    have hk126 := kp_fr hG120 (by omega) hk107
    have hk127 := kp_fr hG120 (fun h => absurd h.1 (by decide)) hk108
    have hk128 := kp_fr hG120 (fun h => absurd h.1 (by decide)) hk109
    have hk129 := kp_fr hG120 (fun h => absurd h.1 (by decide)) hk110
    have hk130 := kp_fr hG120 (fun h => absurd h.1 (by decide)) hk111
    have hk131 := kp_fr hG120 (fun h => absurd h.1 (by decide)) hk112
    clear hk106 hk107 hk108 hk109 hk110 hk111 hk112
    have hF132 := Fr.trans hF113 hG120 (fun a b h => by omega)
    refine j_aload_n hX dX10_quarter_63 rfl 0 rfl ?_
    refine j_iconst hX dX10_quarter_64 ?_
    refine pf_X10_66 hX (by omega) (by omega) kc_0 (by omega) dX10_quarter_65 ?_
    refine j_up hI119 ro_0_9 (by omega) (by omega) (Or.inl (by omega)) (fun M133 w134 hw135 hM136 hI137 hf138 => ?_)
    have hV139 := KN_up hV121 hM136 (by omega)
    have hV140 := VQ_up hV122 hM136 (by omega)
    have hV141 := VQ_up hV123 hM136 (by omega)
    have hV142 := RV_up hV124 hI119 hM136 (by omega)
    have hk143 := kp_up hM136 (by omega) hk125
    have hk144 := kp_up hM136 (by omega) hk126
    have hk145 := kp_up hM136 (by decide) hk127
    have hk146 := kp_up hM136 (fun h => absurd h.2 (by decide)) hk128
    have hk147 := kp_up hM136 (by decide) hk129
    have hk148 := kp_up hM136 (by decide) hk130
    have hk149 := kp_up hM136 (by decide) hk131
    clear hk125 hk126 hk127 hk128 hk129 hk130 hk131
    have hF150 := Fr.put hF132 hM136 (by omega)
    refine j_aload_n hX dX10_quarter_68 rfl 0 rfl ?_
    refine j_iconst hX dX10_quarter_69 ?_
    refine pf_X10_70 hX (by omega) (by omega) kc_0 (by omega) dX10_quarter_70 ?_
    refine j_up hI137 ro_0_10 (by omega) (by omega) (Or.inl (by omega)) (fun M151 w152 hw153 hM154 hI155 hf156 => ?_)
    have hV157 := KN_up hV139 hM154 (by omega)
    have hV158 := VQ_up hV140 hM154 (by omega)
    have hV159 := VQ_up hV141 hM154 (by omega)
    have hV160 := RV_up hV142 hI137 hM154 (by omega)
    have hk161 := kp_up hM154 (by omega) hk143
    have hk162 := kp_up hM154 (by omega) hk144
    have hk163 := kp_up hM154 (by decide) hk145
    have hk164 := kp_up hM154 (fun h => absurd h.2 (by decide)) hk146
    have hk165 := kp_up hM154 (by decide) hk147
    have hk166 := kp_up hM154 (by decide) hk148
    have hk167 := kp_up hM154 (by decide) hk149
    have hk168 := kp_up hM154 (fun h => absurd h.2 (by decide)) hf138
    clear hk143 hk144 hk145 hk146 hk147 hk148 hk149 hf138
    have hF169 := Fr.put hF150 hM154 (by omega)
    refine j_aload_n hX dX10_quarter_73 rfl 0 rfl ?_
    refine gf_X10_62 hX (by omega) (by omega) kc_0 hk164 (by omega) dX10_quarter_74 ?_
    refine gf_X10_111 hX (by omega) (by omega) (kq hqn) dX10_quarter_77 ?_
    refine j_top hk162 ?_
    exact hret _ _ _ _ dX10_quarter_80 rfl (by omega) ⟨hI155, hF169, CI_mk (q := qn) (n := nr2) (by omega) hqn (by omega) (by omega) (by assumption) (by omega) (RV_eq hV160 (by omega)) (BF_0 (by omega)), by first | assumption | omega⟩
  · exfalso; omega
