set_option maxHeartbeats 2000000 in
set_option maxRecDepth 20000 in
theorem law_c21 {X : CT} {B b n ce sl : Nat} {ss : Nat → Int32} (hX : Cx X B 100 cL_law RL) (hSX : SX X B b n ss) (hn : (n : Int) ≤ 3072) {i : Int} (hi0 : 0 ≤ i) (hi1 : i + 6 ≤ (n : Int)) (hce : ce + 0 ≤ (xR X).cells ∧ sl + 0 ≤ (xR X).slots) (M : MM) (hI : Iv M) (hC : CIv M) (hR : RI M) (htm : M.1 0 11 = M.1 210 64) (htail : ∀ M', Iv M' → CIv M' → RI M' → M'.1 0 11 = M'.1 210 64 → J X B 257 ce sl 1288 [(0, .ref b), (1, rv B 0), (2, rv B 210), (3, iv i)] [] M') : J X B 257 ce sl 749 [(0, .ref b), (1, rv B 0), (2, rv B 210), (3, iv i)] [] M := by
  refine j_aload_n hX dL_law_749 rfl 1 rfl ?_
  refine j_aload_r hX dL_law_750 rfl 0 rfl ?_
  refine j_iload_n hX dL_law_751 rfl 3 rfl ?_
  refine j_iconst hX dL_law_752 ?_
  refine j_iadd hX dL_law_753 ?_
  refine j_sld hX hSX (by omega) (by omega) hn dL_law_754 (fun z1 he3 hz2 => ?_)
  have hnb := hI.at (M.1 0 8) 0 (rq_0 hC.1)
  have hVn : Vn (M.1 (M.1 0 8) 0) M := hC.2.2.2.2.2.1 _ (hI.at 26 1 ro_26_1).1 hC.2.2.2.2.1
  refine j_callVI hX lk_L_102 (c_X10_gossip _ _ _ _ _ (M.1 0 8) (M.1 (M.1 0 8) 0) _ _ (by omega) hI (by omega) hC.1 rfl rfl hVn hnb) (by omega) hce rfl rfl (by omega) (by omega) (by decide +kernel : kd 0 = .inl 10) rfl rfl (Nat.le_of_ble_eq_true rfl) dL_law_755 (fun y4 M5 hz6 hp7 => ?_)
  obtain ⟨hI8, hF9⟩ := hp7
  have hq5 := hC.1
  have hu13 : ∀ a b, 210 ≤ a → M5.1 a b = M.1 a b := fun a b h => hF9 a b (by omega)
  have hC10 : CIv M5 := CI_fr hC hI hF9 (fun a b h => by omega)
  have hR11 : RI M5 := RI_c hR hu13
  have ht12 : M5.1 0 11 = M5.1 210 64 := by rw [hF9 0 11 (by omega), hu13 210 64 (by omega)]; exact htm
  refine j_pop hX dL_law_758 rfl ?_
  refine j_aload_n hX dL_law_759 rfl 2 rfl ?_
  refine j_aload_r hX dL_law_760 rfl 0 rfl ?_
  refine j_iload_n hX dL_law_761 rfl 3 rfl ?_
  refine j_iconst hX dL_law_762 ?_
  refine j_iadd hX dL_law_763 ?_
  refine j_sld hX hSX (by omega) (by omega) hn dL_law_764 (fun z14 he16 hz15 => ?_)
  have hR0 := hR11 _ rfl
  refine j_callVI hX lk_L_105 (c_X11_gossip _ _ _ _ _ (M5.1 210 40) (M5.1 213 (M5.1 210 40)) _ _ (by omega) hI8 (by omega) rfl rfl hR0.2.1.1) (by omega) hce rfl rfl (by omega) (by omega) (by decide +kernel : kd 210 = .inl 11) rfl rfl (Nat.le_of_ble_eq_true rfl) dL_law_765 (fun y17 M18 hz19 hp20 => ?_)
  obtain ⟨hI21, hF22, hq23⟩ := hp20
  have hu27 : ∀ a b, a < 210 → M18.1 a b = M5.1 a b := fun a b h => hF22 a b (by omega)
  have hC24 : CIv M18 := CI_c hC10 hI8 hu27
  have hR25 : RI M18 := RI_l hR11 hF22 (fun a b h => by omega) hq23
  have ht26 : M18.1 0 11 = M18.1 210 64 := by rw [hu27 0 11 (by omega), hF22 210 64 (by omega)]; exact ht12
  refine j_pop hX dL_law_768 rfl ?_
  refine j_goto (tgt := 1288) hX dL_law_769 (by decide) ?_
  exact htail _ hI21 hC24 hR25 ht26
set_option maxHeartbeats 2000000 in
set_option maxRecDepth 20000 in
theorem law_c22 {X : CT} {B b n ce sl : Nat} {ss : Nat → Int32} (hX : Cx X B 100 cL_law RL) (hSX : SX X B b n ss) (hn : (n : Int) ≤ 3072) {i : Int} (hi0 : 0 ≤ i) (hi1 : i + 6 ≤ (n : Int)) (hce : ce + 0 ≤ (xR X).cells ∧ sl + 0 ≤ (xR X).slots) (M : MM) (hI : Iv M) (hC : CIv M) (hR : RI M) (htm : M.1 0 11 = M.1 210 64) (htail : ∀ M', Iv M' → CIv M' → RI M' → M'.1 0 11 = M'.1 210 64 → J X B 257 ce sl 1288 [(0, .ref b), (1, rv B 0), (2, rv B 210), (3, iv i)] [] M') : J X B 257 ce sl 772 [(0, .ref b), (1, rv B 0), (2, rv B 210), (3, iv i)] [] M := by
  refine j_aload_n hX dL_law_772 rfl 1 rfl ?_
  have hnb := hI.at (M.1 0 8) 0 (rq_0 hC.1)
  have hVn : Vn (M.1 (M.1 0 8) 0) M := hC.2.2.2.2.2.1 _ (hI.at 26 1 ro_26_1).1 hC.2.2.2.2.1
  refine j_callVI hX lk_L_106 (c_X10_mutual _ _ _ _ _ (M.1 0 8) (M.1 (M.1 0 8) 0) _ (by omega) hI hC.1 rfl rfl hnb) (by omega) hce rfl rfl (by omega) (by omega) (by decide +kernel : kd 0 = .inl 10) rfl rfl (Nat.le_of_ble_eq_true rfl) dL_law_773 (fun y1 M2 hz3 hp4 => ?_)
  have hE := hp4.symm
  subst hE
  refine j_pop hX dL_law_776 rfl ?_
  refine j_aload_n hX dL_law_777 rfl 2 rfl ?_
  have hR0 := hR _ rfl
  refine j_callVI hX lk_L_109 (c_X11_mutual _ _ _ _ _ (M.1 210 40) (M.1 213 (M.1 210 40)) _ (by omega) hI rfl rfl) (by omega) hce rfl rfl (by omega) (by omega) (by decide +kernel : kd 210 = .inl 11) rfl rfl (Nat.le_of_ble_eq_true rfl) dL_law_778 (fun y5 M6 hz7 hp8 => ?_)
  have hE := hp8.symm
  subst hE
  refine j_pop hX dL_law_781 rfl ?_
  refine j_goto (tgt := 1288) hX dL_law_782 (by decide) ?_
  exact htail _ hI hC hR htm
set_option maxHeartbeats 2000000 in
set_option maxRecDepth 20000 in
theorem law_c23 {X : CT} {B b n ce sl : Nat} {ss : Nat → Int32} (hX : Cx X B 100 cL_law RL) (hSX : SX X B b n ss) (hn : (n : Int) ≤ 3072) {i : Int} (hi0 : 0 ≤ i) (hi1 : i + 6 ≤ (n : Int)) (hce : ce + 0 ≤ (xR X).cells ∧ sl + 0 ≤ (xR X).slots) (M : MM) (hI : Iv M) (hC : CIv M) (hR : RI M) (htm : M.1 0 11 = M.1 210 64) (htail : ∀ M', Iv M' → CIv M' → RI M' → M'.1 0 11 = M'.1 210 64 → J X B 257 ce sl 1288 [(0, .ref b), (1, rv B 0), (2, rv B 210), (3, iv i)] [] M') : J X B 257 ce sl 785 [(0, .ref b), (1, rv B 0), (2, rv B 210), (3, iv i)] [] M := by
  refine j_aload_n hX dL_law_785 rfl 1 rfl ?_
  refine j_aload_r hX dL_law_786 rfl 0 rfl ?_
  refine j_iload_n hX dL_law_787 rfl 3 rfl ?_
  refine j_iconst hX dL_law_788 ?_
  refine j_iadd hX dL_law_789 ?_
  refine j_sld hX hSX (by omega) (by omega) hn dL_law_790 (fun z1 he3 hz2 => ?_)
  refine j_aload_r hX dL_law_791 rfl 0 rfl ?_
  refine j_iload_n hX dL_law_792 rfl 3 rfl ?_
  refine j_iconst hX dL_law_793 ?_
  refine j_iadd hX dL_law_794 ?_
  refine j_sld hX hSX (by omega) (by omega) hn dL_law_795 (fun z4 he6 hz5 => ?_)
  have hnb := hI.at (M.1 0 8) 0 (rq_0 hC.1)
  have hVn : Vn (M.1 (M.1 0 8) 0) M := hC.2.2.2.2.2.1 _ (hI.at 26 1 ro_26_1).1 hC.2.2.2.2.1
  refine j_callVI hX lk_L_110 (c_X10_aim _ _ _ _ _ (M.1 0 8) (M.1 (M.1 0 8) 0) _ _ _ (by omega) hI (by omega) (by omega) hC.1 rfl rfl hnb) (by omega) hce rfl rfl (by omega) (by omega) (by decide +kernel : kd 0 = .inl 10) rfl rfl (Nat.le_of_ble_eq_true rfl) dL_law_796 (fun y7 M8 hz9 hp10 => ?_)
  obtain ⟨hI11, hF12, hq13⟩ := hp10
  have hq5 := hC.1
  have hu17 : ∀ a b, 210 ≤ a → M8.1 a b = M.1 a b := fun a b h => hF12 a b (by omega)
  have hC14 : CIv M8 := CI_fr hC hI hF12 (fun a b h => by omega)
  have hR15 : RI M8 := RI_c hR hu17
  have ht16 : M8.1 0 11 = M8.1 210 64 := by rw [hF12 0 11 (by omega), hu17 210 64 (by omega)]; exact htm
  refine j_pop hX dL_law_799 rfl ?_
  refine j_aload_n hX dL_law_800 rfl 2 rfl ?_
  refine j_aload_r hX dL_law_801 rfl 0 rfl ?_
  refine j_iload_n hX dL_law_802 rfl 3 rfl ?_
  refine j_iconst hX dL_law_803 ?_
  refine j_iadd hX dL_law_804 ?_
  refine j_sld hX hSX (by omega) (by omega) hn dL_law_805 (fun z18 he20 hz19 => ?_)
  refine j_aload_r hX dL_law_806 rfl 0 rfl ?_
  refine j_iload_n hX dL_law_807 rfl 3 rfl ?_
  refine j_iconst hX dL_law_808 ?_
  refine j_iadd hX dL_law_809 ?_
  refine j_sld hX hSX (by omega) (by omega) hn dL_law_810 (fun z21 he23 hz22 => ?_)
  have hR0 := hR15 _ rfl
  refine j_callVI hX lk_L_114 (c_X11_aim _ _ _ _ _ (M8.1 210 40) (M8.1 213 (M8.1 210 40)) _ _ _ (by omega) hI11 (by omega) (by omega) rfl rfl) (by omega) hce rfl rfl (by omega) (by omega) (by decide +kernel : kd 210 = .inl 11) rfl rfl (Nat.le_of_ble_eq_true rfl) dL_law_811 (fun y24 M25 hz26 hp27 => ?_)
  obtain ⟨hI28, hF29, hq30⟩ := hp27
  have hu34 : ∀ a b, a < 210 → M25.1 a b = M8.1 a b := fun a b h => hF29 a b (by omega)
  have hC31 : CIv M25 := CI_c hC14 hI11 hu34
  have hR32 : RI M25 := RI_f hR15 hF29 (fun a b h => by omega)
  have ht33 : M25.1 0 11 = M25.1 210 64 := by rw [hu34 0 11 (by omega), hF29 210 64 (by omega)]; exact ht16
  refine j_pop hX dL_law_814 rfl ?_
  refine j_goto (tgt := 1288) hX dL_law_815 (by decide) ?_
  exact htail _ hI28 hC31 hR32 ht33
set_option maxHeartbeats 2000000 in
set_option maxRecDepth 20000 in
theorem law_c24 {X : CT} {B b n ce sl : Nat} {ss : Nat → Int32} (hX : Cx X B 100 cL_law RL) (hSX : SX X B b n ss) (hn : (n : Int) ≤ 3072) {i : Int} (hi0 : 0 ≤ i) (hi1 : i + 6 ≤ (n : Int)) (hce : ce + 0 ≤ (xR X).cells ∧ sl + 0 ≤ (xR X).slots) (M : MM) (hI : Iv M) (hC : CIv M) (hR : RI M) (htm : M.1 0 11 = M.1 210 64) (htail : ∀ M', Iv M' → CIv M' → RI M' → M'.1 0 11 = M'.1 210 64 → J X B 257 ce sl 1288 [(0, .ref b), (1, rv B 0), (2, rv B 210), (3, iv i)] [] M') : J X B 257 ce sl 818 [(0, .ref b), (1, rv B 0), (2, rv B 210), (3, iv i)] [] M := by
  refine j_aload_n hX dL_law_818 rfl 1 rfl ?_
  refine j_aload_r hX dL_law_819 rfl 0 rfl ?_
  refine j_iload_n hX dL_law_820 rfl 3 rfl ?_
  refine j_iconst hX dL_law_821 ?_
  refine j_iadd hX dL_law_822 ?_
  refine j_sld hX hSX (by omega) (by omega) hn dL_law_823 (fun z1 he3 hz2 => ?_)
  have hnb := hI.at (M.1 0 8) 0 (rq_0 hC.1)
  have hVn : Vn (M.1 (M.1 0 8) 0) M := hC.2.2.2.2.2.1 _ (hI.at 26 1 ro_26_1).1 hC.2.2.2.2.1
  refine j_callVI hX lk_L_115 (c_X10_drop _ _ _ _ _ (M.1 0 8) (M.1 (M.1 0 8) 0) _ _ (by omega) hI (by omega) hC.1 rfl rfl hnb) (by omega) hce rfl rfl (by omega) (by omega) (by decide +kernel : kd 0 = .inl 10) rfl rfl (Nat.le_of_ble_eq_true rfl) dL_law_824 (fun y4 M5 hz6 hp7 => ?_)
  obtain ⟨hI8, hF9, hq10⟩ := hp7
  have hq5 := hC.1
  have hu14 : ∀ a b, 210 ≤ a → M5.1 a b = M.1 a b := fun a b h => hF9 a b (by omega)
  have hC11 : CIv M5 := CI_fr hC hI hF9 (fun a b h => by omega)
  have hR12 : RI M5 := RI_c hR hu14
  have ht13 : M5.1 0 11 = M5.1 210 64 := by rw [hF9 0 11 (by omega), hu14 210 64 (by omega)]; exact htm
  refine j_pop hX dL_law_827 rfl ?_
  refine j_aload_n hX dL_law_828 rfl 2 rfl ?_
  refine j_aload_r hX dL_law_829 rfl 0 rfl ?_
  refine j_iload_n hX dL_law_830 rfl 3 rfl ?_
  refine j_iconst hX dL_law_831 ?_
  refine j_iadd hX dL_law_832 ?_
  refine j_sld hX hSX (by omega) (by omega) hn dL_law_833 (fun z15 he17 hz16 => ?_)
  have hR0 := hR12 _ rfl
  refine j_callVI hX lk_L_119 (c_X11_drop _ _ _ _ _ (M5.1 210 40) (M5.1 213 (M5.1 210 40)) _ _ (by omega) hI8 (by omega) rfl rfl) (by omega) hce rfl rfl (by omega) (by omega) (by decide +kernel : kd 210 = .inl 11) rfl rfl (Nat.le_of_ble_eq_true rfl) dL_law_834 (fun y18 M19 hz20 hp21 => ?_)
  obtain ⟨hI22, hF23, hq24⟩ := hp21
  have hu28 : ∀ a b, a < 210 → M19.1 a b = M5.1 a b := fun a b h => hF23 a b (by omega)
  have hC25 : CIv M19 := CI_c hC11 hI8 hu28
  have hR26 : RI M19 := RI_f hR12 hF23 (fun a b h => by omega)
  have ht27 : M19.1 0 11 = M19.1 210 64 := by rw [hu28 0 11 (by omega), hF23 210 64 (by omega)]; exact ht13
  refine j_pop hX dL_law_837 rfl ?_
  refine j_goto (tgt := 1288) hX dL_law_838 (by decide) ?_
  exact htail _ hI22 hC25 hR26 ht27
set_option maxHeartbeats 2000000 in
set_option maxRecDepth 20000 in
theorem law_c25 {X : CT} {B b n ce sl : Nat} {ss : Nat → Int32} (hX : Cx X B 100 cL_law RL) (hSX : SX X B b n ss) (hn : (n : Int) ≤ 3072) {i : Int} (hi0 : 0 ≤ i) (hi1 : i + 6 ≤ (n : Int)) (hce : ce + 0 ≤ (xR X).cells ∧ sl + 0 ≤ (xR X).slots) (M : MM) (hI : Iv M) (hC : CIv M) (hR : RI M) (htm : M.1 0 11 = M.1 210 64) (htail : ∀ M', Iv M' → CIv M' → RI M' → M'.1 0 11 = M'.1 210 64 → J X B 257 ce sl 1288 [(0, .ref b), (1, rv B 0), (2, rv B 210), (3, iv i)] [] M') : J X B 257 ce sl 841 [(0, .ref b), (1, rv B 0), (2, rv B 210), (3, iv i)] [] M := by
  refine j_aload_n hX dL_law_841 rfl 1 rfl ?_
  have hnb := hI.at (M.1 0 8) 0 (rq_0 hC.1)
  have hVn : Vn (M.1 (M.1 0 8) 0) M := hC.2.2.2.2.2.1 _ (hI.at 26 1 ro_26_1).1 hC.2.2.2.2.1
  refine j_callVI hX lk_L_120 (c_X10_swaps _ _ _ _ _ (M.1 0 8) (M.1 (M.1 0 8) 0) _ (by omega) hI hC.1 rfl rfl hVn hnb) (by omega) hce rfl rfl (by omega) (by omega) (by decide +kernel : kd 0 = .inl 10) rfl rfl (Nat.le_of_ble_eq_true rfl) dL_law_842 (fun y1 M2 hz3 hp4 => ?_)
  obtain ⟨hI5, hF6⟩ := hp4
  have hq5 := hC.1
  have hu10 : ∀ a b, 210 ≤ a → M2.1 a b = M.1 a b := fun a b h => hF6 a b (by omega)
  have hC7 : CIv M2 := CI_fr hC hI hF6 (fun a b h => by omega)
  have hR8 : RI M2 := RI_c hR hu10
  have ht9 : M2.1 0 11 = M2.1 210 64 := by rw [hF6 0 11 (by omega), hu10 210 64 (by omega)]; exact htm
  refine j_pop hX dL_law_845 rfl ?_
  refine j_aload_n hX dL_law_846 rfl 2 rfl ?_
  have hR0 := hR8 _ rfl
  refine j_callVI hX lk_L_123 (c_X11_swaps _ _ _ _ _ (M2.1 210 40) (M2.1 213 (M2.1 210 40)) _ (by omega) hI5 rfl rfl hR0.2.1.1) (by omega) hce rfl rfl (by omega) (by omega) (by decide +kernel : kd 210 = .inl 11) rfl rfl (Nat.le_of_ble_eq_true rfl) dL_law_847 (fun y11 M12 hz13 hp14 => ?_)
  obtain ⟨hI15, hF16⟩ := hp14
  have hu20 : ∀ a b, a < 210 → M12.1 a b = M2.1 a b := fun a b h => hF16 a b (by omega)
  have hC17 : CIv M12 := CI_c hC7 hI5 hu20
  have hR18 : RI M12 := RI_f hR8 hF16 (fun a b h => by omega)
  have ht19 : M12.1 0 11 = M12.1 210 64 := by rw [hu20 0 11 (by omega), hF16 210 64 (by omega)]; exact ht9
  refine j_pop hX dL_law_850 rfl ?_
  refine j_goto (tgt := 1288) hX dL_law_851 (by decide) ?_
  exact htail _ hI15 hC17 hR18 ht19
set_option maxHeartbeats 2000000 in
set_option maxRecDepth 20000 in
theorem law_c26 {X : CT} {B b n ce sl : Nat} {ss : Nat → Int32} (hX : Cx X B 100 cL_law RL) (hSX : SX X B b n ss) (hn : (n : Int) ≤ 3072) {i : Int} (hi0 : 0 ≤ i) (hi1 : i + 6 ≤ (n : Int)) (hce : ce + 0 ≤ (xR X).cells ∧ sl + 0 ≤ (xR X).slots) (M : MM) (hI : Iv M) (hC : CIv M) (hR : RI M) (htm : M.1 0 11 = M.1 210 64) (htail : ∀ M', Iv M' → CIv M' → RI M' → M'.1 0 11 = M'.1 210 64 → J X B 257 ce sl 1288 [(0, .ref b), (1, rv B 0), (2, rv B 210), (3, iv i)] [] M') : J X B 257 ce sl 854 [(0, .ref b), (1, rv B 0), (2, rv B 210), (3, iv i)] [] M := by
  refine j_aload_n hX dL_law_854 rfl 1 rfl ?_
  have hnb := hI.at (M.1 0 8) 0 (rq_0 hC.1)
  have hVn : Vn (M.1 (M.1 0 8) 0) M := hC.2.2.2.2.2.1 _ (hI.at 26 1 ro_26_1).1 hC.2.2.2.2.1
  refine j_callVI hX lk_L_124 (c_X10_rings _ _ _ _ _ (M.1 0 8) (M.1 (M.1 0 8) 0) _ (by omega) hI hC.1 rfl rfl hVn hnb) (by omega) hce rfl rfl (by omega) (by omega) (by decide +kernel : kd 0 = .inl 10) rfl rfl (Nat.le_of_ble_eq_true rfl) dL_law_855 (fun y1 M2 hz3 hp4 => ?_)
  obtain ⟨hI5, hF6⟩ := hp4
  have hq5 := hC.1
  have hu10 : ∀ a b, 210 ≤ a → M2.1 a b = M.1 a b := fun a b h => hF6 a b (by omega)
  have hC7 : CIv M2 := CI_fr hC hI hF6 (fun a b h => by omega)
  have hR8 : RI M2 := RI_c hR hu10
  have ht9 : M2.1 0 11 = M2.1 210 64 := by rw [hF6 0 11 (by omega), hu10 210 64 (by omega)]; exact htm
  refine j_pop hX dL_law_858 rfl ?_
  refine j_aload_n hX dL_law_859 rfl 2 rfl ?_
  have hR0 := hR8 _ rfl
  refine j_callVI hX lk_L_127 (c_X11_rings _ _ _ _ _ (M2.1 210 40) (M2.1 213 (M2.1 210 40)) _ (by omega) hI5 rfl rfl) (by omega) hce rfl rfl (by omega) (by omega) (by decide +kernel : kd 210 = .inl 11) rfl rfl (Nat.le_of_ble_eq_true rfl) dL_law_860 (fun y11 M12 hz13 hp14 => ?_)
  obtain ⟨hI15, hF16⟩ := hp14
  have hu20 : ∀ a b, a < 210 → M12.1 a b = M2.1 a b := fun a b h => hF16 a b (by omega)
  have hC17 : CIv M12 := CI_c hC7 hI5 hu20
  have hR18 : RI M12 := RI_f hR8 hF16 (fun a b h => by omega)
  have ht19 : M12.1 0 11 = M12.1 210 64 := by rw [hu20 0 11 (by omega), hF16 210 64 (by omega)]; exact ht9
  refine j_pop hX dL_law_863 rfl ?_
  refine j_goto (tgt := 1288) hX dL_law_864 (by decide) ?_
  exact htail _ hI15 hC17 hR18 ht19
set_option maxHeartbeats 2000000 in
set_option maxRecDepth 20000 in
theorem law_c27 {X : CT} {B b n ce sl : Nat} {ss : Nat → Int32} (hX : Cx X B 100 cL_law RL) (hSX : SX X B b n ss) (hn : (n : Int) ≤ 3072) {i : Int} (hi0 : 0 ≤ i) (hi1 : i + 6 ≤ (n : Int)) (hce : ce + 0 ≤ (xR X).cells ∧ sl + 0 ≤ (xR X).slots) (M : MM) (hI : Iv M) (hC : CIv M) (hR : RI M) (htm : M.1 0 11 = M.1 210 64) (htail : ∀ M', Iv M' → CIv M' → RI M' → M'.1 0 11 = M'.1 210 64 → J X B 257 ce sl 1288 [(0, .ref b), (1, rv B 0), (2, rv B 210), (3, iv i)] [] M') : J X B 257 ce sl 867 [(0, .ref b), (1, rv B 0), (2, rv B 210), (3, iv i)] [] M := by
  refine j_aload_n hX dL_law_867 rfl 1 rfl ?_
  have hnb := hI.at (M.1 0 8) 0 (rq_0 hC.1)
  have hVn : Vn (M.1 (M.1 0 8) 0) M := hC.2.2.2.2.2.1 _ (hI.at 26 1 ro_26_1).1 hC.2.2.2.2.1
  refine j_callVI hX lk_L_128 (c_X10_best _ _ _ _ _ (M.1 0 8) (M.1 (M.1 0 8) 0) _ (by omega) hI hC.1 rfl rfl hnb) (by omega) hce rfl rfl (by omega) (by omega) (by decide +kernel : kd 0 = .inl 10) rfl rfl (Nat.le_of_ble_eq_true rfl) dL_law_868 (fun y1 M2 hz3 hp4 => ?_)
  obtain ⟨hI5, hF6⟩ := hp4
  have hq5 := hC.1
  have hu10 : ∀ a b, 210 ≤ a → M2.1 a b = M.1 a b := fun a b h => hF6 a b (by omega)
  have hC7 : CIv M2 := CI_fr hC hI hF6 (fun a b h => by omega)
  have hR8 : RI M2 := RI_c hR hu10
  have ht9 : M2.1 0 11 = M2.1 210 64 := by rw [hF6 0 11 (by omega), hu10 210 64 (by omega)]; exact htm
  refine j_pop hX dL_law_871 rfl ?_
  refine j_aload_n hX dL_law_872 rfl 2 rfl ?_
  have hR0 := hR8 _ rfl
  refine j_callVI hX lk_L_131 (c_X11_best _ _ _ _ _ (M2.1 210 40) (M2.1 213 (M2.1 210 40)) _ (by omega) hI5 rfl rfl) (by omega) hce rfl rfl (by omega) (by omega) (by decide +kernel : kd 210 = .inl 11) rfl rfl (Nat.le_of_ble_eq_true rfl) dL_law_873 (fun y11 M12 hz13 hp14 => ?_)
  obtain ⟨hI15, hF16⟩ := hp14
  have hu20 : ∀ a b, a < 210 → M12.1 a b = M2.1 a b := fun a b h => hF16 a b (by omega)
  have hC17 : CIv M12 := CI_c hC7 hI5 hu20
  have hR18 : RI M12 := RI_f hR8 hF16 (fun a b h => by omega)
  have ht19 : M12.1 0 11 = M12.1 210 64 := by rw [hu20 0 11 (by omega), hF16 210 64 (by omega)]; exact ht9
  refine j_pop hX dL_law_876 rfl ?_
  refine j_goto (tgt := 1288) hX dL_law_877 (by decide) ?_
  exact htail _ hI15 hC17 hR18 ht19
set_option maxHeartbeats 2000000 in
set_option maxRecDepth 20000 in
theorem law_c28 {X : CT} {B b n ce sl : Nat} {ss : Nat → Int32} (hX : Cx X B 100 cL_law RL) (hSX : SX X B b n ss) (hn : (n : Int) ≤ 3072) {i : Int} (hi0 : 0 ≤ i) (hi1 : i + 6 ≤ (n : Int)) (hce : ce + 0 ≤ (xR X).cells ∧ sl + 0 ≤ (xR X).slots) (M : MM) (hI : Iv M) (hC : CIv M) (hR : RI M) (htm : M.1 0 11 = M.1 210 64) (htail : ∀ M', Iv M' → CIv M' → RI M' → M'.1 0 11 = M'.1 210 64 → J X B 257 ce sl 1288 [(0, .ref b), (1, rv B 0), (2, rv B 210), (3, iv i)] [] M') : J X B 257 ce sl 880 [(0, .ref b), (1, rv B 0), (2, rv B 210), (3, iv i)] [] M := by
  refine j_aload_n hX dL_law_880 rfl 1 rfl ?_
  refine j_aload_r hX dL_law_881 rfl 0 rfl ?_
  refine j_iload_n hX dL_law_882 rfl 3 rfl ?_
  refine j_iconst hX dL_law_883 ?_
  refine j_iadd hX dL_law_884 ?_
  refine j_sld hX hSX (by omega) (by omega) hn dL_law_885 (fun z1 he3 hz2 => ?_)
  refine j_aload_r hX dL_law_886 rfl 0 rfl ?_
  refine j_iload_n hX dL_law_887 rfl 3 rfl ?_
  refine j_iconst hX dL_law_888 ?_
  refine j_iadd hX dL_law_889 ?_
  refine j_sld hX hSX (by omega) (by omega) hn dL_law_890 (fun z4 he6 hz5 => ?_)
  have hnb := hI.at (M.1 0 8) 0 (rq_0 hC.1)
  have hVn : Vn (M.1 (M.1 0 8) 0) M := hC.2.2.2.2.2.1 _ (hI.at 26 1 ro_26_1).1 hC.2.2.2.2.1
  refine j_callVI hX lk_L_132 (c_X10_odds _ _ _ _ _ (M.1 0 8) (M.1 (M.1 0 8) 0) _ _ _ (by omega) hI (by omega) (by omega) hC.1 rfl rfl hnb) (by omega) hce rfl rfl (by omega) (by omega) (by decide +kernel : kd 0 = .inl 10) rfl rfl (Nat.le_of_ble_eq_true rfl) dL_law_891 (fun y7 M8 hz9 hp10 => ?_)
  obtain ⟨hI11, hF12⟩ := hp10
  have hq5 := hC.1
  have hu16 : ∀ a b, 210 ≤ a → M8.1 a b = M.1 a b := fun a b h => hF12 a b (by omega)
  have hC13 : CIv M8 := CI_fr hC hI hF12 (fun a b h => by omega)
  have hR14 : RI M8 := RI_c hR hu16
  have ht15 : M8.1 0 11 = M8.1 210 64 := by rw [hF12 0 11 (by omega), hu16 210 64 (by omega)]; exact htm
  refine j_pop hX dL_law_894 rfl ?_
  refine j_aload_n hX dL_law_895 rfl 2 rfl ?_
  refine j_aload_r hX dL_law_896 rfl 0 rfl ?_
  refine j_iload_n hX dL_law_897 rfl 3 rfl ?_
  refine j_iconst hX dL_law_898 ?_
  refine j_iadd hX dL_law_899 ?_
  refine j_sld hX hSX (by omega) (by omega) hn dL_law_900 (fun z17 he19 hz18 => ?_)
  refine j_aload_r hX dL_law_901 rfl 0 rfl ?_
  refine j_iload_n hX dL_law_902 rfl 3 rfl ?_
  refine j_iconst hX dL_law_903 ?_
  refine j_iadd hX dL_law_904 ?_
  refine j_sld hX hSX (by omega) (by omega) hn dL_law_905 (fun z20 he22 hz21 => ?_)
  have hR0 := hR14 _ rfl
  refine j_callVI hX lk_L_135 (c_X11_odds _ _ _ _ _ (M8.1 210 40) (M8.1 213 (M8.1 210 40)) _ _ _ (by omega) hI11 (by omega) (by omega) rfl rfl) (by omega) hce rfl rfl (by omega) (by omega) (by decide +kernel : kd 210 = .inl 11) rfl rfl (Nat.le_of_ble_eq_true rfl) dL_law_906 (fun y23 M24 hz25 hp26 => ?_)
  obtain ⟨hI27, hF28⟩ := hp26
  have hu32 : ∀ a b, a < 210 → M24.1 a b = M8.1 a b := fun a b h => hF28 a b (by omega)
  have hC29 : CIv M24 := CI_c hC13 hI11 hu32
  have hR30 : RI M24 := RI_f hR14 hF28 (fun a b h => by omega)
  have ht31 : M24.1 0 11 = M24.1 210 64 := by rw [hu32 0 11 (by omega), hF28 210 64 (by omega)]; exact ht15
  refine j_pop hX dL_law_909 rfl ?_
  refine j_goto (tgt := 1288) hX dL_law_910 (by decide) ?_
  exact htail _ hI27 hC29 hR30 ht31
set_option maxHeartbeats 2000000 in
set_option maxRecDepth 20000 in
theorem law_c29 {X : CT} {B b n ce sl : Nat} {ss : Nat → Int32} (hX : Cx X B 100 cL_law RL) (hSX : SX X B b n ss) (hn : (n : Int) ≤ 3072) {i : Int} (hi0 : 0 ≤ i) (hi1 : i + 6 ≤ (n : Int)) (hce : ce + 0 ≤ (xR X).cells ∧ sl + 0 ≤ (xR X).slots) (M : MM) (hI : Iv M) (hC : CIv M) (hR : RI M) (htm : M.1 0 11 = M.1 210 64) (htail : ∀ M', Iv M' → CIv M' → RI M' → M'.1 0 11 = M'.1 210 64 → J X B 257 ce sl 1288 [(0, .ref b), (1, rv B 0), (2, rv B 210), (3, iv i)] [] M') : J X B 257 ce sl 913 [(0, .ref b), (1, rv B 0), (2, rv B 210), (3, iv i)] [] M := by
  refine j_aload_n hX dL_law_913 rfl 1 rfl ?_
  have hnb := hI.at (M.1 0 8) 0 (rq_0 hC.1)
  have hVn : Vn (M.1 (M.1 0 8) 0) M := hC.2.2.2.2.2.1 _ (hI.at 26 1 ro_26_1).1 hC.2.2.2.2.1
  refine j_callVI hX lk_L_136 (c_X10_fair _ _ _ _ _ (M.1 0 8) _ (by omega) hI hC.1 rfl) (by omega) hce rfl rfl (by omega) (by omega) (by decide +kernel : kd 0 = .inl 10) rfl rfl (Nat.le_of_ble_eq_true rfl) dL_law_914 (fun y1 M2 hz3 hp4 => ?_)
  obtain ⟨hI5, hF6⟩ := hp4
  have hq5 := hC.1
  have hu10 : ∀ a b, 210 ≤ a → M2.1 a b = M.1 a b := fun a b h => hF6 a b (by omega)
  have hC7 : CIv M2 := CI_fr hC hI hF6 (fun a b h => by omega)
  have hR8 : RI M2 := RI_c hR hu10
  have ht9 : M2.1 0 11 = M2.1 210 64 := by rw [hF6 0 11 (by omega), hu10 210 64 (by omega)]; exact htm
  refine j_pop hX dL_law_917 rfl ?_
  refine j_aload_n hX dL_law_918 rfl 2 rfl ?_
  have hR0 := hR8 _ rfl
  refine j_callVI hX lk_L_139 (c_X11_fair _ _ _ _ _ (M2.1 210 40) (M2.1 213 (M2.1 210 40)) _ (by omega) hI5 rfl rfl) (by omega) hce rfl rfl (by omega) (by omega) (by decide +kernel : kd 210 = .inl 11) rfl rfl (Nat.le_of_ble_eq_true rfl) dL_law_919 (fun y11 M12 hz13 hp14 => ?_)
  obtain ⟨hI15, hF16⟩ := hp14
  have hu20 : ∀ a b, a < 210 → M12.1 a b = M2.1 a b := fun a b h => hF16 a b (by omega)
  have hC17 : CIv M12 := CI_c hC7 hI5 hu20
  have hR18 : RI M12 := RI_f hR8 hF16 (fun a b h => by omega)
  have ht19 : M12.1 0 11 = M12.1 210 64 := by rw [hu20 0 11 (by omega), hF16 210 64 (by omega)]; exact ht9
  refine j_pop hX dL_law_922 rfl ?_
  refine j_goto (tgt := 1288) hX dL_law_923 (by decide) ?_
  exact htail _ hI15 hC17 hR18 ht19
set_option maxHeartbeats 2000000 in
set_option maxRecDepth 20000 in
theorem law_c30 {X : CT} {B b n ce sl : Nat} {ss : Nat → Int32} (hX : Cx X B 100 cL_law RL) (hSX : SX X B b n ss) (hn : (n : Int) ≤ 3072) {i : Int} (hi0 : 0 ≤ i) (hi1 : i + 6 ≤ (n : Int)) (hce : ce + 0 ≤ (xR X).cells ∧ sl + 0 ≤ (xR X).slots) (M : MM) (hI : Iv M) (hC : CIv M) (hR : RI M) (htm : M.1 0 11 = M.1 210 64) (htail : ∀ M', Iv M' → CIv M' → RI M' → M'.1 0 11 = M'.1 210 64 → J X B 257 ce sl 1288 [(0, .ref b), (1, rv B 0), (2, rv B 210), (3, iv i)] [] M') : J X B 257 ce sl 926 [(0, .ref b), (1, rv B 0), (2, rv B 210), (3, iv i)] [] M := by
  refine j_aload_n hX dL_law_926 rfl 1 rfl ?_
  refine j_aload_r hX dL_law_927 rfl 0 rfl ?_
  refine j_iload_n hX dL_law_928 rfl 3 rfl ?_
  refine j_iconst hX dL_law_929 ?_
  refine j_iadd hX dL_law_930 ?_
  refine j_sld hX hSX (by omega) (by omega) hn dL_law_931 (fun z1 he3 hz2 => ?_)
  refine j_aload_r hX dL_law_932 rfl 0 rfl ?_
  refine j_iload_n hX dL_law_933 rfl 3 rfl ?_
  refine j_iconst hX dL_law_934 ?_
  refine j_iadd hX dL_law_935 ?_
  refine j_sld hX hSX (by omega) (by omega) hn dL_law_936 (fun z4 he6 hz5 => ?_)
  have hnb := hI.at (M.1 0 8) 0 (rq_0 hC.1)
  have hVn : Vn (M.1 (M.1 0 8) 0) M := hC.2.2.2.2.2.1 _ (hI.at 26 1 ro_26_1).1 hC.2.2.2.2.1
  refine j_callVI hX lk_L_140 (c_X10_proof _ _ _ _ _ (M.1 0 8) (M.1 (M.1 0 8) 0) _ _ _ (by omega) hI (by omega) (by omega) hC.1 rfl rfl hnb) (by omega) hce rfl rfl (by omega) (by omega) (by decide +kernel : kd 0 = .inl 10) rfl rfl (Nat.le_of_ble_eq_true rfl) dL_law_937 (fun y7 M8 hz9 hp10 => ?_)
  have hE := hp10.symm
  subst hE
  refine j_pop hX dL_law_940 rfl ?_
  refine j_aload_n hX dL_law_941 rfl 2 rfl ?_
  refine j_aload_r hX dL_law_942 rfl 0 rfl ?_
  refine j_iload_n hX dL_law_943 rfl 3 rfl ?_
  refine j_iconst hX dL_law_944 ?_
  refine j_iadd hX dL_law_945 ?_
  refine j_sld hX hSX (by omega) (by omega) hn dL_law_946 (fun z11 he13 hz12 => ?_)
  refine j_aload_r hX dL_law_947 rfl 0 rfl ?_
  refine j_iload_n hX dL_law_948 rfl 3 rfl ?_
  refine j_iconst hX dL_law_949 ?_
  refine j_iadd hX dL_law_950 ?_
  refine j_sld hX hSX (by omega) (by omega) hn dL_law_951 (fun z14 he16 hz15 => ?_)
  have hR0 := hR _ rfl
  refine j_callVI hX lk_L_143 (c_X11_proof _ _ _ _ _ (M.1 210 40) (M.1 213 (M.1 210 40)) _ _ _ (by omega) hI (by omega) (by omega) rfl rfl) (by omega) hce rfl rfl (by omega) (by omega) (by decide +kernel : kd 210 = .inl 11) rfl rfl (Nat.le_of_ble_eq_true rfl) dL_law_952 (fun y17 M18 hz19 hp20 => ?_)
  have hE := hp20.symm
  subst hE
  refine j_pop hX dL_law_955 rfl ?_
  refine j_goto (tgt := 1288) hX dL_law_956 (by decide) ?_
  exact htail _ hI hC hR htm
set_option maxHeartbeats 2000000 in
set_option maxRecDepth 20000 in
theorem law_c31 {X : CT} {B b n ce sl : Nat} {ss : Nat → Int32} (hX : Cx X B 100 cL_law RL) (hSX : SX X B b n ss) (hn : (n : Int) ≤ 3072) {i : Int} (hi0 : 0 ≤ i) (hi1 : i + 6 ≤ (n : Int)) (hce : ce + 0 ≤ (xR X).cells ∧ sl + 0 ≤ (xR X).slots) (M : MM) (hI : Iv M) (hC : CIv M) (hR : RI M) (htm : M.1 0 11 = M.1 210 64) (htail : ∀ M', Iv M' → CIv M' → RI M' → M'.1 0 11 = M'.1 210 64 → J X B 257 ce sl 1288 [(0, .ref b), (1, rv B 0), (2, rv B 210), (3, iv i)] [] M') : J X B 257 ce sl 959 [(0, .ref b), (1, rv B 0), (2, rv B 210), (3, iv i)] [] M := by
  refine j_aload_n hX dL_law_959 rfl 1 rfl ?_
  refine j_aload_r hX dL_law_960 rfl 0 rfl ?_
  refine j_iload_n hX dL_law_961 rfl 3 rfl ?_
  refine j_iconst hX dL_law_962 ?_
  refine j_iadd hX dL_law_963 ?_
  refine j_sld hX hSX (by omega) (by omega) hn dL_law_964 (fun z1 he3 hz2 => ?_)
  refine j_aload_r hX dL_law_965 rfl 0 rfl ?_
  refine j_iload_n hX dL_law_966 rfl 3 rfl ?_
  refine j_iconst hX dL_law_967 ?_
  refine j_iadd hX dL_law_968 ?_
  refine j_sld hX hSX (by omega) (by omega) hn dL_law_969 (fun z4 he6 hz5 => ?_)
  refine j_aload_r hX dL_law_970 rfl 0 rfl ?_
  refine j_iload_n hX dL_law_971 rfl 3 rfl ?_
  refine j_iconst hX dL_law_972 ?_
  refine j_iadd hX dL_law_973 ?_
  refine j_sld hX hSX (by omega) (by omega) hn dL_law_974 (fun z7 he9 hz8 => ?_)
  have hnb := hI.at (M.1 0 8) 0 (rq_0 hC.1)
  have hVn : Vn (M.1 (M.1 0 8) 0) M := hC.2.2.2.2.2.1 _ (hI.at 26 1 ro_26_1).1 hC.2.2.2.2.1
  refine j_callVI hX lk_L_144 (c_X10_hide _ _ _ _ _ (M.1 0 8) (M.1 (M.1 0 8) 0) _ _ _ _ (by omega) hI (by omega) (by omega) (by omega) hC.1 rfl rfl hVn hnb) (by omega) hce rfl rfl (by omega) (by omega) (by decide +kernel : kd 0 = .inl 10) rfl rfl (Nat.le_of_ble_eq_true rfl) dL_law_975 (fun y10 M11 hz12 hp13 => ?_)
  obtain ⟨hI14, hF15⟩ := hp13
  have hq5 := hC.1
  have hu19 : ∀ a b, 210 ≤ a → M11.1 a b = M.1 a b := fun a b h => hF15 a b (by omega)
  have hC16 : CIv M11 := CI_fr hC hI hF15 (fun a b h => by omega)
  have hR17 : RI M11 := RI_c hR hu19
  have ht18 : M11.1 0 11 = M11.1 210 64 := by rw [hF15 0 11 (by omega), hu19 210 64 (by omega)]; exact htm
  refine j_pop hX dL_law_978 rfl ?_
  refine j_aload_n hX dL_law_979 rfl 2 rfl ?_
  refine j_aload_r hX dL_law_980 rfl 0 rfl ?_
  refine j_iload_n hX dL_law_981 rfl 3 rfl ?_
  refine j_iconst hX dL_law_982 ?_
  refine j_iadd hX dL_law_983 ?_
  refine j_sld hX hSX (by omega) (by omega) hn dL_law_984 (fun z20 he22 hz21 => ?_)
  refine j_aload_r hX dL_law_985 rfl 0 rfl ?_
  refine j_iload_n hX dL_law_986 rfl 3 rfl ?_
  refine j_iconst hX dL_law_987 ?_
  refine j_iadd hX dL_law_988 ?_
  refine j_sld hX hSX (by omega) (by omega) hn dL_law_989 (fun z23 he25 hz24 => ?_)
  refine j_aload_r hX dL_law_990 rfl 0 rfl ?_
  refine j_iload_n hX dL_law_991 rfl 3 rfl ?_
  refine j_iconst hX dL_law_992 ?_
  refine j_iadd hX dL_law_993 ?_
  refine j_sld hX hSX (by omega) (by omega) hn dL_law_994 (fun z26 he28 hz27 => ?_)
  have hR0 := hR17 _ rfl
  refine j_callVI hX lk_L_148 (c_X11_hide _ _ _ _ _ (M11.1 210 40) (M11.1 213 (M11.1 210 40)) _ _ _ _ (by omega) hI14 (by omega) (by omega) (by omega) rfl rfl hR0.2.1.1) (by omega) hce rfl rfl (by omega) (by omega) (by decide +kernel : kd 210 = .inl 11) rfl rfl (Nat.le_of_ble_eq_true rfl) dL_law_995 (fun y29 M30 hz31 hp32 => ?_)
  obtain ⟨hI33, hF34, hq35⟩ := hp32
  have hu39 : ∀ a b, a < 210 → M30.1 a b = M11.1 a b := fun a b h => hF34 a b (by omega)
  have hC36 : CIv M30 := CI_c hC16 hI14 hu39
  have hR37 : RI M30 := RI_l hR17 hF34 (fun a b h => by omega) hq35
  have ht38 : M30.1 0 11 = M30.1 210 64 := by rw [hu39 0 11 (by omega), hF34 210 64 (by omega)]; exact ht18
  refine j_pop hX dL_law_998 rfl ?_
  refine j_goto (tgt := 1288) hX dL_law_999 (by decide) ?_
  exact htail _ hI33 hC36 hR37 ht38
set_option maxHeartbeats 2000000 in
set_option maxRecDepth 20000 in
theorem law_c32 {X : CT} {B b n ce sl : Nat} {ss : Nat → Int32} (hX : Cx X B 100 cL_law RL) (hSX : SX X B b n ss) (hn : (n : Int) ≤ 3072) {i : Int} (hi0 : 0 ≤ i) (hi1 : i + 6 ≤ (n : Int)) (hce : ce + 0 ≤ (xR X).cells ∧ sl + 0 ≤ (xR X).slots) (M : MM) (hI : Iv M) (hC : CIv M) (hR : RI M) (htm : M.1 0 11 = M.1 210 64) (htail : ∀ M', Iv M' → CIv M' → RI M' → M'.1 0 11 = M'.1 210 64 → J X B 257 ce sl 1288 [(0, .ref b), (1, rv B 0), (2, rv B 210), (3, iv i)] [] M') : J X B 257 ce sl 1002 [(0, .ref b), (1, rv B 0), (2, rv B 210), (3, iv i)] [] M := by
  refine j_aload_n hX dL_law_1002 rfl 1 rfl ?_
  refine j_aload_r hX dL_law_1003 rfl 0 rfl ?_
  refine j_iload_n hX dL_law_1004 rfl 3 rfl ?_
  refine j_iconst hX dL_law_1005 ?_
  refine j_iadd hX dL_law_1006 ?_
  refine j_sld hX hSX (by omega) (by omega) hn dL_law_1007 (fun z1 he3 hz2 => ?_)
  have hnb := hI.at (M.1 0 8) 0 (rq_0 hC.1)
  have hVn : Vn (M.1 (M.1 0 8) 0) M := hC.2.2.2.2.2.1 _ (hI.at 26 1 ro_26_1).1 hC.2.2.2.2.1
  refine j_callVI hX lk_L_149 (c_X10_lies _ _ _ _ _ _ _ (by omega) hI (by omega)) (by omega) hce rfl rfl (by omega) (by omega) (by decide +kernel : kd 0 = .inl 10) rfl rfl (Nat.le_of_ble_eq_true rfl) dL_law_1008 (fun y4 M5 hz6 hp7 => ?_)
  have hE := hp7.symm
  subst hE
  refine j_pop hX dL_law_1011 rfl ?_
  refine j_aload_n hX dL_law_1012 rfl 2 rfl ?_
  refine j_aload_r hX dL_law_1013 rfl 0 rfl ?_
  refine j_iload_n hX dL_law_1014 rfl 3 rfl ?_
  refine j_iconst hX dL_law_1015 ?_
  refine j_iadd hX dL_law_1016 ?_
  refine j_sld hX hSX (by omega) (by omega) hn dL_law_1017 (fun z8 he10 hz9 => ?_)
  have hR0 := hR _ rfl
  refine j_callVI hX lk_L_152 (c_X11_lies _ _ _ _ _ _ _ (by omega) hI (by omega)) (by omega) hce rfl rfl (by omega) (by omega) (by decide +kernel : kd 210 = .inl 11) rfl rfl (Nat.le_of_ble_eq_true rfl) dL_law_1018 (fun y11 M12 hz13 hp14 => ?_)
  have hE := hp14.symm
  subst hE
  refine j_pop hX dL_law_1021 rfl ?_
  refine j_goto (tgt := 1288) hX dL_law_1022 (by decide) ?_
  exact htail _ hI hC hR htm
set_option maxHeartbeats 2000000 in
set_option maxRecDepth 20000 in
theorem law_c33 {X : CT} {B b n ce sl : Nat} {ss : Nat → Int32} (hX : Cx X B 100 cL_law RL) (hSX : SX X B b n ss) (hn : (n : Int) ≤ 3072) {i : Int} (hi0 : 0 ≤ i) (hi1 : i + 6 ≤ (n : Int)) (hce : ce + 0 ≤ (xR X).cells ∧ sl + 0 ≤ (xR X).slots) (M : MM) (hI : Iv M) (hC : CIv M) (hR : RI M) (htm : M.1 0 11 = M.1 210 64) (htail : ∀ M', Iv M' → CIv M' → RI M' → M'.1 0 11 = M'.1 210 64 → J X B 257 ce sl 1288 [(0, .ref b), (1, rv B 0), (2, rv B 210), (3, iv i)] [] M') : J X B 257 ce sl 1025 [(0, .ref b), (1, rv B 0), (2, rv B 210), (3, iv i)] [] M := by
  refine j_aload_n hX dL_law_1025 rfl 1 rfl ?_
  refine j_aload_r hX dL_law_1026 rfl 0 rfl ?_
  refine j_iload_n hX dL_law_1027 rfl 3 rfl ?_
  refine j_iconst hX dL_law_1028 ?_
  refine j_iadd hX dL_law_1029 ?_
  refine j_sld hX hSX (by omega) (by omega) hn dL_law_1030 (fun z1 he3 hz2 => ?_)
  refine j_aload_r hX dL_law_1031 rfl 0 rfl ?_
  refine j_iload_n hX dL_law_1032 rfl 3 rfl ?_
  refine j_iconst hX dL_law_1033 ?_
  refine j_iadd hX dL_law_1034 ?_
  refine j_sld hX hSX (by omega) (by omega) hn dL_law_1035 (fun z4 he6 hz5 => ?_)
  refine j_aload_r hX dL_law_1036 rfl 0 rfl ?_
  refine j_iload_n hX dL_law_1037 rfl 3 rfl ?_
  refine j_iconst hX dL_law_1038 ?_
  refine j_iadd hX dL_law_1039 ?_
  refine j_sld hX hSX (by omega) (by omega) hn dL_law_1040 (fun z7 he9 hz8 => ?_)
  refine j_if_eq (tgt := 1048) hX dL_law_1041 (by decide) (by omega) (fun _ => ?_) (fun _ => ?_)
  · skip
    refine j_iconst hX dL_law_1048 ?_
    have hnb := hI.at (M.1 0 8) 0 (rq_0 hC.1)
    have hVn : Vn (M.1 (M.1 0 8) 0) M := hC.2.2.2.2.2.1 _ (hI.at 26 1 ro_26_1).1 hC.2.2.2.2.1
    refine j_callVI hX lk_L_153 (c_X10_glimpse _ _ _ _ _ (M.1 0 8) (M.1 (M.1 0 8) 0) _ _ _ _ (by omega) hI (by omega) (by omega) (by omega) hC.1 rfl rfl hnb (by omega)) (by omega) hce rfl rfl (by omega) (by omega) (by decide +kernel : kd 0 = .inl 10) rfl rfl (Nat.le_of_ble_eq_true rfl) dL_law_1049 (fun y10 M11 hz12 hp13 => ?_)
    obtain ⟨hI14, hF15⟩ := hp13
    have hq5 := hC.1
    have hu19 : ∀ a b, 210 ≤ a → M11.1 a b = M.1 a b := fun a b h => hF15 a b (by omega)
    have hC16 : CIv M11 := CI_fr hC hI hF15 (fun a b h => by omega)
    have hR17 : RI M11 := RI_c hR hu19
    have ht18 : M11.1 0 11 = M11.1 210 64 := by rw [hF15 0 11 (by omega), hu19 210 64 (by omega)]; exact htm
    refine j_pop hX dL_law_1052 rfl ?_
    refine j_aload_n hX dL_law_1053 rfl 2 rfl ?_
    refine j_aload_r hX dL_law_1054 rfl 0 rfl ?_
    refine j_iload_n hX dL_law_1055 rfl 3 rfl ?_
    refine j_iconst hX dL_law_1056 ?_
    refine j_iadd hX dL_law_1057 ?_
    refine j_sld hX hSX (by omega) (by omega) hn dL_law_1058 (fun z20 he22 hz21 => ?_)
    refine j_aload_r hX dL_law_1059 rfl 0 rfl ?_
    refine j_iload_n hX dL_law_1060 rfl 3 rfl ?_
    refine j_iconst hX dL_law_1061 ?_
    refine j_iadd hX dL_law_1062 ?_
    refine j_sld hX hSX (by omega) (by omega) hn dL_law_1063 (fun z23 he25 hz24 => ?_)
    refine j_aload_r hX dL_law_1064 rfl 0 rfl ?_
    refine j_iload_n hX dL_law_1065 rfl 3 rfl ?_
    refine j_iconst hX dL_law_1066 ?_
    refine j_iadd hX dL_law_1067 ?_
    refine j_sld hX hSX (by omega) (by omega) hn dL_law_1068 (fun z26 he28 hz27 => ?_)
    refine j_if_eq (tgt := 1076) hX dL_law_1069 (by decide) (by omega) (fun _ => ?_) (fun _ => ?_)
    · skip
      refine j_iconst hX dL_law_1076 ?_
      have hR0 := hR17 _ rfl
      refine j_callVI hX lk_L_157 (c_X11_glimpse _ _ _ _ _ (M11.1 210 40) (M11.1 213 (M11.1 210 40)) _ _ _ _ (by omega) hI14 (by omega) (by omega) (by omega) rfl rfl) (by omega) hce rfl rfl (by omega) (by omega) (by decide +kernel : kd 210 = .inl 11) rfl rfl (Nat.le_of_ble_eq_true rfl) dL_law_1077 (fun y29 M30 hz31 hp32 => ?_)
      obtain ⟨hI33, hF34⟩ := hp32
      have hu38 : ∀ a b, a < 210 → M30.1 a b = M11.1 a b := fun a b h => hF34 a b (by omega)
      have hC35 : CIv M30 := CI_c hC16 hI14 hu38
      have hR36 : RI M30 := RI_f hR17 hF34 (fun a b h => by omega)
      have ht37 : M30.1 0 11 = M30.1 210 64 := by rw [hu38 0 11 (by omega), hF34 210 64 (by omega)]; exact ht18
      refine j_pop hX dL_law_1080 rfl ?_
      refine j_goto (tgt := 1288) hX dL_law_1081 (by decide) ?_
      exact htail _ hI33 hC35 hR36 ht37
    · skip
      refine j_iconst hX dL_law_1072 ?_
      refine j_goto (tgt := 1077) hX dL_law_1073 (by decide) ?_
      have hR0 := hR17 _ rfl
      refine j_callVI hX lk_L_157 (c_X11_glimpse _ _ _ _ _ (M11.1 210 40) (M11.1 213 (M11.1 210 40)) _ _ _ _ (by omega) hI14 (by omega) (by omega) (by omega) rfl rfl) (by omega) hce rfl rfl (by omega) (by omega) (by decide +kernel : kd 210 = .inl 11) rfl rfl (Nat.le_of_ble_eq_true rfl) dL_law_1077 (fun y39 M40 hz41 hp42 => ?_)
      obtain ⟨hI43, hF44⟩ := hp42
      have hu48 : ∀ a b, a < 210 → M40.1 a b = M11.1 a b := fun a b h => hF44 a b (by omega)
      have hC45 : CIv M40 := CI_c hC16 hI14 hu48
      have hR46 : RI M40 := RI_f hR17 hF44 (fun a b h => by omega)
      have ht47 : M40.1 0 11 = M40.1 210 64 := by rw [hu48 0 11 (by omega), hF44 210 64 (by omega)]; exact ht18
      refine j_pop hX dL_law_1080 rfl ?_
      refine j_goto (tgt := 1288) hX dL_law_1081 (by decide) ?_
      exact htail _ hI43 hC45 hR46 ht47
  · skip
    refine j_iconst hX dL_law_1044 ?_
    refine j_goto (tgt := 1049) hX dL_law_1045 (by decide) ?_
    have hnb := hI.at (M.1 0 8) 0 (rq_0 hC.1)
    have hVn : Vn (M.1 (M.1 0 8) 0) M := hC.2.2.2.2.2.1 _ (hI.at 26 1 ro_26_1).1 hC.2.2.2.2.1
    refine j_callVI hX lk_L_153 (c_X10_glimpse _ _ _ _ _ (M.1 0 8) (M.1 (M.1 0 8) 0) _ _ _ _ (by omega) hI (by omega) (by omega) (by omega) hC.1 rfl rfl hnb (by omega)) (by omega) hce rfl rfl (by omega) (by omega) (by decide +kernel : kd 0 = .inl 10) rfl rfl (Nat.le_of_ble_eq_true rfl) dL_law_1049 (fun y49 M50 hz51 hp52 => ?_)
    obtain ⟨hI53, hF54⟩ := hp52
    have hq5 := hC.1
    have hu58 : ∀ a b, 210 ≤ a → M50.1 a b = M.1 a b := fun a b h => hF54 a b (by omega)
    have hC55 : CIv M50 := CI_fr hC hI hF54 (fun a b h => by omega)
    have hR56 : RI M50 := RI_c hR hu58
    have ht57 : M50.1 0 11 = M50.1 210 64 := by rw [hF54 0 11 (by omega), hu58 210 64 (by omega)]; exact htm
    refine j_pop hX dL_law_1052 rfl ?_
    refine j_aload_n hX dL_law_1053 rfl 2 rfl ?_
    refine j_aload_r hX dL_law_1054 rfl 0 rfl ?_
    refine j_iload_n hX dL_law_1055 rfl 3 rfl ?_
    refine j_iconst hX dL_law_1056 ?_
    refine j_iadd hX dL_law_1057 ?_
    refine j_sld hX hSX (by omega) (by omega) hn dL_law_1058 (fun z59 he61 hz60 => ?_)
    refine j_aload_r hX dL_law_1059 rfl 0 rfl ?_
    refine j_iload_n hX dL_law_1060 rfl 3 rfl ?_
    refine j_iconst hX dL_law_1061 ?_
    refine j_iadd hX dL_law_1062 ?_
    refine j_sld hX hSX (by omega) (by omega) hn dL_law_1063 (fun z62 he64 hz63 => ?_)
    refine j_aload_r hX dL_law_1064 rfl 0 rfl ?_
    refine j_iload_n hX dL_law_1065 rfl 3 rfl ?_
    refine j_iconst hX dL_law_1066 ?_
    refine j_iadd hX dL_law_1067 ?_
    refine j_sld hX hSX (by omega) (by omega) hn dL_law_1068 (fun z65 he67 hz66 => ?_)
    refine j_if_eq (tgt := 1076) hX dL_law_1069 (by decide) (by omega) (fun _ => ?_) (fun _ => ?_)
    · skip
      refine j_iconst hX dL_law_1076 ?_
      have hR0 := hR56 _ rfl
      refine j_callVI hX lk_L_157 (c_X11_glimpse _ _ _ _ _ (M50.1 210 40) (M50.1 213 (M50.1 210 40)) _ _ _ _ (by omega) hI53 (by omega) (by omega) (by omega) rfl rfl) (by omega) hce rfl rfl (by omega) (by omega) (by decide +kernel : kd 210 = .inl 11) rfl rfl (Nat.le_of_ble_eq_true rfl) dL_law_1077 (fun y68 M69 hz70 hp71 => ?_)
      obtain ⟨hI72, hF73⟩ := hp71
      have hu77 : ∀ a b, a < 210 → M69.1 a b = M50.1 a b := fun a b h => hF73 a b (by omega)
      have hC74 : CIv M69 := CI_c hC55 hI53 hu77
      have hR75 : RI M69 := RI_f hR56 hF73 (fun a b h => by omega)
      have ht76 : M69.1 0 11 = M69.1 210 64 := by rw [hu77 0 11 (by omega), hF73 210 64 (by omega)]; exact ht57
      refine j_pop hX dL_law_1080 rfl ?_
      refine j_goto (tgt := 1288) hX dL_law_1081 (by decide) ?_
      exact htail _ hI72 hC74 hR75 ht76
    · skip
      refine j_iconst hX dL_law_1072 ?_
      refine j_goto (tgt := 1077) hX dL_law_1073 (by decide) ?_
      have hR0 := hR56 _ rfl
      refine j_callVI hX lk_L_157 (c_X11_glimpse _ _ _ _ _ (M50.1 210 40) (M50.1 213 (M50.1 210 40)) _ _ _ _ (by omega) hI53 (by omega) (by omega) (by omega) rfl rfl) (by omega) hce rfl rfl (by omega) (by omega) (by decide +kernel : kd 210 = .inl 11) rfl rfl (Nat.le_of_ble_eq_true rfl) dL_law_1077 (fun y78 M79 hz80 hp81 => ?_)
      obtain ⟨hI82, hF83⟩ := hp81
      have hu87 : ∀ a b, a < 210 → M79.1 a b = M50.1 a b := fun a b h => hF83 a b (by omega)
      have hC84 : CIv M79 := CI_c hC55 hI53 hu87
      have hR85 : RI M79 := RI_f hR56 hF83 (fun a b h => by omega)
      have ht86 : M79.1 0 11 = M79.1 210 64 := by rw [hu87 0 11 (by omega), hF83 210 64 (by omega)]; exact ht57
      refine j_pop hX dL_law_1080 rfl ?_
      refine j_goto (tgt := 1288) hX dL_law_1081 (by decide) ?_
      exact htail _ hI82 hC84 hR85 ht86
set_option maxHeartbeats 2000000 in
set_option maxRecDepth 20000 in
theorem law_c34 {X : CT} {B b n ce sl : Nat} {ss : Nat → Int32} (hX : Cx X B 100 cL_law RL) (hSX : SX X B b n ss) (hn : (n : Int) ≤ 3072) {i : Int} (hi0 : 0 ≤ i) (hi1 : i + 6 ≤ (n : Int)) (hce : ce + 0 ≤ (xR X).cells ∧ sl + 0 ≤ (xR X).slots) (M : MM) (hI : Iv M) (hC : CIv M) (hR : RI M) (htm : M.1 0 11 = M.1 210 64) (htail : ∀ M', Iv M' → CIv M' → RI M' → M'.1 0 11 = M'.1 210 64 → J X B 257 ce sl 1288 [(0, .ref b), (1, rv B 0), (2, rv B 210), (3, iv i)] [] M') : J X B 257 ce sl 1084 [(0, .ref b), (1, rv B 0), (2, rv B 210), (3, iv i)] [] M := by
  refine j_aload_n hX dL_law_1084 rfl 1 rfl ?_
  refine j_aload_r hX dL_law_1085 rfl 0 rfl ?_
  refine j_iload_n hX dL_law_1086 rfl 3 rfl ?_
  refine j_iconst hX dL_law_1087 ?_
  refine j_iadd hX dL_law_1088 ?_
  refine j_sld hX hSX (by omega) (by omega) hn dL_law_1089 (fun z1 he3 hz2 => ?_)
  have hnb := hI.at (M.1 0 8) 0 (rq_0 hC.1)
  have hVn : Vn (M.1 (M.1 0 8) 0) M := hC.2.2.2.2.2.1 _ (hI.at 26 1 ro_26_1).1 hC.2.2.2.2.1
  refine j_callVI hX lk_L_158 (c_X10_untell _ _ _ _ _ _ _ (by omega) hI (by omega)) (by omega) hce rfl rfl (by omega) (by omega) (by decide +kernel : kd 0 = .inl 10) rfl rfl (Nat.le_of_ble_eq_true rfl) dL_law_1090 (fun y4 M5 hz6 hp7 => ?_)
  obtain ⟨hI8, hF9, hq10⟩ := hp7
  have hq5 := hC.1
  have hu14 : ∀ a b, 210 ≤ a → M5.1 a b = M.1 a b := fun a b h => hF9 a b (by omega)
  have hC11 : CIv M5 := CI_fr hC hI hF9 (fun a b h => by omega)
  have hR12 : RI M5 := RI_c hR hu14
  have ht13 : M5.1 0 11 = M5.1 210 64 := by rw [hF9 0 11 (by omega), hu14 210 64 (by omega)]; exact htm
  refine j_pop hX dL_law_1093 rfl ?_
  refine j_aload_n hX dL_law_1094 rfl 2 rfl ?_
  refine j_aload_r hX dL_law_1095 rfl 0 rfl ?_
  refine j_iload_n hX dL_law_1096 rfl 3 rfl ?_
  refine j_iconst hX dL_law_1097 ?_
  refine j_iadd hX dL_law_1098 ?_
  refine j_sld hX hSX (by omega) (by omega) hn dL_law_1099 (fun z15 he17 hz16 => ?_)
  have hR0 := hR12 _ rfl
  refine j_callVI hX lk_L_161 (c_X11_untell _ _ _ _ _ _ _ (by omega) hI8 (by omega)) (by omega) hce rfl rfl (by omega) (by omega) (by decide +kernel : kd 210 = .inl 11) rfl rfl (Nat.le_of_ble_eq_true rfl) dL_law_1100 (fun y18 M19 hz20 hp21 => ?_)
  obtain ⟨hI22, hF23, hq24⟩ := hp21
  have hu28 : ∀ a b, a < 210 → M19.1 a b = M5.1 a b := fun a b h => hF23 a b (by omega)
  have hC25 : CIv M19 := CI_c hC11 hI8 hu28
  have hR26 : RI M19 := RI_f hR12 hF23 (fun a b h => by omega)
  have ht27 : M19.1 0 11 = M19.1 210 64 := by rw [hu28 0 11 (by omega), hF23 210 64 (by omega)]; exact ht13
  refine j_pop hX dL_law_1103 rfl ?_
  refine j_goto (tgt := 1288) hX dL_law_1104 (by decide) ?_
  exact htail _ hI22 hC25 hR26 ht27
set_option maxHeartbeats 2000000 in
set_option maxRecDepth 20000 in
theorem law_c35 {X : CT} {B b n ce sl : Nat} {ss : Nat → Int32} (hX : Cx X B 100 cL_law RL) (hSX : SX X B b n ss) (hn : (n : Int) ≤ 3072) {i : Int} (hi0 : 0 ≤ i) (hi1 : i + 6 ≤ (n : Int)) (hce : ce + 0 ≤ (xR X).cells ∧ sl + 0 ≤ (xR X).slots) (M : MM) (hI : Iv M) (hC : CIv M) (hR : RI M) (htm : M.1 0 11 = M.1 210 64) (htail : ∀ M', Iv M' → CIv M' → RI M' → M'.1 0 11 = M'.1 210 64 → J X B 257 ce sl 1288 [(0, .ref b), (1, rv B 0), (2, rv B 210), (3, iv i)] [] M') : J X B 257 ce sl 1107 [(0, .ref b), (1, rv B 0), (2, rv B 210), (3, iv i)] [] M := by
  refine j_aload_n hX dL_law_1107 rfl 1 rfl ?_
  refine j_aload_r hX dL_law_1108 rfl 0 rfl ?_
  refine j_iload_n hX dL_law_1109 rfl 3 rfl ?_
  refine j_iconst hX dL_law_1110 ?_
  refine j_iadd hX dL_law_1111 ?_
  refine j_sld hX hSX (by omega) (by omega) hn dL_law_1112 (fun z1 he3 hz2 => ?_)
  have hnb := hI.at (M.1 0 8) 0 (rq_0 hC.1)
  have hVn : Vn (M.1 (M.1 0 8) 0) M := hC.2.2.2.2.2.1 _ (hI.at 26 1 ro_26_1).1 hC.2.2.2.2.1
  refine j_callVI hX lk_L_162 (c_X10_later _ _ _ _ _ _ _ (by omega) hI (by omega)) (by omega) hce rfl rfl (by omega) (by omega) (by decide +kernel : kd 0 = .inl 10) rfl rfl (Nat.le_of_ble_eq_true rfl) dL_law_1113 (fun y4 M5 hz6 hp7 => ?_)
  obtain ⟨hI8, hF9, hq10⟩ := hp7
  have hq5 := hC.1
  have hu14 : ∀ a b, 210 ≤ a → M5.1 a b = M.1 a b := fun a b h => hF9 a b (by omega)
  have hC11 : CIv M5 := CI_fr hC hI hF9 (fun a b h => by omega)
  have hR12 : RI M5 := RI_c hR hu14
  have hl1 := hq10
  have hl64 := hu14 210 64 (by omega)
  refine j_aload_n hX dL_law_1116 rfl 2 rfl ?_
  refine j_aload_r hX dL_law_1117 rfl 0 rfl ?_
  refine j_iload_n hX dL_law_1118 rfl 3 rfl ?_
  refine j_iconst hX dL_law_1119 ?_
  refine j_iadd hX dL_law_1120 ?_
  refine j_sld hX hSX (by omega) (by omega) hn dL_law_1121 (fun z15 he17 hz16 => ?_)
  have hR0 := hR12 _ rfl
  refine j_callVI hX lk_L_165 (c_X11_later _ _ _ _ _ _ _ (by omega) hI8 (by omega)) (by omega) hce rfl rfl (by omega) (by omega) (by decide +kernel : kd 210 = .inl 11) rfl rfl (Nat.le_of_ble_eq_true rfl) dL_law_1122 (fun y18 M19 hz20 hp21 => ?_)
  obtain ⟨hI22, hF23, hq24⟩ := hp21
  have hu28 : ∀ a b, a < 210 → M19.1 a b = M5.1 a b := fun a b h => hF23 a b (by omega)
  have hC25 : CIv M19 := CI_c hC11 hI8 hu28
  have hR26 : RI M19 := RI_f hR12 hF23 (fun a b h => by omega)
  have hl2 := hq24
  have hl11 := hu28 0 11 (by omega)
  have hzz : y4 = y18 := by omega
  have ht27 : M19.1 0 11 = M19.1 210 64 := by omega
  refine j_icmp_eq (tgt := 1288) hX dL_law_1125 (by decide) (by omega) (by omega) (fun _ => ?_) (fun h => absurd hzz h)
  exact htail _ hI22 hC25 hR26 ht27
set_option maxHeartbeats 2000000 in
set_option maxRecDepth 20000 in
theorem law_c36 {X : CT} {B b n ce sl : Nat} {ss : Nat → Int32} (hX : Cx X B 100 cL_law RL) (hSX : SX X B b n ss) (hn : (n : Int) ≤ 3072) {i : Int} (hi0 : 0 ≤ i) (hi1 : i + 6 ≤ (n : Int)) (hce : ce + 0 ≤ (xR X).cells ∧ sl + 0 ≤ (xR X).slots) (M : MM) (hI : Iv M) (hC : CIv M) (hR : RI M) (htm : M.1 0 11 = M.1 210 64) (htail : ∀ M', Iv M' → CIv M' → RI M' → M'.1 0 11 = M'.1 210 64 → J X B 257 ce sl 1288 [(0, .ref b), (1, rv B 0), (2, rv B 210), (3, iv i)] [] M') : J X B 257 ce sl 1130 [(0, .ref b), (1, rv B 0), (2, rv B 210), (3, iv i)] [] M := by
  refine j_aload_n hX dL_law_1130 rfl 1 rfl ?_
  refine j_aload_r hX dL_law_1131 rfl 0 rfl ?_
  refine j_iload_n hX dL_law_1132 rfl 3 rfl ?_
  refine j_iconst hX dL_law_1133 ?_
  refine j_iadd hX dL_law_1134 ?_
  refine j_sld hX hSX (by omega) (by omega) hn dL_law_1135 (fun z1 he3 hz2 => ?_)
  have hnb := hI.at (M.1 0 8) 0 (rq_0 hC.1)
  have hVn : Vn (M.1 (M.1 0 8) 0) M := hC.2.2.2.2.2.1 _ (hI.at 26 1 ro_26_1).1 hC.2.2.2.2.1
  refine j_callVI hX lk_L_166 (c_X10_lots _ _ _ _ _ (M.1 0 8) _ _ (by omega) hI (by omega) hC.1 rfl) (by omega) hce rfl rfl (by omega) (by omega) (by decide +kernel : kd 0 = .inl 10) rfl rfl (Nat.le_of_ble_eq_true rfl) dL_law_1136 (fun y4 M5 hz6 hp7 => ?_)
  obtain ⟨hI8, hF9⟩ := hp7
  have hq5 := hC.1
  have hu13 : ∀ a b, 210 ≤ a → M5.1 a b = M.1 a b := fun a b h => hF9 a b (by omega)
  have hC10 : CIv M5 := CI_fr hC hI hF9 (fun a b h => by omega)
  have hR11 : RI M5 := RI_c hR hu13
  have ht12 : M5.1 0 11 = M5.1 210 64 := by rw [hF9 0 11 (by omega), hu13 210 64 (by omega)]; exact htm
  refine j_pop hX dL_law_1139 rfl ?_
  refine j_aload_n hX dL_law_1140 rfl 2 rfl ?_
  refine j_aload_r hX dL_law_1141 rfl 0 rfl ?_
  refine j_iload_n hX dL_law_1142 rfl 3 rfl ?_
  refine j_iconst hX dL_law_1143 ?_
  refine j_iadd hX dL_law_1144 ?_
  refine j_sld hX hSX (by omega) (by omega) hn dL_law_1145 (fun z14 he16 hz15 => ?_)
  have hR0 := hR11 _ rfl
  refine j_callVI hX lk_L_169 (c_X11_lots _ _ _ _ _ (M5.1 210 40) (M5.1 213 (M5.1 210 40)) _ _ (by omega) hI8 (by omega) rfl rfl) (by omega) hce rfl rfl (by omega) (by omega) (by decide +kernel : kd 210 = .inl 11) rfl rfl (Nat.le_of_ble_eq_true rfl) dL_law_1146 (fun y17 M18 hz19 hp20 => ?_)
  obtain ⟨hI21, hF22⟩ := hp20
  have hu26 : ∀ a b, a < 210 → M18.1 a b = M5.1 a b := fun a b h => hF22 a b (by omega)
  have hC23 : CIv M18 := CI_c hC10 hI8 hu26
  have hR24 : RI M18 := RI_f hR11 hF22 (fun a b h => by omega)
  have ht25 : M18.1 0 11 = M18.1 210 64 := by rw [hu26 0 11 (by omega), hF22 210 64 (by omega)]; exact ht12
  refine j_pop hX dL_law_1149 rfl ?_
  refine j_goto (tgt := 1288) hX dL_law_1150 (by decide) ?_
  exact htail _ hI21 hC23 hR24 ht25
set_option maxHeartbeats 2000000 in
set_option maxRecDepth 20000 in
theorem law_c37 {X : CT} {B b n ce sl : Nat} {ss : Nat → Int32} (hX : Cx X B 100 cL_law RL) (hSX : SX X B b n ss) (hn : (n : Int) ≤ 3072) {i : Int} (hi0 : 0 ≤ i) (hi1 : i + 6 ≤ (n : Int)) (hce : ce + 0 ≤ (xR X).cells ∧ sl + 0 ≤ (xR X).slots) (M : MM) (hI : Iv M) (hC : CIv M) (hR : RI M) (htm : M.1 0 11 = M.1 210 64) (htail : ∀ M', Iv M' → CIv M' → RI M' → M'.1 0 11 = M'.1 210 64 → J X B 257 ce sl 1288 [(0, .ref b), (1, rv B 0), (2, rv B 210), (3, iv i)] [] M') : J X B 257 ce sl 1153 [(0, .ref b), (1, rv B 0), (2, rv B 210), (3, iv i)] [] M := by
  refine j_aload_n hX dL_law_1153 rfl 1 rfl ?_
  refine j_aload_r hX dL_law_1154 rfl 0 rfl ?_
  refine j_iload_n hX dL_law_1155 rfl 3 rfl ?_
  refine j_iconst hX dL_law_1156 ?_
  refine j_iadd hX dL_law_1157 ?_
  refine j_sld hX hSX (by omega) (by omega) hn dL_law_1158 (fun z1 he3 hz2 => ?_)
  refine j_aload_r hX dL_law_1159 rfl 0 rfl ?_
  refine j_iload_n hX dL_law_1160 rfl 3 rfl ?_
  refine j_iconst hX dL_law_1161 ?_
  refine j_iadd hX dL_law_1162 ?_
  refine j_sld hX hSX (by omega) (by omega) hn dL_law_1163 (fun z4 he6 hz5 => ?_)
  have hnb := hI.at (M.1 0 8) 0 (rq_0 hC.1)
  have hVn : Vn (M.1 (M.1 0 8) 0) M := hC.2.2.2.2.2.1 _ (hI.at 26 1 ro_26_1).1 hC.2.2.2.2.1
  refine j_callVI hX lk_L_170 (c_X10_sure _ _ _ _ _ (M.1 0 8) (M.1 (M.1 0 8) 0) _ _ _ (by omega) hI (by omega) (by omega) hC.1 rfl rfl hnb) (by omega) hce rfl rfl (by omega) (by omega) (by decide +kernel : kd 0 = .inl 10) rfl rfl (Nat.le_of_ble_eq_true rfl) dL_law_1164 (fun y7 M8 hz9 hp10 => ?_)
  obtain ⟨hI11, hF12⟩ := hp10
  have hq5 := hC.1
  have hu16 : ∀ a b, 210 ≤ a → M8.1 a b = M.1 a b := fun a b h => hF12 a b (by omega)
  have hC13 : CIv M8 := CI_fr hC hI hF12 (fun a b h => by omega)
  have hR14 : RI M8 := RI_c hR hu16
  have ht15 : M8.1 0 11 = M8.1 210 64 := by rw [hF12 0 11 (by omega), hu16 210 64 (by omega)]; exact htm
  refine j_pop hX dL_law_1167 rfl ?_
  refine j_aload_n hX dL_law_1168 rfl 2 rfl ?_
  refine j_aload_r hX dL_law_1169 rfl 0 rfl ?_
  refine j_iload_n hX dL_law_1170 rfl 3 rfl ?_
  refine j_iconst hX dL_law_1171 ?_
  refine j_iadd hX dL_law_1172 ?_
  refine j_sld hX hSX (by omega) (by omega) hn dL_law_1173 (fun z17 he19 hz18 => ?_)
  refine j_aload_r hX dL_law_1174 rfl 0 rfl ?_
  refine j_iload_n hX dL_law_1175 rfl 3 rfl ?_
  refine j_iconst hX dL_law_1176 ?_
  refine j_iadd hX dL_law_1177 ?_
  refine j_sld hX hSX (by omega) (by omega) hn dL_law_1178 (fun z20 he22 hz21 => ?_)
  have hR0 := hR14 _ rfl
  refine j_callVI hX lk_L_173 (c_X11_sure _ _ _ _ _ (M8.1 210 40) (M8.1 213 (M8.1 210 40)) _ _ _ (by omega) hI11 (by omega) (by omega) rfl rfl) (by omega) hce rfl rfl (by omega) (by omega) (by decide +kernel : kd 210 = .inl 11) rfl rfl (Nat.le_of_ble_eq_true rfl) dL_law_1179 (fun y23 M24 hz25 hp26 => ?_)
  obtain ⟨hI27, hF28⟩ := hp26
  have hu32 : ∀ a b, a < 210 → M24.1 a b = M8.1 a b := fun a b h => hF28 a b (by omega)
  have hC29 : CIv M24 := CI_c hC13 hI11 hu32
  have hR30 : RI M24 := RI_f hR14 hF28 (fun a b h => by omega)
  have ht31 : M24.1 0 11 = M24.1 210 64 := by rw [hu32 0 11 (by omega), hF28 210 64 (by omega)]; exact ht15
  refine j_pop hX dL_law_1182 rfl ?_
  refine j_goto (tgt := 1288) hX dL_law_1183 (by decide) ?_
  exact htail _ hI27 hC29 hR30 ht31
set_option maxHeartbeats 2000000 in
set_option maxRecDepth 20000 in
theorem law_c38 {X : CT} {B b n ce sl : Nat} {ss : Nat → Int32} (hX : Cx X B 100 cL_law RL) (hSX : SX X B b n ss) (hn : (n : Int) ≤ 3072) {i : Int} (hi0 : 0 ≤ i) (hi1 : i + 6 ≤ (n : Int)) (hce : ce + 0 ≤ (xR X).cells ∧ sl + 0 ≤ (xR X).slots) (M : MM) (hI : Iv M) (hC : CIv M) (hR : RI M) (htm : M.1 0 11 = M.1 210 64) (htail : ∀ M', Iv M' → CIv M' → RI M' → M'.1 0 11 = M'.1 210 64 → J X B 257 ce sl 1288 [(0, .ref b), (1, rv B 0), (2, rv B 210), (3, iv i)] [] M') : J X B 257 ce sl 1186 [(0, .ref b), (1, rv B 0), (2, rv B 210), (3, iv i)] [] M := by
  refine j_aload_n hX dL_law_1186 rfl 1 rfl ?_
  refine j_aload_r hX dL_law_1187 rfl 0 rfl ?_
  refine j_iload_n hX dL_law_1188 rfl 3 rfl ?_
  refine j_iconst hX dL_law_1189 ?_
  refine j_iadd hX dL_law_1190 ?_
  refine j_sld hX hSX (by omega) (by omega) hn dL_law_1191 (fun z1 he3 hz2 => ?_)
  refine j_aload_r hX dL_law_1192 rfl 0 rfl ?_
  refine j_iload_n hX dL_law_1193 rfl 3 rfl ?_
  refine j_iconst hX dL_law_1194 ?_
  refine j_iadd hX dL_law_1195 ?_
  refine j_sld hX hSX (by omega) (by omega) hn dL_law_1196 (fun z4 he6 hz5 => ?_)
  have hnb := hI.at (M.1 0 8) 0 (rq_0 hC.1)
  have hVn : Vn (M.1 (M.1 0 8) 0) M := hC.2.2.2.2.2.1 _ (hI.at 26 1 ro_26_1).1 hC.2.2.2.2.1
  refine j_callVI hX lk_L_174 (c_X10_ask _ _ _ _ _ (M.1 0 8) (M.1 (M.1 0 8) 0) _ _ _ (by omega) hI (by omega) (by omega) hC.1 rfl rfl hnb) (by omega) hce rfl rfl (by omega) (by omega) (by decide +kernel : kd 0 = .inl 10) rfl rfl (Nat.le_of_ble_eq_true rfl) dL_law_1197 (fun y7 M8 hz9 hp10 => ?_)
  obtain ⟨hI11, hF12⟩ := hp10
  have hq5 := hC.1
  have hu16 : ∀ a b, 210 ≤ a → M8.1 a b = M.1 a b := fun a b h => hF12 a b (by omega)
  have hC13 : CIv M8 := CI_fr hC hI hF12 (fun a b h => by omega)
  have hR14 : RI M8 := RI_c hR hu16
  have ht15 : M8.1 0 11 = M8.1 210 64 := by rw [hF12 0 11 (by omega), hu16 210 64 (by omega)]; exact htm
  refine j_pop hX dL_law_1200 rfl ?_
  refine j_aload_n hX dL_law_1201 rfl 2 rfl ?_
  refine j_aload_r hX dL_law_1202 rfl 0 rfl ?_
  refine j_iload_n hX dL_law_1203 rfl 3 rfl ?_
  refine j_iconst hX dL_law_1204 ?_
  refine j_iadd hX dL_law_1205 ?_
  refine j_sld hX hSX (by omega) (by omega) hn dL_law_1206 (fun z17 he19 hz18 => ?_)
  refine j_aload_r hX dL_law_1207 rfl 0 rfl ?_
  refine j_iload_n hX dL_law_1208 rfl 3 rfl ?_
  refine j_iconst hX dL_law_1209 ?_
  refine j_iadd hX dL_law_1210 ?_
  refine j_sld hX hSX (by omega) (by omega) hn dL_law_1211 (fun z20 he22 hz21 => ?_)
  have hR0 := hR14 _ rfl
  refine j_callVI hX lk_L_177 (c_X11_ask _ _ _ _ _ (M8.1 210 40) (M8.1 213 (M8.1 210 40)) _ _ _ (by omega) hI11 (by omega) (by omega) rfl rfl) (by omega) hce rfl rfl (by omega) (by omega) (by decide +kernel : kd 210 = .inl 11) rfl rfl (Nat.le_of_ble_eq_true rfl) dL_law_1212 (fun y23 M24 hz25 hp26 => ?_)
  obtain ⟨hI27, hF28⟩ := hp26
  have hu32 : ∀ a b, a < 210 → M24.1 a b = M8.1 a b := fun a b h => hF28 a b (by omega)
  have hC29 : CIv M24 := CI_c hC13 hI11 hu32
  have hR30 : RI M24 := RI_f hR14 hF28 (fun a b h => by omega)
  have ht31 : M24.1 0 11 = M24.1 210 64 := by rw [hu32 0 11 (by omega), hF28 210 64 (by omega)]; exact ht15
  refine j_pop hX dL_law_1215 rfl ?_
  refine j_goto (tgt := 1288) hX dL_law_1216 (by decide) ?_
  exact htail _ hI27 hC29 hR30 ht31
set_option maxHeartbeats 2000000 in
set_option maxRecDepth 20000 in
theorem law_c39 {X : CT} {B b n ce sl : Nat} {ss : Nat → Int32} (hX : Cx X B 100 cL_law RL) (hSX : SX X B b n ss) (hn : (n : Int) ≤ 3072) {i : Int} (hi0 : 0 ≤ i) (hi1 : i + 6 ≤ (n : Int)) (hce : ce + 0 ≤ (xR X).cells ∧ sl + 0 ≤ (xR X).slots) (M : MM) (hI : Iv M) (hC : CIv M) (hR : RI M) (htm : M.1 0 11 = M.1 210 64) (htail : ∀ M', Iv M' → CIv M' → RI M' → M'.1 0 11 = M'.1 210 64 → J X B 257 ce sl 1288 [(0, .ref b), (1, rv B 0), (2, rv B 210), (3, iv i)] [] M') : J X B 257 ce sl 1219 [(0, .ref b), (1, rv B 0), (2, rv B 210), (3, iv i)] [] M := by
  refine j_aload_n hX dL_law_1219 rfl 1 rfl ?_
  refine j_aload_r hX dL_law_1220 rfl 0 rfl ?_
  refine j_iload_n hX dL_law_1221 rfl 3 rfl ?_
  refine j_iconst hX dL_law_1222 ?_
  refine j_iadd hX dL_law_1223 ?_
  refine j_sld hX hSX (by omega) (by omega) hn dL_law_1224 (fun z1 he3 hz2 => ?_)
  have hnb := hI.at (M.1 0 8) 0 (rq_0 hC.1)
  have hVn : Vn (M.1 (M.1 0 8) 0) M := hC.2.2.2.2.2.1 _ (hI.at 26 1 ro_26_1).1 hC.2.2.2.2.1
  refine j_callVI hX lk_L_178 (c2_X10_image _ _ _ _ _ (M.1 0 8) (M.1 (M.1 0 8) 0) _ _ (by omega) hI (by omega) hC.1 rfl rfl hVn hnb hC.2.2.2.2.2.2) (by omega) hce rfl rfl (by omega) (by omega) (by decide +kernel : kd 0 = .inl 10) rfl rfl (Nat.le_of_ble_eq_true rfl) dL_law_1225 (fun y4 M5 hz6 hp7 => ?_)
  obtain ⟨hI8, hF9, hq10⟩ := hp7
  have hq5 := hC.1
  have hu14 : ∀ a b, 210 ≤ a → M5.1 a b = M.1 a b := fun a b h => hF9 a b (by omega)
  have hC11 : CIv M5 := CI_im hC hI hF9 (fun a b h => by omega) hq10
  have hR12 : RI M5 := RI_c hR hu14
  have ht13 : M5.1 0 11 = M5.1 210 64 := by rw [hF9 0 11 (by omega), hu14 210 64 (by omega)]; exact htm
  refine j_pop hX dL_law_1228 rfl ?_
  refine j_aload_n hX dL_law_1229 rfl 2 rfl ?_
  refine j_aload_r hX dL_law_1230 rfl 0 rfl ?_
  refine j_iload_n hX dL_law_1231 rfl 3 rfl ?_
  refine j_iconst hX dL_law_1232 ?_
  refine j_iadd hX dL_law_1233 ?_
  refine j_sld hX hSX (by omega) (by omega) hn dL_law_1234 (fun z15 he17 hz16 => ?_)
  have hR0 := hR12 _ rfl
  refine j_callVI hX lk_L_181 (c_X11_image _ _ _ _ _ (M5.1 210 40) (M5.1 213 (M5.1 210 40)) _ _ (by omega) hI8 (by omega) rfl rfl hR0.2.1.1 hR0.2.2.1) (by omega) hce rfl rfl (by omega) (by omega) (by decide +kernel : kd 210 = .inl 11) rfl rfl (Nat.le_of_ble_eq_true rfl) dL_law_1235 (fun y18 M19 hz20 hp21 => ?_)
  obtain ⟨hI22, hF23, hq24⟩ := hp21
  have hu28 : ∀ a b, a < 210 → M19.1 a b = M5.1 a b := fun a b h => hF23 a b (by omega)
  have hC25 : CIv M19 := CI_c hC11 hI8 hu28
  have hR26 : RI M19 := RI_b hR12 hF23 (fun a b h => by omega) hq24
  have ht27 : M19.1 0 11 = M19.1 210 64 := by rw [hu28 0 11 (by omega), hF23 210 64 (by omega)]; exact ht13
  refine j_pop hX dL_law_1238 rfl ?_
  refine j_goto (tgt := 1288) hX dL_law_1239 (by decide) ?_
  exact htail _ hI22 hC25 hR26 ht27
set_option maxHeartbeats 2000000 in
set_option maxRecDepth 20000 in
theorem law_c40 {X : CT} {B b n ce sl : Nat} {ss : Nat → Int32} (hX : Cx X B 100 cL_law RL) (hSX : SX X B b n ss) (hn : (n : Int) ≤ 3072) {i : Int} (hi0 : 0 ≤ i) (hi1 : i + 6 ≤ (n : Int)) (hce : ce + 0 ≤ (xR X).cells ∧ sl + 0 ≤ (xR X).slots) (M : MM) (hI : Iv M) (hC : CIv M) (hR : RI M) (htm : M.1 0 11 = M.1 210 64) (htail : ∀ M', Iv M' → CIv M' → RI M' → M'.1 0 11 = M'.1 210 64 → J X B 257 ce sl 1288 [(0, .ref b), (1, rv B 0), (2, rv B 210), (3, iv i)] [] M') : J X B 257 ce sl 1242 [(0, .ref b), (1, rv B 0), (2, rv B 210), (3, iv i)] [] M := by
  refine j_aload_n hX dL_law_1242 rfl 1 rfl ?_
  refine j_aload_r hX dL_law_1243 rfl 0 rfl ?_
  refine j_iload_n hX dL_law_1244 rfl 3 rfl ?_
  refine j_iconst hX dL_law_1245 ?_
  refine j_iadd hX dL_law_1246 ?_
  refine j_sld hX hSX (by omega) (by omega) hn dL_law_1247 (fun z1 he3 hz2 => ?_)
  have hnb := hI.at (M.1 0 8) 0 (rq_0 hC.1)
  have hVn : Vn (M.1 (M.1 0 8) 0) M := hC.2.2.2.2.2.1 _ (hI.at 26 1 ro_26_1).1 hC.2.2.2.2.1
  refine j_callVI hX lk_L_182 (c_X10_back _ _ _ _ _ (M.1 0 8) (M.1 (M.1 0 8) 0) _ _ (by omega) hI (by omega) hC.1 rfl rfl hnb hC.2.2.2.2.2.1 hC.2.2.2.2.1 hC.2.2.2.2.2.2) (by omega) hce rfl rfl (by omega) (by omega) (by decide +kernel : kd 0 = .inl 10) rfl rfl (Nat.le_of_ble_eq_true rfl) dL_law_1248 (fun y4 M5 hz6 hp7 => ?_)
  obtain ⟨hI8, hF9, hq10, hq11⟩ := hp7
  have hq5 := hC.1
  have hu15 : ∀ a b, 210 ≤ a → M5.1 a b = M.1 a b := fun a b h => hF9 a b (by omega)
  have hC12 : CIv M5 := CI_act hC hF9 (fun a b h => by omega) hq11 hq10
  have hR13 : RI M5 := RI_c hR hu15
  have ht14 : M5.1 0 11 = M5.1 210 64 := by rw [hF9 0 11 (by omega), hu15 210 64 (by omega)]; exact htm
  refine j_pop hX dL_law_1251 rfl ?_
  refine j_aload_n hX dL_law_1252 rfl 2 rfl ?_
  refine j_aload_r hX dL_law_1253 rfl 0 rfl ?_
  refine j_iload_n hX dL_law_1254 rfl 3 rfl ?_
  refine j_iconst hX dL_law_1255 ?_
  refine j_iadd hX dL_law_1256 ?_
  refine j_sld hX hSX (by omega) (by omega) hn dL_law_1257 (fun z16 he18 hz17 => ?_)
  have hR0 := hR13 _ rfl
  refine j_callVI hX lk_L_185 (c_X11_back _ _ _ _ _ (M5.1 210 40) (M5.1 213 (M5.1 210 40)) _ _ (by omega) hI8 (by omega) rfl rfl hR0.2.1 hR0.2.2.1) (by omega) hce rfl rfl (by omega) (by omega) (by decide +kernel : kd 210 = .inl 11) rfl rfl (Nat.le_of_ble_eq_true rfl) dL_law_1258 (fun y19 M20 hz21 hp22 => ?_)
  obtain ⟨hI23, hF24, hq25⟩ := hp22
  have hu29 : ∀ a b, a < 210 → M20.1 a b = M5.1 a b := fun a b h => hF24 a b (by omega)
  have hC26 : CIv M20 := CI_c hC12 hI8 hu29
  have hR27 : RI M20 := RI_r hR13 hF24 (fun a b h => by omega) hq25
  have ht28 : M20.1 0 11 = M20.1 210 64 := by rw [hu29 0 11 (by omega), hF24 210 64 (by omega)]; exact ht14
  refine j_pop hX dL_law_1261 rfl ?_
  refine j_goto (tgt := 1288) hX dL_law_1262 (by decide) ?_
  exact htail _ hI23 hC26 hR27 ht28
set_option maxHeartbeats 2000000 in
set_option maxRecDepth 20000 in
theorem law_c41 {X : CT} {B b n ce sl : Nat} {ss : Nat → Int32} (hX : Cx X B 100 cL_law RL) (hSX : SX X B b n ss) (hn : (n : Int) ≤ 3072) {i : Int} (hi0 : 0 ≤ i) (hi1 : i + 6 ≤ (n : Int)) (hce : ce + 0 ≤ (xR X).cells ∧ sl + 0 ≤ (xR X).slots) (M : MM) (hI : Iv M) (hC : CIv M) (hR : RI M) (htm : M.1 0 11 = M.1 210 64) (htail : ∀ M', Iv M' → CIv M' → RI M' → M'.1 0 11 = M'.1 210 64 → J X B 257 ce sl 1288 [(0, .ref b), (1, rv B 0), (2, rv B 210), (3, iv i)] [] M') : J X B 257 ce sl 1265 [(0, .ref b), (1, rv B 0), (2, rv B 210), (3, iv i)] [] M := by
  refine j_aload_n hX dL_law_1265 rfl 1 rfl ?_
  refine j_aload_r hX dL_law_1266 rfl 0 rfl ?_
  refine j_iload_n hX dL_law_1267 rfl 3 rfl ?_
  refine j_iconst hX dL_law_1268 ?_
  refine j_iadd hX dL_law_1269 ?_
  refine j_sld hX hSX (by omega) (by omega) hn dL_law_1270 (fun z1 he3 hz2 => ?_)
  have hnb := hI.at (M.1 0 8) 0 (rq_0 hC.1)
  have hVn : Vn (M.1 (M.1 0 8) 0) M := hC.2.2.2.2.2.1 _ (hI.at 26 1 ro_26_1).1 hC.2.2.2.2.1
  refine j_callVI hX lk_L_186 (c_X10_about _ _ _ _ _ (M.1 0 8) _ _ (by omega) hI (by omega) hC.1 rfl) (by omega) hce rfl rfl (by omega) (by omega) (by decide +kernel : kd 0 = .inl 10) rfl rfl (Nat.le_of_ble_eq_true rfl) dL_law_1271 (fun y4 M5 hz6 hp7 => ?_)
  have hE := hp7.symm
  subst hE
  refine j_pop hX dL_law_1274 rfl ?_
  refine j_aload_n hX dL_law_1275 rfl 2 rfl ?_
  refine j_aload_r hX dL_law_1276 rfl 0 rfl ?_
  refine j_iload_n hX dL_law_1277 rfl 3 rfl ?_
  refine j_iconst hX dL_law_1278 ?_
  refine j_iadd hX dL_law_1279 ?_
  refine j_sld hX hSX (by omega) (by omega) hn dL_law_1280 (fun z8 he10 hz9 => ?_)
  have hR0 := hR _ rfl
  refine j_callVI hX lk_L_189 (c_X11_about _ _ _ _ _ (M.1 210 40) (M.1 213 (M.1 210 40)) _ _ (by omega) hI (by omega) rfl rfl) (by omega) hce rfl rfl (by omega) (by omega) (by decide +kernel : kd 210 = .inl 11) rfl rfl (Nat.le_of_ble_eq_true rfl) dL_law_1281 (fun y11 M12 hz13 hp14 => ?_)
  have hE := hp14.symm
  subst hE
  refine j_pop hX dL_law_1284 rfl ?_
  refine j_goto (tgt := 1288) hX dL_law_1285 (by decide) ?_
  exact htail _ hI hC hR htm
