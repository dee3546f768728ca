set_option maxHeartbeats 2000000 in
set_option maxRecDepth 20000 in
theorem law_c21 {X : CT} {B b n ce sl : Nat} {ss : Nat → Int32} (hX : Cx X B 100 cL_law RL) (hSX : SX X B b n ss) (hn : (n : Int) ≤ 3072) {i : Int} (hi0 : 0 ≤ i) (hi1 : i + 6 ≤ (n : Int)) (hce : ce + 0 ≤ (xR X).cells ∧ sl + 0 ≤ (xR X).slots) (M : MM) (hI : Iv M) (hC : CIv M) (hR : RI M) (hFC : FC M) (hFM : FM M) (htail : ∀ M', J X B 257 ce sl 1288 [(0, .ref b), (1, rv B 0), (2, rv B 210), (3, iv i)] [] M') : J X B 257 ce sl 749 [(0, .ref b), (1, rv B 0), (2, rv B 210), (3, iv i)] [] M := by
  have hn0 : M.1 (M.1 0 8) 0 = 0 := by rw [hFC.1.1]; exact hFC.2.1.1
  refine j_aload_n hX dL_law_749 rfl 1 rfl ?_
  refine j_aload_r hX dL_law_750 rfl 0 rfl ?_
  refine j_iload_n hX dL_law_751 rfl 3 rfl ?_
  refine j_iconst hX dL_law_752 ?_
  refine j_iadd hX dL_law_753 ?_
  refine j_sld hX hSX (by omega) (by omega) hn dL_law_754 (fun z1 he3 hz2 => ?_)
  have hnb := hI.at (M.1 0 8) 0 (rq_0 hC.1)
  have hVn : Vn (M.1 (M.1 0 8) 0) M := hC.2.2.2.2.2.1 _ (hI.at 26 1 ro_26_1).1 hC.2.2.2.2.1
  refine j_callVI hX lk_L_102 (cv_X10_gossip _ _ _ _ _ (M.1 0 8) (M.1 (M.1 0 8) 0) _ _ (by omega) hI (by omega) hC.1 rfl rfl hVn hnb hn0 (by rw [hFC.2.2.2.1.1]; exact hFC.2.2.2.1.2.2.1) hFC.2.2.2.2.2.1) (by omega) hce rfl rfl (by omega) (by omega) (by decide +kernel : kd 0 = .inl 10) rfl rfl (Nat.le_of_ble_eq_true rfl) dL_law_755 (fun y4 M5 hz6 hp7 => ?_)
  obtain ⟨hI8, hF9, hq10⟩ := hp7
  have hq5 := hC.1
  have hu11 : ∀ a b, 210 ≤ a → M5.1 a b = M.1 a b := fun a b h => hF9 a b (by omega)
  have hR12 : RI M5 := RI_c hR hu11
  have hFM13 : FM M5 := FM_c hFM hu11
  refine j_aload_n hX dL_law_758 rfl 2 rfl ?_
  refine j_aload_r hX dL_law_759 rfl 0 rfl ?_
  refine j_iload_n hX dL_law_760 rfl 3 rfl ?_
  refine j_iconst hX dL_law_761 ?_
  refine j_iadd hX dL_law_762 ?_
  refine j_sld hX hSX (by omega) (by omega) hn dL_law_763 (fun z14 he16 hz15 => ?_)
  have hr17 : z14 = z1 := he16.trans he3.symm
  have hR0 := hR12 _ rfl
  have hm0 : M5.1 213 (M5.1 210 40) = 0 := by rw [hFM13.1.1]; exact hFM13.1.2.1
  refine j_callVI hX lk_L_105 (cv_X11_gossip _ _ _ _ _ (M5.1 210 40) (M5.1 213 (M5.1 210 40)) _ _ (by omega) hI8 (by omega) rfl rfl hR0.2.1.1 hm0) (by omega) hce rfl rfl (by omega) (by omega) (by decide +kernel : kd 210 = .inl 11) rfl rfl (Nat.le_of_ble_eq_true rfl) dL_law_764 (fun y18 M19 hz20 hp21 => ?_)
  obtain ⟨hI22, hF23, hq24, hq25⟩ := hp21
  have hzz : y4 = y18 := by omega
  refine j_icmp_eq (tgt := 1288) hX dL_law_767 (by decide) (by omega) (by omega) (fun _ => ?_) (fun h => absurd hzz h)
  exact htail _
set_option maxHeartbeats 2000000 in
set_option maxRecDepth 20000 in
theorem law_c22 {X : CT} {B b n ce sl : Nat} {ss : Nat → Int32} (hX : Cx X B 100 cL_law RL) (hSX : SX X B b n ss) (hn : (n : Int) ≤ 3072) {i : Int} (hi0 : 0 ≤ i) (hi1 : i + 6 ≤ (n : Int)) (hce : ce + 0 ≤ (xR X).cells ∧ sl + 0 ≤ (xR X).slots) (M : MM) (hI : Iv M) (hC : CIv M) (hR : RI M) (hFC : FC M) (hFM : FM M) (htail : ∀ M', J X B 257 ce sl 1288 [(0, .ref b), (1, rv B 0), (2, rv B 210), (3, iv i)] [] M') : J X B 257 ce sl 772 [(0, .ref b), (1, rv B 0), (2, rv B 210), (3, iv i)] [] M := by
  have hn0 : M.1 (M.1 0 8) 0 = 0 := by rw [hFC.1.1]; exact hFC.2.1.1
  refine j_aload_n hX dL_law_772 rfl 1 rfl ?_
  have hnb := hI.at (M.1 0 8) 0 (rq_0 hC.1)
  have hVn : Vn (M.1 (M.1 0 8) 0) M := hC.2.2.2.2.2.1 _ (hI.at 26 1 ro_26_1).1 hC.2.2.2.2.1
  refine j_callVI hX lk_L_106 (cv_X10_mutual _ _ _ _ _ (M.1 0 8) (M.1 (M.1 0 8) 0) _ (by omega) hI hC.1 rfl rfl hnb hn0) (by omega) hce rfl rfl (by omega) (by omega) (by decide +kernel : kd 0 = .inl 10) rfl rfl (Nat.le_of_ble_eq_true rfl) dL_law_773 (fun y1 M2 hz3 hp4 => ?_)
  obtain ⟨hE5, hq6⟩ := hp4
  replace hE5 := hE5.symm
  subst hE5
  refine j_aload_n hX dL_law_776 rfl 2 rfl ?_
  have hR0 := hR _ rfl
  have hm0 : M.1 213 (M.1 210 40) = 0 := by rw [hFM.1.1]; exact hFM.1.2.1
  refine j_callVI hX lk_L_109 (cv_X11_mutual _ _ _ _ _ (M.1 210 40) (M.1 213 (M.1 210 40)) _ (by omega) hI rfl rfl hm0) (by omega) hce rfl rfl (by omega) (by omega) (by decide +kernel : kd 210 = .inl 11) rfl rfl (Nat.le_of_ble_eq_true rfl) dL_law_777 (fun y7 M8 hz9 hp10 => ?_)
  obtain ⟨hE11, hq12⟩ := hp10
  replace hE11 := hE11.symm
  subst hE11
  have hzz : y1 = y7 := by omega
  refine j_icmp_eq (tgt := 1288) hX dL_law_780 (by decide) (by omega) (by omega) (fun _ => ?_) (fun h => absurd hzz h)
  exact htail _
set_option maxHeartbeats 2000000 in
set_option maxRecDepth 20000 in
theorem law_c23 {X : CT} {B b n ce sl : Nat} {ss : Nat → Int32} (hX : Cx X B 100 cL_law RL) (hSX : SX X B b n ss) (hn : (n : Int) ≤ 3072) {i : Int} (hi0 : 0 ≤ i) (hi1 : i + 6 ≤ (n : Int)) (hce : ce + 0 ≤ (xR X).cells ∧ sl + 0 ≤ (xR X).slots) (M : MM) (hI : Iv M) (hC : CIv M) (hR : RI M) (hFC : FC M) (hFM : FM M) (htail : ∀ M', J X B 257 ce sl 1288 [(0, .ref b), (1, rv B 0), (2, rv B 210), (3, iv i)] [] M') : J X B 257 ce sl 785 [(0, .ref b), (1, rv B 0), (2, rv B 210), (3, iv i)] [] M := by
  have hn0 : M.1 (M.1 0 8) 0 = 0 := by rw [hFC.1.1]; exact hFC.2.1.1
  refine j_aload_n hX dL_law_785 rfl 1 rfl ?_
  refine j_aload_r hX dL_law_786 rfl 0 rfl ?_
  refine j_iload_n hX dL_law_787 rfl 3 rfl ?_
  refine j_iconst hX dL_law_788 ?_
  refine j_iadd hX dL_law_789 ?_
  refine j_sld hX hSX (by omega) (by omega) hn dL_law_790 (fun z1 he3 hz2 => ?_)
  refine j_aload_r hX dL_law_791 rfl 0 rfl ?_
  refine j_iload_n hX dL_law_792 rfl 3 rfl ?_
  refine j_iconst hX dL_law_793 ?_
  refine j_iadd hX dL_law_794 ?_
  refine j_sld hX hSX (by omega) (by omega) hn dL_law_795 (fun z4 he6 hz5 => ?_)
  have hnb := hI.at (M.1 0 8) 0 (rq_0 hC.1)
  have hVn : Vn (M.1 (M.1 0 8) 0) M := hC.2.2.2.2.2.1 _ (hI.at 26 1 ro_26_1).1 hC.2.2.2.2.1
  refine j_callVI hX lk_L_110 (cv_X10_aim _ _ _ _ _ (M.1 0 8) (M.1 (M.1 0 8) 0) _ _ _ (by omega) hI (by omega) (by omega) hC.1 rfl rfl hnb hn0) (by omega) hce rfl rfl (by omega) (by omega) (by decide +kernel : kd 0 = .inl 10) rfl rfl (Nat.le_of_ble_eq_true rfl) dL_law_796 (fun y7 M8 hz9 hp10 => ?_)
  obtain ⟨hI11, hF12, hq13, hq14⟩ := hp10
  have hq5 := hC.1
  have hu15 : ∀ a b, 210 ≤ a → M8.1 a b = M.1 a b := fun a b h => hF12 a b (by omega)
  have hR16 : RI M8 := RI_c hR hu15
  have hFM17 : FM M8 := FM_c hFM hu15
  refine j_aload_n hX dL_law_799 rfl 2 rfl ?_
  refine j_aload_r hX dL_law_800 rfl 0 rfl ?_
  refine j_iload_n hX dL_law_801 rfl 3 rfl ?_
  refine j_iconst hX dL_law_802 ?_
  refine j_iadd hX dL_law_803 ?_
  refine j_sld hX hSX (by omega) (by omega) hn dL_law_804 (fun z18 he20 hz19 => ?_)
  have hr21 : z18 = z1 := he20.trans he3.symm
  refine j_aload_r hX dL_law_805 rfl 0 rfl ?_
  refine j_iload_n hX dL_law_806 rfl 3 rfl ?_
  refine j_iconst hX dL_law_807 ?_
  refine j_iadd hX dL_law_808 ?_
  refine j_sld hX hSX (by omega) (by omega) hn dL_law_809 (fun z22 he24 hz23 => ?_)
  have hr25 : z22 = z4 := he24.trans he6.symm
  have hR0 := hR16 _ rfl
  have hm0 : M8.1 213 (M8.1 210 40) = 0 := by rw [hFM17.1.1]; exact hFM17.1.2.1
  refine j_callVI hX lk_L_114 (cv_X11_aim _ _ _ _ _ (M8.1 210 40) (M8.1 213 (M8.1 210 40)) _ _ _ (by omega) hI11 (by omega) (by omega) rfl rfl hm0) (by omega) hce rfl rfl (by omega) (by omega) (by decide +kernel : kd 210 = .inl 11) rfl rfl (Nat.le_of_ble_eq_true rfl) dL_law_810 (fun y26 M27 hz28 hp29 => ?_)
  obtain ⟨hI30, hF31, hq32, hq33⟩ := hp29
  have hzz : y7 = y26 := by omega
  refine j_icmp_eq (tgt := 1288) hX dL_law_813 (by decide) (by omega) (by omega) (fun _ => ?_) (fun h => absurd hzz h)
  exact htail _
set_option maxHeartbeats 2000000 in
set_option maxRecDepth 20000 in
theorem law_c24 {X : CT} {B b n ce sl : Nat} {ss : Nat → Int32} (hX : Cx X B 100 cL_law RL) (hSX : SX X B b n ss) (hn : (n : Int) ≤ 3072) {i : Int} (hi0 : 0 ≤ i) (hi1 : i + 6 ≤ (n : Int)) (hce : ce + 0 ≤ (xR X).cells ∧ sl + 0 ≤ (xR X).slots) (M : MM) (hI : Iv M) (hC : CIv M) (hR : RI M) (hFC : FC M) (hFM : FM M) (htail : ∀ M', J X B 257 ce sl 1288 [(0, .ref b), (1, rv B 0), (2, rv B 210), (3, iv i)] [] M') : J X B 257 ce sl 818 [(0, .ref b), (1, rv B 0), (2, rv B 210), (3, iv i)] [] M := by
  have hn0 : M.1 (M.1 0 8) 0 = 0 := by rw [hFC.1.1]; exact hFC.2.1.1
  refine j_aload_n hX dL_law_818 rfl 1 rfl ?_
  refine j_aload_r hX dL_law_819 rfl 0 rfl ?_
  refine j_iload_n hX dL_law_820 rfl 3 rfl ?_
  refine j_iconst hX dL_law_821 ?_
  refine j_iadd hX dL_law_822 ?_
  refine j_sld hX hSX (by omega) (by omega) hn dL_law_823 (fun z1 he3 hz2 => ?_)
  have hnb := hI.at (M.1 0 8) 0 (rq_0 hC.1)
  have hVn : Vn (M.1 (M.1 0 8) 0) M := hC.2.2.2.2.2.1 _ (hI.at 26 1 ro_26_1).1 hC.2.2.2.2.1
  refine j_callVI hX lk_L_115 (cv_X10_drop _ _ _ _ _ (M.1 0 8) (M.1 (M.1 0 8) 0) _ _ (by omega) hI (by omega) hC.1 rfl rfl hnb hn0) (by omega) hce rfl rfl (by omega) (by omega) (by decide +kernel : kd 0 = .inl 10) rfl rfl (Nat.le_of_ble_eq_true rfl) dL_law_824 (fun y4 M5 hz6 hp7 => ?_)
  obtain ⟨hI8, hF9, hq10, hq11⟩ := hp7
  have hq5 := hC.1
  have hu12 : ∀ a b, 210 ≤ a → M5.1 a b = M.1 a b := fun a b h => hF9 a b (by omega)
  have hR13 : RI M5 := RI_c hR hu12
  have hFM14 : FM M5 := FM_c hFM hu12
  refine j_aload_n hX dL_law_827 rfl 2 rfl ?_
  refine j_aload_r hX dL_law_828 rfl 0 rfl ?_
  refine j_iload_n hX dL_law_829 rfl 3 rfl ?_
  refine j_iconst hX dL_law_830 ?_
  refine j_iadd hX dL_law_831 ?_
  refine j_sld hX hSX (by omega) (by omega) hn dL_law_832 (fun z15 he17 hz16 => ?_)
  have hr18 : z15 = z1 := he17.trans he3.symm
  have hR0 := hR13 _ rfl
  have hm0 : M5.1 213 (M5.1 210 40) = 0 := by rw [hFM14.1.1]; exact hFM14.1.2.1
  refine j_callVI hX lk_L_119 (cv_X11_drop _ _ _ _ _ (M5.1 210 40) (M5.1 213 (M5.1 210 40)) _ _ (by omega) hI8 (by omega) rfl rfl hm0) (by omega) hce rfl rfl (by omega) (by omega) (by decide +kernel : kd 210 = .inl 11) rfl rfl (Nat.le_of_ble_eq_true rfl) dL_law_833 (fun y19 M20 hz21 hp22 => ?_)
  obtain ⟨hI23, hF24, hq25, hq26⟩ := hp22
  have hzz : y4 = y19 := by omega
  refine j_icmp_eq (tgt := 1288) hX dL_law_836 (by decide) (by omega) (by omega) (fun _ => ?_) (fun h => absurd hzz h)
  exact htail _
set_option maxHeartbeats 2000000 in
set_option maxRecDepth 20000 in
theorem law_c25 {X : CT} {B b n ce sl : Nat} {ss : Nat → Int32} (hX : Cx X B 100 cL_law RL) (hSX : SX X B b n ss) (hn : (n : Int) ≤ 3072) {i : Int} (hi0 : 0 ≤ i) (hi1 : i + 6 ≤ (n : Int)) (hce : ce + 0 ≤ (xR X).cells ∧ sl + 0 ≤ (xR X).slots) (M : MM) (hI : Iv M) (hC : CIv M) (hR : RI M) (hFC : FC M) (hFM : FM M) (htail : ∀ M', J X B 257 ce sl 1288 [(0, .ref b), (1, rv B 0), (2, rv B 210), (3, iv i)] [] M') : J X B 257 ce sl 841 [(0, .ref b), (1, rv B 0), (2, rv B 210), (3, iv i)] [] M := by
  have hn0 : M.1 (M.1 0 8) 0 = 0 := by rw [hFC.1.1]; exact hFC.2.1.1
  refine j_aload_n hX dL_law_841 rfl 1 rfl ?_
  have hnb := hI.at (M.1 0 8) 0 (rq_0 hC.1)
  have hVn : Vn (M.1 (M.1 0 8) 0) M := hC.2.2.2.2.2.1 _ (hI.at 26 1 ro_26_1).1 hC.2.2.2.2.1
  refine j_callVI hX lk_L_120 (cv_X10_swaps _ _ _ _ _ (M.1 0 8) (M.1 (M.1 0 8) 0) _ (by omega) hI hC.1 rfl rfl hVn hnb hn0) (by omega) hce rfl rfl (by omega) (by omega) (by decide +kernel : kd 0 = .inl 10) rfl rfl (Nat.le_of_ble_eq_true rfl) dL_law_842 (fun y1 M2 hz3 hp4 => ?_)
  obtain ⟨hI5, hF6, hq7⟩ := hp4
  have hq5 := hC.1
  have hu8 : ∀ a b, 210 ≤ a → M2.1 a b = M.1 a b := fun a b h => hF6 a b (by omega)
  have hR9 : RI M2 := RI_c hR hu8
  have hFM10 : FM M2 := FM_c hFM hu8
  refine j_aload_n hX dL_law_845 rfl 2 rfl ?_
  have hR0 := hR9 _ rfl
  have hm0 : M2.1 213 (M2.1 210 40) = 0 := by rw [hFM10.1.1]; exact hFM10.1.2.1
  refine j_callVI hX lk_L_123 (cv_X11_swaps _ _ _ _ _ (M2.1 210 40) (M2.1 213 (M2.1 210 40)) _ (by omega) hI5 rfl rfl hR0.2.1.1 hm0) (by omega) hce rfl rfl (by omega) (by omega) (by decide +kernel : kd 210 = .inl 11) rfl rfl (Nat.le_of_ble_eq_true rfl) dL_law_846 (fun y11 M12 hz13 hp14 => ?_)
  obtain ⟨hI15, hF16, hq17⟩ := hp14
  have hzz : y1 = y11 := by omega
  refine j_icmp_eq (tgt := 1288) hX dL_law_849 (by decide) (by omega) (by omega) (fun _ => ?_) (fun h => absurd hzz h)
  exact htail _
set_option maxHeartbeats 2000000 in
set_option maxRecDepth 20000 in
theorem law_c26 {X : CT} {B b n ce sl : Nat} {ss : Nat → Int32} (hX : Cx X B 100 cL_law RL) (hSX : SX X B b n ss) (hn : (n : Int) ≤ 3072) {i : Int} (hi0 : 0 ≤ i) (hi1 : i + 6 ≤ (n : Int)) (hce : ce + 0 ≤ (xR X).cells ∧ sl + 0 ≤ (xR X).slots) (M : MM) (hI : Iv M) (hC : CIv M) (hR : RI M) (hFC : FC M) (hFM : FM M) (htail : ∀ M', J X B 257 ce sl 1288 [(0, .ref b), (1, rv B 0), (2, rv B 210), (3, iv i)] [] M') : J X B 257 ce sl 854 [(0, .ref b), (1, rv B 0), (2, rv B 210), (3, iv i)] [] M := by
  have hn0 : M.1 (M.1 0 8) 0 = 0 := by rw [hFC.1.1]; exact hFC.2.1.1
  refine j_aload_n hX dL_law_854 rfl 1 rfl ?_
  have hnb := hI.at (M.1 0 8) 0 (rq_0 hC.1)
  have hVn : Vn (M.1 (M.1 0 8) 0) M := hC.2.2.2.2.2.1 _ (hI.at 26 1 ro_26_1).1 hC.2.2.2.2.1
  refine j_callVI hX lk_L_124 (cv_X10_rings _ _ _ _ _ (M.1 0 8) (M.1 (M.1 0 8) 0) _ (by omega) hI hC.1 rfl rfl hVn hnb hn0) (by omega) hce rfl rfl (by omega) (by omega) (by decide +kernel : kd 0 = .inl 10) rfl rfl (Nat.le_of_ble_eq_true rfl) dL_law_855 (fun y1 M2 hz3 hp4 => ?_)
  obtain ⟨hI5, hF6, hq7⟩ := hp4
  have hq5 := hC.1
  have hu8 : ∀ a b, 210 ≤ a → M2.1 a b = M.1 a b := fun a b h => hF6 a b (by omega)
  have hR9 : RI M2 := RI_c hR hu8
  have hFM10 : FM M2 := FM_c hFM hu8
  refine j_aload_n hX dL_law_858 rfl 2 rfl ?_
  have hR0 := hR9 _ rfl
  have hm0 : M2.1 213 (M2.1 210 40) = 0 := by rw [hFM10.1.1]; exact hFM10.1.2.1
  refine j_callVI hX lk_L_127 (cv_X11_rings _ _ _ _ _ (M2.1 210 40) (M2.1 213 (M2.1 210 40)) _ (by omega) hI5 rfl rfl hm0) (by omega) hce rfl rfl (by omega) (by omega) (by decide +kernel : kd 210 = .inl 11) rfl rfl (Nat.le_of_ble_eq_true rfl) dL_law_859 (fun y11 M12 hz13 hp14 => ?_)
  obtain ⟨hI15, hF16, hq17⟩ := hp14
  have hzz : y1 = y11 := by omega
  refine j_icmp_eq (tgt := 1288) hX dL_law_862 (by decide) (by omega) (by omega) (fun _ => ?_) (fun h => absurd hzz h)
  exact htail _
set_option maxHeartbeats 2000000 in
set_option maxRecDepth 20000 in
theorem law_c27 {X : CT} {B b n ce sl : Nat} {ss : Nat → Int32} (hX : Cx X B 100 cL_law RL) (hSX : SX X B b n ss) (hn : (n : Int) ≤ 3072) {i : Int} (hi0 : 0 ≤ i) (hi1 : i + 6 ≤ (n : Int)) (hce : ce + 0 ≤ (xR X).cells ∧ sl + 0 ≤ (xR X).slots) (M : MM) (hI : Iv M) (hC : CIv M) (hR : RI M) (hFC : FC M) (hFM : FM M) (htail : ∀ M', J X B 257 ce sl 1288 [(0, .ref b), (1, rv B 0), (2, rv B 210), (3, iv i)] [] M') : J X B 257 ce sl 867 [(0, .ref b), (1, rv B 0), (2, rv B 210), (3, iv i)] [] M := by
  have hn0 : M.1 (M.1 0 8) 0 = 0 := by rw [hFC.1.1]; exact hFC.2.1.1
  refine j_aload_n hX dL_law_867 rfl 1 rfl ?_
  have hnb := hI.at (M.1 0 8) 0 (rq_0 hC.1)
  have hVn : Vn (M.1 (M.1 0 8) 0) M := hC.2.2.2.2.2.1 _ (hI.at 26 1 ro_26_1).1 hC.2.2.2.2.1
  refine j_callVI hX lk_L_128 (cv_X10_best _ _ _ _ _ (M.1 0 8) (M.1 (M.1 0 8) 0) _ (by omega) hI hC.1 rfl rfl hnb hn0) (by omega) hce rfl rfl (by omega) (by omega) (by decide +kernel : kd 0 = .inl 10) rfl rfl (Nat.le_of_ble_eq_true rfl) dL_law_868 (fun y1 M2 hz3 hp4 => ?_)
  obtain ⟨hI5, hF6, hq7⟩ := hp4
  have hq5 := hC.1
  have hu8 : ∀ a b, 210 ≤ a → M2.1 a b = M.1 a b := fun a b h => hF6 a b (by omega)
  have hR9 : RI M2 := RI_c hR hu8
  have hFM10 : FM M2 := FM_c hFM hu8
  refine j_aload_n hX dL_law_871 rfl 2 rfl ?_
  have hR0 := hR9 _ rfl
  have hm0 : M2.1 213 (M2.1 210 40) = 0 := by rw [hFM10.1.1]; exact hFM10.1.2.1
  refine j_callVI hX lk_L_131 (cv_X11_best _ _ _ _ _ (M2.1 210 40) (M2.1 213 (M2.1 210 40)) _ (by omega) hI5 rfl rfl hm0) (by omega) hce rfl rfl (by omega) (by omega) (by decide +kernel : kd 210 = .inl 11) rfl rfl (Nat.le_of_ble_eq_true rfl) dL_law_872 (fun y11 M12 hz13 hp14 => ?_)
  obtain ⟨hI15, hF16, hq17⟩ := hp14
  have hzz : y1 = y11 := by omega
  refine j_icmp_eq (tgt := 1288) hX dL_law_875 (by decide) (by omega) (by omega) (fun _ => ?_) (fun h => absurd hzz h)
  exact htail _
set_option maxHeartbeats 2000000 in
set_option maxRecDepth 20000 in
theorem law_c28 {X : CT} {B b n ce sl : Nat} {ss : Nat → Int32} (hX : Cx X B 100 cL_law RL) (hSX : SX X B b n ss) (hn : (n : Int) ≤ 3072) {i : Int} (hi0 : 0 ≤ i) (hi1 : i + 6 ≤ (n : Int)) (hce : ce + 0 ≤ (xR X).cells ∧ sl + 0 ≤ (xR X).slots) (M : MM) (hI : Iv M) (hC : CIv M) (hR : RI M) (hFC : FC M) (hFM : FM M) (htail : ∀ M', J X B 257 ce sl 1288 [(0, .ref b), (1, rv B 0), (2, rv B 210), (3, iv i)] [] M') : J X B 257 ce sl 880 [(0, .ref b), (1, rv B 0), (2, rv B 210), (3, iv i)] [] M := by
  have hn0 : M.1 (M.1 0 8) 0 = 0 := by rw [hFC.1.1]; exact hFC.2.1.1
  refine j_aload_n hX dL_law_880 rfl 1 rfl ?_
  refine j_aload_r hX dL_law_881 rfl 0 rfl ?_
  refine j_iload_n hX dL_law_882 rfl 3 rfl ?_
  refine j_iconst hX dL_law_883 ?_
  refine j_iadd hX dL_law_884 ?_
  refine j_sld hX hSX (by omega) (by omega) hn dL_law_885 (fun z1 he3 hz2 => ?_)
  refine j_aload_r hX dL_law_886 rfl 0 rfl ?_
  refine j_iload_n hX dL_law_887 rfl 3 rfl ?_
  refine j_iconst hX dL_law_888 ?_
  refine j_iadd hX dL_law_889 ?_
  refine j_sld hX hSX (by omega) (by omega) hn dL_law_890 (fun z4 he6 hz5 => ?_)
  have hnb := hI.at (M.1 0 8) 0 (rq_0 hC.1)
  have hVn : Vn (M.1 (M.1 0 8) 0) M := hC.2.2.2.2.2.1 _ (hI.at 26 1 ro_26_1).1 hC.2.2.2.2.1
  refine j_callVI hX lk_L_132 (cv_X10_odds _ _ _ _ _ (M.1 0 8) (M.1 (M.1 0 8) 0) _ _ _ (by omega) hI (by omega) (by omega) hC.1 rfl rfl hnb hn0) (by omega) hce rfl rfl (by omega) (by omega) (by decide +kernel : kd 0 = .inl 10) rfl rfl (Nat.le_of_ble_eq_true rfl) dL_law_891 (fun y7 M8 hz9 hp10 => ?_)
  obtain ⟨hI11, hF12, hq13⟩ := hp10
  have hq5 := hC.1
  have hu14 : ∀ a b, 210 ≤ a → M8.1 a b = M.1 a b := fun a b h => hF12 a b (by omega)
  have hR15 : RI M8 := RI_c hR hu14
  have hFM16 : FM M8 := FM_c hFM hu14
  refine j_aload_n hX dL_law_894 rfl 2 rfl ?_
  refine j_aload_r hX dL_law_895 rfl 0 rfl ?_
  refine j_iload_n hX dL_law_896 rfl 3 rfl ?_
  refine j_iconst hX dL_law_897 ?_
  refine j_iadd hX dL_law_898 ?_
  refine j_sld hX hSX (by omega) (by omega) hn dL_law_899 (fun z17 he19 hz18 => ?_)
  have hr20 : z17 = z1 := he19.trans he3.symm
  refine j_aload_r hX dL_law_900 rfl 0 rfl ?_
  refine j_iload_n hX dL_law_901 rfl 3 rfl ?_
  refine j_iconst hX dL_law_902 ?_
  refine j_iadd hX dL_law_903 ?_
  refine j_sld hX hSX (by omega) (by omega) hn dL_law_904 (fun z21 he23 hz22 => ?_)
  have hr24 : z21 = z4 := he23.trans he6.symm
  have hR0 := hR15 _ rfl
  have hm0 : M8.1 213 (M8.1 210 40) = 0 := by rw [hFM16.1.1]; exact hFM16.1.2.1
  refine j_callVI hX lk_L_135 (cv_X11_odds _ _ _ _ _ (M8.1 210 40) (M8.1 213 (M8.1 210 40)) _ _ _ (by omega) hI11 (by omega) (by omega) rfl rfl hm0) (by omega) hce rfl rfl (by omega) (by omega) (by decide +kernel : kd 210 = .inl 11) rfl rfl (Nat.le_of_ble_eq_true rfl) dL_law_905 (fun y25 M26 hz27 hp28 => ?_)
  obtain ⟨hI29, hF30, hq31⟩ := hp28
  have hzz : y7 = y25 := by omega
  refine j_icmp_eq (tgt := 1288) hX dL_law_908 (by decide) (by omega) (by omega) (fun _ => ?_) (fun h => absurd hzz h)
  exact htail _
set_option maxHeartbeats 2000000 in
set_option maxRecDepth 20000 in
theorem law_c29 {X : CT} {B b n ce sl : Nat} {ss : Nat → Int32} (hX : Cx X B 100 cL_law RL) (hSX : SX X B b n ss) (hn : (n : Int) ≤ 3072) {i : Int} (hi0 : 0 ≤ i) (hi1 : i + 6 ≤ (n : Int)) (hce : ce + 0 ≤ (xR X).cells ∧ sl + 0 ≤ (xR X).slots) (M : MM) (hI : Iv M) (hC : CIv M) (hR : RI M) (hFC : FC M) (hFM : FM M) (htail : ∀ M', J X B 257 ce sl 1288 [(0, .ref b), (1, rv B 0), (2, rv B 210), (3, iv i)] [] M') : J X B 257 ce sl 913 [(0, .ref b), (1, rv B 0), (2, rv B 210), (3, iv i)] [] M := by
  have hn0 : M.1 (M.1 0 8) 0 = 0 := by rw [hFC.1.1]; exact hFC.2.1.1
  refine j_aload_n hX dL_law_913 rfl 1 rfl ?_
  have hnb := hI.at (M.1 0 8) 0 (rq_0 hC.1)
  have hVn : Vn (M.1 (M.1 0 8) 0) M := hC.2.2.2.2.2.1 _ (hI.at 26 1 ro_26_1).1 hC.2.2.2.2.1
  refine j_callVI hX lk_L_136 (cv_X10_fair _ _ _ _ _ (M.1 0 8) (M.1 (M.1 0 8) 0) _ (by omega) hI hC.1 rfl rfl hn0) (by omega) hce rfl rfl (by omega) (by omega) (by decide +kernel : kd 0 = .inl 10) rfl rfl (Nat.le_of_ble_eq_true rfl) dL_law_914 (fun y1 M2 hz3 hp4 => ?_)
  obtain ⟨hI5, hF6, hq7⟩ := hp4
  have hq5 := hC.1
  have hu8 : ∀ a b, 210 ≤ a → M2.1 a b = M.1 a b := fun a b h => hF6 a b (by omega)
  have hR9 : RI M2 := RI_c hR hu8
  have hFM10 : FM M2 := FM_c hFM hu8
  refine j_aload_n hX dL_law_917 rfl 2 rfl ?_
  have hR0 := hR9 _ rfl
  have hm0 : M2.1 213 (M2.1 210 40) = 0 := by rw [hFM10.1.1]; exact hFM10.1.2.1
  refine j_callVI hX lk_L_139 (cv_X11_fair _ _ _ _ _ (M2.1 210 40) (M2.1 213 (M2.1 210 40)) _ (by omega) hI5 rfl rfl hm0) (by omega) hce rfl rfl (by omega) (by omega) (by decide +kernel : kd 210 = .inl 11) rfl rfl (Nat.le_of_ble_eq_true rfl) dL_law_918 (fun y11 M12 hz13 hp14 => ?_)
  obtain ⟨hI15, hF16, hq17⟩ := hp14
  have hzz : y1 = y11 := by omega
  refine j_icmp_eq (tgt := 1288) hX dL_law_921 (by decide) (by omega) (by omega) (fun _ => ?_) (fun h => absurd hzz h)
  exact htail _
set_option maxHeartbeats 2000000 in
set_option maxRecDepth 20000 in
theorem law_c30 {X : CT} {B b n ce sl : Nat} {ss : Nat → Int32} (hX : Cx X B 100 cL_law RL) (hSX : SX X B b n ss) (hn : (n : Int) ≤ 3072) {i : Int} (hi0 : 0 ≤ i) (hi1 : i + 6 ≤ (n : Int)) (hce : ce + 0 ≤ (xR X).cells ∧ sl + 0 ≤ (xR X).slots) (M : MM) (hI : Iv M) (hC : CIv M) (hR : RI M) (hFC : FC M) (hFM : FM M) (htail : ∀ M', J X B 257 ce sl 1288 [(0, .ref b), (1, rv B 0), (2, rv B 210), (3, iv i)] [] M') : J X B 257 ce sl 926 [(0, .ref b), (1, rv B 0), (2, rv B 210), (3, iv i)] [] M := by
  have hn0 : M.1 (M.1 0 8) 0 = 0 := by rw [hFC.1.1]; exact hFC.2.1.1
  refine j_aload_n hX dL_law_926 rfl 1 rfl ?_
  refine j_aload_r hX dL_law_927 rfl 0 rfl ?_
  refine j_iload_n hX dL_law_928 rfl 3 rfl ?_
  refine j_iconst hX dL_law_929 ?_
  refine j_iadd hX dL_law_930 ?_
  refine j_sld hX hSX (by omega) (by omega) hn dL_law_931 (fun z1 he3 hz2 => ?_)
  refine j_aload_r hX dL_law_932 rfl 0 rfl ?_
  refine j_iload_n hX dL_law_933 rfl 3 rfl ?_
  refine j_iconst hX dL_law_934 ?_
  refine j_iadd hX dL_law_935 ?_
  refine j_sld hX hSX (by omega) (by omega) hn dL_law_936 (fun z4 he6 hz5 => ?_)
  have hnb := hI.at (M.1 0 8) 0 (rq_0 hC.1)
  have hVn : Vn (M.1 (M.1 0 8) 0) M := hC.2.2.2.2.2.1 _ (hI.at 26 1 ro_26_1).1 hC.2.2.2.2.1
  refine j_callVI hX lk_L_140 (cv_X10_proof _ _ _ _ _ (M.1 0 8) (M.1 (M.1 0 8) 0) 0 _ _ _ (by omega) hI (by omega) (by omega) hC.1 rfl rfl (by rw [hFC.1.1]; exact hFC.2.1.2.1) hnb hn0 (by decide)) (by omega) hce rfl rfl (by omega) (by omega) (by decide +kernel : kd 0 = .inl 10) rfl rfl (Nat.le_of_ble_eq_true rfl) dL_law_937 (fun y7 M8 hz9 hp10 => ?_)
  obtain ⟨hE11, hq12⟩ := hp10
  replace hE11 := hE11.symm
  subst hE11
  refine j_aload_n hX dL_law_940 rfl 2 rfl ?_
  refine j_aload_r hX dL_law_941 rfl 0 rfl ?_
  refine j_iload_n hX dL_law_942 rfl 3 rfl ?_
  refine j_iconst hX dL_law_943 ?_
  refine j_iadd hX dL_law_944 ?_
  refine j_sld hX hSX (by omega) (by omega) hn dL_law_945 (fun z13 he15 hz14 => ?_)
  have hr16 : z13 = z1 := he15.trans he3.symm
  refine j_aload_r hX dL_law_946 rfl 0 rfl ?_
  refine j_iload_n hX dL_law_947 rfl 3 rfl ?_
  refine j_iconst hX dL_law_948 ?_
  refine j_iadd hX dL_law_949 ?_
  refine j_sld hX hSX (by omega) (by omega) hn dL_law_950 (fun z17 he19 hz18 => ?_)
  have hr20 : z17 = z4 := he19.trans he6.symm
  have hR0 := hR _ rfl
  have hm0 : M.1 213 (M.1 210 40) = 0 := by rw [hFM.1.1]; exact hFM.1.2.1
  refine j_callVI hX lk_L_143 (cv_X11_proof _ _ _ _ _ (M.1 210 40) (M.1 213 (M.1 210 40)) 0 _ _ _ (by omega) hI (by omega) (by omega) rfl rfl (by rw [hFM.1.1]; exact hFM.1.2.2.1) hm0 (by decide)) (by omega) hce rfl rfl (by omega) (by omega) (by decide +kernel : kd 210 = .inl 11) rfl rfl (Nat.le_of_ble_eq_true rfl) dL_law_951 (fun y21 M22 hz23 hp24 => ?_)
  obtain ⟨hE25, hq26⟩ := hp24
  replace hE25 := hE25.symm
  subst hE25
  have hzz : y7 = y21 := by omega
  refine j_icmp_eq (tgt := 1288) hX dL_law_954 (by decide) (by omega) (by omega) (fun _ => ?_) (fun h => absurd hzz h)
  exact htail _
set_option maxHeartbeats 2000000 in
set_option maxRecDepth 20000 in
theorem law_c31 {X : CT} {B b n ce sl : Nat} {ss : Nat → Int32} (hX : Cx X B 100 cL_law RL) (hSX : SX X B b n ss) (hn : (n : Int) ≤ 3072) {i : Int} (hi0 : 0 ≤ i) (hi1 : i + 6 ≤ (n : Int)) (hce : ce + 0 ≤ (xR X).cells ∧ sl + 0 ≤ (xR X).slots) (M : MM) (hI : Iv M) (hC : CIv M) (hR : RI M) (hFC : FC M) (hFM : FM M) (htail : ∀ M', J X B 257 ce sl 1288 [(0, .ref b), (1, rv B 0), (2, rv B 210), (3, iv i)] [] M') : J X B 257 ce sl 959 [(0, .ref b), (1, rv B 0), (2, rv B 210), (3, iv i)] [] M := by
  have hn0 : M.1 (M.1 0 8) 0 = 0 := by rw [hFC.1.1]; exact hFC.2.1.1
  refine j_aload_n hX dL_law_959 rfl 1 rfl ?_
  refine j_aload_r hX dL_law_960 rfl 0 rfl ?_
  refine j_iload_n hX dL_law_961 rfl 3 rfl ?_
  refine j_iconst hX dL_law_962 ?_
  refine j_iadd hX dL_law_963 ?_
  refine j_sld hX hSX (by omega) (by omega) hn dL_law_964 (fun z1 he3 hz2 => ?_)
  refine j_aload_r hX dL_law_965 rfl 0 rfl ?_
  refine j_iload_n hX dL_law_966 rfl 3 rfl ?_
  refine j_iconst hX dL_law_967 ?_
  refine j_iadd hX dL_law_968 ?_
  refine j_sld hX hSX (by omega) (by omega) hn dL_law_969 (fun z4 he6 hz5 => ?_)
  refine j_aload_r hX dL_law_970 rfl 0 rfl ?_
  refine j_iload_n hX dL_law_971 rfl 3 rfl ?_
  refine j_iconst hX dL_law_972 ?_
  refine j_iadd hX dL_law_973 ?_
  refine j_sld hX hSX (by omega) (by omega) hn dL_law_974 (fun z7 he9 hz8 => ?_)
  have hnb := hI.at (M.1 0 8) 0 (rq_0 hC.1)
  have hVn : Vn (M.1 (M.1 0 8) 0) M := hC.2.2.2.2.2.1 _ (hI.at 26 1 ro_26_1).1 hC.2.2.2.2.1
  refine j_callVI hX lk_L_144 (cv_X10_hide _ _ _ _ _ (M.1 0 8) (M.1 (M.1 0 8) 0) _ _ _ _ (by omega) hI (by omega) (by omega) (by omega) hC.1 rfl rfl hVn hnb hn0) (by omega) hce rfl rfl (by omega) (by omega) (by decide +kernel : kd 0 = .inl 10) rfl rfl (Nat.le_of_ble_eq_true rfl) dL_law_975 (fun y10 M11 hz12 hp13 => ?_)
  obtain ⟨hI14, hF15, hq16⟩ := hp13
  have hq5 := hC.1
  have hu17 : ∀ a b, 210 ≤ a → M11.1 a b = M.1 a b := fun a b h => hF15 a b (by omega)
  have hR18 : RI M11 := RI_c hR hu17
  have hFM19 : FM M11 := FM_c hFM hu17
  refine j_aload_n hX dL_law_978 rfl 2 rfl ?_
  refine j_aload_r hX dL_law_979 rfl 0 rfl ?_
  refine j_iload_n hX dL_law_980 rfl 3 rfl ?_
  refine j_iconst hX dL_law_981 ?_
  refine j_iadd hX dL_law_982 ?_
  refine j_sld hX hSX (by omega) (by omega) hn dL_law_983 (fun z20 he22 hz21 => ?_)
  have hr23 : z20 = z1 := he22.trans he3.symm
  refine j_aload_r hX dL_law_984 rfl 0 rfl ?_
  refine j_iload_n hX dL_law_985 rfl 3 rfl ?_
  refine j_iconst hX dL_law_986 ?_
  refine j_iadd hX dL_law_987 ?_
  refine j_sld hX hSX (by omega) (by omega) hn dL_law_988 (fun z24 he26 hz25 => ?_)
  have hr27 : z24 = z4 := he26.trans he6.symm
  refine j_aload_r hX dL_law_989 rfl 0 rfl ?_
  refine j_iload_n hX dL_law_990 rfl 3 rfl ?_
  refine j_iconst hX dL_law_991 ?_
  refine j_iadd hX dL_law_992 ?_
  refine j_sld hX hSX (by omega) (by omega) hn dL_law_993 (fun z28 he30 hz29 => ?_)
  have hr31 : z28 = z7 := he30.trans he9.symm
  have hR0 := hR18 _ rfl
  have hm0 : M11.1 213 (M11.1 210 40) = 0 := by rw [hFM19.1.1]; exact hFM19.1.2.1
  refine j_callVI hX lk_L_148 (cv_X11_hide _ _ _ _ _ (M11.1 210 40) (M11.1 213 (M11.1 210 40)) _ _ _ _ (by omega) hI14 (by omega) (by omega) (by omega) rfl rfl hR0.2.1.1 hm0) (by omega) hce rfl rfl (by omega) (by omega) (by decide +kernel : kd 210 = .inl 11) rfl rfl (Nat.le_of_ble_eq_true rfl) dL_law_994 (fun y32 M33 hz34 hp35 => ?_)
  obtain ⟨hI36, hF37, hq38, hq39⟩ := hp35
  have hzz : y10 = y32 := by omega
  refine j_icmp_eq (tgt := 1288) hX dL_law_997 (by decide) (by omega) (by omega) (fun _ => ?_) (fun h => absurd hzz h)
  exact htail _
set_option maxHeartbeats 2000000 in
set_option maxRecDepth 20000 in
theorem law_c32 {X : CT} {B b n ce sl : Nat} {ss : Nat → Int32} (hX : Cx X B 100 cL_law RL) (hSX : SX X B b n ss) (hn : (n : Int) ≤ 3072) {i : Int} (hi0 : 0 ≤ i) (hi1 : i + 6 ≤ (n : Int)) (hce : ce + 0 ≤ (xR X).cells ∧ sl + 0 ≤ (xR X).slots) (M : MM) (hI : Iv M) (hC : CIv M) (hR : RI M) (hFC : FC M) (hFM : FM M) (htail : ∀ M', J X B 257 ce sl 1288 [(0, .ref b), (1, rv B 0), (2, rv B 210), (3, iv i)] [] M') : J X B 257 ce sl 1002 [(0, .ref b), (1, rv B 0), (2, rv B 210), (3, iv i)] [] M := by
  have hn0 : M.1 (M.1 0 8) 0 = 0 := by rw [hFC.1.1]; exact hFC.2.1.1
  refine j_aload_n hX dL_law_1002 rfl 1 rfl ?_
  refine j_aload_r hX dL_law_1003 rfl 0 rfl ?_
  refine j_iload_n hX dL_law_1004 rfl 3 rfl ?_
  refine j_iconst hX dL_law_1005 ?_
  refine j_iadd hX dL_law_1006 ?_
  refine j_sld hX hSX (by omega) (by omega) hn dL_law_1007 (fun z1 he3 hz2 => ?_)
  have hnb := hI.at (M.1 0 8) 0 (rq_0 hC.1)
  have hVn : Vn (M.1 (M.1 0 8) 0) M := hC.2.2.2.2.2.1 _ (hI.at 26 1 ro_26_1).1 hC.2.2.2.2.1
  refine j_callVI hX lk_L_149 (cv_X10_lies _ _ _ _ _ 0 _ _ (by omega) hI (by omega) hFC.1.2.2.1 (by decide)) (by omega) hce rfl rfl (by omega) (by omega) (by decide +kernel : kd 0 = .inl 10) rfl rfl (Nat.le_of_ble_eq_true rfl) dL_law_1008 (fun y4 M5 hz6 hp7 => ?_)
  obtain ⟨hE8, hq9⟩ := hp7
  replace hE8 := hE8.symm
  subst hE8
  refine j_aload_n hX dL_law_1011 rfl 2 rfl ?_
  refine j_aload_r hX dL_law_1012 rfl 0 rfl ?_
  refine j_iload_n hX dL_law_1013 rfl 3 rfl ?_
  refine j_iconst hX dL_law_1014 ?_
  refine j_iadd hX dL_law_1015 ?_
  refine j_sld hX hSX (by omega) (by omega) hn dL_law_1016 (fun z10 he12 hz11 => ?_)
  have hr13 : z10 = z1 := he12.trans he3.symm
  have hR0 := hR _ rfl
  have hm0 : M.1 213 (M.1 210 40) = 0 := by rw [hFM.1.1]; exact hFM.1.2.1
  refine j_callVI hX lk_L_152 (cv_X11_lies _ _ _ _ _ 0 _ _ (by omega) hI (by omega) hFM.2.2.2.1.2.2.2.1 (by decide)) (by omega) hce rfl rfl (by omega) (by omega) (by decide +kernel : kd 210 = .inl 11) rfl rfl (Nat.le_of_ble_eq_true rfl) dL_law_1017 (fun y14 M15 hz16 hp17 => ?_)
  obtain ⟨hE18, hq19⟩ := hp17
  replace hE18 := hE18.symm
  subst hE18
  have hzz : y4 = y14 := by omega
  refine j_icmp_eq (tgt := 1288) hX dL_law_1020 (by decide) (by omega) (by omega) (fun _ => ?_) (fun h => absurd hzz h)
  exact htail _
set_option maxHeartbeats 2000000 in
set_option maxRecDepth 20000 in
theorem law_c33 {X : CT} {B b n ce sl : Nat} {ss : Nat → Int32} (hX : Cx X B 100 cL_law RL) (hSX : SX X B b n ss) (hn : (n : Int) ≤ 3072) {i : Int} (hi0 : 0 ≤ i) (hi1 : i + 6 ≤ (n : Int)) (hce : ce + 0 ≤ (xR X).cells ∧ sl + 0 ≤ (xR X).slots) (M : MM) (hI : Iv M) (hC : CIv M) (hR : RI M) (hFC : FC M) (hFM : FM M) (htail : ∀ M', J X B 257 ce sl 1288 [(0, .ref b), (1, rv B 0), (2, rv B 210), (3, iv i)] [] M') : J X B 257 ce sl 1025 [(0, .ref b), (1, rv B 0), (2, rv B 210), (3, iv i)] [] M := by
  have hn0 : M.1 (M.1 0 8) 0 = 0 := by rw [hFC.1.1]; exact hFC.2.1.1
  refine j_aload_n hX dL_law_1025 rfl 1 rfl ?_
  refine j_aload_r hX dL_law_1026 rfl 0 rfl ?_
  refine j_iload_n hX dL_law_1027 rfl 3 rfl ?_
  refine j_iconst hX dL_law_1028 ?_
  refine j_iadd hX dL_law_1029 ?_
  refine j_sld hX hSX (by omega) (by omega) hn dL_law_1030 (fun z1 he3 hz2 => ?_)
  refine j_aload_r hX dL_law_1031 rfl 0 rfl ?_
  refine j_iload_n hX dL_law_1032 rfl 3 rfl ?_
  refine j_iconst hX dL_law_1033 ?_
  refine j_iadd hX dL_law_1034 ?_
  refine j_sld hX hSX (by omega) (by omega) hn dL_law_1035 (fun z4 he6 hz5 => ?_)
  refine j_aload_r hX dL_law_1036 rfl 0 rfl ?_
  refine j_iload_n hX dL_law_1037 rfl 3 rfl ?_
  refine j_iconst hX dL_law_1038 ?_
  refine j_iadd hX dL_law_1039 ?_
  refine j_sld hX hSX (by omega) (by omega) hn dL_law_1040 (fun z7 he9 hz8 => ?_)
  refine j_if_eq (tgt := 1048) hX dL_law_1041 (by decide) (by omega) (fun _ => ?_) (fun _ => ?_)
  · skip
    refine j_iconst hX dL_law_1048 ?_
    have hnb := hI.at (M.1 0 8) 0 (rq_0 hC.1)
    have hVn : Vn (M.1 (M.1 0 8) 0) M := hC.2.2.2.2.2.1 _ (hI.at 26 1 ro_26_1).1 hC.2.2.2.2.1
    refine j_callVI hX lk_L_153 (cv_X10_glimpse _ _ _ _ _ (M.1 0 8) (M.1 (M.1 0 8) 0) _ _ _ _ (by omega) hI (by omega) (by omega) (by omega) hC.1 rfl rfl hnb (by omega) hn0) (by omega) hce rfl rfl (by omega) (by omega) (by decide +kernel : kd 0 = .inl 10) rfl rfl (Nat.le_of_ble_eq_true rfl) dL_law_1049 (fun y10 M11 hz12 hp13 => ?_)
    obtain ⟨hI14, hF15, hq16⟩ := hp13
    have hq5 := hC.1
    have hu17 : ∀ a b, 210 ≤ a → M11.1 a b = M.1 a b := fun a b h => hF15 a b (by omega)
    have hR18 : RI M11 := RI_c hR hu17
    have hFM19 : FM M11 := FM_c hFM hu17
    refine j_aload_n hX dL_law_1052 rfl 2 rfl ?_
    refine j_aload_r hX dL_law_1053 rfl 0 rfl ?_
    refine j_iload_n hX dL_law_1054 rfl 3 rfl ?_
    refine j_iconst hX dL_law_1055 ?_
    refine j_iadd hX dL_law_1056 ?_
    refine j_sld hX hSX (by omega) (by omega) hn dL_law_1057 (fun z20 he22 hz21 => ?_)
    have hr23 : z20 = z1 := he22.trans he3.symm
    refine j_aload_r hX dL_law_1058 rfl 0 rfl ?_
    refine j_iload_n hX dL_law_1059 rfl 3 rfl ?_
    refine j_iconst hX dL_law_1060 ?_
    refine j_iadd hX dL_law_1061 ?_
    refine j_sld hX hSX (by omega) (by omega) hn dL_law_1062 (fun z24 he26 hz25 => ?_)
    have hr27 : z24 = z4 := he26.trans he6.symm
    refine j_aload_r hX dL_law_1063 rfl 0 rfl ?_
    refine j_iload_n hX dL_law_1064 rfl 3 rfl ?_
    refine j_iconst hX dL_law_1065 ?_
    refine j_iadd hX dL_law_1066 ?_
    refine j_sld hX hSX (by omega) (by omega) hn dL_law_1067 (fun z28 he30 hz29 => ?_)
    have hr31 : z28 = z7 := he30.trans he9.symm
    refine j_if_eq (tgt := 1075) hX dL_law_1068 (by decide) (by omega) (fun _ => ?_) (fun _ => ?_)
    · skip
      refine j_iconst hX dL_law_1075 ?_
      have hR0 := hR18 _ rfl
      have hm0 : M11.1 213 (M11.1 210 40) = 0 := by rw [hFM19.1.1]; exact hFM19.1.2.1
      refine j_callVI hX lk_L_157 (cv_X11_glimpse _ _ _ _ _ (M11.1 210 40) (M11.1 213 (M11.1 210 40)) _ _ _ _ (by omega) hI14 (by omega) (by omega) (by omega) rfl rfl hm0) (by omega) hce rfl rfl (by omega) (by omega) (by decide +kernel : kd 210 = .inl 11) rfl rfl (Nat.le_of_ble_eq_true rfl) dL_law_1076 (fun y32 M33 hz34 hp35 => ?_)
      obtain ⟨hI36, hF37, hq38⟩ := hp35
      have hzz : y10 = y32 := by omega
      refine j_icmp_eq (tgt := 1288) hX dL_law_1079 (by decide) (by omega) (by omega) (fun _ => ?_) (fun h => absurd hzz h)
      exact htail _
    · skip
      refine j_iconst hX dL_law_1071 ?_
      refine j_goto (tgt := 1076) hX dL_law_1072 (by decide) ?_
      have hR0 := hR18 _ rfl
      have hm0 : M11.1 213 (M11.1 210 40) = 0 := by rw [hFM19.1.1]; exact hFM19.1.2.1
      refine j_callVI hX lk_L_157 (cv_X11_glimpse _ _ _ _ _ (M11.1 210 40) (M11.1 213 (M11.1 210 40)) _ _ _ _ (by omega) hI14 (by omega) (by omega) (by omega) rfl rfl hm0) (by omega) hce rfl rfl (by omega) (by omega) (by decide +kernel : kd 210 = .inl 11) rfl rfl (Nat.le_of_ble_eq_true rfl) dL_law_1076 (fun y39 M40 hz41 hp42 => ?_)
      obtain ⟨hI43, hF44, hq45⟩ := hp42
      have hzz : y10 = y39 := by omega
      refine j_icmp_eq (tgt := 1288) hX dL_law_1079 (by decide) (by omega) (by omega) (fun _ => ?_) (fun h => absurd hzz h)
      exact htail _
  · skip
    refine j_iconst hX dL_law_1044 ?_
    refine j_goto (tgt := 1049) hX dL_law_1045 (by decide) ?_
    have hnb := hI.at (M.1 0 8) 0 (rq_0 hC.1)
    have hVn : Vn (M.1 (M.1 0 8) 0) M := hC.2.2.2.2.2.1 _ (hI.at 26 1 ro_26_1).1 hC.2.2.2.2.1
    refine j_callVI hX lk_L_153 (cv_X10_glimpse _ _ _ _ _ (M.1 0 8) (M.1 (M.1 0 8) 0) _ _ _ _ (by omega) hI (by omega) (by omega) (by omega) hC.1 rfl rfl hnb (by omega) hn0) (by omega) hce rfl rfl (by omega) (by omega) (by decide +kernel : kd 0 = .inl 10) rfl rfl (Nat.le_of_ble_eq_true rfl) dL_law_1049 (fun y46 M47 hz48 hp49 => ?_)
    obtain ⟨hI50, hF51, hq52⟩ := hp49
    have hq5 := hC.1
    have hu53 : ∀ a b, 210 ≤ a → M47.1 a b = M.1 a b := fun a b h => hF51 a b (by omega)
    have hR54 : RI M47 := RI_c hR hu53
    have hFM55 : FM M47 := FM_c hFM hu53
    refine j_aload_n hX dL_law_1052 rfl 2 rfl ?_
    refine j_aload_r hX dL_law_1053 rfl 0 rfl ?_
    refine j_iload_n hX dL_law_1054 rfl 3 rfl ?_
    refine j_iconst hX dL_law_1055 ?_
    refine j_iadd hX dL_law_1056 ?_
    refine j_sld hX hSX (by omega) (by omega) hn dL_law_1057 (fun z56 he58 hz57 => ?_)
    have hr59 : z56 = z1 := he58.trans he3.symm
    refine j_aload_r hX dL_law_1058 rfl 0 rfl ?_
    refine j_iload_n hX dL_law_1059 rfl 3 rfl ?_
    refine j_iconst hX dL_law_1060 ?_
    refine j_iadd hX dL_law_1061 ?_
    refine j_sld hX hSX (by omega) (by omega) hn dL_law_1062 (fun z60 he62 hz61 => ?_)
    have hr63 : z60 = z4 := he62.trans he6.symm
    refine j_aload_r hX dL_law_1063 rfl 0 rfl ?_
    refine j_iload_n hX dL_law_1064 rfl 3 rfl ?_
    refine j_iconst hX dL_law_1065 ?_
    refine j_iadd hX dL_law_1066 ?_
    refine j_sld hX hSX (by omega) (by omega) hn dL_law_1067 (fun z64 he66 hz65 => ?_)
    have hr67 : z64 = z7 := he66.trans he9.symm
    refine j_if_eq (tgt := 1075) hX dL_law_1068 (by decide) (by omega) (fun _ => ?_) (fun _ => ?_)
    · skip
      refine j_iconst hX dL_law_1075 ?_
      have hR0 := hR54 _ rfl
      have hm0 : M47.1 213 (M47.1 210 40) = 0 := by rw [hFM55.1.1]; exact hFM55.1.2.1
      refine j_callVI hX lk_L_157 (cv_X11_glimpse _ _ _ _ _ (M47.1 210 40) (M47.1 213 (M47.1 210 40)) _ _ _ _ (by omega) hI50 (by omega) (by omega) (by omega) rfl rfl hm0) (by omega) hce rfl rfl (by omega) (by omega) (by decide +kernel : kd 210 = .inl 11) rfl rfl (Nat.le_of_ble_eq_true rfl) dL_law_1076 (fun y68 M69 hz70 hp71 => ?_)
      obtain ⟨hI72, hF73, hq74⟩ := hp71
      have hzz : y46 = y68 := by omega
      refine j_icmp_eq (tgt := 1288) hX dL_law_1079 (by decide) (by omega) (by omega) (fun _ => ?_) (fun h => absurd hzz h)
      exact htail _
    · skip
      refine j_iconst hX dL_law_1071 ?_
      refine j_goto (tgt := 1076) hX dL_law_1072 (by decide) ?_
      have hR0 := hR54 _ rfl
      have hm0 : M47.1 213 (M47.1 210 40) = 0 := by rw [hFM55.1.1]; exact hFM55.1.2.1
      refine j_callVI hX lk_L_157 (cv_X11_glimpse _ _ _ _ _ (M47.1 210 40) (M47.1 213 (M47.1 210 40)) _ _ _ _ (by omega) hI50 (by omega) (by omega) (by omega) rfl rfl hm0) (by omega) hce rfl rfl (by omega) (by omega) (by decide +kernel : kd 210 = .inl 11) rfl rfl (Nat.le_of_ble_eq_true rfl) dL_law_1076 (fun y75 M76 hz77 hp78 => ?_)
      obtain ⟨hI79, hF80, hq81⟩ := hp78
      have hzz : y46 = y75 := by omega
      refine j_icmp_eq (tgt := 1288) hX dL_law_1079 (by decide) (by omega) (by omega) (fun _ => ?_) (fun h => absurd hzz h)
      exact htail _
set_option maxHeartbeats 2000000 in
set_option maxRecDepth 20000 in
theorem law_c34 {X : CT} {B b n ce sl : Nat} {ss : Nat → Int32} (hX : Cx X B 100 cL_law RL) (hSX : SX X B b n ss) (hn : (n : Int) ≤ 3072) {i : Int} (hi0 : 0 ≤ i) (hi1 : i + 6 ≤ (n : Int)) (hce : ce + 0 ≤ (xR X).cells ∧ sl + 0 ≤ (xR X).slots) (M : MM) (hI : Iv M) (hC : CIv M) (hR : RI M) (hFC : FC M) (hFM : FM M) (htail : ∀ M', J X B 257 ce sl 1288 [(0, .ref b), (1, rv B 0), (2, rv B 210), (3, iv i)] [] M') : J X B 257 ce sl 1084 [(0, .ref b), (1, rv B 0), (2, rv B 210), (3, iv i)] [] M := by
  have hn0 : M.1 (M.1 0 8) 0 = 0 := by rw [hFC.1.1]; exact hFC.2.1.1
  refine j_aload_n hX dL_law_1084 rfl 1 rfl ?_
  refine j_aload_r hX dL_law_1085 rfl 0 rfl ?_
  refine j_iload_n hX dL_law_1086 rfl 3 rfl ?_
  refine j_iconst hX dL_law_1087 ?_
  refine j_iadd hX dL_law_1088 ?_
  refine j_sld hX hSX (by omega) (by omega) hn dL_law_1089 (fun z1 he3 hz2 => ?_)
  have hnb := hI.at (M.1 0 8) 0 (rq_0 hC.1)
  have hVn : Vn (M.1 (M.1 0 8) 0) M := hC.2.2.2.2.2.1 _ (hI.at 26 1 ro_26_1).1 hC.2.2.2.2.1
  refine j_callVI hX lk_L_158 (cv_X10_untell _ _ _ _ _ 0 _ _ (by omega) hI (by omega) hFC.2.2.2.1.2.2.2 (by decide)) (by omega) hce rfl rfl (by omega) (by omega) (by decide +kernel : kd 0 = .inl 10) rfl rfl (Nat.le_of_ble_eq_true rfl) dL_law_1090 (fun y4 M5 hz6 hp7 => ?_)
  obtain ⟨hI8, hF9, hq10, hq11⟩ := hp7
  have hq5 := hC.1
  have hu12 : ∀ a b, 210 ≤ a → M5.1 a b = M.1 a b := fun a b h => hF9 a b (by omega)
  have hR13 : RI M5 := RI_c hR hu12
  have hFM14 : FM M5 := FM_c hFM hu12
  refine j_aload_n hX dL_law_1093 rfl 2 rfl ?_
  refine j_aload_r hX dL_law_1094 rfl 0 rfl ?_
  refine j_iload_n hX dL_law_1095 rfl 3 rfl ?_
  refine j_iconst hX dL_law_1096 ?_
  refine j_iadd hX dL_law_1097 ?_
  refine j_sld hX hSX (by omega) (by omega) hn dL_law_1098 (fun z15 he17 hz16 => ?_)
  have hr18 : z15 = z1 := he17.trans he3.symm
  have hR0 := hR13 _ rfl
  have hm0 : M5.1 213 (M5.1 210 40) = 0 := by rw [hFM14.1.1]; exact hFM14.1.2.1
  refine j_callVI hX lk_L_161 (cv_X11_untell _ _ _ _ _ 0 _ _ (by omega) hI8 (by omega) hFM14.2.2.2.1.2.2.1 (by decide)) (by omega) hce rfl rfl (by omega) (by omega) (by decide +kernel : kd 210 = .inl 11) rfl rfl (Nat.le_of_ble_eq_true rfl) dL_law_1099 (fun y19 M20 hz21 hp22 => ?_)
  obtain ⟨hI23, hF24, hq25, hq26⟩ := hp22
  have hzz : y4 = y19 := by omega
  refine j_icmp_eq (tgt := 1288) hX dL_law_1102 (by decide) (by omega) (by omega) (fun _ => ?_) (fun h => absurd hzz h)
  exact htail _
set_option maxHeartbeats 2000000 in
set_option maxRecDepth 20000 in
theorem law_c35 {X : CT} {B b n ce sl : Nat} {ss : Nat → Int32} (hX : Cx X B 100 cL_law RL) (hSX : SX X B b n ss) (hn : (n : Int) ≤ 3072) {i : Int} (hi0 : 0 ≤ i) (hi1 : i + 6 ≤ (n : Int)) (hce : ce + 0 ≤ (xR X).cells ∧ sl + 0 ≤ (xR X).slots) (M : MM) (hI : Iv M) (hC : CIv M) (hR : RI M) (hFC : FC M) (hFM : FM M) (htail : ∀ M', J X B 257 ce sl 1288 [(0, .ref b), (1, rv B 0), (2, rv B 210), (3, iv i)] [] M') : J X B 257 ce sl 1107 [(0, .ref b), (1, rv B 0), (2, rv B 210), (3, iv i)] [] M := by
  have hn0 : M.1 (M.1 0 8) 0 = 0 := by rw [hFC.1.1]; exact hFC.2.1.1
  refine j_aload_n hX dL_law_1107 rfl 1 rfl ?_
  refine j_aload_r hX dL_law_1108 rfl 0 rfl ?_
  refine j_iload_n hX dL_law_1109 rfl 3 rfl ?_
  refine j_iconst hX dL_law_1110 ?_
  refine j_iadd hX dL_law_1111 ?_
  refine j_sld hX hSX (by omega) (by omega) hn dL_law_1112 (fun z1 he3 hz2 => ?_)
  have hnb := hI.at (M.1 0 8) 0 (rq_0 hC.1)
  have hVn : Vn (M.1 (M.1 0 8) 0) M := hC.2.2.2.2.2.1 _ (hI.at 26 1 ro_26_1).1 hC.2.2.2.2.1
  refine j_callVI hX lk_L_162 (c_X10_later _ _ _ _ _ _ _ (by omega) hI (by omega)) (by omega) hce rfl rfl (by omega) (by omega) (by decide +kernel : kd 0 = .inl 10) rfl rfl (Nat.le_of_ble_eq_true rfl) dL_law_1113 (fun y4 M5 hz6 hp7 => ?_)
  obtain ⟨hI8, hF9, hq10⟩ := hp7
  have hq5 := hC.1
  have hu11 : ∀ a b, 210 ≤ a → M5.1 a b = M.1 a b := fun a b h => hF9 a b (by omega)
  have hR12 : RI M5 := RI_c hR hu11
  have hFM13 : FM M5 := FM_c hFM hu11
  have hl64 := hu11 210 64 (by omega)
  refine j_aload_n hX dL_law_1116 rfl 2 rfl ?_
  refine j_aload_r hX dL_law_1117 rfl 0 rfl ?_
  refine j_iload_n hX dL_law_1118 rfl 3 rfl ?_
  refine j_iconst hX dL_law_1119 ?_
  refine j_iadd hX dL_law_1120 ?_
  refine j_sld hX hSX (by omega) (by omega) hn dL_law_1121 (fun z14 he16 hz15 => ?_)
  have hr17 : z14 = z1 := he16.trans he3.symm
  have hR0 := hR12 _ rfl
  have hm0 : M5.1 213 (M5.1 210 40) = 0 := by rw [hFM13.1.1]; exact hFM13.1.2.1
  refine j_callVI hX lk_L_165 (c_X11_later _ _ _ _ _ _ _ (by omega) hI8 (by omega)) (by omega) hce rfl rfl (by omega) (by omega) (by decide +kernel : kd 210 = .inl 11) rfl rfl (Nat.le_of_ble_eq_true rfl) dL_law_1122 (fun y18 M19 hz20 hp21 => ?_)
  obtain ⟨hI22, hF23, hq24⟩ := hp21
  have hlt := hFM13.2.2.2.1.2.2.2.2
  have hlc := hFC.1.2.2.2
  have hzz : y4 = y18 := by omega
  refine j_icmp_eq (tgt := 1288) hX dL_law_1125 (by decide) (by omega) (by omega) (fun _ => ?_) (fun h => absurd hzz h)
  exact htail _
set_option maxHeartbeats 2000000 in
set_option maxRecDepth 20000 in
theorem law_c36 {X : CT} {B b n ce sl : Nat} {ss : Nat → Int32} (hX : Cx X B 100 cL_law RL) (hSX : SX X B b n ss) (hn : (n : Int) ≤ 3072) {i : Int} (hi0 : 0 ≤ i) (hi1 : i + 6 ≤ (n : Int)) (hce : ce + 0 ≤ (xR X).cells ∧ sl + 0 ≤ (xR X).slots) (M : MM) (hI : Iv M) (hC : CIv M) (hR : RI M) (hFC : FC M) (hFM : FM M) (htail : ∀ M', J X B 257 ce sl 1288 [(0, .ref b), (1, rv B 0), (2, rv B 210), (3, iv i)] [] M') : J X B 257 ce sl 1130 [(0, .ref b), (1, rv B 0), (2, rv B 210), (3, iv i)] [] M := by
  have hn0 : M.1 (M.1 0 8) 0 = 0 := by rw [hFC.1.1]; exact hFC.2.1.1
  refine j_aload_n hX dL_law_1130 rfl 1 rfl ?_
  refine j_aload_r hX dL_law_1131 rfl 0 rfl ?_
  refine j_iload_n hX dL_law_1132 rfl 3 rfl ?_
  refine j_iconst hX dL_law_1133 ?_
  refine j_iadd hX dL_law_1134 ?_
  refine j_sld hX hSX (by omega) (by omega) hn dL_law_1135 (fun z1 he3 hz2 => ?_)
  have hnb := hI.at (M.1 0 8) 0 (rq_0 hC.1)
  have hVn : Vn (M.1 (M.1 0 8) 0) M := hC.2.2.2.2.2.1 _ (hI.at 26 1 ro_26_1).1 hC.2.2.2.2.1
  refine j_callVI hX lk_L_166 (cv_X10_lots _ _ _ _ _ (M.1 0 8) (M.1 (M.1 0 8) 0) _ _ (by omega) hI (by omega) hC.1 rfl rfl hn0) (by omega) hce rfl rfl (by omega) (by omega) (by decide +kernel : kd 0 = .inl 10) rfl rfl (Nat.le_of_ble_eq_true rfl) dL_law_1136 (fun y4 M5 hz6 hp7 => ?_)
  obtain ⟨hI8, hF9, hq10⟩ := hp7
  have hq5 := hC.1
  have hu11 : ∀ a b, 210 ≤ a → M5.1 a b = M.1 a b := fun a b h => hF9 a b (by omega)
  have hR12 : RI M5 := RI_c hR hu11
  have hFM13 : FM M5 := FM_c hFM hu11
  refine j_aload_n hX dL_law_1139 rfl 2 rfl ?_
  refine j_aload_r hX dL_law_1140 rfl 0 rfl ?_
  refine j_iload_n hX dL_law_1141 rfl 3 rfl ?_
  refine j_iconst hX dL_law_1142 ?_
  refine j_iadd hX dL_law_1143 ?_
  refine j_sld hX hSX (by omega) (by omega) hn dL_law_1144 (fun z14 he16 hz15 => ?_)
  have hr17 : z14 = z1 := he16.trans he3.symm
  have hR0 := hR12 _ rfl
  have hm0 : M5.1 213 (M5.1 210 40) = 0 := by rw [hFM13.1.1]; exact hFM13.1.2.1
  refine j_callVI hX lk_L_169 (cv_X11_lots _ _ _ _ _ (M5.1 210 40) (M5.1 213 (M5.1 210 40)) 0 _ _ (by omega) hI8 (by omega) rfl rfl hFM13.2.2.2.1.2.2.1 hm0 (by decide)) (by omega) hce rfl rfl (by omega) (by omega) (by decide +kernel : kd 210 = .inl 11) rfl rfl (Nat.le_of_ble_eq_true rfl) dL_law_1145 (fun y18 M19 hz20 hp21 => ?_)
  obtain ⟨hI22, hF23, hq24⟩ := hp21
  have hzz : y4 = y18 := by omega
  refine j_icmp_eq (tgt := 1288) hX dL_law_1148 (by decide) (by omega) (by omega) (fun _ => ?_) (fun h => absurd hzz h)
  exact htail _
set_option maxHeartbeats 2000000 in
set_option maxRecDepth 20000 in
theorem law_c37 {X : CT} {B b n ce sl : Nat} {ss : Nat → Int32} (hX : Cx X B 100 cL_law RL) (hSX : SX X B b n ss) (hn : (n : Int) ≤ 3072) {i : Int} (hi0 : 0 ≤ i) (hi1 : i + 6 ≤ (n : Int)) (hce : ce + 0 ≤ (xR X).cells ∧ sl + 0 ≤ (xR X).slots) (M : MM) (hI : Iv M) (hC : CIv M) (hR : RI M) (hFC : FC M) (hFM : FM M) (htail : ∀ M', J X B 257 ce sl 1288 [(0, .ref b), (1, rv B 0), (2, rv B 210), (3, iv i)] [] M') : J X B 257 ce sl 1153 [(0, .ref b), (1, rv B 0), (2, rv B 210), (3, iv i)] [] M := by
  have hn0 : M.1 (M.1 0 8) 0 = 0 := by rw [hFC.1.1]; exact hFC.2.1.1
  refine j_aload_n hX dL_law_1153 rfl 1 rfl ?_
  refine j_aload_r hX dL_law_1154 rfl 0 rfl ?_
  refine j_iload_n hX dL_law_1155 rfl 3 rfl ?_
  refine j_iconst hX dL_law_1156 ?_
  refine j_iadd hX dL_law_1157 ?_
  refine j_sld hX hSX (by omega) (by omega) hn dL_law_1158 (fun z1 he3 hz2 => ?_)
  refine j_aload_r hX dL_law_1159 rfl 0 rfl ?_
  refine j_iload_n hX dL_law_1160 rfl 3 rfl ?_
  refine j_iconst hX dL_law_1161 ?_
  refine j_iadd hX dL_law_1162 ?_
  refine j_sld hX hSX (by omega) (by omega) hn dL_law_1163 (fun z4 he6 hz5 => ?_)
  have hnb := hI.at (M.1 0 8) 0 (rq_0 hC.1)
  have hVn : Vn (M.1 (M.1 0 8) 0) M := hC.2.2.2.2.2.1 _ (hI.at 26 1 ro_26_1).1 hC.2.2.2.2.1
  refine j_callVI hX lk_L_170 (cv_X10_sure _ _ _ _ _ (M.1 0 8) (M.1 (M.1 0 8) 0) _ _ _ (by omega) hI (by omega) (by omega) hC.1 rfl rfl hnb hn0) (by omega) hce rfl rfl (by omega) (by omega) (by decide +kernel : kd 0 = .inl 10) rfl rfl (Nat.le_of_ble_eq_true rfl) dL_law_1164 (fun y7 M8 hz9 hp10 => ?_)
  obtain ⟨hI11, hF12, hq13⟩ := hp10
  have hq5 := hC.1
  have hu14 : ∀ a b, 210 ≤ a → M8.1 a b = M.1 a b := fun a b h => hF12 a b (by omega)
  have hR15 : RI M8 := RI_c hR hu14
  have hFM16 : FM M8 := FM_c hFM hu14
  refine j_aload_n hX dL_law_1167 rfl 2 rfl ?_
  refine j_aload_r hX dL_law_1168 rfl 0 rfl ?_
  refine j_iload_n hX dL_law_1169 rfl 3 rfl ?_
  refine j_iconst hX dL_law_1170 ?_
  refine j_iadd hX dL_law_1171 ?_
  refine j_sld hX hSX (by omega) (by omega) hn dL_law_1172 (fun z17 he19 hz18 => ?_)
  have hr20 : z17 = z1 := he19.trans he3.symm
  refine j_aload_r hX dL_law_1173 rfl 0 rfl ?_
  refine j_iload_n hX dL_law_1174 rfl 3 rfl ?_
  refine j_iconst hX dL_law_1175 ?_
  refine j_iadd hX dL_law_1176 ?_
  refine j_sld hX hSX (by omega) (by omega) hn dL_law_1177 (fun z21 he23 hz22 => ?_)
  have hr24 : z21 = z4 := he23.trans he6.symm
  have hR0 := hR15 _ rfl
  have hm0 : M8.1 213 (M8.1 210 40) = 0 := by rw [hFM16.1.1]; exact hFM16.1.2.1
  refine j_callVI hX lk_L_173 (cv_X11_sure _ _ _ _ _ (M8.1 210 40) (M8.1 213 (M8.1 210 40)) _ _ _ (by omega) hI11 (by omega) (by omega) rfl rfl hm0) (by omega) hce rfl rfl (by omega) (by omega) (by decide +kernel : kd 210 = .inl 11) rfl rfl (Nat.le_of_ble_eq_true rfl) dL_law_1178 (fun y25 M26 hz27 hp28 => ?_)
  obtain ⟨hI29, hF30, hq31⟩ := hp28
  have hzz : y7 = y25 := by omega
  refine j_icmp_eq (tgt := 1288) hX dL_law_1181 (by decide) (by omega) (by omega) (fun _ => ?_) (fun h => absurd hzz h)
  exact htail _
set_option maxHeartbeats 2000000 in
set_option maxRecDepth 20000 in
theorem law_c38 {X : CT} {B b n ce sl : Nat} {ss : Nat → Int32} (hX : Cx X B 100 cL_law RL) (hSX : SX X B b n ss) (hn : (n : Int) ≤ 3072) {i : Int} (hi0 : 0 ≤ i) (hi1 : i + 6 ≤ (n : Int)) (hce : ce + 0 ≤ (xR X).cells ∧ sl + 0 ≤ (xR X).slots) (M : MM) (hI : Iv M) (hC : CIv M) (hR : RI M) (hFC : FC M) (hFM : FM M) (htail : ∀ M', J X B 257 ce sl 1288 [(0, .ref b), (1, rv B 0), (2, rv B 210), (3, iv i)] [] M') : J X B 257 ce sl 1186 [(0, .ref b), (1, rv B 0), (2, rv B 210), (3, iv i)] [] M := by
  have hn0 : M.1 (M.1 0 8) 0 = 0 := by rw [hFC.1.1]; exact hFC.2.1.1
  refine j_aload_n hX dL_law_1186 rfl 1 rfl ?_
  refine j_aload_r hX dL_law_1187 rfl 0 rfl ?_
  refine j_iload_n hX dL_law_1188 rfl 3 rfl ?_
  refine j_iconst hX dL_law_1189 ?_
  refine j_iadd hX dL_law_1190 ?_
  refine j_sld hX hSX (by omega) (by omega) hn dL_law_1191 (fun z1 he3 hz2 => ?_)
  refine j_aload_r hX dL_law_1192 rfl 0 rfl ?_
  refine j_iload_n hX dL_law_1193 rfl 3 rfl ?_
  refine j_iconst hX dL_law_1194 ?_
  refine j_iadd hX dL_law_1195 ?_
  refine j_sld hX hSX (by omega) (by omega) hn dL_law_1196 (fun z4 he6 hz5 => ?_)
  have hnb := hI.at (M.1 0 8) 0 (rq_0 hC.1)
  have hVn : Vn (M.1 (M.1 0 8) 0) M := hC.2.2.2.2.2.1 _ (hI.at 26 1 ro_26_1).1 hC.2.2.2.2.1
  refine j_callVI hX lk_L_174 (cv_X10_ask _ _ _ _ _ (M.1 0 8) (M.1 (M.1 0 8) 0) _ _ _ (by omega) hI (by omega) (by omega) hC.1 rfl rfl hnb hn0) (by omega) hce rfl rfl (by omega) (by omega) (by decide +kernel : kd 0 = .inl 10) rfl rfl (Nat.le_of_ble_eq_true rfl) dL_law_1197 (fun y7 M8 hz9 hp10 => ?_)
  obtain ⟨hI11, hF12, hq13⟩ := hp10
  have hq5 := hC.1
  have hu14 : ∀ a b, 210 ≤ a → M8.1 a b = M.1 a b := fun a b h => hF12 a b (by omega)
  have hR15 : RI M8 := RI_c hR hu14
  have hFM16 : FM M8 := FM_c hFM hu14
  refine j_aload_n hX dL_law_1200 rfl 2 rfl ?_
  refine j_aload_r hX dL_law_1201 rfl 0 rfl ?_
  refine j_iload_n hX dL_law_1202 rfl 3 rfl ?_
  refine j_iconst hX dL_law_1203 ?_
  refine j_iadd hX dL_law_1204 ?_
  refine j_sld hX hSX (by omega) (by omega) hn dL_law_1205 (fun z17 he19 hz18 => ?_)
  have hr20 : z17 = z1 := he19.trans he3.symm
  refine j_aload_r hX dL_law_1206 rfl 0 rfl ?_
  refine j_iload_n hX dL_law_1207 rfl 3 rfl ?_
  refine j_iconst hX dL_law_1208 ?_
  refine j_iadd hX dL_law_1209 ?_
  refine j_sld hX hSX (by omega) (by omega) hn dL_law_1210 (fun z21 he23 hz22 => ?_)
  have hr24 : z21 = z4 := he23.trans he6.symm
  have hR0 := hR15 _ rfl
  have hm0 : M8.1 213 (M8.1 210 40) = 0 := by rw [hFM16.1.1]; exact hFM16.1.2.1
  refine j_callVI hX lk_L_177 (cv_X11_ask _ _ _ _ _ (M8.1 210 40) (M8.1 213 (M8.1 210 40)) 0 _ _ _ (by omega) hI11 (by omega) (by omega) rfl rfl hFM16.2.2.2.1.2.2.1 hm0 (by decide)) (by omega) hce rfl rfl (by omega) (by omega) (by decide +kernel : kd 210 = .inl 11) rfl rfl (Nat.le_of_ble_eq_true rfl) dL_law_1211 (fun y25 M26 hz27 hp28 => ?_)
  obtain ⟨hI29, hF30, hq31⟩ := hp28
  have hzz : y7 = y25 := by omega
  refine j_icmp_eq (tgt := 1288) hX dL_law_1214 (by decide) (by omega) (by omega) (fun _ => ?_) (fun h => absurd hzz h)
  exact htail _
set_option maxHeartbeats 2000000 in
set_option maxRecDepth 20000 in
theorem law_c39 {X : CT} {B b n ce sl : Nat} {ss : Nat → Int32} (hX : Cx X B 100 cL_law RL) (hSX : SX X B b n ss) (hn : (n : Int) ≤ 3072) {i : Int} (hi0 : 0 ≤ i) (hi1 : i + 6 ≤ (n : Int)) (hce : ce + 0 ≤ (xR X).cells ∧ sl + 0 ≤ (xR X).slots) (M : MM) (hI : Iv M) (hC : CIv M) (hR : RI M) (hFC : FC M) (hFM : FM M) (htail : ∀ M', J X B 257 ce sl 1288 [(0, .ref b), (1, rv B 0), (2, rv B 210), (3, iv i)] [] M') : J X B 257 ce sl 1219 [(0, .ref b), (1, rv B 0), (2, rv B 210), (3, iv i)] [] M := by
  have hn0 : M.1 (M.1 0 8) 0 = 0 := by rw [hFC.1.1]; exact hFC.2.1.1
  refine j_aload_n hX dL_law_1219 rfl 1 rfl ?_
  refine j_aload_r hX dL_law_1220 rfl 0 rfl ?_
  refine j_iload_n hX dL_law_1221 rfl 3 rfl ?_
  refine j_iconst hX dL_law_1222 ?_
  refine j_iadd hX dL_law_1223 ?_
  refine j_sld hX hSX (by omega) (by omega) hn dL_law_1224 (fun z1 he3 hz2 => ?_)
  have hnb := hI.at (M.1 0 8) 0 (rq_0 hC.1)
  have hVn : Vn (M.1 (M.1 0 8) 0) M := hC.2.2.2.2.2.1 _ (hI.at 26 1 ro_26_1).1 hC.2.2.2.2.1
  refine j_callVI hX lk_L_178 (cv_X10_image _ _ _ _ _ (M.1 0 8) (M.1 (M.1 0 8) 0) _ _ (by omega) hI (by omega) hC.1 rfl rfl hVn hnb hC.2.2.2.2.2.2 (by rw [hFC.2.2.2.1.1]; exact hFC.2.2.2.1.2.2.1) hFC.2.2.2.2.2.1 hFC.2.2.2.2.1.2.1) (by omega) hce rfl rfl (by omega) (by omega) (by decide +kernel : kd 0 = .inl 10) rfl rfl (Nat.le_of_ble_eq_true rfl) dL_law_1225 (fun y4 M5 hz6 hp7 => ?_)
  obtain ⟨hI8, hF9, hq10, hq11⟩ := hp7
  have hq5 := hC.1
  have hu12 : ∀ a b, 210 ≤ a → M5.1 a b = M.1 a b := fun a b h => hF9 a b (by omega)
  have hR13 : RI M5 := RI_c hR hu12
  have hFM14 : FM M5 := FM_c hFM hu12
  refine j_aload_n hX dL_law_1228 rfl 2 rfl ?_
  refine j_aload_r hX dL_law_1229 rfl 0 rfl ?_
  refine j_iload_n hX dL_law_1230 rfl 3 rfl ?_
  refine j_iconst hX dL_law_1231 ?_
  refine j_iadd hX dL_law_1232 ?_
  refine j_sld hX hSX (by omega) (by omega) hn dL_law_1233 (fun z15 he17 hz16 => ?_)
  have hr18 : z15 = z1 := he17.trans he3.symm
  have hR0 := hR13 _ rfl
  have hm0 : M5.1 213 (M5.1 210 40) = 0 := by rw [hFM14.1.1]; exact hFM14.1.2.1
  refine j_callVI hX lk_L_181 (cv_X11_image _ _ _ _ _ (M5.1 210 40) (M5.1 213 (M5.1 210 40)) 0 _ _ (by omega) hI8 (by omega) rfl rfl hFM14.2.2.1.2.1 hR0.2.1.1 hR0.2.2.1 hm0 (by decide)) (by omega) hce rfl rfl (by omega) (by omega) (by decide +kernel : kd 210 = .inl 11) rfl rfl (Nat.le_of_ble_eq_true rfl) dL_law_1234 (fun y19 M20 hz21 hp22 => ?_)
  obtain ⟨hI23, hF24, hq25, hq26⟩ := hp22
  have hzz : y4 = y19 := by omega
  refine j_icmp_eq (tgt := 1288) hX dL_law_1237 (by decide) (by omega) (by omega) (fun _ => ?_) (fun h => absurd hzz h)
  exact htail _
set_option maxHeartbeats 2000000 in
set_option maxRecDepth 20000 in
theorem law_c40 {X : CT} {B b n ce sl : Nat} {ss : Nat → Int32} (hX : Cx X B 100 cL_law RL) (hSX : SX X B b n ss) (hn : (n : Int) ≤ 3072) {i : Int} (hi0 : 0 ≤ i) (hi1 : i + 6 ≤ (n : Int)) (hce : ce + 0 ≤ (xR X).cells ∧ sl + 0 ≤ (xR X).slots) (M : MM) (hI : Iv M) (hC : CIv M) (hR : RI M) (hFC : FC M) (hFM : FM M) (htail : ∀ M', J X B 257 ce sl 1288 [(0, .ref b), (1, rv B 0), (2, rv B 210), (3, iv i)] [] M') : J X B 257 ce sl 1242 [(0, .ref b), (1, rv B 0), (2, rv B 210), (3, iv i)] [] M := by
  have hn0 : M.1 (M.1 0 8) 0 = 0 := by rw [hFC.1.1]; exact hFC.2.1.1
  refine j_aload_n hX dL_law_1242 rfl 1 rfl ?_
  refine j_aload_r hX dL_law_1243 rfl 0 rfl ?_
  refine j_iload_n hX dL_law_1244 rfl 3 rfl ?_
  refine j_iconst hX dL_law_1245 ?_
  refine j_iadd hX dL_law_1246 ?_
  refine j_sld hX hSX (by omega) (by omega) hn dL_law_1247 (fun z1 he3 hz2 => ?_)
  have hnb := hI.at (M.1 0 8) 0 (rq_0 hC.1)
  have hVn : Vn (M.1 (M.1 0 8) 0) M := hC.2.2.2.2.2.1 _ (hI.at 26 1 ro_26_1).1 hC.2.2.2.2.1
  refine j_callVI hX lk_L_182 (cv_X10_back _ _ _ _ _ (M.1 0 8) (M.1 (M.1 0 8) 0) 0 _ _ (by omega) hI (by omega) hC.1 rfl rfl hFC.1.2.1 hnb hC.2.2.2.2.2.1 hC.2.2.2.2.1 hC.2.2.2.2.2.2 (by decide)) (by omega) hce rfl rfl (by omega) (by omega) (by decide +kernel : kd 0 = .inl 10) rfl rfl (Nat.le_of_ble_eq_true rfl) dL_law_1248 (fun y4 M5 hz6 hp7 => ?_)
  obtain ⟨hI8, hF9, hq10, hq11, hq12⟩ := hp7
  have hq5 := hC.1
  have hu13 : ∀ a b, 210 ≤ a → M5.1 a b = M.1 a b := fun a b h => hF9 a b (by omega)
  have hR14 : RI M5 := RI_c hR hu13
  have hFM15 : FM M5 := FM_c hFM hu13
  refine j_aload_n hX dL_law_1251 rfl 2 rfl ?_
  refine j_aload_r hX dL_law_1252 rfl 0 rfl ?_
  refine j_iload_n hX dL_law_1253 rfl 3 rfl ?_
  refine j_iconst hX dL_law_1254 ?_
  refine j_iadd hX dL_law_1255 ?_
  refine j_sld hX hSX (by omega) (by omega) hn dL_law_1256 (fun z16 he18 hz17 => ?_)
  have hr19 : z16 = z1 := he18.trans he3.symm
  have hR0 := hR14 _ rfl
  have hm0 : M5.1 213 (M5.1 210 40) = 0 := by rw [hFM15.1.1]; exact hFM15.1.2.1
  refine j_callVI hX lk_L_185 (cv_X11_back _ _ _ _ _ (M5.1 210 40) (M5.1 213 (M5.1 210 40)) _ _ (by omega) hI8 (by omega) rfl rfl hR0.2.1 hR0.2.2.1 hFM15.2.2.2.2 hm0) (by omega) hce rfl rfl (by omega) (by omega) (by decide +kernel : kd 210 = .inl 11) rfl rfl (Nat.le_of_ble_eq_true rfl) dL_law_1257 (fun y20 M21 hz22 hp23 => ?_)
  obtain ⟨hI24, hF25, hq26, hq27⟩ := hp23
  have hzz : y4 = y20 := by omega
  refine j_icmp_eq (tgt := 1288) hX dL_law_1260 (by decide) (by omega) (by omega) (fun _ => ?_) (fun h => absurd hzz h)
  exact htail _
set_option maxHeartbeats 2000000 in
set_option maxRecDepth 20000 in
theorem law_c41 {X : CT} {B b n ce sl : Nat} {ss : Nat → Int32} (hX : Cx X B 100 cL_law RL) (hSX : SX X B b n ss) (hn : (n : Int) ≤ 3072) {i : Int} (hi0 : 0 ≤ i) (hi1 : i + 6 ≤ (n : Int)) (hce : ce + 0 ≤ (xR X).cells ∧ sl + 0 ≤ (xR X).slots) (M : MM) (hI : Iv M) (hC : CIv M) (hR : RI M) (hFC : FC M) (hFM : FM M) (htail : ∀ M', J X B 257 ce sl 1288 [(0, .ref b), (1, rv B 0), (2, rv B 210), (3, iv i)] [] M') : J X B 257 ce sl 1265 [(0, .ref b), (1, rv B 0), (2, rv B 210), (3, iv i)] [] M := by
  have hn0 : M.1 (M.1 0 8) 0 = 0 := by rw [hFC.1.1]; exact hFC.2.1.1
  refine j_aload_n hX dL_law_1265 rfl 1 rfl ?_
  refine j_aload_r hX dL_law_1266 rfl 0 rfl ?_
  refine j_iload_n hX dL_law_1267 rfl 3 rfl ?_
  refine j_iconst hX dL_law_1268 ?_
  refine j_iadd hX dL_law_1269 ?_
  refine j_sld hX hSX (by omega) (by omega) hn dL_law_1270 (fun z1 he3 hz2 => ?_)
  have hnb := hI.at (M.1 0 8) 0 (rq_0 hC.1)
  have hVn : Vn (M.1 (M.1 0 8) 0) M := hC.2.2.2.2.2.1 _ (hI.at 26 1 ro_26_1).1 hC.2.2.2.2.1
  refine j_callVI hX lk_L_186 (cv_X10_about _ _ _ _ _ (M.1 0 8) (M.1 (M.1 0 8) 0) 0 0 0 0 0 0 0 0 0 _ _ (by omega) hI (by omega) hC.1 rfl rfl (by rw [hFC.1.1]; exact hFC.2.1.2.1) (by rw [hFC.1.1]; exact hFC.2.1.2.2.1) hFC.2.2.2.1.1 hFC.2.2.2.1.2.1 hFC.2.2.2.1.2.2.2 hFC.1.2.2.2 hFC.2.2.1.2.2.2 (by rw [hFC.1.1]; exact hFC.2.1.2.2.2.2) hFC.1.2.2.1 ⟨hn0, by decide⟩ (by rw [hFC.2.2.2.1.1]; exact hFC.2.2.2.1.2.2.1) hFC.2.2.2.2.1 hFC.2.2.2.2.2.2) (by omega) hce rfl rfl (by omega) (by omega) (by decide +kernel : kd 0 = .inl 10) rfl rfl (Nat.le_of_ble_eq_true rfl) dL_law_1271 (fun y4 M5 hz6 hp7 => ?_)
  obtain ⟨hE8, hq9⟩ := hp7
  replace hE8 := hE8.symm
  subst hE8
  refine j_aload_n hX dL_law_1274 rfl 2 rfl ?_
  refine j_aload_r hX dL_law_1275 rfl 0 rfl ?_
  refine j_iload_n hX dL_law_1276 rfl 3 rfl ?_
  refine j_iconst hX dL_law_1277 ?_
  refine j_iadd hX dL_law_1278 ?_
  refine j_sld hX hSX (by omega) (by omega) hn dL_law_1279 (fun z10 he12 hz11 => ?_)
  have hr13 : z10 = z1 := he12.trans he3.symm
  have hR0 := hR _ rfl
  have hm0 : M.1 213 (M.1 210 40) = 0 := by rw [hFM.1.1]; exact hFM.1.2.1
  refine j_callVI hX lk_L_189 (cv_X11_about _ _ _ _ _ (M.1 210 40) (M.1 213 (M.1 210 40)) 0 0 0 0 0 0 0 0 0 0 0 0 _ _ (by omega) hI (by omega) rfl rfl (by rw [hFM.1.1]; exact hFM.1.2.2.1) hFM.2.2.1.1 hFM.2.2.1.2.1 hFM.2.2.1.2.2 (by rw [hFM.1.1]; exact hFM.1.2.2.2.1) hFM.2.2.2.1.1 hFM.2.2.2.1.2.1 hFM.2.2.2.1.2.2.1 hFM.2.2.2.1.2.2.2.2 hFM.2.1.1 (by rw [hFM.1.1]; exact hFM.1.2.2.2.2.1) hFM.2.2.2.1.2.2.2.1 hm0 (by decide) (by decide) (by decide) (by decide) (by decide) (by decide) (by decide) (by decide) (by decide) (by decide) (by decide) (by decide)) (by omega) hce rfl rfl (by omega) (by omega) (by decide +kernel : kd 210 = .inl 11) rfl rfl (Nat.le_of_ble_eq_true rfl) dL_law_1280 (fun y14 M15 hz16 hp17 => ?_)
  obtain ⟨hE18, hq19⟩ := hp17
  replace hE18 := hE18.symm
  subst hE18
  have hzz : y4 = y14 := by omega
  refine j_icmp_eq (tgt := 1288) hX dL_law_1283 (by decide) (by omega) (by omega) (fun _ => ?_) (fun h => absurd hzz h)
  exact htail _
