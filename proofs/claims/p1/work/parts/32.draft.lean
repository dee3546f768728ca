theorem dX7_readLine_0 : decode cX7_readLine 0 = .ok (.aload_n 0, 1) := by decide +kernel
theorem dX7_readLine_1 : decode cX7_readLine 1 = .ok (.getfield 12, 3) := by decide +kernel
theorem dX7_readLine_4 : decode cX7_readLine 4 = .ok (.getfield 44, 3) := by decide +kernel
theorem dX7_readLine_7 : decode cX7_readLine 7 = .ok (.tableswitch 143 200 213 #[69, 143, 143, 74, 79, 143, 143, 143, 84, 89, 94, 133, 143, 138], 69) := by decide +kernel
theorem dX7_readLine_76 : decode cX7_readLine 76 = .ok (.aload_n 0, 1) := by decide +kernel
theorem dX7_readLine_77 : decode cX7_readLine 77 = .ok (.invokevirtual 58, 3) := by decide +kernel
theorem dX7_readLine_80 : decode cX7_readLine 80 = .ok (.ireturn, 1) := by decide +kernel
theorem dX7_readLine_81 : decode cX7_readLine 81 = .ok (.aload_n 0, 1) := by decide +kernel
theorem dX7_readLine_82 : decode cX7_readLine 82 = .ok (.invokevirtual 61, 3) := by decide +kernel
theorem dX7_readLine_85 : decode cX7_readLine 85 = .ok (.ireturn, 1) := by decide +kernel
theorem dX7_readLine_86 : decode cX7_readLine 86 = .ok (.aload_n 0, 1) := by decide +kernel
theorem dX7_readLine_87 : decode cX7_readLine 87 = .ok (.invokevirtual 64, 3) := by decide +kernel
theorem dX7_readLine_90 : decode cX7_readLine 90 = .ok (.ireturn, 1) := by decide +kernel
theorem dX7_readLine_91 : decode cX7_readLine 91 = .ok (.aload_n 0, 1) := by decide +kernel
theorem dX7_readLine_92 : decode cX7_readLine 92 = .ok (.invokevirtual 67, 3) := by decide +kernel
theorem dX7_readLine_95 : decode cX7_readLine 95 = .ok (.ireturn, 1) := by decide +kernel
theorem dX7_readLine_96 : decode cX7_readLine 96 = .ok (.aload_n 0, 1) := by decide +kernel
theorem dX7_readLine_97 : decode cX7_readLine 97 = .ok (.invokevirtual 70, 3) := by decide +kernel
theorem dX7_readLine_100 : decode cX7_readLine 100 = .ok (.ireturn, 1) := by decide +kernel
theorem dX7_readLine_101 : decode cX7_readLine 101 = .ok (.aload_n 0, 1) := by decide +kernel
theorem dX7_readLine_102 : decode cX7_readLine 102 = .ok (.aload_n 0, 1) := by decide +kernel
theorem dX7_readLine_103 : decode cX7_readLine 103 = .ok (.getfield 21, 3) := by decide +kernel
theorem dX7_readLine_106 : decode cX7_readLine 106 = .ok (.getfield 73, 3) := by decide +kernel
theorem dX7_readLine_109 : decode cX7_readLine 109 = .ok (.getfield 77, 3) := by decide +kernel
theorem dX7_readLine_112 : decode cX7_readLine 112 = .ok (.ifCond .ne 7, 3) := by decide +kernel
theorem dX7_readLine_115 : decode cX7_readLine 115 = .ok (.iconst 1, 1) := by decide +kernel
theorem dX7_readLine_116 : decode cX7_readLine 116 = .ok (.goto 4, 3) := by decide +kernel
theorem dX7_readLine_119 : decode cX7_readLine 119 = .ok (.iconst 0, 1) := by decide +kernel
theorem dX7_readLine_120 : decode cX7_readLine 120 = .ok (.invokevirtual 82, 3) := by decide +kernel
theorem dX7_readLine_123 : decode cX7_readLine 123 = .ok (.ifCond .eq 15, 3) := by decide +kernel
theorem dX7_readLine_126 : decode cX7_readLine 126 = .ok (.aload_n 0, 1) := by decide +kernel
theorem dX7_readLine_127 : decode cX7_readLine 127 = .ok (.iconst 0, 1) := by decide +kernel
theorem dX7_readLine_128 : decode cX7_readLine 128 = .ok (.invokevirtual 86, 3) := by decide +kernel
theorem dX7_readLine_131 : decode cX7_readLine 131 = .ok (.ifCond .eq 7, 3) := by decide +kernel
theorem dX7_readLine_134 : decode cX7_readLine 134 = .ok (.iconst 1, 1) := by decide +kernel
theorem dX7_readLine_135 : decode cX7_readLine 135 = .ok (.goto 4, 3) := by decide +kernel
theorem dX7_readLine_138 : decode cX7_readLine 138 = .ok (.iconst 0, 1) := by decide +kernel
theorem dX7_readLine_139 : decode cX7_readLine 139 = .ok (.ireturn, 1) := by decide +kernel
theorem dX7_readLine_140 : decode cX7_readLine 140 = .ok (.aload_n 0, 1) := by decide +kernel
theorem dX7_readLine_141 : decode cX7_readLine 141 = .ok (.invokevirtual 89, 3) := by decide +kernel
theorem dX7_readLine_144 : decode cX7_readLine 144 = .ok (.ireturn, 1) := by decide +kernel
theorem dX7_readLine_145 : decode cX7_readLine 145 = .ok (.aload_n 0, 1) := by decide +kernel
theorem dX7_readLine_146 : decode cX7_readLine 146 = .ok (.invokevirtual 92, 3) := by decide +kernel
theorem dX7_readLine_149 : decode cX7_readLine 149 = .ok (.ireturn, 1) := by decide +kernel
theorem dX7_readLine_150 : decode cX7_readLine 150 = .ok (.aload_n 0, 1) := by decide +kernel
theorem dX7_readLine_151 : decode cX7_readLine 151 = .ok (.iconst 2, 1) := by decide +kernel
theorem dX7_readLine_152 : decode cX7_readLine 152 = .ok (.invokevirtual 95, 3) := by decide +kernel
theorem dX7_readLine_155 : decode cX7_readLine 155 = .ok (.ireturn, 1) := by decide +kernel
theorem dX7_readDraft_0 : decode cX7_readDraft 0 = .ok (.aload_n 0, 1) := by decide +kernel
theorem dX7_readDraft_1 : decode cX7_readDraft 1 = .ok (.iconst 0, 1) := by decide +kernel
theorem dX7_readDraft_2 : decode cX7_readDraft 2 = .ok (.putfield 25, 3) := by decide +kernel
theorem dX7_readDraft_5 : decode cX7_readDraft 5 = .ok (.aload_n 0, 1) := by decide +kernel
theorem dX7_readDraft_6 : decode cX7_readDraft 6 = .ok (.iconst (-1), 1) := by decide +kernel
theorem dX7_readDraft_7 : decode cX7_readDraft 7 = .ok (.putfield 29, 3) := by decide +kernel
theorem dX7_readDraft_10 : decode cX7_readDraft 10 = .ok (.aload_n 0, 1) := by decide +kernel
theorem dX7_readDraft_11 : decode cX7_readDraft 11 = .ok (.getfield 21, 3) := by decide +kernel
theorem dX7_readDraft_14 : decode cX7_readDraft 14 = .ok (.invokevirtual 35, 3) := by decide +kernel
theorem dX7_readDraft_17 : decode cX7_readDraft 17 = .ok (.aload_n 0, 1) := by decide +kernel
theorem dX7_readDraft_18 : decode cX7_readDraft 18 = .ok (.getfield 12, 3) := by decide +kernel
theorem dX7_readDraft_21 : decode cX7_readDraft 21 = .ok (.iconst 0, 1) := by decide +kernel
theorem dX7_readDraft_22 : decode cX7_readDraft 22 = .ok (.putfield 38, 3) := by decide +kernel
theorem dX7_readDraft_25 : decode cX7_readDraft 25 = .ok (.aload_n 0, 1) := by decide +kernel
theorem dX7_readDraft_26 : decode cX7_readDraft 26 = .ok (.getfield 12, 3) := by decide +kernel
theorem dX7_readDraft_29 : decode cX7_readDraft 29 = .ok (.invokevirtual 41, 3) := by decide +kernel
theorem dX7_readDraft_32 : decode cX7_readDraft 32 = .ok (.iconst 1, 1) := by decide +kernel
theorem dX7_readDraft_33 : decode cX7_readDraft 33 = .ok (.istore_n 1, 1) := by decide +kernel
theorem dX7_readDraft_34 : decode cX7_readDraft 34 = .ok (.iconst 0, 1) := by decide +kernel
theorem dX7_readDraft_35 : decode cX7_readDraft 35 = .ok (.istore_n 2, 1) := by decide +kernel
theorem dX7_readDraft_36 : decode cX7_readDraft 36 = .ok (.iload_n 2, 1) := by decide +kernel
theorem dX7_readDraft_37 : decode cX7_readDraft 37 = .ok (.sipush 1600, 3) := by decide +kernel
theorem dX7_readDraft_40 : decode cX7_readDraft 40 = .ok (.if_icmp .ge 45, 3) := by decide +kernel
theorem dX7_readDraft_43 : decode cX7_readDraft 43 = .ok (.iload_n 1, 1) := by decide +kernel
theorem dX7_readDraft_44 : decode cX7_readDraft 44 = .ok (.ifCond .eq 41, 3) := by decide +kernel
theorem dX7_readDraft_47 : decode cX7_readDraft 47 = .ok (.aload_n 0, 1) := by decide +kernel
theorem dX7_readDraft_48 : decode cX7_readDraft 48 = .ok (.getfield 12, 3) := by decide +kernel
theorem dX7_readDraft_51 : decode cX7_readDraft 51 = .ok (.getfield 44, 3) := by decide +kernel
theorem dX7_readDraft_54 : decode cX7_readDraft 54 = .ok (.ifCond .eq 31, 3) := by decide +kernel
theorem dX7_readDraft_57 : decode cX7_readDraft 57 = .ok (.aload_n 0, 1) := by decide +kernel
theorem dX7_readDraft_58 : decode cX7_readDraft 58 = .ok (.invokevirtual 47, 3) := by decide +kernel
theorem dX7_readDraft_61 : decode cX7_readDraft 61 = .ok (.ifCond .eq 16, 3) := by decide +kernel
theorem dX7_readDraft_64 : decode cX7_readDraft 64 = .ok (.aload_n 0, 1) := by decide +kernel
theorem dX7_readDraft_65 : decode cX7_readDraft 65 = .ok (.bipush 59, 2) := by decide +kernel
theorem dX7_readDraft_67 : decode cX7_readDraft 67 = .ok (.invokevirtual 51, 3) := by decide +kernel
theorem dX7_readDraft_70 : decode cX7_readDraft 70 = .ok (.ifCond .eq 7, 3) := by decide +kernel
theorem dX7_readDraft_73 : decode cX7_readDraft 73 = .ok (.iconst 1, 1) := by decide +kernel
theorem dX7_readDraft_74 : decode cX7_readDraft 74 = .ok (.goto 4, 3) := by decide +kernel
theorem dX7_readDraft_77 : decode cX7_readDraft 77 = .ok (.iconst 0, 1) := by decide +kernel
theorem dX7_readDraft_78 : decode cX7_readDraft 78 = .ok (.istore_n 1, 1) := by decide +kernel
theorem dX7_readDraft_79 : decode cX7_readDraft 79 = .ok (.iinc 2 1, 3) := by decide +kernel
theorem dX7_readDraft_82 : decode cX7_readDraft 82 = .ok (.goto (-46), 3) := by decide +kernel
theorem dX7_readDraft_85 : decode cX7_readDraft 85 = .ok (.iload_n 1, 1) := by decide +kernel
theorem dX7_readDraft_86 : decode cX7_readDraft 86 = .ok (.ifCond .eq 10, 3) := by decide +kernel
theorem dX7_readDraft_89 : decode cX7_readDraft 89 = .ok (.aload_n 0, 1) := by decide +kernel
theorem dX7_readDraft_90 : decode cX7_readDraft 90 = .ok (.getfield 21, 3) := by decide +kernel
theorem dX7_readDraft_93 : decode cX7_readDraft 93 = .ok (.invokevirtual 55, 3) := by decide +kernel
theorem dX7_readDraft_96 : decode cX7_readDraft 96 = .ok (.iload_n 1, 1) := by decide +kernel
theorem dX7_readDraft_97 : decode cX7_readDraft 97 = .ok (.ireturn, 1) := by decide +kernel
theorem dX7_exchangeDraft_0 : decode cX7_exchangeDraft 0 = .ok (.aload_n 0, 1) := by decide +kernel
theorem dX7_exchangeDraft_1 : decode cX7_exchangeDraft 1 = .ok (.getfield 21, 3) := by decide +kernel
theorem dX7_exchangeDraft_4 : decode cX7_exchangeDraft 4 = .ok (.astore_n 2, 1) := by decide +kernel
theorem dX7_exchangeDraft_5 : decode cX7_exchangeDraft 5 = .ok (.aload_n 0, 1) := by decide +kernel
theorem dX7_exchangeDraft_6 : decode cX7_exchangeDraft 6 = .ok (.aload_n 1, 1) := by decide +kernel
theorem dX7_exchangeDraft_7 : decode cX7_exchangeDraft 7 = .ok (.putfield 21, 3) := by decide +kernel
theorem dX7_exchangeDraft_10 : decode cX7_exchangeDraft 10 = .ok (.aload_n 2, 1) := by decide +kernel
theorem dX7_exchangeDraft_11 : decode cX7_exchangeDraft 11 = .ok (.areturn, 1) := by decide +kernel
set_option maxHeartbeats 2000000 in
set_option maxRecDepth 20000 in
theorem c_X7_readLine (l : Launch) (D : va_G) (cy : Nat → ClassId) (B N : Nat) (q : Int) (M : MM) (hN : 210 ≤ N) (hI : Iv M) (hq : q = 5 ∨ q = 180) (hto : M.1 1 1 = q) (hDL : DL q M) (hkn : KNo M) : CI l D cy B N 65 yX7_readLine cX7_readLine 1 (some .boolean) [rv B 1] M (fun z M' => Iv M' ∧ Fr (fun a b => (a = 1 ∧ 2 ≤ b ∧ b ≤ 4) ∨ (a = 2 ∧ 3 ≤ b ∧ b ≤ 6) ∨ (q ≤ a ∧ a ≤ q + 20)) M M' ∧ (0 ≤ z ∧ z ≤ 1) ∧ (KNo M') ∧ (z = 1 → DL q M')) := by
  refine mk_CI (by decide) (Nat.le_of_ble_eq_true rfl) ?_
  intro X exl exD excy hnL hX hret
  have hce : 0 + 0 ≤ (xR X).cells ∧ 0 + 0 ≤ (xR X).slots := ⟨Nat.zero_le _, Nat.zero_le _⟩
  have hdq : 5 ≤ q ∧ q ≤ 180 := by omega
  have hF : Fr (fun a b => (a = 1 ∧ 2 ≤ b ∧ b ≤ 4) ∨ (a = 2 ∧ 3 ≤ b ∧ b ≤ 6) ∨ (q ≤ a ∧ a ≤ q + 20)) M M := Fr.rf
  have hk1 : M.1 q 0 = M.1 q 0 := rfl
  have hq0 := hI.at q 0 (rq_0 hq)
  show J X B N 0 0 0 [(0, rv B 1)] [] M
  refine j_aload_n hX dX7_readLine_0 rfl 0 rfl ?_
  refine gf_X7_12 hX (by omega) (by omega) kc_1 (fc_1_0 hI) (by decide) dX7_readLine_1 ?_
  refine gf_X7_44 hX (by omega) (by omega) kc_2 dX7_readLine_4 ?_
  refine j_name hI ro_2_4 (fun v2 hv3 hl4 hh5 => ?_)
  have hk6 := hv3.symm
  refine j_table (tgd := 150) hX dX7_readLine_7 (by omega) (by decide) (fun hc7 => ?_) (fun hc8 hc9 => ?_)
  · skip
    refine j_aload_n hX dX7_readLine_150 rfl 0 rfl ?_
    refine j_iconst hX dX7_readLine_151 ?_
    refine j_callVI hX lk_X7_95 (c_X7_refuse _ _ _ _ _ _ _ _ (by omega) hI (by omega) (by assumption) hto) (by omega) hce rfl rfl (by omega) (by omega) kc_1 rfl rfl (Nat.le_of_ble_eq_true rfl) dX7_readLine_152 (fun z10 M11 hz13 hp12 => ?_)
    obtain ⟨hI14, hG15, hb16, hq17⟩ := hp12
    have hV18 := KN_fr hkn hG15 (by omega) (by omega)
    have hV19 := DL_fr hDL hG15 (fun b => by omega) (by omega) (by omega)
    have hk20 := kp_fr hG15 (by omega) hto
    have hk21 := kp_fr hG15 (by omega) hk1
    have hk22 := kp_fr hG15 (by omega) hk6
    clear hk1 hk6
    have hF23 := Fr.trans hF hG15 (fun a b h => by omega)
    exact hret _ _ _ _ dX7_readLine_155 (nb (by omega)) (by omega) ⟨hI14, hF23, by omega, by first | assumption | omega, by first | assumption | (intro _; assumption) | (intro h; exact absurd h (by decide)) | (intro _ h; omega)⟩
  · rcases (by omega : v2 = 200 ∨ v2 = 201 ∨ v2 = 202 ∨ v2 = 203 ∨ v2 = 204 ∨ v2 = 205 ∨ v2 = 206 ∨ v2 = 207 ∨ v2 = 208 ∨ v2 = 209 ∨ v2 = 210 ∨ v2 = 211 ∨ v2 = 212 ∨ v2 = 213) with hc24 | hc24 | hc24 | hc24 | hc24 | hc24 | hc24 | hc24 | hc24 | hc24 | hc24 | hc24 | hc24 | hc24
    · refine ⟨69, 76, by rw [hc24]; rfl, by decide, ?_⟩
      refine j_aload_n hX dX7_readLine_76 rfl 0 rfl ?_
      refine j_callVI hX lk_X7_58 (c_X7_readRoom _ _ _ _ _ _ _ (by omega) hI (by assumption) hto (by first | assumption | omega) (by first | assumption | omega)) (by omega) hce rfl rfl (by omega) (by omega) kc_1 rfl rfl (Nat.le_of_ble_eq_true rfl) dX7_readLine_77 (fun z25 M26 hz28 hp27 => ?_)
      obtain ⟨hI29, hG30, hb31, hq32, hq33⟩ := hp27
      have hk36 := kp_fr hG30 (by omega) hto
      clear hk1 hk6
      have hF37 := Fr.trans hF hG30 (fun a b h => by omega)
      have hk38 : M26.1 q 0 = M26.1 q 0 := rfl
      exact hret _ _ _ _ dX7_readLine_80 (nb (by omega)) (by omega) ⟨hI29, hF37, by omega, by first | assumption | omega, by first | assumption | (intro _; assumption) | (intro h; exact absurd h (by decide)) | (intro _ h; omega)⟩
    · refine ⟨143, 150, by rw [hc24]; rfl, by decide, ?_⟩
      refine j_aload_n hX dX7_readLine_150 rfl 0 rfl ?_
      refine j_iconst hX dX7_readLine_151 ?_
      refine j_callVI hX lk_X7_95 (c_X7_refuse _ _ _ _ _ _ _ _ (by omega) hI (by omega) (by assumption) hto) (by omega) hce rfl rfl (by omega) (by omega) kc_1 rfl rfl (Nat.le_of_ble_eq_true rfl) dX7_readLine_152 (fun z39 M40 hz42 hp41 => ?_)
      obtain ⟨hI43, hG44, hb45, hq46⟩ := hp41
      have hV47 := KN_fr hkn hG44 (by omega) (by omega)
      have hV48 := DL_fr hDL hG44 (fun b => by omega) (by omega) (by omega)
      have hk49 := kp_fr hG44 (by omega) hto
      have hk50 := kp_fr hG44 (by omega) hk1
      have hk51 := kp_fr hG44 (by omega) hk6
      clear hk1 hk6
      have hF52 := Fr.trans hF hG44 (fun a b h => by omega)
      exact hret _ _ _ _ dX7_readLine_155 (nb (by omega)) (by omega) ⟨hI43, hF52, by omega, by first | assumption | omega, by first | assumption | (intro _; assumption) | (intro h; exact absurd h (by decide)) | (intro _ h; omega)⟩
    · refine ⟨143, 150, by rw [hc24]; rfl, by decide, ?_⟩
      refine j_aload_n hX dX7_readLine_150 rfl 0 rfl ?_
      refine j_iconst hX dX7_readLine_151 ?_
      refine j_callVI hX lk_X7_95 (c_X7_refuse _ _ _ _ _ _ _ _ (by omega) hI (by omega) (by assumption) hto) (by omega) hce rfl rfl (by omega) (by omega) kc_1 rfl rfl (Nat.le_of_ble_eq_true rfl) dX7_readLine_152 (fun z53 M54 hz56 hp55 => ?_)
      obtain ⟨hI57, hG58, hb59, hq60⟩ := hp55
      have hV61 := KN_fr hkn hG58 (by omega) (by omega)
      have hV62 := DL_fr hDL hG58 (fun b => by omega) (by omega) (by omega)
      have hk63 := kp_fr hG58 (by omega) hto
      have hk64 := kp_fr hG58 (by omega) hk1
      have hk65 := kp_fr hG58 (by omega) hk6
      clear hk1 hk6
      have hF66 := Fr.trans hF hG58 (fun a b h => by omega)
      exact hret _ _ _ _ dX7_readLine_155 (nb (by omega)) (by omega) ⟨hI57, hF66, by omega, by first | assumption | omega, by first | assumption | (intro _; assumption) | (intro h; exact absurd h (by decide)) | (intro _ h; omega)⟩
    · refine ⟨74, 81, by rw [hc24]; rfl, by decide, ?_⟩
      refine j_aload_n hX dX7_readLine_81 rfl 0 rfl ?_
      refine j_callVI hX lk_X7_61 (c_X7_readLot _ _ _ _ _ _ _ _ (by omega) hI (by assumption) hto hk1 (by first | assumption | omega) (by first | assumption | omega) (by first | assumption | omega)) (by omega) hce rfl rfl (by omega) (by omega) kc_1 rfl rfl (Nat.le_of_ble_eq_true rfl) dX7_readLine_82 (fun z67 M68 hz70 hp69 => ?_)
      obtain ⟨hI71, hG72, hb73, hq74, hq75⟩ := hp69
      have hk78 := kp_fr hG72 (by omega) hto
      clear hk1 hk6
      have hF79 := Fr.trans hF hG72 (fun a b h => by omega)
      have hk80 : M68.1 q 0 = M68.1 q 0 := rfl
      exact hret _ _ _ _ dX7_readLine_85 (nb (by omega)) (by omega) ⟨hI71, hF79, by omega, by first | assumption | omega, by first | assumption | (intro _; assumption) | (intro h; exact absurd h (by decide)) | (intro _ h; omega)⟩
    · refine ⟨79, 86, by rw [hc24]; rfl, by decide, ?_⟩
      refine j_aload_n hX dX7_readLine_86 rfl 0 rfl ?_
      refine j_callVI hX lk_X7_64 (c_X7_readFact _ _ _ _ _ _ _ (by omega) hI (by assumption) hto (by first | assumption | omega) (by first | assumption | omega)) (by omega) hce rfl rfl (by omega) (by omega) kc_1 rfl rfl (Nat.le_of_ble_eq_true rfl) dX7_readLine_87 (fun z81 M82 hz84 hp83 => ?_)
      obtain ⟨hI85, hG86, hb87, hq88, hq89⟩ := hp83
      have hk92 := kp_fr hG86 (by omega) hto
      clear hk1 hk6
      have hF93 := Fr.trans hF hG86 (fun a b h => by omega)
      have hk94 : M82.1 q 0 = M82.1 q 0 := rfl
      exact hret _ _ _ _ dX7_readLine_90 (nb (by omega)) (by omega) ⟨hI85, hF93, by omega, by first | assumption | omega, by first | assumption | (intro _; assumption) | (intro h; exact absurd h (by decide)) | (intro _ h; omega)⟩
    · refine ⟨143, 150, by rw [hc24]; rfl, by decide, ?_⟩
      refine j_aload_n hX dX7_readLine_150 rfl 0 rfl ?_
      refine j_iconst hX dX7_readLine_151 ?_
      refine j_callVI hX lk_X7_95 (c_X7_refuse _ _ _ _ _ _ _ _ (by omega) hI (by omega) (by assumption) hto) (by omega) hce rfl rfl (by omega) (by omega) kc_1 rfl rfl (Nat.le_of_ble_eq_true rfl) dX7_readLine_152 (fun z95 M96 hz98 hp97 => ?_)
      obtain ⟨hI99, hG100, hb101, hq102⟩ := hp97
      have hV103 := KN_fr hkn hG100 (by omega) (by omega)
      have hV104 := DL_fr hDL hG100 (fun b => by omega) (by omega) (by omega)
      have hk105 := kp_fr hG100 (by omega) hto
      have hk106 := kp_fr hG100 (by omega) hk1
      have hk107 := kp_fr hG100 (by omega) hk6
      clear hk1 hk6
      have hF108 := Fr.trans hF hG100 (fun a b h => by omega)
      exact hret _ _ _ _ dX7_readLine_155 (nb (by omega)) (by omega) ⟨hI99, hF108, by omega, by first | assumption | omega, by first | assumption | (intro _; assumption) | (intro h; exact absurd h (by decide)) | (intro _ h; omega)⟩
    · refine ⟨143, 150, by rw [hc24]; rfl, by decide, ?_⟩
      refine j_aload_n hX dX7_readLine_150 rfl 0 rfl ?_
      refine j_iconst hX dX7_readLine_151 ?_
      refine j_callVI hX lk_X7_95 (c_X7_refuse _ _ _ _ _ _ _ _ (by omega) hI (by omega) (by assumption) hto) (by omega) hce rfl rfl (by omega) (by omega) kc_1 rfl rfl (Nat.le_of_ble_eq_true rfl) dX7_readLine_152 (fun z109 M110 hz112 hp111 => ?_)
      obtain ⟨hI113, hG114, hb115, hq116⟩ := hp111
      have hV117 := KN_fr hkn hG114 (by omega) (by omega)
      have hV118 := DL_fr hDL hG114 (fun b => by omega) (by omega) (by omega)
      have hk119 := kp_fr hG114 (by omega) hto
      have hk120 := kp_fr hG114 (by omega) hk1
      have hk121 := kp_fr hG114 (by omega) hk6
      clear hk1 hk6
      have hF122 := Fr.trans hF hG114 (fun a b h => by omega)
      exact hret _ _ _ _ dX7_readLine_155 (nb (by omega)) (by omega) ⟨hI113, hF122, by omega, by first | assumption | omega, by first | assumption | (intro _; assumption) | (intro h; exact absurd h (by decide)) | (intro _ h; omega)⟩
    · refine ⟨143, 150, by rw [hc24]; rfl, by decide, ?_⟩
      refine j_aload_n hX dX7_readLine_150 rfl 0 rfl ?_
      refine j_iconst hX dX7_readLine_151 ?_
      refine j_callVI hX lk_X7_95 (c_X7_refuse _ _ _ _ _ _ _ _ (by omega) hI (by omega) (by assumption) hto) (by omega) hce rfl rfl (by omega) (by omega) kc_1 rfl rfl (Nat.le_of_ble_eq_true rfl) dX7_readLine_152 (fun z123 M124 hz126 hp125 => ?_)
      obtain ⟨hI127, hG128, hb129, hq130⟩ := hp125
      have hV131 := KN_fr hkn hG128 (by omega) (by omega)
      have hV132 := DL_fr hDL hG128 (fun b => by omega) (by omega) (by omega)
      have hk133 := kp_fr hG128 (by omega) hto
      have hk134 := kp_fr hG128 (by omega) hk1
      have hk135 := kp_fr hG128 (by omega) hk6
      clear hk1 hk6
      have hF136 := Fr.trans hF hG128 (fun a b h => by omega)
      exact hret _ _ _ _ dX7_readLine_155 (nb (by omega)) (by omega) ⟨hI127, hF136, by omega, by first | assumption | omega, by first | assumption | (intro _; assumption) | (intro h; exact absurd h (by decide)) | (intro _ h; omega)⟩
    · refine ⟨84, 91, by rw [hc24]; rfl, by decide, ?_⟩
      refine j_aload_n hX dX7_readLine_91 rfl 0 rfl ?_
      refine j_callVI hX lk_X7_67 (c_X7_readTells _ _ _ _ _ _ _ (by omega) hI (by assumption) hto (by first | assumption | omega) (by first | assumption | omega)) (by omega) hce rfl rfl (by omega) (by omega) kc_1 rfl rfl (Nat.le_of_ble_eq_true rfl) dX7_readLine_92 (fun z137 M138 hz140 hp139 => ?_)
      obtain ⟨hI141, hG142, hb143, hq144, hq145⟩ := hp139
      have hk148 := kp_fr hG142 (by omega) hto
      clear hk1 hk6
      have hF149 := Fr.trans hF hG142 (fun a b h => by omega)
      have hk150 : M138.1 q 0 = M138.1 q 0 := rfl
      exact hret _ _ _ _ dX7_readLine_95 (nb (by omega)) (by omega) ⟨hI141, hF149, by omega, by first | assumption | omega, by first | assumption | (intro _; assumption) | (intro h; exact absurd h (by decide)) | (intro _ h; omega)⟩
    · refine ⟨89, 96, by rw [hc24]; rfl, by decide, ?_⟩
      refine j_aload_n hX dX7_readLine_96 rfl 0 rfl ?_
      refine j_callVI hX lk_X7_70 (c_X7_readWants _ _ _ _ _ _ _ (by omega) hI (by assumption) hto (by first | assumption | omega) (by first | assumption | omega)) (by omega) hce rfl rfl (by omega) (by omega) kc_1 rfl rfl (Nat.le_of_ble_eq_true rfl) dX7_readLine_97 (fun z151 M152 hz154 hp153 => ?_)
      obtain ⟨hI155, hG156, hb157, hq158, hq159⟩ := hp153
      have hk162 := kp_fr hG156 (by omega) hto
      clear hk1 hk6
      have hF163 := Fr.trans hF hG156 (fun a b h => by omega)
      have hk164 : M152.1 q 0 = M152.1 q 0 := rfl
      exact hret _ _ _ _ dX7_readLine_100 (nb (by omega)) (by omega) ⟨hI155, hF163, by omega, by first | assumption | omega, by first | assumption | (intro _; assumption) | (intro h; exact absurd h (by decide)) | (intro _ h; omega)⟩
    · refine ⟨94, 101, by rw [hc24]; rfl, by decide, ?_⟩
      refine j_aload_n hX dX7_readLine_101 rfl 0 rfl ?_
      refine j_aload_n hX dX7_readLine_102 rfl 0 rfl ?_
      refine gf_X7_21 hX (by omega) (by omega) kc_1 hto (by omega) dX7_readLine_103 ?_
      refine gf_X7_73 hX (by omega) (by omega) (kq hq) (fq_17 hI hq) (by omega) dX7_readLine_106 ?_
      refine gf_X7_77 hX (by omega) (by omega) (kq_15 hq) dX7_readLine_109 ?_
      refine j_name hI (rr_4 hq) (fun v165 hv166 hl167 hh168 => ?_)
      have hk169 := hv166.symm
      refine j_if_ne (tgt := 119) hX dX7_readLine_112 (by decide) (by omega) (fun hc170 => ?_) (fun hc170 => ?_)
      · skip
        refine j_iconst hX dX7_readLine_119 ?_
        refine j_callVI hX lk_X7_82 (c_X7_mayStart _ _ _ _ _ _ _ _ (by omega) hI (by omega) (by assumption) hto (by first | assumption | omega) (by first | assumption | omega)) (by omega) hce rfl rfl (by omega) (by omega) kc_1 rfl rfl (Nat.le_of_ble_eq_true rfl) dX7_readLine_120 (fun z171 M172 hz174 hp173 => ?_)
        obtain ⟨hI175, hG176, hb177, hq178, hq179⟩ := hp173
        have hV181 := DL_fr hDL hG176 (fun b => by omega) (by omega) (by omega)
        have hk182 := kp_fr hG176 (by omega) hto
        have hk183 := kp_fr hG176 (by omega) hk1
        have hk184 := kp_fr hG176 (by omega) hk169
        clear hk1 hk6 hk169
        have hF185 := Fr.trans hF hG176 (fun a b h => by omega)
        refine j_if_eq (tgt := 138) hX dX7_readLine_123 (by decide) (by omega) (fun hc186 => ?_) (fun hc186 => ?_)
        · skip
          clear hq179
          refine j_iconst hX dX7_readLine_138 ?_
          exact hret _ _ _ _ dX7_readLine_139 (nb (by omega)) (by omega) ⟨hI175, hF185, by omega, by first | assumption | omega, by first | assumption | (intro _; assumption) | (intro h; exact absurd h (by decide)) | (intro _ h; omega)⟩
        · skip
          have hi187 := hq179 (by omega)
          clear hq179
          refine j_aload_n hX dX7_readLine_126 rfl 0 rfl ?_
          refine j_iconst hX dX7_readLine_127 ?_
          refine j_callVI hX lk_X7_86 (c_either _ _ _ _ _ _ _ _ (by omega) hI175 (by omega) (by assumption) hk182 (by first | assumption | omega) (by first | assumption | omega)) (by omega) hce rfl rfl (by omega) (by omega) kc_1 rfl rfl (Nat.le_of_ble_eq_true rfl) dX7_readLine_128 (fun z188 M189 hz191 hp190 => ?_)
          obtain ⟨hI192, hG193, hb194, hq195⟩ := hp190
          have hV196 := DL_fr hV181 hG193 (fun b => by omega) (by omega) (by omega)
          have hk198 := kp_fr hG193 (by omega) hk182
          have hk199 := kp_fr hG193 (by omega) hk183
          clear hk182 hk183 hk184
          have hF200 := Fr.trans hF185 hG193 (fun a b h => by omega)
          refine j_if_eq (tgt := 138) hX dX7_readLine_131 (by decide) (by omega) (fun hc201 => ?_) (fun hc201 => ?_)
          · skip
            refine j_iconst hX dX7_readLine_138 ?_
            exact hret _ _ _ _ dX7_readLine_139 (nb (by omega)) (by omega) ⟨hI192, hF200, by omega, by first | assumption | omega, by first | assumption | (intro _; assumption) | (intro h; exact absurd h (by decide)) | (intro _ h; omega)⟩
          · skip
            refine j_iconst hX dX7_readLine_134 ?_
            refine j_goto (tgt := 139) hX dX7_readLine_135 (by decide) ?_
            exact hret _ _ _ _ dX7_readLine_139 (nb (by omega)) (by omega) ⟨hI192, hF200, by omega, by first | assumption | omega, by first | assumption | (intro _; assumption) | (intro h; exact absurd h (by decide)) | (intro _ h; omega)⟩
      · skip
        refine j_iconst hX dX7_readLine_115 ?_
        refine j_goto (tgt := 120) hX dX7_readLine_116 (by decide) ?_
        refine j_callVI hX lk_X7_82 (c_X7_mayStart _ _ _ _ _ _ _ _ (by omega) hI (by omega) (by assumption) hto (by first | assumption | omega) (by first | assumption | omega)) (by omega) hce rfl rfl (by omega) (by omega) kc_1 rfl rfl (Nat.le_of_ble_eq_true rfl) dX7_readLine_120 (fun z202 M203 hz205 hp204 => ?_)
        obtain ⟨hI206, hG207, hb208, hq209, hq210⟩ := hp204
        have hV212 := DL_fr hDL hG207 (fun b => by omega) (by omega) (by omega)
        have hk213 := kp_fr hG207 (by omega) hto
        have hk214 := kp_fr hG207 (by omega) hk1
        have hk215 := kp_fr hG207 (by omega) hk169
        clear hk1 hk6 hk169
        have hF216 := Fr.trans hF hG207 (fun a b h => by omega)
        refine j_if_eq (tgt := 138) hX dX7_readLine_123 (by decide) (by omega) (fun hc217 => ?_) (fun hc217 => ?_)
        · skip
          clear hq210
          refine j_iconst hX dX7_readLine_138 ?_
          exact hret _ _ _ _ dX7_readLine_139 (nb (by omega)) (by omega) ⟨hI206, hF216, by omega, by first | assumption | omega, by first | assumption | (intro _; assumption) | (intro h; exact absurd h (by decide)) | (intro _ h; omega)⟩
        · skip
          have hi218 := hq210 (by omega)
          clear hq210
          refine j_aload_n hX dX7_readLine_126 rfl 0 rfl ?_
          refine j_iconst hX dX7_readLine_127 ?_
          refine j_callVI hX lk_X7_86 (c_either _ _ _ _ _ _ _ _ (by omega) hI206 (by omega) (by assumption) hk213 (by first | assumption | omega) (by first | assumption | omega)) (by omega) hce rfl rfl (by omega) (by omega) kc_1 rfl rfl (Nat.le_of_ble_eq_true rfl) dX7_readLine_128 (fun z219 M220 hz222 hp221 => ?_)
          obtain ⟨hI223, hG224, hb225, hq226⟩ := hp221
          have hV227 := DL_fr hV212 hG224 (fun b => by omega) (by omega) (by omega)
          have hk229 := kp_fr hG224 (by omega) hk213
          have hk230 := kp_fr hG224 (by omega) hk214
          clear hk213 hk214 hk215
          have hF231 := Fr.trans hF216 hG224 (fun a b h => by omega)
          refine j_if_eq (tgt := 138) hX dX7_readLine_131 (by decide) (by omega) (fun hc232 => ?_) (fun hc232 => ?_)
          · skip
            refine j_iconst hX dX7_readLine_138 ?_
            exact hret _ _ _ _ dX7_readLine_139 (nb (by omega)) (by omega) ⟨hI223, hF231, by omega, by first | assumption | omega, by first | assumption | (intro _; assumption) | (intro h; exact absurd h (by decide)) | (intro _ h; omega)⟩
          · skip
            refine j_iconst hX dX7_readLine_134 ?_
            refine j_goto (tgt := 139) hX dX7_readLine_135 (by decide) ?_
            exact hret _ _ _ _ dX7_readLine_139 (nb (by omega)) (by omega) ⟨hI223, hF231, by omega, by first | assumption | omega, by first | assumption | (intro _; assumption) | (intro h; exact absurd h (by decide)) | (intro _ h; omega)⟩
    · refine ⟨133, 140, by rw [hc24]; rfl, by decide, ?_⟩
      refine j_aload_n hX dX7_readLine_140 rfl 0 rfl ?_
      refine j_callVI hX lk_X7_89 (c_X7_readDark _ _ _ _ _ _ _ (by omega) hI (by assumption) hto (by first | assumption | omega) (by first | assumption | omega)) (by omega) hce rfl rfl (by omega) (by omega) kc_1 rfl rfl (Nat.le_of_ble_eq_true rfl) dX7_readLine_141 (fun z233 M234 hz236 hp235 => ?_)
      obtain ⟨hI237, hG238, hb239, hq240, hq241⟩ := hp235
      have hk244 := kp_fr hG238 (by omega) hto
      clear hk1 hk6
      have hF245 := Fr.trans hF hG238 (fun a b h => by omega)
      have hk246 : M234.1 q 0 = M234.1 q 0 := rfl
      exact hret _ _ _ _ dX7_readLine_144 (nb (by omega)) (by omega) ⟨hI237, hF245, by omega, by first | assumption | omega, by first | assumption | (intro _; assumption) | (intro h; exact absurd h (by decide)) | (intro _ h; omega)⟩
    · refine ⟨143, 150, by rw [hc24]; rfl, by decide, ?_⟩
      refine j_aload_n hX dX7_readLine_150 rfl 0 rfl ?_
      refine j_iconst hX dX7_readLine_151 ?_
      refine j_callVI hX lk_X7_95 (c_X7_refuse _ _ _ _ _ _ _ _ (by omega) hI (by omega) (by assumption) hto) (by omega) hce rfl rfl (by omega) (by omega) kc_1 rfl rfl (Nat.le_of_ble_eq_true rfl) dX7_readLine_152 (fun z247 M248 hz250 hp249 => ?_)
      obtain ⟨hI251, hG252, hb253, hq254⟩ := hp249
      have hV255 := KN_fr hkn hG252 (by omega) (by omega)
      have hV256 := DL_fr hDL hG252 (fun b => by omega) (by omega) (by omega)
      have hk257 := kp_fr hG252 (by omega) hto
      have hk258 := kp_fr hG252 (by omega) hk1
      have hk259 := kp_fr hG252 (by omega) hk6
      clear hk1 hk6
      have hF260 := Fr.trans hF hG252 (fun a b h => by omega)
      exact hret _ _ _ _ dX7_readLine_155 (nb (by omega)) (by omega) ⟨hI251, hF260, by omega, by first | assumption | omega, by first | assumption | (intro _; assumption) | (intro h; exact absurd h (by decide)) | (intro _ h; omega)⟩
    · refine ⟨138, 145, by rw [hc24]; rfl, by decide, ?_⟩
      refine j_aload_n hX dX7_readLine_145 rfl 0 rfl ?_
      refine j_callVI hX lk_X7_92 (c_X7_readDraw _ _ _ _ _ _ _ (by omega) hI (by assumption) hto (by first | assumption | omega) (by first | assumption | omega)) (by omega) hce rfl rfl (by omega) (by omega) kc_1 rfl rfl (Nat.le_of_ble_eq_true rfl) dX7_readLine_146 (fun z261 M262 hz264 hp263 => ?_)
      obtain ⟨hI265, hG266, hb267, hq268, hq269⟩ := hp263
      have hk272 := kp_fr hG266 (by omega) hto
      clear hk1 hk6
      have hF273 := Fr.trans hF hG266 (fun a b h => by omega)
      have hk274 : M262.1 q 0 = M262.1 q 0 := rfl
      exact hret _ _ _ _ dX7_readLine_149 (nb (by omega)) (by omega) ⟨hI265, hF273, by omega, by first | assumption | omega, by first | assumption | (intro _; assumption) | (intro h; exact absurd h (by decide)) | (intro _ h; omega)⟩
set_option maxHeartbeats 2000000 in
set_option maxRecDepth 20000 in
theorem c_X7_readDraft (l : Launch) (D : va_G) (cy : Nat → ClassId) (B N : Nat) (q : Int) (M : MM) (hN : 210 ≤ N) (hI : Iv M) (hq : q = 5 ∨ q = 180) (hto : M.1 1 1 = q) (hkn : KNo M) : CI l D cy B N 66 yX7_readDraft cX7_readDraft 3 (some .boolean) [rv B 1] M (fun z M' => Iv M' ∧ Fr (fun a b => (a = 1 ∧ 2 ≤ b ∧ b ≤ 4) ∨ (a = 2 ∧ 3 ≤ b ∧ b ≤ 6) ∨ (q ≤ a ∧ a ≤ q + 20)) M M' ∧ (0 ≤ z ∧ z ≤ 1) ∧ (KNo M') ∧ (z = 1 → VQ (M'.1 q 0) q M')) := by
  refine mk_CI (by decide) (Nat.le_of_ble_eq_true rfl) ?_
  intro X exl exD excy hnL hX hret
  have hce : 0 + 0 ≤ (xR X).cells ∧ 0 + 0 ≤ (xR X).slots := ⟨Nat.zero_le _, Nat.zero_le _⟩
  have hdq : 5 ≤ q ∧ q ≤ 180 := by omega
  have hF : Fr (fun a b => (a = 1 ∧ 2 ≤ b ∧ b ≤ 4) ∨ (a = 2 ∧ 3 ≤ b ∧ b ≤ 6) ∨ (q ≤ a ∧ a ≤ q + 20)) M M := Fr.rf
  have hk1 : M.1 q 0 = M.1 q 0 := rfl
  have hk2 : M.1 q 9 = M.1 q 9 := rfl
  have cp : ∀ n : Nat, (∀ (x1 x2 : Int), ∀ (Mc : MM), I32 x1 → I32 x2 → Iv Mc → Fr (fun a b => (a = 1 ∧ 2 ≤ b ∧ b ≤ 4) ∨ (a = 2 ∧ 3 ≤ b ∧ b ≤ 6) ∨ (q ≤ a ∧ a ≤ q + 20)) M Mc → Mc.1 1 1 = q → KNo Mc → (0 ≤ x2 ∧ x2 ≤ 1600 ∧ 0 ≤ x1 ∧ x1 ≤ 1) → (x1 = 1 → DL q Mc) → 0 ≤ 32 * (1600 - x2) + 1 → 32 * (1600 - x2) + 1 < (n : Int) → J X B N 0 0 36 [(0, rv B 1), (1, iv x1), (2, iv x2)] [] Mc) := by
    intro n
    induction n with
    | zero => exact by intros; exfalso; omega
    | succ n ih =>
      · intro x1 x2 Mc hxx1 hxx2 hI hF hk_0 hV_0 h2 h3 hm0 hm1
        have hk3 : Mc.1 q 0 = Mc.1 q 0 := rfl
        have hk4 : Mc.1 q 9 = Mc.1 q 9 := rfl
        refine j_iload_n hX dX7_readDraft_36 rfl 2 rfl ?_
        refine j_sipush hX dX7_readDraft_37 rfl ?_
        refine j_icmp_ge (tgt := 85) hX dX7_readDraft_40 (by decide) (by omega) (by omega) (fun hc5 => ?_) (fun hc5 => ?_)
        · skip
          have hq0 := hI.at q 0 (rq_0 hq)
          refine j_iload_n hX dX7_readDraft_85 rfl 1 rfl ?_
          refine j_if_eq (tgt := 96) hX dX7_readDraft_86 (by decide) (by omega) (fun hc6 => ?_) (fun hc6 => ?_)
          · skip
            refine j_iload_n hX dX7_readDraft_96 rfl 1 rfl ?_
            exact hret _ _ _ _ dX7_readDraft_97 (nb (by omega)) (by omega) ⟨hI, hF, by omega, by first | assumption | omega, by first | (intro _; assumption) | (intro h; omega)⟩
          · skip
            refine j_aload_n hX dX7_readDraft_89 rfl 0 rfl ?_
            refine gf_X7_21 hX (by omega) (by omega) kc_1 hk_0 (by omega) dX7_readDraft_90 ?_
            refine j_callVV hX lk_X7_55 (c_X6_settle _ _ _ _ _ q _ _ (by omega) hI hq hk3 (h3 (by omega)) (by omega)) (by omega) hce rfl rfl (by omega) (by omega) (kq hq) rfl rfl (Nat.le_of_ble_eq_true rfl) dX7_readDraft_93 (fun M8 hp9 => ?_)
            obtain ⟨hI11, hG12, hq13⟩ := hp9
            have hV14 := KN_fr hV_0 hG12 (by omega) (by omega)
            have hk15 := kp_fr hG12 (by omega) hk_0
            have hk16 := kp_fr hG12 (by omega) hk3
            have hk17 := kp_fr hG12 (by omega) hk4
            clear hk3 hk4
            have hF18 := Fr.trans hF hG12 (fun a b h => by omega)
            have hPost : VQ (M8.1 q 0) q M8 := by rw [show M8.1 q 0 = Mc.1 q 0 by omega]; exact hq13
            refine j_iload_n hX dX7_readDraft_96 rfl 1 rfl ?_
            exact hret _ _ _ _ dX7_readDraft_97 (nb (by omega)) (by omega) ⟨hI11, hF18, by omega, by first | assumption | omega, by first | (intro _; assumption) | (intro h; omega)⟩
        · skip
          refine j_iload_n hX dX7_readDraft_43 rfl 1 rfl ?_
          refine j_if_eq (tgt := 85) hX dX7_readDraft_44 (by decide) (by omega) (fun hc19 => ?_) (fun hc19 => ?_)
          · skip
            have hq0 := hI.at q 0 (rq_0 hq)
            refine j_iload_n hX dX7_readDraft_85 rfl 1 rfl ?_
            refine j_if_eq (tgt := 96) hX dX7_readDraft_86 (by decide) (by omega) (fun hc20 => ?_) (fun hc20 => ?_)
            · skip
              refine j_iload_n hX dX7_readDraft_96 rfl 1 rfl ?_
              exact hret _ _ _ _ dX7_readDraft_97 (nb (by omega)) (by omega) ⟨hI, hF, by omega, by first | assumption | omega, by first | (intro _; assumption) | (intro h; omega)⟩
            · skip
              refine j_aload_n hX dX7_readDraft_89 rfl 0 rfl ?_
              refine gf_X7_21 hX (by omega) (by omega) kc_1 hk_0 (by omega) dX7_readDraft_90 ?_
              refine j_callVV hX lk_X7_55 (c_X6_settle _ _ _ _ _ q _ _ (by omega) hI hq hk3 (h3 (by omega)) (by omega)) (by omega) hce rfl rfl (by omega) (by omega) (kq hq) rfl rfl (Nat.le_of_ble_eq_true rfl) dX7_readDraft_93 (fun M22 hp23 => ?_)
              obtain ⟨hI25, hG26, hq27⟩ := hp23
              have hV28 := KN_fr hV_0 hG26 (by omega) (by omega)
              have hk29 := kp_fr hG26 (by omega) hk_0
              have hk30 := kp_fr hG26 (by omega) hk3
              have hk31 := kp_fr hG26 (by omega) hk4
              clear hk3 hk4
              have hF32 := Fr.trans hF hG26 (fun a b h => by omega)
              have hPost : VQ (M22.1 q 0) q M22 := by rw [show M22.1 q 0 = Mc.1 q 0 by omega]; exact hq27
              refine j_iload_n hX dX7_readDraft_96 rfl 1 rfl ?_
              exact hret _ _ _ _ dX7_readDraft_97 (nb (by omega)) (by omega) ⟨hI25, hF32, by omega, by first | assumption | omega, by first | (intro _; assumption) | (intro h; omega)⟩
          · skip
            refine j_aload_n hX dX7_readDraft_47 rfl 0 rfl ?_
            refine gf_X7_12 hX (by omega) (by omega) kc_1 (fc_1_0 hI) (by decide) dX7_readDraft_48 ?_
            refine gf_X7_44 hX (by omega) (by omega) kc_2 dX7_readDraft_51 ?_
            refine j_name hI ro_2_4 (fun v33 hv34 hl35 hh36 => ?_)
            have hk37 := hv34.symm
            refine j_if_eq (tgt := 85) hX dX7_readDraft_54 (by decide) (by omega) (fun hc38 => ?_) (fun hc38 => ?_)
            · skip
              have hq0 := hI.at q 0 (rq_0 hq)
              refine j_iload_n hX dX7_readDraft_85 rfl 1 rfl ?_
              refine j_if_eq (tgt := 96) hX dX7_readDraft_86 (by decide) (by omega) (fun hc39 => ?_) (fun hc39 => ?_)
              · skip
                refine j_iload_n hX dX7_readDraft_96 rfl 1 rfl ?_
                exact hret _ _ _ _ dX7_readDraft_97 (nb (by omega)) (by omega) ⟨hI, hF, by omega, by first | assumption | omega, by first | (intro _; assumption) | (intro h; omega)⟩
              · skip
                refine j_aload_n hX dX7_readDraft_89 rfl 0 rfl ?_
                refine gf_X7_21 hX (by omega) (by omega) kc_1 hk_0 (by omega) dX7_readDraft_90 ?_
                refine j_callVV hX lk_X7_55 (c_X6_settle _ _ _ _ _ q _ _ (by omega) hI hq hk3 (h3 (by omega)) (by omega)) (by omega) hce rfl rfl (by omega) (by omega) (kq hq) rfl rfl (Nat.le_of_ble_eq_true rfl) dX7_readDraft_93 (fun M41 hp42 => ?_)
                obtain ⟨hI44, hG45, hq46⟩ := hp42
                have hV47 := KN_fr hV_0 hG45 (by omega) (by omega)
                have hk48 := kp_fr hG45 (by omega) hk_0
                have hk49 := kp_fr hG45 (by omega) hk3
                have hk50 := kp_fr hG45 (by omega) hk4
                have hk51 := kp_fr hG45 (by omega) hk37
                clear hk3 hk4 hk37
                have hF52 := Fr.trans hF hG45 (fun a b h => by omega)
                have hPost : VQ (M41.1 q 0) q M41 := by rw [show M41.1 q 0 = Mc.1 q 0 by omega]; exact hq46
                refine j_iload_n hX dX7_readDraft_96 rfl 1 rfl ?_
                exact hret _ _ _ _ dX7_readDraft_97 (nb (by omega)) (by omega) ⟨hI44, hF52, by omega, by first | assumption | omega, by first | (intro _; assumption) | (intro h; omega)⟩
            · skip
              have hV53 : DL q Mc := h3 (by omega)
              refine j_aload_n hX dX7_readDraft_57 rfl 0 rfl ?_
              refine j_callVI hX lk_X7_47 (c_X7_readLine _ _ _ _ _ _ _ (by omega) hI (by assumption) hk_0 (by first | assumption | omega) (by first | assumption | omega)) (by omega) hce rfl rfl (by omega) (by omega) kc_1 rfl rfl (Nat.le_of_ble_eq_true rfl) dX7_readDraft_58 (fun z54 M55 hz57 hp56 => ?_)
              obtain ⟨hI58, hG59, hb60, hq61, hq62⟩ := hp56
              have hk65 := kp_fr hG59 (by omega) hk_0
              clear hk3 hk4 hk37
              have hF66 := Fr.trans hF hG59 (fun a b h => by omega)
              have hk67 : M55.1 q 0 = M55.1 q 0 := rfl
              have hk68 : M55.1 q 9 = M55.1 q 9 := rfl
              refine j_if_eq (tgt := 77) hX dX7_readDraft_61 (by decide) (by omega) (fun hc69 => ?_) (fun hc69 => ?_)
              · skip
                clear hq62
                refine j_iconst hX dX7_readDraft_77 ?_
                refine j_istore_n (lv' := [(1, _), (0, _), (2, _)]) hX dX7_readDraft_78 rfl (by rw [hnL]; decide) rfl ?_
                refine j_iinc (lv' := [(2, _), (1, _), (0, _)]) hX dX7_readDraft_79 2 rfl (by rw [hnL]; decide) rfl ?_
                refine j_goto (tgt := 36) hX dX7_readDraft_82 (by decide) ?_
                refine j_sub [2, 1, 0] rfl ?_
                exact ih _ _ _ (by omega) (by omega) hI58 hF66 hk65 hq61 (by first | assumption | omega) (by first | (intro _; assumption) | (intro h; exact absurd h (by decide))) (by omega) (by omega)
              · skip
                have hi70 := hq62 (by omega)
                clear hq62
                refine j_aload_n hX dX7_readDraft_64 rfl 0 rfl ?_
                refine j_bipush hX dX7_readDraft_65 rfl ?_
                refine j_callVI hX lk_X7_51 (c_X7_take _ _ _ _ _ _ _ _ (by omega) hI58 (by omega) (by assumption) hk65 (by first | assumption | omega)) (by omega) hce rfl rfl (by omega) (by omega) kc_1 rfl rfl (Nat.le_of_ble_eq_true rfl) dX7_readDraft_67 (fun z71 M72 hz74 hp73 => ?_)
                obtain ⟨hI75, hG76, hb77, hq78⟩ := hp73
                have hV80 := DL_fr hi70 hG76 (fun b => by omega) (by omega) (by omega)
                have hk81 := kp_fr hG76 (by omega) hk65
                have hk82 := kp_fr hG76 (by omega) hk67
                have hk83 := kp_fr hG76 (by omega) hk68
                clear hk65 hk67 hk68
                have hF84 := Fr.trans hF66 hG76 (fun a b h => by omega)
                refine j_if_eq (tgt := 77) hX dX7_readDraft_70 (by decide) (by omega) (fun hc85 => ?_) (fun hc85 => ?_)
                · skip
                  refine j_iconst hX dX7_readDraft_77 ?_
                  refine j_istore_n (lv' := [(1, _), (0, _), (2, _)]) hX dX7_readDraft_78 rfl (by rw [hnL]; decide) rfl ?_
                  refine j_iinc (lv' := [(2, _), (1, _), (0, _)]) hX dX7_readDraft_79 2 rfl (by rw [hnL]; decide) rfl ?_
                  refine j_goto (tgt := 36) hX dX7_readDraft_82 (by decide) ?_
                  refine j_sub [2, 1, 0] rfl ?_
                  exact ih _ _ _ (by omega) (by omega) hI75 hF84 hk81 hq78 (by first | assumption | omega) (by first | (intro _; assumption) | (intro h; exact absurd h (by decide))) (by omega) (by omega)
                · skip
                  refine j_iconst hX dX7_readDraft_73 ?_
                  refine j_goto (tgt := 78) hX dX7_readDraft_74 (by decide) ?_
                  refine j_istore_n (lv' := [(1, _), (0, _), (2, _)]) hX dX7_readDraft_78 rfl (by rw [hnL]; decide) rfl ?_
                  refine j_iinc (lv' := [(2, _), (1, _), (0, _)]) hX dX7_readDraft_79 2 rfl (by rw [hnL]; decide) rfl ?_
                  refine j_goto (tgt := 36) hX dX7_readDraft_82 (by decide) ?_
                  refine j_sub [2, 1, 0] rfl ?_
                  exact ih _ _ _ (by omega) (by omega) hI75 hF84 hk81 hq78 (by first | assumption | omega) (by first | (intro _; assumption) | (intro h; exact absurd h (by decide))) (by omega) (by omega)
  show J X B N 0 0 0 [(0, rv B 1)] [] M
  refine j_aload_n hX dX7_readDraft_0 rfl 0 rfl ?_
  refine j_iconst hX dX7_readDraft_1 ?_
  refine pf_X7_25 hX (by omega) (by omega) kc_1 (by omega) dX7_readDraft_2 ?_
  refine j_up hI ro_1_2 (by omega) (by omega) (Or.inl (by omega)) (fun M86 w87 hw88 hM89 hI90 hf91 => ?_)
  have hV92 := KN_up hkn hM89 (by omega)
  have hk93 := kp_up hM89 (fun h => absurd h.2 (by decide)) hto
  have hk94 := kp_up hM89 (by omega) hk1
  have hk95 := kp_up hM89 (by omega) hk2
  clear hk1 hk2
  have hF96 := Fr.put hF hM89 (by omega)
  refine j_aload_n hX dX7_readDraft_5 rfl 0 rfl ?_
  refine j_iconst hX dX7_readDraft_6 ?_
  refine pf_X7_29 hX (by omega) (by omega) kc_1 (by omega) dX7_readDraft_7 ?_
  refine j_up hI90 ro_1_3 (by omega) (by omega) (Or.inl (by omega)) (fun M97 w98 hw99 hM100 hI101 hf102 => ?_)
  have hV103 := KN_up hV92 hM100 (by omega)
  have hk104 := kp_up hM100 (fun h => absurd h.2 (by decide)) hk93
  have hk105 := kp_up hM100 (by omega) hk94
  have hk106 := kp_up hM100 (by omega) hk95
  have hk107 := kp_up hM100 (fun h => absurd h.2 (by decide)) hf91
  clear hk93 hk94 hk95 hf91
  have hF108 := Fr.put hF96 hM100 (by omega)
  refine j_aload_n hX dX7_readDraft_10 rfl 0 rfl ?_
  refine gf_X7_21 hX (by omega) (by omega) kc_1 hk104 (by omega) dX7_readDraft_11 ?_
  refine j_callVV hX lk_X7_35 (c_X6_clear _ _ _ _ _ q _ (by omega) hI101 hq) (by omega) hce rfl rfl (by omega) (by omega) (kq hq) rfl rfl (Nat.le_of_ble_eq_true rfl) dX7_readDraft_14 (fun M110 hp111 => ?_)
  obtain ⟨hI113, hG114, hq115⟩ := hp111
  have hV116 := KN_fr hV103 hG114 (by omega) (by omega)
  have hk117 := kp_fr hG114 (by omega) hk104
  have hk118 := kp_fr hG114 (by omega) hk107
  have hk119 := kp_fr hG114 (by omega) hf102
  clear hk104 hk105 hk106 hk107 hf102
  have hF120 := Fr.trans hF108 hG114 (fun a b h => by omega)
  have hk121 : M110.1 q 0 = M110.1 q 0 := rfl
  have hk122 : M110.1 q 9 = M110.1 q 9 := rfl
  refine j_aload_n hX dX7_readDraft_17 rfl 0 rfl ?_
  refine gf_X7_12 hX (by omega) (by omega) kc_1 (fc_1_0 hI113) (by decide) dX7_readDraft_18 ?_
  refine j_iconst hX dX7_readDraft_21 ?_
  refine pf_X7_38 hX (by omega) (by omega) kc_2 (by omega) dX7_readDraft_22 ?_
  refine j_up hI113 ro_2_3 (by omega) (by omega) (Or.inl (by omega)) (fun M123 w124 hw125 hM126 hI127 hf128 => ?_)
  have hV129 := KN_up hV116 hM126 (by omega)
  have hk130 := kp_up hM126 (by decide) hk117
  have hk131 := kp_up hM126 (by decide) hk118
  have hk132 := kp_up hM126 (by decide) hk119
  have hk133 := kp_up hM126 (by omega) hk121
  have hk134 := kp_up hM126 (by omega) hk122
  clear hk117 hk118 hk119 hk121 hk122
  have hF135 := Fr.put hF120 hM126 (by omega)
  refine j_aload_n hX dX7_readDraft_25 rfl 0 rfl ?_
  refine gf_X7_12 hX (by omega) (by omega) kc_1 (fc_1_0 hI127) (by decide) dX7_readDraft_26 ?_
  refine j_callVV hX lk_X7_41 (c_X9_advance _ _ _ _ _ _ (by omega) hI127 (by first | assumption | omega)) (by omega) hce rfl rfl (by omega) (by omega) kc_2 rfl rfl (Nat.le_of_ble_eq_true rfl) dX7_readDraft_29 (fun M137 hp138 => ?_)
  obtain ⟨hI140, hG141, hq142⟩ := hp138
  have hk144 := kp_fr hG141 (by omega) hk130
  have hk145 := kp_fr hG141 (by omega) hk131
  have hk146 := kp_fr hG141 (by omega) hk132
  have hk147 := kp_fr hG141 (by omega) hk133
  have hk148 := kp_fr hG141 (by omega) hk134
  clear hk130 hk131 hk132 hk133 hk134 hf128
  have hF149 := Fr.trans hF135 hG141 (fun a b h => by omega)
  have hDL0 : DL q M137 := fun h => by omega
  refine j_iconst hX dX7_readDraft_32 ?_
  refine j_istore_n (lv' := [(1, _), (0, _)]) hX dX7_readDraft_33 rfl (by rw [hnL]; decide) rfl ?_
  refine j_iconst hX dX7_readDraft_34 ?_
  refine j_istore_n (lv' := [(2, _), (1, _), (0, _)]) hX dX7_readDraft_35 rfl (by rw [hnL]; decide) rfl ?_
  refine j_sub [2, 1, 0] rfl ?_
  refine (cp (Int.toNat (51264 + 1))) _ _ _ (by omega) (by omega) hI140 hF149 hk144 hq142 (by first | assumption | omega) (by first | (intro _; assumption) | (intro h; exact absurd h (by decide))) ?_ ?_
  · omega
  · omega
set_option maxHeartbeats 2000000 in
set_option maxRecDepth 20000 in
theorem c_X7_exchangeDraft (l : Launch) (D : va_G) (cy : Nat → ClassId) (B N : Nat) (q : Int) (q2 : Int) (M : MM) (hN : 210 ≤ N) (hI : Iv M) (hq : q = 5 ∨ q = 180) (hq2 : q2 = 5 ∨ q2 = 180) (hto : M.1 1 1 = q) : CR l D cy B N 1 yX7_exchangeDraft cX7_exchangeDraft 3 (some (.object "OtherPanes$Quarter")) [rv B 1, rv B q2] M (fun z M' => Iv M' ∧ Fr (fun a b => (a = 1 ∧ 1 ≤ b ∧ b ≤ 1)) M M' ∧ (z = 5 ∨ z = 180) ∧ (z = q ∧ M'.1 1 1 = q2)) := by
  refine mk_CR (by decide) (Nat.le_of_ble_eq_true rfl) (by first | exact Or.inl ⟨_, rfl⟩ | exact Or.inr ⟨_, rfl⟩) ?_
  intro X exl exD excy hnL hX hret
  have hce : 0 + 0 ≤ (xR X).cells ∧ 0 + 0 ≤ (xR X).slots := ⟨Nat.zero_le _, Nat.zero_le _⟩
  have hdq : 5 ≤ q ∧ q ≤ 180 := by omega
  have hdq2 : 5 ≤ q2 ∧ q2 ≤ 180 := by omega
  have hF : Fr (fun a b => (a = 1 ∧ 1 ≤ b ∧ b ≤ 1)) M M := Fr.rf
  show J X B N 0 0 0 [(0, rv B 1), (1, rv B q2)] [] M
  refine j_aload_n hX dX7_exchangeDraft_0 rfl 0 rfl ?_
  refine gf_X7_21 hX (by omega) (by omega) kc_1 hto (by omega) dX7_exchangeDraft_1 ?_
  refine j_astore_n (lv' := [(2, _), (0, _), (1, _)]) hX dX7_exchangeDraft_4 rfl (by rw [hnL]; decide) rfl ?_
  refine j_aload_n hX dX7_exchangeDraft_5 rfl 1 rfl ?_
  refine j_aload_n hX dX7_exchangeDraft_6 rfl 2 rfl ?_
  refine pf_X7_21 hX (by omega) (by omega) kc_1 (by omega) (by omega) dX7_exchangeDraft_7 ?_
  refine j_up hI ro_1_1 (by omega) (by omega) (Or.inl (by omega)) (fun M1 w2 hw3 hM4 hI5 hf6 => ?_)
  have hF7 := Fr.put hF hM4 (by omega)
  refine j_aload_n hX dX7_exchangeDraft_10 rfl 0 rfl ?_
  exact hret _ _ _ _ dX7_exchangeDraft_11 (by omega) ⟨hI5, hF7, by first | assumption | omega, by first | assumption | omega⟩
