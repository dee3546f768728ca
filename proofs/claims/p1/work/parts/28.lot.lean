theorem dX7_readLot_0 : decode cX7_readLot 0 = .ok (.aload_n 0, 1) := by decide +kernel
theorem dX7_readLot_1 : decode cX7_readLot 1 = .ok (.aload_n 0, 1) := by decide +kernel
theorem dX7_readLot_2 : decode cX7_readLot 2 = .ok (.getfield 21, 3) := by decide +kernel
theorem dX7_readLot_5 : decode cX7_readLot 5 = .ok (.getfield 101, 3) := by decide +kernel
theorem dX7_readLot_8 : decode cX7_readLot 8 = .ok (.ifCond .ne 7, 3) := by decide +kernel
theorem dX7_readLot_11 : decode cX7_readLot 11 = .ok (.iconst 1, 1) := by decide +kernel
theorem dX7_readLot_12 : decode cX7_readLot 12 = .ok (.goto 4, 3) := by decide +kernel
theorem dX7_readLot_15 : decode cX7_readLot 15 = .ok (.iconst 0, 1) := by decide +kernel
theorem dX7_readLot_16 : decode cX7_readLot 16 = .ok (.invokevirtual 82, 3) := by decide +kernel
theorem dX7_readLot_19 : decode cX7_readLot 19 = .ok (.ifCond .ne 5, 3) := by decide +kernel
theorem dX7_readLot_22 : decode cX7_readLot 22 = .ok (.iconst 0, 1) := by decide +kernel
theorem dX7_readLot_23 : decode cX7_readLot 23 = .ok (.ireturn, 1) := by decide +kernel
theorem dX7_readLot_24 : decode cX7_readLot 24 = .ok (.aload_n 0, 1) := by decide +kernel
theorem dX7_readLot_25 : decode cX7_readLot 25 = .ok (.getfield 21, 3) := by decide +kernel
theorem dX7_readLot_28 : decode cX7_readLot 28 = .ok (.iconst 1, 1) := by decide +kernel
theorem dX7_readLot_29 : decode cX7_readLot 29 = .ok (.putfield 101, 3) := by decide +kernel
theorem dX7_readLot_32 : decode cX7_readLot 32 = .ok (.iconst 0, 1) := by decide +kernel
theorem dX7_readLot_33 : decode cX7_readLot 33 = .ok (.istore_n 1, 1) := by decide +kernel
theorem dX7_readLot_34 : decode cX7_readLot 34 = .ok (.iconst 0, 1) := by decide +kernel
theorem dX7_readLot_35 : decode cX7_readLot 35 = .ok (.istore_n 2, 1) := by decide +kernel
theorem dX7_readLot_36 : decode cX7_readLot 36 = .ok (.iload_n 2, 1) := by decide +kernel
theorem dX7_readLot_37 : decode cX7_readLot 37 = .ok (.bipush 6, 2) := by decide +kernel
theorem dX7_readLot_39 : decode cX7_readLot 39 = .ok (.if_icmp .gt 92, 3) := by decide +kernel
theorem dX7_readLot_42 : decode cX7_readLot 42 = .ok (.iload_n 2, 1) := by decide +kernel
theorem dX7_readLot_43 : decode cX7_readLot 43 = .ok (.aload_n 0, 1) := by decide +kernel
theorem dX7_readLot_44 : decode cX7_readLot 44 = .ok (.getfield 21, 3) := by decide +kernel
theorem dX7_readLot_47 : decode cX7_readLot 47 = .ok (.getfield 98, 3) := by decide +kernel
theorem dX7_readLot_50 : decode cX7_readLot 50 = .ok (.if_icmp .lt 14, 3) := by decide +kernel
theorem dX7_readLot_53 : decode cX7_readLot 53 = .ok (.aload_n 0, 1) := by decide +kernel
theorem dX7_readLot_54 : decode cX7_readLot 54 = .ok (.getfield 12, 3) := by decide +kernel
theorem dX7_readLot_57 : decode cX7_readLot 57 = .ok (.getfield 44, 3) := by decide +kernel
theorem dX7_readLot_60 : decode cX7_readLot 60 = .ok (.iconst 1, 1) := by decide +kernel
theorem dX7_readLot_61 : decode cX7_readLot 61 = .ok (.if_icmp .ne 70, 3) := by decide +kernel
theorem dX7_readLot_64 : decode cX7_readLot 64 = .ok (.aload_n 0, 1) := by decide +kernel
theorem dX7_readLot_65 : decode cX7_readLot 65 = .ok (.invokevirtual 133, 3) := by decide +kernel
theorem dX7_readLot_68 : decode cX7_readLot 68 = .ok (.ifCond .ne 5, 3) := by decide +kernel
theorem dX7_readLot_71 : decode cX7_readLot 71 = .ok (.iconst 0, 1) := by decide +kernel
theorem dX7_readLot_72 : decode cX7_readLot 72 = .ok (.ireturn, 1) := by decide +kernel
theorem dX7_readLot_73 : decode cX7_readLot 73 = .ok (.iload_n 1, 1) := by decide +kernel
theorem dX7_readLot_74 : decode cX7_readLot 74 = .ok (.aload_n 0, 1) := by decide +kernel
theorem dX7_readLot_75 : decode cX7_readLot 75 = .ok (.getfield 32, 3) := by decide +kernel
theorem dX7_readLot_78 : decode cX7_readLot 78 = .ok (.ishr, 1) := by decide +kernel
theorem dX7_readLot_79 : decode cX7_readLot 79 = .ok (.iconst 1, 1) := by decide +kernel
theorem dX7_readLot_80 : decode cX7_readLot 80 = .ok (.iand, 1) := by decide +kernel
theorem dX7_readLot_81 : decode cX7_readLot 81 = .ok (.ifCond .ne 9, 3) := by decide +kernel
theorem dX7_readLot_84 : decode cX7_readLot 84 = .ok (.iload_n 2, 1) := by decide +kernel
theorem dX7_readLot_85 : decode cX7_readLot 85 = .ok (.bipush 6, 2) := by decide +kernel
theorem dX7_readLot_87 : decode cX7_readLot 87 = .ok (.if_icmp .lt 9, 3) := by decide +kernel
theorem dX7_readLot_90 : decode cX7_readLot 90 = .ok (.aload_n 0, 1) := by decide +kernel
theorem dX7_readLot_91 : decode cX7_readLot 91 = .ok (.iconst 3, 1) := by decide +kernel
theorem dX7_readLot_92 : decode cX7_readLot 92 = .ok (.invokevirtual 95, 3) := by decide +kernel
theorem dX7_readLot_95 : decode cX7_readLot 95 = .ok (.ireturn, 1) := by decide +kernel
theorem dX7_readLot_96 : decode cX7_readLot 96 = .ok (.iload_n 1, 1) := by decide +kernel
theorem dX7_readLot_97 : decode cX7_readLot 97 = .ok (.iconst 1, 1) := by decide +kernel
theorem dX7_readLot_98 : decode cX7_readLot 98 = .ok (.aload_n 0, 1) := by decide +kernel
theorem dX7_readLot_99 : decode cX7_readLot 99 = .ok (.getfield 32, 3) := by decide +kernel
theorem dX7_readLot_102 : decode cX7_readLot 102 = .ok (.ishl, 1) := by decide +kernel
theorem dX7_readLot_103 : decode cX7_readLot 103 = .ok (.ior, 1) := by decide +kernel
theorem dX7_readLot_104 : decode cX7_readLot 104 = .ok (.istore_n 1, 1) := by decide +kernel
theorem dX7_readLot_105 : decode cX7_readLot 105 = .ok (.aload_n 0, 1) := by decide +kernel
theorem dX7_readLot_106 : decode cX7_readLot 106 = .ok (.getfield 21, 3) := by decide +kernel
theorem dX7_readLot_109 : decode cX7_readLot 109 = .ok (.getfield 136, 3) := by decide +kernel
theorem dX7_readLot_112 : decode cX7_readLot 112 = .ok (.iload_n 2, 1) := by decide +kernel
theorem dX7_readLot_113 : decode cX7_readLot 113 = .ok (.aload_n 0, 1) := by decide +kernel
theorem dX7_readLot_114 : decode cX7_readLot 114 = .ok (.getfield 32, 3) := by decide +kernel
theorem dX7_readLot_117 : decode cX7_readLot 117 = .ok (.iastore, 1) := by decide +kernel
theorem dX7_readLot_118 : decode cX7_readLot 118 = .ok (.aload_n 0, 1) := by decide +kernel
theorem dX7_readLot_119 : decode cX7_readLot 119 = .ok (.getfield 12, 3) := by decide +kernel
theorem dX7_readLot_122 : decode cX7_readLot 122 = .ok (.invokevirtual 41, 3) := by decide +kernel
theorem dX7_readLot_125 : decode cX7_readLot 125 = .ok (.iinc 2 1, 3) := by decide +kernel
theorem dX7_readLot_128 : decode cX7_readLot 128 = .ok (.goto (-92), 3) := by decide +kernel
theorem dX7_readLot_131 : decode cX7_readLot 131 = .ok (.aload_n 0, 1) := by decide +kernel
theorem dX7_readLot_132 : decode cX7_readLot 132 = .ok (.getfield 21, 3) := by decide +kernel
theorem dX7_readLot_135 : decode cX7_readLot 135 = .ok (.getfield 98, 3) := by decide +kernel
theorem dX7_readLot_138 : decode cX7_readLot 138 = .ok (.ifCond .gt 11, 3) := by decide +kernel
theorem dX7_readLot_141 : decode cX7_readLot 141 = .ok (.aload_n 0, 1) := by decide +kernel
theorem dX7_readLot_142 : decode cX7_readLot 142 = .ok (.iconst 2, 1) := by decide +kernel
theorem dX7_readLot_143 : decode cX7_readLot 143 = .ok (.invokevirtual 95, 3) := by decide +kernel
theorem dX7_readLot_146 : decode cX7_readLot 146 = .ok (.ifCond .eq 7, 3) := by decide +kernel
theorem dX7_readLot_149 : decode cX7_readLot 149 = .ok (.iconst 1, 1) := by decide +kernel
theorem dX7_readLot_150 : decode cX7_readLot 150 = .ok (.goto 4, 3) := by decide +kernel
theorem dX7_readLot_153 : decode cX7_readLot 153 = .ok (.iconst 0, 1) := by decide +kernel
theorem dX7_readLot_154 : decode cX7_readLot 154 = .ok (.ireturn, 1) := by decide +kernel
set_option maxHeartbeats 2000000 in
set_option maxRecDepth 20000 in
theorem c_X7_readLot (l : Launch) (D : va_G) (cy : Nat → ClassId) (B N : Nat) (q : Int) (nr : Int) (M : MM) (hN : 210 ≤ N) (hI : Iv M) (hq : q = 5 ∨ q = 180) (hto : M.1 1 1 = q) (hnr : M.1 q 0 = nr) (hDL : DL q M) (hkn : KNo M) (hnb : 0 ≤ nr ∧ nr ≤ 6) : CI l D cy B N 11 yX7_readLot cX7_readLot 3 (some .boolean) [rv B 1] M (fun z M' => Iv M' ∧ Fr (fun a b => (a = 1 ∧ 2 ≤ b ∧ b ≤ 4) ∨ (a = 2 ∧ 3 ≤ b ∧ b ≤ 6) ∨ (q ≤ a ∧ a ≤ q + 20)) M M' ∧ (0 ≤ z ∧ z ≤ 1) ∧ (KNo M') ∧ (z = 1 → DL q M')) := by
  refine mk_CI (by decide) (Nat.le_of_ble_eq_true rfl) ?_
  intro X exl exD excy hnL hX hret
  have hce : 0 + 0 ≤ (xR X).cells ∧ 0 + 0 ≤ (xR X).slots := ⟨Nat.zero_le _, Nat.zero_le _⟩
  have hdq : 5 ≤ q ∧ q ≤ 180 := by omega
  have hF : Fr (fun a b => (a = 1 ∧ 2 ≤ b ∧ b ≤ 4) ∨ (a = 2 ∧ 3 ≤ b ∧ b ≤ 6) ∨ (q ≤ a ∧ a ≤ q + 20)) M M := Fr.rf
  have cp : ∀ n : Nat, (∀ (x1 x2 : Int), ∀ (hl : Int), ∀ (Mc : MM), I32 x1 → I32 x2 → Iv Mc → Fr (fun a b => (a = 1 ∧ 2 ≤ b ∧ b ≤ 4) ∨ (a = 2 ∧ 3 ≤ b ∧ b ≤ 6) ∨ (q ≤ a ∧ a ≤ q + 20)) M Mc → Mc.1 1 1 = q → Mc.1 q 0 = nr → Mc.1 q 9 = hl → KNo Mc → (0 ≤ x2 ∧ x2 ≤ 7 ∧ hl = 1) → (Vr x2 nr q Mc) → 0 ≤ 32 * (7 - x2) + 1 → 32 * (7 - x2) + 1 < (n : Int) → J X B N 0 0 36 [(0, rv B 1), (1, iv x1), (2, iv x2)] [] Mc) := by
    intro n
    induction n with
    | zero => exact by intros; exfalso; omega
    | succ n ih =>
      · intro x1 x2 hl Mc hxx1 hxx2 hI hF hk_0 hk_1 hk_2 hV_0 h2 h3 hm0 hm1
        refine j_iload_n hX dX7_readLot_36 rfl 2 rfl ?_
        refine j_bipush hX dX7_readLot_37 rfl ?_
        refine j_icmp_gt (tgt := 131) hX dX7_readLot_39 (by decide) (by omega) (by omega) (fun hc1 => ?_) (fun hc1 => ?_)
        · skip
          have hVQ : VQ nr q Mc := Vr_full h3 (by omega)
          have hDLm : DL q Mc := fun _ => by rw [hk_1]; exact hVQ
          refine j_aload_n hX dX7_readLot_131 rfl 0 rfl ?_
          refine gf_X7_21 hX (by omega) (by omega) kc_1 hk_0 (by omega) dX7_readLot_132 ?_
          refine gf_X7_98 hX (by omega) (by omega) (kq hq) dX7_readLot_135 ?_
          refine j_top hk_1 ?_
          refine j_if_gt (tgt := 149) hX dX7_readLot_138 (by decide) (by omega) (fun hc2 => ?_) (fun hc2 => ?_)
          · skip
            refine j_iconst hX dX7_readLot_149 ?_
            refine j_goto (tgt := 154) hX dX7_readLot_150 (by decide) ?_
            exact hret _ _ _ _ dX7_readLot_154 (nb (by omega)) (by omega) ⟨hI, hF, by omega, by first | assumption | omega, by first | (intro _; assumption) | (intro h; exact absurd h (by decide)) | (intro _ h; omega)⟩
          · skip
            refine j_aload_n hX dX7_readLot_141 rfl 0 rfl ?_
            refine j_iconst hX dX7_readLot_142 ?_
            refine j_callVI hX lk_X7_95 (c_X7_refuse _ _ _ _ _ _ _ _ (by omega) hI (by omega) (by assumption) hk_0) (by omega) hce rfl rfl (by omega) (by omega) kc_1 rfl rfl (Nat.le_of_ble_eq_true rfl) dX7_readLot_143 (fun z3 M4 hz6 hp5 => ?_)
            obtain ⟨hI7, hG8, hb9, hq10⟩ := hp5
            have hV11 := KN_fr hV_0 hG8 (by omega) (by omega)
            have hk12 := kp_fr hG8 (by omega) hk_0
            have hk13 := kp_fr hG8 (by omega) hk_1
            have hk14 := kp_fr hG8 (by omega) hk_2
            have hF15 := Fr.trans hF hG8 (fun a b h => by omega)
            refine j_if_eq (tgt := 153) hX dX7_readLot_146 (by decide) (by omega) (fun hc16 => ?_) (fun hc16 => ?_)
            · skip
              refine j_iconst hX dX7_readLot_153 ?_
              exact hret _ _ _ _ dX7_readLot_154 (nb (by omega)) (by omega) ⟨hI7, hF15, by omega, by first | assumption | omega, by first | (intro _; assumption) | (intro h; exact absurd h (by decide)) | (intro _ h; omega)⟩
            · skip
              refine j_iconst hX dX7_readLot_149 ?_
              refine j_goto (tgt := 154) hX dX7_readLot_150 (by decide) ?_
              exact hret _ _ _ _ dX7_readLot_154 (nb (by omega)) (by omega) ⟨hI7, hF15, by omega, by first | assumption | omega, by first | (intro _; assumption) | (intro h; exact absurd h (by decide)) | (intro _ h; omega)⟩
        · skip
          refine j_iload_n hX dX7_readLot_42 rfl 2 rfl ?_
          refine j_aload_n hX dX7_readLot_43 rfl 0 rfl ?_
          refine gf_X7_21 hX (by omega) (by omega) kc_1 hk_0 (by omega) dX7_readLot_44 ?_
          refine gf_X7_98 hX (by omega) (by omega) (kq hq) dX7_readLot_47 ?_
          refine j_top hk_1 ?_
          refine j_icmp_lt (tgt := 64) hX dX7_readLot_50 (by decide) (by omega) (by omega) (fun hc17 => ?_) (fun hc17 => ?_)
          · skip
            refine j_aload_n hX dX7_readLot_64 rfl 0 rfl ?_
            refine j_callVI hX lk_X7_133 (c_X7_isRoom _ _ _ _ _ _ _ (by omega) hI (by assumption) hk_0) (by omega) hce rfl rfl (by omega) (by omega) kc_1 rfl rfl (Nat.le_of_ble_eq_true rfl) dX7_readLot_65 (fun z18 M19 hz21 hp20 => ?_)
            obtain ⟨hI22, hG23, hb24, hq25⟩ := hp20
            have hV26 := KN_fr hV_0 hG23 (by omega) (by omega)
            have hk27 := kp_fr hG23 (by omega) hk_0
            have hk28 := kp_fr hG23 (by omega) hk_1
            have hk29 := kp_fr hG23 (by omega) hk_2
            have hF30 := Fr.trans hF hG23 (fun a b h => by omega)
            have h3w : Vr x2 nr q M19 := Vr_keep h3 (fun b => hG23 _ _ (by omega))
            refine j_if_ne (tgt := 73) hX dX7_readLot_68 (by decide) (by omega) (fun hc31 => ?_) (fun hc31 => ?_)
            · skip
              have hi32 := hq25 (by omega)
              clear hq25
              refine j_iload_n hX dX7_readLot_73 rfl 1 rfl ?_
              refine j_aload_n hX dX7_readLot_74 rfl 0 rfl ?_
              refine gf_X7_32 hX (by omega) (by omega) kc_1 dX7_readLot_75 ?_
              refine j_name hI22 ro_1_4 (fun v33 hv34 hl35 hh36 => ?_)
              have hk37 := hv34.symm
              refine j_ishr hX dX7_readLot_78 (fun z38 hz39 hy40 => ?_)
              refine j_iconst hX dX7_readLot_79 ?_
              refine j_iand hX dX7_readLot_80 (fun z41 hz42 hy43 => ?_)
              have ha44 := (and_f hz42 (by omega) (by omega)).2 (by omega)
              refine j_if_ne (tgt := 90) hX dX7_readLot_81 (by decide) (by omega) (fun hc45 => ?_) (fun hc45 => ?_)
              · skip
                refine j_aload_n hX dX7_readLot_90 rfl 0 rfl ?_
                refine j_iconst hX dX7_readLot_91 ?_
                refine j_callVI hX lk_X7_95 (c_X7_refuse _ _ _ _ _ _ _ _ (by omega) hI22 (by omega) (by assumption) hk27) (by omega) hce rfl rfl (by omega) (by omega) kc_1 rfl rfl (Nat.le_of_ble_eq_true rfl) dX7_readLot_92 (fun z46 M47 hz49 hp48 => ?_)
                obtain ⟨hI50, hG51, hb52, hq53⟩ := hp48
                have hV54 := KN_fr hV26 hG51 (by omega) (by omega)
                have hk55 := kp_fr hG51 (by omega) hk27
                have hk56 := kp_fr hG51 (by omega) hk28
                have hk57 := kp_fr hG51 (by omega) hk29
                have hk58 := kp_fr hG51 (by omega) hk37
                clear hk27 hk28 hk29 hk37
                have hF59 := Fr.trans hF30 hG51 (fun a b h => by omega)
                exact hret _ _ _ _ dX7_readLot_95 (nb (by omega)) (by omega) ⟨hI50, hF59, by omega, by first | assumption | omega, by first | (intro _; assumption) | (intro h; exact absurd h (by decide)) | (intro _ h; omega)⟩
              · skip
                refine j_iload_n hX dX7_readLot_84 rfl 2 rfl ?_
                refine j_bipush hX dX7_readLot_85 rfl ?_
                refine j_icmp_lt (tgt := 96) hX dX7_readLot_87 (by decide) (by omega) (by omega) (fun hc60 => ?_) (fun hc60 => ?_)
                · skip
                  refine j_iload_n hX dX7_readLot_96 rfl 1 rfl ?_
                  refine j_iconst hX dX7_readLot_97 ?_
                  refine j_aload_n hX dX7_readLot_98 rfl 0 rfl ?_
                  refine gf_X7_32 hX (by omega) (by omega) kc_1 dX7_readLot_99 ?_
                  refine j_top hk37 ?_
                  refine j_ishl hX dX7_readLot_102 (fun z61 hz62 hy63 => ?_)
                  refine j_ior hX dX7_readLot_103 (fun z64 hz65 hy66 => ?_)
                  refine j_istore_n (lv' := [(1, _), (0, _), (2, _)]) hX dX7_readLot_104 rfl (by rw [hnL]; decide) rfl ?_
                  refine j_aload_n hX dX7_readLot_105 rfl 1 rfl ?_
                  refine gf_X7_21 hX (by omega) (by omega) kc_1 hk27 (by omega) dX7_readLot_106 ?_
                  refine gf_X7_136 hX (by omega) (by omega) (kq hq) (fq_10 hI22 hq) (by omega) dX7_readLot_109 ?_
                  refine j_iload_n hX dX7_readLot_112 rfl 2 rfl ?_
                  refine j_aload_n hX dX7_readLot_113 rfl 1 rfl ?_
                  refine gf_X7_32 hX (by omega) (by omega) kc_1 dX7_readLot_114 ?_
                  refine j_top hk37 ?_
                  refine j_iast hX (by omega) (by omega) (kq_6 hq) (by omega) (by omega) (by omega) (by omega) dX7_readLot_117 ?_
                  refine j_up hI22 (aq_6 hq _) (by omega) (by omega) (Or.inl (by omega)) (fun M67 w68 hw69 hM70 hI71 hf72 => ?_)
                  have hV73 := KN_up hV26 hM70 (by omega)
                  have hk74 := kp_up hM70 (by omega) hk27
                  have hk75 := kp_up hM70 (by omega) hk28
                  have hk76 := kp_up hM70 (by omega) hk29
                  have hk77 := kp_up hM70 (by omega) hk37
                  clear hk27 hk28 hk29 hk37
                  have hF78 := Fr.put hF30 hM70 (by omega)
                  have hP0 := Vr_put h3w hM70 (by omega)
                  refine j_aload_n hX dX7_readLot_118 rfl 1 rfl ?_
                  refine gf_X7_12 hX (by omega) (by omega) kc_1 (fc_1_0 hI71) (by decide) dX7_readLot_119 ?_
                  refine j_callVV hX lk_X7_41 (c_X9_advance _ _ _ _ _ _ (by omega) hI71 (by first | assumption | omega)) (by omega) hce rfl rfl (by omega) (by omega) kc_2 rfl rfl (Nat.le_of_ble_eq_true rfl) dX7_readLot_122 (fun M80 hp81 => ?_)
                  obtain ⟨hI83, hG84, hq85⟩ := hp81
                  have hk87 := kp_fr hG84 (by omega) hk74
                  have hk88 := kp_fr hG84 (by omega) hk75
                  have hk89 := kp_fr hG84 (by omega) hk76
                  have hk90 := kp_fr hG84 (by omega) hk77
                  clear hk74 hk75 hk76 hk77
                  have hF91 := Fr.trans hF78 hG84 (fun a b h => by omega)
                  have hP1 : Vr (x2 + 1) nr q M80 := Vr_keep hP0 (fun b => hG84 _ _ (by omega))
                  refine j_iinc (lv' := [(2, _), (1, _), (0, _)]) hX dX7_readLot_125 2 rfl (by rw [hnL]; decide) rfl ?_
                  refine j_goto (tgt := 36) hX dX7_readLot_128 (by decide) ?_
                  refine j_sub [2, 1, 0] rfl ?_
                  exact ih _ _ _ _ (by omega) (by omega) hI83 hF91 hk87 hk88 hk89 hq85 (by first | assumption | omega) (by first | exact Vr_0 | assumption) (by omega) (by omega)
                · skip
                  refine j_aload_n hX dX7_readLot_90 rfl 0 rfl ?_
                  refine j_iconst hX dX7_readLot_91 ?_
                  refine j_callVI hX lk_X7_95 (c_X7_refuse _ _ _ _ _ _ _ _ (by omega) hI22 (by omega) (by assumption) hk27) (by omega) hce rfl rfl (by omega) (by omega) kc_1 rfl rfl (Nat.le_of_ble_eq_true rfl) dX7_readLot_92 (fun z92 M93 hz95 hp94 => ?_)
                  obtain ⟨hI96, hG97, hb98, hq99⟩ := hp94
                  have hV100 := KN_fr hV26 hG97 (by omega) (by omega)
                  have hk101 := kp_fr hG97 (by omega) hk27
                  have hk102 := kp_fr hG97 (by omega) hk28
                  have hk103 := kp_fr hG97 (by omega) hk29
                  have hk104 := kp_fr hG97 (by omega) hk37
                  clear hk27 hk28 hk29 hk37
                  have hF105 := Fr.trans hF30 hG97 (fun a b h => by omega)
                  exact hret _ _ _ _ dX7_readLot_95 (nb (by omega)) (by omega) ⟨hI96, hF105, by omega, by first | assumption | omega, by first | (intro _; assumption) | (intro h; exact absurd h (by decide)) | (intro _ h; omega)⟩
            · skip
              clear hq25
              refine j_iconst hX dX7_readLot_71 ?_
              exact hret _ _ _ _ dX7_readLot_72 (nb (by omega)) (by omega) ⟨hI22, hF30, by omega, by first | assumption | omega, by first | (intro _; assumption) | (intro h; exact absurd h (by decide)) | (intro _ h; omega)⟩
          · skip
            refine j_aload_n hX dX7_readLot_53 rfl 0 rfl ?_
            refine gf_X7_12 hX (by omega) (by omega) kc_1 (fc_1_0 hI) (by decide) dX7_readLot_54 ?_
            refine gf_X7_44 hX (by omega) (by omega) kc_2 dX7_readLot_57 ?_
            refine j_name hI ro_2_4 (fun v106 hv107 hl108 hh109 => ?_)
            have hk110 := hv107.symm
            refine j_iconst hX dX7_readLot_60 ?_
            refine j_icmp_ne (tgt := 131) hX dX7_readLot_61 (by decide) (by omega) (by omega) (fun hc111 => ?_) (fun hc111 => ?_)
            · skip
              have hVQ : VQ nr q Mc := Vr_full h3 (by omega)
              have hDLm : DL q Mc := fun _ => by rw [hk_1]; exact hVQ
              refine j_aload_n hX dX7_readLot_131 rfl 0 rfl ?_
              refine gf_X7_21 hX (by omega) (by omega) kc_1 hk_0 (by omega) dX7_readLot_132 ?_
              refine gf_X7_98 hX (by omega) (by omega) (kq hq) dX7_readLot_135 ?_
              refine j_top hk_1 ?_
              refine j_if_gt (tgt := 149) hX dX7_readLot_138 (by decide) (by omega) (fun hc112 => ?_) (fun hc112 => ?_)
              · skip
                refine j_iconst hX dX7_readLot_149 ?_
                refine j_goto (tgt := 154) hX dX7_readLot_150 (by decide) ?_
                exact hret _ _ _ _ dX7_readLot_154 (nb (by omega)) (by omega) ⟨hI, hF, by omega, by first | assumption | omega, by first | (intro _; assumption) | (intro h; exact absurd h (by decide)) | (intro _ h; omega)⟩
              · skip
                refine j_aload_n hX dX7_readLot_141 rfl 0 rfl ?_
                refine j_iconst hX dX7_readLot_142 ?_
                refine j_callVI hX lk_X7_95 (c_X7_refuse _ _ _ _ _ _ _ _ (by omega) hI (by omega) (by assumption) hk_0) (by omega) hce rfl rfl (by omega) (by omega) kc_1 rfl rfl (Nat.le_of_ble_eq_true rfl) dX7_readLot_143 (fun z113 M114 hz116 hp115 => ?_)
                obtain ⟨hI117, hG118, hb119, hq120⟩ := hp115
                have hV121 := KN_fr hV_0 hG118 (by omega) (by omega)
                have hk122 := kp_fr hG118 (by omega) hk_0
                have hk123 := kp_fr hG118 (by omega) hk_1
                have hk124 := kp_fr hG118 (by omega) hk_2
                have hk125 := kp_fr hG118 (by omega) hk110
                clear hk110
                have hF126 := Fr.trans hF hG118 (fun a b h => by omega)
                refine j_if_eq (tgt := 153) hX dX7_readLot_146 (by decide) (by omega) (fun hc127 => ?_) (fun hc127 => ?_)
                · skip
                  refine j_iconst hX dX7_readLot_153 ?_
                  exact hret _ _ _ _ dX7_readLot_154 (nb (by omega)) (by omega) ⟨hI117, hF126, by omega, by first | assumption | omega, by first | (intro _; assumption) | (intro h; exact absurd h (by decide)) | (intro _ h; omega)⟩
                · skip
                  refine j_iconst hX dX7_readLot_149 ?_
                  refine j_goto (tgt := 154) hX dX7_readLot_150 (by decide) ?_
                  exact hret _ _ _ _ dX7_readLot_154 (nb (by omega)) (by omega) ⟨hI117, hF126, by omega, by first | assumption | omega, by first | (intro _; assumption) | (intro h; exact absurd h (by decide)) | (intro _ h; omega)⟩
            · skip
              refine j_aload_n hX dX7_readLot_64 rfl 0 rfl ?_
              refine j_callVI hX lk_X7_133 (c_X7_isRoom _ _ _ _ _ _ _ (by omega) hI (by assumption) hk_0) (by omega) hce rfl rfl (by omega) (by omega) kc_1 rfl rfl (Nat.le_of_ble_eq_true rfl) dX7_readLot_65 (fun z128 M129 hz131 hp130 => ?_)
              obtain ⟨hI132, hG133, hb134, hq135⟩ := hp130
              have hV136 := KN_fr hV_0 hG133 (by omega) (by omega)
              have hk137 := kp_fr hG133 (by omega) hk_0
              have hk138 := kp_fr hG133 (by omega) hk_1
              have hk139 := kp_fr hG133 (by omega) hk_2
              have hk140 := kp_fr hG133 (by omega) hk110
              clear hk110
              have hF141 := Fr.trans hF hG133 (fun a b h => by omega)
              have h3w : Vr x2 nr q M129 := Vr_keep h3 (fun b => hG133 _ _ (by omega))
              refine j_if_ne (tgt := 73) hX dX7_readLot_68 (by decide) (by omega) (fun hc142 => ?_) (fun hc142 => ?_)
              · skip
                have hi143 := hq135 (by omega)
                clear hq135
                refine j_iload_n hX dX7_readLot_73 rfl 1 rfl ?_
                refine j_aload_n hX dX7_readLot_74 rfl 0 rfl ?_
                refine gf_X7_32 hX (by omega) (by omega) kc_1 dX7_readLot_75 ?_
                refine j_name hI132 ro_1_4 (fun v144 hv145 hl146 hh147 => ?_)
                have hk148 := hv145.symm
                refine j_ishr hX dX7_readLot_78 (fun z149 hz150 hy151 => ?_)
                refine j_iconst hX dX7_readLot_79 ?_
                refine j_iand hX dX7_readLot_80 (fun z152 hz153 hy154 => ?_)
                have ha155 := (and_f hz153 (by omega) (by omega)).2 (by omega)
                refine j_if_ne (tgt := 90) hX dX7_readLot_81 (by decide) (by omega) (fun hc156 => ?_) (fun hc156 => ?_)
                · skip
                  refine j_aload_n hX dX7_readLot_90 rfl 0 rfl ?_
                  refine j_iconst hX dX7_readLot_91 ?_
                  refine j_callVI hX lk_X7_95 (c_X7_refuse _ _ _ _ _ _ _ _ (by omega) hI132 (by omega) (by assumption) hk137) (by omega) hce rfl rfl (by omega) (by omega) kc_1 rfl rfl (Nat.le_of_ble_eq_true rfl) dX7_readLot_92 (fun z157 M158 hz160 hp159 => ?_)
                  obtain ⟨hI161, hG162, hb163, hq164⟩ := hp159
                  have hV165 := KN_fr hV136 hG162 (by omega) (by omega)
                  have hk166 := kp_fr hG162 (by omega) hk137
                  have hk167 := kp_fr hG162 (by omega) hk138
                  have hk168 := kp_fr hG162 (by omega) hk139
                  have hk169 := kp_fr hG162 (by omega) hk140
                  have hk170 := kp_fr hG162 (by omega) hk148
                  clear hk137 hk138 hk139 hk140 hk148
                  have hF171 := Fr.trans hF141 hG162 (fun a b h => by omega)
                  exact hret _ _ _ _ dX7_readLot_95 (nb (by omega)) (by omega) ⟨hI161, hF171, by omega, by first | assumption | omega, by first | (intro _; assumption) | (intro h; exact absurd h (by decide)) | (intro _ h; omega)⟩
                · skip
                  refine j_iload_n hX dX7_readLot_84 rfl 2 rfl ?_
                  refine j_bipush hX dX7_readLot_85 rfl ?_
                  refine j_icmp_lt (tgt := 96) hX dX7_readLot_87 (by decide) (by omega) (by omega) (fun hc172 => ?_) (fun hc172 => ?_)
                  · skip
                    refine j_iload_n hX dX7_readLot_96 rfl 1 rfl ?_
                    refine j_iconst hX dX7_readLot_97 ?_
                    refine j_aload_n hX dX7_readLot_98 rfl 0 rfl ?_
                    refine gf_X7_32 hX (by omega) (by omega) kc_1 dX7_readLot_99 ?_
                    refine j_top hk148 ?_
                    refine j_ishl hX dX7_readLot_102 (fun z173 hz174 hy175 => ?_)
                    refine j_ior hX dX7_readLot_103 (fun z176 hz177 hy178 => ?_)
                    refine j_istore_n (lv' := [(1, _), (0, _), (2, _)]) hX dX7_readLot_104 rfl (by rw [hnL]; decide) rfl ?_
                    refine j_aload_n hX dX7_readLot_105 rfl 1 rfl ?_
                    refine gf_X7_21 hX (by omega) (by omega) kc_1 hk137 (by omega) dX7_readLot_106 ?_
                    refine gf_X7_136 hX (by omega) (by omega) (kq hq) (fq_10 hI132 hq) (by omega) dX7_readLot_109 ?_
                    refine j_iload_n hX dX7_readLot_112 rfl 2 rfl ?_
                    refine j_aload_n hX dX7_readLot_113 rfl 1 rfl ?_
                    refine gf_X7_32 hX (by omega) (by omega) kc_1 dX7_readLot_114 ?_
                    refine j_top hk148 ?_
                    refine j_iast hX (by omega) (by omega) (kq_6 hq) (by omega) (by omega) (by omega) (by omega) dX7_readLot_117 ?_
                    refine j_up hI132 (aq_6 hq _) (by omega) (by omega) (Or.inl (by omega)) (fun M179 w180 hw181 hM182 hI183 hf184 => ?_)
                    have hV185 := KN_up hV136 hM182 (by omega)
                    have hk186 := kp_up hM182 (by omega) hk137
                    have hk187 := kp_up hM182 (by omega) hk138
                    have hk188 := kp_up hM182 (by omega) hk139
                    have hk189 := kp_up hM182 (by omega) hk140
                    have hk190 := kp_up hM182 (by omega) hk148
                    clear hk137 hk138 hk139 hk140 hk148
                    have hF191 := Fr.put hF141 hM182 (by omega)
                    have hP0 := Vr_put h3w hM182 (by omega)
                    refine j_aload_n hX dX7_readLot_118 rfl 1 rfl ?_
                    refine gf_X7_12 hX (by omega) (by omega) kc_1 (fc_1_0 hI183) (by decide) dX7_readLot_119 ?_
                    refine j_callVV hX lk_X7_41 (c_X9_advance _ _ _ _ _ _ (by omega) hI183 (by first | assumption | omega)) (by omega) hce rfl rfl (by omega) (by omega) kc_2 rfl rfl (Nat.le_of_ble_eq_true rfl) dX7_readLot_122 (fun M193 hp194 => ?_)
                    obtain ⟨hI196, hG197, hq198⟩ := hp194
                    have hk200 := kp_fr hG197 (by omega) hk186
                    have hk201 := kp_fr hG197 (by omega) hk187
                    have hk202 := kp_fr hG197 (by omega) hk188
                    have hk203 := kp_fr hG197 (by omega) hk190
                    clear hk186 hk187 hk188 hk189 hk190
                    have hF204 := Fr.trans hF191 hG197 (fun a b h => by omega)
                    have hP1 : Vr (x2 + 1) nr q M193 := Vr_keep hP0 (fun b => hG197 _ _ (by omega))
                    refine j_iinc (lv' := [(2, _), (1, _), (0, _)]) hX dX7_readLot_125 2 rfl (by rw [hnL]; decide) rfl ?_
                    refine j_goto (tgt := 36) hX dX7_readLot_128 (by decide) ?_
                    refine j_sub [2, 1, 0] rfl ?_
                    exact ih _ _ _ _ (by omega) (by omega) hI196 hF204 hk200 hk201 hk202 hq198 (by first | assumption | omega) (by first | exact Vr_0 | assumption) (by omega) (by omega)
                  · skip
                    refine j_aload_n hX dX7_readLot_90 rfl 0 rfl ?_
                    refine j_iconst hX dX7_readLot_91 ?_
                    refine j_callVI hX lk_X7_95 (c_X7_refuse _ _ _ _ _ _ _ _ (by omega) hI132 (by omega) (by assumption) hk137) (by omega) hce rfl rfl (by omega) (by omega) kc_1 rfl rfl (Nat.le_of_ble_eq_true rfl) dX7_readLot_92 (fun z205 M206 hz208 hp207 => ?_)
                    obtain ⟨hI209, hG210, hb211, hq212⟩ := hp207
                    have hV213 := KN_fr hV136 hG210 (by omega) (by omega)
                    have hk214 := kp_fr hG210 (by omega) hk137
                    have hk215 := kp_fr hG210 (by omega) hk138
                    have hk216 := kp_fr hG210 (by omega) hk139
                    have hk217 := kp_fr hG210 (by omega) hk140
                    have hk218 := kp_fr hG210 (by omega) hk148
                    clear hk137 hk138 hk139 hk140 hk148
                    have hF219 := Fr.trans hF141 hG210 (fun a b h => by omega)
                    exact hret _ _ _ _ dX7_readLot_95 (nb (by omega)) (by omega) ⟨hI209, hF219, by omega, by first | assumption | omega, by first | (intro _; assumption) | (intro h; exact absurd h (by decide)) | (intro _ h; omega)⟩
              · skip
                clear hq135
                refine j_iconst hX dX7_readLot_71 ?_
                exact hret _ _ _ _ dX7_readLot_72 (nb (by omega)) (by omega) ⟨hI132, hF141, by omega, by first | assumption | omega, by first | (intro _; assumption) | (intro h; exact absurd h (by decide)) | (intro _ h; omega)⟩
  show J X B N 0 0 0 [(0, rv B 1)] [] M
  refine j_aload_n hX dX7_readLot_0 rfl 0 rfl ?_
  refine j_aload_n hX dX7_readLot_1 rfl 0 rfl ?_
  refine gf_X7_21 hX (by omega) (by omega) kc_1 hto (by omega) dX7_readLot_2 ?_
  refine gf_X7_101 hX (by omega) (by omega) (kq hq) dX7_readLot_5 ?_
  refine j_name hI (rq_9 hq) (fun v220 hv221 hl222 hh223 => ?_)
  have hk224 := hv221.symm
  refine j_if_ne (tgt := 15) hX dX7_readLot_8 (by decide) (by omega) (fun hc225 => ?_) (fun hc225 => ?_)
  · skip
    refine j_iconst hX dX7_readLot_15 ?_
    refine j_callVI hX lk_X7_82 (c_X7_mayStart _ _ _ _ _ _ _ _ (by omega) hI (by omega) (by assumption) hto (by first | assumption | omega) (by first | assumption | omega)) (by omega) hce rfl rfl (by omega) (by omega) kc_1 rfl rfl (Nat.le_of_ble_eq_true rfl) dX7_readLot_16 (fun z226 M227 hz229 hp228 => ?_)
    obtain ⟨hI230, hG231, hb232, hq233, hq234⟩ := hp228
    have hV236 := DL_fr hDL hG231 (fun b => by omega) (by omega) (by omega)
    have hk237 := kp_fr hG231 (by omega) hto
    have hk238 := kp_fr hG231 (by omega) hnr
    have hk239 := kp_fr hG231 (by omega) hk224
    clear hk224
    have hF240 := Fr.trans hF hG231 (fun a b h => by omega)
    refine j_if_ne (tgt := 24) hX dX7_readLot_19 (by decide) (by omega) (fun hc241 => ?_) (fun hc241 => ?_)
    · skip
      have hi242 := hq234 (by omega)
      clear hq234
      refine j_aload_n hX dX7_readLot_24 rfl 0 rfl ?_
      refine gf_X7_21 hX (by omega) (by omega) kc_1 hk237 (by omega) dX7_readLot_25 ?_
      refine j_iconst hX dX7_readLot_28 ?_
      refine pf_X7_101 hX (by omega) (by omega) (kq hq) (by omega) dX7_readLot_29 ?_
      refine j_up hI230 (rq_9 hq) (by omega) (by omega) (Or.inl (by omega)) (fun M243 w244 hw245 hM246 hI247 hf248 => ?_)
      have hV250 := KN_up hq233 hM246 (by omega)
      have hk251 := kp_up hM246 (by omega) hk237
      have hk252 := kp_up hM246 (fun h => absurd h.2 (by decide)) hk238
      clear hk237 hk238 hk239
      have hF253 := Fr.put hF240 hM246 (by omega)
      refine j_iconst hX dX7_readLot_32 ?_
      refine j_istore_n (lv' := [(1, _), (0, _)]) hX dX7_readLot_33 rfl (by rw [hnL]; decide) rfl ?_
      refine j_iconst hX dX7_readLot_34 ?_
      refine j_istore_n (lv' := [(2, _), (1, _), (0, _)]) hX dX7_readLot_35 rfl (by rw [hnL]; decide) rfl ?_
      refine j_sub [2, 1, 0] rfl ?_
      refine (cp (Int.toNat (288 + 1))) _ _ _ _ (by omega) (by omega) hI247 hF253 hk251 hk252 hf248 hV250 (by first | assumption | omega) (by first | exact Vr_0 | assumption) ?_ ?_
      · omega
      · omega
    · skip
      clear hq234
      refine j_iconst hX dX7_readLot_22 ?_
      exact hret _ _ _ _ dX7_readLot_23 (nb (by omega)) (by omega) ⟨hI230, hF240, by omega, by first | assumption | omega, by first | (intro _; assumption) | (intro h; exact absurd h (by decide)) | (intro _ h; omega)⟩
  · skip
    refine j_iconst hX dX7_readLot_11 ?_
    refine j_goto (tgt := 16) hX dX7_readLot_12 (by decide) ?_
    refine j_callVI hX lk_X7_82 (c_X7_mayStart _ _ _ _ _ _ _ _ (by omega) hI (by omega) (by assumption) hto (by first | assumption | omega) (by first | assumption | omega)) (by omega) hce rfl rfl (by omega) (by omega) kc_1 rfl rfl (Nat.le_of_ble_eq_true rfl) dX7_readLot_16 (fun z254 M255 hz257 hp256 => ?_)
    obtain ⟨hI258, hG259, hb260, hq261, hq262⟩ := hp256
    have hV264 := DL_fr hDL hG259 (fun b => by omega) (by omega) (by omega)
    have hk265 := kp_fr hG259 (by omega) hto
    have hk266 := kp_fr hG259 (by omega) hnr
    have hk267 := kp_fr hG259 (by omega) hk224
    clear hk224
    have hF268 := Fr.trans hF hG259 (fun a b h => by omega)
    refine j_if_ne (tgt := 24) hX dX7_readLot_19 (by decide) (by omega) (fun hc269 => ?_) (fun hc269 => ?_)
    · skip
      have hi270 := hq262 (by omega)
      clear hq262
      refine j_aload_n hX dX7_readLot_24 rfl 0 rfl ?_
      refine gf_X7_21 hX (by omega) (by omega) kc_1 hk265 (by omega) dX7_readLot_25 ?_
      refine j_iconst hX dX7_readLot_28 ?_
      refine pf_X7_101 hX (by omega) (by omega) (kq hq) (by omega) dX7_readLot_29 ?_
      refine j_up hI258 (rq_9 hq) (by omega) (by omega) (Or.inl (by omega)) (fun M271 w272 hw273 hM274 hI275 hf276 => ?_)
      have hV278 := KN_up hq261 hM274 (by omega)
      have hk279 := kp_up hM274 (by omega) hk265
      have hk280 := kp_up hM274 (fun h => absurd h.2 (by decide)) hk266
      clear hk265 hk266 hk267
      have hF281 := Fr.put hF268 hM274 (by omega)
      refine j_iconst hX dX7_readLot_32 ?_
      refine j_istore_n (lv' := [(1, _), (0, _)]) hX dX7_readLot_33 rfl (by rw [hnL]; decide) rfl ?_
      refine j_iconst hX dX7_readLot_34 ?_
      refine j_istore_n (lv' := [(2, _), (1, _), (0, _)]) hX dX7_readLot_35 rfl (by rw [hnL]; decide) rfl ?_
      refine j_sub [2, 1, 0] rfl ?_
      refine (cp (Int.toNat (288 + 1))) _ _ _ _ (by omega) (by omega) hI275 hF281 hk279 hk280 hf276 hV278 (by first | assumption | omega) (by first | exact Vr_0 | assumption) ?_ ?_
      · omega
      · omega
    · skip
      clear hq262
      refine j_iconst hX dX7_readLot_22 ?_
      exact hret _ _ _ _ dX7_readLot_23 (nb (by omega)) (by omega) ⟨hI258, hF268, by omega, by first | assumption | omega, by first | (intro _; assumption) | (intro h; exact absurd h (by decide)) | (intro _ h; omega)⟩
