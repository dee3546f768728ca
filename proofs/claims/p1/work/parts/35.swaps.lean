theorem dX5_fewestSwaps_0 : decode cX5_fewestSwaps 0 = .ok (.aload_n 0, 1) := by decide +kernel
theorem dX5_fewestSwaps_1 : decode cX5_fewestSwaps 1 = .ok (.iconst 1, 1) := by decide +kernel
theorem dX5_fewestSwaps_2 : decode cX5_fewestSwaps 2 = .ok (.invokevirtual 37, 3) := by decide +kernel
theorem dX5_fewestSwaps_5 : decode cX5_fewestSwaps 5 = .ok (.iconst 0, 1) := by decide +kernel
theorem dX5_fewestSwaps_6 : decode cX5_fewestSwaps 6 = .ok (.istore 4, 2) := by decide +kernel
theorem dX5_fewestSwaps_8 : decode cX5_fewestSwaps 8 = .ok (.iload 4, 2) := by decide +kernel
theorem dX5_fewestSwaps_10 : decode cX5_fewestSwaps 10 = .ok (.aload_n 1, 1) := by decide +kernel
theorem dX5_fewestSwaps_11 : decode cX5_fewestSwaps 11 = .ok (.getfield 41, 3) := by decide +kernel
theorem dX5_fewestSwaps_14 : decode cX5_fewestSwaps 14 = .ok (.if_icmp .ge 23, 3) := by decide +kernel
theorem dX5_fewestSwaps_17 : decode cX5_fewestSwaps 17 = .ok (.aload_n 0, 1) := by decide +kernel
theorem dX5_fewestSwaps_18 : decode cX5_fewestSwaps 18 = .ok (.getfield 28, 3) := by decide +kernel
theorem dX5_fewestSwaps_21 : decode cX5_fewestSwaps 21 = .ok (.aload_n 2, 1) := by decide +kernel
theorem dX5_fewestSwaps_22 : decode cX5_fewestSwaps 22 = .ok (.getfield 47, 3) := by decide +kernel
theorem dX5_fewestSwaps_25 : decode cX5_fewestSwaps 25 = .ok (.iload 4, 2) := by decide +kernel
theorem dX5_fewestSwaps_27 : decode cX5_fewestSwaps 27 = .ok (.iaload, 1) := by decide +kernel
theorem dX5_fewestSwaps_28 : decode cX5_fewestSwaps 28 = .ok (.iload 4, 2) := by decide +kernel
theorem dX5_fewestSwaps_30 : decode cX5_fewestSwaps 30 = .ok (.iastore, 1) := by decide +kernel
theorem dX5_fewestSwaps_31 : decode cX5_fewestSwaps 31 = .ok (.iinc 4 1, 3) := by decide +kernel
theorem dX5_fewestSwaps_34 : decode cX5_fewestSwaps 34 = .ok (.goto (-26), 3) := by decide +kernel
theorem dX5_fewestSwaps_37 : decode cX5_fewestSwaps 37 = .ok (.aload_n 1, 1) := by decide +kernel
theorem dX5_fewestSwaps_38 : decode cX5_fewestSwaps 38 = .ok (.getfield 41, 3) := by decide +kernel
theorem dX5_fewestSwaps_41 : decode cX5_fewestSwaps 41 = .ok (.iconst 1, 1) := by decide +kernel
theorem dX5_fewestSwaps_42 : decode cX5_fewestSwaps 42 = .ok (.iadd, 1) := by decide +kernel
theorem dX5_fewestSwaps_43 : decode cX5_fewestSwaps 43 = .ok (.istore 4, 2) := by decide +kernel
theorem dX5_fewestSwaps_45 : decode cX5_fewestSwaps 45 = .ok (.aload_n 0, 1) := by decide +kernel
theorem dX5_fewestSwaps_46 : decode cX5_fewestSwaps 46 = .ok (.getfield 12, 3) := by decide +kernel
theorem dX5_fewestSwaps_49 : decode cX5_fewestSwaps 49 = .ok (.aload_n 1, 1) := by decide +kernel
theorem dX5_fewestSwaps_50 : decode cX5_fewestSwaps 50 = .ok (.getfield 41, 3) := by decide +kernel
theorem dX5_fewestSwaps_53 : decode cX5_fewestSwaps 53 = .ok (.invokevirtual 52, 3) := by decide +kernel
theorem dX5_fewestSwaps_56 : decode cX5_fewestSwaps 56 = .ok (.istore 5, 2) := by decide +kernel
theorem dX5_fewestSwaps_58 : decode cX5_fewestSwaps 58 = .ok (.iconst 0, 1) := by decide +kernel
theorem dX5_fewestSwaps_59 : decode cX5_fewestSwaps 59 = .ok (.istore 6, 2) := by decide +kernel
theorem dX5_fewestSwaps_61 : decode cX5_fewestSwaps 61 = .ok (.iload 6, 2) := by decide +kernel
theorem dX5_fewestSwaps_63 : decode cX5_fewestSwaps 63 = .ok (.iload 5, 2) := by decide +kernel
theorem dX5_fewestSwaps_65 : decode cX5_fewestSwaps 65 = .ok (.if_icmp .ge 66, 3) := by decide +kernel
theorem dX5_fewestSwaps_68 : decode cX5_fewestSwaps 68 = .ok (.aload_n 0, 1) := by decide +kernel
theorem dX5_fewestSwaps_69 : decode cX5_fewestSwaps 69 = .ok (.getfield 12, 3) := by decide +kernel
theorem dX5_fewestSwaps_72 : decode cX5_fewestSwaps 72 = .ok (.aload_n 0, 1) := by decide +kernel
theorem dX5_fewestSwaps_73 : decode cX5_fewestSwaps 73 = .ok (.getfield 22, 3) := by decide +kernel
theorem dX5_fewestSwaps_76 : decode cX5_fewestSwaps 76 = .ok (.invokevirtual 56, 3) := by decide +kernel
theorem dX5_fewestSwaps_79 : decode cX5_fewestSwaps 79 = .ok (.ifCond .eq 39, 3) := by decide +kernel
theorem dX5_fewestSwaps_82 : decode cX5_fewestSwaps 82 = .ok (.aload_n 0, 1) := by decide +kernel
theorem dX5_fewestSwaps_83 : decode cX5_fewestSwaps 83 = .ok (.aload_n 0, 1) := by decide +kernel
theorem dX5_fewestSwaps_84 : decode cX5_fewestSwaps 84 = .ok (.getfield 12, 3) := by decide +kernel
theorem dX5_fewestSwaps_87 : decode cX5_fewestSwaps 87 = .ok (.getfield 60, 3) := by decide +kernel
theorem dX5_fewestSwaps_90 : decode cX5_fewestSwaps 90 = .ok (.aload_n 1, 1) := by decide +kernel
theorem dX5_fewestSwaps_91 : decode cX5_fewestSwaps 91 = .ok (.getfield 41, 3) := by decide +kernel
theorem dX5_fewestSwaps_94 : decode cX5_fewestSwaps 94 = .ok (.invokevirtual 63, 3) := by decide +kernel
theorem dX5_fewestSwaps_97 : decode cX5_fewestSwaps 97 = .ok (.istore 7, 2) := by decide +kernel
theorem dX5_fewestSwaps_99 : decode cX5_fewestSwaps 99 = .ok (.iload 7, 2) := by decide +kernel
theorem dX5_fewestSwaps_101 : decode cX5_fewestSwaps 101 = .ok (.iload 4, 2) := by decide +kernel
theorem dX5_fewestSwaps_103 : decode cX5_fewestSwaps 103 = .ok (.if_icmp .ge 15, 3) := by decide +kernel
theorem dX5_fewestSwaps_106 : decode cX5_fewestSwaps 106 = .ok (.iload 7, 2) := by decide +kernel
theorem dX5_fewestSwaps_108 : decode cX5_fewestSwaps 108 = .ok (.istore 4, 2) := by decide +kernel
theorem dX5_fewestSwaps_110 : decode cX5_fewestSwaps 110 = .ok (.aload_n 0, 1) := by decide +kernel
theorem dX5_fewestSwaps_111 : decode cX5_fewestSwaps 111 = .ok (.getfield 12, 3) := by decide +kernel
theorem dX5_fewestSwaps_114 : decode cX5_fewestSwaps 114 = .ok (.aload_n 3, 1) := by decide +kernel
theorem dX5_fewestSwaps_115 : decode cX5_fewestSwaps 115 = .ok (.invokevirtual 67, 3) := by decide +kernel
theorem dX5_fewestSwaps_118 : decode cX5_fewestSwaps 118 = .ok (.aload_n 0, 1) := by decide +kernel
theorem dX5_fewestSwaps_119 : decode cX5_fewestSwaps 119 = .ok (.getfield 12, 3) := by decide +kernel
theorem dX5_fewestSwaps_122 : decode cX5_fewestSwaps 122 = .ok (.invokevirtual 71, 3) := by decide +kernel
theorem dX5_fewestSwaps_125 : decode cX5_fewestSwaps 125 = .ok (.iinc 6 1, 3) := by decide +kernel
theorem dX5_fewestSwaps_128 : decode cX5_fewestSwaps 128 = .ok (.goto (-67), 3) := by decide +kernel
theorem dX5_fewestSwaps_131 : decode cX5_fewestSwaps 131 = .ok (.iload 4, 2) := by decide +kernel
theorem dX5_fewestSwaps_133 : decode cX5_fewestSwaps 133 = .ok (.ireturn, 1) := by decide +kernel
set_option maxHeartbeats 2000000 in
set_option maxRecDepth 20000 in
theorem c_X5_fewestSwaps (l : Launch) (D : va_G) (cy : Nat → ClassId) (B N : Nat) (q : Int) (s : Int) (nr : Int) (M : MM) (hN : 210 ≤ N) (hI : Iv M) (hq : q = 5 ∨ q = 180) (hs : Sc s) (hnr : M.1 q 0 = nr) (hV : V nr s M) (hnb : 0 ≤ nr ∧ nr ≤ 6) : CI l D cy B N 3 yX5_fewestSwaps cX5_fewestSwaps 8 (some .int) [rv B 157, rv B q, rv B s, rv B 179] M (fun z M' => Iv M' ∧ Fr (fun a (_ : Int) => (158 ≤ a ∧ a ≤ 159) ∨ (161 ≤ a ∧ a ≤ 163) ∨ (a = 179)) M M') := by
  refine mk_CI (by decide) (Nat.le_of_ble_eq_true rfl) ?_
  intro X exl exD excy hnL hX hret
  have hce : 0 + 0 ≤ (xR X).cells ∧ 0 + 0 ≤ (xR X).slots := ⟨Nat.zero_le _, Nat.zero_le _⟩
  have hdq : 5 ≤ q ∧ q ≤ 180 := by omega
  have hbs := sc_b hs
  have hds : 28 ≤ s ∧ s ≤ 207 := by omega
  have hF : Fr (fun a (_ : Int) => (158 ≤ a ∧ a ≤ 159) ∨ (161 ≤ a ∧ a ≤ 163) ∨ (a = 179)) M M := Fr.rf
  have cp : ∀ n : Nat, (∀ (x4 : Int), ∀ (Mc : MM), I32 x4 → Iv Mc → Fr (fun a (_ : Int) => (158 ≤ a ∧ a ≤ 159) ∨ (161 ≤ a ∧ a ≤ 163) ∨ (a = 179)) M Mc → Mc.1 q 0 = nr → V nr s Mc → (0 ≤ x4 ∧ x4 ≤ 6) → 0 ≤ 32 * (10000000000 + 6 - x4) + 2 → 32 * (10000000000 + 6 - x4) + 2 < (n : Int) → J X B N 0 0 8 [(0, rv B 157), (1, rv B q), (2, rv B s), (3, rv B 179), (4, iv x4)] [] Mc) ∧ (∀ (x4 x5 x6 : Int), ∀ (Mc : MM), I32 x4 → I32 x5 → I32 x6 → Iv Mc → Fr (fun a (_ : Int) => (158 ≤ a ∧ a ≤ 159) ∨ (161 ≤ a ∧ a ≤ 163) ∨ (a = 179)) M Mc → Mc.1 q 0 = nr → (0 ≤ x6) → 0 ≤ 32 * (2147483648 - x6) + 1 → 32 * (2147483648 - x6) + 1 < (n : Int) → J X B N 0 0 61 [(0, rv B 157), (1, rv B q), (2, rv B s), (3, rv B 179), (4, iv x4), (5, iv x5), (6, iv x6)] [] Mc) := by
    intro n
    induction n with
    | zero => exact ⟨by intros; exfalso; omega, by intros; exfalso; omega⟩
    | succ n ih =>
      refine ⟨?_, ?_⟩
      · intro x4 Mc hxx4 hI hF hk_0 hV_0 h2 hm0 hm1
        refine j_iload hX dX5_fewestSwaps_8 4 rfl ?_
        refine j_aload_n hX dX5_fewestSwaps_10 rfl 1 rfl ?_
        refine gf_X5_41 hX (by omega) (by omega) (kq hq) dX5_fewestSwaps_11 ?_
        refine j_top hk_0 ?_
        refine j_icmp_ge (tgt := 37) hX dX5_fewestSwaps_14 (by decide) (by omega) (by omega) (fun hc1 => ?_) (fun hc1 => ?_)
        · skip
          refine j_aload_n hX dX5_fewestSwaps_37 rfl 1 rfl ?_
          refine gf_X5_41 hX (by omega) (by omega) (kq hq) dX5_fewestSwaps_38 ?_
          refine j_top hk_0 ?_
          refine j_iconst hX dX5_fewestSwaps_41 ?_
          refine j_iadd hX dX5_fewestSwaps_42 ?_
          refine j_istore (lv' := [(4, _), (0, _), (1, _), (2, _), (3, _)]) hX dX5_fewestSwaps_43 (by rw [hnL]; decide) rfl ?_
          refine j_aload_n hX dX5_fewestSwaps_45 rfl 1 rfl ?_
          refine gf_X5_12 hX (by omega) (by omega) kc_157 (fc_157_0 hI) (by decide) dX5_fewestSwaps_46 ?_
          refine j_aload_n hX dX5_fewestSwaps_49 rfl 2 rfl ?_
          refine gf_X5_41 hX (by omega) (by omega) (kq hq) dX5_fewestSwaps_50 ?_
          refine j_top hk_0 ?_
          refine j_callVI hX lk_X5_52 (c_X4_first _ _ _ _ _ 158 _ _ (by omega) hI (by omega) (by omega) (by first | assumption | omega)) (by omega) hce rfl rfl (by omega) (by omega) kc_158 rfl rfl (Nat.le_of_ble_eq_true rfl) dX5_fewestSwaps_53 (fun z2 M3 hz5 hp4 => ?_)
          obtain ⟨hI6, hG7, hq8⟩ := hp4
          have hV9 := V_fr hV_0 hG7 (fun b => by omega) (by omega)
          have hk10 := kp_fr hG7 (by omega) hk_0
          have hF11 := Fr.trans hF hG7 (fun a b h => by omega)
          refine j_istore (lv' := [(5, _), (4, _), (0, _), (1, _), (2, _), (3, _)]) hX dX5_fewestSwaps_56 (by rw [hnL]; decide) rfl ?_
          refine j_iconst hX dX5_fewestSwaps_58 ?_
          refine j_istore (lv' := [(6, _), (5, _), (4, _), (0, _), (1, _), (2, _), (3, _)]) hX dX5_fewestSwaps_59 (by rw [hnL]; decide) rfl ?_
          refine j_sub [3, 4, 5, 6, 2, 1, 0] rfl ?_
          exact ih.2 _ _ _ _ (by omega) (by omega) (by omega) hI6 hF11 hk10 (by first | assumption | omega) (by omega) (by omega)
        · skip
          refine j_aload_n hX dX5_fewestSwaps_17 rfl 0 rfl ?_
          refine gf_X5_28 hX (by omega) (by omega) kc_157 (fc_157_4 hI) (by decide) dX5_fewestSwaps_18 ?_
          refine j_aload_n hX dX5_fewestSwaps_21 rfl 2 rfl ?_
          refine gf_X5_47 hX (by omega) (by omega) (sc_k0 hs) (sc_f0 hI hs) (by omega) dX5_fewestSwaps_22 ?_
          refine j_iload hX dX5_fewestSwaps_25 4 rfl ?_
          refine j_iald hX (by omega) (by omega) (sc_k1 hs) (by omega) (by omega) (by omega) dX5_fewestSwaps_27 ?_
          refine j_name hI (sc_w hs _) (fun v12 hv13 hl14 hh15 => ?_)
          have hva16 := V_at hV_0 hv13 (by omega) (by omega)
          refine j_iload hX dX5_fewestSwaps_28 4 rfl ?_
          refine j_iast hX (by omega) (by omega) kc_163 (by omega) (by omega) (by omega) (by omega) dX5_fewestSwaps_30 ?_
          refine j_up hI (ra_163 _) (by omega) (by omega) (Or.inl (by omega)) (fun M17 w18 hw19 hM20 hI21 hf22 => ?_)
          have hV23 := V_up hV_0 hM20 (by omega) (by omega)
          have hk24 := kp_up hM20 (by omega) hk_0
          have hF25 := Fr.put hF hM20 (by omega)
          refine j_iinc (lv' := [(4, _), (0, _), (1, _), (2, _), (3, _)]) hX dX5_fewestSwaps_31 4 rfl (by rw [hnL]; decide) rfl ?_
          refine j_goto (tgt := 8) hX dX5_fewestSwaps_34 (by decide) ?_
          refine j_sub [1, 2, 3, 4, 0] rfl ?_
          exact ih.1 _ _ (by omega) hI21 hF25 hk24 hV23 (by first | assumption | omega) (by omega) (by omega)
      · intro x4 x5 x6 Mc hxx4 hxx5 hxx6 hI hF hk_0 h2 hm0 hm1
        refine j_iload hX dX5_fewestSwaps_61 6 rfl ?_
        refine j_iload hX dX5_fewestSwaps_63 5 rfl ?_
        refine j_icmp_ge (tgt := 131) hX dX5_fewestSwaps_65 (by decide) (by omega) (by omega) (fun hc26 => ?_) (fun hc26 => ?_)
        · skip
          refine j_iload hX dX5_fewestSwaps_131 4 rfl ?_
          exact hret _ _ _ _ dX5_fewestSwaps_133 rfl (by omega) ⟨hI, hF⟩
        · skip
          refine j_aload_n hX dX5_fewestSwaps_68 rfl 0 rfl ?_
          refine gf_X5_12 hX (by omega) (by omega) kc_157 (fc_157_0 hI) (by decide) dX5_fewestSwaps_69 ?_
          refine j_aload_n hX dX5_fewestSwaps_72 rfl 0 rfl ?_
          refine gf_X5_22 hX (by omega) (by omega) kc_157 (fc_157_2 hI) (by decide) dX5_fewestSwaps_73 ?_
          refine j_callVI hX lk_X5_56 (c_X4_isAllowed _ _ _ _ _ 158 161 _ (by omega) hI (by omega) (by omega)) (by omega) hce rfl rfl (by omega) (by omega) kc_158 rfl rfl (Nat.le_of_ble_eq_true rfl) dX5_fewestSwaps_76 (fun z27 M28 hz30 hp29 => ?_)
          obtain ⟨rfl, hb31⟩ := hp29
          refine j_if_eq (tgt := 118) hX dX5_fewestSwaps_79 (by decide) (by omega) (fun hc32 => ?_) (fun hc32 => ?_)
          · skip
            refine j_aload_n hX dX5_fewestSwaps_118 rfl 0 rfl ?_
            refine gf_X5_12 hX (by omega) (by omega) kc_157 (fc_157_0 hI) (by decide) dX5_fewestSwaps_119 ?_
            refine j_callVV hX lk_X5_71 (c_X4_next _ _ _ _ _ 158 _ (by omega) hI (by omega)) (by omega) hce rfl rfl (by omega) (by omega) kc_158 rfl rfl (Nat.le_of_ble_eq_true rfl) dX5_fewestSwaps_122 (fun M34 hp35 => ?_)
            obtain ⟨hI37, hG38⟩ := hp35
            have hk39 := kp_fr hG38 (by omega) hk_0
            have hF40 := Fr.trans hF hG38 (fun a b h => by omega)
            refine j_iinc (lv' := [(6, _), (0, _), (1, _), (2, _), (3, _), (4, _), (5, _)]) hX dX5_fewestSwaps_125 6 rfl (by rw [hnL]; decide) rfl ?_
            refine j_goto (tgt := 61) hX dX5_fewestSwaps_128 (by decide) ?_
            refine j_sub [1, 2, 3, 4, 5, 6, 0] rfl ?_
            exact ih.2 _ _ _ _ (by omega) (by omega) (by omega) hI37 hF40 hk39 (by first | assumption | omega) (by omega) (by omega)
          · skip
            refine j_aload_n hX dX5_fewestSwaps_82 rfl 0 rfl ?_
            refine j_aload_n hX dX5_fewestSwaps_83 rfl 0 rfl ?_
            refine gf_X5_12 hX (by omega) (by omega) kc_157 (fc_157_0 hI) (by decide) dX5_fewestSwaps_84 ?_
            refine gf_X5_60 hX (by omega) (by omega) kc_158 (fc_158_0 hI) (by decide) dX5_fewestSwaps_87 ?_
            refine j_aload_n hX dX5_fewestSwaps_90 rfl 1 rfl ?_
            refine gf_X5_41 hX (by omega) (by omega) (kq hq) dX5_fewestSwaps_91 ?_
            refine j_top hk_0 ?_
            refine j_callVI hX lk_X5_63 (c_X5_swapsTo _ _ _ _ _ _ _ (by omega) hI (by omega) (by first | assumption | omega)) (by omega) hce rfl rfl (by omega) (by omega) kc_157 rfl rfl (Nat.le_of_ble_eq_true rfl) dX5_fewestSwaps_94 (fun z41 M42 hz44 hp43 => ?_)
            obtain ⟨hI45, hG46⟩ := hp43
            have hk47 := kp_fr hG46 (by omega) hk_0
            have hF48 := Fr.trans hF hG46 (fun a b h => by omega)
            refine j_istore (lv' := [(7, _), (0, _), (1, _), (2, _), (3, _), (4, _), (5, _), (6, _)]) hX dX5_fewestSwaps_97 (by rw [hnL]; decide) rfl ?_
            refine j_iload hX dX5_fewestSwaps_99 0 rfl ?_
            refine j_iload hX dX5_fewestSwaps_101 5 rfl ?_
            refine j_icmp_ge (tgt := 118) hX dX5_fewestSwaps_103 (by decide) (by omega) (by omega) (fun hc49 => ?_) (fun hc49 => ?_)
            · skip
              refine j_aload_n hX dX5_fewestSwaps_118 rfl 1 rfl ?_
              refine gf_X5_12 hX (by omega) (by omega) kc_157 (fc_157_0 hI45) (by decide) dX5_fewestSwaps_119 ?_
              refine j_callVV hX lk_X5_71 (c_X4_next _ _ _ _ _ 158 _ (by omega) hI45 (by omega)) (by omega) hce rfl rfl (by omega) (by omega) kc_158 rfl rfl (Nat.le_of_ble_eq_true rfl) dX5_fewestSwaps_122 (fun M51 hp52 => ?_)
              obtain ⟨hI54, hG55⟩ := hp52
              have hk56 := kp_fr hG55 (by omega) hk47
              clear hk47
              have hF57 := Fr.trans hF48 hG55 (fun a b h => by omega)
              refine j_iinc (lv' := [(6, _), (7, _), (0, _), (1, _), (2, _), (3, _), (4, _), (5, _)]) hX dX5_fewestSwaps_125 7 rfl (by rw [hnL]; decide) rfl ?_
              refine j_goto (tgt := 61) hX dX5_fewestSwaps_128 (by decide) ?_
              refine j_sub [2, 3, 4, 5, 6, 7, 0] rfl ?_
              exact ih.2 _ _ _ _ (by omega) (by omega) (by omega) hI54 hF57 hk56 (by first | assumption | omega) (by omega) (by omega)
            · skip
              refine j_iload hX dX5_fewestSwaps_106 0 rfl ?_
              refine j_istore (lv' := [(4, _), (7, _), (0, _), (1, _), (2, _), (3, _), (5, _), (6, _)]) hX dX5_fewestSwaps_108 (by rw [hnL]; decide) rfl ?_
              refine j_aload_n hX dX5_fewestSwaps_110 rfl 2 rfl ?_
              refine gf_X5_12 hX (by omega) (by omega) kc_157 (fc_157_0 hI45) (by decide) dX5_fewestSwaps_111 ?_
              refine j_aload_n hX dX5_fewestSwaps_114 rfl 5 rfl ?_
              refine j_callVV hX lk_X5_67 (c_X4_copyTo _ _ _ _ _ 158 _ (by omega) hI45 (by omega)) (by omega) hce rfl rfl (by omega) (by omega) kc_158 rfl rfl (Nat.le_of_ble_eq_true rfl) dX5_fewestSwaps_115 (fun M59 hp60 => ?_)
              obtain ⟨hI62, hG63⟩ := hp60
              have hk64 := kp_fr hG63 (by omega) hk47
              clear hk47
              have hF65 := Fr.trans hF48 hG63 (fun a b h => by omega)
              refine j_aload_n hX dX5_fewestSwaps_118 rfl 2 rfl ?_
              refine gf_X5_12 hX (by omega) (by omega) kc_157 (fc_157_0 hI62) (by decide) dX5_fewestSwaps_119 ?_
              refine j_callVV hX lk_X5_71 (c_X4_next _ _ _ _ _ 158 _ (by omega) hI62 (by omega)) (by omega) hce rfl rfl (by omega) (by omega) kc_158 rfl rfl (Nat.le_of_ble_eq_true rfl) dX5_fewestSwaps_122 (fun M67 hp68 => ?_)
              obtain ⟨hI70, hG71⟩ := hp68
              have hk72 := kp_fr hG71 (by omega) hk64
              clear hk64
              have hF73 := Fr.trans hF65 hG71 (fun a b h => by omega)
              refine j_iinc (lv' := [(6, _), (4, _), (7, _), (0, _), (1, _), (2, _), (3, _), (5, _)]) hX dX5_fewestSwaps_125 7 rfl (by rw [hnL]; decide) rfl ?_
              refine j_goto (tgt := 61) hX dX5_fewestSwaps_128 (by decide) ?_
              refine j_sub [3, 4, 5, 6, 1, 7, 0] rfl ?_
              exact ih.2 _ _ _ _ (by omega) (by omega) (by omega) hI70 hF73 hk72 (by first | assumption | omega) (by omega) (by omega)
  show J X B N 0 0 0 [(0, rv B 157), (1, rv B q), (2, rv B s), (3, rv B 179)] [] M
  refine j_aload_n hX dX5_fewestSwaps_0 rfl 0 rfl ?_
  refine j_iconst hX dX5_fewestSwaps_1 ?_
  refine j_callVV hX lk_X5_37 (c_X5_allowAims _ _ _ _ _ _ _ (by omega) hI (by omega) (by first | assumption | omega)) (by omega) hce rfl rfl (by omega) (by omega) kc_157 rfl rfl (Nat.le_of_ble_eq_true rfl) dX5_fewestSwaps_2 (fun M75 hp76 => ?_)
  obtain ⟨hI78, hG79⟩ := hp76
  have hV80 := V_fr hV hG79 (fun b => by omega) (by omega)
  have hk81 := kp_fr hG79 (by omega) hnr
  have hF82 := Fr.trans hF hG79 (fun a b h => by omega)
  refine j_iconst hX dX5_fewestSwaps_5 ?_
  refine j_istore (lv' := [(4, _), (0, _), (1, _), (2, _), (3, _)]) hX dX5_fewestSwaps_6 (by rw [hnL]; decide) rfl ?_
  refine j_sub [1, 2, 3, 4, 0] rfl ?_
  refine (cp (Int.toNat (640000000064 + 1))).1 _ _ (by omega) hI78 hF82 hk81 hV80 (by first | assumption | omega) ?_ ?_
  · omega
  · omega
