theorem dX11_readLot_0 : decode cX11_readLot 0 = .ok (.aload_n 0, 1) := by decide +kernel
theorem dX11_readLot_1 : decode cX11_readLot 1 = .ok (.getfield 75, 3) := by decide +kernel
theorem dX11_readLot_4 : decode cX11_readLot 4 = .ok (.aload_n 0, 1) := by decide +kernel
theorem dX11_readLot_5 : decode cX11_readLot 5 = .ok (.getfield 270, 3) := by decide +kernel
theorem dX11_readLot_8 : decode cX11_readLot 8 = .ok (.iconst 1, 1) := by decide +kernel
theorem dX11_readLot_9 : decode cX11_readLot 9 = .ok (.bastore, 1) := by decide +kernel
theorem dX11_readLot_10 : decode cX11_readLot 10 = .ok (.iconst 0, 1) := by decide +kernel
theorem dX11_readLot_11 : decode cX11_readLot 11 = .ok (.istore_n 1, 1) := by decide +kernel
theorem dX11_readLot_12 : decode cX11_readLot 12 = .ok (.iconst 0, 1) := by decide +kernel
theorem dX11_readLot_13 : decode cX11_readLot 13 = .ok (.istore_n 2, 1) := by decide +kernel
theorem dX11_readLot_14 : decode cX11_readLot 14 = .ok (.iconst 1, 1) := by decide +kernel
theorem dX11_readLot_15 : decode cX11_readLot 15 = .ok (.istore_n 3, 1) := by decide +kernel
theorem dX11_readLot_16 : decode cX11_readLot 16 = .ok (.iload_n 3, 1) := by decide +kernel
theorem dX11_readLot_17 : decode cX11_readLot 17 = .ok (.ifCond .eq 92, 3) := by decide +kernel
theorem dX11_readLot_20 : decode cX11_readLot 20 = .ok (.aload_n 0, 1) := by decide +kernel
theorem dX11_readLot_21 : decode cX11_readLot 21 = .ok (.invokevirtual 318, 3) := by decide +kernel
theorem dX11_readLot_24 : decode cX11_readLot 24 = .ok (.istore 4, 2) := by decide +kernel
theorem dX11_readLot_26 : decode cX11_readLot 26 = .ok (.iload 4, 2) := by decide +kernel
theorem dX11_readLot_28 : decode cX11_readLot 28 = .ok (.ifCond .lt 22, 3) := by decide +kernel
theorem dX11_readLot_31 : decode cX11_readLot 31 = .ok (.iload_n 1, 1) := by decide +kernel
theorem dX11_readLot_32 : decode cX11_readLot 32 = .ok (.iload 4, 2) := by decide +kernel
theorem dX11_readLot_34 : decode cX11_readLot 34 = .ok (.ishr, 1) := by decide +kernel
theorem dX11_readLot_35 : decode cX11_readLot 35 = .ok (.iconst 1, 1) := by decide +kernel
theorem dX11_readLot_36 : decode cX11_readLot 36 = .ok (.iand, 1) := by decide +kernel
theorem dX11_readLot_37 : decode cX11_readLot 37 = .ok (.iconst 1, 1) := by decide +kernel
theorem dX11_readLot_38 : decode cX11_readLot 38 = .ok (.if_icmp .ne 12, 3) := by decide +kernel
theorem dX11_readLot_41 : decode cX11_readLot 41 = .ok (.aload_n 0, 1) := by decide +kernel
theorem dX11_readLot_42 : decode cX11_readLot 42 = .ok (.iconst 3, 1) := by decide +kernel
theorem dX11_readLot_43 : decode cX11_readLot 43 = .ok (.aload_n 0, 1) := by decide +kernel
theorem dX11_readLot_44 : decode cX11_readLot 44 = .ok (.getfield 214, 3) := by decide +kernel
theorem dX11_readLot_47 : decode cX11_readLot 47 = .ok (.invokevirtual 245, 3) := by decide +kernel
theorem dX11_readLot_50 : decode cX11_readLot 50 = .ok (.aload_n 0, 1) := by decide +kernel
theorem dX11_readLot_51 : decode cX11_readLot 51 = .ok (.iload 4, 2) := by decide +kernel
theorem dX11_readLot_53 : decode cX11_readLot 53 = .ok (.invokevirtual 326, 3) := by decide +kernel
theorem dX11_readLot_56 : decode cX11_readLot 56 = .ok (.istore 4, 2) := by decide +kernel
theorem dX11_readLot_58 : decode cX11_readLot 58 = .ok (.aload_n 0, 1) := by decide +kernel
theorem dX11_readLot_59 : decode cX11_readLot 59 = .ok (.invokevirtual 249, 3) := by decide +kernel
theorem dX11_readLot_62 : decode cX11_readLot 62 = .ok (.ifCond .ne 4, 3) := by decide +kernel
theorem dX11_readLot_65 : decode cX11_readLot 65 = .ok (.return_, 1) := by decide +kernel
theorem dX11_readLot_66 : decode cX11_readLot 66 = .ok (.iload_n 1, 1) := by decide +kernel
theorem dX11_readLot_67 : decode cX11_readLot 67 = .ok (.iconst 1, 1) := by decide +kernel
theorem dX11_readLot_68 : decode cX11_readLot 68 = .ok (.iload 4, 2) := by decide +kernel
theorem dX11_readLot_70 : decode cX11_readLot 70 = .ok (.ishl, 1) := by decide +kernel
theorem dX11_readLot_71 : decode cX11_readLot 71 = .ok (.ior, 1) := by decide +kernel
theorem dX11_readLot_72 : decode cX11_readLot 72 = .ok (.istore_n 1, 1) := by decide +kernel
theorem dX11_readLot_73 : decode cX11_readLot 73 = .ok (.aload_n 0, 1) := by decide +kernel
theorem dX11_readLot_74 : decode cX11_readLot 74 = .ok (.getfield 48, 3) := by decide +kernel
theorem dX11_readLot_77 : decode cX11_readLot 77 = .ok (.bipush 6, 2) := by decide +kernel
theorem dX11_readLot_79 : decode cX11_readLot 79 = .ok (.aload_n 0, 1) := by decide +kernel
theorem dX11_readLot_80 : decode cX11_readLot 80 = .ok (.getfield 270, 3) := by decide +kernel
theorem dX11_readLot_83 : decode cX11_readLot 83 = .ok (.imul, 1) := by decide +kernel
theorem dX11_readLot_84 : decode cX11_readLot 84 = .ok (.iload_n 2, 1) := by decide +kernel
theorem dX11_readLot_85 : decode cX11_readLot 85 = .ok (.iadd, 1) := by decide +kernel
theorem dX11_readLot_86 : decode cX11_readLot 86 = .ok (.iload 4, 2) := by decide +kernel
theorem dX11_readLot_88 : decode cX11_readLot 88 = .ok (.iastore, 1) := by decide +kernel
theorem dX11_readLot_89 : decode cX11_readLot 89 = .ok (.iinc 2 1, 3) := by decide +kernel
theorem dX11_readLot_92 : decode cX11_readLot 92 = .ok (.aload_n 0, 1) := by decide +kernel
theorem dX11_readLot_93 : decode cX11_readLot 93 = .ok (.getfield 221, 3) := by decide +kernel
theorem dX11_readLot_96 : decode cX11_readLot 96 = .ok (.iconst 2, 1) := by decide +kernel
theorem dX11_readLot_97 : decode cX11_readLot 97 = .ok (.if_icmp .ne 7, 3) := by decide +kernel
theorem dX11_readLot_100 : decode cX11_readLot 100 = .ok (.iconst 1, 1) := by decide +kernel
theorem dX11_readLot_101 : decode cX11_readLot 101 = .ok (.goto 4, 3) := by decide +kernel
theorem dX11_readLot_104 : decode cX11_readLot 104 = .ok (.iconst 0, 1) := by decide +kernel
theorem dX11_readLot_105 : decode cX11_readLot 105 = .ok (.istore_n 3, 1) := by decide +kernel
theorem dX11_readLot_106 : decode cX11_readLot 106 = .ok (.goto (-90), 3) := by decide +kernel
theorem dX11_readLot_109 : decode cX11_readLot 109 = .ok (.iload_n 2, 1) := by decide +kernel
theorem dX11_readLot_110 : decode cX11_readLot 110 = .ok (.aload_n 0, 1) := by decide +kernel
theorem dX11_readLot_111 : decode cX11_readLot 111 = .ok (.getfield 20, 3) := by decide +kernel
theorem dX11_readLot_114 : decode cX11_readLot 114 = .ok (.aload_n 0, 1) := by decide +kernel
theorem dX11_readLot_115 : decode cX11_readLot 115 = .ok (.getfield 270, 3) := by decide +kernel
theorem dX11_readLot_118 : decode cX11_readLot 118 = .ok (.iaload, 1) := by decide +kernel
theorem dX11_readLot_119 : decode cX11_readLot 119 = .ok (.if_icmp .ge 7, 3) := by decide +kernel
theorem dX11_readLot_122 : decode cX11_readLot 122 = .ok (.aload_n 0, 1) := by decide +kernel
theorem dX11_readLot_123 : decode cX11_readLot 123 = .ok (.invokevirtual 256, 3) := by decide +kernel
theorem dX11_readLot_126 : decode cX11_readLot 126 = .ok (.return_, 1) := by decide +kernel
set_option maxHeartbeats 2000000 in
set_option maxRecDepth 20000 in
theorem c_X11_readLot (l : Launch) (D : va_G) (cy : Nat → ClassId) (B N : Nat) (m : Int) (w : Int) (nw : Int) (M : MM) (hN : 257 ≤ N) (hI : Iv M) (hw : M.1 210 41 = w) (hnw : M.1 213 w = nw) (hML : ML m M) : CV l D cy B N 4 yX11_readLot cX11_readLot 5 none [rv B 210] M (fun M' => Iv M' ∧ Fr (fun a b => (a = 210 ∧ 4 ≤ b ∧ b ≤ 10) ∨ (a = 231 ∧ w ≤ b ∧ b ≤ w) ∨ (a = 222 ∧ 6 * w ≤ b ∧ b ≤ 6 * w + 5)) M M' ∧ (ML m M') ∧ (M'.1 210 4 = 0 → LQ nw 222 (6 * w) M')) := by
  refine mk_CV (by decide) (Nat.le_of_ble_eq_true rfl) ?_
  intro X exl exD excy hnL hX hret
  have hce : 0 + 0 ≤ (xR X).cells ∧ 0 + 0 ≤ (xR X).slots := ⟨Nat.zero_le _, Nat.zero_le _⟩
  have hF : Fr (fun a b => (a = 210 ∧ 4 ≤ b ∧ b ≤ 10) ∨ (a = 231 ∧ w ≤ b ∧ b ≤ w) ∨ (a = 222 ∧ 6 * w ≤ b ∧ b ≤ 6 * w + 5)) M M := Fr.rf
  have hk1 : M.1 210 4 = M.1 210 4 := rfl
  have hw2 : 0 ≤ w ∧ w ≤ 1 := by have := hI.at 210 41 ro_210_41; omega
  have hnw2 : 0 ≤ nw ∧ nw ≤ 6 := by have := hI.at 213 w (ra_213 _); omega
  have cp : ∀ n : Nat, (∀ (x1 x2 x3 : Int), ∀ (Mc : MM), I32 x1 → I32 x2 → I32 x3 → Iv Mc → Fr (fun a b => (a = 210 ∧ 4 ≤ b ∧ b ≤ 10) ∨ (a = 231 ∧ w ≤ b ∧ b ≤ w) ∨ (a = 222 ∧ 6 * w ≤ b ∧ b ≤ 6 * w + 5)) M Mc → Mc.1 210 41 = w → Mc.1 213 w = nw → ML m Mc → LT Mc (6 * w) nw x2 x1 → (0 ≤ x2 ∧ x2 ≤ 6 ∧ 0 ≤ x3 ∧ x3 ≤ 1) → 0 ≤ 32 * (6 - x2) + 1 → 32 * (6 - x2) + 1 < (n : Int) → J X B N 0 0 16 [(0, rv B 210), (1, iv x1), (2, iv x2), (3, iv x3)] [] Mc) := by
    intro n
    induction n with
    | zero => exact by intros; exfalso; omega
    | succ n ih =>
      · intro x1 x2 x3 Mc hxx1 hxx2 hxx3 hI hF hk_0 hk_1 hV_0 hV_1 h2 hm0 hm1
        have hk2 : Mc.1 210 4 = Mc.1 210 4 := rfl
        refine j_iload_n hX dX11_readLot_16 rfl 3 rfl ?_
        refine j_if_eq (tgt := 109) hX dX11_readLot_17 (by decide) (by omega) (fun hc3 => ?_) (fun hc3 => ?_)
        · skip
          refine j_iload_n hX dX11_readLot_109 rfl 2 rfl ?_
          refine j_aload_n hX dX11_readLot_110 rfl 0 rfl ?_
          refine gf_X11_20 hX (by omega) (by omega) kc_210 (fc_210_11 hI) (by decide) dX11_readLot_111 ?_
          refine j_aload_n hX dX11_readLot_114 rfl 0 rfl ?_
          refine gf_X11_270 hX (by omega) (by omega) kc_210 dX11_readLot_115 ?_
          refine j_top hk_0 ?_
          refine j_iald hX (by omega) (by omega) kc_213 (by omega) (by omega) (by omega) dX11_readLot_118 ?_
          refine j_top hk_1 ?_
          refine j_icmp_ge (tgt := 126) hX dX11_readLot_119 (by decide) (by omega) (by omega) (fun hc4 => ?_) (fun hc4 => ?_)
          · skip
            exact hret _ _ _ dX11_readLot_126 ⟨hI, hF, by assumption, by first | exact fun _ => LT_end hV_1 (by omega) hnw2 | exact fun h => absurd h (by omega)⟩
          · skip
            refine j_aload_n hX dX11_readLot_122 rfl 0 rfl ?_
            refine j_callVV hX lk_X11_256 (c_X11_misplaced _ _ _ _ _ _ _ (by omega) hI hV_0) (by omega) hce rfl rfl (by omega) (by omega) kc_210 rfl rfl (Nat.le_of_ble_eq_true rfl) dX11_readLot_123 (fun M6 hp7 => ?_)
            obtain ⟨hI10, hG11, hq12, hq13⟩ := hp7
            have hV15 := LT_dp hV_1 (fun a b h => hG11 a b (by omega))
            have hk16 := kp_fr hG11 (fun h => absurd h.2.2 (by decide)) hk_0
            have hk17 := kp_fr hG11 (fun h => absurd h.1 (by decide)) hk_1
            clear hk2
            have hF18 := Fr.trans hF hG11 (fun a b h => (Or.inl ⟨h.1, Int.le_trans (by decide) h.2.1, Int.le_trans h.2.2 (by decide)⟩))
            have hk19 : M6.1 210 4 = M6.1 210 4 := rfl
            exact hret _ _ _ dX11_readLot_126 ⟨hI10, hF18, by assumption, by first | exact fun _ => LT_end hV_1 (by omega) hnw2 | exact fun h => absurd h (by omega)⟩
        · skip
          refine j_aload_n hX dX11_readLot_20 rfl 0 rfl ?_
          refine j_callVI hX lk_X11_318 (c_X11_roomHere _ _ _ _ _ _ _ _ (by omega) hI hk_0 hk_1) (by omega) hce rfl rfl (by omega) (by omega) kc_210 rfl rfl (Nat.le_of_ble_eq_true rfl) dX11_readLot_21 (fun zh M20 hz22 hp21 => ?_)
          obtain ⟨hE23, hq24⟩ := hp21
          replace hE23 := hE23.symm
          subst hE23
          refine j_istore (lv' := [(4, _), (0, _), (1, _), (2, _), (3, _)]) hX dX11_readLot_24 (by rw [hnL]; decide) rfl ?_
          refine j_iload hX dX11_readLot_26 0 rfl ?_
          refine j_if_lt (tgt := 50) hX dX11_readLot_28 (by decide) (by omega) (fun hc25 => ?_) (fun hc25 => ?_)
          · skip
            refine j_aload_n hX dX11_readLot_50 rfl 1 rfl ?_
            refine j_iload hX dX11_readLot_51 0 rfl ?_
            refine j_callVI hX lk_X11_326 (c_X11_known _ _ _ _ _ _ _ _ (by omega) hI (by omega) hV_0) (by omega) hce rfl rfl (by omega) (by omega) kc_210 rfl rfl (Nat.le_of_ble_eq_true rfl) dX11_readLot_53 (fun zr M26 hz28 hp27 => ?_)
            obtain ⟨hI30, hG31, hq32, hq33, hq34, hq35, hq36⟩ := hp27
            have hV38 := LT_dp hV_1 (fun a b h => hG31 a b (by omega))
            have hk39 := kp_fr hG31 (fun h => absurd h.2.2 (by decide)) hk_0
            have hk40 := kp_fr hG31 (fun h => absurd h.1 (by decide)) hk_1
            clear hk2
            have hF41 := Fr.trans hF hG31 (fun a b h => (Or.inl h))
            have hk42 : M26.1 210 4 = M26.1 210 4 := rfl
            refine j_istore (lv' := [(4, _), (0, _), (1, _), (2, _), (3, _)]) hX dX11_readLot_56 (by rw [hnL]; decide) rfl ?_
            refine j_aload_n hX dX11_readLot_58 rfl 1 rfl ?_
            refine j_callVI hX lk_X11_249 (c_X11_isGood _ _ _ _ _ _ (by omega) hI30) (by omega) hce rfl rfl (by omega) (by omega) kc_210 rfl rfl (Nat.le_of_ble_eq_true rfl) dX11_readLot_59 (fun z43 M44 hz46 hp45 => ?_)
            obtain ⟨hE47, hb48, hq49, hq50⟩ := hp45
            replace hE47 := hE47.symm
            subst hE47
            refine j_if_ne (tgt := 66) hX dX11_readLot_62 (by decide) (by omega) (fun hc51 => ?_) (fun hc51 => ?_)
            · skip
              have hi52 := hq49 (by omega)
              clear hq49
              clear hq50
              have hb0 : bt x1 zr = 0 := by first | exact btz hbt (by omega) (by omega) | (exfalso; omega)
              have hlt0 := hV38
              have hzr : 0 ≤ zr ∧ zr < nw := by omega
              have hxl := LT_lt hlt0 hzr hnw2 hb0
              refine j_iload_n hX dX11_readLot_66 rfl 2 rfl ?_
              refine j_iconst hX dX11_readLot_67 ?_
              refine j_iload hX dX11_readLot_68 0 rfl ?_
              refine j_ishl hX dX11_readLot_70 (fun z53 hz54 hy55 => ?_)
              refine j_ior hX dX11_readLot_71 (fun z56 hz57 hy58 => ?_)
              have hor := orb_of (by assumption) hz57
              refine j_istore_n (lv' := [(1, _), (4, _), (0, _), (2, _), (3, _)]) hX dX11_readLot_72 rfl (by rw [hnL]; decide) rfl ?_
              refine j_aload_n hX dX11_readLot_73 rfl 2 rfl ?_
              refine gf_X11_48 hX (by omega) (by omega) kc_210 (fc_210_20 hI30) (by decide) dX11_readLot_74 ?_
              refine j_bipush hX dX11_readLot_77 rfl ?_
              refine j_aload_n hX dX11_readLot_79 rfl 2 rfl ?_
              refine gf_X11_270 hX (by omega) (by omega) kc_210 dX11_readLot_80 ?_
              refine j_top hk39 ?_
              refine j_imul hX dX11_readLot_83 ?_
              refine j_iload_n hX dX11_readLot_84 rfl 3 rfl ?_
              refine j_iadd hX dX11_readLot_85 ?_
              refine j_iload hX dX11_readLot_86 1 rfl ?_
              refine j_iast hX (by omega) (by omega) kc_222 (by omega) (by omega) (by omega) (by omega) dX11_readLot_88 ?_
              refine j_up hI30 (ra_222 _) (by omega) (by omega) (Or.inl (by omega)) (fun M59 w60 hw61 hM62 hI63 hf64 => ?_)
              have hV66 := ML_dp (M' := M59) hq32 (fun a b h => by rw [hM62]; exact up_ne (by omega))
              have hk67 := kp_up hM62 (fun h => absurd h.1 (by decide)) hk39
              have hk68 := kp_up hM62 (fun h => absurd h.1 (by decide)) hk40
              have hk69 := kp_up hM62 (fun h => absurd h.1 (by decide)) hk42
              clear hk39 hk40 hk42
              have hF70 := Fr.put hF41 hM62 ((Or.inr (Or.inr ⟨rfl, by omega, by omega⟩)))
              have hlt := LT_s hlt0 hM62 (by omega) hw61 hzr hnw2 hb0 hor
              have hV71 := hlt
              refine j_iinc (lv' := [(2, _), (1, _), (4, _), (0, _), (3, _)]) hX dX11_readLot_89 3 rfl (by rw [hnL]; decide) rfl ?_
              refine j_aload_n hX dX11_readLot_92 rfl 3 rfl ?_
              refine gf_X11_221 hX (by omega) (by omega) kc_210 dX11_readLot_93 ?_
              refine j_name hI63 ro_210_8 (fun v72 hv73 hl74 hh75 => ?_)
              have hk76 := hv73.symm
              refine j_iconst hX dX11_readLot_96 ?_
              refine j_icmp_ne (tgt := 104) hX dX11_readLot_97 (by decide) (by omega) (by omega) (fun hc77 => ?_) (fun hc77 => ?_)
              · skip
                refine j_iconst hX dX11_readLot_104 ?_
                refine j_istore_n (lv' := [(3, _), (2, _), (1, _), (4, _), (0, _)]) hX dX11_readLot_105 rfl (by rw [hnL]; decide) rfl ?_
                refine j_goto (tgt := 16) hX dX11_readLot_106 (by decide) ?_
                refine j_sub [4, 2, 1, 0] rfl ?_
                exact ih _ _ _ _ (by omega) (by omega) (by omega) hI63 hF70 hk67 hk68 hV66 hV71 (by first | assumption | omega) (by omega) (by omega)
              · skip
                refine j_iconst hX dX11_readLot_100 ?_
                refine j_goto (tgt := 105) hX dX11_readLot_101 (by decide) ?_
                refine j_istore_n (lv' := [(3, _), (2, _), (1, _), (4, _), (0, _)]) hX dX11_readLot_105 rfl (by rw [hnL]; decide) rfl ?_
                refine j_goto (tgt := 16) hX dX11_readLot_106 (by decide) ?_
                refine j_sub [4, 2, 1, 0] rfl ?_
                exact ih _ _ _ _ (by omega) (by omega) (by omega) hI63 hF70 hk67 hk68 hV66 hV71 (by first | assumption | omega) (by omega) (by omega)
            · skip
              clear hq49
              have hi78 := hq50 (by omega)
              clear hq50
              exact hret _ _ _ dX11_readLot_65 ⟨hI30, hF41, by assumption, by first | exact fun _ => LT_end hV_1 (by omega) hnw2 | exact fun h => absurd h (by omega)⟩
          · skip
            refine j_iload_n hX dX11_readLot_31 rfl 2 rfl ?_
            refine j_iload hX dX11_readLot_32 0 rfl ?_
            refine j_ishr hX dX11_readLot_34 (fun z79 hz80 hy81 => ?_)
            refine j_iconst hX dX11_readLot_35 ?_
            refine j_iand hX dX11_readLot_36 (fun z82 hz83 hy84 => ?_)
            have ha85 := (and_f hz83 (by omega) (by omega)).2 (by omega)
            have hbt := bt_of (by assumption) hz83
            refine j_iconst hX dX11_readLot_37 ?_
            refine j_icmp_ne (tgt := 50) hX dX11_readLot_38 (by decide) (by omega) (by omega) (fun hc86 => ?_) (fun hc86 => ?_)
            · skip
              refine j_aload_n hX dX11_readLot_50 rfl 1 rfl ?_
              refine j_iload hX dX11_readLot_51 0 rfl ?_
              refine j_callVI hX lk_X11_326 (c_X11_known _ _ _ _ _ _ _ _ (by omega) hI (by omega) hV_0) (by omega) hce rfl rfl (by omega) (by omega) kc_210 rfl rfl (Nat.le_of_ble_eq_true rfl) dX11_readLot_53 (fun zr M87 hz89 hp88 => ?_)
              obtain ⟨hI91, hG92, hq93, hq94, hq95, hq96, hq97⟩ := hp88
              have hV99 := LT_dp hV_1 (fun a b h => hG92 a b (by omega))
              have hk100 := kp_fr hG92 (fun h => absurd h.2.2 (by decide)) hk_0
              have hk101 := kp_fr hG92 (fun h => absurd h.1 (by decide)) hk_1
              clear hk2
              have hF102 := Fr.trans hF hG92 (fun a b h => (Or.inl h))
              have hk103 : M87.1 210 4 = M87.1 210 4 := rfl
              refine j_istore (lv' := [(4, _), (0, _), (1, _), (2, _), (3, _)]) hX dX11_readLot_56 (by rw [hnL]; decide) rfl ?_
              refine j_aload_n hX dX11_readLot_58 rfl 1 rfl ?_
              refine j_callVI hX lk_X11_249 (c_X11_isGood _ _ _ _ _ _ (by omega) hI91) (by omega) hce rfl rfl (by omega) (by omega) kc_210 rfl rfl (Nat.le_of_ble_eq_true rfl) dX11_readLot_59 (fun z104 M105 hz107 hp106 => ?_)
              obtain ⟨hE108, hb109, hq110, hq111⟩ := hp106
              replace hE108 := hE108.symm
              subst hE108
              refine j_if_ne (tgt := 66) hX dX11_readLot_62 (by decide) (by omega) (fun hc112 => ?_) (fun hc112 => ?_)
              · skip
                have hi113 := hq110 (by omega)
                clear hq110
                clear hq111
                have hb0 : bt x1 zr = 0 := by first | exact btz hbt (by omega) (by omega) | (exfalso; omega)
                have hlt0 := hV99
                have hzr : 0 ≤ zr ∧ zr < nw := by omega
                have hxl := LT_lt hlt0 hzr hnw2 hb0
                refine j_iload_n hX dX11_readLot_66 rfl 2 rfl ?_
                refine j_iconst hX dX11_readLot_67 ?_
                refine j_iload hX dX11_readLot_68 0 rfl ?_
                refine j_ishl hX dX11_readLot_70 (fun z114 hz115 hy116 => ?_)
                refine j_ior hX dX11_readLot_71 (fun z117 hz118 hy119 => ?_)
                have hor := orb_of (by assumption) hz118
                refine j_istore_n (lv' := [(1, _), (4, _), (0, _), (2, _), (3, _)]) hX dX11_readLot_72 rfl (by rw [hnL]; decide) rfl ?_
                refine j_aload_n hX dX11_readLot_73 rfl 2 rfl ?_
                refine gf_X11_48 hX (by omega) (by omega) kc_210 (fc_210_20 hI91) (by decide) dX11_readLot_74 ?_
                refine j_bipush hX dX11_readLot_77 rfl ?_
                refine j_aload_n hX dX11_readLot_79 rfl 2 rfl ?_
                refine gf_X11_270 hX (by omega) (by omega) kc_210 dX11_readLot_80 ?_
                refine j_top hk100 ?_
                refine j_imul hX dX11_readLot_83 ?_
                refine j_iload_n hX dX11_readLot_84 rfl 3 rfl ?_
                refine j_iadd hX dX11_readLot_85 ?_
                refine j_iload hX dX11_readLot_86 1 rfl ?_
                refine j_iast hX (by omega) (by omega) kc_222 (by omega) (by omega) (by omega) (by omega) dX11_readLot_88 ?_
                refine j_up hI91 (ra_222 _) (by omega) (by omega) (Or.inl (by omega)) (fun M120 w121 hw122 hM123 hI124 hf125 => ?_)
                have hV127 := ML_dp (M' := M120) hq93 (fun a b h => by rw [hM123]; exact up_ne (by omega))
                have hk128 := kp_up hM123 (fun h => absurd h.1 (by decide)) hk100
                have hk129 := kp_up hM123 (fun h => absurd h.1 (by decide)) hk101
                have hk130 := kp_up hM123 (fun h => absurd h.1 (by decide)) hk103
                clear hk100 hk101 hk103
                have hF131 := Fr.put hF102 hM123 ((Or.inr (Or.inr ⟨rfl, by omega, by omega⟩)))
                have hlt := LT_s hlt0 hM123 (by omega) hw122 hzr hnw2 hb0 hor
                have hV132 := hlt
                refine j_iinc (lv' := [(2, _), (1, _), (4, _), (0, _), (3, _)]) hX dX11_readLot_89 3 rfl (by rw [hnL]; decide) rfl ?_
                refine j_aload_n hX dX11_readLot_92 rfl 3 rfl ?_
                refine gf_X11_221 hX (by omega) (by omega) kc_210 dX11_readLot_93 ?_
                refine j_name hI124 ro_210_8 (fun v133 hv134 hl135 hh136 => ?_)
                have hk137 := hv134.symm
                refine j_iconst hX dX11_readLot_96 ?_
                refine j_icmp_ne (tgt := 104) hX dX11_readLot_97 (by decide) (by omega) (by omega) (fun hc138 => ?_) (fun hc138 => ?_)
                · skip
                  refine j_iconst hX dX11_readLot_104 ?_
                  refine j_istore_n (lv' := [(3, _), (2, _), (1, _), (4, _), (0, _)]) hX dX11_readLot_105 rfl (by rw [hnL]; decide) rfl ?_
                  refine j_goto (tgt := 16) hX dX11_readLot_106 (by decide) ?_
                  refine j_sub [4, 2, 1, 0] rfl ?_
                  exact ih _ _ _ _ (by omega) (by omega) (by omega) hI124 hF131 hk128 hk129 hV127 hV132 (by first | assumption | omega) (by omega) (by omega)
                · skip
                  refine j_iconst hX dX11_readLot_100 ?_
                  refine j_goto (tgt := 105) hX dX11_readLot_101 (by decide) ?_
                  refine j_istore_n (lv' := [(3, _), (2, _), (1, _), (4, _), (0, _)]) hX dX11_readLot_105 rfl (by rw [hnL]; decide) rfl ?_
                  refine j_goto (tgt := 16) hX dX11_readLot_106 (by decide) ?_
                  refine j_sub [4, 2, 1, 0] rfl ?_
                  exact ih _ _ _ _ (by omega) (by omega) (by omega) hI124 hF131 hk128 hk129 hV127 hV132 (by first | assumption | omega) (by omega) (by omega)
              · skip
                clear hq110
                have hi139 := hq111 (by omega)
                clear hq111
                exact hret _ _ _ dX11_readLot_65 ⟨hI91, hF102, by assumption, by first | exact fun _ => LT_end hV_1 (by omega) hnw2 | exact fun h => absurd h (by omega)⟩
            · skip
              refine j_aload_n hX dX11_readLot_41 rfl 1 rfl ?_
              refine j_iconst hX dX11_readLot_42 ?_
              refine j_aload_n hX dX11_readLot_43 rfl 1 rfl ?_
              refine gf_X11_214 hX (by omega) (by omega) kc_210 dX11_readLot_44 ?_
              refine j_name hI ro_210_6 (fun v140 hv141 hl142 hh143 => ?_)
              have hk144 := hv141.symm
              refine j_callVV hX lk_X11_245 (c_X11_fails _ _ _ _ _ _ _ _ _ (by omega) hI (by omega) (by omega) hV_0 (by first | assumption | omega)) (by omega) hce rfl rfl (by omega) (by omega) kc_210 rfl rfl (Nat.le_of_ble_eq_true rfl) dX11_readLot_47 (fun M146 hp147 => ?_)
              obtain ⟨hI150, hG151, hq152, hq153⟩ := hp147
              have hV155 := LT_dp hV_1 (fun a b h => hG151 a b (by omega))
              have hk156 := kp_fr hG151 (fun h => absurd h.2.2 (by decide)) hk_0
              have hk157 := kp_fr hG151 (fun h => absurd h.1 (by decide)) hk_1
              have hk158 := kp_fr hG151 (fun h => absurd h.2.2 (by decide)) hk144
              clear hk2 hk144
              have hF159 := Fr.trans hF hG151 (fun a b h => (Or.inl ⟨h.1, Int.le_trans (by decide) h.2.1, Int.le_trans h.2.2 (by decide)⟩))
              have hk160 : M146.1 210 4 = M146.1 210 4 := rfl
              refine j_aload_n hX dX11_readLot_50 rfl 1 rfl ?_
              refine j_iload hX dX11_readLot_51 0 rfl ?_
              refine j_callVI hX lk_X11_326 (c_X11_known _ _ _ _ _ _ _ _ (by omega) hI150 (by omega) hq152) (by omega) hce rfl rfl (by omega) (by omega) kc_210 rfl rfl (Nat.le_of_ble_eq_true rfl) dX11_readLot_53 (fun zr M161 hz163 hp162 => ?_)
              obtain ⟨hI165, hG166, hq167, hq168, hq169, hq170, hq171⟩ := hp162
              have hV172 := LT_dp hV155 (fun a b h => hG166 a b (by omega))
              have hk174 := kp_fr hG166 (fun h => absurd h.2.2 (by decide)) hk156
              have hk175 := kp_fr hG166 (fun h => absurd h.1 (by decide)) hk157
              clear hk156 hk157 hk158 hk160
              have hF176 := Fr.trans hF159 hG166 (fun a b h => (Or.inl h))
              have hk177 : M161.1 210 4 = M161.1 210 4 := rfl
              refine j_istore (lv' := [(4, _), (0, _), (1, _), (2, _), (3, _)]) hX dX11_readLot_56 (by rw [hnL]; decide) rfl ?_
              refine j_aload_n hX dX11_readLot_58 rfl 1 rfl ?_
              refine j_callVI hX lk_X11_249 (c_X11_isGood _ _ _ _ _ _ (by omega) hI165) (by omega) hce rfl rfl (by omega) (by omega) kc_210 rfl rfl (Nat.le_of_ble_eq_true rfl) dX11_readLot_59 (fun z178 M179 hz181 hp180 => ?_)
              obtain ⟨hE182, hb183, hq184, hq185⟩ := hp180
              replace hE182 := hE182.symm
              subst hE182
              refine j_if_ne (tgt := 66) hX dX11_readLot_62 (by decide) (by omega) (fun hc186 => ?_) (fun hc186 => ?_)
              · skip
                have hi187 := hq184 (by omega)
                clear hq184
                clear hq185
                have hb0 : bt x1 zr = 0 := by first | exact btz hbt (by omega) (by omega) | (exfalso; omega)
                have hlt0 := hV172
                have hzr : 0 ≤ zr ∧ zr < nw := by omega
                have hxl := LT_lt hlt0 hzr hnw2 hb0
                refine j_iload_n hX dX11_readLot_66 rfl 2 rfl ?_
                refine j_iconst hX dX11_readLot_67 ?_
                refine j_iload hX dX11_readLot_68 0 rfl ?_
                refine j_ishl hX dX11_readLot_70 (fun z188 hz189 hy190 => ?_)
                refine j_ior hX dX11_readLot_71 (fun z191 hz192 hy193 => ?_)
                have hor := orb_of (by assumption) hz192
                refine j_istore_n (lv' := [(1, _), (4, _), (0, _), (2, _), (3, _)]) hX dX11_readLot_72 rfl (by rw [hnL]; decide) rfl ?_
                refine j_aload_n hX dX11_readLot_73 rfl 2 rfl ?_
                refine gf_X11_48 hX (by omega) (by omega) kc_210 (fc_210_20 hI165) (by decide) dX11_readLot_74 ?_
                refine j_bipush hX dX11_readLot_77 rfl ?_
                refine j_aload_n hX dX11_readLot_79 rfl 2 rfl ?_
                refine gf_X11_270 hX (by omega) (by omega) kc_210 dX11_readLot_80 ?_
                refine j_top hk174 ?_
                refine j_imul hX dX11_readLot_83 ?_
                refine j_iload_n hX dX11_readLot_84 rfl 3 rfl ?_
                refine j_iadd hX dX11_readLot_85 ?_
                refine j_iload hX dX11_readLot_86 1 rfl ?_
                refine j_iast hX (by omega) (by omega) kc_222 (by omega) (by omega) (by omega) (by omega) dX11_readLot_88 ?_
                refine j_up hI165 (ra_222 _) (by omega) (by omega) (Or.inl (by omega)) (fun M194 w195 hw196 hM197 hI198 hf199 => ?_)
                have hV201 := ML_dp (M' := M194) hq167 (fun a b h => by rw [hM197]; exact up_ne (by omega))
                have hk202 := kp_up hM197 (fun h => absurd h.1 (by decide)) hk174
                have hk203 := kp_up hM197 (fun h => absurd h.1 (by decide)) hk175
                have hk204 := kp_up hM197 (fun h => absurd h.1 (by decide)) hk177
                clear hk174 hk175 hk177
                have hF205 := Fr.put hF176 hM197 ((Or.inr (Or.inr ⟨rfl, by omega, by omega⟩)))
                have hlt := LT_s hlt0 hM197 (by omega) hw196 hzr hnw2 hb0 hor
                have hV206 := hlt
                refine j_iinc (lv' := [(2, _), (1, _), (4, _), (0, _), (3, _)]) hX dX11_readLot_89 3 rfl (by rw [hnL]; decide) rfl ?_
                refine j_aload_n hX dX11_readLot_92 rfl 3 rfl ?_
                refine gf_X11_221 hX (by omega) (by omega) kc_210 dX11_readLot_93 ?_
                refine j_name hI198 ro_210_8 (fun v207 hv208 hl209 hh210 => ?_)
                have hk211 := hv208.symm
                refine j_iconst hX dX11_readLot_96 ?_
                refine j_icmp_ne (tgt := 104) hX dX11_readLot_97 (by decide) (by omega) (by omega) (fun hc212 => ?_) (fun hc212 => ?_)
                · skip
                  refine j_iconst hX dX11_readLot_104 ?_
                  refine j_istore_n (lv' := [(3, _), (2, _), (1, _), (4, _), (0, _)]) hX dX11_readLot_105 rfl (by rw [hnL]; decide) rfl ?_
                  refine j_goto (tgt := 16) hX dX11_readLot_106 (by decide) ?_
                  refine j_sub [4, 2, 1, 0] rfl ?_
                  exact ih _ _ _ _ (by omega) (by omega) (by omega) hI198 hF205 hk202 hk203 hV201 hV206 (by first | assumption | omega) (by omega) (by omega)
                · skip
                  refine j_iconst hX dX11_readLot_100 ?_
                  refine j_goto (tgt := 105) hX dX11_readLot_101 (by decide) ?_
                  refine j_istore_n (lv' := [(3, _), (2, _), (1, _), (4, _), (0, _)]) hX dX11_readLot_105 rfl (by rw [hnL]; decide) rfl ?_
                  refine j_goto (tgt := 16) hX dX11_readLot_106 (by decide) ?_
                  refine j_sub [4, 2, 1, 0] rfl ?_
                  exact ih _ _ _ _ (by omega) (by omega) (by omega) hI198 hF205 hk202 hk203 hV201 hV206 (by first | assumption | omega) (by omega) (by omega)
              · skip
                clear hq184
                have hi213 := hq185 (by omega)
                clear hq185
                exact hret _ _ _ dX11_readLot_65 ⟨hI165, hF176, by assumption, by first | exact fun _ => LT_end hV_1 (by omega) hnw2 | exact fun h => absurd h (by omega)⟩
  show J X B N 0 0 0 [(0, rv B 210)] [] M
  refine j_aload_n hX dX11_readLot_0 rfl 0 rfl ?_
  refine gf_X11_75 hX (by omega) (by omega) kc_210 (fc_210_29 hI) (by decide) dX11_readLot_1 ?_
  refine j_aload_n hX dX11_readLot_4 rfl 0 rfl ?_
  refine gf_X11_270 hX (by omega) (by omega) kc_210 dX11_readLot_5 ?_
  refine j_top hw ?_
  refine j_iconst hX dX11_readLot_8 ?_
  refine j_zast hX (by omega) (by omega) kc_231 (by omega) (by omega) (by omega) (by omega) dX11_readLot_9 ?_
  refine j_up hI (ra_231 _) (by omega) (by omega) (Or.inl (by omega)) (fun M214 w215 hw216 hM217 hI218 hf219 => ?_)
  have hV220 := ML_dp (M' := M214) hML (fun a b h => by rw [hM217]; exact up_ne (by omega))
  have hk221 := kp_up hM217 (fun h => absurd h.1 (by decide)) hw
  have hk222 := kp_up hM217 (fun h => absurd h.1 (by decide)) hnw
  have hk223 := kp_up hM217 (fun h => absurd h.1 (by decide)) hk1
  clear hk1
  have hF224 := Fr.put hF hM217 ((Or.inr (Or.inl ⟨rfl, by omega, by omega⟩)))
  refine j_iconst hX dX11_readLot_10 ?_
  refine j_istore_n (lv' := [(1, _), (0, _)]) hX dX11_readLot_11 rfl (by rw [hnL]; decide) rfl ?_
  refine j_iconst hX dX11_readLot_12 ?_
  refine j_istore_n (lv' := [(2, _), (1, _), (0, _)]) hX dX11_readLot_13 rfl (by rw [hnL]; decide) rfl ?_
  have hV225 := (LT_0 : LT M214 (6 * w) nw 0 0)
  refine j_iconst hX dX11_readLot_14 ?_
  refine j_istore_n (lv' := [(3, _), (2, _), (1, _), (0, _)]) hX dX11_readLot_15 rfl (by rw [hnL]; decide) rfl ?_
  refine j_sub [3, 2, 1, 0] rfl ?_
  refine (cp (Int.toNat (256 + 1))) _ _ _ _ (by omega) (by omega) (by omega) hI218 hF224 hk221 hk222 hV220 hV225 (by first | assumption | omega) ?_ ?_
  · omega
  · omega
