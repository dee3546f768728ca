theorem dX1_meetAtTheWell_0 : decode cX1_meetAtTheWell 0 = .ok (.aload_n 2, 1) := by decide +kernel
theorem dX1_meetAtTheWell_1 : decode cX1_meetAtTheWell 1 = .ok (.getfield 50, 3) := by decide +kernel
theorem dX1_meetAtTheWell_4 : decode cX1_meetAtTheWell 4 = .ok (.iconst 0, 1) := by decide +kernel
theorem dX1_meetAtTheWell_5 : decode cX1_meetAtTheWell 5 = .ok (.aload_n 0, 1) := by decide +kernel
theorem dX1_meetAtTheWell_6 : decode cX1_meetAtTheWell 6 = .ok (.getfield 9, 3) := by decide +kernel
theorem dX1_meetAtTheWell_9 : decode cX1_meetAtTheWell 9 = .ok (.iconst 0, 1) := by decide +kernel
theorem dX1_meetAtTheWell_10 : decode cX1_meetAtTheWell 10 = .ok (.bipush 6, 2) := by decide +kernel
theorem dX1_meetAtTheWell_12 : decode cX1_meetAtTheWell 12 = .ok (.invokestatic 53, 3) := by decide +kernel
theorem dX1_meetAtTheWell_15 : decode cX1_meetAtTheWell 15 = .ok (.iconst 0, 1) := by decide +kernel
theorem dX1_meetAtTheWell_16 : decode cX1_meetAtTheWell 16 = .ok (.istore_n 3, 1) := by decide +kernel
theorem dX1_meetAtTheWell_17 : decode cX1_meetAtTheWell 17 = .ok (.iconst 0, 1) := by decide +kernel
theorem dX1_meetAtTheWell_18 : decode cX1_meetAtTheWell 18 = .ok (.istore 4, 2) := by decide +kernel
theorem dX1_meetAtTheWell_20 : decode cX1_meetAtTheWell 20 = .ok (.iload 4, 2) := by decide +kernel
theorem dX1_meetAtTheWell_22 : decode cX1_meetAtTheWell 22 = .ok (.aload_n 1, 1) := by decide +kernel
theorem dX1_meetAtTheWell_23 : decode cX1_meetAtTheWell 23 = .ok (.getfield 26, 3) := by decide +kernel
theorem dX1_meetAtTheWell_26 : decode cX1_meetAtTheWell 26 = .ok (.if_icmp .ge 58, 3) := by decide +kernel
theorem dX1_meetAtTheWell_29 : decode cX1_meetAtTheWell 29 = .ok (.iconst 0, 1) := by decide +kernel
theorem dX1_meetAtTheWell_30 : decode cX1_meetAtTheWell 30 = .ok (.istore 5, 2) := by decide +kernel
theorem dX1_meetAtTheWell_32 : decode cX1_meetAtTheWell 32 = .ok (.iload 5, 2) := by decide +kernel
theorem dX1_meetAtTheWell_34 : decode cX1_meetAtTheWell 34 = .ok (.aload_n 1, 1) := by decide +kernel
theorem dX1_meetAtTheWell_35 : decode cX1_meetAtTheWell 35 = .ok (.getfield 26, 3) := by decide +kernel
theorem dX1_meetAtTheWell_38 : decode cX1_meetAtTheWell 38 = .ok (.if_icmp .ge 40, 3) := by decide +kernel
theorem dX1_meetAtTheWell_41 : decode cX1_meetAtTheWell 41 = .ok (.aload_n 1, 1) := by decide +kernel
theorem dX1_meetAtTheWell_42 : decode cX1_meetAtTheWell 42 = .ok (.getfield 59, 3) := by decide +kernel
theorem dX1_meetAtTheWell_45 : decode cX1_meetAtTheWell 45 = .ok (.iload 4, 2) := by decide +kernel
theorem dX1_meetAtTheWell_47 : decode cX1_meetAtTheWell 47 = .ok (.iaload, 1) := by decide +kernel
theorem dX1_meetAtTheWell_48 : decode cX1_meetAtTheWell 48 = .ok (.iload 5, 2) := by decide +kernel
theorem dX1_meetAtTheWell_50 : decode cX1_meetAtTheWell 50 = .ok (.ishr, 1) := by decide +kernel
theorem dX1_meetAtTheWell_51 : decode cX1_meetAtTheWell 51 = .ok (.iconst 1, 1) := by decide +kernel
theorem dX1_meetAtTheWell_52 : decode cX1_meetAtTheWell 52 = .ok (.iand, 1) := by decide +kernel
theorem dX1_meetAtTheWell_53 : decode cX1_meetAtTheWell 53 = .ok (.ifCond .eq 19, 3) := by decide +kernel
theorem dX1_meetAtTheWell_56 : decode cX1_meetAtTheWell 56 = .ok (.iload_n 3, 1) := by decide +kernel
theorem dX1_meetAtTheWell_57 : decode cX1_meetAtTheWell 57 = .ok (.aload_n 2, 1) := by decide +kernel
theorem dX1_meetAtTheWell_58 : decode cX1_meetAtTheWell 58 = .ok (.iload 4, 2) := by decide +kernel
theorem dX1_meetAtTheWell_60 : decode cX1_meetAtTheWell 60 = .ok (.aload_n 0, 1) := by decide +kernel
theorem dX1_meetAtTheWell_61 : decode cX1_meetAtTheWell 61 = .ok (.getfield 9, 3) := by decide +kernel
theorem dX1_meetAtTheWell_64 : decode cX1_meetAtTheWell 64 = .ok (.iload 5, 2) := by decide +kernel
theorem dX1_meetAtTheWell_66 : decode cX1_meetAtTheWell 66 = .ok (.iaload, 1) := by decide +kernel
theorem dX1_meetAtTheWell_67 : decode cX1_meetAtTheWell 67 = .ok (.invokevirtual 39, 3) := by decide +kernel
theorem dX1_meetAtTheWell_70 : decode cX1_meetAtTheWell 70 = .ok (.iadd, 1) := by decide +kernel
theorem dX1_meetAtTheWell_71 : decode cX1_meetAtTheWell 71 = .ok (.istore_n 3, 1) := by decide +kernel
theorem dX1_meetAtTheWell_72 : decode cX1_meetAtTheWell 72 = .ok (.iinc 5 1, 3) := by decide +kernel
theorem dX1_meetAtTheWell_75 : decode cX1_meetAtTheWell 75 = .ok (.goto (-43), 3) := by decide +kernel
theorem dX1_meetAtTheWell_78 : decode cX1_meetAtTheWell 78 = .ok (.iinc 4 1, 3) := by decide +kernel
theorem dX1_meetAtTheWell_81 : decode cX1_meetAtTheWell 81 = .ok (.goto (-61), 3) := by decide +kernel
theorem dX1_meetAtTheWell_84 : decode cX1_meetAtTheWell 84 = .ok (.iload_n 3, 1) := by decide +kernel
theorem dX1_meetAtTheWell_85 : decode cX1_meetAtTheWell 85 = .ok (.ireturn, 1) := by decide +kernel
theorem dX1_passHour_0 : decode cX1_passHour 0 = .ok (.iconst 0, 1) := by decide +kernel
theorem dX1_passHour_1 : decode cX1_passHour 1 = .ok (.istore_n 3, 1) := by decide +kernel
theorem dX1_passHour_2 : decode cX1_passHour 2 = .ok (.aload_n 1, 1) := by decide +kernel
theorem dX1_passHour_3 : decode cX1_passHour 3 = .ok (.getfield 15, 3) := by decide +kernel
theorem dX1_passHour_6 : decode cX1_passHour 6 = .ok (.aload_n 2, 1) := by decide +kernel
theorem dX1_passHour_7 : decode cX1_passHour 7 = .ok (.getfield 20, 3) := by decide +kernel
theorem dX1_passHour_10 : decode cX1_passHour 10 = .ok (.iaload, 1) := by decide +kernel
theorem dX1_passHour_11 : decode cX1_passHour 11 = .ok (.istore 4, 2) := by decide +kernel
theorem dX1_passHour_13 : decode cX1_passHour 13 = .ok (.iconst 0, 1) := by decide +kernel
theorem dX1_passHour_14 : decode cX1_passHour 14 = .ok (.istore 5, 2) := by decide +kernel
theorem dX1_passHour_16 : decode cX1_passHour 16 = .ok (.iload 5, 2) := by decide +kernel
theorem dX1_passHour_18 : decode cX1_passHour 18 = .ok (.aload_n 1, 1) := by decide +kernel
theorem dX1_passHour_19 : decode cX1_passHour 19 = .ok (.getfield 26, 3) := by decide +kernel
theorem dX1_passHour_22 : decode cX1_passHour 22 = .ok (.if_icmp .ge 47, 3) := by decide +kernel
theorem dX1_passHour_25 : decode cX1_passHour 25 = .ok (.iload 4, 2) := by decide +kernel
theorem dX1_passHour_27 : decode cX1_passHour 27 = .ok (.ifCond .eq 42, 3) := by decide +kernel
theorem dX1_passHour_30 : decode cX1_passHour 30 = .ok (.aload_n 2, 1) := by decide +kernel
theorem dX1_passHour_31 : decode cX1_passHour 31 = .ok (.iload 5, 2) := by decide +kernel
theorem dX1_passHour_33 : decode cX1_passHour 33 = .ok (.invokevirtual 29, 3) := by decide +kernel
theorem dX1_passHour_36 : decode cX1_passHour 36 = .ok (.ifCond .eq 27, 3) := by decide +kernel
theorem dX1_passHour_39 : decode cX1_passHour 39 = .ok (.iload_n 3, 1) := by decide +kernel
theorem dX1_passHour_40 : decode cX1_passHour 40 = .ok (.aload_n 2, 1) := by decide +kernel
theorem dX1_passHour_41 : decode cX1_passHour 41 = .ok (.iload 5, 2) := by decide +kernel
theorem dX1_passHour_43 : decode cX1_passHour 43 = .ok (.iload 4, 2) := by decide +kernel
theorem dX1_passHour_45 : decode cX1_passHour 45 = .ok (.aload_n 1, 1) := by decide +kernel
theorem dX1_passHour_46 : decode cX1_passHour 46 = .ok (.getfield 33, 3) := by decide +kernel
theorem dX1_passHour_49 : decode cX1_passHour 49 = .ok (.aload_n 2, 1) := by decide +kernel
theorem dX1_passHour_50 : decode cX1_passHour 50 = .ok (.getfield 36, 3) := by decide +kernel
theorem dX1_passHour_53 : decode cX1_passHour 53 = .ok (.iload 5, 2) := by decide +kernel
theorem dX1_passHour_55 : decode cX1_passHour 55 = .ok (.iaload, 1) := by decide +kernel
theorem dX1_passHour_56 : decode cX1_passHour 56 = .ok (.iaload, 1) := by decide +kernel
theorem dX1_passHour_57 : decode cX1_passHour 57 = .ok (.iand, 1) := by decide +kernel
theorem dX1_passHour_58 : decode cX1_passHour 58 = .ok (.invokevirtual 39, 3) := by decide +kernel
theorem dX1_passHour_61 : decode cX1_passHour 61 = .ok (.iadd, 1) := by decide +kernel
theorem dX1_passHour_62 : decode cX1_passHour 62 = .ok (.istore_n 3, 1) := by decide +kernel
theorem dX1_passHour_63 : decode cX1_passHour 63 = .ok (.iinc 5 1, 3) := by decide +kernel
theorem dX1_passHour_66 : decode cX1_passHour 66 = .ok (.goto (-50), 3) := by decide +kernel
theorem dX1_passHour_69 : decode cX1_passHour 69 = .ok (.aload_n 2, 1) := by decide +kernel
theorem dX1_passHour_70 : decode cX1_passHour 70 = .ok (.dup, 1) := by decide +kernel
theorem dX1_passHour_71 : decode cX1_passHour 71 = .ok (.getfield 20, 3) := by decide +kernel
theorem dX1_passHour_74 : decode cX1_passHour 74 = .ok (.iconst 1, 1) := by decide +kernel
theorem dX1_passHour_75 : decode cX1_passHour 75 = .ok (.iadd, 1) := by decide +kernel
theorem dX1_passHour_76 : decode cX1_passHour 76 = .ok (.putfield 20, 3) := by decide +kernel
theorem dX1_passHour_79 : decode cX1_passHour 79 = .ok (.aload_n 2, 1) := by decide +kernel
theorem dX1_passHour_80 : decode cX1_passHour 80 = .ok (.getfield 20, 3) := by decide +kernel
theorem dX1_passHour_83 : decode cX1_passHour 83 = .ok (.bipush 24, 2) := by decide +kernel
theorem dX1_passHour_85 : decode cX1_passHour 85 = .ok (.if_icmp .lt 27, 3) := by decide +kernel
theorem dX1_passHour_88 : decode cX1_passHour 88 = .ok (.aload_n 2, 1) := by decide +kernel
theorem dX1_passHour_89 : decode cX1_passHour 89 = .ok (.iconst 0, 1) := by decide +kernel
theorem dX1_passHour_90 : decode cX1_passHour 90 = .ok (.putfield 20, 3) := by decide +kernel
theorem dX1_passHour_93 : decode cX1_passHour 93 = .ok (.aload_n 2, 1) := by decide +kernel
theorem dX1_passHour_94 : decode cX1_passHour 94 = .ok (.dup, 1) := by decide +kernel
theorem dX1_passHour_95 : decode cX1_passHour 95 = .ok (.getfield 43, 3) := by decide +kernel
theorem dX1_passHour_98 : decode cX1_passHour 98 = .ok (.iconst 1, 1) := by decide +kernel
theorem dX1_passHour_99 : decode cX1_passHour 99 = .ok (.iadd, 1) := by decide +kernel
theorem dX1_passHour_100 : decode cX1_passHour 100 = .ok (.putfield 43, 3) := by decide +kernel
theorem dX1_passHour_103 : decode cX1_passHour 103 = .ok (.iload_n 3, 1) := by decide +kernel
theorem dX1_passHour_104 : decode cX1_passHour 104 = .ok (.aload_n 0, 1) := by decide +kernel
theorem dX1_passHour_105 : decode cX1_passHour 105 = .ok (.aload_n 1, 1) := by decide +kernel
theorem dX1_passHour_106 : decode cX1_passHour 106 = .ok (.aload_n 2, 1) := by decide +kernel
theorem dX1_passHour_107 : decode cX1_passHour 107 = .ok (.invokevirtual 46, 3) := by decide +kernel
theorem dX1_passHour_110 : decode cX1_passHour 110 = .ok (.iadd, 1) := by decide +kernel
theorem dX1_passHour_111 : decode cX1_passHour 111 = .ok (.istore_n 3, 1) := by decide +kernel
theorem dX1_passHour_112 : decode cX1_passHour 112 = .ok (.iload_n 3, 1) := by decide +kernel
theorem dX1_passHour_113 : decode cX1_passHour 113 = .ok (.ireturn, 1) := by decide +kernel
set_option maxHeartbeats 2000000 in
set_option maxRecDepth 20000 in
theorem c_X1_meetAtTheWell (l : Launch) (D : va_G) (cy : Nat → ClassId) (B N : Nat) (q : Int) (s : Int) (M : MM) (hN : 210 ≤ N) (hI : Iv M) (hq : q = 5 ∨ q = 180) (hs : Sc s) : CI l D cy B N 3 yX1_meetAtTheWell cX1_meetAtTheWell 6 (some .int) [rv B 151, rv B q, rv B s] M (fun z M' => Iv M' ∧ Fr (fun a (_ : Int) => (a = s + 2) ∨ (a = 152)) M M') := by
  refine mk_CI (by decide) (Nat.le_of_ble_eq_true rfl) ?_
  intro X exl exD excy hnL hX hret
  have hce : 0 + 0 ≤ (xR X).cells ∧ 0 + 0 ≤ (xR X).slots := ⟨Nat.zero_le _, Nat.zero_le _⟩
  have hdq : 5 ≤ q ∧ q ≤ 180 := by omega
  have hbs := sc_b hs
  have hds : 28 ≤ s ∧ s ≤ 207 := by omega
  have hF : Fr (fun a (_ : Int) => (a = s + 2) ∨ (a = 152)) M M := Fr.rf
  have cp : ∀ n : Nat, (∀ (x3 x4 : Int), ∀ (Mc : MM), I32 x3 → I32 x4 → Iv Mc → Fr (fun a (_ : Int) => (a = s + 2) ∨ (a = 152)) M Mc → (0 ≤ x4 ∧ x4 ≤ 6) → 0 ≤ 32 * ((6 - x4) * 10 + 8) + 2 → 32 * ((6 - x4) * 10 + 8) + 2 < (n : Int) → J X B N 0 0 20 [(0, rv B 151), (1, rv B q), (2, rv B s), (3, iv x3), (4, iv x4)] [] Mc) ∧ (∀ (x3 x4 x5 : Int), ∀ (Mc : MM), I32 x3 → I32 x4 → I32 x5 → Iv Mc → Fr (fun a (_ : Int) => (a = s + 2) ∨ (a = 152)) M Mc → (0 ≤ x4 ∧ x4 < 6 ∧ 0 ≤ x5 ∧ x5 ≤ 6) → 0 ≤ 32 * ((6 - x4) * 10 + 7 - x5) + 1 → 32 * ((6 - x4) * 10 + 7 - x5) + 1 < (n : Int) → J X B N 0 0 32 [(0, rv B 151), (1, rv B q), (2, rv B s), (3, iv x3), (4, iv x4), (5, iv x5)] [] Mc) := by
    intro n
    induction n with
    | zero => exact ⟨by intros; exfalso; omega, by intros; exfalso; omega⟩
    | succ n ih =>
      refine ⟨?_, ?_⟩
      · intro x3 x4 Mc hxx3 hxx4 hI hF h2 hm0 hm1
        refine j_iload hX dX1_meetAtTheWell_20 4 rfl ?_
        refine j_aload_n hX dX1_meetAtTheWell_22 rfl 1 rfl ?_
        refine gf_X1_26 hX (by omega) (by omega) (kq hq) dX1_meetAtTheWell_23 ?_
        refine j_name hI (rq_0 hq) (fun v1 hv2 hl3 hh4 => ?_)
        have hk5 := hv2.symm
        refine j_icmp_ge (tgt := 84) hX dX1_meetAtTheWell_26 (by decide) (by omega) (by omega) (fun hc6 => ?_) (fun hc6 => ?_)
        · skip
          refine j_iload_n hX dX1_meetAtTheWell_84 rfl 3 rfl ?_
          exact hret _ _ _ _ dX1_meetAtTheWell_85 rfl (by omega) ⟨hI, hF⟩
        · skip
          refine j_iconst hX dX1_meetAtTheWell_29 ?_
          refine j_istore (lv' := [(5, _), (0, _), (1, _), (2, _), (3, _), (4, _)]) hX dX1_meetAtTheWell_30 (by rw [hnL]; decide) rfl ?_
          refine j_sub [1, 2, 3, 4, 5, 0] rfl ?_
          exact ih.2 _ _ _ _ (by omega) (by omega) (by omega) hI hF (by first | assumption | omega) (by omega) (by omega)
      · intro x3 x4 x5 Mc hxx3 hxx4 hxx5 hI hF h2 hm0 hm1
        refine j_iload hX dX1_meetAtTheWell_32 5 rfl ?_
        refine j_aload_n hX dX1_meetAtTheWell_34 rfl 1 rfl ?_
        refine gf_X1_26 hX (by omega) (by omega) (kq hq) dX1_meetAtTheWell_35 ?_
        refine j_name hI (rq_0 hq) (fun v7 hv8 hl9 hh10 => ?_)
        have hk11 := hv8.symm
        refine j_icmp_ge (tgt := 78) hX dX1_meetAtTheWell_38 (by decide) (by omega) (by omega) (fun hc12 => ?_) (fun hc12 => ?_)
        · skip
          refine j_iinc (lv' := [(4, _), (0, _), (1, _), (2, _), (3, _), (5, _)]) hX dX1_meetAtTheWell_78 4 rfl (by rw [hnL]; decide) rfl ?_
          refine j_goto (tgt := 20) hX dX1_meetAtTheWell_81 (by decide) ?_
          refine j_sub [1, 2, 3, 4, 0] rfl ?_
          exact ih.1 _ _ _ (by omega) (by omega) hI hF (by first | assumption | omega) (by omega) (by omega)
        · skip
          refine j_aload_n hX dX1_meetAtTheWell_41 rfl 1 rfl ?_
          refine gf_X1_59 hX (by omega) (by omega) (kq hq) (fq_12 hI hq) (by omega) dX1_meetAtTheWell_42 ?_
          refine j_iload hX dX1_meetAtTheWell_45 4 rfl ?_
          refine j_iald hX (by omega) (by omega) (kq_7 hq) (by omega) (by omega) (by omega) dX1_meetAtTheWell_47 ?_
          refine j_name hI (aq_7 hq _) (fun v13 hv14 hl15 hh16 => ?_)
          refine j_iload hX dX1_meetAtTheWell_48 5 rfl ?_
          refine j_ishr hX dX1_meetAtTheWell_50 (fun z17 hz18 hy19 => ?_)
          refine j_iconst hX dX1_meetAtTheWell_51 ?_
          refine j_iand hX dX1_meetAtTheWell_52 (fun z20 hz21 hy22 => ?_)
          have ha23 := (and_f hz21 (by omega) (by omega)).2 (by omega)
          refine j_if_eq (tgt := 72) hX dX1_meetAtTheWell_53 (by decide) (by omega) (fun hc24 => ?_) (fun hc24 => ?_)
          · skip
            refine j_iinc (lv' := [(5, _), (0, _), (1, _), (2, _), (3, _), (4, _)]) hX dX1_meetAtTheWell_72 5 rfl (by rw [hnL]; decide) rfl ?_
            refine j_goto (tgt := 32) hX dX1_meetAtTheWell_75 (by decide) ?_
            refine j_sub [1, 2, 3, 4, 5, 0] rfl ?_
            exact ih.2 _ _ _ _ (by omega) (by omega) (by omega) hI hF (by first | assumption | omega) (by omega) (by omega)
          · skip
            refine j_iload_n hX dX1_meetAtTheWell_56 rfl 3 rfl ?_
            refine j_aload_n hX dX1_meetAtTheWell_57 rfl 2 rfl ?_
            refine j_iload hX dX1_meetAtTheWell_58 4 rfl ?_
            refine j_aload_n hX dX1_meetAtTheWell_60 rfl 0 rfl ?_
            refine gf_X1_9 hX (by omega) (by omega) kc_151 (fc_151_0 hI) (by decide) dX1_meetAtTheWell_61 ?_
            refine j_iload hX dX1_meetAtTheWell_64 5 rfl ?_
            refine j_iald hX (by omega) (by omega) kc_152 (by omega) (by omega) (by omega) dX1_meetAtTheWell_66 ?_
            refine j_name hI (ra_152 _) (fun v25 hv26 hl27 hh28 => ?_)
            refine j_callVI hX lk_X1_39 (c_X8_learn _ _ _ _ _ s _ _ _ (by omega) hI (by omega) (by omega) hs (by first | assumption | omega)) (by omega) hce rfl rfl (by omega) (by omega) (sc_k0 hs) rfl rfl (Nat.le_of_ble_eq_true rfl) dX1_meetAtTheWell_67 (fun z29 M30 hz32 hp31 => ?_)
            obtain ⟨hI33, hG34⟩ := hp31
            have hk35 := kp_fr hG34 (by omega) hk11
            clear hk11
            have hF36 := Fr.trans hF hG34 (fun a b h => by omega)
            refine j_iadd hX dX1_meetAtTheWell_70 ?_
            refine j_norm (fun z37 hz38 hy39 => ?_)
            refine j_istore_n (lv' := [(3, _), (0, _), (1, _), (2, _), (4, _), (5, _)]) hX dX1_meetAtTheWell_71 rfl (by rw [hnL]; decide) rfl ?_
            refine j_iinc (lv' := [(5, _), (3, _), (0, _), (1, _), (2, _), (4, _)]) hX dX1_meetAtTheWell_72 5 rfl (by rw [hnL]; decide) rfl ?_
            refine j_goto (tgt := 32) hX dX1_meetAtTheWell_75 (by decide) ?_
            refine j_sub [2, 3, 4, 1, 5, 0] rfl ?_
            exact ih.2 _ _ _ _ (by omega) (by omega) (by omega) hI33 hF36 (by first | assumption | omega) (by omega) (by omega)
  show J X B N 0 0 0 [(0, rv B 151), (1, rv B q), (2, rv B s)] [] M
  refine j_aload_n hX dX1_meetAtTheWell_0 rfl 2 rfl ?_
  refine gf_X1_50 hX (by omega) (by omega) (sc_k0 hs) (sc_f1 hI hs) (by omega) dX1_meetAtTheWell_1 ?_
  refine j_iconst hX dX1_meetAtTheWell_4 ?_
  refine j_aload_n hX dX1_meetAtTheWell_5 rfl 0 rfl ?_
  refine gf_X1_9 hX (by omega) (by omega) kc_151 (fc_151_0 hI) (by decide) dX1_meetAtTheWell_6 ?_
  refine j_iconst hX dX1_meetAtTheWell_9 ?_
  refine j_bipush hX dX1_meetAtTheWell_10 rfl ?_
  refine j_copy hX (in_4 152 (by first | rfl | decide +kernel) rfl) (by omega) (by omega) (sc_k2 hs) (by omega) (by omega) kc_152 (by omega) (by omega) (by omega) (by omega) (by omega) (by decide) (Nat.le_of_ble_eq_true rfl) dX1_meetAtTheWell_12 ?_
  refine j_cp hI (fun b => (sc_n hs b)) (fun b => (ra_152 b)) (by omega) (by omega) (by omega) (fun M40 hM41 hI42 => ?_)
  have hG43 := fr_cp hM41
  have hF44 := Fr.trans hF hG43 (fun a b h => by omega)
  refine j_iconst hX dX1_meetAtTheWell_15 ?_
  refine j_istore_n (lv' := [(3, _), (0, _), (1, _), (2, _)]) hX dX1_meetAtTheWell_16 rfl (by rw [hnL]; decide) rfl ?_
  refine j_iconst hX dX1_meetAtTheWell_17 ?_
  refine j_istore (lv' := [(4, _), (3, _), (0, _), (1, _), (2, _)]) hX dX1_meetAtTheWell_18 (by rw [hnL]; decide) rfl ?_
  refine j_sub [2, 3, 4, 1, 0] rfl ?_
  refine (cp (Int.toNat (3264 + 1))).1 _ _ _ (by omega) (by omega) hI42 hF44 (by first | assumption | omega) ?_ ?_
  · omega
  · omega
set_option maxHeartbeats 2000000 in
set_option maxRecDepth 20000 in
theorem c_X1_passHour (l : Launch) (D : va_G) (cy : Nat → ClassId) (B N : Nat) (q : Int) (s : Int) (nr : Int) (M : MM) (hN : 210 ≤ N) (hI : Iv M) (hq : q = 5 ∨ q = 180) (hs : Sc s) (hnr : M.1 q 0 = nr) (hV : V nr s M) (hnb : 0 ≤ nr ∧ nr ≤ 6) : CI l D cy B N 4 yX1_passHour cX1_passHour 6 (some .int) [rv B 151, rv B q, rv B s] M (fun z M' => Iv M' ∧ Fr (fun a (_ : Int) => (s ≤ a ∧ a ≤ s + 2) ∨ (a = 152)) M M' ∧ (V nr s M')) := by
  refine mk_CI (by decide) (Nat.le_of_ble_eq_true rfl) ?_
  intro X exl exD excy hnL hX hret
  have hce : 0 + 0 ≤ (xR X).cells ∧ 0 + 0 ≤ (xR X).slots := ⟨Nat.zero_le _, Nat.zero_le _⟩
  have hdq : 5 ≤ q ∧ q ≤ 180 := by omega
  have hbs := sc_b hs
  have hds : 28 ≤ s ∧ s ≤ 207 := by omega
  have hF : Fr (fun a (_ : Int) => (s ≤ a ∧ a ≤ s + 2) ∨ (a = 152)) M M := Fr.rf
  have hh3 := hV.2
  have hV := hV.1
  have cp : ∀ n : Nat, (∀ (x3 x4 x5 : Int), ∀ (hr : Int), ∀ (Mc : MM), I32 x3 → I32 x4 → I32 x5 → Iv Mc → Fr (fun a (_ : Int) => (s ≤ a ∧ a ≤ s + 2) ∨ (a = 152)) M Mc → Mc.1 q 0 = nr → Mc.1 s 3 = hr → VR nr s Mc → (0 ≤ x5 ∧ x5 ≤ 6 ∧ hr ≤ 23 ∧ 0 ≤ hr) → 0 ≤ 32 * (6 - x5) + 1 → 32 * (6 - x5) + 1 < (n : Int) → J X B N 0 0 16 [(0, rv B 151), (1, rv B q), (2, rv B s), (3, iv x3), (4, iv x4), (5, iv x5)] [] Mc) := by
    intro n
    induction n with
    | zero => exact by intros; exfalso; omega
    | succ n ih =>
      · intro x3 x4 x5 hr Mc hxx3 hxx4 hxx5 hI hF hk_0 hk_1 hV_0 h2 hm0 hm1
        refine j_iload hX dX1_passHour_16 5 rfl ?_
        refine j_aload_n hX dX1_passHour_18 rfl 1 rfl ?_
        refine gf_X1_26 hX (by omega) (by omega) (kq hq) dX1_passHour_19 ?_
        refine j_top hk_0 ?_
        refine j_icmp_ge (tgt := 69) hX dX1_passHour_22 (by decide) (by omega) (by omega) (fun hc1 => ?_) (fun hc1 => ?_)
        · skip
          refine j_aload_n hX dX1_passHour_69 rfl 2 rfl ?_
          refine j_dup hX dX1_passHour_70 rfl ?_
          refine gf_X1_20 hX (by omega) (by omega) (sc_k0 hs) dX1_passHour_71 ?_
          refine j_top hk_1 ?_
          refine j_iconst hX dX1_passHour_74 ?_
          refine j_iadd hX dX1_passHour_75 ?_
          refine pf_X1_20 hX (by omega) (by omega) (sc_k0 hs) (by omega) dX1_passHour_76 ?_
          refine j_up hI (sc_r3 hs) (by omega) (by omega) (Or.inl (by omega)) (fun M2 w3 hw4 hM5 hI6 hf7 => ?_)
          have hV8 := VR_up hV_0 hM5 (by omega)
          have hk9 := kp_up hM5 (by omega) hk_0
          have hF10 := Fr.put hF hM5 (by omega)
          refine j_aload_n hX dX1_passHour_79 rfl 2 rfl ?_
          refine gf_X1_20 hX (by omega) (by omega) (sc_k0 hs) dX1_passHour_80 ?_
          refine j_top hf7 ?_
          refine j_bipush hX dX1_passHour_83 rfl ?_
          refine j_icmp_lt (tgt := 112) hX dX1_passHour_85 (by decide) (by omega) (by omega) (fun hc11 => ?_) (fun hc11 => ?_)
          · skip
            refine j_iload_n hX dX1_passHour_112 rfl 3 rfl ?_
            exact hret _ _ _ _ dX1_passHour_113 rfl (by omega) ⟨hI6, hF10, ⟨by assumption, by omega⟩⟩
          · skip
            refine j_aload_n hX dX1_passHour_88 rfl 2 rfl ?_
            refine j_iconst hX dX1_passHour_89 ?_
            refine pf_X1_20 hX (by omega) (by omega) (sc_k0 hs) (by omega) dX1_passHour_90 ?_
            refine j_up hI6 (sc_r3 hs) (by omega) (by omega) (Or.inl (by omega)) (fun M12 w13 hw14 hM15 hI16 hf17 => ?_)
            have hV18 := VR_up hV8 hM15 (by omega)
            have hk19 := kp_up hM15 (by omega) hk9
            clear hk9 hf7
            have hF20 := Fr.put hF10 hM15 (by omega)
            refine j_aload_n hX dX1_passHour_93 rfl 2 rfl ?_
            refine j_dup hX dX1_passHour_94 rfl ?_
            refine gf_X1_43 hX (by omega) (by omega) (sc_k0 hs) dX1_passHour_95 ?_
            refine j_name hI16 (sc_r4 hs) (fun v21 hv22 hl23 hh24 => ?_)
            have hk25 := hv22.symm
            refine j_iconst hX dX1_passHour_98 ?_
            refine j_iadd hX dX1_passHour_99 ?_
            refine j_norm (fun z26 hz27 hy28 => ?_)
            refine pf_X1_43 hX (by omega) (by omega) (sc_k0 hs) (by omega) dX1_passHour_100 ?_
            refine j_up hI16 (sc_r4 hs) (by omega) (by omega) (Or.inl (by omega)) (fun M29 w30 hw31 hM32 hI33 hf34 => ?_)
            have hV35 := VR_up hV18 hM32 (by omega)
            have hk36 := kp_up hM32 (by omega) hk19
            have hk37 := kp_up hM32 (fun h => absurd h.2 (by decide)) hf17
            clear hk19 hf17 hk25
            have hF38 := Fr.put hF20 hM32 (by omega)
            refine j_iload_n hX dX1_passHour_103 rfl 3 rfl ?_
            refine j_aload_n hX dX1_passHour_104 rfl 0 rfl ?_
            refine j_aload_n hX dX1_passHour_105 rfl 1 rfl ?_
            refine j_aload_n hX dX1_passHour_106 rfl 2 rfl ?_
            refine j_callVI hX lk_X1_46 (c_X1_meetAtTheWell _ _ _ _ _ q s _ (by omega) hI33 hq hs) (by omega) hce rfl rfl (by omega) (by omega) kc_151 rfl rfl (Nat.le_of_ble_eq_true rfl) dX1_passHour_107 (fun z39 M40 hz42 hp41 => ?_)
            obtain ⟨hI43, hG44⟩ := hp41
            have hV45 := VR_fr hV35 hG44 (fun b => by omega)
            have hk46 := kp_fr hG44 (by omega) hk36
            have hk47 := kp_fr hG44 (by omega) hk37
            have hk48 := kp_fr hG44 (by omega) hf34
            clear hk36 hk37 hf34
            have hF49 := Fr.trans hF38 hG44 (fun a b h => by omega)
            refine j_iadd hX dX1_passHour_110 ?_
            refine j_norm (fun z50 hz51 hy52 => ?_)
            refine j_istore_n (lv' := [(3, _), (0, _), (1, _), (2, _), (4, _), (5, _)]) hX dX1_passHour_111 rfl (by rw [hnL]; decide) rfl ?_
            refine j_iload_n hX dX1_passHour_112 rfl 0 rfl ?_
            exact hret _ _ _ _ dX1_passHour_113 rfl (by omega) ⟨hI43, hF49, ⟨by assumption, by omega⟩⟩
        · skip
          refine j_iload hX dX1_passHour_25 4 rfl ?_
          refine j_if_eq (tgt := 69) hX dX1_passHour_27 (by decide) (by omega) (fun hc53 => ?_) (fun hc53 => ?_)
          · skip
            refine j_aload_n hX dX1_passHour_69 rfl 2 rfl ?_
            refine j_dup hX dX1_passHour_70 rfl ?_
            refine gf_X1_20 hX (by omega) (by omega) (sc_k0 hs) dX1_passHour_71 ?_
            refine j_top hk_1 ?_
            refine j_iconst hX dX1_passHour_74 ?_
            refine j_iadd hX dX1_passHour_75 ?_
            refine pf_X1_20 hX (by omega) (by omega) (sc_k0 hs) (by omega) dX1_passHour_76 ?_
            refine j_up hI (sc_r3 hs) (by omega) (by omega) (Or.inl (by omega)) (fun M54 w55 hw56 hM57 hI58 hf59 => ?_)
            have hV60 := VR_up hV_0 hM57 (by omega)
            have hk61 := kp_up hM57 (by omega) hk_0
            have hF62 := Fr.put hF hM57 (by omega)
            refine j_aload_n hX dX1_passHour_79 rfl 2 rfl ?_
            refine gf_X1_20 hX (by omega) (by omega) (sc_k0 hs) dX1_passHour_80 ?_
            refine j_top hf59 ?_
            refine j_bipush hX dX1_passHour_83 rfl ?_
            refine j_icmp_lt (tgt := 112) hX dX1_passHour_85 (by decide) (by omega) (by omega) (fun hc63 => ?_) (fun hc63 => ?_)
            · skip
              refine j_iload_n hX dX1_passHour_112 rfl 3 rfl ?_
              exact hret _ _ _ _ dX1_passHour_113 rfl (by omega) ⟨hI58, hF62, ⟨by assumption, by omega⟩⟩
            · skip
              refine j_aload_n hX dX1_passHour_88 rfl 2 rfl ?_
              refine j_iconst hX dX1_passHour_89 ?_
              refine pf_X1_20 hX (by omega) (by omega) (sc_k0 hs) (by omega) dX1_passHour_90 ?_
              refine j_up hI58 (sc_r3 hs) (by omega) (by omega) (Or.inl (by omega)) (fun M64 w65 hw66 hM67 hI68 hf69 => ?_)
              have hV70 := VR_up hV60 hM67 (by omega)
              have hk71 := kp_up hM67 (by omega) hk61
              clear hk61 hf59
              have hF72 := Fr.put hF62 hM67 (by omega)
              refine j_aload_n hX dX1_passHour_93 rfl 2 rfl ?_
              refine j_dup hX dX1_passHour_94 rfl ?_
              refine gf_X1_43 hX (by omega) (by omega) (sc_k0 hs) dX1_passHour_95 ?_
              refine j_name hI68 (sc_r4 hs) (fun v73 hv74 hl75 hh76 => ?_)
              have hk77 := hv74.symm
              refine j_iconst hX dX1_passHour_98 ?_
              refine j_iadd hX dX1_passHour_99 ?_
              refine j_norm (fun z78 hz79 hy80 => ?_)
              refine pf_X1_43 hX (by omega) (by omega) (sc_k0 hs) (by omega) dX1_passHour_100 ?_
              refine j_up hI68 (sc_r4 hs) (by omega) (by omega) (Or.inl (by omega)) (fun M81 w82 hw83 hM84 hI85 hf86 => ?_)
              have hV87 := VR_up hV70 hM84 (by omega)
              have hk88 := kp_up hM84 (by omega) hk71
              have hk89 := kp_up hM84 (fun h => absurd h.2 (by decide)) hf69
              clear hk71 hf69 hk77
              have hF90 := Fr.put hF72 hM84 (by omega)
              refine j_iload_n hX dX1_passHour_103 rfl 3 rfl ?_
              refine j_aload_n hX dX1_passHour_104 rfl 0 rfl ?_
              refine j_aload_n hX dX1_passHour_105 rfl 1 rfl ?_
              refine j_aload_n hX dX1_passHour_106 rfl 2 rfl ?_
              refine j_callVI hX lk_X1_46 (c_X1_meetAtTheWell _ _ _ _ _ q s _ (by omega) hI85 hq hs) (by omega) hce rfl rfl (by omega) (by omega) kc_151 rfl rfl (Nat.le_of_ble_eq_true rfl) dX1_passHour_107 (fun z91 M92 hz94 hp93 => ?_)
              obtain ⟨hI95, hG96⟩ := hp93
              have hV97 := VR_fr hV87 hG96 (fun b => by omega)
              have hk98 := kp_fr hG96 (by omega) hk88
              have hk99 := kp_fr hG96 (by omega) hk89
              have hk100 := kp_fr hG96 (by omega) hf86
              clear hk88 hk89 hf86
              have hF101 := Fr.trans hF90 hG96 (fun a b h => by omega)
              refine j_iadd hX dX1_passHour_110 ?_
              refine j_norm (fun z102 hz103 hy104 => ?_)
              refine j_istore_n (lv' := [(3, _), (0, _), (1, _), (2, _), (4, _), (5, _)]) hX dX1_passHour_111 rfl (by rw [hnL]; decide) rfl ?_
              refine j_iload_n hX dX1_passHour_112 rfl 0 rfl ?_
              exact hret _ _ _ _ dX1_passHour_113 rfl (by omega) ⟨hI95, hF101, ⟨by assumption, by omega⟩⟩
          · skip
            refine j_aload_n hX dX1_passHour_30 rfl 2 rfl ?_
            refine j_iload hX dX1_passHour_31 5 rfl ?_
            refine j_callVI hX lk_X1_29 (c_X8_seesOne _ _ _ _ _ s _ _ (by omega) hI (by omega) hs (by first | assumption | omega)) (by omega) hce rfl rfl (by omega) (by omega) (sc_k0 hs) rfl rfl (Nat.le_of_ble_eq_true rfl) dX1_passHour_33 (fun z105 M106 hz108 hp107 => ?_)
            obtain ⟨rfl, hb109⟩ := hp107
            refine j_if_eq (tgt := 63) hX dX1_passHour_36 (by decide) (by omega) (fun hc110 => ?_) (fun hc110 => ?_)
            · skip
              refine j_iinc (lv' := [(5, _), (0, _), (1, _), (2, _), (3, _), (4, _)]) hX dX1_passHour_63 5 rfl (by rw [hnL]; decide) rfl ?_
              refine j_goto (tgt := 16) hX dX1_passHour_66 (by decide) ?_
              refine j_sub [1, 2, 3, 4, 5, 0] rfl ?_
              exact ih _ _ _ _ _ (by omega) (by omega) (by omega) hI hF hk_0 hk_1 hV_0 (by first | assumption | omega) (by omega) (by omega)
            · skip
              refine j_iload_n hX dX1_passHour_39 rfl 3 rfl ?_
              refine j_aload_n hX dX1_passHour_40 rfl 2 rfl ?_
              refine j_iload hX dX1_passHour_41 5 rfl ?_
              refine j_iload hX dX1_passHour_43 4 rfl ?_
              refine j_aload_n hX dX1_passHour_45 rfl 1 rfl ?_
              refine gf_X1_33 hX (by omega) (by omega) (kq hq) (fq_18 hI hq) (by omega) dX1_passHour_46 ?_
              refine j_aload_n hX dX1_passHour_49 rfl 2 rfl ?_
              refine gf_X1_36 hX (by omega) (by omega) (sc_k0 hs) (sc_f0 hI hs) (by omega) dX1_passHour_50 ?_
              refine j_iload hX dX1_passHour_53 5 rfl ?_
              refine j_iald hX (by omega) (by omega) (sc_k1 hs) (by omega) (by omega) (by omega) dX1_passHour_55 ?_
              refine j_name hI (sc_w hs _) (fun v111 hv112 hl113 hh114 => ?_)
              have hva115 := VR_at hV_0 hv112 (by omega) (by omega)
              refine j_iald hX (by omega) (by omega) (kq_19 hq) (by omega) (by omega) (by omega) dX1_passHour_56 ?_
              refine j_name hI (aq_19 hq _) (fun v116 hv117 hl118 hh119 => ?_)
              refine j_iand hX dX1_passHour_57 (fun z120 hz121 hy122 => ?_)
              refine j_callVI hX lk_X1_39 (c_X8_learn _ _ _ _ _ s _ _ _ (by omega) hI (by omega) (by omega) hs (by first | assumption | omega)) (by omega) hce rfl rfl (by omega) (by omega) (sc_k0 hs) rfl rfl (Nat.le_of_ble_eq_true rfl) dX1_passHour_58 (fun z123 M124 hz126 hp125 => ?_)
              obtain ⟨hI127, hG128⟩ := hp125
              have hV129 := VR_fr hV_0 hG128 (fun b => by omega)
              have hk130 := kp_fr hG128 (by omega) hk_0
              have hk131 := kp_fr hG128 (by omega) hk_1
              have hF132 := Fr.trans hF hG128 (fun a b h => by omega)
              refine j_iadd hX dX1_passHour_61 ?_
              refine j_norm (fun z133 hz134 hy135 => ?_)
              refine j_istore_n (lv' := [(3, _), (0, _), (1, _), (2, _), (4, _), (5, _)]) hX dX1_passHour_62 rfl (by rw [hnL]; decide) rfl ?_
              refine j_iinc (lv' := [(5, _), (3, _), (0, _), (1, _), (2, _), (4, _)]) hX dX1_passHour_63 5 rfl (by rw [hnL]; decide) rfl ?_
              refine j_goto (tgt := 16) hX dX1_passHour_66 (by decide) ?_
              refine j_sub [2, 3, 4, 1, 5, 0] rfl ?_
              exact ih _ _ _ _ _ (by omega) (by omega) (by omega) hI127 hF132 hk130 hk131 hV129 (by first | assumption | omega) (by omega) (by omega)
  show J X B N 0 0 0 [(0, rv B 151), (1, rv B q), (2, rv B s)] [] M
  refine j_iconst hX dX1_passHour_0 ?_
  refine j_istore_n (lv' := [(3, _), (0, _), (1, _), (2, _)]) hX dX1_passHour_1 rfl (by rw [hnL]; decide) rfl ?_
  refine j_aload_n hX dX1_passHour_2 rfl 2 rfl ?_
  refine gf_X1_15 hX (by omega) (by omega) (kq hq) (fq_19 hI hq) (by omega) dX1_passHour_3 ?_
  refine j_aload_n hX dX1_passHour_6 rfl 3 rfl ?_
  refine gf_X1_20 hX (by omega) (by omega) (sc_k0 hs) dX1_passHour_7 ?_
  refine j_name hI (sc_r3 hs) (fun v136 hv137 hl138 hh139 => ?_)
  have hk140 := hv137.symm
  refine j_iald hX (by omega) (by omega) (kq_20 hq) (by omega) (by omega) (by omega) dX1_passHour_10 ?_
  refine j_name hI (aq_20 hq _) (fun v141 hv142 hl143 hh144 => ?_)
  refine j_istore (lv' := [(4, _), (3, _), (0, _), (1, _), (2, _)]) hX dX1_passHour_11 (by rw [hnL]; decide) rfl ?_
  refine j_iconst hX dX1_passHour_13 ?_
  refine j_istore (lv' := [(5, _), (4, _), (3, _), (0, _), (1, _), (2, _)]) hX dX1_passHour_14 (by rw [hnL]; decide) rfl ?_
  refine j_sub [3, 4, 5, 2, 1, 0] rfl ?_
  refine (cp (Int.toNat (256 + 1))) _ _ _ _ _ (by omega) (by omega) (by omega) hI hF hnr hk140 hV (by first | assumption | omega) ?_ ?_
  · omega
  · omega
