theorem dX5_pointToWanted_0 : decode cX5_pointToWanted 0 = .ok (.iconst 0, 1) := by decide +kernel
theorem dX5_pointToWanted_1 : decode cX5_pointToWanted 1 = .ok (.istore 4, 2) := by decide +kernel
theorem dX5_pointToWanted_3 : decode cX5_pointToWanted 3 = .ok (.iload 4, 2) := by decide +kernel
theorem dX5_pointToWanted_5 : decode cX5_pointToWanted 5 = .ok (.aload_n 1, 1) := by decide +kernel
theorem dX5_pointToWanted_6 : decode cX5_pointToWanted 6 = .ok (.getfield 41, 3) := by decide +kernel
theorem dX5_pointToWanted_9 : decode cX5_pointToWanted 9 = .ok (.if_icmp .ge 77, 3) := by decide +kernel
theorem dX5_pointToWanted_12 : decode cX5_pointToWanted 12 = .ok (.iconst (-1), 1) := by decide +kernel
theorem dX5_pointToWanted_13 : decode cX5_pointToWanted 13 = .ok (.istore 5, 2) := by decide +kernel
theorem dX5_pointToWanted_15 : decode cX5_pointToWanted 15 = .ok (.iconst 0, 1) := by decide +kernel
theorem dX5_pointToWanted_16 : decode cX5_pointToWanted 16 = .ok (.istore 6, 2) := by decide +kernel
theorem dX5_pointToWanted_18 : decode cX5_pointToWanted 18 = .ok (.iload 6, 2) := by decide +kernel
theorem dX5_pointToWanted_20 : decode cX5_pointToWanted 20 = .ok (.aload_n 1, 1) := by decide +kernel
theorem dX5_pointToWanted_21 : decode cX5_pointToWanted 21 = .ok (.getfield 41, 3) := by decide +kernel
theorem dX5_pointToWanted_24 : decode cX5_pointToWanted 24 = .ok (.if_icmp .ge 56, 3) := by decide +kernel
theorem dX5_pointToWanted_27 : decode cX5_pointToWanted 27 = .ok (.aload_n 2, 1) := by decide +kernel
theorem dX5_pointToWanted_28 : decode cX5_pointToWanted 28 = .ok (.iload 6, 2) := by decide +kernel
theorem dX5_pointToWanted_30 : decode cX5_pointToWanted 30 = .ok (.invokevirtual 89, 3) := by decide +kernel
theorem dX5_pointToWanted_33 : decode cX5_pointToWanted 33 = .ok (.istore 7, 2) := by decide +kernel
theorem dX5_pointToWanted_35 : decode cX5_pointToWanted 35 = .ok (.aload_n 1, 1) := by decide +kernel
theorem dX5_pointToWanted_36 : decode cX5_pointToWanted 36 = .ok (.iload 4, 2) := by decide +kernel
theorem dX5_pointToWanted_38 : decode cX5_pointToWanted 38 = .ok (.iload 6, 2) := by decide +kernel
theorem dX5_pointToWanted_40 : decode cX5_pointToWanted 40 = .ok (.invokevirtual 86, 3) := by decide +kernel
theorem dX5_pointToWanted_43 : decode cX5_pointToWanted 43 = .ok (.istore 8, 2) := by decide +kernel
theorem dX5_pointToWanted_45 : decode cX5_pointToWanted 45 = .ok (.iload_n 3, 1) := by decide +kernel
theorem dX5_pointToWanted_46 : decode cX5_pointToWanted 46 = .ok (.iload 7, 2) := by decide +kernel
theorem dX5_pointToWanted_48 : decode cX5_pointToWanted 48 = .ok (.ishr, 1) := by decide +kernel
theorem dX5_pointToWanted_49 : decode cX5_pointToWanted 49 = .ok (.iconst 1, 1) := by decide +kernel
theorem dX5_pointToWanted_50 : decode cX5_pointToWanted 50 = .ok (.iand, 1) := by decide +kernel
theorem dX5_pointToWanted_51 : decode cX5_pointToWanted 51 = .ok (.ifCond .eq 23, 3) := by decide +kernel
theorem dX5_pointToWanted_54 : decode cX5_pointToWanted 54 = .ok (.iload 8, 2) := by decide +kernel
theorem dX5_pointToWanted_56 : decode cX5_pointToWanted 56 = .ok (.iload 5, 2) := by decide +kernel
theorem dX5_pointToWanted_58 : decode cX5_pointToWanted 58 = .ok (.if_icmp .le 16, 3) := by decide +kernel
theorem dX5_pointToWanted_61 : decode cX5_pointToWanted 61 = .ok (.iload 8, 2) := by decide +kernel
theorem dX5_pointToWanted_63 : decode cX5_pointToWanted 63 = .ok (.istore 5, 2) := by decide +kernel
theorem dX5_pointToWanted_65 : decode cX5_pointToWanted 65 = .ok (.aload_n 0, 1) := by decide +kernel
theorem dX5_pointToWanted_66 : decode cX5_pointToWanted 66 = .ok (.getfield 25, 3) := by decide +kernel
theorem dX5_pointToWanted_69 : decode cX5_pointToWanted 69 = .ok (.iload 4, 2) := by decide +kernel
theorem dX5_pointToWanted_71 : decode cX5_pointToWanted 71 = .ok (.iload 7, 2) := by decide +kernel
theorem dX5_pointToWanted_73 : decode cX5_pointToWanted 73 = .ok (.iastore, 1) := by decide +kernel
theorem dX5_pointToWanted_74 : decode cX5_pointToWanted 74 = .ok (.iinc 6 1, 3) := by decide +kernel
theorem dX5_pointToWanted_77 : decode cX5_pointToWanted 77 = .ok (.goto (-59), 3) := by decide +kernel
theorem dX5_pointToWanted_80 : decode cX5_pointToWanted 80 = .ok (.iinc 4 1, 3) := by decide +kernel
theorem dX5_pointToWanted_83 : decode cX5_pointToWanted 83 = .ok (.goto (-80), 3) := by decide +kernel
theorem dX5_pointToWanted_86 : decode cX5_pointToWanted 86 = .ok (.return_, 1) := by decide +kernel
theorem dX5_tradeInRings_0 : decode cX5_tradeInRings 0 = .ok (.aload_n 1, 1) := by decide +kernel
theorem dX5_tradeInRings_1 : decode cX5_tradeInRings 1 = .ok (.invokevirtual 78, 3) := by decide +kernel
theorem dX5_tradeInRings_4 : decode cX5_tradeInRings 4 = .ok (.istore 4, 2) := by decide +kernel
theorem dX5_tradeInRings_6 : decode cX5_tradeInRings 6 = .ok (.iconst 0, 1) := by decide +kernel
theorem dX5_tradeInRings_7 : decode cX5_tradeInRings 7 = .ok (.istore 5, 2) := by decide +kernel
theorem dX5_tradeInRings_9 : decode cX5_tradeInRings 9 = .ok (.iconst 0, 1) := by decide +kernel
theorem dX5_tradeInRings_10 : decode cX5_tradeInRings 10 = .ok (.istore 6, 2) := by decide +kernel
theorem dX5_tradeInRings_12 : decode cX5_tradeInRings 12 = .ok (.iload 6, 2) := by decide +kernel
theorem dX5_tradeInRings_14 : decode cX5_tradeInRings 14 = .ok (.aload_n 1, 1) := by decide +kernel
theorem dX5_tradeInRings_15 : decode cX5_tradeInRings 15 = .ok (.getfield 41, 3) := by decide +kernel
theorem dX5_tradeInRings_18 : decode cX5_tradeInRings 18 = .ok (.if_icmp .ge 132, 3) := by decide +kernel
theorem dX5_tradeInRings_21 : decode cX5_tradeInRings 21 = .ok (.iload 4, 2) := by decide +kernel
theorem dX5_tradeInRings_23 : decode cX5_tradeInRings 23 = .ok (.ifCond .eq 127, 3) := by decide +kernel
theorem dX5_tradeInRings_26 : decode cX5_tradeInRings 26 = .ok (.aload_n 0, 1) := by decide +kernel
theorem dX5_tradeInRings_27 : decode cX5_tradeInRings 27 = .ok (.aload_n 1, 1) := by decide +kernel
theorem dX5_tradeInRings_28 : decode cX5_tradeInRings 28 = .ok (.aload_n 2, 1) := by decide +kernel
theorem dX5_tradeInRings_29 : decode cX5_tradeInRings 29 = .ok (.iload 4, 2) := by decide +kernel
theorem dX5_tradeInRings_31 : decode cX5_tradeInRings 31 = .ok (.invokevirtual 82, 3) := by decide +kernel
theorem dX5_tradeInRings_34 : decode cX5_tradeInRings 34 = .ok (.iconst 0, 1) := by decide +kernel
theorem dX5_tradeInRings_35 : decode cX5_tradeInRings 35 = .ok (.istore 7, 2) := by decide +kernel
theorem dX5_tradeInRings_37 : decode cX5_tradeInRings 37 = .ok (.iconst 0, 1) := by decide +kernel
theorem dX5_tradeInRings_38 : decode cX5_tradeInRings 38 = .ok (.istore 8, 2) := by decide +kernel
theorem dX5_tradeInRings_40 : decode cX5_tradeInRings 40 = .ok (.iload 8, 2) := by decide +kernel
theorem dX5_tradeInRings_42 : decode cX5_tradeInRings 42 = .ok (.aload_n 1, 1) := by decide +kernel
theorem dX5_tradeInRings_43 : decode cX5_tradeInRings 43 = .ok (.getfield 41, 3) := by decide +kernel
theorem dX5_tradeInRings_46 : decode cX5_tradeInRings 46 = .ok (.if_icmp .ge 89, 3) := by decide +kernel
theorem dX5_tradeInRings_49 : decode cX5_tradeInRings 49 = .ok (.iload 4, 2) := by decide +kernel
theorem dX5_tradeInRings_51 : decode cX5_tradeInRings 51 = .ok (.iload 8, 2) := by decide +kernel
theorem dX5_tradeInRings_53 : decode cX5_tradeInRings 53 = .ok (.ishr, 1) := by decide +kernel
theorem dX5_tradeInRings_54 : decode cX5_tradeInRings 54 = .ok (.iconst 1, 1) := by decide +kernel
theorem dX5_tradeInRings_55 : decode cX5_tradeInRings 55 = .ok (.iand, 1) := by decide +kernel
theorem dX5_tradeInRings_56 : decode cX5_tradeInRings 56 = .ok (.ifCond .eq 7, 3) := by decide +kernel
theorem dX5_tradeInRings_59 : decode cX5_tradeInRings 59 = .ok (.iconst 1, 1) := by decide +kernel
theorem dX5_tradeInRings_60 : decode cX5_tradeInRings 60 = .ok (.goto 4, 3) := by decide +kernel
theorem dX5_tradeInRings_63 : decode cX5_tradeInRings 63 = .ok (.iconst 0, 1) := by decide +kernel
theorem dX5_tradeInRings_64 : decode cX5_tradeInRings 64 = .ok (.istore 9, 2) := by decide +kernel
theorem dX5_tradeInRings_66 : decode cX5_tradeInRings 66 = .ok (.iload 9, 2) := by decide +kernel
theorem dX5_tradeInRings_68 : decode cX5_tradeInRings 68 = .ok (.ifCond .eq 61, 3) := by decide +kernel
theorem dX5_tradeInRings_71 : decode cX5_tradeInRings 71 = .ok (.aload_n 0, 1) := by decide +kernel
theorem dX5_tradeInRings_72 : decode cX5_tradeInRings 72 = .ok (.iload 8, 2) := by decide +kernel
theorem dX5_tradeInRings_74 : decode cX5_tradeInRings 74 = .ok (.aload_n 1, 1) := by decide +kernel
theorem dX5_tradeInRings_75 : decode cX5_tradeInRings 75 = .ok (.getfield 41, 3) := by decide +kernel
theorem dX5_tradeInRings_78 : decode cX5_tradeInRings 78 = .ok (.invokevirtual 74, 3) := by decide +kernel
theorem dX5_tradeInRings_81 : decode cX5_tradeInRings 81 = .ok (.iload 8, 2) := by decide +kernel
theorem dX5_tradeInRings_83 : decode cX5_tradeInRings 83 = .ok (.ishr, 1) := by decide +kernel
theorem dX5_tradeInRings_84 : decode cX5_tradeInRings 84 = .ok (.iconst 1, 1) := by decide +kernel
theorem dX5_tradeInRings_85 : decode cX5_tradeInRings 85 = .ok (.iand, 1) := by decide +kernel
theorem dX5_tradeInRings_86 : decode cX5_tradeInRings 86 = .ok (.ifCond .eq 43, 3) := by decide +kernel
theorem dX5_tradeInRings_89 : decode cX5_tradeInRings 89 = .ok (.iload 7, 2) := by decide +kernel
theorem dX5_tradeInRings_91 : decode cX5_tradeInRings 91 = .ok (.iconst 1, 1) := by decide +kernel
theorem dX5_tradeInRings_92 : decode cX5_tradeInRings 92 = .ok (.iload 8, 2) := by decide +kernel
theorem dX5_tradeInRings_94 : decode cX5_tradeInRings 94 = .ok (.ishl, 1) := by decide +kernel
theorem dX5_tradeInRings_95 : decode cX5_tradeInRings 95 = .ok (.ior, 1) := by decide +kernel
theorem dX5_tradeInRings_96 : decode cX5_tradeInRings 96 = .ok (.istore 7, 2) := by decide +kernel
theorem dX5_tradeInRings_98 : decode cX5_tradeInRings 98 = .ok (.aload_n 3, 1) := by decide +kernel
theorem dX5_tradeInRings_99 : decode cX5_tradeInRings 99 = .ok (.iload 8, 2) := by decide +kernel
theorem dX5_tradeInRings_101 : decode cX5_tradeInRings 101 = .ok (.aload_n 2, 1) := by decide +kernel
theorem dX5_tradeInRings_102 : decode cX5_tradeInRings 102 = .ok (.getfield 47, 3) := by decide +kernel
theorem dX5_tradeInRings_105 : decode cX5_tradeInRings 105 = .ok (.aload_n 0, 1) := by decide +kernel
theorem dX5_tradeInRings_106 : decode cX5_tradeInRings 106 = .ok (.getfield 25, 3) := by decide +kernel
theorem dX5_tradeInRings_109 : decode cX5_tradeInRings 109 = .ok (.iload 8, 2) := by decide +kernel
theorem dX5_tradeInRings_111 : decode cX5_tradeInRings 111 = .ok (.iaload, 1) := by decide +kernel
theorem dX5_tradeInRings_112 : decode cX5_tradeInRings 112 = .ok (.iaload, 1) := by decide +kernel
theorem dX5_tradeInRings_113 : decode cX5_tradeInRings 113 = .ok (.iastore, 1) := by decide +kernel
theorem dX5_tradeInRings_114 : decode cX5_tradeInRings 114 = .ok (.iload 5, 2) := by decide +kernel
theorem dX5_tradeInRings_116 : decode cX5_tradeInRings 116 = .ok (.aload_n 1, 1) := by decide +kernel
theorem dX5_tradeInRings_117 : decode cX5_tradeInRings 117 = .ok (.iload 8, 2) := by decide +kernel
theorem dX5_tradeInRings_119 : decode cX5_tradeInRings 119 = .ok (.aload_n 3, 1) := by decide +kernel
theorem dX5_tradeInRings_120 : decode cX5_tradeInRings 120 = .ok (.iload 8, 2) := by decide +kernel
theorem dX5_tradeInRings_122 : decode cX5_tradeInRings 122 = .ok (.iaload, 1) := by decide +kernel
theorem dX5_tradeInRings_123 : decode cX5_tradeInRings 123 = .ok (.invokevirtual 86, 3) := by decide +kernel
theorem dX5_tradeInRings_126 : decode cX5_tradeInRings 126 = .ok (.iadd, 1) := by decide +kernel
theorem dX5_tradeInRings_127 : decode cX5_tradeInRings 127 = .ok (.istore 5, 2) := by decide +kernel
theorem dX5_tradeInRings_129 : decode cX5_tradeInRings 129 = .ok (.iinc 8 1, 3) := by decide +kernel
theorem dX5_tradeInRings_132 : decode cX5_tradeInRings 132 = .ok (.goto (-92), 3) := by decide +kernel
theorem dX5_tradeInRings_135 : decode cX5_tradeInRings 135 = .ok (.iload 4, 2) := by decide +kernel
theorem dX5_tradeInRings_137 : decode cX5_tradeInRings 137 = .ok (.iload 7, 2) := by decide +kernel
theorem dX5_tradeInRings_139 : decode cX5_tradeInRings 139 = .ok (.iconst (-1), 1) := by decide +kernel
theorem dX5_tradeInRings_140 : decode cX5_tradeInRings 140 = .ok (.ixor, 1) := by decide +kernel
theorem dX5_tradeInRings_141 : decode cX5_tradeInRings 141 = .ok (.iand, 1) := by decide +kernel
theorem dX5_tradeInRings_142 : decode cX5_tradeInRings 142 = .ok (.istore 4, 2) := by decide +kernel
theorem dX5_tradeInRings_144 : decode cX5_tradeInRings 144 = .ok (.iinc 6 1, 3) := by decide +kernel
theorem dX5_tradeInRings_147 : decode cX5_tradeInRings 147 = .ok (.goto (-135), 3) := by decide +kernel
theorem dX5_tradeInRings_150 : decode cX5_tradeInRings 150 = .ok (.iload 5, 2) := by decide +kernel
theorem dX5_tradeInRings_152 : decode cX5_tradeInRings 152 = .ok (.ireturn, 1) := by decide +kernel
set_option maxHeartbeats 2000000 in
set_option maxRecDepth 20000 in
theorem c2_X6_allRooms (l : Launch) (D : va_G) (cy : Nat → ClassId) (B N : Nat) (q : Int) (nr : Int) (M : MM) (hN : 210 ≤ N) (hI : Iv M) (hq : q = 5 ∨ q = 180) (hnr : M.1 q 0 = nr) (hnb : 0 ≤ nr ∧ nr ≤ 6) : CI l D cy B N 1 yX6_allRooms cX6_allRooms 1 (some .int) [rv B q] M (fun z M' => M' = M ∧ (0 ≤ z ∧ z ≤ 63) ∧ (FB z nr)) := by
  refine mk_CI (by decide) (Nat.le_of_ble_eq_true rfl) ?_
  intro X exl exD excy hnL hX hret
  have hce : 0 + 0 ≤ (xR X).cells ∧ 0 + 0 ≤ (xR X).slots := ⟨Nat.zero_le _, Nat.zero_le _⟩
  have hdq : 5 ≤ q ∧ q ≤ 180 := by omega
  show J X B N 0 0 0 [(0, rv B q)] [] M
  refine j_iconst hX dX6_allRooms_0 ?_
  refine j_aload_n hX dX6_allRooms_1 rfl 0 rfl ?_
  refine gf_X6_9 hX (by omega) (by omega) (kq hq) dX6_allRooms_2 ?_
  refine j_top hnr ?_
  refine j_ishl hX dX6_allRooms_5 (fun z1 hz2 hy3 => ?_)
  have hsh := shl_b hz2
  have hfb := FB_full hz2 rfl hnb
  have hfr := full_r hz2 rfl hnb
  refine j_iconst hX dX6_allRooms_6 ?_
  refine j_isub hX dX6_allRooms_7 ?_
  exact hret _ _ _ _ dX6_allRooms_8 rfl (by omega) ⟨rfl, by first | assumption | omega, hfb⟩
set_option maxHeartbeats 2000000 in
set_option maxRecDepth 20000 in
theorem c_X5_pointToWanted (l : Launch) (D : va_G) (cy : Nat → ClassId) (B N : Nat) (q : Int) (s : Int) (nr : Int) (a : Int) (M : MM) (hN : 210 ≤ N) (hI : Iv M) (hpa : I32 a) (hq : q = 5 ∨ q = 180) (hs : Sc s) (hnr : M.1 q 0 = nr) (hV : V nr s M) (hnb : 0 ≤ nr ∧ nr ≤ 6) (hPU : PU a nr M) : CV l D cy B N 3 yX5_pointToWanted cX5_pointToWanted 9 none [rv B 157, rv B q, rv B s, iv a] M (fun M' => Iv M' ∧ Fr (fun a (_ : Int) => (a = 162)) M M' ∧ (PW nr nr M')) := by
  refine mk_CV (by decide) (Nat.le_of_ble_eq_true rfl) ?_
  intro X exl exD excy hnL hX hret
  have hce : 0 + 0 ≤ (xR X).cells ∧ 0 + 0 ≤ (xR X).slots := ⟨Nat.zero_le _, Nat.zero_le _⟩
  have hdq : 5 ≤ q ∧ q ≤ 180 := by omega
  have hbs := sc_b hs
  have hds : 28 ≤ s ∧ s ≤ 207 := by omega
  have hF : Fr (fun a (_ : Int) => (a = 162)) M M := Fr.rf
  have cp : ∀ n : Nat, (∀ (x4 : Int), ∀ (Mc : MM), I32 x4 → Iv Mc → Fr (fun a (_ : Int) => (a = 162)) M Mc → Mc.1 q 0 = nr → V nr s Mc → PQ a x4 nr Mc → (0 ≤ x4 ∧ x4 ≤ 6) → 0 ≤ 32 * (100 * (6 - x4) + 50) + 2 → 32 * (100 * (6 - x4) + 50) + 2 < (n : Int) → J X B N 0 0 3 [(0, rv B 157), (1, rv B q), (2, rv B s), (3, iv a), (4, iv x4)] [] Mc) ∧ (∀ (x4 x5 x6 : Int), ∀ (Mc : MM), I32 x4 → I32 x5 → I32 x6 → Iv Mc → Fr (fun a (_ : Int) => (a = 162)) M Mc → Mc.1 q 0 = nr → V nr s Mc → PQ a x4 nr Mc → (0 ≤ x4 ∧ x4 < nr ∧ -1 ≤ x5 ∧ 0 ≤ x6 ∧ x6 ≤ 6) → (0 ≤ x5 → 0 ≤ Mc.1 162 x4 ∧ Mc.1 162 x4 < nr) → (FB a nr → 1 ≤ x6 → 0 ≤ x5) → 0 ≤ 32 * (100 * (6 - x4) + 10 - x6) + 1 → 32 * (100 * (6 - x4) + 10 - x6) + 1 < (n : Int) → J X B N 0 0 18 [(0, rv B 157), (1, rv B q), (2, rv B s), (3, iv a), (4, iv x4), (5, iv x5), (6, iv x6)] [] Mc) := by
    intro n
    induction n with
    | zero => exact ⟨by intros; exfalso; omega, by intros; exfalso; omega⟩
    | succ n ih =>
      refine ⟨?_, ?_⟩
      · intro x4 Mc hxx4 hI hF hk_0 hV_0 hV_1 h2 hm0 hm1
        refine j_iload hX dX5_pointToWanted_3 4 rfl ?_
        refine j_aload_n hX dX5_pointToWanted_5 rfl 1 rfl ?_
        refine gf_X5_41 hX (by omega) (by omega) (kq hq) dX5_pointToWanted_6 ?_
        refine j_top hk_0 ?_
        refine j_icmp_ge (tgt := 86) hX dX5_pointToWanted_9 (by decide) (by omega) (by omega) (fun hc1 => ?_) (fun hc1 => ?_)
        · skip
          exact hret _ _ _ dX5_pointToWanted_86 ⟨hI, hF, PQ_end hV_1 (by omega)⟩
        · skip
          refine j_iconst hX dX5_pointToWanted_12 ?_
          refine j_istore (lv' := [(5, _), (0, _), (1, _), (2, _), (3, _), (4, _)]) hX dX5_pointToWanted_13 (by rw [hnL]; decide) rfl ?_
          refine j_iconst hX dX5_pointToWanted_15 ?_
          refine j_istore (lv' := [(6, _), (5, _), (0, _), (1, _), (2, _), (3, _), (4, _)]) hX dX5_pointToWanted_16 (by rw [hnL]; decide) rfl ?_
          refine j_sub [2, 3, 4, 5, 6, 1, 0] rfl ?_
          exact ih.2 _ _ _ _ (by omega) (by omega) (by omega) hI hF hk_0 hV_0 hV_1 (by first | assumption | omega) (by first | assumption | exact fun h => absurd h (by omega) | exact fun _ => by omega) (by first | exact fun _ h => absurd h (by omega) | exact fun _ _ => by omega | exact fun hf _ => absurd (hf zh (by omega) (by omega)) (by omega)) (by omega) (by omega)
      · intro x4 x5 x6 Mc hxx4 hxx5 hxx6 hI hF hk_0 hV_0 hV_1 h2 h5 h6 hm0 hm1
        refine j_iload hX dX5_pointToWanted_18 6 rfl ?_
        refine j_aload_n hX dX5_pointToWanted_20 rfl 1 rfl ?_
        refine gf_X5_41 hX (by omega) (by omega) (kq hq) dX5_pointToWanted_21 ?_
        refine j_top hk_0 ?_
        refine j_icmp_ge (tgt := 80) hX dX5_pointToWanted_24 (by decide) (by omega) (by omega) (fun hc2 => ?_) (fun hc2 => ?_)
        · skip
          have hV3 := PQ_s hV_1 (by omega) h5 h6 (by omega)
          refine j_iinc (lv' := [(4, _), (0, _), (1, _), (2, _), (3, _), (5, _), (6, _)]) hX dX5_pointToWanted_80 4 rfl (by rw [hnL]; decide) rfl ?_
          refine j_goto (tgt := 3) hX dX5_pointToWanted_83 (by decide) ?_
          refine j_sub [1, 2, 3, 4, 0] rfl ?_
          exact ih.1 _ _ (by omega) hI hF hk_0 hV_0 hV3 (by first | assumption | omega) (by omega) (by omega)
        · skip
          refine j_aload_n hX dX5_pointToWanted_27 rfl 2 rfl ?_
          refine j_iload hX dX5_pointToWanted_28 6 rfl ?_
          refine j_callVI hX lk_X5_89 (c_X8_holderOf _ _ _ _ _ s _ _ _ (by omega) hI (by omega) hs (by first | assumption | omega) (by first | assumption | omega)) (by omega) hce rfl rfl (by omega) (by omega) (sc_k0 hs) rfl rfl (Nat.le_of_ble_eq_true rfl) dX5_pointToWanted_30 (fun zh M4 hz6 hp5 => ?_)
          obtain ⟨hE7, hq8⟩ := hp5
          replace hE7 := hE7.symm
          subst hE7
          refine j_istore (lv' := [(7, _), (0, _), (1, _), (2, _), (3, _), (4, _), (5, _), (6, _)]) hX dX5_pointToWanted_33 (by rw [hnL]; decide) rfl ?_
          refine j_aload_n hX dX5_pointToWanted_35 rfl 2 rfl ?_
          refine j_iload hX dX5_pointToWanted_36 5 rfl ?_
          refine j_iload hX dX5_pointToWanted_38 7 rfl ?_
          refine j_callVI hX lk_X5_86 (c_X6_wantOf _ _ _ _ _ q _ _ _ (by omega) hI (by omega) (by omega) hq (by first | assumption | omega)) (by omega) hce rfl rfl (by omega) (by omega) (kq hq) rfl rfl (Nat.le_of_ble_eq_true rfl) dX5_pointToWanted_40 (fun z9 M10 hz12 hp11 => ?_)
          obtain ⟨hE13, hq14⟩ := hp11
          replace hE13 := hE13.symm
          subst hE13
          refine j_istore (lv' := [(8, _), (7, _), (0, _), (1, _), (2, _), (3, _), (4, _), (5, _), (6, _)]) hX dX5_pointToWanted_43 (by rw [hnL]; decide) rfl ?_
          refine j_iload_n hX dX5_pointToWanted_45 rfl 5 rfl ?_
          refine j_iload hX dX5_pointToWanted_46 1 rfl ?_
          refine j_ishr hX dX5_pointToWanted_48 (fun z15 hz16 hy17 => ?_)
          refine j_iconst hX dX5_pointToWanted_49 ?_
          refine j_iand hX dX5_pointToWanted_50 (fun z18 hz19 hy20 => ?_)
          have ha21 := (and_f hz19 (by omega) (by omega)).2 (by omega)
          have hbt := bt_of (by assumption) hz19
          refine j_if_eq (tgt := 74) hX dX5_pointToWanted_51 (by decide) (by omega) (fun hc22 => ?_) (fun hc22 => ?_)
          · skip
            refine j_iinc (lv' := [(6, _), (8, _), (7, _), (0, _), (1, _), (2, _), (3, _), (4, _), (5, _)]) hX dX5_pointToWanted_74 8 rfl (by rw [hnL]; decide) rfl ?_
            refine j_goto (tgt := 18) hX dX5_pointToWanted_77 (by decide) ?_
            refine j_sub [3, 4, 5, 6, 7, 8, 0] rfl ?_
            exact ih.2 _ _ _ _ (by omega) (by omega) (by omega) hI hF hk_0 hV_0 hV_1 (by first | assumption | omega) (by first | assumption | exact fun h => absurd h (by omega) | exact fun _ => by omega) (by first | exact fun _ h => absurd h (by omega) | exact fun _ _ => by omega | exact fun hf _ => absurd (hf zh (by omega) (by omega)) (by omega)) (by omega) (by omega)
          · skip
            refine j_iload hX dX5_pointToWanted_54 0 rfl ?_
            refine j_iload hX dX5_pointToWanted_56 7 rfl ?_
            refine j_icmp_le (tgt := 74) hX dX5_pointToWanted_58 (by decide) (by omega) (by omega) (fun hc23 => ?_) (fun hc23 => ?_)
            · skip
              refine j_iinc (lv' := [(6, _), (8, _), (7, _), (0, _), (1, _), (2, _), (3, _), (4, _), (5, _)]) hX dX5_pointToWanted_74 8 rfl (by rw [hnL]; decide) rfl ?_
              refine j_goto (tgt := 18) hX dX5_pointToWanted_77 (by decide) ?_
              refine j_sub [3, 4, 5, 6, 7, 8, 0] rfl ?_
              exact ih.2 _ _ _ _ (by omega) (by omega) (by omega) hI hF hk_0 hV_0 hV_1 (by first | assumption | omega) (by first | assumption | exact fun h => absurd h (by omega) | exact fun _ => by omega) (by first | exact fun _ h => absurd h (by omega) | exact fun _ _ => by omega | exact fun hf _ => absurd (hf zh (by omega) (by omega)) (by omega)) (by omega) (by omega)
            · skip
              refine j_iload hX dX5_pointToWanted_61 0 rfl ?_
              refine j_istore (lv' := [(5, _), (8, _), (7, _), (0, _), (1, _), (2, _), (3, _), (4, _), (6, _)]) hX dX5_pointToWanted_63 (by rw [hnL]; decide) rfl ?_
              have hpq0 := hV_1
              refine j_aload_n hX dX5_pointToWanted_65 rfl 3 rfl ?_
              refine gf_X5_25 hX (by omega) (by omega) kc_157 (fc_157_3 hI) (by decide) dX5_pointToWanted_66 ?_
              refine j_iload hX dX5_pointToWanted_69 7 rfl ?_
              refine j_iload hX dX5_pointToWanted_71 2 rfl ?_
              refine j_iast hX (by omega) (by omega) kc_162 (by omega) (by omega) (by omega) (by omega) dX5_pointToWanted_73 ?_
              refine j_up hI (ra_162 _) (by omega) (by omega) (Or.inl (by omega)) (fun M24 w25 hw26 hM27 hI28 hf29 => ?_)
              have hV30 := V_up hV_0 hM27 (by omega) (by omega)
              have hk32 := kp_up hM27 (by omega) hk_0
              have hF33 := Fr.put hF hM27 (rfl)
              have hV34 := PQ_put hpq0 hM27 hw26 (by omega)
              refine j_iinc (lv' := [(6, _), (5, _), (8, _), (7, _), (0, _), (1, _), (2, _), (3, _), (4, _)]) hX dX5_pointToWanted_74 8 rfl (by rw [hnL]; decide) rfl ?_
              refine j_goto (tgt := 18) hX dX5_pointToWanted_77 (by decide) ?_
              refine j_sub [4, 5, 6, 7, 8, 1, 0] rfl ?_
              exact ih.2 _ _ _ _ (by omega) (by omega) (by omega) hI28 hF33 hk32 hV30 hV34 (by first | assumption | omega) (by first | assumption | exact fun h => absurd h (by omega) | exact fun _ => by omega) (by first | exact fun _ h => absurd h (by omega) | exact fun _ _ => by omega | exact fun hf _ => absurd (hf zh (by omega) (by omega)) (by omega)) (by omega) (by omega)
  show J X B N 0 0 0 [(0, rv B 157), (1, rv B q), (2, rv B s), (3, iv a)] [] M
  have hV35 := PQ_0 hPU
  refine j_iconst hX dX5_pointToWanted_0 ?_
  refine j_istore (lv' := [(4, _), (0, _), (1, _), (2, _), (3, _)]) hX dX5_pointToWanted_1 (by rw [hnL]; decide) rfl ?_
  refine j_sub [1, 2, 3, 4, 0] rfl ?_
  refine (cp (Int.toNat (32064 + 1))).1 _ _ (by omega) hI hF hnr hV hV35 (by first | assumption | omega) ?_ ?_
  · omega
  · omega
set_option maxHeartbeats 2000000 in
set_option maxRecDepth 20000 in
theorem c_X5_tradeInRings (l : Launch) (D : va_G) (cy : Nat → ClassId) (B N : Nat) (q : Int) (s : Int) (nr : Int) (M : MM) (hN : 210 ≤ N) (hI : Iv M) (hq : q = 5 ∨ q = 180) (hs : Sc s) (hnr : M.1 q 0 = nr) (hV : V nr s M) (hnb : 0 ≤ nr ∧ nr ≤ 6) : CI l D cy B N 4 yX5_tradeInRings cX5_tradeInRings 10 (some .int) [rv B 157, rv B q, rv B s, rv B 179] M (fun z M' => Iv M' ∧ Fr (fun a (_ : Int) => (a = 162) ∨ (a = 179)) M M') := by
  refine mk_CI (by decide) (Nat.le_of_ble_eq_true rfl) ?_
  intro X exl exD excy hnL hX hret
  have hce : 0 + 0 ≤ (xR X).cells ∧ 0 + 0 ≤ (xR X).slots := ⟨Nat.zero_le _, Nat.zero_le _⟩
  have hdq : 5 ≤ q ∧ q ≤ 180 := by omega
  have hbs := sc_b hs
  have hds : 28 ≤ s ∧ s ≤ 207 := by omega
  have hF : Fr (fun a (_ : Int) => (a = 162) ∨ (a = 179)) M M := Fr.rf
  have cp : ∀ n : Nat, (∀ (x4 x5 x6 : Int), ∀ (Mc : MM), I32 x4 → I32 x5 → I32 x6 → Iv Mc → Fr (fun a (_ : Int) => (a = 162) ∨ (a = 179)) M Mc → Mc.1 q 0 = nr → V nr s Mc → PU x4 nr Mc → (0 ≤ x6 ∧ x6 ≤ 6) → 0 ≤ 32 * (100 * (6 - x6) + 50) + 2 → 32 * (100 * (6 - x6) + 50) + 2 < (n : Int) → J X B N 0 0 12 [(0, rv B 157), (1, rv B q), (2, rv B s), (3, rv B 179), (4, iv x4), (5, iv x5), (6, iv x6)] [] Mc) ∧ (∀ (x4 x5 x6 x7 x8 : Int), ∀ (Mc : MM), I32 x4 → I32 x5 → I32 x6 → I32 x7 → I32 x8 → Iv Mc → Fr (fun a (_ : Int) => (a = 162) ∨ (a = 179)) M Mc → Mc.1 q 0 = nr → V nr s Mc → PW nr nr Mc → (0 ≤ x6 ∧ x6 < nr ∧ 0 ≤ x8 ∧ x8 ≤ 6) → 0 ≤ 32 * (100 * (6 - x6) + 10 - x8) + 1 → 32 * (100 * (6 - x6) + 10 - x8) + 1 < (n : Int) → J X B N 0 0 40 [(0, rv B 157), (1, rv B q), (2, rv B s), (3, rv B 179), (4, iv x4), (5, iv x5), (6, iv x6), (7, iv x7), (8, iv x8)] [] Mc) := by
    intro n
    induction n with
    | zero => exact ⟨by intros; exfalso; omega, by intros; exfalso; omega⟩
    | succ n ih =>
      refine ⟨?_, ?_⟩
      · intro x4 x5 x6 Mc hxx4 hxx5 hxx6 hI hF hk_0 hV_0 hV_1 h2 hm0 hm1
        refine j_iload hX dX5_tradeInRings_12 6 rfl ?_
        refine j_aload_n hX dX5_tradeInRings_14 rfl 1 rfl ?_
        refine gf_X5_41 hX (by omega) (by omega) (kq hq) dX5_tradeInRings_15 ?_
        refine j_top hk_0 ?_
        refine j_icmp_ge (tgt := 150) hX dX5_tradeInRings_18 (by decide) (by omega) (by omega) (fun hc1 => ?_) (fun hc1 => ?_)
        · skip
          refine j_iload hX dX5_tradeInRings_150 5 rfl ?_
          exact hret _ _ _ _ dX5_tradeInRings_152 rfl (by omega) ⟨hI, hF⟩
        · skip
          refine j_iload hX dX5_tradeInRings_21 4 rfl ?_
          refine j_if_eq (tgt := 150) hX dX5_tradeInRings_23 (by decide) (by omega) (fun hc2 => ?_) (fun hc2 => ?_)
          · skip
            refine j_iload hX dX5_tradeInRings_150 5 rfl ?_
            exact hret _ _ _ _ dX5_tradeInRings_152 rfl (by omega) ⟨hI, hF⟩
          · skip
            refine j_aload_n hX dX5_tradeInRings_26 rfl 0 rfl ?_
            refine j_aload_n hX dX5_tradeInRings_27 rfl 1 rfl ?_
            refine j_aload_n hX dX5_tradeInRings_28 rfl 2 rfl ?_
            refine j_iload hX dX5_tradeInRings_29 4 rfl ?_
            refine j_callVV hX lk_X5_82 (c_X5_pointToWanted _ _ _ _ _ q s _ _ _ (by omega) hI (by omega) hq hs hk_0 (by first | assumption | omega) (by first | assumption | omega) (hV_1)) (by omega) hce rfl rfl (by omega) (by omega) kc_157 rfl rfl (Nat.le_of_ble_eq_true rfl) dX5_tradeInRings_31 (fun M4 hp5 => ?_)
            obtain ⟨hI8, hG9, hq10⟩ := hp5
            have hV11 := V_fr hV_0 hG9 (fun b => by omega) (by omega)
            have hk13 := kp_fr hG9 (by omega) hk_0
            have hF14 := Fr.trans hF hG9 (fun a b h => (Or.inl h))
            have hV15 := hq10
            refine j_iconst hX dX5_tradeInRings_34 ?_
            refine j_istore (lv' := [(7, _), (0, _), (1, _), (2, _), (3, _), (4, _), (5, _), (6, _)]) hX dX5_tradeInRings_35 (by rw [hnL]; decide) rfl ?_
            refine j_iconst hX dX5_tradeInRings_37 ?_
            refine j_istore (lv' := [(8, _), (7, _), (0, _), (1, _), (2, _), (3, _), (4, _), (5, _), (6, _)]) hX dX5_tradeInRings_38 (by rw [hnL]; decide) rfl ?_
            refine j_sub [2, 3, 4, 5, 6, 7, 8, 1, 0] rfl ?_
            exact ih.2 _ _ _ _ _ _ (by omega) (by omega) (by omega) (by omega) (by omega) hI8 hF14 hk13 hV11 hV15 (by first | assumption | omega) (by omega) (by omega)
      · intro x4 x5 x6 x7 x8 Mc hxx4 hxx5 hxx6 hxx7 hxx8 hI hF hk_0 hV_0 hV_1 h2 hm0 hm1
        refine j_iload hX dX5_tradeInRings_40 8 rfl ?_
        refine j_aload_n hX dX5_tradeInRings_42 rfl 1 rfl ?_
        refine gf_X5_41 hX (by omega) (by omega) (kq hq) dX5_tradeInRings_43 ?_
        refine j_top hk_0 ?_
        refine j_icmp_ge (tgt := 135) hX dX5_tradeInRings_46 (by decide) (by omega) (by omega) (fun hc16 => ?_) (fun hc16 => ?_)
        · skip
          refine j_iload hX dX5_tradeInRings_135 4 rfl ?_
          refine j_iload hX dX5_tradeInRings_137 7 rfl ?_
          refine j_iconst hX dX5_tradeInRings_139 ?_
          refine j_ixor hX dX5_tradeInRings_140 (fun z17 hz18 hy19 => ?_)
          refine j_iand hX dX5_tradeInRings_141 (fun z20 hz21 hy22 => ?_)
          have hPUn := PU_w z20 hV_1
          refine j_istore (lv' := [(4, _), (0, _), (1, _), (2, _), (3, _), (5, _), (6, _), (7, _), (8, _)]) hX dX5_tradeInRings_142 (by rw [hnL]; decide) rfl ?_
          have hV23 := hPUn
          refine j_iinc (lv' := [(6, _), (4, _), (0, _), (1, _), (2, _), (3, _), (5, _), (7, _), (8, _)]) hX dX5_tradeInRings_144 6 rfl (by rw [hnL]; decide) rfl ?_
          refine j_goto (tgt := 12) hX dX5_tradeInRings_147 (by decide) ?_
          refine j_sub [2, 3, 4, 5, 1, 6, 0] rfl ?_
          exact ih.1 _ _ _ _ (by omega) (by omega) (by omega) hI hF hk_0 hV_0 hV23 (by first | assumption | omega) (by omega) (by omega)
        · skip
          refine j_iload hX dX5_tradeInRings_49 4 rfl ?_
          refine j_iload hX dX5_tradeInRings_51 8 rfl ?_
          refine j_ishr hX dX5_tradeInRings_53 (fun z24 hz25 hy26 => ?_)
          refine j_iconst hX dX5_tradeInRings_54 ?_
          refine j_iand hX dX5_tradeInRings_55 (fun z27 hz28 hy29 => ?_)
          have ha30 := (and_f hz28 (by omega) (by omega)).2 (by omega)
          refine j_if_eq (tgt := 63) hX dX5_tradeInRings_56 (by decide) (by omega) (fun hc31 => ?_) (fun hc31 => ?_)
          · skip
            refine j_iconst hX dX5_tradeInRings_63 ?_
            refine j_istore (lv' := [(9, _), (0, _), (1, _), (2, _), (3, _), (4, _), (5, _), (6, _), (7, _), (8, _)]) hX dX5_tradeInRings_64 (by rw [hnL]; decide) rfl ?_
            refine j_iload hX dX5_tradeInRings_66 0 rfl ?_
            refine j_if_eq (tgt := 129) hX dX5_tradeInRings_68 (by decide) (by omega) (fun hc32 => ?_) (fun hc32 => ?_)
            · skip
              refine j_iinc (lv' := [(8, _), (9, _), (0, _), (1, _), (2, _), (3, _), (4, _), (5, _), (6, _), (7, _)]) hX dX5_tradeInRings_129 9 rfl (by rw [hnL]; decide) rfl ?_
              refine j_goto (tgt := 40) hX dX5_tradeInRings_132 (by decide) ?_
              refine j_sub [2, 3, 4, 5, 6, 7, 8, 9, 0] rfl ?_
              exact ih.2 _ _ _ _ _ _ (by omega) (by omega) (by omega) (by omega) (by omega) hI hF hk_0 hV_0 hV_1 (by first | assumption | omega) (by omega) (by omega)
            · skip
              refine j_aload_n hX dX5_tradeInRings_71 rfl 1 rfl ?_
              refine j_iload hX dX5_tradeInRings_72 9 rfl ?_
              refine j_aload_n hX dX5_tradeInRings_74 rfl 2 rfl ?_
              refine gf_X5_41 hX (by omega) (by omega) (kq hq) dX5_tradeInRings_75 ?_
              refine j_top hk_0 ?_
              refine j_callVI hX lk_X5_74 (c_X5_ringOf _ _ _ _ _ _ _ _ (by omega) hI (by omega) (by omega) (by first | assumption | omega)) (by omega) hce rfl rfl (by omega) (by omega) kc_157 rfl rfl (Nat.le_of_ble_eq_true rfl) dX5_tradeInRings_78 (fun z33 M34 hz36 hp35 => ?_)
              have hE37 := hp35.symm
              subst hE37
              refine j_iload hX dX5_tradeInRings_81 9 rfl ?_
              refine j_ishr hX dX5_tradeInRings_83 (fun z38 hz39 hy40 => ?_)
              refine j_iconst hX dX5_tradeInRings_84 ?_
              refine j_iand hX dX5_tradeInRings_85 (fun z41 hz42 hy43 => ?_)
              have ha44 := (and_f hz42 (by omega) (by omega)).2 (by omega)
              refine j_if_eq (tgt := 129) hX dX5_tradeInRings_86 (by decide) (by omega) (fun hc45 => ?_) (fun hc45 => ?_)
              · skip
                refine j_iinc (lv' := [(8, _), (9, _), (0, _), (1, _), (2, _), (3, _), (4, _), (5, _), (6, _), (7, _)]) hX dX5_tradeInRings_129 9 rfl (by rw [hnL]; decide) rfl ?_
                refine j_goto (tgt := 40) hX dX5_tradeInRings_132 (by decide) ?_
                refine j_sub [2, 3, 4, 5, 6, 7, 8, 9, 0] rfl ?_
                exact ih.2 _ _ _ _ _ _ (by omega) (by omega) (by omega) (by omega) (by omega) hI hF hk_0 hV_0 hV_1 (by first | assumption | omega) (by omega) (by omega)
              · skip
                refine j_iload hX dX5_tradeInRings_89 8 rfl ?_
                refine j_iconst hX dX5_tradeInRings_91 ?_
                refine j_iload hX dX5_tradeInRings_92 9 rfl ?_
                refine j_ishl hX dX5_tradeInRings_94 (fun z46 hz47 hy48 => ?_)
                refine j_ior hX dX5_tradeInRings_95 (fun z49 hz50 hy51 => ?_)
                refine j_istore (lv' := [(7, _), (9, _), (0, _), (1, _), (2, _), (3, _), (4, _), (5, _), (6, _), (8, _)]) hX dX5_tradeInRings_96 (by rw [hnL]; decide) rfl ?_
                refine j_aload_n hX dX5_tradeInRings_98 rfl 5 rfl ?_
                refine j_iload hX dX5_tradeInRings_99 9 rfl ?_
                refine j_aload_n hX dX5_tradeInRings_101 rfl 4 rfl ?_
                refine gf_X5_47 hX (by omega) (by omega) (sc_k0 hs) (sc_f0 hI hs) (by omega) dX5_tradeInRings_102 ?_
                refine j_aload_n hX dX5_tradeInRings_105 rfl 2 rfl ?_
                refine gf_X5_25 hX (by omega) (by omega) kc_157 (fc_157_3 hI) (by decide) dX5_tradeInRings_106 ?_
                refine j_iload hX dX5_tradeInRings_109 9 rfl ?_
                refine j_iald hX (by omega) (by omega) kc_162 (by omega) (by omega) (by omega) dX5_tradeInRings_111 ?_
                refine j_name hI (ra_162 _) (fun v52 hv53 hl54 hh55 => ?_)
                have hpw := PW_at hV_1 hv53 (by omega) (by omega)
                refine j_iald hX (by omega) (by omega) (sc_k1 hs) (by omega) (by omega) (by omega) dX5_tradeInRings_112 ?_
                refine j_name hI (sc_w hs _) (fun v56 hv57 hl58 hh59 => ?_)
                have hva60 := V_at hV_0 hv57 (by omega) (by omega)
                refine j_iast hX (by omega) (by omega) kc_179 (by omega) (by omega) (by omega) (by omega) dX5_tradeInRings_113 ?_
                refine j_up hI (ra_179 _) (by omega) (by omega) (Or.inl (by omega)) (fun M61 w62 hw63 hM64 hI65 hf66 => ?_)
                have hV67 := V_up hV_0 hM64 (by omega) (by omega)
                have hV68 := PW_dp (M' := M61) hV_1 (fun a b h => by rw [hM64]; exact up_ne (by omega))
                have hk69 := kp_up hM64 (by omega) hk_0
                have hF70 := Fr.put hF hM64 ((Or.inr rfl))
                refine j_iload hX dX5_tradeInRings_114 7 rfl ?_
                refine j_aload_n hX dX5_tradeInRings_116 rfl 3 rfl ?_
                refine j_iload hX dX5_tradeInRings_117 9 rfl ?_
                refine j_aload_n hX dX5_tradeInRings_119 rfl 5 rfl ?_
                refine j_iload hX dX5_tradeInRings_120 9 rfl ?_
                refine j_iald hX (by omega) (by omega) kc_179 (by omega) (by omega) (by omega) dX5_tradeInRings_122 ?_
                refine j_name hI65 (ra_179 _) (fun v71 hv72 hl73 hh74 => ?_)
                refine j_callVI hX lk_X5_86 (c_X6_wantOf _ _ _ _ _ q _ _ _ (by omega) hI65 (by omega) (by omega) hq (by first | assumption | omega)) (by omega) hce rfl rfl (by omega) (by omega) (kq hq) rfl rfl (Nat.le_of_ble_eq_true rfl) dX5_tradeInRings_123 (fun z75 M76 hz78 hp77 => ?_)
                obtain ⟨hE79, hq80⟩ := hp77
                replace hE79 := hE79.symm
                subst hE79
                refine j_iadd hX dX5_tradeInRings_126 ?_
                refine j_norm (fun z81 hz82 hy83 => ?_)
                refine j_istore (lv' := [(5, _), (7, _), (9, _), (0, _), (1, _), (2, _), (3, _), (4, _), (6, _), (8, _)]) hX dX5_tradeInRings_127 (by rw [hnL]; decide) rfl ?_
                refine j_iinc (lv' := [(8, _), (5, _), (7, _), (9, _), (0, _), (1, _), (2, _), (3, _), (4, _), (6, _)]) hX dX5_tradeInRings_129 9 rfl (by rw [hnL]; decide) rfl ?_
                refine j_goto (tgt := 40) hX dX5_tradeInRings_132 (by decide) ?_
                refine j_sub [4, 5, 6, 7, 8, 1, 9, 2, 0] rfl ?_
                exact ih.2 _ _ _ _ _ _ (by omega) (by omega) (by omega) (by omega) (by omega) hI65 hF70 hk69 hV67 hV68 (by first | assumption | omega) (by omega) (by omega)
          · skip
            refine j_iconst hX dX5_tradeInRings_59 ?_
            refine j_goto (tgt := 64) hX dX5_tradeInRings_60 (by decide) ?_
            refine j_istore (lv' := [(9, _), (0, _), (1, _), (2, _), (3, _), (4, _), (5, _), (6, _), (7, _), (8, _)]) hX dX5_tradeInRings_64 (by rw [hnL]; decide) rfl ?_
            refine j_iload hX dX5_tradeInRings_66 0 rfl ?_
            refine j_if_eq (tgt := 129) hX dX5_tradeInRings_68 (by decide) (by omega) (fun hc84 => ?_) (fun hc84 => ?_)
            · skip
              refine j_iinc (lv' := [(8, _), (9, _), (0, _), (1, _), (2, _), (3, _), (4, _), (5, _), (6, _), (7, _)]) hX dX5_tradeInRings_129 9 rfl (by rw [hnL]; decide) rfl ?_
              refine j_goto (tgt := 40) hX dX5_tradeInRings_132 (by decide) ?_
              refine j_sub [2, 3, 4, 5, 6, 7, 8, 9, 0] rfl ?_
              exact ih.2 _ _ _ _ _ _ (by omega) (by omega) (by omega) (by omega) (by omega) hI hF hk_0 hV_0 hV_1 (by first | assumption | omega) (by omega) (by omega)
            · skip
              refine j_aload_n hX dX5_tradeInRings_71 rfl 1 rfl ?_
              refine j_iload hX dX5_tradeInRings_72 9 rfl ?_
              refine j_aload_n hX dX5_tradeInRings_74 rfl 2 rfl ?_
              refine gf_X5_41 hX (by omega) (by omega) (kq hq) dX5_tradeInRings_75 ?_
              refine j_top hk_0 ?_
              refine j_callVI hX lk_X5_74 (c_X5_ringOf _ _ _ _ _ _ _ _ (by omega) hI (by omega) (by omega) (by first | assumption | omega)) (by omega) hce rfl rfl (by omega) (by omega) kc_157 rfl rfl (Nat.le_of_ble_eq_true rfl) dX5_tradeInRings_78 (fun z85 M86 hz88 hp87 => ?_)
              have hE89 := hp87.symm
              subst hE89
              refine j_iload hX dX5_tradeInRings_81 9 rfl ?_
              refine j_ishr hX dX5_tradeInRings_83 (fun z90 hz91 hy92 => ?_)
              refine j_iconst hX dX5_tradeInRings_84 ?_
              refine j_iand hX dX5_tradeInRings_85 (fun z93 hz94 hy95 => ?_)
              have ha96 := (and_f hz94 (by omega) (by omega)).2 (by omega)
              refine j_if_eq (tgt := 129) hX dX5_tradeInRings_86 (by decide) (by omega) (fun hc97 => ?_) (fun hc97 => ?_)
              · skip
                refine j_iinc (lv' := [(8, _), (9, _), (0, _), (1, _), (2, _), (3, _), (4, _), (5, _), (6, _), (7, _)]) hX dX5_tradeInRings_129 9 rfl (by rw [hnL]; decide) rfl ?_
                refine j_goto (tgt := 40) hX dX5_tradeInRings_132 (by decide) ?_
                refine j_sub [2, 3, 4, 5, 6, 7, 8, 9, 0] rfl ?_
                exact ih.2 _ _ _ _ _ _ (by omega) (by omega) (by omega) (by omega) (by omega) hI hF hk_0 hV_0 hV_1 (by first | assumption | omega) (by omega) (by omega)
              · skip
                refine j_iload hX dX5_tradeInRings_89 8 rfl ?_
                refine j_iconst hX dX5_tradeInRings_91 ?_
                refine j_iload hX dX5_tradeInRings_92 9 rfl ?_
                refine j_ishl hX dX5_tradeInRings_94 (fun z98 hz99 hy100 => ?_)
                refine j_ior hX dX5_tradeInRings_95 (fun z101 hz102 hy103 => ?_)
                refine j_istore (lv' := [(7, _), (9, _), (0, _), (1, _), (2, _), (3, _), (4, _), (5, _), (6, _), (8, _)]) hX dX5_tradeInRings_96 (by rw [hnL]; decide) rfl ?_
                refine j_aload_n hX dX5_tradeInRings_98 rfl 5 rfl ?_
                refine j_iload hX dX5_tradeInRings_99 9 rfl ?_
                refine j_aload_n hX dX5_tradeInRings_101 rfl 4 rfl ?_
                refine gf_X5_47 hX (by omega) (by omega) (sc_k0 hs) (sc_f0 hI hs) (by omega) dX5_tradeInRings_102 ?_
                refine j_aload_n hX dX5_tradeInRings_105 rfl 2 rfl ?_
                refine gf_X5_25 hX (by omega) (by omega) kc_157 (fc_157_3 hI) (by decide) dX5_tradeInRings_106 ?_
                refine j_iload hX dX5_tradeInRings_109 9 rfl ?_
                refine j_iald hX (by omega) (by omega) kc_162 (by omega) (by omega) (by omega) dX5_tradeInRings_111 ?_
                refine j_name hI (ra_162 _) (fun v104 hv105 hl106 hh107 => ?_)
                have hpw := PW_at hV_1 hv105 (by omega) (by omega)
                refine j_iald hX (by omega) (by omega) (sc_k1 hs) (by omega) (by omega) (by omega) dX5_tradeInRings_112 ?_
                refine j_name hI (sc_w hs _) (fun v108 hv109 hl110 hh111 => ?_)
                have hva112 := V_at hV_0 hv109 (by omega) (by omega)
                refine j_iast hX (by omega) (by omega) kc_179 (by omega) (by omega) (by omega) (by omega) dX5_tradeInRings_113 ?_
                refine j_up hI (ra_179 _) (by omega) (by omega) (Or.inl (by omega)) (fun M113 w114 hw115 hM116 hI117 hf118 => ?_)
                have hV119 := V_up hV_0 hM116 (by omega) (by omega)
                have hV120 := PW_dp (M' := M113) hV_1 (fun a b h => by rw [hM116]; exact up_ne (by omega))
                have hk121 := kp_up hM116 (by omega) hk_0
                have hF122 := Fr.put hF hM116 ((Or.inr rfl))
                refine j_iload hX dX5_tradeInRings_114 7 rfl ?_
                refine j_aload_n hX dX5_tradeInRings_116 rfl 3 rfl ?_
                refine j_iload hX dX5_tradeInRings_117 9 rfl ?_
                refine j_aload_n hX dX5_tradeInRings_119 rfl 5 rfl ?_
                refine j_iload hX dX5_tradeInRings_120 9 rfl ?_
                refine j_iald hX (by omega) (by omega) kc_179 (by omega) (by omega) (by omega) dX5_tradeInRings_122 ?_
                refine j_name hI117 (ra_179 _) (fun v123 hv124 hl125 hh126 => ?_)
                refine j_callVI hX lk_X5_86 (c_X6_wantOf _ _ _ _ _ q _ _ _ (by omega) hI117 (by omega) (by omega) hq (by first | assumption | omega)) (by omega) hce rfl rfl (by omega) (by omega) (kq hq) rfl rfl (Nat.le_of_ble_eq_true rfl) dX5_tradeInRings_123 (fun z127 M128 hz130 hp129 => ?_)
                obtain ⟨hE131, hq132⟩ := hp129
                replace hE131 := hE131.symm
                subst hE131
                refine j_iadd hX dX5_tradeInRings_126 ?_
                refine j_norm (fun z133 hz134 hy135 => ?_)
                refine j_istore (lv' := [(5, _), (7, _), (9, _), (0, _), (1, _), (2, _), (3, _), (4, _), (6, _), (8, _)]) hX dX5_tradeInRings_127 (by rw [hnL]; decide) rfl ?_
                refine j_iinc (lv' := [(8, _), (5, _), (7, _), (9, _), (0, _), (1, _), (2, _), (3, _), (4, _), (6, _)]) hX dX5_tradeInRings_129 9 rfl (by rw [hnL]; decide) rfl ?_
                refine j_goto (tgt := 40) hX dX5_tradeInRings_132 (by decide) ?_
                refine j_sub [4, 5, 6, 7, 8, 1, 9, 2, 0] rfl ?_
                exact ih.2 _ _ _ _ _ _ (by omega) (by omega) (by omega) (by omega) (by omega) hI117 hF122 hk121 hV119 hV120 (by first | assumption | omega) (by omega) (by omega)
  show J X B N 0 0 0 [(0, rv B 157), (1, rv B q), (2, rv B s), (3, rv B 179)] [] M
  refine j_aload_n hX dX5_tradeInRings_0 rfl 1 rfl ?_
  refine j_callVI hX lk_X5_78 (c2_X6_allRooms _ _ _ _ _ q _ _ (by omega) hI hq hnr (by first | assumption | omega)) (by omega) hce rfl rfl (by omega) (by omega) (kq hq) rfl rfl (Nat.le_of_ble_eq_true rfl) dX5_tradeInRings_1 (fun z136 M137 hz139 hp138 => ?_)
  obtain ⟨hE140, hq141, hq142⟩ := hp138
  replace hE140 := hE140.symm
  subst hE140
  have hV143 := (Or.inl hq142 : PU z136 nr M)
  refine j_istore (lv' := [(4, _), (0, _), (1, _), (2, _), (3, _)]) hX dX5_tradeInRings_4 (by rw [hnL]; decide) rfl ?_
  refine j_iconst hX dX5_tradeInRings_6 ?_
  refine j_istore (lv' := [(5, _), (4, _), (0, _), (1, _), (2, _), (3, _)]) hX dX5_tradeInRings_7 (by rw [hnL]; decide) rfl ?_
  refine j_iconst hX dX5_tradeInRings_9 ?_
  refine j_istore (lv' := [(6, _), (5, _), (4, _), (0, _), (1, _), (2, _), (3, _)]) hX dX5_tradeInRings_10 (by rw [hnL]; decide) rfl ?_
  refine j_sub [3, 4, 5, 6, 2, 1, 0] rfl ?_
  refine (cp (Int.toNat (32064 + 1))).1 _ _ _ _ (by omega) (by omega) (by omega) hI hF hnr hV hV143 (by first | assumption | omega) ?_ ?_
  · omega
  · omega
