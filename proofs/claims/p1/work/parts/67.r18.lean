theorem dX11_quarter_0 : decode cX11_quarter 0 = .ok (.aload_n 0, 1) := by decide +kernel
theorem dX11_quarter_1 : decode cX11_quarter 1 = .ok (.iconst 0, 1) := by decide +kernel
theorem dX11_quarter_2 : decode cX11_quarter 2 = .ok (.putfield 164, 3) := by decide +kernel
theorem dX11_quarter_5 : decode cX11_quarter 5 = .ok (.aload_n 0, 1) := by decide +kernel
theorem dX11_quarter_6 : decode cX11_quarter 6 = .ok (.iconst (-1), 1) := by decide +kernel
theorem dX11_quarter_7 : decode cX11_quarter 7 = .ok (.putfield 16, 3) := by decide +kernel
theorem dX11_quarter_10 : decode cX11_quarter 10 = .ok (.aload_n 0, 1) := by decide +kernel
theorem dX11_quarter_11 : decode cX11_quarter 11 = .ok (.aload_n 0, 1) := by decide +kernel
theorem dX11_quarter_12 : decode cX11_quarter 12 = .ok (.getfield 276, 3) := by decide +kernel
theorem dX11_quarter_15 : decode cX11_quarter 15 = .ok (.putfield 161, 3) := by decide +kernel
theorem dX11_quarter_18 : decode cX11_quarter 18 = .ok (.iconst 0, 1) := by decide +kernel
theorem dX11_quarter_19 : decode cX11_quarter 19 = .ok (.istore_n 1, 1) := by decide +kernel
theorem dX11_quarter_20 : decode cX11_quarter 20 = .ok (.iload_n 1, 1) := by decide +kernel
theorem dX11_quarter_21 : decode cX11_quarter 21 = .ok (.aload_n 0, 1) := by decide +kernel
theorem dX11_quarter_22 : decode cX11_quarter 22 = .ok (.getfield 161, 3) := by decide +kernel
theorem dX11_quarter_25 : decode cX11_quarter 25 = .ok (.if_icmp .ge 21, 3) := by decide +kernel
theorem dX11_quarter_28 : decode cX11_quarter 28 = .ok (.aload_n 0, 1) := by decide +kernel
theorem dX11_quarter_29 : decode cX11_quarter 29 = .ok (.getfield 13, 3) := by decide +kernel
theorem dX11_quarter_32 : decode cX11_quarter 32 = .ok (.iload_n 1, 1) := by decide +kernel
theorem dX11_quarter_33 : decode cX11_quarter 33 = .ok (.aload_n 0, 1) := by decide +kernel
theorem dX11_quarter_34 : decode cX11_quarter 34 = .ok (.getfield 7, 3) := by decide +kernel
theorem dX11_quarter_37 : decode cX11_quarter 37 = .ok (.iload_n 1, 1) := by decide +kernel
theorem dX11_quarter_38 : decode cX11_quarter 38 = .ok (.baload, 1) := by decide +kernel
theorem dX11_quarter_39 : decode cX11_quarter 39 = .ok (.bastore, 1) := by decide +kernel
theorem dX11_quarter_40 : decode cX11_quarter 40 = .ok (.iinc 1 1, 3) := by decide +kernel
theorem dX11_quarter_43 : decode cX11_quarter 43 = .ok (.goto (-23), 3) := by decide +kernel
theorem dX11_quarter_46 : decode cX11_quarter 46 = .ok (.aload_n 0, 1) := by decide +kernel
theorem dX11_quarter_47 : decode cX11_quarter 47 = .ok (.iconst 0, 1) := by decide +kernel
theorem dX11_quarter_48 : decode cX11_quarter 48 = .ok (.putfield 276, 3) := by decide +kernel
theorem dX11_quarter_51 : decode cX11_quarter 51 = .ok (.aload_n 0, 1) := by decide +kernel
theorem dX11_quarter_52 : decode cX11_quarter 52 = .ok (.iconst 0, 1) := by decide +kernel
theorem dX11_quarter_53 : decode cX11_quarter 53 = .ok (.putfield 211, 3) := by decide +kernel
theorem dX11_quarter_56 : decode cX11_quarter 56 = .ok (.aload_n 0, 1) := by decide +kernel
theorem dX11_quarter_57 : decode cX11_quarter 57 = .ok (.iconst 1, 1) := by decide +kernel
theorem dX11_quarter_58 : decode cX11_quarter 58 = .ok (.aload_n 0, 1) := by decide +kernel
theorem dX11_quarter_59 : decode cX11_quarter 59 = .ok (.getfield 279, 3) := by decide +kernel
theorem dX11_quarter_62 : decode cX11_quarter 62 = .ok (.isub, 1) := by decide +kernel
theorem dX11_quarter_63 : decode cX11_quarter 63 = .ok (.putfield 270, 3) := by decide +kernel
theorem dX11_quarter_66 : decode cX11_quarter 66 = .ok (.aload_n 0, 1) := by decide +kernel
theorem dX11_quarter_67 : decode cX11_quarter 67 = .ok (.invokevirtual 155, 3) := by decide +kernel
theorem dX11_quarter_70 : decode cX11_quarter 70 = .ok (.aload_n 0, 1) := by decide +kernel
theorem dX11_quarter_71 : decode cX11_quarter 71 = .ok (.invokevirtual 253, 3) := by decide +kernel
theorem dX11_quarter_74 : decode cX11_quarter 74 = .ok (.aload_n 0, 1) := by decide +kernel
theorem dX11_quarter_75 : decode cX11_quarter 75 = .ok (.invokevirtual 249, 3) := by decide +kernel
theorem dX11_quarter_78 : decode cX11_quarter 78 = .ok (.ifCond .eq 17, 3) := by decide +kernel
theorem dX11_quarter_81 : decode cX11_quarter 81 = .ok (.aload_n 0, 1) := by decide +kernel
theorem dX11_quarter_82 : decode cX11_quarter 82 = .ok (.getfield 221, 3) := by decide +kernel
theorem dX11_quarter_85 : decode cX11_quarter 85 = .ok (.ifCond .eq 10, 3) := by decide +kernel
theorem dX11_quarter_88 : decode cX11_quarter 88 = .ok (.aload_n 0, 1) := by decide +kernel
theorem dX11_quarter_89 : decode cX11_quarter 89 = .ok (.invokevirtual 282, 3) := by decide +kernel
theorem dX11_quarter_92 : decode cX11_quarter 92 = .ok (.goto (-18), 3) := by decide +kernel
theorem dX11_quarter_95 : decode cX11_quarter 95 = .ok (.aload_n 0, 1) := by decide +kernel
theorem dX11_quarter_96 : decode cX11_quarter 96 = .ok (.invokevirtual 249, 3) := by decide +kernel
theorem dX11_quarter_99 : decode cX11_quarter 99 = .ok (.ifCond .ne 5, 3) := by decide +kernel
theorem dX11_quarter_102 : decode cX11_quarter 102 = .ok (.iconst (-1), 1) := by decide +kernel
theorem dX11_quarter_103 : decode cX11_quarter 103 = .ok (.ireturn, 1) := by decide +kernel
theorem dX11_quarter_104 : decode cX11_quarter 104 = .ok (.aload_n 0, 1) := by decide +kernel
theorem dX11_quarter_105 : decode cX11_quarter 105 = .ok (.aload_n 0, 1) := by decide +kernel
theorem dX11_quarter_106 : decode cX11_quarter 106 = .ok (.getfield 270, 3) := by decide +kernel
theorem dX11_quarter_109 : decode cX11_quarter 109 = .ok (.putfield 279, 3) := by decide +kernel
theorem dX11_quarter_112 : decode cX11_quarter 112 = .ok (.aload_n 0, 1) := by decide +kernel
theorem dX11_quarter_113 : decode cX11_quarter 113 = .ok (.invokevirtual 158, 3) := by decide +kernel
theorem dX11_quarter_116 : decode cX11_quarter 116 = .ok (.aload_n 0, 1) := by decide +kernel
theorem dX11_quarter_117 : decode cX11_quarter 117 = .ok (.getfield 20, 3) := by decide +kernel
theorem dX11_quarter_120 : decode cX11_quarter 120 = .ok (.aload_n 0, 1) := by decide +kernel
theorem dX11_quarter_121 : decode cX11_quarter 121 = .ok (.getfield 279, 3) := by decide +kernel
theorem dX11_quarter_124 : decode cX11_quarter 124 = .ok (.iaload, 1) := by decide +kernel
theorem dX11_quarter_125 : decode cX11_quarter 125 = .ok (.ireturn, 1) := by decide +kernel
set_option maxHeartbeats 2000000 in
set_option maxRecDepth 20000 in
theorem c_X11_quarter (l : Launch) (D : va_G) (cy : Nat → ClassId) (B N : Nat) (bk : Int) (nr : Int) (M : MM) (hN : 257 ≤ N) (hI : Iv M) (hbk : M.1 210 40 = bk) (hRI : RI0 bk nr M) : CI l D cy B N 8 yX11_quarter cX11_quarter 2 (some .int) [rv B 210] M (fun z M' => Iv M' ∧ Fr (fun a b => (a = 210 ∧ 2 ≤ b ∧ b ≤ 54) ∨ (a = 210 ∧ 63 ≤ b ∧ b ≤ 63) ∨ (212 ≤ a ∧ a ≤ 240) ∨ (a = 242) ∨ (a = 247) ∨ (a = 256)) M M' ∧ (RI M')) := by
  refine mk_CI (by decide) (Nat.le_of_ble_eq_true rfl) ?_
  intro X exl exD excy hnL hX hret
  have hce : 0 + 0 ≤ (xR X).cells ∧ 0 + 0 ≤ (xR X).slots := ⟨Nat.zero_le _, Nat.zero_le _⟩
  have hF : Fr (fun a b => (a = 210 ∧ 2 ≤ b ∧ b ≤ 54) ∨ (a = 210 ∧ 63 ≤ b ∧ b ≤ 63) ∨ (212 ≤ a ∧ a ≤ 240) ∨ (a = 242) ∨ (a = 247) ∨ (a = 256)) M M := Fr.rf
  have hk1 : M.1 210 4 = M.1 210 4 := rfl
  have hbk2 : 0 ≤ bk ∧ bk ≤ 1 := by have := hI.at 210 40 ro_210_40; omega
  have cp : ∀ n : Nat, (∀ (x1 : Int), ∀ (tz fk : Int), ∀ (Mc : MM), I32 x1 → Iv Mc → Fr (fun a b => (a = 210 ∧ 2 ≤ b ∧ b ≤ 54) ∨ (a = 210 ∧ 63 ≤ b ∧ b ≤ 63) ∨ (212 ≤ a ∧ a ≤ 240) ∨ (a = 242) ∨ (a = 247) ∨ (a = 256)) M Mc → Mc.1 210 40 = bk → Mc.1 210 3 = tz → Mc.1 210 4 = fk → RI0 bk nr Mc → (0 ≤ x1 ∧ x1 ≤ 1600 ∧ 0 ≤ tz ∧ tz ≤ 1600 ∧ fk = 0) → 0 ≤ 32 * (100000 + 1600 - x1) + 2 → 32 * (100000 + 1600 - x1) + 2 < (n : Int) → J X B N 0 0 20 [(0, rv B 210), (1, iv x1)] [] Mc) ∧ (∀ (x1 : Int), ∀ (mm w : Int), ∀ (Mc : MM), I32 x1 → Iv Mc → Fr (fun a b => (a = 210 ∧ 2 ≤ b ∧ b ≤ 54) ∨ (a = 210 ∧ 63 ≤ b ∧ b ≤ 63) ∨ (212 ≤ a ∧ a ≤ 240) ∨ (a = 242) ∨ (a = 247) ∨ (a = 256)) M Mc → Mc.1 210 40 = bk → Mc.1 210 41 = w → ML mm Mc → RI0 bk nr Mc → (w = 1 - bk ∧ mm ≤ 3300) → (Mc.1 210 4 = 0 → RD0 w Mc) → 0 ≤ 32 * (mm) + 1 → 32 * (mm) + 1 < (n : Int) → J X B N 0 0 74 [(0, rv B 210), (1, iv x1)] [] Mc) := by
    intro n
    induction n with
    | zero => exact ⟨by intros; exfalso; omega, by intros; exfalso; omega⟩
    | succ n ih =>
      refine ⟨?_, ?_⟩
      · intro x1 tz fk Mc hxx1 hI hF hk_0 hk_1 hk_2 hV_0 h2 hm0 hm1
        refine j_iload_n hX dX11_quarter_20 rfl 1 rfl ?_
        refine j_aload_n hX dX11_quarter_21 rfl 0 rfl ?_
        refine gf_X11_161 hX (by omega) (by omega) kc_210 dX11_quarter_22 ?_
        refine j_top hk_1 ?_
        refine j_icmp_ge (tgt := 46) hX dX11_quarter_25 (by decide) (by omega) (by omega) (fun hc2 => ?_) (fun hc2 => ?_)
        · skip
          refine j_aload_n hX dX11_quarter_46 rfl 0 rfl ?_
          refine j_iconst hX dX11_quarter_47 ?_
          refine pf_X11_276 hX (by omega) (by omega) kc_210 (by omega) dX11_quarter_48 ?_
          refine j_up hI ro_210_2 (by omega) (by omega) (Or.inl (by omega)) (fun M3 w4 hw5 hM6 hI7 hf8 => ?_)
          have hV9 := RI0_dp (M' := M3) hV_0 (fun a b h => by rw [hM6]; exact up_ne (by omega))
          have hk10 := kp_up hM6 (fun h => absurd h.2 (by decide)) hk_0
          have hk11 := kp_up hM6 (fun h => absurd h.2 (by decide)) hk_1
          have hk12 := kp_up hM6 (fun h => absurd h.2 (by decide)) hk_2
          have hF13 := Fr.put hF hM6 ((Or.inl ⟨rfl, by decide, by decide⟩))
          refine j_aload_n hX dX11_quarter_51 rfl 0 rfl ?_
          refine j_iconst hX dX11_quarter_52 ?_
          refine pf_X11_211 hX (by omega) (by omega) kc_210 (by omega) dX11_quarter_53 ?_
          refine j_up hI7 ro_210_7 (by omega) (by omega) (Or.inl (by omega)) (fun M14 w15 hw16 hM17 hI18 hf19 => ?_)
          have hV20 := RI0_dp (M' := M14) hV9 (fun a b h => by rw [hM17]; exact up_ne (by omega))
          have hk21 := kp_up hM17 (fun h => absurd h.2 (by decide)) hk10
          have hk22 := kp_up hM17 (fun h => absurd h.2 (by decide)) hk11
          have hk23 := kp_up hM17 (fun h => absurd h.2 (by decide)) hk12
          have hk24 := kp_up hM17 (fun h => absurd h.2 (by decide)) hf8
          clear hk10 hk11 hk12 hf8
          have hF25 := Fr.put hF13 hM17 ((Or.inl ⟨rfl, by decide, by decide⟩))
          refine j_aload_n hX dX11_quarter_56 rfl 0 rfl ?_
          refine j_iconst hX dX11_quarter_57 ?_
          refine j_aload_n hX dX11_quarter_58 rfl 0 rfl ?_
          refine gf_X11_279 hX (by omega) (by omega) kc_210 dX11_quarter_59 ?_
          refine j_top hk21 ?_
          refine j_isub hX dX11_quarter_62 ?_
          refine pf_X11_270 hX (by omega) (by omega) kc_210 (by omega) dX11_quarter_63 ?_
          refine j_up hI18 ro_210_41 (by omega) (by omega) (Or.inl (by omega)) (fun M26 w27 hw28 hM29 hI30 hf31 => ?_)
          have hV32 := RI0_dp (M' := M26) hV20 (fun a b h => by rw [hM29]; exact up_ne (by omega))
          have hk33 := kp_up hM29 (fun h => absurd h.2 (by decide)) hk21
          have hk34 := kp_up hM29 (fun h => absurd h.2 (by decide)) hk22
          have hk35 := kp_up hM29 (fun h => absurd h.2 (by decide)) hk23
          have hk36 := kp_up hM29 (fun h => absurd h.2 (by decide)) hk24
          have hk37 := kp_up hM29 (fun h => absurd h.2 (by decide)) hf19
          clear hk21 hk22 hk23 hk24 hf19
          have hF38 := Fr.put hF25 hM29 ((Or.inl ⟨rfl, by decide, by decide⟩))
          replace hw28 := hw28.symm
          subst hw28
          refine j_aload_n hX dX11_quarter_66 rfl 0 rfl ?_
          refine j_callVV hX lk_X11_155 (c_X11_clearBank _ _ _ _ _ _ _ (by omega) hI30 hf31) (by omega) hce rfl rfl (by omega) (by omega) kc_210 rfl rfl (Nat.le_of_ble_eq_true rfl) dX11_quarter_67 (fun M40 hp41 => ?_)
          obtain ⟨hI44, hG45, hq46⟩ := hp41
          have hV47 := RI0_dp hV32 (fun a b h => hG45 a b (by omega))
          have hk48 := kp_fr hG45 (fun h => h.elim (fun h => absurd h.1 (by decide)) (fun h => h.elim (fun h => absurd h.1 (by decide)) (fun h => h.elim (fun h => absurd h.1 (by decide)) (fun h => h.elim (fun h => absurd h.1 (by decide)) (fun h => h.elim (fun h => absurd h.1 (by decide)) (fun h => h.elim (fun h => absurd h.1 (by decide)) (fun h => h.elim (fun h => absurd h.1 (by decide)) (fun h => h.elim (fun h => absurd h.1 (by decide)) (fun h => h.elim (fun h => absurd h.1 (by decide)) (fun h => h.elim (fun h => absurd h.1 (by decide)) (fun h => h.elim (fun h => absurd h.1 (by decide)) (fun h => absurd h.2.1 (by decide))))))))))))) hk33
          have hk49 := kp_fr hG45 (fun h => h.elim (fun h => absurd h.1 (by decide)) (fun h => h.elim (fun h => absurd h.1 (by decide)) (fun h => h.elim (fun h => absurd h.1 (by decide)) (fun h => h.elim (fun h => absurd h.1 (by decide)) (fun h => h.elim (fun h => absurd h.1 (by decide)) (fun h => h.elim (fun h => absurd h.1 (by decide)) (fun h => h.elim (fun h => absurd h.1 (by decide)) (fun h => h.elim (fun h => absurd h.1 (by decide)) (fun h => h.elim (fun h => absurd h.1 (by decide)) (fun h => h.elim (fun h => absurd h.1 (by decide)) (fun h => h.elim (fun h => absurd h.1 (by decide)) (fun h => absurd h.2.1 (by decide))))))))))))) hk34
          have hk50 := kp_fr hG45 (fun h => h.elim (fun h => absurd h.1 (by decide)) (fun h => h.elim (fun h => absurd h.1 (by decide)) (fun h => h.elim (fun h => absurd h.1 (by decide)) (fun h => h.elim (fun h => absurd h.1 (by decide)) (fun h => h.elim (fun h => absurd h.1 (by decide)) (fun h => h.elim (fun h => absurd h.1 (by decide)) (fun h => h.elim (fun h => absurd h.1 (by decide)) (fun h => h.elim (fun h => absurd h.1 (by decide)) (fun h => h.elim (fun h => absurd h.1 (by decide)) (fun h => h.elim (fun h => absurd h.1 (by decide)) (fun h => h.elim (fun h => absurd h.1 (by decide)) (fun h => absurd h.2.1 (by decide))))))))))))) hk35
          have hk51 := kp_fr hG45 (fun h => h.elim (fun h => absurd h.1 (by decide)) (fun h => h.elim (fun h => absurd h.1 (by decide)) (fun h => h.elim (fun h => absurd h.1 (by decide)) (fun h => h.elim (fun h => absurd h.1 (by decide)) (fun h => h.elim (fun h => absurd h.1 (by decide)) (fun h => h.elim (fun h => absurd h.1 (by decide)) (fun h => h.elim (fun h => absurd h.1 (by decide)) (fun h => h.elim (fun h => absurd h.1 (by decide)) (fun h => h.elim (fun h => absurd h.1 (by decide)) (fun h => h.elim (fun h => absurd h.1 (by decide)) (fun h => h.elim (fun h => absurd h.1 (by decide)) (fun h => absurd h.2.1 (by decide))))))))))))) hk36
          have hk52 := kp_fr hG45 (fun h => h.elim (fun h => absurd h.1 (by decide)) (fun h => h.elim (fun h => absurd h.1 (by decide)) (fun h => h.elim (fun h => absurd h.1 (by decide)) (fun h => h.elim (fun h => absurd h.1 (by decide)) (fun h => h.elim (fun h => absurd h.1 (by decide)) (fun h => h.elim (fun h => absurd h.1 (by decide)) (fun h => h.elim (fun h => absurd h.1 (by decide)) (fun h => h.elim (fun h => absurd h.1 (by decide)) (fun h => h.elim (fun h => absurd h.1 (by decide)) (fun h => h.elim (fun h => absurd h.1 (by decide)) (fun h => h.elim (fun h => absurd h.1 (by decide)) (fun h => absurd h.2.1 (by decide))))))))))))) hk37
          have hk53 := kp_fr hG45 (fun h => h.elim (fun h => absurd h.1 (by decide)) (fun h => h.elim (fun h => absurd h.1 (by decide)) (fun h => h.elim (fun h => absurd h.1 (by decide)) (fun h => h.elim (fun h => absurd h.1 (by decide)) (fun h => h.elim (fun h => absurd h.1 (by decide)) (fun h => h.elim (fun h => absurd h.1 (by decide)) (fun h => h.elim (fun h => absurd h.1 (by decide)) (fun h => h.elim (fun h => absurd h.1 (by decide)) (fun h => h.elim (fun h => absurd h.1 (by decide)) (fun h => h.elim (fun h => absurd h.1 (by decide)) (fun h => h.elim (fun h => absurd h.1 (by decide)) (fun h => absurd h.2.1 (by decide))))))))))))) hf31
          clear hk33 hk34 hk35 hk36 hk37 hf31
          have hF54 := Fr.trans hF38 hG45 (fun a b h => h.elim (fun h => (Or.inr (Or.inr (Or.inl ⟨by omega, by omega⟩)))) (fun h => h.elim (fun h => (Or.inr (Or.inr (Or.inl ⟨by omega, by omega⟩)))) (fun h => h.elim (fun h => (Or.inr (Or.inr (Or.inl ⟨by omega, by omega⟩)))) (fun h => h.elim (fun h => (Or.inr (Or.inr (Or.inl ⟨by omega, by omega⟩)))) (fun h => h.elim (fun h => (Or.inr (Or.inr (Or.inl ⟨by omega, by omega⟩)))) (fun h => h.elim (fun h => (Or.inr (Or.inr (Or.inl ⟨by omega, by omega⟩)))) (fun h => h.elim (fun h => (Or.inr (Or.inr (Or.inl ⟨by omega, by omega⟩)))) (fun h => h.elim (fun h => (Or.inr (Or.inr (Or.inl ⟨by omega, by omega⟩)))) (fun h => h.elim (fun h => (Or.inr (Or.inr (Or.inl ⟨by omega, by omega⟩)))) (fun h => h.elim (fun h => (Or.inr (Or.inr (Or.inl ⟨by omega, by omega⟩)))) (fun h => h.elim (fun h => (Or.inr (Or.inr (Or.inl ⟨by omega, by omega⟩)))) (fun h => (Or.inl ⟨h.1, Int.le_trans (by decide) h.2.1, Int.le_trans h.2.2 (by decide)⟩)))))))))))))
          have hV55 := RD0_st hq46
          have hV56 := ML_st (M := M40) (by omega) (by omega)
          refine j_aload_n hX dX11_quarter_70 rfl 0 rfl ?_
          refine j_callVV hX lk_X11_253 (c_X11_goOn _ _ _ _ _ _ _ _ (by omega) hI44 hk49 hV56) (by omega) hce rfl rfl (by omega) (by omega) kc_210 rfl rfl (Nat.le_of_ble_eq_true rfl) dX11_quarter_71 (fun M58 hp59 => ?_)
          obtain ⟨hI62, hG63, hq64, hq65⟩ := hp59
          have hV66 := RI0_dp hV47 (fun a b h => hG63 a b (by omega))
          have hV67 := RD0_dp hV55 (fun a b h => hG63 a b (by omega))
          have hk69 := kp_fr hG63 (fun h => absurd h.2.2 (by decide)) hk48
          have hk70 := kp_fr hG63 (fun h => absurd h.2.1 (by decide)) hk49
          have hk71 := kp_fr hG63 (fun h => absurd h.2.1 (by decide)) hk50
          have hk72 := kp_fr hG63 (fun h => absurd h.2.1 (by decide)) hk51
          have hk73 := kp_fr hG63 (fun h => absurd h.2.2 (by decide)) hk53
          clear hk48 hk49 hk50 hk51 hk52 hk53
          have hF74 := Fr.trans hF54 hG63 (fun a b h => (Or.inl ⟨h.1, Int.le_trans (by decide) h.2.1, Int.le_trans h.2.2 (by decide)⟩))
          exact ih.2 _ _ _ _ (by omega) hI62 hF74 hk69 hk73 hq64 hV66 (by first | assumption | omega) (by first | assumption | exact fun _ => hV67) (by omega) (by omega)
        · skip
          refine j_aload_n hX dX11_quarter_28 rfl 0 rfl ?_
          refine gf_X11_13 hX (by omega) (by omega) kc_210 (fc_210_1 hI) (by decide) dX11_quarter_29 ?_
          refine j_iload_n hX dX11_quarter_32 rfl 1 rfl ?_
          refine j_aload_n hX dX11_quarter_33 rfl 0 rfl ?_
          refine gf_X11_7 hX (by omega) (by omega) kc_210 (fc_210_0 hI) (by decide) dX11_quarter_34 ?_
          refine j_iload_n hX dX11_quarter_37 rfl 1 rfl ?_
          refine j_bald hX (by omega) (by omega) kc_211 (by omega) (by omega) (by omega) dX11_quarter_38 ?_
          refine j_name hI (ra_211 _) (fun v75 hv76 hl77 hh78 => ?_)
          refine j_bast hX (by omega) (by omega) kc_212 (by omega) (by omega) (by omega) (by omega) (by omega) dX11_quarter_39 ?_
          refine j_up hI (ra_212 _) (by omega) (by omega) (Or.inl (by omega)) (fun M79 w80 hw81 hM82 hI83 hf84 => ?_)
          have hV85 := RI0_dp (M' := M79) hV_0 (fun a b h => by rw [hM82]; exact up_ne (by omega))
          have hk86 := kp_up hM82 (fun h => absurd h.1 (by decide)) hk_0
          have hk87 := kp_up hM82 (fun h => absurd h.1 (by decide)) hk_1
          have hk88 := kp_up hM82 (fun h => absurd h.1 (by decide)) hk_2
          have hF89 := Fr.put hF hM82 ((Or.inr (Or.inr (Or.inl ⟨by decide, by decide⟩))))
          refine j_iinc (lv' := [(1, _), (0, _)]) hX dX11_quarter_40 1 rfl (by rw [hnL]; decide) rfl ?_
          refine j_goto (tgt := 20) hX dX11_quarter_43 (by decide) ?_
          refine j_sub [1, 0] rfl ?_
          exact ih.1 _ _ _ _ (by omega) hI83 hF89 hk86 hk87 hk88 hV85 (by first | assumption | omega) (by omega) (by omega)
      · intro x1 mm w Mc hxx1 hI hF hk_0 hk_1 hV_0 hV_1 h2 h3 hm0 hm1
        have hk90 : Mc.1 210 4 = Mc.1 210 4 := rfl
        have hmm := ML_0 hV_0
        refine j_aload_n hX dX11_quarter_74 rfl 0 rfl ?_
        refine j_callVI hX lk_X11_249 (c_X11_isGood _ _ _ _ _ _ (by omega) hI) (by omega) hce rfl rfl (by omega) (by omega) kc_210 rfl rfl (Nat.le_of_ble_eq_true rfl) dX11_quarter_75 (fun z91 M92 hz94 hp93 => ?_)
        obtain ⟨hE95, hb96, hq97, hq98⟩ := hp93
        replace hE95 := hE95.symm
        subst hE95
        refine j_if_eq (tgt := 95) hX dX11_quarter_78 (by decide) (by omega) (fun hc99 => ?_) (fun hc99 => ?_)
        · skip
          clear hq97
          have hi100 := hq98 (by omega)
          clear hq98
          refine j_aload_n hX dX11_quarter_95 rfl 0 rfl ?_
          refine j_callVI hX lk_X11_249 (c_X11_isGood _ _ _ _ _ _ (by omega) hI) (by omega) hce rfl rfl (by omega) (by omega) kc_210 rfl rfl (Nat.le_of_ble_eq_true rfl) dX11_quarter_96 (fun z101 M102 hz104 hp103 => ?_)
          obtain ⟨hE105, hb106, hq107, hq108⟩ := hp103
          replace hE105 := hE105.symm
          subst hE105
          refine j_if_ne (tgt := 104) hX dX11_quarter_99 (by decide) (by omega) (fun hc109 => ?_) (fun hc109 => ?_)
          · skip
            have hi110 := hq107 (by omega)
            clear hq107
            clear hq108
            have hV111 := h3 (by omega)
            refine j_aload_n hX dX11_quarter_104 rfl 0 rfl ?_
            refine j_aload_n hX dX11_quarter_105 rfl 0 rfl ?_
            refine gf_X11_270 hX (by omega) (by omega) kc_210 dX11_quarter_106 ?_
            refine j_top hk_1 ?_
            refine pf_X11_279 hX (by omega) (by omega) kc_210 (by omega) dX11_quarter_109 ?_
            refine j_up hI ro_210_40 (by omega) (by omega) (Or.inl (by omega)) (fun M112 w113 hw114 hM115 hI116 hf117 => ?_)
            have hV118 := ML_dp (M' := M112) hV_0 (fun a b h => by rw [hM115]; exact up_ne (by omega))
            have hV119 := RI0_dp (M' := M112) hV_1 (fun a b h => by rw [hM115]; exact up_ne (by omega))
            have hV120 := RD0_dp (M' := M112) hV111 (fun a b h => by rw [hM115]; exact up_ne (by omega))
            have hk121 := kp_up hM115 (fun h => absurd h.2 (by decide)) hk_1
            have hk122 := kp_up hM115 (fun h => absurd h.2 (by decide)) hk90
            clear hk90
            have hF123 := Fr.put hF hM115 ((Or.inl ⟨rfl, by decide, by decide⟩))
            replace hw114 := hw114.symm
            subst hw114
            refine j_aload_n hX dX11_quarter_112 rfl 0 rfl ?_
            refine j_callVV hX lk_X11_158 (c_X11_startAnew _ _ _ _ _ _ _ _ (by omega) hI116 hf117 (by first | assumption | rfl) (RD_lt hV120)) (by omega) hce rfl rfl (by omega) (by omega) kc_210 rfl rfl (Nat.le_of_ble_eq_true rfl) dX11_quarter_113 (fun M125 hp126 => ?_)
            obtain ⟨hI129, hG130, hq131, hq132⟩ := hp126
            have hV133 := ML_dp hV118 (fun a b h => hG130 a b (by omega))
            have hV135 := RD0_dp hV120 (fun a b h => hG130 a b (by omega))
            have hk136 := kp_fr hG130 (fun h => h.elim (fun h => absurd h (by decide)) (fun h => h.elim (fun h => absurd h (by decide)) (fun h => h.elim (fun h => absurd h.2.1 (by decide)) (fun h => h.elim (fun h => absurd h.2.1 (by decide)) (fun h => absurd h (by decide)))))) hk121
            have hk137 := kp_fr hG130 (fun h => h.elim (fun h => absurd h (by decide)) (fun h => h.elim (fun h => absurd h (by decide)) (fun h => h.elim (fun h => absurd h.2.1 (by decide)) (fun h => h.elim (fun h => absurd h.2.1 (by decide)) (fun h => absurd h (by decide)))))) hk122
            have hk138 := kp_fr hG130 (fun h => h.elim (fun h => absurd h (by decide)) (fun h => h.elim (fun h => absurd h (by decide)) (fun h => h.elim (fun h => absurd h.2.1 (by decide)) (fun h => h.elim (fun h => absurd h.2.1 (by decide)) (fun h => absurd h (by decide)))))) hf117
            clear hk121 hk122 hf117
            have hF139 := Fr.trans hF123 hG130 (fun a b h => h.elim (fun h => (Or.inr (Or.inr (Or.inr (Or.inl h))))) (fun h => h.elim (fun h => (Or.inr (Or.inr (Or.inr (Or.inr (Or.inl h)))))) (fun h => h.elim (fun h => (Or.inl ⟨h.1, Int.le_trans (by decide) h.2.1, Int.le_trans h.2.2 (by decide)⟩)) (fun h => h.elim (fun h => (Or.inr (Or.inl h))) (fun h => (Or.inr (Or.inr (Or.inr (Or.inr (Or.inr h))))))))))
            have hrs := hq131
            have hbx := hq132
            have hn2 := hG130 213 w (by omega)
            refine j_aload_n hX dX11_quarter_116 rfl 0 rfl ?_
            refine gf_X11_20 hX (by omega) (by omega) kc_210 (fc_210_11 hI129) (by decide) dX11_quarter_117 ?_
            refine j_aload_n hX dX11_quarter_120 rfl 0 rfl ?_
            refine gf_X11_279 hX (by omega) (by omega) kc_210 dX11_quarter_121 ?_
            refine j_top hk138 ?_
            refine j_iald hX (by omega) (by omega) kc_213 (by omega) (by omega) (by omega) dX11_quarter_124 ?_
            refine j_name hI129 (ra_213 _) (fun v140 hv141 hl142 hh143 => ?_)
            exact hret _ _ _ _ dX11_quarter_125 rfl (by omega) ⟨hI129, hF139, RI_st (w := w) (by omega) hn2 hrs hbx hV135⟩
          · skip
            clear hq107
            have hi144 := hq108 (by omega)
            clear hq108
            refine j_iconst hX dX11_quarter_102 ?_
            exact hret _ _ _ _ dX11_quarter_103 rfl (by omega) ⟨hI, hF, RI_mk (by omega) hV_1⟩
        · skip
          have hi145 := hq97 (by omega)
          clear hq97
          clear hq98
          refine j_aload_n hX dX11_quarter_81 rfl 0 rfl ?_
          refine gf_X11_221 hX (by omega) (by omega) kc_210 dX11_quarter_82 ?_
          refine j_name hI ro_210_8 (fun v146 hv147 hl148 hh149 => ?_)
          have hk150 := hv147.symm
          refine j_if_eq (tgt := 95) hX dX11_quarter_85 (by decide) (by omega) (fun hc151 => ?_) (fun hc151 => ?_)
          · skip
            refine j_aload_n hX dX11_quarter_95 rfl 0 rfl ?_
            refine j_callVI hX lk_X11_249 (c_X11_isGood _ _ _ _ _ _ (by omega) hI) (by omega) hce rfl rfl (by omega) (by omega) kc_210 rfl rfl (Nat.le_of_ble_eq_true rfl) dX11_quarter_96 (fun z152 M153 hz155 hp154 => ?_)
            obtain ⟨hE156, hb157, hq158, hq159⟩ := hp154
            replace hE156 := hE156.symm
            subst hE156
            refine j_if_ne (tgt := 104) hX dX11_quarter_99 (by decide) (by omega) (fun hc160 => ?_) (fun hc160 => ?_)
            · skip
              have hi161 := hq158 (by omega)
              clear hq158
              clear hq159
              have hV162 := h3 (by omega)
              refine j_aload_n hX dX11_quarter_104 rfl 0 rfl ?_
              refine j_aload_n hX dX11_quarter_105 rfl 0 rfl ?_
              refine gf_X11_270 hX (by omega) (by omega) kc_210 dX11_quarter_106 ?_
              refine j_top hk_1 ?_
              refine pf_X11_279 hX (by omega) (by omega) kc_210 (by omega) dX11_quarter_109 ?_
              refine j_up hI ro_210_40 (by omega) (by omega) (Or.inl (by omega)) (fun M163 w164 hw165 hM166 hI167 hf168 => ?_)
              have hV169 := ML_dp (M' := M163) hV_0 (fun a b h => by rw [hM166]; exact up_ne (by omega))
              have hV170 := RI0_dp (M' := M163) hV_1 (fun a b h => by rw [hM166]; exact up_ne (by omega))
              have hV171 := RD0_dp (M' := M163) hV162 (fun a b h => by rw [hM166]; exact up_ne (by omega))
              have hk172 := kp_up hM166 (fun h => absurd h.2 (by decide)) hk_1
              have hk173 := kp_up hM166 (fun h => absurd h.2 (by decide)) hk90
              have hk174 := kp_up hM166 (fun h => absurd h.2 (by decide)) hk150
              clear hk90 hk150
              have hF175 := Fr.put hF hM166 ((Or.inl ⟨rfl, by decide, by decide⟩))
              replace hw165 := hw165.symm
              subst hw165
              refine j_aload_n hX dX11_quarter_112 rfl 0 rfl ?_
              refine j_callVV hX lk_X11_158 (c_X11_startAnew _ _ _ _ _ _ _ _ (by omega) hI167 hf168 (by first | assumption | rfl) (RD_lt hV171)) (by omega) hce rfl rfl (by omega) (by omega) kc_210 rfl rfl (Nat.le_of_ble_eq_true rfl) dX11_quarter_113 (fun M177 hp178 => ?_)
              obtain ⟨hI181, hG182, hq183, hq184⟩ := hp178
              have hV185 := ML_dp hV169 (fun a b h => hG182 a b (by omega))
              have hV187 := RD0_dp hV171 (fun a b h => hG182 a b (by omega))
              have hk188 := kp_fr hG182 (fun h => h.elim (fun h => absurd h (by decide)) (fun h => h.elim (fun h => absurd h (by decide)) (fun h => h.elim (fun h => absurd h.2.1 (by decide)) (fun h => h.elim (fun h => absurd h.2.1 (by decide)) (fun h => absurd h (by decide)))))) hk172
              have hk189 := kp_fr hG182 (fun h => h.elim (fun h => absurd h (by decide)) (fun h => h.elim (fun h => absurd h (by decide)) (fun h => h.elim (fun h => absurd h.2.1 (by decide)) (fun h => h.elim (fun h => absurd h.2.1 (by decide)) (fun h => absurd h (by decide)))))) hk173
              have hk190 := kp_fr hG182 (fun h => h.elim (fun h => absurd h (by decide)) (fun h => h.elim (fun h => absurd h (by decide)) (fun h => h.elim (fun h => absurd h.2.1 (by decide)) (fun h => h.elim (fun h => absurd h.2.1 (by decide)) (fun h => absurd h (by decide)))))) hk174
              have hk191 := kp_fr hG182 (fun h => h.elim (fun h => absurd h (by decide)) (fun h => h.elim (fun h => absurd h (by decide)) (fun h => h.elim (fun h => absurd h.2.1 (by decide)) (fun h => h.elim (fun h => absurd h.2.1 (by decide)) (fun h => absurd h (by decide)))))) hf168
              clear hk172 hk173 hk174 hf168
              have hF192 := Fr.trans hF175 hG182 (fun a b h => h.elim (fun h => (Or.inr (Or.inr (Or.inr (Or.inl h))))) (fun h => h.elim (fun h => (Or.inr (Or.inr (Or.inr (Or.inr (Or.inl h)))))) (fun h => h.elim (fun h => (Or.inl ⟨h.1, Int.le_trans (by decide) h.2.1, Int.le_trans h.2.2 (by decide)⟩)) (fun h => h.elim (fun h => (Or.inr (Or.inl h))) (fun h => (Or.inr (Or.inr (Or.inr (Or.inr (Or.inr h))))))))))
              have hrs := hq183
              have hbx := hq184
              have hn2 := hG182 213 w (by omega)
              refine j_aload_n hX dX11_quarter_116 rfl 0 rfl ?_
              refine gf_X11_20 hX (by omega) (by omega) kc_210 (fc_210_11 hI181) (by decide) dX11_quarter_117 ?_
              refine j_aload_n hX dX11_quarter_120 rfl 0 rfl ?_
              refine gf_X11_279 hX (by omega) (by omega) kc_210 dX11_quarter_121 ?_
              refine j_top hk191 ?_
              refine j_iald hX (by omega) (by omega) kc_213 (by omega) (by omega) (by omega) dX11_quarter_124 ?_
              refine j_name hI181 (ra_213 _) (fun v193 hv194 hl195 hh196 => ?_)
              exact hret _ _ _ _ dX11_quarter_125 rfl (by omega) ⟨hI181, hF192, RI_st (w := w) (by omega) hn2 hrs hbx hV187⟩
            · skip
              clear hq158
              have hi197 := hq159 (by omega)
              clear hq159
              refine j_iconst hX dX11_quarter_102 ?_
              exact hret _ _ _ _ dX11_quarter_103 rfl (by omega) ⟨hI, hF, RI_mk (by omega) hV_1⟩
          · skip
            have hrd := h3 (by omega)
            refine j_aload_n hX dX11_quarter_88 rfl 0 rfl ?_
            refine j_callVV hX lk_X11_282 (c_X11_readLine _ _ _ _ _ _ _ _ _ _ _ _ (by omega) hI hk_1 (by first | assumption | rfl) (by first | assumption | rfl) (by first | assumption | rfl) (by first | assumption | rfl) hV_0 (hrd) (by first | assumption | omega)) (by omega) hce rfl rfl (by omega) (by omega) kc_210 rfl rfl (Nat.le_of_ble_eq_true rfl) dX11_quarter_89 (fun M199 hp200 => ?_)
            obtain ⟨hI203, hG204, hq205, hq206⟩ := hp200
            have hV208 := RI0_dp hV_1 (fun a b h => hG204 a b (by unfold RFw; omega))
            have hk209 := kp_fr hG204 (by unfold RFw; omega) hk_0
            have hk210 := kp_fr hG204 (by unfold RFw; omega) hk_1
            clear hk90 hk150
            have hF211 := Fr.trans hF hG204 (fun a b h => by unfold RFw at h; omega)
            have hk212 : M199.1 210 4 = M199.1 210 4 := rfl
            have hm1 := ML_0 hq205
            refine j_goto (tgt := 74) hX dX11_quarter_92 (by decide) ?_
            exact ih.2 _ _ _ _ (by omega) hI203 hF211 hk209 hk210 hq205 hV208 (by first | assumption | omega) (by first | assumption | exact fun _ => noRel) (by omega) (by omega)
  show J X B N 0 0 0 [(0, rv B 210)] [] M
  refine j_aload_n hX dX11_quarter_0 rfl 0 rfl ?_
  refine j_iconst hX dX11_quarter_1 ?_
  refine pf_X11_164 hX (by omega) (by omega) kc_210 (by omega) dX11_quarter_2 ?_
  refine j_up hI ro_210_4 (by omega) (by omega) (Or.inl (by omega)) (fun M213 w214 hw215 hM216 hI217 hf218 => ?_)
  have hV219 := RI0_dp (M' := M213) hRI (fun a b h => by rw [hM216]; exact up_ne (by omega))
  have hk220 := kp_up hM216 (fun h => absurd h.2 (by decide)) hbk
  clear hk1
  have hF221 := Fr.put hF hM216 ((Or.inl ⟨rfl, by decide, by decide⟩))
  refine j_aload_n hX dX11_quarter_5 rfl 0 rfl ?_
  refine j_iconst hX dX11_quarter_6 ?_
  refine pf_X11_16 hX (by omega) (by omega) kc_210 (by omega) dX11_quarter_7 ?_
  refine j_up hI217 ro_210_5 (by omega) (by omega) (Or.inl (by omega)) (fun M222 w223 hw224 hM225 hI226 hf227 => ?_)
  have hV228 := RI0_dp (M' := M222) hV219 (fun a b h => by rw [hM225]; exact up_ne (by omega))
  have hk229 := kp_up hM225 (fun h => absurd h.2 (by decide)) hk220
  have hk230 := kp_up hM225 (fun h => absurd h.2 (by decide)) hf218
  clear hk220 hf218
  have hF231 := Fr.put hF221 hM225 ((Or.inl ⟨rfl, by decide, by decide⟩))
  refine j_aload_n hX dX11_quarter_10 rfl 0 rfl ?_
  refine j_aload_n hX dX11_quarter_11 rfl 0 rfl ?_
  refine gf_X11_276 hX (by omega) (by omega) kc_210 dX11_quarter_12 ?_
  refine j_name hI226 ro_210_2 (fun v232 hv233 hl234 hh235 => ?_)
  have hk236 := hv233.symm
  refine pf_X11_161 hX (by omega) (by omega) kc_210 (by omega) dX11_quarter_15 ?_
  refine j_up hI226 ro_210_3 (by omega) (by omega) (Or.inl (by omega)) (fun M237 w238 hw239 hM240 hI241 hf242 => ?_)
  have hV243 := RI0_dp (M' := M237) hV228 (fun a b h => by rw [hM240]; exact up_ne (by omega))
  have hk244 := kp_up hM240 (fun h => absurd h.2 (by decide)) hk229
  have hk245 := kp_up hM240 (fun h => absurd h.2 (by decide)) hk230
  have hk246 := kp_up hM240 (fun h => absurd h.2 (by decide)) hf227
  have hk247 := kp_up hM240 (fun h => absurd h.2 (by decide)) hk236
  clear hk229 hk230 hf227 hk236
  have hF248 := Fr.put hF231 hM240 ((Or.inl ⟨rfl, by decide, by decide⟩))
  refine j_iconst hX dX11_quarter_18 ?_
  refine j_istore_n (lv' := [(1, _), (0, _)]) hX dX11_quarter_19 rfl (by rw [hnL]; decide) rfl ?_
  refine j_sub [1, 0] rfl ?_
  refine (cp (Int.toNat (6400064 + 1))).1 _ _ _ _ (by omega) hI241 hF248 hk244 hf242 hk245 hV243 (by first | assumption | omega) ?_ ?_
  · omega
  · omega
