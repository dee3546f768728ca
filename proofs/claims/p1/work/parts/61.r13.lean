theorem dX11_e_0 : decode cX11_e 0 = .ok (.aload_n 0, 1) := by decide +kernel
theorem dX11_e_1 : decode cX11_e 1 = .ok (.iconst 0, 1) := by decide +kernel
theorem dX11_e_2 : decode cX11_e 2 = .ok (.putfield 338, 3) := by decide +kernel
theorem dX11_e_5 : decode cX11_e 5 = .ok (.aload_n 0, 1) := by decide +kernel
theorem dX11_e_6 : decode cX11_e 6 = .ok (.iconst 0, 1) := by decide +kernel
theorem dX11_e_7 : decode cX11_e 7 = .ok (.putfield 341, 3) := by decide +kernel
theorem dX11_e_10 : decode cX11_e 10 = .ok (.aload_n 0, 1) := by decide +kernel
theorem dX11_e_11 : decode cX11_e 11 = .ok (.bipush 8, 2) := by decide +kernel
theorem dX11_e_13 : decode cX11_e 13 = .ok (.iconst 0, 1) := by decide +kernel
theorem dX11_e_14 : decode cX11_e 14 = .ok (.invokevirtual 344, 3) := by decide +kernel
theorem dX11_e_17 : decode cX11_e 17 = .ok (.iconst 1, 1) := by decide +kernel
theorem dX11_e_18 : decode cX11_e 18 = .ok (.istore_n 1, 1) := by decide +kernel
theorem dX11_e_19 : decode cX11_e 19 = .ok (.aload_n 0, 1) := by decide +kernel
theorem dX11_e_20 : decode cX11_e 20 = .ok (.invokevirtual 249, 3) := by decide +kernel
theorem dX11_e_23 : decode cX11_e 23 = .ok (.ifCond .eq 29, 3) := by decide +kernel
theorem dX11_e_26 : decode cX11_e 26 = .ok (.aload_n 0, 1) := by decide +kernel
theorem dX11_e_27 : decode cX11_e 27 = .ok (.getfield 338, 3) := by decide +kernel
theorem dX11_e_30 : decode cX11_e 30 = .ok (.ifCond .le 22, 3) := by decide +kernel
theorem dX11_e_33 : decode cX11_e 33 = .ok (.iload_n 1, 1) := by decide +kernel
theorem dX11_e_34 : decode cX11_e 34 = .ok (.ifCond .eq 10, 3) := by decide +kernel
theorem dX11_e_37 : decode cX11_e 37 = .ok (.aload_n 0, 1) := by decide +kernel
theorem dX11_e_38 : decode cX11_e 38 = .ok (.invokevirtual 347, 3) := by decide +kernel
theorem dX11_e_41 : decode cX11_e 41 = .ok (.goto 7, 3) := by decide +kernel
theorem dX11_e_44 : decode cX11_e 44 = .ok (.aload_n 0, 1) := by decide +kernel
theorem dX11_e_45 : decode cX11_e 45 = .ok (.invokevirtual 350, 3) := by decide +kernel
theorem dX11_e_48 : decode cX11_e 48 = .ok (.istore_n 1, 1) := by decide +kernel
theorem dX11_e_49 : decode cX11_e 49 = .ok (.goto (-30), 3) := by decide +kernel
theorem dX11_e_52 : decode cX11_e 52 = .ok (.return_, 1) := by decide +kernel
set_option maxHeartbeats 2000000 in
set_option maxRecDepth 20000 in
theorem c_X11_e (l : Launch) (D : va_G) (cy : Nat → ClassId) (B N : Nat) (m : Int) (lo : Int) (M : MM) (hN : 257 ≤ N) (hI : Iv M) (hulo : M.1 210 42 = lo) (hML : ML m M) (h1 : 0 ≤ lo ∧ lo ≤ 560 ∧ M.1 210 4 = 0 ∧ M.1 210 45 = 0 ∧ m ≤ 10000) : CV l D cy B N 5 yX11_e cX11_e 2 none [rv B 210] M (fun M' => Iv M' ∧ Fr (fun a b => (a = 210 ∧ 4 ≤ b ∧ b ≤ 10) ∨ (a = 210 ∧ 42 ≤ b ∧ b ≤ 45) ∨ (a = 216) ∨ (a = 237 ∧ lo ≤ b ∧ b ≤ lo + 300) ∨ (238 ≤ a ∧ a ≤ 240)) M M' ∧ (ML m M') ∧ (M'.1 210 4 = 0 → DN lo M')) := by
  refine mk_CV (by decide) (Nat.le_of_ble_eq_true rfl) ?_
  intro X exl exD excy hnL hX hret
  have hce : 0 + 0 ≤ (xR X).cells ∧ 0 + 0 ≤ (xR X).slots := ⟨Nat.zero_le _, Nat.zero_le _⟩
  have hF : Fr (fun a b => (a = 210 ∧ 4 ≤ b ∧ b ≤ 10) ∨ (a = 210 ∧ 42 ≤ b ∧ b ≤ 45) ∨ (a = 216) ∨ (a = 237 ∧ lo ≤ b ∧ b ≤ lo + 300) ∨ (238 ≤ a ∧ a ≤ 240)) M M := Fr.rf
  have hk1 : M.1 210 45 = M.1 210 45 := rfl
  have hk2 : M.1 210 4 = M.1 210 4 := rfl
  have hm0 := ML_0 hML
  have cp : ∀ n : Nat, (∀ (x1 : Int), ∀ (mm np : Int), ∀ (Mc : MM), I32 x1 → Iv Mc → Fr (fun a b => (a = 210 ∧ 4 ≤ b ∧ b ≤ 10) ∨ (a = 210 ∧ 42 ≤ b ∧ b ≤ 45) ∨ (a = 216) ∨ (a = 237 ∧ lo ≤ b ∧ b ≤ lo + 300) ∨ (238 ≤ a ∧ a ≤ 240)) M Mc → Mc.1 210 44 = np → ML mm Mc → (0 ≤ x1 ∧ x1 ≤ 1 ∧ mm ≤ m ∧ 0 ≤ np) → (Mc.1 210 4 = 0 → PT x1 lo Mc) → 0 ≤ 32 * (2 * mm + np) + 1 → 32 * (2 * mm + np) + 1 < (n : Int) → J X B N 0 0 19 [(0, rv B 210), (1, iv x1)] [] Mc) := by
    intro n
    induction n with
    | zero => exact by intros; exfalso; omega
    | succ n ih =>
      · intro x1 mm np Mc hxx1 hI hF hk_0 hV_0 h2 h3 hm0 hm1
        have hk3 : Mc.1 210 45 = Mc.1 210 45 := rfl
        have hk4 : Mc.1 210 4 = Mc.1 210 4 := rfl
        have hmm := ML_0 hV_0
        have hwr := hI.at 210 43 ro_210_43
        have hur := hI.at 210 45 ro_210_45
        have hnr := hI.at 210 44 ro_210_44
        refine j_aload_n hX dX11_e_19 rfl 0 rfl ?_
        refine j_callVI hX lk_X11_249 (c_X11_isGood _ _ _ _ _ _ (by omega) hI) (by omega) hce rfl rfl (by omega) (by omega) kc_210 rfl rfl (Nat.le_of_ble_eq_true rfl) dX11_e_20 (fun z5 M6 hz8 hp7 => ?_)
        obtain ⟨hE9, hb10, hq11, hq12⟩ := hp7
        replace hE9 := hE9.symm
        subst hE9
        refine j_if_eq (tgt := 52) hX dX11_e_23 (by decide) (by omega) (fun hc13 => ?_) (fun hc13 => ?_)
        · skip
          clear hq11
          have hi14 := hq12 (by omega)
          clear hq12
          exact hret _ _ _ dX11_e_52 ⟨hI, hF, ML_mono hV_0 (by omega), by first | exact fun h => absurd h (by assumption) | exact fun h => PT_dn (h3 h) (by omega)⟩
        · skip
          have hi15 := hq11 (by omega)
          clear hq11
          clear hq12
          refine j_aload_n hX dX11_e_26 rfl 0 rfl ?_
          refine gf_X11_338 hX (by omega) (by omega) kc_210 dX11_e_27 ?_
          refine j_top hk_0 ?_
          refine j_if_le (tgt := 52) hX dX11_e_30 (by decide) (by omega) (fun hc16 => ?_) (fun hc16 => ?_)
          · skip
            exact hret _ _ _ dX11_e_52 ⟨hI, hF, ML_mono hV_0 (by omega), by first | exact fun h => absurd h (by assumption) | exact fun h => PT_dn (h3 h) (by omega)⟩
          · skip
            refine j_iload_n hX dX11_e_33 rfl 1 rfl ?_
            refine j_if_eq (tgt := 44) hX dX11_e_34 (by decide) (by omega) (fun hc17 => ?_) (fun hc17 => ?_)
            · skip
              have hpu : PS 1 lo Mc := by have h := PT_ps (h3 (by assumption)) (by omega); rwa [(by omega : 1 - x1 = 1)] at h
              have hpb := PS_b hpu (Or.inr rfl) (by omega) (by omega)
              refine j_aload_n hX dX11_e_44 rfl 0 rfl ?_
              refine j_callVI hX lk_X11_350 (c_X11_behindUnit _ _ _ _ _ _ _ _ _ _ _ (by omega) hI (by first | assumption | rfl) hk4 hk_0 hV_0 (hpu) (by first | assumption | omega)) (by omega) hce rfl rfl (by omega) (by omega) kc_210 rfl rfl (Nat.le_of_ble_eq_true rfl) dX11_e_45 (fun z18 M19 hz21 hp20 => ?_)
              obtain ⟨hI23, hG24, hb25, hq26, hq27⟩ := hp20
              clear hk3 hk4
              have hF29 := Fr.trans hF hG24 (fun a b h => h.elim (fun h => (Or.inl h)) (fun h => h.elim (fun h => (Or.inr (Or.inl h))) (fun h => h.elim (fun h => (Or.inr (Or.inr (Or.inr (Or.inl h))))) (fun h => (Or.inr (Or.inr (Or.inr (Or.inr h))))))))
              have hk30 : M19.1 210 45 = M19.1 210 45 := rfl
              have hk31 : M19.1 210 4 = M19.1 210 4 := rfl
              obtain ⟨m2, hm2a, hm2b, hm2c⟩ := hq26
              have hm20 := ML_0 hm2a
              have hV32 := hm2a
              refine j_istore_n (lv' := [(1, _), (0, _)]) hX dX11_e_48 rfl (by rw [hnL]; decide) rfl ?_
              refine j_goto (tgt := 19) hX dX11_e_49 (by decide) ?_
              refine j_sub [1, 0] rfl ?_
              have hjr := hI23.at 210 44 ro_210_44
              exact ih _ _ _ _ (by omega) hI23 hF29 (by first | assumption | rfl) hV32 (by first | assumption | omega) (by first | assumption | exact fun _ => PT_1 hps) (by omega) (by omega)
            · skip
              have hpu : PS 0 lo Mc := by have h := PT_ps (h3 (by assumption)) (by omega); rwa [(by omega : 1 - x1 = 0)] at h
              have hpb := PS_b hpu (Or.inl rfl) (by omega) (by omega)
              refine j_aload_n hX dX11_e_37 rfl 0 rfl ?_
              refine j_callVI hX lk_X11_347 (c_X11_unit _ _ _ _ _ _ _ _ _ _ _ _ _ _ _ _ (by omega) hI hk_0 (by first | assumption | rfl) (by first | assumption | rfl) (by first | assumption | rfl) hk3 (by first | assumption | rfl) (by first | assumption | rfl) hk4 hV_0 (hpu) (by first | assumption | omega)) (by omega) hce rfl rfl (by omega) (by omega) kc_210 rfl rfl (Nat.le_of_ble_eq_true rfl) dX11_e_38 (fun z33 M34 hz36 hp35 => ?_)
              obtain ⟨hI38, hG39, hb40, hq41, hq42, hq43⟩ := hp35
              clear hk3 hk4
              have hF45 := Fr.trans hF hG39 (fun a b h => h.elim (fun h => (Or.inl h)) (fun h => h.elim (fun h => (Or.inr (Or.inl h))) (fun h => h.elim (fun h => (Or.inr (Or.inr (Or.inr (Or.inl ⟨h.1, by omega, by omega⟩))))) (fun h => h.elim (fun h => (Or.inr (Or.inr (Or.inr (Or.inr ⟨by omega, by omega⟩))))) (fun h => h.elim (fun h => (Or.inr (Or.inr (Or.inr (Or.inr ⟨by omega, by omega⟩))))) (fun h => h.elim (fun h => (Or.inr (Or.inr (Or.inr (Or.inr ⟨by omega, by omega⟩))))) (fun h => (Or.inr (Or.inr (Or.inl h))))))))))
              have hk46 : M34.1 210 45 = M34.1 210 45 := rfl
              have hk47 : M34.1 210 4 = M34.1 210 4 := rfl
              have hm1 := ML_0 hq41
              refine j_goto (tgt := 48) hX dX11_e_41 (by decide) ?_
              refine j_istore_n (lv' := [(1, _), (0, _)]) hX dX11_e_48 rfl (by rw [hnL]; decide) rfl ?_
              refine j_goto (tgt := 19) hX dX11_e_49 (by decide) ?_
              refine j_sub [1, 0] rfl ?_
              have hjr := hI38.at 210 44 ro_210_44
              exact ih _ _ _ _ (by omega) hI38 hF45 (by first | assumption | rfl) hq41 (by first | assumption | omega) (by first | assumption | exact fun _ => PT_1 hps) (by omega) (by omega)
  show J X B N 0 0 0 [(0, rv B 210)] [] M
  have hV48 := hML
  refine j_aload_n hX dX11_e_0 rfl 0 rfl ?_
  refine j_iconst hX dX11_e_1 ?_
  refine pf_X11_338 hX (by omega) (by omega) kc_210 (by omega) dX11_e_2 ?_
  refine j_up hI ro_210_44 (by omega) (by omega) (Or.inl (by omega)) (fun M49 w50 hw51 hM52 hI53 hf54 => ?_)
  have hV55 := ML_dp (M' := M49) hML (fun a b h => by rw [hM52]; exact up_ne (by omega))
  have hV56 := ML_dp (M' := M49) hV48 (fun a b h => by rw [hM52]; exact up_ne (by omega))
  have hk57 := kp_up hM52 (fun h => absurd h.2 (by decide)) hulo
  have hk58 := kp_up hM52 (fun h => absurd h.2 (by decide)) hk1
  have hk59 := kp_up hM52 (fun h => absurd h.2 (by decide)) hk2
  clear hk1 hk2
  have hF60 := Fr.put hF hM52 ((Or.inr (Or.inl ⟨rfl, by decide, by decide⟩)))
  replace hw51 := hw51.symm
  subst hw51
  refine j_aload_n hX dX11_e_5 rfl 0 rfl ?_
  refine j_iconst hX dX11_e_6 ?_
  refine pf_X11_341 hX (by omega) (by omega) kc_210 (by omega) dX11_e_7 ?_
  refine j_up hI53 ro_210_43 (by omega) (by omega) (Or.inl (by omega)) (fun M61 w62 hw63 hM64 hI65 hf66 => ?_)
  have hV67 := ML_dp (M' := M61) hV55 (fun a b h => by rw [hM64]; exact up_ne (by omega))
  have hV68 := ML_dp (M' := M61) hV56 (fun a b h => by rw [hM64]; exact up_ne (by omega))
  have hk69 := kp_up hM64 (fun h => absurd h.2 (by decide)) hk57
  have hk70 := kp_up hM64 (fun h => absurd h.2 (by decide)) hk58
  have hk71 := kp_up hM64 (fun h => absurd h.2 (by decide)) hk59
  have hk72 := kp_up hM64 (fun h => absurd h.2 (by decide)) hf54
  clear hk57 hk58 hk59 hf54
  have hF73 := Fr.put hF60 hM64 ((Or.inr (Or.inl ⟨rfl, by decide, by decide⟩)))
  refine j_aload_n hX dX11_e_10 rfl 0 rfl ?_
  refine j_bipush hX dX11_e_11 rfl ?_
  refine j_iconst hX dX11_e_13 ?_
  refine j_callVV hX lk_X11_344 (c_X11_pushE _ _ _ _ _ _ _ _ _ (by omega) hI65 (by omega) (by omega) hk72 (by first | assumption | omega)) (by omega) hce rfl rfl (by omega) (by omega) kc_210 rfl rfl (Nat.le_of_ble_eq_true rfl) dX11_e_14 (fun M75 hp76 => ?_)
  obtain ⟨hI79, hG80, hq81⟩ := hp76
  have hV82 := ML_dp hV67 (fun a b h => hG80 a b (by omega))
  have hV83 := ML_dp hV68 (fun a b h => hG80 a b (by omega))
  have hk84 := kp_fr hG80 (fun h => h.elim (fun h => absurd h.1 (by decide)) (fun h => h.elim (fun h => absurd h.1 (by decide)) (fun h => absurd h.2.1 (by decide)))) hk69
  have hk85 := kp_fr hG80 (fun h => h.elim (fun h => absurd h.1 (by decide)) (fun h => h.elim (fun h => absurd h.1 (by decide)) (fun h => absurd h.2.2 (by decide)))) hk70
  have hk86 := kp_fr hG80 (fun h => h.elim (fun h => absurd h.1 (by decide)) (fun h => h.elim (fun h => absurd h.1 (by decide)) (fun h => absurd h.2.1 (by decide)))) hk71
  have hk87 := kp_fr hG80 (fun h => h.elim (fun h => absurd h.1 (by decide)) (fun h => h.elim (fun h => absurd h.1 (by decide)) (fun h => absurd h.2.1 (by decide)))) hf66
  clear hk69 hk70 hk71 hk72 hf66
  have hF88 := Fr.trans hF73 hG80 (fun a b h => h.elim (fun h => (Or.inr (Or.inr (Or.inr (Or.inr ⟨by omega, by omega⟩))))) (fun h => h.elim (fun h => (Or.inr (Or.inr (Or.inr (Or.inr ⟨by omega, by omega⟩))))) (fun h => (Or.inr (Or.inl ⟨h.1, Int.le_trans (by decide) h.2.1, Int.le_trans h.2.2 (by decide)⟩)))))
  obtain ⟨hp1, hp2, hp3⟩ := hq81
  have hps := PS_st (lo := lo) (M := M75) (by omega) (by omega) (by omega) (by omega) (by omega)
  refine j_iconst hX dX11_e_17 ?_
  refine j_istore_n (lv' := [(1, _), (0, _)]) hX dX11_e_18 rfl (by rw [hnL]; decide) rfl ?_
  refine j_sub [1, 0] rfl ?_
  have hjr := hI79.at 210 44 ro_210_44
  refine (cp (Int.toNat (960064 + 1))) _ _ _ _ (by omega) hI79 hF88 hp3 hV83 (by first | assumption | omega) (by first | assumption | exact fun _ => PT_1 hps) ?_ ?_
  · omega
  · omega
