def FC (M : MM) : Prop := (M.1 0 8 = 180 ∧ M.1 0 9 = 0 ∧ M.1 0 10 = 0 ∧ M.1 0 11 = 0) ∧ (M.1 180 0 = 0 ∧ M.1 180 4 = 0 ∧ M.1 180 11 = 0 ∧ M.1 180 14 = -1 ∧ M.1 195 4 = 0) ∧ (M.1 1 1 = 5 ∧ M.1 1 2 = 0 ∧ M.1 1 3 = -1 ∧ M.1 2 2 = 0) ∧ (M.1 26 1 = 0 ∧ M.1 26 2 = 0 ∧ M.1 27 0 = 28 ∧ M.1 164 8 = 0) ∧ (M.1 28 3 = 0 ∧ M.1 28 4 = 0 ∧ M.1 28 5 = 0) ∧ KA 0 30 M ∧ KA (-1) 160 M
def FM (M : MM) : Prop := (M.1 210 40 = 0 ∧ M.1 213 0 = 0 ∧ M.1 214 0 = 0 ∧ M.1 215 0 = 0 ∧ M.1 216 0 = 0 ∧ M.1 233 0 = 0) ∧ (M.1 210 2 = 0 ∧ M.1 210 4 = 0 ∧ M.1 210 5 = -1) ∧ (M.1 242 13 = 0 ∧ M.1 242 14 = 0 ∧ M.1 242 15 = 0) ∧ (M.1 210 50 = 0 ∧ M.1 210 51 = 0 ∧ M.1 210 63 = 0 ∧ M.1 210 54 = 0 ∧ M.1 210 64 = 0) ∧ (∀ k, 0 ≤ k → k < 3 → M.1 256 k = 0)
set_option maxHeartbeats 2000000 in
theorem cv_fill1 (l : Launch) (D : va_G) (cy : Nat → ClassId) (B N : Nat) (k : Int) (ln : Nat) (a : Int) (M : MM) (hpa : I32 a) (hkd : kd k = .inr (0, ln)) (hk0 : 0 ≤ k ∧ k < N) (hnn : (ln : Int) ≤ 10000) : CV l D cy B N 1 yJ7_fill_53178 cJ7_fill_53178 4 none [rv B k, iv a] M (fun M' => F2 k (k + 1) M M' ∧ (∀ b, M'.1 k b = a ∨ M'.1 k b = M.1 k b) ∧ (∀ b, 0 ≤ b → b < (ln : Int) → M'.1 k b = a)) := by
  refine mk_CV (by decide) (Nat.le_of_ble_eq_true rfl) ?_
  intro X exl exD excy hnL hX hret
  have cp : ∀ n : Nat, (∀ (x2 x3 : Int), ∀ (Mc : MM), I32 x2 → I32 x3 → F2 k (k + 1) M Mc → (∀ b, Mc.1 k b = a ∨ Mc.1 k b = M.1 k b) → (∀ b, 0 ≤ b → b < x2 → Mc.1 k b = a) → (0 ≤ x2 ∧ x2 ≤ ln ∧ x3 = ln) → 0 ≤ 32 * (ln - x2) + 1 → 32 * (ln - x2) + 1 < (n : Int) → J X B N 0 0 5 [(0, rv B k), (1, iv a), (2, iv x2), (3, iv x3)] [] Mc) := by
    intro n
    induction n with
    | zero => exact by intros; exfalso; omega
    | succ n ih =>
      · intro x2 x3 Mc hxx2 hxx3 hG hb hb3 h2 hm0 hm1
        refine j_iload_n hX dJ7_fill_53178_5 rfl 2 rfl ?_
        refine j_iload_n hX dJ7_fill_53178_6 rfl 3 rfl ?_
        refine j_icmp_ge (tgt := 20) hX dJ7_fill_53178_7 (by decide) (by omega) (by omega) (fun hc1 => ?_) (fun hc1 => ?_)
        · exact hret _ _ _ dJ7_fill_53178_20 ⟨hG, hb, fun b p q => hb3 b p (by omega)⟩
        · refine j_aload_n hX dJ7_fill_53178_10 rfl 0 rfl ?_
          refine j_iload_n hX dJ7_fill_53178_11 rfl 2 rfl ?_
          refine j_iload_n hX dJ7_fill_53178_12 rfl 1 rfl ?_
          refine j_iast hX (by omega) (by omega) hkd (by omega) (by omega) (by omega) (by omega) dJ7_fill_53178_13 ?_
          refine j_upN (fun M2 hM5 hf7 => ?_)
          have hG8 := F2.put hG hM5 ⟨by omega, by omega⟩
          have hb8 : ∀ b, M2.1 k b = a ∨ M2.1 k b = M.1 k b := fun b => by
            by_cases c : b = x2
            · rw [c]; exact Or.inl hf7
            · rw [hM5, up_ne (fun q => c q.2)]; exact hb b
          have hb9 : ∀ b, 0 ≤ b → b < x2 + 1 → M2.1 k b = a := fun b p q => (Decidable.em (b = x2)).elim (fun c => by rw [c]; exact hf7) (fun c => by rw [hM5, up_ne (fun z => c z.2)]; exact hb3 b p (by omega))
          refine j_iinc (lv' := [(2, _), (0, _), (1, _), (3, _)]) hX dJ7_fill_53178_14 2 rfl (by rw [hnL]; decide) rfl ?_
          refine j_goto (tgt := 5) hX dJ7_fill_53178_17 (by decide) ?_
          refine j_sub [1, 2, 0, 3] rfl ?_
          exact ih _ _ _ (by omega) (by omega) hG8 hb8 hb9 (by omega) (by omega) (by omega)
  show J X B N 0 0 0 [(0, rv B k), (1, iv a)] [] M
  refine j_iconst hX dJ7_fill_53178_0 ?_
  refine j_istore_n (lv' := [(2, _), (0, _), (1, _)]) hX dJ7_fill_53178_1 rfl (by rw [hnL]; decide) rfl ?_
  refine j_aload_n hX dJ7_fill_53178_2 rfl 1 rfl ?_
  refine j_alen hX (by decide) (by omega) (by omega) hkd dJ7_fill_53178_3 ?_
  refine j_istore_n (lv' := [(3, _), (2, _), (0, _), (1, _)]) hX dJ7_fill_53178_4 rfl (by rw [hnL]; decide) rfl ?_
  refine j_sub [2, 3, 1, 0] rfl ?_
  refine (cp (Int.toNat (320064 + 1))) _ _ _ (by omega) (by omega) F2.rf (fun b => Or.inr rfl) (fun b p q => absurd q (by omega)) (by omega) ?_ ?_
  · omega
  · omega
set_option maxHeartbeats 2000000 in
set_option maxRecDepth 20000 in
theorem cv_X2_init (l : Launch) (D : va_G) (cy : Nat → ClassId) (B N : Nat) (q : Int) (M : MM) (hq : q = 5 ∨ q = 180) (hN : (N : Int) = (q + 15) + 1) (hd : DF (q + 15) (q + 19) M) : CN l D cy B N (N + 3) 1 3 334 yX2_init cX2_init 1 [rv B (q + 15)] M (fun M' => RR (q + 15) (q + 19) M' ∧ F2 (q + 15) (q + 19) M M' ∧ (M'.1 (q + 15) 4 = 0)) := by
  refine mk_CN (by decide) rfl (Nat.le_of_ble_eq_true rfl) ?_
  intro X exl exD excy hnL hX hin hRc hRs hret
  have hpl : pl (q + 15) = ((6 : Nat) : Int) := pl_o (r := (RX2, TX2, 6)) (kz_q15 hq) rfl
  have hG : F2 (q + 15) (q + 19) M M := F2.rf
  have hD : DF (q + 16) (q + 19) M := hd.sub (by omega) (Int.le_refl _)
  have hU : UL (q + 15) [] M := UL_0 (hd.at _ (by omega) (by omega))
  have hR : RR (q + 16) (q + 16) M := RR_0
  show J X B N 0 0 0 [(0, rv B (q + 15))] [] M
  refine j_aload_n hX dX2_init_0 rfl 0 rfl ?_
  refine j_objInit hX (in_1 141 (by first | rfl | decide +kernel) rfl) (in_1 28 (by first | rfl | decide +kernel) rfl) (in_1 29 (by first | rfl | decide +kernel) rfl) (by omega) (Nat.le_of_ble_eq_true rfl) dX2_init_1 ?_
  refine j_aload_n hX dX2_init_4 rfl 0 rfl ?_
  refine j_sipush hX dX2_init_5 rfl ?_
  refine j_newa hX (k := (q + 16)) (by omega) (t := 0) (n := 280) rfl (by decide) (in_1 163 (by first | rfl | decide +kernel) rfl) (kz_q16 hq) rfl (by decide) (hD.at _ (by omega) (by omega)) ⟨by omega, by omega⟩ dX2_init_8 ?_
  have hR1 : RR (q + 16) (q + 17) M := RR_s hR (Rg_plain (by omega) (by omega) (kz_q16 hq) (by decide) (hD.at _ (by omega) (by omega))) (by omega)
  refine pfF_X2_9 hX hin (by omega) (by omega) (kz_q15 hq) (by omega) (by omega) dX2_init_10 ?_
  refine j_upN (fun M2 hM3 hf4 => ?_)
  have hG5 := F2.put hG hM3 ⟨by omega, by omega⟩
  have hD6 := DF_up hD hM3 (by omega)
  have hU7 := UL_up hU hM3
  have hR8 := RR_up hR1 hM3 (Or.inl (by omega))
  refine j_aload_n hX dX2_init_13 rfl 0 rfl ?_
  refine j_bipush hX dX2_init_14 rfl ?_
  refine j_newa hX (k := (q + 17)) (by omega) (t := 0) (n := 32) rfl (by decide) (in_1 163 (by first | rfl | decide +kernel) rfl) (kz_q17 hq) rfl (by decide) (hD6.at _ (by omega) (by omega)) ⟨by omega, by omega⟩ dX2_init_16 ?_
  have hR9 : RR (q + 16) (q + 18) M2 := RR_s hR8 (Rg_plain (by omega) (by omega) (kz_q17 hq) (by decide) (hD6.at _ (by omega) (by omega))) (by omega)
  refine pfF_X2_15 hX hin (by omega) (by omega) (kz_q15 hq) (by omega) (by omega) dX2_init_18 ?_
  refine j_upN (fun M10 hM11 hf12 => ?_)
  have hG13 := F2.put hG5 hM11 ⟨by omega, by omega⟩
  have hD14 := DF_up hD6 hM11 (by omega)
  have hU15 := UL_up hU7 hM11
  have hR16 := RR_up hR9 hM11 (Or.inl (by omega))
  have hk17 := kp_up hM11 (fun h => absurd h.2 (by decide)) hf4
  clear hf4
  refine j_aload_n hX dX2_init_21 rfl 0 rfl ?_
  refine j_bipush hX dX2_init_22 rfl ?_
  refine j_newa hX (k := (q + 18)) (by omega) (t := 0) (n := 22) rfl (by decide) (in_1 163 (by first | rfl | decide +kernel) rfl) (kz_q18 hq) rfl (by decide) (hD14.at _ (by omega) (by omega)) ⟨by omega, by omega⟩ dX2_init_24 ?_
  have hR18 : RR (q + 16) (q + 19) M10 := RR_s hR16 (Rg_plain (by omega) (by omega) (kz_q18 hq) (by decide) (hD14.at _ (by omega) (by omega))) (by omega)
  refine pfF_X2_18 hX hin (by omega) (by omega) (kz_q15 hq) (by omega) (by omega) dX2_init_26 ?_
  refine j_upN (fun M19 hM20 hf21 => ?_)
  have hG22 := F2.put hG13 hM20 ⟨by omega, by omega⟩
  have hD23 := DF_up hD14 hM20 (by omega)
  have hU24 := UL_up hU15 hM20
  have hR25 := RR_up hR18 hM20 (Or.inl (by omega))
  have hk26 := kp_up hM20 (fun h => absurd h.2 (by decide)) hk17
  have hk27 := kp_up hM20 (fun h => absurd h.2 (by decide)) hf12
  clear hk17 hf12
  refine j_aload_n hX dX2_init_29 rfl 0 rfl ?_
  refine j_iconst hX dX2_init_30 ?_
  refine pf_X2_21 hX (by omega) (by omega) (kz_q15 hq) (by omega) dX2_init_31 ?_
  refine j_upN (fun M28 hM29 hf30 => ?_)
  have hG31 := F2.put hG22 hM29 ⟨by omega, by omega⟩
  have hD32 := DF_up hD23 hM29 (by omega)
  have hU33 := UL_up hU24 hM29
  have hR34 := RR_up hR25 hM29 (Or.inl (by omega))
  have hk35 := kp_up hM29 (fun h => absurd h.2 (by decide)) hk26
  have hk36 := kp_up hM29 (fun h => absurd h.2 (by decide)) hk27
  have hk37 := kp_up hM29 (fun h => absurd h.2 (by decide)) hf21
  clear hk26 hk27 hf21
  refine j_aload_n hX dX2_init_34 rfl 0 rfl ?_
  refine j_iconst hX dX2_init_35 ?_
  refine pf_X2_25 hX (by omega) (by omega) (kz_q15 hq) (by omega) dX2_init_36 ?_
  refine j_upN (fun M38 hM39 hf40 => ?_)
  have hG41 := F2.put hG31 hM39 ⟨by omega, by omega⟩
  have hD42 := DF_up hD32 hM39 (by omega)
  have hU43 := UL_up hU33 hM39
  have hR44 := RR_up hR34 hM39 (Or.inl (by omega))
  have hk45 := kp_up hM39 (fun h => absurd h.2 (by decide)) hk35
  have hk46 := kp_up hM39 (fun h => absurd h.2 (by decide)) hk36
  have hk47 := kp_up hM39 (fun h => absurd h.2 (by decide)) hk37
  have hk48 := kp_up hM39 (fun h => absurd h.2 (by decide)) hf30
  clear hk35 hk36 hk37 hf30
  refine j_aload_n hX dX2_init_39 rfl 0 rfl ?_
  refine j_iconst hX dX2_init_40 ?_
  refine pf_X2_28 hX (by omega) (by omega) (kz_q15 hq) (by omega) dX2_init_41 ?_
  refine j_upN (fun M49 hM50 hf51 => ?_)
  have hG52 := F2.put hG41 hM50 ⟨by omega, by omega⟩
  have hD53 := DF_up hD42 hM50 (by omega)
  have hU54 := UL_up hU43 hM50
  have hR55 := RR_up hR44 hM50 (Or.inl (by omega))
  have hk56 := kp_up hM50 (fun h => absurd h.2 (by decide)) hk45
  have hk57 := kp_up hM50 (fun h => absurd h.2 (by decide)) hk46
  have hk58 := kp_up hM50 (fun h => absurd h.2 (by decide)) hk47
  have hk59 := kp_up hM50 (fun h => absurd h.2 (by decide)) hk48
  have hk60 := kp_up hM50 (fun h => absurd h.2 (by decide)) hf40
  clear hk45 hk46 hk47 hk48 hf40
  have hRo : Rg (q + 15) M49 := by
    refine Rg_obj (n := 6) hpl hU54 (by decide) (by omega) (fun j hj => ?_)
    rcases (by omega : j = 0 ∨ j = 1 ∨ j = 2 ∨ j = 3 ∨ j = 4 ∨ j = 5) with h | h | h | h | h | h
    · subst h
      show (rg (q + 15) 0).1 ≤ M49.1 (q + 15) 0 ∧ M49.1 (q + 15) 0 ≤ (rg (q + 15) 0).2
      rw [fz_0 hq, hk56]; exact ⟨by dsimp only; omega, by dsimp only; omega⟩
    · subst h
      show (rg (q + 15) 1).1 ≤ M49.1 (q + 15) 1 ∧ M49.1 (q + 15) 1 ≤ (rg (q + 15) 1).2
      rw [fz_1 hq, hk57]; exact ⟨by dsimp only; omega, by dsimp only; omega⟩
    · subst h
      show (rg (q + 15) 2).1 ≤ M49.1 (q + 15) 2 ∧ M49.1 (q + 15) 2 ≤ (rg (q + 15) 2).2
      rw [fz_2 hq, hk58]; exact ⟨by dsimp only; omega, by dsimp only; omega⟩
    · subst h
      show (rg (q + 15) 3).1 ≤ M49.1 (q + 15) 3 ∧ M49.1 (q + 15) 3 ≤ (rg (q + 15) 3).2
      rw [fz_3 hq, hk59]; exact ⟨by dsimp only; omega, by dsimp only; omega⟩
    · subst h
      show (rg (q + 15) 4).1 ≤ M49.1 (q + 15) 4 ∧ M49.1 (q + 15) 4 ≤ (rg (q + 15) 4).2
      rw [fz_4 hq, hk60]; exact ⟨by dsimp only; omega, by dsimp only; omega⟩
    · subst h
      show (rg (q + 15) 5).1 ≤ M49.1 (q + 15) 5 ∧ M49.1 (q + 15) 5 ≤ (rg (q + 15) 5).2
      rw [fz_5 hq, hf51]; exact ⟨by dsimp only; omega, by dsimp only; omega⟩
  have hRa : RR (q + 15) (q + 19) M49 := RR_j (RR_s RR_0 hRo (by omega)) hR55
  exact j_widen (by omega) (by omega) (hret _ _ _ dX2_init_44 ⟨hRa, hG52, hk60⟩)
set_option maxHeartbeats 2000000 in
set_option maxRecDepth 20000 in
theorem cv_X6_init (l : Launch) (D : va_G) (cy : Nat → ClassId) (B N : Nat) (q : Int) (M : MM) (hq : q = 5 ∨ q = 180) (hN : (N : Int) = q + 1) (hd : DF q (q + 21) M) : CN l D cy B N (N + 20) 2 20 466 yX6_init cX6_init 1 [rv B q] M (fun M' => RR q (q + 21) M' ∧ F2 q (q + 21) M M' ∧ (M'.1 q 0 = 0) ∧ (M'.1 q 4 = 0) ∧ (M'.1 q 11 = 0) ∧ (M'.1 q 14 = -1) ∧ (M'.1 q 16 = -1) ∧ (M'.1 (q + 15) 4 = 0)) := by
  refine mk_CN (by decide) rfl (Nat.le_of_ble_eq_true rfl) ?_
  intro X exl exD excy hnL hX hin hRc hRs hret
  have hpl : pl q = ((20 : Nat) : Int) := pl_o (r := (RX6, TX6, 20)) (kq hq) rfl
  have hG : F2 q (q + 21) M M := F2.rf
  have hD : DF (q + 1) (q + 21) M := hd.sub (by omega) (Int.le_refl _)
  have hU : UL q [] M := UL_0 (hd.at _ (by omega) (by omega))
  have hR : RR (q + 1) (q + 1) M := RR_0
  show J X B N 0 0 0 [(0, rv B q)] [] M
  refine j_aload_n hX dX6_init_0 rfl 0 rfl ?_
  refine j_objInit hX (in_1 133 (by first | rfl | decide +kernel) rfl) (in_1 28 (by first | rfl | decide +kernel) rfl) (in_1 29 (by first | rfl | decide +kernel) rfl) (by omega) (Nat.le_of_ble_eq_true rfl) dX6_init_1 ?_
  refine j_aload_n hX dX6_init_4 rfl 0 rfl ?_
  refine j_iconst hX dX6_init_5 ?_
  refine pf_X6_9 hX (by omega) (by omega) (kq hq) (by omega) dX6_init_6 ?_
  refine j_upN (fun M1 hM2 hf3 => ?_)
  have hG4 := F2.put hG hM2 ⟨by omega, by omega⟩
  have hD5 := DF_up hD hM2 (by omega)
  have hU6 := UL_up hU hM2
  have hR7 := RR_up hR hM2 (Or.inl (by omega))
  refine j_aload_n hX dX6_init_9 rfl 0 rfl ?_
  refine j_bipush hX dX6_init_10 rfl ?_
  refine j_newa hX (k := (q + 1)) (by omega) (t := 3) (n := 6) rfl (by decide) (in_1 127 (by first | rfl | decide +kernel) rfl) (kz_q1 hq) rfl (by decide) (hD5.at _ (by omega) (by omega)) ⟨by omega, by omega⟩ dX6_init_12 ?_
  have hR8 : RR (q + 1) (q + 2) M1 := RR_s hR7 (Rg_plain (by omega) (by omega) (kz_q1 hq) (by decide) (hD5.at _ (by omega) (by omega))) (by omega)
  refine pfF_X6_15 hX hin (by omega) (by omega) (kq hq) (by omega) (by omega) dX6_init_14 ?_
  refine j_upN (fun M9 hM10 hf11 => ?_)
  have hG12 := F2.put hG4 hM10 ⟨by omega, by omega⟩
  have hD13 := DF_up hD5 hM10 (by omega)
  have hU14 := UL_up hU6 hM10
  have hR15 := RR_up hR8 hM10 (Or.inl (by omega))
  have hk16 := kp_up hM10 (fun h => absurd h.2 (by decide)) hf3
  clear hf3
  refine j_aload_n hX dX6_init_17 rfl 0 rfl ?_
  refine j_bipush hX dX6_init_18 rfl ?_
  refine j_newa hX (k := (q + 2)) (by omega) (t := 0) (n := 6) rfl (by decide) (in_1 163 (by first | rfl | decide +kernel) rfl) (kz_q2 hq) rfl (by decide) (hD13.at _ (by omega) (by omega)) ⟨by omega, by omega⟩ dX6_init_20 ?_
  have hR17 : RR (q + 1) (q + 3) M9 := RR_s hR15 (Rg_plain (by omega) (by omega) (kz_q2 hq) (by decide) (hD13.at _ (by omega) (by omega))) (by omega)
  refine pfF_X6_19 hX hin (by omega) (by omega) (kq hq) (by omega) (by omega) dX6_init_22 ?_
  refine j_upN (fun M18 hM19 hf20 => ?_)
  have hG21 := F2.put hG12 hM19 ⟨by omega, by omega⟩
  have hD22 := DF_up hD13 hM19 (by omega)
  have hU23 := UL_up hU14 hM19
  have hR24 := RR_up hR17 hM19 (Or.inl (by omega))
  have hk25 := kp_up hM19 (fun h => absurd h.2 (by decide)) hk16
  have hk26 := kp_up hM19 (fun h => absurd h.2 (by decide)) hf11
  clear hk16 hf11
  refine j_aload_n hX dX6_init_25 rfl 0 rfl ?_
  refine j_iconst hX dX6_init_26 ?_
  refine pf_X6_23 hX (by omega) (by omega) (kq hq) (by omega) dX6_init_27 ?_
  refine j_upN (fun M27 hM28 hf29 => ?_)
  have hG30 := F2.put hG21 hM28 ⟨by omega, by omega⟩
  have hD31 := DF_up hD22 hM28 (by omega)
  have hU32 := UL_up hU23 hM28
  have hR33 := RR_up hR24 hM28 (Or.inl (by omega))
  have hk34 := kp_up hM28 (fun h => absurd h.2 (by decide)) hk25
  have hk35 := kp_up hM28 (fun h => absurd h.2 (by decide)) hk26
  have hk36 := kp_up hM28 (fun h => absurd h.2 (by decide)) hf20
  clear hk25 hk26 hf20
  refine j_aload_n hX dX6_init_30 rfl 0 rfl ?_
  refine j_iconst hX dX6_init_31 ?_
  refine pf_X6_26 hX (by omega) (by omega) (kq hq) (by omega) dX6_init_32 ?_
  refine j_upN (fun M37 hM38 hf39 => ?_)
  have hG40 := F2.put hG30 hM38 ⟨by omega, by omega⟩
  have hD41 := DF_up hD31 hM38 (by omega)
  have hU42 := UL_up hU32 hM38
  have hR43 := RR_up hR33 hM38 (Or.inl (by omega))
  have hk44 := kp_up hM38 (fun h => absurd h.2 (by decide)) hk34
  have hk45 := kp_up hM38 (fun h => absurd h.2 (by decide)) hk35
  have hk46 := kp_up hM38 (fun h => absurd h.2 (by decide)) hk36
  have hk47 := kp_up hM38 (fun h => absurd h.2 (by decide)) hf29
  clear hk34 hk35 hk36 hf29
  refine j_aload_n hX dX6_init_35 rfl 0 rfl ?_
  refine j_bipush hX dX6_init_36 rfl ?_
  refine j_newa hX (k := (q + 3)) (by omega) (t := 3) (n := 10) rfl (by decide) (in_1 127 (by first | rfl | decide +kernel) rfl) (kz_q3 hq) rfl (by decide) (hD41.at _ (by omega) (by omega)) ⟨by omega, by omega⟩ dX6_init_38 ?_
  have hR48 : RR (q + 1) (q + 4) M37 := RR_s hR43 (Rg_plain (by omega) (by omega) (kz_q3 hq) (by decide) (hD41.at _ (by omega) (by omega))) (by omega)
  refine pfF_X6_29 hX hin (by omega) (by omega) (kq hq) (by omega) (by omega) dX6_init_40 ?_
  refine j_upN (fun M49 hM50 hf51 => ?_)
  have hG52 := F2.put hG40 hM50 ⟨by omega, by omega⟩
  have hD53 := DF_up hD41 hM50 (by omega)
  have hU54 := UL_up hU42 hM50
  have hR55 := RR_up hR48 hM50 (Or.inl (by omega))
  have hk56 := kp_up hM50 (fun h => absurd h.2 (by decide)) hk44
  have hk57 := kp_up hM50 (fun h => absurd h.2 (by decide)) hk45
  have hk58 := kp_up hM50 (fun h => absurd h.2 (by decide)) hk46
  have hk59 := kp_up hM50 (fun h => absurd h.2 (by decide)) hk47
  have hk60 := kp_up hM50 (fun h => absurd h.2 (by decide)) hf39
  clear hk44 hk45 hk46 hk47 hf39
  refine j_aload_n hX dX6_init_43 rfl 0 rfl ?_
  refine j_bipush hX dX6_init_44 rfl ?_
  refine j_newa hX (k := (q + 4)) (by omega) (t := 0) (n := 10) rfl (by decide) (in_1 163 (by first | rfl | decide +kernel) rfl) (kz_q4 hq) rfl (by decide) (hD53.at _ (by omega) (by omega)) ⟨by omega, by omega⟩ dX6_init_46 ?_
  have hR61 : RR (q + 1) (q + 5) M49 := RR_s hR55 (Rg_plain (by omega) (by omega) (kz_q4 hq) (by decide) (hD53.at _ (by omega) (by omega))) (by omega)
  refine pfF_X6_32 hX hin (by omega) (by omega) (kq hq) (by omega) (by omega) dX6_init_48 ?_
  refine j_upN (fun M62 hM63 hf64 => ?_)
  have hG65 := F2.put hG52 hM63 ⟨by omega, by omega⟩
  have hD66 := DF_up hD53 hM63 (by omega)
  have hU67 := UL_up hU54 hM63
  have hR68 := RR_up hR61 hM63 (Or.inl (by omega))
  have hk69 := kp_up hM63 (fun h => absurd h.2 (by decide)) hk56
  have hk70 := kp_up hM63 (fun h => absurd h.2 (by decide)) hk57
  have hk71 := kp_up hM63 (fun h => absurd h.2 (by decide)) hk58
  have hk72 := kp_up hM63 (fun h => absurd h.2 (by decide)) hk59
  have hk73 := kp_up hM63 (fun h => absurd h.2 (by decide)) hk60
  have hk74 := kp_up hM63 (fun h => absurd h.2 (by decide)) hf51
  clear hk56 hk57 hk58 hk59 hk60 hf51
  refine j_aload_n hX dX6_init_51 rfl 0 rfl ?_
  refine j_bipush hX dX6_init_52 rfl ?_
  refine j_newa hX (k := (q + 5)) (by omega) (t := 0) (n := 10) rfl (by decide) (in_1 163 (by first | rfl | decide +kernel) rfl) (kz_q5 hq) rfl (by decide) (hD66.at _ (by omega) (by omega)) ⟨by omega, by omega⟩ dX6_init_54 ?_
  have hR75 : RR (q + 1) (q + 6) M62 := RR_s hR68 (Rg_plain (by omega) (by omega) (kz_q5 hq) (by decide) (hD66.at _ (by omega) (by omega))) (by omega)
  refine pfF_X6_35 hX hin (by omega) (by omega) (kq hq) (by omega) (by omega) dX6_init_56 ?_
  refine j_upN (fun M76 hM77 hf78 => ?_)
  have hG79 := F2.put hG65 hM77 ⟨by omega, by omega⟩
  have hD80 := DF_up hD66 hM77 (by omega)
  have hU81 := UL_up hU67 hM77
  have hR82 := RR_up hR75 hM77 (Or.inl (by omega))
  have hk83 := kp_up hM77 (fun h => absurd h.2 (by decide)) hk69
  have hk84 := kp_up hM77 (fun h => absurd h.2 (by decide)) hk70
  have hk85 := kp_up hM77 (fun h => absurd h.2 (by decide)) hk71
  have hk86 := kp_up hM77 (fun h => absurd h.2 (by decide)) hk72
  have hk87 := kp_up hM77 (fun h => absurd h.2 (by decide)) hk73
  have hk88 := kp_up hM77 (fun h => absurd h.2 (by decide)) hk74
  have hk89 := kp_up hM77 (fun h => absurd h.2 (by decide)) hf64
  clear hk69 hk70 hk71 hk72 hk73 hk74 hf64
  refine j_aload_n hX dX6_init_59 rfl 0 rfl ?_
  refine j_iconst hX dX6_init_60 ?_
  refine pf_X6_38 hX (by omega) (by omega) (kq hq) (by omega) dX6_init_61 ?_
  refine j_upN (fun M90 hM91 hf92 => ?_)
  have hG93 := F2.put hG79 hM91 ⟨by omega, by omega⟩
  have hD94 := DF_up hD80 hM91 (by omega)
  have hU95 := UL_up hU81 hM91
  have hR96 := RR_up hR82 hM91 (Or.inl (by omega))
  have hk97 := kp_up hM91 (fun h => absurd h.2 (by decide)) hk83
  have hk98 := kp_up hM91 (fun h => absurd h.2 (by decide)) hk84
  have hk99 := kp_up hM91 (fun h => absurd h.2 (by decide)) hk85
  have hk100 := kp_up hM91 (fun h => absurd h.2 (by decide)) hk86
  have hk101 := kp_up hM91 (fun h => absurd h.2 (by decide)) hk87
  have hk102 := kp_up hM91 (fun h => absurd h.2 (by decide)) hk88
  have hk103 := kp_up hM91 (fun h => absurd h.2 (by decide)) hk89
  have hk104 := kp_up hM91 (fun h => absurd h.2 (by decide)) hf78
  clear hk83 hk84 hk85 hk86 hk87 hk88 hk89 hf78
  refine j_aload_n hX dX6_init_64 rfl 0 rfl ?_
  refine j_iconst hX dX6_init_65 ?_
  refine pf_X6_41 hX (by omega) (by omega) (kq hq) (Or.inl rfl) dX6_init_66 ?_
  refine j_upN (fun M105 hM106 hf107 => ?_)
  have hG108 := F2.put hG93 hM106 ⟨by omega, by omega⟩
  have hD109 := DF_up hD94 hM106 (by omega)
  have hU110 := UL_up hU95 hM106
  have hR111 := RR_up hR96 hM106 (Or.inl (by omega))
  have hk112 := kp_up hM106 (fun h => absurd h.2 (by decide)) hk97
  have hk113 := kp_up hM106 (fun h => absurd h.2 (by decide)) hk98
  have hk114 := kp_up hM106 (fun h => absurd h.2 (by decide)) hk99
  have hk115 := kp_up hM106 (fun h => absurd h.2 (by decide)) hk100
  have hk116 := kp_up hM106 (fun h => absurd h.2 (by decide)) hk101
  have hk117 := kp_up hM106 (fun h => absurd h.2 (by decide)) hk102
  have hk118 := kp_up hM106 (fun h => absurd h.2 (by decide)) hk103
  have hk119 := kp_up hM106 (fun h => absurd h.2 (by decide)) hk104
  have hk120 := kp_up hM106 (fun h => absurd h.2 (by decide)) hf92
  clear hk97 hk98 hk99 hk100 hk101 hk102 hk103 hk104 hf92
  refine j_aload_n hX dX6_init_69 rfl 0 rfl ?_
  refine j_bipush hX dX6_init_70 rfl ?_
  refine j_newa hX (k := (q + 6)) (by omega) (t := 0) (n := 6) rfl (by decide) (in_1 163 (by first | rfl | decide +kernel) rfl) (kz_q6 hq) rfl (by decide) (hD109.at _ (by omega) (by omega)) ⟨by omega, by omega⟩ dX6_init_72 ?_
  have hR121 : RR (q + 1) (q + 7) M105 := RR_s hR111 (Rg_plain (by omega) (by omega) (kz_q6 hq) (by decide) (hD109.at _ (by omega) (by omega))) (by omega)
  refine pfF_X6_45 hX hin (by omega) (by omega) (kq hq) (by omega) (by omega) dX6_init_74 ?_
  refine j_upN (fun M122 hM123 hf124 => ?_)
  have hG125 := F2.put hG108 hM123 ⟨by omega, by omega⟩
  have hD126 := DF_up hD109 hM123 (by omega)
  have hU127 := UL_up hU110 hM123
  have hR128 := RR_up hR121 hM123 (Or.inl (by omega))
  have hk129 := kp_up hM123 (fun h => absurd h.2 (by decide)) hk112
  have hk130 := kp_up hM123 (fun h => absurd h.2 (by decide)) hk113
  have hk131 := kp_up hM123 (fun h => absurd h.2 (by decide)) hk114
  have hk132 := kp_up hM123 (fun h => absurd h.2 (by decide)) hk115
  have hk133 := kp_up hM123 (fun h => absurd h.2 (by decide)) hk116
  have hk134 := kp_up hM123 (fun h => absurd h.2 (by decide)) hk117
  have hk135 := kp_up hM123 (fun h => absurd h.2 (by decide)) hk118
  have hk136 := kp_up hM123 (fun h => absurd h.2 (by decide)) hk119
  have hk137 := kp_up hM123 (fun h => absurd h.2 (by decide)) hk120
  have hk138 := kp_up hM123 (fun h => absurd h.2 (by decide)) hf107
  clear hk112 hk113 hk114 hk115 hk116 hk117 hk118 hk119 hk120 hf107
  refine j_aload_n hX dX6_init_77 rfl 0 rfl ?_
  refine j_iconst hX dX6_init_78 ?_
  refine pf_X6_48 hX (by omega) (by omega) (kq hq) (by omega) dX6_init_79 ?_
  refine j_upN (fun M139 hM140 hf141 => ?_)
  have hG142 := F2.put hG125 hM140 ⟨by omega, by omega⟩
  have hD143 := DF_up hD126 hM140 (by omega)
  have hU144 := UL_up hU127 hM140
  have hR145 := RR_up hR128 hM140 (Or.inl (by omega))
  have hk146 := kp_up hM140 (fun h => absurd h.2 (by decide)) hk129
  have hk147 := kp_up hM140 (fun h => absurd h.2 (by decide)) hk130
  have hk148 := kp_up hM140 (fun h => absurd h.2 (by decide)) hk131
  have hk149 := kp_up hM140 (fun h => absurd h.2 (by decide)) hk132
  have hk150 := kp_up hM140 (fun h => absurd h.2 (by decide)) hk133
  have hk151 := kp_up hM140 (fun h => absurd h.2 (by decide)) hk134
  have hk152 := kp_up hM140 (fun h => absurd h.2 (by decide)) hk135
  have hk153 := kp_up hM140 (fun h => absurd h.2 (by decide)) hk136
  have hk154 := kp_up hM140 (fun h => absurd h.2 (by decide)) hk137
  have hk155 := kp_up hM140 (fun h => absurd h.2 (by decide)) hk138
  have hk156 := kp_up hM140 (fun h => absurd h.2 (by decide)) hf124
  clear hk129 hk130 hk131 hk132 hk133 hk134 hk135 hk136 hk137 hk138 hf124
  refine j_aload_n hX dX6_init_82 rfl 0 rfl ?_
  refine j_bipush hX dX6_init_83 rfl ?_
  refine j_newa hX (k := (q + 7)) (by omega) (t := 0) (n := 6) rfl (by decide) (in_1 163 (by first | rfl | decide +kernel) rfl) (kz_q7 hq) rfl (by decide) (hD143.at _ (by omega) (by omega)) ⟨by omega, by omega⟩ dX6_init_85 ?_
  have hR157 : RR (q + 1) (q + 8) M139 := RR_s hR145 (Rg_plain (by omega) (by omega) (kz_q7 hq) (by decide) (hD143.at _ (by omega) (by omega))) (by omega)
  refine pfF_X6_51 hX hin (by omega) (by omega) (kq hq) (by omega) (by omega) dX6_init_87 ?_
  refine j_upN (fun M158 hM159 hf160 => ?_)
  have hG161 := F2.put hG142 hM159 ⟨by omega, by omega⟩
  have hD162 := DF_up hD143 hM159 (by omega)
  have hU163 := UL_up hU144 hM159
  have hR164 := RR_up hR157 hM159 (Or.inl (by omega))
  have hk165 := kp_up hM159 (fun h => absurd h.2 (by decide)) hk146
  have hk166 := kp_up hM159 (fun h => absurd h.2 (by decide)) hk147
  have hk167 := kp_up hM159 (fun h => absurd h.2 (by decide)) hk148
  have hk168 := kp_up hM159 (fun h => absurd h.2 (by decide)) hk149
  have hk169 := kp_up hM159 (fun h => absurd h.2 (by decide)) hk150
  have hk170 := kp_up hM159 (fun h => absurd h.2 (by decide)) hk151
  have hk171 := kp_up hM159 (fun h => absurd h.2 (by decide)) hk152
  have hk172 := kp_up hM159 (fun h => absurd h.2 (by decide)) hk153
  have hk173 := kp_up hM159 (fun h => absurd h.2 (by decide)) hk154
  have hk174 := kp_up hM159 (fun h => absurd h.2 (by decide)) hk155
  have hk175 := kp_up hM159 (fun h => absurd h.2 (by decide)) hk156
  have hk176 := kp_up hM159 (fun h => absurd h.2 (by decide)) hf141
  clear hk146 hk147 hk148 hk149 hk150 hk151 hk152 hk153 hk154 hk155 hk156 hf141
  refine j_aload_n hX dX6_init_90 rfl 0 rfl ?_
  refine j_bipush hX dX6_init_91 rfl ?_
  refine j_bipush hX dX6_init_93 rfl ?_
  refine j_mna hX (k := (q + 8)) (by omega) (in_1 134 (by first | rfl | decide +kernel) rfl) (in_1 163 (by first | rfl | decide +kernel) rfl) (kz_q8 hq) (fun i h0 h1 => kwq hq h0 h1) (hD162.sub (lo' := (q + 8)) (hi' := (q + 8) + 7) (by omega) (by omega)) (M' := rw6 (q + 8) M158) (rw6_1 rfl) (rw6_2 rfl) (rw6_3 rfl) (by omega) ⟨by omega, by omega⟩ dX6_init_95 ?_
  refine j_rw6 (fun M177 hM178 => ?_)
  have hM178f := rw6_f hM178
  have hG179 := F2.trans hG161 hM178f (by omega) (by omega)
  have hD180 := DF_f2 (hD162.sub (lo' := (q + 9)) (by omega) (Int.le_refl _)) hM178f (by omega)
  have hU181 := UL_f2 hU163 hM178f (by omega)
  have hR182 := RR_f2 hR164 hM178f (Or.inl (by omega))
  have hk183 := kp_f2 hM178f (by omega) hk165
  have hk184 := kp_f2 hM178f (by omega) hk166
  have hk185 := kp_f2 hM178f (by omega) hk167
  have hk186 := kp_f2 hM178f (by omega) hk168
  have hk187 := kp_f2 hM178f (by omega) hk169
  have hk188 := kp_f2 hM178f (by omega) hk170
  have hk189 := kp_f2 hM178f (by omega) hk171
  have hk190 := kp_f2 hM178f (by omega) hk172
  have hk191 := kp_f2 hM178f (by omega) hk173
  have hk192 := kp_f2 hM178f (by omega) hk174
  have hk193 := kp_f2 hM178f (by omega) hk175
  have hk194 := kp_f2 hM178f (by omega) hk176
  have hk195 := kp_f2 hM178f (by omega) hf160
  clear hk165 hk166 hk167 hk168 hk169 hk170 hk171 hk172 hk173 hk174 hk175 hk176 hf160
  have hR196 : RR (q + 1) (q + 9) M177 := RR_s hR182 (Rg_rows (hD162.at _ (by omega) (by omega)) (kz_q8 hq) (rw6_1 hM178) (fun b h => rw6_2 hM178 _ b (fun q => h q.2)) (fun i h0 h1 => rwq hq h0 h1) (by omega)) (by omega)
  have hR197 : RR (q + 1) (q + 10) M177 := RR_s hR196 (Rg_plain (by omega) (by omega) (kz_q9 hq) (by decide) (hD180.at _ (by omega) (by omega))) (by omega)
  have hR198 : RR (q + 1) (q + 11) M177 := RR_s hR197 (Rg_plain (by omega) (by omega) (kz_q10 hq) (by decide) (hD180.at _ (by omega) (by omega))) (by omega)
  have hR199 : RR (q + 1) (q + 12) M177 := RR_s hR198 (Rg_plain (by omega) (by omega) (kz_q11 hq) (by decide) (hD180.at _ (by omega) (by omega))) (by omega)
  have hR200 : RR (q + 1) (q + 13) M177 := RR_s hR199 (Rg_plain (by omega) (by omega) (kz_q12 hq) (by decide) (hD180.at _ (by omega) (by omega))) (by omega)
  have hR201 : RR (q + 1) (q + 14) M177 := RR_s hR200 (Rg_plain (by omega) (by omega) (kz_q13 hq) (by decide) (hD180.at _ (by omega) (by omega))) (by omega)
  have hR202 : RR (q + 1) (q + 15) M177 := RR_s hR201 (Rg_plain (by omega) (by omega) (kz_q14 hq) (by decide) (hD180.at _ (by omega) (by omega))) (by omega)
  refine pfF_X6_56 hX hin (by omega) (by omega) (kq hq) (by omega) (by omega) dX6_init_99 ?_
  refine j_upN (fun M203 hM204 hf205 => ?_)
  have hG206 := F2.put hG179 hM204 ⟨by omega, by omega⟩
  have hD207 := DF_up hD180 hM204 (by omega)
  have hU208 := UL_up hU181 hM204
  have hR209 := RR_up hR202 hM204 (Or.inl (by omega))
  have hk210 := kp_up hM204 (fun h => absurd h.2 (by decide)) hk183
  have hk211 := kp_up hM204 (fun h => absurd h.2 (by decide)) hk184
  have hk212 := kp_up hM204 (fun h => absurd h.2 (by decide)) hk185
  have hk213 := kp_up hM204 (fun h => absurd h.2 (by decide)) hk186
  have hk214 := kp_up hM204 (fun h => absurd h.2 (by decide)) hk187
  have hk215 := kp_up hM204 (fun h => absurd h.2 (by decide)) hk188
  have hk216 := kp_up hM204 (fun h => absurd h.2 (by decide)) hk189
  have hk217 := kp_up hM204 (fun h => absurd h.2 (by decide)) hk190
  have hk218 := kp_up hM204 (fun h => absurd h.2 (by decide)) hk191
  have hk219 := kp_up hM204 (fun h => absurd h.2 (by decide)) hk192
  have hk220 := kp_up hM204 (fun h => absurd h.2 (by decide)) hk193
  have hk221 := kp_up hM204 (fun h => absurd h.2 (by decide)) hk194
  have hk222 := kp_up hM204 (fun h => absurd h.2 (by decide)) hk195
  clear hk183 hk184 hk185 hk186 hk187 hk188 hk189 hk190 hk191 hk192 hk193 hk194 hk195
  refine j_aload_n hX dX6_init_102 rfl 0 rfl ?_
  refine j_iconst hX dX6_init_103 ?_
  refine pf_X6_59 hX (by omega) (by omega) (kq hq) (by omega) dX6_init_104 ?_
  refine j_upN (fun M223 hM224 hf225 => ?_)
  have hG226 := F2.put hG206 hM224 ⟨by omega, by omega⟩
  have hD227 := DF_up hD207 hM224 (by omega)
  have hU228 := UL_up hU208 hM224
  have hR229 := RR_up hR209 hM224 (Or.inl (by omega))
  have hk230 := kp_up hM224 (fun h => absurd h.2 (by decide)) hk210
  have hk231 := kp_up hM224 (fun h => absurd h.2 (by decide)) hk211
  have hk232 := kp_up hM224 (fun h => absurd h.2 (by decide)) hk212
  have hk233 := kp_up hM224 (fun h => absurd h.2 (by decide)) hk213
  have hk234 := kp_up hM224 (fun h => absurd h.2 (by decide)) hk214
  have hk235 := kp_up hM224 (fun h => absurd h.2 (by decide)) hk215
  have hk236 := kp_up hM224 (fun h => absurd h.2 (by decide)) hk216
  have hk237 := kp_up hM224 (fun h => absurd h.2 (by decide)) hk217
  have hk238 := kp_up hM224 (fun h => absurd h.2 (by decide)) hk218
  have hk239 := kp_up hM224 (fun h => absurd h.2 (by decide)) hk219
  have hk240 := kp_up hM224 (fun h => absurd h.2 (by decide)) hk220
  have hk241 := kp_up hM224 (fun h => absurd h.2 (by decide)) hk221
  have hk242 := kp_up hM224 (fun h => absurd h.2 (by decide)) hk222
  have hk243 := kp_up hM224 (fun h => absurd h.2 (by decide)) hf205
  clear hk210 hk211 hk212 hk213 hk214 hk215 hk216 hk217 hk218 hk219 hk220 hk221 hk222 hf205
  refine j_aload_n hX dX6_init_107 rfl 0 rfl ?_
  refine j_iconst hX dX6_init_108 ?_
  refine pf_X6_62 hX (by omega) (by omega) (kq hq) (by omega) dX6_init_109 ?_
  refine j_upN (fun M244 hM245 hf246 => ?_)
  have hG247 := F2.put hG226 hM245 ⟨by omega, by omega⟩
  have hD248 := DF_up hD227 hM245 (by omega)
  have hU249 := UL_up hU228 hM245
  have hR250 := RR_up hR229 hM245 (Or.inl (by omega))
  have hk251 := kp_up hM245 (fun h => absurd h.2 (by decide)) hk230
  have hk252 := kp_up hM245 (fun h => absurd h.2 (by decide)) hk231
  have hk253 := kp_up hM245 (fun h => absurd h.2 (by decide)) hk232
  have hk254 := kp_up hM245 (fun h => absurd h.2 (by decide)) hk233
  have hk255 := kp_up hM245 (fun h => absurd h.2 (by decide)) hk234
  have hk256 := kp_up hM245 (fun h => absurd h.2 (by decide)) hk235
  have hk257 := kp_up hM245 (fun h => absurd h.2 (by decide)) hk236
  have hk258 := kp_up hM245 (fun h => absurd h.2 (by decide)) hk237
  have hk259 := kp_up hM245 (fun h => absurd h.2 (by decide)) hk238
  have hk260 := kp_up hM245 (fun h => absurd h.2 (by decide)) hk239
  have hk261 := kp_up hM245 (fun h => absurd h.2 (by decide)) hk240
  have hk262 := kp_up hM245 (fun h => absurd h.2 (by decide)) hk241
  have hk263 := kp_up hM245 (fun h => absurd h.2 (by decide)) hk242
  have hk264 := kp_up hM245 (fun h => absurd h.2 (by decide)) hk243
  have hk265 := kp_up hM245 (fun h => absurd h.2 (by decide)) hf225
  clear hk230 hk231 hk232 hk233 hk234 hk235 hk236 hk237 hk238 hk239 hk240 hk241 hk242 hk243 hf225
  refine j_aload_n hX dX6_init_112 rfl 0 rfl ?_
  refine j_iconst hX dX6_init_113 ?_
  refine pf_X6_65 hX (by omega) (by omega) (kq hq) (by omega) dX6_init_114 ?_
  refine j_upN (fun M266 hM267 hf268 => ?_)
  have hG269 := F2.put hG247 hM267 ⟨by omega, by omega⟩
  have hD270 := DF_up hD248 hM267 (by omega)
  have hU271 := UL_up hU249 hM267
  have hR272 := RR_up hR250 hM267 (Or.inl (by omega))
  have hk273 := kp_up hM267 (fun h => absurd h.2 (by decide)) hk251
  have hk274 := kp_up hM267 (fun h => absurd h.2 (by decide)) hk252
  have hk275 := kp_up hM267 (fun h => absurd h.2 (by decide)) hk253
  have hk276 := kp_up hM267 (fun h => absurd h.2 (by decide)) hk254
  have hk277 := kp_up hM267 (fun h => absurd h.2 (by decide)) hk255
  have hk278 := kp_up hM267 (fun h => absurd h.2 (by decide)) hk256
  have hk279 := kp_up hM267 (fun h => absurd h.2 (by decide)) hk257
  have hk280 := kp_up hM267 (fun h => absurd h.2 (by decide)) hk258
  have hk281 := kp_up hM267 (fun h => absurd h.2 (by decide)) hk259
  have hk282 := kp_up hM267 (fun h => absurd h.2 (by decide)) hk260
  have hk283 := kp_up hM267 (fun h => absurd h.2 (by decide)) hk261
  have hk284 := kp_up hM267 (fun h => absurd h.2 (by decide)) hk262
  have hk285 := kp_up hM267 (fun h => absurd h.2 (by decide)) hk263
  have hk286 := kp_up hM267 (fun h => absurd h.2 (by decide)) hk264
  have hk287 := kp_up hM267 (fun h => absurd h.2 (by decide)) hk265
  have hk288 := kp_up hM267 (fun h => absurd h.2 (by decide)) hf246
  clear hk251 hk252 hk253 hk254 hk255 hk256 hk257 hk258 hk259 hk260 hk261 hk262 hk263 hk264 hk265 hf246
  refine j_aload_n hX dX6_init_117 rfl 0 rfl ?_
  refine j_new hX (k := (q + 15)) (by omega) hin_2 tyX2_ok rfl (in_1 136 (by first | rfl | decide +kernel) rfl) (in_1 137 (by first | rfl | decide +kernel) rfl) (in_1 9 (by first | rfl | decide +kernel) rfl) (kz_q15 hq) (fun _ => rfl) okX2 (hD270.at _ (by omega) (by omega)) ⟨by omega, by omega⟩ dX6_init_118 ?_
  refine j_dup hX dX6_init_121 rfl ?_
  refine j_callN hX (List.mem_of_getElem? (i := 2) rfl) lkI_2 (cv_X2_init _ _ _ _ _ q _ (by omega) (by omega) (hD270.sub (by omega) (by omega))) (by omega) ⟨by omega, by omega⟩ (Nat.le_of_ble_eq_true rfl) dX6_init_122 (fun M289 hp290 => ?_)
  obtain ⟨hRn291, hGn292, hx293⟩ := hp290
  have hG294 := F2.trans hG269 hGn292 (by omega) (by omega)
  have hD295 := DF_f2 (hD270.sub (lo' := (q + 19)) (by omega) (Int.le_refl _)) hGn292 (by omega)
  have hU296 := UL_f2 hU271 hGn292 (by omega)
  have hR297 := RR_f2 hR272 hGn292 (Or.inl (by omega))
  have hk298 := kp_f2 hGn292 (by omega) hk273
  have hk299 := kp_f2 hGn292 (by omega) hk274
  have hk300 := kp_f2 hGn292 (by omega) hk275
  have hk301 := kp_f2 hGn292 (by omega) hk276
  have hk302 := kp_f2 hGn292 (by omega) hk277
  have hk303 := kp_f2 hGn292 (by omega) hk278
  have hk304 := kp_f2 hGn292 (by omega) hk279
  have hk305 := kp_f2 hGn292 (by omega) hk280
  have hk306 := kp_f2 hGn292 (by omega) hk281
  have hk307 := kp_f2 hGn292 (by omega) hk282
  have hk308 := kp_f2 hGn292 (by omega) hk283
  have hk309 := kp_f2 hGn292 (by omega) hk284
  have hk310 := kp_f2 hGn292 (by omega) hk285
  have hk311 := kp_f2 hGn292 (by omega) hk286
  have hk312 := kp_f2 hGn292 (by omega) hk287
  have hk313 := kp_f2 hGn292 (by omega) hk288
  have hk314 := kp_f2 hGn292 (by omega) hf268
  clear hk273 hk274 hk275 hk276 hk277 hk278 hk279 hk280 hk281 hk282 hk283 hk284 hk285 hk286 hk287 hk288 hf268
  have hR315 : RR (q + 1) (q + 19) M289 := RR_j hR297 hRn291
  refine pfF_X6_71 hX hin (by omega) (by omega) (kq hq) (by omega) (by omega) dX6_init_125 ?_
  refine j_upN (fun M316 hM317 hf318 => ?_)
  have hG319 := F2.put hG294 hM317 ⟨by omega, by omega⟩
  have hD320 := DF_up hD295 hM317 (by omega)
  have hU321 := UL_up hU296 hM317
  have hR322 := RR_up hR315 hM317 (Or.inl (by omega))
  have hk323 := kp_up hM317 (fun h => absurd h.2 (by decide)) hk298
  have hk324 := kp_up hM317 (fun h => absurd h.2 (by decide)) hk299
  have hk325 := kp_up hM317 (fun h => absurd h.2 (by decide)) hk300
  have hk326 := kp_up hM317 (fun h => absurd h.2 (by decide)) hk301
  have hk327 := kp_up hM317 (fun h => absurd h.2 (by decide)) hk302
  have hk328 := kp_up hM317 (fun h => absurd h.2 (by decide)) hk303
  have hk329 := kp_up hM317 (fun h => absurd h.2 (by decide)) hk304
  have hk330 := kp_up hM317 (fun h => absurd h.2 (by decide)) hk305
  have hk331 := kp_up hM317 (fun h => absurd h.2 (by decide)) hk306
  have hk332 := kp_up hM317 (fun h => absurd h.2 (by decide)) hk307
  have hk333 := kp_up hM317 (fun h => absurd h.2 (by decide)) hk308
  have hk334 := kp_up hM317 (fun h => absurd h.2 (by decide)) hk309
  have hk335 := kp_up hM317 (fun h => absurd h.2 (by decide)) hk310
  have hk336 := kp_up hM317 (fun h => absurd h.2 (by decide)) hk311
  have hk337 := kp_up hM317 (fun h => absurd h.2 (by decide)) hk312
  have hk338 := kp_up hM317 (fun h => absurd h.2 (by decide)) hk313
  have hk339 := kp_up hM317 (fun h => absurd h.2 (by decide)) hk314
  clear hk298 hk299 hk300 hk301 hk302 hk303 hk304 hk305 hk306 hk307 hk308 hk309 hk310 hk311 hk312 hk313 hk314
  have hx340 := kp_up hM317 (fun h => absurd h.1 (by omega)) hx293
  refine j_aload_n hX dX6_init_128 rfl 0 rfl ?_
  refine j_bipush hX dX6_init_129 rfl ?_
  refine j_newa hX (k := (q + 19)) (by omega) (t := 0) (n := 6) rfl (by decide) (in_1 163 (by first | rfl | decide +kernel) rfl) (kz_q19 hq) rfl (by decide) (hD320.at _ (by omega) (by omega)) ⟨by omega, by omega⟩ dX6_init_131 ?_
  have hR341 : RR (q + 1) (q + 20) M316 := RR_s hR322 (Rg_plain (by omega) (by omega) (kz_q19 hq) (by decide) (hD320.at _ (by omega) (by omega))) (by omega)
  refine pfF_X6_75 hX hin (by omega) (by omega) (kq hq) (by omega) (by omega) dX6_init_133 ?_
  refine j_upN (fun M342 hM343 hf344 => ?_)
  have hG345 := F2.put hG319 hM343 ⟨by omega, by omega⟩
  have hD346 := DF_up hD320 hM343 (by omega)
  have hU347 := UL_up hU321 hM343
  have hR348 := RR_up hR341 hM343 (Or.inl (by omega))
  have hk349 := kp_up hM343 (fun h => absurd h.2 (by decide)) hk323
  have hk350 := kp_up hM343 (fun h => absurd h.2 (by decide)) hk324
  have hk351 := kp_up hM343 (fun h => absurd h.2 (by decide)) hk325
  have hk352 := kp_up hM343 (fun h => absurd h.2 (by decide)) hk326
  have hk353 := kp_up hM343 (fun h => absurd h.2 (by decide)) hk327
  have hk354 := kp_up hM343 (fun h => absurd h.2 (by decide)) hk328
  have hk355 := kp_up hM343 (fun h => absurd h.2 (by decide)) hk329
  have hk356 := kp_up hM343 (fun h => absurd h.2 (by decide)) hk330
  have hk357 := kp_up hM343 (fun h => absurd h.2 (by decide)) hk331
  have hk358 := kp_up hM343 (fun h => absurd h.2 (by decide)) hk332
  have hk359 := kp_up hM343 (fun h => absurd h.2 (by decide)) hk333
  have hk360 := kp_up hM343 (fun h => absurd h.2 (by decide)) hk334
  have hk361 := kp_up hM343 (fun h => absurd h.2 (by decide)) hk335
  have hk362 := kp_up hM343 (fun h => absurd h.2 (by decide)) hk336
  have hk363 := kp_up hM343 (fun h => absurd h.2 (by decide)) hk337
  have hk364 := kp_up hM343 (fun h => absurd h.2 (by decide)) hk338
  have hk365 := kp_up hM343 (fun h => absurd h.2 (by decide)) hk339
  have hk366 := kp_up hM343 (fun h => absurd h.2 (by decide)) hf318
  clear hk323 hk324 hk325 hk326 hk327 hk328 hk329 hk330 hk331 hk332 hk333 hk334 hk335 hk336 hk337 hk338 hk339 hf318
  have hx367 := kp_up hM343 (fun h => absurd h.1 (by omega)) hx340
  refine j_aload_n hX dX6_init_136 rfl 0 rfl ?_
  refine j_bipush hX dX6_init_137 rfl ?_
  refine j_newa hX (k := (q + 20)) (by omega) (t := 0) (n := 24) rfl (by decide) (in_1 163 (by first | rfl | decide +kernel) rfl) (kz_q20 hq) rfl (by decide) (hD346.at _ (by omega) (by omega)) ⟨by omega, by omega⟩ dX6_init_139 ?_
  have hR368 : RR (q + 1) (q + 21) M342 := RR_s hR348 (Rg_plain (by omega) (by omega) (kz_q20 hq) (by decide) (hD346.at _ (by omega) (by omega))) (by omega)
  refine pfF_X6_78 hX hin (by omega) (by omega) (kq hq) (by omega) (by omega) dX6_init_141 ?_
  refine j_upN (fun M369 hM370 hf371 => ?_)
  have hG372 := F2.put hG345 hM370 ⟨by omega, by omega⟩
  have hD373 := DF_up hD346 hM370 (by omega)
  have hU374 := UL_up hU347 hM370
  have hR375 := RR_up hR368 hM370 (Or.inl (by omega))
  have hk376 := kp_up hM370 (fun h => absurd h.2 (by decide)) hk349
  have hk377 := kp_up hM370 (fun h => absurd h.2 (by decide)) hk350
  have hk378 := kp_up hM370 (fun h => absurd h.2 (by decide)) hk351
  have hk379 := kp_up hM370 (fun h => absurd h.2 (by decide)) hk352
  have hk380 := kp_up hM370 (fun h => absurd h.2 (by decide)) hk353
  have hk381 := kp_up hM370 (fun h => absurd h.2 (by decide)) hk354
  have hk382 := kp_up hM370 (fun h => absurd h.2 (by decide)) hk355
  have hk383 := kp_up hM370 (fun h => absurd h.2 (by decide)) hk356
  have hk384 := kp_up hM370 (fun h => absurd h.2 (by decide)) hk357
  have hk385 := kp_up hM370 (fun h => absurd h.2 (by decide)) hk358
  have hk386 := kp_up hM370 (fun h => absurd h.2 (by decide)) hk359
  have hk387 := kp_up hM370 (fun h => absurd h.2 (by decide)) hk360
  have hk388 := kp_up hM370 (fun h => absurd h.2 (by decide)) hk361
  have hk389 := kp_up hM370 (fun h => absurd h.2 (by decide)) hk362
  have hk390 := kp_up hM370 (fun h => absurd h.2 (by decide)) hk363
  have hk391 := kp_up hM370 (fun h => absurd h.2 (by decide)) hk364
  have hk392 := kp_up hM370 (fun h => absurd h.2 (by decide)) hk365
  have hk393 := kp_up hM370 (fun h => absurd h.2 (by decide)) hk366
  have hk394 := kp_up hM370 (fun h => absurd h.2 (by decide)) hf344
  clear hk349 hk350 hk351 hk352 hk353 hk354 hk355 hk356 hk357 hk358 hk359 hk360 hk361 hk362 hk363 hk364 hk365 hk366 hf344
  have hx395 := kp_up hM370 (fun h => absurd h.1 (by omega)) hx367
  have hRo : Rg q M369 := by
    refine Rg_obj (n := 20) hpl hU374 (by decide) (by omega) (fun j hj => ?_)
    rcases (by omega : j = 0 ∨ j = 1 ∨ j = 2 ∨ j = 3 ∨ j = 4 ∨ j = 5 ∨ j = 6 ∨ j = 7 ∨ j = 8 ∨ j = 9 ∨ j = 10 ∨ j = 11 ∨ j = 12 ∨ j = 13 ∨ j = 14 ∨ j = 15 ∨ j = 16 ∨ j = 17 ∨ j = 18 ∨ j = 19) with h | h | h | h | h | h | h | h | h | h | h | h | h | h | h | h | h | h | h | h
    · subst h
      show (rg q 0).1 ≤ M369.1 q 0 ∧ M369.1 q 0 ≤ (rg q 0).2
      rw [qz_0 hq, hk376]; exact ⟨by dsimp only; omega, by dsimp only; omega⟩
    · subst h
      show (rg q 1).1 ≤ M369.1 q 1 ∧ M369.1 q 1 ≤ (rg q 1).2
      rw [qz_1 hq, hk377]; exact ⟨by dsimp only; omega, by dsimp only; omega⟩
    · subst h
      show (rg q 2).1 ≤ M369.1 q 2 ∧ M369.1 q 2 ≤ (rg q 2).2
      rw [qz_2 hq, hk378]; exact ⟨by dsimp only; omega, by dsimp only; omega⟩
    · subst h
      show (rg q 3).1 ≤ M369.1 q 3 ∧ M369.1 q 3 ≤ (rg q 3).2
      rw [qz_3 hq, hk379]; exact ⟨by dsimp only; omega, by dsimp only; omega⟩
    · subst h
      show (rg q 4).1 ≤ M369.1 q 4 ∧ M369.1 q 4 ≤ (rg q 4).2
      rw [qz_4 hq, hk380]; exact ⟨by dsimp only; omega, by dsimp only; omega⟩
    · subst h
      show (rg q 5).1 ≤ M369.1 q 5 ∧ M369.1 q 5 ≤ (rg q 5).2
      rw [qz_5 hq, hk381]; exact ⟨by dsimp only; omega, by dsimp only; omega⟩
    · subst h
      show (rg q 6).1 ≤ M369.1 q 6 ∧ M369.1 q 6 ≤ (rg q 6).2
      rw [qz_6 hq, hk382]; exact ⟨by dsimp only; omega, by dsimp only; omega⟩
    · subst h
      show (rg q 7).1 ≤ M369.1 q 7 ∧ M369.1 q 7 ≤ (rg q 7).2
      rw [qz_7 hq, hk383]; exact ⟨by dsimp only; omega, by dsimp only; omega⟩
    · subst h
      show (rg q 8).1 ≤ M369.1 q 8 ∧ M369.1 q 8 ≤ (rg q 8).2
      rw [qz_8 hq, hk384]; exact ⟨by dsimp only; omega, by dsimp only; omega⟩
    · subst h
      show (rg q 9).1 ≤ M369.1 q 9 ∧ M369.1 q 9 ≤ (rg q 9).2
      rw [qz_9 hq, hk385]; exact ⟨by dsimp only; omega, by dsimp only; omega⟩
    · subst h
      show (rg q 10).1 ≤ M369.1 q 10 ∧ M369.1 q 10 ≤ (rg q 10).2
      rw [qz_10 hq, hk386]; exact ⟨by dsimp only; omega, by dsimp only; omega⟩
    · subst h
      show (rg q 11).1 ≤ M369.1 q 11 ∧ M369.1 q 11 ≤ (rg q 11).2
      rw [qz_11 hq, hk387]; exact ⟨by dsimp only; omega, by dsimp only; omega⟩
    · subst h
      show (rg q 12).1 ≤ M369.1 q 12 ∧ M369.1 q 12 ≤ (rg q 12).2
      rw [qz_12 hq, hk388]; exact ⟨by dsimp only; omega, by dsimp only; omega⟩
    · subst h
      show (rg q 13).1 ≤ M369.1 q 13 ∧ M369.1 q 13 ≤ (rg q 13).2
      rw [qz_13 hq, hk389]; exact ⟨by dsimp only; omega, by dsimp only; omega⟩
    · subst h
      show (rg q 14).1 ≤ M369.1 q 14 ∧ M369.1 q 14 ≤ (rg q 14).2
      rw [qz_14 hq, hk390]; exact ⟨by dsimp only; omega, by dsimp only; omega⟩
    · subst h
      show (rg q 15).1 ≤ M369.1 q 15 ∧ M369.1 q 15 ≤ (rg q 15).2
      rw [qz_15 hq, hk391]; exact ⟨by dsimp only; omega, by dsimp only; omega⟩
    · subst h
      show (rg q 16).1 ≤ M369.1 q 16 ∧ M369.1 q 16 ≤ (rg q 16).2
      rw [qz_16 hq, hk392]; exact ⟨by dsimp only; omega, by dsimp only; omega⟩
    · subst h
      show (rg q 17).1 ≤ M369.1 q 17 ∧ M369.1 q 17 ≤ (rg q 17).2
      rw [qz_17 hq, hk393]; exact ⟨by dsimp only; omega, by dsimp only; omega⟩
    · subst h
      show (rg q 18).1 ≤ M369.1 q 18 ∧ M369.1 q 18 ≤ (rg q 18).2
      rw [qz_18 hq, hk394]; exact ⟨by dsimp only; omega, by dsimp only; omega⟩
    · subst h
      show (rg q 19).1 ≤ M369.1 q 19 ∧ M369.1 q 19 ≤ (rg q 19).2
      rw [qz_19 hq, hf371]; exact ⟨by dsimp only; omega, by dsimp only; omega⟩
  have hRa : RR q (q + 21) M369 := RR_j (RR_s RR_0 hRo (by omega)) hR375
  exact j_widen (by omega) (by omega) (hret _ _ _ dX6_init_144 ⟨hRa, hG372, hk376, hk380, hk387, hk390, hk392, hx395⟩)
set_option maxHeartbeats 2000000 in
set_option maxRecDepth 20000 in
theorem cv_X3_init (l : Launch) (D : va_G) (cy : Nat → ClassId) (B N : Nat) (M : MM) (hN : (N : Int) = 164 + 1) (hd : DF 164 179 M) : CN l D cy B N (N + 14) 2 14 176 yX3_init cX3_init 1 [rv B 164] M (fun M' => RR 164 179 M' ∧ F2 164 179 M M' ∧ (M'.1 164 8 = 0)) := by
  refine mk_CN (by decide) rfl (Nat.le_of_ble_eq_true rfl) ?_
  intro X exl exD excy hnL hX hin hRc hRs hret
  have hpl : pl 164 = ((9 : Nat) : Int) := pl_o (r := (RX3, TX3, 9)) (by decide +kernel : kd 164 = .inl 3) rfl
  have hG : F2 164 179 M M := F2.rf
  have hD : DF 165 179 M := hd.sub (by omega) (Int.le_refl _)
  have hU : UL 164 [] M := UL_0 (hd.at _ (by omega) (by omega))
  have hR : RR 165 165 M := RR_0
  show J X B N 0 0 0 [(0, rv B 164)] [] M
  refine j_aload_n hX dX3_init_0 rfl 0 rfl ?_
  refine j_objInit hX (in_2 154 (by first | rfl | decide +kernel) rfl) (in_1 28 (by first | rfl | decide +kernel) rfl) (in_1 29 (by first | rfl | decide +kernel) rfl) (by omega) (Nat.le_of_ble_eq_true rfl) dX3_init_1 ?_
  refine j_aload_n hX dX3_init_4 rfl 0 rfl ?_
  refine j_new hX (k := 165) (by omega) hin_4 tyX4_ok rfl (in_2 155 (by first | rfl | decide +kernel) rfl) (in_2 115 (by first | rfl | decide +kernel) rfl) (in_1 14 (by first | rfl | decide +kernel) rfl) (by decide +kernel : kd 165 = .inl 4) (fun _ => rfl) okX4 (hD.at _ (by omega) (by omega)) ⟨by omega, by omega⟩ dX3_init_5 ?_
  refine j_dup hX dX3_init_8 rfl ?_
  refine j_callN hX (List.mem_of_getElem? (i := 8) rfl) lkI_4 (c_X4_init _ _ _ _ _ 165 _ (by omega) (by omega) (hD.sub (by omega) (by omega))) (by omega) ⟨by omega, by omega⟩ (Nat.le_of_ble_eq_true rfl) dX3_init_9 (fun M1 hp2 => ?_)
  obtain ⟨hRn3, hGn4⟩ := hp2
  have hG5 := F2.trans hG hGn4 (by omega) (by omega)
  have hD6 := DF_f2 (hD.sub (lo' := 167) (by omega) (Int.le_refl _)) hGn4 (by omega)
  have hU7 := UL_f2 hU hGn4 (by omega)
  have hR8 := RR_f2 hR hGn4 (Or.inl (by omega))
  have hR9 : RR 165 167 M1 := RR_j hR8 hRn3
  refine pfF_X3_12 hX hin (by omega) (by omega) (by decide +kernel : kd 164 = .inl 3) (by omega) (by omega) dX3_init_12 ?_
  refine j_upN (fun M10 hM11 hf12 => ?_)
  have hG13 := F2.put hG5 hM11 ⟨by omega, by omega⟩
  have hD14 := DF_up hD6 hM11 (by omega)
  have hU15 := UL_up hU7 hM11
  have hR16 := RR_up hR9 hM11 (Or.inl (by omega))
  refine j_aload_n hX dX3_init_15 rfl 0 rfl ?_
  refine j_bipush hX dX3_init_16 rfl ?_
  refine j_newa hX (k := 167) (by omega) (t := 0) (n := 30) rfl (by decide) (in_1 163 (by first | rfl | decide +kernel) rfl) (by decide +kernel : kd 167 = .inr (0, 30)) rfl (by decide) (hD14.at _ (by omega) (by omega)) ⟨by omega, by omega⟩ dX3_init_18 ?_
  have hR17 : RR 165 168 M10 := RR_s hR16 (Rg_plain (by omega) (by omega) (by decide +kernel : kd 167 = .inr (0, 30)) (by decide) (hD14.at _ (by omega) (by omega))) (by omega)
  refine pfF_X3_18 hX hin (by omega) (by omega) (by decide +kernel : kd 164 = .inl 3) (by omega) (by omega) dX3_init_20 ?_
  refine j_upN (fun M18 hM19 hf20 => ?_)
  have hG21 := F2.put hG13 hM19 ⟨by omega, by omega⟩
  have hD22 := DF_up hD14 hM19 (by omega)
  have hU23 := UL_up hU15 hM19
  have hR24 := RR_up hR17 hM19 (Or.inl (by omega))
  have hk25 := kp_up hM19 (fun h => absurd h.2 (by decide)) hf12
  clear hf12
  refine j_aload_n hX dX3_init_23 rfl 0 rfl ?_
  refine j_bipush hX dX3_init_24 rfl ?_
  refine j_newa hX (k := 168) (by omega) (t := 0) (n := 30) rfl (by decide) (in_1 163 (by first | rfl | decide +kernel) rfl) (by decide +kernel : kd 168 = .inr (0, 30)) rfl (by decide) (hD22.at _ (by omega) (by omega)) ⟨by omega, by omega⟩ dX3_init_26 ?_
  have hR26 : RR 165 169 M18 := RR_s hR24 (Rg_plain (by omega) (by omega) (by decide +kernel : kd 168 = .inr (0, 30)) (by decide) (hD22.at _ (by omega) (by omega))) (by omega)
  refine pfF_X3_22 hX hin (by omega) (by omega) (by decide +kernel : kd 164 = .inl 3) (by omega) (by omega) dX3_init_28 ?_
  refine j_upN (fun M27 hM28 hf29 => ?_)
  have hG30 := F2.put hG21 hM28 ⟨by omega, by omega⟩
  have hD31 := DF_up hD22 hM28 (by omega)
  have hU32 := UL_up hU23 hM28
  have hR33 := RR_up hR26 hM28 (Or.inl (by omega))
  have hk34 := kp_up hM28 (fun h => absurd h.2 (by decide)) hk25
  have hk35 := kp_up hM28 (fun h => absurd h.2 (by decide)) hf20
  clear hk25 hf20
  refine j_aload_n hX dX3_init_31 rfl 0 rfl ?_
  refine j_bipush hX dX3_init_32 rfl ?_
  refine j_newa hX (k := 169) (by omega) (t := 0) (n := 30) rfl (by decide) (in_1 163 (by first | rfl | decide +kernel) rfl) (by decide +kernel : kd 169 = .inr (0, 30)) rfl (by decide) (hD31.at _ (by omega) (by omega)) ⟨by omega, by omega⟩ dX3_init_34 ?_
  have hR36 : RR 165 170 M27 := RR_s hR33 (Rg_plain (by omega) (by omega) (by decide +kernel : kd 169 = .inr (0, 30)) (by decide) (hD31.at _ (by omega) (by omega))) (by omega)
  refine pfF_X3_25 hX hin (by omega) (by omega) (by decide +kernel : kd 164 = .inl 3) (by omega) (by omega) dX3_init_36 ?_
  refine j_upN (fun M37 hM38 hf39 => ?_)
  have hG40 := F2.put hG30 hM38 ⟨by omega, by omega⟩
  have hD41 := DF_up hD31 hM38 (by omega)
  have hU42 := UL_up hU32 hM38
  have hR43 := RR_up hR36 hM38 (Or.inl (by omega))
  have hk44 := kp_up hM38 (fun h => absurd h.2 (by decide)) hk34
  have hk45 := kp_up hM38 (fun h => absurd h.2 (by decide)) hk35
  have hk46 := kp_up hM38 (fun h => absurd h.2 (by decide)) hf29
  clear hk34 hk35 hf29
  refine j_aload_n hX dX3_init_39 rfl 0 rfl ?_
  refine j_bipush hX dX3_init_40 rfl ?_
  refine j_newa hX (k := 170) (by omega) (t := 0) (n := 30) rfl (by decide) (in_1 163 (by first | rfl | decide +kernel) rfl) (by decide +kernel : kd 170 = .inr (0, 30)) rfl (by decide) (hD41.at _ (by omega) (by omega)) ⟨by omega, by omega⟩ dX3_init_42 ?_
  have hR47 : RR 165 171 M37 := RR_s hR43 (Rg_plain (by omega) (by omega) (by decide +kernel : kd 170 = .inr (0, 30)) (by decide) (hD41.at _ (by omega) (by omega))) (by omega)
  refine pfF_X3_28 hX hin (by omega) (by omega) (by decide +kernel : kd 164 = .inl 3) (by omega) (by omega) dX3_init_44 ?_
  refine j_upN (fun M48 hM49 hf50 => ?_)
  have hG51 := F2.put hG40 hM49 ⟨by omega, by omega⟩
  have hD52 := DF_up hD41 hM49 (by omega)
  have hU53 := UL_up hU42 hM49
  have hR54 := RR_up hR47 hM49 (Or.inl (by omega))
  have hk55 := kp_up hM49 (fun h => absurd h.2 (by decide)) hk44
  have hk56 := kp_up hM49 (fun h => absurd h.2 (by decide)) hk45
  have hk57 := kp_up hM49 (fun h => absurd h.2 (by decide)) hk46
  have hk58 := kp_up hM49 (fun h => absurd h.2 (by decide)) hf39
  clear hk44 hk45 hk46 hf39
  refine j_aload_n hX dX3_init_47 rfl 0 rfl ?_
  refine j_bipush hX dX3_init_48 rfl ?_
  refine j_newa hX (k := 171) (by omega) (t := 0) (n := 6) rfl (by decide) (in_1 163 (by first | rfl | decide +kernel) rfl) (by decide +kernel : kd 171 = .inr (0, 6)) rfl (by decide) (hD52.at _ (by omega) (by omega)) ⟨by omega, by omega⟩ dX3_init_50 ?_
  have hR59 : RR 165 172 M48 := RR_s hR54 (Rg_plain (by omega) (by omega) (by decide +kernel : kd 171 = .inr (0, 6)) (by decide) (hD52.at _ (by omega) (by omega))) (by omega)
  refine pfF_X3_31 hX hin (by omega) (by omega) (by decide +kernel : kd 164 = .inl 3) (by omega) (by omega) dX3_init_52 ?_
  refine j_upN (fun M60 hM61 hf62 => ?_)
  have hG63 := F2.put hG51 hM61 ⟨by omega, by omega⟩
  have hD64 := DF_up hD52 hM61 (by omega)
  have hU65 := UL_up hU53 hM61
  have hR66 := RR_up hR59 hM61 (Or.inl (by omega))
  have hk67 := kp_up hM61 (fun h => absurd h.2 (by decide)) hk55
  have hk68 := kp_up hM61 (fun h => absurd h.2 (by decide)) hk56
  have hk69 := kp_up hM61 (fun h => absurd h.2 (by decide)) hk57
  have hk70 := kp_up hM61 (fun h => absurd h.2 (by decide)) hk58
  have hk71 := kp_up hM61 (fun h => absurd h.2 (by decide)) hf50
  clear hk55 hk56 hk57 hk58 hf50
  refine j_aload_n hX dX3_init_55 rfl 0 rfl ?_
  refine j_bipush hX dX3_init_56 rfl ?_
  refine j_bipush hX dX3_init_58 rfl ?_
  refine j_mna hX (k := 172) (by omega) (in_2 157 (by first | rfl | decide +kernel) rfl) (in_1 163 (by first | rfl | decide +kernel) rfl) (by decide +kernel : kd 172 = .inr (5, 6)) (fun i h0 h1 => kwt h0 h1) (hD64.sub (lo' := 172) (hi' := 172 + 7) (by omega) (by omega)) (M' := rw6 172 M60) (rw6_1 rfl) (rw6_2 rfl) (rw6_3 rfl) (by omega) ⟨by omega, by omega⟩ dX3_init_60 ?_
  refine j_rw6 (fun M72 hM73 => ?_)
  have hM73f := rw6_f hM73
  have hG74 := F2.trans hG63 hM73f (by omega) (by omega)
  have hD75 := DF_f2 (hD64.sub (lo' := 173) (by omega) (Int.le_refl _)) hM73f (by omega)
  have hU76 := UL_f2 hU65 hM73f (by omega)
  have hR77 := RR_f2 hR66 hM73f (Or.inl (by omega))
  have hk78 := kp_f2 hM73f (by omega) hk67
  have hk79 := kp_f2 hM73f (by omega) hk68
  have hk80 := kp_f2 hM73f (by omega) hk69
  have hk81 := kp_f2 hM73f (by omega) hk70
  have hk82 := kp_f2 hM73f (by omega) hk71
  have hk83 := kp_f2 hM73f (by omega) hf62
  clear hk67 hk68 hk69 hk70 hk71 hf62
  have hR84 : RR 165 173 M72 := RR_s hR77 (Rg_rows (hD64.at _ (by omega) (by omega)) (by decide +kernel : kd 172 = .inr (5, 6)) (rw6_1 hM73) (fun b h => rw6_2 hM73 _ b (fun q => h q.2)) (fun i h0 h1 => rwt h0 h1) (by omega)) (by omega)
  have hR85 : RR 165 174 M72 := RR_s hR84 (Rg_plain (by omega) (by omega) (by decide +kernel : kd 173 = .inr (0, 6)) (by decide) (hD75.at _ (by omega) (by omega))) (by omega)
  have hR86 : RR 165 175 M72 := RR_s hR85 (Rg_plain (by omega) (by omega) (by decide +kernel : kd 174 = .inr (0, 6)) (by decide) (hD75.at _ (by omega) (by omega))) (by omega)
  have hR87 : RR 165 176 M72 := RR_s hR86 (Rg_plain (by omega) (by omega) (by decide +kernel : kd 175 = .inr (0, 6)) (by decide) (hD75.at _ (by omega) (by omega))) (by omega)
  have hR88 : RR 165 177 M72 := RR_s hR87 (Rg_plain (by omega) (by omega) (by decide +kernel : kd 176 = .inr (0, 6)) (by decide) (hD75.at _ (by omega) (by omega))) (by omega)
  have hR89 : RR 165 178 M72 := RR_s hR88 (Rg_plain (by omega) (by omega) (by decide +kernel : kd 177 = .inr (0, 6)) (by decide) (hD75.at _ (by omega) (by omega))) (by omega)
  have hR90 : RR 165 179 M72 := RR_s hR89 (Rg_plain (by omega) (by omega) (by decide +kernel : kd 178 = .inr (0, 6)) (by decide) (hD75.at _ (by omega) (by omega))) (by omega)
  refine pfF_X3_36 hX hin (by omega) (by omega) (by decide +kernel : kd 164 = .inl 3) (by omega) (by omega) dX3_init_64 ?_
  refine j_upN (fun M91 hM92 hf93 => ?_)
  have hG94 := F2.put hG74 hM92 ⟨by omega, by omega⟩
  have hD95 := DF_up hD75 hM92 (by omega)
  have hU96 := UL_up hU76 hM92
  have hR97 := RR_up hR90 hM92 (Or.inl (by omega))
  have hk98 := kp_up hM92 (fun h => absurd h.2 (by decide)) hk78
  have hk99 := kp_up hM92 (fun h => absurd h.2 (by decide)) hk79
  have hk100 := kp_up hM92 (fun h => absurd h.2 (by decide)) hk80
  have hk101 := kp_up hM92 (fun h => absurd h.2 (by decide)) hk81
  have hk102 := kp_up hM92 (fun h => absurd h.2 (by decide)) hk82
  have hk103 := kp_up hM92 (fun h => absurd h.2 (by decide)) hk83
  clear hk78 hk79 hk80 hk81 hk82 hk83
  refine j_aload_n hX dX3_init_67 rfl 0 rfl ?_
  refine j_iconst hX dX3_init_68 ?_
  refine pf_X3_39 hX (by omega) (by omega) (by decide +kernel : kd 164 = .inl 3) (by omega) dX3_init_69 ?_
  refine j_upN (fun M104 hM105 hf106 => ?_)
  have hG107 := F2.put hG94 hM105 ⟨by omega, by omega⟩
  have hD108 := DF_up hD95 hM105 (by omega)
  have hU109 := UL_up hU96 hM105
  have hR110 := RR_up hR97 hM105 (Or.inl (by omega))
  have hk111 := kp_up hM105 (fun h => absurd h.2 (by decide)) hk98
  have hk112 := kp_up hM105 (fun h => absurd h.2 (by decide)) hk99
  have hk113 := kp_up hM105 (fun h => absurd h.2 (by decide)) hk100
  have hk114 := kp_up hM105 (fun h => absurd h.2 (by decide)) hk101
  have hk115 := kp_up hM105 (fun h => absurd h.2 (by decide)) hk102
  have hk116 := kp_up hM105 (fun h => absurd h.2 (by decide)) hk103
  have hk117 := kp_up hM105 (fun h => absurd h.2 (by decide)) hf93
  clear hk98 hk99 hk100 hk101 hk102 hk103 hf93
  refine j_aload_n hX dX3_init_72 rfl 0 rfl ?_
  refine j_iconst hX dX3_init_73 ?_
  refine pf_X3_43 hX (by omega) (by omega) (by decide +kernel : kd 164 = .inl 3) (by omega) dX3_init_74 ?_
  refine j_upN (fun M118 hM119 hf120 => ?_)
  have hG121 := F2.put hG107 hM119 ⟨by omega, by omega⟩
  have hD122 := DF_up hD108 hM119 (by omega)
  have hU123 := UL_up hU109 hM119
  have hR124 := RR_up hR110 hM119 (Or.inl (by omega))
  have hk125 := kp_up hM119 (fun h => absurd h.2 (by decide)) hk111
  have hk126 := kp_up hM119 (fun h => absurd h.2 (by decide)) hk112
  have hk127 := kp_up hM119 (fun h => absurd h.2 (by decide)) hk113
  have hk128 := kp_up hM119 (fun h => absurd h.2 (by decide)) hk114
  have hk129 := kp_up hM119 (fun h => absurd h.2 (by decide)) hk115
  have hk130 := kp_up hM119 (fun h => absurd h.2 (by decide)) hk116
  have hk131 := kp_up hM119 (fun h => absurd h.2 (by decide)) hk117
  have hk132 := kp_up hM119 (fun h => absurd h.2 (by decide)) hf106
  clear hk111 hk112 hk113 hk114 hk115 hk116 hk117 hf106
  have hRo : Rg 164 M118 := by
    refine Rg_obj (n := 9) hpl hU123 (by decide) (by omega) (fun j hj => ?_)
    rcases (by omega : j = 0 ∨ j = 1 ∨ j = 2 ∨ j = 3 ∨ j = 4 ∨ j = 5 ∨ j = 6 ∨ j = 7 ∨ j = 8) with h | h | h | h | h | h | h | h | h
    · subst h
      show (rg 164 0).1 ≤ M118.1 164 0 ∧ M118.1 164 0 ≤ (rg 164 0).2
      rw [rz_164_0, hk125]; exact ⟨by dsimp only; omega, by dsimp only; omega⟩
    · subst h
      show (rg 164 1).1 ≤ M118.1 164 1 ∧ M118.1 164 1 ≤ (rg 164 1).2
      rw [rz_164_1, hk126]; exact ⟨by dsimp only; omega, by dsimp only; omega⟩
    · subst h
      show (rg 164 2).1 ≤ M118.1 164 2 ∧ M118.1 164 2 ≤ (rg 164 2).2
      rw [rz_164_2, hk127]; exact ⟨by dsimp only; omega, by dsimp only; omega⟩
    · subst h
      show (rg 164 3).1 ≤ M118.1 164 3 ∧ M118.1 164 3 ≤ (rg 164 3).2
      rw [rz_164_3, hk128]; exact ⟨by dsimp only; omega, by dsimp only; omega⟩
    · subst h
      show (rg 164 4).1 ≤ M118.1 164 4 ∧ M118.1 164 4 ≤ (rg 164 4).2
      rw [rz_164_4, hk129]; exact ⟨by dsimp only; omega, by dsimp only; omega⟩
    · subst h
      show (rg 164 5).1 ≤ M118.1 164 5 ∧ M118.1 164 5 ≤ (rg 164 5).2
      rw [rz_164_5, hk130]; exact ⟨by dsimp only; omega, by dsimp only; omega⟩
    · subst h
      show (rg 164 6).1 ≤ M118.1 164 6 ∧ M118.1 164 6 ≤ (rg 164 6).2
      rw [rz_164_6, hk131]; exact ⟨by dsimp only; omega, by dsimp only; omega⟩
    · subst h
      show (rg 164 7).1 ≤ M118.1 164 7 ∧ M118.1 164 7 ≤ (rg 164 7).2
      rw [rz_164_7, hk132]; exact ⟨by dsimp only; omega, by dsimp only; omega⟩
    · subst h
      show (rg 164 8).1 ≤ M118.1 164 8 ∧ M118.1 164 8 ≤ (rg 164 8).2
      rw [rz_164_8, hf120]; exact ⟨by dsimp only; omega, by dsimp only; omega⟩
  have hRa : RR 164 179 M118 := RR_j (RR_s RR_0 hRo (by omega)) hR124
  exact j_widen (by omega) (by omega) (hret _ _ _ dX3_init_77 ⟨hRa, hG121, hf120⟩)
set_option maxHeartbeats 2000000 in
set_option maxRecDepth 20000 in
theorem cv_X5_init (l : Launch) (D : va_G) (cy : Nat → ClassId) (B N : Nat) (M : MM) (hN : (N : Int) = 157 + 1) (hd : DF 157 164 M) : CN l D cy B N (N + 6) 2 6 32 yX5_init cX5_init 1 [rv B 157] M (fun M' => RR 157 164 M' ∧ F2 157 164 M M' ∧ (KA (-1) 160 M')) := by
  refine mk_CN (by decide) rfl (Nat.le_of_ble_eq_true rfl) ?_
  intro X exl exD excy hnL hX hin hRc hRs hret
  have hpl : pl 157 = ((5 : Nat) : Int) := pl_o (r := (RX5, TX5, 5)) (by decide +kernel : kd 157 = .inl 5) rfl
  have hG : F2 157 164 M M := F2.rf
  have hD : DF 158 164 M := hd.sub (by omega) (Int.le_refl _)
  have hU : UL 157 [] M := UL_0 (hd.at _ (by omega) (by omega))
  have hR : RR 158 158 M := RR_0
  show J X B N 0 0 0 [(0, rv B 157)] [] M
  refine j_aload_n hX dX5_init_0 rfl 0 rfl ?_
  refine j_objInit hX (in_2 113 (by first | rfl | decide +kernel) rfl) (in_1 28 (by first | rfl | decide +kernel) rfl) (in_1 29 (by first | rfl | decide +kernel) rfl) (by omega) (Nat.le_of_ble_eq_true rfl) dX5_init_1 ?_
  refine j_aload_n hX dX5_init_4 rfl 0 rfl ?_
  refine j_new hX (k := 158) (by omega) hin_4 tyX4_ok rfl (in_2 114 (by first | rfl | decide +kernel) rfl) (in_2 115 (by first | rfl | decide +kernel) rfl) (in_1 14 (by first | rfl | decide +kernel) rfl) (by decide +kernel : kd 158 = .inl 4) (fun _ => rfl) okX4 (hD.at _ (by omega) (by omega)) ⟨by omega, by omega⟩ dX5_init_5 ?_
  refine j_dup hX dX5_init_8 rfl ?_
  refine j_callN hX (List.mem_of_getElem? (i := 6) rfl) lkI_4 (c_X4_init _ _ _ _ _ 158 _ (by omega) (by omega) (hD.sub (by omega) (by omega))) (by omega) ⟨by omega, by omega⟩ (Nat.le_of_ble_eq_true rfl) dX5_init_9 (fun M1 hp2 => ?_)
  obtain ⟨hRn3, hGn4⟩ := hp2
  have hG5 := F2.trans hG hGn4 (by omega) (by omega)
  have hD6 := DF_f2 (hD.sub (lo' := 160) (by omega) (Int.le_refl _)) hGn4 (by omega)
  have hU7 := UL_f2 hU hGn4 (by omega)
  have hR8 := RR_f2 hR hGn4 (Or.inl (by omega))
  have hR9 : RR 158 160 M1 := RR_j hR8 hRn3
  refine pfF_X5_12 hX hin (by omega) (by omega) (by decide +kernel : kd 157 = .inl 5) (by omega) (by omega) dX5_init_12 ?_
  refine j_upN (fun M10 hM11 hf12 => ?_)
  have hG13 := F2.put hG5 hM11 ⟨by omega, by omega⟩
  have hD14 := DF_up hD6 hM11 (by omega)
  have hU15 := UL_up hU7 hM11
  have hR16 := RR_up hR9 hM11 (Or.inl (by omega))
  refine j_aload_n hX dX5_init_15 rfl 0 rfl ?_
  refine j_bipush hX dX5_init_16 rfl ?_
  refine j_newa hX (k := 160) (by omega) (t := 0) (n := 6) rfl (by decide) (in_1 163 (by first | rfl | decide +kernel) rfl) (by decide +kernel : kd 160 = .inr (0, 6)) rfl (by decide) (hD14.at _ (by omega) (by omega)) ⟨by omega, by omega⟩ dX5_init_18 ?_
  have hR17 : RR 158 161 M10 := RR_s hR16 (Rg_plain (by omega) (by omega) (by decide +kernel : kd 160 = .inr (0, 6)) (by decide) (hD14.at _ (by omega) (by omega))) (by omega)
  refine pfF_X5_18 hX hin (by omega) (by omega) (by decide +kernel : kd 157 = .inl 5) (by omega) (by omega) dX5_init_20 ?_
  refine j_upN (fun M18 hM19 hf20 => ?_)
  have hG21 := F2.put hG13 hM19 ⟨by omega, by omega⟩
  have hD22 := DF_up hD14 hM19 (by omega)
  have hU23 := UL_up hU15 hM19
  have hR24 := RR_up hR17 hM19 (Or.inl (by omega))
  have hk25 := kp_up hM19 (fun h => absurd h.2 (by decide)) hf12
  clear hf12
  refine j_aload_n hX dX5_init_23 rfl 0 rfl ?_
  refine j_bipush hX dX5_init_24 rfl ?_
  refine j_newa hX (k := 161) (by omega) (t := 0) (n := 6) rfl (by decide) (in_1 163 (by first | rfl | decide +kernel) rfl) (by decide +kernel : kd 161 = .inr (0, 6)) rfl (by decide) (hD22.at _ (by omega) (by omega)) ⟨by omega, by omega⟩ dX5_init_26 ?_
  have hR26 : RR 158 162 M18 := RR_s hR24 (Rg_plain (by omega) (by omega) (by decide +kernel : kd 161 = .inr (0, 6)) (by decide) (hD22.at _ (by omega) (by omega))) (by omega)
  refine pfF_X5_22 hX hin (by omega) (by omega) (by decide +kernel : kd 157 = .inl 5) (by omega) (by omega) dX5_init_28 ?_
  refine j_upN (fun M27 hM28 hf29 => ?_)
  have hG30 := F2.put hG21 hM28 ⟨by omega, by omega⟩
  have hD31 := DF_up hD22 hM28 (by omega)
  have hU32 := UL_up hU23 hM28
  have hR33 := RR_up hR26 hM28 (Or.inl (by omega))
  have hk34 := kp_up hM28 (fun h => absurd h.2 (by decide)) hk25
  have hk35 := kp_up hM28 (fun h => absurd h.2 (by decide)) hf20
  clear hk25 hf20
  refine j_aload_n hX dX5_init_31 rfl 0 rfl ?_
  refine j_bipush hX dX5_init_32 rfl ?_
  refine j_newa hX (k := 162) (by omega) (t := 0) (n := 6) rfl (by decide) (in_1 163 (by first | rfl | decide +kernel) rfl) (by decide +kernel : kd 162 = .inr (0, 6)) rfl (by decide) (hD31.at _ (by omega) (by omega)) ⟨by omega, by omega⟩ dX5_init_34 ?_
  have hR36 : RR 158 163 M27 := RR_s hR33 (Rg_plain (by omega) (by omega) (by decide +kernel : kd 162 = .inr (0, 6)) (by decide) (hD31.at _ (by omega) (by omega))) (by omega)
  refine pfF_X5_25 hX hin (by omega) (by omega) (by decide +kernel : kd 157 = .inl 5) (by omega) (by omega) dX5_init_36 ?_
  refine j_upN (fun M37 hM38 hf39 => ?_)
  have hG40 := F2.put hG30 hM38 ⟨by omega, by omega⟩
  have hD41 := DF_up hD31 hM38 (by omega)
  have hU42 := UL_up hU32 hM38
  have hR43 := RR_up hR36 hM38 (Or.inl (by omega))
  have hk44 := kp_up hM38 (fun h => absurd h.2 (by decide)) hk34
  have hk45 := kp_up hM38 (fun h => absurd h.2 (by decide)) hk35
  have hk46 := kp_up hM38 (fun h => absurd h.2 (by decide)) hf29
  clear hk34 hk35 hf29
  refine j_aload_n hX dX5_init_39 rfl 0 rfl ?_
  refine j_bipush hX dX5_init_40 rfl ?_
  refine j_newa hX (k := 163) (by omega) (t := 0) (n := 6) rfl (by decide) (in_1 163 (by first | rfl | decide +kernel) rfl) (by decide +kernel : kd 163 = .inr (0, 6)) rfl (by decide) (hD41.at _ (by omega) (by omega)) ⟨by omega, by omega⟩ dX5_init_42 ?_
  have hR47 : RR 158 164 M37 := RR_s hR43 (Rg_plain (by omega) (by omega) (by decide +kernel : kd 163 = .inr (0, 6)) (by decide) (hD41.at _ (by omega) (by omega))) (by omega)
  refine pfF_X5_28 hX hin (by omega) (by omega) (by decide +kernel : kd 157 = .inl 5) (by omega) (by omega) dX5_init_44 ?_
  refine j_upN (fun M48 hM49 hf50 => ?_)
  have hG51 := F2.put hG40 hM49 ⟨by omega, by omega⟩
  have hD52 := DF_up hD41 hM49 (by omega)
  have hU53 := UL_up hU42 hM49
  have hR54 := RR_up hR47 hM49 (Or.inl (by omega))
  have hk55 := kp_up hM49 (fun h => absurd h.2 (by decide)) hk44
  have hk56 := kp_up hM49 (fun h => absurd h.2 (by decide)) hk45
  have hk57 := kp_up hM49 (fun h => absurd h.2 (by decide)) hk46
  have hk58 := kp_up hM49 (fun h => absurd h.2 (by decide)) hf39
  clear hk44 hk45 hk46 hf39
  refine j_aload_n hX dX5_init_47 rfl 0 rfl ?_
  refine gf_X5_18 hX (by omega) (by omega) (by decide +kernel : kd 157 = .inl 5) hk56 (by omega) dX5_init_48 ?_
  refine j_iconst hX dX5_init_51 ?_
  refine j_callSV hX lk_X5_31 (cv_fill1 _ _ _ _ _ 160 6 _ _ (by omega) (by decide +kernel) (by omega) (by decide)) (by omega) ⟨by omega, by omega⟩ rfl rfl (Nat.le_of_ble_eq_true rfl) dX5_init_52 (fun M59 hp60 => ?_)
  obtain ⟨hGf, hbf, hbg⟩ := hp60
  have hRf : Rg 160 M59 := fun b => by
    rw [ra_160 b]
    rcases hbf b with h | h
    · rw [h]; exact ⟨by decide, by decide⟩
    · rw [h]; have h9 := hR54 160 (by omega) (by omega) b; rw [ra_160 b] at h9; exact h9
  have hRz := RR_re hR54 hGf hRf
  have hGz := F2.trans hG51 hGf (by omega) (by omega)
  have hUz := UL_f2 hU53 hGf (by omega)
  have hk61 := kp_f2 hGf (by omega) hk55
  have hk62 := kp_f2 hGf (by omega) hk56
  have hk63 := kp_f2 hGf (by omega) hk57
  have hk64 := kp_f2 hGf (by omega) hk58
  have hk65 := kp_f2 hGf (by omega) hf50
  clear hk55 hk56 hk57 hk58 hf50
  have hRo : Rg 157 M59 := by
    refine Rg_obj (n := 5) hpl hUz (by decide) (by omega) (fun j hj => ?_)
    rcases (by omega : j = 0 ∨ j = 1 ∨ j = 2 ∨ j = 3 ∨ j = 4) with h | h | h | h | h
    · subst h
      show (rg 157 0).1 ≤ M59.1 157 0 ∧ M59.1 157 0 ≤ (rg 157 0).2
      rw [rz_157_0, hk61]; exact ⟨by dsimp only; omega, by dsimp only; omega⟩
    · subst h
      show (rg 157 1).1 ≤ M59.1 157 1 ∧ M59.1 157 1 ≤ (rg 157 1).2
      rw [rz_157_1, hk62]; exact ⟨by dsimp only; omega, by dsimp only; omega⟩
    · subst h
      show (rg 157 2).1 ≤ M59.1 157 2 ∧ M59.1 157 2 ≤ (rg 157 2).2
      rw [rz_157_2, hk63]; exact ⟨by dsimp only; omega, by dsimp only; omega⟩
    · subst h
      show (rg 157 3).1 ≤ M59.1 157 3 ∧ M59.1 157 3 ≤ (rg 157 3).2
      rw [rz_157_3, hk64]; exact ⟨by dsimp only; omega, by dsimp only; omega⟩
    · subst h
      show (rg 157 4).1 ≤ M59.1 157 4 ∧ M59.1 157 4 ≤ (rg 157 4).2
      rw [rz_157_4, hk65]; exact ⟨by dsimp only; omega, by dsimp only; omega⟩
  have hRa : RR 157 164 M59 := RR_j (RR_s RR_0 hRo (by omega)) hRz
  exact j_widen (by omega) (by omega) (hret _ _ _ dX5_init_55 ⟨hRa, hGz, fun b p q => hbg b p (by omega)⟩)
set_option maxHeartbeats 2000000 in
set_option maxRecDepth 20000 in
theorem cv_X0_init (l : Launch) (D : va_G) (cy : Nat → ClassId) (B N : Nat) (M : MM) (hN : (N : Int) = 26 + 1) (hd : DF 26 151 M) : CN l D cy B N (N + 124) 2 124 779 yX0_init cX0_init 2 [rv B 26] M (fun M' => RR 26 151 M' ∧ F2 26 151 M M' ∧ (M'.1 26 1 = 0) ∧ (M'.1 26 2 = 0) ∧ (SS M') ∧ (M'.1 27 0 = 28)) := by
  refine mk_CN (by decide) rfl (Nat.le_of_ble_eq_true rfl) ?_
  intro X exl exD excy hnL hX hin hRc hRs hret
  have hpl : pl 26 = ((3 : Nat) : Int) := pl_o (r := (RX0, TX0, 3)) (by decide +kernel : kd 26 = .inl 0) rfl
  have cp : ∀ n : Nat, ∀ (x : Int) (Nc c0 s0 : Nat) (Mc : MM), 0 ≤ x → x ≤ 41 → (Nc : Int) = 28 + 3 * x → (c0 : Int) = 1 + 3 * x → (s0 : Int) = 41 + 18 * x → F2 26 151 M Mc → DF (28 + 3 * x) 151 Mc → UL 26 [2, 1, 0] Mc → S27 x Mc → RR 28 (28 + 3 * x) Mc → Mc.1 26 0 = 27 → Mc.1 26 1 = 0 → Mc.1 26 2 = 0 → 41 - x < (n : Int) → J X B Nc c0 s0 25 [(0, rv B 26), (1, iv x)] [] Mc := by
    intro n
    induction n with
    | zero => intros; exfalso; omega
    | succ n ih =>
      intro x Nc c0 s0 Mc hx0 hx1 hNc hc0 hs0 hG hD hU hS hR hk0 hk1 hk2 hm
      refine j_iload_n hX dX0_init_25 rfl 1 rfl ?_
      refine j_bipush hX dX0_init_26 rfl ?_
      refine j_icmp_gt (tgt := 50) hX dX0_init_28 (by decide) (by omega) (by omega) (fun hc => ?_) (fun hc => ?_)
      · have e41 : x = 41 := by omega
        subst e41
        have eN : Nc = N + 124 := by omega
        subst eN
        have hRo : Rg 26 Mc := by
          refine Rg_obj (n := 3) hpl hU (by decide) (by omega) (fun j hj => ?_)
          rcases (by omega : j = 0 ∨ j = 1 ∨ j = 2) with h | h | h
          · subst h
            show (rg 26 0).1 ≤ Mc.1 26 0 ∧ Mc.1 26 0 ≤ (rg 26 0).2
            rw [rz_26_0, hk0]; exact ⟨by decide, by decide⟩
          · subst h
            show (rg 26 1).1 ≤ Mc.1 26 1 ∧ Mc.1 26 1 ≤ (rg 26 1).2
            rw [rz_26_1, hk1]; exact ⟨by decide, by decide⟩
          · subst h
            show (rg 26 2).1 ≤ Mc.1 26 2 ∧ Mc.1 26 2 ≤ (rg 26 2).2
            rw [rz_26_2, hk2]; exact ⟨by decide, by decide⟩
        have hRa : RR 26 151 Mc := RR_j (RR_s (RR_s RR_0 hRo (by omega : (27 : Int) = 26 + 1)) (S27_r hS) (by omega : (28 : Int) = 27 + 1)) hR
        exact j_widen (by omega) (by omega) (hret _ _ _ dX0_init_50 ⟨hRa, hG, hk1, hk2, S27_sc hS, by have h := (hS 0).1 (by omega) (by omega); omega⟩)
      · have hs : Sc (28 + 3 * x) := Or.inl ⟨by omega, by omega, by omega⟩
        refine j_aload_n hX dX0_init_31 rfl 0 rfl ?_
        refine gf_X0_11 hX (by omega) (by omega) (by decide +kernel) hk0 (by omega) dX0_init_32 ?_
        refine j_iload_n hX dX0_init_35 rfl 1 rfl ?_
        refine j_new hX (k := 28 + 3 * x) (by omega) hin_8 tyX8_ok rfl (in_2 47 (by first | rfl | decide +kernel) rfl) (in_2 49 (by first | rfl | decide +kernel) rfl) (in_1 11 (by first | rfl | decide +kernel) rfl) (sc_k0 hs) (fun _ => rfl) okX8 (hD.at _ (by omega) (by omega)) ⟨by omega, by omega⟩ dX0_init_36 ?_
        refine j_dup hX dX0_init_39 rfl ?_
        refine j_callN hX (List.mem_of_getElem? (i := 3) rfl) lkI_8 (c_X8_init _ _ _ _ _ (28 + 3 * x) _ hs (by omega) (hD.sub (by omega) (by omega))) (by omega) ⟨by omega, by omega⟩ (Nat.le_of_ble_eq_true rfl) dX0_init_40 (fun M2 hp => ?_)
        obtain ⟨hRn, hGn⟩ := hp
        refine j_aast4 hX (by omega) (by omega) (by decide +kernel : kd 27 = .inr (4, 41)) (by omega) (by omega) (by decide) (by omega) (by omega) (by omega) (sc_k0 hs) dX0_init_43 ?_
        refine j_upN (fun M3 hM hf => ?_)
        refine j_iinc (lv' := [(1, _), (0, _)]) hX dX0_init_44 1 rfl (by rw [hnL]; decide) rfl ?_
        refine j_goto (tgt := 25) hX dX0_init_47 (by decide) ?_
        refine j_sub [1, 0] rfl ?_
        have hD2 : DF (28 + 3 * (x + 1)) 151 M2 := DF_f2 (hD.sub (lo' := 28 + 3 * (x + 1)) (by omega) (Int.le_refl _)) hGn (by omega)
        have hR2 : RR 28 (28 + 3 * (x + 1)) M2 := fun a p q => RR_j (RR_f2 hR hGn (Or.inl (by omega))) hRn a p (by omega)
        exact ih (x + 1) _ _ _ M3 (by omega) (by omega) (by omega) (by omega) (by omega) (F2.put (F2.trans hG hGn (by omega) (by omega)) hM ⟨by omega, by omega⟩) (DF_up hD2 hM (by omega)) (UL_ne (UL_f2 hU hGn (by omega)) hM (by omega)) (S27_s (S27_f2 hS hGn (Or.inl (by omega))) hM rfl ⟨by omega, by omega⟩) (RR_up hR2 hM (Or.inl (by omega))) (kp_up hM (by omega) (kp_f2 hGn (by omega) hk0)) (kp_up hM (by omega) (kp_f2 hGn (by omega) hk1)) (kp_up hM (by omega) (kp_f2 hGn (by omega) hk2)) (by omega)
  have hG : F2 26 151 M M := F2.rf
  have hD : DF 27 151 M := hd.sub (by omega) (Int.le_refl _)
  have hU : UL 26 [] M := UL_0 (hd.at _ (by omega) (by omega))
  have hR : RR 27 27 M := RR_0
  show J X B N 0 0 0 [(0, rv B 26)] [] M
  refine j_aload_n hX dX0_init_0 rfl 0 rfl ?_
  refine j_objInit hX (in_2 46 (by first | rfl | decide +kernel) rfl) (in_1 28 (by first | rfl | decide +kernel) rfl) (in_1 29 (by first | rfl | decide +kernel) rfl) (by omega) (Nat.le_of_ble_eq_true rfl) dX0_init_1 ?_
  refine j_aload_n hX dX0_init_4 rfl 0 rfl ?_
  refine j_bipush hX dX0_init_5 rfl ?_
  refine j_newq hX (k := 27) (by omega) (n := 41) (in_2 47 (by first | rfl | decide +kernel) rfl) (by decide +kernel : kd 27 = .inr (4, 41)) rfl (by decide) (hD.at _ (by omega) (by omega)) ⟨by omega, by omega⟩ dX0_init_7 ?_
  refine pfF_X0_11 hX hin (by omega) (by omega) (by decide +kernel : kd 26 = .inl 0) (by omega) (by omega) dX0_init_10 ?_
  refine j_upN (fun M1 hM2 hf3 => ?_)
  have hG4 := F2.put hG hM2 ⟨by omega, by omega⟩
  have hD5 := DF_up hD hM2 (by omega)
  have hU6 := UL_up hU hM2
  have hR7 := RR_up hR hM2 (Or.inl (by omega))
  refine j_aload_n hX dX0_init_13 rfl 0 rfl ?_
  refine j_iconst hX dX0_init_14 ?_
  refine pf_X0_17 hX (by omega) (by omega) (by decide +kernel : kd 26 = .inl 0) (by omega) dX0_init_15 ?_
  refine j_upN (fun M8 hM9 hf10 => ?_)
  have hG11 := F2.put hG4 hM9 ⟨by omega, by omega⟩
  have hD12 := DF_up hD5 hM9 (by omega)
  have hU13 := UL_up hU6 hM9
  have hR14 := RR_up hR7 hM9 (Or.inl (by omega))
  have hk15 := kp_up hM9 (fun h => absurd h.2 (by decide)) hf3
  clear hf3
  refine j_aload_n hX dX0_init_18 rfl 0 rfl ?_
  refine j_iconst hX dX0_init_19 ?_
  refine pf_X0_21 hX (by omega) (by omega) (by decide +kernel : kd 26 = .inl 0) (by omega) dX0_init_20 ?_
  refine j_upN (fun M16 hM17 hf18 => ?_)
  have hG19 := F2.put hG11 hM17 ⟨by omega, by omega⟩
  have hD20 := DF_up hD12 hM17 (by omega)
  have hU21 := UL_up hU13 hM17
  have hR22 := RR_up hR14 hM17 (Or.inl (by omega))
  have hk23 := kp_up hM17 (fun h => absurd h.2 (by decide)) hk15
  have hk24 := kp_up hM17 (fun h => absurd h.2 (by decide)) hf10
  clear hk15 hf10
  refine j_iconst hX dX0_init_23 ?_
  refine j_istore_n (lv' := [(1, _), (0, _)]) hX dX0_init_24 rfl (by rw [hnL]; decide) rfl ?_
  have hDz : DF 28 151 M16 := hD20.sub (by omega) (by omega)
  have hS0 : S27 0 M16 := S27_0 (hD20.at 27 (by omega) (by omega))
  refine j_sub [1, 0] rfl ?_
  exact cp 50 0 _ _ _ _ (by omega) (by omega) (by omega) (by omega) (by omega) hG19 (hDz.sub (by omega) (Int.le_refl _)) hU21 hS0 (fun a p q => absurd q (by omega)) hk23 hk24 hf18 (by omega)
