theorem dX8_init_0 : decode cX8_init 0 = .ok (.aload_n 0, 1) := by decide +kernel
theorem dX8_init_1 : decode cX8_init 1 = .ok (.invokespecial 3, 3) := by decide +kernel
theorem dX8_init_4 : decode cX8_init 4 = .ok (.aload_n 0, 1) := by decide +kernel
theorem dX8_init_5 : decode cX8_init 5 = .ok (.bipush 6, 2) := by decide +kernel
theorem dX8_init_7 : decode cX8_init 7 = .ok (.newarray .int, 2) := by decide +kernel
theorem dX8_init_9 : decode cX8_init 9 = .ok (.putfield 9, 3) := by decide +kernel
theorem dX8_init_12 : decode cX8_init 12 = .ok (.aload_n 0, 1) := by decide +kernel
theorem dX8_init_13 : decode cX8_init 13 = .ok (.bipush 6, 2) := by decide +kernel
theorem dX8_init_15 : decode cX8_init 15 = .ok (.newarray .int, 2) := by decide +kernel
theorem dX8_init_17 : decode cX8_init 17 = .ok (.putfield 15, 3) := by decide +kernel
theorem dX8_init_20 : decode cX8_init 20 = .ok (.aload_n 0, 1) := by decide +kernel
theorem dX8_init_21 : decode cX8_init 21 = .ok (.iconst 0, 1) := by decide +kernel
theorem dX8_init_22 : decode cX8_init 22 = .ok (.putfield 18, 3) := by decide +kernel
theorem dX8_init_25 : decode cX8_init 25 = .ok (.aload_n 0, 1) := by decide +kernel
theorem dX8_init_26 : decode cX8_init 26 = .ok (.iconst 0, 1) := by decide +kernel
theorem dX8_init_27 : decode cX8_init 27 = .ok (.putfield 22, 3) := by decide +kernel
theorem dX8_init_30 : decode cX8_init 30 = .ok (.aload_n 0, 1) := by decide +kernel
theorem dX8_init_31 : decode cX8_init 31 = .ok (.iconst 0, 1) := by decide +kernel
theorem dX8_init_32 : decode cX8_init 32 = .ok (.putfield 25, 3) := by decide +kernel
theorem dX8_init_35 : decode cX8_init 35 = .ok (.aload_n 0, 1) := by decide +kernel
theorem dX8_init_36 : decode cX8_init 36 = .ok (.iconst 0, 1) := by decide +kernel
theorem dX8_init_37 : decode cX8_init 37 = .ok (.putfield 28, 3) := by decide +kernel
theorem dX8_init_40 : decode cX8_init 40 = .ok (.return_, 1) := by decide +kernel
set_option maxHeartbeats 2000000 in
set_option maxRecDepth 20000 in
theorem c_X8_init (l : Launch) (D : va_G) (cy : Nat → ClassId) (B N : Nat) (s : Int) (M : MM) (hs : Sc s) (hN : (N : Int) = s + 1) (hd : DF s (s + 3) M) : CN l D cy B N (N + 2) 1 2 12 yX8_init cX8_init 1 [rv B s] M (fun M' => RR s (s + 3) M' ∧ F2 s (s + 3) M M') := by
  refine mk_CN (by decide) rfl (Nat.le_of_ble_eq_true rfl) ?_
  intro X exl exD excy hnL hX hin hRc hRs hret
  have hbs := sc_b hs
  have hpl : pl s = ((6 : Nat) : Int) := pl_o (r := (RX8, TX8, 6)) (sc_k0 hs) rfl
  have hG : F2 s (s + 3) M M := F2.rf
  have hD : DF (s + 1) (s + 3) M := hd.sub (by omega) (Int.le_refl _)
  have hU : UL s [] M := UL_0 (hd.at _ (by omega) (by omega))
  have hR : RR (s + 1) (s + 1) M := RR_0
  show J X B N 0 0 0 [(0, rv B s)] [] M
  refine j_aload_n hX dX8_init_0 rfl 0 rfl ?_
  refine j_objInit hX (in_2 53 (by first | rfl | decide +kernel) rfl) (in_1 28 (by first | rfl | decide +kernel) rfl) (in_1 29 (by first | rfl | decide +kernel) rfl) (by omega) (Nat.le_of_ble_eq_true rfl) dX8_init_1 ?_
  refine j_aload_n hX dX8_init_4 rfl 0 rfl ?_
  refine j_bipush hX dX8_init_5 rfl ?_
  refine j_newa hX (k := (s + 1)) (by omega) (t := 0) (n := 6) rfl (by decide) (in_1 163 (by first | rfl | decide +kernel) rfl) (kz_s1 hs) rfl (by decide) (hD.at _ (by omega) (by omega)) ⟨by omega, by omega⟩ dX8_init_7 ?_
  have hR1 : RR (s + 1) (s + 2) M := RR_s hR (Rg_plain (by omega) (by omega) (kz_s1 hs) (by decide) (hD.at _ (by omega) (by omega))) (by omega)
  refine pfF_X8_9 hX hin (by omega) (by omega) (sc_k0 hs) (by omega) (by omega) dX8_init_9 ?_
  refine j_upN (fun M2 hM3 hf4 => ?_)
  have hG5 := F2.put hG hM3 ⟨by omega, by omega⟩
  have hD6 := DF_up hD hM3 (by omega)
  have hU7 := UL_up hU hM3
  have hR8 := RR_up hR1 hM3 (Or.inl (by omega))
  refine j_aload_n hX dX8_init_12 rfl 0 rfl ?_
  refine j_bipush hX dX8_init_13 rfl ?_
  refine j_newa hX (k := (s + 2)) (by omega) (t := 0) (n := 6) rfl (by decide) (in_1 163 (by first | rfl | decide +kernel) rfl) (kz_s2 hs) rfl (by decide) (hD6.at _ (by omega) (by omega)) ⟨by omega, by omega⟩ dX8_init_15 ?_
  have hR9 : RR (s + 1) (s + 3) M2 := RR_s hR8 (Rg_plain (by omega) (by omega) (kz_s2 hs) (by decide) (hD6.at _ (by omega) (by omega))) (by omega)
  refine pfF_X8_15 hX hin (by omega) (by omega) (sc_k0 hs) (by omega) (by omega) dX8_init_17 ?_
  refine j_upN (fun M10 hM11 hf12 => ?_)
  have hG13 := F2.put hG5 hM11 ⟨by omega, by omega⟩
  have hD14 := DF_up hD6 hM11 (by omega)
  have hU15 := UL_up hU7 hM11
  have hR16 := RR_up hR9 hM11 (Or.inl (by omega))
  have hk17 := kp_up hM11 (fun h => absurd h.2 (by decide)) hf4
  clear hf4
  refine j_aload_n hX dX8_init_20 rfl 0 rfl ?_
  refine j_iconst hX dX8_init_21 ?_
  refine pf_X8_18 hX (by omega) (by omega) (sc_k0 hs) (by omega) dX8_init_22 ?_
  refine j_upN (fun M18 hM19 hf20 => ?_)
  have hG21 := F2.put hG13 hM19 ⟨by omega, by omega⟩
  have hD22 := DF_up hD14 hM19 (by omega)
  have hU23 := UL_up hU15 hM19
  have hR24 := RR_up hR16 hM19 (Or.inl (by omega))
  have hk25 := kp_up hM19 (fun h => absurd h.2 (by decide)) hk17
  have hk26 := kp_up hM19 (fun h => absurd h.2 (by decide)) hf12
  clear hk17 hf12
  refine j_aload_n hX dX8_init_25 rfl 0 rfl ?_
  refine j_iconst hX dX8_init_26 ?_
  refine pf_X8_22 hX (by omega) (by omega) (sc_k0 hs) (by omega) dX8_init_27 ?_
  refine j_upN (fun M27 hM28 hf29 => ?_)
  have hG30 := F2.put hG21 hM28 ⟨by omega, by omega⟩
  have hD31 := DF_up hD22 hM28 (by omega)
  have hU32 := UL_up hU23 hM28
  have hR33 := RR_up hR24 hM28 (Or.inl (by omega))
  have hk34 := kp_up hM28 (fun h => absurd h.2 (by decide)) hk25
  have hk35 := kp_up hM28 (fun h => absurd h.2 (by decide)) hk26
  have hk36 := kp_up hM28 (fun h => absurd h.2 (by decide)) hf20
  clear hk25 hk26 hf20
  refine j_aload_n hX dX8_init_30 rfl 0 rfl ?_
  refine j_iconst hX dX8_init_31 ?_
  refine pf_X8_25 hX (by omega) (by omega) (sc_k0 hs) (by omega) dX8_init_32 ?_
  refine j_upN (fun M37 hM38 hf39 => ?_)
  have hG40 := F2.put hG30 hM38 ⟨by omega, by omega⟩
  have hD41 := DF_up hD31 hM38 (by omega)
  have hU42 := UL_up hU32 hM38
  have hR43 := RR_up hR33 hM38 (Or.inl (by omega))
  have hk44 := kp_up hM38 (fun h => absurd h.2 (by decide)) hk34
  have hk45 := kp_up hM38 (fun h => absurd h.2 (by decide)) hk35
  have hk46 := kp_up hM38 (fun h => absurd h.2 (by decide)) hk36
  have hk47 := kp_up hM38 (fun h => absurd h.2 (by decide)) hf29
  clear hk34 hk35 hk36 hf29
  refine j_aload_n hX dX8_init_35 rfl 0 rfl ?_
  refine j_iconst hX dX8_init_36 ?_
  refine pf_X8_28 hX (by omega) (by omega) (sc_k0 hs) (by omega) dX8_init_37 ?_
  refine j_upN (fun M48 hM49 hf50 => ?_)
  have hG51 := F2.put hG40 hM49 ⟨by omega, by omega⟩
  have hD52 := DF_up hD41 hM49 (by omega)
  have hU53 := UL_up hU42 hM49
  have hR54 := RR_up hR43 hM49 (Or.inl (by omega))
  have hk55 := kp_up hM49 (fun h => absurd h.2 (by decide)) hk44
  have hk56 := kp_up hM49 (fun h => absurd h.2 (by decide)) hk45
  have hk57 := kp_up hM49 (fun h => absurd h.2 (by decide)) hk46
  have hk58 := kp_up hM49 (fun h => absurd h.2 (by decide)) hk47
  have hk59 := kp_up hM49 (fun h => absurd h.2 (by decide)) hf39
  clear hk44 hk45 hk46 hk47 hf39
  have hRo : Rg s M48 := by
    refine Rg_obj (n := 6) hpl hU53 (by decide) (by omega) (fun j hj => ?_)
    rcases (by omega : j = 0 ∨ j = 1 ∨ j = 2 ∨ j = 3 ∨ j = 4 ∨ j = 5) with h | h | h | h | h | h
    · subst h
      show (rg s 0).1 ≤ M48.1 s 0 ∧ M48.1 s 0 ≤ (rg s 0).2
      rw [sz_0 hs, hk55]; exact ⟨by dsimp only; omega, by dsimp only; omega⟩
    · subst h
      show (rg s 1).1 ≤ M48.1 s 1 ∧ M48.1 s 1 ≤ (rg s 1).2
      rw [sz_1 hs, hk56]; exact ⟨by dsimp only; omega, by dsimp only; omega⟩
    · subst h
      show (rg s 2).1 ≤ M48.1 s 2 ∧ M48.1 s 2 ≤ (rg s 2).2
      rw [sz_2 hs, hk57]; exact ⟨by dsimp only; omega, by dsimp only; omega⟩
    · subst h
      show (rg s 3).1 ≤ M48.1 s 3 ∧ M48.1 s 3 ≤ (rg s 3).2
      rw [sz_3 hs, hk58]; exact ⟨by dsimp only; omega, by dsimp only; omega⟩
    · subst h
      show (rg s 4).1 ≤ M48.1 s 4 ∧ M48.1 s 4 ≤ (rg s 4).2
      rw [sz_4 hs, hk59]; exact ⟨by dsimp only; omega, by dsimp only; omega⟩
    · subst h
      show (rg s 5).1 ≤ M48.1 s 5 ∧ M48.1 s 5 ≤ (rg s 5).2
      rw [sz_5 hs, hf50]; exact ⟨by dsimp only; omega, by dsimp only; omega⟩
  have hRa : RR s (s + 3) M48 := RR_j (RR_s RR_0 hRo (by omega)) hR54
  exact j_widen (by omega) (by omega) (hret _ _ _ dX8_init_40 ⟨hRa, hG51⟩)
theorem dX4_init_0 : decode cX4_init 0 = .ok (.aload_n 0, 1) := by decide +kernel
theorem dX4_init_1 : decode cX4_init 1 = .ok (.invokespecial 3, 3) := by decide +kernel
theorem dX4_init_4 : decode cX4_init 4 = .ok (.aload_n 0, 1) := by decide +kernel
theorem dX4_init_5 : decode cX4_init 5 = .ok (.bipush 6, 2) := by decide +kernel
theorem dX4_init_7 : decode cX4_init 7 = .ok (.newarray .int, 2) := by decide +kernel
theorem dX4_init_9 : decode cX4_init 9 = .ok (.putfield 9, 3) := by decide +kernel
theorem dX4_init_12 : decode cX4_init 12 = .ok (.aload_n 0, 1) := by decide +kernel
theorem dX4_init_13 : decode cX4_init 13 = .ok (.iconst 0, 1) := by decide +kernel
theorem dX4_init_14 : decode cX4_init 14 = .ok (.putfield 15, 3) := by decide +kernel
theorem dX4_init_17 : decode cX4_init 17 = .ok (.return_, 1) := by decide +kernel
set_option maxHeartbeats 2000000 in
set_option maxRecDepth 20000 in
theorem c_X4_init (l : Launch) (D : va_G) (cy : Nat → ClassId) (B N : Nat) (o : Int) (M : MM) (ho : o = 158 ∨ o = 165) (hN : (N : Int) = o + 1) (hd : DF o (o + 2) M) : CN l D cy B N (N + 1) 1 1 6 yX4_init cX4_init 1 [rv B o] M (fun M' => RR o (o + 2) M' ∧ F2 o (o + 2) M M') := by
  refine mk_CN (by decide) rfl (Nat.le_of_ble_eq_true rfl) ?_
  intro X exl exD excy hnL hX hin hRc hRs hret
  have hpl : pl o = ((2 : Nat) : Int) := pl_o (r := (RX4, TX4, 2)) (ko_0 ho) rfl
  have hG : F2 o (o + 2) M M := F2.rf
  have hD : DF (o + 1) (o + 2) M := hd.sub (by omega) (Int.le_refl _)
  have hU : UL o [] M := UL_0 (hd.at _ (by omega) (by omega))
  have hR : RR (o + 1) (o + 1) M := RR_0
  show J X B N 0 0 0 [(0, rv B o)] [] M
  refine j_aload_n hX dX4_init_0 rfl 0 rfl ?_
  refine j_objInit hX (in_2 119 (by first | rfl | decide +kernel) rfl) (in_1 28 (by first | rfl | decide +kernel) rfl) (in_1 29 (by first | rfl | decide +kernel) rfl) (by omega) (Nat.le_of_ble_eq_true rfl) dX4_init_1 ?_
  refine j_aload_n hX dX4_init_4 rfl 0 rfl ?_
  refine j_bipush hX dX4_init_5 rfl ?_
  refine j_newa hX (k := (o + 1)) (by omega) (t := 0) (n := 6) rfl (by decide) (in_1 163 (by first | rfl | decide +kernel) rfl) (kz_o1 ho) rfl (by decide) (hD.at _ (by omega) (by omega)) ⟨by omega, by omega⟩ dX4_init_7 ?_
  have hR1 : RR (o + 1) (o + 2) M := RR_s hR (Rg_plain (by omega) (by omega) (kz_o1 ho) (by decide) (hD.at _ (by omega) (by omega))) (by omega)
  refine pfF_X4_9 hX hin (by omega) (by omega) (ko_0 ho) (by omega) (by omega) dX4_init_9 ?_
  refine j_upN (fun M2 hM3 hf4 => ?_)
  have hG5 := F2.put hG hM3 ⟨by omega, by omega⟩
  have hD6 := DF_up hD hM3 (by omega)
  have hU7 := UL_up hU hM3
  have hR8 := RR_up hR1 hM3 (Or.inl (by omega))
  refine j_aload_n hX dX4_init_12 rfl 0 rfl ?_
  refine j_iconst hX dX4_init_13 ?_
  refine pf_X4_15 hX (by omega) (by omega) (ko_0 ho) (by omega) dX4_init_14 ?_
  refine j_upN (fun M9 hM10 hf11 => ?_)
  have hG12 := F2.put hG5 hM10 ⟨by omega, by omega⟩
  have hD13 := DF_up hD6 hM10 (by omega)
  have hU14 := UL_up hU7 hM10
  have hR15 := RR_up hR8 hM10 (Or.inl (by omega))
  have hk16 := kp_up hM10 (fun h => absurd h.2 (by decide)) hf4
  clear hf4
  have hRo : Rg o M9 := by
    refine Rg_obj (n := 2) hpl hU14 (by decide) (by omega) (fun j hj => ?_)
    rcases (by omega : j = 0 ∨ j = 1) with h | h
    · subst h
      show (rg o 0).1 ≤ M9.1 o 0 ∧ M9.1 o 0 ≤ (rg o 0).2
      rw [oz_0 ho, hk16]; exact ⟨by dsimp only; omega, by dsimp only; omega⟩
    · subst h
      show (rg o 1).1 ≤ M9.1 o 1 ∧ M9.1 o 1 ≤ (rg o 1).2
      rw [oz_1 ho, hf11]; exact ⟨by dsimp only; omega, by dsimp only; omega⟩
  have hRa : RR o (o + 2) M9 := RR_j (RR_s RR_0 hRo (by omega)) hR15
  exact j_widen (by omega) (by omega) (hret _ _ _ dX4_init_17 ⟨hRa, hG12⟩)
theorem dX2_init_0 : decode cX2_init 0 = .ok (.aload_n 0, 1) := by decide +kernel
theorem dX2_init_1 : decode cX2_init 1 = .ok (.invokespecial 3, 3) := by decide +kernel
theorem dX2_init_4 : decode cX2_init 4 = .ok (.aload_n 0, 1) := by decide +kernel
theorem dX2_init_5 : decode cX2_init 5 = .ok (.sipush 280, 3) := by decide +kernel
theorem dX2_init_8 : decode cX2_init 8 = .ok (.newarray .int, 2) := by decide +kernel
theorem dX2_init_10 : decode cX2_init 10 = .ok (.putfield 9, 3) := by decide +kernel
theorem dX2_init_13 : decode cX2_init 13 = .ok (.aload_n 0, 1) := by decide +kernel
theorem dX2_init_14 : decode cX2_init 14 = .ok (.bipush 32, 2) := by decide +kernel
theorem dX2_init_16 : decode cX2_init 16 = .ok (.newarray .int, 2) := by decide +kernel
theorem dX2_init_18 : decode cX2_init 18 = .ok (.putfield 15, 3) := by decide +kernel
theorem dX2_init_21 : decode cX2_init 21 = .ok (.aload_n 0, 1) := by decide +kernel
theorem dX2_init_22 : decode cX2_init 22 = .ok (.bipush 22, 2) := by decide +kernel
theorem dX2_init_24 : decode cX2_init 24 = .ok (.newarray .int, 2) := by decide +kernel
theorem dX2_init_26 : decode cX2_init 26 = .ok (.putfield 18, 3) := by decide +kernel
theorem dX2_init_29 : decode cX2_init 29 = .ok (.aload_n 0, 1) := by decide +kernel
theorem dX2_init_30 : decode cX2_init 30 = .ok (.iconst 0, 1) := by decide +kernel
theorem dX2_init_31 : decode cX2_init 31 = .ok (.putfield 21, 3) := by decide +kernel
theorem dX2_init_34 : decode cX2_init 34 = .ok (.aload_n 0, 1) := by decide +kernel
theorem dX2_init_35 : decode cX2_init 35 = .ok (.iconst 0, 1) := by decide +kernel
theorem dX2_init_36 : decode cX2_init 36 = .ok (.putfield 25, 3) := by decide +kernel
theorem dX2_init_39 : decode cX2_init 39 = .ok (.aload_n 0, 1) := by decide +kernel
theorem dX2_init_40 : decode cX2_init 40 = .ok (.iconst 0, 1) := by decide +kernel
theorem dX2_init_41 : decode cX2_init 41 = .ok (.putfield 28, 3) := by decide +kernel
theorem dX2_init_44 : decode cX2_init 44 = .ok (.return_, 1) := by decide +kernel
set_option maxHeartbeats 2000000 in
set_option maxRecDepth 20000 in
theorem c_X2_init (l : Launch) (D : va_G) (cy : Nat → ClassId) (B N : Nat) (q : Int) (M : MM) (hq : q = 5 ∨ q = 180) (hN : (N : Int) = (q + 15) + 1) (hd : DF (q + 15) (q + 19) M) : CN l D cy B N (N + 3) 1 3 334 yX2_init cX2_init 1 [rv B (q + 15)] M (fun M' => RR (q + 15) (q + 19) M' ∧ F2 (q + 15) (q + 19) M M') := by
  refine mk_CN (by decide) rfl (Nat.le_of_ble_eq_true rfl) ?_
  intro X exl exD excy hnL hX hin hRc hRs hret
  have hpl : pl (q + 15) = ((6 : Nat) : Int) := pl_o (r := (RX2, TX2, 6)) (kz_q15 hq) rfl
  have hG : F2 (q + 15) (q + 19) M M := F2.rf
  have hD : DF (q + 16) (q + 19) M := hd.sub (by omega) (Int.le_refl _)
  have hU : UL (q + 15) [] M := UL_0 (hd.at _ (by omega) (by omega))
  have hR : RR (q + 16) (q + 16) M := RR_0
  show J X B N 0 0 0 [(0, rv B (q + 15))] [] M
  refine j_aload_n hX dX2_init_0 rfl 0 rfl ?_
  refine j_objInit hX (in_1 141 (by first | rfl | decide +kernel) rfl) (in_1 28 (by first | rfl | decide +kernel) rfl) (in_1 29 (by first | rfl | decide +kernel) rfl) (by omega) (Nat.le_of_ble_eq_true rfl) dX2_init_1 ?_
  refine j_aload_n hX dX2_init_4 rfl 0 rfl ?_
  refine j_sipush hX dX2_init_5 rfl ?_
  refine j_newa hX (k := (q + 16)) (by omega) (t := 0) (n := 280) rfl (by decide) (in_1 163 (by first | rfl | decide +kernel) rfl) (kz_q16 hq) rfl (by decide) (hD.at _ (by omega) (by omega)) ⟨by omega, by omega⟩ dX2_init_8 ?_
  have hR1 : RR (q + 16) (q + 17) M := RR_s hR (Rg_plain (by omega) (by omega) (kz_q16 hq) (by decide) (hD.at _ (by omega) (by omega))) (by omega)
  refine pfF_X2_9 hX hin (by omega) (by omega) (kz_q15 hq) (by omega) (by omega) dX2_init_10 ?_
  refine j_upN (fun M2 hM3 hf4 => ?_)
  have hG5 := F2.put hG hM3 ⟨by omega, by omega⟩
  have hD6 := DF_up hD hM3 (by omega)
  have hU7 := UL_up hU hM3
  have hR8 := RR_up hR1 hM3 (Or.inl (by omega))
  refine j_aload_n hX dX2_init_13 rfl 0 rfl ?_
  refine j_bipush hX dX2_init_14 rfl ?_
  refine j_newa hX (k := (q + 17)) (by omega) (t := 0) (n := 32) rfl (by decide) (in_1 163 (by first | rfl | decide +kernel) rfl) (kz_q17 hq) rfl (by decide) (hD6.at _ (by omega) (by omega)) ⟨by omega, by omega⟩ dX2_init_16 ?_
  have hR9 : RR (q + 16) (q + 18) M2 := RR_s hR8 (Rg_plain (by omega) (by omega) (kz_q17 hq) (by decide) (hD6.at _ (by omega) (by omega))) (by omega)
  refine pfF_X2_15 hX hin (by omega) (by omega) (kz_q15 hq) (by omega) (by omega) dX2_init_18 ?_
  refine j_upN (fun M10 hM11 hf12 => ?_)
  have hG13 := F2.put hG5 hM11 ⟨by omega, by omega⟩
  have hD14 := DF_up hD6 hM11 (by omega)
  have hU15 := UL_up hU7 hM11
  have hR16 := RR_up hR9 hM11 (Or.inl (by omega))
  have hk17 := kp_up hM11 (fun h => absurd h.2 (by decide)) hf4
  clear hf4
  refine j_aload_n hX dX2_init_21 rfl 0 rfl ?_
  refine j_bipush hX dX2_init_22 rfl ?_
  refine j_newa hX (k := (q + 18)) (by omega) (t := 0) (n := 22) rfl (by decide) (in_1 163 (by first | rfl | decide +kernel) rfl) (kz_q18 hq) rfl (by decide) (hD14.at _ (by omega) (by omega)) ⟨by omega, by omega⟩ dX2_init_24 ?_
  have hR18 : RR (q + 16) (q + 19) M10 := RR_s hR16 (Rg_plain (by omega) (by omega) (kz_q18 hq) (by decide) (hD14.at _ (by omega) (by omega))) (by omega)
  refine pfF_X2_18 hX hin (by omega) (by omega) (kz_q15 hq) (by omega) (by omega) dX2_init_26 ?_
  refine j_upN (fun M19 hM20 hf21 => ?_)
  have hG22 := F2.put hG13 hM20 ⟨by omega, by omega⟩
  have hD23 := DF_up hD14 hM20 (by omega)
  have hU24 := UL_up hU15 hM20
  have hR25 := RR_up hR18 hM20 (Or.inl (by omega))
  have hk26 := kp_up hM20 (fun h => absurd h.2 (by decide)) hk17
  have hk27 := kp_up hM20 (fun h => absurd h.2 (by decide)) hf12
  clear hk17 hf12
  refine j_aload_n hX dX2_init_29 rfl 0 rfl ?_
  refine j_iconst hX dX2_init_30 ?_
  refine pf_X2_21 hX (by omega) (by omega) (kz_q15 hq) (by omega) dX2_init_31 ?_
  refine j_upN (fun M28 hM29 hf30 => ?_)
  have hG31 := F2.put hG22 hM29 ⟨by omega, by omega⟩
  have hD32 := DF_up hD23 hM29 (by omega)
  have hU33 := UL_up hU24 hM29
  have hR34 := RR_up hR25 hM29 (Or.inl (by omega))
  have hk35 := kp_up hM29 (fun h => absurd h.2 (by decide)) hk26
  have hk36 := kp_up hM29 (fun h => absurd h.2 (by decide)) hk27
  have hk37 := kp_up hM29 (fun h => absurd h.2 (by decide)) hf21
  clear hk26 hk27 hf21
  refine j_aload_n hX dX2_init_34 rfl 0 rfl ?_
  refine j_iconst hX dX2_init_35 ?_
  refine pf_X2_25 hX (by omega) (by omega) (kz_q15 hq) (by omega) dX2_init_36 ?_
  refine j_upN (fun M38 hM39 hf40 => ?_)
  have hG41 := F2.put hG31 hM39 ⟨by omega, by omega⟩
  have hD42 := DF_up hD32 hM39 (by omega)
  have hU43 := UL_up hU33 hM39
  have hR44 := RR_up hR34 hM39 (Or.inl (by omega))
  have hk45 := kp_up hM39 (fun h => absurd h.2 (by decide)) hk35
  have hk46 := kp_up hM39 (fun h => absurd h.2 (by decide)) hk36
  have hk47 := kp_up hM39 (fun h => absurd h.2 (by decide)) hk37
  have hk48 := kp_up hM39 (fun h => absurd h.2 (by decide)) hf30
  clear hk35 hk36 hk37 hf30
  refine j_aload_n hX dX2_init_39 rfl 0 rfl ?_
  refine j_iconst hX dX2_init_40 ?_
  refine pf_X2_28 hX (by omega) (by omega) (kz_q15 hq) (by omega) dX2_init_41 ?_
  refine j_upN (fun M49 hM50 hf51 => ?_)
  have hG52 := F2.put hG41 hM50 ⟨by omega, by omega⟩
  have hD53 := DF_up hD42 hM50 (by omega)
  have hU54 := UL_up hU43 hM50
  have hR55 := RR_up hR44 hM50 (Or.inl (by omega))
  have hk56 := kp_up hM50 (fun h => absurd h.2 (by decide)) hk45
  have hk57 := kp_up hM50 (fun h => absurd h.2 (by decide)) hk46
  have hk58 := kp_up hM50 (fun h => absurd h.2 (by decide)) hk47
  have hk59 := kp_up hM50 (fun h => absurd h.2 (by decide)) hk48
  have hk60 := kp_up hM50 (fun h => absurd h.2 (by decide)) hf40
  clear hk45 hk46 hk47 hk48 hf40
  have hRo : Rg (q + 15) M49 := by
    refine Rg_obj (n := 6) hpl hU54 (by decide) (by omega) (fun j hj => ?_)
    rcases (by omega : j = 0 ∨ j = 1 ∨ j = 2 ∨ j = 3 ∨ j = 4 ∨ j = 5) with h | h | h | h | h | h
    · subst h
      show (rg (q + 15) 0).1 ≤ M49.1 (q + 15) 0 ∧ M49.1 (q + 15) 0 ≤ (rg (q + 15) 0).2
      rw [fz_0 hq, hk56]; exact ⟨by dsimp only; omega, by dsimp only; omega⟩
    · subst h
      show (rg (q + 15) 1).1 ≤ M49.1 (q + 15) 1 ∧ M49.1 (q + 15) 1 ≤ (rg (q + 15) 1).2
      rw [fz_1 hq, hk57]; exact ⟨by dsimp only; omega, by dsimp only; omega⟩
    · subst h
      show (rg (q + 15) 2).1 ≤ M49.1 (q + 15) 2 ∧ M49.1 (q + 15) 2 ≤ (rg (q + 15) 2).2
      rw [fz_2 hq, hk58]; exact ⟨by dsimp only; omega, by dsimp only; omega⟩
    · subst h
      show (rg (q + 15) 3).1 ≤ M49.1 (q + 15) 3 ∧ M49.1 (q + 15) 3 ≤ (rg (q + 15) 3).2
      rw [fz_3 hq, hk59]; exact ⟨by dsimp only; omega, by dsimp only; omega⟩
    · subst h
      show (rg (q + 15) 4).1 ≤ M49.1 (q + 15) 4 ∧ M49.1 (q + 15) 4 ≤ (rg (q + 15) 4).2
      rw [fz_4 hq, hk60]; exact ⟨by dsimp only; omega, by dsimp only; omega⟩
    · subst h
      show (rg (q + 15) 5).1 ≤ M49.1 (q + 15) 5 ∧ M49.1 (q + 15) 5 ≤ (rg (q + 15) 5).2
      rw [fz_5 hq, hf51]; exact ⟨by dsimp only; omega, by dsimp only; omega⟩
  have hRa : RR (q + 15) (q + 19) M49 := RR_j (RR_s RR_0 hRo (by omega)) hR55
  exact j_widen (by omega) (by omega) (hret _ _ _ dX2_init_44 ⟨hRa, hG52⟩)
theorem dX1_init_0 : decode cX1_init 0 = .ok (.aload_n 0, 1) := by decide +kernel
theorem dX1_init_1 : decode cX1_init 1 = .ok (.invokespecial 3, 3) := by decide +kernel
theorem dX1_init_4 : decode cX1_init 4 = .ok (.aload_n 0, 1) := by decide +kernel
theorem dX1_init_5 : decode cX1_init 5 = .ok (.bipush 6, 2) := by decide +kernel
theorem dX1_init_7 : decode cX1_init 7 = .ok (.newarray .int, 2) := by decide +kernel
theorem dX1_init_9 : decode cX1_init 9 = .ok (.putfield 9, 3) := by decide +kernel
theorem dX1_init_12 : decode cX1_init 12 = .ok (.return_, 1) := by decide +kernel
set_option maxHeartbeats 2000000 in
set_option maxRecDepth 20000 in
theorem c_X1_init (l : Launch) (D : va_G) (cy : Nat → ClassId) (B N : Nat) (M : MM) (hN : (N : Int) = 151 + 1) (hd : DF 151 153 M) : CN l D cy B N (N + 1) 1 1 6 yX1_init cX1_init 1 [rv B 151] M (fun M' => RR 151 153 M' ∧ F2 151 153 M M') := by
  refine mk_CN (by decide) rfl (Nat.le_of_ble_eq_true rfl) ?_
  intro X exl exD excy hnL hX hin hRc hRs hret
  have hpl : pl 151 = ((1 : Nat) : Int) := pl_o (r := (RX1, TX1, 1)) (by decide +kernel : kd 151 = .inl 1) rfl
  have hG : F2 151 153 M M := F2.rf
  have hD : DF 152 153 M := hd.sub (by omega) (Int.le_refl _)
  have hU : UL 151 [] M := UL_0 (hd.at _ (by omega) (by omega))
  have hR : RR 152 152 M := RR_0
  show J X B N 0 0 0 [(0, rv B 151)] [] M
  refine j_aload_n hX dX1_init_0 rfl 0 rfl ?_
  refine j_objInit hX (in_2 101 (by first | rfl | decide +kernel) rfl) (in_1 28 (by first | rfl | decide +kernel) rfl) (in_1 29 (by first | rfl | decide +kernel) rfl) (by omega) (Nat.le_of_ble_eq_true rfl) dX1_init_1 ?_
  refine j_aload_n hX dX1_init_4 rfl 0 rfl ?_
  refine j_bipush hX dX1_init_5 rfl ?_
  refine j_newa hX (k := 152) (by omega) (t := 0) (n := 6) rfl (by decide) (in_1 163 (by first | rfl | decide +kernel) rfl) (by decide +kernel : kd 152 = .inr (0, 6)) rfl (by decide) (hD.at _ (by omega) (by omega)) ⟨by omega, by omega⟩ dX1_init_7 ?_
  have hR1 : RR 152 153 M := RR_s hR (Rg_plain (by omega) (by omega) (by decide +kernel : kd 152 = .inr (0, 6)) (by decide) (hD.at _ (by omega) (by omega))) (by omega)
  refine pfF_X1_9 hX hin (by omega) (by omega) (by decide +kernel : kd 151 = .inl 1) (by omega) (by omega) dX1_init_9 ?_
  refine j_upN (fun M2 hM3 hf4 => ?_)
  have hG5 := F2.put hG hM3 ⟨by omega, by omega⟩
  have hD6 := DF_up hD hM3 (by omega)
  have hU7 := UL_up hU hM3
  have hR8 := RR_up hR1 hM3 (Or.inl (by omega))
  have hRo : Rg 151 M2 := by
    refine Rg_obj (n := 1) hpl hU7 (by decide) (by omega) (fun j hj => ?_)
    rcases (by omega : j = 0 ∨ j = 0) with h | h
    · subst h
      show (rg 151 0).1 ≤ M2.1 151 0 ∧ M2.1 151 0 ≤ (rg 151 0).2
      rw [rz_151_0, hf4]; exact ⟨by dsimp only; omega, by dsimp only; omega⟩
    · subst h
      show (rg 151 0).1 ≤ M2.1 151 0 ∧ M2.1 151 0 ≤ (rg 151 0).2
      rw [rz_151_0, hf4]; exact ⟨by dsimp only; omega, by dsimp only; omega⟩
  have hRa : RR 151 153 M2 := RR_j (RR_s RR_0 hRo (by omega)) hR8
  exact j_widen (by omega) (by omega) (hret _ _ _ dX1_init_12 ⟨hRa, hG5⟩)
theorem dX6_init_0 : decode cX6_init 0 = .ok (.aload_n 0, 1) := by decide +kernel
theorem dX6_init_1 : decode cX6_init 1 = .ok (.invokespecial 3, 3) := by decide +kernel
theorem dX6_init_4 : decode cX6_init 4 = .ok (.aload_n 0, 1) := by decide +kernel
theorem dX6_init_5 : decode cX6_init 5 = .ok (.iconst 0, 1) := by decide +kernel
theorem dX6_init_6 : decode cX6_init 6 = .ok (.putfield 9, 3) := by decide +kernel
theorem dX6_init_9 : decode cX6_init 9 = .ok (.aload_n 0, 1) := by decide +kernel
theorem dX6_init_10 : decode cX6_init 10 = .ok (.bipush 6, 2) := by decide +kernel
theorem dX6_init_12 : decode cX6_init 12 = .ok (.newarray .long, 2) := by decide +kernel
theorem dX6_init_14 : decode cX6_init 14 = .ok (.putfield 15, 3) := by decide +kernel
theorem dX6_init_17 : decode cX6_init 17 = .ok (.aload_n 0, 1) := by decide +kernel
theorem dX6_init_18 : decode cX6_init 18 = .ok (.bipush 6, 2) := by decide +kernel
theorem dX6_init_20 : decode cX6_init 20 = .ok (.newarray .int, 2) := by decide +kernel
theorem dX6_init_22 : decode cX6_init 22 = .ok (.putfield 19, 3) := by decide +kernel
theorem dX6_init_25 : decode cX6_init 25 = .ok (.aload_n 0, 1) := by decide +kernel
theorem dX6_init_26 : decode cX6_init 26 = .ok (.iconst 0, 1) := by decide +kernel
theorem dX6_init_27 : decode cX6_init 27 = .ok (.putfield 23, 3) := by decide +kernel
theorem dX6_init_30 : decode cX6_init 30 = .ok (.aload_n 0, 1) := by decide +kernel
theorem dX6_init_31 : decode cX6_init 31 = .ok (.iconst 0, 1) := by decide +kernel
theorem dX6_init_32 : decode cX6_init 32 = .ok (.putfield 26, 3) := by decide +kernel
theorem dX6_init_35 : decode cX6_init 35 = .ok (.aload_n 0, 1) := by decide +kernel
theorem dX6_init_36 : decode cX6_init 36 = .ok (.bipush 10, 2) := by decide +kernel
theorem dX6_init_38 : decode cX6_init 38 = .ok (.newarray .long, 2) := by decide +kernel
theorem dX6_init_40 : decode cX6_init 40 = .ok (.putfield 29, 3) := by decide +kernel
theorem dX6_init_43 : decode cX6_init 43 = .ok (.aload_n 0, 1) := by decide +kernel
theorem dX6_init_44 : decode cX6_init 44 = .ok (.bipush 10, 2) := by decide +kernel
theorem dX6_init_46 : decode cX6_init 46 = .ok (.newarray .int, 2) := by decide +kernel
theorem dX6_init_48 : decode cX6_init 48 = .ok (.putfield 32, 3) := by decide +kernel
theorem dX6_init_51 : decode cX6_init 51 = .ok (.aload_n 0, 1) := by decide +kernel
theorem dX6_init_52 : decode cX6_init 52 = .ok (.bipush 10, 2) := by decide +kernel
theorem dX6_init_54 : decode cX6_init 54 = .ok (.newarray .int, 2) := by decide +kernel
theorem dX6_init_56 : decode cX6_init 56 = .ok (.putfield 35, 3) := by decide +kernel
theorem dX6_init_59 : decode cX6_init 59 = .ok (.aload_n 0, 1) := by decide +kernel
theorem dX6_init_60 : decode cX6_init 60 = .ok (.iconst 0, 1) := by decide +kernel
theorem dX6_init_61 : decode cX6_init 61 = .ok (.putfield 38, 3) := by decide +kernel
theorem dX6_init_64 : decode cX6_init 64 = .ok (.aload_n 0, 1) := by decide +kernel
theorem dX6_init_65 : decode cX6_init 65 = .ok (.iconst 0, 1) := by decide +kernel
theorem dX6_init_66 : decode cX6_init 66 = .ok (.putfield 41, 3) := by decide +kernel
theorem dX6_init_69 : decode cX6_init 69 = .ok (.aload_n 0, 1) := by decide +kernel
theorem dX6_init_70 : decode cX6_init 70 = .ok (.bipush 6, 2) := by decide +kernel
theorem dX6_init_72 : decode cX6_init 72 = .ok (.newarray .int, 2) := by decide +kernel
theorem dX6_init_74 : decode cX6_init 74 = .ok (.putfield 45, 3) := by decide +kernel
theorem dX6_init_77 : decode cX6_init 77 = .ok (.aload_n 0, 1) := by decide +kernel
theorem dX6_init_78 : decode cX6_init 78 = .ok (.iconst 0, 1) := by decide +kernel
theorem dX6_init_79 : decode cX6_init 79 = .ok (.putfield 48, 3) := by decide +kernel
theorem dX6_init_82 : decode cX6_init 82 = .ok (.aload_n 0, 1) := by decide +kernel
theorem dX6_init_83 : decode cX6_init 83 = .ok (.bipush 6, 2) := by decide +kernel
theorem dX6_init_85 : decode cX6_init 85 = .ok (.newarray .int, 2) := by decide +kernel
theorem dX6_init_87 : decode cX6_init 87 = .ok (.putfield 51, 3) := by decide +kernel
theorem dX6_init_90 : decode cX6_init 90 = .ok (.aload_n 0, 1) := by decide +kernel
theorem dX6_init_91 : decode cX6_init 91 = .ok (.bipush 6, 2) := by decide +kernel
theorem dX6_init_93 : decode cX6_init 93 = .ok (.bipush 6, 2) := by decide +kernel
theorem dX6_init_95 : decode cX6_init 95 = .ok (.multianewarray 54 2, 4) := by decide +kernel
theorem dX6_init_99 : decode cX6_init 99 = .ok (.putfield 56, 3) := by decide +kernel
theorem dX6_init_102 : decode cX6_init 102 = .ok (.aload_n 0, 1) := by decide +kernel
theorem dX6_init_103 : decode cX6_init 103 = .ok (.iconst (-1), 1) := by decide +kernel
theorem dX6_init_104 : decode cX6_init 104 = .ok (.putfield 59, 3) := by decide +kernel
theorem dX6_init_107 : decode cX6_init 107 = .ok (.aload_n 0, 1) := by decide +kernel
theorem dX6_init_108 : decode cX6_init 108 = .ok (.iconst (-1), 1) := by decide +kernel
theorem dX6_init_109 : decode cX6_init 109 = .ok (.putfield 62, 3) := by decide +kernel
theorem dX6_init_112 : decode cX6_init 112 = .ok (.aload_n 0, 1) := by decide +kernel
theorem dX6_init_113 : decode cX6_init 113 = .ok (.iconst (-1), 1) := by decide +kernel
theorem dX6_init_114 : decode cX6_init 114 = .ok (.putfield 65, 3) := by decide +kernel
theorem dX6_init_117 : decode cX6_init 117 = .ok (.aload_n 0, 1) := by decide +kernel
theorem dX6_init_118 : decode cX6_init 118 = .ok (.new 68, 3) := by decide +kernel
theorem dX6_init_121 : decode cX6_init 121 = .ok (.dup, 1) := by decide +kernel
theorem dX6_init_122 : decode cX6_init 122 = .ok (.invokespecial 70, 3) := by decide +kernel
theorem dX6_init_125 : decode cX6_init 125 = .ok (.putfield 71, 3) := by decide +kernel
theorem dX6_init_128 : decode cX6_init 128 = .ok (.aload_n 0, 1) := by decide +kernel
theorem dX6_init_129 : decode cX6_init 129 = .ok (.bipush 6, 2) := by decide +kernel
theorem dX6_init_131 : decode cX6_init 131 = .ok (.newarray .int, 2) := by decide +kernel
theorem dX6_init_133 : decode cX6_init 133 = .ok (.putfield 75, 3) := by decide +kernel
theorem dX6_init_136 : decode cX6_init 136 = .ok (.aload_n 0, 1) := by decide +kernel
theorem dX6_init_137 : decode cX6_init 137 = .ok (.bipush 24, 2) := by decide +kernel
theorem dX6_init_139 : decode cX6_init 139 = .ok (.newarray .int, 2) := by decide +kernel
theorem dX6_init_141 : decode cX6_init 141 = .ok (.putfield 78, 3) := by decide +kernel
theorem dX6_init_144 : decode cX6_init 144 = .ok (.return_, 1) := by decide +kernel
set_option maxHeartbeats 2000000 in
set_option maxRecDepth 20000 in
theorem c_X6_init (l : Launch) (D : va_G) (cy : Nat → ClassId) (B N : Nat) (q : Int) (M : MM) (hq : q = 5 ∨ q = 180) (hN : (N : Int) = q + 1) (hd : DF q (q + 21) M) : CN l D cy B N (N + 20) 2 20 466 yX6_init cX6_init 1 [rv B q] M (fun M' => RR q (q + 21) M' ∧ F2 q (q + 21) M M' ∧ (M'.1 q 0 = 0)) := by
  refine mk_CN (by decide) rfl (Nat.le_of_ble_eq_true rfl) ?_
  intro X exl exD excy hnL hX hin hRc hRs hret
  have hpl : pl q = ((20 : Nat) : Int) := pl_o (r := (RX6, TX6, 20)) (kq hq) rfl
  have hG : F2 q (q + 21) M M := F2.rf
  have hD : DF (q + 1) (q + 21) M := hd.sub (by omega) (Int.le_refl _)
  have hU : UL q [] M := UL_0 (hd.at _ (by omega) (by omega))
  have hR : RR (q + 1) (q + 1) M := RR_0
  show J X B N 0 0 0 [(0, rv B q)] [] M
  refine j_aload_n hX dX6_init_0 rfl 0 rfl ?_
  refine j_objInit hX (in_1 133 (by first | rfl | decide +kernel) rfl) (in_1 28 (by first | rfl | decide +kernel) rfl) (in_1 29 (by first | rfl | decide +kernel) rfl) (by omega) (Nat.le_of_ble_eq_true rfl) dX6_init_1 ?_
  refine j_aload_n hX dX6_init_4 rfl 0 rfl ?_
  refine j_iconst hX dX6_init_5 ?_
  refine pf_X6_9 hX (by omega) (by omega) (kq hq) (by omega) dX6_init_6 ?_
  refine j_upN (fun M1 hM2 hf3 => ?_)
  have hG4 := F2.put hG hM2 ⟨by omega, by omega⟩
  have hD5 := DF_up hD hM2 (by omega)
  have hU6 := UL_up hU hM2
  have hR7 := RR_up hR hM2 (Or.inl (by omega))
  refine j_aload_n hX dX6_init_9 rfl 0 rfl ?_
  refine j_bipush hX dX6_init_10 rfl ?_
  refine j_newa hX (k := (q + 1)) (by omega) (t := 3) (n := 6) rfl (by decide) (in_1 127 (by first | rfl | decide +kernel) rfl) (kz_q1 hq) rfl (by decide) (hD5.at _ (by omega) (by omega)) ⟨by omega, by omega⟩ dX6_init_12 ?_
  have hR8 : RR (q + 1) (q + 2) M1 := RR_s hR7 (Rg_plain (by omega) (by omega) (kz_q1 hq) (by decide) (hD5.at _ (by omega) (by omega))) (by omega)
  refine pfF_X6_15 hX hin (by omega) (by omega) (kq hq) (by omega) (by omega) dX6_init_14 ?_
  refine j_upN (fun M9 hM10 hf11 => ?_)
  have hG12 := F2.put hG4 hM10 ⟨by omega, by omega⟩
  have hD13 := DF_up hD5 hM10 (by omega)
  have hU14 := UL_up hU6 hM10
  have hR15 := RR_up hR8 hM10 (Or.inl (by omega))
  have hk16 := kp_up hM10 (fun h => absurd h.2 (by decide)) hf3
  clear hf3
  refine j_aload_n hX dX6_init_17 rfl 0 rfl ?_
  refine j_bipush hX dX6_init_18 rfl ?_
  refine j_newa hX (k := (q + 2)) (by omega) (t := 0) (n := 6) rfl (by decide) (in_1 163 (by first | rfl | decide +kernel) rfl) (kz_q2 hq) rfl (by decide) (hD13.at _ (by omega) (by omega)) ⟨by omega, by omega⟩ dX6_init_20 ?_
  have hR17 : RR (q + 1) (q + 3) M9 := RR_s hR15 (Rg_plain (by omega) (by omega) (kz_q2 hq) (by decide) (hD13.at _ (by omega) (by omega))) (by omega)
  refine pfF_X6_19 hX hin (by omega) (by omega) (kq hq) (by omega) (by omega) dX6_init_22 ?_
  refine j_upN (fun M18 hM19 hf20 => ?_)
  have hG21 := F2.put hG12 hM19 ⟨by omega, by omega⟩
  have hD22 := DF_up hD13 hM19 (by omega)
  have hU23 := UL_up hU14 hM19
  have hR24 := RR_up hR17 hM19 (Or.inl (by omega))
  have hk25 := kp_up hM19 (fun h => absurd h.2 (by decide)) hk16
  have hk26 := kp_up hM19 (fun h => absurd h.2 (by decide)) hf11
  clear hk16 hf11
  refine j_aload_n hX dX6_init_25 rfl 0 rfl ?_
  refine j_iconst hX dX6_init_26 ?_
  refine pf_X6_23 hX (by omega) (by omega) (kq hq) (by omega) dX6_init_27 ?_
  refine j_upN (fun M27 hM28 hf29 => ?_)
  have hG30 := F2.put hG21 hM28 ⟨by omega, by omega⟩
  have hD31 := DF_up hD22 hM28 (by omega)
  have hU32 := UL_up hU23 hM28
  have hR33 := RR_up hR24 hM28 (Or.inl (by omega))
  have hk34 := kp_up hM28 (fun h => absurd h.2 (by decide)) hk25
  have hk35 := kp_up hM28 (fun h => absurd h.2 (by decide)) hk26
  have hk36 := kp_up hM28 (fun h => absurd h.2 (by decide)) hf20
  clear hk25 hk26 hf20
  refine j_aload_n hX dX6_init_30 rfl 0 rfl ?_
  refine j_iconst hX dX6_init_31 ?_
  refine pf_X6_26 hX (by omega) (by omega) (kq hq) (by omega) dX6_init_32 ?_
  refine j_upN (fun M37 hM38 hf39 => ?_)
  have hG40 := F2.put hG30 hM38 ⟨by omega, by omega⟩
  have hD41 := DF_up hD31 hM38 (by omega)
  have hU42 := UL_up hU32 hM38
  have hR43 := RR_up hR33 hM38 (Or.inl (by omega))
  have hk44 := kp_up hM38 (fun h => absurd h.2 (by decide)) hk34
  have hk45 := kp_up hM38 (fun h => absurd h.2 (by decide)) hk35
  have hk46 := kp_up hM38 (fun h => absurd h.2 (by decide)) hk36
  have hk47 := kp_up hM38 (fun h => absurd h.2 (by decide)) hf29
  clear hk34 hk35 hk36 hf29
  refine j_aload_n hX dX6_init_35 rfl 0 rfl ?_
  refine j_bipush hX dX6_init_36 rfl ?_
  refine j_newa hX (k := (q + 3)) (by omega) (t := 3) (n := 10) rfl (by decide) (in_1 127 (by first | rfl | decide +kernel) rfl) (kz_q3 hq) rfl (by decide) (hD41.at _ (by omega) (by omega)) ⟨by omega, by omega⟩ dX6_init_38 ?_
  have hR48 : RR (q + 1) (q + 4) M37 := RR_s hR43 (Rg_plain (by omega) (by omega) (kz_q3 hq) (by decide) (hD41.at _ (by omega) (by omega))) (by omega)
  refine pfF_X6_29 hX hin (by omega) (by omega) (kq hq) (by omega) (by omega) dX6_init_40 ?_
  refine j_upN (fun M49 hM50 hf51 => ?_)
  have hG52 := F2.put hG40 hM50 ⟨by omega, by omega⟩
  have hD53 := DF_up hD41 hM50 (by omega)
  have hU54 := UL_up hU42 hM50
  have hR55 := RR_up hR48 hM50 (Or.inl (by omega))
  have hk56 := kp_up hM50 (fun h => absurd h.2 (by decide)) hk44
  have hk57 := kp_up hM50 (fun h => absurd h.2 (by decide)) hk45
  have hk58 := kp_up hM50 (fun h => absurd h.2 (by decide)) hk46
  have hk59 := kp_up hM50 (fun h => absurd h.2 (by decide)) hk47
  have hk60 := kp_up hM50 (fun h => absurd h.2 (by decide)) hf39
  clear hk44 hk45 hk46 hk47 hf39
  refine j_aload_n hX dX6_init_43 rfl 0 rfl ?_
  refine j_bipush hX dX6_init_44 rfl ?_
  refine j_newa hX (k := (q + 4)) (by omega) (t := 0) (n := 10) rfl (by decide) (in_1 163 (by first | rfl | decide +kernel) rfl) (kz_q4 hq) rfl (by decide) (hD53.at _ (by omega) (by omega)) ⟨by omega, by omega⟩ dX6_init_46 ?_
  have hR61 : RR (q + 1) (q + 5) M49 := RR_s hR55 (Rg_plain (by omega) (by omega) (kz_q4 hq) (by decide) (hD53.at _ (by omega) (by omega))) (by omega)
  refine pfF_X6_32 hX hin (by omega) (by omega) (kq hq) (by omega) (by omega) dX6_init_48 ?_
  refine j_upN (fun M62 hM63 hf64 => ?_)
  have hG65 := F2.put hG52 hM63 ⟨by omega, by omega⟩
  have hD66 := DF_up hD53 hM63 (by omega)
  have hU67 := UL_up hU54 hM63
  have hR68 := RR_up hR61 hM63 (Or.inl (by omega))
  have hk69 := kp_up hM63 (fun h => absurd h.2 (by decide)) hk56
  have hk70 := kp_up hM63 (fun h => absurd h.2 (by decide)) hk57
  have hk71 := kp_up hM63 (fun h => absurd h.2 (by decide)) hk58
  have hk72 := kp_up hM63 (fun h => absurd h.2 (by decide)) hk59
  have hk73 := kp_up hM63 (fun h => absurd h.2 (by decide)) hk60
  have hk74 := kp_up hM63 (fun h => absurd h.2 (by decide)) hf51
  clear hk56 hk57 hk58 hk59 hk60 hf51
  refine j_aload_n hX dX6_init_51 rfl 0 rfl ?_
  refine j_bipush hX dX6_init_52 rfl ?_
  refine j_newa hX (k := (q + 5)) (by omega) (t := 0) (n := 10) rfl (by decide) (in_1 163 (by first | rfl | decide +kernel) rfl) (kz_q5 hq) rfl (by decide) (hD66.at _ (by omega) (by omega)) ⟨by omega, by omega⟩ dX6_init_54 ?_
  have hR75 : RR (q + 1) (q + 6) M62 := RR_s hR68 (Rg_plain (by omega) (by omega) (kz_q5 hq) (by decide) (hD66.at _ (by omega) (by omega))) (by omega)
  refine pfF_X6_35 hX hin (by omega) (by omega) (kq hq) (by omega) (by omega) dX6_init_56 ?_
  refine j_upN (fun M76 hM77 hf78 => ?_)
  have hG79 := F2.put hG65 hM77 ⟨by omega, by omega⟩
  have hD80 := DF_up hD66 hM77 (by omega)
  have hU81 := UL_up hU67 hM77
  have hR82 := RR_up hR75 hM77 (Or.inl (by omega))
  have hk83 := kp_up hM77 (fun h => absurd h.2 (by decide)) hk69
  have hk84 := kp_up hM77 (fun h => absurd h.2 (by decide)) hk70
  have hk85 := kp_up hM77 (fun h => absurd h.2 (by decide)) hk71
  have hk86 := kp_up hM77 (fun h => absurd h.2 (by decide)) hk72
  have hk87 := kp_up hM77 (fun h => absurd h.2 (by decide)) hk73
  have hk88 := kp_up hM77 (fun h => absurd h.2 (by decide)) hk74
  have hk89 := kp_up hM77 (fun h => absurd h.2 (by decide)) hf64
  clear hk69 hk70 hk71 hk72 hk73 hk74 hf64
  refine j_aload_n hX dX6_init_59 rfl 0 rfl ?_
  refine j_iconst hX dX6_init_60 ?_
  refine pf_X6_38 hX (by omega) (by omega) (kq hq) (by omega) dX6_init_61 ?_
  refine j_upN (fun M90 hM91 hf92 => ?_)
  have hG93 := F2.put hG79 hM91 ⟨by omega, by omega⟩
  have hD94 := DF_up hD80 hM91 (by omega)
  have hU95 := UL_up hU81 hM91
  have hR96 := RR_up hR82 hM91 (Or.inl (by omega))
  have hk97 := kp_up hM91 (fun h => absurd h.2 (by decide)) hk83
  have hk98 := kp_up hM91 (fun h => absurd h.2 (by decide)) hk84
  have hk99 := kp_up hM91 (fun h => absurd h.2 (by decide)) hk85
  have hk100 := kp_up hM91 (fun h => absurd h.2 (by decide)) hk86
  have hk101 := kp_up hM91 (fun h => absurd h.2 (by decide)) hk87
  have hk102 := kp_up hM91 (fun h => absurd h.2 (by decide)) hk88
  have hk103 := kp_up hM91 (fun h => absurd h.2 (by decide)) hk89
  have hk104 := kp_up hM91 (fun h => absurd h.2 (by decide)) hf78
  clear hk83 hk84 hk85 hk86 hk87 hk88 hk89 hf78
  refine j_aload_n hX dX6_init_64 rfl 0 rfl ?_
  refine j_iconst hX dX6_init_65 ?_
  refine pf_X6_41 hX (by omega) (by omega) (kq hq) (Or.inl rfl) dX6_init_66 ?_
  refine j_upN (fun M105 hM106 hf107 => ?_)
  have hG108 := F2.put hG93 hM106 ⟨by omega, by omega⟩
  have hD109 := DF_up hD94 hM106 (by omega)
  have hU110 := UL_up hU95 hM106
  have hR111 := RR_up hR96 hM106 (Or.inl (by omega))
  have hk112 := kp_up hM106 (fun h => absurd h.2 (by decide)) hk97
  have hk113 := kp_up hM106 (fun h => absurd h.2 (by decide)) hk98
  have hk114 := kp_up hM106 (fun h => absurd h.2 (by decide)) hk99
  have hk115 := kp_up hM106 (fun h => absurd h.2 (by decide)) hk100
  have hk116 := kp_up hM106 (fun h => absurd h.2 (by decide)) hk101
  have hk117 := kp_up hM106 (fun h => absurd h.2 (by decide)) hk102
  have hk118 := kp_up hM106 (fun h => absurd h.2 (by decide)) hk103
  have hk119 := kp_up hM106 (fun h => absurd h.2 (by decide)) hk104
  have hk120 := kp_up hM106 (fun h => absurd h.2 (by decide)) hf92
  clear hk97 hk98 hk99 hk100 hk101 hk102 hk103 hk104 hf92
  refine j_aload_n hX dX6_init_69 rfl 0 rfl ?_
  refine j_bipush hX dX6_init_70 rfl ?_
  refine j_newa hX (k := (q + 6)) (by omega) (t := 0) (n := 6) rfl (by decide) (in_1 163 (by first | rfl | decide +kernel) rfl) (kz_q6 hq) rfl (by decide) (hD109.at _ (by omega) (by omega)) ⟨by omega, by omega⟩ dX6_init_72 ?_
  have hR121 : RR (q + 1) (q + 7) M105 := RR_s hR111 (Rg_plain (by omega) (by omega) (kz_q6 hq) (by decide) (hD109.at _ (by omega) (by omega))) (by omega)
  refine pfF_X6_45 hX hin (by omega) (by omega) (kq hq) (by omega) (by omega) dX6_init_74 ?_
  refine j_upN (fun M122 hM123 hf124 => ?_)
  have hG125 := F2.put hG108 hM123 ⟨by omega, by omega⟩
  have hD126 := DF_up hD109 hM123 (by omega)
  have hU127 := UL_up hU110 hM123
  have hR128 := RR_up hR121 hM123 (Or.inl (by omega))
  have hk129 := kp_up hM123 (fun h => absurd h.2 (by decide)) hk112
  have hk130 := kp_up hM123 (fun h => absurd h.2 (by decide)) hk113
  have hk131 := kp_up hM123 (fun h => absurd h.2 (by decide)) hk114
  have hk132 := kp_up hM123 (fun h => absurd h.2 (by decide)) hk115
  have hk133 := kp_up hM123 (fun h => absurd h.2 (by decide)) hk116
  have hk134 := kp_up hM123 (fun h => absurd h.2 (by decide)) hk117
  have hk135 := kp_up hM123 (fun h => absurd h.2 (by decide)) hk118
  have hk136 := kp_up hM123 (fun h => absurd h.2 (by decide)) hk119
  have hk137 := kp_up hM123 (fun h => absurd h.2 (by decide)) hk120
  have hk138 := kp_up hM123 (fun h => absurd h.2 (by decide)) hf107
  clear hk112 hk113 hk114 hk115 hk116 hk117 hk118 hk119 hk120 hf107
  refine j_aload_n hX dX6_init_77 rfl 0 rfl ?_
  refine j_iconst hX dX6_init_78 ?_
  refine pf_X6_48 hX (by omega) (by omega) (kq hq) (by omega) dX6_init_79 ?_
  refine j_upN (fun M139 hM140 hf141 => ?_)
  have hG142 := F2.put hG125 hM140 ⟨by omega, by omega⟩
  have hD143 := DF_up hD126 hM140 (by omega)
  have hU144 := UL_up hU127 hM140
  have hR145 := RR_up hR128 hM140 (Or.inl (by omega))
  have hk146 := kp_up hM140 (fun h => absurd h.2 (by decide)) hk129
  have hk147 := kp_up hM140 (fun h => absurd h.2 (by decide)) hk130
  have hk148 := kp_up hM140 (fun h => absurd h.2 (by decide)) hk131
  have hk149 := kp_up hM140 (fun h => absurd h.2 (by decide)) hk132
  have hk150 := kp_up hM140 (fun h => absurd h.2 (by decide)) hk133
  have hk151 := kp_up hM140 (fun h => absurd h.2 (by decide)) hk134
  have hk152 := kp_up hM140 (fun h => absurd h.2 (by decide)) hk135
  have hk153 := kp_up hM140 (fun h => absurd h.2 (by decide)) hk136
  have hk154 := kp_up hM140 (fun h => absurd h.2 (by decide)) hk137
  have hk155 := kp_up hM140 (fun h => absurd h.2 (by decide)) hk138
  have hk156 := kp_up hM140 (fun h => absurd h.2 (by decide)) hf124
  clear hk129 hk130 hk131 hk132 hk133 hk134 hk135 hk136 hk137 hk138 hf124
  refine j_aload_n hX dX6_init_82 rfl 0 rfl ?_
  refine j_bipush hX dX6_init_83 rfl ?_
  refine j_newa hX (k := (q + 7)) (by omega) (t := 0) (n := 6) rfl (by decide) (in_1 163 (by first | rfl | decide +kernel) rfl) (kz_q7 hq) rfl (by decide) (hD143.at _ (by omega) (by omega)) ⟨by omega, by omega⟩ dX6_init_85 ?_
  have hR157 : RR (q + 1) (q + 8) M139 := RR_s hR145 (Rg_plain (by omega) (by omega) (kz_q7 hq) (by decide) (hD143.at _ (by omega) (by omega))) (by omega)
  refine pfF_X6_51 hX hin (by omega) (by omega) (kq hq) (by omega) (by omega) dX6_init_87 ?_
  refine j_upN (fun M158 hM159 hf160 => ?_)
  have hG161 := F2.put hG142 hM159 ⟨by omega, by omega⟩
  have hD162 := DF_up hD143 hM159 (by omega)
  have hU163 := UL_up hU144 hM159
  have hR164 := RR_up hR157 hM159 (Or.inl (by omega))
  have hk165 := kp_up hM159 (fun h => absurd h.2 (by decide)) hk146
  have hk166 := kp_up hM159 (fun h => absurd h.2 (by decide)) hk147
  have hk167 := kp_up hM159 (fun h => absurd h.2 (by decide)) hk148
  have hk168 := kp_up hM159 (fun h => absurd h.2 (by decide)) hk149
  have hk169 := kp_up hM159 (fun h => absurd h.2 (by decide)) hk150
  have hk170 := kp_up hM159 (fun h => absurd h.2 (by decide)) hk151
  have hk171 := kp_up hM159 (fun h => absurd h.2 (by decide)) hk152
  have hk172 := kp_up hM159 (fun h => absurd h.2 (by decide)) hk153
  have hk173 := kp_up hM159 (fun h => absurd h.2 (by decide)) hk154
  have hk174 := kp_up hM159 (fun h => absurd h.2 (by decide)) hk155
  have hk175 := kp_up hM159 (fun h => absurd h.2 (by decide)) hk156
  have hk176 := kp_up hM159 (fun h => absurd h.2 (by decide)) hf141
  clear hk146 hk147 hk148 hk149 hk150 hk151 hk152 hk153 hk154 hk155 hk156 hf141
  refine j_aload_n hX dX6_init_90 rfl 0 rfl ?_
  refine j_bipush hX dX6_init_91 rfl ?_
  refine j_bipush hX dX6_init_93 rfl ?_
  refine j_mna hX (k := (q + 8)) (by omega) (in_1 134 (by first | rfl | decide +kernel) rfl) (in_1 163 (by first | rfl | decide +kernel) rfl) (kz_q8 hq) (fun i h0 h1 => kwq hq h0 h1) (hD162.sub (lo' := (q + 8)) (hi' := (q + 8) + 7) (by omega) (by omega)) (M' := rw6 (q + 8) M158) (rw6_1 rfl) (rw6_2 rfl) (rw6_3 rfl) (by omega) ⟨by omega, by omega⟩ dX6_init_95 ?_
  refine j_rw6 (fun M177 hM178 => ?_)
  have hM178f := rw6_f hM178
  have hG179 := F2.trans hG161 hM178f (by omega) (by omega)
  have hD180 := DF_f2 (hD162.sub (lo' := (q + 9)) (by omega) (Int.le_refl _)) hM178f (by omega)
  have hU181 := UL_f2 hU163 hM178f (by omega)
  have hR182 := RR_f2 hR164 hM178f (Or.inl (by omega))
  have hk183 := kp_f2 hM178f (by omega) hk165
  have hk184 := kp_f2 hM178f (by omega) hk166
  have hk185 := kp_f2 hM178f (by omega) hk167
  have hk186 := kp_f2 hM178f (by omega) hk168
  have hk187 := kp_f2 hM178f (by omega) hk169
  have hk188 := kp_f2 hM178f (by omega) hk170
  have hk189 := kp_f2 hM178f (by omega) hk171
  have hk190 := kp_f2 hM178f (by omega) hk172
  have hk191 := kp_f2 hM178f (by omega) hk173
  have hk192 := kp_f2 hM178f (by omega) hk174
  have hk193 := kp_f2 hM178f (by omega) hk175
  have hk194 := kp_f2 hM178f (by omega) hk176
  have hk195 := kp_f2 hM178f (by omega) hf160
  clear hk165 hk166 hk167 hk168 hk169 hk170 hk171 hk172 hk173 hk174 hk175 hk176 hf160
  have hR196 : RR (q + 1) (q + 9) M177 := RR_s hR182 (Rg_rows (hD162.at _ (by omega) (by omega)) (kz_q8 hq) (rw6_1 hM178) (fun b h => rw6_2 hM178 _ b (fun q => h q.2)) (fun i h0 h1 => rwq hq h0 h1) (by omega)) (by omega)
  have hR197 : RR (q + 1) (q + 10) M177 := RR_s hR196 (Rg_plain (by omega) (by omega) (kz_q9 hq) (by decide) (hD180.at _ (by omega) (by omega))) (by omega)
  have hR198 : RR (q + 1) (q + 11) M177 := RR_s hR197 (Rg_plain (by omega) (by omega) (kz_q10 hq) (by decide) (hD180.at _ (by omega) (by omega))) (by omega)
  have hR199 : RR (q + 1) (q + 12) M177 := RR_s hR198 (Rg_plain (by omega) (by omega) (kz_q11 hq) (by decide) (hD180.at _ (by omega) (by omega))) (by omega)
  have hR200 : RR (q + 1) (q + 13) M177 := RR_s hR199 (Rg_plain (by omega) (by omega) (kz_q12 hq) (by decide) (hD180.at _ (by omega) (by omega))) (by omega)
  have hR201 : RR (q + 1) (q + 14) M177 := RR_s hR200 (Rg_plain (by omega) (by omega) (kz_q13 hq) (by decide) (hD180.at _ (by omega) (by omega))) (by omega)
  have hR202 : RR (q + 1) (q + 15) M177 := RR_s hR201 (Rg_plain (by omega) (by omega) (kz_q14 hq) (by decide) (hD180.at _ (by omega) (by omega))) (by omega)
  refine pfF_X6_56 hX hin (by omega) (by omega) (kq hq) (by omega) (by omega) dX6_init_99 ?_
  refine j_upN (fun M203 hM204 hf205 => ?_)
  have hG206 := F2.put hG179 hM204 ⟨by omega, by omega⟩
  have hD207 := DF_up hD180 hM204 (by omega)
  have hU208 := UL_up hU181 hM204
  have hR209 := RR_up hR202 hM204 (Or.inl (by omega))
  have hk210 := kp_up hM204 (fun h => absurd h.2 (by decide)) hk183
  have hk211 := kp_up hM204 (fun h => absurd h.2 (by decide)) hk184
  have hk212 := kp_up hM204 (fun h => absurd h.2 (by decide)) hk185
  have hk213 := kp_up hM204 (fun h => absurd h.2 (by decide)) hk186
  have hk214 := kp_up hM204 (fun h => absurd h.2 (by decide)) hk187
  have hk215 := kp_up hM204 (fun h => absurd h.2 (by decide)) hk188
  have hk216 := kp_up hM204 (fun h => absurd h.2 (by decide)) hk189
  have hk217 := kp_up hM204 (fun h => absurd h.2 (by decide)) hk190
  have hk218 := kp_up hM204 (fun h => absurd h.2 (by decide)) hk191
  have hk219 := kp_up hM204 (fun h => absurd h.2 (by decide)) hk192
  have hk220 := kp_up hM204 (fun h => absurd h.2 (by decide)) hk193
  have hk221 := kp_up hM204 (fun h => absurd h.2 (by decide)) hk194
  have hk222 := kp_up hM204 (fun h => absurd h.2 (by decide)) hk195
  clear hk183 hk184 hk185 hk186 hk187 hk188 hk189 hk190 hk191 hk192 hk193 hk194 hk195
  refine j_aload_n hX dX6_init_102 rfl 0 rfl ?_
  refine j_iconst hX dX6_init_103 ?_
  refine pf_X6_59 hX (by omega) (by omega) (kq hq) (by omega) dX6_init_104 ?_
  refine j_upN (fun M223 hM224 hf225 => ?_)
  have hG226 := F2.put hG206 hM224 ⟨by omega, by omega⟩
  have hD227 := DF_up hD207 hM224 (by omega)
  have hU228 := UL_up hU208 hM224
  have hR229 := RR_up hR209 hM224 (Or.inl (by omega))
  have hk230 := kp_up hM224 (fun h => absurd h.2 (by decide)) hk210
  have hk231 := kp_up hM224 (fun h => absurd h.2 (by decide)) hk211
  have hk232 := kp_up hM224 (fun h => absurd h.2 (by decide)) hk212
  have hk233 := kp_up hM224 (fun h => absurd h.2 (by decide)) hk213
  have hk234 := kp_up hM224 (fun h => absurd h.2 (by decide)) hk214
  have hk235 := kp_up hM224 (fun h => absurd h.2 (by decide)) hk215
  have hk236 := kp_up hM224 (fun h => absurd h.2 (by decide)) hk216
  have hk237 := kp_up hM224 (fun h => absurd h.2 (by decide)) hk217
  have hk238 := kp_up hM224 (fun h => absurd h.2 (by decide)) hk218
  have hk239 := kp_up hM224 (fun h => absurd h.2 (by decide)) hk219
  have hk240 := kp_up hM224 (fun h => absurd h.2 (by decide)) hk220
  have hk241 := kp_up hM224 (fun h => absurd h.2 (by decide)) hk221
  have hk242 := kp_up hM224 (fun h => absurd h.2 (by decide)) hk222
  have hk243 := kp_up hM224 (fun h => absurd h.2 (by decide)) hf205
  clear hk210 hk211 hk212 hk213 hk214 hk215 hk216 hk217 hk218 hk219 hk220 hk221 hk222 hf205
  refine j_aload_n hX dX6_init_107 rfl 0 rfl ?_
  refine j_iconst hX dX6_init_108 ?_
  refine pf_X6_62 hX (by omega) (by omega) (kq hq) (by omega) dX6_init_109 ?_
  refine j_upN (fun M244 hM245 hf246 => ?_)
  have hG247 := F2.put hG226 hM245 ⟨by omega, by omega⟩
  have hD248 := DF_up hD227 hM245 (by omega)
  have hU249 := UL_up hU228 hM245
  have hR250 := RR_up hR229 hM245 (Or.inl (by omega))
  have hk251 := kp_up hM245 (fun h => absurd h.2 (by decide)) hk230
  have hk252 := kp_up hM245 (fun h => absurd h.2 (by decide)) hk231
  have hk253 := kp_up hM245 (fun h => absurd h.2 (by decide)) hk232
  have hk254 := kp_up hM245 (fun h => absurd h.2 (by decide)) hk233
  have hk255 := kp_up hM245 (fun h => absurd h.2 (by decide)) hk234
  have hk256 := kp_up hM245 (fun h => absurd h.2 (by decide)) hk235
  have hk257 := kp_up hM245 (fun h => absurd h.2 (by decide)) hk236
  have hk258 := kp_up hM245 (fun h => absurd h.2 (by decide)) hk237
  have hk259 := kp_up hM245 (fun h => absurd h.2 (by decide)) hk238
  have hk260 := kp_up hM245 (fun h => absurd h.2 (by decide)) hk239
  have hk261 := kp_up hM245 (fun h => absurd h.2 (by decide)) hk240
  have hk262 := kp_up hM245 (fun h => absurd h.2 (by decide)) hk241
  have hk263 := kp_up hM245 (fun h => absurd h.2 (by decide)) hk242
  have hk264 := kp_up hM245 (fun h => absurd h.2 (by decide)) hk243
  have hk265 := kp_up hM245 (fun h => absurd h.2 (by decide)) hf225
  clear hk230 hk231 hk232 hk233 hk234 hk235 hk236 hk237 hk238 hk239 hk240 hk241 hk242 hk243 hf225
  refine j_aload_n hX dX6_init_112 rfl 0 rfl ?_
  refine j_iconst hX dX6_init_113 ?_
  refine pf_X6_65 hX (by omega) (by omega) (kq hq) (by omega) dX6_init_114 ?_
  refine j_upN (fun M266 hM267 hf268 => ?_)
  have hG269 := F2.put hG247 hM267 ⟨by omega, by omega⟩
  have hD270 := DF_up hD248 hM267 (by omega)
  have hU271 := UL_up hU249 hM267
  have hR272 := RR_up hR250 hM267 (Or.inl (by omega))
  have hk273 := kp_up hM267 (fun h => absurd h.2 (by decide)) hk251
  have hk274 := kp_up hM267 (fun h => absurd h.2 (by decide)) hk252
  have hk275 := kp_up hM267 (fun h => absurd h.2 (by decide)) hk253
  have hk276 := kp_up hM267 (fun h => absurd h.2 (by decide)) hk254
  have hk277 := kp_up hM267 (fun h => absurd h.2 (by decide)) hk255
  have hk278 := kp_up hM267 (fun h => absurd h.2 (by decide)) hk256
  have hk279 := kp_up hM267 (fun h => absurd h.2 (by decide)) hk257
  have hk280 := kp_up hM267 (fun h => absurd h.2 (by decide)) hk258
  have hk281 := kp_up hM267 (fun h => absurd h.2 (by decide)) hk259
  have hk282 := kp_up hM267 (fun h => absurd h.2 (by decide)) hk260
  have hk283 := kp_up hM267 (fun h => absurd h.2 (by decide)) hk261
  have hk284 := kp_up hM267 (fun h => absurd h.2 (by decide)) hk262
  have hk285 := kp_up hM267 (fun h => absurd h.2 (by decide)) hk263
  have hk286 := kp_up hM267 (fun h => absurd h.2 (by decide)) hk264
  have hk287 := kp_up hM267 (fun h => absurd h.2 (by decide)) hk265
  have hk288 := kp_up hM267 (fun h => absurd h.2 (by decide)) hf246
  clear hk251 hk252 hk253 hk254 hk255 hk256 hk257 hk258 hk259 hk260 hk261 hk262 hk263 hk264 hk265 hf246
  refine j_aload_n hX dX6_init_117 rfl 0 rfl ?_
  refine j_new hX (k := (q + 15)) (by omega) hin_2 tyX2_ok rfl (in_1 136 (by first | rfl | decide +kernel) rfl) (in_1 137 (by first | rfl | decide +kernel) rfl) (in_1 9 (by first | rfl | decide +kernel) rfl) (kz_q15 hq) (fun _ => rfl) okX2 (hD270.at _ (by omega) (by omega)) ⟨by omega, by omega⟩ dX6_init_118 ?_
  refine j_dup hX dX6_init_121 rfl ?_
  refine j_callN hX (List.mem_of_getElem? (i := 2) rfl) lkI_2 (c_X2_init _ _ _ _ _ q _ (by omega) (by omega) (hD270.sub (by omega) (by omega))) (by omega) ⟨by omega, by omega⟩ (Nat.le_of_ble_eq_true rfl) dX6_init_122 (fun M289 hp290 => ?_)
  obtain ⟨hRn291, hGn292⟩ := hp290
  have hG293 := F2.trans hG269 hGn292 (by omega) (by omega)
  have hD294 := DF_f2 (hD270.sub (lo' := (q + 19)) (by omega) (Int.le_refl _)) hGn292 (by omega)
  have hU295 := UL_f2 hU271 hGn292 (by omega)
  have hR296 := RR_f2 hR272 hGn292 (Or.inl (by omega))
  have hk297 := kp_f2 hGn292 (by omega) hk273
  have hk298 := kp_f2 hGn292 (by omega) hk274
  have hk299 := kp_f2 hGn292 (by omega) hk275
  have hk300 := kp_f2 hGn292 (by omega) hk276
  have hk301 := kp_f2 hGn292 (by omega) hk277
  have hk302 := kp_f2 hGn292 (by omega) hk278
  have hk303 := kp_f2 hGn292 (by omega) hk279
  have hk304 := kp_f2 hGn292 (by omega) hk280
  have hk305 := kp_f2 hGn292 (by omega) hk281
  have hk306 := kp_f2 hGn292 (by omega) hk282
  have hk307 := kp_f2 hGn292 (by omega) hk283
  have hk308 := kp_f2 hGn292 (by omega) hk284
  have hk309 := kp_f2 hGn292 (by omega) hk285
  have hk310 := kp_f2 hGn292 (by omega) hk286
  have hk311 := kp_f2 hGn292 (by omega) hk287
  have hk312 := kp_f2 hGn292 (by omega) hk288
  have hk313 := kp_f2 hGn292 (by omega) hf268
  clear hk273 hk274 hk275 hk276 hk277 hk278 hk279 hk280 hk281 hk282 hk283 hk284 hk285 hk286 hk287 hk288 hf268
  have hR314 : RR (q + 1) (q + 19) M289 := RR_j hR296 hRn291
  refine pfF_X6_71 hX hin (by omega) (by omega) (kq hq) (by omega) (by omega) dX6_init_125 ?_
  refine j_upN (fun M315 hM316 hf317 => ?_)
  have hG318 := F2.put hG293 hM316 ⟨by omega, by omega⟩
  have hD319 := DF_up hD294 hM316 (by omega)
  have hU320 := UL_up hU295 hM316
  have hR321 := RR_up hR314 hM316 (Or.inl (by omega))
  have hk322 := kp_up hM316 (fun h => absurd h.2 (by decide)) hk297
  have hk323 := kp_up hM316 (fun h => absurd h.2 (by decide)) hk298
  have hk324 := kp_up hM316 (fun h => absurd h.2 (by decide)) hk299
  have hk325 := kp_up hM316 (fun h => absurd h.2 (by decide)) hk300
  have hk326 := kp_up hM316 (fun h => absurd h.2 (by decide)) hk301
  have hk327 := kp_up hM316 (fun h => absurd h.2 (by decide)) hk302
  have hk328 := kp_up hM316 (fun h => absurd h.2 (by decide)) hk303
  have hk329 := kp_up hM316 (fun h => absurd h.2 (by decide)) hk304
  have hk330 := kp_up hM316 (fun h => absurd h.2 (by decide)) hk305
  have hk331 := kp_up hM316 (fun h => absurd h.2 (by decide)) hk306
  have hk332 := kp_up hM316 (fun h => absurd h.2 (by decide)) hk307
  have hk333 := kp_up hM316 (fun h => absurd h.2 (by decide)) hk308
  have hk334 := kp_up hM316 (fun h => absurd h.2 (by decide)) hk309
  have hk335 := kp_up hM316 (fun h => absurd h.2 (by decide)) hk310
  have hk336 := kp_up hM316 (fun h => absurd h.2 (by decide)) hk311
  have hk337 := kp_up hM316 (fun h => absurd h.2 (by decide)) hk312
  have hk338 := kp_up hM316 (fun h => absurd h.2 (by decide)) hk313
  clear hk297 hk298 hk299 hk300 hk301 hk302 hk303 hk304 hk305 hk306 hk307 hk308 hk309 hk310 hk311 hk312 hk313
  refine j_aload_n hX dX6_init_128 rfl 0 rfl ?_
  refine j_bipush hX dX6_init_129 rfl ?_
  refine j_newa hX (k := (q + 19)) (by omega) (t := 0) (n := 6) rfl (by decide) (in_1 163 (by first | rfl | decide +kernel) rfl) (kz_q19 hq) rfl (by decide) (hD319.at _ (by omega) (by omega)) ⟨by omega, by omega⟩ dX6_init_131 ?_
  have hR339 : RR (q + 1) (q + 20) M315 := RR_s hR321 (Rg_plain (by omega) (by omega) (kz_q19 hq) (by decide) (hD319.at _ (by omega) (by omega))) (by omega)
  refine pfF_X6_75 hX hin (by omega) (by omega) (kq hq) (by omega) (by omega) dX6_init_133 ?_
  refine j_upN (fun M340 hM341 hf342 => ?_)
  have hG343 := F2.put hG318 hM341 ⟨by omega, by omega⟩
  have hD344 := DF_up hD319 hM341 (by omega)
  have hU345 := UL_up hU320 hM341
  have hR346 := RR_up hR339 hM341 (Or.inl (by omega))
  have hk347 := kp_up hM341 (fun h => absurd h.2 (by decide)) hk322
  have hk348 := kp_up hM341 (fun h => absurd h.2 (by decide)) hk323
  have hk349 := kp_up hM341 (fun h => absurd h.2 (by decide)) hk324
  have hk350 := kp_up hM341 (fun h => absurd h.2 (by decide)) hk325
  have hk351 := kp_up hM341 (fun h => absurd h.2 (by decide)) hk326
  have hk352 := kp_up hM341 (fun h => absurd h.2 (by decide)) hk327
  have hk353 := kp_up hM341 (fun h => absurd h.2 (by decide)) hk328
  have hk354 := kp_up hM341 (fun h => absurd h.2 (by decide)) hk329
  have hk355 := kp_up hM341 (fun h => absurd h.2 (by decide)) hk330
  have hk356 := kp_up hM341 (fun h => absurd h.2 (by decide)) hk331
  have hk357 := kp_up hM341 (fun h => absurd h.2 (by decide)) hk332
  have hk358 := kp_up hM341 (fun h => absurd h.2 (by decide)) hk333
  have hk359 := kp_up hM341 (fun h => absurd h.2 (by decide)) hk334
  have hk360 := kp_up hM341 (fun h => absurd h.2 (by decide)) hk335
  have hk361 := kp_up hM341 (fun h => absurd h.2 (by decide)) hk336
  have hk362 := kp_up hM341 (fun h => absurd h.2 (by decide)) hk337
  have hk363 := kp_up hM341 (fun h => absurd h.2 (by decide)) hk338
  have hk364 := kp_up hM341 (fun h => absurd h.2 (by decide)) hf317
  clear hk322 hk323 hk324 hk325 hk326 hk327 hk328 hk329 hk330 hk331 hk332 hk333 hk334 hk335 hk336 hk337 hk338 hf317
  refine j_aload_n hX dX6_init_136 rfl 0 rfl ?_
  refine j_bipush hX dX6_init_137 rfl ?_
  refine j_newa hX (k := (q + 20)) (by omega) (t := 0) (n := 24) rfl (by decide) (in_1 163 (by first | rfl | decide +kernel) rfl) (kz_q20 hq) rfl (by decide) (hD344.at _ (by omega) (by omega)) ⟨by omega, by omega⟩ dX6_init_139 ?_
  have hR365 : RR (q + 1) (q + 21) M340 := RR_s hR346 (Rg_plain (by omega) (by omega) (kz_q20 hq) (by decide) (hD344.at _ (by omega) (by omega))) (by omega)
  refine pfF_X6_78 hX hin (by omega) (by omega) (kq hq) (by omega) (by omega) dX6_init_141 ?_
  refine j_upN (fun M366 hM367 hf368 => ?_)
  have hG369 := F2.put hG343 hM367 ⟨by omega, by omega⟩
  have hD370 := DF_up hD344 hM367 (by omega)
  have hU371 := UL_up hU345 hM367
  have hR372 := RR_up hR365 hM367 (Or.inl (by omega))
  have hk373 := kp_up hM367 (fun h => absurd h.2 (by decide)) hk347
  have hk374 := kp_up hM367 (fun h => absurd h.2 (by decide)) hk348
  have hk375 := kp_up hM367 (fun h => absurd h.2 (by decide)) hk349
  have hk376 := kp_up hM367 (fun h => absurd h.2 (by decide)) hk350
  have hk377 := kp_up hM367 (fun h => absurd h.2 (by decide)) hk351
  have hk378 := kp_up hM367 (fun h => absurd h.2 (by decide)) hk352
  have hk379 := kp_up hM367 (fun h => absurd h.2 (by decide)) hk353
  have hk380 := kp_up hM367 (fun h => absurd h.2 (by decide)) hk354
  have hk381 := kp_up hM367 (fun h => absurd h.2 (by decide)) hk355
  have hk382 := kp_up hM367 (fun h => absurd h.2 (by decide)) hk356
  have hk383 := kp_up hM367 (fun h => absurd h.2 (by decide)) hk357
  have hk384 := kp_up hM367 (fun h => absurd h.2 (by decide)) hk358
  have hk385 := kp_up hM367 (fun h => absurd h.2 (by decide)) hk359
  have hk386 := kp_up hM367 (fun h => absurd h.2 (by decide)) hk360
  have hk387 := kp_up hM367 (fun h => absurd h.2 (by decide)) hk361
  have hk388 := kp_up hM367 (fun h => absurd h.2 (by decide)) hk362
  have hk389 := kp_up hM367 (fun h => absurd h.2 (by decide)) hk363
  have hk390 := kp_up hM367 (fun h => absurd h.2 (by decide)) hk364
  have hk391 := kp_up hM367 (fun h => absurd h.2 (by decide)) hf342
  clear hk347 hk348 hk349 hk350 hk351 hk352 hk353 hk354 hk355 hk356 hk357 hk358 hk359 hk360 hk361 hk362 hk363 hk364 hf342
  have hRo : Rg q M366 := by
    refine Rg_obj (n := 20) hpl hU371 (by decide) (by omega) (fun j hj => ?_)
    rcases (by omega : j = 0 ∨ j = 1 ∨ j = 2 ∨ j = 3 ∨ j = 4 ∨ j = 5 ∨ j = 6 ∨ j = 7 ∨ j = 8 ∨ j = 9 ∨ j = 10 ∨ j = 11 ∨ j = 12 ∨ j = 13 ∨ j = 14 ∨ j = 15 ∨ j = 16 ∨ j = 17 ∨ j = 18 ∨ j = 19) with h | h | h | h | h | h | h | h | h | h | h | h | h | h | h | h | h | h | h | h
    · subst h
      show (rg q 0).1 ≤ M366.1 q 0 ∧ M366.1 q 0 ≤ (rg q 0).2
      rw [qz_0 hq, hk373]; exact ⟨by dsimp only; omega, by dsimp only; omega⟩
    · subst h
      show (rg q 1).1 ≤ M366.1 q 1 ∧ M366.1 q 1 ≤ (rg q 1).2
      rw [qz_1 hq, hk374]; exact ⟨by dsimp only; omega, by dsimp only; omega⟩
    · subst h
      show (rg q 2).1 ≤ M366.1 q 2 ∧ M366.1 q 2 ≤ (rg q 2).2
      rw [qz_2 hq, hk375]; exact ⟨by dsimp only; omega, by dsimp only; omega⟩
    · subst h
      show (rg q 3).1 ≤ M366.1 q 3 ∧ M366.1 q 3 ≤ (rg q 3).2
      rw [qz_3 hq, hk376]; exact ⟨by dsimp only; omega, by dsimp only; omega⟩
    · subst h
      show (rg q 4).1 ≤ M366.1 q 4 ∧ M366.1 q 4 ≤ (rg q 4).2
      rw [qz_4 hq, hk377]; exact ⟨by dsimp only; omega, by dsimp only; omega⟩
    · subst h
      show (rg q 5).1 ≤ M366.1 q 5 ∧ M366.1 q 5 ≤ (rg q 5).2
      rw [qz_5 hq, hk378]; exact ⟨by dsimp only; omega, by dsimp only; omega⟩
    · subst h
      show (rg q 6).1 ≤ M366.1 q 6 ∧ M366.1 q 6 ≤ (rg q 6).2
      rw [qz_6 hq, hk379]; exact ⟨by dsimp only; omega, by dsimp only; omega⟩
    · subst h
      show (rg q 7).1 ≤ M366.1 q 7 ∧ M366.1 q 7 ≤ (rg q 7).2
      rw [qz_7 hq, hk380]; exact ⟨by dsimp only; omega, by dsimp only; omega⟩
    · subst h
      show (rg q 8).1 ≤ M366.1 q 8 ∧ M366.1 q 8 ≤ (rg q 8).2
      rw [qz_8 hq, hk381]; exact ⟨by dsimp only; omega, by dsimp only; omega⟩
    · subst h
      show (rg q 9).1 ≤ M366.1 q 9 ∧ M366.1 q 9 ≤ (rg q 9).2
      rw [qz_9 hq, hk382]; exact ⟨by dsimp only; omega, by dsimp only; omega⟩
    · subst h
      show (rg q 10).1 ≤ M366.1 q 10 ∧ M366.1 q 10 ≤ (rg q 10).2
      rw [qz_10 hq, hk383]; exact ⟨by dsimp only; omega, by dsimp only; omega⟩
    · subst h
      show (rg q 11).1 ≤ M366.1 q 11 ∧ M366.1 q 11 ≤ (rg q 11).2
      rw [qz_11 hq, hk384]; exact ⟨by dsimp only; omega, by dsimp only; omega⟩
    · subst h
      show (rg q 12).1 ≤ M366.1 q 12 ∧ M366.1 q 12 ≤ (rg q 12).2
      rw [qz_12 hq, hk385]; exact ⟨by dsimp only; omega, by dsimp only; omega⟩
    · subst h
      show (rg q 13).1 ≤ M366.1 q 13 ∧ M366.1 q 13 ≤ (rg q 13).2
      rw [qz_13 hq, hk386]; exact ⟨by dsimp only; omega, by dsimp only; omega⟩
    · subst h
      show (rg q 14).1 ≤ M366.1 q 14 ∧ M366.1 q 14 ≤ (rg q 14).2
      rw [qz_14 hq, hk387]; exact ⟨by dsimp only; omega, by dsimp only; omega⟩
    · subst h
      show (rg q 15).1 ≤ M366.1 q 15 ∧ M366.1 q 15 ≤ (rg q 15).2
      rw [qz_15 hq, hk388]; exact ⟨by dsimp only; omega, by dsimp only; omega⟩
    · subst h
      show (rg q 16).1 ≤ M366.1 q 16 ∧ M366.1 q 16 ≤ (rg q 16).2
      rw [qz_16 hq, hk389]; exact ⟨by dsimp only; omega, by dsimp only; omega⟩
    · subst h
      show (rg q 17).1 ≤ M366.1 q 17 ∧ M366.1 q 17 ≤ (rg q 17).2
      rw [qz_17 hq, hk390]; exact ⟨by dsimp only; omega, by dsimp only; omega⟩
    · subst h
      show (rg q 18).1 ≤ M366.1 q 18 ∧ M366.1 q 18 ≤ (rg q 18).2
      rw [qz_18 hq, hk391]; exact ⟨by dsimp only; omega, by dsimp only; omega⟩
    · subst h
      show (rg q 19).1 ≤ M366.1 q 19 ∧ M366.1 q 19 ≤ (rg q 19).2
      rw [qz_19 hq, hf368]; exact ⟨by dsimp only; omega, by dsimp only; omega⟩
  have hRa : RR q (q + 21) M366 := RR_j (RR_s RR_0 hRo (by omega)) hR372
  exact j_widen (by omega) (by omega) (hret _ _ _ dX6_init_144 ⟨hRa, hG369, hk373⟩)
theorem dX3_init_0 : decode cX3_init 0 = .ok (.aload_n 0, 1) := by decide +kernel
theorem dX3_init_1 : decode cX3_init 1 = .ok (.invokespecial 3, 3) := by decide +kernel
theorem dX3_init_4 : decode cX3_init 4 = .ok (.aload_n 0, 1) := by decide +kernel
theorem dX3_init_5 : decode cX3_init 5 = .ok (.new 9, 3) := by decide +kernel
theorem dX3_init_8 : decode cX3_init 8 = .ok (.dup, 1) := by decide +kernel
theorem dX3_init_9 : decode cX3_init 9 = .ok (.invokespecial 11, 3) := by decide +kernel
theorem dX3_init_12 : decode cX3_init 12 = .ok (.putfield 12, 3) := by decide +kernel
theorem dX3_init_15 : decode cX3_init 15 = .ok (.aload_n 0, 1) := by decide +kernel
theorem dX3_init_16 : decode cX3_init 16 = .ok (.bipush 30, 2) := by decide +kernel
theorem dX3_init_18 : decode cX3_init 18 = .ok (.newarray .int, 2) := by decide +kernel
theorem dX3_init_20 : decode cX3_init 20 = .ok (.putfield 18, 3) := by decide +kernel
theorem dX3_init_23 : decode cX3_init 23 = .ok (.aload_n 0, 1) := by decide +kernel
theorem dX3_init_24 : decode cX3_init 24 = .ok (.bipush 30, 2) := by decide +kernel
theorem dX3_init_26 : decode cX3_init 26 = .ok (.newarray .int, 2) := by decide +kernel
theorem dX3_init_28 : decode cX3_init 28 = .ok (.putfield 22, 3) := by decide +kernel
theorem dX3_init_31 : decode cX3_init 31 = .ok (.aload_n 0, 1) := by decide +kernel
theorem dX3_init_32 : decode cX3_init 32 = .ok (.bipush 30, 2) := by decide +kernel
theorem dX3_init_34 : decode cX3_init 34 = .ok (.newarray .int, 2) := by decide +kernel
theorem dX3_init_36 : decode cX3_init 36 = .ok (.putfield 25, 3) := by decide +kernel
theorem dX3_init_39 : decode cX3_init 39 = .ok (.aload_n 0, 1) := by decide +kernel
theorem dX3_init_40 : decode cX3_init 40 = .ok (.bipush 30, 2) := by decide +kernel
theorem dX3_init_42 : decode cX3_init 42 = .ok (.newarray .int, 2) := by decide +kernel
theorem dX3_init_44 : decode cX3_init 44 = .ok (.putfield 28, 3) := by decide +kernel
theorem dX3_init_47 : decode cX3_init 47 = .ok (.aload_n 0, 1) := by decide +kernel
theorem dX3_init_48 : decode cX3_init 48 = .ok (.bipush 6, 2) := by decide +kernel
theorem dX3_init_50 : decode cX3_init 50 = .ok (.newarray .int, 2) := by decide +kernel
theorem dX3_init_52 : decode cX3_init 52 = .ok (.putfield 31, 3) := by decide +kernel
theorem dX3_init_55 : decode cX3_init 55 = .ok (.aload_n 0, 1) := by decide +kernel
theorem dX3_init_56 : decode cX3_init 56 = .ok (.bipush 6, 2) := by decide +kernel
theorem dX3_init_58 : decode cX3_init 58 = .ok (.bipush 6, 2) := by decide +kernel
theorem dX3_init_60 : decode cX3_init 60 = .ok (.multianewarray 34 2, 4) := by decide +kernel
theorem dX3_init_64 : decode cX3_init 64 = .ok (.putfield 36, 3) := by decide +kernel
theorem dX3_init_67 : decode cX3_init 67 = .ok (.aload_n 0, 1) := by decide +kernel
theorem dX3_init_68 : decode cX3_init 68 = .ok (.iconst 0, 1) := by decide +kernel
theorem dX3_init_69 : decode cX3_init 69 = .ok (.putfield 39, 3) := by decide +kernel
theorem dX3_init_72 : decode cX3_init 72 = .ok (.aload_n 0, 1) := by decide +kernel
theorem dX3_init_73 : decode cX3_init 73 = .ok (.iconst 0, 1) := by decide +kernel
theorem dX3_init_74 : decode cX3_init 74 = .ok (.putfield 43, 3) := by decide +kernel
theorem dX3_init_77 : decode cX3_init 77 = .ok (.return_, 1) := by decide +kernel
set_option maxHeartbeats 2000000 in
set_option maxRecDepth 20000 in
theorem c_X3_init (l : Launch) (D : va_G) (cy : Nat → ClassId) (B N : Nat) (M : MM) (hN : (N : Int) = 164 + 1) (hd : DF 164 179 M) : CN l D cy B N (N + 14) 2 14 176 yX3_init cX3_init 1 [rv B 164] M (fun M' => RR 164 179 M' ∧ F2 164 179 M M') := by
  refine mk_CN (by decide) rfl (Nat.le_of_ble_eq_true rfl) ?_
  intro X exl exD excy hnL hX hin hRc hRs hret
  have hpl : pl 164 = ((9 : Nat) : Int) := pl_o (r := (RX3, TX3, 9)) (by decide +kernel : kd 164 = .inl 3) rfl
  have hG : F2 164 179 M M := F2.rf
  have hD : DF 165 179 M := hd.sub (by omega) (Int.le_refl _)
  have hU : UL 164 [] M := UL_0 (hd.at _ (by omega) (by omega))
  have hR : RR 165 165 M := RR_0
  show J X B N 0 0 0 [(0, rv B 164)] [] M
  refine j_aload_n hX dX3_init_0 rfl 0 rfl ?_
  refine j_objInit hX (in_2 154 (by first | rfl | decide +kernel) rfl) (in_1 28 (by first | rfl | decide +kernel) rfl) (in_1 29 (by first | rfl | decide +kernel) rfl) (by omega) (Nat.le_of_ble_eq_true rfl) dX3_init_1 ?_
  refine j_aload_n hX dX3_init_4 rfl 0 rfl ?_
  refine j_new hX (k := 165) (by omega) hin_4 tyX4_ok rfl (in_2 155 (by first | rfl | decide +kernel) rfl) (in_2 115 (by first | rfl | decide +kernel) rfl) (in_1 14 (by first | rfl | decide +kernel) rfl) (by decide +kernel : kd 165 = .inl 4) (fun _ => rfl) okX4 (hD.at _ (by omega) (by omega)) ⟨by omega, by omega⟩ dX3_init_5 ?_
  refine j_dup hX dX3_init_8 rfl ?_
  refine j_callN hX (List.mem_of_getElem? (i := 8) rfl) lkI_4 (c_X4_init _ _ _ _ _ 165 _ (by omega) (by omega) (hD.sub (by omega) (by omega))) (by omega) ⟨by omega, by omega⟩ (Nat.le_of_ble_eq_true rfl) dX3_init_9 (fun M1 hp2 => ?_)
  obtain ⟨hRn3, hGn4⟩ := hp2
  have hG5 := F2.trans hG hGn4 (by omega) (by omega)
  have hD6 := DF_f2 (hD.sub (lo' := 167) (by omega) (Int.le_refl _)) hGn4 (by omega)
  have hU7 := UL_f2 hU hGn4 (by omega)
  have hR8 := RR_f2 hR hGn4 (Or.inl (by omega))
  have hR9 : RR 165 167 M1 := RR_j hR8 hRn3
  refine pfF_X3_12 hX hin (by omega) (by omega) (by decide +kernel : kd 164 = .inl 3) (by omega) (by omega) dX3_init_12 ?_
  refine j_upN (fun M10 hM11 hf12 => ?_)
  have hG13 := F2.put hG5 hM11 ⟨by omega, by omega⟩
  have hD14 := DF_up hD6 hM11 (by omega)
  have hU15 := UL_up hU7 hM11
  have hR16 := RR_up hR9 hM11 (Or.inl (by omega))
  refine j_aload_n hX dX3_init_15 rfl 0 rfl ?_
  refine j_bipush hX dX3_init_16 rfl ?_
  refine j_newa hX (k := 167) (by omega) (t := 0) (n := 30) rfl (by decide) (in_1 163 (by first | rfl | decide +kernel) rfl) (by decide +kernel : kd 167 = .inr (0, 30)) rfl (by decide) (hD14.at _ (by omega) (by omega)) ⟨by omega, by omega⟩ dX3_init_18 ?_
  have hR17 : RR 165 168 M10 := RR_s hR16 (Rg_plain (by omega) (by omega) (by decide +kernel : kd 167 = .inr (0, 30)) (by decide) (hD14.at _ (by omega) (by omega))) (by omega)
  refine pfF_X3_18 hX hin (by omega) (by omega) (by decide +kernel : kd 164 = .inl 3) (by omega) (by omega) dX3_init_20 ?_
  refine j_upN (fun M18 hM19 hf20 => ?_)
  have hG21 := F2.put hG13 hM19 ⟨by omega, by omega⟩
  have hD22 := DF_up hD14 hM19 (by omega)
  have hU23 := UL_up hU15 hM19
  have hR24 := RR_up hR17 hM19 (Or.inl (by omega))
  have hk25 := kp_up hM19 (fun h => absurd h.2 (by decide)) hf12
  clear hf12
  refine j_aload_n hX dX3_init_23 rfl 0 rfl ?_
  refine j_bipush hX dX3_init_24 rfl ?_
  refine j_newa hX (k := 168) (by omega) (t := 0) (n := 30) rfl (by decide) (in_1 163 (by first | rfl | decide +kernel) rfl) (by decide +kernel : kd 168 = .inr (0, 30)) rfl (by decide) (hD22.at _ (by omega) (by omega)) ⟨by omega, by omega⟩ dX3_init_26 ?_
  have hR26 : RR 165 169 M18 := RR_s hR24 (Rg_plain (by omega) (by omega) (by decide +kernel : kd 168 = .inr (0, 30)) (by decide) (hD22.at _ (by omega) (by omega))) (by omega)
  refine pfF_X3_22 hX hin (by omega) (by omega) (by decide +kernel : kd 164 = .inl 3) (by omega) (by omega) dX3_init_28 ?_
  refine j_upN (fun M27 hM28 hf29 => ?_)
  have hG30 := F2.put hG21 hM28 ⟨by omega, by omega⟩
  have hD31 := DF_up hD22 hM28 (by omega)
  have hU32 := UL_up hU23 hM28
  have hR33 := RR_up hR26 hM28 (Or.inl (by omega))
  have hk34 := kp_up hM28 (fun h => absurd h.2 (by decide)) hk25
  have hk35 := kp_up hM28 (fun h => absurd h.2 (by decide)) hf20
  clear hk25 hf20
  refine j_aload_n hX dX3_init_31 rfl 0 rfl ?_
  refine j_bipush hX dX3_init_32 rfl ?_
  refine j_newa hX (k := 169) (by omega) (t := 0) (n := 30) rfl (by decide) (in_1 163 (by first | rfl | decide +kernel) rfl) (by decide +kernel : kd 169 = .inr (0, 30)) rfl (by decide) (hD31.at _ (by omega) (by omega)) ⟨by omega, by omega⟩ dX3_init_34 ?_
  have hR36 : RR 165 170 M27 := RR_s hR33 (Rg_plain (by omega) (by omega) (by decide +kernel : kd 169 = .inr (0, 30)) (by decide) (hD31.at _ (by omega) (by omega))) (by omega)
  refine pfF_X3_25 hX hin (by omega) (by omega) (by decide +kernel : kd 164 = .inl 3) (by omega) (by omega) dX3_init_36 ?_
  refine j_upN (fun M37 hM38 hf39 => ?_)
  have hG40 := F2.put hG30 hM38 ⟨by omega, by omega⟩
  have hD41 := DF_up hD31 hM38 (by omega)
  have hU42 := UL_up hU32 hM38
  have hR43 := RR_up hR36 hM38 (Or.inl (by omega))
  have hk44 := kp_up hM38 (fun h => absurd h.2 (by decide)) hk34
  have hk45 := kp_up hM38 (fun h => absurd h.2 (by decide)) hk35
  have hk46 := kp_up hM38 (fun h => absurd h.2 (by decide)) hf29
  clear hk34 hk35 hf29
  refine j_aload_n hX dX3_init_39 rfl 0 rfl ?_
  refine j_bipush hX dX3_init_40 rfl ?_
  refine j_newa hX (k := 170) (by omega) (t := 0) (n := 30) rfl (by decide) (in_1 163 (by first | rfl | decide +kernel) rfl) (by decide +kernel : kd 170 = .inr (0, 30)) rfl (by decide) (hD41.at _ (by omega) (by omega)) ⟨by omega, by omega⟩ dX3_init_42 ?_
  have hR47 : RR 165 171 M37 := RR_s hR43 (Rg_plain (by omega) (by omega) (by decide +kernel : kd 170 = .inr (0, 30)) (by decide) (hD41.at _ (by omega) (by omega))) (by omega)
  refine pfF_X3_28 hX hin (by omega) (by omega) (by decide +kernel : kd 164 = .inl 3) (by omega) (by omega) dX3_init_44 ?_
  refine j_upN (fun M48 hM49 hf50 => ?_)
  have hG51 := F2.put hG40 hM49 ⟨by omega, by omega⟩
  have hD52 := DF_up hD41 hM49 (by omega)
  have hU53 := UL_up hU42 hM49
  have hR54 := RR_up hR47 hM49 (Or.inl (by omega))
  have hk55 := kp_up hM49 (fun h => absurd h.2 (by decide)) hk44
  have hk56 := kp_up hM49 (fun h => absurd h.2 (by decide)) hk45
  have hk57 := kp_up hM49 (fun h => absurd h.2 (by decide)) hk46
  have hk58 := kp_up hM49 (fun h => absurd h.2 (by decide)) hf39
  clear hk44 hk45 hk46 hf39
  refine j_aload_n hX dX3_init_47 rfl 0 rfl ?_
  refine j_bipush hX dX3_init_48 rfl ?_
  refine j_newa hX (k := 171) (by omega) (t := 0) (n := 6) rfl (by decide) (in_1 163 (by first | rfl | decide +kernel) rfl) (by decide +kernel : kd 171 = .inr (0, 6)) rfl (by decide) (hD52.at _ (by omega) (by omega)) ⟨by omega, by omega⟩ dX3_init_50 ?_
  have hR59 : RR 165 172 M48 := RR_s hR54 (Rg_plain (by omega) (by omega) (by decide +kernel : kd 171 = .inr (0, 6)) (by decide) (hD52.at _ (by omega) (by omega))) (by omega)
  refine pfF_X3_31 hX hin (by omega) (by omega) (by decide +kernel : kd 164 = .inl 3) (by omega) (by omega) dX3_init_52 ?_
  refine j_upN (fun M60 hM61 hf62 => ?_)
  have hG63 := F2.put hG51 hM61 ⟨by omega, by omega⟩
  have hD64 := DF_up hD52 hM61 (by omega)
  have hU65 := UL_up hU53 hM61
  have hR66 := RR_up hR59 hM61 (Or.inl (by omega))
  have hk67 := kp_up hM61 (fun h => absurd h.2 (by decide)) hk55
  have hk68 := kp_up hM61 (fun h => absurd h.2 (by decide)) hk56
  have hk69 := kp_up hM61 (fun h => absurd h.2 (by decide)) hk57
  have hk70 := kp_up hM61 (fun h => absurd h.2 (by decide)) hk58
  have hk71 := kp_up hM61 (fun h => absurd h.2 (by decide)) hf50
  clear hk55 hk56 hk57 hk58 hf50
  refine j_aload_n hX dX3_init_55 rfl 0 rfl ?_
  refine j_bipush hX dX3_init_56 rfl ?_
  refine j_bipush hX dX3_init_58 rfl ?_
  refine j_mna hX (k := 172) (by omega) (in_2 157 (by first | rfl | decide +kernel) rfl) (in_1 163 (by first | rfl | decide +kernel) rfl) (by decide +kernel : kd 172 = .inr (5, 6)) (fun i h0 h1 => kwt h0 h1) (hD64.sub (lo' := 172) (hi' := 172 + 7) (by omega) (by omega)) (M' := rw6 172 M60) (rw6_1 rfl) (rw6_2 rfl) (rw6_3 rfl) (by omega) ⟨by omega, by omega⟩ dX3_init_60 ?_
  refine j_rw6 (fun M72 hM73 => ?_)
  have hM73f := rw6_f hM73
  have hG74 := F2.trans hG63 hM73f (by omega) (by omega)
  have hD75 := DF_f2 (hD64.sub (lo' := 173) (by omega) (Int.le_refl _)) hM73f (by omega)
  have hU76 := UL_f2 hU65 hM73f (by omega)
  have hR77 := RR_f2 hR66 hM73f (Or.inl (by omega))
  have hk78 := kp_f2 hM73f (by omega) hk67
  have hk79 := kp_f2 hM73f (by omega) hk68
  have hk80 := kp_f2 hM73f (by omega) hk69
  have hk81 := kp_f2 hM73f (by omega) hk70
  have hk82 := kp_f2 hM73f (by omega) hk71
  have hk83 := kp_f2 hM73f (by omega) hf62
  clear hk67 hk68 hk69 hk70 hk71 hf62
  have hR84 : RR 165 173 M72 := RR_s hR77 (Rg_rows (hD64.at _ (by omega) (by omega)) (by decide +kernel : kd 172 = .inr (5, 6)) (rw6_1 hM73) (fun b h => rw6_2 hM73 _ b (fun q => h q.2)) (fun i h0 h1 => rwt h0 h1) (by omega)) (by omega)
  have hR85 : RR 165 174 M72 := RR_s hR84 (Rg_plain (by omega) (by omega) (by decide +kernel : kd 173 = .inr (0, 6)) (by decide) (hD75.at _ (by omega) (by omega))) (by omega)
  have hR86 : RR 165 175 M72 := RR_s hR85 (Rg_plain (by omega) (by omega) (by decide +kernel : kd 174 = .inr (0, 6)) (by decide) (hD75.at _ (by omega) (by omega))) (by omega)
  have hR87 : RR 165 176 M72 := RR_s hR86 (Rg_plain (by omega) (by omega) (by decide +kernel : kd 175 = .inr (0, 6)) (by decide) (hD75.at _ (by omega) (by omega))) (by omega)
  have hR88 : RR 165 177 M72 := RR_s hR87 (Rg_plain (by omega) (by omega) (by decide +kernel : kd 176 = .inr (0, 6)) (by decide) (hD75.at _ (by omega) (by omega))) (by omega)
  have hR89 : RR 165 178 M72 := RR_s hR88 (Rg_plain (by omega) (by omega) (by decide +kernel : kd 177 = .inr (0, 6)) (by decide) (hD75.at _ (by omega) (by omega))) (by omega)
  have hR90 : RR 165 179 M72 := RR_s hR89 (Rg_plain (by omega) (by omega) (by decide +kernel : kd 178 = .inr (0, 6)) (by decide) (hD75.at _ (by omega) (by omega))) (by omega)
  refine pfF_X3_36 hX hin (by omega) (by omega) (by decide +kernel : kd 164 = .inl 3) (by omega) (by omega) dX3_init_64 ?_
  refine j_upN (fun M91 hM92 hf93 => ?_)
  have hG94 := F2.put hG74 hM92 ⟨by omega, by omega⟩
  have hD95 := DF_up hD75 hM92 (by omega)
  have hU96 := UL_up hU76 hM92
  have hR97 := RR_up hR90 hM92 (Or.inl (by omega))
  have hk98 := kp_up hM92 (fun h => absurd h.2 (by decide)) hk78
  have hk99 := kp_up hM92 (fun h => absurd h.2 (by decide)) hk79
  have hk100 := kp_up hM92 (fun h => absurd h.2 (by decide)) hk80
  have hk101 := kp_up hM92 (fun h => absurd h.2 (by decide)) hk81
  have hk102 := kp_up hM92 (fun h => absurd h.2 (by decide)) hk82
  have hk103 := kp_up hM92 (fun h => absurd h.2 (by decide)) hk83
  clear hk78 hk79 hk80 hk81 hk82 hk83
  refine j_aload_n hX dX3_init_67 rfl 0 rfl ?_
  refine j_iconst hX dX3_init_68 ?_
  refine pf_X3_39 hX (by omega) (by omega) (by decide +kernel : kd 164 = .inl 3) (by omega) dX3_init_69 ?_
  refine j_upN (fun M104 hM105 hf106 => ?_)
  have hG107 := F2.put hG94 hM105 ⟨by omega, by omega⟩
  have hD108 := DF_up hD95 hM105 (by omega)
  have hU109 := UL_up hU96 hM105
  have hR110 := RR_up hR97 hM105 (Or.inl (by omega))
  have hk111 := kp_up hM105 (fun h => absurd h.2 (by decide)) hk98
  have hk112 := kp_up hM105 (fun h => absurd h.2 (by decide)) hk99
  have hk113 := kp_up hM105 (fun h => absurd h.2 (by decide)) hk100
  have hk114 := kp_up hM105 (fun h => absurd h.2 (by decide)) hk101
  have hk115 := kp_up hM105 (fun h => absurd h.2 (by decide)) hk102
  have hk116 := kp_up hM105 (fun h => absurd h.2 (by decide)) hk103
  have hk117 := kp_up hM105 (fun h => absurd h.2 (by decide)) hf93
  clear hk98 hk99 hk100 hk101 hk102 hk103 hf93
  refine j_aload_n hX dX3_init_72 rfl 0 rfl ?_
  refine j_iconst hX dX3_init_73 ?_
  refine pf_X3_43 hX (by omega) (by omega) (by decide +kernel : kd 164 = .inl 3) (by omega) dX3_init_74 ?_
  refine j_upN (fun M118 hM119 hf120 => ?_)
  have hG121 := F2.put hG107 hM119 ⟨by omega, by omega⟩
  have hD122 := DF_up hD108 hM119 (by omega)
  have hU123 := UL_up hU109 hM119
  have hR124 := RR_up hR110 hM119 (Or.inl (by omega))
  have hk125 := kp_up hM119 (fun h => absurd h.2 (by decide)) hk111
  have hk126 := kp_up hM119 (fun h => absurd h.2 (by decide)) hk112
  have hk127 := kp_up hM119 (fun h => absurd h.2 (by decide)) hk113
  have hk128 := kp_up hM119 (fun h => absurd h.2 (by decide)) hk114
  have hk129 := kp_up hM119 (fun h => absurd h.2 (by decide)) hk115
  have hk130 := kp_up hM119 (fun h => absurd h.2 (by decide)) hk116
  have hk131 := kp_up hM119 (fun h => absurd h.2 (by decide)) hk117
  have hk132 := kp_up hM119 (fun h => absurd h.2 (by decide)) hf106
  clear hk111 hk112 hk113 hk114 hk115 hk116 hk117 hf106
  have hRo : Rg 164 M118 := by
    refine Rg_obj (n := 9) hpl hU123 (by decide) (by omega) (fun j hj => ?_)
    rcases (by omega : j = 0 ∨ j = 1 ∨ j = 2 ∨ j = 3 ∨ j = 4 ∨ j = 5 ∨ j = 6 ∨ j = 7 ∨ j = 8) with h | h | h | h | h | h | h | h | h
    · subst h
      show (rg 164 0).1 ≤ M118.1 164 0 ∧ M118.1 164 0 ≤ (rg 164 0).2
      rw [rz_164_0, hk125]; exact ⟨by dsimp only; omega, by dsimp only; omega⟩
    · subst h
      show (rg 164 1).1 ≤ M118.1 164 1 ∧ M118.1 164 1 ≤ (rg 164 1).2
      rw [rz_164_1, hk126]; exact ⟨by dsimp only; omega, by dsimp only; omega⟩
    · subst h
      show (rg 164 2).1 ≤ M118.1 164 2 ∧ M118.1 164 2 ≤ (rg 164 2).2
      rw [rz_164_2, hk127]; exact ⟨by dsimp only; omega, by dsimp only; omega⟩
    · subst h
      show (rg 164 3).1 ≤ M118.1 164 3 ∧ M118.1 164 3 ≤ (rg 164 3).2
      rw [rz_164_3, hk128]; exact ⟨by dsimp only; omega, by dsimp only; omega⟩
    · subst h
      show (rg 164 4).1 ≤ M118.1 164 4 ∧ M118.1 164 4 ≤ (rg 164 4).2
      rw [rz_164_4, hk129]; exact ⟨by dsimp only; omega, by dsimp only; omega⟩
    · subst h
      show (rg 164 5).1 ≤ M118.1 164 5 ∧ M118.1 164 5 ≤ (rg 164 5).2
      rw [rz_164_5, hk130]; exact ⟨by dsimp only; omega, by dsimp only; omega⟩
    · subst h
      show (rg 164 6).1 ≤ M118.1 164 6 ∧ M118.1 164 6 ≤ (rg 164 6).2
      rw [rz_164_6, hk131]; exact ⟨by dsimp only; omega, by dsimp only; omega⟩
    · subst h
      show (rg 164 7).1 ≤ M118.1 164 7 ∧ M118.1 164 7 ≤ (rg 164 7).2
      rw [rz_164_7, hk132]; exact ⟨by dsimp only; omega, by dsimp only; omega⟩
    · subst h
      show (rg 164 8).1 ≤ M118.1 164 8 ∧ M118.1 164 8 ≤ (rg 164 8).2
      rw [rz_164_8, hf120]; exact ⟨by dsimp only; omega, by dsimp only; omega⟩
  have hRa : RR 164 179 M118 := RR_j (RR_s RR_0 hRo (by omega)) hR124
  exact j_widen (by omega) (by omega) (hret _ _ _ dX3_init_77 ⟨hRa, hG121⟩)
