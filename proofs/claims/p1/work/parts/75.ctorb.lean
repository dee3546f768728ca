theorem RR_re {lo hi k : Int} {M M' : MM} (h : RR lo hi M) (hG : F2 k (k + 1) M M') (hr : Rg k M') : RR lo hi M' := fun a p q => by
  by_cases c : a = k
  · rw [c]; exact hr
  · intro b
    rw [(hG a b (by omega)).1]
    exact h a p q b
set_option maxHeartbeats 2000000 in
theorem c_fill0 (l : Launch) (D : va_G) (cy : Nat → ClassId) (B N : Nat) (k : Int) (ln : Nat) (a : Int) (M : MM) (hpa : I32 a) (hkd : kd k = .inr (0, ln)) (hk0 : 0 ≤ k ∧ k < N) (hnn : (ln : Int) ≤ 10000) : CV l D cy B N 1 yJ7_fill_53178 cJ7_fill_53178 4 none [rv B k, iv a] M (fun M' => F2 k (k + 1) M M' ∧ ∀ b, M'.1 k b = a ∨ M'.1 k b = M.1 k b) := by
  refine mk_CV (by decide) (Nat.le_of_ble_eq_true rfl) ?_
  intro X exl exD excy hnL hX hret
  have cp : ∀ n : Nat, (∀ (x2 x3 : Int), ∀ (Mc : MM), I32 x2 → I32 x3 → F2 k (k + 1) M Mc → (∀ b, Mc.1 k b = a ∨ Mc.1 k b = M.1 k b) → (0 ≤ x2 ∧ x2 ≤ ln ∧ x3 = ln) → 0 ≤ 32 * (ln - x2) + 1 → 32 * (ln - x2) + 1 < (n : Int) → J X B N 0 0 5 [(0, rv B k), (1, iv a), (2, iv x2), (3, iv x3)] [] Mc) := by
    intro n
    induction n with
    | zero => exact by intros; exfalso; omega
    | succ n ih =>
      · intro x2 x3 Mc hxx2 hxx3 hG hb h2 hm0 hm1
        refine j_iload_n hX dJ7_fill_53178_5 rfl 2 rfl ?_
        refine j_iload_n hX dJ7_fill_53178_6 rfl 3 rfl ?_
        refine j_icmp_ge (tgt := 20) hX dJ7_fill_53178_7 (by decide) (by omega) (by omega) (fun hc1 => ?_) (fun hc1 => ?_)
        · exact hret _ _ _ dJ7_fill_53178_20 ⟨hG, hb⟩
        · refine j_aload_n hX dJ7_fill_53178_10 rfl 0 rfl ?_
          refine j_iload_n hX dJ7_fill_53178_11 rfl 2 rfl ?_
          refine j_iload_n hX dJ7_fill_53178_12 rfl 1 rfl ?_
          refine j_iast hX (by omega) (by omega) hkd (by omega) (by omega) (by omega) (by omega) dJ7_fill_53178_13 ?_
          refine j_upN (fun M2 hM5 hf7 => ?_)
          have hG8 := F2.put hG hM5 ⟨by omega, by omega⟩
          have hb8 : ∀ b, M2.1 k b = a ∨ M2.1 k b = M.1 k b := fun b => by
            by_cases c : b = x2
            · rw [c]; exact Or.inl hf7
            · rw [hM5, up_ne (fun q => c q.2)]; exact hb b
          refine j_iinc (lv' := [(2, _), (0, _), (1, _), (3, _)]) hX dJ7_fill_53178_14 2 rfl (by rw [hnL]; decide) rfl ?_
          refine j_goto (tgt := 5) hX dJ7_fill_53178_17 (by decide) ?_
          refine j_sub [1, 2, 0, 3] rfl ?_
          exact ih _ _ _ (by omega) (by omega) hG8 hb8 (by omega) (by omega) (by omega)
  show J X B N 0 0 0 [(0, rv B k), (1, iv a)] [] M
  refine j_iconst hX dJ7_fill_53178_0 ?_
  refine j_istore_n (lv' := [(2, _), (0, _), (1, _)]) hX dJ7_fill_53178_1 rfl (by rw [hnL]; decide) rfl ?_
  refine j_aload_n hX dJ7_fill_53178_2 rfl 1 rfl ?_
  refine j_alen hX (by decide) (by omega) (by omega) hkd dJ7_fill_53178_3 ?_
  refine j_istore_n (lv' := [(3, _), (2, _), (0, _), (1, _)]) hX dJ7_fill_53178_4 rfl (by rw [hnL]; decide) rfl ?_
  refine j_sub [2, 3, 1, 0] rfl ?_
  refine (cp (Int.toNat (320064 + 1))) _ _ _ (by omega) (by omega) F2.rf (fun b => Or.inr rfl) (by omega) ?_ ?_
  · omega
  · omega
/-- the first x scenes stand in their row -/
def S27 (x : Int) (M : MM) : Prop := ∀ i, (0 ≤ i → i < x → M.1 27 i = 28 + 3 * i) ∧ (¬ (0 ≤ i ∧ i < 41) → M.1 27 i = 28)
theorem S27_0 {M : MM} (h : D1 27 M) : S27 0 M := fun i => ⟨fun a b => absurd b (by omega), fun q => by
  rw [(h i).1]
  unfold dv
  rw [if_neg (by rw [pl_a (by decide +kernel : kd 27 = .inr (4, 41))]; exact q), if_pos rfl]⟩
theorem S27_s {x w : Int} {M M' : MM} (h : S27 x M) (e : M' = up M 27 x w) (hw : w = 28 + 3 * x) (hx : 0 ≤ x ∧ x < 41) : S27 (x + 1) M' := fun i => ⟨fun a b => by
  by_cases c : i = x
  · rw [e, c, up_eq, hw]
  · rw [e, up_ne (fun q => c q.2)]; exact (h i).1 a (by omega), fun q => by
  rw [e, up_ne (fun z => q (by omega))]
  exact (h i).2 q⟩
theorem S27_f2 {x lo hi : Int} {M M' : MM} (h : S27 x M) (hG : F2 lo hi M M') (hl : 27 < lo ∨ hi ≤ 27) : S27 x M' := fun i => by
  rw [(hG 27 i (by omega)).1]
  exact h i
theorem S27_r {M : MM} (h : S27 41 M) : Rg 27 M := fun j => by
  rw [ra_27 j]
  by_cases c : 0 ≤ j ∧ j < 41
  · rw [(h j).1 c.1 c.2]; exact ⟨by dsimp only; omega, by dsimp only; omega⟩
  · rw [(h j).2 c]; exact ⟨by decide, by decide⟩
theorem S27_sc {M : MM} (h : S27 41 M) : ∀ i, Sc (M.1 27 i) := fun j => by
  by_cases c : 0 ≤ j ∧ j < 41
  · rw [(h j).1 c.1 c.2]; exact Or.inl ⟨by omega, by omega, by omega⟩
  · rw [(h j).2 c]; exact Or.inl ⟨by omega, by omega, by omega⟩
def SS (M : MM) : Prop := ∀ i, Sc (M.1 27 i)
theorem SS_up {k j w : Int} {M M' : MM} (h : SS M) (e : M' = up M k j w) (hk : k ≠ 27) : SS M' := fun i => by
  rw [e, up_ne (fun q => hk q.1.symm)]; exact h i
theorem SS_f2 {lo hi : Int} {M M' : MM} (h : SS M) (hG : F2 lo hi M M') (hl : 27 < lo ∨ hi ≤ 27) : SS M' := fun i => by
  rw [(hG 27 i (by omega)).1]
  exact h i
theorem Iv_of {M : MM} (h : ∀ k, Rg k M) (hs : SS M) : Iv M := ⟨fun k j => h k j, hs⟩
theorem dX5_init_0 : decode cX5_init 0 = .ok (.aload_n 0, 1) := by decide +kernel
theorem dX5_init_1 : decode cX5_init 1 = .ok (.invokespecial 3, 3) := by decide +kernel
theorem dX5_init_4 : decode cX5_init 4 = .ok (.aload_n 0, 1) := by decide +kernel
theorem dX5_init_5 : decode cX5_init 5 = .ok (.new 9, 3) := by decide +kernel
theorem dX5_init_8 : decode cX5_init 8 = .ok (.dup, 1) := by decide +kernel
theorem dX5_init_9 : decode cX5_init 9 = .ok (.invokespecial 11, 3) := by decide +kernel
theorem dX5_init_12 : decode cX5_init 12 = .ok (.putfield 12, 3) := by decide +kernel
theorem dX5_init_15 : decode cX5_init 15 = .ok (.aload_n 0, 1) := by decide +kernel
theorem dX5_init_16 : decode cX5_init 16 = .ok (.bipush 6, 2) := by decide +kernel
theorem dX5_init_18 : decode cX5_init 18 = .ok (.newarray .int, 2) := by decide +kernel
theorem dX5_init_20 : decode cX5_init 20 = .ok (.putfield 18, 3) := by decide +kernel
theorem dX5_init_23 : decode cX5_init 23 = .ok (.aload_n 0, 1) := by decide +kernel
theorem dX5_init_24 : decode cX5_init 24 = .ok (.bipush 6, 2) := by decide +kernel
theorem dX5_init_26 : decode cX5_init 26 = .ok (.newarray .int, 2) := by decide +kernel
theorem dX5_init_28 : decode cX5_init 28 = .ok (.putfield 22, 3) := by decide +kernel
theorem dX5_init_31 : decode cX5_init 31 = .ok (.aload_n 0, 1) := by decide +kernel
theorem dX5_init_32 : decode cX5_init 32 = .ok (.bipush 6, 2) := by decide +kernel
theorem dX5_init_34 : decode cX5_init 34 = .ok (.newarray .int, 2) := by decide +kernel
theorem dX5_init_36 : decode cX5_init 36 = .ok (.putfield 25, 3) := by decide +kernel
theorem dX5_init_39 : decode cX5_init 39 = .ok (.aload_n 0, 1) := by decide +kernel
theorem dX5_init_40 : decode cX5_init 40 = .ok (.bipush 6, 2) := by decide +kernel
theorem dX5_init_42 : decode cX5_init 42 = .ok (.newarray .int, 2) := by decide +kernel
theorem dX5_init_44 : decode cX5_init 44 = .ok (.putfield 28, 3) := by decide +kernel
theorem dX5_init_47 : decode cX5_init 47 = .ok (.aload_n 0, 1) := by decide +kernel
theorem dX5_init_48 : decode cX5_init 48 = .ok (.getfield 18, 3) := by decide +kernel
theorem dX5_init_51 : decode cX5_init 51 = .ok (.iconst (-1), 1) := by decide +kernel
theorem dX5_init_52 : decode cX5_init 52 = .ok (.invokestatic 31, 3) := by decide +kernel
theorem dX5_init_55 : decode cX5_init 55 = .ok (.return_, 1) := by decide +kernel
set_option maxHeartbeats 2000000 in
set_option maxRecDepth 20000 in
theorem c_X5_init (l : Launch) (D : va_G) (cy : Nat → ClassId) (B N : Nat) (M : MM) (hN : (N : Int) = 157 + 1) (hd : DF 157 164 M) : CN l D cy B N (N + 6) 2 6 32 yX5_init cX5_init 1 [rv B 157] M (fun M' => RR 157 164 M' ∧ F2 157 164 M M') := by
  refine mk_CN (by decide) rfl (Nat.le_of_ble_eq_true rfl) ?_
  intro X exl exD excy hnL hX hin hRc hRs hret
  have hpl : pl 157 = ((5 : Nat) : Int) := pl_o (r := (RX5, TX5, 5)) (by decide +kernel : kd 157 = .inl 5) rfl
  have hG : F2 157 164 M M := F2.rf
  have hD : DF 158 164 M := hd.sub (by omega) (Int.le_refl _)
  have hU : UL 157 [] M := UL_0 (hd.at _ (by omega) (by omega))
  have hR : RR 158 158 M := RR_0
  show J X B N 0 0 0 [(0, rv B 157)] [] M
  refine j_aload_n hX dX5_init_0 rfl 0 rfl ?_
  refine j_objInit hX (in_2 113 (by first | rfl | decide +kernel) rfl) (in_1 28 (by first | rfl | decide +kernel) rfl) (in_1 29 (by first | rfl | decide +kernel) rfl) (by omega) (Nat.le_of_ble_eq_true rfl) dX5_init_1 ?_
  refine j_aload_n hX dX5_init_4 rfl 0 rfl ?_
  refine j_new hX (k := 158) (by omega) hin_4 tyX4_ok rfl (in_2 114 (by first | rfl | decide +kernel) rfl) (in_2 115 (by first | rfl | decide +kernel) rfl) (in_1 14 (by first | rfl | decide +kernel) rfl) (by decide +kernel : kd 158 = .inl 4) (fun _ => rfl) okX4 (hD.at _ (by omega) (by omega)) ⟨by omega, by omega⟩ dX5_init_5 ?_
  refine j_dup hX dX5_init_8 rfl ?_
  refine j_callN hX (List.mem_of_getElem? (i := 6) rfl) lkI_4 (c_X4_init _ _ _ _ _ 158 _ (by omega) (by omega) (hD.sub (by omega) (by omega))) (by omega) ⟨by omega, by omega⟩ (Nat.le_of_ble_eq_true rfl) dX5_init_9 (fun M1 hp2 => ?_)
  obtain ⟨hRn3, hGn4⟩ := hp2
  have hG5 := F2.trans hG hGn4 (by omega) (by omega)
  have hD6 := DF_f2 (hD.sub (lo' := 160) (by omega) (Int.le_refl _)) hGn4 (by omega)
  have hU7 := UL_f2 hU hGn4 (by omega)
  have hR8 := RR_f2 hR hGn4 (Or.inl (by omega))
  have hR9 : RR 158 160 M1 := RR_j hR8 hRn3
  refine pfF_X5_12 hX hin (by omega) (by omega) (by decide +kernel : kd 157 = .inl 5) (by omega) (by omega) dX5_init_12 ?_
  refine j_upN (fun M10 hM11 hf12 => ?_)
  have hG13 := F2.put hG5 hM11 ⟨by omega, by omega⟩
  have hD14 := DF_up hD6 hM11 (by omega)
  have hU15 := UL_up hU7 hM11
  have hR16 := RR_up hR9 hM11 (Or.inl (by omega))
  refine j_aload_n hX dX5_init_15 rfl 0 rfl ?_
  refine j_bipush hX dX5_init_16 rfl ?_
  refine j_newa hX (k := 160) (by omega) (t := 0) (n := 6) rfl (by decide) (in_1 163 (by first | rfl | decide +kernel) rfl) (by decide +kernel : kd 160 = .inr (0, 6)) rfl (by decide) (hD14.at _ (by omega) (by omega)) ⟨by omega, by omega⟩ dX5_init_18 ?_
  have hR17 : RR 158 161 M10 := RR_s hR16 (Rg_plain (by omega) (by omega) (by decide +kernel : kd 160 = .inr (0, 6)) (by decide) (hD14.at _ (by omega) (by omega))) (by omega)
  refine pfF_X5_18 hX hin (by omega) (by omega) (by decide +kernel : kd 157 = .inl 5) (by omega) (by omega) dX5_init_20 ?_
  refine j_upN (fun M18 hM19 hf20 => ?_)
  have hG21 := F2.put hG13 hM19 ⟨by omega, by omega⟩
  have hD22 := DF_up hD14 hM19 (by omega)
  have hU23 := UL_up hU15 hM19
  have hR24 := RR_up hR17 hM19 (Or.inl (by omega))
  have hk25 := kp_up hM19 (fun h => absurd h.2 (by decide)) hf12
  clear hf12
  refine j_aload_n hX dX5_init_23 rfl 0 rfl ?_
  refine j_bipush hX dX5_init_24 rfl ?_
  refine j_newa hX (k := 161) (by omega) (t := 0) (n := 6) rfl (by decide) (in_1 163 (by first | rfl | decide +kernel) rfl) (by decide +kernel : kd 161 = .inr (0, 6)) rfl (by decide) (hD22.at _ (by omega) (by omega)) ⟨by omega, by omega⟩ dX5_init_26 ?_
  have hR26 : RR 158 162 M18 := RR_s hR24 (Rg_plain (by omega) (by omega) (by decide +kernel : kd 161 = .inr (0, 6)) (by decide) (hD22.at _ (by omega) (by omega))) (by omega)
  refine pfF_X5_22 hX hin (by omega) (by omega) (by decide +kernel : kd 157 = .inl 5) (by omega) (by omega) dX5_init_28 ?_
  refine j_upN (fun M27 hM28 hf29 => ?_)
  have hG30 := F2.put hG21 hM28 ⟨by omega, by omega⟩
  have hD31 := DF_up hD22 hM28 (by omega)
  have hU32 := UL_up hU23 hM28
  have hR33 := RR_up hR26 hM28 (Or.inl (by omega))
  have hk34 := kp_up hM28 (fun h => absurd h.2 (by decide)) hk25
  have hk35 := kp_up hM28 (fun h => absurd h.2 (by decide)) hf20
  clear hk25 hf20
  refine j_aload_n hX dX5_init_31 rfl 0 rfl ?_
  refine j_bipush hX dX5_init_32 rfl ?_
  refine j_newa hX (k := 162) (by omega) (t := 0) (n := 6) rfl (by decide) (in_1 163 (by first | rfl | decide +kernel) rfl) (by decide +kernel : kd 162 = .inr (0, 6)) rfl (by decide) (hD31.at _ (by omega) (by omega)) ⟨by omega, by omega⟩ dX5_init_34 ?_
  have hR36 : RR 158 163 M27 := RR_s hR33 (Rg_plain (by omega) (by omega) (by decide +kernel : kd 162 = .inr (0, 6)) (by decide) (hD31.at _ (by omega) (by omega))) (by omega)
  refine pfF_X5_25 hX hin (by omega) (by omega) (by decide +kernel : kd 157 = .inl 5) (by omega) (by omega) dX5_init_36 ?_
  refine j_upN (fun M37 hM38 hf39 => ?_)
  have hG40 := F2.put hG30 hM38 ⟨by omega, by omega⟩
  have hD41 := DF_up hD31 hM38 (by omega)
  have hU42 := UL_up hU32 hM38
  have hR43 := RR_up hR36 hM38 (Or.inl (by omega))
  have hk44 := kp_up hM38 (fun h => absurd h.2 (by decide)) hk34
  have hk45 := kp_up hM38 (fun h => absurd h.2 (by decide)) hk35
  have hk46 := kp_up hM38 (fun h => absurd h.2 (by decide)) hf29
  clear hk34 hk35 hf29
  refine j_aload_n hX dX5_init_39 rfl 0 rfl ?_
  refine j_bipush hX dX5_init_40 rfl ?_
  refine j_newa hX (k := 163) (by omega) (t := 0) (n := 6) rfl (by decide) (in_1 163 (by first | rfl | decide +kernel) rfl) (by decide +kernel : kd 163 = .inr (0, 6)) rfl (by decide) (hD41.at _ (by omega) (by omega)) ⟨by omega, by omega⟩ dX5_init_42 ?_
  have hR47 : RR 158 164 M37 := RR_s hR43 (Rg_plain (by omega) (by omega) (by decide +kernel : kd 163 = .inr (0, 6)) (by decide) (hD41.at _ (by omega) (by omega))) (by omega)
  refine pfF_X5_28 hX hin (by omega) (by omega) (by decide +kernel : kd 157 = .inl 5) (by omega) (by omega) dX5_init_44 ?_
  refine j_upN (fun M48 hM49 hf50 => ?_)
  have hG51 := F2.put hG40 hM49 ⟨by omega, by omega⟩
  have hD52 := DF_up hD41 hM49 (by omega)
  have hU53 := UL_up hU42 hM49
  have hR54 := RR_up hR47 hM49 (Or.inl (by omega))
  have hk55 := kp_up hM49 (fun h => absurd h.2 (by decide)) hk44
  have hk56 := kp_up hM49 (fun h => absurd h.2 (by decide)) hk45
  have hk57 := kp_up hM49 (fun h => absurd h.2 (by decide)) hk46
  have hk58 := kp_up hM49 (fun h => absurd h.2 (by decide)) hf39
  clear hk44 hk45 hk46 hf39
  refine j_aload_n hX dX5_init_47 rfl 0 rfl ?_
  refine gf_X5_18 hX (by omega) (by omega) (by decide +kernel : kd 157 = .inl 5) hk56 (by omega) dX5_init_48 ?_
  refine j_iconst hX dX5_init_51 ?_
  refine j_callSV hX lk_X5_31 (c_fill0 _ _ _ _ _ 160 6 _ _ (by omega) (by decide +kernel) (by omega) (by decide)) (by omega) ⟨by omega, by omega⟩ rfl rfl (Nat.le_of_ble_eq_true rfl) dX5_init_52 (fun M59 hp60 => ?_)
  obtain ⟨hGf, hbf⟩ := hp60
  have hRf : Rg 160 M59 := fun b => by
    rw [ra_160 b]
    rcases hbf b with h | h
    · rw [h]; exact ⟨by decide, by decide⟩
    · rw [h]; have h9 := hR54 160 (by omega) (by omega) b; rw [ra_160 b] at h9; exact h9
  have hRz := RR_re hR54 hGf hRf
  have hGz := F2.trans hG51 hGf (by omega) (by omega)
  have hUz := UL_f2 hU53 hGf (by omega)
  have hk61 := kp_f2 hGf (by omega) hk55
  have hk62 := kp_f2 hGf (by omega) hk56
  have hk63 := kp_f2 hGf (by omega) hk57
  have hk64 := kp_f2 hGf (by omega) hk58
  have hk65 := kp_f2 hGf (by omega) hf50
  clear hk55 hk56 hk57 hk58 hf50
  have hRo : Rg 157 M59 := by
    refine Rg_obj (n := 5) hpl hUz (by decide) (by omega) (fun j hj => ?_)
    rcases (by omega : j = 0 ∨ j = 1 ∨ j = 2 ∨ j = 3 ∨ j = 4) with h | h | h | h | h
    · subst h
      show (rg 157 0).1 ≤ M59.1 157 0 ∧ M59.1 157 0 ≤ (rg 157 0).2
      rw [rz_157_0, hk61]; exact ⟨by dsimp only; omega, by dsimp only; omega⟩
    · subst h
      show (rg 157 1).1 ≤ M59.1 157 1 ∧ M59.1 157 1 ≤ (rg 157 1).2
      rw [rz_157_1, hk62]; exact ⟨by dsimp only; omega, by dsimp only; omega⟩
    · subst h
      show (rg 157 2).1 ≤ M59.1 157 2 ∧ M59.1 157 2 ≤ (rg 157 2).2
      rw [rz_157_2, hk63]; exact ⟨by dsimp only; omega, by dsimp only; omega⟩
    · subst h
      show (rg 157 3).1 ≤ M59.1 157 3 ∧ M59.1 157 3 ≤ (rg 157 3).2
      rw [rz_157_3, hk64]; exact ⟨by dsimp only; omega, by dsimp only; omega⟩
    · subst h
      show (rg 157 4).1 ≤ M59.1 157 4 ∧ M59.1 157 4 ≤ (rg 157 4).2
      rw [rz_157_4, hk65]; exact ⟨by dsimp only; omega, by dsimp only; omega⟩
  have hRa : RR 157 164 M59 := RR_j (RR_s RR_0 hRo (by omega)) hRz
  exact j_widen (by omega) (by omega) (hret _ _ _ dX5_init_55 ⟨hRa, hGz⟩)
theorem dX0_init_0 : decode cX0_init 0 = .ok (.aload_n 0, 1) := by decide +kernel
theorem dX0_init_1 : decode cX0_init 1 = .ok (.invokespecial 3, 3) := by decide +kernel
theorem dX0_init_4 : decode cX0_init 4 = .ok (.aload_n 0, 1) := by decide +kernel
theorem dX0_init_5 : decode cX0_init 5 = .ok (.bipush 41, 2) := by decide +kernel
theorem dX0_init_7 : decode cX0_init 7 = .ok (.anewarray 9, 3) := by decide +kernel
theorem dX0_init_10 : decode cX0_init 10 = .ok (.putfield 11, 3) := by decide +kernel
theorem dX0_init_13 : decode cX0_init 13 = .ok (.aload_n 0, 1) := by decide +kernel
theorem dX0_init_14 : decode cX0_init 14 = .ok (.iconst 0, 1) := by decide +kernel
theorem dX0_init_15 : decode cX0_init 15 = .ok (.putfield 17, 3) := by decide +kernel
theorem dX0_init_18 : decode cX0_init 18 = .ok (.aload_n 0, 1) := by decide +kernel
theorem dX0_init_19 : decode cX0_init 19 = .ok (.iconst 0, 1) := by decide +kernel
theorem dX0_init_20 : decode cX0_init 20 = .ok (.putfield 21, 3) := by decide +kernel
theorem dX0_init_23 : decode cX0_init 23 = .ok (.iconst 0, 1) := by decide +kernel
theorem dX0_init_24 : decode cX0_init 24 = .ok (.istore_n 1, 1) := by decide +kernel
theorem dX0_init_25 : decode cX0_init 25 = .ok (.iload_n 1, 1) := by decide +kernel
theorem dX0_init_26 : decode cX0_init 26 = .ok (.bipush 40, 2) := by decide +kernel
theorem dX0_init_28 : decode cX0_init 28 = .ok (.if_icmp .gt 22, 3) := by decide +kernel
theorem dX0_init_31 : decode cX0_init 31 = .ok (.aload_n 0, 1) := by decide +kernel
theorem dX0_init_32 : decode cX0_init 32 = .ok (.getfield 11, 3) := by decide +kernel
theorem dX0_init_35 : decode cX0_init 35 = .ok (.iload_n 1, 1) := by decide +kernel
theorem dX0_init_36 : decode cX0_init 36 = .ok (.new 9, 3) := by decide +kernel
theorem dX0_init_39 : decode cX0_init 39 = .ok (.dup, 1) := by decide +kernel
theorem dX0_init_40 : decode cX0_init 40 = .ok (.invokespecial 24, 3) := by decide +kernel
theorem dX0_init_43 : decode cX0_init 43 = .ok (.aastore, 1) := by decide +kernel
theorem dX0_init_44 : decode cX0_init 44 = .ok (.iinc 1 1, 3) := by decide +kernel
theorem dX0_init_47 : decode cX0_init 47 = .ok (.goto (-22), 3) := by decide +kernel
theorem dX0_init_50 : decode cX0_init 50 = .ok (.return_, 1) := by decide +kernel
set_option maxHeartbeats 2000000 in
set_option maxRecDepth 20000 in
theorem c_X0_init (l : Launch) (D : va_G) (cy : Nat → ClassId) (B N : Nat) (M : MM) (hN : (N : Int) = 26 + 1) (hd : DF 26 151 M) : CN l D cy B N (N + 124) 2 124 779 yX0_init cX0_init 2 [rv B 26] M (fun M' => RR 26 151 M' ∧ F2 26 151 M M' ∧ (M'.1 26 1 = 0) ∧ (M'.1 26 2 = 0) ∧ (SS M')) := by
  refine mk_CN (by decide) rfl (Nat.le_of_ble_eq_true rfl) ?_
  intro X exl exD excy hnL hX hin hRc hRs hret
  have hpl : pl 26 = ((3 : Nat) : Int) := pl_o (r := (RX0, TX0, 3)) (by decide +kernel : kd 26 = .inl 0) rfl
  have cp : ∀ n : Nat, ∀ (x : Int) (Nc c0 s0 : Nat) (Mc : MM), 0 ≤ x → x ≤ 41 → (Nc : Int) = 28 + 3 * x → (c0 : Int) = 1 + 3 * x → (s0 : Int) = 41 + 18 * x → F2 26 151 M Mc → DF (28 + 3 * x) 151 Mc → UL 26 [2, 1, 0] Mc → S27 x Mc → RR 28 (28 + 3 * x) Mc → Mc.1 26 0 = 27 → Mc.1 26 1 = 0 → Mc.1 26 2 = 0 → 41 - x < (n : Int) → J X B Nc c0 s0 25 [(0, rv B 26), (1, iv x)] [] Mc := by
    intro n
    induction n with
    | zero => intros; exfalso; omega
    | succ n ih =>
      intro x Nc c0 s0 Mc hx0 hx1 hNc hc0 hs0 hG hD hU hS hR hk0 hk1 hk2 hm
      refine j_iload_n hX dX0_init_25 rfl 1 rfl ?_
      refine j_bipush hX dX0_init_26 rfl ?_
      refine j_icmp_gt (tgt := 50) hX dX0_init_28 (by decide) (by omega) (by omega) (fun hc => ?_) (fun hc => ?_)
      · have e41 : x = 41 := by omega
        subst e41
        have eN : Nc = N + 124 := by omega
        subst eN
        have hRo : Rg 26 Mc := by
          refine Rg_obj (n := 3) hpl hU (by decide) (by omega) (fun j hj => ?_)
          rcases (by omega : j = 0 ∨ j = 1 ∨ j = 2) with h | h | h
          · subst h
            show (rg 26 0).1 ≤ Mc.1 26 0 ∧ Mc.1 26 0 ≤ (rg 26 0).2
            rw [rz_26_0, hk0]; exact ⟨by decide, by decide⟩
          · subst h
            show (rg 26 1).1 ≤ Mc.1 26 1 ∧ Mc.1 26 1 ≤ (rg 26 1).2
            rw [rz_26_1, hk1]; exact ⟨by decide, by decide⟩
          · subst h
            show (rg 26 2).1 ≤ Mc.1 26 2 ∧ Mc.1 26 2 ≤ (rg 26 2).2
            rw [rz_26_2, hk2]; exact ⟨by decide, by decide⟩
        have hRa : RR 26 151 Mc := RR_j (RR_s (RR_s RR_0 hRo (by omega : (27 : Int) = 26 + 1)) (S27_r hS) (by omega : (28 : Int) = 27 + 1)) hR
        exact j_widen (by omega) (by omega) (hret _ _ _ dX0_init_50 ⟨hRa, hG, hk1, hk2, S27_sc hS⟩)
      · have hs : Sc (28 + 3 * x) := Or.inl ⟨by omega, by omega, by omega⟩
        refine j_aload_n hX dX0_init_31 rfl 0 rfl ?_
        refine gf_X0_11 hX (by omega) (by omega) (by decide +kernel) hk0 (by omega) dX0_init_32 ?_
        refine j_iload_n hX dX0_init_35 rfl 1 rfl ?_
        refine j_new hX (k := 28 + 3 * x) (by omega) hin_8 tyX8_ok rfl (in_2 47 (by first | rfl | decide +kernel) rfl) (in_2 49 (by first | rfl | decide +kernel) rfl) (in_1 11 (by first | rfl | decide +kernel) rfl) (sc_k0 hs) (fun _ => rfl) okX8 (hD.at _ (by omega) (by omega)) ⟨by omega, by omega⟩ dX0_init_36 ?_
        refine j_dup hX dX0_init_39 rfl ?_
        refine j_callN hX (List.mem_of_getElem? (i := 3) rfl) lkI_8 (c_X8_init _ _ _ _ _ (28 + 3 * x) _ hs (by omega) (hD.sub (by omega) (by omega))) (by omega) ⟨by omega, by omega⟩ (Nat.le_of_ble_eq_true rfl) dX0_init_40 (fun M2 hp => ?_)
        obtain ⟨hRn, hGn⟩ := hp
        refine j_aast4 hX (by omega) (by omega) (by decide +kernel : kd 27 = .inr (4, 41)) (by omega) (by omega) (by decide) (by omega) (by omega) (by omega) (sc_k0 hs) dX0_init_43 ?_
        refine j_upN (fun M3 hM hf => ?_)
        refine j_iinc (lv' := [(1, _), (0, _)]) hX dX0_init_44 1 rfl (by rw [hnL]; decide) rfl ?_
        refine j_goto (tgt := 25) hX dX0_init_47 (by decide) ?_
        refine j_sub [1, 0] rfl ?_
        have hD2 : DF (28 + 3 * (x + 1)) 151 M2 := DF_f2 (hD.sub (lo' := 28 + 3 * (x + 1)) (by omega) (Int.le_refl _)) hGn (by omega)
        have hR2 : RR 28 (28 + 3 * (x + 1)) M2 := fun a p q => RR_j (RR_f2 hR hGn (Or.inl (by omega))) hRn a p (by omega)
        exact ih (x + 1) _ _ _ M3 (by omega) (by omega) (by omega) (by omega) (by omega) (F2.put (F2.trans hG hGn (by omega) (by omega)) hM ⟨by omega, by omega⟩) (DF_up hD2 hM (by omega)) (UL_ne (UL_f2 hU hGn (by omega)) hM (by omega)) (S27_s (S27_f2 hS hGn (Or.inl (by omega))) hM rfl ⟨by omega, by omega⟩) (RR_up hR2 hM (Or.inl (by omega))) (kp_up hM (by omega) (kp_f2 hGn (by omega) hk0)) (kp_up hM (by omega) (kp_f2 hGn (by omega) hk1)) (kp_up hM (by omega) (kp_f2 hGn (by omega) hk2)) (by omega)
  have hG : F2 26 151 M M := F2.rf
  have hD : DF 27 151 M := hd.sub (by omega) (Int.le_refl _)
  have hU : UL 26 [] M := UL_0 (hd.at _ (by omega) (by omega))
  have hR : RR 27 27 M := RR_0
  show J X B N 0 0 0 [(0, rv B 26)] [] M
  refine j_aload_n hX dX0_init_0 rfl 0 rfl ?_
  refine j_objInit hX (in_2 46 (by first | rfl | decide +kernel) rfl) (in_1 28 (by first | rfl | decide +kernel) rfl) (in_1 29 (by first | rfl | decide +kernel) rfl) (by omega) (Nat.le_of_ble_eq_true rfl) dX0_init_1 ?_
  refine j_aload_n hX dX0_init_4 rfl 0 rfl ?_
  refine j_bipush hX dX0_init_5 rfl ?_
  refine j_newq hX (k := 27) (by omega) (n := 41) (in_2 47 (by first | rfl | decide +kernel) rfl) (by decide +kernel : kd 27 = .inr (4, 41)) rfl (by decide) (hD.at _ (by omega) (by omega)) ⟨by omega, by omega⟩ dX0_init_7 ?_
  refine pfF_X0_11 hX hin (by omega) (by omega) (by decide +kernel : kd 26 = .inl 0) (by omega) (by omega) dX0_init_10 ?_
  refine j_upN (fun M1 hM2 hf3 => ?_)
  have hG4 := F2.put hG hM2 ⟨by omega, by omega⟩
  have hD5 := DF_up hD hM2 (by omega)
  have hU6 := UL_up hU hM2
  have hR7 := RR_up hR hM2 (Or.inl (by omega))
  refine j_aload_n hX dX0_init_13 rfl 0 rfl ?_
  refine j_iconst hX dX0_init_14 ?_
  refine pf_X0_17 hX (by omega) (by omega) (by decide +kernel : kd 26 = .inl 0) (by omega) dX0_init_15 ?_
  refine j_upN (fun M8 hM9 hf10 => ?_)
  have hG11 := F2.put hG4 hM9 ⟨by omega, by omega⟩
  have hD12 := DF_up hD5 hM9 (by omega)
  have hU13 := UL_up hU6 hM9
  have hR14 := RR_up hR7 hM9 (Or.inl (by omega))
  have hk15 := kp_up hM9 (fun h => absurd h.2 (by decide)) hf3
  clear hf3
  refine j_aload_n hX dX0_init_18 rfl 0 rfl ?_
  refine j_iconst hX dX0_init_19 ?_
  refine pf_X0_21 hX (by omega) (by omega) (by decide +kernel : kd 26 = .inl 0) (by omega) dX0_init_20 ?_
  refine j_upN (fun M16 hM17 hf18 => ?_)
  have hG19 := F2.put hG11 hM17 ⟨by omega, by omega⟩
  have hD20 := DF_up hD12 hM17 (by omega)
  have hU21 := UL_up hU13 hM17
  have hR22 := RR_up hR14 hM17 (Or.inl (by omega))
  have hk23 := kp_up hM17 (fun h => absurd h.2 (by decide)) hk15
  have hk24 := kp_up hM17 (fun h => absurd h.2 (by decide)) hf10
  clear hk15 hf10
  refine j_iconst hX dX0_init_23 ?_
  refine j_istore_n (lv' := [(1, _), (0, _)]) hX dX0_init_24 rfl (by rw [hnL]; decide) rfl ?_
  have hDz : DF 28 151 M16 := hD20.sub (by omega) (by omega)
  have hS0 : S27 0 M16 := S27_0 (hD20.at 27 (by omega) (by omega))
  refine j_sub [1, 0] rfl ?_
  exact cp 50 0 _ _ _ _ (by omega) (by omega) (by omega) (by omega) (by omega) hG19 (hDz.sub (by omega) (Int.le_refl _)) hU21 hS0 (fun a p q => absurd q (by omega)) hk23 hk24 hf18 (by omega)
