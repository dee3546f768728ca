set_option maxHeartbeats 2000000 in
set_option maxRecDepth 20000 in
theorem cv_X10_wants (l : Launch) (D : va_G) (cy : Nat → ClassId) (B N : Nat) (q : Int) (nr : Int) (a : Int) (b : Int) (M : MM) (hN : 210 ≤ N) (hI : Iv M) (hpa : I32 a) (hpb : I32 b) (hq : q = 5 ∨ q = 180) (ht : M.1 0 8 = q) (hnr : M.1 q 0 = nr) (hnb : 0 ≤ nr ∧ nr ≤ 6) (hz0 : nr = 0) : CI l D cy B N 3 yX10_wants cX10_wants 3 (some .int) [rv B 0, iv a, iv b] M (fun z M' => M' = M ∧ (z = -1)) := by
  refine mk_CI (by decide) (Nat.le_of_ble_eq_true rfl) ?_
  intro X exl exD excy hnL hX hret
  have hce : 0 + 0 ≤ (xR X).cells ∧ 0 + 0 ≤ (xR X).slots := ⟨Nat.zero_le _, Nat.zero_le _⟩
  have hdq : 5 ≤ q ∧ q ≤ 180 := by omega
  show J X B N 0 0 0 [(0, rv B 0), (1, iv a), (2, iv b)] [] M
  refine j_aload_n hX dX10_wants_0 rfl 0 rfl ?_
  refine gf_X10_62 hX (by omega) (by omega) kc_0 ht (by omega) dX10_wants_1 ?_
  refine j_iload_n hX dX10_wants_4 rfl 1 rfl ?_
  refine j_callVI hX lk_X10_120 (c_X6_hasRoom _ _ _ _ _ q _ _ (by omega) hI (by omega) hq) (by omega) hce rfl rfl (by omega) (by omega) (kq hq) rfl rfl (Nat.le_of_ble_eq_true rfl) dX10_wants_5 (fun z1 M2 hz4 hp3 => ?_)
  obtain ⟨hE5, hb6, hq7⟩ := hp3
  replace hE5 := hE5.symm
  subst hE5
  refine j_if_eq (tgt := 22) hX dX10_wants_8 (by decide) (by omega) (fun hc8 => ?_) (fun hc8 => ?_)
  · skip
    clear hq7
    refine j_iconst hX dX10_wants_22 ?_
    exact hret _ _ _ _ dX10_wants_23 rfl (by omega) ⟨rfl, by first | assumption | omega⟩
  · exfalso; omega
set_option maxHeartbeats 2000000 in
set_option maxRecDepth 20000 in
theorem cv_X10_curtain (l : Launch) (D : va_G) (cy : Nat → ClassId) (B N : Nat) (q : Int) (nr : Int) (a : Int) (M : MM) (hN : 210 ≤ N) (hI : Iv M) (hpa : I32 a) (hq : q = 5 ∨ q = 180) (ht : M.1 0 8 = q) (hnr : M.1 q 0 = nr) (hnb : 0 ≤ nr ∧ nr ≤ 6) (hRV : RV (M.1 26 2) nr M) (h1 : M.1 26 1 ≤ M.1 26 2) (hz0 : nr = 0) : CI l D cy B N 3 yX10_curtain cX10_curtain 3 (some .int) [rv B 0, iv a] M (fun z M' => Iv M' ∧ Fr (fun a b => (a = 26 ∧ 1 ≤ b ∧ b ≤ 2) ∨ (27 ≤ a ∧ a ≤ 150)) M M' ∧ (RV (M'.1 26 2) nr M') ∧ (M'.1 26 1 ≤ M'.1 26 2) ∧ (z = -1)) := by
  refine mk_CI (by decide) (Nat.le_of_ble_eq_true rfl) ?_
  intro X exl exD excy hnL hX hret
  have hce : 0 + 0 ≤ (xR X).cells ∧ 0 + 0 ≤ (xR X).slots := ⟨Nat.zero_le _, Nat.zero_le _⟩
  have hdq : 5 ≤ q ∧ q ≤ 180 := by omega
  have hF : Fr (fun a b => (a = 26 ∧ 1 ≤ b ∧ b ≤ 2) ∨ (27 ≤ a ∧ a ≤ 150)) M M := Fr.rf
  have hk1 : M.1 26 2 = M.1 26 2 := rfl
  have hk2 : M.1 26 1 = M.1 26 1 := rfl
  show J X B N 0 0 0 [(0, rv B 0), (1, iv a)] [] M
  refine j_aload_n hX dX10_curtain_0 rfl 0 rfl ?_
  refine gf_X10_62 hX (by omega) (by omega) kc_0 ht (by omega) dX10_curtain_1 ?_
  refine j_iload_n hX dX10_curtain_4 rfl 1 rfl ?_
  refine j_callVI hX lk_X10_120 (c_X6_hasRoom _ _ _ _ _ q _ _ (by omega) hI (by omega) hq) (by omega) hce rfl rfl (by omega) (by omega) (kq hq) rfl rfl (Nat.le_of_ble_eq_true rfl) dX10_curtain_5 (fun z3 M4 hz6 hp5 => ?_)
  obtain ⟨hE7, hb8, hq9⟩ := hp5
  replace hE7 := hE7.symm
  subst hE7
  refine j_if_ne (tgt := 13) hX dX10_curtain_8 (by decide) (by omega) (fun hc10 => ?_) (fun hc10 => ?_)
  · exfalso; omega
  · skip
    clear hq9
    refine j_iconst hX dX10_curtain_11 ?_
    exact hret _ _ _ _ dX10_curtain_12 rfl (by omega) ⟨hI, hF, RV_eq hRV (by omega), by omega, by first | assumption | omega⟩
set_option maxHeartbeats 2000000 in
set_option maxRecDepth 20000 in
theorem cv_X10_swap (l : Launch) (D : va_G) (cy : Nat → ClassId) (B N : Nat) (q : Int) (nr : Int) (a : Int) (b : Int) (M : MM) (hN : 210 ≤ N) (hI : Iv M) (hpa : I32 a) (hpb : I32 b) (hq : q = 5 ∨ q = 180) (ht : M.1 0 8 = q) (hnr : M.1 q 0 = nr) (hnb : 0 ≤ nr ∧ nr ≤ 6) (hRV : RV (M.1 26 2) nr M) (h1 : M.1 26 1 ≤ M.1 26 2) (hz0 : nr = 0) : CI l D cy B N 3 yX10_swap cX10_swap 4 (some .int) [rv B 0, iv a, iv b] M (fun z M' => Iv M' ∧ Fr (fun a b => (a = 26 ∧ 1 ≤ b ∧ b ≤ 2) ∨ (27 ≤ a ∧ a ≤ 150)) M M' ∧ (RV (M'.1 26 2) nr M') ∧ (M'.1 26 1 ≤ M'.1 26 2) ∧ (z = -1)) := by
  refine mk_CI (by decide) (Nat.le_of_ble_eq_true rfl) ?_
  intro X exl exD excy hnL hX hret
  have hce : 0 + 0 ≤ (xR X).cells ∧ 0 + 0 ≤ (xR X).slots := ⟨Nat.zero_le _, Nat.zero_le _⟩
  have hdq : 5 ≤ q ∧ q ≤ 180 := by omega
  have hF : Fr (fun a b => (a = 26 ∧ 1 ≤ b ∧ b ≤ 2) ∨ (27 ≤ a ∧ a ≤ 150)) M M := Fr.rf
  have hk1 : M.1 26 2 = M.1 26 2 := rfl
  have hk2 : M.1 26 1 = M.1 26 1 := rfl
  show J X B N 0 0 0 [(0, rv B 0), (1, iv a), (2, iv b)] [] M
  refine j_aload_n hX dX10_swap_0 rfl 0 rfl ?_
  refine gf_X10_62 hX (by omega) (by omega) kc_0 ht (by omega) dX10_swap_1 ?_
  refine j_iload_n hX dX10_swap_4 rfl 1 rfl ?_
  refine j_callVI hX lk_X10_120 (c_X6_hasRoom _ _ _ _ _ q _ _ (by omega) hI (by omega) hq) (by omega) hce rfl rfl (by omega) (by omega) (kq hq) rfl rfl (Nat.le_of_ble_eq_true rfl) dX10_swap_5 (fun z3 M4 hz6 hp5 => ?_)
  obtain ⟨hE7, hb8, hq9⟩ := hp5
  replace hE7 := hE7.symm
  subst hE7
  refine j_if_eq (tgt := 27) hX dX10_swap_8 (by decide) (by omega) (fun hc10 => ?_) (fun hc10 => ?_)
  · skip
    clear hq9
    refine j_iconst hX dX10_swap_27 ?_
    exact hret _ _ _ _ dX10_swap_28 rfl (by omega) ⟨hI, hF, RV_eq hRV (by omega), by omega, by first | assumption | omega⟩
  · exfalso; omega
set_option maxHeartbeats 2000000 in
set_option maxRecDepth 20000 in
theorem cv_X10_when (l : Launch) (D : va_G) (cy : Nat → ClassId) (B N : Nat) (q : Int) (nr : Int) (a : Int) (b : Int) (M : MM) (hN : 210 ≤ N) (hI : Iv M) (hpa : I32 a) (hpb : I32 b) (hq : q = 5 ∨ q = 180) (ht : M.1 0 8 = q) (hnr : M.1 q 0 = nr) (hVn : Vn nr M) (hnb : 0 ≤ nr ∧ nr ≤ 6) (hz0 : nr = 0) : CI l D cy B N 5 yX10_when cX10_when 4 (some .int) [rv B 0, iv a, iv b] M (fun z M' => Iv M' ∧ Fr (fun a (_ : Int) => (152 ≤ a ∧ a ≤ 155)) M M' ∧ (z = -1)) := by
  refine mk_CI (by decide) (Nat.le_of_ble_eq_true rfl) ?_
  intro X exl exD excy hnL hX hret
  have hce : 0 + 0 ≤ (xR X).cells ∧ 0 + 0 ≤ (xR X).slots := ⟨Nat.zero_le _, Nat.zero_le _⟩
  have hdq : 5 ≤ q ∧ q ≤ 180 := by omega
  have hF : Fr (fun a (_ : Int) => (152 ≤ a ∧ a ≤ 155)) M M := Fr.rf
  show J X B N 0 0 0 [(0, rv B 0), (1, iv a), (2, iv b)] [] M
  refine j_aload_n hX dX10_when_0 rfl 0 rfl ?_
  refine gf_X10_62 hX (by omega) (by omega) kc_0 ht (by omega) dX10_when_1 ?_
  refine j_iload_n hX dX10_when_4 rfl 1 rfl ?_
  refine j_callVI hX lk_X10_120 (c_X6_hasRoom _ _ _ _ _ q _ _ (by omega) hI (by omega) hq) (by omega) hce rfl rfl (by omega) (by omega) (kq hq) rfl rfl (Nat.le_of_ble_eq_true rfl) dX10_when_5 (fun z1 M2 hz4 hp3 => ?_)
  obtain ⟨hE5, hb6, hq7⟩ := hp3
  replace hE5 := hE5.symm
  subst hE5
  refine j_if_eq (tgt := 22) hX dX10_when_8 (by decide) (by omega) (fun hc8 => ?_) (fun hc8 => ?_)
  · skip
    clear hq7
    refine j_iconst hX dX10_when_22 ?_
    exact hret _ _ _ _ dX10_when_23 rfl (by omega) ⟨hI, hF, by first | assumption | omega⟩
  · exfalso; omega
set_option maxHeartbeats 2000000 in
set_option maxRecDepth 20000 in
theorem cv_X10_will (l : Launch) (D : va_G) (cy : Nat → ClassId) (B N : Nat) (q : Int) (nr : Int) (a : Int) (b : Int) (M : MM) (hN : 210 ≤ N) (hI : Iv M) (hpa : I32 a) (hpb : I32 b) (hq : q = 5 ∨ q = 180) (ht : M.1 0 8 = q) (hnr : M.1 q 0 = nr) (hVn : Vn nr M) (hnb : 0 ≤ nr ∧ nr ≤ 6) (hz0 : nr = 0) : CI l D cy B N 6 yX10_will cX10_will 3 (some .int) [rv B 0, iv a, iv b] M (fun z M' => Iv M' ∧ Fr (fun a (_ : Int) => (152 ≤ a ∧ a ≤ 155)) M M' ∧ (z = -1)) := by
  refine mk_CI (by decide) (Nat.le_of_ble_eq_true rfl) ?_
  intro X exl exD excy hnL hX hret
  have hce : 0 + 0 ≤ (xR X).cells ∧ 0 + 0 ≤ (xR X).slots := ⟨Nat.zero_le _, Nat.zero_le _⟩
  have hdq : 5 ≤ q ∧ q ≤ 180 := by omega
  have hF : Fr (fun a (_ : Int) => (152 ≤ a ∧ a ≤ 155)) M M := Fr.rf
  show J X B N 0 0 0 [(0, rv B 0), (1, iv a), (2, iv b)] [] M
  refine j_aload_n hX dX10_will_0 rfl 0 rfl ?_
  refine gf_X10_62 hX (by omega) (by omega) kc_0 ht (by omega) dX10_will_1 ?_
  refine j_iload_n hX dX10_will_4 rfl 1 rfl ?_
  refine j_callVI hX lk_X10_120 (c_X6_hasRoom _ _ _ _ _ q _ _ (by omega) hI (by omega) hq) (by omega) hce rfl rfl (by omega) (by omega) (kq hq) rfl rfl (Nat.le_of_ble_eq_true rfl) dX10_will_5 (fun z1 M2 hz4 hp3 => ?_)
  obtain ⟨hE5, hb6, hq7⟩ := hp3
  replace hE5 := hE5.symm
  subst hE5
  refine j_if_eq (tgt := 22) hX dX10_will_8 (by decide) (by omega) (fun hc8 => ?_) (fun hc8 => ?_)
  · skip
    clear hq7
    refine j_iconst hX dX10_will_22 ?_
    exact hret _ _ _ _ dX10_will_23 rfl (by omega) ⟨hI, hF, by first | assumption | omega⟩
  · exfalso; omega
set_option maxHeartbeats 2000000 in
set_option maxRecDepth 20000 in
theorem cv_X10_word (l : Launch) (D : va_G) (cy : Nat → ClassId) (B N : Nat) (q : Int) (nr : Int) (a : Int) (b : Int) (M : MM) (hN : 210 ≤ N) (hI : Iv M) (hpa : I32 a) (hpb : I32 b) (hq : q = 5 ∨ q = 180) (ht : M.1 0 8 = q) (hnr : M.1 q 0 = nr) (hVn : Vn nr M) (hnb : 0 ≤ nr ∧ nr ≤ 6) (hz0 : nr = 0) : CI l D cy B N 2 yX10_word cX10_word 6 (some .int) [rv B 0, iv a, iv b] M (fun z M' => Iv M' ∧ Fr (fun a b => (a = 0 ∧ 10 ≤ b ∧ b ≤ 10) ∨ (a = 179)) M M' ∧ (z = -1)) := by
  refine mk_CI (by decide) (Nat.le_of_ble_eq_true rfl) ?_
  intro X exl exD excy hnL hX hret
  have hce : 0 + 0 ≤ (xR X).cells ∧ 0 + 0 ≤ (xR X).slots := ⟨Nat.zero_le _, Nat.zero_le _⟩
  have hdq : 5 ≤ q ∧ q ≤ 180 := by omega
  have hF : Fr (fun a b => (a = 0 ∧ 10 ≤ b ∧ b ≤ 10) ∨ (a = 179)) M M := Fr.rf
  show J X B N 0 0 0 [(0, rv B 0), (1, iv a), (2, iv b)] [] M
  refine j_aload_n hX dX10_word_0 rfl 0 rfl ?_
  refine j_iconst hX dX10_word_1 ?_
  refine pf_X10_70 hX (by omega) (by omega) kc_0 (by omega) dX10_word_2 ?_
  refine j_up hI ro_0_10 (by omega) (by omega) (Or.inl (by omega)) (fun M1 w2 hw3 hM4 hI5 hf6 => ?_)
  have hV7 := Vn_up hVn hI hM4 (by omega)
  have hk8 := kp_up hM4 (fun h => absurd h.2 (by decide)) ht
  have hk9 := kp_up hM4 (by omega) hnr
  have hF10 := Fr.put hF hM4 ((Or.inl ⟨rfl, by decide, by decide⟩))
  refine j_aload_n hX dX10_word_5 rfl 0 rfl ?_
  refine gf_X10_62 hX (by omega) (by omega) kc_0 hk8 (by omega) dX10_word_6 ?_
  refine j_iload_n hX dX10_word_9 rfl 1 rfl ?_
  refine j_callVI hX lk_X10_120 (c_X6_hasRoom _ _ _ _ _ q _ _ (by omega) hI5 (by omega) hq) (by omega) hce rfl rfl (by omega) (by omega) (kq hq) rfl rfl (Nat.le_of_ble_eq_true rfl) dX10_word_10 (fun z11 M12 hz14 hp13 => ?_)
  obtain ⟨hE15, hb16, hq17⟩ := hp13
  replace hE15 := hE15.symm
  subst hE15
  refine j_if_eq (tgt := 27) hX dX10_word_13 (by decide) (by omega) (fun hc18 => ?_) (fun hc18 => ?_)
  · skip
    clear hq17
    refine j_iconst hX dX10_word_27 ?_
    exact hret _ _ _ _ dX10_word_28 rfl (by omega) ⟨hI5, hF10, by first | assumption | omega⟩
  · exfalso; omega
set_option maxHeartbeats 2000000 in
set_option maxRecDepth 20000 in
theorem cv_X10_reach (l : Launch) (D : va_G) (cy : Nat → ClassId) (B N : Nat) (q : Int) (nr : Int) (a : Int) (M : MM) (hN : 210 ≤ N) (hI : Iv M) (hpa : I32 a) (hq : q = 5 ∨ q = 180) (ht : M.1 0 8 = q) (hnr : M.1 q 0 = nr) (hVn : Vn nr M) (hnb : 0 ≤ nr ∧ nr ≤ 6) (hz0 : nr = 0) : CI l D cy B N 2 yX10_reach cX10_reach 6 (some .int) [rv B 0, iv a] M (fun z M' => M' = M ∧ (z = -1)) := by
  refine mk_CI (by decide) (Nat.le_of_ble_eq_true rfl) ?_
  intro X exl exD excy hnL hX hret
  have hce : 0 + 0 ≤ (xR X).cells ∧ 0 + 0 ≤ (xR X).slots := ⟨Nat.zero_le _, Nat.zero_le _⟩
  have hdq : 5 ≤ q ∧ q ≤ 180 := by omega
  show J X B N 0 0 0 [(0, rv B 0), (1, iv a)] [] M
  refine j_aload_n hX dX10_reach_0 rfl 0 rfl ?_
  refine gf_X10_62 hX (by omega) (by omega) kc_0 ht (by omega) dX10_reach_1 ?_
  refine j_iload_n hX dX10_reach_4 rfl 1 rfl ?_
  refine j_callVI hX lk_X10_120 (c_X6_hasRoom _ _ _ _ _ q _ _ (by omega) hI (by omega) hq) (by omega) hce rfl rfl (by omega) (by omega) (kq hq) rfl rfl (Nat.le_of_ble_eq_true rfl) dX10_reach_5 (fun z1 M2 hz4 hp3 => ?_)
  obtain ⟨hE5, hb6, hq7⟩ := hp3
  replace hE5 := hE5.symm
  subst hE5
  refine j_if_ne (tgt := 13) hX dX10_reach_8 (by decide) (by omega) (fun hc8 => ?_) (fun hc8 => ?_)
  · exfalso; omega
  · skip
    clear hq7
    refine j_iconst hX dX10_reach_11 ?_
    exact hret _ _ _ _ dX10_reach_12 rfl (by omega) ⟨rfl, by first | assumption | omega⟩
set_option maxHeartbeats 2000000 in
set_option maxRecDepth 20000 in
theorem cv_X10_harm (l : Launch) (D : va_G) (cy : Nat → ClassId) (B N : Nat) (q : Int) (nr : Int) (a : Int) (M : MM) (hN : 210 ≤ N) (hI : Iv M) (hpa : I32 a) (hq : q = 5 ∨ q = 180) (ht : M.1 0 8 = q) (hnr : M.1 q 0 = nr) (hnb : 0 ≤ nr ∧ nr ≤ 6) (hz0 : nr = 0) : CI l D cy B N 2 yX10_harm cX10_harm 5 (some .int) [rv B 0, iv a] M (fun z M' => M' = M ∧ (z = -1)) := by
  refine mk_CI (by decide) (Nat.le_of_ble_eq_true rfl) ?_
  intro X exl exD excy hnL hX hret
  have hce : 0 + 0 ≤ (xR X).cells ∧ 0 + 0 ≤ (xR X).slots := ⟨Nat.zero_le _, Nat.zero_le _⟩
  have hdq : 5 ≤ q ∧ q ≤ 180 := by omega
  show J X B N 0 0 0 [(0, rv B 0), (1, iv a)] [] M
  refine j_aload_n hX dX10_harm_0 rfl 0 rfl ?_
  refine gf_X10_62 hX (by omega) (by omega) kc_0 ht (by omega) dX10_harm_1 ?_
  refine j_iload_n hX dX10_harm_4 rfl 1 rfl ?_
  refine j_callVI hX lk_X10_120 (c_X6_hasRoom _ _ _ _ _ q _ _ (by omega) hI (by omega) hq) (by omega) hce rfl rfl (by omega) (by omega) (kq hq) rfl rfl (Nat.le_of_ble_eq_true rfl) dX10_harm_5 (fun z1 M2 hz4 hp3 => ?_)
  obtain ⟨hE5, hb6, hq7⟩ := hp3
  replace hE5 := hE5.symm
  subst hE5
  refine j_if_ne (tgt := 13) hX dX10_harm_8 (by decide) (by omega) (fun hc8 => ?_) (fun hc8 => ?_)
  · exfalso; omega
  · skip
    clear hq7
    refine j_iconst hX dX10_harm_11 ?_
    exact hret _ _ _ _ dX10_harm_12 rfl (by omega) ⟨rfl, by first | assumption | omega⟩
set_option maxHeartbeats 2000000 in
set_option maxRecDepth 20000 in
theorem cv_X10_room (l : Launch) (D : va_G) (cy : Nat → ClassId) (B N : Nat) (q : Int) (nr : Int) (a : Int) (b : Int) (M : MM) (hN : 210 ≤ N) (hI : Iv M) (hpa : I32 a) (hpb : I32 b) (hq : q = 5 ∨ q = 180) (ht : M.1 0 8 = q) (hnr : M.1 q 0 = nr) (hVn : Vn nr M) (hnb : 0 ≤ nr ∧ nr ≤ 6) (hz0 : nr = 0) : CI l D cy B N 4 yX10_room cX10_room 4 (some .int) [rv B 0, iv a, iv b] M (fun z M' => Iv M' ∧ Fr (fun a b => (a = q + 15 ∧ 5 ≤ b ∧ b ≤ 5) ∨ (q + 17 ≤ a ∧ a ≤ q + 18)) M M' ∧ (z = -1000000)) := by
  refine mk_CI (by decide) (Nat.le_of_ble_eq_true rfl) ?_
  intro X exl exD excy hnL hX hret
  have hce : 0 + 0 ≤ (xR X).cells ∧ 0 + 0 ≤ (xR X).slots := ⟨Nat.zero_le _, Nat.zero_le _⟩
  have hdq : 5 ≤ q ∧ q ≤ 180 := by omega
  have hF : Fr (fun a b => (a = q + 15 ∧ 5 ≤ b ∧ b ≤ 5) ∨ (q + 17 ≤ a ∧ a ≤ q + 18)) M M := Fr.rf
  show J X B N 0 0 0 [(0, rv B 0), (1, iv a), (2, iv b)] [] M
  refine j_aload_n hX dX10_room_0 rfl 0 rfl ?_
  refine gf_X10_62 hX (by omega) (by omega) kc_0 ht (by omega) dX10_room_1 ?_
  refine j_iload_n hX dX10_room_4 rfl 1 rfl ?_
  refine j_callVI hX lk_X10_120 (c_X6_hasRoom _ _ _ _ _ q _ _ (by omega) hI (by omega) hq) (by omega) hce rfl rfl (by omega) (by omega) (kq hq) rfl rfl (Nat.le_of_ble_eq_true rfl) dX10_room_5 (fun z1 M2 hz4 hp3 => ?_)
  obtain ⟨hE5, hb6, hq7⟩ := hp3
  replace hE5 := hE5.symm
  subst hE5
  refine j_if_ne (tgt := 14) hX dX10_room_8 (by decide) (by omega) (fun hc8 => ?_) (fun hc8 => ?_)
  · exfalso; omega
  · skip
    clear hq7
    refine j_ldc (n := (-1000000)) hX (in_4 14 (by first | rfl | decide +kernel) rfl) dX10_room_11 ?_
    exact hret _ _ _ _ dX10_room_13 rfl (by omega) ⟨hI, hF, by first | assumption | omega⟩
set_option maxHeartbeats 2000000 in
set_option maxRecDepth 20000 in
theorem cv_X10_glimpse (l : Launch) (D : va_G) (cy : Nat → ClassId) (B N : Nat) (q : Int) (nr : Int) (a : Int) (b : Int) (c : Int) (M : MM) (hN : 210 ≤ N) (hI : Iv M) (hpa : I32 a) (hpb : I32 b) (hpc : I32 c) (hq : q = 5 ∨ q = 180) (ht : M.1 0 8 = q) (hnr : M.1 q 0 = nr) (hnb : 0 ≤ nr ∧ nr ≤ 6) (h1 : 0 ≤ c ∧ c ≤ 1) (hz0 : nr = 0) : CI l D cy B N 2 yX10_glimpse cX10_glimpse 4 (some .int) [rv B 0, iv a, iv b, iv c] M (fun z M' => Iv M' ∧ Fr (fun a b => (a = 164 ∧ 7 ≤ b ∧ b ≤ 8) ∨ (167 ≤ a ∧ a ≤ 170)) M M' ∧ (z = -1)) := by
  refine mk_CI (by decide) (Nat.le_of_ble_eq_true rfl) ?_
  intro X exl exD excy hnL hX hret
  have hce : 0 + 0 ≤ (xR X).cells ∧ 0 + 0 ≤ (xR X).slots := ⟨Nat.zero_le _, Nat.zero_le _⟩
  have hdq : 5 ≤ q ∧ q ≤ 180 := by omega
  have hF : Fr (fun a b => (a = 164 ∧ 7 ≤ b ∧ b ≤ 8) ∨ (167 ≤ a ∧ a ≤ 170)) M M := Fr.rf
  show J X B N 0 0 0 [(0, rv B 0), (1, iv a), (2, iv b), (3, iv c)] [] M
  refine j_aload_n hX dX10_glimpse_0 rfl 0 rfl ?_
  refine gf_X10_62 hX (by omega) (by omega) kc_0 ht (by omega) dX10_glimpse_1 ?_
  refine j_iload_n hX dX10_glimpse_4 rfl 1 rfl ?_
  refine j_callVI hX lk_X10_120 (c_X6_hasRoom _ _ _ _ _ q _ _ (by omega) hI (by omega) hq) (by omega) hce rfl rfl (by omega) (by omega) (kq hq) rfl rfl (Nat.le_of_ble_eq_true rfl) dX10_glimpse_5 (fun z1 M2 hz4 hp3 => ?_)
  obtain ⟨hE5, hb6, hq7⟩ := hp3
  replace hE5 := hE5.symm
  subst hE5
  refine j_if_eq (tgt := 22) hX dX10_glimpse_8 (by decide) (by omega) (fun hc8 => ?_) (fun hc8 => ?_)
  · skip
    clear hq7
    refine j_iconst hX dX10_glimpse_22 ?_
    exact hret _ _ _ _ dX10_glimpse_23 rfl (by omega) ⟨hI, hF, by first | assumption | omega⟩
  · exfalso; omega
set_option maxHeartbeats 2000000 in
set_option maxRecDepth 20000 in
theorem cv_X10_sure (l : Launch) (D : va_G) (cy : Nat → ClassId) (B N : Nat) (q : Int) (nr : Int) (a : Int) (b : Int) (M : MM) (hN : 210 ≤ N) (hI : Iv M) (hpa : I32 a) (hpb : I32 b) (hq : q = 5 ∨ q = 180) (ht : M.1 0 8 = q) (hnr : M.1 q 0 = nr) (hnb : 0 ≤ nr ∧ nr ≤ 6) (hz0 : nr = 0) : CI l D cy B N 4 yX10_sure cX10_sure 4 (some .int) [rv B 0, iv a, iv b] M (fun z M' => Iv M' ∧ Fr (fun a (_ : Int) => (165 ≤ a ∧ a ≤ 166) ∨ (171 ≤ a ∧ a ≤ 178)) M M' ∧ (z = -1)) := by
  refine mk_CI (by decide) (Nat.le_of_ble_eq_true rfl) ?_
  intro X exl exD excy hnL hX hret
  have hce : 0 + 0 ≤ (xR X).cells ∧ 0 + 0 ≤ (xR X).slots := ⟨Nat.zero_le _, Nat.zero_le _⟩
  have hdq : 5 ≤ q ∧ q ≤ 180 := by omega
  have hF : Fr (fun a (_ : Int) => (165 ≤ a ∧ a ≤ 166) ∨ (171 ≤ a ∧ a ≤ 178)) M M := Fr.rf
  show J X B N 0 0 0 [(0, rv B 0), (1, iv a), (2, iv b)] [] M
  refine j_aload_n hX dX10_sure_0 rfl 0 rfl ?_
  refine gf_X10_62 hX (by omega) (by omega) kc_0 ht (by omega) dX10_sure_1 ?_
  refine j_iload_n hX dX10_sure_4 rfl 1 rfl ?_
  refine j_callVI hX lk_X10_120 (c_X6_hasRoom _ _ _ _ _ q _ _ (by omega) hI (by omega) hq) (by omega) hce rfl rfl (by omega) (by omega) (kq hq) rfl rfl (Nat.le_of_ble_eq_true rfl) dX10_sure_5 (fun z1 M2 hz4 hp3 => ?_)
  obtain ⟨hE5, hb6, hq7⟩ := hp3
  replace hE5 := hE5.symm
  subst hE5
  refine j_if_ne (tgt := 13) hX dX10_sure_8 (by decide) (by omega) (fun hc8 => ?_) (fun hc8 => ?_)
  · exfalso; omega
  · skip
    clear hq7
    refine j_iconst hX dX10_sure_11 ?_
    exact hret _ _ _ _ dX10_sure_12 rfl (by omega) ⟨hI, hF, by first | assumption | omega⟩
set_option maxHeartbeats 2000000 in
set_option maxRecDepth 20000 in
theorem cv_X10_aim (l : Launch) (D : va_G) (cy : Nat → ClassId) (B N : Nat) (q : Int) (nr : Int) (a : Int) (b : Int) (M : MM) (hN : 210 ≤ N) (hI : Iv M) (hpa : I32 a) (hpb : I32 b) (hq : q = 5 ∨ q = 180) (ht : M.1 0 8 = q) (hnr : M.1 q 0 = nr) (hnb : 0 ≤ nr ∧ nr ≤ 6) (hz0 : nr = 0) : CI l D cy B N 2 yX10_aim cX10_aim 3 (some .boolean) [rv B 0, iv a, iv b] M (fun z M' => Iv M' ∧ Fr (fun a (_ : Int) => (a = 160)) M M' ∧ (0 ≤ z ∧ z ≤ 1) ∧ (z = 0)) := by
  refine mk_CI (by decide) (Nat.le_of_ble_eq_true rfl) ?_
  intro X exl exD excy hnL hX hret
  have hce : 0 + 0 ≤ (xR X).cells ∧ 0 + 0 ≤ (xR X).slots := ⟨Nat.zero_le _, Nat.zero_le _⟩
  have hdq : 5 ≤ q ∧ q ≤ 180 := by omega
  have hF : Fr (fun a (_ : Int) => (a = 160)) M M := Fr.rf
  show J X B N 0 0 0 [(0, rv B 0), (1, iv a), (2, iv b)] [] M
  refine j_aload_n hX dX10_aim_0 rfl 0 rfl ?_
  refine gf_X10_62 hX (by omega) (by omega) kc_0 ht (by omega) dX10_aim_1 ?_
  refine j_iload_n hX dX10_aim_4 rfl 1 rfl ?_
  refine j_callVI hX lk_X10_120 (c_X6_hasRoom _ _ _ _ _ q _ _ (by omega) hI (by omega) hq) (by omega) hce rfl rfl (by omega) (by omega) (kq hq) rfl rfl (Nat.le_of_ble_eq_true rfl) dX10_aim_5 (fun z1 M2 hz4 hp3 => ?_)
  obtain ⟨hE5, hb6, hq7⟩ := hp3
  replace hE5 := hE5.symm
  subst hE5
  refine j_if_eq (tgt := 22) hX dX10_aim_8 (by decide) (by omega) (fun hc8 => ?_) (fun hc8 => ?_)
  · skip
    clear hq7
    refine j_iconst hX dX10_aim_22 ?_
    exact hret _ _ _ _ dX10_aim_23 (nb (by omega)) (by omega) ⟨hI, hF, by omega, by first | assumption | omega⟩
  · exfalso; omega
set_option maxHeartbeats 2000000 in
set_option maxRecDepth 20000 in
theorem cv_X10_drop (l : Launch) (D : va_G) (cy : Nat → ClassId) (B N : Nat) (q : Int) (nr : Int) (a : Int) (M : MM) (hN : 210 ≤ N) (hI : Iv M) (hpa : I32 a) (hq : q = 5 ∨ q = 180) (ht : M.1 0 8 = q) (hnr : M.1 q 0 = nr) (hnb : 0 ≤ nr ∧ nr ≤ 6) (hz0 : nr = 0) : CI l D cy B N 2 yX10_drop cX10_drop 2 (some .boolean) [rv B 0, iv a] M (fun z M' => Iv M' ∧ Fr (fun a (_ : Int) => (a = 160)) M M' ∧ (0 ≤ z ∧ z ≤ 1) ∧ (z = 0)) := by
  refine mk_CI (by decide) (Nat.le_of_ble_eq_true rfl) ?_
  intro X exl exD excy hnL hX hret
  have hce : 0 + 0 ≤ (xR X).cells ∧ 0 + 0 ≤ (xR X).slots := ⟨Nat.zero_le _, Nat.zero_le _⟩
  have hdq : 5 ≤ q ∧ q ≤ 180 := by omega
  have hF : Fr (fun a (_ : Int) => (a = 160)) M M := Fr.rf
  show J X B N 0 0 0 [(0, rv B 0), (1, iv a)] [] M
  refine j_aload_n hX dX10_drop_0 rfl 0 rfl ?_
  refine gf_X10_62 hX (by omega) (by omega) kc_0 ht (by omega) dX10_drop_1 ?_
  refine j_iload_n hX dX10_drop_4 rfl 1 rfl ?_
  refine j_callVI hX lk_X10_120 (c_X6_hasRoom _ _ _ _ _ q _ _ (by omega) hI (by omega) hq) (by omega) hce rfl rfl (by omega) (by omega) (kq hq) rfl rfl (Nat.le_of_ble_eq_true rfl) dX10_drop_5 (fun z1 M2 hz4 hp3 => ?_)
  obtain ⟨hE5, hb6, hq7⟩ := hp3
  replace hE5 := hE5.symm
  subst hE5
  refine j_if_eq (tgt := 26) hX dX10_drop_8 (by decide) (by omega) (fun hc8 => ?_) (fun hc8 => ?_)
  · skip
    clear hq7
    refine j_iconst hX dX10_drop_26 ?_
    exact hret _ _ _ _ dX10_drop_27 (nb (by omega)) (by omega) ⟨hI, hF, by omega, by first | assumption | omega⟩
  · exfalso; omega
set_option maxHeartbeats 2000000 in
set_option maxRecDepth 20000 in
theorem cv_X10_fact (l : Launch) (D : va_G) (cy : Nat → ClassId) (B N : Nat) (q : Int) (nf : Int) (a : Int) (b : Int) (M : MM) (hN : 210 ≤ N) (hI : Iv M) (hpa : I32 a) (hpb : I32 b) (hq : q = 5 ∨ q = 180) (ht : M.1 0 8 = q) (hnf : M.1 q 4 = nf) (hz4 : nf = 0) : CI l D cy B N 3 yX10_fact cX10_fact 3 (some .int) [rv B 0, iv a, iv b] M (fun z M' => M' = M ∧ (z = -1)) := by
  refine mk_CI (by decide) (Nat.le_of_ble_eq_true rfl) ?_
  intro X exl exD excy hnL hX hret
  have hce : 0 + 0 ≤ (xR X).cells ∧ 0 + 0 ≤ (xR X).slots := ⟨Nat.zero_le _, Nat.zero_le _⟩
  have hdq : 5 ≤ q ∧ q ≤ 180 := by omega
  have hf4 := hI.at q 4 (rq_4 hq)
  show J X B N 0 0 0 [(0, rv B 0), (1, iv a), (2, iv b)] [] M
  refine j_aload_n hX dX10_fact_0 rfl 0 rfl ?_
  refine gf_X10_62 hX (by omega) (by omega) kc_0 ht (by omega) dX10_fact_1 ?_
  refine j_iload_n hX dX10_fact_4 rfl 1 rfl ?_
  refine j_callVI hX lk_X10_153 (c_X6_hasFact _ _ _ _ _ q _ _ (by omega) hI (by omega) hq) (by omega) hce rfl rfl (by omega) (by omega) (kq hq) rfl rfl (Nat.le_of_ble_eq_true rfl) dX10_fact_5 (fun z1 M2 hz4 hp3 => ?_)
  obtain ⟨hE5, hb6, hq7⟩ := hp3
  replace hE5 := hE5.symm
  subst hE5
  refine j_if_ne (tgt := 13) hX dX10_fact_8 (by decide) (by omega) (fun hc8 => ?_) (fun hc8 => ?_)
  · exfalso; omega
  · skip
    clear hq7
    refine j_iconst hX dX10_fact_11 ?_
    exact hret _ _ _ _ dX10_fact_12 rfl (by omega) ⟨rfl, by first | assumption | omega⟩
set_option maxHeartbeats 2000000 in
set_option maxRecDepth 20000 in
theorem cv_X10_deaf (l : Launch) (D : va_G) (cy : Nat → ClassId) (B N : Nat) (q : Int) (nr : Int) (nf : Int) (a : Int) (M : MM) (hN : 210 ≤ N) (hI : Iv M) (hpa : I32 a) (hq : q = 5 ∨ q = 180) (ht : M.1 0 8 = q) (hnr : M.1 q 0 = nr) (hnf : M.1 q 4 = nf) (hVn : Vn nr M) (hnb : 0 ≤ nr ∧ nr ≤ 6) (hz4 : nf = 0) : CI l D cy B N 6 yX10_deaf cX10_deaf 2 (some .int) [rv B 0, iv a] M (fun z M' => Iv M' ∧ Fr (fun a (_ : Int) => (152 ≤ a ∧ a ≤ 155)) M M' ∧ (z = -1)) := by
  refine mk_CI (by decide) (Nat.le_of_ble_eq_true rfl) ?_
  intro X exl exD excy hnL hX hret
  have hce : 0 + 0 ≤ (xR X).cells ∧ 0 + 0 ≤ (xR X).slots := ⟨Nat.zero_le _, Nat.zero_le _⟩
  have hdq : 5 ≤ q ∧ q ≤ 180 := by omega
  have hF : Fr (fun a (_ : Int) => (152 ≤ a ∧ a ≤ 155)) M M := Fr.rf
  show J X B N 0 0 0 [(0, rv B 0), (1, iv a)] [] M
  refine j_aload_n hX dX10_deaf_0 rfl 0 rfl ?_
  refine gf_X10_62 hX (by omega) (by omega) kc_0 ht (by omega) dX10_deaf_1 ?_
  refine j_iload_n hX dX10_deaf_4 rfl 1 rfl ?_
  refine j_callVI hX lk_X10_153 (c_X6_hasFact _ _ _ _ _ q _ _ (by omega) hI (by omega) hq) (by omega) hce rfl rfl (by omega) (by omega) (kq hq) rfl rfl (Nat.le_of_ble_eq_true rfl) dX10_deaf_5 (fun z1 M2 hz4 hp3 => ?_)
  obtain ⟨hE5, hb6, hq7⟩ := hp3
  replace hE5 := hE5.symm
  subst hE5
  refine j_if_ne (tgt := 13) hX dX10_deaf_8 (by decide) (by omega) (fun hc8 => ?_) (fun hc8 => ?_)
  · exfalso; omega
  · skip
    clear hq7
    refine j_iconst hX dX10_deaf_11 ?_
    exact hret _ _ _ _ dX10_deaf_12 rfl (by omega) ⟨hI, hF, by first | assumption | omega⟩
