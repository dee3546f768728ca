set_option maxHeartbeats 2000000 in
set_option maxRecDepth 20000 in
theorem cv_X11_many (l : Launch) (D : va_G) (cy : Nat → ClassId) (B N : Nat) (bk : Int) (nr : Int) (M : MM) (hN : 257 ≤ N) (hI : Iv M) (hbk : M.1 210 40 = bk) (hnr : M.1 213 bk = nr) (hz0 : nr = 0) : CI l D cy B N 1 yX11_many cX11_many 1 (some .int) [rv B 210] M (fun z M' => M' = M ∧ (z = nr) ∧ (z = 0)) := by
  refine mk_CI (by decide) (Nat.le_of_ble_eq_true rfl) ?_
  intro X exl exD excy hnL hX hret
  have hce : 0 + 0 ≤ (xR X).cells ∧ 0 + 0 ≤ (xR X).slots := ⟨Nat.zero_le _, Nat.zero_le _⟩
  have hbk2 : 0 ≤ bk ∧ bk ≤ 1 := by have := hI.at 210 40 ro_210_40; omega
  have hnr2 : 0 ≤ nr ∧ nr ≤ 6 := by have := hI.at 213 bk (ra_213 _); omega
  show J X B N 0 0 0 [(0, rv B 210)] [] M
  refine j_aload_n hX dX11_many_0 rfl 0 rfl ?_
  refine gf_X11_20 hX (by omega) (by omega) kc_210 (fc_210_11 hI) (by decide) dX11_many_1 ?_
  refine j_aload_n hX dX11_many_4 rfl 0 rfl ?_
  refine gf_X11_279 hX (by omega) (by omega) kc_210 dX11_many_5 ?_
  refine j_top hbk ?_
  refine j_iald hX (by omega) (by omega) kc_213 (by omega) (by omega) (by omega) dX11_many_8 ?_
  refine j_top hnr ?_
  exact hret _ _ _ _ dX11_many_9 rfl (by omega) ⟨rfl, by first | assumption | omega, by first | assumption | omega⟩
set_option maxHeartbeats 2000000 in
set_option maxRecDepth 20000 in
theorem cv_X11_isRoom (l : Launch) (D : va_G) (cy : Nat → ClassId) (B N : Nat) (bk : Int) (nr : Int) (a : Int) (M : MM) (hN : 257 ≤ N) (hI : Iv M) (hpa : I32 a) (hbk : M.1 210 40 = bk) (hnr : M.1 213 bk = nr) (hz0 : nr = 0) : CI l D cy B N 2 yX11_isRoom cX11_isRoom 2 (some .boolean) [rv B 210, iv a] M (fun z M' => M' = M ∧ (0 ≤ z ∧ z ≤ 1) ∧ (z = 1 → 0 ≤ a ∧ a < nr) ∧ (z = 0)) := by
  refine mk_CI (by decide) (Nat.le_of_ble_eq_true rfl) ?_
  intro X exl exD excy hnL hX hret
  have hce : 0 + 0 ≤ (xR X).cells ∧ 0 + 0 ≤ (xR X).slots := ⟨Nat.zero_le _, Nat.zero_le _⟩
  have hbk2 : 0 ≤ bk ∧ bk ≤ 1 := by have := hI.at 210 40 ro_210_40; omega
  have hnr2 : 0 ≤ nr ∧ nr ≤ 6 := by have := hI.at 213 bk (ra_213 _); omega
  show J X B N 0 0 0 [(0, rv B 210), (1, iv a)] [] M
  refine j_iload_n hX dX11_isRoom_0 rfl 1 rfl ?_
  refine j_iconst hX dX11_isRoom_1 ?_
  refine j_aload_n hX dX11_isRoom_2 rfl 0 rfl ?_
  refine j_callVI hX lk_X11_385 (cv_X11_many _ _ _ _ _ _ _ _ (by omega) hI hbk hnr (by first | assumption | omega)) (by omega) hce rfl rfl (by omega) (by omega) kc_210 rfl rfl (Nat.le_of_ble_eq_true rfl) dX11_isRoom_3 (fun z1 M2 hz4 hp3 => ?_)
  obtain ⟨hE5, hq6, hq7⟩ := hp3
  replace hE5 := hE5.symm
  subst hE5
  refine j_iconst hX dX11_isRoom_6 ?_
  refine j_isub hX dX11_isRoom_7 ?_
  refine j_callSI hX lk_X11_388 (c_X11_isIn _ _ _ _ _ _ _ _ _ (by omega) (by omega) (by omega)) (by omega) hce rfl rfl (Nat.le_of_ble_eq_true rfl) dX11_isRoom_8 (fun z8 M9 hz11 hp10 => ?_)
  obtain ⟨hE12, hb13, hq14, hq15⟩ := hp10
  replace hE12 := hE12.symm
  subst hE12
  exact hret _ _ _ _ dX11_isRoom_11 (nb (by omega)) (by omega) ⟨rfl, by omega, by first | assumption | omega, by first | assumption | omega⟩
set_option maxHeartbeats 2000000 in
set_option maxRecDepth 20000 in
theorem cv_X11_isFact (l : Launch) (D : va_G) (cy : Nat → ClassId) (B N : Nat) (bk : Int) (nf : Int) (a : Int) (M : MM) (hN : 257 ≤ N) (hI : Iv M) (hpa : I32 a) (hbk : M.1 210 40 = bk) (hk_nf : M.1 214 bk = nf) (hz_nf : nf = 0) : CI l D cy B N 2 yX11_isFact cX11_isFact 2 (some .boolean) [rv B 210, iv a] M (fun z M' => M' = M ∧ (0 ≤ z ∧ z ≤ 1) ∧ (z = 1 → 0 ≤ a ∧ a < 10) ∧ (z = 0)) := by
  refine mk_CI (by decide) (Nat.le_of_ble_eq_true rfl) ?_
  intro X exl exD excy hnL hX hret
  have hce : 0 + 0 ≤ (xR X).cells ∧ 0 + 0 ≤ (xR X).slots := ⟨Nat.zero_le _, Nat.zero_le _⟩
  have hbk2 : 0 ≤ bk ∧ bk ≤ 1 := by have := hI.at 210 40 ro_210_40; omega
  show J X B N 0 0 0 [(0, rv B 210), (1, iv a)] [] M
  refine j_iload_n hX dX11_isFact_0 rfl 1 rfl ?_
  refine j_iconst hX dX11_isFact_1 ?_
  refine j_aload_n hX dX11_isFact_2 rfl 0 rfl ?_
  refine gf_X11_24 hX (by omega) (by omega) kc_210 (fc_210_12 hI) (by decide) dX11_isFact_3 ?_
  refine j_aload_n hX dX11_isFact_6 rfl 0 rfl ?_
  refine gf_X11_279 hX (by omega) (by omega) kc_210 dX11_isFact_7 ?_
  refine j_top hbk ?_
  refine j_iald hX (by omega) (by omega) kc_214 (by omega) (by omega) (by omega) dX11_isFact_10 ?_
  refine j_top hk_nf ?_
  refine j_iconst hX dX11_isFact_11 ?_
  refine j_isub hX dX11_isFact_12 ?_
  refine j_callSI hX lk_X11_388 (c_X11_isIn _ _ _ _ _ _ _ _ _ (by omega) (by omega) (by omega)) (by omega) hce rfl rfl (Nat.le_of_ble_eq_true rfl) dX11_isFact_13 (fun z1 M2 hz4 hp3 => ?_)
  obtain ⟨hE5, hb6, hq7, hq8⟩ := hp3
  replace hE5 := hE5.symm
  subst hE5
  exact hret _ _ _ _ dX11_isFact_16 (nb (by omega)) (by omega) ⟨rfl, by omega, by first | assumption | omega, by first | assumption | omega⟩
set_option maxHeartbeats 2000000 in
set_option maxRecDepth 20000 in
theorem cv_X11_wants (l : Launch) (D : va_G) (cy : Nat → ClassId) (B N : Nat) (bk : Int) (nr : Int) (a : Int) (b : Int) (M : MM) (hN : 257 ≤ N) (hI : Iv M) (hpa : I32 a) (hpb : I32 b) (hbk : M.1 210 40 = bk) (hnr : M.1 213 bk = nr) (hz0 : nr = 0) : CI l D cy B N 3 yX11_wants cX11_wants 3 (some .int) [rv B 210, iv a, iv b] M (fun z M' => M' = M ∧ (z = -1)) := by
  refine mk_CI (by decide) (Nat.le_of_ble_eq_true rfl) ?_
  intro X exl exD excy hnL hX hret
  have hce : 0 + 0 ≤ (xR X).cells ∧ 0 + 0 ≤ (xR X).slots := ⟨Nat.zero_le _, Nat.zero_le _⟩
  have hbk2 : 0 ≤ bk ∧ bk ≤ 1 := by have := hI.at 210 40 ro_210_40; omega
  have hnr2 : 0 ≤ nr ∧ nr ≤ 6 := by have := hI.at 213 bk (ra_213 _); omega
  show J X B N 0 0 0 [(0, rv B 210), (1, iv a), (2, iv b)] [] M
  refine j_aload_n hX dX11_wants_0 rfl 0 rfl ?_
  refine j_iload_n hX dX11_wants_1 rfl 1 rfl ?_
  refine j_callVI hX lk_X11_419 (cv_X11_isRoom _ _ _ _ _ _ _ _ _ (by omega) hI (by omega) hbk hnr (by first | assumption | omega)) (by omega) hce rfl rfl (by omega) (by omega) kc_210 rfl rfl (Nat.le_of_ble_eq_true rfl) dX11_wants_2 (fun z1 M2 hz4 hp3 => ?_)
  obtain ⟨hE5, hb6, hq7, hq8⟩ := hp3
  replace hE5 := hE5.symm
  subst hE5
  refine j_if_eq (tgt := 25) hX dX11_wants_5 (by decide) (by omega) (fun hc9 => ?_) (fun hc9 => ?_)
  · skip
    clear hq7
    refine j_iconst hX dX11_wants_25 ?_
    exact hret _ _ _ _ dX11_wants_26 rfl (by omega) ⟨rfl, by first | assumption | omega⟩
  · exfalso; omega
set_option maxHeartbeats 2000000 in
set_option maxRecDepth 20000 in
theorem cv_X11_curtain (l : Launch) (D : va_G) (cy : Nat → ClassId) (B N : Nat) (bk : Int) (nr : Int) (a : Int) (M : MM) (hN : 257 ≤ N) (hI : Iv M) (hpa : I32 a) (hbk : M.1 210 40 = bk) (hnr : M.1 213 bk = nr) (hRS : RS nr M) (hz0 : nr = 0) : CI l D cy B N 3 yX11_curtain cX11_curtain 2 (some .int) [rv B 210, iv a] M (fun z M' => Iv M' ∧ Fr (fun a b => (a = 210 ∧ 50 ≤ b ∧ b ≤ 51) ∨ (a = 244) ∨ (242 ≤ a ∧ a ≤ 243)) M M' ∧ (RS nr M') ∧ (z = -1)) := by
  refine mk_CI (by decide) (Nat.le_of_ble_eq_true rfl) ?_
  intro X exl exD excy hnL hX hret
  have hce : 0 + 0 ≤ (xR X).cells ∧ 0 + 0 ≤ (xR X).slots := ⟨Nat.zero_le _, Nat.zero_le _⟩
  have hF : Fr (fun a b => (a = 210 ∧ 50 ≤ b ∧ b ≤ 51) ∨ (a = 244) ∨ (242 ≤ a ∧ a ≤ 243)) M M := Fr.rf
  have hbk2 : 0 ≤ bk ∧ bk ≤ 1 := by have := hI.at 210 40 ro_210_40; omega
  have hnr2 : 0 ≤ nr ∧ nr ≤ 6 := by have := hI.at 213 bk (ra_213 _); omega
  show J X B N 0 0 0 [(0, rv B 210), (1, iv a)] [] M
  refine j_aload_n hX dX11_curtain_0 rfl 0 rfl ?_
  refine j_iload_n hX dX11_curtain_1 rfl 1 rfl ?_
  refine j_callVI hX lk_X11_419 (cv_X11_isRoom _ _ _ _ _ _ _ _ _ (by omega) hI (by omega) hbk hnr (by first | assumption | omega)) (by omega) hce rfl rfl (by omega) (by omega) kc_210 rfl rfl (Nat.le_of_ble_eq_true rfl) dX11_curtain_2 (fun z1 M2 hz4 hp3 => ?_)
  obtain ⟨hE5, hb6, hq7, hq8⟩ := hp3
  replace hE5 := hE5.symm
  subst hE5
  refine j_if_ne (tgt := 10) hX dX11_curtain_5 (by decide) (by omega) (fun hc9 => ?_) (fun hc9 => ?_)
  · exfalso; omega
  · skip
    clear hq7
    refine j_iconst hX dX11_curtain_8 ?_
    exact hret _ _ _ _ dX11_curtain_9 rfl (by omega) ⟨hI, hF, hRS, by first | assumption | omega⟩
set_option maxHeartbeats 2000000 in
set_option maxRecDepth 20000 in
theorem cv_X11_swap (l : Launch) (D : va_G) (cy : Nat → ClassId) (B N : Nat) (bk : Int) (nr : Int) (a : Int) (b : Int) (M : MM) (hN : 257 ≤ N) (hI : Iv M) (hpa : I32 a) (hpb : I32 b) (hbk : M.1 210 40 = bk) (hnr : M.1 213 bk = nr) (hRS : RS nr M) (hz0 : nr = 0) : CI l D cy B N 3 yX11_swap cX11_swap 3 (some .int) [rv B 210, iv a, iv b] M (fun z M' => Iv M' ∧ Fr (fun a b => (a = 210 ∧ 50 ≤ b ∧ b ≤ 51) ∨ (a = 244) ∨ (242 ≤ a ∧ a ≤ 243)) M M' ∧ (RS nr M') ∧ (z = -1)) := by
  refine mk_CI (by decide) (Nat.le_of_ble_eq_true rfl) ?_
  intro X exl exD excy hnL hX hret
  have hce : 0 + 0 ≤ (xR X).cells ∧ 0 + 0 ≤ (xR X).slots := ⟨Nat.zero_le _, Nat.zero_le _⟩
  have hF : Fr (fun a b => (a = 210 ∧ 50 ≤ b ∧ b ≤ 51) ∨ (a = 244) ∨ (242 ≤ a ∧ a ≤ 243)) M M := Fr.rf
  have hbk2 : 0 ≤ bk ∧ bk ≤ 1 := by have := hI.at 210 40 ro_210_40; omega
  have hnr2 : 0 ≤ nr ∧ nr ≤ 6 := by have := hI.at 213 bk (ra_213 _); omega
  show J X B N 0 0 0 [(0, rv B 210), (1, iv a), (2, iv b)] [] M
  refine j_aload_n hX dX11_swap_0 rfl 0 rfl ?_
  refine j_iload_n hX dX11_swap_1 rfl 1 rfl ?_
  refine j_callVI hX lk_X11_419 (cv_X11_isRoom _ _ _ _ _ _ _ _ _ (by omega) hI (by omega) hbk hnr (by first | assumption | omega)) (by omega) hce rfl rfl (by omega) (by omega) kc_210 rfl rfl (Nat.le_of_ble_eq_true rfl) dX11_swap_2 (fun z1 M2 hz4 hp3 => ?_)
  obtain ⟨hE5, hb6, hq7, hq8⟩ := hp3
  replace hE5 := hE5.symm
  subst hE5
  refine j_if_eq (tgt := 21) hX dX11_swap_5 (by decide) (by omega) (fun hc9 => ?_) (fun hc9 => ?_)
  · skip
    clear hq7
    refine j_iconst hX dX11_swap_21 ?_
    exact hret _ _ _ _ dX11_swap_22 rfl (by omega) ⟨hI, hF, hRS, by first | assumption | omega⟩
  · exfalso; omega
set_option maxHeartbeats 2000000 in
set_option maxRecDepth 20000 in
theorem cv_X11_when (l : Launch) (D : va_G) (cy : Nat → ClassId) (B N : Nat) (bk : Int) (nr : Int) (a : Int) (b : Int) (M : MM) (hN : 257 ≤ N) (hI : Iv M) (hpa : I32 a) (hpb : I32 b) (hbk : M.1 210 40 = bk) (hnr : M.1 213 bk = nr) (hLP : LQ nr 242 0 M) (hz0 : nr = 0) : CI l D cy B N 5 yX11_when cX11_when 4 (some .int) [rv B 210, iv a, iv b] M (fun z M' => Iv M' ∧ Fr (fun a (_ : Int) => (242 ≤ a ∧ a ≤ 243) ∨ (a = 245)) M M' ∧ (LQ nr 242 0 M') ∧ (z = -1)) := by
  refine mk_CI (by decide) (Nat.le_of_ble_eq_true rfl) ?_
  intro X exl exD excy hnL hX hret
  have hce : 0 + 0 ≤ (xR X).cells ∧ 0 + 0 ≤ (xR X).slots := ⟨Nat.zero_le _, Nat.zero_le _⟩
  have hF : Fr (fun a (_ : Int) => (242 ≤ a ∧ a ≤ 243) ∨ (a = 245)) M M := Fr.rf
  have hbk2 : 0 ≤ bk ∧ bk ≤ 1 := by have := hI.at 210 40 ro_210_40; omega
  have hnr2 : 0 ≤ nr ∧ nr ≤ 6 := by have := hI.at 213 bk (ra_213 _); omega
  show J X B N 0 0 0 [(0, rv B 210), (1, iv a), (2, iv b)] [] M
  refine j_aload_n hX dX11_when_0 rfl 0 rfl ?_
  refine j_iload_n hX dX11_when_1 rfl 1 rfl ?_
  refine j_callVI hX lk_X11_419 (cv_X11_isRoom _ _ _ _ _ _ _ _ _ (by omega) hI (by omega) hbk hnr (by first | assumption | omega)) (by omega) hce rfl rfl (by omega) (by omega) kc_210 rfl rfl (Nat.le_of_ble_eq_true rfl) dX11_when_2 (fun z1 M2 hz4 hp3 => ?_)
  obtain ⟨hE5, hb6, hq7, hq8⟩ := hp3
  replace hE5 := hE5.symm
  subst hE5
  refine j_if_eq (tgt := 16) hX dX11_when_5 (by decide) (by omega) (fun hc9 => ?_) (fun hc9 => ?_)
  · skip
    clear hq7
    refine j_iconst hX dX11_when_16 ?_
    exact hret _ _ _ _ dX11_when_17 rfl (by omega) ⟨hI, hF, hLP, by first | assumption | omega⟩
  · exfalso; omega
set_option maxHeartbeats 2000000 in
set_option maxRecDepth 20000 in
theorem cv_X11_will (l : Launch) (D : va_G) (cy : Nat → ClassId) (B N : Nat) (bk : Int) (nr : Int) (a : Int) (b : Int) (M : MM) (hN : 257 ≤ N) (hI : Iv M) (hpa : I32 a) (hpb : I32 b) (hbk : M.1 210 40 = bk) (hnr : M.1 213 bk = nr) (hLP : LQ nr 242 0 M) (hz0 : nr = 0) : CI l D cy B N 4 yX11_will cX11_will 4 (some .int) [rv B 210, iv a, iv b] M (fun z M' => Iv M' ∧ Fr (fun a (_ : Int) => (242 ≤ a ∧ a ≤ 243) ∨ (a = 245)) M M' ∧ (LQ nr 242 0 M') ∧ (z = -1)) := by
  refine mk_CI (by decide) (Nat.le_of_ble_eq_true rfl) ?_
  intro X exl exD excy hnL hX hret
  have hce : 0 + 0 ≤ (xR X).cells ∧ 0 + 0 ≤ (xR X).slots := ⟨Nat.zero_le _, Nat.zero_le _⟩
  have hF : Fr (fun a (_ : Int) => (242 ≤ a ∧ a ≤ 243) ∨ (a = 245)) M M := Fr.rf
  have hbk2 : 0 ≤ bk ∧ bk ≤ 1 := by have := hI.at 210 40 ro_210_40; omega
  have hnr2 : 0 ≤ nr ∧ nr ≤ 6 := by have := hI.at 213 bk (ra_213 _); omega
  show J X B N 0 0 0 [(0, rv B 210), (1, iv a), (2, iv b)] [] M
  refine j_aload_n hX dX11_will_0 rfl 0 rfl ?_
  refine j_iload_n hX dX11_will_1 rfl 1 rfl ?_
  refine j_callVI hX lk_X11_419 (cv_X11_isRoom _ _ _ _ _ _ _ _ _ (by omega) hI (by omega) hbk hnr (by first | assumption | omega)) (by omega) hce rfl rfl (by omega) (by omega) kc_210 rfl rfl (Nat.le_of_ble_eq_true rfl) dX11_will_2 (fun z1 M2 hz4 hp3 => ?_)
  obtain ⟨hE5, hb6, hq7, hq8⟩ := hp3
  replace hE5 := hE5.symm
  subst hE5
  refine j_if_eq (tgt := 19) hX dX11_will_5 (by decide) (by omega) (fun hc9 => ?_) (fun hc9 => ?_)
  · skip
    clear hq7
    refine j_iconst hX dX11_will_19 ?_
    exact hret _ _ _ _ dX11_will_20 rfl (by omega) ⟨hI, hF, hLP, by first | assumption | omega⟩
  · exfalso; omega
set_option maxHeartbeats 2000000 in
set_option maxRecDepth 20000 in
theorem cv_X11_word (l : Launch) (D : va_G) (cy : Nat → ClassId) (B N : Nat) (bk : Int) (nr : Int) (a : Int) (b : Int) (M : MM) (hN : 257 ≤ N) (hI : Iv M) (hpa : I32 a) (hpb : I32 b) (hbk : M.1 210 40 = bk) (hnr : M.1 213 bk = nr) (hLP : LQ nr 242 0 M) (hz0 : nr = 0) : CI l D cy B N 3 yX11_word cX11_word 5 (some .int) [rv B 210, iv a, iv b] M (fun z M' => Iv M' ∧ Fr (fun a b => (a = 210 ∧ 54 ≤ b ∧ b ≤ 54) ∨ (a = 246)) M M' ∧ (z = -1)) := by
  refine mk_CI (by decide) (Nat.le_of_ble_eq_true rfl) ?_
  intro X exl exD excy hnL hX hret
  have hce : 0 + 0 ≤ (xR X).cells ∧ 0 + 0 ≤ (xR X).slots := ⟨Nat.zero_le _, Nat.zero_le _⟩
  have hF : Fr (fun a b => (a = 210 ∧ 54 ≤ b ∧ b ≤ 54) ∨ (a = 246)) M M := Fr.rf
  have hbk2 : 0 ≤ bk ∧ bk ≤ 1 := by have := hI.at 210 40 ro_210_40; omega
  have hnr2 : 0 ≤ nr ∧ nr ≤ 6 := by have := hI.at 213 bk (ra_213 _); omega
  show J X B N 0 0 0 [(0, rv B 210), (1, iv a), (2, iv b)] [] M
  refine j_aload_n hX dX11_word_0 rfl 0 rfl ?_
  refine j_iconst hX dX11_word_1 ?_
  refine pf_X11_404 hX (by omega) (by omega) kc_210 (by omega) dX11_word_2 ?_
  refine j_up hI ro_210_54 (by omega) (by omega) (Or.inl (by omega)) (fun M1 w2 hw3 hM4 hI5 hf6 => ?_)
  have hV7 := LQ_dp (M' := M1) hLP (fun a b h => by rw [hM4]; exact up_ne (by omega))
  have hk8 := kp_up hM4 (fun h => absurd h.2 (by decide)) hbk
  have hk9 := kp_up hM4 (fun h => absurd h.1 (by decide)) hnr
  have hF10 := Fr.put hF hM4 ((Or.inl ⟨rfl, by decide, by decide⟩))
  refine j_aload_n hX dX11_word_5 rfl 0 rfl ?_
  refine j_iload_n hX dX11_word_6 rfl 1 rfl ?_
  refine j_callVI hX lk_X11_419 (cv_X11_isRoom _ _ _ _ _ _ _ _ _ (by omega) hI5 (by omega) hk8 hk9 (by first | assumption | omega)) (by omega) hce rfl rfl (by omega) (by omega) kc_210 rfl rfl (Nat.le_of_ble_eq_true rfl) dX11_word_7 (fun z11 M12 hz14 hp13 => ?_)
  obtain ⟨hE15, hb16, hq17, hq18⟩ := hp13
  replace hE15 := hE15.symm
  subst hE15
  refine j_if_eq (tgt := 21) hX dX11_word_10 (by decide) (by omega) (fun hc19 => ?_) (fun hc19 => ?_)
  · skip
    clear hq17
    refine j_iconst hX dX11_word_21 ?_
    exact hret _ _ _ _ dX11_word_22 rfl (by omega) ⟨hI5, hF10, by first | assumption | omega⟩
  · exfalso; omega
set_option maxHeartbeats 2000000 in
set_option maxRecDepth 20000 in
theorem cv_X11_reach (l : Launch) (D : va_G) (cy : Nat → ClassId) (B N : Nat) (bk : Int) (nr : Int) (a : Int) (M : MM) (hN : 257 ≤ N) (hI : Iv M) (hpa : I32 a) (hbk : M.1 210 40 = bk) (hnr : M.1 213 bk = nr) (hLP : LQ nr 242 0 M) (hz0 : nr = 0) : CI l D cy B N 3 yX11_reach cX11_reach 5 (some .int) [rv B 210, iv a] M (fun z M' => M' = M ∧ (z = -1)) := by
  refine mk_CI (by decide) (Nat.le_of_ble_eq_true rfl) ?_
  intro X exl exD excy hnL hX hret
  have hce : 0 + 0 ≤ (xR X).cells ∧ 0 + 0 ≤ (xR X).slots := ⟨Nat.zero_le _, Nat.zero_le _⟩
  have hbk2 : 0 ≤ bk ∧ bk ≤ 1 := by have := hI.at 210 40 ro_210_40; omega
  have hnr2 : 0 ≤ nr ∧ nr ≤ 6 := by have := hI.at 213 bk (ra_213 _); omega
  show J X B N 0 0 0 [(0, rv B 210), (1, iv a)] [] M
  refine j_aload_n hX dX11_reach_0 rfl 0 rfl ?_
  refine j_iload_n hX dX11_reach_1 rfl 1 rfl ?_
  refine j_callVI hX lk_X11_419 (cv_X11_isRoom _ _ _ _ _ _ _ _ _ (by omega) hI (by omega) hbk hnr (by first | assumption | omega)) (by omega) hce rfl rfl (by omega) (by omega) kc_210 rfl rfl (Nat.le_of_ble_eq_true rfl) dX11_reach_2 (fun z1 M2 hz4 hp3 => ?_)
  obtain ⟨hE5, hb6, hq7, hq8⟩ := hp3
  replace hE5 := hE5.symm
  subst hE5
  refine j_if_ne (tgt := 10) hX dX11_reach_5 (by decide) (by omega) (fun hc9 => ?_) (fun hc9 => ?_)
  · exfalso; omega
  · skip
    clear hq7
    refine j_iconst hX dX11_reach_8 ?_
    exact hret _ _ _ _ dX11_reach_9 rfl (by omega) ⟨rfl, by first | assumption | omega⟩
set_option maxHeartbeats 2000000 in
set_option maxRecDepth 20000 in
theorem cv_X11_harm (l : Launch) (D : va_G) (cy : Nat → ClassId) (B N : Nat) (bk : Int) (nr : Int) (a : Int) (M : MM) (hN : 257 ≤ N) (hI : Iv M) (hpa : I32 a) (hbk : M.1 210 40 = bk) (hnr : M.1 213 bk = nr) (hz0 : nr = 0) : CI l D cy B N 3 yX11_harm cX11_harm 4 (some .int) [rv B 210, iv a] M (fun z M' => M' = M ∧ (z = -1)) := by
  refine mk_CI (by decide) (Nat.le_of_ble_eq_true rfl) ?_
  intro X exl exD excy hnL hX hret
  have hce : 0 + 0 ≤ (xR X).cells ∧ 0 + 0 ≤ (xR X).slots := ⟨Nat.zero_le _, Nat.zero_le _⟩
  have hbk2 : 0 ≤ bk ∧ bk ≤ 1 := by have := hI.at 210 40 ro_210_40; omega
  have hnr2 : 0 ≤ nr ∧ nr ≤ 6 := by have := hI.at 213 bk (ra_213 _); omega
  show J X B N 0 0 0 [(0, rv B 210), (1, iv a)] [] M
  refine j_aload_n hX dX11_harm_0 rfl 0 rfl ?_
  refine j_iload_n hX dX11_harm_1 rfl 1 rfl ?_
  refine j_callVI hX lk_X11_419 (cv_X11_isRoom _ _ _ _ _ _ _ _ _ (by omega) hI (by omega) hbk hnr (by first | assumption | omega)) (by omega) hce rfl rfl (by omega) (by omega) kc_210 rfl rfl (Nat.le_of_ble_eq_true rfl) dX11_harm_2 (fun z1 M2 hz4 hp3 => ?_)
  obtain ⟨hE5, hb6, hq7, hq8⟩ := hp3
  replace hE5 := hE5.symm
  subst hE5
  refine j_if_ne (tgt := 10) hX dX11_harm_5 (by decide) (by omega) (fun hc9 => ?_) (fun hc9 => ?_)
  · exfalso; omega
  · skip
    clear hq7
    refine j_iconst hX dX11_harm_8 ?_
    exact hret _ _ _ _ dX11_harm_9 rfl (by omega) ⟨rfl, by first | assumption | omega⟩
set_option maxHeartbeats 2000000 in
set_option maxRecDepth 20000 in
theorem cv_X11_glimpse (l : Launch) (D : va_G) (cy : Nat → ClassId) (B N : Nat) (bk : Int) (nr : Int) (a : Int) (b : Int) (c : Int) (M : MM) (hN : 257 ≤ N) (hI : Iv M) (hpa : I32 a) (hpb : I32 b) (hpc : I32 c) (hbk : M.1 210 40 = bk) (hnr : M.1 213 bk = nr) (hz0 : nr = 0) : CI l D cy B N 3 yX11_glimpse cX11_glimpse 4 (some .int) [rv B 210, iv a, iv b, iv c] M (fun z M' => Iv M' ∧ Fr (fun a b => (a = 210 ∧ 63 ≤ b ∧ b ≤ 63) ∨ (249 ≤ a ∧ a ≤ 253)) M M' ∧ (z = -1)) := by
  refine mk_CI (by decide) (Nat.le_of_ble_eq_true rfl) ?_
  intro X exl exD excy hnL hX hret
  have hce : 0 + 0 ≤ (xR X).cells ∧ 0 + 0 ≤ (xR X).slots := ⟨Nat.zero_le _, Nat.zero_le _⟩
  have hF : Fr (fun a b => (a = 210 ∧ 63 ≤ b ∧ b ≤ 63) ∨ (249 ≤ a ∧ a ≤ 253)) M M := Fr.rf
  have hbk2 : 0 ≤ bk ∧ bk ≤ 1 := by have := hI.at 210 40 ro_210_40; omega
  have hnr2 : 0 ≤ nr ∧ nr ≤ 6 := by have := hI.at 213 bk (ra_213 _); omega
  show J X B N 0 0 0 [(0, rv B 210), (1, iv a), (2, iv b), (3, iv c)] [] M
  refine j_aload_n hX dX11_glimpse_0 rfl 0 rfl ?_
  refine j_iload_n hX dX11_glimpse_1 rfl 1 rfl ?_
  refine j_callVI hX lk_X11_419 (cv_X11_isRoom _ _ _ _ _ _ _ _ _ (by omega) hI (by omega) hbk hnr (by first | assumption | omega)) (by omega) hce rfl rfl (by omega) (by omega) kc_210 rfl rfl (Nat.le_of_ble_eq_true rfl) dX11_glimpse_2 (fun z1 M2 hz4 hp3 => ?_)
  obtain ⟨hE5, hb6, hq7, hq8⟩ := hp3
  replace hE5 := hE5.symm
  subst hE5
  refine j_if_eq (tgt := 25) hX dX11_glimpse_5 (by decide) (by omega) (fun hc9 => ?_) (fun hc9 => ?_)
  · skip
    clear hq7
    refine j_iconst hX dX11_glimpse_25 ?_
    exact hret _ _ _ _ dX11_glimpse_26 rfl (by omega) ⟨hI, hF, by first | assumption | omega⟩
  · exfalso; omega
set_option maxHeartbeats 2000000 in
set_option maxRecDepth 20000 in
theorem cv_X11_sure (l : Launch) (D : va_G) (cy : Nat → ClassId) (B N : Nat) (bk : Int) (nr : Int) (a : Int) (b : Int) (M : MM) (hN : 257 ≤ N) (hI : Iv M) (hpa : I32 a) (hpb : I32 b) (hbk : M.1 210 40 = bk) (hnr : M.1 213 bk = nr) (hz0 : nr = 0) : CI l D cy B N 4 yX11_sure cX11_sure 4 (some .int) [rv B 210, iv a, iv b] M (fun z M' => Iv M' ∧ Fr (fun a b => (a = 210 ∧ 65 ≤ b ∧ b ≤ 65) ∨ (a = 248) ∨ (a = 254)) M M' ∧ (z = -1)) := by
  refine mk_CI (by decide) (Nat.le_of_ble_eq_true rfl) ?_
  intro X exl exD excy hnL hX hret
  have hce : 0 + 0 ≤ (xR X).cells ∧ 0 + 0 ≤ (xR X).slots := ⟨Nat.zero_le _, Nat.zero_le _⟩
  have hF : Fr (fun a b => (a = 210 ∧ 65 ≤ b ∧ b ≤ 65) ∨ (a = 248) ∨ (a = 254)) M M := Fr.rf
  have hbk2 : 0 ≤ bk ∧ bk ≤ 1 := by have := hI.at 210 40 ro_210_40; omega
  have hnr2 : 0 ≤ nr ∧ nr ≤ 6 := by have := hI.at 213 bk (ra_213 _); omega
  show J X B N 0 0 0 [(0, rv B 210), (1, iv a), (2, iv b)] [] M
  refine j_aload_n hX dX11_sure_0 rfl 0 rfl ?_
  refine j_iload_n hX dX11_sure_1 rfl 1 rfl ?_
  refine j_callVI hX lk_X11_419 (cv_X11_isRoom _ _ _ _ _ _ _ _ _ (by omega) hI (by omega) hbk hnr (by first | assumption | omega)) (by omega) hce rfl rfl (by omega) (by omega) kc_210 rfl rfl (Nat.le_of_ble_eq_true rfl) dX11_sure_2 (fun z1 M2 hz4 hp3 => ?_)
  obtain ⟨hE5, hb6, hq7, hq8⟩ := hp3
  replace hE5 := hE5.symm
  subst hE5
  refine j_if_ne (tgt := 10) hX dX11_sure_5 (by decide) (by omega) (fun hc9 => ?_) (fun hc9 => ?_)
  · exfalso; omega
  · skip
    clear hq7
    refine j_iconst hX dX11_sure_8 ?_
    exact hret _ _ _ _ dX11_sure_9 rfl (by omega) ⟨hI, hF, by first | assumption | omega⟩
set_option maxHeartbeats 2000000 in
set_option maxRecDepth 20000 in
theorem cv_X11_hide (l : Launch) (D : va_G) (cy : Nat → ClassId) (B N : Nat) (bk : Int) (nr : Int) (a : Int) (b : Int) (c : Int) (M : MM) (hN : 257 ≤ N) (hI : Iv M) (hpa : I32 a) (hpb : I32 b) (hpc : I32 c) (hbk : M.1 210 40 = bk) (hnr : M.1 213 bk = nr) (hLP : LQ nr 242 0 M) (hz0 : nr = 0) : CI l D cy B N 5 yX11_hide cX11_hide 6 (some .int) [rv B 210, iv a, iv b, iv c] M (fun z M' => Iv M' ∧ Fr (fun a (_ : Int) => (242 ≤ a ∧ a ≤ 243) ∨ (a = 245)) M M' ∧ (LQ nr 242 0 M') ∧ (z = -1)) := by
  refine mk_CI (by decide) (Nat.le_of_ble_eq_true rfl) ?_
  intro X exl exD excy hnL hX hret
  have hce : 0 + 0 ≤ (xR X).cells ∧ 0 + 0 ≤ (xR X).slots := ⟨Nat.zero_le _, Nat.zero_le _⟩
  have hF : Fr (fun a (_ : Int) => (242 ≤ a ∧ a ≤ 243) ∨ (a = 245)) M M := Fr.rf
  have hbk2 : 0 ≤ bk ∧ bk ≤ 1 := by have := hI.at 210 40 ro_210_40; omega
  have hnr2 : 0 ≤ nr ∧ nr ≤ 6 := by have := hI.at 213 bk (ra_213 _); omega
  show J X B N 0 0 0 [(0, rv B 210), (1, iv a), (2, iv b), (3, iv c)] [] M
  refine j_aload_n hX dX11_hide_0 rfl 0 rfl ?_
  refine j_iload_n hX dX11_hide_1 rfl 1 rfl ?_
  refine j_callVI hX lk_X11_419 (cv_X11_isRoom _ _ _ _ _ _ _ _ _ (by omega) hI (by omega) hbk hnr (by first | assumption | omega)) (by omega) hce rfl rfl (by omega) (by omega) kc_210 rfl rfl (Nat.le_of_ble_eq_true rfl) dX11_hide_2 (fun z1 M2 hz4 hp3 => ?_)
  obtain ⟨hE5, hb6, hq7, hq8⟩ := hp3
  replace hE5 := hE5.symm
  subst hE5
  refine j_if_eq (tgt := 41) hX dX11_hide_5 (by decide) (by omega) (fun hc9 => ?_) (fun hc9 => ?_)
  · skip
    clear hq7
    refine j_iconst hX dX11_hide_41 ?_
    exact hret _ _ _ _ dX11_hide_42 rfl (by omega) ⟨hI, hF, hLP, by first | assumption | omega⟩
  · exfalso; omega
set_option maxHeartbeats 2000000 in
set_option maxRecDepth 20000 in
theorem cv_X11_room (l : Launch) (D : va_G) (cy : Nat → ClassId) (B N : Nat) (bk : Int) (nr : Int) (a : Int) (b : Int) (M : MM) (hN : 257 ≤ N) (hI : Iv M) (hpa : I32 a) (hpb : I32 b) (hbk : M.1 210 40 = bk) (hnr : M.1 213 bk = nr) (hLP : LQ nr 242 0 M) (hW : RWI bk M) (hz0 : nr = 0) : CI l D cy B N 5 yX11_room cX11_room 3 (some .int) [rv B 210, iv a, iv b] M (fun z M' => Iv M' ∧ Fr (fun a b => (a = 210 ∧ 46 ≤ b ∧ b ≤ 46) ∨ (a = 241)) M M' ∧ (z = -1000000)) := by
  refine mk_CI (by decide) (Nat.le_of_ble_eq_true rfl) ?_
  intro X exl exD excy hnL hX hret
  have hce : 0 + 0 ≤ (xR X).cells ∧ 0 + 0 ≤ (xR X).slots := ⟨Nat.zero_le _, Nat.zero_le _⟩
  have hF : Fr (fun a b => (a = 210 ∧ 46 ≤ b ∧ b ≤ 46) ∨ (a = 241)) M M := Fr.rf
  have hbk2 : 0 ≤ bk ∧ bk ≤ 1 := by have := hI.at 210 40 ro_210_40; omega
  have hnr2 : 0 ≤ nr ∧ nr ≤ 6 := by have := hI.at 213 bk (ra_213 _); omega
  show J X B N 0 0 0 [(0, rv B 210), (1, iv a), (2, iv b)] [] M
  refine j_aload_n hX dX11_room_0 rfl 0 rfl ?_
  refine j_iload_n hX dX11_room_1 rfl 1 rfl ?_
  refine j_callVI hX lk_X11_419 (cv_X11_isRoom _ _ _ _ _ _ _ _ _ (by omega) hI (by omega) hbk hnr (by first | assumption | omega)) (by omega) hce rfl rfl (by omega) (by omega) kc_210 rfl rfl (Nat.le_of_ble_eq_true rfl) dX11_room_2 (fun z1 M2 hz4 hp3 => ?_)
  obtain ⟨hE5, hb6, hq7, hq8⟩ := hp3
  replace hE5 := hE5.symm
  subst hE5
  refine j_if_ne (tgt := 12) hX dX11_room_5 (by decide) (by omega) (fun hc9 => ?_) (fun hc9 => ?_)
  · exfalso; omega
  · skip
    clear hq7
    refine j_ldcw (n := (-1000000)) hX (in_7 107 (by first | rfl | decide +kernel) rfl) dX11_room_8 ?_
    exact hret _ _ _ _ dX11_room_11 rfl (by omega) ⟨hI, hF, by first | assumption | omega⟩
set_option maxHeartbeats 2000000 in
set_option maxRecDepth 20000 in
theorem cv_X11_aim (l : Launch) (D : va_G) (cy : Nat → ClassId) (B N : Nat) (bk : Int) (nr : Int) (a : Int) (b : Int) (M : MM) (hN : 257 ≤ N) (hI : Iv M) (hpa : I32 a) (hpb : I32 b) (hbk : M.1 210 40 = bk) (hnr : M.1 213 bk = nr) (hz0 : nr = 0) : CI l D cy B N 3 yX11_aim cX11_aim 4 (some .boolean) [rv B 210, iv a, iv b] M (fun z M' => Iv M' ∧ Fr (fun a (_ : Int) => (a = 247)) M M' ∧ (0 ≤ z ∧ z ≤ 1) ∧ (z = 0)) := by
  refine mk_CI (by decide) (Nat.le_of_ble_eq_true rfl) ?_
  intro X exl exD excy hnL hX hret
  have hce : 0 + 0 ≤ (xR X).cells ∧ 0 + 0 ≤ (xR X).slots := ⟨Nat.zero_le _, Nat.zero_le _⟩
  have hF : Fr (fun a (_ : Int) => (a = 247)) M M := Fr.rf
  have hbk2 : 0 ≤ bk ∧ bk ≤ 1 := by have := hI.at 210 40 ro_210_40; omega
  have hnr2 : 0 ≤ nr ∧ nr ≤ 6 := by have := hI.at 213 bk (ra_213 _); omega
  show J X B N 0 0 0 [(0, rv B 210), (1, iv a), (2, iv b)] [] M
  refine j_aload_n hX dX11_aim_0 rfl 0 rfl ?_
  refine j_iload_n hX dX11_aim_1 rfl 1 rfl ?_
  refine j_callVI hX lk_X11_419 (cv_X11_isRoom _ _ _ _ _ _ _ _ _ (by omega) hI (by omega) hbk hnr (by first | assumption | omega)) (by omega) hce rfl rfl (by omega) (by omega) kc_210 rfl rfl (Nat.le_of_ble_eq_true rfl) dX11_aim_2 (fun z1 M2 hz4 hp3 => ?_)
  obtain ⟨hE5, hb6, hq7, hq8⟩ := hp3
  replace hE5 := hE5.symm
  subst hE5
  refine j_if_eq (tgt := 16) hX dX11_aim_5 (by decide) (by omega) (fun hc9 => ?_) (fun hc9 => ?_)
  · skip
    clear hq7
    refine j_iconst hX dX11_aim_16 ?_
    exact hret _ _ _ _ dX11_aim_17 (nb (by omega)) (by omega) ⟨hI, hF, by omega, by first | assumption | omega⟩
  · exfalso; omega
set_option maxHeartbeats 2000000 in
set_option maxRecDepth 20000 in
theorem cv_X11_drop (l : Launch) (D : va_G) (cy : Nat → ClassId) (B N : Nat) (bk : Int) (nr : Int) (a : Int) (M : MM) (hN : 257 ≤ N) (hI : Iv M) (hpa : I32 a) (hbk : M.1 210 40 = bk) (hnr : M.1 213 bk = nr) (hz0 : nr = 0) : CI l D cy B N 3 yX11_drop cX11_drop 2 (some .boolean) [rv B 210, iv a] M (fun z M' => Iv M' ∧ Fr (fun a (_ : Int) => (a = 247)) M M' ∧ (0 ≤ z ∧ z ≤ 1) ∧ (z = 0)) := by
  refine mk_CI (by decide) (Nat.le_of_ble_eq_true rfl) ?_
  intro X exl exD excy hnL hX hret
  have hce : 0 + 0 ≤ (xR X).cells ∧ 0 + 0 ≤ (xR X).slots := ⟨Nat.zero_le _, Nat.zero_le _⟩
  have hF : Fr (fun a (_ : Int) => (a = 247)) M M := Fr.rf
  have hbk2 : 0 ≤ bk ∧ bk ≤ 1 := by have := hI.at 210 40 ro_210_40; omega
  have hnr2 : 0 ≤ nr ∧ nr ≤ 6 := by have := hI.at 213 bk (ra_213 _); omega
  show J X B N 0 0 0 [(0, rv B 210), (1, iv a)] [] M
  refine j_aload_n hX dX11_drop_0 rfl 0 rfl ?_
  refine j_iload_n hX dX11_drop_1 rfl 1 rfl ?_
  refine j_callVI hX lk_X11_419 (cv_X11_isRoom _ _ _ _ _ _ _ _ _ (by omega) hI (by omega) hbk hnr (by first | assumption | omega)) (by omega) hce rfl rfl (by omega) (by omega) kc_210 rfl rfl (Nat.le_of_ble_eq_true rfl) dX11_drop_2 (fun z1 M2 hz4 hp3 => ?_)
  obtain ⟨hE5, hb6, hq7, hq8⟩ := hp3
  replace hE5 := hE5.symm
  subst hE5
  refine j_if_eq (tgt := 17) hX dX11_drop_5 (by decide) (by omega) (fun hc9 => ?_) (fun hc9 => ?_)
  · skip
    clear hq7
    refine j_iconst hX dX11_drop_17 ?_
    exact hret _ _ _ _ dX11_drop_18 (nb (by omega)) (by omega) ⟨hI, hF, by omega, by first | assumption | omega⟩
  · exfalso; omega
set_option maxHeartbeats 2000000 in
set_option maxRecDepth 20000 in
theorem cv_X11_fact (l : Launch) (D : va_G) (cy : Nat → ClassId) (B N : Nat) (bk : Int) (nr : Int) (nf : Int) (a : Int) (b : Int) (M : MM) (hN : 257 ≤ N) (hI : Iv M) (hpa : I32 a) (hpb : I32 b) (hbk : M.1 210 40 = bk) (hnr : M.1 213 bk = nr) (hk_nf : M.1 214 bk = nf) (hz0 : nr = 0) (hz_nf : nf = 0) : CI l D cy B N 3 yX11_fact cX11_fact 3 (some .int) [rv B 210, iv a, iv b] M (fun z M' => M' = M ∧ (z = -1)) := by
  refine mk_CI (by decide) (Nat.le_of_ble_eq_true rfl) ?_
  intro X exl exD excy hnL hX hret
  have hce : 0 + 0 ≤ (xR X).cells ∧ 0 + 0 ≤ (xR X).slots := ⟨Nat.zero_le _, Nat.zero_le _⟩
  have hbk2 : 0 ≤ bk ∧ bk ≤ 1 := by have := hI.at 210 40 ro_210_40; omega
  have hnr2 : 0 ≤ nr ∧ nr ≤ 6 := by have := hI.at 213 bk (ra_213 _); omega
  show J X B N 0 0 0 [(0, rv B 210), (1, iv a), (2, iv b)] [] M
  refine j_aload_n hX dX11_fact_0 rfl 0 rfl ?_
  refine j_iload_n hX dX11_fact_1 rfl 1 rfl ?_
  refine j_callVI hX lk_X11_429 (cv_X11_isFact _ _ _ _ _ _ _ _ _ (by omega) hI (by omega) hbk hk_nf (by first | assumption | omega)) (by omega) hce rfl rfl (by omega) (by omega) kc_210 rfl rfl (Nat.le_of_ble_eq_true rfl) dX11_fact_2 (fun z1 M2 hz4 hp3 => ?_)
  obtain ⟨hE5, hb6, hq7, hq8⟩ := hp3
  replace hE5 := hE5.symm
  subst hE5
  refine j_if_ne (tgt := 10) hX dX11_fact_5 (by decide) (by omega) (fun hc9 => ?_) (fun hc9 => ?_)
  · exfalso; omega
  · skip
    clear hq7
    refine j_iconst hX dX11_fact_8 ?_
    exact hret _ _ _ _ dX11_fact_9 rfl (by omega) ⟨rfl, by first | assumption | omega⟩
set_option maxHeartbeats 2000000 in
set_option maxRecDepth 20000 in
theorem cv_X11_deaf (l : Launch) (D : va_G) (cy : Nat → ClassId) (B N : Nat) (bk : Int) (nr : Int) (nf : Int) (a : Int) (M : MM) (hN : 257 ≤ N) (hI : Iv M) (hpa : I32 a) (hbk : M.1 210 40 = bk) (hnr : M.1 213 bk = nr) (hk_nf : M.1 214 bk = nf) (hLP : LQ nr 242 0 M) (hz0 : nr = 0) (hz_nf : nf = 0) : CI l D cy B N 4 yX11_deaf cX11_deaf 3 (some .int) [rv B 210, iv a] M (fun z M' => Iv M' ∧ Fr (fun a (_ : Int) => (242 ≤ a ∧ a ≤ 243) ∨ (a = 245)) M M' ∧ (LQ nr 242 0 M') ∧ (z = -1)) := by
  refine mk_CI (by decide) (Nat.le_of_ble_eq_true rfl) ?_
  intro X exl exD excy hnL hX hret
  have hce : 0 + 0 ≤ (xR X).cells ∧ 0 + 0 ≤ (xR X).slots := ⟨Nat.zero_le _, Nat.zero_le _⟩
  have hF : Fr (fun a (_ : Int) => (242 ≤ a ∧ a ≤ 243) ∨ (a = 245)) M M := Fr.rf
  have hbk2 : 0 ≤ bk ∧ bk ≤ 1 := by have := hI.at 210 40 ro_210_40; omega
  have hnr2 : 0 ≤ nr ∧ nr ≤ 6 := by have := hI.at 213 bk (ra_213 _); omega
  show J X B N 0 0 0 [(0, rv B 210), (1, iv a)] [] M
  refine j_aload_n hX dX11_deaf_0 rfl 0 rfl ?_
  refine j_iload_n hX dX11_deaf_1 rfl 1 rfl ?_
  refine j_callVI hX lk_X11_429 (cv_X11_isFact _ _ _ _ _ _ _ _ _ (by omega) hI (by omega) hbk hk_nf (by first | assumption | omega)) (by omega) hce rfl rfl (by omega) (by omega) kc_210 rfl rfl (Nat.le_of_ble_eq_true rfl) dX11_deaf_2 (fun z1 M2 hz4 hp3 => ?_)
  obtain ⟨hE5, hb6, hq7, hq8⟩ := hp3
  replace hE5 := hE5.symm
  subst hE5
  refine j_if_ne (tgt := 10) hX dX11_deaf_5 (by decide) (by omega) (fun hc9 => ?_) (fun hc9 => ?_)
  · exfalso; omega
  · skip
    clear hq7
    refine j_iconst hX dX11_deaf_8 ?_
    exact hret _ _ _ _ dX11_deaf_9 rfl (by omega) ⟨hI, hF, hLP, by first | assumption | omega⟩
set_option maxHeartbeats 2000000 in
set_option maxRecDepth 20000 in
theorem cv_X11_isDarkAt (l : Launch) (D : va_G) (cy : Nat → ClassId) (B N : Nat) (bk : Int) (hd : Int) (a : Int) (M : MM) (hN : 257 ≤ N) (hI : Iv M) (hpa : I32 a) (hbk : M.1 210 40 = bk) (hk_hd : M.1 233 bk = hd) (hz_hd : hd = 0) : CI l D cy B N 1 yX11_isDarkAt cX11_isDarkAt 4 (some .boolean) [rv B 210, iv a] M (fun z M' => M' = M ∧ (0 ≤ z ∧ z ≤ 1) ∧ (z = 0)) := by
  refine mk_CI (by decide) (Nat.le_of_ble_eq_true rfl) ?_
  intro X exl exD excy hnL hX hret
  have hce : 0 + 0 ≤ (xR X).cells ∧ 0 + 0 ≤ (xR X).slots := ⟨Nat.zero_le _, Nat.zero_le _⟩
  have hbk2 : 0 ≤ bk ∧ bk ≤ 1 := by have := hI.at 210 40 ro_210_40; omega
  show J X B N 0 0 0 [(0, rv B 210), (1, iv a)] [] M
  refine j_aload_n hX dX11_isDarkAt_0 rfl 0 rfl ?_
  refine gf_X11_82 hX (by omega) (by omega) kc_210 (fc_210_31 hI) (by decide) dX11_isDarkAt_1 ?_
  refine j_aload_n hX dX11_isDarkAt_4 rfl 0 rfl ?_
  refine gf_X11_279 hX (by omega) (by omega) kc_210 dX11_isDarkAt_5 ?_
  refine j_top hbk ?_
  refine j_zald hX (by omega) (by omega) kc_233 (by omega) (by omega) (by omega) dX11_isDarkAt_8 ?_
  refine j_top hk_hd ?_
  refine j_if_ne (tgt := 14) hX dX11_isDarkAt_9 (by decide) (by omega) (fun hc1 => ?_) (fun hc1 => ?_)
  · exfalso; omega
  · skip
    refine j_iconst hX dX11_isDarkAt_12 ?_
    exact hret _ _ _ _ dX11_isDarkAt_13 (nb (by omega)) (by omega) ⟨rfl, by omega, by first | assumption | omega⟩
set_option maxHeartbeats 2000000 in
set_option maxRecDepth 20000 in
theorem cv_X11_dark (l : Launch) (D : va_G) (cy : Nat → ClassId) (B N : Nat) (bk : Int) (hd : Int) (a : Int) (M : MM) (hN : 257 ≤ N) (hI : Iv M) (hpa : I32 a) (hbk : M.1 210 40 = bk) (hk_hd : M.1 233 bk = hd) (hz_hd : hd = 0) : CI l D cy B N 2 yX11_dark cX11_dark 2 (some .int) [rv B 210, iv a] M (fun z M' => M' = M ∧ ((0 ≤ a ∧ a ≤ 23 → z = 0) ∧ (¬ (0 ≤ a ∧ a ≤ 23) → z = -1))) := by
  refine mk_CI (by decide) (Nat.le_of_ble_eq_true rfl) ?_
  intro X exl exD excy hnL hX hret
  have hce : 0 + 0 ≤ (xR X).cells ∧ 0 + 0 ≤ (xR X).slots := ⟨Nat.zero_le _, Nat.zero_le _⟩
  have hbk2 : 0 ≤ bk ∧ bk ≤ 1 := by have := hI.at 210 40 ro_210_40; omega
  show J X B N 0 0 0 [(0, rv B 210), (1, iv a)] [] M
  refine j_iload_n hX dX11_dark_0 rfl 1 rfl ?_
  refine j_iconst hX dX11_dark_1 ?_
  refine j_bipush hX dX11_dark_2 rfl ?_
  refine j_callSI hX lk_X11_388 (c_X11_isIn _ _ _ _ _ _ _ _ _ (by omega) (by omega) (by omega)) (by omega) hce rfl rfl (Nat.le_of_ble_eq_true rfl) dX11_dark_4 (fun z1 M2 hz4 hp3 => ?_)
  obtain ⟨hE5, hb6, hq7, hq8⟩ := hp3
  replace hE5 := hE5.symm
  subst hE5
  refine j_if_ne (tgt := 14) hX dX11_dark_7 (by decide) (by omega) (fun hc9 => ?_) (fun hc9 => ?_)
  · skip
    have hi10 := hq7 (by omega)
    clear hq7
    clear hq8
    refine j_aload_n hX dX11_dark_14 rfl 0 rfl ?_
    refine j_iload_n hX dX11_dark_15 rfl 1 rfl ?_
    refine j_callVI hX lk_X11_410 (cv_X11_isDarkAt _ _ _ _ _ _ _ _ _ (by omega) hI (by omega) hbk hk_hd (by first | assumption | omega)) (by omega) hce rfl rfl (by omega) (by omega) kc_210 rfl rfl (Nat.le_of_ble_eq_true rfl) dX11_dark_16 (fun z11 M12 hz14 hp13 => ?_)
    obtain ⟨hE15, hb16, hq17⟩ := hp13
    replace hE15 := hE15.symm
    subst hE15
    refine j_if_eq (tgt := 26) hX dX11_dark_19 (by decide) (by omega) (fun hc18 => ?_) (fun hc18 => ?_)
    · skip
      refine j_iconst hX dX11_dark_26 ?_
      exact hret _ _ _ _ dX11_dark_27 rfl (by omega) ⟨rfl, by first | assumption | omega⟩
    · exfalso; omega
  · skip
    clear hq7
    have hi19 := hq8 (by omega)
    clear hq8
    refine j_iconst hX dX11_dark_10 ?_
    refine j_goto (tgt := 27) hX dX11_dark_11 (by decide) ?_
    exact hret _ _ _ _ dX11_dark_27 rfl (by omega) ⟨rfl, by first | assumption | omega⟩
set_option maxHeartbeats 2000000 in
set_option maxRecDepth 20000 in
theorem cv_X11_fault (l : Launch) (D : va_G) (cy : Nat → ClassId) (B N : Nat) (fk : Int) (fp : Int) (a : Int) (M : MM) (hN : 257 ≤ N) (hI : Iv M) (hpa : I32 a) (hk_fk : M.1 210 4 = fk) (hk_fp : M.1 210 5 = fp) (hz_fp : fp = -1) (hz_fk : fk = 0) : CI l D cy B N 1 yX11_fault cX11_fault 2 (some .int) [rv B 210, iv a] M (fun z M' => M' = M ∧ ((a = 0 → z = 0) ∧ (¬ (a = 0) → z = -1))) := by
  refine mk_CI (by decide) (Nat.le_of_ble_eq_true rfl) ?_
  intro X exl exD excy hnL hX hret
  have hce : 0 + 0 ≤ (xR X).cells ∧ 0 + 0 ≤ (xR X).slots := ⟨Nat.zero_le _, Nat.zero_le _⟩
  show J X B N 0 0 0 [(0, rv B 210), (1, iv a)] [] M
  refine j_iload_n hX dX11_fault_0 rfl 1 rfl ?_
  refine j_if_ne (tgt := 11) hX dX11_fault_1 (by decide) (by omega) (fun hc1 => ?_) (fun hc1 => ?_)
  · skip
    refine j_iload_n hX dX11_fault_11 rfl 1 rfl ?_
    refine j_iconst hX dX11_fault_12 ?_
    refine j_icmp_ne (tgt := 23) hX dX11_fault_13 (by decide) (by omega) (by omega) (fun hc2 => ?_) (fun hc2 => ?_)
    · skip
      refine j_iconst hX dX11_fault_23 ?_
      exact hret _ _ _ _ dX11_fault_24 rfl (by omega) ⟨rfl, by first | assumption | omega⟩
    · skip
      refine j_aload_n hX dX11_fault_16 rfl 0 rfl ?_
      refine gf_X11_16 hX (by omega) (by omega) kc_210 dX11_fault_17 ?_
      refine j_top hk_fp ?_
      refine j_goto (tgt := 24) hX dX11_fault_20 (by decide) ?_
      exact hret _ _ _ _ dX11_fault_24 rfl (by omega) ⟨rfl, by first | assumption | omega⟩
  · skip
    refine j_aload_n hX dX11_fault_4 rfl 0 rfl ?_
    refine gf_X11_164 hX (by omega) (by omega) kc_210 dX11_fault_5 ?_
    refine j_top hk_fk ?_
    refine j_goto (tgt := 24) hX dX11_fault_8 (by decide) ?_
    exact hret _ _ _ _ dX11_fault_24 rfl (by omega) ⟨rfl, by first | assumption | omega⟩
set_option maxHeartbeats 2000000 in
set_option maxRecDepth 20000 in
theorem cv_X11_undo (l : Launch) (D : va_G) (cy : Nat → ClassId) (B N : Nat) (bk : Int) (nr : Int) (ac : Int) (M : MM) (hN : 257 ≤ N) (hI : Iv M) (hbk : M.1 210 40 = bk) (hnr : M.1 213 bk = nr) (hk_ac : M.1 210 50 = ac) (hRS : RS nr M) (hz0 : nr = 0) (hz_ac : ac = 0) : CI l D cy B N 2 yX11_undo cX11_undo 1 (some .boolean) [rv B 210] M (fun z M' => Iv M' ∧ Fr (fun a b => (a = 210 ∧ 50 ≤ b ∧ b ≤ 51) ∨ (a = 244) ∨ (242 ≤ a ∧ a ≤ 243)) M M' ∧ (0 ≤ z ∧ z ≤ 1) ∧ (RS nr M') ∧ (z = 0)) := by
  refine mk_CI (by decide) (Nat.le_of_ble_eq_true rfl) ?_
  intro X exl exD excy hnL hX hret
  have hce : 0 + 0 ≤ (xR X).cells ∧ 0 + 0 ≤ (xR X).slots := ⟨Nat.zero_le _, Nat.zero_le _⟩
  have hF : Fr (fun a b => (a = 210 ∧ 50 ≤ b ∧ b ≤ 51) ∨ (a = 244) ∨ (242 ≤ a ∧ a ≤ 243)) M M := Fr.rf
  have hk1 : M.1 210 51 = M.1 210 51 := rfl
  have hbk2 : 0 ≤ bk ∧ bk ≤ 1 := by have := hI.at 210 40 ro_210_40; omega
  have hnr2 : 0 ≤ nr ∧ nr ≤ 6 := by have := hI.at 213 bk (ra_213 _); omega
  have hle := hRS.2.1
  have hun := hI.at 210 51 ro_210_51
  have hac := hI.at 210 50 ro_210_50
  show J X B N 0 0 0 [(0, rv B 210)] [] M
  have hV2 := hRS.1
  have hV3 := hRS.2.2
  refine j_aload_n hX dX11_undo_0 rfl 0 rfl ?_
  refine gf_X11_395 hX (by omega) (by omega) kc_210 dX11_undo_1 ?_
  refine j_top hk_ac ?_
  refine j_if_ne (tgt := 9) hX dX11_undo_4 (by decide) (by omega) (fun hc4 => ?_) (fun hc4 => ?_)
  · exfalso; omega
  · skip
    refine j_iconst hX dX11_undo_7 ?_
    exact hret _ _ _ _ dX11_undo_8 (nb (by omega)) (by omega) ⟨hI, hF, by omega, by first | exact hRS | exact RS_mk hV2 hV3 (by omega) (by omega), by first | assumption | omega⟩
set_option maxHeartbeats 2000000 in
set_option maxRecDepth 20000 in
theorem cv_X11_redo (l : Launch) (D : va_G) (cy : Nat → ClassId) (B N : Nat) (bk : Int) (nr : Int) (un : Int) (M : MM) (hN : 257 ≤ N) (hI : Iv M) (hbk : M.1 210 40 = bk) (hnr : M.1 213 bk = nr) (hk_un : M.1 210 51 = un) (hRS : RS nr M) (hz0 : nr = 0) (hz_un : un = 0) : CI l D cy B N 2 yX11_redo cX11_redo 1 (some .boolean) [rv B 210] M (fun z M' => Iv M' ∧ Fr (fun a b => (a = 210 ∧ 50 ≤ b ∧ b ≤ 51) ∨ (a = 244) ∨ (242 ≤ a ∧ a ≤ 243)) M M' ∧ (0 ≤ z ∧ z ≤ 1) ∧ (RS nr M') ∧ (z = 0)) := by
  refine mk_CI (by decide) (Nat.le_of_ble_eq_true rfl) ?_
  intro X exl exD excy hnL hX hret
  have hce : 0 + 0 ≤ (xR X).cells ∧ 0 + 0 ≤ (xR X).slots := ⟨Nat.zero_le _, Nat.zero_le _⟩
  have hF : Fr (fun a b => (a = 210 ∧ 50 ≤ b ∧ b ≤ 51) ∨ (a = 244) ∨ (242 ≤ a ∧ a ≤ 243)) M M := Fr.rf
  have hk1 : M.1 210 50 = M.1 210 50 := rfl
  have hbk2 : 0 ≤ bk ∧ bk ≤ 1 := by have := hI.at 210 40 ro_210_40; omega
  have hnr2 : 0 ≤ nr ∧ nr ≤ 6 := by have := hI.at 213 bk (ra_213 _); omega
  have hle := hRS.2.1
  have hun := hI.at 210 51 ro_210_51
  have hac := hI.at 210 50 ro_210_50
  show J X B N 0 0 0 [(0, rv B 210)] [] M
  have hV2 := hRS.1
  have hV3 := hRS.2.2
  refine j_aload_n hX dX11_redo_0 rfl 0 rfl ?_
  refine gf_X11_398 hX (by omega) (by omega) kc_210 dX11_redo_1 ?_
  refine j_top hk_un ?_
  refine j_if_ne (tgt := 9) hX dX11_redo_4 (by decide) (by omega) (fun hc4 => ?_) (fun hc4 => ?_)
  · exfalso; omega
  · skip
    refine j_iconst hX dX11_redo_7 ?_
    exact hret _ _ _ _ dX11_redo_8 (nb (by omega)) (by omega) ⟨hI, hF, by omega, by first | exact hRS | exact RS_mk hV2 hV3 (by omega) (by omega), by first | assumption | omega⟩
set_option maxHeartbeats 2000000 in
set_option maxRecDepth 20000 in
theorem cv_X11_end (l : Launch) (D : va_G) (cy : Nat → ClassId) (B N : Nat) (tp : Int) (a : Int) (M : MM) (hN : 257 ≤ N) (hI : Iv M) (hpa : I32 a) (hk_tp : M.1 210 2 = tp) (hz_tp : tp = 0) : CI l D cy B N 1 yX11_end cX11_end 2 (some .int) [rv B 210, iv a] M (fun z M' => Iv M' ∧ Fr (fun a b => (a = 210 ∧ 2 ≤ b ∧ b ≤ 2)) M M' ∧ ((a = 0 → z = 0) ∧ (¬ (a = 0) → z = -1))) := by
  refine mk_CI (by decide) (Nat.le_of_ble_eq_true rfl) ?_
  intro X exl exD excy hnL hX hret
  have hce : 0 + 0 ≤ (xR X).cells ∧ 0 + 0 ≤ (xR X).slots := ⟨Nat.zero_le _, Nat.zero_le _⟩
  have hF : Fr (fun a b => (a = 210 ∧ 2 ≤ b ∧ b ≤ 2)) M M := Fr.rf
  show J X B N 0 0 0 [(0, rv B 210), (1, iv a)] [] M
  refine j_iload_n hX dX11_end_0 rfl 1 rfl ?_
  refine j_if_lt (tgt := 12) hX dX11_end_1 (by decide) (by omega) (fun hc1 => ?_) (fun hc1 => ?_)
  · skip
    refine j_iconst hX dX11_end_12 ?_
    exact hret _ _ _ _ dX11_end_13 rfl (by omega) ⟨hI, hF, by first | assumption | omega⟩
  · skip
    refine j_iload_n hX dX11_end_4 rfl 1 rfl ?_
    refine j_aload_n hX dX11_end_5 rfl 0 rfl ?_
    refine gf_X11_276 hX (by omega) (by omega) kc_210 dX11_end_6 ?_
    refine j_top hk_tp ?_
    refine j_icmp_le (tgt := 14) hX dX11_end_9 (by decide) (by omega) (by omega) (fun hc2 => ?_) (fun hc2 => ?_)
    · skip
      refine j_aload_n hX dX11_end_14 rfl 0 rfl ?_
      refine j_iload_n hX dX11_end_15 rfl 1 rfl ?_
      refine pf_X11_276 hX (by omega) (by omega) kc_210 (by omega) dX11_end_16 ?_
      refine j_up hI ro_210_2 (by omega) (by omega) (Or.inl (by omega)) (fun M3 w4 hw5 hM6 hI7 hf8 => ?_)
      have hF9 := Fr.put hF hM6 (⟨rfl, by decide, by decide⟩)
      refine j_iload_n hX dX11_end_19 rfl 1 rfl ?_
      exact hret _ _ _ _ dX11_end_20 rfl (by omega) ⟨hI7, hF9, by first | assumption | omega⟩
    · skip
      refine j_iconst hX dX11_end_12 ?_
      exact hret _ _ _ _ dX11_end_13 rfl (by omega) ⟨hI, hF, by first | assumption | omega⟩
set_option maxHeartbeats 2000000 in
set_option maxRecDepth 20000 in
theorem cv_X11_aims (l : Launch) (D : va_G) (cy : Nat → ClassId) (B N : Nat) (bk : Int) (nr : Int) (M : MM) (hN : 257 ≤ N) (hI : Iv M) (hbk : M.1 210 40 = bk) (hnr : M.1 213 bk = nr) (hz0 : nr = 0) : CI l D cy B N 2 yX11_aims cX11_aims 3 (some .int) [rv B 210] M (fun z M' => M' = M ∧ (z = 0)) := by
  refine mk_CI (by decide) (Nat.le_of_ble_eq_true rfl) ?_
  intro X exl exD excy hnL hX hret
  have hce : 0 + 0 ≤ (xR X).cells ∧ 0 + 0 ≤ (xR X).slots := ⟨Nat.zero_le _, Nat.zero_le _⟩
  have hbk2 : 0 ≤ bk ∧ bk ≤ 1 := by have := hI.at 210 40 ro_210_40; omega
  have hnr2 : 0 ≤ nr ∧ nr ≤ 6 := by have := hI.at 213 bk (ra_213 _); omega
  show J X B N 0 0 0 [(0, rv B 210)] [] M
  refine j_iconst hX dX11_aims_0 ?_
  refine j_istore_n (lv' := [(1, _), (0, _)]) hX dX11_aims_1 rfl (by rw [hnL]; decide) rfl ?_
  refine j_iconst hX dX11_aims_2 ?_
  refine j_istore_n (lv' := [(2, _), (1, _), (0, _)]) hX dX11_aims_3 rfl (by rw [hnL]; decide) rfl ?_
  refine j_iload_n hX dX11_aims_4 rfl 0 rfl ?_
  refine j_aload_n hX dX11_aims_5 rfl 2 rfl ?_
  refine j_callVI hX lk_X11_385 (cv_X11_many _ _ _ _ _ _ _ _ (by omega) hI hbk hnr (by first | assumption | omega)) (by omega) hce rfl rfl (by omega) (by omega) kc_210 rfl rfl (Nat.le_of_ble_eq_true rfl) dX11_aims_6 (fun z1 M2 hz4 hp3 => ?_)
  obtain ⟨hE5, hq6, hq7⟩ := hp3
  replace hE5 := hE5.symm
  subst hE5
  refine j_icmp_ge (tgt := 35) hX dX11_aims_9 (by decide) (by omega) (by omega) (fun hc8 => ?_) (fun hc8 => ?_)
  · skip
    refine j_iload_n hX dX11_aims_35 rfl 1 rfl ?_
    exact hret _ _ _ _ dX11_aims_36 rfl (by omega) ⟨rfl, by first | assumption | omega⟩
  · exfalso; omega
set_option maxHeartbeats 2000000 in
set_option maxRecDepth 20000 in
theorem cv_X11_mutual (l : Launch) (D : va_G) (cy : Nat → ClassId) (B N : Nat) (bk : Int) (nr : Int) (M : MM) (hN : 257 ≤ N) (hI : Iv M) (hbk : M.1 210 40 = bk) (hnr : M.1 213 bk = nr) (hz0 : nr = 0) : CI l D cy B N 3 yX11_mutual cX11_mutual 4 (some .int) [rv B 210] M (fun z M' => M' = M ∧ (z = 0)) := by
  refine mk_CI (by decide) (Nat.le_of_ble_eq_true rfl) ?_
  intro X exl exD excy hnL hX hret
  have hce : 0 + 0 ≤ (xR X).cells ∧ 0 + 0 ≤ (xR X).slots := ⟨Nat.zero_le _, Nat.zero_le _⟩
  have hbk2 : 0 ≤ bk ∧ bk ≤ 1 := by have := hI.at 210 40 ro_210_40; omega
  have hnr2 : 0 ≤ nr ∧ nr ≤ 6 := by have := hI.at 213 bk (ra_213 _); omega
  show J X B N 0 0 0 [(0, rv B 210)] [] M
  refine j_iconst hX dX11_mutual_0 ?_
  refine j_istore_n (lv' := [(1, _), (0, _)]) hX dX11_mutual_1 rfl (by rw [hnL]; decide) rfl ?_
  refine j_iconst hX dX11_mutual_2 ?_
  refine j_istore_n (lv' := [(2, _), (1, _), (0, _)]) hX dX11_mutual_3 rfl (by rw [hnL]; decide) rfl ?_
  refine j_iload_n hX dX11_mutual_4 rfl 0 rfl ?_
  refine j_aload_n hX dX11_mutual_5 rfl 2 rfl ?_
  refine j_callVI hX lk_X11_385 (cv_X11_many _ _ _ _ _ _ _ _ (by omega) hI hbk hnr (by first | assumption | omega)) (by omega) hce rfl rfl (by omega) (by omega) kc_210 rfl rfl (Nat.le_of_ble_eq_true rfl) dX11_mutual_6 (fun z1 M2 hz4 hp3 => ?_)
  obtain ⟨hE5, hq6, hq7⟩ := hp3
  replace hE5 := hE5.symm
  subst hE5
  refine j_icmp_ge (tgt := 82) hX dX11_mutual_9 (by decide) (by omega) (by omega) (fun hc8 => ?_) (fun hc8 => ?_)
  · skip
    refine j_iload_n hX dX11_mutual_82 rfl 1 rfl ?_
    exact hret _ _ _ _ dX11_mutual_83 rfl (by omega) ⟨rfl, by first | assumption | omega⟩
  · exfalso; omega
set_option maxHeartbeats 2000000 in
set_option maxRecDepth 20000 in
theorem cv_X11_rents (l : Launch) (D : va_G) (cy : Nat → ClassId) (B N : Nat) (bk : Int) (nr : Int) (M : MM) (hN : 257 ≤ N) (hI : Iv M) (hbk : M.1 210 40 = bk) (hnr : M.1 213 bk = nr) (hW : RWI bk M) (hz0 : nr = 0) : CI l D cy B N 5 yX11_rents cX11_rents 3 (some .int) [rv B 210] M (fun z M' => Iv M' ∧ Fr (fun a b => (a = 210 ∧ 46 ≤ b ∧ b ≤ 46) ∨ (a = 241)) M M' ∧ (z = 0)) := by
  refine mk_CI (by decide) (Nat.le_of_ble_eq_true rfl) ?_
  intro X exl exD excy hnL hX hret
  have hce : 0 + 0 ≤ (xR X).cells ∧ 0 + 0 ≤ (xR X).slots := ⟨Nat.zero_le _, Nat.zero_le _⟩
  have hF : Fr (fun a b => (a = 210 ∧ 46 ≤ b ∧ b ≤ 46) ∨ (a = 241)) M M := Fr.rf
  have hbk2 : 0 ≤ bk ∧ bk ≤ 1 := by have := hI.at 210 40 ro_210_40; omega
  have hnr2 : 0 ≤ nr ∧ nr ≤ 6 := by have := hI.at 213 bk (ra_213 _); omega
  show J X B N 0 0 0 [(0, rv B 210)] [] M
  refine j_iconst hX dX11_rents_0 ?_
  refine j_istore_n (lv' := [(1, _), (0, _)]) hX dX11_rents_1 rfl (by rw [hnL]; decide) rfl ?_
  refine j_iconst hX dX11_rents_2 ?_
  refine j_istore_n (lv' := [(2, _), (1, _), (0, _)]) hX dX11_rents_3 rfl (by rw [hnL]; decide) rfl ?_
  refine j_iload_n hX dX11_rents_4 rfl 0 rfl ?_
  refine j_aload_n hX dX11_rents_5 rfl 2 rfl ?_
  refine j_callVI hX lk_X11_385 (cv_X11_many _ _ _ _ _ _ _ _ (by omega) hI hbk hnr (by first | assumption | omega)) (by omega) hce rfl rfl (by omega) (by omega) kc_210 rfl rfl (Nat.le_of_ble_eq_true rfl) dX11_rents_6 (fun z1 M2 hz4 hp3 => ?_)
  obtain ⟨hE5, hq6, hq7⟩ := hp3
  replace hE5 := hE5.symm
  subst hE5
  refine j_icmp_ge (tgt := 26) hX dX11_rents_9 (by decide) (by omega) (by omega) (fun hc8 => ?_) (fun hc8 => ?_)
  · skip
    refine j_iload_n hX dX11_rents_26 rfl 1 rfl ?_
    exact hret _ _ _ _ dX11_rents_27 rfl (by omega) ⟨hI, hF, by first | assumption | omega⟩
  · exfalso; omega
set_option maxHeartbeats 2000000 in
set_option maxRecDepth 20000 in
theorem cv_X11_rowsOfRooms (l : Launch) (D : va_G) (cy : Nat → ClassId) (B N : Nat) (bk : Int) (nr : Int) (M : MM) (hN : 257 ≤ N) (hI : Iv M) (hbk : M.1 210 40 = bk) (hnr : M.1 213 bk = nr) (hz0 : nr = 0) : CI l D cy B N 2 yX11_rowsOfRooms cX11_rowsOfRooms 3 (some .int) [rv B 210] M (fun z M' => M' = M ∧ (z = pw nr nr) ∧ (0 ≤ z ∧ z ≤ 46656) ∧ (z = 1)) := by
  refine mk_CI (by decide) (Nat.le_of_ble_eq_true rfl) ?_
  intro X exl exD excy hnL hX hret
  have hce : 0 + 0 ≤ (xR X).cells ∧ 0 + 0 ≤ (xR X).slots := ⟨Nat.zero_le _, Nat.zero_le _⟩
  have hbk2 : 0 ≤ bk ∧ bk ≤ 1 := by have := hI.at 210 40 ro_210_40; omega
  have hnr2 : 0 ≤ nr ∧ nr ≤ 6 := by have := hI.at 213 bk (ra_213 _); omega
  show J X B N 0 0 0 [(0, rv B 210)] [] M
  refine j_iconst hX dX11_rowsOfRooms_0 ?_
  refine j_istore_n (lv' := [(1, _), (0, _)]) hX dX11_rowsOfRooms_1 rfl (by rw [hnL]; decide) rfl ?_
  refine j_iconst hX dX11_rowsOfRooms_2 ?_
  refine j_istore_n (lv' := [(2, _), (1, _), (0, _)]) hX dX11_rowsOfRooms_3 rfl (by rw [hnL]; decide) rfl ?_
  refine j_iload_n hX dX11_rowsOfRooms_4 rfl 0 rfl ?_
  refine j_aload_n hX dX11_rowsOfRooms_5 rfl 2 rfl ?_
  refine j_callVI hX lk_X11_385 (cv_X11_many _ _ _ _ _ _ _ _ (by omega) hI hbk hnr (by first | assumption | omega)) (by omega) hce rfl rfl (by omega) (by omega) kc_210 rfl rfl (Nat.le_of_ble_eq_true rfl) dX11_rowsOfRooms_6 (fun z1 M2 hz4 hp3 => ?_)
  obtain ⟨hE5, hq6, hq7⟩ := hp3
  replace hE5 := hE5.symm
  subst hE5
  refine j_icmp_ge (tgt := 25) hX dX11_rowsOfRooms_9 (by decide) (by omega) (by omega) (fun hc8 => ?_) (fun hc8 => ?_)
  · skip
    refine j_iload_n hX dX11_rowsOfRooms_25 rfl 1 rfl ?_
    exact hret _ _ _ _ dX11_rowsOfRooms_26 rfl (by omega) ⟨rfl, by rw [hz0]; exact pw_0 0, by first | assumption | omega, by first | assumption | omega⟩
  · exfalso; omega
set_option maxHeartbeats 2000000 in
set_option maxRecDepth 20000 in
theorem cv_X11_layLot (l : Launch) (D : va_G) (cy : Nat → ClassId) (B N : Nat) (bk : Int) (nr : Int) (a : Int) (M : MM) (hN : 257 ≤ N) (hI : Iv M) (hpa : I32 a) (hbk : M.1 210 40 = bk) (hnr : M.1 213 bk = nr) (h1 : 0 ≤ a) (hz0 : nr = 0) : CI l D cy B N 2 yX11_layLot cX11_layLot 5 (some .boolean) [rv B 210, iv a] M (fun z M' => Iv M' ∧ Fr (fun a (_ : Int) => (a = 248)) M M' ∧ (0 ≤ z ∧ z ≤ 1) ∧ (z = 1 → LQ nr 248 0 M') ∧ (a = v0 nr → z = 1) ∧ (z = 1)) := by
  refine mk_CI (by decide) (Nat.le_of_ble_eq_true rfl) ?_
  intro X exl exD excy hnL hX hret
  have hce : 0 + 0 ≤ (xR X).cells ∧ 0 + 0 ≤ (xR X).slots := ⟨Nat.zero_le _, Nat.zero_le _⟩
  have hF : Fr (fun a (_ : Int) => (a = 248)) M M := Fr.rf
  have hbk2 : 0 ≤ bk ∧ bk ≤ 1 := by have := hI.at 210 40 ro_210_40; omega
  have hnr2 : 0 ≤ nr ∧ nr ≤ 6 := by have := hI.at 213 bk (ra_213 _); omega
  show J X B N 0 0 0 [(0, rv B 210), (1, iv a)] [] M
  refine j_iload_n hX dX11_layLot_0 rfl 1 rfl ?_
  refine j_istore_n (lv' := [(2, _), (0, _), (1, _)]) hX dX11_layLot_1 rfl (by rw [hnL]; decide) rfl ?_
  refine j_iconst hX dX11_layLot_2 ?_
  refine j_istore_n (lv' := [(3, _), (2, _), (0, _), (1, _)]) hX dX11_layLot_3 rfl (by rw [hnL]; decide) rfl ?_
  refine j_aload_n hX dX11_layLot_4 rfl 2 rfl ?_
  refine j_callVI hX lk_X11_385 (cv_X11_many _ _ _ _ _ _ _ _ (by omega) hI hbk hnr (by first | assumption | omega)) (by omega) hce rfl rfl (by omega) (by omega) kc_210 rfl rfl (Nat.le_of_ble_eq_true rfl) dX11_layLot_5 (fun z1 M2 hz4 hp3 => ?_)
  obtain ⟨hE5, hq6, hq7⟩ := hp3
  replace hE5 := hE5.symm
  subst hE5
  refine j_iconst hX dX11_layLot_8 ?_
  refine j_isub hX dX11_layLot_9 ?_
  refine j_istore (lv' := [(4, _), (3, _), (2, _), (0, _), (1, _)]) hX dX11_layLot_10 (by rw [hnL]; decide) rfl ?_
  refine j_iload hX dX11_layLot_12 0 rfl ?_
  refine j_if_lt (tgt := 55) hX dX11_layLot_14 (by decide) (by omega) (fun hc8 => ?_) (fun hc8 => ?_)
  · skip
    refine j_iload_n hX dX11_layLot_55 rfl 1 rfl ?_
    refine j_iconst hX dX11_layLot_56 ?_
    refine j_aload_n hX dX11_layLot_57 rfl 3 rfl ?_
    refine j_callVI hX lk_X11_385 (cv_X11_many _ _ _ _ _ _ _ _ (by omega) hI hbk hnr (by first | assumption | omega)) (by omega) hce rfl rfl (by omega) (by omega) kc_210 rfl rfl (Nat.le_of_ble_eq_true rfl) dX11_layLot_58 (fun z9 M10 hz12 hp11 => ?_)
    obtain ⟨hE13, hq14, hq15⟩ := hp11
    replace hE13 := hE13.symm
    subst hE13
    refine j_ishl hX dX11_layLot_61 (fun z16 hz17 hy18 => ?_)
    have hfr := full_r hz17 (by assumption) hnr2
    have hv19 := ishlE (x0 := 1) (y0 := 0) (v := 1) hz17 (by omega) (by omega) (by decide)
    refine j_iconst hX dX11_layLot_62 ?_
    refine j_isub hX dX11_layLot_63 ?_
    refine j_icmp_ne (tgt := 71) hX dX11_layLot_64 (by decide) (by omega) (by omega) (fun hc20 => ?_) (fun hc20 => ?_)
    · exfalso; omega
    · skip
      refine j_iconst hX dX11_layLot_67 ?_
      refine j_goto (tgt := 72) hX dX11_layLot_68 (by decide) ?_
      exact hret _ _ _ _ dX11_layLot_72 (nb (by omega)) (by omega) ⟨hI, hF, by omega, fun _ => LL_end (x := -1) (s := 0) (LL_0 (by omega)) (by omega) hnr2 (by assumption) (by assumption) (by omega) (by omega), fun _ => rfl, by first | assumption | omega⟩
  · exfalso; omega
set_option maxHeartbeats 2000000 in
set_option maxRecDepth 20000 in
theorem cv_X11_doAimsHold (l : Launch) (D : va_G) (cy : Nat → ClassId) (B N : Nat) (bk : Int) (nr : Int) (M : MM) (hN : 257 ≤ N) (hI : Iv M) (hbk : M.1 210 40 = bk) (hnr : M.1 213 bk = nr) (hz0 : nr = 0) : CI l D cy B N 2 yX11_doAimsHold cX11_doAimsHold 2 (some .boolean) [rv B 210] M (fun z M' => M' = M ∧ (0 ≤ z ∧ z ≤ 1) ∧ (z = 1)) := by
  refine mk_CI (by decide) (Nat.le_of_ble_eq_true rfl) ?_
  intro X exl exD excy hnL hX hret
  have hce : 0 + 0 ≤ (xR X).cells ∧ 0 + 0 ≤ (xR X).slots := ⟨Nat.zero_le _, Nat.zero_le _⟩
  have hbk2 : 0 ≤ bk ∧ bk ≤ 1 := by have := hI.at 210 40 ro_210_40; omega
  have hnr2 : 0 ≤ nr ∧ nr ≤ 6 := by have := hI.at 213 bk (ra_213 _); omega
  show J X B N 0 0 0 [(0, rv B 210)] [] M
  refine j_iconst hX dX11_doAimsHold_0 ?_
  refine j_istore_n (lv' := [(1, _), (0, _)]) hX dX11_doAimsHold_1 rfl (by rw [hnL]; decide) rfl ?_
  refine j_iload_n hX dX11_doAimsHold_2 rfl 0 rfl ?_
  refine j_aload_n hX dX11_doAimsHold_3 rfl 1 rfl ?_
  refine j_callVI hX lk_X11_385 (cv_X11_many _ _ _ _ _ _ _ _ (by omega) hI hbk hnr (by first | assumption | omega)) (by omega) hce rfl rfl (by omega) (by omega) kc_210 rfl rfl (Nat.le_of_ble_eq_true rfl) dX11_doAimsHold_4 (fun z1 M2 hz4 hp3 => ?_)
  obtain ⟨hE5, hq6, hq7⟩ := hp3
  replace hE5 := hE5.symm
  subst hE5
  refine j_icmp_ge (tgt := 42) hX dX11_doAimsHold_7 (by decide) (by omega) (by omega) (fun hc8 => ?_) (fun hc8 => ?_)
  · skip
    refine j_iconst hX dX11_doAimsHold_42 ?_
    exact hret _ _ _ _ dX11_doAimsHold_43 (nb (by omega)) (by omega) ⟨rfl, by omega, by first | assumption | omega⟩
  · exfalso; omega
set_option maxHeartbeats 2000000 in
set_option maxRecDepth 20000 in
theorem cv_X11_swapsTo (l : Launch) (D : va_G) (cy : Nat → ClassId) (B N : Nat) (bk : Int) (nr : Int) (M : MM) (hN : 257 ≤ N) (hI : Iv M) (hbk : M.1 210 40 = bk) (hnr : M.1 213 bk = nr) (hLP : LQ nr 242 0 M) (hLR : LQ nr 248 0 M) (hz0 : nr = 0) : CI l D cy B N 2 yX11_swapsTo cX11_swapsTo 6 (some .int) [rv B 210] M (fun z M' => M' = M ∧ (z = 0)) := by
  refine mk_CI (by decide) (Nat.le_of_ble_eq_true rfl) ?_
  intro X exl exD excy hnL hX hret
  have hce : 0 + 0 ≤ (xR X).cells ∧ 0 + 0 ≤ (xR X).slots := ⟨Nat.zero_le _, Nat.zero_le _⟩
  have hbk2 : 0 ≤ bk ∧ bk ≤ 1 := by have := hI.at 210 40 ro_210_40; omega
  have hnr2 : 0 ≤ nr ∧ nr ≤ 6 := by have := hI.at 213 bk (ra_213 _); omega
  show J X B N 0 0 0 [(0, rv B 210)] [] M
  refine j_iconst hX dX11_swapsTo_0 ?_
  refine j_istore_n (lv' := [(1, _), (0, _)]) hX dX11_swapsTo_1 rfl (by rw [hnL]; decide) rfl ?_
  refine j_iconst hX dX11_swapsTo_2 ?_
  refine j_istore_n (lv' := [(2, _), (1, _), (0, _)]) hX dX11_swapsTo_3 rfl (by rw [hnL]; decide) rfl ?_
  refine j_iconst hX dX11_swapsTo_4 ?_
  refine j_istore_n (lv' := [(3, _), (2, _), (1, _), (0, _)]) hX dX11_swapsTo_5 rfl (by rw [hnL]; decide) rfl ?_
  refine j_iload_n hX dX11_swapsTo_6 rfl 0 rfl ?_
  refine j_aload_n hX dX11_swapsTo_7 rfl 3 rfl ?_
  refine j_callVI hX lk_X11_385 (cv_X11_many _ _ _ _ _ _ _ _ (by omega) hI hbk hnr (by first | assumption | omega)) (by omega) hce rfl rfl (by omega) (by omega) kc_210 rfl rfl (Nat.le_of_ble_eq_true rfl) dX11_swapsTo_8 (fun z1 M2 hz4 hp3 => ?_)
  obtain ⟨hE5, hq6, hq7⟩ := hp3
  replace hE5 := hE5.symm
  subst hE5
  refine j_icmp_ge (tgt := 88) hX dX11_swapsTo_11 (by decide) (by omega) (by omega) (fun hc8 => ?_) (fun hc8 => ?_)
  · skip
    refine j_aload_n hX dX11_swapsTo_88 rfl 3 rfl ?_
    refine j_callVI hX lk_X11_385 (cv_X11_many _ _ _ _ _ _ _ _ (by omega) hI hbk hnr (by first | assumption | omega)) (by omega) hce rfl rfl (by omega) (by omega) kc_210 rfl rfl (Nat.le_of_ble_eq_true rfl) dX11_swapsTo_89 (fun z9 M10 hz12 hp11 => ?_)
    obtain ⟨hE13, hq14, hq15⟩ := hp11
    replace hE13 := hE13.symm
    subst hE13
    refine j_iload_n hX dX11_swapsTo_92 rfl 1 rfl ?_
    refine j_isub hX dX11_swapsTo_93 ?_
    exact hret _ _ _ _ dX11_swapsTo_94 rfl (by omega) ⟨rfl, by first | assumption | omega⟩
  · exfalso; omega
set_option maxHeartbeats 2000000 in
set_option maxRecDepth 20000 in
theorem cv_X11_wantsInRow (l : Launch) (D : va_G) (cy : Nat → ClassId) (B N : Nat) (bk : Int) (nr : Int) (M : MM) (hN : 257 ≤ N) (hI : Iv M) (hbk : M.1 210 40 = bk) (hnr : M.1 213 bk = nr) (hz0 : nr = 0) : CI l D cy B N 2 yX11_wantsInRow cX11_wantsInRow 3 (some .int) [rv B 210] M (fun z M' => M' = M ∧ (z = 0)) := by
  refine mk_CI (by decide) (Nat.le_of_ble_eq_true rfl) ?_
  intro X exl exD excy hnL hX hret
  have hce : 0 + 0 ≤ (xR X).cells ∧ 0 + 0 ≤ (xR X).slots := ⟨Nat.zero_le _, Nat.zero_le _⟩
  have hbk2 : 0 ≤ bk ∧ bk ≤ 1 := by have := hI.at 210 40 ro_210_40; omega
  have hnr2 : 0 ≤ nr ∧ nr ≤ 6 := by have := hI.at 213 bk (ra_213 _); omega
  show J X B N 0 0 0 [(0, rv B 210)] [] M
  refine j_iconst hX dX11_wantsInRow_0 ?_
  refine j_istore_n (lv' := [(1, _), (0, _)]) hX dX11_wantsInRow_1 rfl (by rw [hnL]; decide) rfl ?_
  refine j_iconst hX dX11_wantsInRow_2 ?_
  refine j_istore_n (lv' := [(2, _), (1, _), (0, _)]) hX dX11_wantsInRow_3 rfl (by rw [hnL]; decide) rfl ?_
  refine j_iload_n hX dX11_wantsInRow_4 rfl 0 rfl ?_
  refine j_aload_n hX dX11_wantsInRow_5 rfl 2 rfl ?_
  refine j_callVI hX lk_X11_385 (cv_X11_many _ _ _ _ _ _ _ _ (by omega) hI hbk hnr (by first | assumption | omega)) (by omega) hce rfl rfl (by omega) (by omega) kc_210 rfl rfl (Nat.le_of_ble_eq_true rfl) dX11_wantsInRow_6 (fun z1 M2 hz4 hp3 => ?_)
  obtain ⟨hE5, hq6, hq7⟩ := hp3
  replace hE5 := hE5.symm
  subst hE5
  refine j_icmp_ge (tgt := 32) hX dX11_wantsInRow_9 (by decide) (by omega) (by omega) (fun hc8 => ?_) (fun hc8 => ?_)
  · skip
    refine j_iload_n hX dX11_wantsInRow_32 rfl 1 rfl ?_
    exact hret _ _ _ _ dX11_wantsInRow_33 rfl (by omega) ⟨rfl, by first | assumption | omega⟩
  · exfalso; omega
set_option maxHeartbeats 2000000 in
set_option maxRecDepth 20000 in
theorem cv_X11_layRow (l : Launch) (D : va_G) (cy : Nat → ClassId) (B N : Nat) (bk : Int) (nr : Int) (M : MM) (hN : 257 ≤ N) (hI : Iv M) (hbk : M.1 210 40 = bk) (hnr : M.1 213 bk = nr) (hz0 : nr = 0) : CV l D cy B N 2 yX11_layRow cX11_layRow 2 none [rv B 210] M (fun M' => Iv M' ∧ Fr (fun a b => (a = 210 ∧ 54 ≤ b ∧ b ≤ 54) ∨ (a = 246)) M M') := by
  refine mk_CV (by decide) (Nat.le_of_ble_eq_true rfl) ?_
  intro X exl exD excy hnL hX hret
  have hce : 0 + 0 ≤ (xR X).cells ∧ 0 + 0 ≤ (xR X).slots := ⟨Nat.zero_le _, Nat.zero_le _⟩
  have hF : Fr (fun a b => (a = 210 ∧ 54 ≤ b ∧ b ≤ 54) ∨ (a = 246)) M M := Fr.rf
  have hbk2 : 0 ≤ bk ∧ bk ≤ 1 := by have := hI.at 210 40 ro_210_40; omega
  have hnr2 : 0 ≤ nr ∧ nr ≤ 6 := by have := hI.at 213 bk (ra_213 _); omega
  show J X B N 0 0 0 [(0, rv B 210)] [] M
  refine j_iconst hX dX11_layRow_0 ?_
  refine j_istore_n (lv' := [(1, _), (0, _)]) hX dX11_layRow_1 rfl (by rw [hnL]; decide) rfl ?_
  refine j_iload_n hX dX11_layRow_2 rfl 0 rfl ?_
  refine j_aload_n hX dX11_layRow_3 rfl 1 rfl ?_
  refine j_callVI hX lk_X11_385 (cv_X11_many _ _ _ _ _ _ _ _ (by omega) hI hbk hnr (by first | assumption | omega)) (by omega) hce rfl rfl (by omega) (by omega) kc_210 rfl rfl (Nat.le_of_ble_eq_true rfl) dX11_layRow_4 (fun z1 M2 hz4 hp3 => ?_)
  obtain ⟨hE5, hq6, hq7⟩ := hp3
  replace hE5 := hE5.symm
  subst hE5
  refine j_icmp_ge (tgt := 28) hX dX11_layRow_7 (by decide) (by omega) (by omega) (fun hc8 => ?_) (fun hc8 => ?_)
  · skip
    refine j_aload_n hX dX11_layRow_28 rfl 1 rfl ?_
    refine j_aload_n hX dX11_layRow_29 rfl 1 rfl ?_
    refine j_callVI hX lk_X11_385 (cv_X11_many _ _ _ _ _ _ _ _ (by omega) hI hbk hnr (by first | assumption | omega)) (by omega) hce rfl rfl (by omega) (by omega) kc_210 rfl rfl (Nat.le_of_ble_eq_true rfl) dX11_layRow_30 (fun z9 M10 hz12 hp11 => ?_)
    obtain ⟨hE13, hq14, hq15⟩ := hp11
    replace hE13 := hE13.symm
    subst hE13
    refine pf_X11_404 hX (by omega) (by omega) kc_210 (by omega) dX11_layRow_33 ?_
    refine j_up hI ro_210_54 (by omega) (by omega) (Or.inl (by omega)) (fun M16 w17 hw18 hM19 hI20 hf21 => ?_)
    have hk22 := kp_up hM19 (fun h => absurd h.2 (by decide)) hbk
    have hk23 := kp_up hM19 (fun h => absurd h.1 (by decide)) hnr
    have hF24 := Fr.put hF hM19 ((Or.inl ⟨rfl, by decide, by decide⟩))
    exact hret _ _ _ dX11_layRow_36 ⟨hI20, hF24⟩
  · exfalso; omega
set_option maxHeartbeats 2000000 in
set_option maxRecDepth 20000 in
theorem cv_X11_liked (l : Launch) (D : va_G) (cy : Nat → ClassId) (B N : Nat) (bk : Int) (nr : Int) (M : MM) (hN : 257 ≤ N) (hI : Iv M) (hbk : M.1 210 40 = bk) (hnr : M.1 213 bk = nr) (hz0 : nr = 0) : CI l D cy B N 2 yX11_liked cX11_liked 3 (some .int) [rv B 210] M (fun z M' => M' = M ∧ (0 ≤ z ∧ z ≤ 6) ∧ (z = 0)) := by
  refine mk_CI (by decide) (Nat.le_of_ble_eq_true rfl) ?_
  intro X exl exD excy hnL hX hret
  have hce : 0 + 0 ≤ (xR X).cells ∧ 0 + 0 ≤ (xR X).slots := ⟨Nat.zero_le _, Nat.zero_le _⟩
  have hbk2 : 0 ≤ bk ∧ bk ≤ 1 := by have := hI.at 210 40 ro_210_40; omega
  have hnr2 : 0 ≤ nr ∧ nr ≤ 6 := by have := hI.at 213 bk (ra_213 _); omega
  show J X B N 0 0 0 [(0, rv B 210)] [] M
  refine j_iconst hX dX11_liked_0 ?_
  refine j_istore_n (lv' := [(1, _), (0, _)]) hX dX11_liked_1 rfl (by rw [hnL]; decide) rfl ?_
  refine j_iconst hX dX11_liked_2 ?_
  refine j_istore_n (lv' := [(2, _), (1, _), (0, _)]) hX dX11_liked_3 rfl (by rw [hnL]; decide) rfl ?_
  refine j_iload_n hX dX11_liked_4 rfl 0 rfl ?_
  refine j_aload_n hX dX11_liked_5 rfl 2 rfl ?_
  refine j_callVI hX lk_X11_385 (cv_X11_many _ _ _ _ _ _ _ _ (by omega) hI hbk hnr (by first | assumption | omega)) (by omega) hce rfl rfl (by omega) (by omega) kc_210 rfl rfl (Nat.le_of_ble_eq_true rfl) dX11_liked_6 (fun z1 M2 hz4 hp3 => ?_)
  obtain ⟨hE5, hq6, hq7⟩ := hp3
  replace hE5 := hE5.symm
  subst hE5
  refine j_icmp_ge (tgt := 40) hX dX11_liked_9 (by decide) (by omega) (by omega) (fun hc8 => ?_) (fun hc8 => ?_)
  · skip
    refine j_iload_n hX dX11_liked_40 rfl 1 rfl ?_
    exact hret _ _ _ _ dX11_liked_41 rfl (by omega) ⟨rfl, by first | assumption | omega, by first | assumption | omega⟩
  · exfalso; omega
set_option maxHeartbeats 2000000 in
set_option maxRecDepth 20000 in
theorem cv_X11_doesFit (l : Launch) (D : va_G) (cy : Nat → ClassId) (B N : Nat) (gl : Int) (a : Int) (M : MM) (hN : 257 ≤ N) (hI : Iv M) (hpa : I32 a) (hk_gl : M.1 210 63 = gl) (hz_gl : gl = 0) : CI l D cy B N 1 yX11_doesFit cX11_doesFit 4 (some .boolean) [rv B 210, iv a] M (fun z M' => M' = M ∧ (0 ≤ z ∧ z ≤ 1) ∧ (z = 1)) := by
  refine mk_CI (by decide) (Nat.le_of_ble_eq_true rfl) ?_
  intro X exl exD excy hnL hX hret
  have hce : 0 + 0 ≤ (xR X).cells ∧ 0 + 0 ≤ (xR X).slots := ⟨Nat.zero_le _, Nat.zero_le _⟩
  show J X B N 0 0 0 [(0, rv B 210), (1, iv a)] [] M
  refine j_iconst hX dX11_doesFit_0 ?_
  refine j_istore_n (lv' := [(2, _), (0, _), (1, _)]) hX dX11_doesFit_1 rfl (by rw [hnL]; decide) rfl ?_
  refine j_iload_n hX dX11_doesFit_2 rfl 0 rfl ?_
  refine j_aload_n hX dX11_doesFit_3 rfl 1 rfl ?_
  refine gf_X11_401 hX (by omega) (by omega) kc_210 dX11_doesFit_4 ?_
  refine j_top hk_gl ?_
  refine j_icmp_ge (tgt := 86) hX dX11_doesFit_7 (by decide) (by omega) (by omega) (fun hc1 => ?_) (fun hc1 => ?_)
  · skip
    refine j_iconst hX dX11_doesFit_86 ?_
    exact hret _ _ _ _ dX11_doesFit_87 (nb (by omega)) (by omega) ⟨rfl, by omega, by first | assumption | omega⟩
  · exfalso; omega
set_option maxHeartbeats 2000000 in
set_option maxRecDepth 20000 in
theorem cv_X11_swaps (l : Launch) (D : va_G) (cy : Nat → ClassId) (B N : Nat) (bk : Int) (nr : Int) (M : MM) (hN : 257 ≤ N) (hI : Iv M) (hbk : M.1 210 40 = bk) (hnr : M.1 213 bk = nr) (hLP : LQ nr 242 0 M) (hz0 : nr = 0) : CI l D cy B N 3 yX11_swaps cX11_swaps 4 (some .int) [rv B 210] M (fun z M' => Iv M' ∧ Fr (fun a b => (a = 248) ∨ (a = 210 ∧ 54 ≤ b ∧ b ≤ 54) ∨ (a = 246)) M M' ∧ (z = 0)) := by
  refine mk_CI (by decide) (Nat.le_of_ble_eq_true rfl) ?_
  intro X exl exD excy hnL hX hret
  have hce : 0 + 0 ≤ (xR X).cells ∧ 0 + 0 ≤ (xR X).slots := ⟨Nat.zero_le _, Nat.zero_le _⟩
  have hF : Fr (fun a b => (a = 248) ∨ (a = 210 ∧ 54 ≤ b ∧ b ≤ 54) ∨ (a = 246)) M M := Fr.rf
  have hbk2 : 0 ≤ bk ∧ bk ≤ 1 := by have := hI.at 210 40 ro_210_40; omega
  have hnr2 : 0 ≤ nr ∧ nr ≤ 6 := by have := hI.at 213 bk (ra_213 _); omega
  show J X B N 0 0 0 [(0, rv B 210)] [] M
  refine j_iconst hX dX11_swaps_0 ?_
  refine j_istore_n (lv' := [(1, _), (0, _)]) hX dX11_swaps_1 rfl (by rw [hnL]; decide) rfl ?_
  refine j_iconst hX dX11_swaps_2 ?_
  refine j_istore_n (lv' := [(2, _), (1, _), (0, _)]) hX dX11_swaps_3 rfl (by rw [hnL]; decide) rfl ?_
  refine j_iload_n hX dX11_swaps_4 rfl 0 rfl ?_
  refine j_aload_n hX dX11_swaps_5 rfl 2 rfl ?_
  refine j_callVI hX lk_X11_459 (cv_X11_rowsOfRooms _ _ _ _ _ _ _ _ (by omega) hI hbk hnr (by first | assumption | omega)) (by omega) hce rfl rfl (by omega) (by omega) kc_210 rfl rfl (Nat.le_of_ble_eq_true rfl) dX11_swaps_6 (fun z1 M2 hz4 hp3 => ?_)
  obtain ⟨hE5, hq6, hq7, hq8⟩ := hp3
  replace hE5 := hE5.symm
  subst hE5
  refine j_icmp_ge (tgt := 59) hX dX11_swaps_9 (by decide) (by omega) (by omega) (fun hc9 => ?_) (fun hc9 => ?_)
  · exfalso; omega
  · skip
    refine j_aload_n hX dX11_swaps_12 rfl 2 rfl ?_
    refine j_iload_n hX dX11_swaps_13 rfl 0 rfl ?_
    refine j_callVI hX lk_X11_462 (cv_X11_layLot _ _ _ _ _ _ _ _ _ (by omega) hI (by omega) hbk hnr (by first | assumption | omega) (by first | assumption | omega)) (by omega) hce rfl rfl (by omega) (by omega) kc_210 rfl rfl (Nat.le_of_ble_eq_true rfl) dX11_swaps_14 (fun z10 M11 hz13 hp12 => ?_)
    obtain ⟨hI15, hG16, hb17, hq18, hq19, hq20⟩ := hp12
    have hV21 := LQ_dp hLP (fun a b h => hG16 a b (by omega))
    have hk22 := kp_fr hG16 (fun h => absurd h (by decide)) hbk
    have hk23 := kp_fr hG16 (fun h => absurd h (by decide)) hnr
    have hF24 := Fr.trans hF hG16 (fun a b h => (Or.inl h))
    refine j_if_eq (tgt := 53) hX dX11_swaps_17 (by decide) (by omega) (fun hc25 => ?_) (fun hc25 => ?_)
    · exfalso; omega
    · skip
      have hi26 := hq18 (by omega)
      clear hq18
      refine j_aload_n hX dX11_swaps_20 rfl 2 rfl ?_
      refine j_callVI hX lk_X11_465 (cv_X11_doAimsHold _ _ _ _ _ _ _ _ (by omega) hI15 hk22 hk23 (by first | assumption | omega)) (by omega) hce rfl rfl (by omega) (by omega) kc_210 rfl rfl (Nat.le_of_ble_eq_true rfl) dX11_swaps_21 (fun z27 M28 hz30 hp29 => ?_)
      obtain ⟨hE31, hb32, hq33⟩ := hp29
      replace hE31 := hE31.symm
      subst hE31
      refine j_if_ne (tgt := 30) hX dX11_swaps_24 (by decide) (by omega) (fun hc34 => ?_) (fun hc34 => ?_)
      · skip
        refine j_aload_n hX dX11_swaps_30 rfl 2 rfl ?_
        refine j_callVI hX lk_X11_468 (cv_X11_swapsTo _ _ _ _ _ _ _ _ (by omega) hI15 hk22 hk23 hV21 (by first | assumption | omega) (by first | assumption | omega)) (by omega) hce rfl rfl (by omega) (by omega) kc_210 rfl rfl (Nat.le_of_ble_eq_true rfl) dX11_swaps_31 (fun z35 M36 hz38 hp37 => ?_)
        obtain ⟨hE39, hq40⟩ := hp37
        replace hE39 := hE39.symm
        subst hE39
        refine j_istore_n (lv' := [(3, _), (2, _), (1, _), (0, _)]) hX dX11_swaps_34 rfl (by rw [hnL]; decide) rfl ?_
        refine j_iload_n hX dX11_swaps_35 rfl 2 rfl ?_
        refine j_if_lt (tgt := 47) hX dX11_swaps_36 (by decide) (by omega) (fun hc41 => ?_) (fun hc41 => ?_)
        · skip
          refine j_iload_n hX dX11_swaps_47 rfl 0 rfl ?_
          refine j_istore_n (lv' := [(1, _), (3, _), (2, _), (0, _)]) hX dX11_swaps_48 rfl (by rw [hnL]; decide) rfl ?_
          refine j_aload_n hX dX11_swaps_49 rfl 3 rfl ?_
          refine j_callVV hX lk_X11_471 (cv_X11_layRow _ _ _ _ _ _ _ _ (by omega) hI15 hk22 hk23 (by first | assumption | omega)) (by omega) hce rfl rfl (by omega) (by omega) kc_210 rfl rfl (Nat.le_of_ble_eq_true rfl) dX11_swaps_50 (fun M43 hp44 => ?_)
          obtain ⟨hI47, hG48⟩ := hp44
          have hV49 := LQ_dp hV21 (fun a b h => hG48 a b (by omega))
          have hk50 := kp_fr hG48 (fun h => h.elim (fun h => absurd h.2.1 (by decide)) (fun h => absurd h (by decide))) hk22
          have hk51 := kp_fr hG48 (fun h => h.elim (fun h => absurd h.1 (by decide)) (fun h => absurd h (by decide))) hk23
          clear hk22 hk23
          have hF52 := Fr.trans hF24 hG48 (fun a b h => h.elim (fun h => (Or.inr (Or.inl h))) (fun h => (Or.inr (Or.inr h))))
          refine j_iinc (lv' := [(2, _), (1, _), (3, _), (0, _)]) hX dX11_swaps_53 2 rfl (by rw [hnL]; decide) rfl ?_
          refine j_goto (tgt := 4) hX dX11_swaps_56 (by decide) ?_
          refine j_iload_n hX dX11_swaps_4 rfl 0 rfl ?_
          refine j_aload_n hX dX11_swaps_5 rfl 3 rfl ?_
          refine j_callVI hX lk_X11_459 (cv_X11_rowsOfRooms _ _ _ _ _ _ _ _ (by omega) hI47 hk50 hk51 (by first | assumption | omega)) (by omega) hce rfl rfl (by omega) (by omega) kc_210 rfl rfl (Nat.le_of_ble_eq_true rfl) dX11_swaps_6 (fun z53 M54 hz56 hp55 => ?_)
          obtain ⟨hE57, hq58, hq59, hq60⟩ := hp55
          replace hE57 := hE57.symm
          subst hE57
          refine j_icmp_ge (tgt := 59) hX dX11_swaps_9 (by decide) (by omega) (by omega) (fun hc61 => ?_) (fun hc61 => ?_)
          · skip
            refine j_iload_n hX dX11_swaps_59 rfl 1 rfl ?_
            exact hret _ _ _ _ dX11_swaps_60 rfl (by omega) ⟨hI47, hF52, by first | assumption | omega⟩
          · exfalso; omega
        · exfalso; omega
      · exfalso; omega
set_option maxHeartbeats 2000000 in
set_option maxRecDepth 20000 in
theorem cv_X11_best (l : Launch) (D : va_G) (cy : Nat → ClassId) (B N : Nat) (bk : Int) (nr : Int) (M : MM) (hN : 257 ≤ N) (hI : Iv M) (hbk : M.1 210 40 = bk) (hnr : M.1 213 bk = nr) (hz0 : nr = 0) : CI l D cy B N 3 yX11_best cX11_best 3 (some .int) [rv B 210] M (fun z M' => Iv M' ∧ Fr (fun a b => (a = 248) ∨ (a = 210 ∧ 54 ≤ b ∧ b ≤ 54) ∨ (a = 246)) M M' ∧ (z = 0)) := by
  refine mk_CI (by decide) (Nat.le_of_ble_eq_true rfl) ?_
  intro X exl exD excy hnL hX hret
  have hce : 0 + 0 ≤ (xR X).cells ∧ 0 + 0 ≤ (xR X).slots := ⟨Nat.zero_le _, Nat.zero_le _⟩
  have hF : Fr (fun a b => (a = 248) ∨ (a = 210 ∧ 54 ≤ b ∧ b ≤ 54) ∨ (a = 246)) M M := Fr.rf
  have hbk2 : 0 ≤ bk ∧ bk ≤ 1 := by have := hI.at 210 40 ro_210_40; omega
  have hnr2 : 0 ≤ nr ∧ nr ≤ 6 := by have := hI.at 213 bk (ra_213 _); omega
  show J X B N 0 0 0 [(0, rv B 210)] [] M
  refine j_iconst hX dX11_best_0 ?_
  refine j_istore_n (lv' := [(1, _), (0, _)]) hX dX11_best_1 rfl (by rw [hnL]; decide) rfl ?_
  refine j_iconst hX dX11_best_2 ?_
  refine j_istore_n (lv' := [(2, _), (1, _), (0, _)]) hX dX11_best_3 rfl (by rw [hnL]; decide) rfl ?_
  refine j_iload_n hX dX11_best_4 rfl 0 rfl ?_
  refine j_aload_n hX dX11_best_5 rfl 2 rfl ?_
  refine j_callVI hX lk_X11_459 (cv_X11_rowsOfRooms _ _ _ _ _ _ _ _ (by omega) hI hbk hnr (by first | assumption | omega)) (by omega) hce rfl rfl (by omega) (by omega) kc_210 rfl rfl (Nat.le_of_ble_eq_true rfl) dX11_best_6 (fun z1 M2 hz4 hp3 => ?_)
  obtain ⟨hE5, hq6, hq7, hq8⟩ := hp3
  replace hE5 := hE5.symm
  subst hE5
  refine j_icmp_ge (tgt := 50) hX dX11_best_9 (by decide) (by omega) (by omega) (fun hc9 => ?_) (fun hc9 => ?_)
  · exfalso; omega
  · skip
    refine j_aload_n hX dX11_best_12 rfl 2 rfl ?_
    refine j_iload_n hX dX11_best_13 rfl 0 rfl ?_
    refine j_callVI hX lk_X11_462 (cv_X11_layLot _ _ _ _ _ _ _ _ _ (by omega) hI (by omega) hbk hnr (by first | assumption | omega) (by first | assumption | omega)) (by omega) hce rfl rfl (by omega) (by omega) kc_210 rfl rfl (Nat.le_of_ble_eq_true rfl) dX11_best_14 (fun z10 M11 hz13 hp12 => ?_)
    obtain ⟨hI15, hG16, hb17, hq18, hq19, hq20⟩ := hp12
    have hk21 := kp_fr hG16 (fun h => absurd h (by decide)) hbk
    have hk22 := kp_fr hG16 (fun h => absurd h (by decide)) hnr
    have hF23 := Fr.trans hF hG16 (fun a b h => (Or.inl h))
    refine j_if_eq (tgt := 44) hX dX11_best_17 (by decide) (by omega) (fun hc24 => ?_) (fun hc24 => ?_)
    · exfalso; omega
    · skip
      have hi25 := hq18 (by omega)
      clear hq18
      refine j_iload_n hX dX11_best_20 rfl 1 rfl ?_
      refine j_if_lt (tgt := 35) hX dX11_best_21 (by decide) (by omega) (fun hc26 => ?_) (fun hc26 => ?_)
      · skip
        refine j_aload_n hX dX11_best_35 rfl 2 rfl ?_
        refine j_callVI hX lk_X11_474 (cv_X11_wantsInRow _ _ _ _ _ _ _ _ (by omega) hI15 hk21 hk22 (by first | assumption | omega)) (by omega) hce rfl rfl (by omega) (by omega) kc_210 rfl rfl (Nat.le_of_ble_eq_true rfl) dX11_best_36 (fun z27 M28 hz30 hp29 => ?_)
        obtain ⟨hE31, hq32⟩ := hp29
        replace hE31 := hE31.symm
        subst hE31
        refine j_istore_n (lv' := [(1, _), (2, _), (0, _)]) hX dX11_best_39 rfl (by rw [hnL]; decide) rfl ?_
        refine j_aload_n hX dX11_best_40 rfl 2 rfl ?_
        refine j_callVV hX lk_X11_471 (cv_X11_layRow _ _ _ _ _ _ _ _ (by omega) hI15 hk21 hk22 (by first | assumption | omega)) (by omega) hce rfl rfl (by omega) (by omega) kc_210 rfl rfl (Nat.le_of_ble_eq_true rfl) dX11_best_41 (fun M34 hp35 => ?_)
        obtain ⟨hI38, hG39⟩ := hp35
        have hk40 := kp_fr hG39 (fun h => h.elim (fun h => absurd h.2.1 (by decide)) (fun h => absurd h (by decide))) hk21
        have hk41 := kp_fr hG39 (fun h => h.elim (fun h => absurd h.1 (by decide)) (fun h => absurd h (by decide))) hk22
        clear hk21 hk22
        have hF42 := Fr.trans hF23 hG39 (fun a b h => h.elim (fun h => (Or.inr (Or.inl h))) (fun h => (Or.inr (Or.inr h))))
        refine j_iinc (lv' := [(2, _), (1, _), (0, _)]) hX dX11_best_44 1 rfl (by rw [hnL]; decide) rfl ?_
        refine j_goto (tgt := 4) hX dX11_best_47 (by decide) ?_
        refine j_iload_n hX dX11_best_4 rfl 0 rfl ?_
        refine j_aload_n hX dX11_best_5 rfl 2 rfl ?_
        refine j_callVI hX lk_X11_459 (cv_X11_rowsOfRooms _ _ _ _ _ _ _ _ (by omega) hI38 hk40 hk41 (by first | assumption | omega)) (by omega) hce rfl rfl (by omega) (by omega) kc_210 rfl rfl (Nat.le_of_ble_eq_true rfl) dX11_best_6 (fun z43 M44 hz46 hp45 => ?_)
        obtain ⟨hE47, hq48, hq49, hq50⟩ := hp45
        replace hE47 := hE47.symm
        subst hE47
        refine j_icmp_ge (tgt := 50) hX dX11_best_9 (by decide) (by omega) (by omega) (fun hc51 => ?_) (fun hc51 => ?_)
        · skip
          refine j_iload_n hX dX11_best_50 rfl 1 rfl ?_
          exact hret _ _ _ _ dX11_best_51 rfl (by omega) ⟨hI38, hF42, by first | assumption | omega⟩
        · exfalso; omega
      · exfalso; omega
set_option maxHeartbeats 2000000 in
set_option maxRecDepth 20000 in
theorem cv_X11_fair (l : Launch) (D : va_G) (cy : Nat → ClassId) (B N : Nat) (bk : Int) (nr : Int) (M : MM) (hN : 257 ≤ N) (hI : Iv M) (hbk : M.1 210 40 = bk) (hnr : M.1 213 bk = nr) (hz0 : nr = 0) : CI l D cy B N 3 yX11_fair cX11_fair 5 (some .int) [rv B 210] M (fun z M' => Iv M' ∧ Fr (fun a (_ : Int) => (a = 248)) M M' ∧ (z = 1)) := by
  refine mk_CI (by decide) (Nat.le_of_ble_eq_true rfl) ?_
  intro X exl exD excy hnL hX hret
  have hce : 0 + 0 ≤ (xR X).cells ∧ 0 + 0 ≤ (xR X).slots := ⟨Nat.zero_le _, Nat.zero_le _⟩
  have hF : Fr (fun a (_ : Int) => (a = 248)) M M := Fr.rf
  have hbk2 : 0 ≤ bk ∧ bk ≤ 1 := by have := hI.at 210 40 ro_210_40; omega
  have hnr2 : 0 ≤ nr ∧ nr ≤ 6 := by have := hI.at 213 bk (ra_213 _); omega
  show J X B N 0 0 0 [(0, rv B 210)] [] M
  refine j_iconst hX dX11_fair_0 ?_
  refine j_istore_n (lv' := [(1, _), (0, _)]) hX dX11_fair_1 rfl (by rw [hnL]; decide) rfl ?_
  refine j_iconst hX dX11_fair_2 ?_
  refine j_istore_n (lv' := [(2, _), (1, _), (0, _)]) hX dX11_fair_3 rfl (by rw [hnL]; decide) rfl ?_
  refine j_iload_n hX dX11_fair_4 rfl 0 rfl ?_
  refine j_aload_n hX dX11_fair_5 rfl 2 rfl ?_
  refine j_callVI hX lk_X11_459 (cv_X11_rowsOfRooms _ _ _ _ _ _ _ _ (by omega) hI hbk hnr (by first | assumption | omega)) (by omega) hce rfl rfl (by omega) (by omega) kc_210 rfl rfl (Nat.le_of_ble_eq_true rfl) dX11_fair_6 (fun z1 M2 hz4 hp3 => ?_)
  obtain ⟨hE5, hq6, hq7, hq8⟩ := hp3
  replace hE5 := hE5.symm
  subst hE5
  refine j_icmp_ge (tgt := 90) hX dX11_fair_9 (by decide) (by omega) (by omega) (fun hc9 => ?_) (fun hc9 => ?_)
  · exfalso; omega
  · skip
    refine j_aload_n hX dX11_fair_12 rfl 2 rfl ?_
    refine j_iload_n hX dX11_fair_13 rfl 0 rfl ?_
    refine j_callVI hX lk_X11_462 (cv_X11_layLot _ _ _ _ _ _ _ _ _ (by omega) hI (by omega) hbk hnr (by first | assumption | omega) (by first | assumption | omega)) (by omega) hce rfl rfl (by omega) (by omega) kc_210 rfl rfl (Nat.le_of_ble_eq_true rfl) dX11_fair_14 (fun z10 M11 hz13 hp12 => ?_)
    obtain ⟨hI15, hG16, hb17, hq18, hq19, hq20⟩ := hp12
    have hk21 := kp_fr hG16 (fun h => absurd h (by decide)) hbk
    have hk22 := kp_fr hG16 (fun h => absurd h (by decide)) hnr
    have hF23 := Fr.trans hF hG16 (fun a b h => h)
    refine j_if_eq (tgt := 84) hX dX11_fair_17 (by decide) (by omega) (fun hc24 => ?_) (fun hc24 => ?_)
    · exfalso; omega
    · skip
      have hi25 := hq18 (by omega)
      clear hq18
      refine j_aload_n hX dX11_fair_20 rfl 2 rfl ?_
      refine j_callVI hX lk_X11_465 (cv_X11_doAimsHold _ _ _ _ _ _ _ _ (by omega) hI15 hk21 hk22 (by first | assumption | omega)) (by omega) hce rfl rfl (by omega) (by omega) kc_210 rfl rfl (Nat.le_of_ble_eq_true rfl) dX11_fair_21 (fun z26 M27 hz29 hp28 => ?_)
      obtain ⟨hE30, hb31, hq32⟩ := hp28
      replace hE30 := hE30.symm
      subst hE30
      refine j_if_ne (tgt := 30) hX dX11_fair_24 (by decide) (by omega) (fun hc33 => ?_) (fun hc33 => ?_)
      · skip
        refine j_iconst hX dX11_fair_30 ?_
        refine j_istore_n (lv' := [(3, _), (2, _), (1, _), (0, _)]) hX dX11_fair_31 rfl (by rw [hnL]; decide) rfl ?_
        refine j_iconst hX dX11_fair_32 ?_
        refine j_istore (lv' := [(4, _), (3, _), (2, _), (1, _), (0, _)]) hX dX11_fair_33 (by rw [hnL]; decide) rfl ?_
        refine j_iload hX dX11_fair_35 0 rfl ?_
        refine j_aload_n hX dX11_fair_37 rfl 4 rfl ?_
        refine j_callVI hX lk_X11_385 (cv_X11_many _ _ _ _ _ _ _ _ (by omega) hI15 hk21 hk22 (by first | assumption | omega)) (by omega) hce rfl rfl (by omega) (by omega) kc_210 rfl rfl (Nat.le_of_ble_eq_true rfl) dX11_fair_38 (fun z34 M35 hz37 hp36 => ?_)
        obtain ⟨hE38, hq39, hq40⟩ := hp36
        replace hE38 := hE38.symm
        subst hE38
        refine j_icmp_ge (tgt := 72) hX dX11_fair_41 (by decide) (by omega) (by omega) (fun hc41 => ?_) (fun hc41 => ?_)
        · skip
          refine j_iload_n hX dX11_fair_72 rfl 3 rfl ?_
          refine j_iload_n hX dX11_fair_73 rfl 1 rfl ?_
          refine j_if_eq (tgt := 81) hX dX11_fair_74 (by decide) (by omega) (fun hc42 => ?_) (fun hc42 => ?_)
          · exfalso; omega
          · skip
            refine j_iconst hX dX11_fair_77 ?_
            refine j_goto (tgt := 82) hX dX11_fair_78 (by decide) ?_
            refine j_iadd hX dX11_fair_82 ?_
            refine j_istore_n (lv' := [(1, _), (4, _), (3, _), (2, _), (0, _)]) hX dX11_fair_83 rfl (by rw [hnL]; decide) rfl ?_
            refine j_iinc (lv' := [(2, _), (1, _), (4, _), (3, _), (0, _)]) hX dX11_fair_84 3 rfl (by rw [hnL]; decide) rfl ?_
            refine j_goto (tgt := 4) hX dX11_fair_87 (by decide) ?_
            refine j_iload_n hX dX11_fair_4 rfl 0 rfl ?_
            refine j_aload_n hX dX11_fair_5 rfl 4 rfl ?_
            refine j_callVI hX lk_X11_459 (cv_X11_rowsOfRooms _ _ _ _ _ _ _ _ (by omega) hI15 hk21 hk22 (by first | assumption | omega)) (by omega) hce rfl rfl (by omega) (by omega) kc_210 rfl rfl (Nat.le_of_ble_eq_true rfl) dX11_fair_6 (fun z43 M44 hz46 hp45 => ?_)
            obtain ⟨hE47, hq48, hq49, hq50⟩ := hp45
            replace hE47 := hE47.symm
            subst hE47
            refine j_icmp_ge (tgt := 90) hX dX11_fair_9 (by decide) (by omega) (by omega) (fun hc51 => ?_) (fun hc51 => ?_)
            · skip
              refine j_iload_n hX dX11_fair_90 rfl 1 rfl ?_
              exact hret _ _ _ _ dX11_fair_91 rfl (by omega) ⟨hI15, hF23, by first | assumption | omega⟩
            · exfalso; omega
        · exfalso; omega
      · exfalso; omega
set_option maxHeartbeats 2000000 in
set_option maxRecDepth 20000 in
theorem cv_X11_rings (l : Launch) (D : va_G) (cy : Nat → ClassId) (B N : Nat) (bk : Int) (nr : Int) (M : MM) (hN : 257 ≤ N) (hI : Iv M) (hbk : M.1 210 40 = bk) (hnr : M.1 213 bk = nr) (hz0 : nr = 0) : CI l D cy B N 4 yX11_rings cX11_rings 4 (some .int) [rv B 210] M (fun z M' => Iv M' ∧ Fr (fun a b => (a = 248) ∨ (a = 210 ∧ 54 ≤ b ∧ b ≤ 54) ∨ (a = 246)) M M' ∧ (z = 0)) := by
  refine mk_CI (by decide) (Nat.le_of_ble_eq_true rfl) ?_
  intro X exl exD excy hnL hX hret
  have hce : 0 + 0 ≤ (xR X).cells ∧ 0 + 0 ≤ (xR X).slots := ⟨Nat.zero_le _, Nat.zero_le _⟩
  have hF : Fr (fun a b => (a = 248) ∨ (a = 210 ∧ 54 ≤ b ∧ b ≤ 54) ∨ (a = 246)) M M := Fr.rf
  have hbk2 : 0 ≤ bk ∧ bk ≤ 1 := by have := hI.at 210 40 ro_210_40; omega
  have hnr2 : 0 ≤ nr ∧ nr ≤ 6 := by have := hI.at 213 bk (ra_213 _); omega
  show J X B N 0 0 0 [(0, rv B 210)] [] M
  refine j_iconst hX dX11_rings_0 ?_
  refine j_aload_n hX dX11_rings_1 rfl 0 rfl ?_
  refine j_callVI hX lk_X11_385 (cv_X11_many _ _ _ _ _ _ _ _ (by omega) hI hbk hnr (by first | assumption | omega)) (by omega) hce rfl rfl (by omega) (by omega) kc_210 rfl rfl (Nat.le_of_ble_eq_true rfl) dX11_rings_2 (fun z1 M2 hz4 hp3 => ?_)
  obtain ⟨hE5, hq6, hq7⟩ := hp3
  replace hE5 := hE5.symm
  subst hE5
  refine j_ishl hX dX11_rings_5 (fun z8 hz9 hy10 => ?_)
  have hfr := full_r hz9 (by assumption) hnr2
  have hcf := cn_b (z8 - 1)
  have hv11 := ishlE (x0 := 1) (y0 := 0) (v := 1) hz9 (by omega) (by omega) (by decide)
  refine j_iconst hX dX11_rings_6 ?_
  refine j_isub hX dX11_rings_7 ?_
  refine j_istore_n (lv' := [(1, _), (0, _)]) hX dX11_rings_8 rfl (by rw [hnL]; decide) rfl ?_
  refine j_iload_n hX dX11_rings_9 rfl 0 rfl ?_
  refine j_if_eq (tgt := 71) hX dX11_rings_10 (by decide) (by omega) (fun hc12 => ?_) (fun hc12 => ?_)
  · skip
    refine j_aload_n hX dX11_rings_71 rfl 1 rfl ?_
    refine j_callVV hX lk_X11_471 (cv_X11_layRow _ _ _ _ _ _ _ _ (by omega) hI hbk hnr (by first | assumption | omega)) (by omega) hce rfl rfl (by omega) (by omega) kc_210 rfl rfl (Nat.le_of_ble_eq_true rfl) dX11_rings_72 (fun M14 hp15 => ?_)
    obtain ⟨hI18, hG19⟩ := hp15
    have hk20 := kp_fr hG19 (fun h => h.elim (fun h => absurd h.2.1 (by decide)) (fun h => absurd h (by decide))) hbk
    have hk21 := kp_fr hG19 (fun h => h.elim (fun h => absurd h.1 (by decide)) (fun h => absurd h (by decide))) hnr
    have hF22 := Fr.trans hF hG19 (fun a b h => h.elim (fun h => (Or.inr (Or.inl h))) (fun h => (Or.inr (Or.inr h))))
    refine j_aload_n hX dX11_rings_75 rfl 1 rfl ?_
    refine j_callVI hX lk_X11_474 (cv_X11_wantsInRow _ _ _ _ _ _ _ _ (by omega) hI18 hk20 hk21 (by first | assumption | omega)) (by omega) hce rfl rfl (by omega) (by omega) kc_210 rfl rfl (Nat.le_of_ble_eq_true rfl) dX11_rings_76 (fun z23 M24 hz26 hp25 => ?_)
    obtain ⟨hE27, hq28⟩ := hp25
    replace hE27 := hE27.symm
    subst hE27
    exact hret _ _ _ _ dX11_rings_79 rfl (by omega) ⟨hI18, hF22, by first | assumption | omega⟩
  · exfalso; omega
set_option maxHeartbeats 2000000 in
set_option maxRecDepth 20000 in
theorem cv_X11_bitsOf (l : Launch) (D : va_G) (cy : Nat → ClassId) (B N : Nat) (a : Int) (M : MM) (hpa : I32 a) (hz0 : a = 0) : CI l D cy B N 1 yX11_bitsOf cX11_bitsOf 3 (some .int) [iv a] M (fun z M' => M' = M ∧ (z = 0)) := by
  refine mk_CI (by decide) (Nat.le_of_ble_eq_true rfl) ?_
  intro X exl exD excy hnL hX hret
  have hce : 0 + 0 ≤ (xR X).cells ∧ 0 + 0 ≤ (xR X).slots := ⟨Nat.zero_le _, Nat.zero_le _⟩
  show J X B N 0 0 0 [(0, iv a)] [] M
  refine j_iconst hX dX11_bitsOf_0 ?_
  refine j_istore_n (lv' := [(1, _), (0, _)]) hX dX11_bitsOf_1 rfl (by rw [hnL]; decide) rfl ?_
  refine j_iload_n hX dX11_bitsOf_2 rfl 1 rfl ?_
  refine j_istore_n (lv' := [(2, _), (1, _), (0, _)]) hX dX11_bitsOf_3 rfl (by rw [hnL]; decide) rfl ?_
  refine j_iload_n hX dX11_bitsOf_4 rfl 0 rfl ?_
  refine j_if_eq (tgt := 20) hX dX11_bitsOf_5 (by decide) (by omega) (fun hc1 => ?_) (fun hc1 => ?_)
  · skip
    refine j_iload_n hX dX11_bitsOf_20 rfl 1 rfl ?_
    exact hret _ _ _ _ dX11_bitsOf_21 rfl (by omega) ⟨rfl, by first | assumption | omega⟩
  · exfalso; omega
set_option maxHeartbeats 2000000 in
set_option maxRecDepth 20000 in
theorem cv_X11_knownToAll (l : Launch) (D : va_G) (cy : Nat → ClassId) (B N : Nat) (bk : Int) (nr : Int) (M : MM) (hN : 257 ≤ N) (hI : Iv M) (hbk : M.1 210 40 = bk) (hnr : M.1 213 bk = nr) (hz0 : nr = 0) : CI l D cy B N 2 yX11_knownToAll cX11_knownToAll 3 (some .int) [rv B 210] M (fun z M' => M' = M ∧ (z = 0)) := by
  refine mk_CI (by decide) (Nat.le_of_ble_eq_true rfl) ?_
  intro X exl exD excy hnL hX hret
  have hce : 0 + 0 ≤ (xR X).cells ∧ 0 + 0 ≤ (xR X).slots := ⟨Nat.zero_le _, Nat.zero_le _⟩
  have hbk2 : 0 ≤ bk ∧ bk ≤ 1 := by have := hI.at 210 40 ro_210_40; omega
  have hnr2 : 0 ≤ nr ∧ nr ≤ 6 := by have := hI.at 213 bk (ra_213 _); omega
  show J X B N 0 0 0 [(0, rv B 210)] [] M
  refine j_iconst hX dX11_knownToAll_0 ?_
  refine j_istore_n (lv' := [(1, _), (0, _)]) hX dX11_knownToAll_1 rfl (by rw [hnL]; decide) rfl ?_
  refine j_iconst hX dX11_knownToAll_2 ?_
  refine j_istore_n (lv' := [(2, _), (1, _), (0, _)]) hX dX11_knownToAll_3 rfl (by rw [hnL]; decide) rfl ?_
  refine j_iload_n hX dX11_knownToAll_4 rfl 0 rfl ?_
  refine j_aload_n hX dX11_knownToAll_5 rfl 2 rfl ?_
  refine j_callVI hX lk_X11_385 (cv_X11_many _ _ _ _ _ _ _ _ (by omega) hI hbk hnr (by first | assumption | omega)) (by omega) hce rfl rfl (by omega) (by omega) kc_210 rfl rfl (Nat.le_of_ble_eq_true rfl) dX11_knownToAll_6 (fun z1 M2 hz4 hp3 => ?_)
  obtain ⟨hE5, hq6, hq7⟩ := hp3
  replace hE5 := hE5.symm
  subst hE5
  refine j_icmp_ge (tgt := 33) hX dX11_knownToAll_9 (by decide) (by omega) (by omega) (fun hc8 => ?_) (fun hc8 => ?_)
  · skip
    refine j_iload_n hX dX11_knownToAll_33 rfl 1 rfl ?_
    exact hret _ _ _ _ dX11_knownToAll_34 rfl (by omega) ⟨rfl, by first | assumption | omega⟩
  · exfalso; omega
set_option maxHeartbeats 2000000 in
set_option maxRecDepth 20000 in
theorem cv_X11_cast (l : Launch) (D : va_G) (cy : Nat → ClassId) (B N : Nat) (bk : Int) (nr : Int) (M : MM) (hN : 257 ≤ N) (hI : Iv M) (hbk : M.1 210 40 = bk) (hnr : M.1 213 bk = nr) (hRS : RS nr M) (hz0 : nr = 0) : CI l D cy B N 2 yX11_cast cX11_cast 3 (some .int) [rv B 210] M (fun z M' => Iv M' ∧ Fr (fun a b => (a = 210 ∧ 50 ≤ b ∧ b ≤ 51) ∨ (a = 244) ∨ (242 ≤ a ∧ a ≤ 243)) M M' ∧ (RS nr M') ∧ (z = 0)) := by
  refine mk_CI (by decide) (Nat.le_of_ble_eq_true rfl) ?_
  intro X exl exD excy hnL hX hret
  have hce : 0 + 0 ≤ (xR X).cells ∧ 0 + 0 ≤ (xR X).slots := ⟨Nat.zero_le _, Nat.zero_le _⟩
  have hF : Fr (fun a b => (a = 210 ∧ 50 ≤ b ∧ b ≤ 51) ∨ (a = 244) ∨ (242 ≤ a ∧ a ≤ 243)) M M := Fr.rf
  have hbk2 : 0 ≤ bk ∧ bk ≤ 1 := by have := hI.at 210 40 ro_210_40; omega
  have hnr2 : 0 ≤ nr ∧ nr ≤ 6 := by have := hI.at 213 bk (ra_213 _); omega
  show J X B N 0 0 0 [(0, rv B 210)] [] M
  refine j_aload_n hX dX11_cast_0 rfl 0 rfl ?_
  refine j_callVV hX lk_X11_435 (c_X11_keepAct _ _ _ _ _ _ _ _ (by omega) hI hbk hnr hRS) (by omega) hce rfl rfl (by omega) (by omega) kc_210 rfl rfl (Nat.le_of_ble_eq_true rfl) dX11_cast_1 (fun M2 hp3 => ?_)
  obtain ⟨hI6, hG7, hq8⟩ := hp3
  have hk10 := kp_fr hG7 (fun h => h.elim (fun h => absurd h.2.1 (by decide)) (fun h => absurd h (by decide))) hbk
  have hk11 := kp_fr hG7 (fun h => h.elim (fun h => absurd h.1 (by decide)) (fun h => absurd h (by decide))) hnr
  have hF12 := Fr.trans hF hG7 (fun a b h => h.elim (fun h => (Or.inl h)) (fun h => (Or.inr (Or.inl h))))
  refine j_aload_n hX dX11_cast_4 rfl 0 rfl ?_
  refine j_callVI hX lk_X11_385 (cv_X11_many _ _ _ _ _ _ _ _ (by omega) hI6 hk10 hk11 (by first | assumption | omega)) (by omega) hce rfl rfl (by omega) (by omega) kc_210 rfl rfl (Nat.le_of_ble_eq_true rfl) dX11_cast_5 (fun z13 M14 hz16 hp15 => ?_)
  obtain ⟨hE17, hq18, hq19⟩ := hp15
  replace hE17 := hE17.symm
  subst hE17
  refine j_iconst hX dX11_cast_8 ?_
  refine j_isub hX dX11_cast_9 ?_
  refine j_istore_n (lv' := [(1, _), (0, _)]) hX dX11_cast_10 rfl (by rw [hnL]; decide) rfl ?_
  refine j_iload_n hX dX11_cast_11 rfl 0 rfl ?_
  refine j_if_le (tgt := 62) hX dX11_cast_12 (by decide) (by omega) (fun hc20 => ?_) (fun hc20 => ?_)
  · skip
    refine j_iconst hX dX11_cast_62 ?_
    refine j_istore_n (lv' := [(1, _), (0, _)]) hX dX11_cast_63 rfl (by rw [hnL]; decide) rfl ?_
    refine j_iconst hX dX11_cast_64 ?_
    refine j_istore_n (lv' := [(2, _), (1, _), (0, _)]) hX dX11_cast_65 rfl (by rw [hnL]; decide) rfl ?_
    refine j_iload_n hX dX11_cast_66 rfl 0 rfl ?_
    refine j_aload_n hX dX11_cast_67 rfl 2 rfl ?_
    refine j_callVI hX lk_X11_385 (cv_X11_many _ _ _ _ _ _ _ _ (by omega) hI6 hk10 hk11 (by first | assumption | omega)) (by omega) hce rfl rfl (by omega) (by omega) kc_210 rfl rfl (Nat.le_of_ble_eq_true rfl) dX11_cast_68 (fun z21 M22 hz24 hp23 => ?_)
    obtain ⟨hE25, hq26, hq27⟩ := hp23
    replace hE25 := hE25.symm
    subst hE25
    refine j_icmp_ge (tgt := 100) hX dX11_cast_71 (by decide) (by omega) (by omega) (fun hc28 => ?_) (fun hc28 => ?_)
    · skip
      refine j_iload_n hX dX11_cast_100 rfl 1 rfl ?_
      exact hret _ _ _ _ dX11_cast_101 rfl (by omega) ⟨hI6, hF12, hq8, by first | assumption | omega⟩
    · exfalso; omega
  · exfalso; omega
set_option maxHeartbeats 2000000 in
set_option maxRecDepth 20000 in
theorem cv_X11_about (l : Launch) (D : va_G) (cy : Nat → ClassId) (B N : Nat) (bk : Int) (nr : Int) (nf : Int) (hr : Int) (dy : Int) (zd : Int) (nt : Int) (ac : Int) (un : Int) (gl : Int) (tm : Int) (tp : Int) (ut : Int) (ld : Int) (a : Int) (M : MM) (hN : 257 ≤ N) (hI : Iv M) (hpa : I32 a) (hbk : M.1 210 40 = bk) (hnr : M.1 213 bk = nr) (hk_nf : M.1 214 bk = nf) (hk_hr : M.1 242 13 = hr) (hk_dy : M.1 242 14 = dy) (hk_zd : M.1 242 15 = zd) (hk_nt : M.1 215 bk = nt) (hk_ac : M.1 210 50 = ac) (hk_un : M.1 210 51 = un) (hk_gl : M.1 210 63 = gl) (hk_tm : M.1 210 64 = tm) (hk_tp : M.1 210 2 = tp) (hk_ut : M.1 216 bk = ut) (hk_ld : M.1 210 54 = ld) (hz0 : nr = 0) (hz_nf : nf = 0) (hz_hr : hr = 0) (hz_dy : dy = 0) (hz_zd : zd = 0) (hz_nt : nt = 0) (hz_ac : ac = 0) (hz_un : un = 0) (hz_gl : gl = 0) (hz_tm : tm = 0) (hz_tp : tp = 0) (hz_ut : ut = 0) (hz_ld : ld = 0) : CI l D cy B N 3 yX11_about cX11_about 2 (some .int) [rv B 210, iv a] M (fun z M' => M' = M ∧ ((0 ≤ a ∧ a ≤ 13 → z = 0) ∧ (¬ (0 ≤ a ∧ a ≤ 13) → z = -1))) := by
  refine mk_CI (by decide) (Nat.le_of_ble_eq_true rfl) ?_
  intro X exl exD excy hnL hX hret
  have hce : 0 + 0 ≤ (xR X).cells ∧ 0 + 0 ≤ (xR X).slots := ⟨Nat.zero_le _, Nat.zero_le _⟩
  have hbk2 : 0 ≤ bk ∧ bk ≤ 1 := by have := hI.at 210 40 ro_210_40; omega
  have hnr2 : 0 ≤ nr ∧ nr ≤ 6 := by have := hI.at 213 bk (ra_213 _); omega
  show J X B N 0 0 0 [(0, rv B 210), (1, iv a)] [] M
  refine j_iload_n hX dX11_about_0 rfl 1 rfl ?_
  refine j_table (tgd := 166) hX dX11_about_1 (by omega) (by decide) (fun hc1 => ?_) (fun hc2 hc3 => ?_)
  · skip
    refine j_iconst hX dX11_about_166 ?_
    exact hret _ _ _ _ dX11_about_167 rfl (by omega) ⟨rfl, by first | assumption | omega⟩
  · rcases (by omega : a = 0 ∨ a = 1 ∨ a = 2 ∨ a = 3 ∨ a = 4 ∨ a = 5 ∨ a = 6 ∨ a = 7 ∨ a = 8 ∨ a = 9 ∨ a = 10 ∨ a = 11 ∨ a = 12 ∨ a = 13) with hc4 | hc4 | hc4 | hc4 | hc4 | hc4 | hc4 | hc4 | hc4 | hc4 | hc4 | hc4 | hc4 | hc4
    · refine ⟨71, 72, by rw [hc4]; rfl, by decide, ?_⟩
      refine j_aload_n hX dX11_about_72 rfl 0 rfl ?_
      refine j_callVI hX lk_X11_385 (cv_X11_many _ _ _ _ _ _ _ _ (by omega) hI hbk hnr (by first | assumption | omega)) (by omega) hce rfl rfl (by omega) (by omega) kc_210 rfl rfl (Nat.le_of_ble_eq_true rfl) dX11_about_73 (fun z5 M6 hz8 hp7 => ?_)
      obtain ⟨hE9, hq10, hq11⟩ := hp7
      replace hE9 := hE9.symm
      subst hE9
      exact hret _ _ _ _ dX11_about_76 rfl (by omega) ⟨rfl, by first | assumption | omega⟩
    · refine ⟨76, 77, by rw [hc4]; rfl, by decide, ?_⟩
      refine j_aload_n hX dX11_about_77 rfl 0 rfl ?_
      refine gf_X11_24 hX (by omega) (by omega) kc_210 (fc_210_12 hI) (by decide) dX11_about_78 ?_
      refine j_aload_n hX dX11_about_81 rfl 0 rfl ?_
      refine gf_X11_279 hX (by omega) (by omega) kc_210 dX11_about_82 ?_
      refine j_top hbk ?_
      refine j_iald hX (by omega) (by omega) kc_214 (by omega) (by omega) (by omega) dX11_about_85 ?_
      refine j_top hk_nf ?_
      exact hret _ _ _ _ dX11_about_86 rfl (by omega) ⟨rfl, by first | assumption | omega⟩
    · refine ⟨86, 87, by rw [hc4]; rfl, by decide, ?_⟩
      refine j_aload_n hX dX11_about_87 rfl 0 rfl ?_
      refine gf_X11_110 hX (by omega) (by omega) kc_210 (fc_210_47 hI) (by decide) dX11_about_88 ?_
      refine j_bipush hX dX11_about_91 rfl ?_
      refine j_iald hX (by omega) (by omega) kc_242 (by omega) (by omega) (by omega) dX11_about_93 ?_
      refine j_top hk_hr ?_
      exact hret _ _ _ _ dX11_about_94 rfl (by omega) ⟨rfl, by first | assumption | omega⟩
    · refine ⟨94, 95, by rw [hc4]; rfl, by decide, ?_⟩
      refine j_aload_n hX dX11_about_95 rfl 0 rfl ?_
      refine gf_X11_110 hX (by omega) (by omega) kc_210 (fc_210_47 hI) (by decide) dX11_about_96 ?_
      refine j_bipush hX dX11_about_99 rfl ?_
      refine j_iald hX (by omega) (by omega) kc_242 (by omega) (by omega) (by omega) dX11_about_101 ?_
      refine j_top hk_dy ?_
      exact hret _ _ _ _ dX11_about_102 rfl (by omega) ⟨rfl, by first | assumption | omega⟩
    · refine ⟨102, 103, by rw [hc4]; rfl, by decide, ?_⟩
      refine j_aload_n hX dX11_about_103 rfl 0 rfl ?_
      refine gf_X11_110 hX (by omega) (by omega) kc_210 (fc_210_47 hI) (by decide) dX11_about_104 ?_
      refine j_bipush hX dX11_about_107 rfl ?_
      refine j_iald hX (by omega) (by omega) kc_242 (by omega) (by omega) (by omega) dX11_about_109 ?_
      refine j_top hk_zd ?_
      exact hret _ _ _ _ dX11_about_110 rfl (by omega) ⟨rfl, by first | assumption | omega⟩
    · refine ⟨110, 111, by rw [hc4]; rfl, by decide, ?_⟩
      refine j_aload_n hX dX11_about_111 rfl 0 rfl ?_
      refine gf_X11_27 hX (by omega) (by omega) kc_210 (fc_210_13 hI) (by decide) dX11_about_112 ?_
      refine j_aload_n hX dX11_about_115 rfl 0 rfl ?_
      refine gf_X11_279 hX (by omega) (by omega) kc_210 dX11_about_116 ?_
      refine j_top hbk ?_
      refine j_iald hX (by omega) (by omega) kc_215 (by omega) (by omega) (by omega) dX11_about_119 ?_
      refine j_top hk_nt ?_
      exact hret _ _ _ _ dX11_about_120 rfl (by omega) ⟨rfl, by first | assumption | omega⟩
    · refine ⟨120, 121, by rw [hc4]; rfl, by decide, ?_⟩
      refine j_aload_n hX dX11_about_121 rfl 0 rfl ?_
      refine j_callVI hX lk_X11_502 (cv_X11_aims _ _ _ _ _ _ _ _ (by omega) hI hbk hnr (by first | assumption | omega)) (by omega) hce rfl rfl (by omega) (by omega) kc_210 rfl rfl (Nat.le_of_ble_eq_true rfl) dX11_about_122 (fun z12 M13 hz15 hp14 => ?_)
      obtain ⟨hE16, hq17⟩ := hp14
      replace hE16 := hE16.symm
      subst hE16
      exact hret _ _ _ _ dX11_about_125 rfl (by omega) ⟨rfl, by first | assumption | omega⟩
    · refine ⟨125, 126, by rw [hc4]; rfl, by decide, ?_⟩
      refine j_aload_n hX dX11_about_126 rfl 0 rfl ?_
      refine gf_X11_395 hX (by omega) (by omega) kc_210 dX11_about_127 ?_
      refine j_top hk_ac ?_
      exact hret _ _ _ _ dX11_about_130 rfl (by omega) ⟨rfl, by first | assumption | omega⟩
    · refine ⟨130, 131, by rw [hc4]; rfl, by decide, ?_⟩
      refine j_aload_n hX dX11_about_131 rfl 0 rfl ?_
      refine gf_X11_398 hX (by omega) (by omega) kc_210 dX11_about_132 ?_
      refine j_top hk_un ?_
      exact hret _ _ _ _ dX11_about_135 rfl (by omega) ⟨rfl, by first | assumption | omega⟩
    · refine ⟨135, 136, by rw [hc4]; rfl, by decide, ?_⟩
      refine j_aload_n hX dX11_about_136 rfl 0 rfl ?_
      refine gf_X11_401 hX (by omega) (by omega) kc_210 dX11_about_137 ?_
      refine j_top hk_gl ?_
      exact hret _ _ _ _ dX11_about_140 rfl (by omega) ⟨rfl, by first | assumption | omega⟩
    · refine ⟨140, 141, by rw [hc4]; rfl, by decide, ?_⟩
      refine j_aload_n hX dX11_about_141 rfl 0 rfl ?_
      refine gf_X11_489 hX (by omega) (by omega) kc_210 dX11_about_142 ?_
      refine j_top hk_tm ?_
      exact hret _ _ _ _ dX11_about_145 rfl (by omega) ⟨rfl, by first | assumption | omega⟩
    · refine ⟨145, 146, by rw [hc4]; rfl, by decide, ?_⟩
      refine j_aload_n hX dX11_about_146 rfl 0 rfl ?_
      refine gf_X11_276 hX (by omega) (by omega) kc_210 dX11_about_147 ?_
      refine j_top hk_tp ?_
      exact hret _ _ _ _ dX11_about_150 rfl (by omega) ⟨rfl, by first | assumption | omega⟩
    · refine ⟨150, 151, by rw [hc4]; rfl, by decide, ?_⟩
      refine j_aload_n hX dX11_about_151 rfl 0 rfl ?_
      refine gf_X11_30 hX (by omega) (by omega) kc_210 (fc_210_14 hI) (by decide) dX11_about_152 ?_
      refine j_aload_n hX dX11_about_155 rfl 0 rfl ?_
      refine gf_X11_279 hX (by omega) (by omega) kc_210 dX11_about_156 ?_
      refine j_top hbk ?_
      refine j_iald hX (by omega) (by omega) kc_216 (by omega) (by omega) (by omega) dX11_about_159 ?_
      refine j_top hk_ut ?_
      exact hret _ _ _ _ dX11_about_160 rfl (by omega) ⟨rfl, by first | assumption | omega⟩
    · refine ⟨160, 161, by rw [hc4]; rfl, by decide, ?_⟩
      refine j_aload_n hX dX11_about_161 rfl 0 rfl ?_
      refine gf_X11_404 hX (by omega) (by omega) kc_210 dX11_about_162 ?_
      refine j_top hk_ld ?_
      exact hret _ _ _ _ dX11_about_165 rfl (by omega) ⟨rfl, by first | assumption | omega⟩
