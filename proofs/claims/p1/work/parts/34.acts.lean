theorem dX0_now_0 : decode cX0_now 0 = .ok (.aload_n 0, 1) := by decide +kernel
theorem dX0_now_1 : decode cX0_now 1 = .ok (.getfield 11, 3) := by decide +kernel
theorem dX0_now_4 : decode cX0_now 4 = .ok (.aload_n 0, 1) := by decide +kernel
theorem dX0_now_5 : decode cX0_now 5 = .ok (.getfield 17, 3) := by decide +kernel
theorem dX0_now_8 : decode cX0_now 8 = .ok (.aaload, 1) := by decide +kernel
theorem dX0_now_9 : decode cX0_now 9 = .ok (.areturn, 1) := by decide +kernel
theorem dX0_takeBack_0 : decode cX0_takeBack 0 = .ok (.aload_n 0, 1) := by decide +kernel
theorem dX0_takeBack_1 : decode cX0_takeBack 1 = .ok (.getfield 17, 3) := by decide +kernel
theorem dX0_takeBack_4 : decode cX0_takeBack 4 = .ok (.ifCond .gt 5, 3) := by decide +kernel
theorem dX0_takeBack_7 : decode cX0_takeBack 7 = .ok (.iconst 0, 1) := by decide +kernel
theorem dX0_takeBack_8 : decode cX0_takeBack 8 = .ok (.ireturn, 1) := by decide +kernel
theorem dX0_takeBack_9 : decode cX0_takeBack 9 = .ok (.aload_n 0, 1) := by decide +kernel
theorem dX0_takeBack_10 : decode cX0_takeBack 10 = .ok (.dup, 1) := by decide +kernel
theorem dX0_takeBack_11 : decode cX0_takeBack 11 = .ok (.getfield 17, 3) := by decide +kernel
theorem dX0_takeBack_14 : decode cX0_takeBack 14 = .ok (.iconst 1, 1) := by decide +kernel
theorem dX0_takeBack_15 : decode cX0_takeBack 15 = .ok (.isub, 1) := by decide +kernel
theorem dX0_takeBack_16 : decode cX0_takeBack 16 = .ok (.putfield 17, 3) := by decide +kernel
theorem dX0_takeBack_19 : decode cX0_takeBack 19 = .ok (.iconst 1, 1) := by decide +kernel
theorem dX0_takeBack_20 : decode cX0_takeBack 20 = .ok (.ireturn, 1) := by decide +kernel
theorem dX0_doAgain_0 : decode cX0_doAgain 0 = .ok (.aload_n 0, 1) := by decide +kernel
theorem dX0_doAgain_1 : decode cX0_doAgain 1 = .ok (.getfield 17, 3) := by decide +kernel
theorem dX0_doAgain_4 : decode cX0_doAgain 4 = .ok (.aload_n 0, 1) := by decide +kernel
theorem dX0_doAgain_5 : decode cX0_doAgain 5 = .ok (.getfield 21, 3) := by decide +kernel
theorem dX0_doAgain_8 : decode cX0_doAgain 8 = .ok (.if_icmp .lt 5, 3) := by decide +kernel
theorem dX0_doAgain_11 : decode cX0_doAgain 11 = .ok (.iconst 0, 1) := by decide +kernel
theorem dX0_doAgain_12 : decode cX0_doAgain 12 = .ok (.ireturn, 1) := by decide +kernel
theorem dX0_doAgain_13 : decode cX0_doAgain 13 = .ok (.aload_n 0, 1) := by decide +kernel
theorem dX0_doAgain_14 : decode cX0_doAgain 14 = .ok (.dup, 1) := by decide +kernel
theorem dX0_doAgain_15 : decode cX0_doAgain 15 = .ok (.getfield 17, 3) := by decide +kernel
theorem dX0_doAgain_18 : decode cX0_doAgain 18 = .ok (.iconst 1, 1) := by decide +kernel
theorem dX0_doAgain_19 : decode cX0_doAgain 19 = .ok (.iadd, 1) := by decide +kernel
theorem dX0_doAgain_20 : decode cX0_doAgain 20 = .ok (.putfield 17, 3) := by decide +kernel
theorem dX0_doAgain_23 : decode cX0_doAgain 23 = .ok (.iconst 1, 1) := by decide +kernel
theorem dX0_doAgain_24 : decode cX0_doAgain 24 = .ok (.ireturn, 1) := by decide +kernel
theorem dX0_restart_0 : decode cX0_restart 0 = .ok (.aload_n 0, 1) := by decide +kernel
theorem dX0_restart_1 : decode cX0_restart 1 = .ok (.iconst 0, 1) := by decide +kernel
theorem dX0_restart_2 : decode cX0_restart 2 = .ok (.putfield 17, 3) := by decide +kernel
theorem dX0_restart_5 : decode cX0_restart 5 = .ok (.aload_n 0, 1) := by decide +kernel
theorem dX0_restart_6 : decode cX0_restart 6 = .ok (.iconst 0, 1) := by decide +kernel
theorem dX0_restart_7 : decode cX0_restart 7 = .ok (.putfield 21, 3) := by decide +kernel
theorem dX0_restart_10 : decode cX0_restart 10 = .ok (.aload_n 0, 1) := by decide +kernel
theorem dX0_restart_11 : decode cX0_restart 11 = .ok (.getfield 11, 3) := by decide +kernel
theorem dX0_restart_14 : decode cX0_restart 14 = .ok (.iconst 0, 1) := by decide +kernel
theorem dX0_restart_15 : decode cX0_restart 15 = .ok (.aaload, 1) := by decide +kernel
theorem dX0_restart_16 : decode cX0_restart 16 = .ok (.aload_n 1, 1) := by decide +kernel
theorem dX0_restart_17 : decode cX0_restart 17 = .ok (.invokevirtual 25, 3) := by decide +kernel
theorem dX0_restart_20 : decode cX0_restart 20 = .ok (.return_, 1) := by decide +kernel
theorem dX0_restartFrom_0 : decode cX0_restartFrom 0 = .ok (.aload_n 0, 1) := by decide +kernel
theorem dX0_restartFrom_1 : decode cX0_restartFrom 1 = .ok (.iconst 0, 1) := by decide +kernel
theorem dX0_restartFrom_2 : decode cX0_restartFrom 2 = .ok (.putfield 17, 3) := by decide +kernel
theorem dX0_restartFrom_5 : decode cX0_restartFrom 5 = .ok (.aload_n 0, 1) := by decide +kernel
theorem dX0_restartFrom_6 : decode cX0_restartFrom 6 = .ok (.iconst 0, 1) := by decide +kernel
theorem dX0_restartFrom_7 : decode cX0_restartFrom 7 = .ok (.putfield 21, 3) := by decide +kernel
theorem dX0_restartFrom_10 : decode cX0_restartFrom 10 = .ok (.aload_n 0, 1) := by decide +kernel
theorem dX0_restartFrom_11 : decode cX0_restartFrom 11 = .ok (.getfield 11, 3) := by decide +kernel
theorem dX0_restartFrom_14 : decode cX0_restartFrom 14 = .ok (.iconst 0, 1) := by decide +kernel
theorem dX0_restartFrom_15 : decode cX0_restartFrom 15 = .ok (.aaload, 1) := by decide +kernel
theorem dX0_restartFrom_16 : decode cX0_restartFrom 16 = .ok (.aload_n 1, 1) := by decide +kernel
theorem dX0_restartFrom_17 : decode cX0_restartFrom 17 = .ok (.invokevirtual 29, 3) := by decide +kernel
theorem dX0_restartFrom_20 : decode cX0_restartFrom 20 = .ok (.return_, 1) := by decide +kernel
theorem dX0_forgetOldest_0 : decode cX0_forgetOldest 0 = .ok (.aload_n 0, 1) := by decide +kernel
theorem dX0_forgetOldest_1 : decode cX0_forgetOldest 1 = .ok (.getfield 11, 3) := by decide +kernel
theorem dX0_forgetOldest_4 : decode cX0_forgetOldest 4 = .ok (.iconst 0, 1) := by decide +kernel
theorem dX0_forgetOldest_5 : decode cX0_forgetOldest 5 = .ok (.aaload, 1) := by decide +kernel
theorem dX0_forgetOldest_6 : decode cX0_forgetOldest 6 = .ok (.astore_n 1, 1) := by decide +kernel
theorem dX0_forgetOldest_7 : decode cX0_forgetOldest 7 = .ok (.iconst 0, 1) := by decide +kernel
theorem dX0_forgetOldest_8 : decode cX0_forgetOldest 8 = .ok (.istore_n 2, 1) := by decide +kernel
theorem dX0_forgetOldest_9 : decode cX0_forgetOldest 9 = .ok (.iload_n 2, 1) := by decide +kernel
theorem dX0_forgetOldest_10 : decode cX0_forgetOldest 10 = .ok (.bipush 40, 2) := by decide +kernel
theorem dX0_forgetOldest_12 : decode cX0_forgetOldest 12 = .ok (.if_icmp .ge 23, 3) := by decide +kernel
theorem dX0_forgetOldest_15 : decode cX0_forgetOldest 15 = .ok (.aload_n 0, 1) := by decide +kernel
theorem dX0_forgetOldest_16 : decode cX0_forgetOldest 16 = .ok (.getfield 11, 3) := by decide +kernel
theorem dX0_forgetOldest_19 : decode cX0_forgetOldest 19 = .ok (.iload_n 2, 1) := by decide +kernel
theorem dX0_forgetOldest_20 : decode cX0_forgetOldest 20 = .ok (.aload_n 0, 1) := by decide +kernel
theorem dX0_forgetOldest_21 : decode cX0_forgetOldest 21 = .ok (.getfield 11, 3) := by decide +kernel
theorem dX0_forgetOldest_24 : decode cX0_forgetOldest 24 = .ok (.iload_n 2, 1) := by decide +kernel
theorem dX0_forgetOldest_25 : decode cX0_forgetOldest 25 = .ok (.iconst 1, 1) := by decide +kernel
theorem dX0_forgetOldest_26 : decode cX0_forgetOldest 26 = .ok (.iadd, 1) := by decide +kernel
theorem dX0_forgetOldest_27 : decode cX0_forgetOldest 27 = .ok (.aaload, 1) := by decide +kernel
theorem dX0_forgetOldest_28 : decode cX0_forgetOldest 28 = .ok (.aastore, 1) := by decide +kernel
theorem dX0_forgetOldest_29 : decode cX0_forgetOldest 29 = .ok (.iinc 2 1, 3) := by decide +kernel
theorem dX0_forgetOldest_32 : decode cX0_forgetOldest 32 = .ok (.goto (-23), 3) := by decide +kernel
theorem dX0_forgetOldest_35 : decode cX0_forgetOldest 35 = .ok (.aload_n 0, 1) := by decide +kernel
theorem dX0_forgetOldest_36 : decode cX0_forgetOldest 36 = .ok (.getfield 11, 3) := by decide +kernel
theorem dX0_forgetOldest_39 : decode cX0_forgetOldest 39 = .ok (.bipush 40, 2) := by decide +kernel
theorem dX0_forgetOldest_41 : decode cX0_forgetOldest 41 = .ok (.aload_n 1, 1) := by decide +kernel
theorem dX0_forgetOldest_42 : decode cX0_forgetOldest 42 = .ok (.aastore, 1) := by decide +kernel
theorem dX0_forgetOldest_43 : decode cX0_forgetOldest 43 = .ok (.return_, 1) := by decide +kernel
set_option maxHeartbeats 2000000 in
set_option maxRecDepth 20000 in
theorem c_X0_now (l : Launch) (D : va_G) (cy : Nat → ClassId) (B N : Nat) (M : MM) (hN : 210 ≤ N) (hI : Iv M) : CR l D cy B N 1 yX0_now cX0_now 1 (some (.object "OtherPanes$Scene")) [rv B 26] M (fun z M' => M' = M ∧ (Sc z) ∧ (z = M.1 27 (M.1 26 1))) := by
  refine mk_CR (by decide) (Nat.le_of_ble_eq_true rfl) (by first | exact Or.inl ⟨_, rfl⟩ | exact Or.inr ⟨_, rfl⟩) ?_
  intro X exl exD excy hnL hX hret
  have hce : 0 + 0 ≤ (xR X).cells ∧ 0 + 0 ≤ (xR X).slots := ⟨Nat.zero_le _, Nat.zero_le _⟩
  show J X B N 0 0 0 [(0, rv B 26)] [] M
  refine j_aload_n hX dX0_now_0 rfl 0 rfl ?_
  refine gf_X0_11 hX (by omega) (by omega) kc_26 (fc_26_0 hI) (by decide) dX0_now_1 ?_
  refine j_aload_n hX dX0_now_4 rfl 0 rfl ?_
  refine gf_X0_17 hX (by omega) (by omega) kc_26 dX0_now_5 ?_
  refine j_name hI ro_26_1 (fun v1 hv2 hl3 hh4 => ?_)
  have hk5 := hv2.symm
  refine j_aald4n hX (by omega) (by omega) kc_27 (by omega) (by omega) (by decide) (hI.2 _) dX0_now_8 (fun sv6 hz7 hsv6 => ?_)
  have hbsv6 := sc_b hsv6
  have hdsv6 : 28 ≤ sv6 ∧ sv6 ≤ 207 := by omega
  have hrsv6 := sc_27 hI hz7
  exact hret _ _ _ _ dX0_now_9 (by omega) ⟨rfl, by assumption, by subst_vars; rfl⟩
set_option maxHeartbeats 2000000 in
set_option maxRecDepth 20000 in
theorem c_X0_takeBack (l : Launch) (D : va_G) (cy : Nat → ClassId) (B N : Nat) (M : MM) (hN : 210 ≤ N) (hI : Iv M) (h1 : M.1 26 1 ≤ M.1 26 2) : CI l D cy B N 1 yX0_takeBack cX0_takeBack 1 (some .boolean) [rv B 26] M (fun z M' => Iv M' ∧ Fr (fun a b => (a = 26 ∧ 1 ≤ b ∧ b ≤ 1)) M M' ∧ (0 ≤ z ∧ z ≤ 1) ∧ (M'.1 26 1 ≤ M'.1 26 2)) := by
  refine mk_CI (by decide) (Nat.le_of_ble_eq_true rfl) ?_
  intro X exl exD excy hnL hX hret
  have hce : 0 + 0 ≤ (xR X).cells ∧ 0 + 0 ≤ (xR X).slots := ⟨Nat.zero_le _, Nat.zero_le _⟩
  have hF : Fr (fun a b => (a = 26 ∧ 1 ≤ b ∧ b ≤ 1)) M M := Fr.rf
  have hk1 : M.1 26 2 = M.1 26 2 := rfl
  have hk2 : M.1 26 1 = M.1 26 1 := rfl
  show J X B N 0 0 0 [(0, rv B 26)] [] M
  refine j_aload_n hX dX0_takeBack_0 rfl 0 rfl ?_
  refine gf_X0_17 hX (by omega) (by omega) kc_26 dX0_takeBack_1 ?_
  refine j_name hI ro_26_1 (fun v3 hv4 hl5 hh6 => ?_)
  have hk7 := hv4.symm
  refine j_if_gt (tgt := 9) hX dX0_takeBack_4 (by decide) (by omega) (fun hc8 => ?_) (fun hc8 => ?_)
  · skip
    refine j_aload_n hX dX0_takeBack_9 rfl 0 rfl ?_
    refine j_dup hX dX0_takeBack_10 rfl ?_
    refine gf_X0_17 hX (by omega) (by omega) kc_26 dX0_takeBack_11 ?_
    refine j_top hk7 ?_
    refine j_iconst hX dX0_takeBack_14 ?_
    refine j_isub hX dX0_takeBack_15 ?_
    refine pf_X0_17 hX (by omega) (by omega) kc_26 (by omega) dX0_takeBack_16 ?_
    refine j_up hI ro_26_1 (by omega) (by omega) (Or.inl (by omega)) (fun M9 w10 hw11 hM12 hI13 hf14 => ?_)
    have hk15 := kp_up hM12 (fun h => absurd h.2 (by decide)) hk1
    clear hk1 hk7
    have hF16 := Fr.put hF hM12 (by omega)
    refine j_iconst hX dX0_takeBack_19 ?_
    exact hret _ _ _ _ dX0_takeBack_20 (nb (by omega)) (by omega) ⟨hI13, hF16, by omega, by first | assumption | omega⟩
  · skip
    refine j_iconst hX dX0_takeBack_7 ?_
    exact hret _ _ _ _ dX0_takeBack_8 (nb (by omega)) (by omega) ⟨hI, hF, by omega, by first | assumption | omega⟩
set_option maxHeartbeats 2000000 in
set_option maxRecDepth 20000 in
theorem c_X0_doAgain (l : Launch) (D : va_G) (cy : Nat → ClassId) (B N : Nat) (M : MM) (hN : 210 ≤ N) (hI : Iv M) (h1 : M.1 26 1 ≤ M.1 26 2) : CI l D cy B N 1 yX0_doAgain cX0_doAgain 1 (some .boolean) [rv B 26] M (fun z M' => Iv M' ∧ Fr (fun a b => (a = 26 ∧ 1 ≤ b ∧ b ≤ 1)) M M' ∧ (0 ≤ z ∧ z ≤ 1) ∧ (M'.1 26 1 ≤ M'.1 26 2)) := by
  refine mk_CI (by decide) (Nat.le_of_ble_eq_true rfl) ?_
  intro X exl exD excy hnL hX hret
  have hce : 0 + 0 ≤ (xR X).cells ∧ 0 + 0 ≤ (xR X).slots := ⟨Nat.zero_le _, Nat.zero_le _⟩
  have hF : Fr (fun a b => (a = 26 ∧ 1 ≤ b ∧ b ≤ 1)) M M := Fr.rf
  have hk1 : M.1 26 2 = M.1 26 2 := rfl
  have hk2 : M.1 26 1 = M.1 26 1 := rfl
  show J X B N 0 0 0 [(0, rv B 26)] [] M
  refine j_aload_n hX dX0_doAgain_0 rfl 0 rfl ?_
  refine gf_X0_17 hX (by omega) (by omega) kc_26 dX0_doAgain_1 ?_
  refine j_name hI ro_26_1 (fun v3 hv4 hl5 hh6 => ?_)
  have hk7 := hv4.symm
  refine j_aload_n hX dX0_doAgain_4 rfl 0 rfl ?_
  refine gf_X0_21 hX (by omega) (by omega) kc_26 dX0_doAgain_5 ?_
  refine j_name hI ro_26_2 (fun v8 hv9 hl10 hh11 => ?_)
  have hk12 := hv9.symm
  refine j_icmp_lt (tgt := 13) hX dX0_doAgain_8 (by decide) (by omega) (by omega) (fun hc13 => ?_) (fun hc13 => ?_)
  · skip
    refine j_aload_n hX dX0_doAgain_13 rfl 0 rfl ?_
    refine j_dup hX dX0_doAgain_14 rfl ?_
    refine gf_X0_17 hX (by omega) (by omega) kc_26 dX0_doAgain_15 ?_
    refine j_top hk7 ?_
    refine j_iconst hX dX0_doAgain_18 ?_
    refine j_iadd hX dX0_doAgain_19 ?_
    refine pf_X0_17 hX (by omega) (by omega) kc_26 (by omega) dX0_doAgain_20 ?_
    refine j_up hI ro_26_1 (by omega) (by omega) (Or.inl (by omega)) (fun M14 w15 hw16 hM17 hI18 hf19 => ?_)
    have hk20 := kp_up hM17 (fun h => absurd h.2 (by decide)) hk12
    clear hk12 hk7
    have hF21 := Fr.put hF hM17 (by omega)
    refine j_iconst hX dX0_doAgain_23 ?_
    exact hret _ _ _ _ dX0_doAgain_24 (nb (by omega)) (by omega) ⟨hI18, hF21, by omega, by first | assumption | omega⟩
  · skip
    refine j_iconst hX dX0_doAgain_11 ?_
    exact hret _ _ _ _ dX0_doAgain_12 (nb (by omega)) (by omega) ⟨hI, hF, by omega, by first | assumption | omega⟩
set_option maxHeartbeats 2000000 in
set_option maxRecDepth 20000 in
theorem c_X0_restart (l : Launch) (D : va_G) (cy : Nat → ClassId) (B N : Nat) (q : Int) (nr : Int) (M : MM) (hN : 210 ≤ N) (hI : Iv M) (hq : q = 5 ∨ q = 180) (hnr : M.1 q 0 = nr) (hVQ : VQ nr q M) (hnb : 0 ≤ nr ∧ nr ≤ 6) : CV l D cy B N 3 yX0_restart cX0_restart 2 none [rv B 26, rv B q] M (fun M' => Iv M' ∧ Fr (fun a b => (a = 26 ∧ 1 ≤ b ∧ b ≤ 2) ∨ (28 ≤ a ∧ a ≤ 150)) M M' ∧ (M'.1 26 1 = 0 ∧ M'.1 26 2 = 0) ∧ (V nr (M'.1 27 0) M')) := by
  refine mk_CV (by decide) (Nat.le_of_ble_eq_true rfl) ?_
  intro X exl exD excy hnL hX hret
  have hce : 0 + 0 ≤ (xR X).cells ∧ 0 + 0 ≤ (xR X).slots := ⟨Nat.zero_le _, Nat.zero_le _⟩
  have hdq : 5 ≤ q ∧ q ≤ 180 := by omega
  have hF : Fr (fun a b => (a = 26 ∧ 1 ≤ b ∧ b ≤ 2) ∨ (28 ≤ a ∧ a ≤ 150)) M M := Fr.rf
  show J X B N 0 0 0 [(0, rv B 26), (1, rv B q)] [] M
  refine j_aload_n hX dX0_restart_0 rfl 0 rfl ?_
  refine j_iconst hX dX0_restart_1 ?_
  refine pf_X0_17 hX (by omega) (by omega) kc_26 (by omega) dX0_restart_2 ?_
  refine j_up hI ro_26_1 (by omega) (by omega) (Or.inl (by omega)) (fun M1 w2 hw3 hM4 hI5 hf6 => ?_)
  have hV7 := VQ_up hVQ hM4 (by omega)
  have hk8 := kp_up hM4 (by omega) hnr
  have hF9 := Fr.put hF hM4 (by omega)
  refine j_aload_n hX dX0_restart_5 rfl 0 rfl ?_
  refine j_iconst hX dX0_restart_6 ?_
  refine pf_X0_21 hX (by omega) (by omega) kc_26 (by omega) dX0_restart_7 ?_
  refine j_up hI5 ro_26_2 (by omega) (by omega) (Or.inl (by omega)) (fun M10 w11 hw12 hM13 hI14 hf15 => ?_)
  have hV16 := VQ_up hV7 hM13 (by omega)
  have hk17 := kp_up hM13 (by omega) hk8
  have hk18 := kp_up hM13 (fun h => absurd h.2 (by decide)) hf6
  clear hk8 hf6
  have hF19 := Fr.put hF9 hM13 (by omega)
  refine j_aload_n hX dX0_restart_10 rfl 0 rfl ?_
  refine gf_X0_11 hX (by omega) (by omega) kc_26 (fc_26_0 hI14) (by decide) dX0_restart_11 ?_
  refine j_iconst hX dX0_restart_14 ?_
  refine j_aald4n hX (by omega) (by omega) kc_27 (by omega) (by omega) (by decide) (hI14.2 _) dX0_restart_15 (fun so eso hso => ?_)
  have hbso := sc_b hso
  have hdso : 28 ≤ so ∧ so ≤ 207 := by omega
  have hrso := sc_27 hI14 eso
  refine j_aload_n hX dX0_restart_16 rfl 1 rfl ?_
  refine j_callVV hX lk_X0_25 (c_X8_start _ _ _ _ _ so q _ _ (by omega) hI14 hso hq hk17 (by first | assumption | omega) (by first | assumption | omega)) (by omega) hce rfl rfl (by omega) (by omega) (sc_k0 hso) rfl rfl (Nat.le_of_ble_eq_true rfl) dX0_restart_17 (fun M21 hp22 => ?_)
  obtain ⟨hI24, hG25, hq26⟩ := hp22
  have hV27 := VQ_fr hV16 hG25 (fun b => by omega)
  have hk28 := kp_fr hG25 (by omega) hk17
  have hk29 := kp_fr hG25 (by omega) hk18
  have hk30 := kp_fr hG25 (by omega) hf15
  clear hk17 hk18 hf15
  have hF31 := Fr.trans hF19 hG25 (fun a b h => by omega)
  have h27 : M21.1 27 0 = so := by rw [hG25 _ _ (by omega)]; exact eso.symm
  exact hret _ _ _ dX0_restart_20 ⟨hI24, hF31, by first | assumption | omega, by rw [h27]; assumption⟩
set_option maxHeartbeats 2000000 in
set_option maxRecDepth 20000 in
theorem c_X0_restartFrom (l : Launch) (D : va_G) (cy : Nat → ClassId) (B N : Nat) (s2 : Int) (nr : Int) (M : MM) (hN : 210 ≤ N) (hI : Iv M) (hs2 : Sc s2) (hV : V nr s2 M) : CV l D cy B N 2 yX0_restartFrom cX0_restartFrom 2 none [rv B 26, rv B s2] M (fun M' => Iv M' ∧ Fr (fun a b => (a = 26 ∧ 1 ≤ b ∧ b ≤ 2) ∨ (28 ≤ a ∧ a ≤ 150)) M M' ∧ (M'.1 26 1 = 0 ∧ M'.1 26 2 = 0) ∧ (V nr (M'.1 27 0) M')) := by
  refine mk_CV (by decide) (Nat.le_of_ble_eq_true rfl) ?_
  intro X exl exD excy hnL hX hret
  have hce : 0 + 0 ≤ (xR X).cells ∧ 0 + 0 ≤ (xR X).slots := ⟨Nat.zero_le _, Nat.zero_le _⟩
  have hbs2 := sc_b hs2
  have hds2 : 28 ≤ s2 ∧ s2 ≤ 207 := by omega
  have hF : Fr (fun a b => (a = 26 ∧ 1 ≤ b ∧ b ≤ 2) ∨ (28 ≤ a ∧ a ≤ 150)) M M := Fr.rf
  show J X B N 0 0 0 [(0, rv B 26), (1, rv B s2)] [] M
  refine j_aload_n hX dX0_restartFrom_0 rfl 0 rfl ?_
  refine j_iconst hX dX0_restartFrom_1 ?_
  refine pf_X0_17 hX (by omega) (by omega) kc_26 (by omega) dX0_restartFrom_2 ?_
  refine j_up hI ro_26_1 (by omega) (by omega) (Or.inl (by omega)) (fun M1 w2 hw3 hM4 hI5 hf6 => ?_)
  have hV7 := V_up hV hM4 (by omega) (by omega)
  have hF8 := Fr.put hF hM4 (by omega)
  refine j_aload_n hX dX0_restartFrom_5 rfl 0 rfl ?_
  refine j_iconst hX dX0_restartFrom_6 ?_
  refine pf_X0_21 hX (by omega) (by omega) kc_26 (by omega) dX0_restartFrom_7 ?_
  refine j_up hI5 ro_26_2 (by omega) (by omega) (Or.inl (by omega)) (fun M9 w10 hw11 hM12 hI13 hf14 => ?_)
  have hV15 := V_up hV7 hM12 (by omega) (by omega)
  have hk16 := kp_up hM12 (fun h => absurd h.2 (by decide)) hf6
  clear hf6
  have hF17 := Fr.put hF8 hM12 (by omega)
  refine j_aload_n hX dX0_restartFrom_10 rfl 0 rfl ?_
  refine gf_X0_11 hX (by omega) (by omega) kc_26 (fc_26_0 hI13) (by decide) dX0_restartFrom_11 ?_
  refine j_iconst hX dX0_restartFrom_14 ?_
  refine j_aald4n hX (by omega) (by omega) kc_27 (by omega) (by omega) (by decide) (hI13.2 _) dX0_restartFrom_15 (fun so eso hso => ?_)
  have hbso := sc_b hso
  have hdso : 28 ≤ so ∧ so ≤ 207 := by omega
  have hrso := sc_27 hI13 eso
  refine j_aload_n hX dX0_restartFrom_16 rfl 1 rfl ?_
  refine j_callVV hX lk_X0_29 (c_X8_copyFrom _ _ _ _ _ so s2 _ _ (by omega) hI13 hso hs2 (by first | assumption | omega)) (by omega) hce rfl rfl (by omega) (by omega) (sc_k0 hso) rfl rfl (Nat.le_of_ble_eq_true rfl) dX0_restartFrom_17 (fun M19 hp20 => ?_)
  obtain ⟨hI22, hG23, hq24⟩ := hp20
  have hk26 := kp_fr hG23 (by omega) hk16
  have hk27 := kp_fr hG23 (by omega) hf14
  clear hk16 hf14
  have hF28 := Fr.trans hF17 hG23 (fun a b h => by omega)
  have h27 : M19.1 27 0 = so := by rw [hG23 _ _ (by omega)]; exact eso.symm
  exact hret _ _ _ dX0_restartFrom_20 ⟨hI22, hF28, by first | assumption | omega, by rw [h27]; assumption⟩
set_option maxHeartbeats 2000000 in
set_option maxRecDepth 20000 in
theorem c_X0_forgetOldest (l : Launch) (D : va_G) (cy : Nat → ClassId) (B N : Nat) (M : MM) (hN : 210 ≤ N) (hI : Iv M) : CV l D cy B N 1 yX0_forgetOldest cX0_forgetOldest 3 none [rv B 26] M (fun M' => Iv M' ∧ Fr (fun a (_ : Int) => (a = 27)) M M' ∧ ((∀ i, 0 ≤ i → i < 40 → M'.1 27 i = M.1 27 (i + 1)) ∧ M'.1 27 40 = M.1 27 0)) := by
  refine mk_CV (by decide) (Nat.le_of_ble_eq_true rfl) ?_
  intro X exl exD excy hnL hX hret
  have hce : 0 + 0 ≤ (xR X).cells ∧ 0 + 0 ≤ (xR X).slots := ⟨Nat.zero_le _, Nat.zero_le _⟩
  have hF : Fr (fun a (_ : Int) => (a = 27)) M M := Fr.rf
  have cp : ∀ n : Nat, (∀ (x2 : Int), ∀ (so : Int), ∀ (Mc : MM), I32 x2 → Sc so → Iv Mc → Fr (fun a (_ : Int) => (a = 27)) M Mc → (0 ≤ x2 ∧ x2 ≤ 40 ∧ so = M.1 27 0 ∧ so ≤ 148) → (FO x2 M Mc) → 0 ≤ 32 * (40 - x2) + 1 → 32 * (40 - x2) + 1 < (n : Int) → J X B N 0 0 9 [(0, rv B 26), (1, rv B so), (2, iv x2)] [] Mc) := by
    intro n
    induction n with
    | zero => exact by intros; exfalso; omega
    | succ n ih =>
      · intro x2 so Mc hxx2 hso hI hF h2 h3 hm0 hm1
        have hbso := sc_b hso
        refine j_iload_n hX dX0_forgetOldest_9 rfl 2 rfl ?_
        refine j_bipush hX dX0_forgetOldest_10 rfl ?_
        refine j_icmp_ge (tgt := 35) hX dX0_forgetOldest_12 (by decide) (by omega) (by omega) (fun hc1 => ?_) (fun hc1 => ?_)
        · skip
          refine j_aload_n hX dX0_forgetOldest_35 rfl 0 rfl ?_
          refine gf_X0_11 hX (by omega) (by omega) kc_26 (fc_26_0 hI) (by decide) dX0_forgetOldest_36 ?_
          refine j_bipush hX dX0_forgetOldest_39 rfl ?_
          refine j_aload_n hX dX0_forgetOldest_41 rfl 1 rfl ?_
          refine j_aast4 hX (by omega) (by omega) kc_27 (by omega) (by omega) (by omega) (by omega) (by omega) (by omega) (sc_k0 hso) dX0_forgetOldest_42 ?_
          refine j_up hI (ra_27 _) (by omega) (by omega) (Or.inr hso) (fun M2 w3 hw4 hM5 hI6 hf7 => ?_)
          have hF8 := Fr.put hF hM5 (by omega)
          have h40 : x2 = 40 := by omega
          have hE := FO_end (h40 ▸ h3) hM5 (by omega)
          exact hret _ _ _ dX0_forgetOldest_43 ⟨hI6, hF8, hE⟩
        · skip
          refine j_aload_n hX dX0_forgetOldest_15 rfl 0 rfl ?_
          refine gf_X0_11 hX (by omega) (by omega) kc_26 (fc_26_0 hI) (by decide) dX0_forgetOldest_16 ?_
          refine j_iload_n hX dX0_forgetOldest_19 rfl 2 rfl ?_
          refine j_aload_n hX dX0_forgetOldest_20 rfl 0 rfl ?_
          refine gf_X0_11 hX (by omega) (by omega) kc_26 (fc_26_0 hI) (by decide) dX0_forgetOldest_21 ?_
          refine j_iload_n hX dX0_forgetOldest_24 rfl 2 rfl ?_
          refine j_iconst hX dX0_forgetOldest_25 ?_
          refine j_iadd hX dX0_forgetOldest_26 ?_
          refine j_aald4n hX (by omega) (by omega) kc_27 (by omega) (by omega) (by decide) (hI.2 _) dX0_forgetOldest_27 (fun sb esb hsb => ?_)
          have hbsb := sc_b hsb
          have hdsb : 28 ≤ sb ∧ sb ≤ 207 := by omega
          have hrsb := sc_27 hI esb
          refine j_aast4 hX (by omega) (by omega) kc_27 (by omega) (by omega) (by omega) (by omega) (by omega) (by omega) (sc_k0 hsb) dX0_forgetOldest_28 ?_
          refine j_up hI (ra_27 _) (by omega) (by omega) (Or.inr hsb) (fun M9 w10 hw11 hM12 hI13 hf14 => ?_)
          have hF15 := Fr.put hF hM12 (by omega)
          have hP := FO_put h3 (by omega) hM12 (by omega)
          refine j_iinc (lv' := [(2, _), (0, _), (1, _)]) hX dX0_forgetOldest_29 2 rfl (by rw [hnL]; decide) rfl ?_
          refine j_goto (tgt := 9) hX dX0_forgetOldest_32 (by decide) ?_
          refine j_sub [1, 2, 0] rfl ?_
          exact ih _ _ _ (by omega) (by assumption) hI13 hF15 (by first | assumption | omega) (by first | exact FO_0 | assumption) (by omega) (by omega)
  show J X B N 0 0 0 [(0, rv B 26)] [] M
  refine j_aload_n hX dX0_forgetOldest_0 rfl 0 rfl ?_
  refine gf_X0_11 hX (by omega) (by omega) kc_26 (fc_26_0 hI) (by decide) dX0_forgetOldest_1 ?_
  refine j_iconst hX dX0_forgetOldest_4 ?_
  refine j_aald4n hX (by omega) (by omega) kc_27 (by omega) (by omega) (by decide) (hI.2 _) dX0_forgetOldest_5 (fun so hz16 hso => ?_)
  have hbso := sc_b hso
  have hdso : 28 ≤ so ∧ so ≤ 207 := by omega
  have hrso := sc_27 hI hz16
  refine j_astore_n (lv' := [(1, _), (0, _)]) hX dX0_forgetOldest_6 rfl (by rw [hnL]; decide) rfl ?_
  refine j_iconst hX dX0_forgetOldest_7 ?_
  refine j_istore_n (lv' := [(2, _), (1, _), (0, _)]) hX dX0_forgetOldest_8 rfl (by rw [hnL]; decide) rfl ?_
  refine j_sub [2, 1, 0] rfl ?_
  refine (cp (Int.toNat (1344 + 1))) _ _ _ (by omega) (by assumption) hI hF (by first | assumption | omega) (by first | exact FO_0 | assumption) ?_ ?_
  · omega
  · omega
