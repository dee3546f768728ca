theorem dX0_step_0 : decode cX0_step 0 = .ok (.aload_n 0, 1) := by decide +kernel
theorem dX0_step_1 : decode cX0_step 1 = .ok (.getfield 11, 3) := by decide +kernel
theorem dX0_step_4 : decode cX0_step 4 = .ok (.aload_n 0, 1) := by decide +kernel
theorem dX0_step_5 : decode cX0_step 5 = .ok (.getfield 17, 3) := by decide +kernel
theorem dX0_step_8 : decode cX0_step 8 = .ok (.aaload, 1) := by decide +kernel
theorem dX0_step_9 : decode cX0_step 9 = .ok (.astore_n 1, 1) := by decide +kernel
theorem dX0_step_10 : decode cX0_step 10 = .ok (.aload_n 0, 1) := by decide +kernel
theorem dX0_step_11 : decode cX0_step 11 = .ok (.getfield 17, 3) := by decide +kernel
theorem dX0_step_14 : decode cX0_step 14 = .ok (.bipush 40, 2) := by decide +kernel
theorem dX0_step_16 : decode cX0_step 16 = .ok (.if_icmp .lt 10, 3) := by decide +kernel
theorem dX0_step_19 : decode cX0_step 19 = .ok (.aload_n 0, 1) := by decide +kernel
theorem dX0_step_20 : decode cX0_step 20 = .ok (.invokevirtual 33, 3) := by decide +kernel
theorem dX0_step_23 : decode cX0_step 23 = .ok (.goto 13, 3) := by decide +kernel
theorem dX0_step_26 : decode cX0_step 26 = .ok (.aload_n 0, 1) := by decide +kernel
theorem dX0_step_27 : decode cX0_step 27 = .ok (.dup, 1) := by decide +kernel
theorem dX0_step_28 : decode cX0_step 28 = .ok (.getfield 17, 3) := by decide +kernel
theorem dX0_step_31 : decode cX0_step 31 = .ok (.iconst 1, 1) := by decide +kernel
theorem dX0_step_32 : decode cX0_step 32 = .ok (.iadd, 1) := by decide +kernel
theorem dX0_step_33 : decode cX0_step 33 = .ok (.putfield 17, 3) := by decide +kernel
theorem dX0_step_36 : decode cX0_step 36 = .ok (.aload_n 0, 1) := by decide +kernel
theorem dX0_step_37 : decode cX0_step 37 = .ok (.aload_n 0, 1) := by decide +kernel
theorem dX0_step_38 : decode cX0_step 38 = .ok (.getfield 17, 3) := by decide +kernel
theorem dX0_step_41 : decode cX0_step 41 = .ok (.putfield 21, 3) := by decide +kernel
theorem dX0_step_44 : decode cX0_step 44 = .ok (.aload_n 0, 1) := by decide +kernel
theorem dX0_step_45 : decode cX0_step 45 = .ok (.getfield 11, 3) := by decide +kernel
theorem dX0_step_48 : decode cX0_step 48 = .ok (.aload_n 0, 1) := by decide +kernel
theorem dX0_step_49 : decode cX0_step 49 = .ok (.getfield 17, 3) := by decide +kernel
theorem dX0_step_52 : decode cX0_step 52 = .ok (.aaload, 1) := by decide +kernel
theorem dX0_step_53 : decode cX0_step 53 = .ok (.aload_n 1, 1) := by decide +kernel
theorem dX0_step_54 : decode cX0_step 54 = .ok (.invokevirtual 29, 3) := by decide +kernel
theorem dX0_step_57 : decode cX0_step 57 = .ok (.aload_n 0, 1) := by decide +kernel
theorem dX0_step_58 : decode cX0_step 58 = .ok (.getfield 11, 3) := by decide +kernel
theorem dX0_step_61 : decode cX0_step 61 = .ok (.aload_n 0, 1) := by decide +kernel
theorem dX0_step_62 : decode cX0_step 62 = .ok (.getfield 17, 3) := by decide +kernel
theorem dX0_step_65 : decode cX0_step 65 = .ok (.aaload, 1) := by decide +kernel
theorem dX0_step_66 : decode cX0_step 66 = .ok (.areturn, 1) := by decide +kernel
set_option maxHeartbeats 2000000 in
set_option maxRecDepth 20000 in
theorem c_X0_step (l : Launch) (D : va_G) (cy : Nat → ClassId) (B N : Nat) (nr : Int) (M : MM) (hN : 210 ≤ N) (hI : Iv M) (hRV : RV (M.1 26 2) nr M) (h1 : M.1 26 1 ≤ M.1 26 2) : CR l D cy B N 2 yX0_step cX0_step 2 (some (.object "OtherPanes$Scene")) [rv B 26] M (fun z M' => Iv M' ∧ Fr (fun a b => (a = 26 ∧ 1 ≤ b ∧ b ≤ 2) ∨ (27 ≤ a ∧ a ≤ 150)) M M' ∧ (Sc z) ∧ (z = M'.1 27 (M'.1 26 1)) ∧ (M'.1 26 1 = M'.1 26 2) ∧ (RV (M'.1 26 2) nr M') ∧ (V nr z M')) := by
  refine mk_CR (by decide) (Nat.le_of_ble_eq_true rfl) (by first | exact Or.inl ⟨_, rfl⟩ | exact Or.inr ⟨_, rfl⟩) ?_
  intro X exl exD excy hnL hX hret
  have hce : 0 + 0 ≤ (xR X).cells ∧ 0 + 0 ≤ (xR X).slots := ⟨Nat.zero_le _, Nat.zero_le _⟩
  have hF : Fr (fun a b => (a = 26 ∧ 1 ≤ b ∧ b ≤ 2) ∨ (27 ≤ a ∧ a ≤ 150)) M M := Fr.rf
  have hk1 : M.1 26 2 = M.1 26 2 := rfl
  show J X B N 0 0 0 [(0, rv B 26)] [] M
  have hV2 : RV (M.1 26 1) nr M := fun i h0 h1 => hRV i h0 (by omega)
  refine j_aload_n hX dX0_step_0 rfl 0 rfl ?_
  refine gf_X0_11 hX (by omega) (by omega) kc_26 (fc_26_0 hI) (by decide) dX0_step_1 ?_
  refine j_aload_n hX dX0_step_4 rfl 0 rfl ?_
  refine gf_X0_17 hX (by omega) (by omega) kc_26 dX0_step_5 ?_
  refine j_name hI ro_26_1 (fun v3 hv4 hl5 hh6 => ?_)
  have hk7 := hv4.symm
  refine j_aald4n hX (by omega) (by omega) kc_27 (by omega) (by omega) (by decide) (hI.2 _) dX0_step_8 (fun sw esw hsw => ?_)
  have hbsw := sc_b hsw
  have hdsw : 28 ≤ sw ∧ sw ≤ 207 := by omega
  have hrsw := sc_27 hI esw
  have hV8 : V nr sw M := by rw [esw]; exact hRV _ (by omega) (by omega)
  refine j_astore_n (lv' := [(1, _), (0, _)]) hX dX0_step_9 rfl (by rw [hnL]; decide) rfl ?_
  refine j_aload_n hX dX0_step_10 rfl 1 rfl ?_
  refine gf_X0_17 hX (by omega) (by omega) kc_26 dX0_step_11 ?_
  refine j_top hk7 ?_
  refine j_bipush hX dX0_step_14 rfl ?_
  refine j_icmp_lt (tgt := 26) hX dX0_step_16 (by decide) (by omega) (by omega) (fun hc9 => ?_) (fun hc9 => ?_)
  · skip
    refine j_aload_n hX dX0_step_26 rfl 1 rfl ?_
    refine j_dup hX dX0_step_27 rfl ?_
    refine gf_X0_17 hX (by omega) (by omega) kc_26 dX0_step_28 ?_
    refine j_top hk7 ?_
    refine j_iconst hX dX0_step_31 ?_
    refine j_iadd hX dX0_step_32 ?_
    refine pf_X0_17 hX (by omega) (by omega) kc_26 (by omega) dX0_step_33 ?_
    refine j_up hI ro_26_1 (by omega) (by omega) (Or.inl (by omega)) (fun M10 w11 hw12 hM13 hI14 hf15 => ?_)
    have hV16 := RV_up hV2 hI hM13 (by omega)
    have hV17 := V_up hV8 hM13 (by omega) (by omega)
    have hk18 := kp_up hM13 (fun h => absurd h.2 (by decide)) hk1
    clear hk1 hk7
    have hF19 := Fr.put hF hM13 (by omega)
    refine j_aload_n hX dX0_step_36 rfl 1 rfl ?_
    refine j_aload_n hX dX0_step_37 rfl 1 rfl ?_
    refine gf_X0_17 hX (by omega) (by omega) kc_26 dX0_step_38 ?_
    refine j_top hf15 ?_
    refine pf_X0_21 hX (by omega) (by omega) kc_26 (by omega) dX0_step_41 ?_
    refine j_up hI14 ro_26_2 (by omega) (by omega) (Or.inl (by omega)) (fun M20 w21 hw22 hM23 hI24 hf25 => ?_)
    have hV26 := RV_up hV16 hI14 hM23 (by omega)
    have hV27 := V_up hV17 hM23 (by omega) (by omega)
    have hk28 := kp_up hM23 (fun h => absurd h.2 (by decide)) hf15
    clear hk18 hf15
    have hF29 := Fr.put hF19 hM23 (by omega)
    refine j_aload_n hX dX0_step_44 rfl 1 rfl ?_
    refine gf_X0_11 hX (by omega) (by omega) kc_26 (fc_26_0 hI24) (by decide) dX0_step_45 ?_
    refine j_aload_n hX dX0_step_48 rfl 1 rfl ?_
    refine gf_X0_17 hX (by omega) (by omega) kc_26 dX0_step_49 ?_
    refine j_top hk28 ?_
    refine j_aald4n hX (by omega) (by omega) kc_27 (by omega) (by omega) (by decide) (hI24.2 _) dX0_step_52 (fun sx esx hsx => ?_)
    have hbsx := sc_b hsx
    have hdsx : 28 ≤ sx ∧ sx ≤ 207 := by omega
    have hrsx := sc_27 hI24 esx
    refine j_aload_n hX dX0_step_53 rfl 0 rfl ?_
    refine j_callVV hX lk_X0_29 (c_X8_copyFrom _ _ _ _ _ sx sw _ _ (by omega) hI24 hsx hsw (by first | assumption | omega)) (by omega) hce rfl rfl (by omega) (by omega) (sc_k0 hsx) rfl rfl (Nat.le_of_ble_eq_true rfl) dX0_step_54 (fun M31 hp32 => ?_)
    obtain ⟨hI35, hG36, hq37⟩ := hp32
    have hk40 := kp_fr hG36 (by omega) hk28
    have hk41 := kp_fr hG36 (by omega) hf25
    clear hk28 hf25
    have hF42 := Fr.trans hF29 hG36 (fun a b h => by omega)
    have hRVf := RV_copy hV26 hq37 hG36 (fun a b h => by omega) hsx esx (by omega) hI24
    refine j_aload_n hX dX0_step_57 rfl 1 rfl ?_
    refine gf_X0_11 hX (by omega) (by omega) kc_26 (fc_26_0 hI35) (by decide) dX0_step_58 ?_
    refine j_aload_n hX dX0_step_61 rfl 1 rfl ?_
    refine gf_X0_17 hX (by omega) (by omega) kc_26 dX0_step_62 ?_
    refine j_top hk40 ?_
    refine j_aald4n hX (by omega) (by omega) kc_27 (by omega) (by omega) (by decide) (hI35.2 _) dX0_step_65 (fun sr esr hsr => ?_)
    have hbsr := sc_b hsr
    have hdsr : 28 ≤ sr ∧ sr ≤ 207 := by omega
    have hrsr := sc_27 hI35 esr
    have hsr1 : sr = M31.1 27 (M31.1 26 1) := esr.trans (congrArg (M31.1 27) (by omega))
    have hRVe := RV_eq hRVf (by omega)
    exact hret _ _ _ _ dX0_step_66 (by omega) ⟨hI35, hF42, by assumption, by assumption, by omega, hRVe, by rw [hsr1]; exact hRVe _ (by have := hI.at 26 1 ro_26_1; omega) (by omega)⟩
  · skip
    refine j_aload_n hX dX0_step_19 rfl 1 rfl ?_
    refine j_callVV hX lk_X0_33 (c_X0_forgetOldest _ _ _ _ _ _ (by omega) hI) (by omega) hce rfl rfl (by omega) (by omega) kc_26 rfl rfl (Nat.le_of_ble_eq_true rfl) dX0_step_20 (fun M44 hp45 => ?_)
    obtain ⟨hI48, hG49, hq50⟩ := hp45
    have hV52 := V_fr hV8 hG49 (fun b => by omega) (by omega)
    have hk53 := kp_fr hG49 (by omega) hk1
    have hk54 := kp_fr hG49 (by omega) hk7
    clear hk1 hk7
    have hF55 := Fr.trans hF hG49 (fun a b h => by omega)
    have hV56 : RV 39 nr M44 := RV_rot hRV (by omega) hq50 hG49 (fun a b h => by omega) hI
    refine j_goto (tgt := 36) hX dX0_step_23 (by decide) ?_
    refine j_aload_n hX dX0_step_36 rfl 1 rfl ?_
    refine j_aload_n hX dX0_step_37 rfl 1 rfl ?_
    refine gf_X0_17 hX (by omega) (by omega) kc_26 dX0_step_38 ?_
    refine j_top hk54 ?_
    refine pf_X0_21 hX (by omega) (by omega) kc_26 (by omega) dX0_step_41 ?_
    refine j_up hI48 ro_26_2 (by omega) (by omega) (Or.inl (by omega)) (fun M57 w58 hw59 hM60 hI61 hf62 => ?_)
    have hV63 := V_up hV52 hM60 (by omega) (by omega)
    have hV64 := RV_up hV56 hI48 hM60 (by omega)
    have hk65 := kp_up hM60 (fun h => absurd h.2 (by decide)) hk54
    clear hk53 hk54
    have hF66 := Fr.put hF55 hM60 (by omega)
    refine j_aload_n hX dX0_step_44 rfl 1 rfl ?_
    refine gf_X0_11 hX (by omega) (by omega) kc_26 (fc_26_0 hI61) (by decide) dX0_step_45 ?_
    refine j_aload_n hX dX0_step_48 rfl 1 rfl ?_
    refine gf_X0_17 hX (by omega) (by omega) kc_26 dX0_step_49 ?_
    refine j_top hk65 ?_
    refine j_aald4n hX (by omega) (by omega) kc_27 (by omega) (by omega) (by decide) (hI61.2 _) dX0_step_52 (fun sx esx hsx => ?_)
    have hbsx := sc_b hsx
    have hdsx : 28 ≤ sx ∧ sx ≤ 207 := by omega
    have hrsx := sc_27 hI61 esx
    refine j_aload_n hX dX0_step_53 rfl 0 rfl ?_
    refine j_callVV hX lk_X0_29 (c_X8_copyFrom _ _ _ _ _ sx sw _ _ (by omega) hI61 hsx hsw (by first | assumption | omega)) (by omega) hce rfl rfl (by omega) (by omega) (sc_k0 hsx) rfl rfl (Nat.le_of_ble_eq_true rfl) dX0_step_54 (fun M68 hp69 => ?_)
    obtain ⟨hI72, hG73, hq74⟩ := hp69
    have hk77 := kp_fr hG73 (by omega) hk65
    have hk78 := kp_fr hG73 (by omega) hf62
    clear hk65 hf62
    have hF79 := Fr.trans hF66 hG73 (fun a b h => by omega)
    have hRVf := RV_copy hV64 hq74 hG73 (fun a b h => by omega) hsx esx (by omega) hI61
    refine j_aload_n hX dX0_step_57 rfl 1 rfl ?_
    refine gf_X0_11 hX (by omega) (by omega) kc_26 (fc_26_0 hI72) (by decide) dX0_step_58 ?_
    refine j_aload_n hX dX0_step_61 rfl 1 rfl ?_
    refine gf_X0_17 hX (by omega) (by omega) kc_26 dX0_step_62 ?_
    refine j_top hk77 ?_
    refine j_aald4n hX (by omega) (by omega) kc_27 (by omega) (by omega) (by decide) (hI72.2 _) dX0_step_65 (fun sr esr hsr => ?_)
    have hbsr := sc_b hsr
    have hdsr : 28 ≤ sr ∧ sr ≤ 207 := by omega
    have hrsr := sc_27 hI72 esr
    have hsr1 : sr = M68.1 27 (M68.1 26 1) := esr.trans (congrArg (M68.1 27) (by omega))
    have hRVe := RV_eq hRVf (by omega)
    exact hret _ _ _ _ dX0_step_66 (by omega) ⟨hI72, hF79, by assumption, by assumption, by omega, hRVe, by rw [hsr1]; exact hRVe _ (by have := hI.at 26 1 ro_26_1; omega) (by omega)⟩
