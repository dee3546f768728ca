theorem sg_ne {c zi : Int} (h : 0 ≤ zi → ∃ j : Nat, j < sln.getD 1 0 ∧ ((sby.getD 1 []).getD j 0).toInt = b8 c) (h0 : 0 ≤ zi) : c ≠ 2 := by
  intro e
  obtain ⟨j, hj, e2⟩ := h h0
  subst e
  exact (by decide +kernel : ∀ j : Nat, j < 11 → ((sby.getD 1 []).getD j 0).toInt ≠ b8 2) j hj e2
theorem dX9_takeSign_0 : decode cX9_takeSign 0 = .ok (.aload_n 0, 1) := by decide +kernel
theorem dX9_takeSign_1 : decode cX9_takeSign 1 = .ok (.getfield 9, 3) := by decide +kernel
theorem dX9_takeSign_4 : decode cX9_takeSign 4 = .ok (.aload_n 0, 1) := by decide +kernel
theorem dX9_takeSign_5 : decode cX9_takeSign 5 = .ok (.getfield 23, 3) := by decide +kernel
theorem dX9_takeSign_8 : decode cX9_takeSign 8 = .ok (.baload, 1) := by decide +kernel
theorem dX9_takeSign_9 : decode cX9_takeSign 9 = .ok (.sipush 255, 3) := by decide +kernel
theorem dX9_takeSign_12 : decode cX9_takeSign 12 = .ok (.iand, 1) := by decide +kernel
theorem dX9_takeSign_13 : decode cX9_takeSign 13 = .ok (.i2c, 1) := by decide +kernel
theorem dX9_takeSign_14 : decode cX9_takeSign 14 = .ok (.istore_n 1, 1) := by decide +kernel
theorem dX9_takeSign_15 : decode cX9_takeSign 15 = .ok (.aload_n 0, 1) := by decide +kernel
theorem dX9_takeSign_16 : decode cX9_takeSign 16 = .ok (.ldc 73, 2) := by decide +kernel
theorem dX9_takeSign_18 : decode cX9_takeSign 18 = .ok (.iload_n 1, 1) := by decide +kernel
theorem dX9_takeSign_19 : decode cX9_takeSign 19 = .ok (.invokevirtual 75, 3) := by decide +kernel
theorem dX9_takeSign_22 : decode cX9_takeSign 22 = .ok (.ifCond .lt 7, 3) := by decide +kernel
theorem dX9_takeSign_25 : decode cX9_takeSign 25 = .ok (.iload_n 1, 1) := by decide +kernel
theorem dX9_takeSign_26 : decode cX9_takeSign 26 = .ok (.goto 4, 3) := by decide +kernel
theorem dX9_takeSign_29 : decode cX9_takeSign 29 = .ok (.iconst (-1), 1) := by decide +kernel
theorem dX9_takeSign_30 : decode cX9_takeSign 30 = .ok (.putfield 26, 3) := by decide +kernel
theorem dX9_takeSign_33 : decode cX9_takeSign 33 = .ok (.aload_n 0, 1) := by decide +kernel
theorem dX9_takeSign_34 : decode cX9_takeSign 34 = .ok (.dup, 1) := by decide +kernel
theorem dX9_takeSign_35 : decode cX9_takeSign 35 = .ok (.getfield 23, 3) := by decide +kernel
theorem dX9_takeSign_38 : decode cX9_takeSign 38 = .ok (.iconst 1, 1) := by decide +kernel
theorem dX9_takeSign_39 : decode cX9_takeSign 39 = .ok (.iadd, 1) := by decide +kernel
theorem dX9_takeSign_40 : decode cX9_takeSign 40 = .ok (.putfield 23, 3) := by decide +kernel
theorem dX9_takeSign_43 : decode cX9_takeSign 43 = .ok (.return_, 1) := by decide +kernel
set_option maxHeartbeats 2000000 in
set_option maxRecDepth 20000 in
theorem c_X9_takeSign (l : Launch) (D : va_G) (cy : Nat → ClassId) (B N : Nat) (M : MM) (hN : 210 ≤ N) (hI : Iv M) (h1 : M.1 2 3 < M.1 2 2) : CV l D cy B N 8 yX9_takeSign cX9_takeSign 2 none [rv B 2] M (fun M' => Iv M' ∧ Fr (fun a b => (a = 2 ∧ 3 ≤ b ∧ b ≤ 4)) M M' ∧ (M'.1 2 4 ≠ 2)) := by
  refine mk_CV (by decide) (Nat.le_of_ble_eq_true rfl) ?_
  intro X exl exD excy hnL hX hret
  have hce : 0 + 0 ≤ (xR X).cells ∧ 0 + 0 ≤ (xR X).slots := ⟨Nat.zero_le _, Nat.zero_le _⟩
  have hF : Fr (fun a b => (a = 2 ∧ 3 ≤ b ∧ b ≤ 4)) M M := Fr.rf
  have ht2 := hI.at 2 2 ro_2_2
  show J X B N 0 0 0 [(0, rv B 2)] [] M
  refine j_aload_n hX dX9_takeSign_0 rfl 0 rfl ?_
  refine gf_X9_9 hX (by omega) (by omega) kc_2 (fc_2_0 hI) (by decide) dX9_takeSign_1 ?_
  refine j_aload_n hX dX9_takeSign_4 rfl 0 rfl ?_
  refine gf_X9_23 hX (by omega) (by omega) kc_2 dX9_takeSign_5 ?_
  refine j_name hI ro_2_3 (fun v1 hv2 hl3 hh4 => ?_)
  have hk5 := hv2.symm
  refine j_bald hX (by omega) (by omega) kc_3 (by omega) (by omega) (by omega) dX9_takeSign_8 ?_
  refine j_name hI (ra_3 _) (fun v6 hv7 hl8 hh9 => ?_)
  refine j_sipush hX dX9_takeSign_9 rfl ?_
  refine j_iand hX dX9_takeSign_12 (fun z10 hz11 hy12 => ?_)
  have ha13 := (and_f hz11 (by omega) (by omega)).2 (by omega)
  have ha12 := (and_f hz11 (by omega) (by omega)).2 (by omega)
  refine j_i2c hX dX9_takeSign_13 (fun z14 hz15 hy16 => ?_)
  have hc13 := i2c_id hz15 (by omega) (by omega)
  refine j_istore_n (lv' := [(1, _), (0, _)]) hX dX9_takeSign_14 rfl (by rw [hnL]; decide) rfl ?_
  refine j_aload_n hX dX9_takeSign_15 rfl 1 rfl ?_
  refine j_ldcS hX (i := 1) (Or.inr ⟨rfl, rfl⟩) dX9_takeSign_16 (fun sa sv hSK => ?_)
  refine j_iload_n hX dX9_takeSign_18 rfl 0 rfl ?_
  refine j_callKV hX hSK lk_X9_75 rfl (c_J0_indexOf_0f7a4 _ _ _ _ _ _ _ _ _ _ _ (by decide) (by omega)) (by omega) hce rfl rfl (Nat.le_of_ble_eq_true rfl) dX9_takeSign_19 (fun zi hzi hpi => ?_)
  refine j_if_lt (tgt := 29) hX dX9_takeSign_22 (by decide) (by omega) (fun hc17 => ?_) (fun hc17 => ?_)
  · skip
    refine j_iconst hX dX9_takeSign_29 ?_
    refine pf_X9_26 hX (by omega) (by omega) kc_2 (by omega) dX9_takeSign_30 ?_
    refine j_up hI ro_2_4 (by omega) (by omega) (Or.inl (by omega)) (fun M18 w19 hw20 hM21 hI22 hf23 => ?_)
    have hk24 := kp_up hM21 (fun h => absurd h.2 (by decide)) hk5
    clear hk5
    have hF25 := Fr.put hF hM21 (⟨rfl, by decide, by decide⟩)
    refine j_aload_n hX dX9_takeSign_33 rfl 1 rfl ?_
    refine j_dup hX dX9_takeSign_34 rfl ?_
    refine gf_X9_23 hX (by omega) (by omega) kc_2 dX9_takeSign_35 ?_
    refine j_top hk24 ?_
    refine j_iconst hX dX9_takeSign_38 ?_
    refine j_iadd hX dX9_takeSign_39 ?_
    refine pf_X9_23 hX (by omega) (by omega) kc_2 (by omega) dX9_takeSign_40 ?_
    refine j_up hI22 ro_2_3 (by omega) (by omega) (Or.inl (by omega)) (fun M26 w27 hw28 hM29 hI30 hf31 => ?_)
    have hk32 := kp_up hM29 (fun h => absurd h.2 (by decide)) hf23
    clear hk24 hf23
    have hF33 := Fr.put hF25 hM29 (⟨rfl, by decide, by decide⟩)
    exact hret _ _ _ dX9_takeSign_43 ⟨hI30, hF33, by first | assumption | omega⟩
  · skip
    have hne := sg_ne hpi (by omega)
    refine j_iload_n hX dX9_takeSign_25 rfl 0 rfl ?_
    refine j_goto (tgt := 30) hX dX9_takeSign_26 (by decide) ?_
    refine pf_X9_26 hX (by omega) (by omega) kc_2 (by omega) dX9_takeSign_30 ?_
    refine j_up hI ro_2_4 (by omega) (by omega) (Or.inl (by omega)) (fun M34 w35 hw36 hM37 hI38 hf39 => ?_)
    have hk40 := kp_up hM37 (fun h => absurd h.2 (by decide)) hk5
    clear hk5
    have hF41 := Fr.put hF hM37 (⟨rfl, by decide, by decide⟩)
    refine j_aload_n hX dX9_takeSign_33 rfl 1 rfl ?_
    refine j_dup hX dX9_takeSign_34 rfl ?_
    refine gf_X9_23 hX (by omega) (by omega) kc_2 dX9_takeSign_35 ?_
    refine j_top hk40 ?_
    refine j_iconst hX dX9_takeSign_38 ?_
    refine j_iadd hX dX9_takeSign_39 ?_
    refine pf_X9_23 hX (by omega) (by omega) kc_2 (by omega) dX9_takeSign_40 ?_
    refine j_up hI38 ro_2_3 (by omega) (by omega) (Or.inl (by omega)) (fun M42 w43 hw44 hM45 hI46 hf47 => ?_)
    have hk48 := kp_up hM45 (fun h => absurd h.2 (by decide)) hf39
    clear hk40 hf39
    have hF49 := Fr.put hF41 hM45 (⟨rfl, by decide, by decide⟩)
    exact hret _ _ _ dX9_takeSign_43 ⟨hI46, hF49, by first | assumption | omega⟩
