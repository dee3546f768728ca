/-- the picture at the start -/
def M00 : MM := (fun k j => if 0 ≤ k ∧ k < 210 then dv k j else (rg k j).1, fun _ _ => 0)
theorem dv_i (k j : Int) : I32 (dv k j) := by
  have h := rg_ok k j
  unfold dv
  split
  · split
    · exact ⟨by omega, by omega⟩
    · exact ⟨by omega, by omega⟩
  · split
    · exact ⟨by omega, by omega⟩
    · exact ⟨by omega, by omega⟩
theorem M00_i (a b : Int) : I32 (M00.1 a b) := by
  show I32 (if 0 ≤ a ∧ a < 210 then dv a b else (rg a b).1)
  split
  · exact dv_i a b
  · have h := rg_ok a b
    exact ⟨by omega, by omega⟩
theorem M00_d : DF 0 210 M00 := fun k h0 h1 j => ⟨if_pos ⟨h0, h1⟩, rfl⟩
theorem M00_r : ∀ k, ¬ (0 ≤ k ∧ k < 210) → Rg k M00 := fun k h j => by
  rw [show M00.1 k j = (rg k j).1 from if_neg h]
  exact ⟨Int.le_refl _, (rg_ok k j).1⟩
def M01 (M : MM) : MM := (fun k j => if 210 ≤ k ∧ k < 257 then dv k j else M.1 k j, fun k j => if 210 ≤ k ∧ k < 257 then 0 else M.2 k j)
theorem M01_d (M : MM) : DF 210 257 (M01 M) := fun k h0 h1 j => ⟨if_pos ⟨h0, h1⟩, if_pos ⟨h0, h1⟩⟩
theorem M01_o {M : MM} {a b : Int} (h : ¬ (210 ≤ a ∧ a < 257)) : (M01 M).1 a b = M.1 a b := if_neg h
theorem Rg_of {M : MM} (h : Iv M) (k : Int) : Rg k M := fun j => h.1 k j
set_option maxHeartbeats 2000000 in
theorem law_start {X : CT} {B b n : Nat} {ss : Nat → Int32} (hX : Cx X B 100 cL_law RL) (hnL : xnL X = 4) (hSX : SX X B b n ss) (hn : (n : Int) ≤ 6) (hRc : (xR X).cells = 600000) (hRs : (xR X).slots = 7302250) (hend : ∀ (ce sl : Nat) (lv : List (Nat × Value)) (M : MM), ce ≤ 600000 → sl ≤ 7302250 → J X B 257 ce sl 1295 lv [iv 1] M) : J X B 0 0 0 0 [(0, .ref b)] [] M00 := by
  refine j_new hX (k := 0) (by omega) hin_10 tyX10_ok rfl (in_1 22 (by first | rfl | decide +kernel) rfl) (in_1 23 (by first | rfl | decide +kernel) rfl) (in_1 1 (by first | rfl | decide +kernel) rfl) (by decide +kernel : kd 0 = .inl 10) (fun _ => rfl) okX10 (M00_d.at 0 (by omega) (by omega)) ⟨by omega, by omega⟩ dL_law_0 ?_
  refine j_dup hX dL_law_3 rfl ?_
  refine j_callP hX (in_1 24 (by first | rfl | decide +kernel) rfl) lkI_10 (cv_X10_init _ _ _ _ _ M00 (by omega) M00_d M00_r) (by omega) ⟨by omega, by omega⟩ (Nat.le_of_ble_eq_true rfl) dL_law_4 (fun M1 hp => ?_)
  obtain ⟨hI1, hC1, ht1, hFC1⟩ := hp
  refine j_astore_n (lv' := [(1, _), (0, _)]) hX dL_law_7 rfl (by rw [hnL]; decide) rfl ?_
  refine j_swap (M2 := M01 M1) (fun a b h0 h1 => ⟨M01_o (by omega), if_neg (by omega)⟩) (fun h a b => ?_) ?_
  · show I32 (if 210 ≤ a ∧ a < 257 then dv a b else M1.1 a b)
    split
    · exact dv_i a b
    · exact h a b
  have hRo : ∀ k, ¬ (210 ≤ k ∧ k < 257) → Rg k (M01 M1) := fun k h j => by
    rw [M01_o h]
    exact Rg_of hI1 k j
  have hSS : SS (M01 M1) := fun i => by
    rw [M01_o (by omega)]
    exact hI1.2 i
  refine j_new hX (k := 210) (by omega) hin_11 tyX11_ok rfl (in_5 182 (by first | rfl | decide +kernel) rfl) (in_5 183 (by first | rfl | decide +kernel) rfl) (in_1 18 (by first | rfl | decide +kernel) rfl) (by decide +kernel : kd 210 = .inl 11) (fun _ => rfl) okX11 ((M01_d M1).at 210 (by omega) (by omega)) ⟨by omega, by omega⟩ dL_law_8 ?_
  refine j_dup hX dL_law_11 rfl ?_
  refine j_callP hX (in_5 184 (by first | rfl | decide +kernel) rfl) lkI_11 (cv_X11_init _ _ _ _ _ (M01 M1) (by omega) (M01_d M1) hRo hSS) (by omega) ⟨by omega, by omega⟩ (Nat.le_of_ble_eq_true rfl) dL_law_12 (fun M2 hp => ?_)
  obtain ⟨hI2, hR2, ht2, hcl, hFM2⟩ := hp
  refine j_astore_n (lv' := [(2, _), (1, _), (0, _)]) hX dL_law_15 rfl (by rw [hnL]; decide) rfl ?_
  refine j_iconst hX dL_law_16 ?_
  refine j_istore_n (lv' := [(3, _), (2, _), (1, _), (0, _)]) hX dL_law_17 rfl (by rw [hnL]; decide) rfl ?_
  refine j_sub [3, 2, 1, 0] rfl ?_
  have hcl2 : ∀ a b, a < 210 → M2.1 a b = M1.1 a b := fun a b h => (hcl a b h).trans (M01_o (by omega))
  have hC2 : CIv M2 := CI_c hC1 hI1 hcl2
  exact law_loop hX hnL hSX hn ⟨by omega, by omega⟩ (fun lv M => hend _ _ lv M (by omega) (by omega)) M2 hI2 hC2 hR2 (FC_c hFC1 hcl2) hFM2
