set_option maxHeartbeats 2000000 in
set_option maxRecDepth 20000 in
theorem law_loop {X : CT} {B b n ce sl : Nat} {ss : Nat → Int32} (hX : Cx X B 100 cL_law RL) (hnL : xnL X = 4) (hSX : SX X B b n ss) (hn6 : (n : Int) ≤ 6) (hce : ce + 0 ≤ (xR X).cells ∧ sl + 0 ≤ (xR X).slots) (hend : ∀ (lv : List (Nat × Value)) (M : MM), J X B 257 ce sl 1295 lv [iv 1] M) (M : MM) (hI : Iv M) (hC : CIv M) (hR : RI M) (hFC : FC M) (hFM : FM M) : J X B 257 ce sl 18 [(0, .ref b), (1, rv B 0), (2, rv B 210), (3, iv 0)] [] M := by
  have hn : (n : Int) ≤ 3072 := by omega
  have hn0 : 0 ≤ (n : Int) := Int.natCast_nonneg n
  have htail : ∀ M', J X B 257 ce sl 1288 [(0, .ref b), (1, rv B 0), (2, rv B 210), (3, iv 0)] [] M' := by
    intro M'
    refine j_iinc (lv' := [(3, _), (0, _), (1, _), (2, _)]) hX dL_law_1288 3 rfl (by rw [hnL]; decide) rfl ?_
    refine j_goto (tgt := 18) hX dL_law_1291 (by decide) ?_
    refine j_sub [1, 2, 3, 0] rfl ?_
    refine j_iload_n hX dL_law_18 rfl 3 rfl ?_
    refine j_aload_r hX dL_law_19 rfl 0 rfl ?_
    refine j_slen hX hSX hn dL_law_20 ?_
    refine j_bipush hX dL_law_21 rfl ?_
    refine j_isub hX dL_law_23 ?_
    refine j_icmp_gt (tgt := 1294) hX dL_law_24 (by decide) (by omega) (by omega) (fun _ => ?_) (fun h => absurd h (by omega))
    refine j_iconst hX dL_law_1294 ?_
    exact hend _ _
  refine j_iload_n hX dL_law_18 rfl 3 rfl ?_
  refine j_aload_r hX dL_law_19 rfl 0 rfl ?_
  refine j_slen hX hSX hn dL_law_20 ?_
  refine j_bipush hX dL_law_21 rfl ?_
  refine j_isub hX dL_law_23 ?_
  refine j_icmp_gt (tgt := 1294) hX dL_law_24 (by decide) (by omega) (by omega) (fun _ => ?_) (fun hc => ?_)
  · refine j_iconst hX dL_law_1294 ?_
    exact hend _ _
  · have hi6 : (0 : Int) + 6 ≤ (n : Int) := by omega
    refine j_aload_r hX dL_law_27 rfl 0 rfl ?_
    refine j_iload_n hX dL_law_28 rfl 3 rfl ?_
    refine j_sld hX hSX (by omega) (by omega) hn dL_law_29 (fun z he hz => ?_)
    refine j_bipush hX dL_law_30 rfl ?_
    refine j_iand hX dL_law_32 (fun w hw hw2 => ?_)
    have ha := (and_f hw (by omega) (by omega)).2 (by omega)
    refine j_table (tgd := 1288) hX dL_law_33 (by omega) (by decide) (fun _ => htail M) (fun h1 h2 => ?_)
    rcases (by omega : w = 0 ∨ w = 1 ∨ w = 2 ∨ w = 3 ∨ w = 4 ∨ w = 5 ∨ w = 6 ∨ w = 7 ∨ w = 8 ∨ w = 9 ∨ w = 10 ∨ w = 11 ∨ w = 12 ∨ w = 13 ∨ w = 14 ∨ w = 15 ∨ w = 16 ∨ w = 17 ∨ w = 18 ∨ w = 19 ∨ w = 20 ∨ w = 21 ∨ w = 22 ∨ w = 23 ∨ w = 24 ∨ w = 25 ∨ w = 26 ∨ w = 27 ∨ w = 28 ∨ w = 29 ∨ w = 30 ∨ w = 31 ∨ w = 32 ∨ w = 33 ∨ w = 34 ∨ w = 35 ∨ w = 36 ∨ w = 37 ∨ w = 38 ∨ w = 39 ∨ w = 40 ∨ w = 41) with hk | hk | hk | hk | hk | hk | hk | hk | hk | hk | hk | hk | hk | hk | hk | hk | hk | hk | hk | hk | hk | hk | hk | hk | hk | hk | hk | hk | hk | hk | hk | hk | hk | hk | hk | hk | hk | hk | hk | hk | hk | hk
    · exact ⟨183, 216, by rw [hk]; rfl, by decide, law_c0 hX hSX hn (by omega) hi6 hce M hI hC hR hFC hFM htail⟩
    · exact ⟨246, 279, by rw [hk]; rfl, by decide, law_c1 hX hSX hn (by omega) hi6 hce M hI hC hR hFC hFM htail⟩
    · exact ⟨269, 302, by rw [hk]; rfl, by decide, law_c2 hX hSX hn (by omega) hi6 hce M hI hC hR hFC hFM htail⟩
    · exact ⟨282, 315, by rw [hk]; rfl, by decide, law_c3 hX hSX hn (by omega) hi6 hce M hI hC hR hFC hFM htail⟩
    · exact ⟨305, 338, by rw [hk]; rfl, by decide, law_c4 hX hSX hn (by omega) hi6 hce M hI hC hR hFC hFM htail⟩
    · exact ⟨338, 371, by rw [hk]; rfl, by decide, law_c5 hX hSX hn (by omega) hi6 hce M hI hC hR hFC hFM htail⟩
    · exact ⟨371, 404, by rw [hk]; rfl, by decide, law_c6 hX hSX hn (by omega) hi6 hce M hI hC hR hFC hFM htail⟩
    · exact ⟨404, 437, by rw [hk]; rfl, by decide, law_c7 hX hSX hn (by omega) hi6 hce M hI hC hR hFC hFM htail⟩
    · exact ⟨427, 460, by rw [hk]; rfl, by decide, law_c8 hX hSX hn (by omega) hi6 hce M hI hC hR hFC hFM htail⟩
    · exact ⟨450, 483, by rw [hk]; rfl, by decide, law_c9 hX hSX hn (by omega) hi6 hce M hI hC hR hFC hFM htail⟩
    · exact ⟨483, 516, by rw [hk]; rfl, by decide, law_c10 hX hSX hn (by omega) hi6 hce M hI hC hR hFC hFM htail⟩
    · exact ⟨496, 529, by rw [hk]; rfl, by decide, law_c11 hX hSX hn (by omega) hi6 hce M hI hC hR hFC hFM htail⟩
    · exact ⟨509, 542, by rw [hk]; rfl, by decide, law_c12 hX hSX hn (by omega) hi6 hce M hI hC hR hFC hFM htail⟩
    · exact ⟨522, 555, by rw [hk]; rfl, by decide, law_c13 hX hSX hn (by omega) hi6 hce M hI hC hR hFC hFM htail⟩
    · exact ⟨535, 568, by rw [hk]; rfl, by decide, law_c14 hX hSX hn (by omega) hi6 hce M hI hC hR hFC hFM htail⟩
    · exact ⟨568, 601, by rw [hk]; rfl, by decide, law_c15 hX hSX hn (by omega) hi6 hce M hI hC hR hFC hFM htail⟩
    · exact ⟨601, 634, by rw [hk]; rfl, by decide, law_c16 hX hSX hn (by omega) hi6 hce M hI hC hR hFC hFM htail⟩
    · exact ⟨634, 667, by rw [hk]; rfl, by decide, law_c17 hX hSX hn (by omega) hi6 hce M hI hC hR hFC hFM htail⟩
    · exact ⟨657, 690, by rw [hk]; rfl, by decide, law_c18 hX hSX hn (by omega) hi6 hce M hI hC hR hFC hFM htail⟩
    · exact ⟨670, 703, by rw [hk]; rfl, by decide, law_c19 hX hSX hn (by omega) hi6 hce M hI hC hR hFC hFM htail⟩
    · exact ⟨693, 726, by rw [hk]; rfl, by decide, law_c20 hX hSX hn (by omega) hi6 hce M hI hC hR hFC hFM htail⟩
    · exact ⟨716, 749, by rw [hk]; rfl, by decide, law_c21 hX hSX hn (by omega) hi6 hce M hI hC hR hFC hFM htail⟩
    · exact ⟨739, 772, by rw [hk]; rfl, by decide, law_c22 hX hSX hn (by omega) hi6 hce M hI hC hR hFC hFM htail⟩
    · exact ⟨752, 785, by rw [hk]; rfl, by decide, law_c23 hX hSX hn (by omega) hi6 hce M hI hC hR hFC hFM htail⟩
    · exact ⟨785, 818, by rw [hk]; rfl, by decide, law_c24 hX hSX hn (by omega) hi6 hce M hI hC hR hFC hFM htail⟩
    · exact ⟨808, 841, by rw [hk]; rfl, by decide, law_c25 hX hSX hn (by omega) hi6 hce M hI hC hR hFC hFM htail⟩
    · exact ⟨821, 854, by rw [hk]; rfl, by decide, law_c26 hX hSX hn (by omega) hi6 hce M hI hC hR hFC hFM htail⟩
    · exact ⟨834, 867, by rw [hk]; rfl, by decide, law_c27 hX hSX hn (by omega) hi6 hce M hI hC hR hFC hFM htail⟩
    · exact ⟨847, 880, by rw [hk]; rfl, by decide, law_c28 hX hSX hn (by omega) hi6 hce M hI hC hR hFC hFM htail⟩
    · exact ⟨880, 913, by rw [hk]; rfl, by decide, law_c29 hX hSX hn (by omega) hi6 hce M hI hC hR hFC hFM htail⟩
    · exact ⟨893, 926, by rw [hk]; rfl, by decide, law_c30 hX hSX hn (by omega) hi6 hce M hI hC hR hFC hFM htail⟩
    · exact ⟨926, 959, by rw [hk]; rfl, by decide, law_c31 hX hSX hn (by omega) hi6 hce M hI hC hR hFC hFM htail⟩
    · exact ⟨969, 1002, by rw [hk]; rfl, by decide, law_c32 hX hSX hn (by omega) hi6 hce M hI hC hR hFC hFM htail⟩
    · exact ⟨992, 1025, by rw [hk]; rfl, by decide, law_c33 hX hSX hn (by omega) hi6 hce M hI hC hR hFC hFM htail⟩
    · exact ⟨1051, 1084, by rw [hk]; rfl, by decide, law_c34 hX hSX hn (by omega) hi6 hce M hI hC hR hFC hFM htail⟩
    · exact ⟨1074, 1107, by rw [hk]; rfl, by decide, law_c35 hX hSX hn (by omega) hi6 hce M hI hC hR hFC hFM htail⟩
    · exact ⟨1097, 1130, by rw [hk]; rfl, by decide, law_c36 hX hSX hn (by omega) hi6 hce M hI hC hR hFC hFM htail⟩
    · exact ⟨1120, 1153, by rw [hk]; rfl, by decide, law_c37 hX hSX hn (by omega) hi6 hce M hI hC hR hFC hFM htail⟩
    · exact ⟨1153, 1186, by rw [hk]; rfl, by decide, law_c38 hX hSX hn (by omega) hi6 hce M hI hC hR hFC hFM htail⟩
    · exact ⟨1186, 1219, by rw [hk]; rfl, by decide, law_c39 hX hSX hn (by omega) hi6 hce M hI hC hR hFC hFM htail⟩
    · exact ⟨1209, 1242, by rw [hk]; rfl, by decide, law_c40 hX hSX hn (by omega) hi6 hce M hI hC hR hFC hFM htail⟩
    · exact ⟨1232, 1265, by rw [hk]; rfl, by decide, law_c41 hX hSX hn (by omega) hi6 hce M hI hC hR hFC hFM htail⟩
