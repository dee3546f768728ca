/-! the rule: what lies on the pile, how deep the code is -/
def tb (x : Int) : Int := if x = 3 ∨ 7 ≤ x then 0 else 1
def tw (x : Int) : Int := if x = 3 ∨ x = 7 then 1 else 0
def td (c : Int) : Int := if c = 126 then 0 else if 97 ≤ c ∧ c ≤ 122 then 1 else -1
/-- an implication that omega need not look into -/
def Imp (a b : Prop) : Prop := a → b
def bin (c : Int) : Prop := c ≠ 126 ∧ ¬ (97 ≤ c ∧ c ≤ 122)
/-- the sum of t over the first n -/
def sm (t : Int → Int) (f : Int → Int) (o : Int) : Nat → Int
  | 0 => 0
  | n + 1 => sm t f o n + t (f (o + n))
def SU (t : Int → Int) (f : Int → Int) (o x : Int) : Int := sm t f o x.toNat
theorem SU_0 (t f : Int → Int) (o : Int) : SU t f o 0 = 0 := rfl
theorem SU_s {t f : Int → Int} {o x : Int} (hx : 0 ≤ x) : SU t f o (x + 1) = SU t f o x + t (f (o + x)) := by
  unfold SU
  rw [show (x + 1).toNat = x.toNat + 1 by omega]
  show sm t f o x.toNat + t (f (o + (x.toNat : Int))) = _
  rw [show (x.toNat : Int) = x by omega]
theorem sm_e {t f g : Int → Int} {o : Int} : ∀ n : Nat, (∀ i, 0 ≤ i → i < (n : Int) → f (o + i) = g (o + i)) → sm t f o n = sm t g o n
  | 0, _ => rfl
  | n + 1, h => by
    show sm t f o n + t (f (o + n)) = sm t g o n + t (g (o + n))
    rw [sm_e n (fun i a b => h i a (by omega)), h n (by omega) (by omega)]
theorem SU_e {t f g : Int → Int} {o x : Int} (h : ∀ i, 0 ≤ i → i < x → f (o + i) = g (o + i)) : SU t f o x = SU t g o x := sm_e _ (fun i a b => h i a (by omega))
theorem sm_p {t f : Int → Int} {o : Int} (ht : ∀ x, 0 ≤ t x) : ∀ n : Nat, 0 ≤ sm t f o n
  | 0 => Int.le_refl _
  | n + 1 => by
    show 0 ≤ sm t f o n + t (f (o + n))
    have := sm_p (f := f) (o := o) ht n
    have := ht (f (o + n))
    omega
theorem tb_p (x : Int) : 0 ≤ tb x := by unfold tb; split <;> omega
theorem tw_p (x : Int) : 0 ≤ tw x := by unfold tw; split <;> omega
theorem tb_i {x : Int} (h : x = 3 ∨ 7 ≤ x) : tb x = 0 := if_pos h
theorem tb_o {x : Int} (h : ¬ (x = 3 ∨ 7 ≤ x)) : tb x = 1 := if_neg h
theorem tw_i {x : Int} (h : x = 3 ∨ x = 7) : tw x = 1 := if_pos h
theorem tw_o {x : Int} (h : ¬ (x = 3 ∨ x = 7)) : tw x = 0 := if_neg h
theorem td_n : td 126 = 0 := rfl
theorem td_l {c : Int} (h : 97 ≤ c ∧ c ≤ 122) : td c = 1 := by unfold td; rw [if_neg (by omega), if_pos h]
theorem td_b {c : Int} (h : bin c) : td c = -1 := by unfold td; rw [if_neg h.1, if_neg h.2]
def CB (M : MM) (x : Int) : Int := SU tb (M.1 239) 0 x
def CW (M : MM) (x : Int) : Int := SU tw (M.1 239) 0 x
def DP (M : MM) (lo x : Int) : Int := SU td (M.1 237) lo x
theorem CB_p (M : MM) (x : Int) : 0 ≤ CB M x := sm_p tb_p _
theorem CW_p (M : MM) (x : Int) : 0 ≤ CW M x := sm_p tw_p _
/-- the code from lo on, x long, goes well -/
def WC (M : MM) (lo x : Int) : Prop := ∀ i, 0 ≤ i → i < x → (M.1 237 (lo + i) = 126 → 1 ≤ DP M lo i) ∧ (bin (M.1 237 (lo + i)) → 2 ≤ DP M lo i) ∧ 0 ≤ DP M lo i ∧ DP M lo i ≤ 40
theorem DP_e {M M' : MM} {lo x : Int} (h : ∀ i, 0 ≤ i → i < x → M'.1 237 (lo + i) = M.1 237 (lo + i)) : DP M' lo x = DP M lo x := SU_e h
theorem WC_e {M M' : MM} {lo x : Int} (hw : WC M lo x) (h : ∀ i, 0 ≤ i → i < x → M'.1 237 (lo + i) = M.1 237 (lo + i)) : WC M' lo x := by
  intro i a b
  rw [h i a b, DP_e (M := M) (fun j p q => h j p (by omega))]
  exact hw i a b
theorem WC_s {M : MM} {lo x : Int} (hw : WC M lo x) (h1 : M.1 237 (lo + x) = 126 → 1 ≤ DP M lo x) (h2 : bin (M.1 237 (lo + x)) → 2 ≤ DP M lo x) (h3 : 0 ≤ DP M lo x) (h4 : DP M lo x ≤ 40) : WC M lo (x + 1) := by
  intro i a b
  by_cases c : i = x
  · rw [c]; exact ⟨h1, h2, h3, h4⟩
  · exact hw i a (by omega)
def PS (k lo : Int) (M : MM) : Prop :=
  (1 ≤ M.1 210 44 ∧ M.1 239 0 = 8 ∧ (∀ i, 1 ≤ i → i < M.1 210 44 → (1 ≤ M.1 239 i ∧ M.1 239 i ≤ 7) ∧ (M.1 239 i = 3 → M.1 240 i = 126) ∧ (M.1 239 i ≠ 3 → M.1 239 i ≤ 6 → bin (M.1 240 i)))) ∧
  (M.1 210 43 = CW M (M.1 210 44) ∧ M.1 210 44 = 1 + CB M (M.1 210 44) + CW M (M.1 210 44)) ∧
  (lo ≤ M.1 210 42 ∧ WC M lo (M.1 210 42 - lo) ∧ DP M lo (M.1 210 42 - lo) = CB M (M.1 210 44) + k) ∧
  (CB M (M.1 210 44) + k ≤ M.1 210 45 ∧ (k = 0 → M.1 210 42 - lo + CB M (M.1 210 44) ≤ 9 * M.1 210 45 + 1) ∧ (k = 1 → M.1 210 42 - lo + CB M (M.1 210 44) + M.1 210 43 ≤ 9 * M.1 210 45))
theorem PS_b {k lo : Int} {M : MM} (h : PS k lo M) (hk : k = 0 ∨ k = 1) (h7 : M.1 210 43 ≤ 7) (h30 : M.1 210 45 ≤ 30) : 1 ≤ M.1 210 44 ∧ M.1 210 44 ≤ 38 ∧ 0 ≤ M.1 210 43 ∧ lo ≤ M.1 210 42 ∧ M.1 210 42 - lo ≤ 278 := by
  obtain ⟨⟨a1, a2, a3⟩, ⟨b1, b2⟩, ⟨c1, c2, c3⟩, d1, d2, d3⟩ := h
  have h1 := CB_p M (M.1 210 44)
  have h2 := CW_p M (M.1 210 44)
  rcases hk with e | e
  · have := d2 e; omega
  · have := d3 e; omega
theorem CB_e {M M' : MM} {x : Int} (h : ∀ i, 0 ≤ i → i < x → M'.1 239 i = M.1 239 i) : CB M' x = CB M x := SU_e (fun i a b => by rw [Int.zero_add]; exact h i a b)
theorem CW_e {M M' : MM} {x : Int} (h : ∀ i, 0 ≤ i → i < x → M'.1 239 i = M.1 239 i) : CW M' x = CW M x := SU_e (fun i a b => by rw [Int.zero_add]; exact h i a b)
theorem CB_s {M : MM} {x : Int} (hx : 0 ≤ x) : CB M (x + 1) = CB M x + tb (M.1 239 x) := by have := SU_s (t := tb) (f := M.1 239) (o := 0) hx; rw [Int.zero_add] at this; exact this
theorem CW_s {M : MM} {x : Int} (hx : 0 ≤ x) : CW M (x + 1) = CW M x + tw (M.1 239 x) := by have := SU_s (t := tw) (f := M.1 239) (o := 0) hx; rw [Int.zero_add] at this; exact this
theorem DP_s {M : MM} {lo x : Int} (hx : 0 ≤ x) : DP M lo (x + 1) = DP M lo x + td (M.1 237 (lo + x)) := SU_s hx
/-- nothing of the rule's was touched -/
theorem PS_dp {k lo : Int} {M M' : MM} (h : PS k lo M) (e : ∀ a b, (a = 210 ∧ 42 ≤ b ∧ b ≤ 45) ∨ a = 237 ∨ a = 239 ∨ a = 240 → M'.1 a b = M.1 a b) : PS k lo M' := by
  have e42 := e 210 42 (by omega)
  have e43 := e 210 43 (by omega)
  have e44 := e 210 44 (by omega)
  have e45 := e 210 45 (by omega)
  have hB : ∀ x, CB M' x = CB M x := fun x => CB_e (fun i _ _ => e 239 i (by omega))
  have hW : ∀ x, CW M' x = CW M x := fun x => CW_e (fun i _ _ => e 239 i (by omega))
  have hD : ∀ x, DP M' lo x = DP M lo x := fun x => DP_e (fun i _ _ => e 237 _ (by omega))
  obtain ⟨⟨a1, a2, a3⟩, ⟨b1, b2⟩, ⟨c1, c2, c3⟩, d1, d2, d3⟩ := h
  unfold PS
  rw [e42, e43, e44, e45, hB, hW, hD, e 239 0 (by omega)]
  exact ⟨⟨a1, a2, fun i p q => by rw [e 239 i (by omega), e 240 i (by omega)]; exact a3 i p q⟩, ⟨b1, b2⟩, ⟨c1, WC_e c2 (fun i _ _ => e 237 _ (by omega)), c3⟩, d1, d2, d3⟩
/-- the start -/
theorem PS_st {lo : Int} {M : MM} (h44 : M.1 210 44 = 1) (h43 : M.1 210 43 = 0) (h42 : M.1 210 42 = lo) (h45 : M.1 210 45 = 0) (h0 : M.1 239 0 = 8) : PS 0 lo M := by
  have hB : CB M 1 = 0 := by have := CB_s (M := M) (x := 0) (by omega); rw [h0, tb_i (by omega)] at this; exact this
  have hW : CW M 1 = 0 := by have := CW_s (M := M) (x := 0) (by omega); rw [h0, tw_o (by omega)] at this; exact this
  have hD : DP M lo 0 = 0 := rfl
  unfold PS
  rw [h44, h43, h42, h45, hB, hW, Int.sub_self, hD]
  exact ⟨⟨by omega, h0, fun i a b => absurd b (by omega)⟩, ⟨rfl, by omega⟩, ⟨Int.le_refl _, fun i a b => absurd b (by omega), by omega⟩, by omega, fun _ => by omega, fun _ => by omega⟩
/-- a not or a bracket is laid on -/
theorem PS_pw {lo pd u : Int} {M M' : MM} (h : PS 0 lo M) (hpd : M.1 210 44 = pd) (e239 : ∀ i, i < pd → M'.1 239 i = M.1 239 i) (e240 : ∀ i, i < pd → M'.1 240 i = M.1 240 i) (e237 : ∀ i, i < M.1 210 42 → M'.1 237 i = M.1 237 i) (hv : M'.1 239 pd = 3 ∨ M'.1 239 pd = 7) (hs : M'.1 240 pd = 126) (h44 : M'.1 210 44 = pd + 1) (h43 : M'.1 210 43 = M.1 210 43 + 1) (h42 : M'.1 210 42 = M.1 210 42) (h45 : M'.1 210 45 = M.1 210 45 + u) (hu : 0 ≤ u) : PS 0 lo M' := by
  obtain ⟨⟨a1, a2, a3⟩, ⟨b1, b2⟩, ⟨c1, c2, c3⟩, d1, d2, d3⟩ := h
  have d2' := d2 rfl
  have hB : CB M' (pd + 1) = CB M pd := by rw [CB_s (by omega), CB_e (M := M) (fun i _ q => e239 i (by omega)), tb_i (by omega)]; omega
  have hW : CW M' (pd + 1) = CW M pd + 1 := by rw [CW_s (by omega), CW_e (M := M) (fun i _ q => e239 i (by omega)), tw_i (by omega)]
  have hD : DP M' lo (M.1 210 42 - lo) = DP M lo (M.1 210 42 - lo) := DP_e (fun i _ _ => e237 _ (by omega))
  rw [hpd] at a1 a3 b1 b2 c3 d1 d2'
  unfold PS
  rw [h44, h43, h42, h45, hB, hW, hD, e239 0 (by omega)]
  refine ⟨⟨by omega, a2, fun i p q => ?_⟩, ⟨by omega, by omega⟩, ⟨c1, WC_e c2 (fun i _ _ => e237 _ (by omega)), c3⟩, by omega, fun _ => by omega, fun e => absurd e (by omega)⟩
  by_cases c : i = pd
  · rw [c]; exact ⟨by omega, fun _ => hs, fun x y => absurd y (by omega)⟩
  · rw [e239 i (by omega), e240 i (by omega)]; exact a3 i p (by omega)
/-- a unit is written -/
theorem PS_em {lo cd : Int} {M M' : MM} (h : PS 0 lo M) (hcd : M.1 210 42 = cd) (h7 : M.1 210 43 ≤ 7) (h30 : M.1 210 45 ≤ 29) (e239 : ∀ i, i < M.1 210 44 → M'.1 239 i = M.1 239 i) (e240 : ∀ i, i < M.1 210 44 → M'.1 240 i = M.1 240 i) (e237 : ∀ i, i < cd → M'.1 237 i = M.1 237 i) (hv : 97 ≤ M'.1 237 cd ∧ M'.1 237 cd ≤ 122) (h44 : M'.1 210 44 = M.1 210 44) (h43 : M'.1 210 43 = M.1 210 43) (h42 : M'.1 210 42 = cd + 1) (h45 : M'.1 210 45 = M.1 210 45 + 1) : PS 1 lo M' := by
  obtain ⟨⟨a1, a2, a3⟩, ⟨b1, b2⟩, ⟨c1, c2, c3⟩, d1, d2, d3⟩ := h
  have d2' := d2 rfl
  have hB : CB M' (M.1 210 44) = CB M (M.1 210 44) := CB_e (fun i _ q => e239 i q)
  have hW : CW M' (M.1 210 44) = CW M (M.1 210 44) := CW_e (fun i _ q => e239 i q)
  have hD : DP M' lo (cd - lo) = DP M lo (cd - lo) := DP_e (fun i _ q => e237 _ (by omega))
  have hD1 : DP M' lo (cd - lo + 1) = DP M lo (cd - lo) + 1 := by rw [DP_s (by omega), hD, show lo + (cd - lo) = cd by omega, td_l hv]
  have hp := CB_p M (M.1 210 44)
  rw [hcd] at c1 c2 c3 d2'
  unfold PS
  rw [h44, h43, h42, h45, hB, hW, show cd + 1 - lo = cd - lo + 1 by omega, hD1, e239 0 (by omega)]
  refine ⟨⟨a1, a2, fun i p q => by rw [e239 i q, e240 i q]; exact a3 i p q⟩, ⟨b1, b2⟩, ⟨by omega, ?_, by omega⟩, by omega, fun e => absurd e (by omega), fun _ => by omega⟩
  refine WC_s (WC_e c2 (fun i _ q => e237 _ (by omega))) ?_ ?_ ?_ ?_
  · rw [show lo + (cd - lo) = cd by omega]; intro e; omega
  · rw [show lo + (cd - lo) = cd by omega]; intro e; exact absurd hv e.2
  · rw [hD]; omega
  · rw [hD]; omega
/-- the top is taken off and written -/
theorem PS_po {lo cd pd : Int} {M M' : MM} (h : PS 1 lo M) (hcd : M.1 210 42 = cd) (hpd : M.1 210 44 = pd) (h30 : M.1 210 45 ≤ 30) (e239 : ∀ i, i < pd → M'.1 239 i = M.1 239 i) (e240 : ∀ i, i < pd → M'.1 240 i = M.1 240 i) (e237 : ∀ i, i < cd → M'.1 237 i = M.1 237 i) (ht : M.1 239 (pd - 1) ≤ 6) (hv : M'.1 237 cd = M.1 240 (pd - 1)) (h44 : M'.1 210 44 = pd - 1) (h43 : M'.1 210 43 = M.1 210 43 - tw (M.1 239 (pd - 1))) (h42 : M'.1 210 42 = cd + 1) (h45 : M'.1 210 45 = M.1 210 45) : PS 1 lo M' := by
  obtain ⟨⟨a1, a2, a3⟩, ⟨b1, b2⟩, ⟨c1, c2, c3⟩, d1, d2, d3⟩ := h
  have d3' := d3 rfl
  rw [hcd] at c1 c2 c3 d3'
  rw [hpd] at a1 a3 b1 b2 c3 d1 d3'
  have hp1 : pd ≠ 1 := by intro e; rw [e] at ht; rw [show (1 : Int) - 1 = 0 by omega, a2] at ht; omega
  have ha := a3 (pd - 1) (by omega) (by omega)
  have hB : CB M' (pd - 1) = CB M (pd - 1) := CB_e (fun i _ q => e239 i (by omega))
  have hW : CW M' (pd - 1) = CW M (pd - 1) := CW_e (fun i _ q => e239 i (by omega))
  have sB := CB_s (M := M) (x := pd - 1) (by omega)
  have sW := CW_s (M := M) (x := pd - 1) (by omega)
  rw [show pd - 1 + 1 = pd by omega] at sB sW
  have hD : DP M' lo (cd - lo) = DP M lo (cd - lo) := DP_e (fun i _ q => e237 _ (by omega))
  have hD1 : DP M' lo (cd - lo + 1) = DP M lo (cd - lo) + td (M.1 240 (pd - 1)) := by rw [DP_s (by omega), hD, show lo + (cd - lo) = cd by omega, hv]
  have p1 := CB_p M (pd - 1)
  have p2 := CW_p M (pd - 1)
  have key : (M.1 239 (pd - 1) = 3 ∧ td (M.1 240 (pd - 1)) = 0 ∧ tb (M.1 239 (pd - 1)) = 0 ∧ tw (M.1 239 (pd - 1)) = 1 ∧ M.1 240 (pd - 1) = 126) ∨ (bin (M.1 240 (pd - 1)) ∧ td (M.1 240 (pd - 1)) = -1 ∧ tb (M.1 239 (pd - 1)) = 1 ∧ tw (M.1 239 (pd - 1)) = 0) := by
    by_cases c : M.1 239 (pd - 1) = 3
    · left
      have := ha.2.1 c
      exact ⟨c, by rw [this]; rfl, tb_i (by omega), tw_i (by omega), this⟩
    · right
      have := ha.2.2 c ht
      exact ⟨this, td_b this, tb_o (by omega), tw_o (by omega)⟩
  unfold PS
  rw [h44, h43, h42, h45, hB, hW, show cd + 1 - lo = cd - lo + 1 by omega, hD1, e239 0 (by omega)]
  refine ⟨⟨by omega, a2, fun i p q => by rw [e239 i (by omega), e240 i (by omega)]; exact a3 i p (by omega)⟩, ⟨by omega, ?_⟩, ⟨by omega, ?_, ?_⟩, ?_, fun e => absurd e (by omega), fun _ => ?_⟩
  · rcases key with q | q <;> omega
  · refine WC_s (WC_e c2 (fun i _ q => e237 _ (by omega))) ?_ ?_ ?_ ?_
    · intro _; rw [hD]; omega
    · rw [show lo + (cd - lo) = cd by omega, hv, hD]
      intro e
      rcases key with q | q
      · exact absurd q.2.2.2.2 e.1
      · omega
    · rw [hD]; omega
    · rw [hD]; omega
  · rcases key with q | q <;> omega
  · rcases key with q | q <;> omega
  · rcases key with q | q <;> omega
/-- a sign between two is laid on -/
theorem PS_pb {lo pd : Int} {M M' : MM} (h : PS 1 lo M) (hpd : M.1 210 44 = pd) (h0 : 0 ≤ M.1 210 43) (e239 : ∀ i, i < pd → M'.1 239 i = M.1 239 i) (e240 : ∀ i, i < pd → M'.1 240 i = M.1 240 i) (e237 : ∀ i, i < M.1 210 42 → M'.1 237 i = M.1 237 i) (hv : 1 ≤ M'.1 239 pd ∧ M'.1 239 pd ≤ 6 ∧ M'.1 239 pd ≠ 3) (hs : bin (M'.1 240 pd)) (h44 : M'.1 210 44 = pd + 1) (h43 : M'.1 210 43 = M.1 210 43) (h42 : M'.1 210 42 = M.1 210 42) (h45 : M'.1 210 45 = M.1 210 45) : PS 0 lo M' := by
  obtain ⟨⟨a1, a2, a3⟩, ⟨b1, b2⟩, ⟨c1, c2, c3⟩, d1, d2, d3⟩ := h
  have d3' := d3 rfl
  have hB : CB M' (pd + 1) = CB M pd + 1 := by rw [CB_s (by omega), CB_e (M := M) (fun i _ q => e239 i (by omega)), tb_o (by omega)]
  have hW : CW M' (pd + 1) = CW M pd := by rw [CW_s (by omega), CW_e (M := M) (fun i _ q => e239 i (by omega)), tw_o (by omega)]; omega
  have hD : DP M' lo (M.1 210 42 - lo) = DP M lo (M.1 210 42 - lo) := DP_e (fun i _ _ => e237 _ (by omega))
  rw [hpd] at a1 a3 b1 b2 c3 d1 d3'
  unfold PS
  rw [h44, h43, h42, h45, hB, hW, hD, e239 0 (by omega)]
  refine ⟨⟨by omega, a2, fun i p q => ?_⟩, ⟨by omega, by omega⟩, ⟨c1, WC_e c2 (fun i _ _ => e237 _ (by omega)), by omega⟩, by omega, fun _ => by omega, fun e => absurd e (by omega)⟩
  by_cases c : i = pd
  · rw [c]; exact ⟨by omega, fun x => absurd x (by omega), fun _ _ => hs⟩
  · rw [e239 i (by omega), e240 i (by omega)]; exact a3 i p (by omega)
/-- a bracket is taken off -/
theorem PS_pk {lo pd : Int} {M M' : MM} (h : PS 1 lo M) (hpd : M.1 210 44 = pd) (e239 : ∀ i, i < pd → M'.1 239 i = M.1 239 i) (e240 : ∀ i, i < pd → M'.1 240 i = M.1 240 i) (e237 : ∀ i, i < M.1 210 42 → M'.1 237 i = M.1 237 i) (ht : M.1 239 (pd - 1) = 7) (h44 : M'.1 210 44 = pd - 1) (h43 : M'.1 210 43 = M.1 210 43 - 1) (h42 : M'.1 210 42 = M.1 210 42) (h45 : M'.1 210 45 = M.1 210 45) : PS 1 lo M' := by
  obtain ⟨⟨a1, a2, a3⟩, ⟨b1, b2⟩, ⟨c1, c2, c3⟩, d1, d2, d3⟩ := h
  have d3' := d3 rfl
  rw [hpd] at a1 a3 b1 b2 c3 d1 d3'
  have hp1 : pd ≠ 1 := by intro e; rw [e] at ht; rw [show (1 : Int) - 1 = 0 by omega, a2] at ht; omega
  have hB : CB M' (pd - 1) = CB M (pd - 1) := CB_e (fun i _ q => e239 i (by omega))
  have hW : CW M' (pd - 1) = CW M (pd - 1) := CW_e (fun i _ q => e239 i (by omega))
  have hD : DP M' lo (M.1 210 42 - lo) = DP M lo (M.1 210 42 - lo) := DP_e (fun i _ _ => e237 _ (by omega))
  have sB := CB_s (M := M) (x := pd - 1) (by omega)
  have sW := CW_s (M := M) (x := pd - 1) (by omega)
  rw [show pd - 1 + 1 = pd by omega] at sB sW
  rw [tb_i (by omega)] at sB
  rw [tw_i (by omega)] at sW
  unfold PS
  rw [h44, h43, h42, h45, hB, hW, hD, e239 0 (by omega)]
  exact ⟨⟨by omega, a2, fun i p q => by rw [e239 i (by omega), e240 i (by omega)]; exact a3 i p (by omega)⟩, ⟨by omega, by omega⟩, ⟨c1, WC_e c2 (fun i _ _ => e237 _ (by omega)), by omega⟩, by omega, fun e => absurd e (by omega), fun _ => by omega⟩
/-- the rule is read -/
def DN (lo : Int) (M : MM) : Prop := lo ≤ M.1 210 42 ∧ M.1 210 42 - lo ≤ 278 ∧ WC M lo (M.1 210 42 - lo)
theorem PS_dn {lo : Int} {M M' : MM} (h : PS 1 lo M) (h7 : M.1 210 43 ≤ 7) (h30 : M.1 210 45 ≤ 30) (e237 : ∀ i, i < M.1 210 42 → M'.1 237 i = M.1 237 i) (h42 : M'.1 210 42 = M.1 210 42) : DN lo M' := by
  have hb := PS_b h (Or.inr rfl) h7 h30
  unfold DN
  rw [h42]
  exact ⟨hb.2.2.2.1, hb.2.2.2.2, WC_e h.2.2.1.2.1 (fun i _ _ => e237 _ (by omega))⟩
theorem DN_dp {lo : Int} {M M' : MM} (h : DN lo M) (e : ∀ a b, (a = 210 ∧ 42 ≤ b ∧ b ≤ 42) ∨ a = 237 → M'.1 a b = M.1 a b) : DN lo M' := by
  unfold DN at *
  rw [e 210 42 (by omega)]
  exact ⟨h.1, h.2.1, WC_e h.2.2 (fun i _ _ => e 237 _ (by omega))⟩
def PT (z lo : Int) (M : MM) : Prop := (M.1 210 44 = 0 ∧ DN lo M) ∨ PS (1 - z) lo M
theorem PT_dp {z lo : Int} {M M' : MM} (h : PT z lo M) (e : ∀ a b, (a = 210 ∧ 42 ≤ b ∧ b ≤ 45) ∨ a = 237 ∨ a = 239 ∨ a = 240 → M'.1 a b = M.1 a b) : PT z lo M' := by
  rcases h with h | h
  · exact Or.inl ⟨by rw [e 210 44 (by omega)]; exact h.1, DN_dp h.2 (fun a b r => e a b (by omega))⟩
  · exact Or.inr (PS_dp h e)
theorem PT_1 {lo : Int} {M : MM} (h : PS 0 lo M) : PT 1 lo M := Or.inr h
theorem PT_0 {lo : Int} {M : MM} (h : PS 1 lo M) : PT 0 lo M := Or.inr h
theorem PT_ps {z lo : Int} {M : MM} (h : PT z lo M) (hp : ¬ M.1 210 44 ≤ 0) : PS (1 - z) lo M := h.elim (fun q => absurd q.1 (by omega)) id
theorem PT_dn {z lo : Int} {M : MM} (h : PT z lo M) (hp : M.1 210 44 ≤ 0) : DN lo M := h.elim (fun q => q.2) (fun q => absurd q.1.1 (by omega))
theorem PS_w1 {lo pd : Int} {M : MM} (h : PS 1 lo M) (hpd : M.1 210 44 = pd) (ht : M.1 239 (pd - 1) = 3 ∨ M.1 239 (pd - 1) = 7) : 1 ≤ M.1 210 43 ∧ 2 ≤ pd := by
  obtain ⟨⟨a1, a2, a3⟩, ⟨b1, b2⟩, _, _⟩ := h
  rw [hpd] at a1 b1
  have hp1 : pd ≠ 1 := by intro e; rw [e, show (1 : Int) - 1 = 0 by omega, a2] at ht; omega
  have sW := CW_s (M := M) (x := pd - 1) (by omega)
  rw [show pd - 1 + 1 = pd by omega, tw_i ht] at sW
  have := CW_p M (pd - 1)
  omega
theorem PS_8 {lo pd : Int} {M : MM} (h : PS 1 lo M) (hpd : M.1 210 44 = pd) (ht : 7 < M.1 239 (pd - 1)) : pd = 1 := by
  obtain ⟨⟨a1, a2, a3⟩, _, _, _⟩ := h
  rw [hpd] at a1 a3
  rcases Int.lt_or_eq_of_le a1 with q | q
  · have := (a3 (pd - 1) (by omega) (by omega)).1; omega
  · omega
/-- rows as they were -/
def RE (M0 M : MM) : Prop := ∀ i, M.1 239 i = M0.1 239 i ∧ M.1 240 i = M0.1 240 i
theorem RE_dp {M0 M M' : MM} (h : RE M0 M) (e : ∀ a b, a = 239 ∨ a = 240 → M'.1 a b = M.1 a b) : RE M0 M' := fun i => ⟨(e 239 i (by omega)).trans (h i).1, (e 240 i (by omega)).trans (h i).2⟩
theorem RE_rf {M : MM} : RE M M := fun _ => ⟨rfl, rfl⟩
def CF (M0 M : MM) : Prop := ∀ i, M.1 237 i = M0.1 237 i
theorem CF_dp {M0 M M' : MM} (h : CF M0 M) (e : ∀ a b, a = 237 → M'.1 a b = M.1 a b) : CF M0 M' := fun i => (e 237 i rfl).trans (h i)
theorem CF_rf {M : MM} : CF M M := fun _ => rfl
theorem re_w {M0 M : MM} {v j k : Int} (h : RE M0 M) (hv : v = M.1 239 j) (hj : j = k) : v = M0.1 239 k := by subst hj; rw [hv]; exact (h _).1
theorem re_s {M0 M : MM} {v j k : Int} (h : RE M0 M) (hv : v = M.1 240 j) (hj : j = k) : v = M0.1 240 k := by subst hj; rw [hv]; exact (h _).2
/-- a sign that joins two is no letter -/
def SQ (x : Int) (M : MM) : Prop := 4 ≤ x → sg M (M.1 210 6) ≤ 62
theorem SQ_dp {x : Int} {M M' : MM} (h : SQ x M) (e : ∀ a b, (a = 210 ∧ (b = 3 ∨ b = 6)) ∨ a = 212 → M'.1 a b = M.1 a b) : SQ x M' := by
  intro q
  have := h q
  unfold sg at *
  rw [e 210 6 (by omega), e 210 3 (by omega), e 212 _ (by omega)]
  exact this
theorem sq_at {x z a : Int} {M : MM} (h : SQ x M) (hz : z = sg M a) (ha : a = M.1 210 6) (hx : 4 ≤ x) : z ≤ 62 := by subst ha; rw [hz]; exact h hx
/-- a stored rule goes well -/
def RWF (w : Int) (M : MM) : Prop := 560 * w ≤ M.1 229 w ∧ M.1 229 w ≤ M.1 230 w ∧ M.1 230 w ≤ 560 * w + 559 ∧ WC M (M.1 229 w) (M.1 230 w - M.1 229 w)
theorem RWF_dp {w : Int} {M M' : MM} (h : RWF w M) (e : ∀ a b, (a = 229 ∧ b = w) ∨ (a = 230 ∧ b = w) ∨ (a = 237 ∧ 560 * w ≤ b ∧ b ≤ 560 * w + 559) → M'.1 a b = M.1 a b) : RWF w M' := by
  unfold RWF at *
  rw [e 229 w (by omega), e 230 w (by omega)]
  exact ⟨h.1, h.2.1, h.2.2.1, WC_e h.2.2.2 (fun i p q => e 237 _ (by omega))⟩
