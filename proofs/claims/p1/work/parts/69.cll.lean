/-! rings, boxes, what holds of the class between calls -/
def FB (a n : Int) : Prop := ∀ o, 0 ≤ o → o < n → bt a o = 1
theorem FB_full {n m z : Int} (hz : z = (Int32.ofInt 1 <<< (Int32.ofInt m &&& 31)).toInt) (hm : m = n) (hn : 0 ≤ n ∧ n ≤ 6) : FB (z - 1) n := by
  subst hz; subst hm
  intro o h0 h1
  obtain ⟨i, hi, e⟩ : ∃ i : Nat, i < 7 ∧ m = (i : Int) := ⟨m.toNat, by omega, by omega⟩
  obtain ⟨j, hj, e2⟩ : ∃ j : Nat, j < 6 ∧ o = (j : Int) := ⟨o.toNat, by omega, by omega⟩
  subst e; subst e2
  exact (by decide +kernel : ∀ i : Nat, i < 7 → ∀ j : Nat, j < 6 → (j : Int) < (i : Int) → bt ((Int32.ofInt 1 <<< (Int32.ofInt (i : Int) &&& 31)).toInt - 1) (j : Int) = 1) i hi j hj h1
def PW (k n : Int) (M : MM) : Prop := ∀ r, 0 ≤ r → r < k → 0 ≤ M.1 162 r ∧ M.1 162 r < n
def PU (a n : Int) (M : MM) : Prop := FB a n ∨ PW n n M
def PQ (a k n : Int) (M : MM) : Prop := PW k n M ∧ PU a n M
theorem PU_w (a : Int) {n : Int} {M : MM} (h : PW n n M) : PU a n M := Or.inr h
theorem PW_dp {k n : Int} {M M' : MM} (h : PW k n M) (e : ∀ a b, a = 162 → M'.1 a b = M.1 a b) : PW k n M' := fun r a b => by rw [e 162 r rfl]; exact h r a b
theorem PU_dp {a n : Int} {M M' : MM} (h : PU a n M) (e : ∀ a b, a = 162 → M'.1 a b = M.1 a b) : PU a n M' := h.elim Or.inl (fun q => Or.inr (PW_dp q e))
theorem PQ_dp {a k n : Int} {M M' : MM} (h : PQ a k n M) (e : ∀ a b, a = 162 → M'.1 a b = M.1 a b) : PQ a k n M' := ⟨PW_dp h.1 e, PU_dp h.2 e⟩
theorem PW_put {k n j w v : Int} {M M' : MM} (h : PW k n M) (e : M' = up M 162 j w) (hw : w = v) (hv : 0 ≤ v ∧ v < n) : PW k n M' := by
  intro r a b
  by_cases c : r = j
  · rw [e, c, up_eq, hw]; exact hv
  · rw [e, up_ne (fun q => c q.2)]; exact h r a b
theorem PQ_0 {a n : Int} {M : MM} (h : PU a n M) : PQ a 0 n M := ⟨fun r p q => absurd q (by omega), h⟩
theorem PQ_put {a k n j w v : Int} {M M' : MM} (h : PQ a k n M) (e : M' = up M 162 j w) (hw : w = v) (hv : 0 ≤ v ∧ v < n) : PQ a k n M' := ⟨PW_put h.1 e hw hv, h.2.elim Or.inl (fun q => Or.inr (PW_put q e hw hv))⟩
theorem PQ_s {a k n x y : Int} {M : MM} (h : PQ a k n M) (h0 : 0 ≤ k ∧ k < n) (h5 : 0 ≤ x → 0 ≤ M.1 162 k ∧ M.1 162 k < n) (h6 : FB a n → 1 ≤ y → 0 ≤ x) (hy : n ≤ y) : PQ a (k + 1) n M := by
  refine ⟨fun r p q => ?_, h.2⟩
  by_cases c : r = k
  · rw [c]
    rcases h.2 with f | f
    · exact h5 (h6 f (by omega))
    · exact f k h0.1 h0.2
  · exact h.1 r p (by omega)
theorem PQ_end {a k n : Int} {M : MM} (h : PQ a k n M) (hk : n ≤ k) : PW n n M := fun r p q => h.1 r p (by omega)
theorem PW_at {n v i : Int} {M : MM} (h : PW n n M) (hv : v = M.1 162 i) (h0 : 0 ≤ i) (h1 : i < n) : 0 ≤ v ∧ v < n := by rw [hv]; exact h i h0 h1
/-- filled boxes fit -/
def BF (n : Int) (M : MM) : Prop := (0 ≤ M.1 0 9 ∧ M.1 0 9 < 64) ∧ ∀ k, 0 ≤ k → k < 3 → bt (M.1 0 9) k = 1 → V n (201 + 3 * k) M
theorem BF_0 {n : Int} {M : MM} (h : M.1 0 9 = 0) : BF n M := ⟨by omega, fun k a b q => absurd q (by rw [h, bt_0 a (by omega)]; decide)⟩
theorem BF_fr {n : Int} {P : Int → Int → Prop} {M M' : MM} (h : BF n M) (hG : Fr P M M') (hp : ∀ a b, P a b → ¬ ((a = 0 ∧ b = 9) ∨ (201 ≤ a ∧ a ≤ 209))) : BF n M' := by
  have e : M'.1 0 9 = M.1 0 9 := hG _ _ (fun q => hp _ _ q (by omega))
  unfold BF
  rw [e]
  exact ⟨h.1, fun k a b q => V_fr (h.2 k a b q) hG (fun c z => hp _ _ z (by omega)) (fun z => hp _ _ z (by omega))⟩
theorem BF_at {n k z : Int} {M : MM} (h : BF n M) (h0 : 0 ≤ k) (h1 : k < 3) (hz : z = bt (M.1 0 9) k) (hz1 : ¬ z = 0) : V n (201 + 3 * k) M := h.2 k h0 h1 ((bt_or _ _).elim (fun q => absurd (hz.trans q) hz1) id)
theorem orb_rr {s k z : Int} (h : z = orb s k) (h0 : 0 ≤ s) (h1 : s < 64) (k0 : 0 ≤ k) (k1 : k < 6) : 0 ≤ z ∧ z < 64 := by
  subst h
  obtain ⟨i, hi, e⟩ : ∃ i : Nat, i < 64 ∧ s = (i : Int) := ⟨s.toNat, by omega, by omega⟩
  obtain ⟨j, hj, e2⟩ : ∃ j : Nat, j < 6 ∧ k = (j : Int) := ⟨k.toNat, by omega, by omega⟩
  subst e; subst e2
  exact (by decide +kernel : ∀ i : Nat, i < 64 → ∀ j : Nat, j < 6 → 0 ≤ orb (i : Int) (j : Int) ∧ orb (i : Int) (j : Int) < 64) i hi j hj
theorem BF_im {n a s w f v : Int} {P : Int → Int → Prop} {M M1 M' : MM} (h : BF n M) (h0 : 0 ≤ a) (h1 : a < 3) (hs : s = 201 + 3 * a) (hV : V n s M1) (hG : Fr P M M1) (hp : ∀ c b, P c b → s ≤ c ∧ c ≤ s + 2) (hf : M.1 0 9 = f) (e : M' = up M1 0 9 w) (hw : w = v) (hv : v = orb f a) : BF n M' := by
  subst hs; subst hw; subst hf
  have hl := h.1
  refine ⟨?_, fun k p q r => ?_⟩
  · rw [e, up_eq]
    exact orb_rr hv hl.1 hl.2 h0 (by omega)
  · rw [e, up_eq, orb_b hv hl.1 hl.2 h0 (by omega) p (by omega)] at r
    refine V_up ?_ e (by omega) (by omega)
    by_cases c : k = a
    · rw [c]; exact hV
    · rw [if_neg c] at r
      exact V_fr (h.2 k p q r) hG (fun b z => by have := hp _ _ z; omega) (fun z => by have := hp _ _ z; omega)
theorem RV_0 {n : Int} {M : MM} (h : V n (M.1 27 0) M) (e : M.1 26 2 = 0) : RV (M.1 26 2) n M := by
  intro i a b
  have : i = 0 := by omega
  subst this
  exact h
/-- the class between calls -/
def CI0 (q n : Int) (M : MM) : Prop := (q = 5 ∨ q = 180) ∧ M.1 q 0 = n ∧ M.1 1 1 = 185 - q ∧ KNo M ∧ M.1 26 1 ≤ M.1 26 2 ∧ RV (M.1 26 2) n M ∧ BF n M
def CIv (M : MM) : Prop := CI0 (M.1 0 8) (M.1 (M.1 0 8) 0) M
theorem CI_mk {q n : Int} {M : MM} (h8 : M.1 0 8 = q) (hq : q = 5 ∨ q = 180) (hn : M.1 q 0 = n) (h11 : M.1 1 1 = 185 - q) (hk : KNo M) (ha : M.1 26 1 ≤ M.1 26 2) (hR : RV (M.1 26 2) n M) (hB : BF n M) : CIv M := by
  unfold CIv
  rw [h8, hn]
  exact ⟨hq, hn, h11, hk, ha, hR, hB⟩
theorem CI_fr {P : Int → Int → Prop} {M M' : MM} (h : CIv M) (hI : Iv M) (hG : Fr P M M') (hp : ∀ a b, P a b → ¬ ((a = 0 ∧ (b = 8 ∨ b = 9)) ∨ (a = 1 ∧ b = 1) ∨ (a = 2 ∧ (b = 4 ∨ b = 6)) ∨ ((a = 5 ∨ a = 180) ∧ b = 0) ∨ (26 ≤ a ∧ a ≤ 150) ∨ (201 ≤ a ∧ a ≤ 209))) : CIv M' := by
  obtain ⟨hq, hn, h11, hk, ha, hR, hB⟩ := h
  have e : ∀ a b, ((a = 0 ∧ (b = 8 ∨ b = 9)) ∨ (a = 1 ∧ b = 1) ∨ (a = 2 ∧ (b = 4 ∨ b = 6)) ∨ ((a = 5 ∨ a = 180) ∧ b = 0) ∨ (26 ≤ a ∧ a ≤ 150) ∨ (201 ≤ a ∧ a ≤ 209)) → M'.1 a b = M.1 a b := fun a b q => hG a b (fun z => hp a b z q)
  have e8 := e 0 8 (by omega)
  refine CI_mk e8 hq (e _ _ (by omega)) ((e 1 1 (by omega)).trans h11) (KN_fr hk hG (fun z => hp _ _ z (by omega)) (fun z => hp _ _ z (by omega))) (by rw [e 26 1 (by omega), e 26 2 (by omega)]; exact ha) ?_ (BF_fr hB hG (fun a b z w => hp a b z (by omega)))
  rw [e 26 2 (by omega)]
  exact RV_fr hR hI hG (fun a b z => by
    have := hp a b z
    rcases Int.lt_or_le a 27 with q | q
    · exact Or.inl q
    · refine Or.inr ?_
      rcases Int.lt_or_le 150 a with r | r
      · exact r
      · exact absurd (by omega) this)
theorem CI_act {P : Int → Int → Prop} {M M' : MM} (h : CIv M) (hG : Fr P M M') (hp : ∀ a b, P a b → ¬ ((a = 0 ∧ (b = 8 ∨ b = 9)) ∨ (a = 1 ∧ b = 1) ∨ (a = 2 ∧ (b = 4 ∨ b = 6)) ∨ ((a = 5 ∨ a = 180) ∧ b = 0) ∨ (201 ≤ a ∧ a ≤ 209))) (ha : M'.1 26 1 ≤ M'.1 26 2) (hR : RV (M'.1 26 2) (M.1 (M.1 0 8) 0) M') : CIv M' := by
  obtain ⟨hq, hn, h11, hk, _, _, hB⟩ := h
  have e : ∀ a b, ((a = 0 ∧ (b = 8 ∨ b = 9)) ∨ (a = 1 ∧ b = 1) ∨ (a = 2 ∧ (b = 4 ∨ b = 6)) ∨ ((a = 5 ∨ a = 180) ∧ b = 0) ∨ (201 ≤ a ∧ a ≤ 209)) → M'.1 a b = M.1 a b := fun a b q => hG a b (fun z => hp a b z q)
  exact CI_mk (e 0 8 (by omega)) hq (e _ _ (by omega)) ((e 1 1 (by omega)).trans h11) (KN_fr hk hG (fun z => hp _ _ z (by omega)) (fun z => hp _ _ z (by omega))) ha hR (BF_fr hB hG (fun a b z w => hp a b z (by omega)))
theorem btf {z f a : Int} {M : MM} (h : z = bt f a) (hf : M.1 0 9 = f) : z = bt (M.1 0 9) a := by rw [hf]; exact h
theorem CI_rd {P : Int → Int → Prop} {q2 : Int} {M M' : MM} (h : CIv M) (hI : Iv M) (hG : Fr P M M') (hp : ∀ a b, P a b → (a = 1 ∧ 2 ≤ b ∧ b ≤ 4) ∨ (a = 2 ∧ 3 ≤ b ∧ b ≤ 6) ∨ (q2 ≤ a ∧ a ≤ q2 + 20)) (h2 : q2 = 185 - M.1 0 8) (hk : KNo M') : CIv M' := by
  obtain ⟨hq, hn, h11, _, ha, hR, hB⟩ := h
  have e : ∀ a b, ((a = 0 ∧ (b = 8 ∨ b = 9)) ∨ (a = 1 ∧ b = 1) ∨ (a = M.1 0 8 ∧ b = 0) ∨ (26 ≤ a ∧ a ≤ 150) ∨ (201 ≤ a ∧ a ≤ 209)) → M'.1 a b = M.1 a b := fun a b q => hG a b (fun z => by have := hp a b z; omega)
  refine CI_mk (e 0 8 (by omega)) hq (e _ _ (by omega)) ((e 1 1 (by omega)).trans h11) hk (by rw [e 26 1 (by omega), e 26 2 (by omega)]; exact ha) ?_ (BF_fr hB hG (fun a b z w => by have := hp a b z; omega))
  rw [e 26 2 (by omega)]
  exact RV_fr hR hI hG (fun a b z => by have := hp a b z; omega)
