theorem RV_lift {k n : Int} {P : Int → Int → Prop} {M M' : MM} (h : RV k n M) (hI : Iv M) (hG : Fr P M M') (hp : ∀ a b, P a b → a < 27 ∨ 150 < a) : RV k n M' := by
  intro i h0 h1
  have hs := sc_27 hI (i := i) rfl
  have e2 : M'.1 27 i = M.1 27 i := hG _ _ (fun q => by have := hp _ _ q; omega)
  rw [e2]
  exact V_fr (h i h0 h1) hG (fun b q => by have := hp _ _ q; omega) (fun q => by have := hp _ _ q; omega)
theorem RV_fr {k n : Int} {P : Int → Int → Prop} {M M' : MM} (h : RV k n M) (hI : Iv M) (hG : Fr P M M') (hp : ∀ a b, P a b → a < 27 ∨ 150 < a) : RV k n M' := RV_lift h hI hG hp
theorem RV_up {k n c j w : Int} {M M' : MM} (h : RV k n M) (hI : Iv M) (e : M' = up M c j w) (hc : c < 27 ∨ 150 < c) : RV k n M' := by
  refine RV_lift (P := fun a _ => a = c) h hI (fun a b hab => ?_) (fun a b q => by rw [q]; exact hc)
  rw [e, up_ne (fun q => hab q.1)]
theorem RV_l {k n : Int} {M M' : MM} (h : RV k n M) (e : M'.1 = M.1) : RV k n M' := by
  intro i h0 h1
  rw [e]
  exact V_l (h i h0 h1) e
theorem RV_rot {k n : Int} {P : Int → Int → Prop} {M M' : MM} (h : RV k n M) (hk : 40 ≤ k) (hr : (∀ i, 0 ≤ i → i < 40 → M'.1 27 i = M.1 27 (i + 1)) ∧ M'.1 27 40 = M.1 27 0) (hG : Fr P M M') (hp : ∀ a b, P a b → a = 27) (hI : Iv M) : RV 39 n M' := by
  intro i h0 h1
  rw [hr.1 i h0 (by omega)]
  have hs := sc_27 hI (i := i + 1) rfl
  exact V_fr (h (i + 1) (by omega) (by omega)) hG (fun b q => by have := hp _ _ q; omega) (fun q => by have := hp _ _ q; omega)
theorem RV_copy {k n s j : Int} {P : Int → Int → Prop} {M M' : MM} (h : RV k n M) (hV : V n s M') (hG : Fr P M M') (hp : ∀ a b, P a b → s ≤ a ∧ a ≤ s + 2) (hs : Sc s) (e : s = M.1 27 j) (hj : j = k + 1) (hI : Iv M) : RV j n M' := by
  intro i h0 h1
  have hb := sc_27 hI e
  have e2 : ∀ i, M'.1 27 i = M.1 27 i := fun i => hG _ _ (fun q => by have := hp _ _ q; omega)
  rw [e2]
  by_cases hi : i = j
  · rw [hi, ← e]; exact hV
  · exact V_other hs (hI.2 i) (h i h0 (by omega)) hV hG hp
theorem RV_eq {j n : Int} {M : MM} (h : RV j n M) (e : M.1 26 2 = j) : RV (M.1 26 2) n M := by rw [e]; exact h
