theorem RV_sc {k n s j w : Int} {M M' : MM} (h : RV k n M) (hI : Iv M) (hs : Sc s) (e : M' = up M s j w) (hj : j ≠ 3) : RV k n M' := by
  intro i h0 h1
  have hb := sc_b hs
  have e2 : M'.1 27 i = M.1 27 i := by rw [e]; exact up_ne (by omega)
  rw [e2]
  have ha := sc_ap hs (hI.2 i)
  exact V_up (h i h0 h1) e (by omega) (by omega)
theorem RV_mod {k n s : Int} {P : Int → Int → Prop} {M M' : MM} (h : RV k n M) (hI : Iv M) (hV : V n s M') (hG : Fr P M M') (hp : ∀ a b, P a b → (s ≤ a ∧ a ≤ s + 2) ∨ 150 < a) (hs : Sc s) : RV k n M' := by
  intro i h0 h1
  have hb := sc_27 hI (i := i) rfl
  have hd := sc_b hs
  have e2 : M'.1 27 i = M.1 27 i := hG _ _ (fun q => by have := hp _ _ q; omega)
  rw [e2]
  by_cases e : M.1 27 i = s
  · rw [e]; exact hV
  · have h1' := sc_ap hs (hI.2 i)
    exact V_fr (h i h0 h1) hG (fun b q => by have := hp _ _ q; omega) (fun q => by have := hp _ _ q; omega)
