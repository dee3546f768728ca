/-- the scenes behind the first x have moved down by one -/
def FO (x : Int) (M M' : MM) : Prop := (∀ i, 0 ≤ i → i < x → M'.1 27 i = M.1 27 (i + 1)) ∧ ∀ i, x ≤ i → M'.1 27 i = M.1 27 i
theorem FO_0 {M : MM} : FO 0 M M := ⟨fun i h0 h1 => by omega, fun _ _ => rfl⟩
theorem FO_put {x w : Int} {M M1 M2 : MM} (h : FO x M M1) (hx : 0 ≤ x) (e : M2 = up M1 27 x w) (hw : w = M1.1 27 (x + 1)) : FO (x + 1) M M2 := by
  refine ⟨fun i h0 h1 => ?_, fun i h0 => ?_⟩
  · by_cases hi : i = x
    · subst hi
      rw [e, up_eq, hw]
      exact h.2 _ (by omega)
    · rw [e, up_ne (fun q => hi q.2)]
      exact h.1 i h0 (by omega)
  · rw [e, up_ne (fun q => by omega)]
    exact h.2 i (by omega)
theorem FO_end {w : Int} {M M1 M2 : MM} (h : FO 40 M M1) (e : M2 = up M1 27 40 w) (hw : w = M.1 27 0) : (∀ i, 0 ≤ i → i < 40 → M2.1 27 i = M.1 27 (i + 1)) ∧ M2.1 27 40 = M.1 27 0 := by
  refine ⟨fun i h0 h1 => ?_, by rw [e, up_eq, hw]⟩
  rw [e, up_ne (fun q => by omega)]
  exact h.1 i h0 h1
theorem sc_27 {M : MM} {z i : Int} (hI : Iv M) (h : z = M.1 27 i) : 28 ≤ z ∧ z ≤ 148 := by
  rw [h]
  exact hI.at 27 i (ra_27 i)
/-- all scenes up to k fit -/
def RV (k n : Int) (M : MM) : Prop := ∀ i, 0 ≤ i → i ≤ k → V n (M.1 27 i) M
theorem V_other {n s t : Int} {P : Int → Int → Prop} {M M' : MM} (hs : Sc s) (ht : Sc t) (h : V n t M) (hV : V n s M') (hG : Fr P M M') (hP : ∀ a b, P a b → s ≤ a ∧ a ≤ s + 2) : V n t M' := by
  by_cases e : t = s
  · rw [e]; exact hV
  · have h1 := sc_ap hs ht
    exact V_fr h hG (fun b q => by have := hP _ _ q; omega) (fun q => by have := hP _ _ q; omega)
