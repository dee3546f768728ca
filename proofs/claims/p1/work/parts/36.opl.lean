theorem sc_156 {M : MM} {z i : Int} (hI : Iv M) (h : z = M.1 156 i) (h0 : 0 ≤ i) (h1 : i < 3) : 201 ≤ z ∧ z ≤ 207 := by
  rw [h, fbx hI h0 h1]
  omega
/-- the scene that is now fits -/
def Vn (n : Int) (M : MM) : Prop := V n (M.1 27 (M.1 26 1)) M
theorem Vn_up {n k j w : Int} {M M' : MM} (h : Vn n M) (hI : Iv M) (e : M' = up M k j w) (hk : k < 26 ∨ 150 < k) : Vn n M' := by
  unfold Vn at h ⊢
  have h1 := sc_27 hI (i := M.1 26 1) rfl
  have e1 : M'.1 26 1 = M.1 26 1 := by rw [e]; exact up_ne (by omega)
  have e2 : M'.1 27 (M.1 26 1) = M.1 27 (M.1 26 1) := by rw [e]; exact up_ne (by omega)
  rw [e1, e2]
  exact V_up h e (by omega) (by omega)
theorem Vn_l {n : Int} {M M' : MM} (h : Vn n M) (e : M'.1 = M.1) : Vn n M' := by
  unfold Vn at h ⊢
  rw [e]
  exact V_l h e
theorem Vn_fr {n : Int} {P : Int → Int → Prop} {M M' : MM} (h : Vn n M) (hI : Iv M) (hG : Fr P M M') (hp : ∀ a b, P a b → a < 26 ∨ 150 < a) : Vn n M' := by
  unfold Vn at h ⊢
  have h1 := sc_27 hI (i := M.1 26 1) rfl
  have e1 : M'.1 26 1 = M.1 26 1 := hG _ _ (fun q => by have := hp _ _ q; omega)
  have e2 : M'.1 27 (M.1 26 1) = M.1 27 (M.1 26 1) := hG _ _ (fun q => by have := hp _ _ q; omega)
  rw [e1, e2]
  exact V_fr h hG (fun b q => by have := hp _ _ q; omega) (fun q => by have := hp _ _ q; omega)
