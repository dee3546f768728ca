/-! a scene that fits a quarter of n rooms -/
def VR (n s : Int) (M : MM) : Prop := ∀ r, 0 ≤ r → r < 6 → (r < n → 0 ≤ M.1 (s + 1) r ∧ M.1 (s + 1) r < n) ∧ (n ≤ r → M.1 (s + 1) r = -1)
theorem VR_keep {n s : Int} {M M' : MM} (h : VR n s M) (e : ∀ b, M'.1 (s + 1) b = M.1 (s + 1) b) : VR n s M' := fun r h0 h1 => by rw [e r]; exact h r h0 h1
theorem VR_at {n s v i : Int} {M : MM} (h : VR n s M) (hv : v = M.1 (s + 1) i) (h0 : 0 ≤ i) (h1 : i < 6) : (i < n → 0 ≤ v ∧ v < n) ∧ (n ≤ i → v = -1) := by rw [hv]; exact h i h0 h1
theorem VR_put {n s j w : Int} {M M' : MM} (h : VR n s M) (e : M' = up M (s + 1) j w) (hw : (j < n → 0 ≤ w ∧ w < n) ∧ (n ≤ j → w = -1)) : VR n s M' := by
  intro r h0 h1
  by_cases hr : r = j
  · subst hr
    rw [e, up_eq]
    exact hw
  · rw [e, up_ne (fun q => hr q.2)]
    exact h r h0 h1
theorem VR_copy {n s t : Int} {M M' : MM} (h : VR n t M) (e : ∀ r, 0 ≤ r → r < 6 → M'.1 (s + 1) r = M.1 (t + 1) r) : VR n s M' := fun r h0 h1 => by rw [e r h0 h1]; exact h r h0 h1
/-- the windows told: each room of n shows one of them -/
def VQ (n q : Int) (M : MM) : Prop := ∀ r, 0 ≤ r → r < n → 0 ≤ M.1 (q + 6) r ∧ M.1 (q + 6) r < n
theorem VQ_keep {n q : Int} {M M' : MM} (h : VQ n q M) (e : ∀ b, M'.1 (q + 6) b = M.1 (q + 6) b) : VQ n q M' := fun r h0 h1 => by rw [e r]; exact h r h0 h1
theorem VQ_at {n q v i : Int} {M : MM} (h : VQ n q M) (hv : v = M.1 (q + 6) i) (h0 : 0 ≤ i) : i < n → 0 ≤ v ∧ v < n := fun h1 => by rw [hv]; exact h i h0 h1
/-- the first k places stand -/
def Vp (k n s : Int) (M : MM) : Prop := ∀ r, 0 ≤ r → r < k → (r < n → 0 ≤ M.1 (s + 1) r ∧ M.1 (s + 1) r < n) ∧ (n ≤ r → M.1 (s + 1) r = -1)
theorem Vp_0 {n s : Int} {M : MM} : Vp 0 n s M := fun r h0 h1 => by omega
theorem Vp_put {k n s w : Int} {M M' : MM} (h : Vp k n s M) (e : M' = up M (s + 1) k w) (hw : (k < n → 0 ≤ w ∧ w < n) ∧ (n ≤ k → w = -1)) : Vp (k + 1) n s M' := by
  intro r h0 h1
  by_cases hr : r = k
  · subst hr
    rw [e, up_eq]
    exact hw
  · rw [e, up_ne (fun q => hr q.2)]
    exact h r h0 (by omega)
theorem Vp_keep {k n s : Int} {M M' : MM} (h : Vp k n s M) (e : ∀ b, M'.1 (s + 1) b = M.1 (s + 1) b) : Vp k n s M' := fun r h0 h1 => by rw [e r]; exact h r h0 h1
theorem Vp_full {k n s : Int} {M : MM} (h : Vp k n s M) (hk : 6 ≤ k) : VR n s M := fun r h0 h1 => h r h0 (by omega)
/-- the first k told windows stand -/
def Vr (k n q : Int) (M : MM) : Prop := ∀ r, 0 ≤ r → r < k → 0 ≤ M.1 (q + 6) r ∧ M.1 (q + 6) r < n
theorem Vr_0 {n q : Int} {M : MM} : Vr 0 n q M := fun r h0 h1 => by omega
theorem Vr_put {k n q w : Int} {M M' : MM} (h : Vr k n q M) (e : M' = up M (q + 6) k w) (hw : 0 ≤ w ∧ w < n) : Vr (k + 1) n q M' := by
  intro r h0 h1
  by_cases hr : r = k
  · subst hr
    rw [e, up_eq]
    exact hw
  · rw [e, up_ne (fun q => hr q.2)]
    exact h r h0 (by omega)
theorem Vr_keep {k n q : Int} {M M' : MM} (h : Vr k n q M) (e : ∀ b, M'.1 (q + 6) b = M.1 (q + 6) b) : Vr k n q M' := fun r h0 h1 => by rw [e r]; exact h r h0 h1
theorem Vr_full {k n q : Int} {M : MM} (h : Vr k n q M) (hk : n ≤ k) : VQ n q M := fun r h0 h1 => h r h0 (by omega)
theorem VR_up {n s k j w : Int} {M M' : MM} (h : VR n s M) (e : M' = up M k j w) (hk : k ≠ s + 1) : VR n s M' := VR_keep h (fun b => by rw [e]; exact up_ne (fun q => hk q.1.symm))
theorem VR_l {n s : Int} {M M' : MM} (h : VR n s M) (e : M'.1 = M.1) : VR n s M' := VR_keep h (fun b => by rw [e])
theorem VR_fr {n s : Int} {P : Int → Int → Prop} {M M' : MM} (h : VR n s M) (hG : Fr P M M') (hp : ∀ b, ¬ P (s + 1) b) : VR n s M' := VR_keep h (fun b => hG _ _ (hp b))
theorem VQ_up {n q k j w : Int} {M M' : MM} (h : VQ n q M) (e : M' = up M k j w) (hk : k ≠ q + 6) : VQ n q M' := VQ_keep h (fun b => by rw [e]; exact up_ne (fun q => hk q.1.symm))
theorem VQ_l {n q : Int} {M M' : MM} (h : VQ n q M) (e : M'.1 = M.1) : VQ n q M' := VQ_keep h (fun b => by rw [e])
theorem VQ_fr {n q : Int} {P : Int → Int → Prop} {M M' : MM} (h : VQ n q M) (hG : Fr P M M') (hp : ∀ b, ¬ P (q + 6) b) : VQ n q M' := VQ_keep h (fun b => hG _ _ (hp b))
/-- a lot that is told whole fits the rooms -/
def DL (q : Int) (M : MM) : Prop := M.1 q 9 = 1 → VQ (M.1 q 0) q M
theorem DL_keep {q : Int} {M M' : MM} (h : DL q M) (e : ∀ b, M'.1 (q + 6) b = M.1 (q + 6) b) (e0 : M'.1 q 0 = M.1 q 0) (e9 : M'.1 q 9 = M.1 q 9) : DL q M' := fun h9 => by rw [e0]; exact VQ_keep (h (by omega)) e
theorem DL_up {q k j w : Int} {M M' : MM} (h : DL q M) (e : M' = up M k j w) (h6 : k ≠ q + 6) (h0 : ¬ (k = q ∧ (j = 0 ∨ j = 9))) : DL q M' := DL_keep h (fun b => by rw [e]; exact up_ne (fun z => h6 z.1.symm)) (by rw [e]; exact up_ne (fun z => h0 ⟨z.1.symm, Or.inl z.2.symm⟩)) (by rw [e]; exact up_ne (fun z => h0 ⟨z.1.symm, Or.inr z.2.symm⟩))
theorem DL_l {q : Int} {M M' : MM} (h : DL q M) (e : M'.1 = M.1) : DL q M' := DL_keep h (fun b => by rw [e]) (by rw [e]) (by rw [e])
theorem DL_fr {q : Int} {P : Int → Int → Prop} {M M' : MM} (h : DL q M) (hG : Fr P M M') (hp : ∀ b, ¬ P (q + 6) b) (h0 : ¬ P q 0) (h9 : ¬ P q 9) : DL q M' := DL_keep h (fun b => hG _ _ (hp b)) (hG _ _ h0) (hG _ _ h9)
/-- a scene that fits, at an hour of the day -/
def V (n s : Int) (M : MM) : Prop := VR n s M ∧ M.1 s 3 ≤ 23
theorem V_at {n s v i : Int} {M : MM} (h : V n s M) (hv : v = M.1 (s + 1) i) (h0 : 0 ≤ i) (h1 : i < 6) : (i < n → 0 ≤ v ∧ v < n) ∧ (n ≤ i → v = -1) := VR_at h.1 hv h0 h1
theorem V_put {n s j w : Int} {M M' : MM} (h : V n s M) (e : M' = up M (s + 1) j w) (hw : (j < n → 0 ≤ w ∧ w < n) ∧ (n ≤ j → w = -1)) : V n s M' := ⟨VR_put h.1 e hw, by rw [e, up_ne (fun q => absurd q.1 (by omega))]; exact h.2⟩
theorem V_up {n s k j w : Int} {M M' : MM} (h : V n s M) (e : M' = up M k j w) (hk : k ≠ s + 1) (h3 : ¬ (k = s ∧ j = 3)) : V n s M' := ⟨VR_up h.1 e hk, by rw [e, up_ne (fun q => h3 ⟨q.1.symm, q.2.symm⟩)]; exact h.2⟩
theorem V_l {n s : Int} {M M' : MM} (h : V n s M) (e : M'.1 = M.1) : V n s M' := ⟨VR_l h.1 e, by rw [e]; exact h.2⟩
theorem V_fr {n s : Int} {P : Int → Int → Prop} {M M' : MM} (h : V n s M) (hG : Fr P M M') (hp : ∀ b, ¬ P (s + 1) b) (h3 : ¬ P s 3) : V n s M' := ⟨VR_fr h.1 hG hp, by rw [hG _ _ h3]; exact h.2⟩
theorem sc_ap {s t : Int} (h : Sc s) (g : Sc t) : t ≠ s + 1 ∧ t ≠ s + 2 ∧ s ≠ t + 1 ∧ s ≠ t + 2 := by
  rcases h with ⟨h1, h2, h3⟩ | h | h | h | h <;> rcases g with ⟨g1, g2, g3⟩ | g | g | g | g <;> refine ⟨?_, ?_, ?_, ?_⟩ <;> omega
