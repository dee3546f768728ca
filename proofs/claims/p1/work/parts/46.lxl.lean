/-- what is left to read, while nothing has failed -/
def mz (M : MM) : Int := 2 * (M.1 210 3 - M.1 210 7) + (if M.1 210 8 = 0 then 0 else 1) + 1
def ML (m : Int) (M : MM) : Prop := 0 ≤ m ∧ (M.1 210 4 = 0 → M.1 210 7 ≤ M.1 210 3 ∧ mz M ≤ m)
theorem ML_dp {m : Int} {M M' : MM} (h : ML m M) (e : ∀ a b, (a = 210 ∧ (b = 3 ∨ b = 4 ∨ b = 7 ∨ b = 8)) → M'.1 a b = M.1 a b) : ML m M' := by
  have e3 := e 210 3 (by omega)
  have e4 := e 210 4 (by omega)
  have e7 := e 210 7 (by omega)
  have e8 := e 210 8 (by omega)
  unfold ML mz at h ⊢
  rw [e3, e4, e7, e8]
  exact h
theorem mz_pos {M : MM} (h : M.1 210 7 ≤ M.1 210 3) : 1 ≤ mz M := by unfold mz; split <;> omega
theorem mz_pos2 {M : MM} (h : M.1 210 7 ≤ M.1 210 3) (h8 : M.1 210 8 ≠ 0) : 2 ≤ mz M := by unfold mz; rw [if_neg h8]; omega
theorem ML_0 {m : Int} {M : MM} (h : ML m M) : 0 ≤ m := h.1
theorem ML_1 {m : Int} {M : MM} (h : ML m M) (h4 : M.1 210 4 = 0) : 1 ≤ m := by
  have := h.2 h4
  have := mz_pos this.1
  omega
theorem ML_bad {m : Int} {M : MM} (h : 0 ≤ m) (h4 : M.1 210 4 ≠ 0) : ML m M := ⟨h, fun q => absurd q h4⟩
theorem ML_mono {m m' : Int} {M : MM} (h : ML m M) (hm : m ≤ m') : ML m' M := ⟨by have := h.1; omega, fun q => ⟨(h.2 q).1, by have := (h.2 q).2; omega⟩⟩
theorem ML_go {m : Int} {M M' : MM} (h : ML m M) (h3 : M'.1 210 3 = M.1 210 3) (h4 : M'.1 210 4 = M.1 210 4) (hw : M'.1 210 7 ≤ M.1 210 3) (hc : M.1 210 7 < M'.1 210 7 ∨ (M'.1 210 8 = 0 ∧ M'.1 210 7 = M.1 210 3)) : ML m M' ∧ (M.1 210 4 = 0 → M.1 210 8 ≠ 0 → ML (m - 1) M') := by
  have key : M.1 210 4 = 0 → mz M' ≤ mz M ∧ (M.1 210 8 ≠ 0 → mz M' ≤ mz M - 1) := by
    intro q
    have h7 := (h.2 q).1
    unfold mz
    rw [h3]
    rcases hc with hc | hc
    · refine ⟨?_, fun _ => ?_⟩ <;> (repeat' split) <;> omega
    · rw [if_pos hc.1]
      refine ⟨?_, fun q => ?_⟩
      · split <;> omega
      · rw [if_neg q]; omega
  refine ⟨⟨h.1, fun q => ⟨by omega, ?_⟩⟩, fun q4 q8 => ⟨?_, fun q => ⟨by omega, ?_⟩⟩⟩
  · rw [h4] at q
    have := (h.2 q).2
    have := (key q).1
    omega
  · have h7 := h.2 q4
    have := mz_pos2 h7.1 q8
    omega
  · have := (h.2 q4).2
    have := (key q4).2 q8
    omega
theorem iv_r1 {M M' : MM} {w : Int} (hI : Iv M) (e : M' = up M 210 7 w) (h0 : 0 ≤ w) (h1 : w ≤ 1600) : Iv M' := by rw [e]; exact hI.put ro_210_7 h0 h1 (Or.inl (by decide))
theorem iv_r4 {M M1 M2 M3 M4 : MM} {w1 w2 w3 w4 : Int} (hI : Iv M) (e1 : M1 = up M 210 7 w1) (e2 : M2 = up M1 210 8 w2) (e3 : M3 = up M2 210 6 w3) (e4 : M4 = up M3 210 7 w4) (h2 : I32 w2) (h30 : 0 ≤ w3) (h31 : w3 ≤ 1600) (h40 : 0 ≤ w4) (h41 : w4 ≤ 1600) : Iv M4 := by
  have e : M4 = up (up (up M 210 8 w2) 210 6 w3) 210 7 w4 := by
    rw [e4, e3, e2, e1]
    refine Prod.ext ?_ rfl
    funext a b
    simp only [up]
    by_cases h : a = 210 ∧ b = 7
    · simp [h]
    · simp [h]
  rw [e]
  exact ((hI.put ro_210_8 h2.1 h2.2 (Or.inl (by decide))).put ro_210_6 h30 h31 (Or.inl (by decide))).put ro_210_7 h40 h41 (Or.inl (by decide))
