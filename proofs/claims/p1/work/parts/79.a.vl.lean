/-! p1: values at a fresh object -/
theorem and0 {x y z : Int} (h : z = (Int32.ofInt x &&& Int32.ofInt y).toInt) (hx : x = 0) : z = 0 := by
  subst hx; subst h
  rw [show Int32.ofInt 0 = 0 from rfl, Int32.zero_and]; rfl
theorem shr0 {x k z : Int} (h : z = (Int32.ofInt x >>> (Int32.ofInt k &&& 31)).toInt) (hx : x = 0) : z = 0 := by
  subst hx; subst h
  rw [show Int32.ofInt 0 = 0 from rfl, Int32.zero_shiftRight]; rfl
theorem ush0 {x k z : Int} (h : z = ((Int32.ofInt x).toUInt32 >>> ((Int32.ofInt k).toUInt32 &&& Int32.toUInt32 31)).toInt32.toInt) (hx : x = 0) : z = 0 := by
  subst hx; subst h
  rw [show (Int32.ofInt 0).toUInt32 = 0 from rfl, UInt32.zero_shiftRight]; rfl
theorem shl1 {k z : Int} (h : z = (Int32.ofInt 1 <<< (Int32.ofInt k &&& 31)).toInt) (hk : k = 0) : z = 1 := by
  subst hk; subst h; decide
/-- a row of six that holds one number -/
def KA (w k : Int) (M : MM) : Prop := ∀ i, 0 ≤ i → i < 6 → M.1 k i = w
theorem KA_fr {w k : Int} {P : Int → Int → Prop} {M M' : MM} (h : KA w k M) (hG : Fr P M M') (hp : ∀ b, ¬ P k b) : KA w k M' := fun i h0 h1 => (hG k i (hp i)).trans (h i h0 h1)
theorem KA_cp {w k0 k1 : Int} {M M' : MM} (h : KA w k0 M) (e : M' = cpM M k0 k1 6) : KA w k1 M' := fun i h0 h1 => (cp_at e h0 h1).trans (h i h0 h1)
theorem KA_up {w k c j x : Int} {M M' : MM} (h : KA w k M) (e : M' = up M c j x) (hc : c ≠ k) : KA w k M' := by
  intro i h0 h1
  rw [e, up_ne (fun q => hc q.1.symm)]
  exact h i h0 h1
theorem KA_dp {w k : Int} {M M' : MM} (h : KA w k M) (e : ∀ a b, a = k → M'.1 a b = M.1 a b) : KA w k M' := fun i h0 h1 => (e k i rfl).trans (h i h0 h1)
theorem N0_dp {M M' : MM} (h : M.1 27 (M.1 26 1) = 28) (e : ∀ a b, ((a = 26 ∧ b = 1) ∨ a = 27) → M'.1 a b = M.1 a b) : M'.1 27 (M'.1 26 1) = 28 := by
  rw [e 26 1 (Or.inl ⟨rfl, rfl⟩), e 27 _ (Or.inr rfl)]
  exact h
theorem and0r {x y z : Int} (h : z = (Int32.ofInt x &&& Int32.ofInt y).toInt) (hy : y = 0) : z = 0 := by
  subst hy; subst h
  rw [show Int32.ofInt 0 = 0 from rfl, Int32.and_zero]; rfl
def R13 (b : Int) (M : MM) : Prop := M.1 213 b = 0
theorem R13_dp {b : Int} {M M' : MM} (h : R13 b M) (e : ∀ a c, a = 213 → M'.1 a c = M.1 a c) : R13 b M' := (e 213 b rfl).trans h
theorem iandE {x y z x0 y0 v : Int} (h : z = (Int32.ofInt x &&& Int32.ofInt y).toInt) (hx : x = x0) (hy : y = y0) (hd : (Int32.ofInt x0 &&& Int32.ofInt y0).toInt = v) : z = v := by subst hx; subst hy; exact h.trans hd
theorem iorE {x y z x0 y0 v : Int} (h : z = (Int32.ofInt x ||| Int32.ofInt y).toInt) (hx : x = x0) (hy : y = y0) (hd : (Int32.ofInt x0 ||| Int32.ofInt y0).toInt = v) : z = v := by subst hx; subst hy; exact h.trans hd
theorem ixorE {x y z x0 y0 v : Int} (h : z = (Int32.ofInt x ^^^ Int32.ofInt y).toInt) (hx : x = x0) (hy : y = y0) (hd : (Int32.ofInt x0 ^^^ Int32.ofInt y0).toInt = v) : z = v := by subst hx; subst hy; exact h.trans hd
theorem ishlE {x y z x0 y0 v : Int} (h : z = (Int32.ofInt x <<< (Int32.ofInt y &&& 31)).toInt) (hx : x = x0) (hy : y = y0) (hd : (Int32.ofInt x0 <<< (Int32.ofInt y0 &&& 31)).toInt = v) : z = v := by subst hx; subst hy; exact h.trans hd
theorem ishrE {x y z x0 y0 v : Int} (h : z = (Int32.ofInt x >>> (Int32.ofInt y &&& 31)).toInt) (hx : x = x0) (hy : y = y0) (hd : (Int32.ofInt x0 >>> (Int32.ofInt y0 &&& 31)).toInt = v) : z = v := by subst hx; subst hy; exact h.trans hd
theorem idivE {x y z x0 y0 v : Int} (h : y ≠ -1 → z = x.tdiv y) (hx : x = x0) (hy : y = y0) (hd : x0.tdiv y0 = v) (hn : y0 ≠ -1) : z = v := by subst hx; subst hy; exact (h hn).trans hd
theorem tdiv_1 {x y z : Int} (h : y ≠ -1 → z = x.tdiv y) (hy : y = 1) : z = x := by subst hy; exact (h (by decide)).trans (Int.tdiv_one x)
theorem iremE {x y z x0 y0 v : Int} (h : z = x.tmod y) (hx : x = x0) (hy : y = y0) (hd : x0.tmod y0 = v) : z = v := by subst hx; subst hy; exact h.trans hd
