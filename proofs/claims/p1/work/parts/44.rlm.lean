/-! the reference: bits, rows, what stays -/
def bt (s k : Int) : Int := (Int32.ofInt ((Int32.ofInt s >>> (Int32.ofInt k &&& 31)).toInt) &&& Int32.ofInt 1).toInt
def cn (s : Int) : Int := bt s 0 + bt s 1 + bt s 2 + bt s 3 + bt s 4 + bt s 5
theorem bt_of {a b x z : Int} (h1 : x = (Int32.ofInt a >>> (Int32.ofInt b &&& 31)).toInt) (h2 : z = (Int32.ofInt x &&& Int32.ofInt 1).toInt) : z = bt a b := by subst h1; exact h2
def orb (s k : Int) : Int := (Int32.ofInt s ||| Int32.ofInt ((Int32.ofInt 1 <<< (Int32.ofInt k &&& 31)).toInt)).toInt
theorem orb_of {a b x z : Int} (h1 : x = (Int32.ofInt 1 <<< (Int32.ofInt b &&& 31)).toInt) (h2 : z = (Int32.ofInt a ||| Int32.ofInt x).toInt) : z = orb a b := by subst h1; exact h2
def anb (l r : Int) : Int := (Int32.ofInt l &&& Int32.ofInt ((Int32.ofInt r ^^^ Int32.ofInt (-1)).toInt)).toInt
theorem j_normL {X : CT} {B N ce sl : Nat} {pc : Nat} {lv : List (Nat × Value)} {st : List Value} {M : MM} {i : Nat} {a : Int} (kk : ∀ z : Int, z = (Int32.ofInt a).toInt → I32 z → J X B N ce sl pc ((i, iv z) :: lv) st M) : J X B N ce sl pc ((i, iv a) :: lv) st M := by
  have h := kk _ rfl (i32_of _)
  rw [iv_of] at h
  exact h
theorem bo_f {k z : Int} (hz : z = (Int32.ofInt k &&& Int32.ofInt (k - 1)).toInt) (hk : I32 k) (h0 : k ≠ 0) : z % 4294967296 < k % 4294967296 := by
  have e1 : z % 4294967296 = (((BitVec.ofInt 32 k) &&& (BitVec.ofInt 32 (k - 1))).toNat : Int) := by
    rw [hz]
    show (BitVec.toInt ((BitVec.ofInt 32 k) &&& (BitVec.ofInt 32 (k - 1)))) % 4294967296 = _
    rw [BitVec.toInt_eq_toNat_cond]
    have := ((BitVec.ofInt 32 k) &&& (BitVec.ofInt 32 (k - 1))).isLt
    split <;> omega
  have e2 : ((BitVec.ofInt 32 (k - 1)).toNat : Int) = (k - 1) % 4294967296 := by
    rw [BitVec.toNat_ofInt]
    omega
  have h3 : ((BitVec.ofInt 32 k) &&& (BitVec.ofInt 32 (k - 1))).toNat ≤ (BitVec.ofInt 32 (k - 1)).toNat := by
    rw [BitVec.toNat_and]
    exact Nat.and_le_right
  have hk2 : -2147483648 ≤ k ∧ k ≤ 2147483647 := hk
  omega
/-- the sign at a place -/
def sg (M : MM) (a : Int) : Int := if a < M.1 210 3 then (Int32.ofInt (M.1 212 a) &&& Int32.ofInt 255).toInt else 0
theorem sg_o {M : MM} {a : Int} (h : M.1 210 3 ≤ a) : 0 = sg M a := by unfold sg; rw [if_neg (by omega)]
theorem sg_i {M : MM} {a v z : Int} (h : a < M.1 210 3) (hv : v = M.1 212 a) (hz : z = (Int32.ofInt v &&& Int32.ofInt 255).toInt) : z = sg M a := by unfold sg; rw [if_pos h, hz, hv]
theorem sg_dp {M M' : MM} {a z : Int} (h : z = sg M a) (e : ∀ c b, (c = 210 ∧ b = 3) ∨ c = 212 → M'.1 c b = M.1 c b) : z = sg M' a := by
  unfold sg at h ⊢
  rw [e 210 3 (Or.inl ⟨rfl, rfl⟩), e 212 a (Or.inr rfl)]
  exact h
theorem my_X11_fails : Cond.initialized yX11_fails.cls ∈ gw ∧ Cond.code yX11_fails cX11_fails 3 none ∈ gw ∧ (yX11_fails.cls ≠ "java/lang/invoke/MethodHandle" ∧ yX11_fails.cls ≠ "java/lang/invoke/VarHandle" ∧ (parseMethodDescriptor yX11_fails.desc).map (fun d => d.parameters.length) = some 2) ∧ 3 ≤ 45 := ⟨in_1 18 (by first | rfl | decide +kernel) rfl, in_6 239 (by first | rfl | decide +kernel) rfl, by decide +kernel, by decide⟩
theorem mv_X11_fails : Cond.instanceMethod yX11_fails ∈ gw ∧ Cond.selects yX11_fails.cls yX11_fails yX11_fails ∈ gw := ⟨in_6 238 (by first | rfl | decide +kernel) rfl, in_gw 53 (by decide +kernel) rfl⟩
theorem lk_X11_245 : LkV RX11 245 yX11_fails cX11_fails 3 none 2 := ⟨⟨in_6 236 (by first | rfl | decide +kernel) rfl, my_X11_fails⟩, mv_X11_fails⟩
