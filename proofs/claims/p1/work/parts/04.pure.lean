section JR
variable {X : CT} {B N ce sl L : Nat} {cc : ByteArray} {own : String} {pc : Nat} {lv lv' : List (Nat × Value)} {st : List Value} {M : MM}
theorem j_iload_n (hX : Cx X B L cc own) {k : Fin 4} {i : Nat} {z : Int} (d : decode cc pc = .ok (.iload_n k, 1)) (hi : (k : Nat) = i) (q : Nat) (hq : lv[q]? = some (i, iv z)) (kk : J X B N ce sl (pc + 1) lv (iv z :: st) M) : J X B N ce sl pc lv st M := by
  obtain ⟨p, l, e, R, s, m, args, below, meth, c, D, cy, nL, Q⟩ := X
  intro H locs ls hW hS hl
  exact lv_iload_n hX.1 hX.2.1 d hi (lv_at hl q hq) (kk H locs ls hW hS hl)
theorem j_iload (hX : Cx X B L cc own) {i : Nat} {z : Int} (d : decode cc pc = .ok (.iload i, 2)) (q : Nat) (hq : lv[q]? = some (i, iv z)) (kk : J X B N ce sl (pc + 2) lv (iv z :: st) M) : J X B N ce sl pc lv st M := by
  obtain ⟨p, l, e, R, s, m, args, below, meth, c, D, cy, nL, Q⟩ := X
  intro H locs ls hW hS hl
  exact lv_iload hX.1 hX.2.1 d (lv_at hl q hq) (kk H locs ls hW hS hl)
theorem j_lload_n (hX : Cx X B L cc own) {k : Fin 4} {i : Nat} {z : Int64} (d : decode cc pc = .ok (.lload_n k, 1)) (hi : (k : Nat) = i) (q : Nat) (hq : lv[q]? = some (i, .long z)) (kk : J X B N ce sl (pc + 1) lv (.long z :: st) M) : J X B N ce sl pc lv st M := by
  obtain ⟨p, l, e, R, s, m, args, below, meth, c, D, cy, nL, Q⟩ := X
  intro H locs ls hW hS hl
  exact lv_lload_n hX.1 hX.2.1 d hi (lv_at hl q hq) (kk H locs ls hW hS hl)
theorem j_aload_n (hX : Cx X B L cc own) {k : Fin 4} {i : Nat} {z : Int} (d : decode cc pc = .ok (.aload_n k, 1)) (hi : (k : Nat) = i) (q : Nat) (hq : lv[q]? = some (i, rv B z)) (kk : J X B N ce sl (pc + 1) lv (rv B z :: st) M) : J X B N ce sl pc lv st M := by
  obtain ⟨p, l, e, R, s, m, args, below, meth, c, D, cy, nL, Q⟩ := X
  intro H locs ls hW hS hl
  exact lv_aload_n hX.1 hX.2.1 d hi (lv_at hl q hq) (kk H locs ls hW hS hl)
theorem j_aload (hX : Cx X B L cc own) {i : Nat} {z : Int} (d : decode cc pc = .ok (.aload i, 2)) (q : Nat) (hq : lv[q]? = some (i, rv B z)) (kk : J X B N ce sl (pc + 2) lv (rv B z :: st) M) : J X B N ce sl pc lv st M := by
  obtain ⟨p, l, e, R, s, m, args, below, meth, c, D, cy, nL, Q⟩ := X
  intro H locs ls hW hS hl
  exact lv_aload hX.1 hX.2.1 d (lv_at hl q hq) (kk H locs ls hW hS hl)
theorem j_istore_n (hX : Cx X B L cc own) {k : Fin 4} {i : Nat} {z : Int} (d : decode cc pc = .ok (.istore_n k, 1)) (hi : (k : Nat) = i) (hn : i < xnL X) (hl' : (i, iv z) :: lv.filter (fun q => !(q.1 == i) && !(q.1 + 1 == i && q.2.category == 2)) = lv') (kk : J X B N ce sl (pc + 1) lv' st M) : J X B N ce sl pc lv (iv z :: st) M := by
  obtain ⟨p, l, e, R, s, m, args, below, meth, c, D, cy, nL, Q⟩ := X
  intro H locs ls hW hS hl
  exact lv_istore_n hX.1 hX.2.1 d hi hl hn hl' (fun ls hl => kk H locs ls hW hS hl)
theorem j_istore (hX : Cx X B L cc own) {i : Nat} {z : Int} (d : decode cc pc = .ok (.istore i, 2)) (hn : i < xnL X) (hl' : (i, iv z) :: lv.filter (fun q => !(q.1 == i) && !(q.1 + 1 == i && q.2.category == 2)) = lv') (kk : J X B N ce sl (pc + 2) lv' st M) : J X B N ce sl pc lv (iv z :: st) M := by
  obtain ⟨p, l, e, R, s, m, args, below, meth, c, D, cy, nL, Q⟩ := X
  intro H locs ls hW hS hl
  exact lv_istore hX.1 hX.2.1 d hl hn hl' (fun ls hl => kk H locs ls hW hS hl)
theorem j_astore_n (hX : Cx X B L cc own) {k : Fin 4} {i : Nat} {z : Int} (d : decode cc pc = .ok (.astore_n k, 1)) (hi : (k : Nat) = i) (hn : i < xnL X) (hl' : (i, rv B z) :: lv.filter (fun q => !(q.1 == i) && !(q.1 + 1 == i && q.2.category == 2)) = lv') (kk : J X B N ce sl (pc + 1) lv' st M) : J X B N ce sl pc lv (rv B z :: st) M := by
  obtain ⟨p, l, e, R, s, m, args, below, meth, c, D, cy, nL, Q⟩ := X
  intro H locs ls hW hS hl
  exact lv_astore_n hX.1 hX.2.1 d hi hl hn hl' (fun ls hl => kk H locs ls hW hS hl)
theorem j_astore (hX : Cx X B L cc own) {i : Nat} {z : Int} (d : decode cc pc = .ok (.astore i, 2)) (hn : i < xnL X) (hl' : (i, rv B z) :: lv.filter (fun q => !(q.1 == i) && !(q.1 + 1 == i && q.2.category == 2)) = lv') (kk : J X B N ce sl (pc + 2) lv' st M) : J X B N ce sl pc lv (rv B z :: st) M := by
  obtain ⟨p, l, e, R, s, m, args, below, meth, c, D, cy, nL, Q⟩ := X
  intro H locs ls hW hS hl
  exact lv_astore hX.1 hX.2.1 d hl hn hl' (fun ls hl => kk H locs ls hW hS hl)
theorem j_lstore_n (hX : Cx X B L cc own) {k : Fin 4} {i : Nat} {z : Int64} (d : decode cc pc = .ok (.lstore_n k, 1)) (hi : (k : Nat) = i) (hn : i + 1 < xnL X) (hl' : (i, Value.long z) :: lv.filter (fun q => !(q.1 == i) && (!(q.1 == i + 1) && !(q.1 + 1 == i && q.2.category == 2))) = lv') (kk : J X B N ce sl (pc + 1) lv' st M) : J X B N ce sl pc lv (.long z :: st) M := by
  obtain ⟨p, l, e, R, s, m, args, below, meth, c, D, cy, nL, Q⟩ := X
  intro H locs ls hW hS hl
  exact lv_lstore_n hX.1 hX.2.1 d hi hl hn hl' (fun ls hl => kk H locs ls hW hS hl)
theorem j_iinc (hX : Cx X B L cc own) {i : Nat} {n z : Int} (d : decode cc pc = .ok (.iinc i n, 3)) (q : Nat) (hq : lv[q]? = some (i, iv z)) (hn : i < xnL X) (hl' : (i, iv (z + n)) :: lv.filter (fun q => !(q.1 == i) && !(q.1 + 1 == i && q.2.category == 2)) = lv') (kk : J X B N ce sl (pc + 3) lv' st M) : J X B N ce sl pc lv st M := by
  obtain ⟨p, l, e, R, s, m, args, below, meth, c, D, cy, nL, Q⟩ := X
  intro H locs ls hW hS hl
  exact lv_iinc (v := Int32.ofInt (z + n)) hX.1 hX.2.1 d hl hq (by rw [Int32.ofInt_add]) hn hl' (fun ls hl => kk H locs ls hW hS hl)
/-- fewer locals, in another order -/
theorem j_sub (ks : List Nat) (hs : lv_pick lv ks = lv') (kk : J X B N ce sl pc lv' st M) : J X B N ce sl pc lv st M := by
  obtain ⟨p, l, e, R, s, m, args, below, meth, c, D, cy, nL, Q⟩ := X
  intro H locs ls hW hS hl
  exact kk H locs ls hW hS (lv_sub hl ks hs)
theorem j_iconst (hX : Cx X B L cc own) {n : Int} (d : decode cc pc = .ok (.iconst n, 1)) (kk : J X B N ce sl (pc + 1) lv (iv n :: st) M) : J X B N ce sl pc lv st M := by
  obtain ⟨p, l, e, R, s, m, args, below, meth, c, D, cy, nL, Q⟩ := X
  intro H locs ls hW hS hl
  exact lv_iconst hX.1 hX.2.1 d rfl (kk H locs ls hW hS hl)
theorem j_bipush (hX : Cx X B L cc own) {n : Int} (d : decode cc pc = .ok (.bipush n, 2)) (hn : (Int8.ofInt n).toInt32 = Int32.ofInt n) (kk : J X B N ce sl (pc + 2) lv (iv n :: st) M) : J X B N ce sl pc lv st M := by
  obtain ⟨p, l, e, R, s, m, args, below, meth, c, D, cy, nL, Q⟩ := X
  intro H locs ls hW hS hl
  exact lv_bipush hX.1 hX.2.1 d hn (kk H locs ls hW hS hl)
theorem j_sipush (hX : Cx X B L cc own) {n : Int} (d : decode cc pc = .ok (.sipush n, 3)) (hn : (Int16.ofInt n).toInt32 = Int32.ofInt n) (kk : J X B N ce sl (pc + 3) lv (iv n :: st) M) : J X B N ce sl pc lv st M := by
  obtain ⟨p, l, e, R, s, m, args, below, meth, c, D, cy, nL, Q⟩ := X
  intro H locs ls hW hS hl
  exact lv_sipush hX.1 hX.2.1 d hn (kk H locs ls hW hS hl)
theorem j_ldc (hX : Cx X B L cc own) {i : Nat} {n : Int} (hw : Cond.constant own i (Int32.ofInt n) ∈ gw) (d : decode cc pc = .ok (.ldc i, 2)) (kk : J X B N ce sl (pc + 2) lv (iv n :: st) M) : J X B N ce sl pc lv st M := by
  obtain ⟨p, l, e, R, s, m, args, below, meth, c, D, cy, nL, Q⟩ := X
  intro H locs ls hW hS hl
  exact lv_ldc hX.1 hX.2.1 hX.2.2.2.1 (hX.2.2.2.2.1 _ hw) d (kk H locs ls hW hS hl)
theorem j_ldcw (hX : Cx X B L cc own) {i : Nat} {n : Int} (hw : Cond.constant own i (Int32.ofInt n) ∈ gw) (d : decode cc pc = .ok (.ldc_w i, 3)) (kk : J X B N ce sl (pc + 3) lv (iv n :: st) M) : J X B N ce sl pc lv st M := by
  obtain ⟨p, l, e, R, s, m, args, below, meth, c, D, cy, nL, Q⟩ := X
  intro H locs ls hW hS hl
  exact lv_ldcw hX.1 hX.2.1 hX.2.2.2.1 (hX.2.2.2.2.1 _ hw) d (kk H locs ls hW hS hl)
theorem j_ldc2 (hX : Cx X B L cc own) {i : Nat} {n : Int64} (hw : Cond.constantLong own i n ∈ gw) (d : decode cc pc = .ok (.ldc2_w i, 3)) (kk : J X B N ce sl (pc + 3) lv (.long n :: st) M) : J X B N ce sl pc lv st M := by
  obtain ⟨p, l, e, R, s, m, args, below, meth, c, D, cy, nL, Q⟩ := X
  intro H locs ls hW hS hl
  exact lv_ldc2 hX.1 hX.2.1 hX.2.2.2.1 (hX.2.2.2.2.1 _ hw) d (kk H locs ls hW hS hl)
theorem j_lconst (hX : Cx X B L cc own) {n : Fin 2} (d : decode cc pc = .ok (.lconst n, 1)) (kk : J X B N ce sl (pc + 1) lv (.long (Int64.ofNat n) :: st) M) : J X B N ce sl pc lv st M := by
  obtain ⟨p, l, e, R, s, m, args, below, meth, c, D, cy, nL, Q⟩ := X
  intro H locs ls hW hS hl
  exact lv_lconst hX.1 hX.2.1 d rfl (kk H locs ls hW hS hl)
theorem j_iadd (hX : Cx X B L cc own) {a b : Int} (d : decode cc pc = .ok (.iadd, 1)) (kk : J X B N ce sl (pc + 1) lv (iv (a + b) :: st) M) : J X B N ce sl pc lv (iv b :: iv a :: st) M := by
  obtain ⟨p, l, e, R, s, m, args, below, meth, c, D, cy, nL, Q⟩ := X
  intro H locs ls hW hS hl
  refine lv_iadd hX.1 hX.2.1 d ?_
  rw [← Int32.ofInt_add]
  exact kk H locs ls hW hS hl
theorem j_isub (hX : Cx X B L cc own) {a b : Int} (d : decode cc pc = .ok (.isub, 1)) (kk : J X B N ce sl (pc + 1) lv (iv (a - b) :: st) M) : J X B N ce sl pc lv (iv b :: iv a :: st) M := by
  obtain ⟨p, l, e, R, s, m, args, below, meth, c, D, cy, nL, Q⟩ := X
  intro H locs ls hW hS hl
  refine lv_isub hX.1 hX.2.1 d ?_
  rw [← Int32.ofInt_sub]
  exact kk H locs ls hW hS hl
theorem j_imul (hX : Cx X B L cc own) {a b : Int} (d : decode cc pc = .ok (.imul, 1)) (kk : J X B N ce sl (pc + 1) lv (iv (a * b) :: st) M) : J X B N ce sl pc lv (iv b :: iv a :: st) M := by
  obtain ⟨p, l, e, R, s, m, args, below, meth, c, D, cy, nL, Q⟩ := X
  intro H locs ls hW hS hl
  refine lv_imul hX.1 hX.2.1 d ?_
  rw [← Int32.ofInt_mul]
  exact kk H locs ls hW hS hl
theorem j_ineg (hX : Cx X B L cc own) {a : Int} (d : decode cc pc = .ok (.ineg, 1)) (kk : J X B N ce sl (pc + 1) lv (iv (-a) :: st) M) : J X B N ce sl pc lv (iv a :: st) M := by
  obtain ⟨p, l, e, R, s, m, args, below, meth, c, D, cy, nL, Q⟩ := X
  intro H locs ls hW hS hl
  refine lv_ineg hX.1 hX.2.1 d ?_
  rw [← Int32.ofInt_neg]
  exact kk H locs ls hW hS hl
/-- the top of the stack, whatever it is, as an int of 32 bits -/
theorem j_norm {a : Int} (kk : ∀ z : Int, z = (Int32.ofInt a).toInt → I32 z → J X B N ce sl pc lv (iv z :: st) M) : J X B N ce sl pc lv (iv a :: st) M := by
  have h := kk _ rfl (i32_of _)
  rw [iv_of] at h
  exact h
theorem j_top {a b : Int} (h : a = b) (kk : J X B N ce sl pc lv (iv b :: st) M) : J X B N ce sl pc lv (iv a :: st) M := h ▸ kk
theorem j_iand (hX : Cx X B L cc own) {a b : Int} (d : decode cc pc = .ok (.iand, 1)) (kk : ∀ z : Int, z = (Int32.ofInt a &&& Int32.ofInt b).toInt → I32 z → J X B N ce sl (pc + 1) lv (iv z :: st) M) : J X B N ce sl pc lv (iv b :: iv a :: st) M := by
  obtain ⟨p, l, e, R, s, m, args, below, meth, c, D, cy, nL, Q⟩ := X
  intro H locs ls hW hS hl
  refine lv_iand hX.1 hX.2.1 d ?_
  have h := kk _ rfl (i32_of _)
  rw [iv_of] at h
  exact h H locs ls hW hS hl
theorem j_ior (hX : Cx X B L cc own) {a b : Int} (d : decode cc pc = .ok (.ior, 1)) (kk : ∀ z : Int, z = (Int32.ofInt a ||| Int32.ofInt b).toInt → I32 z → J X B N ce sl (pc + 1) lv (iv z :: st) M) : J X B N ce sl pc lv (iv b :: iv a :: st) M := by
  obtain ⟨p, l, e, R, s, m, args, below, meth, c, D, cy, nL, Q⟩ := X
  intro H locs ls hW hS hl
  refine lv_ior hX.1 hX.2.1 d ?_
  have h := kk _ rfl (i32_of _)
  rw [iv_of] at h
  exact h H locs ls hW hS hl
theorem j_ixor (hX : Cx X B L cc own) {a b : Int} (d : decode cc pc = .ok (.ixor, 1)) (kk : ∀ z : Int, z = (Int32.ofInt a ^^^ Int32.ofInt b).toInt → I32 z → J X B N ce sl (pc + 1) lv (iv z :: st) M) : J X B N ce sl pc lv (iv b :: iv a :: st) M := by
  obtain ⟨p, l, e, R, s, m, args, below, meth, c, D, cy, nL, Q⟩ := X
  intro H locs ls hW hS hl
  refine lv_ixor hX.1 hX.2.1 d ?_
  have h := kk _ rfl (i32_of _)
  rw [iv_of] at h
  exact h H locs ls hW hS hl
theorem j_ishl (hX : Cx X B L cc own) {a b : Int} (d : decode cc pc = .ok (.ishl, 1)) (kk : ∀ z : Int, z = (Int32.ofInt a <<< (Int32.ofInt b &&& 31)).toInt → I32 z → J X B N ce sl (pc + 1) lv (iv z :: st) M) : J X B N ce sl pc lv (iv b :: iv a :: st) M := by
  obtain ⟨p, l, e, R, s, m, args, below, meth, c, D, cy, nL, Q⟩ := X
  intro H locs ls hW hS hl
  refine lv_ishl hX.1 hX.2.1 d ?_
  have h := kk _ rfl (i32_of _)
  rw [iv_of] at h
  exact h H locs ls hW hS hl
theorem j_ishr (hX : Cx X B L cc own) {a b : Int} (d : decode cc pc = .ok (.ishr, 1)) (kk : ∀ z : Int, z = (Int32.ofInt a >>> (Int32.ofInt b &&& 31)).toInt → I32 z → J X B N ce sl (pc + 1) lv (iv z :: st) M) : J X B N ce sl pc lv (iv b :: iv a :: st) M := by
  obtain ⟨p, l, e, R, s, m, args, below, meth, c, D, cy, nL, Q⟩ := X
  intro H locs ls hW hS hl
  refine lv_ishr hX.1 hX.2.1 d ?_
  have h := kk _ rfl (i32_of _)
  rw [iv_of] at h
  exact h H locs ls hW hS hl
theorem j_iushr (hX : Cx X B L cc own) {a b : Int} (d : decode cc pc = .ok (.iushr, 1)) (kk : ∀ z : Int, z = ((Int32.ofInt a).toUInt32 >>> ((Int32.ofInt b).toUInt32 &&& Int32.toUInt32 31)).toInt32.toInt → I32 z → J X B N ce sl (pc + 1) lv (iv z :: st) M) : J X B N ce sl pc lv (iv b :: iv a :: st) M := by
  obtain ⟨p, l, e, R, s, m, args, below, meth, c, D, cy, nL, Q⟩ := X
  intro H locs ls hW hS hl
  refine lv_iushr hX.1 hX.2.1 d rfl ?_
  have h := kk _ rfl (i32_of _)
  rw [iv_of] at h
  exact h H locs ls hW hS hl
theorem j_idiv (hX : Cx X B L cc own) {a b : Int} (d : decode cc pc = .ok (.idiv, 1)) (ha : I32 a) (hb : I32 b) (hne : b ≠ 0) (kk : ∀ z : Int, (b ≠ -1 → z = a.tdiv b) → I32 z → J X B N ce sl (pc + 1) lv (iv z :: st) M) : J X B N ce sl pc lv (iv b :: iv a :: st) M := by
  obtain ⟨p, l, e, R, s, m, args, below, meth, c, D, cy, nL, Q⟩ := X
  intro H locs ls hW hS hl
  have h0 : ¬ Int32.ofInt b = 0 := by rw [i32_0, i32_eq hb ⟨by omega, by omega⟩]; exact hne
  refine lv_idiv hX.1 hX.2.1 d h0 ?_
  have h := kk (Int32.ofInt a / Int32.ofInt b).toInt (fun h1 => ?_) (i32_of _)
  · rw [iv_of] at h
    exact h H locs ls hW hS hl
  · rw [Int32.toInt_div_of_ne_right _ _ (by rw [show (-1 : Int32) = Int32.ofInt (-1) from rfl, Ne, i32_eq hb ⟨by omega, by omega⟩]; exact h1), i32_int ha, i32_int hb]
theorem i32_rem (x y : Int32) : x - x / y * y = x % y := by
  apply Int32.toInt_inj.mp
  rw [Int32.toInt_mod, Int32.toInt_sub, Int32.toInt_mul, Int32.toInt_div]
  have e : x.toInt.tmod y.toInt = x.toInt - (x.toInt.tdiv y.toInt) * y.toInt := by rw [Int.tmod_def, Int.mul_comm]
  rw [e]
  simp only [Int.bmod_mul_bmod, Int.sub_bmod_bmod, Int.bmod_sub_bmod]
  rw [← e]
  have h1 := i32_of x
  have h2 := i32_of (x % y)
  rw [Int32.toInt_mod] at h2
  exact Int.bmod_eq_of_le (by omega) (by omega)
theorem j_irem (hX : Cx X B L cc own) {a b : Int} (d : decode cc pc = .ok (.irem, 1)) (ha : I32 a) (hb : I32 b) (hne : b ≠ 0) (kk : ∀ z : Int, z = a.tmod b → I32 z → J X B N ce sl (pc + 1) lv (iv z :: st) M) : J X B N ce sl pc lv (iv b :: iv a :: st) M := by
  obtain ⟨p, l, e, R, s, m, args, below, meth, c, D, cy, nL, Q⟩ := X
  intro H locs ls hW hS hl
  have h0 : ¬ Int32.ofInt b = 0 := by rw [i32_0, i32_eq hb ⟨by omega, by omega⟩]; exact hne
  refine lv_irem hX.1 hX.2.1 d h0 ?_
  rw [i32_rem]
  have h := kk (Int32.ofInt a % Int32.ofInt b).toInt (by rw [Int32.toInt_mod, i32_int ha, i32_int hb]) (i32_of _)
  rw [iv_of] at h
  exact h H locs ls hW hS hl
theorem j_i2b (hX : Cx X B L cc own) {a : Int} (d : decode cc pc = .ok (.i2b, 1)) (kk : ∀ z : Int, -128 ≤ z → z ≤ 127 → J X B N ce sl (pc + 1) lv (iv z :: st) M) : J X B N ce sl pc lv (iv a :: st) M := by
  obtain ⟨p, l, e, R, s, m, args, below, meth, c, D, cy, nL, Q⟩ := X
  intro H locs ls hW hS hl
  refine lv_i2b hX.1 hX.2.1 d rfl ?_
  have h1 := Int8.le_toInt (Int32.ofInt a).toInt8
  have h2 := Int8.toInt_lt (Int32.ofInt a).toInt8
  have h := kk (Int32.ofInt a).toInt8.toInt32.toInt (by rw [Int8.toInt_toInt32]; omega) (by rw [Int8.toInt_toInt32]; omega)
  rw [iv_of] at h
  exact h H locs ls hW hS hl
theorem j_i2c (hX : Cx X B L cc own) {a : Int} (d : decode cc pc = .ok (.i2c, 1)) (kk : ∀ z : Int, z = ((Int32.ofInt a).toUInt32 % 65536).toInt32.toInt → I32 z → J X B N ce sl (pc + 1) lv (iv z :: st) M) : J X B N ce sl pc lv (iv a :: st) M := by
  obtain ⟨p, l, e, R, s, m, args, below, meth, c, D, cy, nL, Q⟩ := X
  intro H locs ls hW hS hl
  refine lv_i2c hX.1 hX.2.1 d rfl ?_
  have h := kk _ rfl (i32_of _)
  rw [iv_of] at h
  exact h H locs ls hW hS hl
theorem j_i2l (hX : Cx X B L cc own) {a : Int} (d : decode cc pc = .ok (.i2l, 1)) (kk : ∀ z : Int64, J X B N ce sl (pc + 1) lv (.long z :: st) M) : J X B N ce sl pc lv (iv a :: st) M := by
  obtain ⟨p, l, e, R, s, m, args, below, meth, c, D, cy, nL, Q⟩ := X
  intro H locs ls hW hS hl
  exact lv_i2l hX.1 hX.2.1 d rfl (kk _ H locs ls hW hS hl)
theorem j_lmul (hX : Cx X B L cc own) {a b : Int64} (d : decode cc pc = .ok (.lmul, 1)) (kk : ∀ z : Int64, J X B N ce sl (pc + 1) lv (.long z :: st) M) : J X B N ce sl pc lv (.long b :: .long a :: st) M := by
  obtain ⟨p, l, e, R, s, m, args, below, meth, c, D, cy, nL, Q⟩ := X
  intro H locs ls hW hS hl
  exact lv_lmul hX.1 hX.2.1 d (kk _ H locs ls hW hS hl)
theorem j_ladd (hX : Cx X B L cc own) {a b : Int64} (d : decode cc pc = .ok (.ladd, 1)) (kk : ∀ z : Int64, J X B N ce sl (pc + 1) lv (.long z :: st) M) : J X B N ce sl pc lv (.long b :: .long a :: st) M := by
  obtain ⟨p, l, e, R, s, m, args, below, meth, c, D, cy, nL, Q⟩ := X
  intro H locs ls hW hS hl
  exact lv_ladd hX.1 hX.2.1 d (kk _ H locs ls hW hS hl)
theorem j_lor (hX : Cx X B L cc own) {a b : Int64} (d : decode cc pc = .ok (.lor, 1)) (kk : ∀ z : Int64, J X B N ce sl (pc + 1) lv (.long z :: st) M) : J X B N ce sl pc lv (.long b :: .long a :: st) M := by
  obtain ⟨p, l, e, R, s, m, args, below, meth, c, D, cy, nL, Q⟩ := X
  intro H locs ls hW hS hl
  exact lv_lor hX.1 hX.2.1 d (kk _ H locs ls hW hS hl)
theorem j_lshl (hX : Cx X B L cc own) {a : Int64} {b : Int} (d : decode cc pc = .ok (.lshl, 1)) (kk : ∀ z : Int64, J X B N ce sl (pc + 1) lv (.long z :: st) M) : J X B N ce sl pc lv (iv b :: .long a :: st) M := by
  obtain ⟨p, l, e, R, s, m, args, below, meth, c, D, cy, nL, Q⟩ := X
  intro H locs ls hW hS hl
  exact lv_lshl hX.1 hX.2.1 d rfl (kk _ H locs ls hW hS hl)
theorem j_lcmp (hX : Cx X B L cc own) {a b : Int64} (d : decode cc pc = .ok (.lcmp, 1)) (kk : ∀ z : Int, -1 ≤ z → z ≤ 1 → (z = 0 ↔ a = b) → J X B N ce sl (pc + 1) lv (iv z :: st) M) : J X B N ce sl pc lv (.long b :: .long a :: st) M := by
  obtain ⟨p, l, e, R, s, m, args, below, meth, c, D, cy, nL, Q⟩ := X
  intro H locs ls hW hS hl
  refine W.lcmp hX.1 hX.2.1 d ?_
  have e1 : lg_cmp a b = 1 ∨ lg_cmp a b = 0 ∨ lg_cmp a b = -1 := by
    unfold lg_cmp
    split
    · exact Or.inl rfl
    · split
      · exact Or.inr (Or.inl rfl)
      · exact Or.inr (Or.inr rfl)
  have e2 : lg_cmp a b = 0 ↔ a = b := by
    unfold lg_cmp
    by_cases h1 : a > b
    · simp only [h1, if_true]
      constructor
      · intro h; exact absurd h (by decide)
      · intro h; subst h; exact absurd h1 (by simp)
    · by_cases h2 : a = b
      · simp [h1, h2]
      · simp only [h1, h2, if_false]
        constructor
        · intro h; exact absurd h (by decide)
        · intro h; exact absurd h (by simp)
  have h := kk (lg_cmp a b).toInt (by rcases e1 with h | h | h <;> rw [h] <;> decide) (by rcases e1 with h | h | h <;> rw [h] <;> decide) (by rw [← e2, ← Int32.toInt_inj]; exact Iff.rfl)
  rw [iv_of] at h
  exact h H locs ls hW hS hl
theorem j_dup (hX : Cx X B L cc own) {v : Value} (d : decode cc pc = .ok (.dup, 1)) (hv : v.category = 1) (kk : J X B N ce sl (pc + 1) lv (v :: v :: st) M) : J X B N ce sl pc lv (v :: st) M := by
  obtain ⟨p, l, e, R, s, m, args, below, meth, c, D, cy, nL, Q⟩ := X
  intro H locs ls hW hS hl
  exact lv_dup hX.1 hX.2.1 d hv (kk H locs ls hW hS hl)
theorem j_dup2 (hX : Cx X B L cc own) {v w : Value} (d : decode cc pc = .ok (.dup2, 1)) (hv : v.category = 1) (hw : w.category = 1) (kk : J X B N ce sl (pc + 1) lv (v :: w :: v :: w :: st) M) : J X B N ce sl pc lv (v :: w :: st) M := by
  obtain ⟨p, l, e, R, s, m, args, below, meth, c, D, cy, nL, Q⟩ := X
  intro H locs ls hW hS hl
  exact lv_dup2_11 hX.1 hX.2.1 d hv hw (kk H locs ls hW hS hl)
theorem j_pop (hX : Cx X B L cc own) {v : Value} (d : decode cc pc = .ok (.pop, 1)) (hv : v.category = 1) (kk : J X B N ce sl (pc + 1) lv st M) : J X B N ce sl pc lv (v :: st) M := by
  obtain ⟨p, l, e, R, s, m, args, below, meth, c, D, cy, nL, Q⟩ := X
  intro H locs ls hW hS hl
  exact lv_pop hX.1 hX.2.1 d hv (kk H locs ls hW hS hl)
theorem j_goto (hX : Cx X B L cc own) {off : Int} {tgt : Nat} (d : decode cc pc = .ok (.goto off, 3)) (ht : (pc : Int) + off = (tgt : Int)) (kk : J X B N ce sl tgt lv st M) : J X B N ce sl pc lv st M := by
  obtain ⟨p, l, e, R, s, m, args, below, meth, c, D, cy, nL, Q⟩ := X
  intro H locs ls hW hS hl
  exact lv_goto hX.1 hX.2.1 d ht (kk H locs ls hW hS hl)
theorem j_icmp_eq (hX : Cx X B L cc own) {a b off : Int} {tgt : Nat} (d : decode cc pc = .ok (.if_icmp .eq off, 3)) (ht : (pc : Int) + off = (tgt : Int)) (ha : I32 a) (hb : I32 b) (kt : a = b → J X B N ce sl tgt lv st M) (kf : a ≠ b → J X B N ce sl (pc + 3) lv st M) : J X B N ce sl pc lv (iv b :: iv a :: st) M := by
  obtain ⟨p, l, e, R, s, m, args, below, meth, c, D, cy, nL, Q⟩ := X
  intro H locs ls hW hS hl
  exact lv_icmp_eq hX.1 hX.2.1 d ht (fun h => kt ((i32_eq ha hb).mp h) H locs ls hW hS hl) (fun h => kf (fun q => h ((i32_eq ha hb).mpr q)) H locs ls hW hS hl)
theorem j_if_eq (hX : Cx X B L cc own) {a off : Int} {tgt : Nat} (d : decode cc pc = .ok (.ifCond .eq off, 3)) (ht : (pc : Int) + off = (tgt : Int)) (ha : I32 a) (kt : a = 0 → J X B N ce sl tgt lv st M) (kf : a ≠ 0 → J X B N ce sl (pc + 3) lv st M) : J X B N ce sl pc lv (iv a :: st) M := by
  obtain ⟨p, l, e, R, s, m, args, below, meth, c, D, cy, nL, Q⟩ := X
  intro H locs ls hW hS hl
  have hz : I32 0 := ⟨by omega, by omega⟩
  exact lv_if_eq hX.1 hX.2.1 d ht (fun h => kt ((i32_eq ha hz).mp h) H locs ls hW hS hl) (fun h => kf (fun q => h ((i32_eq ha hz).mpr q)) H locs ls hW hS hl)
theorem j_icmp_ne (hX : Cx X B L cc own) {a b off : Int} {tgt : Nat} (d : decode cc pc = .ok (.if_icmp .ne off, 3)) (ht : (pc : Int) + off = (tgt : Int)) (ha : I32 a) (hb : I32 b) (kt : a ≠ b → J X B N ce sl tgt lv st M) (kf : a = b → J X B N ce sl (pc + 3) lv st M) : J X B N ce sl pc lv (iv b :: iv a :: st) M := by
  obtain ⟨p, l, e, R, s, m, args, below, meth, c, D, cy, nL, Q⟩ := X
  intro H locs ls hW hS hl
  exact lv_icmp_ne hX.1 hX.2.1 d ht (fun h => kt (fun q => h ((i32_eq ha hb).mpr q)) H locs ls hW hS hl) (fun h => kf ((i32_eq ha hb).mp h) H locs ls hW hS hl)
theorem j_if_ne (hX : Cx X B L cc own) {a off : Int} {tgt : Nat} (d : decode cc pc = .ok (.ifCond .ne off, 3)) (ht : (pc : Int) + off = (tgt : Int)) (ha : I32 a) (kt : a ≠ 0 → J X B N ce sl tgt lv st M) (kf : a = 0 → J X B N ce sl (pc + 3) lv st M) : J X B N ce sl pc lv (iv a :: st) M := by
  obtain ⟨p, l, e, R, s, m, args, below, meth, c, D, cy, nL, Q⟩ := X
  intro H locs ls hW hS hl
  have hz : I32 0 := ⟨by omega, by omega⟩
  exact lv_if_ne hX.1 hX.2.1 d ht (fun h => kt (fun q => h ((i32_eq ha hz).mpr q)) H locs ls hW hS hl) (fun h => kf ((i32_eq ha hz).mp h) H locs ls hW hS hl)
theorem j_icmp_lt (hX : Cx X B L cc own) {a b off : Int} {tgt : Nat} (d : decode cc pc = .ok (.if_icmp .lt off, 3)) (ht : (pc : Int) + off = (tgt : Int)) (ha : I32 a) (hb : I32 b) (kt : a < b → J X B N ce sl tgt lv st M) (kf : b ≤ a → J X B N ce sl (pc + 3) lv st M) : J X B N ce sl pc lv (iv b :: iv a :: st) M := by
  obtain ⟨p, l, e, R, s, m, args, below, meth, c, D, cy, nL, Q⟩ := X
  intro H locs ls hW hS hl
  exact lv_icmp_lt hX.1 hX.2.1 d ht (fun h => kt ((i32_lt ha hb).mp h) H locs ls hW hS hl) (fun h => kf (Int.not_lt.mp fun q => h ((i32_lt ha hb).mpr q)) H locs ls hW hS hl)
theorem j_if_lt (hX : Cx X B L cc own) {a off : Int} {tgt : Nat} (d : decode cc pc = .ok (.ifCond .lt off, 3)) (ht : (pc : Int) + off = (tgt : Int)) (ha : I32 a) (kt : a < 0 → J X B N ce sl tgt lv st M) (kf : 0 ≤ a → J X B N ce sl (pc + 3) lv st M) : J X B N ce sl pc lv (iv a :: st) M := by
  obtain ⟨p, l, e, R, s, m, args, below, meth, c, D, cy, nL, Q⟩ := X
  intro H locs ls hW hS hl
  have hz : I32 0 := ⟨by omega, by omega⟩
  exact lv_if_lt hX.1 hX.2.1 d ht (fun h => kt ((i32_lt ha hz).mp h) H locs ls hW hS hl) (fun h => kf (Int.not_lt.mp fun q => h ((i32_lt ha hz).mpr q)) H locs ls hW hS hl)
theorem j_icmp_ge (hX : Cx X B L cc own) {a b off : Int} {tgt : Nat} (d : decode cc pc = .ok (.if_icmp .ge off, 3)) (ht : (pc : Int) + off = (tgt : Int)) (ha : I32 a) (hb : I32 b) (kt : b ≤ a → J X B N ce sl tgt lv st M) (kf : a < b → J X B N ce sl (pc + 3) lv st M) : J X B N ce sl pc lv (iv b :: iv a :: st) M := by
  obtain ⟨p, l, e, R, s, m, args, below, meth, c, D, cy, nL, Q⟩ := X
  intro H locs ls hW hS hl
  exact lv_icmp_ge hX.1 hX.2.1 d ht (fun h => kt ((i32_le hb ha).mp h) H locs ls hW hS hl) (fun h => kf (Int.not_le.mp fun q => h ((i32_le hb ha).mpr q)) H locs ls hW hS hl)
theorem j_if_ge (hX : Cx X B L cc own) {a off : Int} {tgt : Nat} (d : decode cc pc = .ok (.ifCond .ge off, 3)) (ht : (pc : Int) + off = (tgt : Int)) (ha : I32 a) (kt : 0 ≤ a → J X B N ce sl tgt lv st M) (kf : a < 0 → J X B N ce sl (pc + 3) lv st M) : J X B N ce sl pc lv (iv a :: st) M := by
  obtain ⟨p, l, e, R, s, m, args, below, meth, c, D, cy, nL, Q⟩ := X
  intro H locs ls hW hS hl
  have hz : I32 0 := ⟨by omega, by omega⟩
  exact lv_if_ge hX.1 hX.2.1 d ht (fun h => kt ((i32_le hz ha).mp h) H locs ls hW hS hl) (fun h => kf (Int.not_le.mp fun q => h ((i32_le hz ha).mpr q)) H locs ls hW hS hl)
theorem j_icmp_gt (hX : Cx X B L cc own) {a b off : Int} {tgt : Nat} (d : decode cc pc = .ok (.if_icmp .gt off, 3)) (ht : (pc : Int) + off = (tgt : Int)) (ha : I32 a) (hb : I32 b) (kt : b < a → J X B N ce sl tgt lv st M) (kf : a ≤ b → J X B N ce sl (pc + 3) lv st M) : J X B N ce sl pc lv (iv b :: iv a :: st) M := by
  obtain ⟨p, l, e, R, s, m, args, below, meth, c, D, cy, nL, Q⟩ := X
  intro H locs ls hW hS hl
  exact lv_icmp_gt hX.1 hX.2.1 d ht (fun h => kt ((i32_lt hb ha).mp h) H locs ls hW hS hl) (fun h => kf (Int.not_lt.mp fun q => h ((i32_lt hb ha).mpr q)) H locs ls hW hS hl)
theorem j_if_gt (hX : Cx X B L cc own) {a off : Int} {tgt : Nat} (d : decode cc pc = .ok (.ifCond .gt off, 3)) (ht : (pc : Int) + off = (tgt : Int)) (ha : I32 a) (kt : 0 < a → J X B N ce sl tgt lv st M) (kf : a ≤ 0 → J X B N ce sl (pc + 3) lv st M) : J X B N ce sl pc lv (iv a :: st) M := by
  obtain ⟨p, l, e, R, s, m, args, below, meth, c, D, cy, nL, Q⟩ := X
  intro H locs ls hW hS hl
  have hz : I32 0 := ⟨by omega, by omega⟩
  exact lv_if_gt hX.1 hX.2.1 d ht (fun h => kt ((i32_lt hz ha).mp h) H locs ls hW hS hl) (fun h => kf (Int.not_lt.mp fun q => h ((i32_lt hz ha).mpr q)) H locs ls hW hS hl)
theorem j_icmp_le (hX : Cx X B L cc own) {a b off : Int} {tgt : Nat} (d : decode cc pc = .ok (.if_icmp .le off, 3)) (ht : (pc : Int) + off = (tgt : Int)) (ha : I32 a) (hb : I32 b) (kt : a ≤ b → J X B N ce sl tgt lv st M) (kf : b < a → J X B N ce sl (pc + 3) lv st M) : J X B N ce sl pc lv (iv b :: iv a :: st) M := by
  obtain ⟨p, l, e, R, s, m, args, below, meth, c, D, cy, nL, Q⟩ := X
  intro H locs ls hW hS hl
  exact lv_icmp_le hX.1 hX.2.1 d ht (fun h => kt ((i32_le ha hb).mp h) H locs ls hW hS hl) (fun h => kf (Int.not_le.mp fun q => h ((i32_le ha hb).mpr q)) H locs ls hW hS hl)
theorem j_if_le (hX : Cx X B L cc own) {a off : Int} {tgt : Nat} (d : decode cc pc = .ok (.ifCond .le off, 3)) (ht : (pc : Int) + off = (tgt : Int)) (ha : I32 a) (kt : a ≤ 0 → J X B N ce sl tgt lv st M) (kf : 0 < a → J X B N ce sl (pc + 3) lv st M) : J X B N ce sl pc lv (iv a :: st) M := by
  obtain ⟨p, l, e, R, s, m, args, below, meth, c, D, cy, nL, Q⟩ := X
  intro H locs ls hW hS hl
  have hz : I32 0 := ⟨by omega, by omega⟩
  exact lv_if_le hX.1 hX.2.1 d ht (fun h => kt ((i32_le ha hz).mp h) H locs ls hW hS hl) (fun h => kf (Int.not_le.mp fun q => h ((i32_le ha hz).mpr q)) H locs ls hW hS hl)
theorem j_table (hX : Cx X B L cc own) {a dflt lo hi : Int} {offs : Array Int} {len tgd : Nat} (d : decode cc pc = .ok (.tableswitch dflt lo hi offs, len)) (ha : I32 a) (ht : (pc : Int) + dflt = (tgd : Int)) (kd : (a < lo ∨ hi < a) → J X B N ce sl tgd lv st M) (ki : lo ≤ a → a ≤ hi → ∃ (off : Int) (tgt : Nat), offs[(a - lo).toNat]? = some off ∧ (pc : Int) + off = (tgt : Int) ∧ J X B N ce sl tgt lv st M) : J X B N ce sl pc lv (iv a :: st) M := by
  obtain ⟨p, l, e, R, s, m, args, below, meth, c, D, cy, nL, Q⟩ := X
  intro H locs ls hW hS hl
  by_cases h : a < lo ∨ hi < a
  · exact lv_tableOut hX.1 hX.2.1 d (by rw [i32_int ha]; exact h) ht (kd h H locs ls hW hS hl)
  · obtain ⟨off, tgt, h1, h2, h3⟩ := ki (by omega) (by omega)
    exact lv_tableIn hX.1 hX.2.1 d (by rw [i32_int ha]; omega) (by rw [i32_int ha]; omega) (by rw [i32_int ha]; exact h1) h2 (h3 H locs ls hW hS hl)
theorem j_lookup (hX : Cx X B L cc own) {a dflt : Int} {ps : Array (Int × Int)} {len : Nat} (d : decode cc pc = .ok (.lookupswitch dflt ps, len)) (ha : I32 a) (hp : (ps.toList.zip (ps.toList.drop 1)).all (fun (a, next) => a.1 < next.1) = true) (kk : ∃ (off : Int) (tgt : Nat), Op.lookupswitch.offset ps.toList dflt a = off ∧ (pc : Int) + off = (tgt : Int) ∧ J X B N ce sl tgt lv st M) : J X B N ce sl pc lv (iv a :: st) M := by
  obtain ⟨p, l, e, R, s, m, args, below, meth, c, D, cy, nL, Q⟩ := X
  intro H locs ls hW hS hl
  obtain ⟨off, tgt, h1, h2, h3⟩ := kk
  exact lv_lookup hX.1 hX.2.1 d hp (by rw [i32_int ha]; exact h1) h2 (h3 H locs ls hW hS hl)
end JR
