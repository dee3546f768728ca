/-! System.arraycopy of ints from the first place to the first place -/
def cpM (M : MM) (k0 k1 n : Int) : MM := (fun a b => if a = k1 ∧ 0 ≤ b ∧ b < n then M.1 k0 b else M.1 a b, M.2)
section JCP
variable {X : CT} {B N ce sl L : Nat} {cc : ByteArray} {own : String} {pc : Nat} {lv lv' : List (Nat × Value)} {st : List Value} {M : MM}
theorem j_copy (hX : Cx X B L cc own) {idx : Nat} {k0 k1 n : Int} {n0 n1 : Nat} (hlk : Cond.methodLink own idx arraycopyName ∈ gw) (h00 : 0 ≤ k0) (h0N : k0 < N) (hk0 : kd k0 = .inr (0, n0)) (h10 : 0 ≤ k1) (h1N : k1 < N) (hk1 : kd k1 = .inr (0, n1)) (hn : 0 ≤ n) (hn0 : n ≤ n0) (hn1 : n ≤ n1) (hb0 : (n0 : Int) ≤ 2147483647) (hb1 : (n1 : Int) ≤ 2147483647) (hL : 1 ≤ L) (hst : (st.map fun v => v.category).sum ≤ 8) (d : decode cc pc = .ok (.invokestatic idx, 3)) (kk : J X B N ce sl (pc + 3) lv st (cpM M k0 k1 n)) : J X B N ce sl pc lv (iv n :: iv 0 :: rv B k1 :: iv 0 :: rv B k0 :: st) M := by
  obtain ⟨p, l, e, R, s, m, args, below, meth, c, D, cy, nL, Q⟩ := X
  intro H locs ls hW hS hls
  obtain ⟨hexec, hb, hml, hown, hts, hK, hLf, hLl, hEx⟩ := hX
  have hc0 := cat_a h00 hk0 (hW.2.1 k0.toNat (by omega))
  have hc1 := cat_a h10 hk1 (hW.2.1 k1.toNat (by omega))
  intro T hT Xs
  obtain ⟨-, ka, hka, cma, hkka⟩ := (hK.2 0 _ rfl).1 n0 (fun j => fv B M k0 j (ac 0))
  obtain ⟨-, kb, hkb, cmb, hkkb⟩ := (hK.2 0 _ rfl).1 n1 (fun j => fv B M k1 j (ac 0))
  have z0 : ¬ Int32.ofInt 0 < 0 := by decide
  have zn : ¬ Int32.ofInt n < 0 := by rw [i32_0, i32_lt ⟨by omega, by omega⟩ ⟨by omega, by omega⟩]; omega
  have nt : (Int32.ofInt n).toNatClampNeg = n.toNat := i32_nat hn (by omega)
  have n0t : (Int32.ofInt 0).toNatClampNeg = 0 := rfl
  obtain ⟨vm', X', step⟩ := Xs.arraycopy hexec hown (hts _ hlk) (hts _ (in_4 112 (by first | rfl | decide +kernel) rfl)) (hts _ (in_4 111 (by first | rfl | decide +kernel) rfl)) (hts _ (in_1 21 (by first | rfl | decide +kernel) rfl)) (src := B + k0.toNat) (dst := B + k1.toNat) (srcPos := Int32.ofInt 0) (destPos := Int32.ofInt 0) (n := Int32.ofInt n) (by rw [hT]; exact hc0) (by rw [hT]; exact hc1)
    (fun _ h => by cases h) (fun _ h => by cases h) (fun h => by cases h) (fun h => by cases h) hka hkb hkka hkkb (by simp [refKind]) z0 z0 zn
    (by rw [i32_int ⟨by omega, by omega⟩, i32_int ⟨by omega, by omega⟩, arrV_size]; omega)
    (by rw [i32_int ⟨by omega, by omega⟩, i32_int ⟨by omega, by omega⟩, arrV_size]; omega)
    (fun vm₁ _ i hi => by
      rw [nt] at hi
      have e : (arrV (cy 0) n0 (fun j => fv B M k0 j (ac 0))).slots.getD ((Int32.ofInt 0).toNatClampNeg + i) .null = iv (M.1 k0 i) := by
        rw [n0t, Nat.zero_add, Array.getD_eq_getD_getElem?, arrV_read _ _ (by omega)]
        rfl
      rw [e]
      exact ⟨rfl, trivial⟩)
    (g := F0 m pc ls (iv n :: iv 0 :: rv B k1 :: iv 0 :: rv B k0 :: st)) rfl (by rw [hml]; exact hls.1) (rest := st) rfl (by rw [hb]; exact d) (by omega) (by
      have : nativeFrameWords "java/lang/System" "arraycopy" 5 + 11 ≤ 56 := by decide
      show 2 * 0 + _ + _ ≤ _
      omega)
  have e1 : copied (arrV (cy 0) n0 (fun j => fv B M k0 j (ac 0))) (arrV (cy 0) n1 (fun j => fv B M k1 j (ac 0))) (Int32.ofInt 0) (Int32.ofInt 0) (Int32.ofInt n) = arrV (cy 0) n1 (fun j => .int (va_cpy (fun j => Int32.ofInt (M.1 k0 j)) (fun j => Int32.ofInt (M.1 k1 j)) 0 0 n.toNat j)) := by
    have h := va_copied (n0 := n0) (n1 := n1) (dp := (Int32.ofInt 0).toNatClampNeg) (fun z => Value.int z) (cy 0) (cy 0) (fun j : Nat => Int32.ofInt (M.1 k0 j)) (fun j : Nat => Int32.ofInt (M.1 k1 j)) (show (Int32.ofInt 0).toNatClampNeg + (Int32.ofInt n).toNatClampNeg ≤ n0 by rw [n0t, nt]; omega)
    exact h.trans (by rw [n0t, nt])
  have e2 : copied (arrV (cy 0, FieldType.int).fst n0 (fun j => fv B M k0 j (ac 0))) (arrV (cy 0, FieldType.int).fst n1 (fun j => fv B M k1 j (ac 0))) (Int32.ofInt 0) (Int32.ofInt 0) (Int32.ofInt n) = _ := e1
  rw [e2] at X' step
  have hl : B + k1.toNat < H.size := (Array.getElem?_eq_some_iff.mp hc1).1
  generalize hcell : (arrV (cy 0) n1 (fun j => .int (va_cpy (fun j : Nat => Int32.ofInt (M.1 k0 j)) (fun j : Nat => Int32.ofInt (M.1 k1 j)) 0 0 n.toNat j)) : Cell) = cell at X' step
  have hheap : ((T.setVm vm').setCell (B + k1.toNat) cell).heap = H.setIfInBounds (B + k1.toNat) cell := by rw [← hT]; rfl
  have oq : ∀ q : Nat, q ≠ B + k1.toNat → (H.setIfInBounds (B + k1.toNat) cell)[q]? = H[q]? := fun q hq => by simp [Array.getElem?_setIfInBounds, Ne.symm hq]
  have hW' : Wd D cy B N (cpM M k0 k1 n) (H.setIfInBounds (B + k1.toNat) cell) := by
    refine wd_new hW h10 (fun a b h => ?_) (fun _ _ _ => rfl) (fun a b => ?_) (by simp) oq (cat_ai h10 hk1 ?_)
    · simp only [cpM]; rw [if_neg (fun q => h q.1)]
    · simp only [cpM]; split <;> exact hW.2.2 _ _
    · rw [show (H.setIfInBounds (B + k1.toNat) cell)[B + k1.toNat]? = some cell by simp [Array.getElem?_setIfInBounds, hl], ← hcell]
      congr 2
      funext j
      show Value.int (va_cpy _ _ 0 0 n.toNat j) = iv ((cpM M k0 k1 n).1 k1 j)
      unfold va_cpy cpM
      by_cases hj : j < n.toNat
      · rw [if_pos ⟨Nat.zero_le _, by omega⟩]
        dsimp only
        rw [if_pos ⟨rfl, by omega, by omega⟩]
        simp only [Nat.zero_add, Nat.sub_zero]
        rfl
      · rw [if_neg (fun h => hj (by omega))]
        dsimp only
        rw [if_neg (fun h => hj (by omega))]
        rfl
  obtain ⟨t, a1, b1⟩ := kk _ _ ls hW' ⟨by simp; exact hS.1, fun q g1 g2 => by
      rw [oq q (fun e => g2 (by rw [e]; exact Nat.le_add_right _ _))]
      exact hS.2.1 q g1 g2, fun q hq => by
      rcases List.mem_append.mp hq with h | h
      · exact hS.2.2 q h
      · obtain ⟨z, -, hz⟩ := List.mem_map.mp h
        rw [← hz]
        exact Nat.le_add_right _ _⟩ hls _ hheap X'
  exact ⟨t, step t a1, b1⟩
theorem j_cp (hI : Iv M) {k0 k1 n lo hi lo' hi' : Int} (hr0 : ∀ b, rg k0 b = (lo, hi)) (hr1 : ∀ b, rg k1 b = (lo', hi')) (h1 : lo' ≤ lo) (h2 : hi ≤ hi') (h27 : k1 ≠ 27) (kk : ∀ (M' : MM), M' = cpM M k0 k1 n → Iv M' → J X B N ce sl pc lv st M') : J X B N ce sl pc lv st (cpM M k0 k1 n) := by
  refine kk _ rfl ⟨fun a b => ?_, fun i => ?_⟩
  · simp only [cpM]
    split
    · rename_i h
      have := hI.at k0 b (hr0 b)
      rw [h.1, hr1 b]
      exact ⟨by omega, by omega⟩
    · exact hI.1 a b
  · simp only [cpM]
    rw [if_neg (fun q => h27 q.1.symm)]
    exact hI.2 i
end JCP
theorem fr_cp {M M' : MM} {k0 k1 n : Int} (h : M' = cpM M k0 k1 n) : Fr (fun a (_ : Int) => a = k1) M M' := by
  intro a b hab
  rw [h]
  simp only [cpM]
  rw [if_neg (fun q => hab q.1)]
theorem cp_at {M M' : MM} {k0 k1 n b : Int} (h : M' = cpM M k0 k1 n) (h0 : 0 ≤ b) (h1 : b < n) : M'.1 k1 b = M.1 k0 b := by
  rw [h]
  show (if k1 = k1 ∧ 0 ≤ b ∧ b < n then M.1 k0 b else M.1 k1 b) = _
  rw [if_pos ⟨rfl, h0, h1⟩]
