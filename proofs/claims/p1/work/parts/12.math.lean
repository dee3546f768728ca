theorem j_mmax {X : CT} {B N ce sl L : Nat} {cc : ByteArray} {own : String} {pc : Nat} {lv : List (Nat × Value)} {st : List Value} {M : MM} (hX : Cx X B L cc own) {idx : Nat} {a b : Int} (hlk : Cond.methodLink own idx Lib.Math.max.name ∈ gw) (hL : 1 ≤ L) (hce : ce + 0 ≤ (xR X).cells ∧ sl + 0 ≤ (xR X).slots) (ha : I32 a) (hb' : I32 b) (hst : (st.map fun v => v.category).sum ≤ 8) (d : decode cc pc = .ok (.invokestatic idx, 3)) (kk : ∀ z : Int, (z = a ∨ z = b) ∧ a ≤ z ∧ b ≤ z → J X B N ce sl (pc + 3) lv (iv z :: st) M) : J X B N ce sl pc lv (iv b :: iv a :: st) M := by
  obtain ⟨p, l, e, R, s, m, args, below, meth, c, D, cy, nL, Q⟩ := X
  intro H locs ls hW hS hls
  obtain ⟨hexec, hb, hml, hown, hts, hK, hLf, hLl, hEx⟩ := hX
  refine va_mmax hexec hb (hml.trans hls.1.symm) hown (hts _ hlk) (hts _ (in_2 198 (by first | rfl | decide +kernel) rfl)) (hts _ (in_1 17 (by first | rfl | decide +kernel) rfl)) (hts _ (in_2 199 (by first | rfl | decide +kernel) rfl)) (by show 1 ≤ R.frames; omega) (by show _ + 13 ≤ R.locals; omega) hce.1 hce.2 d ?_
  have h := i32_lt ha hb'
  have h2 := i32_lt hb' ha
  split
  · rename_i q
    exact kk b ⟨Or.inr rfl, by simp only [h, h2] at q; omega, by omega⟩ H locs ls hW hS hls
  · rename_i q
    exact kk a ⟨Or.inl rfl, by omega, by simp only [h, h2] at q; omega⟩ H locs ls hW hS hls
theorem j_mmin {X : CT} {B N ce sl L : Nat} {cc : ByteArray} {own : String} {pc : Nat} {lv : List (Nat × Value)} {st : List Value} {M : MM} (hX : Cx X B L cc own) {idx : Nat} {a b : Int} (hlk : Cond.methodLink own idx Lib.Math.min.name ∈ gw) (hL : 1 ≤ L) (hce : ce + 0 ≤ (xR X).cells ∧ sl + 0 ≤ (xR X).slots) (ha : I32 a) (hb' : I32 b) (hst : (st.map fun v => v.category).sum ≤ 8) (d : decode cc pc = .ok (.invokestatic idx, 3)) (kk : ∀ z : Int, (z = a ∨ z = b) ∧ z ≤ a ∧ z ≤ b → J X B N ce sl (pc + 3) lv (iv z :: st) M) : J X B N ce sl pc lv (iv b :: iv a :: st) M := by
  obtain ⟨p, l, e, R, s, m, args, below, meth, c, D, cy, nL, Q⟩ := X
  intro H locs ls hW hS hls
  obtain ⟨hexec, hb, hml, hown, hts, hK, hLf, hLl, hEx⟩ := hX
  refine va_mmin hexec hb (hml.trans hls.1.symm) hown (hts _ hlk) (hts _ (in_3 76 (by first | rfl | decide +kernel) rfl)) (hts _ (in_1 17 (by first | rfl | decide +kernel) rfl)) (hts _ (in_3 77 (by first | rfl | decide +kernel) rfl)) (by show 1 ≤ R.frames; omega) (by show _ + 13 ≤ R.locals; omega) hce.1 hce.2 d ?_
  have h := i32_lt ha hb'
  have h2 := i32_lt hb' ha
  split
  · rename_i q
    exact kk b ⟨Or.inr rfl, by simp only [h, h2] at q; omega, by omega⟩ H locs ls hW hS hls
  · rename_i q
    exact kk a ⟨Or.inl rfl, by omega, by simp only [h, h2] at q; omega⟩ H locs ls hW hS hls
