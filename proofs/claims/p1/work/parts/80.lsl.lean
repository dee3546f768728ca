/-! the law -/
def LwS (M : MM) : Prop := Iv M ∧ CIv M ∧ RI M ∧ M.1 0 11 = M.1 210 64
theorem RI_c {M M' : MM} (h : RI M) (e : ∀ a b, 210 ≤ a → M'.1 a b = M.1 a b) : RI M' := by
  intro bk q
  rw [e 210 40 (by omega)] at q
  have h0 := h bk q
  rw [e 213 bk (by omega)]
  exact RI0_dp h0 (fun a b r => e a b (by omega))
theorem CI_c {M M' : MM} (h : CIv M) (hI : Iv M) (e : ∀ a b, a < 210 → M'.1 a b = M.1 a b) : CIv M' := CI_fr (P := fun a _ => 210 ≤ a) h hI (fun a b q => e a b (by omega)) (fun a b q => by omega)
theorem RI_f {P : Int → Int → Prop} {M M' : MM} (h : RI M) (hF : Fr P M M') (hp : ∀ a b, P a b → ¬ ((a = 210 ∧ b = 40) ∨ a = 213 ∨ a = 244 ∨ (a = 242 ∧ 0 ≤ b ∧ b ≤ 5) ∨ (a = 210 ∧ 50 ≤ b ∧ b ≤ 51) ∨ a = 255 ∨ a = 256 ∨ a = 229 ∨ a = 230 ∨ a = 232 ∨ a = 237)) : RI M' := by
  have e : ∀ a b, ((a = 210 ∧ b = 40) ∨ a = 213 ∨ a = 244 ∨ (a = 242 ∧ 0 ≤ b ∧ b ≤ 5) ∨ (a = 210 ∧ 50 ≤ b ∧ b ≤ 51) ∨ a = 255 ∨ a = 256 ∨ a = 229 ∨ a = 230 ∨ a = 232 ∨ a = 237) → M'.1 a b = M.1 a b := fun a b q => hF a b (fun z => hp a b z q)
  intro bk q
  rw [e 210 40 (by omega)] at q
  rw [e 213 bk (by omega)]
  exact RI0_dp (h bk q) (fun a b r => e a b (by omega))
theorem RI_r {P : Int → Int → Prop} {M M' : MM} (h : RI M) (hF : Fr P M M') (hp : ∀ a b, P a b → ¬ ((a = 210 ∧ b = 40) ∨ a = 213 ∨ a = 255 ∨ a = 256 ∨ a = 229 ∨ a = 230 ∨ a = 232 ∨ a = 237)) (hR : RS (M.1 213 (M.1 210 40)) M') : RI M' := by
  have e : ∀ a b, ((a = 210 ∧ b = 40) ∨ a = 213 ∨ a = 255 ∨ a = 256 ∨ a = 229 ∨ a = 230 ∨ a = 232 ∨ a = 237) → M'.1 a b = M.1 a b := fun a b q => hF a b (fun z => hp a b z q)
  have h0 := h _ rfl
  exact RI_mk (e 210 40 (by omega)) ⟨e 213 _ (by omega), hR, BX_dp h0.2.2.1 (fun a b r => e a b (by omega)), RWI_dp h0.2.2.2 (fun a b r => e a b (by omega))⟩
theorem RI_l {P : Int → Int → Prop} {M M' : MM} (h : RI M) (hF : Fr P M M') (hp : ∀ a b, P a b → ¬ ((a = 210 ∧ b = 40) ∨ a = 213 ∨ a = 244 ∨ (a = 210 ∧ 50 ≤ b ∧ b ≤ 51) ∨ a = 255 ∨ a = 256 ∨ a = 229 ∨ a = 230 ∨ a = 232 ∨ a = 237)) (hL : LQ (M.1 213 (M.1 210 40)) 242 0 M') : RI M' := by
  refine RI_r h hF (fun a b z w => hp a b z (by omega)) (RS_of (h _ rfl).2.1 hL (fun a b r => hF a b (fun z => hp a b z (by omega))))
theorem RI_b {P : Int → Int → Prop} {M M' : MM} (h : RI M) (hF : Fr P M M') (hp : ∀ a b, P a b → ¬ ((a = 210 ∧ b = 40) ∨ a = 213 ∨ a = 244 ∨ (a = 242 ∧ 0 ≤ b ∧ b ≤ 5) ∨ (a = 210 ∧ 50 ≤ b ∧ b ≤ 51) ∨ a = 229 ∨ a = 230 ∨ a = 232 ∨ a = 237)) (hB : BX (M.1 213 (M.1 210 40)) M') : RI M' := by
  have e : ∀ a b, ((a = 210 ∧ b = 40) ∨ a = 213 ∨ a = 244 ∨ (a = 242 ∧ 0 ≤ b ∧ b ≤ 5) ∨ (a = 210 ∧ 50 ≤ b ∧ b ≤ 51) ∨ a = 229 ∨ a = 230 ∨ a = 232 ∨ a = 237) → M'.1 a b = M.1 a b := fun a b q => hF a b (fun z => hp a b z q)
  have h0 := h _ rfl
  exact RI_mk (e 210 40 (by omega)) ⟨e 213 _ (by omega), RS_dp h0.2.1 (fun a b r => e a b (by omega)), hB, RWI_dp h0.2.2.2 (fun a b r => e a b (by omega))⟩
theorem CI_un {P : Int → Int → Prop} {M M' : MM} (h : CIv M) (hI : Iv M) (hF : Fr P M M') (hp : ∀ a b, P a b → a = 26 ∧ b = 1) (ha : M'.1 26 1 ≤ M'.1 26 2) : CIv M' := by
  refine CI_act h hF (fun a b z w => by have := hp a b z; omega) ha ?_
  rw [hF 26 2 (fun z => by have := hp _ _ z; omega)]
  exact RV_fr h.2.2.2.2.2.1 hI hF (fun a b z => by have := hp a b z; omega)
theorem CI_im {P : Int → Int → Prop} {M M' : MM} (h : CIv M) (hI : Iv M) (hF : Fr P M M') (hp : ∀ a b, P a b → (a = 0 ∧ b = 9) ∨ (201 ≤ a ∧ a ≤ 209)) (hB : BF (M.1 (M.1 0 8) 0) M') : CIv M' := by
  obtain ⟨hq, hn, h11, hk, ha, hR, _⟩ := h
  have e : ∀ a b, ((a = 0 ∧ b = 8) ∨ (1 ≤ a ∧ a ≤ 200)) → M'.1 a b = M.1 a b := fun a b q => hF a b (fun z => by have := hp a b z; omega)
  refine CI_mk (e 0 8 (by omega)) hq (e _ _ (by omega)) ((e 1 1 (by omega)).trans h11) (KN_fr hk hF (fun z => by have := hp _ _ z; omega) (fun z => by have := hp _ _ z; omega)) (by rw [e 26 1 (by omega), e 26 2 (by omega)]; exact ha) ?_ hB
  rw [e 26 2 (by omega)]
  exact RV_fr hR hI hF (fun a b z => by have := hp a b z; omega)
/-- the script -/
def SX (X : CT) (B b n : Nat) (ss : Nat → Int32) : Prop := va_X b n ss (X.2.2.2.2.1) (X.2.2.2.2.1).heap ∧ b < (X.2.2.2.2.1).heap.size ∧ B = (X.2.2.2.2.1).heap.size
section LAWR
variable {X : CT} {B N ce sl L : Nat} {cc : ByteArray} {own : String} {pc : Nat} {lv : List (Nat × Value)} {st : List Value} {M : MM}
theorem j_sld (hX : Cx X B L cc own) {b n : Nat} {ss : Nat → Int32} (hS : SX X B b n ss) {i : Int} (h0 : 0 ≤ i) (h1 : i < (n : Int)) (hn : (n : Int) ≤ 3072) (d : decode cc pc = .ok (.iaload, 1)) (kk : ∀ z : Int, z = (ss i.toNat).toInt → I32 z → J X B N ce sl (pc + 1) lv (iv z :: st) M) : J X B N ce sl pc lv (iv i :: .ref b :: st) M := by
  obtain ⟨p, l, e, R, s, m, args, below, meth, c, D, cy, nL, Q⟩ := X
  intro H locs ls hW hS' hls
  obtain ⟨hexec, hb, hml, hown, hts, hK', hLf, hLl, hEx⟩ := hX
  obtain ⟨hx, hbl, hB⟩ := hS
  have hB' : B = s.heap.size := hB
  have hin : vp_in (Int32.ofInt i) n := by
    unfold vp_in
    rw [i32_nat h0 (by omega), i32_0, i32_lt ⟨by omega, by omega⟩ ⟨by omega, by omega⟩]
    omega
  have hbl' : b < s.heap.size := hbl
  refine va_sld (A := fun q => B ≤ q) hexec hb hx hbl' (by rw [hB']; omega) hS' hin d ?_
  have h := kk (ss i.toNat).toInt rfl (i32_of _) H locs ls hW hS' hls
  rw [iv_of] at h
  rw [i32_nat h0 (by omega)]
  exact h
theorem j_slen (hX : Cx X B L cc own) {b n : Nat} {ss : Nat → Int32} (hS : SX X B b n ss) (hn : (n : Int) ≤ 3072) (d : decode cc pc = .ok (.arraylength, 1)) (kk : J X B N ce sl (pc + 1) lv (iv (n : Int) :: st) M) : J X B N ce sl pc lv (.ref b :: st) M := by
  obtain ⟨p, l, e, R, s, m, args, below, meth, c, D, cy, nL, Q⟩ := X
  intro H locs ls hW hS' hls
  obtain ⟨hexec, hb, hml, hown, hts, hK', hLf, hLl, hEx⟩ := hX
  obtain ⟨hx, hbl, hB⟩ := hS
  have hB' : B = s.heap.size := hB
  have hbl' : b < s.heap.size := hbl
  exact va_slen (A := fun q => B ≤ q) hexec hb hx hbl' (by rw [hB']; omega) hS' d (kk H locs ls hW hS' hls)
end LAWR
theorem FM_c {M M' : MM} (h : FM M) (e : ∀ a b, 210 ≤ a → M'.1 a b = M.1 a b) : FM M' := by
  obtain ⟨⟨h1, h2, h3, h4, h5, h6⟩, ⟨g1, g2, g3⟩, ⟨k1, k2, k3⟩, ⟨l1, l2, l3, l4, l5⟩, hb⟩ := h
  have g : ∀ {a b v : Int}, M.1 a b = v → 210 ≤ a → M'.1 a b = v := fun q p => (e _ _ p).trans q
  exact ⟨⟨g h1 (by omega), g h2 (by omega), g h3 (by omega), g h4 (by omega), g h5 (by omega), g h6 (by omega)⟩, ⟨g g1 (by omega), g g2 (by omega), g g3 (by omega)⟩, ⟨g k1 (by omega), g k2 (by omega), g k3 (by omega)⟩, ⟨g l1 (by omega), g l2 (by omega), g l3 (by omega), g l4 (by omega), g l5 (by omega)⟩, fun k p q => (e _ _ (by omega)).trans (hb k p q)⟩
theorem FC_c {M M' : MM} (h : FC M) (e : ∀ a b, a < 210 → M'.1 a b = M.1 a b) : FC M' := by
  obtain ⟨⟨h1, h2, h3, h4⟩, ⟨g1, g2, g3, g4, g5⟩, ⟨k1, k2, k3, k4⟩, ⟨l1, l2, l3, l4⟩, ⟨m1, m2, m3⟩, ha, hb⟩ := h
  have g : ∀ {a b v : Int}, M.1 a b = v → a < 210 → M'.1 a b = v := fun q p => (e _ _ p).trans q
  exact ⟨⟨g h1 (by omega), g h2 (by omega), g h3 (by omega), g h4 (by omega)⟩, ⟨g g1 (by omega), g g2 (by omega), g g3 (by omega), g g4 (by omega), g g5 (by omega)⟩, ⟨g k1 (by omega), g k2 (by omega), g k3 (by omega), g k4 (by omega)⟩, ⟨g l1 (by omega), g l2 (by omega), g l3 (by omega), g l4 (by omega)⟩, ⟨g m1 (by omega), g m2 (by omega), g m3 (by omega)⟩, fun i p q => (e _ _ (by omega)).trans (ha i p q), fun i p q => (e _ _ (by omega)).trans (hb i p q)⟩
