/-! bits of small sets -/
theorem bt_i (s k : Int) : I32 (bt s k) := i32_of _
theorem bt_01 (s k : Int) : 0 ≤ bt s k ∧ bt s k ≤ 1 := (and_f (z := bt s k) (a := (Int32.ofInt s >>> (Int32.ofInt k &&& 31)).toInt) (b := 1) rfl (i32_of _) ⟨by omega, by omega⟩).2 (by omega)
theorem orb_d : ∀ s : Nat, s < 64 → ∀ k : Nat, k < 6 → 0 ≤ orb s k ∧ orb s k < 64 ∧ ∀ j : Nat, j < 6 → bt (orb s k) j = if j = k then 1 else bt s j := by decide +kernel
theorem n64 {s : Int} (h0 : 0 ≤ s) (h1 : s < 64) : ∃ n : Nat, n < 64 ∧ s = n := ⟨s.toNat, by omega, by omega⟩
theorem n6 {s : Int} (h0 : 0 ≤ s) (h1 : s < 6) : ∃ n : Nat, n < 6 ∧ s = n := ⟨s.toNat, by omega, by omega⟩
theorem orb_r {s k z : Int} (h : z = orb s k) (h0 : 0 ≤ s) (h1 : s < 64) (k0 : 0 ≤ k) (k1 : k < 6) : 0 ≤ z ∧ z < 64 := by
  obtain ⟨a, ha, rfl⟩ := n64 h0 h1
  obtain ⟨b, hb, rfl⟩ := n6 k0 k1
  have := orb_d a ha b hb
  rw [h]
  exact ⟨this.1, this.2.1⟩
theorem orb_b {s k z j : Int} (h : z = orb s k) (h0 : 0 ≤ s) (h1 : s < 64) (k0 : 0 ≤ k) (k1 : k < 6) (j0 : 0 ≤ j) (j1 : j < 6) : bt z j = if j = k then 1 else bt s j := by
  obtain ⟨a, ha, rfl⟩ := n64 h0 h1
  obtain ⟨b, hb, rfl⟩ := n6 k0 k1
  obtain ⟨c, hc, rfl⟩ := n6 j0 j1
  have := (orb_d a ha b hb).2.2 c hc
  rw [h, this]
  by_cases q : c = b
  · rw [if_pos q, if_pos (by omega)]
  · rw [if_neg q, if_neg (by omega)]
theorem orb_c {s k z : Int} (h : z = orb s k) (h0 : 0 ≤ s) (h1 : s < 64) (k0 : 0 ≤ k) (k1 : k < 6) (hb : bt s k = 0) : (0 ≤ z ∧ z < 64) ∧ cn z = cn s + 1 := by
  refine ⟨orb_r h h0 h1 k0 k1, ?_⟩
  have b0 := orb_b h h0 h1 k0 k1 (j := 0) (by omega) (by omega)
  have b1 := orb_b h h0 h1 k0 k1 (j := 1) (by omega) (by omega)
  have b2 := orb_b h h0 h1 k0 k1 (j := 2) (by omega) (by omega)
  have b3 := orb_b h h0 h1 k0 k1 (j := 3) (by omega) (by omega)
  have b4 := orb_b h h0 h1 k0 k1 (j := 4) (by omega) (by omega)
  have b5 := orb_b h h0 h1 k0 k1 (j := 5) (by omega) (by omega)
  unfold cn
  rw [b0, b1, b2, b3, b4, b5]
  have hk : k = 0 ∨ k = 1 ∨ k = 2 ∨ k = 3 ∨ k = 4 ∨ k = 5 := by omega
  rcases hk with e | e | e | e | e | e <;> subst e <;> simp only [if_true, if_false, reduceIte, show ¬ (0 : Int) = 1 by decide, show ¬ (0 : Int) = 2 by decide, show ¬ (0 : Int) = 3 by decide, show ¬ (0 : Int) = 4 by decide, show ¬ (0 : Int) = 5 by decide, show ¬ (1 : Int) = 0 by decide, show ¬ (1 : Int) = 2 by decide, show ¬ (1 : Int) = 3 by decide, show ¬ (1 : Int) = 4 by decide, show ¬ (1 : Int) = 5 by decide, show ¬ (2 : Int) = 0 by decide, show ¬ (2 : Int) = 1 by decide, show ¬ (2 : Int) = 3 by decide, show ¬ (2 : Int) = 4 by decide, show ¬ (2 : Int) = 5 by decide, show ¬ (3 : Int) = 0 by decide, show ¬ (3 : Int) = 1 by decide, show ¬ (3 : Int) = 2 by decide, show ¬ (3 : Int) = 4 by decide, show ¬ (3 : Int) = 5 by decide, show ¬ (4 : Int) = 0 by decide, show ¬ (4 : Int) = 1 by decide, show ¬ (4 : Int) = 2 by decide, show ¬ (4 : Int) = 3 by decide, show ¬ (4 : Int) = 5 by decide, show ¬ (5 : Int) = 0 by decide, show ¬ (5 : Int) = 1 by decide, show ¬ (5 : Int) = 2 by decide, show ¬ (5 : Int) = 3 by decide, show ¬ (5 : Int) = 4 by decide] <;> omega
theorem cn_b (s : Int) : 0 ≤ cn s ∧ cn s ≤ 6 := by
  have h0 := bt_01 s 0
  have h1 := bt_01 s 1
  have h2 := bt_01 s 2
  have h3 := bt_01 s 3
  have h4 := bt_01 s 4
  have h5 := bt_01 s 5
  unfold cn
  omega
theorem bt_0 {k : Int} (h0 : 0 ≤ k) (h1 : k < 6) : bt 0 k = 0 := by
  obtain ⟨b, hb, rfl⟩ := n6 h0 h1
  exact (by decide +kernel : ∀ b : Nat, b < 6 → bt 0 b = 0) b hb
theorem full_d : ∀ n : Nat, n < 7 → 0 ≤ (Int32.ofInt 1 <<< (Int32.ofInt (n : Int) &&& 31)).toInt - 1 ∧ (Int32.ofInt 1 <<< (Int32.ofInt (n : Int) &&& 31)).toInt - 1 < 64 ∧ ∀ k : Nat, k < 6 → bt ((Int32.ofInt 1 <<< (Int32.ofInt (n : Int) &&& 31)).toInt - 1) k = if k < n then 1 else 0 := by decide +kernel
theorem full_b {n m z k : Int} (hz : z = (Int32.ofInt 1 <<< (Int32.ofInt m &&& 31)).toInt) (hm : m = n) (hn : 0 ≤ n ∧ n ≤ 6) (k0 : 0 ≤ k) (k1 : k < 6) : bt (z - 1) k = if k < n then 1 else 0 := by
  obtain ⟨a, ha, rfl⟩ : ∃ a : Nat, a < 7 ∧ n = a := ⟨n.toNat, by omega, by omega⟩
  obtain ⟨b, hb, rfl⟩ := n6 k0 k1
  rw [hz, hm, (full_d a ha).2.2 b hb]
  by_cases q : b < a
  · rw [if_pos q, if_pos (by omega)]
  · rw [if_neg q, if_neg (by omega)]
theorem full_r {n m z : Int} (hz : z = (Int32.ofInt 1 <<< (Int32.ofInt m &&& 31)).toInt) (hm : m = n) (hn : 0 ≤ n ∧ n ≤ 6) : 0 ≤ z - 1 ∧ z - 1 < 64 := by
  obtain ⟨a, ha, rfl⟩ : ∃ a : Nat, a < 7 ∧ n = a := ⟨n.toNat, by omega, by omega⟩
  rw [hz, hm]
  exact ⟨(full_d a ha).1, (full_d a ha).2.1⟩
/-- a row under way, from behind -/
def LL (M : MM) (n x s : Int) : Prop := (∀ i, x < i → i < n → 0 ≤ M.1 248 i ∧ M.1 248 i < n) ∧ (∀ v, 0 ≤ v → v < 6 → bt s v = 1 → ∃ i, x < i ∧ i < n ∧ M.1 248 i = v) ∧ 0 ≤ s ∧ s < 64
theorem LL_0 {M : MM} {n x : Int} (hx : n ≤ x + 1) : LL M n x 0 := ⟨fun i a b => absurd b (by omega), fun v a b h => absurd h (by rw [bt_0 a b]; decide), by omega, by omega⟩
theorem LL_s {M M' : MM} {n x s w z : Int} (h : LL M n x s) (e : M' = up M 248 x w) (hw : 0 ≤ w ∧ w < n) (hx : x < n ∧ n ≤ 6) (ho : z = orb s w) : LL M' n (x + -1) z := by
  obtain ⟨h1, h2, h3, h4⟩ := h
  have hr := orb_r ho h3 h4 hw.1 (by omega)
  refine ⟨fun i a b => ?_, fun v a b q => ?_, hr.1, hr.2⟩
  · by_cases c : i = x
    · rw [e, c, up_eq]; exact hw
    · rw [e, up_ne (by omega)]; exact h1 i (by omega) b
  · rw [orb_b ho h3 h4 hw.1 (by omega) a b] at q
    by_cases c : v = w
    · exact ⟨x, by omega, hx.1, by rw [e, up_eq, c]⟩
    · rw [if_neg c] at q
      obtain ⟨i, p, r, t⟩ := h2 v a b q
      exact ⟨i, by omega, r, by rw [e, up_ne (by omega)]; exact t⟩
theorem LL_end {M : MM} {n x s m z : Int} (h : LL M n x s) (hx : x ≤ -1) (hn : 0 ≤ n ∧ n ≤ 6) (hz : z = (Int32.ofInt 1 <<< (Int32.ofInt m &&& 31)).toInt) (hm : m = n) (hs : s = z - 1) (hx2 : -1 ≤ x) : LQ n 248 0 M := by
  obtain ⟨h1, h2, h3, h4⟩ := h
  refine ⟨hn.2, fun i a b => ?_, fun r a b => ?_⟩
  · rw [Int.zero_add]; exact h1 i (by omega) b
  · obtain ⟨i, p, q, t⟩ := h2 r a (by omega) (by rw [hs, full_b hz hm hn a (by omega), if_pos b])
    exact ⟨i, by omega, q, by rw [Int.zero_add]; exact t⟩
def v0 (n : Int) : Int := ([0, 0, 1, 5, 27, 194, 1865] : List Int).getD n.toNat 0
def rr (n x : Int) : Int := (([[0], [0, 0], [0, 0, 1], [0, 0, 1, 5], [0, 0, 1, 6, 27], [0, 0, 1, 7, 38, 194], [0, 0, 1, 8, 51, 310, 1865]] : List (List Int)).getD n.toNat []).getD (x + 1).toNat 0
def ss (n x : Int) : Int := (([[0], [1, 0], [3, 2, 0], [7, 6, 4, 0], [15, 14, 12, 8, 0], [31, 30, 28, 24, 16, 0], [63, 62, 60, 56, 48, 32, 0]] : List (List Int)).getD n.toNat []).getD (x + 1).toNat 0
theorem ll_d : ∀ n : Nat, n < 7 → (v0 n = rr n (n - 1) ∧ ss n (n - 1) = 0 ∧ ss n (-1) = (Int32.ofInt 1 <<< (Int32.ofInt (n : Int) &&& 31)).toInt - 1) ∧ ∀ x : Nat, x < n → (rr n x).tmod n = x ∧ (rr n x).tdiv n = rr n ((x : Int) + -1) ∧ orb (ss n x) x = ss n ((x : Int) + -1) := by decide +kernel
theorem n7 {n : Int} (hn : 0 ≤ n ∧ n ≤ 6) : ∃ a : Nat, a < 7 ∧ n = a := ⟨n.toNat, by omega, by omega⟩
theorem ll_0 {n x a : Int} (hn : 0 ≤ n ∧ n ≤ 6) (hx : x = n - 1) (h : a = v0 n) : a = rr n x ∧ 0 = ss n x := by
  obtain ⟨m, hm, rfl⟩ := n7 hn
  have := (ll_d m hm).1
  rw [hx, h]
  exact ⟨this.1, this.2.1.symm⟩
theorem ll_s {n x r2 s2 zr zd w z m m2 : Int} (hn : 0 ≤ n ∧ n ≤ 6) (h0 : 0 ≤ x) (hx : x < n) (h : r2 = rr n x ∧ s2 = ss n x) (hr : zr = r2.tmod m) (hm : m = n) (hd : m2 ≠ -1 → zd = r2.tdiv m2) (hm2 : m2 = n) (hw : w = zr) (ho : z = orb s2 w) : zd = rr n (x + -1) ∧ z = ss n (x + -1) := by
  have hd' := hd (by omega)
  obtain ⟨a, ha, rfl⟩ := n7 hn
  obtain ⟨b, rfl⟩ : ∃ b : Nat, x = b := ⟨x.toNat, by omega⟩
  have := (ll_d a ha).2 b (by omega)
  refine ⟨?_, ?_⟩
  · rw [hd', h.1, hm2]; exact this.2.1
  · rw [ho, hw, hr, h.1, h.2, hm, this.1]; exact this.2.2
theorem ll_e {n x s m z : Int} (hn : 0 ≤ n ∧ n ≤ 6) (hx : x = -1) (h : s = ss n x) (hz : z = (Int32.ofInt 1 <<< (Int32.ofInt m &&& 31)).toInt) (hm : m = n) : s = z - 1 := by
  obtain ⟨a, ha, rfl⟩ := n7 hn
  rw [h, hx, hz, hm]
  exact (ll_d a ha).1.2.2
def pw (n x : Int) : Int := n ^ x.toNat
theorem pw_st {n x a z : Int} (h : a = pw n x) (hz : z = n) (hx : 0 ≤ x) : a * z = pw n (x + 1) := by
  unfold pw at *
  rw [h, hz, show (x + 1).toNat = x.toNat + 1 by omega, Int.pow_succ]
theorem pw_0 (n : Int) : 1 = pw n 0 := by unfold pw; simp
theorem pw_b {n x : Int} (hn : 0 ≤ n ∧ n ≤ 6) (hx : 0 ≤ x ∧ x ≤ 6) : 0 ≤ pw n x ∧ pw n x ≤ 46656 := by
  obtain ⟨a, ha, rfl⟩ := n7 hn
  obtain ⟨b, hb, rfl⟩ := n7 hx
  exact (by decide +kernel : ∀ a : Nat, a < 7 → ∀ b : Nat, b < 7 → 0 ≤ pw a b ∧ pw a b ≤ 46656) a ha b hb
theorem v0_lt {n : Int} (hn : 0 ≤ n ∧ n ≤ 6) : 0 ≤ v0 n ∧ v0 n < pw n n := by
  obtain ⟨a, ha, rfl⟩ := n7 hn
  exact (by decide +kernel : ∀ a : Nat, a < 7 → 0 ≤ v0 a ∧ v0 a < pw a a) a ha
theorem ex_0 {n k : Int} {M : MM} (hR : LQ n 248 0 M) (hA : LQ n 242 0 M) (h0 : 0 ≤ k) (h1 : k < n) : ∃ i, 0 ≤ i ∧ i < n ∧ M.1 248 i = M.1 242 (0 + k) := by
  have := hA.2.1 k h0 h1
  obtain ⟨i, p, q, t⟩ := hR.2.2 _ this.1 this.2
  exact ⟨i, p, q, by rw [Int.zero_add] at t; exact t⟩
theorem ex_s {n x v1 v2 t : Int} {M : MM} (h : ∃ i, x ≤ i ∧ i < n ∧ M.1 248 i = t) (h1 : v1 = M.1 248 x) (h2 : v2 = t) (hne : ¬ v1 = v2) : ∃ i, x + 1 ≤ i ∧ i < n ∧ M.1 248 i = t := by
  obtain ⟨i, p, q, s⟩ := h
  refine ⟨i, ?_, q, s⟩
  rcases Int.lt_or_eq_of_le p with c | c
  · omega
  · exfalso; exact hne (by rw [h1, h2, c, s])
theorem pt_s {b x n : Int} (h : ∃ o, x ≤ o ∧ o < n ∧ bt b o = 1) (hne : ¬ bt b x = 1) : ∃ o, x + 1 ≤ o ∧ o < n ∧ bt b o = 1 := by
  obtain ⟨i, p, q, s⟩ := h
  refine ⟨i, ?_, q, s⟩
  rcases Int.lt_or_eq_of_le p with c | c
  · omega
  · exfalso; rw [c] at hne; exact hne s
theorem anb_of {a b x z : Int} (h1 : x = (Int32.ofInt b ^^^ Int32.ofInt (-1)).toInt) (h2 : z = (Int32.ofInt a &&& Int32.ofInt x).toInt) : z = anb a b := by subst h1; exact h2
theorem anb_d : ∀ l : Nat, l < 64 → ∀ r : Nat, r < 64 → 0 ≤ anb l r ∧ anb l r < 64 ∧ ∀ k : Nat, k < 6 → bt (anb l r) k = if bt r k = 1 then 0 else bt l k := by decide +kernel
theorem anb_b {l r z k : Int} (h : z = anb l r) (h0 : 0 ≤ l) (h1 : l < 64) (r0 : 0 ≤ r) (r1 : r < 64) (k0 : 0 ≤ k) (k1 : k < 6) : bt z k = if bt r k = 1 then 0 else bt l k := by
  obtain ⟨a, ha, rfl⟩ := n64 h0 h1
  obtain ⟨b, hb, rfl⟩ := n64 r0 r1
  obtain ⟨c, hc, rfl⟩ := n6 k0 k1
  rw [h]
  exact (anb_d a ha b hb).2.2 c hc
def RB (n l : Int) : Prop := ∀ o, 0 ≤ o → o < 6 → bt l o = 1 → o < n
theorem RB_full {n m z : Int} (hz : z = (Int32.ofInt 1 <<< (Int32.ofInt m &&& 31)).toInt) (hm : m = n) (hn : 0 ≤ n ∧ n ≤ 6) : RB n (z - 1) := by
  intro o a b q
  rw [full_b hz hm hn a b] at q
  by_cases c : o < n
  · exact c
  · rw [if_neg c] at q; exact absurd q (by decide)
theorem nz_d : ∀ l : Nat, l < 64 → l ≠ 0 → bt l 0 = 1 ∨ bt l 1 = 1 ∨ bt l 2 = 1 ∨ bt l 3 = 1 ∨ bt l 4 = 1 ∨ bt l 5 = 1 := by decide +kernel
theorem RB_ex {n l : Int} (h : RB n l) (h0 : 0 ≤ l) (h1 : l < 64) (hz : ¬ l = 0) : ∃ o, 0 ≤ o ∧ o < n ∧ bt l o = 1 := by
  have q : bt l 0 = 1 ∨ bt l 1 = 1 ∨ bt l 2 = 1 ∨ bt l 3 = 1 ∨ bt l 4 = 1 ∨ bt l 5 = 1 := by
    obtain ⟨a, ha, rfl⟩ := n64 h0 h1
    exact nz_d a ha (by omega)
  rcases q with q | q | q | q | q | q
  · exact ⟨0, by omega, h 0 (by omega) (by omega) q, q⟩
  · exact ⟨1, by omega, h 1 (by omega) (by omega) q, q⟩
  · exact ⟨2, by omega, h 2 (by omega) (by omega) q, q⟩
  · exact ⟨3, by omega, h 3 (by omega) (by omega) q, q⟩
  · exact ⟨4, by omega, h 4 (by omega) (by omega) q, q⟩
  · exact ⟨5, by omega, h 5 (by omega) (by omega) q, q⟩
theorem anb_f {n l r z : Int} (h : z = anb l r) (h0 : 0 ≤ l) (h1 : l < 64) (r0 : 0 ≤ r) (r1 : r < 64) (hR : RB n l) (hx : ∃ o, 0 ≤ o ∧ o < 6 ∧ bt r o = 1 ∧ bt l o = 1) : (0 ≤ z ∧ z < 64) ∧ RB n z ∧ cn z + 1 ≤ cn l := by
  have hb : ∀ k, 0 ≤ k → k < 6 → bt z k ≤ bt l k := by
    intro k a b
    rw [anb_b h h0 h1 r0 r1 a b]
    split
    · exact (bt_01 l k).1
    · exact Int.le_refl _
  refine ⟨?_, fun o a b q => ?_, ?_⟩
  · obtain ⟨a, ha, rfl⟩ := n64 h0 h1
    obtain ⟨b, hb, rfl⟩ := n64 r0 r1
    rw [h]
    exact ⟨(anb_d a ha b hb).1, (anb_d a ha b hb).2.1⟩
  · have h1 := hb o a b
    have h2 := bt_01 l o
    exact hR o a b (by omega)
  · obtain ⟨o, a, b, q1, q2⟩ := hx
    have hz : bt z o = 0 := by rw [anb_b h h0 h1 r0 r1 a b, if_pos q1]
    have g0 := hb 0 (by omega) (by omega)
    have g1 := hb 1 (by omega) (by omega)
    have g2 := hb 2 (by omega) (by omega)
    have g3 := hb 3 (by omega) (by omega)
    have g4 := hb 4 (by omega) (by omega)
    have g5 := hb 5 (by omega) (by omega)
    unfold cn
    have hk : o = 0 ∨ o = 1 ∨ o = 2 ∨ o = 3 ∨ o = 4 ∨ o = 5 := by omega
    rcases hk with e | e | e | e | e | e <;> subst e <;> omega
