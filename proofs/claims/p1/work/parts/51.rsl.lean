/-- a lot of n rooms stands in row c from place o on: none out of range, every room shown -/
def LQ (n c o : Int) (M : MM) : Prop := n ≤ 6 ∧ (∀ i, 0 ≤ i → i < n → 0 ≤ M.1 c (o + i) ∧ M.1 c (o + i) < n) ∧ ∀ r, 0 ≤ r → r < n → ∃ i, 0 ≤ i ∧ i < n ∧ M.1 c (o + i) = r
theorem LQ_dp {n c o : Int} {M M' : MM} (h : LQ n c o M) (e : ∀ a b, (a = c ∧ o ≤ b ∧ b ≤ o + 5) → M'.1 a b = M.1 a b) : LQ n c o M' := by
  obtain ⟨h0, h1, h2⟩ := h
  refine ⟨h0, fun i a b => ?_, fun r a b => ?_⟩
  · rw [e c (o + i) ⟨rfl, by omega, by omega⟩]; exact h1 i a b
  · obtain ⟨i, p, q, s⟩ := h2 r a b
    exact ⟨i, p, q, by rw [e c (o + i) ⟨rfl, by omega, by omega⟩]; exact s⟩
theorem LQ_cp {n c o c' o' : Int} {M M' : MM} (h : LQ n c o M) (e : ∀ i, 0 ≤ i → i < 16 → M'.1 c' (o' + i) = M.1 c (o + i)) : LQ n c' o' M' := by
  obtain ⟨h0, h1, h2⟩ := h
  refine ⟨h0, fun i a b => ?_, fun r a b => ?_⟩
  · rw [e i a (by omega)]; exact h1 i a b
  · obtain ⟨i, p, q, s⟩ := h2 r a b
    exact ⟨i, p, q, by rw [e i p (by omega)]; exact s⟩
def CP (M0 M : MM) (c o c' o' x : Int) : Prop := ∀ i, 0 ≤ i → i < x → M.1 c (o + i) = M0.1 c' (o' + i)
theorem CP_0 {M0 M : MM} {c o c' o' : Int} : CP M0 M c o c' o' 0 := fun i a b => absurd b (by omega)
theorem CP_s {M0 M M' : MM} {c o c' o' x j w : Int} (h : CP M0 M c o c' o' x) (e : M' = up M c j w) (hj : j = o + x) (hw : w = M0.1 c' (o' + x)) : CP M0 M' c o c' o' (x + 1) := by
  intro i a b
  by_cases q : i = x
  · rw [e, q, hj, up_eq]; exact hw
  · rw [e, up_ne (by omega)]; exact h i a (by omega)
theorem CP_up {M0 M M' : MM} {c o c' o' x k j w : Int} (h : CP M0 M c o c' o' x) (e : M' = up M k j w) (hk : c ≠ k) : CP M0 M' c o c' o' x := by
  intro i a b
  rw [e, up_ne (fun q => hk q.1)]; exact h i a b
theorem rpx_242 (j : Int) : rg 242 j = ((rgA (j % 16)).1, (rgA (j % 16)).2) := rp_242 j
theorem rpx_245 (j : Int) : rg 245 j = ((rgA (j % 16)).1, (rgA (j % 16)).2) := rp_245 j
theorem rpx_244 (j : Int) : rg 244 j = ((rgA (j % 16)).1, (rgA (j % 16)).2) := rp_244 j
theorem rpw (a x : Int) : rg 244 (16 * a + x) = ((rgA (x % 16)).1, (rgA (x % 16)).2) := by rw [rp_244, show (16 * a + x) % 16 = x % 16 by omega]
theorem rps (x : Int) : rg 244 (x + 16) = ((rgA (x % 16)).1, (rgA (x % 16)).2) := by rw [rp_244, show (x + 16) % 16 = x % 16 by omega]
theorem rpb (a x : Int) : rg 255 (16 * a + x) = ((rgA (x % 16)).1, (rgA (x % 16)).2) := by rw [rp_255, show (16 * a + x) % 16 = x % 16 by omega]
theorem rA0 (j : Int) : (rgA (j % 16)).1 ≤ 0 ∧ 0 ≤ (rgA (j % 16)).2 := by
  obtain ⟨n, hn, e⟩ : ∃ n : Nat, n < 16 ∧ j % 16 = (n : Int) := ⟨(j % 16).toNat, by omega, by omega⟩
  rw [e]
  exact (by decide +kernel : ∀ n : Nat, n < 16 → (rgA (n : Int)).1 ≤ 0 ∧ 0 ≤ (rgA (n : Int)).2) n hn
theorem rAi (j : Int) : -2147483648 ≤ (rgA (j % 16)).1 ∧ (rgA (j % 16)).2 ≤ 2147483647 := by
  obtain ⟨n, hn, e⟩ : ∃ n : Nat, n < 16 ∧ j % 16 = (n : Int) := ⟨(j % 16).toNat, by omega, by omega⟩
  rw [e]
  exact (by decide +kernel : ∀ n : Nat, n < 16 → -2147483648 ≤ (rgA (n : Int)).1 ∧ (rgA (n : Int)).2 ≤ 2147483647) n hn
theorem sh_0 {n a : Int} {M : MM} (h : LQ n 242 0 M) (h0 : 0 ≤ a) (h1 : a < n) : ∃ i, 0 ≤ i ∧ i < n ∧ M.1 242 i = a := by
  obtain ⟨i, p, q, s⟩ := h.2.2 a h0 h1
  exact ⟨i, p, q, by rw [Int.zero_add] at s; exact s⟩
theorem sh_s {n a x v : Int} {M : MM} (h : ∃ i, x ≤ i ∧ i < n ∧ M.1 242 i = a) (hv : v = M.1 242 (0 + x)) (hne : ¬ v = a) : ∃ i, x + 1 ≤ i ∧ i < n ∧ M.1 242 i = a := by
  obtain ⟨i, p, q, s⟩ := h
  refine ⟨i, ?_, q, s⟩
  rcases Int.lt_or_eq_of_le p with h | h
  · omega
  · exfalso; rw [Int.zero_add, h, s] at hv; exact hne hv
/-- kept scenes -/
def WS (n t : Int) (M : MM) : Prop := ∀ i, 0 ≤ i → i < t → LQ n 244 (16 * i) M
theorem WS_dp {n t : Int} {M M' : MM} (h : WS n t M) (e : ∀ a b, (a = 244 ∧ True) → M'.1 a b = M.1 a b) : WS n t M' := fun i a b => LQ_dp (h i a b) (fun p q r => e p q ⟨r.1, trivial⟩)
theorem WS_mono {n t t' : Int} {M : MM} (h : WS n t M) (ht : t' ≤ t) : WS n t' M := fun i a b => h i a (by omega)
theorem WS_sh {n t x : Int} {M M' : MM} (h : WS n t M) (hc : CP M M' 244 0 244 16 x) (hx : 640 ≤ x) (ht : 40 ≤ t) : WS n 39 M' := by
  intro i a b
  refine LQ_cp (h (i + 1) (by omega) (by omega)) (fun k p q => ?_)
  have := hc (16 * i + k) (by omega) (by omega)
  rw [Int.zero_add] at this
  rw [this, show (16 + (16 * i + k) : Int) = 16 * (i + 1) + k by omega]
theorem WS_up {n t j w : Int} {M M' : MM} (h : WS n t M) (e : M' = up M 244 j w) (hj : 16 * t ≤ j) : WS n t M' := fun i a b => LQ_dp (h i a b) (fun p q r => by rw [e]; exact up_ne (by omega))
theorem WS_add {n t x : Int} {M M' : MM} (h : WS n t M') (hc : CP M M' 244 (16 * t) 242 0 x) (hx : 16 ≤ x) (hL : LQ n 242 0 M) : WS n (t + 1) M' := by
  intro i a b
  by_cases q : i = t
  · rw [q]; exact LQ_cp hL (fun k p q => hc k p (by omega))
  · exact h i a (by omega)
def RS (n : Int) (M : MM) : Prop := LQ n 242 0 M ∧ M.1 210 50 + M.1 210 51 ≤ 40 ∧ WS n (M.1 210 50 + M.1 210 51) M
theorem RS_dp {n : Int} {M M' : MM} (h : RS n M) (e : ∀ a b, (a = 244 ∧ True) ∨ (a = 242 ∧ 0 ≤ b ∧ b ≤ 5) ∨ (a = 210 ∧ 50 ≤ b ∧ b ≤ 51) → M'.1 a b = M.1 a b) : RS n M' := by
  unfold RS
  rw [e 210 50 (by omega), e 210 51 (by omega)]
  exact ⟨LQ_dp h.1 (fun a b r => e a b (by omega)), h.2.1, WS_dp h.2.2 (fun a b r => e a b (Or.inl r))⟩
theorem RS_of {n : Int} {M M' : MM} (h : RS n M) (hL : LQ n 242 0 M') (e : ∀ a b, (a = 244 ∧ True) ∨ (a = 210 ∧ 50 ≤ b ∧ b ≤ 51) → M'.1 a b = M.1 a b) : RS n M' := by
  unfold RS
  rw [e 210 50 (by omega), e 210 51 (by omega)]
  exact ⟨hL, h.2.1, WS_dp h.2.2 (fun a b r => e a b (Or.inl r))⟩
theorem RS_mk {n t : Int} {M : MM} (hL : LQ n 242 0 M) (hW : WS n t M) (ht : M.1 210 50 + M.1 210 51 ≤ t) (h40 : t ≤ 40) : RS n M := ⟨hL, by omega, WS_mono hW ht⟩
theorem WS_0 {n : Int} {M : MM} : WS n 0 M := fun i a b => absurd b (by omega)
theorem LQ_sw {n a b v1 v2 w1 w2 : Int} {M M1 M2 : MM} (h : LQ n 242 0 M) (ha : 0 ≤ a ∧ a < n) (hb : 0 ≤ b ∧ b < n) (h1 : v1 = M.1 242 (0 + a)) (h2 : v2 = M.1 242 (0 + b)) (e1 : M1 = up M 242 (0 + a) w1) (hw1 : w1 = v2) (e2 : M2 = up M1 242 (0 + b) w2) (hw2 : w2 = v1) : LQ n 242 0 M2 := by
  obtain ⟨g0, g1, g2⟩ := h
  have hv : ∀ i, M2.1 242 (0 + i) = if i = b then M.1 242 (0 + a) else if i = a then M.1 242 (0 + b) else M.1 242 (0 + i) := by
    intro i
    rw [e2, e1, hw2, hw1, h1, h2]
    by_cases q : i = b
    · rw [if_pos q, q, up_eq]
    · rw [if_neg q, up_ne (by omega)]
      by_cases q2 : i = a
      · rw [if_pos q2, q2, up_eq]
      · rw [if_neg q2, up_ne (by omega)]
  refine ⟨g0, fun i p q => ?_, fun r p q => ?_⟩
  · rw [hv]
    split
    · exact g1 a ha.1 ha.2
    · split
      · exact g1 b hb.1 hb.2
      · exact g1 i p q
  · obtain ⟨i, p', q', s⟩ := g2 r p q
    by_cases c1 : i = a
    · exact ⟨b, hb.1, hb.2, by rw [hv, if_pos rfl, ← c1]; exact s⟩
    · by_cases c2 : i = b
      · refine ⟨a, ha.1, ha.2, ?_⟩
        rw [hv]
        split
        · rename_i c3; rw [c2, ← c3] at s; exact s
        · rw [if_pos rfl, ← c2]; exact s
      · exact ⟨i, p', q', by rw [hv, if_neg c2, if_neg c1]; exact s⟩
/-- an exchange under way -/
def EX (M0 M : MM) (ac x : Int) : Prop := ∀ i, 0 ≤ i → i < 16 → (i < x → M.1 242 i = M0.1 244 (16 * ac + i) ∧ M.1 244 (16 * ac + i) = M0.1 242 i) ∧ (x ≤ i → M.1 242 i = M0.1 242 i ∧ M.1 244 (16 * ac + i) = M0.1 244 (16 * ac + i))
theorem EX_0 {M : MM} {ac : Int} : EX M M ac 0 := fun i a b => ⟨fun q => absurd q (by omega), fun _ => ⟨rfl, rfl⟩⟩
theorem EX_s {M0 M M1 M2 : MM} {ac x v1 v2 w1 w2 : Int} (h : EX M0 M ac x) (h0 : 0 ≤ x) (hx : x < 16) (h1 : v1 = M.1 244 (16 * ac + x)) (h2 : v2 = M.1 242 x) (e1 : M1 = up M 244 (16 * ac + x) w1) (hw1 : w1 = v2) (e2 : M2 = up M1 242 x w2) (hw2 : w2 = v1) : EX M0 M2 ac (x + 1) := by
  intro i a b
  have hh := h i a b
  refine ⟨fun q => ?_, fun q => ?_⟩
  · by_cases c : i = x
    · have hx' := (h x h0 hx).2 (Int.le_refl _)
      rw [c]
      refine ⟨?_, ?_⟩
      · rw [e2, up_eq, hw2, h1]; exact hx'.2
      · rw [e2, up_ne (by omega), e1, up_eq, hw1, h2]; exact hx'.1
    · have hi := hh.1 (by omega)
      refine ⟨?_, ?_⟩
      · rw [e2, up_ne (by omega), e1, up_ne (by omega)]; exact hi.1
      · rw [e2, up_ne (by omega), e1, up_ne (by omega)]; exact hi.2
  · have hi := hh.2 (by omega)
    refine ⟨?_, ?_⟩
    · rw [e2, up_ne (by omega), e1, up_ne (by omega)]; exact hi.1
    · rw [e2, up_ne (by omega), e1, up_ne (by omega)]; exact hi.2
theorem EX_l {n t ac x : Int} {M M' : MM} (h : EX M M' ac x) (hx : 16 ≤ x) (h0 : 0 ≤ ac) (h1 : ac < t) (hW : WS n t M) : LQ n 242 0 M' := by
  refine LQ_cp (hW ac h0 h1) (fun i a b => ?_)
  rw [Int.zero_add]
  exact ((h i a b).1 (by omega)).1
theorem EX_w {n t ac x : Int} {P : Int → Int → Prop} {M M' : MM} (h : EX M M' ac x) (hx : 16 ≤ x) (hL : LQ n 242 0 M) (hW : WS n t M) (hF : Fr P M M') (hP : ∀ b, P 244 b → 16 * ac ≤ b ∧ b ≤ 16 * ac + 15) : WS n t M' := by
  intro i a b
  by_cases c : i = ac
  · rw [c]
    refine LQ_cp hL (fun k p q => ?_)
    rw [Int.zero_add]
    exact ((h k p q).1 (by omega)).2
  · exact LQ_dp (hW i a b) (fun p q r => by rw [r.1]; exact hF _ _ (fun z => by have := hP _ z; omega))
/-- images -/
def BX (n : Int) (M : MM) : Prop := ∀ k, 0 ≤ k → k < 3 → M.1 256 k = 1 → LQ n 255 (16 * k) M
theorem BX_dp {n : Int} {M M' : MM} (h : BX n M) (e : ∀ a b, (a = 255 ∧ True) ∨ (a = 256 ∧ True) → M'.1 a b = M.1 a b) : BX n M' := by
  intro k a b q
  rw [e 256 k (Or.inr ⟨rfl, trivial⟩)] at q
  exact LQ_dp (h k a b q) (fun p q r => e p q (Or.inl ⟨r.1, trivial⟩))
theorem BX_im {n a : Int} {P : Int → Int → Prop} {M M' : MM} (h : BX n M) (hL : LQ n 242 0 M) (hc : CP M M' 255 (16 * a) 242 0 16) (hF : Fr P M M') (hP : ∀ c b, P c b → c = 255 ∧ 16 * a ≤ b ∧ b ≤ 16 * a + 15 ∨ c = 256 ∧ a ≤ b ∧ b ≤ a) : BX n M' := by
  intro k p q r
  by_cases c : k = a
  · rw [c]; exact LQ_cp hL (fun i x y => hc i x y)
  · rw [hF 256 k (fun z => by have := hP _ _ z; omega)] at r
    exact LQ_dp (h k p q r) (fun x y z => hF _ _ (fun w => by have := hP _ _ w; omega))
/-- the start's windows -/
def SA (M0 M : MM) (bk n x : Int) : Prop := ∀ i, 0 ≤ i → i < x → (M0.1 231 bk = 1 → M.1 242 i = M0.1 222 (6 * bk + i)) ∧ (M0.1 231 bk = 0 → M.1 242 i = (i + 1) % n)
theorem SA_0 {M0 M : MM} {bk n : Int} : SA M0 M bk n 0 := fun i a b => absurd b (by omega)
theorem SA_s {M0 M M' : MM} {bk n x j w : Int} (h : SA M0 M bk n x) (e : M' = up M 242 j w) (hj : j = x) (h1 : M0.1 231 bk = 1 → w = M0.1 222 (6 * bk + x)) (h0 : M0.1 231 bk = 0 → w = (x + 1) % n) : SA M0 M' bk n (x + 1) := by
  intro i a b
  by_cases c : i = x
  · rw [e, c, hj, up_eq]; exact ⟨h1, h0⟩
  · rw [e, up_ne (by omega)]; exact h i a (by omega)
theorem SA_up {M0 M M' : MM} {bk n x j w : Int} (h : SA M0 M bk n x) (e : M' = up M 242 j w) (hj : x ≤ j) : SA M0 M' bk n x := by
  intro i a b
  rw [e, up_ne (by omega)]; exact h i a b
theorem SA_end {M0 M : MM} {bk n x : Int} (hT : M0.1 231 bk = 1 → LQ n 222 (6 * bk) M0) (h : SA M0 M bk n x) (hx : n ≤ x) (h01 : 0 ≤ M0.1 231 bk ∧ M0.1 231 bk ≤ 1) (hn : 0 ≤ n ∧ n ≤ 6) : LQ n 242 0 M := by
  by_cases c : M0.1 231 bk = 1
  · obtain ⟨g0, g1, g2⟩ := hT c
    refine ⟨g0, fun i a b => ?_, fun r a b => ?_⟩
    · rw [Int.zero_add, (h i a (by omega)).1 c]; exact g1 i a b
    · obtain ⟨i, p, q, s⟩ := g2 r a b
      exact ⟨i, p, q, by rw [Int.zero_add, (h i p (by omega)).1 c]; exact s⟩
  · have c0 : M0.1 231 bk = 0 := by omega
    refine ⟨hn.2, fun i a b => ?_, fun r a b => ?_⟩
    · rw [Int.zero_add, (h i a (by omega)).2 c0]
      exact ⟨Int.emod_nonneg _ (by omega), Int.emod_lt_of_pos _ (by omega)⟩
    · by_cases q : r = 0
      · refine ⟨n - 1, by omega, by omega, ?_⟩
        rw [Int.zero_add, (h _ (by omega) (by omega)).2 c0, q, show n - 1 + 1 = n by omega, Int.emod_self]
      · refine ⟨r - 1, by omega, by omega, ?_⟩
        rw [Int.zero_add, (h _ (by omega) (by omega)).2 c0, show r - 1 + 1 = r by omega]
        exact Int.emod_eq_of_lt a b
theorem tm_e {a b z n : Int} (h : z = a.tmod b) (hb : b = n) (ha : 0 ≤ a) : z = a % n := by rw [h, hb]; exact Int.tmod_eq_emod_of_nonneg ha
