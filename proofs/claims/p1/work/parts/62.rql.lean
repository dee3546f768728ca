/-! the reader of the reference: what its bank holds while nothing has failed -/
theorem rwf_mk {w lo j : Int} {M1 M' : MM} (h : DN lo M1) (hlo : lo = 560 * w) (hj : j = w) (h1 : M'.1 229 j = lo) (h2 : M'.1 230 j = M1.1 210 42) (e : ∀ i, M'.1 237 i = M1.1 237 i) : RWF w M' := by
  subst hj
  unfold RWF
  rw [h1, h2]
  obtain ⟨a, b, c⟩ := h
  exact ⟨by omega, a, by omega, WC_e c (fun i _ _ => e _)⟩
def RD0 (w : Int) (M : MM) : Prop := (M.1 231 w = 1 → LQ (M.1 213 w) 222 (6 * w) M) ∧ (M.1 232 w = 1 → RWF w M) ∧ (M.1 232 w = 0 → M.1 210 42 = 560 * w)
def RX (g w : Int) (M : MM) : Prop := g = 0 → RD0 w M
theorem RD0_dp {w : Int} {M M' : MM} (h : RD0 w M) (e : ∀ a b, (a = 210 ∧ b = 42) ∨ (a = 213 ∧ b = w) ∨ (a = 222 ∧ 6 * w ≤ b ∧ b ≤ 6 * w + 5) ∨ ((a = 229 ∨ a = 230 ∨ a = 231 ∨ a = 232) ∧ b = w) ∨ (a = 237 ∧ 560 * w ≤ b ∧ b ≤ 560 * w + 559) → M'.1 a b = M.1 a b) : RD0 w M' := by
  unfold RD0 at *
  rw [e 231 w (by omega), e 232 w (by omega), e 213 w (by omega), e 210 42 (by omega)]
  exact ⟨fun q => LQ_dp (h.1 q) (fun a b r => e a b (by omega)), fun q => RWF_dp (h.2.1 q) (fun a b r => e a b (by omega)), h.2.2⟩
theorem RX_dp {g w : Int} {M M' : MM} (h : RX g w M) (e : ∀ a b, (a = 210 ∧ b = 42) ∨ (a = 213 ∧ b = w) ∨ (a = 222 ∧ 6 * w ≤ b ∧ b ≤ 6 * w + 5) ∨ ((a = 229 ∨ a = 230 ∨ a = 231 ∨ a = 232) ∧ b = w) ∨ (a = 237 ∧ 560 * w ≤ b ∧ b ≤ 560 * w + 559) → M'.1 a b = M.1 a b) : RX g w M' := fun q => RD0_dp (h q) e
theorem RD0_room {w : Int} {P : Int → Int → Prop} {M M' : MM} (h : RD0 w M) (h0 : M.1 231 w = 0) (hG : Fr P M M') (hP : ∀ a b, P a b → ¬ ((a = 210 ∧ b = 42) ∨ a = 222 ∨ a = 229 ∨ a = 230 ∨ a = 231 ∨ a = 232 ∨ a = 237)) : RD0 w M' := by
  unfold RD0 at *
  have e : ∀ a b, ((a = 210 ∧ b = 42) ∨ a = 222 ∨ a = 229 ∨ a = 230 ∨ a = 231 ∨ a = 232 ∨ a = 237) → M'.1 a b = M.1 a b := fun a b q => hG a b (fun z => hP a b z q)
  rw [e 231 w (by omega), e 232 w (by omega), e 210 42 (by omega)]
  exact ⟨fun q => absurd q (by omega), fun q => RWF_dp (h.2.1 q) (fun a b r => e a b (by omega)), h.2.2⟩
theorem RX_lot {w nw : Int} {P : Int → Int → Prop} {M M' : MM} (h : RD0 w M) (hn : M.1 213 w = nw) (hG : Fr P M M') (hP : ∀ a b, P a b → ¬ ((a = 210 ∧ b = 42) ∨ a = 213 ∨ a = 229 ∨ a = 230 ∨ a = 232 ∨ a = 237)) (hL : M'.1 210 4 = 0 → LQ nw 222 (6 * w) M') : RX (M'.1 210 4) w M' := by
  intro q4
  unfold RD0 at *
  have e : ∀ a b, ((a = 210 ∧ b = 42) ∨ a = 213 ∨ a = 229 ∨ a = 230 ∨ a = 232 ∨ a = 237) → M'.1 a b = M.1 a b := fun a b q => hG a b (fun z => hP a b z q)
  rw [e 213 w (by omega), e 232 w (by omega), e 210 42 (by omega), hn]
  exact ⟨fun _ => hL q4, fun q => RWF_dp (h.2.1 q) (fun a b r => e a b (by omega)), h.2.2⟩
theorem RX_rent {w v : Int} {P : Int → Int → Prop} {M M1 M' : MM} (h : RD0 w M) (e1 : M1 = up M 232 w v) (hv : v = 1) (hG : Fr P M1 M') (hP : ∀ a b, P a b → ¬ (a = 213 ∨ a = 222 ∨ a = 231 ∨ a = 232)) (hR : M'.1 210 4 = 0 → RWF w M') : RX (M'.1 210 4) w M' := by
  intro q4
  unfold RD0 at *
  have e : ∀ a b, (a = 213 ∨ a = 222 ∨ a = 231) → M'.1 a b = M.1 a b := fun a b q => (hG a b (fun z => hP a b z (by omega))).trans (by rw [e1]; exact up_ne (by omega))
  have e2 : M'.1 232 w = 1 := (hG 232 w (fun z => hP _ _ z (by omega))).trans (by rw [e1, up_eq]; exact hv)
  rw [e 213 w (by omega), e 231 w (by omega), e2]
  exact ⟨fun q => LQ_dp (h.1 q) (fun a b r => e a b (by omega)), fun _ => hR q4, fun q => absurd q (by decide)⟩
/-- the frame of the reader of bank w -/
def RFw (w a b : Int) : Prop := (a = 210 ∧ 4 ≤ b ∧ b ≤ 10) ∨ (a = 210 ∧ 42 ≤ b ∧ b ≤ 45) ∨ a = 216 ∨ (238 ≤ a ∧ a ≤ 240) ∨ (((213 ≤ a ∧ a ≤ 220) ∨ a = 225 ∨ (229 ≤ a ∧ a ≤ 234)) ∧ b = w) ∨ ((a = 221 ∨ a = 222 ∨ a = 226 ∨ a = 228) ∧ 6 * w ≤ b ∧ b ≤ 6 * w + 5) ∨ ((a = 223 ∨ a = 224) ∧ 10 * w ≤ b ∧ b ≤ 10 * w + 9) ∨ (a = 227 ∧ 36 * w ≤ b ∧ b ≤ 36 * w + 35) ∨ (a = 237 ∧ 560 * w ≤ b ∧ b ≤ 560 * w + 559)
/-- a lot as it is read -/
def LT (M : MM) (o n x s : Int) : Prop := (∀ i, 0 ≤ i → i < x → 0 ≤ M.1 222 (o + i) ∧ M.1 222 (o + i) < n) ∧ (∀ v, 0 ≤ v → v < 6 → bt s v = 1 → ∃ i, 0 ≤ i ∧ i < x ∧ M.1 222 (o + i) = v) ∧ (0 ≤ s ∧ s < 64) ∧ cn s = x ∧ RB n s
theorem LT_0 {M : MM} {o n : Int} : LT M o n 0 0 := by
  refine ⟨fun i a b => absurd b (by omega), fun v a b h => absurd h (by rw [bt_0 a b]; decide), by omega, ?_, fun v a b h => absurd h (by rw [bt_0 a b]; decide)⟩
  unfold cn
  rw [bt_0 (by omega) (by omega), bt_0 (by omega) (by omega), bt_0 (by omega) (by omega), bt_0 (by omega) (by omega), bt_0 (by omega) (by omega), bt_0 (by omega) (by omega)]
  rfl
theorem bt_or (s k : Int) : bt s k = 0 ∨ bt s k = 1 := by have := bt_01 s k; omega
theorem RB_le {n s : Int} (h : RB n s) (hn : 0 ≤ n ∧ n ≤ 6) : cn s ≤ n := by
  have g : ∀ k, 0 ≤ k → k < 6 → n ≤ k → bt s k = 0 := fun k a b c => (bt_or s k).elim id (fun e => absurd (h k a b e) (by omega))
  have b0 := bt_01 s 0
  have b1 := bt_01 s 1
  have b2 := bt_01 s 2
  have b3 := bt_01 s 3
  have b4 := bt_01 s 4
  have b5 := bt_01 s 5
  unfold cn
  have hk : n = 0 ∨ n = 1 ∨ n = 2 ∨ n = 3 ∨ n = 4 ∨ n = 5 ∨ n = 6 := by omega
  rcases hk with e | e | e | e | e | e | e <;> subst e
  · have := g 0 (by omega) (by omega) (by omega); have := g 1 (by omega) (by omega) (by omega); have := g 2 (by omega) (by omega) (by omega); have := g 3 (by omega) (by omega) (by omega); have := g 4 (by omega) (by omega) (by omega); have := g 5 (by omega) (by omega) (by omega); omega
  · have := g 1 (by omega) (by omega) (by omega); have := g 2 (by omega) (by omega) (by omega); have := g 3 (by omega) (by omega) (by omega); have := g 4 (by omega) (by omega) (by omega); have := g 5 (by omega) (by omega) (by omega); omega
  · have := g 2 (by omega) (by omega) (by omega); have := g 3 (by omega) (by omega) (by omega); have := g 4 (by omega) (by omega) (by omega); have := g 5 (by omega) (by omega) (by omega); omega
  · have := g 3 (by omega) (by omega) (by omega); have := g 4 (by omega) (by omega) (by omega); have := g 5 (by omega) (by omega) (by omega); omega
  · have := g 4 (by omega) (by omega) (by omega); have := g 5 (by omega) (by omega) (by omega); omega
  · have := g 5 (by omega) (by omega) (by omega); omega
  · omega
theorem btz {s r zr zb : Int} (h : zb = bt s r) (hb : ¬ zb = 1) (e : zr = r) : bt s zr = 0 := by
  rw [e]
  exact (bt_or s r).elim id (fun q => absurd (h.trans q) hb)
theorem LT_lt {M : MM} {o n x s w : Int} (h : LT M o n x s) (hw : 0 ≤ w ∧ w < n) (hn : 0 ≤ n ∧ n ≤ 6) (hb : bt s w = 0) : x < n := by
  obtain ⟨h1, h2, h3, h4, h5⟩ := h
  have hc := orb_c (s := s) (k := w) rfl h3.1 h3.2 hw.1 (by omega) hb
  have hR : RB n (orb s w) := by
    intro k a b q
    rw [orb_b rfl h3.1 h3.2 hw.1 (by omega) a b] at q
    by_cases c : k = w
    · omega
    · rw [if_neg c] at q; exact h5 k a b q
  have hle := RB_le hR hn
  omega
theorem LT_s {M M' : MM} {o n x s j v w z : Int} (h : LT M o n x s) (e : M' = up M 222 j v) (hj : j = o + x) (hv : v = w) (hw : 0 ≤ w ∧ w < n) (hn : 0 ≤ n ∧ n ≤ 6) (hb : bt s w = 0) (ho : z = orb s w) : LT M' o n (x + 1) z := by
  obtain rfl : w = v := hv.symm
  obtain ⟨h1, h2, h3, h4, h5⟩ := h
  have hc := orb_c ho h3.1 h3.2 hw.1 (by omega) hb
  have hR : RB n z := by
    intro k a b q
    rw [orb_b ho h3.1 h3.2 hw.1 (by omega) a b] at q
    by_cases c : k = w
    · omega
    · rw [if_neg c] at q; exact h5 k a b q
  have hx0 : 0 ≤ x := by rw [← h4]; exact (cn_b s).1
  have hle := RB_le hR hn
  refine ⟨fun i a b => ?_, fun v a b q => ?_, hc.1, by omega, hR⟩
  · by_cases c : i = x
    · rw [e, c, hj, up_eq]; exact hw
    · rw [e, up_ne (by omega)]; exact h1 i a (by omega)
  · rw [orb_b ho h3.1 h3.2 hw.1 (by omega) a b] at q
    by_cases c : v = w
    · exact ⟨x, hx0, by omega, by rw [e, hj, up_eq]; exact c.symm⟩
    · rw [if_neg c] at q
      obtain ⟨i, p, r, t⟩ := h2 v a b q
      exact ⟨i, p, by omega, by rw [e, up_ne (by omega)]; exact t⟩
theorem LT_dp {M M' : MM} {o n x s : Int} (h : LT M o n x s) (e : ∀ a b, a = 222 → M'.1 a b = M.1 a b) : LT M' o n x s := by
  obtain ⟨h1, h2, h3⟩ := h
  exact ⟨fun i a b => by rw [e 222 _ rfl]; exact h1 i a b, fun v a b q => by obtain ⟨i, p, r, t⟩ := h2 v a b q; exact ⟨i, p, r, by rw [e 222 _ rfl]; exact t⟩, h3⟩
theorem LT_end {M : MM} {o n x s : Int} (h : LT M o n x s) (hx : n ≤ x) (hn : 0 ≤ n ∧ n ≤ 6) : LQ n 222 o M := by
  obtain ⟨h1, h2, h3, h4, h5⟩ := h
  have hle := RB_le h5 hn
  refine ⟨hn.2, fun i a b => h1 i a (by omega), fun r a b => ?_⟩
  have hr : bt s r = 1 := (bt_or s r).elim (fun q => by
    exfalso
    have hc := orb_c (s := s) (k := r) rfl h3.1 h3.2 a (by omega) q
    have hR : RB n (orb s r) := by
      intro k c d z
      rw [orb_b rfl h3.1 h3.2 a (by omega) c d] at z
      by_cases y : k = r
      · omega
      · rw [if_neg y] at z; exact h5 k c d z
    have := RB_le hR hn
    omega) id
  obtain ⟨i, p, q, t⟩ := h2 r a (by omega) hr
  exact ⟨i, p, by omega, t⟩
/-- what holds of the bank that is asked -/
def RWI (bk : Int) (M : MM) : Prop := M.1 232 bk = 1 → RWF bk M
theorem RWI_dp {w : Int} {M M' : MM} (h : RWI w M) (e : ∀ a b, ((a = 229 ∨ a = 230 ∨ a = 232) ∧ b = w) ∨ (a = 237 ∧ 560 * w ≤ b ∧ b ≤ 560 * w + 559) → M'.1 a b = M.1 a b) : RWI w M' := by
  intro q
  rw [e 232 w (by omega)] at q
  exact RWF_dp (h q) (fun a b r => e a b (by omega))
def RI0 (bk nr : Int) (M : MM) : Prop := M.1 213 bk = nr ∧ RS nr M ∧ BX nr M ∧ RWI bk M
def RI (M : MM) : Prop := ∀ bk, M.1 210 40 = bk → RI0 bk (M.1 213 bk) M
theorem RI0_dp {bk nr : Int} {M M' : MM} (h : RI0 bk nr M) (e : ∀ a b, (a = 213 ∧ b = bk) ∨ a = 244 ∨ (a = 242 ∧ 0 ≤ b ∧ b ≤ 5) ∨ (a = 210 ∧ 50 ≤ b ∧ b ≤ 51) ∨ a = 255 ∨ a = 256 ∨ ((a = 229 ∨ a = 230 ∨ a = 232) ∧ b = bk) ∨ (a = 237 ∧ 560 * bk ≤ b ∧ b ≤ 560 * bk + 559) → M'.1 a b = M.1 a b) : RI0 bk nr M' := by
  obtain ⟨h0, h1, h2, h3⟩ := h
  exact ⟨by rw [e 213 bk (by omega)]; exact h0, RS_dp h1 (fun a b r => e a b (by omega)), BX_dp h2 (fun a b r => e a b (by omega)), RWI_dp h3 (fun a b r => e a b (by omega))⟩
theorem RI_mk {w n : Int} {M : MM} (hb : M.1 210 40 = w) (h : RI0 w n M) : RI M := by
  intro bk q1
  have e1 : bk = w := by omega
  subst e1
  rw [h.1]
  exact h
theorem RI_st {w n : Int} {M : MM} (hb : M.1 210 40 = w) (hn : M.1 213 w = n) (h1 : RS n M) (h2 : BX n M) (h3 : RD0 w M) : RI M := RI_mk hb ⟨hn, h1, h2, h3.2.1⟩
theorem RD_lt {w : Int} {M : MM} (h : RD0 w M) : M.1 231 w = 1 → LQ (M.1 213 w) 222 (6 * w) M := h.1
theorem RD0_st {w : Int} {M : MM} (h : M.1 213 w = 0 ∧ M.1 231 w = 0 ∧ M.1 232 w = 0 ∧ M.1 210 42 = 560 * w) : RD0 w M := ⟨fun q => absurd q (by omega), fun q => absurd q (by omega), fun _ => h.2.2.2⟩
theorem RWF_at {w lo hi : Int} {M : MM} (h : RWF w M) (h1 : M.1 229 w = lo) (h2 : M.1 230 w = hi) : 560 * w ≤ lo ∧ lo ≤ hi ∧ hi ≤ 560 * w + 559 ∧ WC M lo (hi - lo) := by
  subst h1; subst h2
  exact h
theorem WC_at {M : MM} {lo hi x v : Int} (h : WC M lo (hi - lo)) (h0 : lo ≤ x) (h1 : x < hi) (hv : v = M.1 237 x) : (v = 126 → 1 ≤ DP M lo (x - lo)) ∧ (bin v → 2 ≤ DP M lo (x - lo)) ∧ 0 ≤ DP M lo (x - lo) ∧ DP M lo (x - lo) ≤ 40 ∧ DP M lo (x + 1 - lo) = DP M lo (x - lo) + td v := by
  have hh := h (x - lo) (by omega) (by omega)
  have hs := DP_s (M := M) (lo := lo) (x := x - lo) (by omega)
  rw [show lo + (x - lo) = x by omega, ← hv] at hh hs
  exact ⟨hh.1, hh.2.1, hh.2.2.1, hh.2.2.2, by rw [← hs]; congr 1; omega⟩
theorem DP_z {M : MM} {lo : Int} : (0 : Int) = DP M lo (lo - lo) := by rw [Int.sub_self]; rfl
theorem td_of {v : Int} (h : v = 126) : td v = 0 := by rw [h]; rfl
theorem ML_st {M : MM} (h7 : M.1 210 7 = 0) (h3 : 0 ≤ M.1 210 3 ∧ M.1 210 3 ≤ 1600) : ML 3300 M := by
  refine ⟨by omega, fun _ => ⟨by omega, ?_⟩⟩
  unfold mz
  split <;> omega
theorem LQ_e {n n' o o' : Int} {M : MM} (h : LQ n 222 o M) (hn : n = n') (ho : o = o') : LQ n' 222 o' M := by subst hn; subst ho; exact h
/-- what may still come -/
def FU (w : Int) (M : MM) : Prop := (M.2 210 10 = (1919905645 : Int64) → M.1 213 w ≤ 5 ∧ M.1 231 w = 0) ∧ (M.2 210 10 = (7106420 : Int64) → M.1 231 w = 0) ∧ (M.2 210 10 = (1717658484 : Int64) → M.1 214 w ≤ 9) ∧ (M.2 210 10 = (1919250036 : Int64) → M.1 232 w = 0)
