/-! contracts of constructors -/
def rmC (L mc ms : Nat) : Room := { frames := L, cells := mc, slots := ms, locals := 64 * L }
def CN (l : Launch) (D : va_G) (cy : Nat → ClassId) (B N N' L mc ms : Nat) (y : MethodName) (cc : ByteArray) (n : Nat) (av : List Value) (M : MM) (P : MM → Prop) : Prop :=
  Met l y (wsY y cc n none) (rmC L mc ms) (va_Pc av (fun U => Ws D cy B N M U ∧ Ex B U)) (va_Qv (fun u => P u) (Ws D cy B N') (fun q => B ≤ q)) mc ms (fun q => B ≤ q)
def LkI (y : MethodName) (cc : ByteArray) (n : Nat) : Prop := Cond.initialized y.cls ∈ gw ∧ Cond.code y cc n none ∈ gw ∧ Cond.instanceMethod y ∈ gw ∧ y.name = "<init>" ∧ (y.cls ≠ "java/lang/invoke/MethodHandle" ∧ y.cls ≠ "java/lang/invoke/VarHandle" ∧ (parseMethodDescriptor y.desc).map (fun d => d.parameters.length) = some 0) ∧ n ≤ 45
section CNS
variable {X : CT} {B N N' ce sl L : Nat} {cc : ByteArray} {own : String} {pc : Nat} {lv : List (Nat × Value)} {st : List Value} {M : MM}
variable {L' mc ms idx n : Nat} {y : MethodName} {cc' : ByteArray}
theorem j_callN (hX : Cx X B L cc own) (hl : Cond.methodLinkNest own idx y "OtherPanes" ∈ nst) (lk : LkI y cc' n) {k : Int} {P : MM → Prop} (hC : CN (xl X) (xD X) (xcy X) B N N' L' mc ms y cc' n [rv B k] M P) (hL : L' + 1 ≤ L) (hce : ce + mc ≤ (xR X).cells ∧ sl + ms ≤ (xR X).slots) (hst : (st.map fun v => v.category).sum ≤ 8) (d : decode cc pc = .ok (.invokespecial idx, 3)) (kk : ∀ (M' : MM), P M' → J X B N' (ce + mc) (sl + ms) (pc + 3) lv st M') : J X B N ce sl pc lv (rv B k :: st) M := by
  obtain ⟨p, l, e, R, s, m, args, below, meth, c, D, cy, nL, Q⟩ := X
  intro H locs ls hW hS hls
  obtain ⟨hexec, hb, hml, hown, hts, hK, hLf, hLl, hEx⟩ := hX
  obtain ⟨b, c0, i, nm, dd, e45⟩ := lk
  have cw : va_CN R s args own idx y "OtherPanes" cc' n none (wsY y cc' n none) (rmC L' mc ms) mc ms 0 := va_cnB 0 hts (g_wsY c0) rfl rfl rfl (hEx.2.2.2.2.2 _ hl) (hts _ b) dd ⟨by show L' + 1 ≤ R.frames; omega, by show 8 + (n + 11) + 64 * L' ≤ R.locals; omega⟩
  exact va_callv (va_runIN (As := []) (rest := st) ⟨hexec, hb, hml, hown, hts⟩ hC ⟨cw, nm, hts _ i⟩ ⟨pc_blind, fun U hU hw => ⟨rfl, ⟨by rw [hU]; exact hW, va_K.moved hw.alike hK⟩, hEx.go hS hU hw⟩⟩ (g := F0 m pc ls (rv B k :: st)) rfl rfl hls.1 rfl (lv_room hst) d hce) hS (fun _ _ h => h) (fun _ h => h) (fun u t H1 locs1 ht hvm hp hB hz hk1 hS1 => kk u hp H1 locs1 ls (ht ▸ hB.1) hS1 hls)
theorem j_callP (hX : Cx X B L cc own) (hl : Cond.methodLink own idx y ∈ gw) (lk : LkI y cc' n) {k : Int} {P : MM → Prop} (hC : CN (xl X) (xD X) (xcy X) B N N' L' mc ms y cc' n [rv B k] M P) (hL : L' + 1 ≤ L) (hce : ce + mc ≤ (xR X).cells ∧ sl + ms ≤ (xR X).slots) (hst : (st.map fun v => v.category).sum ≤ 8) (d : decode cc pc = .ok (.invokespecial idx, 3)) (kk : ∀ (M' : MM), P M' → J X B N' (ce + mc) (sl + ms) (pc + 3) lv st M') : J X B N ce sl pc lv (rv B k :: st) M := by
  obtain ⟨p, l, e, R, s, m, args, below, meth, c, D, cy, nL, Q⟩ := X
  intro H locs ls hW hS hls
  obtain ⟨hexec, hb, hml, hown, hts, hK, hLf, hLl, hEx⟩ := hX
  obtain ⟨b, c0, i, nm, dd, e45⟩ := lk
  have cw : CallB R s args own idx y cc' n none (wsY y cc' n none) (rmC L' mc ms) mc ms 0 := callB_of 0 hts (g_wsY c0) rfl rfl rfl (hts _ b) (hts _ hl) dd ⟨by show L' + 1 ≤ R.frames; omega, by show 8 + (n + 11) + 64 * L' ≤ R.locals; omega⟩
  exact va_callv (va_runI (As := []) (rest := st) ⟨hexec, hb, hml, hown, hts⟩ hC ⟨cw, nm, hts _ i⟩ ⟨pc_blind, fun U hU hw => ⟨rfl, ⟨by rw [hU]; exact hW, va_K.moved hw.alike hK⟩, hEx.go hS hU hw⟩⟩ (g := F0 m pc ls (rv B k :: st)) rfl rfl hls.1 rfl (lv_room hst) d hce) hS (fun _ _ h => h) (fun _ h => h) (fun u t H1 locs1 ht hvm hp hB hz hk1 hS1 => kk u hp H1 locs1 ls (ht ▸ hB.1) hS1 hls)
theorem mk_CN {l : Launch} {D : va_G} {cy : Nat → ClassId} {av : List Value} {P : MM → Prop} (hy : plainName y.cls = true) (hyn : y.name = "<init>") (hav : (lg_sl av).length ≤ n)
    (body : ∀ X : CT, xl X = l → xD X = D → xcy X = cy → xnL X = n → Cx X B L cc y.cls → xI X → (xR X).cells = mc → (xR X).slots = ms → (∀ (pc : Nat) (lv : List (Nat × Value)) (M' : MM), decode cc pc = .ok (.return_, 1) → P M' → J X B N' mc ms pc lv [] M') → J X B N 0 0 0 (lv_args 0 av) [] M) : CN l D cy B N N' L mc ms y cc n av M P := by
  refine Met.ofW (cc := cc) (maxL := n) (ret := none) hy rfl ?_
  intro p e s m args below meth c s₁ Bd hml hv
  obtain ⟨rfl, ⟨hW, hK⟩, hEx⟩ := hv
  have hts := atoms_spec (ws := wsY y cc n none) Bd.pre
  have hown : s.vm.findClass y.cls = some m.cls := findClass_of_methodNamed Bd.named
  have hin : meth.name = "<init>" := ((name_of_methodNamed Bd.named Bd.method).1).trans hyn
  have hlocks := Bd.notSynchronized
  have hr := Bd.returns
  have hl := lv_entry av (n := n) hav
  rw [lg_entry_eq]
  refine body (p, l, e, rmC L mc ms, s, m, av.toArray, below, meth, c, D, cy, n, _) rfl rfl rfl rfl ⟨Bd.exec, Bd.bytes, hml, hown, fun w hw => hts w (List.mem_cons_of_mem _ hw), hK, Nat.le_refl _, Nat.le_refl _, hEx⟩ hin rfl rfl ?_ s.heap [] _ hW va_S.rf hl
  intro pc lv M' d hp H locs ls hW' hS' hl'
  refine W.vret Bd.exec Bd.bytes hr (fun t ht hw => ⟨⟨M', rfl, hp, by show Wd _ _ _ _ _ t.heap; rw [ht]; exact hW', va_K.moved hw.alike hK⟩, hS'.F ht⟩) (fun q hq => hS'.2.2 q hq) d hlocks
theorem j_upN {k j e : Int} (kk : ∀ M' : MM, M' = up M k j e → M'.1 k j = e → J X B N ce sl pc lv st M') : J X B N ce sl pc lv st (up M k j e) := kk _ rfl up_eq
theorem j_upLN {k j : Int} {v : Int64} (kk : ∀ M' : MM, M' = upL M k j v → J X B N ce sl pc lv st M') : J X B N ce sl pc lv st (upL M k j v) := kk _ rfl
theorem j_locE {i : Nat} {a b : Int} (e : a = b) (kk : J X B N ce sl pc ((i, iv b) :: lv) st M) : J X B N ce sl pc ((i, iv a) :: lv) st M := by rw [e]; exact kk
end CNS
/-! what a made group of cells holds -/
def Rg (k : Int) (M : MM) : Prop := ∀ j, (rg k j).1 ≤ M.1 k j ∧ M.1 k j ≤ (rg k j).2
def RR (lo hi : Int) (M : MM) : Prop := ∀ a, lo ≤ a → a < hi → Rg a M
def F2 (lo hi : Int) (M M' : MM) : Prop := ∀ a b, ¬ (lo ≤ a ∧ a < hi) → M'.1 a b = M.1 a b ∧ M'.2 a b = M.2 a b
def UL (k : Int) (K : List Int) (M : MM) : Prop := ∀ j, ¬ j ∈ K → M.1 k j = dv k j
theorem F2.rf {lo hi : Int} {M : MM} : F2 lo hi M M := fun _ _ _ => ⟨rfl, rfl⟩
theorem F2.put {lo hi k j w : Int} {M0 M M' : MM} (h : F2 lo hi M0 M) (e : M' = up M k j w) (hk : lo ≤ k ∧ k < hi) : F2 lo hi M0 M' := fun a b q => by
  rw [e, up_ne (fun z => q (by rw [z.1]; exact hk))]
  exact h a b q
theorem F2.lng {lo hi k j : Int} {v : Int64} {M0 M M' : MM} (h : F2 lo hi M0 M) (e : M' = upL M k j v) (hk : lo ≤ k ∧ k < hi) : F2 lo hi M0 M' := fun a b q => by
  rw [e]
  refine ⟨(h a b q).1, ?_⟩
  simp only [upL]
  rw [if_neg (fun z => q (by rw [z.1]; exact hk))]
  exact (h a b q).2
theorem F2.trans {lo hi lo' hi' : Int} {M0 M M' : MM} (h : F2 lo hi M0 M) (h' : F2 lo' hi' M M') (h1 : lo ≤ lo') (h2 : hi' ≤ hi) : F2 lo hi M0 M' := fun a b q => ⟨((h' a b (fun z => q (by omega))).1).trans (h a b q).1, ((h' a b (fun z => q (by omega))).2).trans (h a b q).2⟩
theorem DF_up {lo hi k j w : Int} {M M' : MM} (h : DF lo hi M) (e : M' = up M k j w) (hk : k < lo) : DF lo hi M' := fun a p q b => by
  rw [e, up_ne (fun z => by omega)]
  exact h a p q b
theorem DF_upL {lo hi k j : Int} {v : Int64} {M M' : MM} (h : DF lo hi M) (e : M' = upL M k j v) (hk : k < lo) : DF lo hi M' := fun a p q b => by
  rw [e]
  refine ⟨(h a p q b).1, ?_⟩
  simp only [upL]
  rw [if_neg (fun z => by omega)]
  exact (h a p q b).2
theorem DF_f2 {lo hi lo' hi' : Int} {M M' : MM} (h : DF lo hi M) (hG : F2 lo' hi' M M') (hk : hi' ≤ lo) : DF lo hi M' := fun a p q b => by
  rw [(hG a b (by omega)).1, (hG a b (by omega)).2]
  exact h a p q b
theorem UL_0 {k : Int} {M : MM} (h : D1 k M) : UL k [] M := fun j _ => (h j).1
theorem UL_up {k j w : Int} {K : List Int} {M M' : MM} (h : UL k K M) (e : M' = up M k j w) : UL k (j :: K) M' := fun i q => by
  rw [e, up_ne (fun z => q (by rw [z.2]; exact List.mem_cons_self))]
  exact h i (fun z => q (List.mem_cons_of_mem _ z))
theorem UL_ne {k c j w : Int} {K : List Int} {M M' : MM} (h : UL k K M) (e : M' = up M c j w) (hc : k ≠ c) : UL k K M' := fun i q => by
  rw [e, up_ne (fun z => hc z.1)]
  exact h i q
theorem UL_1 {k : Int} {K : List Int} {M M' : MM} (h : UL k K M) (e : M'.1 = M.1) : UL k K M' := fun i q => by rw [e]; exact h i q
theorem UL_f2 {k lo hi : Int} {K : List Int} {M M' : MM} (h : UL k K M) (hG : F2 lo hi M M') (hk : ¬ (lo ≤ k ∧ k < hi)) : UL k K M' := fun i q => by rw [(hG k i hk).1]; exact h i q
theorem kp_f2 {lo hi a b v : Int} {M M' : MM} (hG : F2 lo hi M M') (hk : ¬ (lo ≤ a ∧ a < hi)) (h : M.1 a b = v) : M'.1 a b = v := (hG a b hk).1.trans h
theorem RR_0 {lo : Int} {M : MM} : RR lo lo M := fun a p q => absurd q (by omega)
theorem RR_up {lo hi k j w : Int} {M M' : MM} (h : RR lo hi M) (e : M' = up M k j w) (hk : k < lo ∨ hi ≤ k) : RR lo hi M' := fun a p q b => by
  rw [e, up_ne (fun z => by omega)]
  exact h a p q b
theorem RR_1 {lo hi : Int} {M M' : MM} (h : RR lo hi M) (e : M'.1 = M.1) : RR lo hi M' := fun a p q b => by rw [e]; exact h a p q b
theorem RR_f2 {lo hi lo' hi' : Int} {M M' : MM} (h : RR lo hi M) (hG : F2 lo' hi' M M') (hk : hi ≤ lo' ∨ hi' ≤ lo) : RR lo hi M' := fun a p q b => by
  rw [(hG a b (by omega)).1]
  exact h a p q b
theorem RR_s {lo k k' : Int} {M : MM} (h : RR lo k M) (hr : Rg k M) (e : k' = k + 1) : RR lo k' M := fun a p q => by
  by_cases c : a = k
  · rw [c]; exact hr
  · exact h a p (by omega)
theorem RR_j {a b c : Int} {M : MM} (h : RR a b M) (h' : RR b c M) : RR a c M := fun x p q => by
  rcases Int.lt_or_le x b with z | z
  · exact h x p z
  · exact h' x z q
theorem getD_all {α : Type} {P : α → Prop} {l : List α} {d : α} (h : ∀ x ∈ l, P x) (hd : P d) (n : Nat) : P (l.getD n d) := by
  rw [List.getD_eq_getElem?_getD]
  cases h' : l[n]? with
  | none => exact hd
  | some x => exact h x (List.mem_of_getElem? h')
def okp (p : Int × Int) : Prop := p.1 ≤ p.2 ∧ -2147483648 ≤ p.1 ∧ p.2 ≤ 2147483647
def okr (r : List (Int × Int) × (Int × Int) × Int) : Prop := (∀ p ∈ r.1, p.1 ≤ p.2 ∧ -2147483648 ≤ p.1 ∧ p.2 ≤ 2147483647) ∧ (r.2.1.1 ≤ r.2.1.2 ∧ -2147483648 ≤ r.2.1.1 ∧ r.2.1.2 ≤ 2147483647)
theorem RGL_ok : ∀ r ∈ RGL, (∀ p ∈ r.1, p.1 ≤ p.2 ∧ -2147483648 ≤ p.1 ∧ p.2 ≤ 2147483647) ∧ (r.2.1.1 ≤ r.2.1.2 ∧ -2147483648 ≤ r.2.1.1 ∧ r.2.1.2 ≤ 2147483647) := by decide +kernel
theorem rg_ok (k j : Int) : (rg k j).1 ≤ (rg k j).2 ∧ -2147483648 ≤ (rg k j).1 ∧ (rg k j).2 ≤ 2147483647 := by
  unfold rg
  have h := getD_all (P := okr) (l := RGL) (d := ([], (-2147483648, 2147483647), 0)) RGL_ok ⟨fun p q => absurd q (by simp), by decide, by decide, by decide⟩ k.toNat
  exact getD_all (P := okp) h.1 h.2 _
def zr (k : Nat) : List (Int × Int) × (Int × Int) × Int := RGL.getD k ([], (-2147483648, 2147483647), 0)
def zb (k : Nat) : Bool := match KL.getD k (.inl 99) with
  | .inr q => decide (3 < q.1) || ((zr k).1.all (fun p => decide (p.1 ≤ 0) && decide (0 ≤ p.2)) && (decide ((zr k).2.1.1 ≤ 0) && decide (0 ≤ (zr k).2.1.2)))
  | .inl _ => true
theorem zb_all : (List.range 257).all zb = true := by decide +kernel
theorem z_ok {k : Nat} (hk : k < 257) {t n : Nat} (h : KL.getD k (.inl 99) = .inr (t, n)) (ht : t ≤ 3) : (∀ p ∈ (zr k).1, p.1 ≤ 0 ∧ 0 ≤ p.2) ∧ (zr k).2.1.1 ≤ 0 ∧ 0 ≤ (zr k).2.1.2 := by
  have h1 := List.all_eq_true.mp zb_all k (List.mem_range.mpr hk)
  unfold zb at h1
  rw [h] at h1
  simp only [Bool.or_eq_true, Bool.and_eq_true, decide_eq_true_eq, List.all_eq_true] at h1
  rcases h1 with h1 | h1
  · omega
  · exact ⟨h1.1, h1.2.1, h1.2.2⟩
theorem rg_0 {k j : Int} {t n : Nat} (h0 : 0 ≤ k) (h1 : k < 257) (hk : kd k = .inr (t, n)) (ht : t ≤ 3) : (rg k j).1 ≤ 0 ∧ 0 ≤ (rg k j).2 := by
  have h := z_ok (k := k.toNat) (by omega) hk ht
  unfold rg
  exact getD_all (P := fun p : Int × Int => p.1 ≤ 0 ∧ 0 ≤ p.2) h.1 h.2 _
theorem Rg_plain {k : Int} {t n : Nat} {M : MM} (h0 : 0 ≤ k) (h1 : k < 257) (hk : kd k = .inr (t, n)) (ht : t ≤ 3) (hd : D1 k M) : Rg k M := by
  intro j
  rw [(hd j).1]
  unfold dv
  have hne : k ≠ 27 := fun e => by
    rw [e] at hk
    have h27 : kd 27 = .inr (4, 41) := by decide +kernel
    rw [h27] at hk
    have := Prod.mk.inj (Sum.inr.inj hk)
    omega
  split
  · rw [tc_a hk, if_neg (by have h4 : t = 0 ∨ t = 1 ∨ t = 2 ∨ t = 3 := by omega
                            rcases h4 with h | h | h | h <;> subst h <;> decide)]
    exact rg_0 h0 h1 hk ht
  · try rw [if_neg hne]
    exact ⟨Int.le_refl _, (rg_ok k j).1⟩
theorem Rg_obj {k : Int} {K : List Int} {n : Nat} {M : MM} (hp : pl k = (n : Int)) (hU : UL k K M) (hK : ∀ x ∈ K, 0 ≤ x ∧ x < (n : Int)) (hk : k ≠ 27) (h : ∀ j : Nat, j < n → (rg k j).1 ≤ M.1 k j ∧ M.1 k j ≤ (rg k j).2) : Rg k M := by
  intro j
  by_cases c : 0 ≤ j ∧ j < (n : Int)
  · have := h j.toNat (by omega)
    rw [show ((j.toNat : Nat) : Int) = j by omega] at this
    exact this
  · rw [hU j (fun z => c (hK j z))]
    unfold dv
    rw [if_neg (by rw [hp]; exact c), if_neg hk]
    exact ⟨Int.le_refl _, (rg_ok k j).1⟩
/-- a row of rows -/
theorem Rg_rows {k : Int} {M M' : MM} (hd : D1 k M) (hk : kd k = .inr (5, 6)) (h1 : ∀ i, 0 ≤ i → i < 6 → M'.1 k i = k + 1 + i) (h2 : ∀ b, ¬ (0 ≤ b ∧ b < 6) → M'.1 k b = M.1 k b) (hr : ∀ i, 0 ≤ i → i < 6 → rg k i = (k + 1 + i, k + 1 + i)) (hne : k ≠ 27) : Rg k M' := by
  intro j
  by_cases c : 0 ≤ j ∧ j < 6
  · rw [h1 j c.1 c.2, hr j c.1 c.2]
    exact ⟨Int.le_refl _, Int.le_refl _⟩
  · rw [h2 j c, (hd j).1]
    unfold dv
    rw [if_neg (by rw [pl_a hk]; exact c), if_neg hne]
    exact ⟨Int.le_refl _, (rg_ok k j).1⟩
/-- the picture behind a row of rows -/
def rw6 (k : Int) (M : MM) : MM := (fun a b => if a = k ∧ 0 ≤ b ∧ b < 6 then k + 1 + b else M.1 a b, M.2)
theorem rw6_1 {k : Int} {M M' : MM} (e : M' = rw6 k M) : ∀ i, 0 ≤ i → i < 6 → M'.1 k i = k + 1 + i := fun i a b => by rw [e]; exact if_pos ⟨rfl, a, b⟩
theorem rw6_2 {k : Int} {M M' : MM} (e : M' = rw6 k M) : ∀ a b, ¬ (a = k ∧ 0 ≤ b ∧ b < 6) → M'.1 a b = M.1 a b := fun a b h => by rw [e]; exact if_neg h
theorem rw6_3 {k : Int} {M M' : MM} (e : M' = rw6 k M) : M'.2 = M.2 := by rw [e]; rfl
theorem rw6_f {k : Int} {M M' : MM} (e : M' = rw6 k M) : F2 k (k + 1) M M' := fun a b h => ⟨rw6_2 e a b (fun q => h (by omega)), by rw [rw6_3 e]⟩
theorem rw6_f7 {k : Int} {M M' : MM} (e : M' = rw6 k M) : F2 k (k + 7) M M' := fun a b h => ⟨rw6_2 e a b (fun q => h (by omega)), by rw [rw6_3 e]⟩
theorem DF_rw {k lo hi : Int} {M M' : MM} (h : DF lo hi M) (e : M' = rw6 k M) (hk : k < lo) : DF lo hi M' := DF_f2 h (rw6_f e) (by omega)
