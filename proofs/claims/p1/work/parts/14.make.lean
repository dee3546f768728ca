/-! MAKING: cells come one behind another; a cell that was not made yet holds its first values -/
theorem arrV_eq {c : ClassId} {N : Nat} {f g : Nat → Value} (h : ∀ i, i < N → f i = g i) : arrV c N f = arrV c N g := by
  unfold arrV
  rw [show (fun j : Fin N => f j.val) = (fun j : Fin N => g j.val) from funext fun j => h j.val j.isLt]
def dflt (t : Nat) : Value := match t with
  | 0 => iv 0
  | 1 => .long 0
  | _ => .null
def okt (t : FieldType) : Bool := match t with
  | .float => false
  | .double => false
  | _ => true
theorem dfv {t : FieldType} (h : okt t = true) : defaultValue t = dflt (tcode t) := by
  cases t <;> first | rfl | (exact absurd h (by decide))
def pl (k : Int) : Int := match kd k with
  | .inl ci => ((((cls[ci]?).map fun r => r.2.2).getD 0 : Nat) : Int)
  | .inr q => (q.2 : Int)
def tc (k j : Int) : Nat := match kd k with
  | .inl ci => ft ci j.toNat
  | .inr q => ac q.1
def dv (k j : Int) : Int := if 0 ≤ j ∧ j < pl k then (if tc k j = 2 then -1 else 0) else if k = 27 then 28 else (rg k j).1
/-- cell k as it is made -/
def D1 (k : Int) (M : MM) : Prop := ∀ j, M.1 k j = dv k j ∧ M.2 k j = 0
def DF (lo hi : Int) (M : MM) : Prop := ∀ k, lo ≤ k → k < hi → D1 k M
theorem DF.sub {lo hi lo' hi' : Int} {M : MM} (h : DF lo hi M) (h1 : lo ≤ lo') (h2 : hi' ≤ hi) : DF lo' hi' M := fun k a b => h k (by omega) (by omega)
theorem DF.at {lo hi : Int} {M : MM} (h : DF lo hi M) (k : Int) (h1 : lo ≤ k) (h2 : k < hi) : D1 k M := h k h1 h2
theorem pl_o {k : Int} {ci : Nat} {r : vw_C} (hk : kd k = .inl ci) (hc : cls[ci]? = some r) : pl k = (r.2.2 : Int) := by unfold pl; rw [hk]; simp [hc]
theorem pl_a {k : Int} {t n : Nat} (hk : kd k = .inr (t, n)) : pl k = (n : Int) := by unfold pl; rw [hk]
theorem tc_o {k j : Int} {ci : Nat} (hk : kd k = .inl ci) : tc k j = ft ci j.toNat := by unfold tc; rw [hk]
theorem tc_a {k j : Int} {t n : Nat} (hk : kd k = .inr (t, n)) : tc k j = ac t := by unfold tc; rw [hk]
theorem fv_d {B : Nat} {M : MM} {k j : Int} {t : Nat} (h : D1 k M) (h0 : 0 ≤ j) (h1 : j < pl k) (ht : tc k j = t) (h2 : t ≤ 2) : fv B M k j t = dflt t := by
  have e := (h j).1
  have e2 := (h j).2
  unfold dv at e
  rw [if_pos ⟨h0, h1⟩, ht] at e
  have hk : t = 0 ∨ t = 1 ∨ t = 2 := by omega
  rcases hk with q | q | q <;> subst q
  · show iv (M.1 k j) = iv 0
    rw [e]; rfl
  · show Value.long (M.2 k j) = .long 0
    rw [e2]
  · show nv B (M.1 k j) = .null
    rw [e]; rfl
theorem tcode_le (t : FieldType) : tcode t ≤ 2 := by unfold tcode; split <;> decide
theorem wd_grow {D : va_G} {cy : Nat → ClassId} {B N : Nat} {M : MM} {H H' : Heap} (hW : Wd D cy B N M H) (hz : H'.size = H.size + 1) (ho : ∀ q, q < H.size → H'[q]? = H[q]?) (hn : cat D cy B M N H') : Wd D cy B (N + 1) M H' := by
  refine ⟨by rw [hz, hW.1]; omega, fun k hk => ?_, hW.2.2⟩
  by_cases e : k = N
  · rw [e]; exact hn
  · exact cat_congr (fun _ => rfl) (fun _ => rfl) (ho _ (by rw [hW.1]; omega)) (hW.2.1 k (by omega))
theorem S_grow {A : Nat → Prop} {H0 H H' : Heap} {locs : List Loc} (hS : va_S A H0 H locs) (hz : H'.size = H.size + 1) (ho : ∀ q, q < H.size → H'[q]? = H[q]?) : va_S A H0 H' locs := ⟨by rw [hz]; exact Nat.le_succ_of_le hS.1, fun x h1 h2 => (ho x (Nat.lt_of_lt_of_le h1 hS.1)).trans (hS.2.1 x h1 h2), hS.2.2⟩
abbrev xI (X : CT) : Prop := X.2.2.2.2.2.2.2.2.1.name = "<init>"
section MKJ
variable {X : CT} {B N ce sl L : Nat} {cc : ByteArray} {own : String} {pc : Nat} {lv lv' : List (Nat × Value)} {st : List Value} {M : MM}
theorem rv_N {k : Int} {H : Heap} (hN : (N : Int) = k) (hz : H.size = B + N) : rv B k = .ref H.size := by
  unfold rv
  rw [hz, ← hN]
  congr 1
theorem j_new (hX : Cx X B L cc own) {k : Int} (hN : (N : Int) = k) {ci idx Nf : Nat} {C : String} {T : u_T} {ty : Nat → FieldType} (hin : ∀ w ∈ u_ws C T Nf, w ∈ gw) (hty : ∀ k, k < Nf → parseFieldDescriptor (T k).2.2.1 = some (ty k)) (hc : cls[ci]? = some (C, T, Nf)) (hcl : Cond.classLink own idx C ∈ gw) (hinst : Cond.instantiable C Nf ∈ gw) (hini : Cond.initialized C ∈ gw) (hk : kd k = .inl ci) (hft : ∀ j, ft ci j = tcode (ty j)) (hok : ∀ j, j < Nf → okt (ty j) = true) (hd : D1 k M) (hce : ce + 1 ≤ (xR X).cells ∧ sl + Nf ≤ (xR X).slots) (d : decode cc pc = .ok (.new idx, 3)) (kk : J X B (N + 1) (ce + 1) (sl + Nf) (pc + 3) lv (rv B k :: st) M) : J X B N ce sl pc lv st M := by
  obtain ⟨p, l, e, R, s, m, args, below, meth, c, D, cy, nL, Q⟩ := X
  intro H locs ls hW hS hls
  obtain ⟨hexec, hb, hml, hown, hts, hK, hLf, hLl, hEx⟩ := hX
  have hKn := hK.1 ci _ hc
  refine W.newcK hexec hb hown (hts _ hcl) (hts _ hinst) (hts _ hini) rfl d hce.1 hce.2 hKn.2.1 rfl fun H1 kC hkC e1 z1 o1 => ?_
  have hob : t_OB (B + N) (D.1 ci) Nf (D.2 ci) H1 (fun j => fv B M (N : Int) j (ft ci j)) := by
    have h0 := u_born ty hts hin hKn hkC e1 hty
    rw [hW.1] at h0
    refine h0.to (fun j hj => ?_)
    rw [dfv (hok j hj), hft j, hN]
    refine (fv_d hd (by omega) ?_ ?_ (tcode_le _)).symm
    · rw [pl_o hk hc]; show (j : Int) < (Nf : Int); omega
    · rw [tc_o hk, ← hft j]; congr 1
  have hcat : cat D cy B M N H1 := by
    have h2 := cat_oi (D := D) (cy := cy) (B := B) (M := M) (H := H1) (k := k) (ci := ci) (by omega) hk ⟨_, hc, by rw [← hN]; exact hob⟩
    rw [← hN] at h2
    exact h2
  have h3 := kk H1 locs ls (wd_grow hW z1 o1 hcat) (S_grow hS z1 o1) hls
  rw [rv_N hN hW.1] at h3
  exact h3
/-- a row of ints, bytes, booleans or longs -/
theorem j_newa (hX : Cx X B L cc own) {k i : Int} (hN : (N : Int) = k) {t n : Nat} {atype : ArrayType} (ha : newarray.typeOf atype = aty t) (ht : t < 4) (hw : Cond.arrayClass (aty t) ∈ gw) (hk : kd k = .inr (t, n)) (hi : i = (n : Int)) (hn : n ≤ 2000) (hd : D1 k M) (hce : ce + 1 ≤ (xR X).cells ∧ sl + n ≤ (xR X).slots) (d : decode cc pc = .ok (.newarray atype, 2)) (kk : J X B (N + 1) (ce + 1) (sl + n) (pc + 2) lv (rv B k :: st) M) : J X B N ce sl pc lv (iv i :: st) M := by
  obtain ⟨p, l, e, R, s, m, args, below, meth, c, D, cy, nL, Q⟩ := X
  intro H locs ls hW hS hls
  obtain ⟨hexec, hb, hml, hown, hts, hK, hLf, hLl, hEx⟩ := hX
  subst hi
  have hcl : (Int32.ofInt (n : Int)).toNatClampNeg = n := by rw [i32_nat (by omega) (by omega)]; omega
  have h4 : t = 0 ∨ t = 1 ∨ t = 2 ∨ t = 3 := by omega
  have hby : n * componentBytes (newarray.typeOf atype) ≤ 536870912 := by
    rw [ha]
    rcases h4 with h | h | h | h <;> subst h <;> simp only [aty, componentBytes] <;> omega
  have hng : ¬ Int32.ofInt (n : Int) < 0 := by rw [i32_0, i32_lt ⟨by omega, by omega⟩ ⟨by omega, by omega⟩]; omega
  refine va_newaK hexec hb (by rw [ha]; exact hts _ hw) (g := F0 m pc ls (iv (n : Int) :: st)) rfl d rfl hng hcl hby hce.1 hce.2 rfl fun H1 cA e1 z1 o1 hAr hNm => ?_
  rw [ha] at e1 hAr hNm
  have hcy : cA = cy t := by
    rcases h4 with h | h | h | h <;> subst h
    · exact Option.some.inj (hNm.symm.trans (hK.2 0 _ rfl).2)
    · exact Option.some.inj (hNm.symm.trans (hK.2 1 _ rfl).2)
    · exact Option.some.inj (hNm.symm.trans (hK.2 2 _ rfl).2)
    · exact Option.some.inj (hNm.symm.trans (hK.2 3 _ rfl).2)
  subst hcy
  have hcat : cat D cy B M N H1 := by
    have h2 := cat_ai (D := D) (cy := cy) (B := B) (M := M) (H := H1) (k := k) (t := t) (n := n) (by omega) hk (by
      have e0 : B + k.toNat = H.size := by rw [hW.1]; omega
      rw [e0, e1]
      congr 1
      refine arrV_eq (fun j hj => ?_)
      have hf := fv_d (B := B) (j := (j : Int)) (t := ac t) hd (by omega) (by rw [pl_a hk]; omega) (tc_a hk) (by rcases h4 with h | h | h | h <;> subst h <;> decide)
      rw [hf]
      rcases h4 with h | h | h | h <;> subst h <;> rfl)
    rw [← hN] at h2
    exact h2
  have h3 := kk H1 locs ls (wd_grow hW z1 o1 hcat) (S_grow hS z1 o1) hls
  rw [rv_N hN hW.1] at h3
  exact h3
/-- a row of scenes -/
theorem j_newq (hX : Cx X B L cc own) {k i : Int} (hN : (N : Int) = k) {n idx : Nat} (hcl : Cond.classLink own idx "OtherPanes$Scene" ∈ gw) (hk : kd k = .inr (4, n)) (hi : i = (n : Int)) (hn : n ≤ 2000) (hd : D1 k M) (hce : ce + 1 ≤ (xR X).cells ∧ sl + n ≤ (xR X).slots) (d : decode cc pc = .ok (.anewarray idx, 3)) (kk : J X B (N + 1) (ce + 1) (sl + n) (pc + 3) lv (rv B k :: st) M) : J X B N ce sl pc lv (iv i :: st) M := by
  obtain ⟨p, l, e, R, s, m, args, below, meth, c, D, cy, nL, Q⟩ := X
  intro H locs ls hW hS hls
  obtain ⟨hexec, hb, hml, hown, hts, hK, hLf, hLl, hEx⟩ := hX
  subst hi
  have hcl2 : (Int32.ofInt (n : Int)).toNatClampNeg = n := by rw [i32_nat (by omega) (by omega)]; omega
  refine W.anew hexec hb hown (hts _ hcl) (va_AO.use hEx.2.2.2.1) (g := F0 m pc ls (iv (n : Int) :: st)) rfl d rfl (by rw [i32_0, i32_lt ⟨by omega, by omega⟩ ⟨by omega, by omega⟩]; omega) (by rw [hcl2]; omega) hce.1 (by rw [hcl2]; exact hce.2) fun cA kA comp f1 f2 f3 f4 => ?_
  rw [hcl2]
  generalize hH1 : H.push ({ cls := cA, slots := Array.replicate n .null, vm := .none } : Cell) = H1
  have z1 : H1.size = H.size + 1 := by rw [← hH1, Array.size_push]
  have e1 : H1[H.size]? = some (arrV cA n (fun _ => .null)) := by rw [← hH1, Array.getElem?_push_size, ← arrV_new]
  have o1 : ∀ q : Nat, q < H.size → H1[q]? = H[q]? := fun q hq => by rw [← hH1, Array.getElem?_push, if_neg (Nat.ne_of_lt hq)]
  have hcy : cA = cy 4 := by
    obtain ⟨kA2, comp2, g1, g2, g3, g4⟩ := (hK.2 4 _ rfl).2
    exact Option.some.inj (f1.symm.trans g4)
  subst hcy
  have hcat : cat D cy B M N H1 := by
    have h2 := cat_ai (D := D) (cy := cy) (B := B) (M := M) (H := H1) (k := k) (t := 4) (n := n) (by omega) hk (by
      have e0 : B + k.toNat = H.size := by rw [hW.1]; omega
      rw [e0, e1]
      congr 1
      refine arrV_eq (fun j hj => ?_)
      exact (fv_d (B := B) (j := (j : Int)) (t := 2) hd (by omega) (by rw [pl_a hk]; omega) (tc_a hk) (by decide)).symm)
    rw [← hN] at h2
    exact h2
  have h3 := kk H1 locs ls (wd_grow hW z1 o1 hcat) (S_grow hS z1 o1) hls
  rw [rv_N hN hW.1] at h3
  exact h3
theorem j_objInit (hX : Cx X B L cc own) {k : Int} {idx : Nat} (hl : Cond.methodLink own idx objectInit ∈ gw) (hi : Cond.instanceMethod objectInit ∈ gw) (hco : Cond.code objectInit ⟨#[0xb1]⟩ 1 none ∈ gw) (hL : 1 ≤ L) (hst : (st.map fun v => v.category).sum ≤ 8) (d : decode cc pc = .ok (.invokespecial idx, 3)) (kk : J X B N ce sl (pc + 3) lv st M) : J X B N ce sl pc lv (rv B k :: st) M := by
  obtain ⟨p, l, e, R, s, m, args, below, meth, c, D, cy, nL, Q⟩ := X
  intro H locs ls hW hS hls
  obtain ⟨hexec, hb, hml, hown, hts, hK, hLf, hLl, hEx⟩ := hX
  refine W.objInit hexec hb hown (hts _ hl) (hts _ hi) (hts _ hco) (g := F0 m pc ls (rv B k :: st)) rfl (by rw [hml]; exact hls.1) rfl d (by show 1 ≤ R.frames; omega) ?_ (kk H locs ls hW hS hls)
  have h64 : 64 ≤ R.locals := by have h1 : 64 * L ≤ R.locals := hLl; omega
  show 2 * (F0 m pc ls (rv B k :: st)).monitorRoom + (st.map fun v => v.category).sum + 12 ≤ R.locals
  have h0 : (F0 m pc ls (rv B k :: st)).monitorRoom = 0 := rfl
  rw [h0]
  omega
/-- a final field, where it is made -/
theorem j_putF (hX : Cx X B L cc own) (hI : xI X) {k : Int} {ci j idx Nf : Nat} {C : String} {T : u_T} {ty : Nat → FieldType} {M' : MM} {v : Value} (hin : ∀ w ∈ u_ws C T Nf, w ∈ gw) (hty : ∀ k, k < Nf → parseFieldDescriptor (T k).2.2.1 = some (ty k)) (hnm : ∀ a, a < Nf → ∀ b, b < Nf → a ≠ b → (T a).2.1 ≠ (T b).2.1) (hc : cls[ci]? = some (C, T, Nf)) (hj : j < Nf) (hl : Cond.fieldLink own idx (T j).1 (T j).2.1 (T j).2.2.1 ∈ gw) (hfin : (T j).2.2.2 = true) (hdecl : (T j).1 = own) (h0 : 0 ≤ k) (hN : k < N) (hk : kd k = .inl ci)
    (hn : narrow (ty j) v = v) (hf : fits (ty j) v = true) (h1 : ∀ a b : Int, ¬ (a = k ∧ b = (j : Int)) → M'.1 a b = M.1 a b) (h2 : ∀ a b : Int, ¬ (a = k ∧ b = (j : Int)) → M'.2 a b = M.2 a b) (hcan : ∀ a b, I32 (M.1 a b) → I32 (M'.1 a b)) (hv : v = fv B M' k j (ft ci j)) (d : decode cc pc = .ok (.putfield idx, 3)) (kk : J X B N ce sl (pc + 3) lv st M') : J X B N ce sl pc lv (v :: rv B k :: st) M := by
  obtain ⟨p, l, e, R, s, m, args, below, meth, c, D, cy, nL, Q⟩ := X
  intro H locs ls hW hS hls
  obtain ⟨hexec, hb, hml, hown, hts, hK, hLf, hLl, hEx⟩ := hX
  have hap := va_apart (own := own) hts hin ty hty hnm hK hc
  obtain ⟨r, g1, cell, q1, q2, q3, q4⟩ := cat_o h0 hk (hW.2.1 k.toNat (by omega))
  have hr : r = (C, T, Nf) := Option.some.inj (g1.symm.trans hc)
  subst hr
  obtain ⟨hSl, hfc, kC, hkC, hkind⟩ := hK.1 ci _ hc
  obtain ⟨cf, kf, fi, f, hi, hsl⟩ := hSl j hj
  have hlay := hts _ (hin _ (u_in_lay hj))
  unfold u_lay at hlay
  rw [if_pos hfin] at hlay
  have hst := (u_facts hfc hkC (u_lays hts hin hj) hi).1
  have hcf : m.cls = cf := by
    obtain ⟨_, _, c', _, _, _, -, -, hf', -, -, -, hown2, -⟩ := Cond.laysFinal_spec hlay
    have e1 : c' = cf := by have := hi.symm.trans hf'; simp at this; exact this.1.symm
    rw [hdecl] at hown2
    rw [← e1]; exact Option.some.inj (hown.symm.trans hown2)
  have h6 := u_fits hfc hkC hkind (Or.inr hlay) hi (hty j hj) hn hf
  refine W.putFinK hexec hb hown (hts _ hl) hi hst hcf hI (by rw [q2]; exact h6) q1 q3 (by rw [hsl]; exact k2_hasslot (q4 j hj)) rfl rfl d fun H' e1 e2 e3 => ?_
  rw [hsl] at e1 ⊢
  have hob : t_OB (B + k.toNat) (D.1 ci) Nf (D.2 ci) H' (updV (fun j => fv B M k j (ft ci j)) j v) := ⟨_, e1, q2, q3, t_set q4 hap hj v⟩
  refine kk H' _ ls (wd_new hW h0 (fun a b h => h1 a b (fun q => h q.1)) (fun a b h => h2 a b (fun q => h q.1)) (fun a b => hcan a b (hW.2.2 a b)) e2 e3 (cat_oi h0 hk ⟨_, hc, hob.to (fun i _ => ?_)⟩)) (hS.put e2 e3 (Nat.le_add_right _ _)) hls
  by_cases hij : i = j
  · subst hij
    simp [updV, hv]
  · simp only [updV, hij, if_false]
    exact (fv_congr (h1 _ _ (fun q => hij (by omega))) (h2 _ _ (fun q => hij (by omega)))).symm
/-- two dimensions -/
theorem ou_arr (c : ClassId) (N h0 : Nat) : ∀ i : Nat, Jvm.Free.Multi.outerC c N h0 i = arrV c N (fun j => if j < i then .ref (h0 + 1 + j) else .null)
  | 0 => by
    show ({ cls := c, slots := Array.replicate N .null, vm := .none } : Cell) = _
    rw [arrV_new]
    refine congrArg (arrV c N) (funext fun j => ?_)
    simp
  | i + 1 => by
    show (Jvm.Free.Multi.outerC c N h0 i).setSlot i (.ref (h0 + 1 + i)) = _
    rw [ou_arr c N h0 i, arrV_store]
    refine congrArg (arrV c N) (funext fun j => ?_)
    by_cases e : j = i
    · subst e
      simp [updV]
    · by_cases h : j < i
      · simp [updV, e, h, Nat.lt_succ_of_lt h]
      · simp [updV, e, h, show ¬ j < i + 1 by omega]
theorem j_mna (hX : Cx X B L cc own) {k : Int} (hN : (N : Int) = k) {idx : Nat} (hcl : Cond.classLink own idx "[[I" ∈ gw) (hw : Cond.arrayClass .int ∈ gw) (hk : kd k = .inr (5, 6)) (hki : ∀ i, 0 ≤ i → i < 6 → kd (k + 1 + i) = .inr (0, 6)) (hd : DF k (k + 7) M) {M' : MM} (h1 : ∀ i, 0 ≤ i → i < 6 → M'.1 k i = k + 1 + i) (h2 : ∀ a b, ¬ (a = k ∧ 0 ≤ b ∧ b < 6) → M'.1 a b = M.1 a b) (h3 : M'.2 = M.2) (hk0 : k ≤ 1000) (hce : ce + 7 ≤ (xR X).cells ∧ sl + 42 ≤ (xR X).slots) (d : decode cc pc = .ok (.multianewarray idx 2, 4)) (kk : J X B (N + 7) (ce + 7) (sl + 42) (pc + 4) lv (rv B k :: st) M') : J X B N ce sl pc lv (iv 6 :: iv 6 :: st) M := by
  obtain ⟨p, l, e, R, s, m, args, below, meth, c, D, cy, nL, Q⟩ := X
  intro H locs ls hW hS hls
  obtain ⟨hexec, hb, hml, hown, hts, hK, hLf, hLl, hEx⟩ := hX
  intro T hT Xs
  have h6 : (Int32.ofInt 6).toNatClampNeg = 6 := by decide
  have hov : (Cond.arrayOver (.array .int)).before args s = true := hEx.2.2.2.2.1
  have hclk : (Cond.classLink own idx ("[" ++ (FieldType.array FieldType.int).toString)).before args s = true := hts _ hcl
  obtain ⟨vm₁, cA, comp, -, fA, fC, hO, -, X', step⟩ := Xs.multianewarray2F hexec hown hclk hov (hts _ hw) (g := F0 m pc ls (iv 6 :: iv 6 :: st)) (n := Int32.ofInt 6) (k := Int32.ofInt 6) (rest := st) rfl (by rw [hb]; exact d) rfl (by decide) (by decide) (by decide) (by decide) (by decide) (by decide) (by decide) (by rw [h6]; exact hce.1) (by rw [h6]; exact hce.2)
  have ec : comp = cy 0 := Option.some.inj (fC.symm.trans (hK.2 0 _ rfl).2)
  have ea : cA = cy 5 := Option.some.inj (fA.symm.trans (hK.2 5 _ rfl).2)
  subst ec
  subst ea
  rw [h6] at X' step
  generalize hF : Jvm.Free.Multi.fill (T.setVm vm₁) (cy 5) (cy 0) 6 6 (defaultValue .int) 6 = F at X' step
  have hTh : (T.setVm vm₁).heap = H := hT
  obtain ⟨f1, f2, -, -⟩ := Jvm.Free.Multi.fill_facts (T.setVm vm₁) (cy 5) (cy 0) 6 6 (defaultValue .int) 6
  rw [hF, hTh] at f1 f2
  have hold : ∀ x : Nat, x < H.size → F.heap[x]? = H[x]? := fun x hx => by
    have := Jvm.Free.Multi.fill_old (T.setVm vm₁) (cy 5) (cy 0) 6 6 (defaultValue .int) (a := x) (by rw [hTh]; exact hx) 6
    rw [hF, hTh] at this
    exact this
  have hrow : ∀ j : Nat, j < 6 → F.heap[H.size + 1 + j]? = some (Jvm.Free.Multi.innerC (cy 0) 6 (defaultValue .int)) := fun j hj => by
    have := Jvm.Free.Multi.fill_inner (T.setVm vm₁) (cy 5) (cy 0) 6 6 (defaultValue .int) 6 j hj
    rw [hF, hTh] at this
    exact this
  rw [ou_arr] at f2
  have hkN : k.toNat = N := by omega
  have hz : Array.size H = B + N := hW.1
  have hWd : Wd D cy B (N + 7) M' F.heap := by
    refine ⟨by rw [f1, hW.1]; omega, fun q hq => ?_, fun a b => ?_⟩
    · by_cases q0 : q < N
      · exact cat_congr (fun j => h2 _ _ (by omega)) (fun j => by rw [h3]) (hold _ (by rw [hW.1]; omega)) (hW.2.1 q q0)
      · by_cases q1 : q = N
        · have h9 := cat_ai (D := D) (cy := cy) (B := B) (M := M') (H := F.heap) (k := k) (t := 5) (n := 6) (by omega) hk (by
            rw [hkN, ← hW.1, f2]
            congr 1
            refine arrV_eq (fun j hj => ?_)
            rw [if_pos hj]
            show Value.ref _ = nv B (M'.1 k j)
            rw [h1 j (by omega) (by omega), nv_pos (by omega)]
            have e5 : (k + 1 + (j : Int)).toNat = N + 1 + j := by omega
            unfold rv
            rw [e5]
            exact congrArg Value.ref (show (Array.size H + 1 + j : Nat) = B + (N + 1 + j) by omega))
          rw [hkN] at h9
          rw [q1]
          exact h9
        · obtain ⟨i, hi, e⟩ : ∃ i : Nat, i < 6 ∧ q = N + 1 + i := ⟨q - N - 1, by omega, by omega⟩
          have hkk := hki (i : Int) (by omega) (by omega)
          have hdd := hd (k + 1 + i) (by omega) (by omega)
          have h9 := cat_ai (D := D) (cy := cy) (B := B) (M := M') (H := F.heap) (k := k + 1 + i) (t := 0) (n := 6) (by omega) hkk (by
            have e0 : B + (k + 1 + (i : Int)).toNat = H.size + 1 + i := by rw [hW.1]; omega
            rw [e0, hrow i hi]
            congr 1
            show ({ cls := cy 0, slots := Array.replicate 6 (defaultValue .int), vm := .none } : Cell) = _
            rw [arrV_new]
            refine arrV_eq (fun j hj => ?_)
            have hfv : fv B M' (k + 1 + i) j (ac 0) = fv B M (k + 1 + i) j (ac 0) := fv_congr (h2 _ _ (by omega)) (by rw [h3])
            rw [hfv]
            exact (fv_d (B := B) (j := (j : Int)) (t := 0) hdd (by omega) (by rw [pl_a hkk]; omega) (tc_a hkk) (by decide)).symm)
          have e9 : (k + 1 + (i : Int)).toNat = q := by omega
          rw [e9] at h9
          exact h9
    · by_cases c : a = k ∧ 0 ≤ b ∧ b < 6
      · rw [c.1, h1 b c.2.1 c.2.2]
        exact ⟨by omega, by omega⟩
      · rw [h2 a b c]; exact hW.2.2 a b
  have hSg : va_S (fun q => B ≤ q) s.heap F.heap locs := ⟨by rw [f1]; have := hS.1; omega, fun x g1 g2 => (hold x (Nat.lt_of_lt_of_le g1 hS.1)).trans (hS.2.1 x g1 g2), hS.2.2⟩
  have h4 := kk F.heap locs ls hWd hSg hls
  rw [rv_N hN hW.1] at h4
  obtain ⟨t, a1, b1⟩ := h4 F rfl X'
  have hTs : T.heap.size = H.size := by rw [show T.heap = H from hT]
  rw [hTs] at step
  exact ⟨t, step t a1, b1⟩
/-- the picture may be another one where nothing was made yet -/
theorem j_swap {M2 : MM} (h1 : ∀ a b, 0 ≤ a → a < (N : Int) → M2.1 a b = M.1 a b ∧ M2.2 a b = M.2 a b) (h2 : (∀ a b, I32 (M.1 a b)) → ∀ a b, I32 (M2.1 a b)) (kk : J X B N ce sl pc lv st M2) : J X B N ce sl pc lv st M := by
  obtain ⟨p, l, e, R, s, m, args, below, meth, c, D, cy, nL, Q⟩ := X
  intro H locs ls hW hS hls
  exact kk H locs ls ⟨hW.1, fun k hk => cat_congr (fun j => (h1 k j (by omega) (by omega)).1) (fun j => (h1 k j (by omega) (by omega)).2) rfl (hW.2.1 k hk), h2 hW.2.2⟩ hS hls
theorem j_widen {ce' sl' : Nat} (h1 : ce ≤ ce') (h2 : sl ≤ sl') (kk : J X B N ce' sl' pc lv st M) : J X B N ce sl pc lv st M := by
  obtain ⟨p, l, e, R, s, m, args, below, meth, c, D, cy, nL, Q⟩ := X
  intro H locs ls hW hS hls
  exact W.widen h1 h2 (kk H locs ls hW hS hls)
end MKJ
