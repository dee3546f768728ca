/-! contracts over the flat picture, and calls by them -/
def rmL (L : Nat) : Room := { frames := L, cells := 0, slots := 0, locals := 64 * L }
abbrev wsY (y : MethodName) (cc : ByteArray) (n : Nat) (rt : Option FieldType) : List Cond := .code y cc n rt :: gw
def Ws (D : va_G) (cy : Nat → ClassId) (B N : Nat) (u : MM) (t : State) : Prop := Wd D cy B N u t.heap ∧ va_K D cls (tysl cy) t
def CI (l : Launch) (D : va_G) (cy : Nat → ClassId) (B N L : Nat) (y : MethodName) (cc : ByteArray) (n : Nat) (rt : Option FieldType) (av : List Value) (M : MM) (P : Int → MM → Prop) : Prop :=
  Met l y (wsY y cc n rt) (rmL L) (va_Pc av (fun U => Ws D cy B N M U ∧ Ex B U)) (va_Qi (fun r u => P r.toInt u) (Ws D cy B N) (fun q => B ≤ q)) 0 0 (fun q => B ≤ q)
def CL (l : Launch) (D : va_G) (cy : Nat → ClassId) (B N L : Nat) (y : MethodName) (cc : ByteArray) (n : Nat) (rt : Option FieldType) (av : List Value) (M : MM) (P : Int64 → MM → Prop) : Prop :=
  Met l y (wsY y cc n rt) (rmL L) (va_Pc av (fun U => Ws D cy B N M U ∧ Ex B U)) (va_Ql (fun r u => P r u) (Ws D cy B N) (fun q => B ≤ q)) 0 0 (fun q => B ≤ q)
def CV (l : Launch) (D : va_G) (cy : Nat → ClassId) (B N L : Nat) (y : MethodName) (cc : ByteArray) (n : Nat) (rt : Option FieldType) (av : List Value) (M : MM) (P : MM → Prop) : Prop :=
  Met l y (wsY y cc n rt) (rmL L) (va_Pc av (fun U => Ws D cy B N M U ∧ Ex B U)) (va_Qv (fun u => P u) (Ws D cy B N) (fun q => B ≤ q)) 0 0 (fun q => B ≤ q)
def CR (l : Launch) (D : va_G) (cy : Nat → ClassId) (B N L : Nat) (y : MethodName) (cc : ByteArray) (n : Nat) (rt : Option FieldType) (av : List Value) (M : MM) (P : Int → MM → Prop) : Prop :=
  Met l y (wsY y cc n rt) (rmL L) (va_Pc av (fun U => Ws D cy B N M U ∧ Ex B U)) (va_Qr (fun u : Int × MM => 0 ≤ u.1 ∧ P u.1 u.2) (fun u a t => a = B + u.1.toNat ∧ Ws D cy B N u.2 t) (fun q => B ≤ q)) 0 0 (fun q => B ≤ q)
set_option maxRecDepth 100000 in
theorem g_all : ∀ w ∈ gw, (w.onTables && w.keeps) = true ∨ ∃ ty, w = .arrayClass ty := fun w hw => good_of_word (List.mem_filter.mp hw).2
theorem g_in (ws : List Cond) (h : ∀ w ∈ ws, w ∈ gw) : GoodIn gw ws := fun w hw => ⟨h w hw, g_all w (h w hw)⟩
theorem g_wsY {y : MethodName} {cc : ByteArray} {n : Nat} {rt : Option FieldType} (h : Cond.code y cc n rt ∈ gw) : GoodIn gw (wsY y cc n rt) := g_in _ (fun w hw => by
  rcases List.mem_cons.mp hw with e | e
  · rw [e]; exact h
  · exact e)
/-- what a call of y by entry idx of own's file takes of the tables -/
def Lk (own : String) (idx : Nat) (y : MethodName) (cc : ByteArray) (n : Nat) (rt : Option FieldType) (na : Nat) : Prop := Cond.methodLink own idx y ∈ gw ∧ Cond.initialized y.cls ∈ gw ∧ Cond.code y cc n rt ∈ gw ∧ (y.cls ≠ "java/lang/invoke/MethodHandle" ∧ y.cls ≠ "java/lang/invoke/VarHandle" ∧ (parseMethodDescriptor y.desc).map (fun d => d.parameters.length) = some na) ∧ n ≤ 45
def LkV (own : String) (idx : Nat) (y : MethodName) (cc : ByteArray) (n : Nat) (rt : Option FieldType) (na : Nat) : Prop := Lk own idx y cc n rt na ∧ Cond.instanceMethod y ∈ gw ∧ Cond.selects y.cls y y ∈ gw
def LkS (own : String) (idx : Nat) (y : MethodName) (cc : ByteArray) (n : Nat) (rt : Option FieldType) (na : Nat) : Prop := Lk own idx y cc n rt na ∧ Cond.static y ∈ gw
theorem lk_b {own : String} {idx : Nat} {y : MethodName} {cc : ByteArray} {n : Nat} {rt : Option FieldType} {na L L' : Nat} {R : Room} {s : State} {args : Array Value} (hts : ∀ w ∈ gw, w.before args s = true) (h : Lk own idx y cc n rt na) (h1 : L ≤ R.frames) (h2 : 64 * L ≤ R.locals) (hL : L' + 1 ≤ L) : CallB R s args own idx y cc n rt (wsY y cc n rt) (rmL L') 0 0 na := by
  obtain ⟨a, b, c, d, e⟩ := h
  refine callB_of na hts (g_wsY c) rfl rfl rfl (hts _ b) (hts _ a) d ⟨?_, ?_⟩
  · show L' + 1 ≤ R.frames; omega
  · show 8 + (n + 11) + 64 * L' ≤ R.locals; omega
theorem pc_blind {D : va_G} {cy : Nat → ClassId} {B N : Nat} {M : MM} {av : List Value} : FrameBlind (va_Pc av (fun U => Ws D cy B N M U ∧ Ex B U)) := fun a U g mk q => ⟨q.1, ⟨q.2.1.1, va_K.moved (u := U) (U := U.calling g mk a) (Vm.Alike.refl U.vm) q.2.1.2⟩, q.2.2.calls g mk a⟩
theorem recv {D : va_G} {cy : Nat → ClassId} {B N : Nat} {M : MM} {H : Heap} {s : State} {k : Int} {ci : Nat} {r : vw_C} (hK : va_K D cls (tysl cy) s) (hW : Wd D cy B N M H) (h0 : 0 ≤ k) (hN : k < N) (hk : kd k = .inl ci) (hc : cls[ci]? = some r) : ∃ cell : Cell, H[B + k.toNat]? = some cell ∧ cell.vm.isStatics = false ∧ s.vm.findClass r.1 = some cell.cls := by
  obtain ⟨r', h1, cell, q1, q2, q3, -⟩ := cat_o h0 hk (hW.2.1 k.toNat (by omega))
  exact ⟨cell, q1, by rw [q3]; rfl, by rw [q2]; exact (hK.1 ci r hc).2.1⟩
section JC
variable {X : CT} {B N ce sl L : Nat} {cc : ByteArray} {own : String} {pc : Nat} {lv lv' : List (Nat × Value)} {st : List Value} {M : MM}
variable {L' idx n na : Nat} {y : MethodName} {cc' : ByteArray} {rt : Option FieldType}
theorem j_callVI (hX : Cx X B L cc own) (lk : LkV own idx y cc' n rt na) {k : Int} {ci : Nat} {r : vw_C} {As stk : List Value} {P : Int → MM → Prop} (hC : CI (xl X) (xD X) (xcy X) B N L' y cc' n rt (rv B k :: As) M P) (hL : L' + 1 ≤ L) (hce : ce + 0 ≤ (xR X).cells ∧ sl + 0 ≤ (xR X).slots) (hc : cls[ci]? = some r) (hr : r.1 = y.cls) (h0 : 0 ≤ k) (hN : k < N) (hk : kd k = .inl ci) (hstk : stk = As.reverse ++ rv B k :: st) (hna : As.length = na) (hst : (st.map fun v => v.category).sum ≤ 8) (d : decode cc pc = .ok (.invokevirtual idx, 3)) (kk : ∀ (z : Int) (M' : MM), I32 z → P z M' → J X B N ce sl (pc + 3) lv (iv z :: st) M') : J X B N ce sl pc lv stk M := by
  obtain ⟨p, l, e, R, s, m, args, below, meth, c, D, cy, nL, Q⟩ := X
  intro H locs ls hW hS hls
  obtain ⟨hexec, hb, hml, hown, hts, hK, hLf, hLl, hEx⟩ := hX
  subst hstk
  refine va_calli (va_runV (As := As) (rest := st) ⟨hexec, hb, hml, hown, hts⟩ hC ⟨lk_b hts lk.1 hLf hLl hL, hts _ lk.2.1, hts _ lk.2.2⟩ ⟨pc_blind, by have h := recv hK hW h0 hN hk hc; rw [hr] at h; exact h, fun U hU hw => ⟨rfl, ⟨by rw [hU]; exact hW, va_K.moved hw.alike hK⟩, hEx.go hS hU hw⟩⟩ (g := F0 m pc ls (As.reverse ++ rv B k :: st)) rfl hna hls.1 rfl (lv_room hst) d hce) hS (fun _ _ h => h) (fun _ h => h) (fun r u t H1 locs1 ht hvm hp hB hz hk1 hS1 => ?_)
  have h := kk r.toInt u (i32_of r) hp H1 locs1 ls (ht ▸ hB.1) hS1 hls
  rw [iv_of] at h
  exact h
theorem j_callVV (hX : Cx X B L cc own) (lk : LkV own idx y cc' n rt na) {k : Int} {ci : Nat} {r : vw_C} {As stk : List Value} {P : MM → Prop} (hC : CV (xl X) (xD X) (xcy X) B N L' y cc' n rt (rv B k :: As) M P) (hL : L' + 1 ≤ L) (hce : ce + 0 ≤ (xR X).cells ∧ sl + 0 ≤ (xR X).slots) (hc : cls[ci]? = some r) (hr : r.1 = y.cls) (h0 : 0 ≤ k) (hN : k < N) (hk : kd k = .inl ci) (hstk : stk = As.reverse ++ rv B k :: st) (hna : As.length = na) (hst : (st.map fun v => v.category).sum ≤ 8) (d : decode cc pc = .ok (.invokevirtual idx, 3)) (kk : ∀ (M' : MM), P M' → J X B N ce sl (pc + 3) lv st M') : J X B N ce sl pc lv stk M := by
  obtain ⟨p, l, e, R, s, m, args, below, meth, c, D, cy, nL, Q⟩ := X
  intro H locs ls hW hS hls
  obtain ⟨hexec, hb, hml, hown, hts, hK, hLf, hLl, hEx⟩ := hX
  subst hstk
  exact va_callv (va_runV (As := As) (rest := st) ⟨hexec, hb, hml, hown, hts⟩ hC ⟨lk_b hts lk.1 hLf hLl hL, hts _ lk.2.1, hts _ lk.2.2⟩ ⟨pc_blind, by have h := recv hK hW h0 hN hk hc; rw [hr] at h; exact h, fun U hU hw => ⟨rfl, ⟨by rw [hU]; exact hW, va_K.moved hw.alike hK⟩, hEx.go hS hU hw⟩⟩ (g := F0 m pc ls (As.reverse ++ rv B k :: st)) rfl hna hls.1 rfl (lv_room hst) d hce) hS (fun _ _ h => h) (fun _ h => h) (fun u t H1 locs1 ht hvm hp hB hz hk1 hS1 => kk u hp H1 locs1 ls (ht ▸ hB.1) hS1 hls)
theorem j_callVL (hX : Cx X B L cc own) (lk : LkV own idx y cc' n rt na) {k : Int} {ci : Nat} {r : vw_C} {As stk : List Value} {P : Int64 → MM → Prop} (hC : CL (xl X) (xD X) (xcy X) B N L' y cc' n rt (rv B k :: As) M P) (hL : L' + 1 ≤ L) (hce : ce + 0 ≤ (xR X).cells ∧ sl + 0 ≤ (xR X).slots) (hc : cls[ci]? = some r) (hr : r.1 = y.cls) (h0 : 0 ≤ k) (hN : k < N) (hk : kd k = .inl ci) (hstk : stk = As.reverse ++ rv B k :: st) (hna : As.length = na) (hst : (st.map fun v => v.category).sum ≤ 8) (d : decode cc pc = .ok (.invokevirtual idx, 3)) (kk : ∀ (z : Int64) (M' : MM), P z M' → J X B N ce sl (pc + 3) lv (.long z :: st) M') : J X B N ce sl pc lv stk M := by
  obtain ⟨p, l, e, R, s, m, args, below, meth, c, D, cy, nL, Q⟩ := X
  intro H locs ls hW hS hls
  obtain ⟨hexec, hb, hml, hown, hts, hK, hLf, hLl, hEx⟩ := hX
  subst hstk
  exact va_calll (va_runV (As := As) (rest := st) ⟨hexec, hb, hml, hown, hts⟩ hC ⟨lk_b hts lk.1 hLf hLl hL, hts _ lk.2.1, hts _ lk.2.2⟩ ⟨pc_blind, by have h := recv hK hW h0 hN hk hc; rw [hr] at h; exact h, fun U hU hw => ⟨rfl, ⟨by rw [hU]; exact hW, va_K.moved hw.alike hK⟩, hEx.go hS hU hw⟩⟩ (g := F0 m pc ls (As.reverse ++ rv B k :: st)) rfl hna hls.1 rfl (lv_room hst) d hce) hS (fun _ _ h => h) (fun _ h => h) (fun r u t H1 locs1 ht hvm hp hB hz hk1 hS1 => kk r u hp H1 locs1 ls (ht ▸ hB.1) hS1 hls)
theorem j_callVR (hX : Cx X B L cc own) (lk : LkV own idx y cc' n rt na) {k : Int} {ci : Nat} {r : vw_C} {As stk : List Value} {P : Int → MM → Prop} (hC : CR (xl X) (xD X) (xcy X) B N L' y cc' n rt (rv B k :: As) M P) (hL : L' + 1 ≤ L) (hce : ce + 0 ≤ (xR X).cells ∧ sl + 0 ≤ (xR X).slots) (hc : cls[ci]? = some r) (hr : r.1 = y.cls) (h0 : 0 ≤ k) (hN : k < N) (hk : kd k = .inl ci) (hstk : stk = As.reverse ++ rv B k :: st) (hna : As.length = na) (hst : (st.map fun v => v.category).sum ≤ 8) (d : decode cc pc = .ok (.invokevirtual idx, 3)) (kk : ∀ (z : Int) (M' : MM), 0 ≤ z → P z M' → J X B N ce sl (pc + 3) lv (rv B z :: st) M') : J X B N ce sl pc lv stk M := by
  obtain ⟨p, l, e, R, s, m, args, below, meth, c, D, cy, nL, Q⟩ := X
  intro H locs ls hW hS hls
  obtain ⟨hexec, hb, hml, hown, hts, hK, hLf, hLl, hEx⟩ := hX
  subst hstk
  refine va_callr (va_runV (As := As) (rest := st) ⟨hexec, hb, hml, hown, hts⟩ hC ⟨lk_b hts lk.1 hLf hLl hL, hts _ lk.2.1, hts _ lk.2.2⟩ ⟨pc_blind, by have h := recv hK hW h0 hN hk hc; rw [hr] at h; exact h, fun U hU hw => ⟨rfl, ⟨by rw [hU]; exact hW, va_K.moved hw.alike hK⟩, hEx.go hS hU hw⟩⟩ (g := F0 m pc ls (As.reverse ++ rv B k :: st)) rfl hna hls.1 rfl (lv_room hst) d hce) hS (fun _ _ h => h) (fun _ h => h) (fun u a t H1 locs1 ht hvm hp hB hz hk1 hS1 => ?_)
  obtain ⟨ea, hB⟩ := hB
  subst ea
  exact kk u.1 u.2 hp.1 hp.2 H1 locs1 ls (ht ▸ hB.1) hS1 hls
theorem j_callSI (hX : Cx X B L cc own) (lk : LkS own idx y cc' n rt na) {As stk : List Value} {P : Int → MM → Prop} (hC : CI (xl X) (xD X) (xcy X) B N L' y cc' n rt As M P) (hL : L' + 1 ≤ L) (hce : ce + 0 ≤ (xR X).cells ∧ sl + 0 ≤ (xR X).slots) (hstk : stk = As.reverse ++ st) (hna : As.length = na) (hst : (st.map fun v => v.category).sum ≤ 8) (d : decode cc pc = .ok (.invokestatic idx, 3)) (kk : ∀ (z : Int) (M' : MM), I32 z → P z M' → J X B N ce sl (pc + 3) lv (iv z :: st) M') : J X B N ce sl pc lv stk M := by
  obtain ⟨p, l, e, R, s, m, args, below, meth, c, D, cy, nL, Q⟩ := X
  intro H locs ls hW hS hls
  obtain ⟨hexec, hb, hml, hown, hts, hK, hLf, hLl, hEx⟩ := hX
  subst hstk
  refine va_calli (va_runS (As := As) (rest := st) ⟨hexec, hb, hml, hown, hts⟩ hC ⟨lk_b hts lk.1 hLf hLl hL, hts _ lk.2⟩ ⟨pc_blind, fun U hU hw => ⟨rfl, ⟨by rw [hU]; exact hW, va_K.moved hw.alike hK⟩, hEx.go hS hU hw⟩⟩ (g := F0 m pc ls (As.reverse ++ st)) rfl hna hls.1 rfl (lv_room hst) d hce) hS (fun _ _ h => h) (fun _ h => h) (fun r u t H1 locs1 ht hvm hp hB hz hk1 hS1 => ?_)
  have h := kk r.toInt u (i32_of r) hp H1 locs1 ls (ht ▸ hB.1) hS1 hls
  rw [iv_of] at h
  exact h
theorem j_callSV (hX : Cx X B L cc own) (lk : LkS own idx y cc' n rt na) {As stk : List Value} {P : MM → Prop} (hC : CV (xl X) (xD X) (xcy X) B N L' y cc' n rt As M P) (hL : L' + 1 ≤ L) (hce : ce + 0 ≤ (xR X).cells ∧ sl + 0 ≤ (xR X).slots) (hstk : stk = As.reverse ++ st) (hna : As.length = na) (hst : (st.map fun v => v.category).sum ≤ 8) (d : decode cc pc = .ok (.invokestatic idx, 3)) (kk : ∀ (M' : MM), P M' → J X B N ce sl (pc + 3) lv st M') : J X B N ce sl pc lv stk M := by
  obtain ⟨p, l, e, R, s, m, args, below, meth, c, D, cy, nL, Q⟩ := X
  intro H locs ls hW hS hls
  obtain ⟨hexec, hb, hml, hown, hts, hK, hLf, hLl, hEx⟩ := hX
  subst hstk
  exact va_callv (va_runS (As := As) (rest := st) ⟨hexec, hb, hml, hown, hts⟩ hC ⟨lk_b hts lk.1 hLf hLl hL, hts _ lk.2⟩ ⟨pc_blind, fun U hU hw => ⟨rfl, ⟨by rw [hU]; exact hW, va_K.moved hw.alike hK⟩, hEx.go hS hU hw⟩⟩ (g := F0 m pc ls (As.reverse ++ st)) rfl hna hls.1 rfl (lv_room hst) d hce) hS (fun _ _ h => h) (fun _ h => h) (fun u t H1 locs1 ht hvm hp hB hz hk1 hS1 => kk u hp H1 locs1 ls (ht ▸ hB.1) hS1 hls)
theorem j_callSL (hX : Cx X B L cc own) (lk : LkS own idx y cc' n rt na) {As stk : List Value} {P : Int64 → MM → Prop} (hC : CL (xl X) (xD X) (xcy X) B N L' y cc' n rt As M P) (hL : L' + 1 ≤ L) (hce : ce + 0 ≤ (xR X).cells ∧ sl + 0 ≤ (xR X).slots) (hstk : stk = As.reverse ++ st) (hna : As.length = na) (hst : (st.map fun v => v.category).sum ≤ 8) (d : decode cc pc = .ok (.invokestatic idx, 3)) (kk : ∀ (z : Int64) (M' : MM), P z M' → J X B N ce sl (pc + 3) lv (.long z :: st) M') : J X B N ce sl pc lv stk M := by
  obtain ⟨p, l, e, R, s, m, args, below, meth, c, D, cy, nL, Q⟩ := X
  intro H locs ls hW hS hls
  obtain ⟨hexec, hb, hml, hown, hts, hK, hLf, hLl, hEx⟩ := hX
  subst hstk
  exact va_calll (va_runS (As := As) (rest := st) ⟨hexec, hb, hml, hown, hts⟩ hC ⟨lk_b hts lk.1 hLf hLl hL, hts _ lk.2⟩ ⟨pc_blind, fun U hU hw => ⟨rfl, ⟨by rw [hU]; exact hW, va_K.moved hw.alike hK⟩, hEx.go hS hU hw⟩⟩ (g := F0 m pc ls (As.reverse ++ st)) rfl hna hls.1 rfl (lv_room hst) d hce) hS (fun _ _ h => h) (fun _ h => h) (fun r u t H1 locs1 ht hvm hp hB hz hk1 hS1 => kk r u hp H1 locs1 ls (ht ▸ hB.1) hS1 hls)
end JC
/-! a contract out of a walk -/
section MK
variable {l : Launch} {D : va_G} {cy : Nat → ClassId} {B N L n : Nat} {y : MethodName} {cc : ByteArray} {av : List Value} {M : MM}
theorem mk_CI {ty : FieldType} {P : Int → MM → Prop} (hy : plainName y.cls = true) (hav : (lg_sl av).length ≤ n)
    (body : ∀ X : CT, xl X = l → xD X = D → xcy X = cy → xnL X = n → Cx X B L cc y.cls → (∀ (pc : Nat) (lv : List (Nat × Value)) (z : Int) (M' : MM), decode cc pc = .ok (.ireturn, 1) → narrow ty (iv z) = iv z → I32 z → P z M' → J X B N 0 0 pc lv [iv z] M') → J X B N 0 0 0 (lv_args 0 av) [] M) : CI l D cy B N L y cc n (some ty) av M P := by
  refine Met.ofW (cc := cc) (maxL := n) (ret := some ty) hy rfl ?_
  intro p e s m args below meth c s₁ Bd hml hv
  obtain ⟨rfl, ⟨hW, hK⟩, hEx⟩ := hv
  have hts := atoms_spec (ws := wsY y cc n (some ty)) Bd.pre
  have hown : s.vm.findClass y.cls = some m.cls := findClass_of_methodNamed Bd.named
  have hlocks := Bd.notSynchronized
  have hr := Bd.returns
  have hl := lv_entry av (n := n) hav
  rw [lg_entry_eq]
  refine body (p, l, e, rmL L, s, m, av.toArray, below, meth, c, D, cy, n, _) rfl rfl rfl rfl ⟨Bd.exec, Bd.bytes, hml, hown, fun w hw => hts w (List.mem_cons_of_mem _ hw), hK, Nat.le_refl _, Nat.le_refl _, hEx⟩ ?_ s.heap [] _ hW va_S.rf hl
  intro pc lv z M' d hn hz hp H locs ls hW' hS' hl'
  refine W.zret Bd.exec Bd.bytes hr hn (fun t ht hw => ⟨⟨_, M', rfl, by show P (Int32.ofInt z).toInt M'; rw [i32_int hz]; exact hp, by show Wd _ _ _ _ _ t.heap; rw [ht]; exact hW', va_K.moved hw.alike hK⟩, hS'.F ht⟩) (fun q hq => hS'.2.2 q hq) d hlocks
theorem mk_CV {P : MM → Prop} (hy : plainName y.cls = true) (hav : (lg_sl av).length ≤ n)
    (body : ∀ X : CT, xl X = l → xD X = D → xcy X = cy → xnL X = n → Cx X B L cc y.cls → (∀ (pc : Nat) (lv : List (Nat × Value)) (M' : MM), decode cc pc = .ok (.return_, 1) → P M' → J X B N 0 0 pc lv [] M') → J X B N 0 0 0 (lv_args 0 av) [] M) : CV l D cy B N L y cc n none av M P := by
  refine Met.ofW (cc := cc) (maxL := n) (ret := none) hy rfl ?_
  intro p e s m args below meth c s₁ Bd hml hv
  obtain ⟨rfl, ⟨hW, hK⟩, hEx⟩ := hv
  have hts := atoms_spec (ws := wsY y cc n none) Bd.pre
  have hown : s.vm.findClass y.cls = some m.cls := findClass_of_methodNamed Bd.named
  have hlocks := Bd.notSynchronized
  have hr := Bd.returns
  have hl := lv_entry av (n := n) hav
  rw [lg_entry_eq]
  refine body (p, l, e, rmL L, s, m, av.toArray, below, meth, c, D, cy, n, _) rfl rfl rfl rfl ⟨Bd.exec, Bd.bytes, hml, hown, fun w hw => hts w (List.mem_cons_of_mem _ hw), hK, Nat.le_refl _, Nat.le_refl _, hEx⟩ ?_ s.heap [] _ hW va_S.rf hl
  intro pc lv M' d hp H locs ls hW' hS' hl'
  refine W.vret Bd.exec Bd.bytes hr (fun t ht hw => ⟨⟨M', rfl, hp, by show Wd _ _ _ _ _ t.heap; rw [ht]; exact hW', va_K.moved hw.alike hK⟩, hS'.F ht⟩) (fun q hq => hS'.2.2 q hq) d hlocks
theorem mk_CL {P : Int64 → MM → Prop} (hy : plainName y.cls = true) (hav : (lg_sl av).length ≤ n)
    (body : ∀ X : CT, xl X = l → xD X = D → xcy X = cy → xnL X = n → Cx X B L cc y.cls → (∀ (pc : Nat) (lv : List (Nat × Value)) (z : Int64) (M' : MM), decode cc pc = .ok (.lreturn, 1) → P z M' → J X B N 0 0 pc lv [.long z] M') → J X B N 0 0 0 (lv_args 0 av) [] M) : CL l D cy B N L y cc n (some .long) av M P := by
  refine Met.ofW (cc := cc) (maxL := n) (ret := some .long) hy rfl ?_
  intro p e s m args below meth c s₁ Bd hml hv
  obtain ⟨rfl, ⟨hW, hK⟩, hEx⟩ := hv
  have hts := atoms_spec (ws := wsY y cc n (some .long)) Bd.pre
  have hown : s.vm.findClass y.cls = some m.cls := findClass_of_methodNamed Bd.named
  have hlocks := Bd.notSynchronized
  have hr := Bd.returns
  have hl := lv_entry av (n := n) hav
  rw [lg_entry_eq]
  refine body (p, l, e, rmL L, s, m, av.toArray, below, meth, c, D, cy, n, _) rfl rfl rfl rfl ⟨Bd.exec, Bd.bytes, hml, hown, fun w hw => hts w (List.mem_cons_of_mem _ hw), hK, Nat.le_refl _, Nat.le_refl _, hEx⟩ ?_ s.heap [] _ hW va_S.rf hl
  intro pc lv z M' d hp H locs ls hW' hS' hl'
  refine W.lret Bd.exec Bd.bytes hr (fun t ht hw => ⟨⟨z, M', rfl, hp, by show Wd _ _ _ _ _ t.heap; rw [ht]; exact hW', va_K.moved hw.alike hK⟩, hS'.F ht⟩) (fun q hq => hS'.2.2 q hq) d hlocks
theorem mk_CR {rt : FieldType} {P : Int → MM → Prop} (hy : plainName y.cls = true) (hav : (lg_sl av).length ≤ n) (hrt : (∃ n, rt = .object n) ∨ ∃ t, rt = .array t)
    (body : ∀ X : CT, xl X = l → xD X = D → xcy X = cy → xnL X = n → Cx X B L cc y.cls → (∀ (pc : Nat) (lv : List (Nat × Value)) (z : Int) (M' : MM), decode cc pc = .ok (.areturn, 1) → 0 ≤ z → P z M' → J X B N 0 0 pc lv [rv B z] M') → J X B N 0 0 0 (lv_args 0 av) [] M) : CR l D cy B N L y cc n (some rt) av M P := by
  refine Met.ofW (cc := cc) (maxL := n) (ret := some rt) hy rfl ?_
  intro p e s m args below meth c s₁ Bd hml hv
  obtain ⟨rfl, ⟨hW, hK⟩, hEx⟩ := hv
  have hts := atoms_spec (ws := wsY y cc n (some rt)) Bd.pre
  have hown : s.vm.findClass y.cls = some m.cls := findClass_of_methodNamed Bd.named
  have hlocks := Bd.notSynchronized
  have hr := Bd.returns
  have hl := lv_entry av (n := n) hav
  rw [lg_entry_eq]
  refine body (p, l, e, rmL L, s, m, av.toArray, below, meth, c, D, cy, n, _) rfl rfl rfl rfl ⟨Bd.exec, Bd.bytes, hml, hown, fun w hw => hts w (List.mem_cons_of_mem _ hw), hK, Nat.le_refl _, Nat.le_refl _, hEx⟩ ?_ s.heap [] _ hW va_S.rf hl
  intro pc lv z M' d hz hp H locs ls hW' hS' hl'
  refine W.aret (v := rv B z) Bd.exec Bd.bytes hr hrt (Or.inr ⟨_, rfl⟩) (fun t ht hw => ⟨⟨(z, M'), B + z.toNat, rfl, ⟨hz, hp⟩, rfl, by show Wd _ _ _ _ _ t.heap; rw [ht]; exact hW', va_K.moved hw.alike hK⟩, hS'.F ht⟩) (fun q hq => hS'.2.2 q hq) d hlocks
end MK
