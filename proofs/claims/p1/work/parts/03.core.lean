/-! what a method may take of the start beside its cells: two String constants, two statics, words that are not carried by the lists -/
def sx0 : String := "room joy curtain lot fact of at lamp tells wants rent dark to draw or and not seen knows want day self "
def sx1 : String := ";()<>=+-*/%"
def sln : List Nat := [103, 11]
def sby : List (List Int32) := [[114, 111, 111, 109, 32, 106, 111, 121, 32, 99, 117, 114, 116, 97, 105, 110, 32, 108, 111, 116, 32, 102, 97, 99, 116, 32, 111, 102, 32, 97, 116, 32, 108, 97, 109, 112, 32, 116, 101, 108, 108, 115, 32, 119, 97, 110, 116, 115, 32, 114, 101, 110, 116, 32, 100, 97, 114, 107, 32, 116, 111, 32, 100, 114, 97, 119, 32, 111, 114, 32, 97, 110, 100, 32, 110, 111, 116, 32, 115, 101, 101, 110, 32, 107, 110, 111, 119, 115, 32, 119, 97, 110, 116, 32, 100, 97, 121, 32, 115, 101, 108, 102, 32], [59, 40, 41, 60, 62, 61, 43, 45, 42, 47, 37]]
def nst : List Cond := [.methodLinkNest "OtherPanes" 9 ⟨"OtherPanes$Reader", "<init>", "()V"⟩ "OtherPanes", .methodLinkNest "OtherPanes$Reader" 20 ⟨"OtherPanes$Quarter", "<init>", "()V"⟩ "OtherPanes", .methodLinkNest "OtherPanes$Quarter" 70 ⟨"OtherPanes$Formula", "<init>", "()V"⟩ "OtherPanes", .methodLinkNest "OtherPanes$Acts" 24 ⟨"OtherPanes$Scene", "<init>", "()V"⟩ "OtherPanes", .methodLinkNest "OtherPanes" 25 ⟨"OtherPanes$Clock", "<init>", "()V"⟩ "OtherPanes", .methodLinkNest "OtherPanes" 32 ⟨"OtherPanes$Scene", "<init>", "()V"⟩ "OtherPanes", .methodLinkNest "OtherPanes$Plans" 11 ⟨"OtherPanes$Lots", "<init>", "()V"⟩ "OtherPanes", .methodLinkNest "OtherPanes" 50 ⟨"OtherPanes$Glimpses", "<init>", "()V"⟩ "OtherPanes", .methodLinkNest "OtherPanes$Glimpses" 11 ⟨"OtherPanes$Lots", "<init>", "()V"⟩ "OtherPanes", .methodLinkNest "OtherPanes" 61 ⟨"OtherPanes$Quarter", "<init>", "()V"⟩ "OtherPanes"]
def AOA (U : State) : Prop := (Cond.arrayOver (.array .int)).before #[] U = true
theorem AOA.moved {u U : State} (hvm : u.vm.Alike U.vm) (h : AOA u) : AOA U := by
  unfold AOA Cond.before Cond.holds at h ⊢
  simp only [Cond.value] at h ⊢
  rw [hvm.findClass]
  cases hc : u.vm.findClass (FieldType.array FieldType.int).toString with
  | none => simp [hc] at h
  | some comp =>
    simp only [hc, Option.bind_some, beq_iff_eq, Option.bind_eq_some_iff, Option.map_eq_some_iff] at h
    obtain ⟨c, hi, k, hk, hb⟩ := h
    obtain ⟨k', hk', he⟩ := hvm.2.2 _ _ hk
    have hi2 : (U.vm.classes.findIdx? fun (x : Class) => match x.kind with | .array component _ => component == comp | _ => false) = some c := by
      have e1 := va_idx_bare U.vm comp
      have e2 := va_idx_bare u.vm comp
      first
        | (rw [hvm.bare_eq] at e2; exact (e1.symm.trans e2).trans hi)
        | (rw [hvm.bare_eq] at e1; exact (e1.symm.trans e2).trans hi)
    simp only [Option.bind_some, beq_iff_eq, Option.bind_eq_some_iff, Option.map_eq_some_iff]
    refine ⟨c, hi2, k', hk', ?_⟩
    rw [he]
    rw [hvm.findClass]
    exact hb
def Ex (B : Nat) (U : State) : Prop := (∃ adK adV : Nat → Nat, vk_S 2 sln sby adK adV (fun q => B ≤ q) U U.heap ∧ vk_R "OtherPanes$Tape" 39 sx0 (adK 0) U ∧ vk_R "OtherPanes$Tape" 73 sx1 (adK 1) U) ∧ va_Z "java/lang/String" "COMPACT_STRINGS" "Z" (.int 1) (fun q => B ≤ q) U U.heap ∧ va_Zq "jdk/internal/util/Preconditions" "SIOOBE_FORMATTER" "Ljava/util/function/BiFunction;" (fun q => B ≤ q) U U.heap ∧ va_AO "OtherPanes$Scene" U ∧ AOA U ∧ ∀ w ∈ nst, va_Nw w U
theorem nst_w {s U : State} (hW : s.WarmedH U.vm) : ∀ w ∈ nst, va_Nw w s → va_Nw w U := by
  intro w hw h
  simp only [nst, List.mem_cons, List.not_mem_nil, or_false] at hw
  rcases hw with e | e | e | e | e | e | e | e | e | e <;> subst e <;> exact va_Nw.warmM hW h
theorem nst_s {s U : State} (hv : s.vm = U.vm) : ∀ w ∈ nst, va_Nw w s → va_Nw w U := by
  intro w hw h
  simp only [nst, List.mem_cons, List.not_mem_nil, or_false] at hw
  rcases hw with e | e | e | e | e | e | e | e | e | e <;> subst e <;> exact va_Nw.same rfl hv h
theorem Ex.go {B : Nat} {s U : State} {H : Heap} {locs : List Loc} (h : Ex B s) (hS : va_S (fun q => B ≤ q) s.heap H locs) (hU : U.heap = H) (hW : s.WarmedH U.vm) : Ex B U := by
  subst hU
  obtain ⟨⟨adK, adV, h1, h2, h3⟩, h4, h5, h6, h7, h8⟩ := h
  exact ⟨⟨adK, adV, (h1.kept hS.2.1).moved hW.alike, h2.warm hW, h3.warm hW⟩, (h4.kept hS.2.1).moved hW.alike, (h5.kept hS.2.1).moved hW.alike, h6.moved hW.alike, h7.moved hW.alike, fun w hw => nst_w hW w hw (h8 w hw)⟩
theorem Ex.calls {B : Nat} {U : State} (h : Ex B U) (g : JFrame) (mk : MethodId) (a : Array Value) : Ex B (U.calling g mk a) := by
  obtain ⟨⟨adK, adV, h1, h2, h3⟩, h4, h5, h6, h7, h8⟩ := h
  exact ⟨⟨adK, adV, h1.moved (U := U.calling g mk a) (Vm.Alike.refl U.vm), h2.same (U := U.calling g mk a) rfl, h3.same (U := U.calling g mk a) rfl⟩, h4.moved (U := U.calling g mk a) (Vm.Alike.refl U.vm), h5.moved (U := U.calling g mk a) (Vm.Alike.refl U.vm), h6.moved (U := U.calling g mk a) (Vm.Alike.refl U.vm), h7.moved (U := U.calling g mk a) (Vm.Alike.refl U.vm), fun w hw => nst_s (s := U) (U := U.calling g mk a) rfl w hw (h8 w hw)⟩
/-! A FLAT PICTURE OF THE SYSTEM'S CELLS. The cells are numbered in the order in which the two constructors make them; cell k lies at the address B + k. M.1 k j: the int (or the number of the cell that is pointed to, -1 for null) at place j of cell k; M.2 k j: the long there. -/
abbrev MM : Type := (Int → Int → Int) × (Int → Int → Int64)
def iv (z : Int) : Value := .int (Int32.ofInt z)
def rv (B : Nat) (k : Int) : Value := .ref (B + k.toNat)
def nv (B : Nat) (k : Int) : Value := if k < 0 then .null else .ref (B + k.toNat)
def fv (B : Nat) (M : MM) (k j : Int) (t : Nat) : Value := match t with
  | 0 => iv (M.1 k j)
  | 1 => .long (M.2 k j)
  | _ => nv B (M.1 k j)
def up (M : MM) (k j v : Int) : MM := (fun a b => if a = k ∧ b = j then v else M.1 a b, M.2)
def upL (M : MM) (k j : Int) (v : Int64) : MM := (M.1, fun a b => if a = k ∧ b = j then v else M.2 a b)
abbrev I32 (z : Int) : Prop := -2147483648 ≤ z ∧ z ≤ 2147483647
/-- the tables' words that any callee may take over -/
def gw : List Cond := lw_tbl.filter goodWord
theorem in_gw (i : Nat) {w : Cond} (h : lw_tbl[i]? = some w) (hg : goodWord w = true) : w ∈ gw := List.mem_filter.mpr ⟨List.mem_of_getElem? h, hg⟩
def tcode (t : FieldType) : Nat := match t with
  | .long => 1
  | .object _ => 2
  | .array _ => 2
  | _ => 0
def cls : List vw_C := [(RX0, TX0, 3), (RX1, TX1, 1), (RX2, TX2, 6), (RX3, TX3, 9), (RX4, TX4, 2), (RX5, TX5, 5), (RX6, TX6, 20), (RX7, TX7, 5), (RX8, TX8, 6), (RX9, TX9, 8), (RX10, TX10, 12), (RX11, TX11, 68)]
def ftT (ci : Nat) : Nat → FieldType := match ci with
  | 0 => tyX0
  | 1 => tyX1
  | 2 => tyX2
  | 3 => tyX3
  | 4 => tyX4
  | 5 => tyX5
  | 6 => tyX6
  | 7 => tyX7
  | 8 => tyX8
  | 9 => tyX9
  | 10 => tyX10
  | 11 => tyX11
  | _ => fun _ => .int
def ft (ci j : Nat) : Nat := tcode (ftT ci j)
def aty (t : Nat) : FieldType := match t with
  | 0 => .int
  | 1 => .byte
  | 2 => .boolean
  | 3 => .long
  | 4 => .object "OtherPanes$Scene"
  | _ => .array .int
def ac (t : Nat) : Nat := match t with
  | 0 => 0
  | 1 => 0
  | 2 => 0
  | 3 => 1
  | _ => 2
def tysl (cy : Nat → ClassId) : List (ClassId × FieldType) := [(cy 0, .int), (cy 1, .byte), (cy 2, .boolean), (cy 3, .long), (cy 4, .object "OtherPanes$Scene"), (cy 5, .array .int)]
def KL0 : List (Nat ⊕ (Nat × Nat)) := [.inl 10, .inl 7, .inl 9, .inr (1, 1600), .inr (3, 22), .inl 6, .inr (3, 6), .inr (0, 6), .inr (3, 10), .inr (0, 10), .inr (0, 10), .inr (0, 6), .inr (0, 6), .inr (5, 6), .inr (0, 6), .inr (0, 6), .inr (0, 6), .inr (0, 6), .inr (0, 6), .inr (0, 6), .inl 2, .inr (0, 280), .inr (0, 32), .inr (0, 22), .inr (0, 6), .inr (0, 24), .inl 0, .inr (4, 41), .inl 8, .inr (0, 6), .inr (0, 6), .inl 8, .inr (0, 6), .inr (0, 6), .inl 8, .inr (0, 6), .inr (0, 6), .inl 8, .inr (0, 6), .inr (0, 6)]
def KL1 : List (Nat ⊕ (Nat × Nat)) := [.inl 8, .inr (0, 6), .inr (0, 6), .inl 8, .inr (0, 6), .inr (0, 6), .inl 8, .inr (0, 6), .inr (0, 6), .inl 8, .inr (0, 6), .inr (0, 6), .inl 8, .inr (0, 6), .inr (0, 6), .inl 8, .inr (0, 6), .inr (0, 6), .inl 8, .inr (0, 6), .inr (0, 6), .inl 8, .inr (0, 6), .inr (0, 6), .inl 8, .inr (0, 6), .inr (0, 6), .inl 8, .inr (0, 6), .inr (0, 6), .inl 8, .inr (0, 6), .inr (0, 6), .inl 8, .inr (0, 6), .inr (0, 6), .inl 8, .inr (0, 6), .inr (0, 6), .inl 8]
def KL2 : List (Nat ⊕ (Nat × Nat)) := [.inr (0, 6), .inr (0, 6), .inl 8, .inr (0, 6), .inr (0, 6), .inl 8, .inr (0, 6), .inr (0, 6), .inl 8, .inr (0, 6), .inr (0, 6), .inl 8, .inr (0, 6), .inr (0, 6), .inl 8, .inr (0, 6), .inr (0, 6), .inl 8, .inr (0, 6), .inr (0, 6), .inl 8, .inr (0, 6), .inr (0, 6), .inl 8, .inr (0, 6), .inr (0, 6), .inl 8, .inr (0, 6), .inr (0, 6), .inl 8, .inr (0, 6), .inr (0, 6), .inl 8, .inr (0, 6), .inr (0, 6), .inl 8, .inr (0, 6), .inr (0, 6), .inl 8, .inr (0, 6)]
def KL3 : List (Nat ⊕ (Nat × Nat)) := [.inr (0, 6), .inl 8, .inr (0, 6), .inr (0, 6), .inl 8, .inr (0, 6), .inr (0, 6), .inl 8, .inr (0, 6), .inr (0, 6), .inl 8, .inr (0, 6), .inr (0, 6), .inl 8, .inr (0, 6), .inr (0, 6), .inl 8, .inr (0, 6), .inr (0, 6), .inl 8, .inr (0, 6), .inr (0, 6), .inl 8, .inr (0, 6), .inr (0, 6), .inl 8, .inr (0, 6), .inr (0, 6), .inl 8, .inr (0, 6), .inr (0, 6), .inl 1, .inr (0, 6), .inl 8, .inr (0, 6), .inr (0, 6), .inr (4, 3), .inl 5, .inl 4, .inr (0, 6)]
def KL4 : List (Nat ⊕ (Nat × Nat)) := [.inr (0, 6), .inr (0, 6), .inr (0, 6), .inr (0, 6), .inl 3, .inl 4, .inr (0, 6), .inr (0, 30), .inr (0, 30), .inr (0, 30), .inr (0, 30), .inr (0, 6), .inr (5, 6), .inr (0, 6), .inr (0, 6), .inr (0, 6), .inr (0, 6), .inr (0, 6), .inr (0, 6), .inr (0, 6), .inl 6, .inr (3, 6), .inr (0, 6), .inr (3, 10), .inr (0, 10), .inr (0, 10), .inr (0, 6), .inr (0, 6), .inr (5, 6), .inr (0, 6), .inr (0, 6), .inr (0, 6), .inr (0, 6), .inr (0, 6), .inr (0, 6), .inl 2, .inr (0, 280), .inr (0, 32), .inr (0, 22), .inr (0, 6)]
def KL5 : List (Nat ⊕ (Nat × Nat)) := [.inr (0, 24), .inl 8, .inr (0, 6), .inr (0, 6), .inl 8, .inr (0, 6), .inr (0, 6), .inl 8, .inr (0, 6), .inr (0, 6), .inl 11, .inr (1, 1620), .inr (1, 1600), .inr (0, 2), .inr (0, 2), .inr (0, 2), .inr (0, 2), .inr (0, 2), .inr (0, 2), .inr (0, 2), .inr (0, 2), .inr (0, 12), .inr (0, 12), .inr (0, 20), .inr (0, 20), .inr (0, 2), .inr (0, 12), .inr (0, 72), .inr (0, 12), .inr (0, 2), .inr (0, 2), .inr (2, 2), .inr (2, 2), .inr (2, 2), .inr (2, 2), .inr (3, 12), .inr (3, 20), .inr (0, 1120), .inr (0, 1120), .inr (0, 90)]
def KL6 : List (Nat ⊕ (Nat × Nat)) := [.inr (0, 90), .inr (0, 60), .inr (0, 16), .inr (0, 6), .inr (0, 656), .inr (0, 16), .inr (0, 7), .inr (0, 6), .inr (0, 6), .inr (0, 30), .inr (0, 30), .inr (0, 30), .inr (0, 30), .inr (0, 30), .inr (0, 36), .inr (0, 48), .inr (2, 3)]
def KL : List (Nat ⊕ (Nat × Nat)) := KL0 ++ (KL1 ++ (KL2 ++ (KL3 ++ (KL4 ++ (KL5 ++ (KL6))))))

def kd (k : Int) : Nat ⊕ (Nat × Nat) := KL.getD k.toNat (.inl 99)
def cat (D : va_G) (cy : Nat → ClassId) (B : Nat) (M : MM) (k : Nat) (H : Heap) : Prop := match KL.getD k (.inl 99) with
  | .inl ci => ∃ r : vw_C, cls[ci]? = some r ∧ t_OB (B + k) (D.1 ci) r.2.2 (D.2 ci) H (fun j => fv B M k j (ft ci j))
  | .inr q => H[B + k]? = some (arrV (cy q.1) q.2 (fun j => fv B M k j (ac q.1)))
def Wd (D : va_G) (cy : Nat → ClassId) (B N : Nat) (M : MM) (H : Heap) : Prop := H.size = B + N ∧ (∀ k, k < N → cat D cy B M k H) ∧ ∀ a b, I32 (M.1 a b)
abbrev CT : Type := Program × Launch × Env × Room × State × MethodId × Array Value × List Frame × Method × Code × va_G × (Nat → ClassId) × Nat × (State → Prop)
/-- from pc, with these locals, this stack, these cells, the machine comes to Q -/
def J (X : CT) (B N ce sl : Nat) (pc : Nat) (lv : List (Nat × Value)) (st : List Value) (M : MM) : Prop := match X with
  | (p, l, e, R, s, m, args, below, meth, c, D, cy, nL, Q) => ∀ (H : Heap) (locs : List Loc) (ls : Array Slot), Wd D cy B N M H → va_S (fun q => B ≤ q) s.heap H locs → lv_has ls nL lv → W p l e R s m args below meth c H locs ce sl Q (F0 m pc ls st)
def Cx (X : CT) (B L : Nat) (cc : ByteArray) (own : String) : Prop := match X with
  | (p, l, e, R, s, m, args, below, meth, c, D, cy, nL, Q) => p.tables.exec = Jvm.exec ∧ c.code = cc ∧ c.maxLocals = nL ∧ s.vm.findClass own = some m.cls ∧ (∀ w ∈ gw, w.before args s = true) ∧ va_K D cls (tysl cy) s ∧ L ≤ R.frames ∧ 64 * L ≤ R.locals ∧ Ex B s
abbrev xl (X : CT) : Launch := X.2.1
abbrev xR (X : CT) : Room := X.2.2.2.1
abbrev xD (X : CT) : va_G := X.2.2.2.2.2.2.2.2.2.2.1
abbrev xcy (X : CT) : Nat → ClassId := X.2.2.2.2.2.2.2.2.2.2.2.1
abbrev xnL (X : CT) : Nat := X.2.2.2.2.2.2.2.2.2.2.2.2.1
theorem i32_int {z : Int} (h : I32 z) : (Int32.ofInt z).toInt = z := Int32.toInt_ofInt_of_le (by omega) (by omega)
theorem i32_of (x : Int32) : I32 x.toInt := ⟨by have := Int32.le_toInt x; omega, by have := Int32.toInt_lt x; omega⟩
theorem iv_of (x : Int32) : iv x.toInt = .int x := by unfold iv; rw [Int32.ofInt_toInt]
theorem i32_le {a b : Int} (ha : I32 a) (hb : I32 b) : (Int32.ofInt a ≤ Int32.ofInt b) ↔ a ≤ b := by rw [Int32.le_iff_toInt_le, i32_int ha, i32_int hb]
theorem i32_lt {a b : Int} (ha : I32 a) (hb : I32 b) : (Int32.ofInt a < Int32.ofInt b) ↔ a < b := by rw [Int32.lt_iff_toInt_lt, i32_int ha, i32_int hb]
theorem i32_eq {a b : Int} (ha : I32 a) (hb : I32 b) : (Int32.ofInt a = Int32.ofInt b) ↔ a = b := by rw [← Int32.toInt_inj, i32_int ha, i32_int hb]
theorem i32_0 : (0 : Int32) = Int32.ofInt 0 := rfl
theorem i32_nat {i : Int} (h0 : 0 ≤ i) (h1 : i ≤ 2147483647) : (Int32.ofInt i).toNatClampNeg = i.toNat := Int32.toNatClampNeg_ofInt_of_le (by omega) (by omega)
theorem i32_in {i : Int} {n : Nat} (h0 : 0 ≤ i) (h1 : i < n) (hn : (n : Int) ≤ 2147483647) : ¬ (Int32.ofInt i < 0 ∨ n ≤ (Int32.ofInt i).toNatClampNeg) := by
  rw [i32_nat h0 (by omega), i32_0, i32_lt ⟨by omega, by omega⟩ ⟨by omega, by omega⟩]
  omega
theorem up_eq {M : MM} {k j v : Int} : (up M k j v).1 k j = v := by simp [up]
theorem up_ne {M : MM} {k j v a b : Int} (h : ¬ (a = k ∧ b = j)) : (up M k j v).1 a b = M.1 a b := by simp [up, h]
theorem rd_ne {M : MM} {k j v a b w : Int} (h : ¬ (a = k ∧ b = j)) (h2 : M.1 a b = w) : (up M k j v).1 a b = w := by rw [up_ne h, h2]
theorem up_2 {M : MM} {k j v : Int} : (up M k j v).2 = M.2 := rfl
theorem upL_1 {M : MM} {k j : Int} {v : Int64} : (upL M k j v).1 = M.1 := rfl
theorem nv_pos {B : Nat} {k : Int} (h : 0 ≤ k) : nv B k = rv B k := by unfold nv rv; rw [if_neg (by omega)]
