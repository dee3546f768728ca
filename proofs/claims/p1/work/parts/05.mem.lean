/-! cells read and written -/
theorem fv_congr {B : Nat} {M M' : MM} {k j : Int} {t : Nat} (h1 : M'.1 k j = M.1 k j) (h2 : M'.2 k j = M.2 k j) : fv B M' k j t = fv B M k j t := by
  unfold fv
  split
  · rw [h1]
  · rw [h2]
  · rw [h1]
theorem cat_o {D : va_G} {cy : Nat → ClassId} {B : Nat} {M : MM} {H : Heap} {k : Int} {ci : Nat} (h0 : 0 ≤ k) (hk : kd k = .inl ci) (hc : cat D cy B M k.toNat H) : ∃ r : vw_C, cls[ci]? = some r ∧ t_OB (B + k.toNat) (D.1 ci) r.2.2 (D.2 ci) H (fun j => fv B M k j (ft ci j)) := by
  unfold cat at hc
  unfold kd at hk
  rw [hk] at hc
  have e : ((k.toNat : Nat) : Int) = k := by omega
  rw [e] at hc
  exact hc
theorem cat_a {D : va_G} {cy : Nat → ClassId} {B : Nat} {M : MM} {H : Heap} {k : Int} {t n : Nat} (h0 : 0 ≤ k) (hk : kd k = .inr (t, n)) (hc : cat D cy B M k.toNat H) : H[B + k.toNat]? = some (arrV (cy t) n (fun j => fv B M k j (ac t))) := by
  unfold cat at hc
  unfold kd at hk
  rw [hk] at hc
  have e : ((k.toNat : Nat) : Int) = k := by omega
  rw [e] at hc
  exact hc
theorem cat_oi {D : va_G} {cy : Nat → ClassId} {B : Nat} {M : MM} {H : Heap} {k : Int} {ci : Nat} (h0 : 0 ≤ k) (hk : kd k = .inl ci) (hc : ∃ r : vw_C, cls[ci]? = some r ∧ t_OB (B + k.toNat) (D.1 ci) r.2.2 (D.2 ci) H (fun j => fv B M k j (ft ci j))) : cat D cy B M k.toNat H := by
  unfold cat
  unfold kd at hk
  rw [hk]
  have e : ((k.toNat : Nat) : Int) = k := by omega
  rw [e]
  exact hc
theorem cat_ai {D : va_G} {cy : Nat → ClassId} {B : Nat} {M : MM} {H : Heap} {k : Int} {t n : Nat} (h0 : 0 ≤ k) (hk : kd k = .inr (t, n)) (hc : H[B + k.toNat]? = some (arrV (cy t) n (fun j => fv B M k j (ac t)))) : cat D cy B M k.toNat H := by
  unfold cat
  unfold kd at hk
  rw [hk]
  have e : ((k.toNat : Nat) : Int) = k := by omega
  rw [e]
  exact hc
theorem cat_congr {D : va_G} {cy : Nat → ClassId} {B : Nat} {M M' : MM} {H H' : Heap} {k : Nat} (h1 : ∀ j, M'.1 k j = M.1 k j) (h2 : ∀ j, M'.2 k j = M.2 k j) (hq : H'[B + k]? = H[B + k]?) (h : cat D cy B M k H) : cat D cy B M' k H' := by
  have e : ∀ (j : Nat) (t : Nat), fv B M' k j t = fv B M k j t := fun j t => fv_congr (h1 _) (h2 _)
  unfold cat at h ⊢
  split
  · rename_i ci hci
    rw [hci] at h
    obtain ⟨r, h3, h4⟩ := h
    exact ⟨r, h3, (h4.kept hq).to (fun i _ => (e i _).symm)⟩
  · rename_i q hqq
    rw [hqq] at h
    dsimp only at h ⊢
    rw [hq, h]
    congr 2
    funext i
    exact (e i _).symm
theorem wd_new {D : va_G} {cy : Nat → ClassId} {B N : Nat} {M M' : MM} {H H' : Heap} (hW : Wd D cy B N M H) {k : Int} (h0 : 0 ≤ k) (h1 : ∀ a j, a ≠ k → M'.1 a j = M.1 a j) (h2 : ∀ a j, a ≠ k → M'.2 a j = M.2 a j) (hc : ∀ a b, I32 (M'.1 a b)) (hz : H'.size = H.size) (ho : ∀ q : Nat, q ≠ B + k.toNat → H'[q]? = H[q]?) (hn : cat D cy B M' k.toNat H') : Wd D cy B N M' H' := by
  refine ⟨hz.trans hW.1, fun i hi => ?_, hc⟩
  by_cases e : i = k.toNat
  · rw [e]; exact hn
  · exact cat_congr (fun j => h1 _ j (by omega)) (fun j => h2 _ j (by omega)) (ho _ (by omega)) (hW.2.1 i hi)
theorem can_up {M : MM} {k j v : Int} (h : ∀ a b, I32 (M.1 a b)) (hv : I32 v) : ∀ a b, I32 ((up M k j v).1 a b) := by
  intro a b
  unfold up
  dsimp only
  split
  · exact hv
  · exact h a b
theorem up_o1 {M : MM} {k j v : Int} : ∀ a b, a ≠ k → (up M k j v).1 a b = M.1 a b := fun a b h => up_ne (fun q => h q.1)
section JM
variable {X : CT} {B N ce sl L : Nat} {cc : ByteArray} {own : String} {pc : Nat} {lv lv' : List (Nat × Value)} {st : List Value} {M : MM}
theorem j_get (hX : Cx X B L cc own) {k : Int} {ci j idx Nf : Nat} {C : String} {T : u_T} (hin : ∀ w ∈ u_ws C T Nf, w ∈ gw) (hc : cls[ci]? = some (C, T, Nf)) (hj : j < Nf) (hl : Cond.fieldLink own idx (T j).1 (T j).2.1 (T j).2.2.1 ∈ gw) (h0 : 0 ≤ k) (hN : k < N) (hk : kd k = .inl ci) (d : decode cc pc = .ok (.getfield idx, 3)) (kk : J X B N ce sl (pc + 3) lv (fv B M k j (ft ci j) :: st) M) : J X B N ce sl pc lv (rv B k :: st) M := by
  obtain ⟨p, l, e, R, s, m, args, below, meth, c, D, cy, nL, Q⟩ := X
  intro H locs ls hW hS hls
  obtain ⟨hexec, hb, hml, hown, hts, hK, hLf, hLl, hEx⟩ := hX
  obtain ⟨r, h1, cell, q1, q2, q3, q4⟩ := cat_o h0 hk (hW.2.1 k.toNat (by omega))
  have hr : r = (C, T, Nf) := Option.some.inj (h1.symm.trans hc)
  subst hr
  obtain ⟨hSl, hfc, kC, hkC, hkind⟩ := hK.1 ci _ hc
  obtain ⟨cf, kf, fi, f, hi, hsl⟩ := hSl j hj
  refine W.getf hexec hb hown (hts _ hl) hi (u_facts hfc hkC (u_lays hts hin hj) hi).1 q1 (by rw [q3]; exact fun h => by cases h) (v := fv B M k j (ft ci j)) ?_ rfl rfl d (kk H locs ls hW hS hls)
  rw [hsl, q4 j hj]
theorem j_put (hX : Cx X B L cc own) {k : Int} {ci j idx Nf : Nat} {C : String} {T : u_T} {ty : Nat → FieldType} {M' : MM} {v : Value} (hin : ∀ w ∈ u_ws C T Nf, w ∈ gw) (hty : ∀ k, k < Nf → parseFieldDescriptor (T k).2.2.1 = some (ty k)) (hnm : ∀ a, a < Nf → ∀ b, b < Nf → a ≠ b → (T a).2.1 ≠ (T b).2.1) (hc : cls[ci]? = some (C, T, Nf)) (hj : j < Nf) (hl : Cond.fieldLink own idx (T j).1 (T j).2.1 (T j).2.2.1 ∈ gw) (hfin : (T j).2.2.2 = false) (h0 : 0 ≤ k) (hN : k < N) (hk : kd k = .inl ci)
    (hn : narrow (ty j) v = v) (hf : fits (ty j) v = true) (h1 : ∀ a b : Int, ¬ (a = k ∧ b = (j : Int)) → M'.1 a b = M.1 a b) (h2 : ∀ a b : Int, ¬ (a = k ∧ b = (j : Int)) → M'.2 a b = M.2 a b) (hcan : ∀ a b, I32 (M.1 a b) → I32 (M'.1 a b)) (hv : v = fv B M' k j (ft ci j)) (d : decode cc pc = .ok (.putfield idx, 3)) (kk : J X B N ce sl (pc + 3) lv st M') : J X B N ce sl pc lv (v :: rv B k :: st) M := by
  obtain ⟨p, l, e, R, s, m, args, below, meth, c, D, cy, nL, Q⟩ := X
  intro H locs ls hW hS hls
  obtain ⟨hexec, hb, hml, hown, hts, hK, hLf, hLl, hEx⟩ := hX
  have hap := va_apart (own := own) hts hin ty hty hnm hK hc
  obtain ⟨r, g1, cell, q1, q2, q3, q4⟩ := cat_o h0 hk (hW.2.1 k.toNat (by omega))
  have hr : r = (C, T, Nf) := Option.some.inj (g1.symm.trans hc)
  subst hr
  obtain ⟨hSl, hfc, kC, hkC, hkind⟩ := hK.1 ci _ hc
  obtain ⟨cf, kf, fi, f, hi, hsl⟩ := hSl j hj
  have hlay := hts _ (hin _ (u_in_lay hj))
  unfold u_lay at hlay
  rw [if_neg (by rw [hfin]; decide)] at hlay
  have hst := (u_facts hfc hkC (u_lays hts hin hj) hi).1
  have h6 := u_store hfc hkC hkind hlay hi (hty j hj) hn hf
  refine W.putK hexec hb (f := f) ⟨hown, hts _ hl, ⟨_, _, _, hi⟩, hst⟩ (by rw [q2]; exact h6) q1 q3 (by rw [hsl]; exact k2_hasslot (q4 j hj)) rfl rfl d fun H' e1 e2 e3 => ?_
  rw [hsl] at e1 ⊢
  have hob : t_OB (B + k.toNat) (D.1 ci) Nf (D.2 ci) H' (updV (fun j => fv B M k j (ft ci j)) j v) := ⟨_, e1, q2, q3, t_set q4 hap hj v⟩
  refine kk H' _ ls (wd_new hW h0 (fun a b h => h1 a b (fun q => h q.1)) (fun a b h => h2 a b (fun q => h q.1)) (fun a b => hcan a b (hW.2.2 a b)) e2 e3 (cat_oi h0 hk ⟨_, hc, hob.to (fun i _ => ?_)⟩)) (hS.put e2 e3 (Nat.le_add_right _ _)) hls
  by_cases hij : i = j
  · subst hij
    simp [updV, hv]
  · simp only [updV, hij, if_false]
    exact (fv_congr (h1 _ _ (fun q => hij (by omega))) (h2 _ _ (fun q => hij (by omega)))).symm
theorem j_alen (hX : Cx X B L cc own) {k : Int} {t n : Nat} (ht : t < 6) (h0 : 0 ≤ k) (hN : k < N) (hk : kd k = .inr (t, n)) (d : decode cc pc = .ok (.arraylength, 1)) (kk : J X B N ce sl (pc + 1) lv (iv n :: st) M) : J X B N ce sl pc lv (rv B k :: st) M := by
  obtain ⟨p, l, e, R, s, m, args, below, meth, c, D, cy, nL, Q⟩ := X
  intro H locs ls hW hS hls
  obtain ⟨hexec, hb, hml, hown, hts, hK, hLf, hLl, hEx⟩ := hX
  have hcell := cat_a h0 hk (hW.2.1 k.toNat (by omega))
  have harr : ArrOfT s (cy t) (aty t) := by
    have : t = 0 ∨ t = 1 ∨ t = 2 ∨ t = 3 ∨ t = 4 ∨ t = 5 := by omega
    rcases this with h | h | h | h | h | h <;> subst h
    · exact (hK.2 0 _ rfl).1
    · exact (hK.2 1 _ rfl).1
    · exact (hK.2 2 _ rfl).1
    · exact (hK.2 3 _ rfl).1
    · exact (hK.2 4 _ rfl).1
    · exact (hK.2 5 _ rfl).1
  refine W.alen (n := Int32.ofInt n) hexec hb hcell (harr n _) ?_ rfl rfl d (kk H locs ls hW hS hls)
  rw [arrV_size]
  rfl
theorem j_iald (hX : Cx X B L cc own) {k i : Int} {n : Nat} (h0 : 0 ≤ k) (hN : k < N) (hk : kd k = .inr (0, n)) (hi0 : 0 ≤ i) (hi1 : i < n) (hn : (n : Int) ≤ 2147483647) (d : decode cc pc = .ok (.iaload, 1)) (kk : J X B N ce sl (pc + 1) lv (iv (M.1 k i) :: st) M) : J X B N ce sl pc lv (iv i :: rv B k :: st) M := by
  obtain ⟨p, l, e, R, s, m, args, below, meth, c, D, cy, nL, Q⟩ := X
  intro H locs ls hW hS hls
  obtain ⟨hexec, hb, hml, hown, hts, hK, hLf, hLl, hEx⟩ := hX
  refine W.iald (v := iv (M.1 k i)) hexec hb (cat_a h0 hk (hW.2.1 k.toNat (by omega))) ((hK.2 0 _ rfl).1 n _) (fun q => by cases q) (by rw [arrV_size]; exact i32_in hi0 hi1 hn) ?_ rfl rfl d (kk H locs ls hW hS hls)
  rw [i32_nat hi0 (by omega), arrV_read _ _ (by omega)]
  have e : ((i.toNat : Nat) : Int) = i := by omega
  rw [e]
  rfl
theorem j_bald (hX : Cx X B L cc own) {k i : Int} {n : Nat} (h0 : 0 ≤ k) (hN : k < N) (hk : kd k = .inr (1, n)) (hi0 : 0 ≤ i) (hi1 : i < n) (hn : (n : Int) ≤ 2147483647) (d : decode cc pc = .ok (.baload, 1)) (kk : J X B N ce sl (pc + 1) lv (iv (M.1 k i) :: st) M) : J X B N ce sl pc lv (iv i :: rv B k :: st) M := by
  obtain ⟨p, l, e, R, s, m, args, below, meth, c, D, cy, nL, Q⟩ := X
  intro H locs ls hW hS hls
  obtain ⟨hexec, hb, hml, hown, hts, hK, hLf, hLl, hEx⟩ := hX
  refine W.bald (v := iv (M.1 k i)) hexec hb (cat_a h0 hk (hW.2.1 k.toNat (by omega))) ((hK.2 1 _ rfl).1 n _) (fun q => by cases q) (by rw [arrV_size]; exact i32_in hi0 hi1 hn) ?_ rfl rfl d (kk H locs ls hW hS hls)
  rw [i32_nat hi0 (by omega), arrV_read _ _ (by omega)]
  have e : ((i.toNat : Nat) : Int) = i := by omega
  rw [e]
  rfl
theorem j_zald (hX : Cx X B L cc own) {k i : Int} {n : Nat} (h0 : 0 ≤ k) (hN : k < N) (hk : kd k = .inr (2, n)) (hi0 : 0 ≤ i) (hi1 : i < n) (hn : (n : Int) ≤ 2147483647) (d : decode cc pc = .ok (.baload, 1)) (kk : J X B N ce sl (pc + 1) lv (iv (M.1 k i) :: st) M) : J X B N ce sl pc lv (iv i :: rv B k :: st) M := by
  obtain ⟨p, l, e, R, s, m, args, below, meth, c, D, cy, nL, Q⟩ := X
  intro H locs ls hW hS hls
  obtain ⟨hexec, hb, hml, hown, hts, hK, hLf, hLl, hEx⟩ := hX
  refine W.zald (v := iv (M.1 k i)) hexec hb (cat_a h0 hk (hW.2.1 k.toNat (by omega))) ((hK.2 2 _ rfl).1 n _) (fun q => by cases q) (by rw [arrV_size]; exact i32_in hi0 hi1 hn) ?_ rfl rfl d (kk H locs ls hW hS hls)
  rw [i32_nat hi0 (by omega), arrV_read _ _ (by omega)]
  have e : ((i.toNat : Nat) : Int) = i := by omega
  rw [e]
  rfl
theorem j_lald (hX : Cx X B L cc own) {k i : Int} {n : Nat} (h0 : 0 ≤ k) (hN : k < N) (hk : kd k = .inr (3, n)) (hi0 : 0 ≤ i) (hi1 : i < n) (hn : (n : Int) ≤ 2147483647) (d : decode cc pc = .ok (.laload, 1)) (kk : J X B N ce sl (pc + 1) lv (.long (M.2 k i) :: st) M) : J X B N ce sl pc lv (iv i :: rv B k :: st) M := by
  obtain ⟨p, l, e, R, s, m, args, below, meth, c, D, cy, nL, Q⟩ := X
  intro H locs ls hW hS hls
  obtain ⟨hexec, hb, hml, hown, hts, hK, hLf, hLl, hEx⟩ := hX
  refine W.lald (v := .long (M.2 k i)) hexec hb (cat_a h0 hk (hW.2.1 k.toNat (by omega))) ((hK.2 3 _ rfl).1 n _) (fun q => by cases q) (by rw [arrV_size]; exact i32_in hi0 hi1 hn) ?_ rfl rfl d (kk H locs ls hW hS hls)
  rw [i32_nat hi0 (by omega), arrV_read _ _ (by omega)]
  have e : ((i.toNat : Nat) : Int) = i := by omega
  rw [e]
  rfl
theorem j_aald4 (hX : Cx X B L cc own) {k i : Int} {n : Nat} (h0 : 0 ≤ k) (hN : k < N) (hk : kd k = .inr (4, n)) (hi0 : 0 ≤ i) (hi1 : i < n) (hn : (n : Int) ≤ 2147483647) {z : Int} (hz : M.1 k i = z) (hz0 : 0 ≤ z) (d : decode cc pc = .ok (.aaload, 1)) (kk : J X B N ce sl (pc + 1) lv (rv B z :: st) M) : J X B N ce sl pc lv (iv i :: rv B k :: st) M := by
  obtain ⟨p, l, e, R, s, m, args, below, meth, c, D, cy, nL, Q⟩ := X
  intro H locs ls hW hS hls
  obtain ⟨hexec, hb, hml, hown, hts, hK, hLf, hLl, hEx⟩ := hX
  refine W.aald (v := rv B z) (ty := .object "OtherPanes$Scene") hexec hb (cat_a h0 hk (hW.2.1 k.toNat (by omega))) ((hK.2 4 _ rfl).1 n _) rfl (fun q => by cases q) (by rw [arrV_size]; exact i32_in hi0 hi1 hn) ?_ rfl rfl d (kk H locs ls hW hS hls)
  rw [i32_nat hi0 (by omega), arrV_read _ _ (by omega)]
  have e : ((i.toNat : Nat) : Int) = i := by omega
  rw [e, ← nv_pos hz0, ← hz]
  rfl
theorem j_aald5 (hX : Cx X B L cc own) {k i : Int} {n : Nat} (h0 : 0 ≤ k) (hN : k < N) (hk : kd k = .inr (5, n)) (hi0 : 0 ≤ i) (hi1 : i < n) (hn : (n : Int) ≤ 2147483647) {z : Int} (hz : M.1 k i = z) (hz0 : 0 ≤ z) (d : decode cc pc = .ok (.aaload, 1)) (kk : J X B N ce sl (pc + 1) lv (rv B z :: st) M) : J X B N ce sl pc lv (iv i :: rv B k :: st) M := by
  obtain ⟨p, l, e, R, s, m, args, below, meth, c, D, cy, nL, Q⟩ := X
  intro H locs ls hW hS hls
  obtain ⟨hexec, hb, hml, hown, hts, hK, hLf, hLl, hEx⟩ := hX
  refine W.aald (v := rv B z) (ty := .array .int) hexec hb (cat_a h0 hk (hW.2.1 k.toNat (by omega))) ((hK.2 5 _ rfl).1 n _) rfl (fun q => by cases q) (by rw [arrV_size]; exact i32_in hi0 hi1 hn) ?_ rfl rfl d (kk H locs ls hW hS hls)
  rw [i32_nat hi0 (by omega), arrV_read _ _ (by omega)]
  have e : ((i.toNat : Nat) : Int) = i := by omega
  rw [e, ← nv_pos hz0, ← hz]
  rfl
/-- what an array's store makes of the cells -/
theorem wd_ast {D : va_G} {cy : Nat → ClassId} {H H' : Heap} {k i : Int} {t n : Nat} {M' : MM} {v : Value} (hW : Wd D cy B N M H) (h0 : 0 ≤ k) (hk : kd k = .inr (t, n)) (hi0 : 0 ≤ i) (hi1 : i ≤ 2147483647) (h1 : ∀ a b, ¬ (a = k ∧ b = i) → M'.1 a b = M.1 a b) (h2 : ∀ a b, ¬ (a = k ∧ b = i) → M'.2 a b = M.2 a b) (hcan : ∀ a b, I32 (M.1 a b) → I32 (M'.1 a b)) (hv : v = fv B M' k i (ac t))
    (e1 : H'[B + k.toNat]? = some ((arrV (cy t) n (fun j => fv B M k j (ac t))).setSlot (Int32.ofInt i).toNatClampNeg v)) (e2 : H'.size = H.size) (e3 : ∀ q : Nat, q ≠ B + k.toNat → H'[q]? = H[q]?) : Wd D cy B N M' H' := by
  refine wd_new hW h0 (fun a b h => h1 a b (fun q => h q.1)) (fun a b h => h2 a b (fun q => h q.1)) (fun a b => hcan a b (hW.2.2 a b)) e2 e3 (cat_ai h0 hk ?_)
  rw [e1, i32_nat hi0 hi1, arrV_store]
  congr 2
  funext q
  by_cases hq : q = i.toNat
  · subst hq
    have e : ((i.toNat : Nat) : Int) = i := by omega
    simp only [updV, if_true]
    rw [e, hv]
  · simp only [updV, hq, if_false]
    exact (fv_congr (h1 _ _ (fun z => hq (by omega))) (h2 _ _ (fun z => hq (by omega)))).symm
theorem j_iast (hX : Cx X B L cc own) {k i v : Int} {n : Nat} (h0 : 0 ≤ k) (hN : k < N) (hk : kd k = .inr (0, n)) (hi0 : 0 ≤ i) (hi1 : i < n) (hn : (n : Int) ≤ 2147483647) (hv : I32 v) (d : decode cc pc = .ok (.iastore, 1)) (kk : J X B N ce sl (pc + 1) lv st (up M k i v)) : J X B N ce sl pc lv (iv v :: iv i :: rv B k :: st) M := by
  obtain ⟨p, l, e, R, s, m, args, below, meth, c, D, cy, nL, Q⟩ := X
  intro H locs ls hW hS hls
  obtain ⟨hexec, hb, hml, hown, hts, hK, hLf, hLl, hEx⟩ := hX
  refine W.iast hexec hb (cat_a h0 hk (hW.2.1 k.toNat (by omega))) ((hK.2 0 _ rfl).1 n _) (fun q => by cases q) (by rw [arrV_size]; exact i32_in hi0 hi1 hn) rfl rfl d fun H' e1 e2 e3 => ?_
  exact kk H' _ ls (wd_ast hW h0 hk hi0 (by omega) (fun a b h => up_ne h) (fun _ _ _ => rfl) (fun a b h => by unfold up; dsimp only; split <;> assumption) (by show iv v = iv _; rw [up_eq]) e1 e2 e3) (hS.put e2 e3 (Nat.le_add_right _ _)) hls
theorem j_bast (hX : Cx X B L cc own) {k i v : Int} {n : Nat} (h0 : 0 ≤ k) (hN : k < N) (hk : kd k = .inr (1, n)) (hi0 : 0 ≤ i) (hi1 : i < n) (hn : (n : Int) ≤ 2147483647) (hv0 : -128 ≤ v) (hv1 : v ≤ 127) (d : decode cc pc = .ok (.bastore, 1)) (kk : J X B N ce sl (pc + 1) lv st (up M k i v)) : J X B N ce sl pc lv (iv v :: iv i :: rv B k :: st) M := by
  obtain ⟨p, l, e, R, s, m, args, below, meth, c, D, cy, nL, Q⟩ := X
  intro H locs ls hW hS hls
  obtain ⟨hexec, hb, hml, hown, hts, hK, hLf, hLl, hEx⟩ := hX
  have hv : I32 v := ⟨by omega, by omega⟩
  refine W.bast hexec hb (cat_a h0 hk (hW.2.1 k.toNat (by omega))) ((hK.2 1 _ rfl).1 n _) (fun q => by cases q) (by rw [arrV_size]; exact i32_in hi0 hi1 hn) rfl rfl d fun H' e1 e2 e3 => ?_
  have en : narrow .byte (.int (Int32.ofInt v)) = .int (Int32.ofInt v) := by
    have h1 : (Int32.ofInt v).toInt8.toInt32 = Int32.ofInt v := by
      apply Int32.toInt_inj.mp
      rw [Int8.toInt_toInt32, Int32.toInt_toInt8, i32_int hv]
      exact Int.bmod_eq_of_le (by omega) (by omega)
    have h2 := vp_nar_byte (Int32.ofInt v)
    show narrow .byte (.int (Int32.ofInt v)) = _
    rw [← h1]
    exact pk_nb _
  rw [en] at e1
  exact kk H' _ ls (wd_ast hW h0 hk hi0 (by omega) (fun a b h => up_ne h) (fun _ _ _ => rfl) (fun a b h => by unfold up; dsimp only; split <;> assumption) (by show iv v = iv _; rw [up_eq]) e1 e2 e3) (hS.put e2 e3 (Nat.le_add_right _ _)) hls
theorem j_zast (hX : Cx X B L cc own) {k i v : Int} {n : Nat} (h0 : 0 ≤ k) (hN : k < N) (hk : kd k = .inr (2, n)) (hi0 : 0 ≤ i) (hi1 : i < n) (hn : (n : Int) ≤ 2147483647) (hv : v = 0 ∨ v = 1) (d : decode cc pc = .ok (.bastore, 1)) (kk : J X B N ce sl (pc + 1) lv st (up M k i v)) : J X B N ce sl pc lv (iv v :: iv i :: rv B k :: st) M := by
  obtain ⟨p, l, e, R, s, m, args, below, meth, c, D, cy, nL, Q⟩ := X
  intro H locs ls hW hS hls
  obtain ⟨hexec, hb, hml, hown, hts, hK, hLf, hLl, hEx⟩ := hX
  have hv2 : I32 v := ⟨by omega, by omega⟩
  refine W.zast hexec hb (cat_a h0 hk (hW.2.1 k.toNat (by omega))) ((hK.2 2 _ rfl).1 n _) (fun q => by cases q) (by rw [arrV_size]; exact i32_in hi0 hi1 hn) rfl rfl d fun H' e1 e2 e3 => ?_
  have en : narrow .boolean (.int (Int32.ofInt v)) = .int (Int32.ofInt v) := by
    rcases hv with h | h <;> subst h <;> rfl
  rw [en] at e1
  exact kk H' _ ls (wd_ast hW h0 hk hi0 (by omega) (fun a b h => up_ne h) (fun _ _ _ => rfl) (fun a b h => by unfold up; dsimp only; split <;> assumption) (by show iv v = iv _; rw [up_eq]) e1 e2 e3) (hS.put e2 e3 (Nat.le_add_right _ _)) hls
theorem j_last (hX : Cx X B L cc own) {k i : Int} {v : Int64} {n : Nat} (h0 : 0 ≤ k) (hN : k < N) (hk : kd k = .inr (3, n)) (hi0 : 0 ≤ i) (hi1 : i < n) (hn : (n : Int) ≤ 2147483647) (d : decode cc pc = .ok (.lastore, 1)) (kk : J X B N ce sl (pc + 1) lv st (upL M k i v)) : J X B N ce sl pc lv (.long v :: iv i :: rv B k :: st) M := by
  obtain ⟨p, l, e, R, s, m, args, below, meth, c, D, cy, nL, Q⟩ := X
  intro H locs ls hW hS hls
  obtain ⟨hexec, hb, hml, hown, hts, hK, hLf, hLl, hEx⟩ := hX
  refine W.last hexec hb (cat_a h0 hk (hW.2.1 k.toNat (by omega))) ((hK.2 3 _ rfl).1 n _) (fun q => by cases q) (by rw [arrV_size]; exact i32_in hi0 hi1 hn) rfl rfl d fun H' e1 e2 e3 => ?_
  exact kk H' _ ls (wd_ast hW h0 hk hi0 (by omega) (fun _ _ _ => rfl) (fun a b h => by simp [upL, h]) (fun a b h => h) (by show Value.long v = .long _; simp [upL]) e1 e2 e3) (hS.put e2 e3 (Nat.le_add_right _ _)) hls
theorem j_aast4 (hX : Cx X B L cc own) {k i z : Int} {n : Nat} (h0 : 0 ≤ k) (hN : k < N) (hk : kd k = .inr (4, n)) (hi0 : 0 ≤ i) (hi1 : i < n) (hn : (n : Int) ≤ 2147483647) (hz0 : 0 ≤ z) (hzN : z < N) (hz1 : z ≤ 2147483647) (hz : kd z = .inl 8) (d : decode cc pc = .ok (.aastore, 1)) (kk : J X B N ce sl (pc + 1) lv st (up M k i z)) : J X B N ce sl pc lv (rv B z :: iv i :: rv B k :: st) M := by
  obtain ⟨p, l, e, R, s, m, args, below, meth, c, D, cy, nL, Q⟩ := X
  intro H locs ls hW hS hls
  obtain ⟨hexec, hb, hml, hown, hts, hK, hLf, hLl, hEx⟩ := hX
  have hzz : I32 z := ⟨by omega, by omega⟩
  obtain ⟨r', hr', cellV, g1, g2, g3, -⟩ := cat_o hz0 hz (hW.2.1 z.toNat (by omega))
  have hcls := (hK.1 8 _ rfl).2
  obtain ⟨kA, comp, k1, k2, k3, -⟩ := (hK.2 4 _ rfl).2
  have hcomp : comp = D.1 8 := Option.some.inj (k3.symm.trans hcls.1)
  subst hcomp
  obtain ⟨kC, hkC, -⟩ := hcls.2
  have hin := i32_in hi0 hi1 hn
  refine W.aast hexec hb (cat_a h0 hk (hW.2.1 k.toNat (by omega))) (fun q h => by cases h) (fun h => by cases h) k1 k2 rfl hkC ⟨fun q => hin (Or.inl q), by rw [arrV_size]; exact Nat.not_le.mp fun q => hin (Or.inr q)⟩ g1 (fun q h => by rw [g3] at h; cases h) (by rw [g2]; exact hkC) (by rw [g2]; exact va_assign hcls) rfl rfl d fun H' e1 e2 e3 => ?_
  exact kk H' _ ls (wd_ast hW h0 hk hi0 (by omega) (fun a b h => up_ne h) (fun _ _ _ => rfl) (fun a b h => by unfold up; dsimp only; split <;> assumption) (by show Value.ref _ = nv B _; rw [up_eq, nv_pos hz0]; rfl) e1 e2 e3) (hS.put e2 e3 (Nat.le_add_right _ _)) hls
end JM
