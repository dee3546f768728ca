def tmS (i : Nat) : Term := match i with
  | 0 => .string "OtherPanes$Tape" 39
  | _ => .string "OtherPanes$Tape" 73
set_option maxRecDepth 100000 in
theorem el_0 : ∀ j, j < 103 → Cond.eq (.elem (.field (.string "OtherPanes$Tape" 39) "java/lang/String" "value" "[B") (.int (Int32.ofNat j))) (.int ((sby.getD 0 []).getD j 0)) ∈ flatC (Jvm.Cond.and given_1 narrow_1) := by decide +kernel
set_option maxRecDepth 100000 in
theorem el_1 : ∀ j, j < 11 → Cond.eq (.elem (.field (.string "OtherPanes$Tape" 73) "java/lang/String" "value" "[B") (.int (Int32.ofNat j))) (.int ((sby.getD 1 []).getD j 0)) ∈ flatC (Jvm.Cond.and given_1 narrow_1) := by decide +kernel
set_option maxRecDepth 100000 in
theorem ex_start {s : State} {b : Nat} (hts : ∀ w ∈ lw_tbl, w.before #[Value.ref b] s = true) (hg : (Jvm.Cond.and given_1 narrow_1).before #[Value.ref b] s = true) : Ex s.heap.size s := by
  have hs := flat_of_before _ hg
  have hA : ∀ a : Nat, a < s.heap.size → ¬ (fun q => s.heap.size ≤ q) a := fun a h => Nat.not_le.mpr h
  obtain ⟨adK, adV, hS, hE⟩ := vk_Sof (args := #[Value.ref b]) (s := s) (N := 2) (tm := tmS) (len := sln) (byt := sby) (A := fun q => s.heap.size ≤ q) (by decide)
    (fun i hi => by rcases (by omega : i = 0 ∨ i = 1) with h | h <;> subst h <;> exact hs _ (by decide +kernel))
    (fun i hi => by rcases (by omega : i = 0 ∨ i = 1) with h | h <;> subst h <;> exact hs _ (by decide +kernel))
    (fun i hi => by rcases (by omega : i = 0 ∨ i = 1) with h | h <;> subst h <;> exact hs _ (by decide +kernel))
    (fun i hi => by rcases (by omega : i = 0 ∨ i = 1) with h | h <;> subst h <;> exact hs _ (by decide +kernel))
    (fun i hi j hj => by
      rcases (by omega : i = 0 ∨ i = 1) with h | h <;> subst h
      · exact hs _ (el_0 j hj)
      · exact hs _ (el_1 j hj))
    (fun i j hi hj hij => by
      rcases (by omega : (i = 0 ∧ j = 1) ∨ (i = 1 ∧ j = 0)) with ⟨h1, h2⟩ | ⟨h1, h2⟩ <;> subst h1 <;> subst h2
      · first | exact Or.inl (hs _ (by decide +kernel)) | exact Or.inr (hs _ (by decide +kernel))
      · first | exact Or.inl (hs _ (by decide +kernel)) | exact Or.inr (hs _ (by decide +kernel))) hA
  refine ⟨⟨adK, adV, hS, vk_R.of (hts _ (List.mem_of_getElem? (i := 150) (by decide +kernel))) (hE 0 (by decide)), vk_R.of (hts _ (List.mem_of_getElem? (i := 646) (by decide +kernel))) (hE 1 (by decide))⟩, va_Zof (hts _ (List.mem_of_getElem? (i := 160) (by decide +kernel))) (hts _ (List.mem_of_getElem? (i := 112) (by decide +kernel))) (va_eqt (hs _ (by decide +kernel))) hA, va_Zqof (hts _ (List.mem_of_getElem? (i := 176) (by decide +kernel))) (hts _ (List.mem_of_getElem? (i := 114) (by decide +kernel))) (hs _ (by decide +kernel)) hA, va_AO.of (hts _ (List.mem_of_getElem? (i := 396) (by decide +kernel))), ?_, ?_⟩
  · have h9 : (Cond.arrayOver (.array .int)).before #[Value.ref b] s = true := hts _ (List.mem_of_getElem? (i := 243) (by decide +kernel))
    exact h9
  · intro w hw
    simp only [nst, List.mem_cons, List.not_mem_nil, or_false] at hw
    rcases hw with e | e | e | e | e | e | e | e | e | e <;> subst e
    · exact va_Nw.of rfl (hts _ (List.mem_of_getElem? (i := 140) (by decide +kernel)))
    · exact va_Nw.of rfl (hts _ (List.mem_of_getElem? (i := 238) (by decide +kernel)))
    · exact va_Nw.of rfl (hts _ (List.mem_of_getElem? (i := 246) (by decide +kernel)))
    · exact va_Nw.of rfl (hts _ (List.mem_of_getElem? (i := 398) (by decide +kernel)))
    · exact va_Nw.of rfl (hts _ (List.mem_of_getElem? (i := 446) (by decide +kernel)))
    · exact va_Nw.of rfl (hts _ (List.mem_of_getElem? (i := 455) (by decide +kernel)))
    · exact va_Nw.of rfl (hts _ (List.mem_of_getElem? (i := 464) (by decide +kernel)))
    · exact va_Nw.of rfl (hts _ (List.mem_of_getElem? (i := 499) (by decide +kernel)))
    · exact va_Nw.of rfl (hts _ (List.mem_of_getElem? (i := 504) (by decide +kernel)))
    · exact va_Nw.of rfl (hts _ (List.mem_of_getElem? (i := 536) (by decide +kernel)))
