theorem kn_all {s : State} {args : Array Value} (hts : ∀ w ∈ gw, w.before args s = true) (hao : (Cond.arrayOver (.object "OtherPanes$Scene")).before args s = true) (haa : (Cond.arrayOver (.array .int)).before args s = true) : ∃ (D : va_G) (cy : Nat → ClassId), va_K D cls (tysl cy) s := by
  obtain ⟨c0, i0, k0⟩ := u_known (T := TX0) (N := 3) hts hin_0 (hts _ (in_2 42 (by first | rfl | decide +kernel) rfl))
  obtain ⟨c1, i1, k1⟩ := u_known (T := TX1) (N := 1) hts hin_1 (hts _ (in_2 97 (by first | rfl | decide +kernel) rfl))
  obtain ⟨c2, i2, k2⟩ := u_known (T := TX2) (N := 6) hts hin_2 (hts _ (in_1 137 (by first | rfl | decide +kernel) rfl))
  obtain ⟨c3, i3, k3⟩ := u_known (T := TX3) (N := 9) hts hin_3 (hts _ (in_2 150 (by first | rfl | decide +kernel) rfl))
  obtain ⟨c4, i4, k4⟩ := u_known (T := TX4) (N := 2) hts hin_4 (hts _ (in_2 115 (by first | rfl | decide +kernel) rfl))
  obtain ⟨c5, i5, k5⟩ := u_known (T := TX5) (N := 5) hts hin_5 (hts _ (in_2 109 (by first | rfl | decide +kernel) rfl))
  obtain ⟨c6, i6, k6⟩ := u_known (T := TX6) (N := 20) hts hin_6 (hts _ (in_1 129 (by first | rfl | decide +kernel) rfl))
  obtain ⟨c7, i7, k7⟩ := u_known (T := TX7) (N := 5) hts hin_7 (hts _ (in_1 31 (by first | rfl | decide +kernel) rfl))
  obtain ⟨c8, i8, k8⟩ := u_known (T := TX8) (N := 6) hts hin_8 (hts _ (in_2 49 (by first | rfl | decide +kernel) rfl))
  obtain ⟨c9, i9, k9⟩ := u_known (T := TX9) (N := 8) hts hin_9 (hts _ (in_1 37 (by first | rfl | decide +kernel) rfl))
  obtain ⟨c10, i10, k10⟩ := u_known (T := TX10) (N := 12) hts hin_10 (hts _ (in_1 23 (by first | rfl | decide +kernel) rfl))
  obtain ⟨c11, i11, k11⟩ := u_known (T := TX11) (N := 68) hts hin_11 (hts _ (in_5 183 (by first | rfl | decide +kernel) rfl))
  obtain ⟨a0, ka0, co0, f0, g0, h0⟩ := Cond.arrayClass_spec (hts _ (in_1 163 (by first | rfl | decide +kernel) rfl))
  obtain ⟨a1, ka1, co1, f1, g1, h1⟩ := Cond.arrayClass_spec (hts _ (in_1 126 (by first | rfl | decide +kernel) rfl))
  obtain ⟨a2, ka2, co2, f2, g2, h2⟩ := Cond.arrayClass_spec (hts _ (in_6 169 (by first | rfl | decide +kernel) rfl))
  obtain ⟨a3, ka3, co3, f3, g3, h3⟩ := Cond.arrayClass_spec (hts _ (in_1 127 (by first | rfl | decide +kernel) rfl))
  obtain ⟨co4, a4, ka4, e4, -, g4, h4, f4⟩ := Cond.arrayOver_spec hao
  obtain ⟨co5, a5, ka5, e5, -, g5, h5, f5⟩ := arrayOverA_spec haa
  refine ⟨(fun c => match c with | 0 => c0 | 1 => c1 | 2 => c2 | 3 => c3 | 4 => c4 | 5 => c5 | 6 => c6 | 7 => c7 | 8 => c8 | 9 => c9 | 10 => c10 | _ => c11, fun c => match c with | 0 => i0 | 1 => i1 | 2 => i2 | 3 => i3 | 4 => i4 | 5 => i5 | 6 => i6 | 7 => i7 | 8 => i8 | 9 => i9 | 10 => i10 | _ => i11), fun t => match t with | 0 => a0 | 1 => a1 | 2 => a2 | 3 => a3 | 4 => a4 | _ => a5, fun c q hq => ?_, fun k q hk => ?_⟩
  · have hc : c < 12 := (List.getElem?_eq_some_iff.mp hq).1
    rcases (by omega : c = 0 ∨ c = 1 ∨ c = 2 ∨ c = 3 ∨ c = 4 ∨ c = 5 ∨ c = 6 ∨ c = 7 ∨ c = 8 ∨ c = 9 ∨ c = 10 ∨ c = 11) with h | h | h | h | h | h | h | h | h | h | h | h
    · subst h; cases hq; exact k0
    · subst h; cases hq; exact k1
    · subst h; cases hq; exact k2
    · subst h; cases hq; exact k3
    · subst h; cases hq; exact k4
    · subst h; cases hq; exact k5
    · subst h; cases hq; exact k6
    · subst h; cases hq; exact k7
    · subst h; cases hq; exact k8
    · subst h; cases hq; exact k9
    · subst h; cases hq; exact k10
    · subst h; cases hq; exact k11
  · have hc : k < 6 := (List.getElem?_eq_some_iff.mp hk).1
    rcases (by omega : k = 0 ∨ k = 1 ∨ k = 2 ∨ k = 3 ∨ k = 4 ∨ k = 5) with h | h | h | h | h | h
    · subst h; cases hk; exact ⟨fun n z => ⟨fun k h => (by cases h), ka0, g0, co0, h0⟩, f0⟩
    · subst h; cases hk; exact ⟨fun n z => ⟨fun k h => (by cases h), ka1, g1, co1, h1⟩, f1⟩
    · subst h; cases hk; exact ⟨fun n z => ⟨fun k h => (by cases h), ka2, g2, co2, h2⟩, f2⟩
    · subst h; cases hk; exact ⟨fun n z => ⟨fun k h => (by cases h), ka3, g3, co3, h3⟩, f3⟩
    · subst h; cases hk; exact ⟨fun n z => ⟨fun k h => (by cases h), ka4, g4, co4, h4⟩, ⟨ka4, co4, g4, h4, e4, f4⟩⟩
    · subst h; cases hk; exact ⟨fun n z => ⟨fun k h => (by cases h), ka5, g5, co5, h5⟩, f5⟩
