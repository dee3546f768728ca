theorem A0_dp {M M' : MM} (h : M.1 242 13 = 0 ∧ M.1 242 14 = 0) (e : ∀ a b, (a = 242 ∧ 13 ≤ b ∧ b ≤ 14) → M'.1 a b = M.1 a b) : M'.1 242 13 = 0 ∧ M'.1 242 14 = 0 := by
  rw [e 242 13 (by omega), e 242 14 (by omega)]
  exact h
theorem KA_f2 {w k lo hi : Int} {M M' : MM} (h : KA w k M) (hG : F2 lo hi M M') (hl : ¬ (lo ≤ k ∧ k < hi)) : KA w k M' := fun i p q => (hG k i hl).1.trans (h i p q)
set_option maxHeartbeats 2000000 in
set_option maxRecDepth 20000 in
theorem cv_X8_start (l : Launch) (D : va_G) (cy : Nat → ClassId) (B N : Nat) (s : Int) (q : Int) (nr : Int) (dw : Int) (M : MM) (hN : 210 ≤ N) (hI : Iv M) (hs : Sc s) (hq : q = 5 ∨ q = 180) (hnr : M.1 q 0 = nr) (hdw : M.1 q 16 = dw) (hVQ : VQ nr q M) (hnb : 0 ≤ nr ∧ nr ≤ 6) (hz0 : nr = 0) (hz16 : dw = -1) : CV l D cy B N 2 yX8_start cX8_start 4 none [rv B s, rv B q] M (fun M' => Iv M' ∧ Fr (fun a (_ : Int) => (s ≤ a ∧ a ≤ s + 2)) M M' ∧ (V nr s M') ∧ (KA 0 (s + 2) M') ∧ (M'.1 s 3 = 0 ∧ M'.1 s 4 = 0 ∧ M'.1 s 5 = 0)) := by
  refine mk_CV (by decide) (Nat.le_of_ble_eq_true rfl) ?_
  intro X exl exD excy hnL hX hret
  have hce : 0 + 0 ≤ (xR X).cells ∧ 0 + 0 ≤ (xR X).slots := ⟨Nat.zero_le _, Nat.zero_le _⟩
  have hbs := sc_b hs
  have hds : 28 ≤ s ∧ s ≤ 207 := by omega
  have hdq : 5 ≤ q ∧ q ≤ 180 := by omega
  have hF : Fr (fun a (_ : Int) => (s ≤ a ∧ a ≤ s + 2)) M M := Fr.rf
  have cp : ∀ n : Nat, (∀ (x2 : Int), ∀ (Mc : MM), I32 x2 → Iv Mc → Fr (fun a (_ : Int) => (s ≤ a ∧ a ≤ s + 2)) M Mc → Mc.1 q 0 = nr → Mc.1 q 16 = dw → VQ nr q Mc → (0 ≤ x2 ∧ x2 ≤ 6) → (Vp x2 nr s Mc) → (∀ i, 0 ≤ i → i < x2 → Mc.1 (s + 2) i = 0) → 0 ≤ 32 * (6 - x2) + 1 → 32 * (6 - x2) + 1 < (n : Int) → J X B N 0 0 2 [(0, rv B s), (1, rv B q), (2, iv x2)] [] Mc) := by
    intro n
    induction n with
    | zero => exact by intros; exfalso; omega
    | succ n ih =>
      · intro x2 Mc hxx2 hI hF hk_0 hk_1 hV_0 h2 h3 h9 hm0 hm1
        refine j_iload_n hX dX8_start_2 rfl 2 rfl ?_
        refine j_bipush hX dX8_start_3 rfl ?_
        refine j_icmp_ge (tgt := 68) hX dX8_start_5 (by decide) (by omega) (by omega) (fun hc1 => ?_) (fun hc1 => ?_)
        · skip
          have hka1 : KA 0 (s + 2) Mc := fun i p q => h9 i p (by omega)
          have hV2 : VR nr s Mc := Vp_full h3 (by omega)
          refine j_aload_n hX dX8_start_68 rfl 0 rfl ?_
          refine j_aload_n hX dX8_start_69 rfl 1 rfl ?_
          refine gf_X8_40 hX (by omega) (by omega) (kq hq) dX8_start_70 ?_
          refine j_name hI (rq_3 hq) (fun v3 hv4 hl5 hh6 => ?_)
          have hk7 := hv4.symm
          refine pf_X8_18 hX (by omega) (by omega) (sc_k0 hs) (by omega) dX8_start_73 ?_
          refine j_up hI (sc_r2 hs) (by omega) (by omega) (Or.inl (by omega)) (fun M8 w9 hw10 hM11 hI12 hf13 => ?_)
          have hV14 := VQ_up hV_0 hM11 (by omega)
          have hV15 := VR_up hV2 hM11 (by omega)
          have hk16 := kp_up hM11 (by omega) hk_0
          have hk17 := kp_up hM11 (by omega) hk_1
          have hk18 := kp_up hM11 (by omega) hk7
          clear hk7
          have hF19 := Fr.put hF hM11 (by omega)
          have hka2 := KA_up hka1 hM11 (by omega)
          refine j_aload_n hX dX8_start_76 rfl 0 rfl ?_
          refine j_iconst hX dX8_start_77 ?_
          refine pf_X8_22 hX (by omega) (by omega) (sc_k0 hs) (by omega) dX8_start_78 ?_
          refine j_up hI12 (sc_r3 hs) (by omega) (by omega) (Or.inl (by omega)) (fun M20 w21 hw22 hM23 hI24 hf25 => ?_)
          have hV26 := VQ_up hV14 hM23 (by omega)
          have hV27 := VR_up hV15 hM23 (by omega)
          have hk28 := kp_up hM23 (by omega) hk16
          have hk29 := kp_up hM23 (by omega) hk17
          have hk30 := kp_up hM23 (by omega) hk18
          have hk31 := kp_up hM23 (fun h => absurd h.2 (by decide)) hf13
          clear hk16 hk17 hk18 hf13
          have hF32 := Fr.put hF19 hM23 (by omega)
          have hka3 := KA_up hka2 hM23 (by omega)
          refine j_aload_n hX dX8_start_81 rfl 0 rfl ?_
          refine j_iconst hX dX8_start_82 ?_
          refine pf_X8_25 hX (by omega) (by omega) (sc_k0 hs) (by omega) dX8_start_83 ?_
          refine j_up hI24 (sc_r4 hs) (by omega) (by omega) (Or.inl (by omega)) (fun M33 w34 hw35 hM36 hI37 hf38 => ?_)
          have hV39 := VQ_up hV26 hM36 (by omega)
          have hV40 := VR_up hV27 hM36 (by omega)
          have hk41 := kp_up hM36 (by omega) hk28
          have hk42 := kp_up hM36 (by omega) hk29
          have hk43 := kp_up hM36 (by omega) hk30
          have hk44 := kp_up hM36 (fun h => absurd h.2 (by decide)) hk31
          have hk45 := kp_up hM36 (fun h => absurd h.2 (by decide)) hf25
          clear hk28 hk29 hk30 hk31 hf25
          have hF46 := Fr.put hF32 hM36 (by omega)
          have hka4 := KA_up hka3 hM36 (by omega)
          refine j_aload_n hX dX8_start_86 rfl 0 rfl ?_
          refine j_aload_n hX dX8_start_87 rfl 1 rfl ?_
          refine gf_X8_41 hX (by omega) (by omega) (kq hq) dX8_start_88 ?_
          refine j_top hk42 ?_
          refine j_iconst hX dX8_start_91 ?_
          refine j_mmax hX (in_2 197 (by first | rfl | decide +kernel) rfl) (by decide) hce (by omega) (by omega) (Nat.le_of_ble_eq_true rfl) dX8_start_92 (fun z47 hz48 => ?_)
          refine pf_X8_28 hX (by omega) (by omega) (sc_k0 hs) (by omega) dX8_start_95 ?_
          refine j_up hI37 (sc_r5 hs) (by omega) (by omega) (Or.inl (by omega)) (fun M49 w50 hw51 hM52 hI53 hf54 => ?_)
          have hV55 := VQ_up hV39 hM52 (by omega)
          have hV56 := VR_up hV40 hM52 (by omega)
          have hk57 := kp_up hM52 (by omega) hk41
          have hk58 := kp_up hM52 (by omega) hk42
          have hk59 := kp_up hM52 (by omega) hk43
          have hk60 := kp_up hM52 (fun h => absurd h.2 (by decide)) hk44
          have hk61 := kp_up hM52 (fun h => absurd h.2 (by decide)) hk45
          have hk62 := kp_up hM52 (fun h => absurd h.2 (by decide)) hf38
          clear hk41 hk42 hk43 hk44 hk45 hf38
          have hF63 := Fr.put hF46 hM52 (by omega)
          have hka5 := KA_up hka4 hM52 (by omega)
          exact hret _ _ _ dX8_start_98 ⟨hI53, hF63, ⟨by assumption, by omega⟩, hka5, ⟨by omega, by omega, by omega⟩⟩
        · skip
          refine j_iload_n hX dX8_start_8 rfl 2 rfl ?_
          refine j_aload_n hX dX8_start_9 rfl 1 rfl ?_
          refine gf_X8_31 hX (by omega) (by omega) (kq hq) dX8_start_10 ?_
          refine j_top hk_0 ?_
          refine j_icmp_ge (tgt := 20) hX dX8_start_13 (by decide) (by omega) (by omega) (fun hc64 => ?_) (fun hc64 => ?_)
          · skip
            refine j_iconst hX dX8_start_20 ?_
            refine j_istore_n (lv' := [(3, _), (0, _), (1, _), (2, _)]) hX dX8_start_21 rfl (by rw [hnL]; decide) rfl ?_
            refine j_aload_n hX dX8_start_22 rfl 1 rfl ?_
            refine gf_X8_9 hX (by omega) (by omega) (sc_k0 hs) (sc_f0 hI hs) (by omega) dX8_start_23 ?_
            refine j_iload_n hX dX8_start_26 rfl 3 rfl ?_
            refine j_iload_n hX dX8_start_27 rfl 0 rfl ?_
            refine j_if_eq (tgt := 40) hX dX8_start_28 (by decide) (by omega) (fun hc65 => ?_) (fun hc65 => ?_)
            · skip
              refine j_iconst hX dX8_start_40 ?_
              refine j_iast hX (by omega) (by omega) (sc_k1 hs) (by omega) (by omega) (by omega) (by omega) dX8_start_41 ?_
              refine j_up hI (sc_w hs _) (by omega) (by omega) (Or.inl (by omega)) (fun M66 w67 hw68 hM69 hI70 hf71 => ?_)
              have hV72 := VQ_up hV_0 hM69 (by omega)
              have hk73 := kp_up hM69 (by omega) hk_0
              have hk74 := kp_up hM69 (by omega) hk_1
              have hF75 := Fr.put hF hM69 (by omega)
              have hP1 := Vp_put h3 hM69 (by omega)
              have hz8 : ∀ i, 0 ≤ i → i < x2 → M66.1 (s + 2) i = 0 := fun i p q => by rw [hM69, up_ne (by omega)]; exact h9 i p q
              refine j_aload_n hX dX8_start_42 rfl 1 rfl ?_
              refine gf_X8_15 hX (by omega) (by omega) (sc_k0 hs) (sc_f1 hI70 hs) (by omega) dX8_start_43 ?_
              refine j_iload_n hX dX8_start_46 rfl 3 rfl ?_
              refine j_iload_n hX dX8_start_47 rfl 0 rfl ?_
              refine j_if_eq (tgt := 60) hX dX8_start_48 (by decide) (by omega) (fun hc76 => ?_) (fun hc76 => ?_)
              · skip
                refine j_iconst hX dX8_start_60 ?_
                refine j_iast hX (by omega) (by omega) (sc_k2 hs) (by omega) (by omega) (by omega) (by omega) dX8_start_61 ?_
                refine j_up hI70 (sc_n hs _) (by omega) (by omega) (Or.inl (by omega)) (fun M77 w78 hw79 hM80 hI81 hf82 => ?_)
                have hV83 := VQ_up hV72 hM80 (by omega)
                have hk84 := kp_up hM80 (by omega) hk73
                have hk85 := kp_up hM80 (by omega) hk74
                clear hk73 hk74
                have hF86 := Fr.put hF75 hM80 (by omega)
                have hP2 : Vp (x2 + 1) nr s M77 := Vp_keep hP1 (fun b => by rw [hM80]; exact up_ne (by omega))
                have hz9 : ∀ i, 0 ≤ i → i < x2 + 1 → M77.1 (s + 2) i = 0 := fun i p q => (Decidable.em (i = x2)).elim (fun c => by rw [hM80, c, up_eq]; exact hw79) (fun c => by rw [hM80, up_ne (fun q => c q.2)]; exact hz8 i p (by omega))
                refine j_iinc (lv' := [(2, _), (3, _), (0, _), (1, _)]) hX dX8_start_62 3 rfl (by rw [hnL]; decide) rfl ?_
                refine j_goto (tgt := 2) hX dX8_start_65 (by decide) ?_
                refine j_sub [2, 3, 0] rfl ?_
                exact ih _ _ (by omega) hI81 hF86 hk84 hk85 hV83 (by first | assumption | omega) (by first | exact Vp_0 | assumption) (by first | exact fun i p q => absurd q (by omega) | assumption) (by omega) (by omega)
              · exfalso; omega
            · exfalso; omega
          · exfalso; omega
  show J X B N 0 0 0 [(0, rv B s), (1, rv B q)] [] M
  refine j_iconst hX dX8_start_0 ?_
  refine j_istore_n (lv' := [(2, _), (0, _), (1, _)]) hX dX8_start_1 rfl (by rw [hnL]; decide) rfl ?_
  refine j_sub [1, 2, 0] rfl ?_
  refine (cp (Int.toNat (256 + 1))) _ _ (by omega) hI hF hnr hdw hVQ (by first | assumption | omega) (by first | exact Vp_0 | assumption) (by first | exact fun i p q => absurd q (by omega) | assumption) ?_ ?_
  · omega
  · omega
set_option maxHeartbeats 2000000 in
set_option maxRecDepth 20000 in
theorem cv_X0_restart (l : Launch) (D : va_G) (cy : Nat → ClassId) (B N : Nat) (q : Int) (nr : Int) (dw : Int) (M : MM) (hN : 210 ≤ N) (hI : Iv M) (hq : q = 5 ∨ q = 180) (hnr : M.1 q 0 = nr) (hdw : M.1 q 16 = dw) (hVQ : VQ nr q M) (hnb : 0 ≤ nr ∧ nr ≤ 6) (hz0 : nr = 0) (hz16 : dw = -1) (hN27 : M.1 27 0 = 28) : CV l D cy B N 3 yX0_restart cX0_restart 2 none [rv B 26, rv B q] M (fun M' => Iv M' ∧ Fr (fun a b => (a = 26 ∧ 1 ≤ b ∧ b ≤ 2) ∨ (28 ≤ a ∧ a ≤ 150)) M M' ∧ (M'.1 26 1 = 0 ∧ M'.1 26 2 = 0) ∧ (V nr (M'.1 27 0) M') ∧ (KA 0 30 M') ∧ (M'.1 28 3 = 0 ∧ M'.1 28 4 = 0 ∧ M'.1 28 5 = 0)) := by
  refine mk_CV (by decide) (Nat.le_of_ble_eq_true rfl) ?_
  intro X exl exD excy hnL hX hret
  have hce : 0 + 0 ≤ (xR X).cells ∧ 0 + 0 ≤ (xR X).slots := ⟨Nat.zero_le _, Nat.zero_le _⟩
  have hdq : 5 ≤ q ∧ q ≤ 180 := by omega
  have hF : Fr (fun a b => (a = 26 ∧ 1 ≤ b ∧ b ≤ 2) ∨ (28 ≤ a ∧ a ≤ 150)) M M := Fr.rf
  show J X B N 0 0 0 [(0, rv B 26), (1, rv B q)] [] M
  refine j_aload_n hX dX0_restart_0 rfl 0 rfl ?_
  refine j_iconst hX dX0_restart_1 ?_
  refine pf_X0_17 hX (by omega) (by omega) kc_26 (by omega) dX0_restart_2 ?_
  refine j_up hI ro_26_1 (by omega) (by omega) (Or.inl (by omega)) (fun M1 w2 hw3 hM4 hI5 hf6 => ?_)
  have hV7 := VQ_up hVQ hM4 (by omega)
  have hk8 := kp_up hM4 (by omega) hnr
  have hk9 := kp_up hM4 (by omega) hdw
  have hF10 := Fr.put hF hM4 ((Or.inl ⟨rfl, by decide, by decide⟩))
  refine j_aload_n hX dX0_restart_5 rfl 0 rfl ?_
  refine j_iconst hX dX0_restart_6 ?_
  refine pf_X0_21 hX (by omega) (by omega) kc_26 (by omega) dX0_restart_7 ?_
  refine j_up hI5 ro_26_2 (by omega) (by omega) (Or.inl (by omega)) (fun M11 w12 hw13 hM14 hI15 hf16 => ?_)
  have hV17 := VQ_up hV7 hM14 (by omega)
  have hk18 := kp_up hM14 (by omega) hk8
  have hk19 := kp_up hM14 (by omega) hk9
  have hk20 := kp_up hM14 (fun h => absurd h.2 (by decide)) hf6
  clear hk8 hk9 hf6
  have hF21 := Fr.put hF10 hM14 ((Or.inl ⟨rfl, by decide, by decide⟩))
  refine j_aload_n hX dX0_restart_10 rfl 0 rfl ?_
  refine gf_X0_11 hX (by omega) (by omega) kc_26 (fc_26_0 hI15) (by decide) dX0_restart_11 ?_
  refine j_iconst hX dX0_restart_14 ?_
  refine j_aald4n hX (by omega) (by omega) kc_27 (by omega) (by omega) (by decide) (hI15.2 _) dX0_restart_15 (fun so eso hso => ?_)
  have hbso := sc_b hso
  have hdso : 28 ≤ so ∧ so ≤ 207 := by omega
  have hrso := sc_27 hI15 eso
  have eso28 : so = 28 := by rw [eso, hF21 27 0 (by omega)]; exact hN27
  refine j_aload_n hX dX0_restart_16 rfl 1 rfl ?_
  refine j_callVV hX lk_X0_25 (cv_X8_start _ _ _ _ _ so q _ _ _ (by omega) hI15 hso hq hk18 hk19 (by first | assumption | omega) (by first | assumption | omega) (by first | assumption | omega) (by first | assumption | omega)) (by omega) hce rfl rfl (by omega) (by omega) (sc_k0 hso) rfl rfl (Nat.le_of_ble_eq_true rfl) dX0_restart_17 (fun M23 hp24 => ?_)
  obtain ⟨hI27, hG28, hq29, hq30, hq31⟩ := hp24
  have hV32 := VQ_fr hV17 hG28 (fun b => by omega)
  have hk33 := kp_fr hG28 (by omega) hk18
  have hk34 := kp_fr hG28 (by omega) hk19
  have hk35 := kp_fr hG28 (by omega) hk20
  have hk36 := kp_fr hG28 (by omega) hf16
  clear hk18 hk19 hk20 hf16
  have hF37 := Fr.trans hF21 hG28 (fun a b h => by omega)
  have h27 : M23.1 27 0 = so := by rw [hG28 _ _ (by omega)]; exact eso.symm
  have hkz := hq30
  have hkv := hq31
  exact hret _ _ _ dX0_restart_20 ⟨hI27, hF37, by first | assumption | omega, by rw [h27]; assumption, by rw [eso28] at hkz; exact hkz, by rw [eso28] at hkv; exact hkv⟩
set_option maxHeartbeats 2000000 in
set_option maxRecDepth 20000 in
theorem cv_X11_clearBank (l : Launch) (D : va_G) (cy : Nat → ClassId) (B N : Nat) (w : Int) (M : MM) (hN : 257 ≤ N) (hI : Iv M) (hw : M.1 210 41 = w) : CV l D cy B N 1 yX11_clearBank cX11_clearBank 1 none [rv B 210] M (fun M' => Iv M' ∧ Fr (fun a b => (a = 213 ∧ w ≤ b ∧ b ≤ w) ∨ (a = 214 ∧ w ≤ b ∧ b ≤ w) ∨ (a = 215 ∧ w ≤ b ∧ b ≤ w) ∨ (a = 216 ∧ w ≤ b ∧ b ≤ w) ∨ (a = 217 ∧ w ≤ b ∧ b ≤ w) ∨ (a = 218 ∧ w ≤ b ∧ b ≤ w) ∨ (a = 225 ∧ w ≤ b ∧ b ≤ w) ∨ (a = 231 ∧ w ≤ b ∧ b ≤ w) ∨ (a = 232 ∧ w ≤ b ∧ b ≤ w) ∨ (a = 233 ∧ w ≤ b ∧ b ≤ w) ∨ (a = 234 ∧ w ≤ b ∧ b ≤ w) ∨ (a = 210 ∧ 42 ≤ b ∧ b ≤ 42)) M M' ∧ (M'.1 213 w = 0 ∧ M'.1 231 w = 0 ∧ M'.1 232 w = 0 ∧ M'.1 210 42 = 560 * w) ∧ (M'.1 214 w = 0 ∧ M'.1 215 w = 0 ∧ M'.1 216 w = 0 ∧ M'.1 217 w = 0 ∧ M'.1 233 w = 0)) := by
  refine mk_CV (by decide) (Nat.le_of_ble_eq_true rfl) ?_
  intro X exl exD excy hnL hX hret
  have hce : 0 + 0 ≤ (xR X).cells ∧ 0 + 0 ≤ (xR X).slots := ⟨Nat.zero_le _, Nat.zero_le _⟩
  have hF : Fr (fun a b => (a = 213 ∧ w ≤ b ∧ b ≤ w) ∨ (a = 214 ∧ w ≤ b ∧ b ≤ w) ∨ (a = 215 ∧ w ≤ b ∧ b ≤ w) ∨ (a = 216 ∧ w ≤ b ∧ b ≤ w) ∨ (a = 217 ∧ w ≤ b ∧ b ≤ w) ∨ (a = 218 ∧ w ≤ b ∧ b ≤ w) ∨ (a = 225 ∧ w ≤ b ∧ b ≤ w) ∨ (a = 231 ∧ w ≤ b ∧ b ≤ w) ∨ (a = 232 ∧ w ≤ b ∧ b ≤ w) ∨ (a = 233 ∧ w ≤ b ∧ b ≤ w) ∨ (a = 234 ∧ w ≤ b ∧ b ≤ w) ∨ (a = 210 ∧ 42 ≤ b ∧ b ≤ 42)) M M := Fr.rf
  have hw2 : 0 ≤ w ∧ w ≤ 1 := by have := hI.at 210 41 ro_210_41; omega
  show J X B N 0 0 0 [(0, rv B 210)] [] M
  refine j_aload_n hX dX11_clearBank_0 rfl 0 rfl ?_
  refine gf_X11_20 hX (by omega) (by omega) kc_210 (fc_210_11 hI) (by decide) dX11_clearBank_1 ?_
  refine j_aload_n hX dX11_clearBank_4 rfl 0 rfl ?_
  refine gf_X11_270 hX (by omega) (by omega) kc_210 dX11_clearBank_5 ?_
  refine j_top hw ?_
  refine j_iconst hX dX11_clearBank_8 ?_
  refine j_iast hX (by omega) (by omega) kc_213 (by omega) (by omega) (by omega) (by omega) dX11_clearBank_9 ?_
  refine j_up hI (ra_213 _) (by omega) (by omega) (Or.inl (by omega)) (fun M1 w2 hw3 hM4 hI5 hf6 => ?_)
  have hk7 := kp_up hM4 (fun h => absurd h.1 (by decide)) hw
  have hF8 := Fr.put hF hM4 ((Or.inl ⟨rfl, by omega, by omega⟩))
  refine j_aload_n hX dX11_clearBank_10 rfl 0 rfl ?_
  refine gf_X11_24 hX (by omega) (by omega) kc_210 (fc_210_12 hI5) (by decide) dX11_clearBank_11 ?_
  refine j_aload_n hX dX11_clearBank_14 rfl 0 rfl ?_
  refine gf_X11_270 hX (by omega) (by omega) kc_210 dX11_clearBank_15 ?_
  refine j_top hk7 ?_
  refine j_iconst hX dX11_clearBank_18 ?_
  refine j_iast hX (by omega) (by omega) kc_214 (by omega) (by omega) (by omega) (by omega) dX11_clearBank_19 ?_
  refine j_up hI5 (ra_214 _) (by omega) (by omega) (Or.inl (by omega)) (fun M9 w10 hw11 hM12 hI13 hf14 => ?_)
  have hk15 := kp_up hM12 (fun h => absurd h.1 (by decide)) hk7
  have hk16 := kp_up hM12 (fun h => absurd h.1 (by decide)) hf6
  clear hk7 hf6
  have hF17 := Fr.put hF8 hM12 ((Or.inr (Or.inl ⟨rfl, by omega, by omega⟩)))
  refine j_aload_n hX dX11_clearBank_20 rfl 0 rfl ?_
  refine gf_X11_27 hX (by omega) (by omega) kc_210 (fc_210_13 hI13) (by decide) dX11_clearBank_21 ?_
  refine j_aload_n hX dX11_clearBank_24 rfl 0 rfl ?_
  refine gf_X11_270 hX (by omega) (by omega) kc_210 dX11_clearBank_25 ?_
  refine j_top hk15 ?_
  refine j_iconst hX dX11_clearBank_28 ?_
  refine j_iast hX (by omega) (by omega) kc_215 (by omega) (by omega) (by omega) (by omega) dX11_clearBank_29 ?_
  refine j_up hI13 (ra_215 _) (by omega) (by omega) (Or.inl (by omega)) (fun M18 w19 hw20 hM21 hI22 hf23 => ?_)
  have hk24 := kp_up hM21 (fun h => absurd h.1 (by decide)) hk15
  have hk25 := kp_up hM21 (fun h => absurd h.1 (by decide)) hk16
  have hk26 := kp_up hM21 (fun h => absurd h.1 (by decide)) hf14
  clear hk15 hk16 hf14
  have hF27 := Fr.put hF17 hM21 ((Or.inr (Or.inr (Or.inl ⟨rfl, by omega, by omega⟩))))
  refine j_aload_n hX dX11_clearBank_30 rfl 0 rfl ?_
  refine gf_X11_30 hX (by omega) (by omega) kc_210 (fc_210_14 hI22) (by decide) dX11_clearBank_31 ?_
  refine j_aload_n hX dX11_clearBank_34 rfl 0 rfl ?_
  refine gf_X11_270 hX (by omega) (by omega) kc_210 dX11_clearBank_35 ?_
  refine j_top hk24 ?_
  refine j_iconst hX dX11_clearBank_38 ?_
  refine j_iast hX (by omega) (by omega) kc_216 (by omega) (by omega) (by omega) (by omega) dX11_clearBank_39 ?_
  refine j_up hI22 (ra_216 _) (by omega) (by omega) (Or.inl (by omega)) (fun M28 w29 hw30 hM31 hI32 hf33 => ?_)
  have hk34 := kp_up hM31 (fun h => absurd h.1 (by decide)) hk24
  have hk35 := kp_up hM31 (fun h => absurd h.1 (by decide)) hk25
  have hk36 := kp_up hM31 (fun h => absurd h.1 (by decide)) hk26
  have hk37 := kp_up hM31 (fun h => absurd h.1 (by decide)) hf23
  clear hk24 hk25 hk26 hf23
  have hF38 := Fr.put hF27 hM31 ((Or.inr (Or.inr (Or.inr (Or.inl ⟨rfl, by omega, by omega⟩)))))
  refine j_aload_n hX dX11_clearBank_40 rfl 0 rfl ?_
  refine gf_X11_33 hX (by omega) (by omega) kc_210 (fc_210_15 hI32) (by decide) dX11_clearBank_41 ?_
  refine j_aload_n hX dX11_clearBank_44 rfl 0 rfl ?_
  refine gf_X11_270 hX (by omega) (by omega) kc_210 dX11_clearBank_45 ?_
  refine j_top hk34 ?_
  refine j_iconst hX dX11_clearBank_48 ?_
  refine j_iast hX (by omega) (by omega) kc_217 (by omega) (by omega) (by omega) (by omega) dX11_clearBank_49 ?_
  refine j_up hI32 (ra_217 _) (by omega) (by omega) (Or.inl (by omega)) (fun M39 w40 hw41 hM42 hI43 hf44 => ?_)
  have hk45 := kp_up hM42 (fun h => absurd h.1 (by decide)) hk34
  have hk46 := kp_up hM42 (fun h => absurd h.1 (by decide)) hk35
  have hk47 := kp_up hM42 (fun h => absurd h.1 (by decide)) hk36
  have hk48 := kp_up hM42 (fun h => absurd h.1 (by decide)) hk37
  have hk49 := kp_up hM42 (fun h => absurd h.1 (by decide)) hf33
  clear hk34 hk35 hk36 hk37 hf33
  have hF50 := Fr.put hF38 hM42 ((Or.inr (Or.inr (Or.inr (Or.inr (Or.inl ⟨rfl, by omega, by omega⟩))))))
  refine j_aload_n hX dX11_clearBank_50 rfl 0 rfl ?_
  refine gf_X11_36 hX (by omega) (by omega) kc_210 (fc_210_16 hI43) (by decide) dX11_clearBank_51 ?_
  refine j_aload_n hX dX11_clearBank_54 rfl 0 rfl ?_
  refine gf_X11_270 hX (by omega) (by omega) kc_210 dX11_clearBank_55 ?_
  refine j_top hk45 ?_
  refine j_iconst hX dX11_clearBank_58 ?_
  refine j_iast hX (by omega) (by omega) kc_218 (by omega) (by omega) (by omega) (by omega) dX11_clearBank_59 ?_
  refine j_up hI43 (ra_218 _) (by omega) (by omega) (Or.inl (by omega)) (fun M51 w52 hw53 hM54 hI55 hf56 => ?_)
  have hk57 := kp_up hM54 (fun h => absurd h.1 (by decide)) hk45
  have hk58 := kp_up hM54 (fun h => absurd h.1 (by decide)) hk46
  have hk59 := kp_up hM54 (fun h => absurd h.1 (by decide)) hk47
  have hk60 := kp_up hM54 (fun h => absurd h.1 (by decide)) hk48
  have hk61 := kp_up hM54 (fun h => absurd h.1 (by decide)) hk49
  have hk62 := kp_up hM54 (fun h => absurd h.1 (by decide)) hf44
  clear hk45 hk46 hk47 hk48 hk49 hf44
  have hF63 := Fr.put hF50 hM54 ((Or.inr (Or.inr (Or.inr (Or.inr (Or.inr (Or.inl ⟨rfl, by omega, by omega⟩)))))))
  refine j_aload_n hX dX11_clearBank_60 rfl 0 rfl ?_
  refine gf_X11_57 hX (by omega) (by omega) kc_210 (fc_210_23 hI55) (by decide) dX11_clearBank_61 ?_
  refine j_aload_n hX dX11_clearBank_64 rfl 0 rfl ?_
  refine gf_X11_270 hX (by omega) (by omega) kc_210 dX11_clearBank_65 ?_
  refine j_top hk57 ?_
  refine j_iconst hX dX11_clearBank_68 ?_
  refine j_iast hX (by omega) (by omega) kc_225 (by omega) (by omega) (by omega) (by omega) dX11_clearBank_69 ?_
  refine j_up hI55 (ra_225 _) (by omega) (by omega) (Or.inl (by omega)) (fun M64 w65 hw66 hM67 hI68 hf69 => ?_)
  have hk70 := kp_up hM67 (fun h => absurd h.1 (by decide)) hk57
  have hk71 := kp_up hM67 (fun h => absurd h.1 (by decide)) hk58
  have hk72 := kp_up hM67 (fun h => absurd h.1 (by decide)) hk59
  have hk73 := kp_up hM67 (fun h => absurd h.1 (by decide)) hk60
  have hk74 := kp_up hM67 (fun h => absurd h.1 (by decide)) hk61
  have hk75 := kp_up hM67 (fun h => absurd h.1 (by decide)) hk62
  clear hk57 hk58 hk59 hk60 hk61 hk62
  have hF76 := Fr.put hF63 hM67 ((Or.inr (Or.inr (Or.inr (Or.inr (Or.inr (Or.inr (Or.inl ⟨rfl, by omega, by omega⟩))))))))
  refine j_aload_n hX dX11_clearBank_70 rfl 0 rfl ?_
  refine gf_X11_75 hX (by omega) (by omega) kc_210 (fc_210_29 hI68) (by decide) dX11_clearBank_71 ?_
  refine j_aload_n hX dX11_clearBank_74 rfl 0 rfl ?_
  refine gf_X11_270 hX (by omega) (by omega) kc_210 dX11_clearBank_75 ?_
  refine j_top hk70 ?_
  refine j_iconst hX dX11_clearBank_78 ?_
  refine j_zast hX (by omega) (by omega) kc_231 (by omega) (by omega) (by omega) (by omega) dX11_clearBank_79 ?_
  refine j_up hI68 (ra_231 _) (by omega) (by omega) (Or.inl (by omega)) (fun M77 w78 hw79 hM80 hI81 hf82 => ?_)
  have hk83 := kp_up hM80 (fun h => absurd h.1 (by decide)) hk70
  have hk84 := kp_up hM80 (fun h => absurd h.1 (by decide)) hk71
  have hk85 := kp_up hM80 (fun h => absurd h.1 (by decide)) hk72
  have hk86 := kp_up hM80 (fun h => absurd h.1 (by decide)) hk73
  have hk87 := kp_up hM80 (fun h => absurd h.1 (by decide)) hk74
  have hk88 := kp_up hM80 (fun h => absurd h.1 (by decide)) hk75
  clear hk70 hk71 hk72 hk73 hk74 hk75
  have hF89 := Fr.put hF76 hM80 ((Or.inr (Or.inr (Or.inr (Or.inr (Or.inr (Or.inr (Or.inr (Or.inl ⟨rfl, by omega, by omega⟩)))))))))
  refine j_aload_n hX dX11_clearBank_80 rfl 0 rfl ?_
  refine gf_X11_79 hX (by omega) (by omega) kc_210 (fc_210_30 hI81) (by decide) dX11_clearBank_81 ?_
  refine j_aload_n hX dX11_clearBank_84 rfl 0 rfl ?_
  refine gf_X11_270 hX (by omega) (by omega) kc_210 dX11_clearBank_85 ?_
  refine j_top hk83 ?_
  refine j_iconst hX dX11_clearBank_88 ?_
  refine j_zast hX (by omega) (by omega) kc_232 (by omega) (by omega) (by omega) (by omega) dX11_clearBank_89 ?_
  refine j_up hI81 (ra_232 _) (by omega) (by omega) (Or.inl (by omega)) (fun M90 w91 hw92 hM93 hI94 hf95 => ?_)
  have hk96 := kp_up hM93 (fun h => absurd h.1 (by decide)) hk83
  have hk97 := kp_up hM93 (fun h => absurd h.1 (by decide)) hk84
  have hk98 := kp_up hM93 (fun h => absurd h.1 (by decide)) hk85
  have hk99 := kp_up hM93 (fun h => absurd h.1 (by decide)) hk86
  have hk100 := kp_up hM93 (fun h => absurd h.1 (by decide)) hk87
  have hk101 := kp_up hM93 (fun h => absurd h.1 (by decide)) hk88
  have hk102 := kp_up hM93 (fun h => absurd h.1 (by decide)) hf82
  clear hk83 hk84 hk85 hk86 hk87 hk88 hf82
  have hF103 := Fr.put hF89 hM93 ((Or.inr (Or.inr (Or.inr (Or.inr (Or.inr (Or.inr (Or.inr (Or.inr (Or.inl ⟨rfl, by omega, by omega⟩))))))))))
  refine j_aload_n hX dX11_clearBank_90 rfl 0 rfl ?_
  refine gf_X11_82 hX (by omega) (by omega) kc_210 (fc_210_31 hI94) (by decide) dX11_clearBank_91 ?_
  refine j_aload_n hX dX11_clearBank_94 rfl 0 rfl ?_
  refine gf_X11_270 hX (by omega) (by omega) kc_210 dX11_clearBank_95 ?_
  refine j_top hk96 ?_
  refine j_iconst hX dX11_clearBank_98 ?_
  refine j_zast hX (by omega) (by omega) kc_233 (by omega) (by omega) (by omega) (by omega) dX11_clearBank_99 ?_
  refine j_up hI94 (ra_233 _) (by omega) (by omega) (Or.inl (by omega)) (fun M104 w105 hw106 hM107 hI108 hf109 => ?_)
  have hk110 := kp_up hM107 (fun h => absurd h.1 (by decide)) hk96
  have hk111 := kp_up hM107 (fun h => absurd h.1 (by decide)) hk97
  have hk112 := kp_up hM107 (fun h => absurd h.1 (by decide)) hk98
  have hk113 := kp_up hM107 (fun h => absurd h.1 (by decide)) hk99
  have hk114 := kp_up hM107 (fun h => absurd h.1 (by decide)) hk100
  have hk115 := kp_up hM107 (fun h => absurd h.1 (by decide)) hk101
  have hk116 := kp_up hM107 (fun h => absurd h.1 (by decide)) hk102
  have hk117 := kp_up hM107 (fun h => absurd h.1 (by decide)) hf95
  clear hk96 hk97 hk98 hk99 hk100 hk101 hk102 hf95
  have hF118 := Fr.put hF103 hM107 ((Or.inr (Or.inr (Or.inr (Or.inr (Or.inr (Or.inr (Or.inr (Or.inr (Or.inr (Or.inl ⟨rfl, by omega, by omega⟩)))))))))))
  refine j_aload_n hX dX11_clearBank_100 rfl 0 rfl ?_
  refine gf_X11_85 hX (by omega) (by omega) kc_210 (fc_210_32 hI108) (by decide) dX11_clearBank_101 ?_
  refine j_aload_n hX dX11_clearBank_104 rfl 0 rfl ?_
  refine gf_X11_270 hX (by omega) (by omega) kc_210 dX11_clearBank_105 ?_
  refine j_top hk110 ?_
  refine j_iconst hX dX11_clearBank_108 ?_
  refine j_zast hX (by omega) (by omega) kc_234 (by omega) (by omega) (by omega) (by omega) dX11_clearBank_109 ?_
  refine j_up hI108 (ra_234 _) (by omega) (by omega) (Or.inl (by omega)) (fun M119 w120 hw121 hM122 hI123 hf124 => ?_)
  have hk125 := kp_up hM122 (fun h => absurd h.1 (by decide)) hk110
  have hk126 := kp_up hM122 (fun h => absurd h.1 (by decide)) hk111
  have hk127 := kp_up hM122 (fun h => absurd h.1 (by decide)) hk112
  have hk128 := kp_up hM122 (fun h => absurd h.1 (by decide)) hk113
  have hk129 := kp_up hM122 (fun h => absurd h.1 (by decide)) hk114
  have hk130 := kp_up hM122 (fun h => absurd h.1 (by decide)) hk115
  have hk131 := kp_up hM122 (fun h => absurd h.1 (by decide)) hk116
  have hk132 := kp_up hM122 (fun h => absurd h.1 (by decide)) hk117
  have hk133 := kp_up hM122 (fun h => absurd h.1 (by decide)) hf109
  clear hk110 hk111 hk112 hk113 hk114 hk115 hk116 hk117 hf109
  have hF134 := Fr.put hF118 hM122 ((Or.inr (Or.inr (Or.inr (Or.inr (Or.inr (Or.inr (Or.inr (Or.inr (Or.inr (Or.inr (Or.inl ⟨rfl, by omega, by omega⟩))))))))))))
  refine j_aload_n hX dX11_clearBank_110 rfl 0 rfl ?_
  refine j_sipush hX dX11_clearBank_111 rfl ?_
  refine j_aload_n hX dX11_clearBank_114 rfl 0 rfl ?_
  refine gf_X11_270 hX (by omega) (by omega) kc_210 dX11_clearBank_115 ?_
  refine j_top hk125 ?_
  refine j_imul hX dX11_clearBank_118 ?_
  refine pf_X11_273 hX (by omega) (by omega) kc_210 (by omega) dX11_clearBank_119 ?_
  refine j_up hI123 ro_210_42 (by omega) (by omega) (Or.inl (by omega)) (fun M135 w136 hw137 hM138 hI139 hf140 => ?_)
  have hk141 := kp_up hM138 (fun h => absurd h.2 (by decide)) hk125
  have hk142 := kp_up hM138 (fun h => absurd h.1 (by decide)) hk126
  have hk143 := kp_up hM138 (fun h => absurd h.1 (by decide)) hk127
  have hk144 := kp_up hM138 (fun h => absurd h.1 (by decide)) hk128
  have hk145 := kp_up hM138 (fun h => absurd h.1 (by decide)) hk129
  have hk146 := kp_up hM138 (fun h => absurd h.1 (by decide)) hk130
  have hk147 := kp_up hM138 (fun h => absurd h.1 (by decide)) hk131
  have hk148 := kp_up hM138 (fun h => absurd h.1 (by decide)) hk132
  have hk149 := kp_up hM138 (fun h => absurd h.1 (by decide)) hk133
  clear hk125 hk126 hk127 hk128 hk129 hk130 hk131 hk132 hk133
  have hF150 := Fr.put hF134 hM138 ((Or.inr (Or.inr (Or.inr (Or.inr (Or.inr (Or.inr (Or.inr (Or.inr (Or.inr (Or.inr (Or.inr ⟨rfl, by decide, by decide⟩))))))))))))
  exact hret _ _ _ dX11_clearBank_122 ⟨hI139, hF150, by first | assumption | omega, by first | assumption | omega⟩
set_option maxHeartbeats 2000000 in
set_option maxRecDepth 20000 in
theorem cv_X11_startAnew (l : Launch) (D : va_G) (cy : Nat → ClassId) (B N : Nat) (bk : Int) (nr : Int) (dr : Int) (M : MM) (hN : 257 ≤ N) (hI : Iv M) (hbk : M.1 210 40 = bk) (hnr : M.1 213 bk = nr) (hk_dr : M.1 217 bk = dr) (hLT : M.1 231 bk = 1 → LQ nr 222 (6 * bk) M) (hz0 : nr = 0) (hz_dr : dr = 0) : CV l D cy B N 2 yX11_startAnew cX11_startAnew 2 none [rv B 210] M (fun M' => Iv M' ∧ Fr (fun a b => (a = 242) ∨ (a = 247) ∨ (a = 210 ∧ 50 ≤ b ∧ b ≤ 54) ∨ (a = 210 ∧ 63 ≤ b ∧ b ≤ 63) ∨ (a = 256)) M M' ∧ (RS nr M') ∧ (BX nr M') ∧ (M'.1 242 13 = 0 ∧ M'.1 242 14 = 0) ∧ (M'.1 242 15 = 0) ∧ (M'.1 210 50 = 0 ∧ M'.1 210 51 = 0 ∧ M'.1 210 63 = 0 ∧ M'.1 210 54 = 0) ∧ (∀ k, 0 ≤ k → k < 3 → M'.1 256 k = 0)) := by
  refine mk_CV (by decide) (Nat.le_of_ble_eq_true rfl) ?_
  intro X exl exD excy hnL hX hret
  have hce : 0 + 0 ≤ (xR X).cells ∧ 0 + 0 ≤ (xR X).slots := ⟨Nat.zero_le _, Nat.zero_le _⟩
  have hF : Fr (fun a b => (a = 242) ∨ (a = 247) ∨ (a = 210 ∧ 50 ≤ b ∧ b ≤ 54) ∨ (a = 210 ∧ 63 ≤ b ∧ b ≤ 63) ∨ (a = 256)) M M := Fr.rf
  have hbk2 : 0 ≤ bk ∧ bk ≤ 1 := by have := hI.at 210 40 ro_210_40; omega
  have hnr2 : 0 ≤ nr ∧ nr ≤ 6 := by have := hI.at 213 bk (ra_213 _); omega
  have hl2 := hI.at 231 bk (ra_231 _)
  have cp : ∀ n : Nat, (∀ (x1 : Int), ∀ (Mc : MM), I32 x1 → Iv Mc → Fr (fun a b => (a = 242) ∨ (a = 247) ∨ (a = 210 ∧ 50 ≤ b ∧ b ≤ 54) ∨ (a = 210 ∧ 63 ≤ b ∧ b ≤ 63) ∨ (a = 256)) M Mc → Mc.1 210 40 = bk → Mc.1 213 bk = nr → Mc.1 217 bk = dr → (0 ≤ x1 ∧ x1 ≤ 16) → (∀ i, 0 ≤ i → i < x1 → Mc.1 242 i = 0) → 0 ≤ 32 * (1000 + 16 - x1) + 4 → 32 * (1000 + 16 - x1) + 4 < (n : Int) → J X B N 0 0 2 [(0, rv B 210), (1, iv x1)] [] Mc) ∧ (∀ (x1 : Int), ∀ (Mc : MM), I32 x1 → Iv Mc → Fr (fun a b => (a = 242) ∨ (a = 247) ∨ (a = 210 ∧ 50 ≤ b ∧ b ≤ 54) ∨ (a = 210 ∧ 63 ≤ b ∧ b ≤ 63) ∨ (a = 256)) M Mc → Mc.1 210 40 = bk → Mc.1 213 bk = nr → Mc.1 217 bk = dr → (0 ≤ x1 ∧ x1 ≤ 6) → (SA M Mc bk nr x1) → (∀ i, 0 ≤ i → i < 16 → Mc.1 242 i = 0) → 0 ≤ 32 * (500 + 6 - x1) + 3 → 32 * (500 + 6 - x1) + 3 < (n : Int) → J X B N 0 0 23 [(0, rv B 210), (1, iv x1)] [] Mc) ∧ (∀ (x1 : Int), ∀ (a5 : Int), ∀ (Mc : MM), I32 x1 → Iv Mc → Fr (fun a b => (a = 242) ∨ (a = 247) ∨ (a = 210 ∧ 50 ≤ b ∧ b ≤ 54) ∨ (a = 210 ∧ 63 ≤ b ∧ b ≤ 63) ∨ (a = 256)) M Mc → Mc.1 210 40 = bk → Mc.1 213 bk = nr → Mc.1 242 15 = a5 → LQ nr 242 0 Mc → Mc.1 242 13 = 0 ∧ Mc.1 242 14 = 0 → (0 ≤ x1 ∧ x1 ≤ 6) → (a5 = 0) → 0 ≤ 32 * (100 + 6 - x1) + 2 → 32 * (100 + 6 - x1) + 2 < (n : Int) → J X B N 0 0 130 [(0, rv B 210), (1, iv x1)] [] Mc) ∧ (∀ (x1 : Int), ∀ (k0 k1 a5 k2 k3 : Int), ∀ (Mc : MM), I32 x1 → Iv Mc → Fr (fun a b => (a = 242) ∨ (a = 247) ∨ (a = 210 ∧ 50 ≤ b ∧ b ≤ 54) ∨ (a = 210 ∧ 63 ≤ b ∧ b ≤ 63) ∨ (a = 256)) M Mc → Mc.1 210 40 = bk → Mc.1 210 50 = k0 → Mc.1 210 51 = k1 → Mc.1 213 bk = nr → Mc.1 242 15 = a5 → Mc.1 210 63 = k2 → Mc.1 210 54 = k3 → LQ nr 242 0 Mc → Mc.1 242 13 = 0 ∧ Mc.1 242 14 = 0 → (0 ≤ x1 ∧ x1 ≤ 3 ∧ k0 = 0 ∧ k1 = 0) → (∀ k, 0 ≤ k → k < x1 → Mc.1 256 k = 0) → (a5 = 0 ∧ k2 = 0 ∧ k3 = 0) → 0 ≤ 32 * (3 - x1) + 1 → 32 * (3 - x1) + 1 < (n : Int) → J X B N 0 0 171 [(0, rv B 210), (1, iv x1)] [] Mc) := by
    intro n
    induction n with
    | zero => exact ⟨by intros; exfalso; omega, by intros; exfalso; omega, by intros; exfalso; omega, by intros; exfalso; omega⟩
    | succ n ih =>
      refine ⟨?_, ?_, ?_, ?_⟩
      · intro x1 Mc hxx1 hI hF hk_0 hk_1 hk_2 h2 h9 hm0 hm1
        refine j_iload_n hX dX11_startAnew_2 rfl 1 rfl ?_
        refine j_bipush hX dX11_startAnew_3 rfl ?_
        refine j_icmp_ge (tgt := 21) hX dX11_startAnew_5 (by decide) (by omega) (by omega) (fun hc1 => ?_) (fun hc1 => ?_)
        · skip
          refine j_iconst hX dX11_startAnew_21 ?_
          refine j_istore_n (lv' := [(1, _), (0, _)]) hX dX11_startAnew_22 rfl (by rw [hnL]; decide) rfl ?_
          refine j_sub [1, 0] rfl ?_
          exact ih.2.1 _ _ (by omega) hI hF hk_0 hk_1 hk_2 (by first | assumption | omega) (by first | exact SA_0 | assumption) (by first | exact fun i p q => absurd q (by omega) | assumption | exact fun i p q => h9 i p (by omega)) (by omega) (by omega)
        · skip
          refine j_aload_n hX dX11_startAnew_8 rfl 0 rfl ?_
          refine gf_X11_110 hX (by omega) (by omega) kc_210 (fc_210_47 hI) (by decide) dX11_startAnew_9 ?_
          refine j_iload_n hX dX11_startAnew_12 rfl 1 rfl ?_
          have hr0 := rA0 x1
          refine j_iconst hX dX11_startAnew_13 ?_
          refine j_iast hX (by omega) (by omega) kc_242 (by omega) (by omega) (by omega) (by omega) dX11_startAnew_14 ?_
          refine j_up hI (rpx_242 _) (by omega) (by omega) (Or.inl (by omega)) (fun M2 w3 hw4 hM5 hI6 hf7 => ?_)
          have hk8 := kp_up hM5 (fun h => absurd h.1 (by decide)) hk_0
          have hk9 := kp_up hM5 (fun h => absurd h.1 (by decide)) hk_1
          have hk10 := kp_up hM5 (fun h => absurd h.1 (by decide)) hk_2
          have hF11 := Fr.put hF hM5 ((Or.inl rfl))
          have hz9 : ∀ i, 0 ≤ i → i < x1 + 1 → M2.1 242 i = 0 := fun i p q => (Decidable.em (i = x1)).elim (fun c => by rw [hM5, c, up_eq]; exact hw4) (fun c => by rw [hM5, up_ne (fun q => c q.2)]; exact h9 i p (by omega))
          refine j_iinc (lv' := [(1, _), (0, _)]) hX dX11_startAnew_15 1 rfl (by rw [hnL]; decide) rfl ?_
          refine j_goto (tgt := 2) hX dX11_startAnew_18 (by decide) ?_
          refine j_sub [1, 0] rfl ?_
          exact ih.1 _ _ (by omega) hI6 hF11 hk8 hk9 hk10 (by first | assumption | omega) (by first | exact fun i p q => absurd q (by omega) | assumption | exact fun i p q => h9 i p (by omega)) (by omega) (by omega)
      · intro x1 Mc hxx1 hI hF hk_0 hk_1 hk_2 h2 h3 h9 hm0 hm1
        refine j_iload_n hX dX11_startAnew_23 rfl 1 rfl ?_
        refine j_aload_n hX dX11_startAnew_24 rfl 0 rfl ?_
        refine j_callVI hX lk_X11_385 (cv_X11_many _ _ _ _ _ _ _ _ (by omega) hI hk_0 hk_1 (by first | assumption | omega)) (by omega) hce rfl rfl (by omega) (by omega) kc_210 rfl rfl (Nat.le_of_ble_eq_true rfl) dX11_startAnew_25 (fun z12 M13 hz15 hp14 => ?_)
        obtain ⟨hE16, hq17, hq18⟩ := hp14
        replace hE16 := hE16.symm
        subst hE16
        refine j_icmp_ge (tgt := 96) hX dX11_startAnew_28 (by decide) (by omega) (by omega) (fun hc19 => ?_) (fun hc19 => ?_)
        · skip
          have hV20 := SA_end hLT h3 (by omega) hl2 hnr2
          have hV21 := And.intro (h9 13 (by omega) (by omega)) (h9 14 (by omega) (by omega))
          refine j_aload_n hX dX11_startAnew_96 rfl 0 rfl ?_
          refine gf_X11_110 hX (by omega) (by omega) kc_210 (fc_210_47 hI) (by decide) dX11_startAnew_97 ?_
          refine j_bipush hX dX11_startAnew_100 rfl ?_
          refine j_aload_n hX dX11_startAnew_102 rfl 0 rfl ?_
          refine gf_X11_36 hX (by omega) (by omega) kc_210 (fc_210_16 hI) (by decide) dX11_startAnew_103 ?_
          refine j_aload_n hX dX11_startAnew_106 rfl 0 rfl ?_
          refine gf_X11_279 hX (by omega) (by omega) kc_210 dX11_startAnew_107 ?_
          refine j_top hk_0 ?_
          refine j_iald hX (by omega) (by omega) kc_218 (by omega) (by omega) (by omega) dX11_startAnew_110 ?_
          refine j_name hI (ra_218 _) (fun v22 hv23 hl24 hh25 => ?_)
          refine j_iast hX (by omega) (by omega) kc_242 (by omega) (by omega) (by omega) (by omega) dX11_startAnew_111 ?_
          refine j_up hI ro_242_6 (by omega) (by omega) (Or.inl (by omega)) (fun M26 w27 hw28 hM29 hI30 hf31 => ?_)
          have hV32 := LQ_dp (M' := M26) hV20 (fun a b h => by rw [hM29]; exact up_ne (by omega))
          have hV33 := A0_dp (M' := M26) hV21 (fun a b h => by rw [hM29]; exact up_ne (by omega))
          have hk34 := kp_up hM29 (by decide) hk_0
          have hk35 := kp_up hM29 (fun h => absurd h.1 (by decide)) hk_1
          have hk36 := kp_up hM29 (fun h => absurd h.1 (by decide)) hk_2
          have hF37 := Fr.put hF hM29 ((Or.inl rfl))
          refine j_aload_n hX dX11_startAnew_112 rfl 0 rfl ?_
          refine gf_X11_110 hX (by omega) (by omega) kc_210 (fc_210_47 hI30) (by decide) dX11_startAnew_113 ?_
          refine j_bipush hX dX11_startAnew_116 rfl ?_
          refine j_aload_n hX dX11_startAnew_118 rfl 0 rfl ?_
          refine gf_X11_33 hX (by omega) (by omega) kc_210 (fc_210_15 hI30) (by decide) dX11_startAnew_119 ?_
          refine j_aload_n hX dX11_startAnew_122 rfl 0 rfl ?_
          refine gf_X11_279 hX (by omega) (by omega) kc_210 dX11_startAnew_123 ?_
          refine j_top hk34 ?_
          refine j_iald hX (by omega) (by omega) kc_217 (by omega) (by omega) (by omega) dX11_startAnew_126 ?_
          refine j_top hk36 ?_
          refine j_iast hX (by omega) (by omega) kc_242 (by omega) (by omega) (by omega) (by omega) dX11_startAnew_127 ?_
          refine j_up hI30 ro_242_15 (by omega) (by omega) (Or.inl (by omega)) (fun M38 w39 hw40 hM41 hI42 hf43 => ?_)
          have hV44 := LQ_dp (M' := M38) hV32 (fun a b h => by rw [hM41]; exact up_ne (by omega))
          have hV45 := A0_dp (M' := M38) hV33 (fun a b h => by rw [hM41]; exact up_ne (by omega))
          have hk46 := kp_up hM41 (by decide) hk34
          have hk47 := kp_up hM41 (fun h => absurd h.1 (by decide)) hk35
          have hk48 := kp_up hM41 (fun h => absurd h.1 (by decide)) hk36
          have hk49 := kp_up hM41 (fun h => absurd h.2 (by decide)) hf31
          clear hk34 hk35 hk36 hf31
          have hF50 := Fr.put hF37 hM41 ((Or.inl rfl))
          refine j_iconst hX dX11_startAnew_128 ?_
          refine j_istore_n (lv' := [(1, _), (0, _)]) hX dX11_startAnew_129 rfl (by rw [hnL]; decide) rfl ?_
          refine j_sub [1, 0] rfl ?_
          exact ih.2.2.1 _ _ _ (by omega) hI42 hF50 hk46 hk47 hf43 hV44 hV45 (by first | assumption | omega) (by first | assumption | omega) (by omega) (by omega)
        · exfalso; omega
      · intro x1 a5 Mc hxx1 hI hF hk_0 hk_1 hk_2 hV_0 hV_1 h2 h9 hm0 hm1
        refine j_iload_n hX dX11_startAnew_130 rfl 1 rfl ?_
        refine j_bipush hX dX11_startAnew_131 rfl ?_
        refine j_icmp_ge (tgt := 149) hX dX11_startAnew_133 (by decide) (by omega) (by omega) (fun hc51 => ?_) (fun hc51 => ?_)
        · skip
          refine j_aload_n hX dX11_startAnew_149 rfl 0 rfl ?_
          refine j_iconst hX dX11_startAnew_150 ?_
          refine pf_X11_395 hX (by omega) (by omega) kc_210 (by omega) dX11_startAnew_151 ?_
          refine j_up hI ro_210_50 (by omega) (by omega) (Or.inl (by omega)) (fun M52 w53 hw54 hM55 hI56 hf57 => ?_)
          have hV58 := LQ_dp (M' := M52) hV_0 (fun a b h => by rw [hM55]; exact up_ne (by omega))
          have hV59 := A0_dp (M' := M52) hV_1 (fun a b h => by rw [hM55]; exact up_ne (by omega))
          have hk60 := kp_up hM55 (fun h => absurd h.2 (by decide)) hk_0
          have hk61 := kp_up hM55 (fun h => absurd h.1 (by decide)) hk_1
          have hk62 := kp_up hM55 (by decide) hk_2
          have hF63 := Fr.put hF hM55 ((Or.inr (Or.inr (Or.inl ⟨rfl, by decide, by decide⟩))))
          refine j_aload_n hX dX11_startAnew_154 rfl 0 rfl ?_
          refine j_iconst hX dX11_startAnew_155 ?_
          refine pf_X11_398 hX (by omega) (by omega) kc_210 (by omega) dX11_startAnew_156 ?_
          refine j_up hI56 ro_210_51 (by omega) (by omega) (Or.inl (by omega)) (fun M64 w65 hw66 hM67 hI68 hf69 => ?_)
          have hV70 := LQ_dp (M' := M64) hV58 (fun a b h => by rw [hM67]; exact up_ne (by omega))
          have hV71 := A0_dp (M' := M64) hV59 (fun a b h => by rw [hM67]; exact up_ne (by omega))
          have hk72 := kp_up hM67 (fun h => absurd h.2 (by decide)) hk60
          have hk73 := kp_up hM67 (fun h => absurd h.1 (by decide)) hk61
          have hk74 := kp_up hM67 (by decide) hk62
          have hk75 := kp_up hM67 (fun h => absurd h.2 (by decide)) hf57
          clear hk60 hk61 hk62 hf57
          have hF76 := Fr.put hF63 hM67 ((Or.inr (Or.inr (Or.inl ⟨rfl, by decide, by decide⟩))))
          refine j_aload_n hX dX11_startAnew_159 rfl 0 rfl ?_
          refine j_iconst hX dX11_startAnew_160 ?_
          refine pf_X11_401 hX (by omega) (by omega) kc_210 (by omega) dX11_startAnew_161 ?_
          refine j_up hI68 ro_210_63 (by omega) (by omega) (Or.inl (by omega)) (fun M77 w78 hw79 hM80 hI81 hf82 => ?_)
          have hV83 := LQ_dp (M' := M77) hV70 (fun a b h => by rw [hM80]; exact up_ne (by omega))
          have hV84 := A0_dp (M' := M77) hV71 (fun a b h => by rw [hM80]; exact up_ne (by omega))
          have hk85 := kp_up hM80 (fun h => absurd h.2 (by decide)) hk72
          have hk86 := kp_up hM80 (fun h => absurd h.1 (by decide)) hk73
          have hk87 := kp_up hM80 (by decide) hk74
          have hk88 := kp_up hM80 (fun h => absurd h.2 (by decide)) hk75
          have hk89 := kp_up hM80 (fun h => absurd h.2 (by decide)) hf69
          clear hk72 hk73 hk74 hk75 hf69
          have hF90 := Fr.put hF76 hM80 ((Or.inr (Or.inr (Or.inr (Or.inl ⟨rfl, by decide, by decide⟩)))))
          refine j_aload_n hX dX11_startAnew_164 rfl 0 rfl ?_
          refine j_iconst hX dX11_startAnew_165 ?_
          refine pf_X11_404 hX (by omega) (by omega) kc_210 (by omega) dX11_startAnew_166 ?_
          refine j_up hI81 ro_210_54 (by omega) (by omega) (Or.inl (by omega)) (fun M91 w92 hw93 hM94 hI95 hf96 => ?_)
          have hV97 := LQ_dp (M' := M91) hV83 (fun a b h => by rw [hM94]; exact up_ne (by omega))
          have hV98 := A0_dp (M' := M91) hV84 (fun a b h => by rw [hM94]; exact up_ne (by omega))
          have hk99 := kp_up hM94 (fun h => absurd h.2 (by decide)) hk85
          have hk100 := kp_up hM94 (fun h => absurd h.1 (by decide)) hk86
          have hk101 := kp_up hM94 (by decide) hk87
          have hk102 := kp_up hM94 (fun h => absurd h.2 (by decide)) hk88
          have hk103 := kp_up hM94 (fun h => absurd h.2 (by decide)) hk89
          have hk104 := kp_up hM94 (fun h => absurd h.2 (by decide)) hf82
          clear hk85 hk86 hk87 hk88 hk89 hf82
          have hF105 := Fr.put hF90 hM94 ((Or.inr (Or.inr (Or.inl ⟨rfl, by decide, by decide⟩))))
          refine j_iconst hX dX11_startAnew_169 ?_
          refine j_istore_n (lv' := [(1, _), (0, _)]) hX dX11_startAnew_170 rfl (by rw [hnL]; decide) rfl ?_
          refine j_sub [1, 0] rfl ?_
          exact ih.2.2.2 _ _ _ _ _ _ _ (by omega) hI95 hF105 hk99 hk102 hk103 hk100 hk101 hk104 hf96 hV97 hV98 (by first | assumption | omega) (by first | exact fun k p q => absurd q (by omega) | assumption) (by first | assumption | omega) (by omega) (by omega)
        · skip
          refine j_aload_n hX dX11_startAnew_136 rfl 0 rfl ?_
          refine gf_X11_125 hX (by omega) (by omega) kc_210 (fc_210_55 hI) (by decide) dX11_startAnew_137 ?_
          refine j_iload_n hX dX11_startAnew_140 rfl 1 rfl ?_
          refine j_iconst hX dX11_startAnew_141 ?_
          refine j_iast hX (by omega) (by omega) kc_247 (by omega) (by omega) (by omega) (by omega) dX11_startAnew_142 ?_
          refine j_up hI (ra_247 _) (by omega) (by omega) (Or.inl (by omega)) (fun M106 w107 hw108 hM109 hI110 hf111 => ?_)
          have hV112 := LQ_dp (M' := M106) hV_0 (fun a b h => by rw [hM109]; exact up_ne (by omega))
          have hV113 := A0_dp (M' := M106) hV_1 (fun a b h => by rw [hM109]; exact up_ne (by omega))
          have hk114 := kp_up hM109 (fun h => absurd h.1 (by decide)) hk_0
          have hk115 := kp_up hM109 (fun h => absurd h.1 (by decide)) hk_1
          have hk116 := kp_up hM109 (fun h => absurd h.1 (by decide)) hk_2
          have hF117 := Fr.put hF hM109 ((Or.inr (Or.inl rfl)))
          refine j_iinc (lv' := [(1, _), (0, _)]) hX dX11_startAnew_143 1 rfl (by rw [hnL]; decide) rfl ?_
          refine j_goto (tgt := 130) hX dX11_startAnew_146 (by decide) ?_
          refine j_sub [1, 0] rfl ?_
          exact ih.2.2.1 _ _ _ (by omega) hI110 hF117 hk114 hk115 hk116 hV112 hV113 (by first | assumption | omega) (by first | assumption | omega) (by omega) (by omega)
      · intro x1 k0 k1 a5 k2 k3 Mc hxx1 hI hF hk_0 hk_1 hk_2 hk_3 hk_4 hk_5 hk_6 hV_0 hV_1 h2 h3 h9 hm0 hm1
        refine j_iload_n hX dX11_startAnew_171 rfl 1 rfl ?_
        refine j_iconst hX dX11_startAnew_172 ?_
        refine j_icmp_ge (tgt := 189) hX dX11_startAnew_173 (by decide) (by omega) (by omega) (fun hc118 => ?_) (fun hc118 => ?_)
        · skip
          exact hret _ _ _ dX11_startAnew_189 ⟨hI, hF, RS_mk hV_0 WS_0 (by omega) (by omega), fun k p q r => absurd r (by rw [h3 k p (by omega)]; decide), hV_1, by omega, ⟨by omega, by omega, by omega, by omega⟩, fun k p q => h3 k p (by omega)⟩
        · skip
          refine j_aload_n hX dX11_startAnew_176 rfl 0 rfl ?_
          refine gf_X11_152 hX (by omega) (by omega) kc_210 (fc_210_67 hI) (by decide) dX11_startAnew_177 ?_
          refine j_iload_n hX dX11_startAnew_180 rfl 1 rfl ?_
          refine j_iconst hX dX11_startAnew_181 ?_
          refine j_zast hX (by omega) (by omega) kc_256 (by omega) (by omega) (by omega) (by omega) dX11_startAnew_182 ?_
          refine j_up hI (ra_256 _) (by omega) (by omega) (Or.inl (by omega)) (fun M119 w120 hw121 hM122 hI123 hf124 => ?_)
          have hV125 := LQ_dp (M' := M119) hV_0 (fun a b h => by rw [hM122]; exact up_ne (by omega))
          have hV126 := A0_dp (M' := M119) hV_1 (fun a b h => by rw [hM122]; exact up_ne (by omega))
          have hk127 := kp_up hM122 (fun h => absurd h.1 (by decide)) hk_0
          have hk128 := kp_up hM122 (fun h => absurd h.1 (by decide)) hk_1
          have hk129 := kp_up hM122 (fun h => absurd h.1 (by decide)) hk_2
          have hk130 := kp_up hM122 (fun h => absurd h.1 (by decide)) hk_3
          have hk131 := kp_up hM122 (fun h => absurd h.1 (by decide)) hk_4
          have hk132 := kp_up hM122 (fun h => absurd h.1 (by decide)) hk_5
          have hk133 := kp_up hM122 (fun h => absurd h.1 (by decide)) hk_6
          have hF134 := Fr.put hF hM122 ((Or.inr (Or.inr (Or.inr (Or.inr rfl)))))
          have hbz : ∀ k, 0 ≤ k → k < x1 + 1 → M119.1 256 k = 0 := fun k p q => by
                  by_cases c : k = x1
                  · rw [hM122, c, up_eq]; exact hw121
                  · rw [hM122, up_ne (by omega)]; exact h3 k p (by omega)
          refine j_iinc (lv' := [(1, _), (0, _)]) hX dX11_startAnew_183 1 rfl (by rw [hnL]; decide) rfl ?_
          refine j_goto (tgt := 171) hX dX11_startAnew_186 (by decide) ?_
          refine j_sub [1, 0] rfl ?_
          exact ih.2.2.2 _ _ _ _ _ _ _ (by omega) hI123 hF134 hk127 hk128 hk129 hk130 hk131 hk132 hk133 hV125 hV126 (by first | assumption | omega) (by first | exact fun k p q => absurd q (by omega) | assumption) (by first | assumption | omega) (by omega) (by omega)
  show J X B N 0 0 0 [(0, rv B 210)] [] M
  refine j_iconst hX dX11_startAnew_0 ?_
  refine j_istore_n (lv' := [(1, _), (0, _)]) hX dX11_startAnew_1 rfl (by rw [hnL]; decide) rfl ?_
  refine j_sub [1, 0] rfl ?_
  refine (cp (Int.toNat (64064 + 1))).1 _ _ (by omega) hI hF hbk hnr hk_dr (by first | assumption | omega) (by first | exact fun i p q => absurd q (by omega) | assumption | exact fun i p q => h9 i p (by omega)) ?_ ?_
  · omega
  · omega
