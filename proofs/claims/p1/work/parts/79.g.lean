set_option maxHeartbeats 2000000 in
set_option maxRecDepth 20000 in
theorem cv_X11_lies (l : Launch) (D : va_G) (cy : Nat → ClassId) (B N : Nat) (ld : Int) (a : Int) (M : MM) (hN : 257 ≤ N) (hI : Iv M) (hpa : I32 a) (hk_ld : M.1 210 54 = ld) (hz_ld : ld = 0) : CI l D cy B N 2 yX11_lies cX11_lies 2 (some .int) [rv B 210, iv a] M (fun z M' => M' = M ∧ (z = -1)) := by
  refine mk_CI (by decide) (Nat.le_of_ble_eq_true rfl) ?_
  intro X exl exD excy hnL hX hret
  have hce : 0 + 0 ≤ (xR X).cells ∧ 0 + 0 ≤ (xR X).slots := ⟨Nat.zero_le _, Nat.zero_le _⟩
  show J X B N 0 0 0 [(0, rv B 210), (1, iv a)] [] M
  refine j_iload_n hX dX11_lies_0 rfl 1 rfl ?_
  refine j_iconst hX dX11_lies_1 ?_
  refine j_aload_n hX dX11_lies_2 rfl 0 rfl ?_
  refine gf_X11_404 hX (by omega) (by omega) kc_210 dX11_lies_3 ?_
  refine j_top hk_ld ?_
  refine j_iconst hX dX11_lies_6 ?_
  refine j_isub hX dX11_lies_7 ?_
  refine j_callSI hX lk_X11_388 (c_X11_isIn _ _ _ _ _ _ _ _ _ (by omega) (by omega) (by omega)) (by omega) hce rfl rfl (Nat.le_of_ble_eq_true rfl) dX11_lies_8 (fun z1 M2 hz4 hp3 => ?_)
  obtain ⟨hE5, hb6, hq7, hq8⟩ := hp3
  replace hE5 := hE5.symm
  subst hE5
  refine j_if_eq (tgt := 23) hX dX11_lies_11 (by decide) (by omega) (fun hc9 => ?_) (fun hc9 => ?_)
  · skip
    clear hq7
    have hi10 := hq8 (by omega)
    clear hq8
    refine j_iconst hX dX11_lies_23 ?_
    exact hret _ _ _ _ dX11_lies_24 rfl (by omega) ⟨rfl, by first | assumption | omega⟩
  · exfalso; omega
set_option maxHeartbeats 2000000 in
set_option maxRecDepth 20000 in
theorem cv_X11_untell (l : Launch) (D : va_G) (cy : Nat → ClassId) (B N : Nat) (gl : Int) (a : Int) (M : MM) (hN : 257 ≤ N) (hI : Iv M) (hpa : I32 a) (hk_gl : M.1 210 63 = gl) (hz_gl : gl = 0) : CI l D cy B N 2 yX11_untell cX11_untell 2 (some .boolean) [rv B 210, iv a] M (fun z M' => Iv M' ∧ Fr (fun a (_ : Int) => (a = 253)) M M' ∧ (0 ≤ z ∧ z ≤ 1) ∧ (z = 0)) := by
  refine mk_CI (by decide) (Nat.le_of_ble_eq_true rfl) ?_
  intro X exl exD excy hnL hX hret
  have hce : 0 + 0 ≤ (xR X).cells ∧ 0 + 0 ≤ (xR X).slots := ⟨Nat.zero_le _, Nat.zero_le _⟩
  have hF : Fr (fun a (_ : Int) => (a = 253)) M M := Fr.rf
  show J X B N 0 0 0 [(0, rv B 210), (1, iv a)] [] M
  refine j_iload_n hX dX11_untell_0 rfl 1 rfl ?_
  refine j_iconst hX dX11_untell_1 ?_
  refine j_aload_n hX dX11_untell_2 rfl 0 rfl ?_
  refine gf_X11_401 hX (by omega) (by omega) kc_210 dX11_untell_3 ?_
  refine j_top hk_gl ?_
  refine j_iconst hX dX11_untell_6 ?_
  refine j_isub hX dX11_untell_7 ?_
  refine j_callSI hX lk_X11_388 (c_X11_isIn _ _ _ _ _ _ _ _ _ (by omega) (by omega) (by omega)) (by omega) hce rfl rfl (Nat.le_of_ble_eq_true rfl) dX11_untell_8 (fun z1 M2 hz4 hp3 => ?_)
  obtain ⟨hE5, hb6, hq7, hq8⟩ := hp3
  replace hE5 := hE5.symm
  subst hE5
  refine j_if_eq (tgt := 23) hX dX11_untell_11 (by decide) (by omega) (fun hc9 => ?_) (fun hc9 => ?_)
  · skip
    clear hq7
    have hi10 := hq8 (by omega)
    clear hq8
    refine j_iconst hX dX11_untell_23 ?_
    exact hret _ _ _ _ dX11_untell_24 (nb (by omega)) (by omega) ⟨hI, hF, by omega, by first | assumption | omega⟩
  · exfalso; omega
set_option maxHeartbeats 2000000 in
set_option maxRecDepth 20000 in
theorem cv_X11_feed (l : Launch) (D : va_G) (cy : Nat → ClassId) (B N : Nat) (t0 : Int) (a : Int) (b : Int) (c : Int) (d : Int) (e : Int) (M : MM) (hN : 257 ≤ N) (hI : Iv M) (hpa : I32 a) (hpb : I32 b) (hpc : I32 c) (hpd : I32 d) (hpe : I32 e) (hk_t0 : M.1 210 2 = t0) (hz_t0 : t0 = 0) : CI l D cy B N 1 yX11_feed cX11_feed 8 (some .int) [rv B 210, iv a, iv b, iv c, iv d, iv e] M (fun z M' => Iv M' ∧ Fr (fun a b => (a = 210 ∧ 2 ≤ b ∧ b ≤ 2) ∨ (a = 211)) M M' ∧ (z = 20)) := by
  refine mk_CI (by decide) (Nat.le_of_ble_eq_true rfl) ?_
  intro X exl exD excy hnL hX hret
  have hce : 0 + 0 ≤ (xR X).cells ∧ 0 + 0 ≤ (xR X).slots := ⟨Nat.zero_le _, Nat.zero_le _⟩
  have hF : Fr (fun a b => (a = 210 ∧ 2 ≤ b ∧ b ≤ 2) ∨ (a = 211)) M M := Fr.rf
  have cp : ∀ n : Nat, (∀ (x6 : Int), ∀ (tp : Int), ∀ (Mc : MM), I32 x6 → Iv Mc → Fr (fun a b => (a = 210 ∧ 2 ≤ b ∧ b ≤ 2) ∨ (a = 211)) M Mc → Mc.1 210 2 = tp → (0 ≤ x6 ∧ x6 ≤ 20 ∧ 0 ≤ tp ∧ tp ≤ 1580) → (tp = 0) → 0 ≤ 32 * (20 - x6) + 1 → 32 * (20 - x6) + 1 < (n : Int) → J X B N 0 0 18 [(0, rv B 210), (1, iv a), (2, iv b), (3, iv c), (4, iv d), (5, iv e), (6, iv x6)] [] Mc) := by
    intro n
    induction n with
    | zero => exact by intros; exfalso; omega
    | succ n ih =>
      · intro x6 tp Mc hxx6 hI hF hk_0 h2 h9 hm0 hm1
        refine j_iload hX dX11_feed_18 6 rfl ?_
        refine j_bipush hX dX11_feed_20 rfl ?_
        refine j_icmp_ge (tgt := 105) hX dX11_feed_22 (by decide) (by omega) (by omega) (fun hc1 => ?_) (fun hc1 => ?_)
        · skip
          refine j_aload_n hX dX11_feed_105 rfl 0 rfl ?_
          refine j_dup hX dX11_feed_106 rfl ?_
          refine gf_X11_276 hX (by omega) (by omega) kc_210 dX11_feed_107 ?_
          refine j_top hk_0 ?_
          refine j_bipush hX dX11_feed_110 rfl ?_
          refine j_iadd hX dX11_feed_112 ?_
          refine pf_X11_276 hX (by omega) (by omega) kc_210 (by omega) dX11_feed_113 ?_
          refine j_up hI ro_210_2 (by omega) (by omega) (Or.inl (by omega)) (fun M2 w3 hw4 hM5 hI6 hf7 => ?_)
          have hF8 := Fr.put hF hM5 ((Or.inl ⟨rfl, by decide, by decide⟩))
          refine j_aload_n hX dX11_feed_116 rfl 0 rfl ?_
          refine gf_X11_276 hX (by omega) (by omega) kc_210 dX11_feed_117 ?_
          refine j_top hf7 ?_
          exact hret _ _ _ _ dX11_feed_120 rfl (by omega) ⟨hI6, hF8, by first | assumption | omega⟩
        · skip
          refine j_iload hX dX11_feed_25 6 rfl ?_
          refine j_iconst hX dX11_feed_27 ?_
          refine j_icmp_ge (tgt := 35) hX dX11_feed_28 (by decide) (by omega) (by omega) (fun hc9 => ?_) (fun hc9 => ?_)
          · skip
            refine j_iload hX dX11_feed_35 6 rfl ?_
            refine j_bipush hX dX11_feed_37 rfl ?_
            refine j_icmp_ge (tgt := 46) hX dX11_feed_39 (by decide) (by omega) (by omega) (fun hc10 => ?_) (fun hc10 => ?_)
            · skip
              refine j_iload hX dX11_feed_46 6 rfl ?_
              refine j_bipush hX dX11_feed_48 rfl ?_
              refine j_icmp_ge (tgt := 57) hX dX11_feed_50 (by decide) (by omega) (by omega) (fun hc11 => ?_) (fun hc11 => ?_)
              · skip
                refine j_iload hX dX11_feed_57 6 rfl ?_
                refine j_bipush hX dX11_feed_59 rfl ?_
                refine j_icmp_ge (tgt := 69) hX dX11_feed_61 (by decide) (by omega) (by omega) (fun hc12 => ?_) (fun hc12 => ?_)
                · skip
                  refine j_iload hX dX11_feed_69 5 rfl ?_
                  refine j_istore (lv' := [(7, _), (0, _), (1, _), (2, _), (3, _), (4, _), (5, _), (6, _)]) hX dX11_feed_71 (by rw [hnL]; decide) rfl ?_
                  refine j_aload_n hX dX11_feed_73 rfl 1 rfl ?_
                  refine gf_X11_7 hX (by omega) (by omega) kc_210 (fc_210_0 hI) (by decide) dX11_feed_74 ?_
                  refine j_aload_n hX dX11_feed_77 rfl 1 rfl ?_
                  refine gf_X11_276 hX (by omega) (by omega) kc_210 dX11_feed_78 ?_
                  refine j_top hk_0 ?_
                  refine j_iload hX dX11_feed_81 7 rfl ?_
                  refine j_iadd hX dX11_feed_83 ?_
                  refine j_iload hX dX11_feed_84 0 rfl ?_
                  refine j_bipush hX dX11_feed_86 rfl ?_
                  refine j_bipush hX dX11_feed_88 rfl ?_
                  refine j_iload hX dX11_feed_90 7 rfl ?_
                  refine j_iconst hX dX11_feed_92 ?_
                  refine j_iand hX dX11_feed_93 (fun z13 hz14 hy15 => ?_)
                  have ha16 := (and_f hz14 (by omega) (by omega)).2 (by omega)
                  refine j_imul hX dX11_feed_94 ?_
                  refine j_isub hX dX11_feed_95 ?_
                  refine j_ishr hX dX11_feed_96 (fun z17 hz18 hy19 => ?_)
                  refine j_i2b hX dX11_feed_97 (fun z20 hz21 hy22 => ?_)
                  refine j_bast hX (by omega) (by omega) kc_211 (by omega) (by omega) (by omega) (by omega) (by omega) dX11_feed_98 ?_
                  refine j_up hI (ra_211 _) (by omega) (by omega) (Or.inl (by omega)) (fun M23 w24 hw25 hM26 hI27 hf28 => ?_)
                  have hk29 := kp_up hM26 (fun h => absurd h.1 (by decide)) hk_0
                  have hF30 := Fr.put hF hM26 ((Or.inr rfl))
                  refine j_iinc (lv' := [(6, _), (7, _), (0, _), (1, _), (2, _), (3, _), (4, _), (5, _)]) hX dX11_feed_99 7 rfl (by rw [hnL]; decide) rfl ?_
                  refine j_goto (tgt := 18) hX dX11_feed_102 (by decide) ?_
                  refine j_sub [2, 3, 4, 5, 6, 7, 0] rfl ?_
                  exact ih _ _ _ (by omega) hI27 hF30 hk29 (by first | assumption | omega) (by first | assumption | omega) (by omega) (by omega)
                · skip
                  refine j_iload hX dX11_feed_64 4 rfl ?_
                  refine j_goto (tgt := 71) hX dX11_feed_66 (by decide) ?_
                  refine j_istore (lv' := [(7, _), (0, _), (1, _), (2, _), (3, _), (4, _), (5, _), (6, _)]) hX dX11_feed_71 (by rw [hnL]; decide) rfl ?_
                  refine j_aload_n hX dX11_feed_73 rfl 1 rfl ?_
                  refine gf_X11_7 hX (by omega) (by omega) kc_210 (fc_210_0 hI) (by decide) dX11_feed_74 ?_
                  refine j_aload_n hX dX11_feed_77 rfl 1 rfl ?_
                  refine gf_X11_276 hX (by omega) (by omega) kc_210 dX11_feed_78 ?_
                  refine j_top hk_0 ?_
                  refine j_iload hX dX11_feed_81 7 rfl ?_
                  refine j_iadd hX dX11_feed_83 ?_
                  refine j_iload hX dX11_feed_84 0 rfl ?_
                  refine j_bipush hX dX11_feed_86 rfl ?_
                  refine j_bipush hX dX11_feed_88 rfl ?_
                  refine j_iload hX dX11_feed_90 7 rfl ?_
                  refine j_iconst hX dX11_feed_92 ?_
                  refine j_iand hX dX11_feed_93 (fun z31 hz32 hy33 => ?_)
                  have ha34 := (and_f hz32 (by omega) (by omega)).2 (by omega)
                  refine j_imul hX dX11_feed_94 ?_
                  refine j_isub hX dX11_feed_95 ?_
                  refine j_ishr hX dX11_feed_96 (fun z35 hz36 hy37 => ?_)
                  refine j_i2b hX dX11_feed_97 (fun z38 hz39 hy40 => ?_)
                  refine j_bast hX (by omega) (by omega) kc_211 (by omega) (by omega) (by omega) (by omega) (by omega) dX11_feed_98 ?_
                  refine j_up hI (ra_211 _) (by omega) (by omega) (Or.inl (by omega)) (fun M41 w42 hw43 hM44 hI45 hf46 => ?_)
                  have hk47 := kp_up hM44 (fun h => absurd h.1 (by decide)) hk_0
                  have hF48 := Fr.put hF hM44 ((Or.inr rfl))
                  refine j_iinc (lv' := [(6, _), (7, _), (0, _), (1, _), (2, _), (3, _), (4, _), (5, _)]) hX dX11_feed_99 7 rfl (by rw [hnL]; decide) rfl ?_
                  refine j_goto (tgt := 18) hX dX11_feed_102 (by decide) ?_
                  refine j_sub [2, 3, 4, 5, 6, 7, 0] rfl ?_
                  exact ih _ _ _ (by omega) hI45 hF48 hk47 (by first | assumption | omega) (by first | assumption | omega) (by omega) (by omega)
              · skip
                refine j_iload_n hX dX11_feed_53 rfl 3 rfl ?_
                refine j_goto (tgt := 71) hX dX11_feed_54 (by decide) ?_
                refine j_istore (lv' := [(7, _), (0, _), (1, _), (2, _), (3, _), (4, _), (5, _), (6, _)]) hX dX11_feed_71 (by rw [hnL]; decide) rfl ?_
                refine j_aload_n hX dX11_feed_73 rfl 1 rfl ?_
                refine gf_X11_7 hX (by omega) (by omega) kc_210 (fc_210_0 hI) (by decide) dX11_feed_74 ?_
                refine j_aload_n hX dX11_feed_77 rfl 1 rfl ?_
                refine gf_X11_276 hX (by omega) (by omega) kc_210 dX11_feed_78 ?_
                refine j_top hk_0 ?_
                refine j_iload hX dX11_feed_81 7 rfl ?_
                refine j_iadd hX dX11_feed_83 ?_
                refine j_iload hX dX11_feed_84 0 rfl ?_
                refine j_bipush hX dX11_feed_86 rfl ?_
                refine j_bipush hX dX11_feed_88 rfl ?_
                refine j_iload hX dX11_feed_90 7 rfl ?_
                refine j_iconst hX dX11_feed_92 ?_
                refine j_iand hX dX11_feed_93 (fun z49 hz50 hy51 => ?_)
                have ha52 := (and_f hz50 (by omega) (by omega)).2 (by omega)
                refine j_imul hX dX11_feed_94 ?_
                refine j_isub hX dX11_feed_95 ?_
                refine j_ishr hX dX11_feed_96 (fun z53 hz54 hy55 => ?_)
                refine j_i2b hX dX11_feed_97 (fun z56 hz57 hy58 => ?_)
                refine j_bast hX (by omega) (by omega) kc_211 (by omega) (by omega) (by omega) (by omega) (by omega) dX11_feed_98 ?_
                refine j_up hI (ra_211 _) (by omega) (by omega) (Or.inl (by omega)) (fun M59 w60 hw61 hM62 hI63 hf64 => ?_)
                have hk65 := kp_up hM62 (fun h => absurd h.1 (by decide)) hk_0
                have hF66 := Fr.put hF hM62 ((Or.inr rfl))
                refine j_iinc (lv' := [(6, _), (7, _), (0, _), (1, _), (2, _), (3, _), (4, _), (5, _)]) hX dX11_feed_99 7 rfl (by rw [hnL]; decide) rfl ?_
                refine j_goto (tgt := 18) hX dX11_feed_102 (by decide) ?_
                refine j_sub [2, 3, 4, 5, 6, 7, 0] rfl ?_
                exact ih _ _ _ (by omega) hI63 hF66 hk65 (by first | assumption | omega) (by first | assumption | omega) (by omega) (by omega)
            · skip
              refine j_iload_n hX dX11_feed_42 rfl 2 rfl ?_
              refine j_goto (tgt := 71) hX dX11_feed_43 (by decide) ?_
              refine j_istore (lv' := [(7, _), (0, _), (1, _), (2, _), (3, _), (4, _), (5, _), (6, _)]) hX dX11_feed_71 (by rw [hnL]; decide) rfl ?_
              refine j_aload_n hX dX11_feed_73 rfl 1 rfl ?_
              refine gf_X11_7 hX (by omega) (by omega) kc_210 (fc_210_0 hI) (by decide) dX11_feed_74 ?_
              refine j_aload_n hX dX11_feed_77 rfl 1 rfl ?_
              refine gf_X11_276 hX (by omega) (by omega) kc_210 dX11_feed_78 ?_
              refine j_top hk_0 ?_
              refine j_iload hX dX11_feed_81 7 rfl ?_
              refine j_iadd hX dX11_feed_83 ?_
              refine j_iload hX dX11_feed_84 0 rfl ?_
              refine j_bipush hX dX11_feed_86 rfl ?_
              refine j_bipush hX dX11_feed_88 rfl ?_
              refine j_iload hX dX11_feed_90 7 rfl ?_
              refine j_iconst hX dX11_feed_92 ?_
              refine j_iand hX dX11_feed_93 (fun z67 hz68 hy69 => ?_)
              have ha70 := (and_f hz68 (by omega) (by omega)).2 (by omega)
              refine j_imul hX dX11_feed_94 ?_
              refine j_isub hX dX11_feed_95 ?_
              refine j_ishr hX dX11_feed_96 (fun z71 hz72 hy73 => ?_)
              refine j_i2b hX dX11_feed_97 (fun z74 hz75 hy76 => ?_)
              refine j_bast hX (by omega) (by omega) kc_211 (by omega) (by omega) (by omega) (by omega) (by omega) dX11_feed_98 ?_
              refine j_up hI (ra_211 _) (by omega) (by omega) (Or.inl (by omega)) (fun M77 w78 hw79 hM80 hI81 hf82 => ?_)
              have hk83 := kp_up hM80 (fun h => absurd h.1 (by decide)) hk_0
              have hF84 := Fr.put hF hM80 ((Or.inr rfl))
              refine j_iinc (lv' := [(6, _), (7, _), (0, _), (1, _), (2, _), (3, _), (4, _), (5, _)]) hX dX11_feed_99 7 rfl (by rw [hnL]; decide) rfl ?_
              refine j_goto (tgt := 18) hX dX11_feed_102 (by decide) ?_
              refine j_sub [2, 3, 4, 5, 6, 7, 0] rfl ?_
              exact ih _ _ _ (by omega) hI81 hF84 hk83 (by first | assumption | omega) (by first | assumption | omega) (by omega) (by omega)
          · skip
            refine j_iload_n hX dX11_feed_31 rfl 1 rfl ?_
            refine j_goto (tgt := 71) hX dX11_feed_32 (by decide) ?_
            refine j_istore (lv' := [(7, _), (0, _), (1, _), (2, _), (3, _), (4, _), (5, _), (6, _)]) hX dX11_feed_71 (by rw [hnL]; decide) rfl ?_
            refine j_aload_n hX dX11_feed_73 rfl 1 rfl ?_
            refine gf_X11_7 hX (by omega) (by omega) kc_210 (fc_210_0 hI) (by decide) dX11_feed_74 ?_
            refine j_aload_n hX dX11_feed_77 rfl 1 rfl ?_
            refine gf_X11_276 hX (by omega) (by omega) kc_210 dX11_feed_78 ?_
            refine j_top hk_0 ?_
            refine j_iload hX dX11_feed_81 7 rfl ?_
            refine j_iadd hX dX11_feed_83 ?_
            refine j_iload hX dX11_feed_84 0 rfl ?_
            refine j_bipush hX dX11_feed_86 rfl ?_
            refine j_bipush hX dX11_feed_88 rfl ?_
            refine j_iload hX dX11_feed_90 7 rfl ?_
            refine j_iconst hX dX11_feed_92 ?_
            refine j_iand hX dX11_feed_93 (fun z85 hz86 hy87 => ?_)
            have ha88 := (and_f hz86 (by omega) (by omega)).2 (by omega)
            refine j_imul hX dX11_feed_94 ?_
            refine j_isub hX dX11_feed_95 ?_
            refine j_ishr hX dX11_feed_96 (fun z89 hz90 hy91 => ?_)
            refine j_i2b hX dX11_feed_97 (fun z92 hz93 hy94 => ?_)
            refine j_bast hX (by omega) (by omega) kc_211 (by omega) (by omega) (by omega) (by omega) (by omega) dX11_feed_98 ?_
            refine j_up hI (ra_211 _) (by omega) (by omega) (Or.inl (by omega)) (fun M95 w96 hw97 hM98 hI99 hf100 => ?_)
            have hk101 := kp_up hM98 (fun h => absurd h.1 (by decide)) hk_0
            have hF102 := Fr.put hF hM98 ((Or.inr rfl))
            refine j_iinc (lv' := [(6, _), (7, _), (0, _), (1, _), (2, _), (3, _), (4, _), (5, _)]) hX dX11_feed_99 7 rfl (by rw [hnL]; decide) rfl ?_
            refine j_goto (tgt := 18) hX dX11_feed_102 (by decide) ?_
            refine j_sub [2, 3, 4, 5, 6, 7, 0] rfl ?_
            exact ih _ _ _ (by omega) hI99 hF102 hk101 (by first | assumption | omega) (by first | assumption | omega) (by omega) (by omega)
  show J X B N 0 0 0 [(0, rv B 210), (1, iv a), (2, iv b), (3, iv c), (4, iv d), (5, iv e)] [] M
  refine j_aload_n hX dX11_feed_0 rfl 0 rfl ?_
  refine gf_X11_276 hX (by omega) (by omega) kc_210 dX11_feed_1 ?_
  refine j_top hk_t0 ?_
  refine j_bipush hX dX11_feed_4 rfl ?_
  refine j_iadd hX dX11_feed_6 ?_
  refine j_sipush hX dX11_feed_7 rfl ?_
  refine j_icmp_le (tgt := 15) hX dX11_feed_10 (by decide) (by omega) (by omega) (fun hc103 => ?_) (fun hc103 => ?_)
  · skip
    refine j_iconst hX dX11_feed_15 ?_
    refine j_istore (lv' := [(6, _), (0, _), (1, _), (2, _), (3, _), (4, _), (5, _)]) hX dX11_feed_16 (by rw [hnL]; decide) rfl ?_
    refine j_sub [1, 2, 3, 4, 5, 6, 0] rfl ?_
    refine (cp (Int.toNat (704 + 1))) _ _ _ (by omega) hI hF hk_t0 (by first | assumption | omega) (by first | assumption | omega) ?_ ?_
    · omega
    · omega
  · exfalso; omega
set_option maxHeartbeats 2000000 in
set_option maxRecDepth 20000 in
theorem cv_X11_divisor (l : Launch) (D : va_G) (cy : Nat → ClassId) (B N : Nat) (a : Int) (b : Int) (M : MM) (hpa : I32 a) (hpb : I32 b) (h1 : 1 ≤ a ∧ 0 ≤ b) (hz1 : a = 1 ∧ 0 ≤ b ∧ b ≤ 1) : CI l D cy B N 1 yX11_divisor cX11_divisor 5 (some .int) [iv a, iv b] M (fun z M' => M' = M ∧ (1 ≤ z) ∧ (z = 1)) := by
  refine mk_CI (by decide) (Nat.le_of_ble_eq_true rfl) ?_
  intro X exl exD excy hnL hX hret
  have hce : 0 + 0 ≤ (xR X).cells ∧ 0 + 0 ≤ (xR X).slots := ⟨Nat.zero_le _, Nat.zero_le _⟩
  have cp : ∀ n : Nat, (∀ (x2 x3 : Int), I32 x2 → I32 x3 → (x2 = 1 ∧ 0 ≤ x3 ∧ x3 ≤ 1) → 0 ≤ 32 * (x3) + 1 → 32 * (x3) + 1 < (n : Int) → J X B N 0 0 4 [(0, iv a), (1, iv b), (2, iv x2), (3, iv x3)] [] M) := by
    intro n
    induction n with
    | zero => exact by intros; exfalso; omega
    | succ n ih =>
      · intro x2 x3 hxx2 hxx3 h2 hm0 hm1
        refine j_iload_n hX dX11_divisor_4 rfl 3 rfl ?_
        refine j_if_le (tgt := 21) hX dX11_divisor_5 (by decide) (by omega) (fun hc1 => ?_) (fun hc1 => ?_)
        · skip
          refine j_iload_n hX dX11_divisor_21 rfl 2 rfl ?_
          exact hret _ _ _ _ dX11_divisor_22 rfl (by omega) ⟨rfl, by first | assumption | omega, by first | assumption | omega⟩
        · skip
          refine j_iload_n hX dX11_divisor_8 rfl 2 rfl ?_
          refine j_iload_n hX dX11_divisor_9 rfl 3 rfl ?_
          refine j_irem hX dX11_divisor_10 (by omega) (by omega) (by omega) (fun z2 hz3 hy4 => ?_)
          have ha5 := tmod_p hz3 (by omega) (by omega)
          refine j_istore (lv' := [(4, _), (0, _), (1, _), (2, _), (3, _)]) hX dX11_divisor_11 (by rw [hnL]; decide) rfl ?_
          refine j_iload_n hX dX11_divisor_13 rfl 4 rfl ?_
          refine j_istore_n (lv' := [(2, _), (4, _), (0, _), (1, _), (3, _)]) hX dX11_divisor_14 rfl (by rw [hnL]; decide) rfl ?_
          refine j_iload hX dX11_divisor_15 1 rfl ?_
          refine j_istore_n (lv' := [(3, _), (2, _), (4, _), (0, _), (1, _)]) hX dX11_divisor_17 rfl (by rw [hnL]; decide) rfl ?_
          refine j_goto (tgt := 4) hX dX11_divisor_18 (by decide) ?_
          refine j_sub [3, 4, 1, 0] rfl ?_
          exact ih _ _ (by omega) (by omega) (by first | assumption | omega) (by omega) (by omega)
  show J X B N 0 0 0 [(0, iv a), (1, iv b)] [] M
  refine j_iload_n hX dX11_divisor_0 rfl 0 rfl ?_
  refine j_istore_n (lv' := [(2, _), (0, _), (1, _)]) hX dX11_divisor_1 rfl (by rw [hnL]; decide) rfl ?_
  refine j_iload_n hX dX11_divisor_2 rfl 2 rfl ?_
  refine j_istore_n (lv' := [(3, _), (2, _), (0, _), (1, _)]) hX dX11_divisor_3 rfl (by rw [hnL]; decide) rfl ?_
  refine j_sub [2, 3, 1, 0] rfl ?_
  refine (cp (Int.toNat (68719476800 + 1))) _ _ (by omega) (by omega) (by first | assumption | omega) ?_ ?_
  · omega
  · omega
set_option maxHeartbeats 2000000 in
set_option maxRecDepth 20000 in
theorem cv_X11_odds (l : Launch) (D : va_G) (cy : Nat → ClassId) (B N : Nat) (bk : Int) (nr : Int) (a : Int) (b : Int) (M : MM) (hN : 257 ≤ N) (hI : Iv M) (hpa : I32 a) (hpb : I32 b) (hbk : M.1 210 40 = bk) (hnr : M.1 213 bk = nr) (hz0 : nr = 0) : CI l D cy B N 3 yX11_odds cX11_odds 6 (some .int) [rv B 210, iv a, iv b] M (fun z M' => Iv M' ∧ Fr (fun a (_ : Int) => (a = 248)) M M' ∧ ((¬ (0 ≤ a ∧ a ≤ 6 ∧ 0 ≤ b ∧ b ≤ 1) → z = -1) ∧ (a = 0 ∧ 0 ≤ b ∧ b ≤ 1 → z = 1) ∧ (1 ≤ a ∧ a ≤ 6 ∧ b = 0 → z = 0) ∧ (1 ≤ a ∧ a ≤ 6 ∧ b = 1 → z = 1))) := by
  refine mk_CI (by decide) (Nat.le_of_ble_eq_true rfl) ?_
  intro X exl exD excy hnL hX hret
  have hce : 0 + 0 ≤ (xR X).cells ∧ 0 + 0 ≤ (xR X).slots := ⟨Nat.zero_le _, Nat.zero_le _⟩
  have hF : Fr (fun a (_ : Int) => (a = 248)) M M := Fr.rf
  have hbk2 : 0 ≤ bk ∧ bk ≤ 1 := by have := hI.at 210 40 ro_210_40; omega
  have hnr2 : 0 ≤ nr ∧ nr ≤ 6 := by have := hI.at 213 bk (ra_213 _); omega
  have hv0 := v0_lt hnr2
  show J X B N 0 0 0 [(0, rv B 210), (1, iv a), (2, iv b)] [] M
  refine j_iload_n hX dX11_odds_0 rfl 1 rfl ?_
  refine j_iconst hX dX11_odds_1 ?_
  refine j_bipush hX dX11_odds_2 rfl ?_
  refine j_callSI hX lk_X11_388 (c_X11_isIn _ _ _ _ _ _ _ _ _ (by omega) (by omega) (by omega)) (by omega) hce rfl rfl (Nat.le_of_ble_eq_true rfl) dX11_odds_4 (fun z1 M2 hz4 hp3 => ?_)
  obtain ⟨hE5, hb6, hq7, hq8⟩ := hp3
  replace hE5 := hE5.symm
  subst hE5
  refine j_if_eq (tgt := 19) hX dX11_odds_7 (by decide) (by omega) (fun hc9 => ?_) (fun hc9 => ?_)
  · skip
    clear hq7
    have hi10 := hq8 (by omega)
    clear hq8
    refine j_iconst hX dX11_odds_19 ?_
    exact hret _ _ _ _ dX11_odds_20 rfl (by omega) ⟨hI, hF, by first | assumption | omega⟩
  · skip
    have hi11 := hq7 (by omega)
    clear hq7
    clear hq8
    refine j_iload_n hX dX11_odds_10 rfl 2 rfl ?_
    refine j_iconst hX dX11_odds_11 ?_
    refine j_iconst hX dX11_odds_12 ?_
    refine j_callSI hX lk_X11_388 (c_X11_isIn _ _ _ _ _ _ _ _ _ (by omega) (by omega) (by omega)) (by omega) hce rfl rfl (Nat.le_of_ble_eq_true rfl) dX11_odds_13 (fun z12 M13 hz15 hp14 => ?_)
    obtain ⟨hE16, hb17, hq18, hq19⟩ := hp14
    replace hE16 := hE16.symm
    subst hE16
    refine j_if_ne (tgt := 21) hX dX11_odds_16 (by decide) (by omega) (fun hc20 => ?_) (fun hc20 => ?_)
    · skip
      have hi21 := hq18 (by omega)
      clear hq18
      clear hq19
      refine j_iconst hX dX11_odds_21 ?_
      refine j_istore_n (lv' := [(3, _), (0, _), (1, _), (2, _)]) hX dX11_odds_22 rfl (by rw [hnL]; decide) rfl ?_
      refine j_iconst hX dX11_odds_23 ?_
      refine j_istore (lv' := [(4, _), (3, _), (0, _), (1, _), (2, _)]) hX dX11_odds_24 (by rw [hnL]; decide) rfl ?_
      refine j_iconst hX dX11_odds_26 ?_
      refine j_istore (lv' := [(5, _), (4, _), (3, _), (0, _), (1, _), (2, _)]) hX dX11_odds_27 (by rw [hnL]; decide) rfl ?_
      refine j_iload hX dX11_odds_29 0 rfl ?_
      refine j_aload_n hX dX11_odds_31 rfl 3 rfl ?_
      refine j_callVI hX lk_X11_459 (cv_X11_rowsOfRooms _ _ _ _ _ _ _ _ (by omega) hI hbk hnr (by first | assumption | omega)) (by omega) hce rfl rfl (by omega) (by omega) kc_210 rfl rfl (Nat.le_of_ble_eq_true rfl) dX11_odds_32 (fun z22 M23 hz25 hp24 => ?_)
      obtain ⟨hE26, hq27, hq28, hq29⟩ := hp24
      replace hE26 := hE26.symm
      subst hE26
      refine j_icmp_ge (tgt := 75) hX dX11_odds_35 (by decide) (by omega) (by omega) (fun hc30 => ?_) (fun hc30 => ?_)
      · exfalso; omega
      · skip
        refine j_aload_n hX dX11_odds_38 rfl 3 rfl ?_
        refine j_iload hX dX11_odds_39 0 rfl ?_
        refine j_callVI hX lk_X11_462 (cv_X11_layLot _ _ _ _ _ _ _ _ _ (by omega) hI (by omega) hbk hnr (by first | assumption | omega) (by first | assumption | omega)) (by omega) hce rfl rfl (by omega) (by omega) kc_210 rfl rfl (Nat.le_of_ble_eq_true rfl) dX11_odds_41 (fun z31 M32 hz34 hp33 => ?_)
        obtain ⟨hI36, hG37, hb38, hq39, hq40, hq41⟩ := hp33
        have hk42 := kp_fr hG37 (fun h => absurd h (by decide)) hbk
        have hk43 := kp_fr hG37 (fun h => absurd h (by decide)) hnr
        have hF44 := Fr.trans hF hG37 (fun a b h => h)
        refine j_if_ne (tgt := 50) hX dX11_odds_44 (by decide) (by omega) (fun hc45 => ?_) (fun hc45 => ?_)
        · skip
          have hi46 := hq39 (by omega)
          clear hq39
          refine j_iinc (lv' := [(4, _), (5, _), (3, _), (0, _), (1, _), (2, _)]) hX dX11_odds_50 1 rfl (by rw [hnL]; decide) rfl ?_
          refine j_iload_n hX dX11_odds_53 rfl 2 rfl ?_
          refine j_aload_n hX dX11_odds_54 rfl 3 rfl ?_
          refine j_callVI hX lk_X11_477 (cv_X11_liked _ _ _ _ _ _ _ _ (by omega) hI36 hk42 hk43 (by first | assumption | omega)) (by omega) hce rfl rfl (by omega) (by omega) kc_210 rfl rfl (Nat.le_of_ble_eq_true rfl) dX11_odds_55 (fun z47 M48 hz50 hp49 => ?_)
          obtain ⟨hE51, hq52, hq53⟩ := hp49
          replace hE51 := hE51.symm
          subst hE51
          refine j_iload_n hX dX11_odds_58 rfl 4 rfl ?_
          refine j_icmp_lt (tgt := 66) hX dX11_odds_59 (by decide) (by omega) (by omega) (fun hc54 => ?_) (fun hc54 => ?_)
          · skip
            refine j_iconst hX dX11_odds_66 ?_
            refine j_iadd hX dX11_odds_67 ?_
            refine j_istore_n (lv' := [(3, _), (4, _), (5, _), (0, _), (1, _), (2, _)]) hX dX11_odds_68 rfl (by rw [hnL]; decide) rfl ?_
            refine j_iinc (lv' := [(5, _), (3, _), (4, _), (0, _), (1, _), (2, _)]) hX dX11_odds_69 2 rfl (by rw [hnL]; decide) rfl ?_
            refine j_goto (tgt := 29) hX dX11_odds_72 (by decide) ?_
            refine j_iload hX dX11_odds_29 0 rfl ?_
            refine j_aload_n hX dX11_odds_31 rfl 3 rfl ?_
            refine j_callVI hX lk_X11_459 (cv_X11_rowsOfRooms _ _ _ _ _ _ _ _ (by omega) hI36 hk42 hk43 (by first | assumption | omega)) (by omega) hce rfl rfl (by omega) (by omega) kc_210 rfl rfl (Nat.le_of_ble_eq_true rfl) dX11_odds_32 (fun z55 M56 hz58 hp57 => ?_)
            obtain ⟨hE59, hq60, hq61, hq62⟩ := hp57
            replace hE59 := hE59.symm
            subst hE59
            refine j_icmp_ge (tgt := 75) hX dX11_odds_35 (by decide) (by omega) (by omega) (fun hc63 => ?_) (fun hc63 => ?_)
            · skip
              refine j_iload_n hX dX11_odds_75 rfl 5 rfl ?_
              refine j_if_ne (tgt := 83) hX dX11_odds_76 (by decide) (by omega) (fun hc64 => ?_) (fun hc64 => ?_)
              · skip
                refine j_iload hX dX11_odds_83 2 rfl ?_
                refine j_iload hX dX11_odds_85 2 rfl ?_
                refine j_iload_n hX dX11_odds_87 rfl 1 rfl ?_
                refine j_callSI hX lk_X11_480 (cv_X11_divisor _ _ _ _ _ _ _ _ (by omega) (by omega) (by first | assumption | omega) (by first | assumption | omega)) (by omega) hce rfl rfl (Nat.le_of_ble_eq_true rfl) dX11_odds_88 (fun z65 M66 hz68 hp67 => ?_)
                obtain ⟨hE69, hq70, hq71⟩ := hp67
                replace hE69 := hE69.symm
                subst hE69
                refine j_idiv hX dX11_odds_91 (by omega) (by omega) (by omega) (fun z72 hz73 hy74 => ?_)
                have hv75 := idivE (x0 := 1) (y0 := 1) (v := 1) hz73 (by omega) (by omega) (by decide) (by decide)
                exact hret _ _ _ _ dX11_odds_92 rfl (by omega) ⟨hI36, hF44, by first | assumption | omega⟩
              · skip
                refine j_iload_n hX dX11_odds_79 rfl 1 rfl ?_
                refine j_goto (tgt := 85) hX dX11_odds_80 (by decide) ?_
                refine j_iload hX dX11_odds_85 2 rfl ?_
                refine j_iload_n hX dX11_odds_87 rfl 1 rfl ?_
                refine j_callSI hX lk_X11_480 (cv_X11_divisor _ _ _ _ _ _ _ _ (by omega) (by omega) (by first | assumption | omega) (by first | assumption | omega)) (by omega) hce rfl rfl (Nat.le_of_ble_eq_true rfl) dX11_odds_88 (fun z76 M77 hz79 hp78 => ?_)
                obtain ⟨hE80, hq81, hq82⟩ := hp78
                replace hE80 := hE80.symm
                subst hE80
                refine j_idiv hX dX11_odds_91 (by omega) (by omega) (by omega) (fun z83 hz84 hy85 => ?_)
                have hv86 := idivE (x0 := 0) (y0 := 1) (v := 0) hz84 (by omega) (by omega) (by decide) (by decide)
                exact hret _ _ _ _ dX11_odds_92 rfl (by omega) ⟨hI36, hF44, by first | assumption | omega⟩
            · exfalso; omega
          · skip
            refine j_iconst hX dX11_odds_62 ?_
            refine j_goto (tgt := 67) hX dX11_odds_63 (by decide) ?_
            refine j_iadd hX dX11_odds_67 ?_
            refine j_istore_n (lv' := [(3, _), (4, _), (5, _), (0, _), (1, _), (2, _)]) hX dX11_odds_68 rfl (by rw [hnL]; decide) rfl ?_
            refine j_iinc (lv' := [(5, _), (3, _), (4, _), (0, _), (1, _), (2, _)]) hX dX11_odds_69 2 rfl (by rw [hnL]; decide) rfl ?_
            refine j_goto (tgt := 29) hX dX11_odds_72 (by decide) ?_
            refine j_iload hX dX11_odds_29 0 rfl ?_
            refine j_aload_n hX dX11_odds_31 rfl 3 rfl ?_
            refine j_callVI hX lk_X11_459 (cv_X11_rowsOfRooms _ _ _ _ _ _ _ _ (by omega) hI36 hk42 hk43 (by first | assumption | omega)) (by omega) hce rfl rfl (by omega) (by omega) kc_210 rfl rfl (Nat.le_of_ble_eq_true rfl) dX11_odds_32 (fun z87 M88 hz90 hp89 => ?_)
            obtain ⟨hE91, hq92, hq93, hq94⟩ := hp89
            replace hE91 := hE91.symm
            subst hE91
            refine j_icmp_ge (tgt := 75) hX dX11_odds_35 (by decide) (by omega) (by omega) (fun hc95 => ?_) (fun hc95 => ?_)
            · skip
              refine j_iload_n hX dX11_odds_75 rfl 5 rfl ?_
              refine j_if_ne (tgt := 83) hX dX11_odds_76 (by decide) (by omega) (fun hc96 => ?_) (fun hc96 => ?_)
              · skip
                refine j_iload hX dX11_odds_83 2 rfl ?_
                refine j_iload hX dX11_odds_85 2 rfl ?_
                refine j_iload_n hX dX11_odds_87 rfl 1 rfl ?_
                refine j_callSI hX lk_X11_480 (cv_X11_divisor _ _ _ _ _ _ _ _ (by omega) (by omega) (by first | assumption | omega) (by first | assumption | omega)) (by omega) hce rfl rfl (Nat.le_of_ble_eq_true rfl) dX11_odds_88 (fun z97 M98 hz100 hp99 => ?_)
                obtain ⟨hE101, hq102, hq103⟩ := hp99
                replace hE101 := hE101.symm
                subst hE101
                refine j_idiv hX dX11_odds_91 (by omega) (by omega) (by omega) (fun z104 hz105 hy106 => ?_)
                have hv107 := idivE (x0 := 1) (y0 := 1) (v := 1) hz105 (by omega) (by omega) (by decide) (by decide)
                exact hret _ _ _ _ dX11_odds_92 rfl (by omega) ⟨hI36, hF44, by first | assumption | omega⟩
              · skip
                refine j_iload_n hX dX11_odds_79 rfl 1 rfl ?_
                refine j_goto (tgt := 85) hX dX11_odds_80 (by decide) ?_
                refine j_iload hX dX11_odds_85 2 rfl ?_
                refine j_iload_n hX dX11_odds_87 rfl 1 rfl ?_
                refine j_callSI hX lk_X11_480 (cv_X11_divisor _ _ _ _ _ _ _ _ (by omega) (by omega) (by first | assumption | omega) (by first | assumption | omega)) (by omega) hce rfl rfl (Nat.le_of_ble_eq_true rfl) dX11_odds_88 (fun z108 M109 hz111 hp110 => ?_)
                obtain ⟨hE112, hq113, hq114⟩ := hp110
                replace hE112 := hE112.symm
                subst hE112
                refine j_idiv hX dX11_odds_91 (by omega) (by omega) (by omega) (fun z115 hz116 hy117 => ?_)
                have hv118 := idivE (x0 := 1) (y0 := 1) (v := 1) hz116 (by omega) (by omega) (by decide) (by decide)
                exact hret _ _ _ _ dX11_odds_92 rfl (by omega) ⟨hI36, hF44, by first | assumption | omega⟩
            · exfalso; omega
        · exfalso; omega
    · skip
      clear hq18
      have hi119 := hq19 (by omega)
      clear hq19
      refine j_iconst hX dX11_odds_19 ?_
      exact hret _ _ _ _ dX11_odds_20 rfl (by omega) ⟨hI, hF, by first | assumption | omega⟩
set_option maxHeartbeats 2000000 in
set_option maxRecDepth 20000 in
theorem cv_X11_proof (l : Launch) (D : va_G) (cy : Nat → ClassId) (B N : Nat) (bk : Int) (nr : Int) (nf : Int) (a : Int) (b : Int) (M : MM) (hN : 257 ≤ N) (hI : Iv M) (hpa : I32 a) (hpb : I32 b) (hbk : M.1 210 40 = bk) (hnr : M.1 213 bk = nr) (hk_nf : M.1 214 bk = nf) (hz0 : nr = 0) (hz_nf : nf = 0) : CI l D cy B N 2 yX11_proof cX11_proof 7 (some .int) [rv B 210, iv a, iv b] M (fun z M' => M' = M ∧ ((a = 0 ∧ 0 ≤ b ∧ b ≤ 1 → z = 0) ∧ (¬ (a = 0 ∧ 0 ≤ b ∧ b ≤ 1) → z = -1))) := by
  refine mk_CI (by decide) (Nat.le_of_ble_eq_true rfl) ?_
  intro X exl exD excy hnL hX hret
  have hce : 0 + 0 ≤ (xR X).cells ∧ 0 + 0 ≤ (xR X).slots := ⟨Nat.zero_le _, Nat.zero_le _⟩
  have hbk2 : 0 ≤ bk ∧ bk ≤ 1 := by have := hI.at 210 40 ro_210_40; omega
  have hnr2 : 0 ≤ nr ∧ nr ≤ 6 := by have := hI.at 213 bk (ra_213 _); omega
  show J X B N 0 0 0 [(0, rv B 210), (1, iv a), (2, iv b)] [] M
  refine j_iload_n hX dX11_proof_0 rfl 1 rfl ?_
  refine j_iconst hX dX11_proof_1 ?_
  refine j_iconst hX dX11_proof_2 ?_
  refine j_aload_n hX dX11_proof_3 rfl 0 rfl ?_
  refine gf_X11_24 hX (by omega) (by omega) kc_210 (fc_210_12 hI) (by decide) dX11_proof_4 ?_
  refine j_aload_n hX dX11_proof_7 rfl 0 rfl ?_
  refine gf_X11_279 hX (by omega) (by omega) kc_210 dX11_proof_8 ?_
  refine j_top hbk ?_
  refine j_iald hX (by omega) (by omega) kc_214 (by omega) (by omega) (by omega) dX11_proof_11 ?_
  refine j_top hk_nf ?_
  refine j_ishl hX dX11_proof_12 (fun z1 hz2 hy3 => ?_)
  have hs := (shl_b hz2).2.1 (by omega) (by omega)
  have hv4 := ishlE (x0 := 1) (y0 := 0) (v := 1) hz2 (by omega) (by omega) (by decide)
  refine j_iconst hX dX11_proof_13 ?_
  refine j_isub hX dX11_proof_14 ?_
  refine j_callSI hX lk_X11_388 (c_X11_isIn _ _ _ _ _ _ _ _ _ (by omega) (by omega) (by omega)) (by omega) hce rfl rfl (Nat.le_of_ble_eq_true rfl) dX11_proof_15 (fun z5 M6 hz8 hp7 => ?_)
  obtain ⟨hE9, hb10, hq11, hq12⟩ := hp7
  replace hE9 := hE9.symm
  subst hE9
  refine j_if_eq (tgt := 30) hX dX11_proof_18 (by decide) (by omega) (fun hc13 => ?_) (fun hc13 => ?_)
  · skip
    clear hq11
    have hi14 := hq12 (by omega)
    clear hq12
    refine j_iconst hX dX11_proof_30 ?_
    exact hret _ _ _ _ dX11_proof_31 rfl (by omega) ⟨rfl, by first | assumption | omega⟩
  · skip
    have hi15 := hq11 (by omega)
    clear hq11
    clear hq12
    refine j_iload_n hX dX11_proof_21 rfl 2 rfl ?_
    refine j_iconst hX dX11_proof_22 ?_
    refine j_iconst hX dX11_proof_23 ?_
    refine j_callSI hX lk_X11_388 (c_X11_isIn _ _ _ _ _ _ _ _ _ (by omega) (by omega) (by omega)) (by omega) hce rfl rfl (Nat.le_of_ble_eq_true rfl) dX11_proof_24 (fun z16 M17 hz19 hp18 => ?_)
    obtain ⟨hE20, hb21, hq22, hq23⟩ := hp18
    replace hE20 := hE20.symm
    subst hE20
    refine j_if_ne (tgt := 32) hX dX11_proof_27 (by decide) (by omega) (fun hc24 => ?_) (fun hc24 => ?_)
    · skip
      have hi25 := hq22 (by omega)
      clear hq22
      clear hq23
      refine j_iconst hX dX11_proof_32 ?_
      refine j_istore_n (lv' := [(3, _), (0, _), (1, _), (2, _)]) hX dX11_proof_33 rfl (by rw [hnL]; decide) rfl ?_
      refine j_iconst hX dX11_proof_34 ?_
      refine j_istore (lv' := [(4, _), (3, _), (0, _), (1, _), (2, _)]) hX dX11_proof_35 (by rw [hnL]; decide) rfl ?_
      refine j_iload hX dX11_proof_37 0 rfl ?_
      refine j_iconst hX dX11_proof_39 ?_
      refine j_aload_n hX dX11_proof_40 rfl 2 rfl ?_
      refine j_callVI hX lk_X11_385 (cv_X11_many _ _ _ _ _ _ _ _ (by omega) hI hbk hnr (by first | assumption | omega)) (by omega) hce rfl rfl (by omega) (by omega) kc_210 rfl rfl (Nat.le_of_ble_eq_true rfl) dX11_proof_41 (fun z26 M27 hz29 hp28 => ?_)
      obtain ⟨hE30, hq31, hq32⟩ := hp28
      replace hE30 := hE30.symm
      subst hE30
      refine j_ishl hX dX11_proof_44 (fun z33 hz34 hy35 => ?_)
      have hs2 := (shl_b hz34).1 (by omega) (by omega)
      have hv36 := ishlE (x0 := 1) (y0 := 0) (v := 1) hz34 (by omega) (by omega) (by decide)
      refine j_icmp_ge (tgt := 131) hX dX11_proof_45 (by decide) (by omega) (by omega) (fun hc37 => ?_) (fun hc37 => ?_)
      · exfalso; omega
      · skip
        refine j_iload_n hX dX11_proof_48 rfl 1 rfl ?_
        refine j_if_lt (tgt := 67) hX dX11_proof_49 (by decide) (by omega) (fun hc38 => ?_) (fun hc38 => ?_)
        · skip
          refine j_iconst hX dX11_proof_67 ?_
          refine j_istore (lv' := [(5, _), (4, _), (3, _), (0, _), (1, _), (2, _)]) hX dX11_proof_68 (by rw [hnL]; decide) rfl ?_
          refine j_iconst hX dX11_proof_70 ?_
          refine j_istore (lv' := [(6, _), (5, _), (4, _), (3, _), (0, _), (1, _), (2, _)]) hX dX11_proof_71 (by rw [hnL]; decide) rfl ?_
          refine j_iload hX dX11_proof_73 0 rfl ?_
          refine j_aload_n hX dX11_proof_75 rfl 4 rfl ?_
          refine j_callVI hX lk_X11_385 (cv_X11_many _ _ _ _ _ _ _ _ (by omega) hI hbk hnr (by first | assumption | omega)) (by omega) hce rfl rfl (by omega) (by omega) kc_210 rfl rfl (Nat.le_of_ble_eq_true rfl) dX11_proof_76 (fun z39 M40 hz42 hp41 => ?_)
          obtain ⟨hE43, hq44, hq45⟩ := hp41
          replace hE43 := hE43.symm
          subst hE43
          refine j_icmp_ge (tgt := 113) hX dX11_proof_79 (by decide) (by omega) (by omega) (fun hc46 => ?_) (fun hc46 => ?_)
          · skip
            refine j_iload_n hX dX11_proof_113 rfl 5 rfl ?_
            refine j_iload hX dX11_proof_114 1 rfl ?_
            refine j_iconst hX dX11_proof_116 ?_
            refine j_ixor hX dX11_proof_117 (fun z47 hz48 hy49 => ?_)
            have hv50 := ixorE (x0 := 0) (y0 := -1) (v := -1) hz48 (by omega) (by omega) (by decide)
            refine j_iand hX dX11_proof_118 (fun z51 hz52 hy53 => ?_)
            have hv118 := and0 hz52 (by omega)
            refine j_if_ne (tgt := 125) hX dX11_proof_119 (by decide) (by omega) (fun hc54 => ?_) (fun hc54 => ?_)
            · exfalso; omega
            · skip
              refine j_iload hX dX11_proof_122 2 rfl ?_
              refine j_istore_n (lv' := [(3, _), (6, _), (5, _), (4, _), (0, _), (1, _), (2, _)]) hX dX11_proof_124 rfl (by rw [hnL]; decide) rfl ?_
              refine j_iinc (lv' := [(4, _), (3, _), (6, _), (5, _), (0, _), (1, _), (2, _)]) hX dX11_proof_125 3 rfl (by rw [hnL]; decide) rfl ?_
              refine j_goto (tgt := 37) hX dX11_proof_128 (by decide) ?_
              refine j_iload hX dX11_proof_37 0 rfl ?_
              refine j_iconst hX dX11_proof_39 ?_
              refine j_aload_n hX dX11_proof_40 rfl 4 rfl ?_
              refine j_callVI hX lk_X11_385 (cv_X11_many _ _ _ _ _ _ _ _ (by omega) hI hbk hnr (by first | assumption | omega)) (by omega) hce rfl rfl (by omega) (by omega) kc_210 rfl rfl (Nat.le_of_ble_eq_true rfl) dX11_proof_41 (fun z55 M56 hz58 hp57 => ?_)
              obtain ⟨hE59, hq60, hq61⟩ := hp57
              replace hE59 := hE59.symm
              subst hE59
              refine j_ishl hX dX11_proof_44 (fun z62 hz63 hy64 => ?_)
              have hs2 := (shl_b hz63).1 (by omega) (by omega)
              have hv65 := ishlE (x0 := 1) (y0 := 0) (v := 1) hz63 (by omega) (by omega) (by decide)
              refine j_icmp_ge (tgt := 131) hX dX11_proof_45 (by decide) (by omega) (by omega) (fun hc66 => ?_) (fun hc66 => ?_)
              · skip
                refine j_iload_n hX dX11_proof_131 rfl 1 rfl ?_
                refine j_if_ge (tgt := 139) hX dX11_proof_132 (by decide) (by omega) (fun hc67 => ?_) (fun hc67 => ?_)
                · skip
                  refine j_iload_n hX dX11_proof_139 rfl 6 rfl ?_
                  refine j_if_ne (tgt := 150) hX dX11_proof_140 (by decide) (by omega) (fun hc68 => ?_) (fun hc68 => ?_)
                  · skip
                    refine j_iload_n hX dX11_proof_150 rfl 1 rfl ?_
                    exact hret _ _ _ _ dX11_proof_151 rfl (by omega) ⟨rfl, by first | assumption | omega⟩
                  · skip
                    refine j_iload_n hX dX11_proof_143 rfl 1 rfl ?_
                    refine j_callSI hX lk_X11_372 (cv_X11_bitsOf _ _ _ _ _ _ _ (by omega) (by first | assumption | omega)) (by omega) hce rfl rfl (Nat.le_of_ble_eq_true rfl) dX11_proof_144 (fun z69 M70 hz72 hp71 => ?_)
                    obtain ⟨hE73, hq74⟩ := hp71
                    replace hE73 := hE73.symm
                    subst hE73
                    refine j_goto (tgt := 151) hX dX11_proof_147 (by decide) ?_
                    exact hret _ _ _ _ dX11_proof_151 rfl (by omega) ⟨rfl, by first | assumption | omega⟩
                · exfalso; omega
              · exfalso; omega
          · exfalso; omega
        · exfalso; omega
    · skip
      clear hq22
      have hi75 := hq23 (by omega)
      clear hq23
      refine j_iconst hX dX11_proof_30 ?_
      exact hret _ _ _ _ dX11_proof_31 rfl (by omega) ⟨rfl, by first | assumption | omega⟩
set_option maxHeartbeats 2000000 in
set_option maxRecDepth 20000 in
theorem cv_X11_layLots (l : Launch) (D : va_G) (cy : Nat → ClassId) (B N : Nat) (bk : Int) (nr : Int) (gl : Int) (a : Int) (M : MM) (hN : 257 ≤ N) (hI : Iv M) (hpa : I32 a) (hbk : M.1 210 40 = bk) (hnr : M.1 213 bk = nr) (hk_gl : M.1 210 63 = gl) (hz0 : nr = 0) (hz_gl : gl = 0) : CV l D cy B N 3 yX11_layLots cX11_layLots 4 none [rv B 210, iv a] M (fun M' => Iv M' ∧ Fr (fun a b => (a = 210 ∧ 65 ≤ b ∧ b ≤ 65) ∨ (a = 248) ∨ (a = 254)) M M' ∧ (M'.1 210 65 = 1)) := by
  refine mk_CV (by decide) (Nat.le_of_ble_eq_true rfl) ?_
  intro X exl exD excy hnL hX hret
  have hce : 0 + 0 ≤ (xR X).cells ∧ 0 + 0 ≤ (xR X).slots := ⟨Nat.zero_le _, Nat.zero_le _⟩
  have hF : Fr (fun a b => (a = 210 ∧ 65 ≤ b ∧ b ≤ 65) ∨ (a = 248) ∨ (a = 254)) M M := Fr.rf
  have hbk2 : 0 ≤ bk ∧ bk ≤ 1 := by have := hI.at 210 40 ro_210_40; omega
  have hnr2 : 0 ≤ nr ∧ nr ≤ 6 := by have := hI.at 213 bk (ra_213 _); omega
  have cp : ∀ n : Nat, (∀ (x2 : Int), ∀ (ft : Int), ∀ (Mc : MM), I32 x2 → Iv Mc → Fr (fun a b => (a = 210 ∧ 65 ≤ b ∧ b ≤ 65) ∨ (a = 248) ∨ (a = 254)) M Mc → Mc.1 210 40 = bk → Mc.1 213 bk = nr → Mc.1 210 63 = gl → Mc.1 210 65 = ft → (0 ≤ x2 ∧ x2 ≤ 36) → (ft = 0) → 0 ≤ 32 * (214748364800 + 1000 - x2) + 1 → 32 * (214748364800 + 1000 - x2) + 1 < (n : Int) → J X B N 0 0 7 [(0, rv B 210), (1, iv a), (2, iv x2)] [] Mc) := by
    intro n
    induction n with
    | zero => exact by intros; exfalso; omega
    | succ n ih =>
      · intro x2 ft Mc hxx2 hI hF hk_0 hk_1 hk_2 hk_3 h2 h9 hm0 hm1
        refine j_iload_n hX dX11_layLots_7 rfl 2 rfl ?_
        refine j_bipush hX dX11_layLots_8 rfl ?_
        refine j_icmp_ge (tgt := 26) hX dX11_layLots_10 (by decide) (by omega) (by omega) (fun hc1 => ?_) (fun hc1 => ?_)
        · skip
          refine j_iconst hX dX11_layLots_26 ?_
          refine j_istore_n (lv' := [(2, _), (0, _), (1, _)]) hX dX11_layLots_27 rfl (by rw [hnL]; decide) rfl ?_
          refine j_iload_n hX dX11_layLots_28 rfl 0 rfl ?_
          refine j_aload_n hX dX11_layLots_29 rfl 1 rfl ?_
          refine j_callVI hX lk_X11_459 (cv_X11_rowsOfRooms _ _ _ _ _ _ _ _ (by omega) hI hk_0 hk_1 (by first | assumption | omega)) (by omega) hce rfl rfl (by omega) (by omega) kc_210 rfl rfl (Nat.le_of_ble_eq_true rfl) dX11_layLots_30 (fun z2 M3 hz5 hp4 => ?_)
          obtain ⟨hE6, hq7, hq8, hq9⟩ := hp4
          replace hE6 := hE6.symm
          subst hE6
          refine j_icmp_ge (tgt := 107) hX dX11_layLots_33 (by decide) (by omega) (by omega) (fun hc10 => ?_) (fun hc10 => ?_)
          · exfalso; omega
          · skip
            refine j_aload_n hX dX11_layLots_36 rfl 1 rfl ?_
            refine j_iload_n hX dX11_layLots_37 rfl 0 rfl ?_
            refine j_callVI hX lk_X11_462 (cv_X11_layLot _ _ _ _ _ _ _ _ _ (by omega) hI (by omega) hk_0 hk_1 (by first | assumption | omega) (by first | assumption | omega)) (by omega) hce rfl rfl (by omega) (by omega) kc_210 rfl rfl (Nat.le_of_ble_eq_true rfl) dX11_layLots_38 (fun z11 M12 hz14 hp13 => ?_)
            obtain ⟨hI16, hG17, hb18, hq19, hq20, hq21⟩ := hp13
            have hk22 := kp_fr hG17 (fun h => absurd h (by decide)) hk_0
            have hk23 := kp_fr hG17 (fun h => absurd h (by decide)) hk_1
            have hk24 := kp_fr hG17 (fun h => absurd h (by decide)) hk_2
            have hk25 := kp_fr hG17 (fun h => absurd h (by decide)) hk_3
            have hF26 := Fr.trans hF hG17 (fun a b h => (Or.inr (Or.inl h)))
            refine j_if_eq (tgt := 101) hX dX11_layLots_41 (by decide) (by omega) (fun hc27 => ?_) (fun hc27 => ?_)
            · exfalso; omega
            · skip
              have hi28 := hq19 (by omega)
              clear hq19
              refine j_aload_n hX dX11_layLots_44 rfl 1 rfl ?_
              refine j_iload_n hX dX11_layLots_45 rfl 2 rfl ?_
              refine j_callVI hX lk_X11_496 (cv_X11_doesFit _ _ _ _ _ _ _ _ (by omega) hI16 (by omega) hk24 (by first | assumption | omega)) (by omega) hce rfl rfl (by omega) (by omega) kc_210 rfl rfl (Nat.le_of_ble_eq_true rfl) dX11_layLots_46 (fun z29 M30 hz32 hp31 => ?_)
              obtain ⟨hE33, hb34, hq35⟩ := hp31
              replace hE33 := hE33.symm
              subst hE33
              refine j_if_ne (tgt := 55) hX dX11_layLots_49 (by decide) (by omega) (fun hc36 => ?_) (fun hc36 => ?_)
              · skip
                refine j_aload_n hX dX11_layLots_55 rfl 1 rfl ?_
                refine j_dup hX dX11_layLots_56 rfl ?_
                refine gf_X11_493 hX (by omega) (by omega) kc_210 dX11_layLots_57 ?_
                refine j_top hk25 ?_
                refine j_iconst hX dX11_layLots_60 ?_
                refine j_iadd hX dX11_layLots_61 ?_
                refine pf_X11_493 hX (by omega) (by omega) kc_210 (by omega) dX11_layLots_62 ?_
                refine j_up hI16 ro_210_65 (by omega) (by omega) (Or.inl (by omega)) (fun M37 w38 hw39 hM40 hI41 hf42 => ?_)
                have hk43 := kp_up hM40 (fun h => absurd h.2 (by decide)) hk22
                have hk44 := kp_up hM40 (fun h => absurd h.1 (by decide)) hk23
                have hk45 := kp_up hM40 (fun h => absurd h.2 (by decide)) hk24
                clear hk22 hk23 hk24 hk25
                have hF46 := Fr.put hF26 hM40 ((Or.inl ⟨rfl, by decide, by decide⟩))
                refine j_iconst hX dX11_layLots_65 ?_
                refine j_istore_n (lv' := [(3, _), (2, _), (0, _), (1, _)]) hX dX11_layLots_66 rfl (by rw [hnL]; decide) rfl ?_
                refine j_iload_n hX dX11_layLots_67 rfl 0 rfl ?_
                refine j_aload_n hX dX11_layLots_68 rfl 2 rfl ?_
                refine j_callVI hX lk_X11_385 (cv_X11_many _ _ _ _ _ _ _ _ (by omega) hI41 hk43 hk44 (by first | assumption | omega)) (by omega) hce rfl rfl (by omega) (by omega) kc_210 rfl rfl (Nat.le_of_ble_eq_true rfl) dX11_layLots_69 (fun z47 M48 hz50 hp49 => ?_)
                obtain ⟨hE51, hq52, hq53⟩ := hp49
                replace hE51 := hE51.symm
                subst hE51
                refine j_icmp_ge (tgt := 101) hX dX11_layLots_72 (by decide) (by omega) (by omega) (fun hc54 => ?_) (fun hc54 => ?_)
                · skip
                  refine j_iinc (lv' := [(2, _), (3, _), (0, _), (1, _)]) hX dX11_layLots_101 1 rfl (by rw [hnL]; decide) rfl ?_
                  refine j_goto (tgt := 28) hX dX11_layLots_104 (by decide) ?_
                  refine j_iload_n hX dX11_layLots_28 rfl 0 rfl ?_
                  refine j_aload_n hX dX11_layLots_29 rfl 2 rfl ?_
                  refine j_callVI hX lk_X11_459 (cv_X11_rowsOfRooms _ _ _ _ _ _ _ _ (by omega) hI41 hk43 hk44 (by first | assumption | omega)) (by omega) hce rfl rfl (by omega) (by omega) kc_210 rfl rfl (Nat.le_of_ble_eq_true rfl) dX11_layLots_30 (fun z55 M56 hz58 hp57 => ?_)
                  obtain ⟨hE59, hq60, hq61, hq62⟩ := hp57
                  replace hE59 := hE59.symm
                  subst hE59
                  refine j_icmp_ge (tgt := 107) hX dX11_layLots_33 (by decide) (by omega) (by omega) (fun hc63 => ?_) (fun hc63 => ?_)
                  · skip
                    exact hret _ _ _ dX11_layLots_107 ⟨hI41, hF46, by first | assumption | omega⟩
                  · exfalso; omega
                · exfalso; omega
              · exfalso; omega
        · skip
          refine j_aload_n hX dX11_layLots_13 rfl 0 rfl ?_
          refine gf_X11_146 hX (by omega) (by omega) kc_210 (fc_210_62 hI) (by decide) dX11_layLots_14 ?_
          refine j_iload_n hX dX11_layLots_17 rfl 2 rfl ?_
          refine j_iconst hX dX11_layLots_18 ?_
          refine j_iast hX (by omega) (by omega) kc_254 (by omega) (by omega) (by omega) (by omega) dX11_layLots_19 ?_
          refine j_up hI (ra_254 _) (by omega) (by omega) (Or.inl (by omega)) (fun M64 w65 hw66 hM67 hI68 hf69 => ?_)
          have hk70 := kp_up hM67 (fun h => absurd h.1 (by decide)) hk_0
          have hk71 := kp_up hM67 (fun h => absurd h.1 (by decide)) hk_1
          have hk72 := kp_up hM67 (fun h => absurd h.1 (by decide)) hk_2
          have hk73 := kp_up hM67 (fun h => absurd h.1 (by decide)) hk_3
          have hF74 := Fr.put hF hM67 ((Or.inr (Or.inr rfl)))
          refine j_iinc (lv' := [(2, _), (0, _), (1, _)]) hX dX11_layLots_20 2 rfl (by rw [hnL]; decide) rfl ?_
          refine j_goto (tgt := 7) hX dX11_layLots_23 (by decide) ?_
          refine j_sub [1, 2, 0] rfl ?_
          exact ih _ _ _ (by omega) hI68 hF74 hk70 hk71 hk72 hk73 (by first | assumption | omega) (by first | assumption | omega) (by omega) (by omega)
  show J X B N 0 0 0 [(0, rv B 210), (1, iv a)] [] M
  refine j_aload_n hX dX11_layLots_0 rfl 0 rfl ?_
  refine j_iconst hX dX11_layLots_1 ?_
  refine pf_X11_493 hX (by omega) (by omega) kc_210 (by omega) dX11_layLots_2 ?_
  refine j_up hI ro_210_65 (by omega) (by omega) (Or.inl (by omega)) (fun M75 w76 hw77 hM78 hI79 hf80 => ?_)
  have hk81 := kp_up hM78 (fun h => absurd h.2 (by decide)) hbk
  have hk82 := kp_up hM78 (fun h => absurd h.1 (by decide)) hnr
  have hk83 := kp_up hM78 (fun h => absurd h.2 (by decide)) hk_gl
  have hF84 := Fr.put hF hM78 ((Or.inl ⟨rfl, by decide, by decide⟩))
  refine j_iconst hX dX11_layLots_5 ?_
  refine j_istore_n (lv' := [(2, _), (0, _), (1, _)]) hX dX11_layLots_6 rfl (by rw [hnL]; decide) rfl ?_
  refine j_sub [1, 2, 0] rfl ?_
  refine (cp (Int.toNat (9600000000064 + 1))) _ _ _ (by omega) hI79 hF84 hk81 hk82 hk83 hf80 (by first | assumption | omega) (by first | assumption | omega) ?_ ?_
  · omega
  · omega
set_option maxHeartbeats 2000000 in
set_option maxRecDepth 20000 in
theorem cv_X11_lots (l : Launch) (D : va_G) (cy : Nat → ClassId) (B N : Nat) (bk : Int) (nr : Int) (gl : Int) (a : Int) (M : MM) (hN : 257 ≤ N) (hI : Iv M) (hpa : I32 a) (hbk : M.1 210 40 = bk) (hnr : M.1 213 bk = nr) (hk_gl : M.1 210 63 = gl) (hz0 : nr = 0) (hz_gl : gl = 0) : CI l D cy B N 4 yX11_lots cX11_lots 2 (some .int) [rv B 210, iv a] M (fun z M' => Iv M' ∧ Fr (fun a b => (a = 210 ∧ 65 ≤ b ∧ b ≤ 65) ∨ (a = 248) ∨ (a = 254)) M M' ∧ (z = 1)) := by
  refine mk_CI (by decide) (Nat.le_of_ble_eq_true rfl) ?_
  intro X exl exD excy hnL hX hret
  have hce : 0 + 0 ≤ (xR X).cells ∧ 0 + 0 ≤ (xR X).slots := ⟨Nat.zero_le _, Nat.zero_le _⟩
  have hF : Fr (fun a b => (a = 210 ∧ 65 ≤ b ∧ b ≤ 65) ∨ (a = 248) ∨ (a = 254)) M M := Fr.rf
  have hbk2 : 0 ≤ bk ∧ bk ≤ 1 := by have := hI.at 210 40 ro_210_40; omega
  have hnr2 : 0 ≤ nr ∧ nr ≤ 6 := by have := hI.at 213 bk (ra_213 _); omega
  show J X B N 0 0 0 [(0, rv B 210), (1, iv a)] [] M
  refine j_aload_n hX dX11_lots_0 rfl 0 rfl ?_
  refine j_iload_n hX dX11_lots_1 rfl 1 rfl ?_
  refine j_callVV hX lk_X11_499 (cv_X11_layLots _ _ _ _ _ _ _ _ _ _ (by omega) hI (by omega) hbk hnr hk_gl (by first | assumption | omega) (by first | assumption | omega)) (by omega) hce rfl rfl (by omega) (by omega) kc_210 rfl rfl (Nat.le_of_ble_eq_true rfl) dX11_lots_2 (fun M2 hp3 => ?_)
  obtain ⟨hI6, hG7, hq8⟩ := hp3
  have hk9 := kp_fr hG7 (fun h => h.elim (fun h => absurd h.2.1 (by decide)) (fun h => h.elim (fun h => absurd h (by decide)) (fun h => absurd h (by decide)))) hbk
  have hk10 := kp_fr hG7 (fun h => h.elim (fun h => absurd h.1 (by decide)) (fun h => h.elim (fun h => absurd h (by decide)) (fun h => absurd h (by decide)))) hnr
  have hk11 := kp_fr hG7 (fun h => h.elim (fun h => absurd h.2.1 (by decide)) (fun h => h.elim (fun h => absurd h (by decide)) (fun h => absurd h (by decide)))) hk_gl
  have hF12 := Fr.trans hF hG7 (fun a b h => h.elim (fun h => (Or.inl h)) (fun h => h.elim (fun h => (Or.inr (Or.inl h))) (fun h => (Or.inr (Or.inr h)))))
  refine j_aload_n hX dX11_lots_5 rfl 0 rfl ?_
  refine gf_X11_493 hX (by omega) (by omega) kc_210 dX11_lots_6 ?_
  refine j_name hI6 ro_210_65 (fun v13 hv14 hl15 hh16 => ?_)
  have hk17 := hv14.symm
  exact hret _ _ _ _ dX11_lots_9 rfl (by omega) ⟨hI6, hF12, by first | assumption | omega⟩
set_option maxHeartbeats 2000000 in
set_option maxRecDepth 20000 in
theorem cv_X11_ask (l : Launch) (D : va_G) (cy : Nat → ClassId) (B N : Nat) (bk : Int) (nr : Int) (gl : Int) (a : Int) (b : Int) (M : MM) (hN : 257 ≤ N) (hI : Iv M) (hpa : I32 a) (hpb : I32 b) (hbk : M.1 210 40 = bk) (hnr : M.1 213 bk = nr) (hk_gl : M.1 210 63 = gl) (hz0 : nr = 0) (hz_gl : gl = 0) : CI l D cy B N 4 yX11_ask cX11_ask 8 (some .int) [rv B 210, iv a, iv b] M (fun z M' => Iv M' ∧ Fr (fun a b => (a = 210 ∧ 65 ≤ b ∧ b ≤ 65) ∨ (a = 248) ∨ (a = 254)) M M' ∧ (z = -1)) := by
  refine mk_CI (by decide) (Nat.le_of_ble_eq_true rfl) ?_
  intro X exl exD excy hnL hX hret
  have hce : 0 + 0 ≤ (xR X).cells ∧ 0 + 0 ≤ (xR X).slots := ⟨Nat.zero_le _, Nat.zero_le _⟩
  have hF : Fr (fun a b => (a = 210 ∧ 65 ≤ b ∧ b ≤ 65) ∨ (a = 248) ∨ (a = 254)) M M := Fr.rf
  have hbk2 : 0 ≤ bk ∧ bk ≤ 1 := by have := hI.at 210 40 ro_210_40; omega
  have hnr2 : 0 ≤ nr ∧ nr ≤ 6 := by have := hI.at 213 bk (ra_213 _); omega
  show J X B N 0 0 0 [(0, rv B 210), (1, iv a), (2, iv b)] [] M
  refine j_iload_n hX dX11_ask_0 rfl 1 rfl ?_
  refine j_iconst hX dX11_ask_1 ?_
  refine j_iconst hX dX11_ask_2 ?_
  refine j_callSI hX lk_X11_388 (c_X11_isIn _ _ _ _ _ _ _ _ _ (by omega) (by omega) (by omega)) (by omega) hce rfl rfl (Nat.le_of_ble_eq_true rfl) dX11_ask_3 (fun z1 M2 hz4 hp3 => ?_)
  obtain ⟨hE5, hb6, hq7, hq8⟩ := hp3
  replace hE5 := hE5.symm
  subst hE5
  refine j_if_ne (tgt := 11) hX dX11_ask_6 (by decide) (by omega) (fun hc9 => ?_) (fun hc9 => ?_)
  · skip
    have hi10 := hq7 (by omega)
    clear hq7
    clear hq8
    refine j_aload_n hX dX11_ask_11 rfl 0 rfl ?_
    refine j_iload_n hX dX11_ask_12 rfl 2 rfl ?_
    refine j_callVV hX lk_X11_499 (cv_X11_layLots _ _ _ _ _ _ _ _ _ _ (by omega) hI (by omega) hbk hnr hk_gl (by first | assumption | omega) (by first | assumption | omega)) (by omega) hce rfl rfl (by omega) (by omega) kc_210 rfl rfl (Nat.le_of_ble_eq_true rfl) dX11_ask_13 (fun M12 hp13 => ?_)
    obtain ⟨hI16, hG17, hq18⟩ := hp13
    have hk19 := kp_fr hG17 (fun h => h.elim (fun h => absurd h.2.1 (by decide)) (fun h => h.elim (fun h => absurd h (by decide)) (fun h => absurd h (by decide)))) hbk
    have hk20 := kp_fr hG17 (fun h => h.elim (fun h => absurd h.1 (by decide)) (fun h => h.elim (fun h => absurd h (by decide)) (fun h => absurd h (by decide)))) hnr
    have hk21 := kp_fr hG17 (fun h => h.elim (fun h => absurd h.2.1 (by decide)) (fun h => h.elim (fun h => absurd h (by decide)) (fun h => absurd h (by decide)))) hk_gl
    have hF22 := Fr.trans hF hG17 (fun a b h => h.elim (fun h => (Or.inl h)) (fun h => h.elim (fun h => (Or.inr (Or.inl h))) (fun h => (Or.inr (Or.inr h)))))
    refine j_iconst hX dX11_ask_16 ?_
    refine j_istore_n (lv' := [(3, _), (0, _), (1, _), (2, _)]) hX dX11_ask_17 rfl (by rw [hnL]; decide) rfl ?_
    refine j_iconst hX dX11_ask_18 ?_
    refine j_istore (lv' := [(4, _), (3, _), (0, _), (1, _), (2, _)]) hX dX11_ask_19 (by rw [hnL]; decide) rfl ?_
    refine j_iconst hX dX11_ask_21 ?_
    refine j_istore (lv' := [(5, _), (4, _), (3, _), (0, _), (1, _), (2, _)]) hX dX11_ask_22 (by rw [hnL]; decide) rfl ?_
    refine j_iload hX dX11_ask_24 0 rfl ?_
    refine j_aload_n hX dX11_ask_26 rfl 3 rfl ?_
    refine j_callVI hX lk_X11_385 (cv_X11_many _ _ _ _ _ _ _ _ (by omega) hI16 hk19 hk20 (by first | assumption | omega)) (by omega) hce rfl rfl (by omega) (by omega) kc_210 rfl rfl (Nat.le_of_ble_eq_true rfl) dX11_ask_27 (fun z23 M24 hz26 hp25 => ?_)
    obtain ⟨hE27, hq28, hq29⟩ := hp25
    replace hE27 := hE27.symm
    subst hE27
    refine j_icmp_ge (tgt := 121) hX dX11_ask_30 (by decide) (by omega) (by omega) (fun hc30 => ?_) (fun hc30 => ?_)
    · skip
      refine j_iload_n hX dX11_ask_121 rfl 2 rfl ?_
      refine j_if_ge (tgt := 129) hX dX11_ask_122 (by decide) (by omega) (fun hc31 => ?_) (fun hc31 => ?_)
      · exfalso; omega
      · skip
        refine j_iconst hX dX11_ask_125 ?_
        refine j_goto (tgt := 139) hX dX11_ask_126 (by decide) ?_
        exact hret _ _ _ _ dX11_ask_139 rfl (by omega) ⟨hI16, hF22, by first | assumption | omega⟩
    · exfalso; omega
  · skip
    clear hq7
    have hi32 := hq8 (by omega)
    clear hq8
    refine j_iconst hX dX11_ask_9 ?_
    exact hret _ _ _ _ dX11_ask_10 rfl (by omega) ⟨hI, hF, by first | assumption | omega⟩
set_option maxHeartbeats 2000000 in
set_option maxRecDepth 20000 in
theorem cv_X11_image (l : Launch) (D : va_G) (cy : Nat → ClassId) (B N : Nat) (bk : Int) (nr : Int) (dy : Int) (d : Int) (M : MM) (hN : 257 ≤ N) (hI : Iv M) (hpd : I32 d) (hbk : M.1 210 40 = bk) (hnr : M.1 213 bk = nr) (hk_dy : M.1 242 14 = dy) (hLP : LQ nr 242 0 M) (hBX : BX nr M) (hz0 : nr = 0) (hz_dy : dy = 0) : CI l D cy B N 2 yX11_image cX11_image 3 (some .int) [rv B 210, iv d] M (fun z M' => Iv M' ∧ Fr (fun a b => (a = 255 ∧ 16 * d ≤ b ∧ b ≤ 16 * d + 15) ∨ (a = 256 ∧ d ≤ b ∧ b ≤ d)) M M' ∧ (BX nr M') ∧ ((0 ≤ d ∧ d ≤ 2 → z = 0) ∧ (¬ (0 ≤ d ∧ d ≤ 2) → z = -1))) := by
  refine mk_CI (by decide) (Nat.le_of_ble_eq_true rfl) ?_
  intro X exl exD excy hnL hX hret
  have hce : 0 + 0 ≤ (xR X).cells ∧ 0 + 0 ≤ (xR X).slots := ⟨Nat.zero_le _, Nat.zero_le _⟩
  have hF : Fr (fun a b => (a = 255 ∧ 16 * d ≤ b ∧ b ≤ 16 * d + 15) ∨ (a = 256 ∧ d ≤ b ∧ b ≤ d)) M M := Fr.rf
  have hbk2 : 0 ≤ bk ∧ bk ≤ 1 := by have := hI.at 210 40 ro_210_40; omega
  have hnr2 : 0 ≤ nr ∧ nr ≤ 6 := by have := hI.at 213 bk (ra_213 _); omega
  have cp : ∀ n : Nat, (∀ (x2 : Int), ∀ (Mc : MM), I32 x2 → Iv Mc → Fr (fun a b => (a = 255 ∧ 16 * d ≤ b ∧ b ≤ 16 * d + 15) ∨ (a = 256 ∧ d ≤ b ∧ b ≤ d)) M Mc → Mc.1 210 40 = bk → Mc.1 213 bk = nr → Mc.1 242 14 = dy → (0 ≤ x2 ∧ x2 ≤ 16 ∧ 0 ≤ d ∧ d ≤ 2) → (CP M Mc 255 (16 * d) 242 0 x2) → 0 ≤ 32 * (16 - x2) + 1 → 32 * (16 - x2) + 1 < (n : Int) → J X B N 0 0 13 [(0, rv B 210), (1, iv d), (2, iv x2)] [] Mc) := by
    intro n
    induction n with
    | zero => exact by intros; exfalso; omega
    | succ n ih =>
      · intro x2 Mc hxx2 hI hF hk_0 hk_1 hk_2 h2 h3 hm0 hm1
        refine j_iload_n hX dX11_image_13 rfl 2 rfl ?_
        refine j_bipush hX dX11_image_14 rfl ?_
        refine j_icmp_ge (tgt := 42) hX dX11_image_16 (by decide) (by omega) (by omega) (fun hc1 => ?_) (fun hc1 => ?_)
        · skip
          refine j_aload_n hX dX11_image_42 rfl 0 rfl ?_
          refine gf_X11_152 hX (by omega) (by omega) kc_210 (fc_210_67 hI) (by decide) dX11_image_43 ?_
          refine j_iload_n hX dX11_image_46 rfl 1 rfl ?_
          refine j_iconst hX dX11_image_47 ?_
          refine j_zast hX (by omega) (by omega) kc_256 (by omega) (by omega) (by omega) (by omega) dX11_image_48 ?_
          refine j_up hI (ra_256 _) (by omega) (by omega) (Or.inl (by omega)) (fun M2 w3 hw4 hM5 hI6 hf7 => ?_)
          have hk8 := kp_up hM5 (fun h => absurd h.1 (by decide)) hk_0
          have hk9 := kp_up hM5 (fun h => absurd h.1 (by decide)) hk_1
          have hk10 := kp_up hM5 (fun h => absurd h.1 (by decide)) hk_2
          have hF11 := Fr.put hF hM5 ((Or.inr ⟨rfl, by omega, by omega⟩))
          have hcp2 := CP_up h3 hM5 (by decide)
          have hbx : BX nr M2 := BX_im hBX hLP (fun i p q => hcp2 i p (by omega)) hF11 (fun c b h => by omega)
          refine j_aload_n hX dX11_image_49 rfl 0 rfl ?_
          refine gf_X11_110 hX (by omega) (by omega) kc_210 (fc_210_47 hI6) (by decide) dX11_image_50 ?_
          refine j_bipush hX dX11_image_53 rfl ?_
          refine j_iald hX (by omega) (by omega) kc_242 (by omega) (by omega) (by omega) dX11_image_55 ?_
          refine j_top hk10 ?_
          exact hret _ _ _ _ dX11_image_56 rfl (by omega) ⟨hI6, hF11, by first | exact hbx | exact hBX, by first | assumption | omega⟩
        · skip
          refine j_aload_n hX dX11_image_19 rfl 0 rfl ?_
          refine gf_X11_149 hX (by omega) (by omega) kc_210 (fc_210_66 hI) (by decide) dX11_image_20 ?_
          refine j_bipush hX dX11_image_23 rfl ?_
          refine j_iload_n hX dX11_image_25 rfl 1 rfl ?_
          refine j_imul hX dX11_image_26 ?_
          refine j_iload_n hX dX11_image_27 rfl 2 rfl ?_
          refine j_iadd hX dX11_image_28 ?_
          refine j_aload_n hX dX11_image_29 rfl 0 rfl ?_
          refine gf_X11_110 hX (by omega) (by omega) kc_210 (fc_210_47 hI) (by decide) dX11_image_30 ?_
          refine j_iload_n hX dX11_image_33 rfl 2 rfl ?_
          refine j_iald hX (by omega) (by omega) kc_242 (by omega) (by omega) (by omega) dX11_image_34 ?_
          refine j_name hI (rpx_242 _) (fun v12 hv13 hl14 hh15 => ?_)
          have hval : v12 = M.1 242 (0 + x2) := by rw [hv13, Int.zero_add]; exact hF _ _ (by omega)
          have hri := rAi x2
          refine j_iast hX (by omega) (by omega) kc_255 (by omega) (by omega) (by omega) (by omega) dX11_image_35 ?_
          refine j_up hI (rpb _ _) (by omega) (by omega) (Or.inl (by omega)) (fun M16 w17 hw18 hM19 hI20 hf21 => ?_)
          have hk22 := kp_up hM19 (fun h => absurd h.1 (by decide)) hk_0
          have hk23 := kp_up hM19 (fun h => absurd h.1 (by decide)) hk_1
          have hk24 := kp_up hM19 (fun h => absurd h.1 (by decide)) hk_2
          have hF25 := Fr.put hF hM19 ((Or.inl ⟨rfl, by omega, by omega⟩))
          have hcp := CP_s h3 hM19 (by omega) (hw18.trans hval)
          refine j_iinc (lv' := [(2, _), (0, _), (1, _)]) hX dX11_image_36 2 rfl (by rw [hnL]; decide) rfl ?_
          refine j_goto (tgt := 13) hX dX11_image_39 (by decide) ?_
          refine j_sub [1, 2, 0] rfl ?_
          exact ih _ _ (by omega) hI20 hF25 hk22 hk23 hk24 (by first | assumption | omega) (by first | exact CP_0 | assumption) (by omega) (by omega)
  show J X B N 0 0 0 [(0, rv B 210), (1, iv d)] [] M
  refine j_iload_n hX dX11_image_0 rfl 1 rfl ?_
  refine j_iconst hX dX11_image_1 ?_
  refine j_iconst hX dX11_image_2 ?_
  refine j_callSI hX lk_X11_388 (c_X11_isIn _ _ _ _ _ _ _ _ _ (by omega) (by omega) (by omega)) (by omega) hce rfl rfl (Nat.le_of_ble_eq_true rfl) dX11_image_3 (fun z26 M27 hz29 hp28 => ?_)
  obtain ⟨hE30, hb31, hq32, hq33⟩ := hp28
  replace hE30 := hE30.symm
  subst hE30
  refine j_if_ne (tgt := 11) hX dX11_image_6 (by decide) (by omega) (fun hc34 => ?_) (fun hc34 => ?_)
  · skip
    have hi35 := hq32 (by omega)
    clear hq32
    clear hq33
    refine j_iconst hX dX11_image_11 ?_
    refine j_istore_n (lv' := [(2, _), (0, _), (1, _)]) hX dX11_image_12 rfl (by rw [hnL]; decide) rfl ?_
    refine j_sub [1, 2, 0] rfl ?_
    refine (cp (Int.toNat (576 + 1))) _ _ (by omega) hI hF hbk hnr hk_dy (by first | assumption | omega) (by first | exact CP_0 | assumption) ?_ ?_
    · omega
    · omega
  · skip
    clear hq32
    have hi36 := hq33 (by omega)
    clear hq33
    refine j_iconst hX dX11_image_9 ?_
    exact hret _ _ _ _ dX11_image_10 rfl (by omega) ⟨hI, hF, by first | exact hbx | exact hBX, by first | assumption | omega⟩
set_option maxHeartbeats 2000000 in
set_option maxRecDepth 20000 in
theorem cv_X11_back (l : Launch) (D : va_G) (cy : Nat → ClassId) (B N : Nat) (bk : Int) (nr : Int) (a : Int) (M : MM) (hN : 257 ≤ N) (hI : Iv M) (hpa : I32 a) (hbk : M.1 210 40 = bk) (hnr : M.1 213 bk = nr) (hRS : RS nr M) (hBX : BX nr M) (hbx0 : ∀ k, 0 ≤ k → k < 3 → M.1 256 k = 0) (hz0 : nr = 0) : CI l D cy B N 2 yX11_back cX11_back 3 (some .int) [rv B 210, iv a] M (fun z M' => Iv M' ∧ Fr (fun a b => (a = 210 ∧ 50 ≤ b ∧ b ≤ 51) ∨ (a = 242)) M M' ∧ (RS nr M') ∧ (z = -1)) := by
  refine mk_CI (by decide) (Nat.le_of_ble_eq_true rfl) ?_
  intro X exl exD excy hnL hX hret
  have hce : 0 + 0 ≤ (xR X).cells ∧ 0 + 0 ≤ (xR X).slots := ⟨Nat.zero_le _, Nat.zero_le _⟩
  have hF : Fr (fun a b => (a = 210 ∧ 50 ≤ b ∧ b ≤ 51) ∨ (a = 242)) M M := Fr.rf
  have hbk2 : 0 ≤ bk ∧ bk ≤ 1 := by have := hI.at 210 40 ro_210_40; omega
  have hnr2 : 0 ≤ nr ∧ nr ≤ 6 := by have := hI.at 213 bk (ra_213 _); omega
  show J X B N 0 0 0 [(0, rv B 210), (1, iv a)] [] M
  refine j_iload_n hX dX11_back_0 rfl 1 rfl ?_
  refine j_iconst hX dX11_back_1 ?_
  refine j_iconst hX dX11_back_2 ?_
  refine j_callSI hX lk_X11_388 (c_X11_isIn _ _ _ _ _ _ _ _ _ (by omega) (by omega) (by omega)) (by omega) hce rfl rfl (Nat.le_of_ble_eq_true rfl) dX11_back_3 (fun z1 M2 hz4 hp3 => ?_)
  obtain ⟨hE5, hb6, hq7, hq8⟩ := hp3
  replace hE5 := hE5.symm
  subst hE5
  refine j_if_eq (tgt := 18) hX dX11_back_6 (by decide) (by omega) (fun hc9 => ?_) (fun hc9 => ?_)
  · skip
    clear hq7
    have hi10 := hq8 (by omega)
    clear hq8
    refine j_iconst hX dX11_back_18 ?_
    exact hret _ _ _ _ dX11_back_19 rfl (by omega) ⟨hI, hF, by first | exact hRS | exact RS_mk noRel WS_0 (by omega) (by omega), by first | assumption | omega⟩
  · skip
    have hi11 := hq7 (by omega)
    clear hq7
    clear hq8
    refine j_aload_n hX dX11_back_9 rfl 0 rfl ?_
    refine gf_X11_152 hX (by omega) (by omega) kc_210 (fc_210_67 hI) (by decide) dX11_back_10 ?_
    refine j_iload_n hX dX11_back_13 rfl 1 rfl ?_
    refine j_zald hX (by omega) (by omega) kc_256 (by omega) (by omega) (by omega) dX11_back_14 ?_
    refine j_name hI (ra_256 _) (fun v12 hv13 hl14 hh15 => ?_)
    refine j_if_ne (tgt := 20) hX dX11_back_15 (by decide) (by omega) (fun hc16 => ?_) (fun hc16 => ?_)
    · exfalso; have := hbx0 a (by omega) (by omega); omega
    · skip
      refine j_iconst hX dX11_back_18 ?_
      exact hret _ _ _ _ dX11_back_19 rfl (by omega) ⟨hI, hF, by first | exact hRS | exact RS_mk noRel WS_0 (by omega) (by omega), by first | assumption | omega⟩
set_option maxHeartbeats 2000000 in
set_option maxRecDepth 20000 in
theorem cv_X11_gossip (l : Launch) (D : va_G) (cy : Nat → ClassId) (B N : Nat) (bk : Int) (nr : Int) (a : Int) (M : MM) (hN : 257 ≤ N) (hI : Iv M) (hpa : I32 a) (hbk : M.1 210 40 = bk) (hnr : M.1 213 bk = nr) (hLP : LQ nr 242 0 M) (hz0 : nr = 0) : CI l D cy B N 4 yX11_gossip cX11_gossip 4 (some .int) [rv B 210, iv a] M (fun z M' => Iv M' ∧ Fr (fun a (_ : Int) => (242 ≤ a ∧ a ≤ 243) ∨ (a = 245)) M M' ∧ (LQ nr 242 0 M') ∧ ((0 ≤ a ∧ a ≤ 240 → z = 0) ∧ (¬ (0 ≤ a ∧ a ≤ 240) → z = -1))) := by
  refine mk_CI (by decide) (Nat.le_of_ble_eq_true rfl) ?_
  intro X exl exD excy hnL hX hret
  have hce : 0 + 0 ≤ (xR X).cells ∧ 0 + 0 ≤ (xR X).slots := ⟨Nat.zero_le _, Nat.zero_le _⟩
  have hF : Fr (fun a (_ : Int) => (242 ≤ a ∧ a ≤ 243) ∨ (a = 245)) M M := Fr.rf
  have hbk2 : 0 ≤ bk ∧ bk ≤ 1 := by have := hI.at 210 40 ro_210_40; omega
  have hnr2 : 0 ≤ nr ∧ nr ≤ 6 := by have := hI.at 213 bk (ra_213 _); omega
  have cp : ∀ n : Nat, (∀ (x2 x3 : Int), ∀ (Mc : MM), I32 x2 → I32 x3 → Iv Mc → Fr (fun a (_ : Int) => (242 ≤ a ∧ a ≤ 243) ∨ (a = 245)) M Mc → Mc.1 210 40 = bk → Mc.1 213 bk = nr → LQ nr 242 0 Mc → LQ nr 245 0 Mc → (0 ≤ x3 ∧ x3 ≤ 240 ∧ a ≤ 240) → (x2 = 0 ∧ 0 ≤ a) → 0 ≤ 32 * (240 - x3) + 1 → 32 * (240 - x3) + 1 < (n : Int) → J X B N 0 0 24 [(0, rv B 210), (1, iv a), (2, iv x2), (3, iv x3)] [] Mc) := by
    intro n
    induction n with
    | zero => exact by intros; exfalso; omega
    | succ n ih =>
      · intro x2 x3 Mc hxx2 hxx3 hI hF hk_0 hk_1 hV_0 hV_1 h2 h9 hm0 hm1
        refine j_iload_n hX dX11_gossip_24 rfl 3 rfl ?_
        refine j_iload_n hX dX11_gossip_25 rfl 1 rfl ?_
        refine j_icmp_ge (tgt := 39) hX dX11_gossip_26 (by decide) (by omega) (by omega) (fun hc1 => ?_) (fun hc1 => ?_)
        · skip
          refine j_aload_n hX dX11_gossip_39 rfl 0 rfl ?_
          refine j_callVI hX lk_X11_441 (cv_X11_knownToAll _ _ _ _ _ _ _ _ (by omega) hI hk_0 hk_1 (by first | assumption | omega)) (by omega) hce rfl rfl (by omega) (by omega) kc_210 rfl rfl (Nat.le_of_ble_eq_true rfl) dX11_gossip_40 (fun z2 M3 hz5 hp4 => ?_)
          obtain ⟨hE6, hq7⟩ := hp4
          replace hE6 := hE6.symm
          subst hE6
          refine j_iload_n hX dX11_gossip_43 rfl 2 rfl ?_
          refine j_isub hX dX11_gossip_44 ?_
          refine j_istore_n (lv' := [(3, _), (0, _), (1, _), (2, _)]) hX dX11_gossip_45 rfl (by rw [hnL]; decide) rfl ?_
          refine j_aload_n hX dX11_gossip_46 rfl 1 rfl ?_
          refine j_callVV hX lk_X11_456 (c_X11_bringBack _ _ _ _ _ _ _ _ (by omega) hI hk_0 hk_1 hV_1) (by omega) hce rfl rfl (by omega) (by omega) kc_210 rfl rfl (Nat.le_of_ble_eq_true rfl) dX11_gossip_47 (fun M9 hp10 => ?_)
          obtain ⟨hI13, hG14, hq15⟩ := hp10
          have hV17 := LQ_dp hV_1 (fun a b h => hG14 a b (by omega))
          have hk18 := kp_fr hG14 (fun h => absurd h (by decide)) hk_0
          have hk19 := kp_fr hG14 (fun h => absurd h (by decide)) hk_1
          have hF20 := Fr.trans hF hG14 (fun a b h => (Or.inl ⟨by omega, by omega⟩))
          refine j_iload_n hX dX11_gossip_50 rfl 0 rfl ?_
          exact hret _ _ _ _ dX11_gossip_51 rfl (by omega) ⟨hI13, hF20, hq15, by first | assumption | omega⟩
        · skip
          refine j_aload_n hX dX11_gossip_29 rfl 0 rfl ?_
          refine j_callVV hX lk_X11_444 (c_X11_goHour _ _ _ _ _ _ _ _ (by omega) hI hk_0 hk_1) (by omega) hce rfl rfl (by omega) (by omega) kc_210 rfl rfl (Nat.le_of_ble_eq_true rfl) dX11_gossip_30 (fun M22 hp23 => ?_)
          obtain ⟨hI26, hG27⟩ := hp23
          have hV28 := LQ_dp hV_0 (fun a b h => hG27 a b (by omega))
          have hV29 := LQ_dp hV_1 (fun a b h => hG27 a b (by omega))
          have hk30 := kp_fr hG27 (fun h => h.elim (fun h => absurd h.1 (by decide)) (fun h => absurd h (by decide))) hk_0
          have hk31 := kp_fr hG27 (fun h => h.elim (fun h => absurd h.1 (by decide)) (fun h => absurd h (by decide))) hk_1
          have hF32 := Fr.trans hF hG27 (fun a b h => h.elim (fun h => (Or.inl ⟨by omega, by omega⟩)) (fun h => (Or.inl ⟨by omega, by omega⟩)))
          refine j_iinc (lv' := [(3, _), (0, _), (1, _), (2, _)]) hX dX11_gossip_33 3 rfl (by rw [hnL]; decide) rfl ?_
          refine j_goto (tgt := 24) hX dX11_gossip_36 (by decide) ?_
          refine j_sub [1, 2, 3, 0] rfl ?_
          exact ih _ _ _ (by omega) (by omega) hI26 hF32 hk30 hk31 hV28 hV29 (by first | assumption | omega) (by first | assumption | omega) (by omega) (by omega)
  show J X B N 0 0 0 [(0, rv B 210), (1, iv a)] [] M
  refine j_iload_n hX dX11_gossip_0 rfl 1 rfl ?_
  refine j_iconst hX dX11_gossip_1 ?_
  refine j_sipush hX dX11_gossip_2 rfl ?_
  refine j_callSI hX lk_X11_388 (c_X11_isIn _ _ _ _ _ _ _ _ _ (by omega) (by omega) (by omega)) (by omega) hce rfl rfl (Nat.le_of_ble_eq_true rfl) dX11_gossip_5 (fun z33 M34 hz36 hp35 => ?_)
  obtain ⟨hE37, hb38, hq39, hq40⟩ := hp35
  replace hE37 := hE37.symm
  subst hE37
  refine j_if_ne (tgt := 13) hX dX11_gossip_8 (by decide) (by omega) (fun hc41 => ?_) (fun hc41 => ?_)
  · skip
    have hi42 := hq39 (by omega)
    clear hq39
    clear hq40
    refine j_aload_n hX dX11_gossip_13 rfl 0 rfl ?_
    refine j_callVV hX lk_X11_450 (c_X11_keepNow _ _ _ _ _ _ _ _ (by omega) hI hbk hnr hLP) (by omega) hce rfl rfl (by omega) (by omega) kc_210 rfl rfl (Nat.le_of_ble_eq_true rfl) dX11_gossip_14 (fun M44 hp45 => ?_)
    obtain ⟨hI48, hG49, hq50⟩ := hp45
    have hV51 := LQ_dp hLP (fun a b h => hG49 a b (by omega))
    have hk52 := kp_fr hG49 (fun h => absurd h (by decide)) hbk
    have hk53 := kp_fr hG49 (fun h => absurd h (by decide)) hnr
    have hF54 := Fr.trans hF hG49 (fun a b h => (Or.inr h))
    refine j_aload_n hX dX11_gossip_17 rfl 0 rfl ?_
    refine j_callVI hX lk_X11_441 (cv_X11_knownToAll _ _ _ _ _ _ _ _ (by omega) hI48 hk52 hk53 (by first | assumption | omega)) (by omega) hce rfl rfl (by omega) (by omega) kc_210 rfl rfl (Nat.le_of_ble_eq_true rfl) dX11_gossip_18 (fun z55 M56 hz58 hp57 => ?_)
    obtain ⟨hE59, hq60⟩ := hp57
    replace hE59 := hE59.symm
    subst hE59
    refine j_istore_n (lv' := [(2, _), (0, _), (1, _)]) hX dX11_gossip_21 rfl (by rw [hnL]; decide) rfl ?_
    refine j_iconst hX dX11_gossip_22 ?_
    refine j_istore_n (lv' := [(3, _), (2, _), (0, _), (1, _)]) hX dX11_gossip_23 rfl (by rw [hnL]; decide) rfl ?_
    refine j_sub [2, 3, 1, 0] rfl ?_
    refine (cp (Int.toNat (7744 + 1))) _ _ _ (by omega) (by omega) hI48 hF54 hk52 hk53 hV51 hq50 (by first | assumption | omega) (by first | assumption | omega) ?_ ?_
    · omega
    · omega
  · skip
    clear hq39
    have hi61 := hq40 (by omega)
    clear hq40
    refine j_iconst hX dX11_gossip_11 ?_
    exact hret _ _ _ _ dX11_gossip_12 rfl (by omega) ⟨hI, hF, hLP, by first | assumption | omega⟩
set_option maxHeartbeats 2000000 in
set_option maxRecDepth 20000 in
theorem cv_X11_hour (l : Launch) (D : va_G) (cy : Nat → ClassId) (B N : Nat) (bk : Int) (nr : Int) (dy : Int) (M : MM) (hN : 257 ≤ N) (hI : Iv M) (hbk : M.1 210 40 = bk) (hnr : M.1 213 bk = nr) (hk_dy : M.1 242 14 = dy) (hRS : RS nr M) (hz0 : nr = 0) (hz_dy : dy = 0) : CI l D cy B N 4 yX11_hour cX11_hour 2 (some .int) [rv B 210] M (fun z M' => Iv M' ∧ Fr (fun a b => (a = 210 ∧ 50 ≤ b ∧ b ≤ 51) ∨ (a = 244) ∨ (242 ≤ a ∧ a ≤ 243)) M M' ∧ (RS nr M') ∧ (z = 0)) := by
  refine mk_CI (by decide) (Nat.le_of_ble_eq_true rfl) ?_
  intro X exl exD excy hnL hX hret
  have hce : 0 + 0 ≤ (xR X).cells ∧ 0 + 0 ≤ (xR X).slots := ⟨Nat.zero_le _, Nat.zero_le _⟩
  have hF : Fr (fun a b => (a = 210 ∧ 50 ≤ b ∧ b ≤ 51) ∨ (a = 244) ∨ (242 ≤ a ∧ a ≤ 243)) M M := Fr.rf
  have hbk2 : 0 ≤ bk ∧ bk ≤ 1 := by have := hI.at 210 40 ro_210_40; omega
  have hnr2 : 0 ≤ nr ∧ nr ≤ 6 := by have := hI.at 213 bk (ra_213 _); omega
  show J X B N 0 0 0 [(0, rv B 210)] [] M
  refine j_aload_n hX dX11_hour_0 rfl 0 rfl ?_
  refine gf_X11_110 hX (by omega) (by omega) kc_210 (fc_210_47 hI) (by decide) dX11_hour_1 ?_
  refine j_bipush hX dX11_hour_4 rfl ?_
  refine j_iald hX (by omega) (by omega) kc_242 (by omega) (by omega) (by omega) dX11_hour_6 ?_
  refine j_top hk_dy ?_
  refine j_sipush hX dX11_hour_7 rfl ?_
  refine j_icmp_le (tgt := 15) hX dX11_hour_10 (by decide) (by omega) (by omega) (fun hc1 => ?_) (fun hc1 => ?_)
  · skip
    refine j_aload_n hX dX11_hour_15 rfl 0 rfl ?_
    refine j_callVV hX lk_X11_435 (c_X11_keepAct _ _ _ _ _ _ _ _ (by omega) hI hbk hnr hRS) (by omega) hce rfl rfl (by omega) (by omega) kc_210 rfl rfl (Nat.le_of_ble_eq_true rfl) dX11_hour_16 (fun M3 hp4 => ?_)
    obtain ⟨hI7, hG8, hq9⟩ := hp4
    have hk11 := kp_fr hG8 (fun h => h.elim (fun h => absurd h.2.1 (by decide)) (fun h => absurd h (by decide))) hbk
    have hk12 := kp_fr hG8 (fun h => h.elim (fun h => absurd h.1 (by decide)) (fun h => absurd h (by decide))) hnr
    have hk13 := kp_fr hG8 (fun h => h.elim (fun h => absurd h.1 (by decide)) (fun h => absurd h (by decide))) hk_dy
    have hF14 := Fr.trans hF hG8 (fun a b h => h.elim (fun h => (Or.inl h)) (fun h => (Or.inr (Or.inl h))))
    refine j_aload_n hX dX11_hour_19 rfl 0 rfl ?_
    refine j_callVI hX lk_X11_441 (cv_X11_knownToAll _ _ _ _ _ _ _ _ (by omega) hI7 hk11 hk12 (by first | assumption | omega)) (by omega) hce rfl rfl (by omega) (by omega) kc_210 rfl rfl (Nat.le_of_ble_eq_true rfl) dX11_hour_20 (fun z15 M16 hz18 hp17 => ?_)
    obtain ⟨hE19, hq20⟩ := hp17
    replace hE19 := hE19.symm
    subst hE19
    refine j_istore_n (lv' := [(1, _), (0, _)]) hX dX11_hour_23 rfl (by rw [hnL]; decide) rfl ?_
    refine j_aload_n hX dX11_hour_24 rfl 1 rfl ?_
    refine j_callVV hX lk_X11_444 (c_X11_goHour _ _ _ _ _ _ _ _ (by omega) hI7 hk11 hk12) (by omega) hce rfl rfl (by omega) (by omega) kc_210 rfl rfl (Nat.le_of_ble_eq_true rfl) dX11_hour_25 (fun M22 hp23 => ?_)
    obtain ⟨hI26, hG27⟩ := hp23
    have hV28 := RS_dp hq9 (fun a b h => hG27 a b (by omega))
    have hk29 := kp_fr hG27 (fun h => h.elim (fun h => absurd h.1 (by decide)) (fun h => absurd h (by decide))) hk11
    have hk30 := kp_fr hG27 (fun h => h.elim (fun h => absurd h.1 (by decide)) (fun h => absurd h (by decide))) hk12
    clear hk11 hk12 hk13
    have hF31 := Fr.trans hF14 hG27 (fun a b h => h.elim (fun h => (Or.inr (Or.inr ⟨by omega, by omega⟩))) (fun h => (Or.inr (Or.inr ⟨by omega, by omega⟩))))
    refine j_aload_n hX dX11_hour_28 rfl 1 rfl ?_
    refine j_callVI hX lk_X11_441 (cv_X11_knownToAll _ _ _ _ _ _ _ _ (by omega) hI26 hk29 hk30 (by first | assumption | omega)) (by omega) hce rfl rfl (by omega) (by omega) kc_210 rfl rfl (Nat.le_of_ble_eq_true rfl) dX11_hour_29 (fun z32 M33 hz35 hp34 => ?_)
    obtain ⟨hE36, hq37⟩ := hp34
    replace hE36 := hE36.symm
    subst hE36
    refine j_iload_n hX dX11_hour_32 rfl 0 rfl ?_
    refine j_isub hX dX11_hour_33 ?_
    exact hret _ _ _ _ dX11_hour_34 rfl (by omega) ⟨hI26, hF31, hV28, by first | assumption | omega⟩
  · exfalso; omega
set_option maxHeartbeats 2000000 in
set_option maxRecDepth 20000 in
theorem cv_X11_isGood (l : Launch) (D : va_G) (cy : Nat → ClassId) (B N : Nat) (fk : Int) (M : MM) (hN : 257 ≤ N) (hI : Iv M) (hk_fk : M.1 210 4 = fk) (hz_fk : fk = 0) : CI l D cy B N 1 yX11_isGood cX11_isGood 1 (some .boolean) [rv B 210] M (fun z M' => M' = M ∧ (0 ≤ z ∧ z ≤ 1) ∧ (z = 1 → M.1 210 4 = 0) ∧ (z = 0 → M.1 210 4 ≠ 0) ∧ (z = 1)) := by
  refine mk_CI (by decide) (Nat.le_of_ble_eq_true rfl) ?_
  intro X exl exD excy hnL hX hret
  have hce : 0 + 0 ≤ (xR X).cells ∧ 0 + 0 ≤ (xR X).slots := ⟨Nat.zero_le _, Nat.zero_le _⟩
  show J X B N 0 0 0 [(0, rv B 210)] [] M
  refine j_aload_n hX dX11_isGood_0 rfl 0 rfl ?_
  refine gf_X11_164 hX (by omega) (by omega) kc_210 dX11_isGood_1 ?_
  refine j_top hk_fk ?_
  refine j_if_ne (tgt := 11) hX dX11_isGood_4 (by decide) (by omega) (fun hc1 => ?_) (fun hc1 => ?_)
  · exfalso; omega
  · skip
    refine j_iconst hX dX11_isGood_7 ?_
    refine j_goto (tgt := 12) hX dX11_isGood_8 (by decide) ?_
    exact hret _ _ _ _ dX11_isGood_12 (nb (by omega)) (by omega) ⟨rfl, by omega, by first | assumption | omega, by first | assumption | omega, by first | assumption | omega⟩
set_option maxHeartbeats 2000000 in
set_option maxRecDepth 20000 in
theorem cv_X11_goOn (l : Launch) (D : va_G) (cy : Nat → ClassId) (B N : Nat) (m : Int) (tz : Int) (en : Int) (M : MM) (hN : 257 ≤ N) (hI : Iv M) (htz : M.1 210 3 = tz) (hk_en : M.1 210 7 = en) (hML : ML m M) (hz_tz : tz = 0) (hz_en : en = 0) : CV l D cy B N 2 yX11_goOn cX11_goOn 3 none [rv B 210] M (fun M' => Iv M' ∧ Fr (fun a b => (a = 210 ∧ 6 ≤ b ∧ b ≤ 10)) M M' ∧ (ML m M') ∧ (M.1 210 4 = 0 → M.1 210 8 ≠ 0 → ML (m - 1) M') ∧ (M'.1 210 8 = 0)) := by
  refine mk_CV (by decide) (Nat.le_of_ble_eq_true rfl) ?_
  intro X exl exD excy hnL hX hret
  have hce : 0 + 0 ≤ (xR X).cells ∧ 0 + 0 ≤ (xR X).slots := ⟨Nat.zero_le _, Nat.zero_le _⟩
  have hF : Fr (fun a b => (a = 210 ∧ 6 ≤ b ∧ b ≤ 10)) M M := Fr.rf
  have hk1 : M.1 210 4 = M.1 210 4 := rfl
  have htz2 : 0 ≤ tz ∧ tz ≤ 1600 := by have := hI.at 210 3 ro_210_3; omega
  show J X B N 0 0 0 [(0, rv B 210)] [] M
  refine j_aload_n hX dX11_goOn_0 rfl 0 rfl ?_
  refine j_aload_n hX dX11_goOn_1 rfl 0 rfl ?_
  refine gf_X11_211 hX (by omega) (by omega) kc_210 dX11_goOn_2 ?_
  refine j_top hk_en ?_
  refine pf_X11_214 hX (by omega) (by omega) kc_210 (by omega) dX11_goOn_5 ?_
  refine j_up hI ro_210_6 (by omega) (by omega) (Or.inl (by omega)) (fun M2 w3 hw4 hM5 hI6 hf7 => ?_)
  have hk8 := kp_up hM5 (fun h => absurd h.2 (by decide)) htz
  have hk9 := kp_up hM5 (fun h => absurd h.2 (by decide)) hk_en
  have hk10 := kp_up hM5 (fun h => absurd h.2 (by decide)) hk1
  clear hk1
  have hF11 := Fr.put hF hM5 (⟨rfl, by decide, by decide⟩)
  refine j_aload_n hX dX11_goOn_8 rfl 0 rfl ?_
  refine gf_X11_214 hX (by omega) (by omega) kc_210 dX11_goOn_9 ?_
  refine j_top hf7 ?_
  refine j_aload_n hX dX11_goOn_12 rfl 0 rfl ?_
  refine gf_X11_161 hX (by omega) (by omega) kc_210 dX11_goOn_13 ?_
  refine j_top hk8 ?_
  refine j_icmp_ge (tgt := 58) hX dX11_goOn_16 (by decide) (by omega) (by omega) (fun hc12 => ?_) (fun hc12 => ?_)
  · skip
    refine j_aload_n hX dX11_goOn_58 rfl 0 rfl ?_
    refine j_aload_n hX dX11_goOn_59 rfl 0 rfl ?_
    refine gf_X11_214 hX (by omega) (by omega) kc_210 dX11_goOn_60 ?_
    refine j_top hf7 ?_
    refine j_callVI hX lk_X11_217 (c_X11_sign _ _ _ _ _ _ _ _ (by omega) hI6 (by omega) hk8 (by first | assumption | omega)) (by omega) hce rfl rfl (by omega) (by omega) kc_210 rfl rfl (Nat.le_of_ble_eq_true rfl) dX11_goOn_63 (fun z13 M14 hz16 hp15 => ?_)
    obtain ⟨hE17, hq18, hq19, hq20⟩ := hp15
    replace hE17 := hE17.symm
    subst hE17
    refine j_istore_n (lv' := [(1, _), (0, _)]) hX dX11_goOn_66 rfl (by rw [hnL]; decide) rfl ?_
    refine j_aload_n hX dX11_goOn_67 rfl 1 rfl ?_
    refine j_aload_n hX dX11_goOn_68 rfl 1 rfl ?_
    refine gf_X11_214 hX (by omega) (by omega) kc_210 dX11_goOn_69 ?_
    refine j_top hf7 ?_
    refine j_iconst hX dX11_goOn_72 ?_
    refine j_iadd hX dX11_goOn_73 ?_
    refine pf_X11_211 hX (by omega) (by omega) kc_210 (by omega) dX11_goOn_74 ?_
    refine j_upR (fun M21 w22 hw23 hM24 hf25 => ?_)
    have hV26 := sg_dp (M' := M21) hq20 (fun a b h => by rw [hM24]; exact up_ne (by omega))
    have hk27 := kp_up hM24 (fun h => absurd h.2 (by decide)) hk8
    have hk28 := kp_up hM24 (fun h => absurd h.2 (by decide)) hk10
    have hk29 := kp_up hM24 (fun h => absurd h.2 (by decide)) hf7
    clear hk8 hk9 hk10 hf7
    have hF30 := Fr.put hF11 hM24 (by omega)
    refine j_aload_n hX dX11_goOn_77 rfl 1 rfl ?_
    refine gf_X11_214 hX (by omega) (by omega) kc_210 dX11_goOn_78 ?_
    refine j_top hk29 ?_
    refine j_aload_n hX dX11_goOn_81 rfl 1 rfl ?_
    refine gf_X11_161 hX (by omega) (by omega) kc_210 dX11_goOn_82 ?_
    refine j_top hk27 ?_
    refine j_icmp_lt (tgt := 112) hX dX11_goOn_85 (by decide) (by omega) (by omega) (fun hc31 => ?_) (fun hc31 => ?_)
    · exfalso; omega
    · skip
      refine j_aload_n hX dX11_goOn_88 rfl 1 rfl ?_
      refine j_iconst hX dX11_goOn_89 ?_
      refine pf_X11_221 hX (by omega) (by omega) kc_210 (by omega) dX11_goOn_90 ?_
      refine j_upR (fun M32 w33 hw34 hM35 hf36 => ?_)
      have hV37 := sg_dp (M' := M32) hV26 (fun a b h => by rw [hM35]; exact up_ne (by omega))
      have hk38 := kp_up hM35 (fun h => absurd h.2 (by decide)) hk27
      have hk39 := kp_up hM35 (fun h => absurd h.2 (by decide)) hk28
      have hk40 := kp_up hM35 (fun h => absurd h.2 (by decide)) hk29
      have hk41 := kp_up hM35 (fun h => absurd h.2 (by decide)) hf25
      clear hk27 hk28 hk29 hf25
      have hF42 := Fr.put hF30 hM35 (by omega)
      refine j_aload_n hX dX11_goOn_93 rfl 1 rfl ?_
      refine j_aload_n hX dX11_goOn_94 rfl 1 rfl ?_
      refine gf_X11_161 hX (by omega) (by omega) kc_210 dX11_goOn_95 ?_
      refine j_top hk38 ?_
      refine pf_X11_214 hX (by omega) (by omega) kc_210 (by omega) dX11_goOn_98 ?_
      refine j_upR (fun M43 w44 hw45 hM46 hf47 => ?_)
      have hV48 := sg_dp (M' := M43) hV37 (fun a b h => by rw [hM46]; exact up_ne (by omega))
      have hk49 := kp_up hM46 (fun h => absurd h.2 (by decide)) hk38
      have hk50 := kp_up hM46 (fun h => absurd h.2 (by decide)) hk39
      have hk51 := kp_up hM46 (fun h => absurd h.2 (by decide)) hk41
      have hk52 := kp_up hM46 (fun h => absurd h.2 (by decide)) hf36
      clear hk38 hk39 hk40 hk41 hf36
      have hF53 := Fr.put hF42 hM46 (by omega)
      refine j_aload_n hX dX11_goOn_101 rfl 1 rfl ?_
      refine j_aload_n hX dX11_goOn_102 rfl 1 rfl ?_
      refine gf_X11_161 hX (by omega) (by omega) kc_210 dX11_goOn_103 ?_
      refine j_top hk49 ?_
      refine pf_X11_211 hX (by omega) (by omega) kc_210 (by omega) dX11_goOn_106 ?_
      refine j_upR (fun M54 w55 hw56 hM57 hf58 => ?_)
      have hV59 := sg_dp (M' := M54) hV48 (fun a b h => by rw [hM57]; exact up_ne (by omega))
      have hk60 := kp_up hM57 (fun h => absurd h.2 (by decide)) hk49
      have hk61 := kp_up hM57 (fun h => absurd h.2 (by decide)) hk50
      have hk62 := kp_up hM57 (fun h => absurd h.2 (by decide)) hk52
      have hk63 := kp_up hM57 (fun h => absurd h.2 (by decide)) hf47
      clear hk49 hk50 hk51 hk52 hf47
      have hF64 := Fr.put hF53 hM57 (by omega)
      have hI65 : Iv M54 := iv_r4 hI6 hM24 hM35 hM46 hM57 (by omega) (by omega) (by omega) (by omega) (by omega)
      refine j_goto (tgt := 377) hX dX11_goOn_109 (by decide) ?_
      exact hret _ _ _ dX11_goOn_377 ⟨hI65, hF64, (ML_go hML (hF64 210 3 (by omega)) (hF64 210 4 (by omega)) (by omega) (by omega)).1, (ML_go hML (hF64 210 3 (by omega)) (hF64 210 4 (by omega)) (by omega) (by omega)).2, by first | assumption | omega⟩
  · exfalso; omega
set_option maxHeartbeats 2000000 in
set_option maxRecDepth 20000 in
theorem cv_X11_quarter (l : Launch) (D : va_G) (cy : Nat → ClassId) (B N : Nat) (bk : Int) (nr : Int) (t0 : Int) (M : MM) (hN : 257 ≤ N) (hI : Iv M) (hbk : M.1 210 40 = bk) (hk_t0 : M.1 210 2 = t0) (hRI : RI0 bk nr M) (hz0 : nr = 0) (hz_t0 : t0 = 0) : CI l D cy B N 8 yX11_quarter cX11_quarter 2 (some .int) [rv B 210] M (fun z M' => Iv M' ∧ Fr (fun a b => (a = 210 ∧ 2 ≤ b ∧ b ≤ 54) ∨ (a = 210 ∧ 63 ≤ b ∧ b ≤ 63) ∨ (212 ≤ a ∧ a ≤ 240) ∨ (a = 242) ∨ (a = 247) ∨ (a = 256)) M M' ∧ (RI M') ∧ (z = 0)) := by
  refine mk_CI (by decide) (Nat.le_of_ble_eq_true rfl) ?_
  intro X exl exD excy hnL hX hret
  have hce : 0 + 0 ≤ (xR X).cells ∧ 0 + 0 ≤ (xR X).slots := ⟨Nat.zero_le _, Nat.zero_le _⟩
  have hF : Fr (fun a b => (a = 210 ∧ 2 ≤ b ∧ b ≤ 54) ∨ (a = 210 ∧ 63 ≤ b ∧ b ≤ 63) ∨ (212 ≤ a ∧ a ≤ 240) ∨ (a = 242) ∨ (a = 247) ∨ (a = 256)) M M := Fr.rf
  have hk1 : M.1 210 4 = M.1 210 4 := rfl
  have hbk2 : 0 ≤ bk ∧ bk ≤ 1 := by have := hI.at 210 40 ro_210_40; omega
  show J X B N 0 0 0 [(0, rv B 210)] [] M
  refine j_aload_n hX dX11_quarter_0 rfl 0 rfl ?_
  refine j_iconst hX dX11_quarter_1 ?_
  refine pf_X11_164 hX (by omega) (by omega) kc_210 (by omega) dX11_quarter_2 ?_
  refine j_up hI ro_210_4 (by omega) (by omega) (Or.inl (by omega)) (fun M2 w3 hw4 hM5 hI6 hf7 => ?_)
  have hV8 := RI0_dp (M' := M2) hRI (fun a b h => by rw [hM5]; exact up_ne (by omega))
  have hk9 := kp_up hM5 (fun h => absurd h.2 (by decide)) hbk
  have hk10 := kp_up hM5 (fun h => absurd h.2 (by decide)) hk_t0
  clear hk1
  have hF11 := Fr.put hF hM5 ((Or.inl ⟨rfl, by decide, by decide⟩))
  refine j_aload_n hX dX11_quarter_5 rfl 0 rfl ?_
  refine j_iconst hX dX11_quarter_6 ?_
  refine pf_X11_16 hX (by omega) (by omega) kc_210 (by omega) dX11_quarter_7 ?_
  refine j_up hI6 ro_210_5 (by omega) (by omega) (Or.inl (by omega)) (fun M12 w13 hw14 hM15 hI16 hf17 => ?_)
  have hV18 := RI0_dp (M' := M12) hV8 (fun a b h => by rw [hM15]; exact up_ne (by omega))
  have hk19 := kp_up hM15 (fun h => absurd h.2 (by decide)) hk9
  have hk20 := kp_up hM15 (fun h => absurd h.2 (by decide)) hk10
  have hk21 := kp_up hM15 (fun h => absurd h.2 (by decide)) hf7
  clear hk9 hk10 hf7
  have hF22 := Fr.put hF11 hM15 ((Or.inl ⟨rfl, by decide, by decide⟩))
  refine j_aload_n hX dX11_quarter_10 rfl 0 rfl ?_
  refine j_aload_n hX dX11_quarter_11 rfl 0 rfl ?_
  refine gf_X11_276 hX (by omega) (by omega) kc_210 dX11_quarter_12 ?_
  refine j_top hk20 ?_
  refine pf_X11_161 hX (by omega) (by omega) kc_210 (by omega) dX11_quarter_15 ?_
  refine j_up hI16 ro_210_3 (by omega) (by omega) (Or.inl (by omega)) (fun M23 w24 hw25 hM26 hI27 hf28 => ?_)
  have hV29 := RI0_dp (M' := M23) hV18 (fun a b h => by rw [hM26]; exact up_ne (by omega))
  have hk30 := kp_up hM26 (fun h => absurd h.2 (by decide)) hk19
  have hk31 := kp_up hM26 (fun h => absurd h.2 (by decide)) hk20
  have hk32 := kp_up hM26 (fun h => absurd h.2 (by decide)) hk21
  have hk33 := kp_up hM26 (fun h => absurd h.2 (by decide)) hf17
  clear hk19 hk20 hk21 hf17
  have hF34 := Fr.put hF22 hM26 ((Or.inl ⟨rfl, by decide, by decide⟩))
  refine j_iconst hX dX11_quarter_18 ?_
  refine j_istore_n (lv' := [(1, _), (0, _)]) hX dX11_quarter_19 rfl (by rw [hnL]; decide) rfl ?_
  refine j_iload_n hX dX11_quarter_20 rfl 0 rfl ?_
  refine j_aload_n hX dX11_quarter_21 rfl 1 rfl ?_
  refine gf_X11_161 hX (by omega) (by omega) kc_210 dX11_quarter_22 ?_
  refine j_top hf28 ?_
  refine j_icmp_ge (tgt := 46) hX dX11_quarter_25 (by decide) (by omega) (by omega) (fun hc35 => ?_) (fun hc35 => ?_)
  · skip
    refine j_aload_n hX dX11_quarter_46 rfl 1 rfl ?_
    refine j_iconst hX dX11_quarter_47 ?_
    refine pf_X11_276 hX (by omega) (by omega) kc_210 (by omega) dX11_quarter_48 ?_
    refine j_up hI27 ro_210_2 (by omega) (by omega) (Or.inl (by omega)) (fun M36 w37 hw38 hM39 hI40 hf41 => ?_)
    have hV42 := RI0_dp (M' := M36) hV29 (fun a b h => by rw [hM39]; exact up_ne (by omega))
    have hk43 := kp_up hM39 (fun h => absurd h.2 (by decide)) hk30
    have hk44 := kp_up hM39 (fun h => absurd h.2 (by decide)) hk32
    have hk45 := kp_up hM39 (fun h => absurd h.2 (by decide)) hk33
    have hk46 := kp_up hM39 (fun h => absurd h.2 (by decide)) hf28
    clear hk30 hk31 hk32 hk33 hf28
    have hF47 := Fr.put hF34 hM39 ((Or.inl ⟨rfl, by decide, by decide⟩))
    refine j_aload_n hX dX11_quarter_51 rfl 1 rfl ?_
    refine j_iconst hX dX11_quarter_52 ?_
    refine pf_X11_211 hX (by omega) (by omega) kc_210 (by omega) dX11_quarter_53 ?_
    refine j_up hI40 ro_210_7 (by omega) (by omega) (Or.inl (by omega)) (fun M48 w49 hw50 hM51 hI52 hf53 => ?_)
    have hV54 := RI0_dp (M' := M48) hV42 (fun a b h => by rw [hM51]; exact up_ne (by omega))
    have hk55 := kp_up hM51 (fun h => absurd h.2 (by decide)) hk43
    have hk56 := kp_up hM51 (fun h => absurd h.2 (by decide)) hk44
    have hk57 := kp_up hM51 (fun h => absurd h.2 (by decide)) hk45
    have hk58 := kp_up hM51 (fun h => absurd h.2 (by decide)) hk46
    have hk59 := kp_up hM51 (fun h => absurd h.2 (by decide)) hf41
    clear hk43 hk44 hk45 hk46 hf41
    have hF60 := Fr.put hF47 hM51 ((Or.inl ⟨rfl, by decide, by decide⟩))
    refine j_aload_n hX dX11_quarter_56 rfl 1 rfl ?_
    refine j_iconst hX dX11_quarter_57 ?_
    refine j_aload_n hX dX11_quarter_58 rfl 1 rfl ?_
    refine gf_X11_279 hX (by omega) (by omega) kc_210 dX11_quarter_59 ?_
    refine j_top hk55 ?_
    refine j_isub hX dX11_quarter_62 ?_
    refine pf_X11_270 hX (by omega) (by omega) kc_210 (by omega) dX11_quarter_63 ?_
    refine j_up hI52 ro_210_41 (by omega) (by omega) (Or.inl (by omega)) (fun M61 w62 hw63 hM64 hI65 hf66 => ?_)
    have hV67 := RI0_dp (M' := M61) hV54 (fun a b h => by rw [hM64]; exact up_ne (by omega))
    have hk68 := kp_up hM64 (fun h => absurd h.2 (by decide)) hk55
    have hk69 := kp_up hM64 (fun h => absurd h.2 (by decide)) hk56
    have hk70 := kp_up hM64 (fun h => absurd h.2 (by decide)) hk57
    have hk71 := kp_up hM64 (fun h => absurd h.2 (by decide)) hk58
    have hk72 := kp_up hM64 (fun h => absurd h.2 (by decide)) hk59
    have hk73 := kp_up hM64 (fun h => absurd h.2 (by decide)) hf53
    clear hk55 hk56 hk57 hk58 hk59 hf53
    have hF74 := Fr.put hF60 hM64 ((Or.inl ⟨rfl, by decide, by decide⟩))
    replace hw63 := hw63.symm
    subst hw63
    refine j_aload_n hX dX11_quarter_66 rfl 1 rfl ?_
    refine j_callVV hX lk_X11_155 (c_X11_clearBank _ _ _ _ _ _ _ (by omega) hI65 hf66) (by omega) hce rfl rfl (by omega) (by omega) kc_210 rfl rfl (Nat.le_of_ble_eq_true rfl) dX11_quarter_67 (fun M76 hp77 => ?_)
    obtain ⟨hI80, hG81, hq82⟩ := hp77
    have hV83 := RI0_dp hV67 (fun a b h => hG81 a b (by omega))
    have hk84 := kp_fr hG81 (fun h => h.elim (fun h => absurd h.1 (by decide)) (fun h => h.elim (fun h => absurd h.1 (by decide)) (fun h => h.elim (fun h => absurd h.1 (by decide)) (fun h => h.elim (fun h => absurd h.1 (by decide)) (fun h => h.elim (fun h => absurd h.1 (by decide)) (fun h => h.elim (fun h => absurd h.1 (by decide)) (fun h => h.elim (fun h => absurd h.1 (by decide)) (fun h => h.elim (fun h => absurd h.1 (by decide)) (fun h => h.elim (fun h => absurd h.1 (by decide)) (fun h => h.elim (fun h => absurd h.1 (by decide)) (fun h => h.elim (fun h => absurd h.1 (by decide)) (fun h => absurd h.2.1 (by decide))))))))))))) hk68
    have hk85 := kp_fr hG81 (fun h => h.elim (fun h => absurd h.1 (by decide)) (fun h => h.elim (fun h => absurd h.1 (by decide)) (fun h => h.elim (fun h => absurd h.1 (by decide)) (fun h => h.elim (fun h => absurd h.1 (by decide)) (fun h => h.elim (fun h => absurd h.1 (by decide)) (fun h => h.elim (fun h => absurd h.1 (by decide)) (fun h => h.elim (fun h => absurd h.1 (by decide)) (fun h => h.elim (fun h => absurd h.1 (by decide)) (fun h => h.elim (fun h => absurd h.1 (by decide)) (fun h => h.elim (fun h => absurd h.1 (by decide)) (fun h => h.elim (fun h => absurd h.1 (by decide)) (fun h => absurd h.2.1 (by decide))))))))))))) hk69
    have hk86 := kp_fr hG81 (fun h => h.elim (fun h => absurd h.1 (by decide)) (fun h => h.elim (fun h => absurd h.1 (by decide)) (fun h => h.elim (fun h => absurd h.1 (by decide)) (fun h => h.elim (fun h => absurd h.1 (by decide)) (fun h => h.elim (fun h => absurd h.1 (by decide)) (fun h => h.elim (fun h => absurd h.1 (by decide)) (fun h => h.elim (fun h => absurd h.1 (by decide)) (fun h => h.elim (fun h => absurd h.1 (by decide)) (fun h => h.elim (fun h => absurd h.1 (by decide)) (fun h => h.elim (fun h => absurd h.1 (by decide)) (fun h => h.elim (fun h => absurd h.1 (by decide)) (fun h => absurd h.2.1 (by decide))))))))))))) hk70
    have hk87 := kp_fr hG81 (fun h => h.elim (fun h => absurd h.1 (by decide)) (fun h => h.elim (fun h => absurd h.1 (by decide)) (fun h => h.elim (fun h => absurd h.1 (by decide)) (fun h => h.elim (fun h => absurd h.1 (by decide)) (fun h => h.elim (fun h => absurd h.1 (by decide)) (fun h => h.elim (fun h => absurd h.1 (by decide)) (fun h => h.elim (fun h => absurd h.1 (by decide)) (fun h => h.elim (fun h => absurd h.1 (by decide)) (fun h => h.elim (fun h => absurd h.1 (by decide)) (fun h => h.elim (fun h => absurd h.1 (by decide)) (fun h => h.elim (fun h => absurd h.1 (by decide)) (fun h => absurd h.2.1 (by decide))))))))))))) hk71
    have hk88 := kp_fr hG81 (fun h => h.elim (fun h => absurd h.1 (by decide)) (fun h => h.elim (fun h => absurd h.1 (by decide)) (fun h => h.elim (fun h => absurd h.1 (by decide)) (fun h => h.elim (fun h => absurd h.1 (by decide)) (fun h => h.elim (fun h => absurd h.1 (by decide)) (fun h => h.elim (fun h => absurd h.1 (by decide)) (fun h => h.elim (fun h => absurd h.1 (by decide)) (fun h => h.elim (fun h => absurd h.1 (by decide)) (fun h => h.elim (fun h => absurd h.1 (by decide)) (fun h => h.elim (fun h => absurd h.1 (by decide)) (fun h => h.elim (fun h => absurd h.1 (by decide)) (fun h => absurd h.2.1 (by decide))))))))))))) hk72
    have hk89 := kp_fr hG81 (fun h => h.elim (fun h => absurd h.1 (by decide)) (fun h => h.elim (fun h => absurd h.1 (by decide)) (fun h => h.elim (fun h => absurd h.1 (by decide)) (fun h => h.elim (fun h => absurd h.1 (by decide)) (fun h => h.elim (fun h => absurd h.1 (by decide)) (fun h => h.elim (fun h => absurd h.1 (by decide)) (fun h => h.elim (fun h => absurd h.1 (by decide)) (fun h => h.elim (fun h => absurd h.1 (by decide)) (fun h => h.elim (fun h => absurd h.1 (by decide)) (fun h => h.elim (fun h => absurd h.1 (by decide)) (fun h => h.elim (fun h => absurd h.1 (by decide)) (fun h => absurd h.2.1 (by decide))))))))))))) hk73
    have hk90 := kp_fr hG81 (fun h => h.elim (fun h => absurd h.1 (by decide)) (fun h => h.elim (fun h => absurd h.1 (by decide)) (fun h => h.elim (fun h => absurd h.1 (by decide)) (fun h => h.elim (fun h => absurd h.1 (by decide)) (fun h => h.elim (fun h => absurd h.1 (by decide)) (fun h => h.elim (fun h => absurd h.1 (by decide)) (fun h => h.elim (fun h => absurd h.1 (by decide)) (fun h => h.elim (fun h => absurd h.1 (by decide)) (fun h => h.elim (fun h => absurd h.1 (by decide)) (fun h => h.elim (fun h => absurd h.1 (by decide)) (fun h => h.elim (fun h => absurd h.1 (by decide)) (fun h => absurd h.2.1 (by decide))))))))))))) hf66
    clear hk68 hk69 hk70 hk71 hk72 hk73 hf66
    have hF91 := Fr.trans hF74 hG81 (fun a b h => h.elim (fun h => (Or.inr (Or.inr (Or.inl ⟨by omega, by omega⟩)))) (fun h => h.elim (fun h => (Or.inr (Or.inr (Or.inl ⟨by omega, by omega⟩)))) (fun h => h.elim (fun h => (Or.inr (Or.inr (Or.inl ⟨by omega, by omega⟩)))) (fun h => h.elim (fun h => (Or.inr (Or.inr (Or.inl ⟨by omega, by omega⟩)))) (fun h => h.elim (fun h => (Or.inr (Or.inr (Or.inl ⟨by omega, by omega⟩)))) (fun h => h.elim (fun h => (Or.inr (Or.inr (Or.inl ⟨by omega, by omega⟩)))) (fun h => h.elim (fun h => (Or.inr (Or.inr (Or.inl ⟨by omega, by omega⟩)))) (fun h => h.elim (fun h => (Or.inr (Or.inr (Or.inl ⟨by omega, by omega⟩)))) (fun h => h.elim (fun h => (Or.inr (Or.inr (Or.inl ⟨by omega, by omega⟩)))) (fun h => h.elim (fun h => (Or.inr (Or.inr (Or.inl ⟨by omega, by omega⟩)))) (fun h => h.elim (fun h => (Or.inr (Or.inr (Or.inl ⟨by omega, by omega⟩)))) (fun h => (Or.inl ⟨h.1, Int.le_trans (by decide) h.2.1, Int.le_trans h.2.2 (by decide)⟩)))))))))))))
    have hV92 := RD0_st hq82
    have hV93 := hq82.1
    have hV94 := ML_st (M := M76) (by omega) (by omega)
    refine j_aload_n hX dX11_quarter_70 rfl 1 rfl ?_
    refine j_callVV hX lk_X11_253 (cv_X11_goOn _ _ _ _ _ _ _ _ _ (by omega) hI80 hk87 hk89 hV94 (by first | assumption | omega) (by first | assumption | omega)) (by omega) hce rfl rfl (by omega) (by omega) kc_210 rfl rfl (Nat.le_of_ble_eq_true rfl) dX11_quarter_71 (fun M96 hp97 => ?_)
    obtain ⟨hI100, hG101, hq102, hq103, hq104⟩ := hp97
    have hV105 := RI0_dp hV83 (fun a b h => hG101 a b (by omega))
    have hV106 := RD0_dp hV92 (fun a b h => hG101 a b (by omega))
    have hV107 := R13_dp hV93 (fun a b h => hG101 a b (by omega))
    have hk109 := kp_fr hG101 (fun h => absurd h.2.2 (by decide)) hk84
    have hk110 := kp_fr hG101 (fun h => absurd h.2.1 (by decide)) hk85
    have hk111 := kp_fr hG101 (fun h => absurd h.2.1 (by decide)) hk86
    have hk112 := kp_fr hG101 (fun h => absurd h.2.1 (by decide)) hk87
    have hk113 := kp_fr hG101 (fun h => absurd h.2.1 (by decide)) hk88
    have hk114 := kp_fr hG101 (fun h => absurd h.2.2 (by decide)) hk90
    clear hk84 hk85 hk86 hk87 hk88 hk89 hk90
    have hF115 := Fr.trans hF91 hG101 (fun a b h => (Or.inl ⟨h.1, Int.le_trans (by decide) h.2.1, Int.le_trans h.2.2 (by decide)⟩))
    have htok := hq104
    refine j_aload_n hX dX11_quarter_74 rfl 1 rfl ?_
    refine j_callVI hX lk_X11_249 (cv_X11_isGood _ _ _ _ _ _ _ (by omega) hI100 hk110 (by first | assumption | omega)) (by omega) hce rfl rfl (by omega) (by omega) kc_210 rfl rfl (Nat.le_of_ble_eq_true rfl) dX11_quarter_75 (fun z116 M117 hz119 hp118 => ?_)
    obtain ⟨hE120, hb121, hq122, hq123, hq124⟩ := hp118
    replace hE120 := hE120.symm
    subst hE120
    refine j_if_eq (tgt := 95) hX dX11_quarter_78 (by decide) (by omega) (fun hc125 => ?_) (fun hc125 => ?_)
    · exfalso; omega
    · skip
      have hi126 := hq122 (by omega)
      clear hq122
      clear hq123
      refine j_aload_n hX dX11_quarter_81 rfl 1 rfl ?_
      refine gf_X11_221 hX (by omega) (by omega) kc_210 dX11_quarter_82 ?_
      refine j_top htok ?_
      refine j_if_eq (tgt := 95) hX dX11_quarter_85 (by decide) (by omega) (fun hc127 => ?_) (fun hc127 => ?_)
      · skip
        refine j_aload_n hX dX11_quarter_95 rfl 1 rfl ?_
        refine j_callVI hX lk_X11_249 (cv_X11_isGood _ _ _ _ _ _ _ (by omega) hI100 hk110 (by first | assumption | omega)) (by omega) hce rfl rfl (by omega) (by omega) kc_210 rfl rfl (Nat.le_of_ble_eq_true rfl) dX11_quarter_96 (fun z128 M129 hz131 hp130 => ?_)
        obtain ⟨hE132, hb133, hq134, hq135, hq136⟩ := hp130
        replace hE132 := hE132.symm
        subst hE132
        refine j_if_ne (tgt := 104) hX dX11_quarter_99 (by decide) (by omega) (fun hc137 => ?_) (fun hc137 => ?_)
        · skip
          have hi138 := hq134 (by omega)
          clear hq134
          clear hq135
          refine j_aload_n hX dX11_quarter_104 rfl 1 rfl ?_
          refine j_aload_n hX dX11_quarter_105 rfl 1 rfl ?_
          refine gf_X11_270 hX (by omega) (by omega) kc_210 dX11_quarter_106 ?_
          refine j_top hk114 ?_
          refine pf_X11_279 hX (by omega) (by omega) kc_210 (by omega) dX11_quarter_109 ?_
          refine j_up hI100 ro_210_40 (by omega) (by omega) (Or.inl (by omega)) (fun M139 w140 hw141 hM142 hI143 hf144 => ?_)
          have hV145 := RI0_dp (M' := M139) hV105 (fun a b h => by rw [hM142]; exact up_ne (by omega))
          have hV146 := RD0_dp (M' := M139) hV106 (fun a b h => by rw [hM142]; exact up_ne (by omega))
          have hV147 := R13_dp (M' := M139) hV107 (fun a b h => by rw [hM142]; exact up_ne (by omega))
          have hV148 := ML_dp (M' := M139) hq102 (fun a b h => by rw [hM142]; exact up_ne (by omega))
          have hk149 := kp_up hM142 (fun h => absurd h.2 (by decide)) hk110
          have hk150 := kp_up hM142 (fun h => absurd h.2 (by decide)) hk111
          have hk151 := kp_up hM142 (fun h => absurd h.2 (by decide)) hk112
          have hk152 := kp_up hM142 (fun h => absurd h.2 (by decide)) hk113
          have hk153 := kp_up hM142 (fun h => absurd h.2 (by decide)) hk114
          have hk154 := kp_up hM142 (fun h => absurd h.2 (by decide)) htok
          clear hk109 hk110 hk111 hk112 hk113 hk114
          have hF155 := Fr.put hF115 hM142 ((Or.inl ⟨rfl, by decide, by decide⟩))
          replace hw141 := hw141.symm
          subst hw141
          refine j_aload_n hX dX11_quarter_112 rfl 1 rfl ?_
          refine j_callVV hX lk_X11_158 (c_X11_startAnew _ _ _ _ _ _ _ _ (by omega) hI143 hf144 (by first | assumption | rfl) (RD_lt hV146)) (by omega) hce rfl rfl (by omega) (by omega) kc_210 rfl rfl (Nat.le_of_ble_eq_true rfl) dX11_quarter_113 (fun M157 hp158 => ?_)
          obtain ⟨hI161, hG162, hq163, hq164⟩ := hp158
          have hV166 := RD0_dp hV146 (fun a b h => hG162 a b (by omega))
          have hV167 := R13_dp hV147 (fun a b h => hG162 a b (by omega))
          have hV168 := ML_dp hV148 (fun a b h => hG162 a b (by omega))
          have hk169 := kp_fr hG162 (fun h => h.elim (fun h => absurd h (by decide)) (fun h => h.elim (fun h => absurd h (by decide)) (fun h => h.elim (fun h => absurd h.2.1 (by decide)) (fun h => h.elim (fun h => absurd h.2.1 (by decide)) (fun h => absurd h (by decide)))))) hk149
          have hk170 := kp_fr hG162 (fun h => h.elim (fun h => absurd h (by decide)) (fun h => h.elim (fun h => absurd h (by decide)) (fun h => h.elim (fun h => absurd h.2.1 (by decide)) (fun h => h.elim (fun h => absurd h.2.1 (by decide)) (fun h => absurd h (by decide)))))) hk150
          have hk171 := kp_fr hG162 (fun h => h.elim (fun h => absurd h (by decide)) (fun h => h.elim (fun h => absurd h (by decide)) (fun h => h.elim (fun h => absurd h.2.1 (by decide)) (fun h => h.elim (fun h => absurd h.2.1 (by decide)) (fun h => absurd h (by decide)))))) hk151
          have hk172 := kp_fr hG162 (fun h => h.elim (fun h => absurd h (by decide)) (fun h => h.elim (fun h => absurd h (by decide)) (fun h => h.elim (fun h => absurd h.2.1 (by decide)) (fun h => h.elim (fun h => absurd h.2.1 (by decide)) (fun h => absurd h (by decide)))))) hk152
          have hk173 := kp_fr hG162 (fun h => h.elim (fun h => absurd h (by decide)) (fun h => h.elim (fun h => absurd h (by decide)) (fun h => h.elim (fun h => absurd h.2.1 (by decide)) (fun h => h.elim (fun h => absurd h.2.1 (by decide)) (fun h => absurd h (by decide)))))) hk153
          have hk174 := kp_fr hG162 (fun h => h.elim (fun h => absurd h (by decide)) (fun h => h.elim (fun h => absurd h (by decide)) (fun h => h.elim (fun h => absurd h.2.1 (by decide)) (fun h => h.elim (fun h => absurd h.2.1 (by decide)) (fun h => absurd h (by decide)))))) hk154
          have hk175 := kp_fr hG162 (fun h => h.elim (fun h => absurd h (by decide)) (fun h => h.elim (fun h => absurd h (by decide)) (fun h => h.elim (fun h => absurd h.2.1 (by decide)) (fun h => h.elim (fun h => absurd h.2.1 (by decide)) (fun h => absurd h (by decide)))))) hf144
          clear hk149 hk150 hk151 hk152 hk153 hk154 hf144
          have hF176 := Fr.trans hF155 hG162 (fun a b h => h.elim (fun h => (Or.inr (Or.inr (Or.inr (Or.inl h))))) (fun h => h.elim (fun h => (Or.inr (Or.inr (Or.inr (Or.inr (Or.inl h)))))) (fun h => h.elim (fun h => (Or.inl ⟨h.1, Int.le_trans (by decide) h.2.1, Int.le_trans h.2.2 (by decide)⟩)) (fun h => h.elim (fun h => (Or.inr (Or.inl h))) (fun h => (Or.inr (Or.inr (Or.inr (Or.inr (Or.inr h))))))))))
          have hrs := hq163
          have hbx := hq164
          have hn2 := hG162 213 (1 - bk) (by omega)
          have h213b : M157.1 213 (1 - bk) = 0 := hV167
          refine j_aload_n hX dX11_quarter_116 rfl 1 rfl ?_
          refine gf_X11_20 hX (by omega) (by omega) kc_210 (fc_210_11 hI161) (by decide) dX11_quarter_117 ?_
          refine j_aload_n hX dX11_quarter_120 rfl 1 rfl ?_
          refine gf_X11_279 hX (by omega) (by omega) kc_210 dX11_quarter_121 ?_
          refine j_top hk175 ?_
          refine j_iald hX (by omega) (by omega) kc_213 (by omega) (by omega) (by omega) dX11_quarter_124 ?_
          refine j_name hI161 (ra_213 _) (fun v177 hv178 hl179 hh180 => ?_)
          exact hret _ _ _ _ dX11_quarter_125 rfl (by omega) ⟨hI161, hF176, RI_st (w := 1 - bk) (by omega) hn2 hrs hbx hV166, by first | assumption | omega⟩
        · exfalso; omega
      · exfalso; omega
  · exfalso; omega
