theorem dX11_behindUnit_0 : decode cX11_behindUnit 0 = .ok (.aload_n 0, 1) := by decide +kernel
theorem dX11_behindUnit_1 : decode cX11_behindUnit 1 = .ok (.invokevirtual 359, 3) := by decide +kernel
theorem dX11_behindUnit_4 : decode cX11_behindUnit 4 = .ok (.istore_n 1, 1) := by decide +kernel
theorem dX11_behindUnit_5 : decode cX11_behindUnit 5 = .ok (.iload_n 1, 1) := by decide +kernel
theorem dX11_behindUnit_6 : decode cX11_behindUnit 6 = .ok (.iconst 4, 1) := by decide +kernel
theorem dX11_behindUnit_7 : decode cX11_behindUnit 7 = .ok (.if_icmp .ne 16, 3) := by decide +kernel
theorem dX11_behindUnit_10 : decode cX11_behindUnit 10 = .ok (.aload_n 0, 1) := by decide +kernel
theorem dX11_behindUnit_11 : decode cX11_behindUnit 11 = .ok (.invokevirtual 362, 3) := by decide +kernel
theorem dX11_behindUnit_14 : decode cX11_behindUnit 14 = .ok (.ifCond .eq 9, 3) := by decide +kernel
theorem dX11_behindUnit_17 : decode cX11_behindUnit 17 = .ok (.aload_n 0, 1) := by decide +kernel
theorem dX11_behindUnit_18 : decode cX11_behindUnit 18 = .ok (.invokevirtual 256, 3) := by decide +kernel
theorem dX11_behindUnit_21 : decode cX11_behindUnit 21 = .ok (.iconst 1, 1) := by decide +kernel
theorem dX11_behindUnit_22 : decode cX11_behindUnit 22 = .ok (.ireturn, 1) := by decide +kernel
theorem dX11_behindUnit_23 : decode cX11_behindUnit 23 = .ok (.aload_n 0, 1) := by decide +kernel
theorem dX11_behindUnit_24 : decode cX11_behindUnit 24 = .ok (.getfield 101, 3) := by decide +kernel
theorem dX11_behindUnit_27 : decode cX11_behindUnit 27 = .ok (.aload_n 0, 1) := by decide +kernel
theorem dX11_behindUnit_28 : decode cX11_behindUnit 28 = .ok (.getfield 338, 3) := by decide +kernel
theorem dX11_behindUnit_31 : decode cX11_behindUnit 31 = .ok (.iconst 1, 1) := by decide +kernel
theorem dX11_behindUnit_32 : decode cX11_behindUnit 32 = .ok (.isub, 1) := by decide +kernel
theorem dX11_behindUnit_33 : decode cX11_behindUnit 33 = .ok (.iaload, 1) := by decide +kernel
theorem dX11_behindUnit_34 : decode cX11_behindUnit 34 = .ok (.bipush 6, 2) := by decide +kernel
theorem dX11_behindUnit_36 : decode cX11_behindUnit 36 = .ok (.if_icmp .gt 68, 3) := by decide +kernel
theorem dX11_behindUnit_39 : decode cX11_behindUnit 39 = .ok (.aload_n 0, 1) := by decide +kernel
theorem dX11_behindUnit_40 : decode cX11_behindUnit 40 = .ok (.getfield 101, 3) := by decide +kernel
theorem dX11_behindUnit_43 : decode cX11_behindUnit 43 = .ok (.aload_n 0, 1) := by decide +kernel
theorem dX11_behindUnit_44 : decode cX11_behindUnit 44 = .ok (.getfield 338, 3) := by decide +kernel
theorem dX11_behindUnit_47 : decode cX11_behindUnit 47 = .ok (.iconst 1, 1) := by decide +kernel
theorem dX11_behindUnit_48 : decode cX11_behindUnit 48 = .ok (.isub, 1) := by decide +kernel
theorem dX11_behindUnit_49 : decode cX11_behindUnit 49 = .ok (.iaload, 1) := by decide +kernel
theorem dX11_behindUnit_50 : decode cX11_behindUnit 50 = .ok (.iload_n 1, 1) := by decide +kernel
theorem dX11_behindUnit_51 : decode cX11_behindUnit 51 = .ok (.if_icmp .lt 53, 3) := by decide +kernel
theorem dX11_behindUnit_54 : decode cX11_behindUnit 54 = .ok (.aload_n 0, 1) := by decide +kernel
theorem dX11_behindUnit_55 : decode cX11_behindUnit 55 = .ok (.dup, 1) := by decide +kernel
theorem dX11_behindUnit_56 : decode cX11_behindUnit 56 = .ok (.getfield 338, 3) := by decide +kernel
theorem dX11_behindUnit_59 : decode cX11_behindUnit 59 = .ok (.iconst 1, 1) := by decide +kernel
theorem dX11_behindUnit_60 : decode cX11_behindUnit 60 = .ok (.isub, 1) := by decide +kernel
theorem dX11_behindUnit_61 : decode cX11_behindUnit 61 = .ok (.putfield 338, 3) := by decide +kernel
theorem dX11_behindUnit_64 : decode cX11_behindUnit 64 = .ok (.aload_n 0, 1) := by decide +kernel
theorem dX11_behindUnit_65 : decode cX11_behindUnit 65 = .ok (.getfield 101, 3) := by decide +kernel
theorem dX11_behindUnit_68 : decode cX11_behindUnit 68 = .ok (.aload_n 0, 1) := by decide +kernel
theorem dX11_behindUnit_69 : decode cX11_behindUnit 69 = .ok (.getfield 338, 3) := by decide +kernel
theorem dX11_behindUnit_72 : decode cX11_behindUnit 72 = .ok (.iaload, 1) := by decide +kernel
theorem dX11_behindUnit_73 : decode cX11_behindUnit 73 = .ok (.iconst 3, 1) := by decide +kernel
theorem dX11_behindUnit_74 : decode cX11_behindUnit 74 = .ok (.if_icmp .ne 13, 3) := by decide +kernel
theorem dX11_behindUnit_77 : decode cX11_behindUnit 77 = .ok (.aload_n 0, 1) := by decide +kernel
theorem dX11_behindUnit_78 : decode cX11_behindUnit 78 = .ok (.dup, 1) := by decide +kernel
theorem dX11_behindUnit_79 : decode cX11_behindUnit 79 = .ok (.getfield 341, 3) := by decide +kernel
theorem dX11_behindUnit_82 : decode cX11_behindUnit 82 = .ok (.iconst 1, 1) := by decide +kernel
theorem dX11_behindUnit_83 : decode cX11_behindUnit 83 = .ok (.isub, 1) := by decide +kernel
theorem dX11_behindUnit_84 : decode cX11_behindUnit 84 = .ok (.putfield 341, 3) := by decide +kernel
theorem dX11_behindUnit_87 : decode cX11_behindUnit 87 = .ok (.aload_n 0, 1) := by decide +kernel
theorem dX11_behindUnit_88 : decode cX11_behindUnit 88 = .ok (.aload_n 0, 1) := by decide +kernel
theorem dX11_behindUnit_89 : decode cX11_behindUnit 89 = .ok (.getfield 104, 3) := by decide +kernel
theorem dX11_behindUnit_92 : decode cX11_behindUnit 92 = .ok (.aload_n 0, 1) := by decide +kernel
theorem dX11_behindUnit_93 : decode cX11_behindUnit 93 = .ok (.getfield 338, 3) := by decide +kernel
theorem dX11_behindUnit_96 : decode cX11_behindUnit 96 = .ok (.iaload, 1) := by decide +kernel
theorem dX11_behindUnit_97 : decode cX11_behindUnit 97 = .ok (.iconst 0, 1) := by decide +kernel
theorem dX11_behindUnit_98 : decode cX11_behindUnit 98 = .ok (.invokevirtual 356, 3) := by decide +kernel
theorem dX11_behindUnit_101 : decode cX11_behindUnit 101 = .ok (.goto (-78), 3) := by decide +kernel
theorem dX11_behindUnit_104 : decode cX11_behindUnit 104 = .ok (.iload_n 1, 1) := by decide +kernel
theorem dX11_behindUnit_105 : decode cX11_behindUnit 105 = .ok (.ifCond .le 42, 3) := by decide +kernel
theorem dX11_behindUnit_108 : decode cX11_behindUnit 108 = .ok (.aload_n 0, 1) := by decide +kernel
theorem dX11_behindUnit_109 : decode cX11_behindUnit 109 = .ok (.iload_n 1, 1) := by decide +kernel
theorem dX11_behindUnit_110 : decode cX11_behindUnit 110 = .ok (.iload_n 1, 1) := by decide +kernel
theorem dX11_behindUnit_111 : decode cX11_behindUnit 111 = .ok (.iconst 2, 1) := by decide +kernel
theorem dX11_behindUnit_112 : decode cX11_behindUnit 112 = .ok (.if_icmp .ne 8, 3) := by decide +kernel
theorem dX11_behindUnit_115 : decode cX11_behindUnit 115 = .ok (.bipush 38, 2) := by decide +kernel
theorem dX11_behindUnit_117 : decode cX11_behindUnit 117 = .ok (.goto 21, 3) := by decide +kernel
theorem dX11_behindUnit_120 : decode cX11_behindUnit 120 = .ok (.iload_n 1, 1) := by decide +kernel
theorem dX11_behindUnit_121 : decode cX11_behindUnit 121 = .ok (.iconst 1, 1) := by decide +kernel
theorem dX11_behindUnit_122 : decode cX11_behindUnit 122 = .ok (.if_icmp .ne 8, 3) := by decide +kernel
theorem dX11_behindUnit_125 : decode cX11_behindUnit 125 = .ok (.bipush 124, 2) := by decide +kernel
theorem dX11_behindUnit_127 : decode cX11_behindUnit 127 = .ok (.goto 11, 3) := by decide +kernel
theorem dX11_behindUnit_130 : decode cX11_behindUnit 130 = .ok (.aload_n 0, 1) := by decide +kernel
theorem dX11_behindUnit_131 : decode cX11_behindUnit 131 = .ok (.aload_n 0, 1) := by decide +kernel
theorem dX11_behindUnit_132 : decode cX11_behindUnit 132 = .ok (.getfield 214, 3) := by decide +kernel
theorem dX11_behindUnit_135 : decode cX11_behindUnit 135 = .ok (.invokevirtual 217, 3) := by decide +kernel
theorem dX11_behindUnit_138 : decode cX11_behindUnit 138 = .ok (.invokevirtual 344, 3) := by decide +kernel
theorem dX11_behindUnit_141 : decode cX11_behindUnit 141 = .ok (.aload_n 0, 1) := by decide +kernel
theorem dX11_behindUnit_142 : decode cX11_behindUnit 142 = .ok (.invokevirtual 253, 3) := by decide +kernel
theorem dX11_behindUnit_145 : decode cX11_behindUnit 145 = .ok (.iconst 1, 1) := by decide +kernel
theorem dX11_behindUnit_146 : decode cX11_behindUnit 146 = .ok (.ireturn, 1) := by decide +kernel
theorem dX11_behindUnit_147 : decode cX11_behindUnit 147 = .ok (.aload_n 0, 1) := by decide +kernel
theorem dX11_behindUnit_148 : decode cX11_behindUnit 148 = .ok (.dup, 1) := by decide +kernel
theorem dX11_behindUnit_149 : decode cX11_behindUnit 149 = .ok (.getfield 338, 3) := by decide +kernel
theorem dX11_behindUnit_152 : decode cX11_behindUnit 152 = .ok (.iconst 1, 1) := by decide +kernel
theorem dX11_behindUnit_153 : decode cX11_behindUnit 153 = .ok (.isub, 1) := by decide +kernel
theorem dX11_behindUnit_154 : decode cX11_behindUnit 154 = .ok (.putfield 338, 3) := by decide +kernel
theorem dX11_behindUnit_157 : decode cX11_behindUnit 157 = .ok (.aload_n 0, 1) := by decide +kernel
theorem dX11_behindUnit_158 : decode cX11_behindUnit 158 = .ok (.getfield 101, 3) := by decide +kernel
theorem dX11_behindUnit_161 : decode cX11_behindUnit 161 = .ok (.aload_n 0, 1) := by decide +kernel
theorem dX11_behindUnit_162 : decode cX11_behindUnit 162 = .ok (.getfield 338, 3) := by decide +kernel
theorem dX11_behindUnit_165 : decode cX11_behindUnit 165 = .ok (.iaload, 1) := by decide +kernel
theorem dX11_behindUnit_166 : decode cX11_behindUnit 166 = .ok (.bipush 7, 2) := by decide +kernel
theorem dX11_behindUnit_168 : decode cX11_behindUnit 168 = .ok (.if_icmp .ne 23, 3) := by decide +kernel
theorem dX11_behindUnit_171 : decode cX11_behindUnit 171 = .ok (.aload_n 0, 1) := by decide +kernel
theorem dX11_behindUnit_172 : decode cX11_behindUnit 172 = .ok (.dup, 1) := by decide +kernel
theorem dX11_behindUnit_173 : decode cX11_behindUnit 173 = .ok (.getfield 341, 3) := by decide +kernel
theorem dX11_behindUnit_176 : decode cX11_behindUnit 176 = .ok (.iconst 1, 1) := by decide +kernel
theorem dX11_behindUnit_177 : decode cX11_behindUnit 177 = .ok (.isub, 1) := by decide +kernel
theorem dX11_behindUnit_178 : decode cX11_behindUnit 178 = .ok (.putfield 341, 3) := by decide +kernel
theorem dX11_behindUnit_181 : decode cX11_behindUnit 181 = .ok (.aload_n 0, 1) := by decide +kernel
theorem dX11_behindUnit_182 : decode cX11_behindUnit 182 = .ok (.aload_n 0, 1) := by decide +kernel
theorem dX11_behindUnit_183 : decode cX11_behindUnit 183 = .ok (.bipush 41, 2) := by decide +kernel
theorem dX11_behindUnit_185 : decode cX11_behindUnit 185 = .ok (.invokevirtual 311, 3) := by decide +kernel
theorem dX11_behindUnit_188 : decode cX11_behindUnit 188 = .ok (.invokevirtual 262, 3) := by decide +kernel
theorem dX11_behindUnit_191 : decode cX11_behindUnit 191 = .ok (.iconst 0, 1) := by decide +kernel
theorem dX11_behindUnit_192 : decode cX11_behindUnit 192 = .ok (.ireturn, 1) := by decide +kernel
set_option maxHeartbeats 2000000 in
set_option maxRecDepth 20000 in
theorem c_X11_behindUnit (l : Launch) (D : va_G) (cy : Nat → ClassId) (B N : Nat) (m : Int) (lo : Int) (tk : Int) (fk : Int) (nq : Int) (M : MM) (hN : 257 ≤ N) (hI : Iv M) (hutk : M.1 210 8 = tk) (hufk : M.1 210 4 = fk) (hunq : M.1 210 44 = nq) (hML : ML m M) (hPS : PS 1 lo M) (h1 : 0 ≤ lo ∧ lo ≤ 560 ∧ fk = 0) : CI l D cy B N 4 yX11_behindUnit cX11_behindUnit 2 (some .boolean) [rv B 210] M (fun z M' => Iv M' ∧ Fr (fun a b => (a = 210 ∧ 4 ≤ b ∧ b ≤ 10) ∨ (a = 210 ∧ 42 ≤ b ∧ b ≤ 45) ∨ (a = 237 ∧ lo ≤ b ∧ b ≤ lo + 300) ∨ (238 ≤ a ∧ a ≤ 240)) M M' ∧ (0 ≤ z ∧ z ≤ 1) ∧ (∃ m', ML m' M' ∧ 2 * m' + M'.1 210 44 + 1 ≤ 2 * m + nq ∧ m' ≤ m) ∧ (M'.1 210 4 = 0 → PT z lo M')) := by
  refine mk_CI (by decide) (Nat.le_of_ble_eq_true rfl) ?_
  intro X exl exD excy hnL hX hret
  have hce : 0 + 0 ≤ (xR X).cells ∧ 0 + 0 ≤ (xR X).slots := ⟨Nat.zero_le _, Nat.zero_le _⟩
  have hF : Fr (fun a b => (a = 210 ∧ 4 ≤ b ∧ b ≤ 10) ∨ (a = 210 ∧ 42 ≤ b ∧ b ≤ 45) ∨ (a = 237 ∧ lo ≤ b ∧ b ≤ lo + 300) ∨ (238 ≤ a ∧ a ≤ 240)) M M := Fr.rf
  have hk1 : M.1 210 43 = M.1 210 43 := rfl
  have hk2 : M.1 210 42 = M.1 210 42 := rfl
  have hk3 : M.1 210 45 = M.1 210 45 := rfl
  have hp0 : 1 ≤ nq ∧ nq ≤ 90 := by have := hI.at 210 44 ro_210_44; have := hPS.1.1; omega
  have cp : ∀ n : Nat, (∀ (x1 : Int), ∀ (np wi cd uu : Int), ∀ (Mc : MM), I32 x1 → Iv Mc → Fr (fun a b => (a = 210 ∧ 4 ≤ b ∧ b ≤ 10) ∨ (a = 210 ∧ 42 ≤ b ∧ b ≤ 45) ∨ (a = 237 ∧ lo ≤ b ∧ b ≤ lo + 300) ∨ (238 ≤ a ∧ a ≤ 240)) M Mc → Mc.1 210 44 = np → Mc.1 210 43 = wi → Mc.1 210 42 = cd → Mc.1 210 8 = tk → Mc.1 210 45 = uu → Mc.1 210 4 = fk → PS 1 lo Mc → ML m Mc → SQ x1 Mc → (np ≤ nq ∧ 0 ≤ x1 ∧ x1 ≤ 6) → (Imp (x1 ≠ 0) (tk ≠ 0)) → (Imp (3 ≤ x1) (4 ≤ x1)) → 0 ≤ 32 * (np) + 1 → 32 * (np) + 1 < (n : Int) → J X B N 0 0 23 [(0, rv B 210), (1, iv x1)] [] Mc) := by
    intro n
    induction n with
    | zero => exact by intros; exfalso; omega
    | succ n ih =>
      · intro x1 np wi cd uu Mc hxx1 hI hF hk_0 hk_1 hk_2 hk_3 hk_4 hk_5 hV_0 hV_1 hV_2 h2 h3 h4 hm0 hm1
        have hwr : 0 ≤ wi ∧ wi ≤ 7 := by have := hI.at 210 43 ro_210_43; omega
        have hur : 0 ≤ uu ∧ uu ≤ 30 := by have := hI.at 210 45 ro_210_45; omega
        have hpb := PS_b hV_0 (Or.inr rfl) (by omega) (by omega)
        have hV4 := (RE_rf : RE Mc Mc)
        have hV5 := (CF_rf : CF Mc Mc)
        refine j_aload_n hX dX11_behindUnit_23 rfl 0 rfl ?_
        refine gf_X11_101 hX (by omega) (by omega) kc_210 (fc_210_37 hI) (by decide) dX11_behindUnit_24 ?_
        refine j_aload_n hX dX11_behindUnit_27 rfl 0 rfl ?_
        refine gf_X11_338 hX (by omega) (by omega) kc_210 dX11_behindUnit_28 ?_
        refine j_top hk_0 ?_
        refine j_iconst hX dX11_behindUnit_31 ?_
        refine j_isub hX dX11_behindUnit_32 ?_
        refine j_iald hX (by omega) (by omega) kc_239 (by omega) (by omega) (by omega) dX11_behindUnit_33 ?_
        refine j_name hI (ra_239 _) (fun v6 hv7 hl8 hh9 => ?_)
        refine j_bipush hX dX11_behindUnit_34 rfl ?_
        refine j_icmp_gt (tgt := 104) hX dX11_behindUnit_36 (by decide) (by omega) (by omega) (fun hc10 => ?_) (fun hc10 => ?_)
        · skip
          refine j_iload_n hX dX11_behindUnit_104 rfl 1 rfl ?_
          refine j_if_le (tgt := 147) hX dX11_behindUnit_105 (by decide) (by omega) (fun hc11 => ?_) (fun hc11 => ?_)
          · skip
            refine j_aload_n hX dX11_behindUnit_147 rfl 0 rfl ?_
            refine j_dup hX dX11_behindUnit_148 rfl ?_
            refine gf_X11_338 hX (by omega) (by omega) kc_210 dX11_behindUnit_149 ?_
            refine j_top hk_0 ?_
            refine j_iconst hX dX11_behindUnit_152 ?_
            refine j_isub hX dX11_behindUnit_153 ?_
            refine pf_X11_338 hX (by omega) (by omega) kc_210 (by omega) dX11_behindUnit_154 ?_
            refine j_up hI ro_210_44 (by omega) (by omega) (Or.inl (by omega)) (fun M12 w13 hw14 hM15 hI16 hf17 => ?_)
            have hV19 := ML_dp (M' := M12) hV_1 (fun a b h => by rw [hM15]; exact up_ne (by omega))
            have hV20 := SQ_dp (M' := M12) hV_2 (fun a b h => by rw [hM15]; exact up_ne (by omega))
            have hV21 := RE_dp (M' := M12) hV4 (fun a b h => by rw [hM15]; exact up_ne (by omega))
            have hV22 := CF_dp (M' := M12) hV5 (fun a b h => by rw [hM15]; exact up_ne (by omega))
            have hk23 := kp_up hM15 (fun h => absurd h.2 (by decide)) hk_1
            have hk24 := kp_up hM15 (fun h => absurd h.2 (by decide)) hk_2
            have hk25 := kp_up hM15 (fun h => absurd h.2 (by decide)) hk_3
            have hk26 := kp_up hM15 (fun h => absurd h.2 (by decide)) hk_4
            have hk27 := kp_up hM15 (fun h => absurd h.2 (by decide)) hk_5
            have hF28 := Fr.put hF hM15 ((Or.inr (Or.inl ⟨rfl, by decide, by decide⟩)))
            refine j_aload_n hX dX11_behindUnit_157 rfl 0 rfl ?_
            refine gf_X11_101 hX (by omega) (by omega) kc_210 (fc_210_37 hI16) (by decide) dX11_behindUnit_158 ?_
            refine j_aload_n hX dX11_behindUnit_161 rfl 0 rfl ?_
            refine gf_X11_338 hX (by omega) (by omega) kc_210 dX11_behindUnit_162 ?_
            refine j_top hf17 ?_
            refine j_iald hX (by omega) (by omega) kc_239 (by omega) (by omega) (by omega) dX11_behindUnit_165 ?_
            refine j_name hI16 (ra_239 _) (fun v29 hv30 hl31 hh32 => ?_)
            have hv2 := re_w hV21 hv30 (k := np - 1) (by omega)
            refine j_bipush hX dX11_behindUnit_166 rfl ?_
            refine j_icmp_ne (tgt := 191) hX dX11_behindUnit_168 (by decide) (by omega) (by omega) (fun hc33 => ?_) (fun hc33 => ?_)
            · skip
              refine j_iconst hX dX11_behindUnit_191 ?_
              exact hret _ _ _ _ dX11_behindUnit_192 (nb (by omega)) (by omega) ⟨hI16, hF28, by omega, ⟨m, hV19, by omega, by omega⟩, by first | exact fun _ => PT_0 (PS_pk hV_0 hk_0 (fun i _ => (hV21 i).1) (fun i _ => (hV21 i).2) (fun i _ => hV22 i) (by omega) (by omega) (by omega) (by omega) (by omega)) | exact fun _ => Or.inl ⟨by have := PS_8 hV_0 hk_0 (by omega); omega, PS_dn hV_0 (by omega) (by omega) (fun i _ => hV22 i) (by omega)⟩⟩
            · skip
              have hw1 := PS_w1 hV_0 hk_0 (by omega)
              refine j_aload_n hX dX11_behindUnit_171 rfl 0 rfl ?_
              refine j_dup hX dX11_behindUnit_172 rfl ?_
              refine gf_X11_341 hX (by omega) (by omega) kc_210 dX11_behindUnit_173 ?_
              refine j_top hk23 ?_
              refine j_iconst hX dX11_behindUnit_176 ?_
              refine j_isub hX dX11_behindUnit_177 ?_
              refine pf_X11_341 hX (by omega) (by omega) kc_210 (by omega) dX11_behindUnit_178 ?_
              refine j_up hI16 ro_210_43 (by omega) (by omega) (Or.inl (by omega)) (fun M34 w35 hw36 hM37 hI38 hf39 => ?_)
              have hV40 := ML_dp (M' := M34) hV19 (fun a b h => by rw [hM37]; exact up_ne (by omega))
              have hV41 := SQ_dp (M' := M34) hV20 (fun a b h => by rw [hM37]; exact up_ne (by omega))
              have hV42 := RE_dp (M' := M34) hV21 (fun a b h => by rw [hM37]; exact up_ne (by omega))
              have hV43 := CF_dp (M' := M34) hV22 (fun a b h => by rw [hM37]; exact up_ne (by omega))
              have hk44 := kp_up hM37 (fun h => absurd h.2 (by decide)) hk24
              have hk45 := kp_up hM37 (fun h => absurd h.2 (by decide)) hk25
              have hk46 := kp_up hM37 (fun h => absurd h.2 (by decide)) hk26
              have hk47 := kp_up hM37 (fun h => absurd h.2 (by decide)) hk27
              have hk48 := kp_up hM37 (fun h => absurd h.2 (by decide)) hf17
              clear hk23 hk24 hk25 hk26 hk27 hf17
              have hF49 := Fr.put hF28 hM37 ((Or.inr (Or.inl ⟨rfl, by decide, by decide⟩)))
              refine j_aload_n hX dX11_behindUnit_181 rfl 0 rfl ?_
              refine j_aload_n hX dX11_behindUnit_182 rfl 0 rfl ?_
              refine j_bipush hX dX11_behindUnit_183 rfl ?_
              refine j_callVI hX lk_X11_311 (c_X11_isSignHere _ _ _ _ _ _ _ (by omega) hI38 (by omega)) (by omega) hce rfl rfl (by omega) (by omega) kc_210 rfl rfl (Nat.le_of_ble_eq_true rfl) dX11_behindUnit_185 (fun z50 M51 hz53 hp52 => ?_)
              obtain ⟨hE54, hb55, hq56, hq57⟩ := hp52
              replace hE54 := hE54.symm
              subst hE54
              refine j_callVV hX lk_X11_262 (c_X11_must _ _ _ _ _ _ _ _ (by omega) hI38 (by omega) hV40 (by first | assumption | omega)) (by omega) hce rfl rfl (by omega) (by omega) kc_210 rfl rfl (Nat.le_of_ble_eq_true rfl) dX11_behindUnit_188 (fun M59 hp60 => ?_)
              obtain ⟨hI63, hG64, hq65, hq66, hq67⟩ := hp60
              have hV70 := RE_dp hV42 (fun a b h => hG64 a b (by omega))
              have hV71 := CF_dp hV43 (fun a b h => hG64 a b (by omega))
              have hk72 := kp_fr hG64 (fun h => absurd h.2.2 (by decide)) hk44
              have hk73 := kp_fr hG64 (fun h => absurd h.2.2 (by decide)) hk46
              have hk74 := kp_fr hG64 (fun h => absurd h.2.2 (by decide)) hk48
              have hk75 := kp_fr hG64 (fun h => absurd h.2.2 (by decide)) hf39
              clear hk44 hk45 hk46 hk47 hk48 hf39
              have hF76 := Fr.trans hF49 hG64 (fun a b h => (Or.inl h))
              refine j_iconst hX dX11_behindUnit_191 ?_
              exact hret _ _ _ _ dX11_behindUnit_192 (nb (by omega)) (by omega) ⟨hI63, hF76, by omega, ⟨m, hq65, by omega, by omega⟩, by first | exact fun _ => PT_0 (PS_pk hV_0 hk_0 (fun i _ => (hV70 i).1) (fun i _ => (hV70 i).2) (fun i _ => hV71 i) (by omega) (by omega) (by omega) (by omega) (by omega)) | exact fun _ => Or.inl ⟨by have := PS_8 hV_0 hk_0 (by omega); omega, PS_dn hV_0 (by omega) (by omega) (fun i _ => hV71 i) (by omega)⟩⟩
          · skip
            have htk := h3 (by omega)
            refine j_aload_n hX dX11_behindUnit_108 rfl 0 rfl ?_
            refine j_iload_n hX dX11_behindUnit_109 rfl 1 rfl ?_
            refine j_iload_n hX dX11_behindUnit_110 rfl 1 rfl ?_
            refine j_iconst hX dX11_behindUnit_111 ?_
            refine j_icmp_ne (tgt := 120) hX dX11_behindUnit_112 (by decide) (by omega) (by omega) (fun hc77 => ?_) (fun hc77 => ?_)
            · skip
              refine j_iload_n hX dX11_behindUnit_120 rfl 1 rfl ?_
              refine j_iconst hX dX11_behindUnit_121 ?_
              refine j_icmp_ne (tgt := 130) hX dX11_behindUnit_122 (by decide) (by omega) (by omega) (fun hc78 => ?_) (fun hc78 => ?_)
              · skip
                have hx4 := h4 (by omega)
                refine j_aload_n hX dX11_behindUnit_130 rfl 0 rfl ?_
                refine j_aload_n hX dX11_behindUnit_131 rfl 0 rfl ?_
                refine gf_X11_214 hX (by omega) (by omega) kc_210 dX11_behindUnit_132 ?_
                refine j_name hI ro_210_6 (fun v79 hv80 hl81 hh82 => ?_)
                have hk83 := hv80.symm
                refine j_callVI hX lk_X11_217 (c_X11_sign _ _ _ _ _ _ _ _ (by omega) hI (by omega) (by first | assumption | rfl) (by first | assumption | omega)) (by omega) hce rfl rfl (by omega) (by omega) kc_210 rfl rfl (Nat.le_of_ble_eq_true rfl) dX11_behindUnit_135 (fun z84 M85 hz87 hp86 => ?_)
                obtain ⟨hE88, hq89, hq90, hq91⟩ := hp86
                replace hE88 := hE88.symm
                subst hE88
                have hsg := sq_at hV_2 hq91 (by assumption) (by omega)
                refine j_callVV hX lk_X11_344 (c_X11_pushE _ _ _ _ _ _ _ _ _ (by omega) hI (by omega) (by omega) hk_0 (by first | assumption | omega)) (by omega) hce rfl rfl (by omega) (by omega) kc_210 rfl rfl (Nat.le_of_ble_eq_true rfl) dX11_behindUnit_138 (fun M93 hp94 => ?_)
                obtain ⟨hI97, hG98, hq99⟩ := hp94
                have hV101 := ML_dp hV_1 (fun a b h => hG98 a b (by omega))
                have hV102 := SQ_dp hV_2 (fun a b h => hG98 a b (by omega))
                have hV104 := CF_dp hV5 (fun a b h => hG98 a b (by omega))
                have hk105 := kp_fr hG98 (fun h => h.elim (fun h => absurd h.1 (by decide)) (fun h => h.elim (fun h => absurd h.1 (by decide)) (fun h => absurd h.2.1 (by decide)))) hk_1
                have hk106 := kp_fr hG98 (fun h => h.elim (fun h => absurd h.1 (by decide)) (fun h => h.elim (fun h => absurd h.1 (by decide)) (fun h => absurd h.2.1 (by decide)))) hk_2
                have hk107 := kp_fr hG98 (fun h => h.elim (fun h => absurd h.1 (by decide)) (fun h => h.elim (fun h => absurd h.1 (by decide)) (fun h => absurd h.2.1 (by decide)))) hk_3
                have hk108 := kp_fr hG98 (fun h => h.elim (fun h => absurd h.1 (by decide)) (fun h => h.elim (fun h => absurd h.1 (by decide)) (fun h => absurd h.2.2 (by decide)))) hk_4
                have hk109 := kp_fr hG98 (fun h => h.elim (fun h => absurd h.1 (by decide)) (fun h => h.elim (fun h => absurd h.1 (by decide)) (fun h => absurd h.2.1 (by decide)))) hk_5
                have hk110 := kp_fr hG98 (fun h => h.elim (fun h => absurd h.1 (by decide)) (fun h => h.elim (fun h => absurd h.1 (by decide)) (fun h => absurd h.2.1 (by decide)))) hk83
                clear hk83
                have hF111 := Fr.trans hF hG98 (fun a b h => h.elim (fun h => (Or.inr (Or.inr (Or.inr ⟨by omega, by omega⟩)))) (fun h => h.elim (fun h => (Or.inr (Or.inr (Or.inr ⟨by omega, by omega⟩)))) (fun h => (Or.inr (Or.inl ⟨h.1, Int.le_trans (by decide) h.2.1, Int.le_trans h.2.2 (by decide)⟩)))))
                obtain ⟨hp1, hp2, hp3⟩ := hq99
                have hV112 := PS_pb hV_0 hk_0 (by omega) (fun i h => hG98 239 i (by omega)) (fun i h => hG98 240 i (by omega)) (fun i _ => hG98 237 i (by omega)) (by omega) (show _ ∧ _ from ⟨by omega, by omega⟩) (by omega) (hG98 210 43 (by omega)) (hG98 210 42 (by omega)) (hG98 210 45 (by omega))
                have hg48 : M93.1 210 4 = 0 ∧ M93.1 210 8 ≠ 0 := ⟨by omega, by omega⟩
                refine j_aload_n hX dX11_behindUnit_141 rfl 0 rfl ?_
                refine j_callVV hX lk_X11_253 (c_X11_goOn _ _ _ _ _ _ _ _ (by omega) hI97 (by first | assumption | rfl) hV101) (by omega) hce rfl rfl (by omega) (by omega) kc_210 rfl rfl (Nat.le_of_ble_eq_true rfl) dX11_behindUnit_142 (fun M114 hp115 => ?_)
                obtain ⟨hI118, hG119, hq120, hq121⟩ := hp115
                have hV124 := CF_dp hV104 (fun a b h => hG119 a b (by omega))
                have hV125 := PS_dp hV112 (fun a b h => hG119 a b (by omega))
                have hk126 := kp_fr hG119 (fun h => absurd h.2.2 (by decide)) hk105
                have hk127 := kp_fr hG119 (fun h => absurd h.2.2 (by decide)) hk106
                have hk128 := kp_fr hG119 (fun h => absurd h.2.2 (by decide)) hk108
                have hk129 := kp_fr hG119 (fun h => absurd h.2.1 (by decide)) hk109
                have hk130 := kp_fr hG119 (fun h => absurd h.2.2 (by decide)) hp3
                clear hk105 hk106 hk107 hk108 hk109 hk110
                have hF131 := Fr.trans hF111 hG119 (fun a b h => (Or.inl ⟨h.1, Int.le_trans (by decide) h.2.1, Int.le_trans h.2.2 (by decide)⟩))
                have hV132 := hq121 hg48.1 hg48.2
                refine j_iconst hX dX11_behindUnit_145 ?_
                exact hret _ _ _ _ dX11_behindUnit_146 (nb (by omega)) (by omega) ⟨hI118, hF131, by omega, ⟨m - 1, hV132, by omega, by omega⟩, fun _ => PT_1 hV125⟩
              · skip
                refine j_bipush hX dX11_behindUnit_125 rfl ?_
                refine j_goto (tgt := 138) hX dX11_behindUnit_127 (by decide) ?_
                refine j_callVV hX lk_X11_344 (c_X11_pushE _ _ _ _ _ _ _ _ _ (by omega) hI (by omega) (by omega) hk_0 (by first | assumption | omega)) (by omega) hce rfl rfl (by omega) (by omega) kc_210 rfl rfl (Nat.le_of_ble_eq_true rfl) dX11_behindUnit_138 (fun M134 hp135 => ?_)
                obtain ⟨hI138, hG139, hq140⟩ := hp135
                have hV142 := ML_dp hV_1 (fun a b h => hG139 a b (by omega))
                have hV143 := SQ_dp hV_2 (fun a b h => hG139 a b (by omega))
                have hV145 := CF_dp hV5 (fun a b h => hG139 a b (by omega))
                have hk146 := kp_fr hG139 (fun h => h.elim (fun h => absurd h.1 (by decide)) (fun h => h.elim (fun h => absurd h.1 (by decide)) (fun h => absurd h.2.1 (by decide)))) hk_1
                have hk147 := kp_fr hG139 (fun h => h.elim (fun h => absurd h.1 (by decide)) (fun h => h.elim (fun h => absurd h.1 (by decide)) (fun h => absurd h.2.1 (by decide)))) hk_2
                have hk148 := kp_fr hG139 (fun h => h.elim (fun h => absurd h.1 (by decide)) (fun h => h.elim (fun h => absurd h.1 (by decide)) (fun h => absurd h.2.1 (by decide)))) hk_3
                have hk149 := kp_fr hG139 (fun h => h.elim (fun h => absurd h.1 (by decide)) (fun h => h.elim (fun h => absurd h.1 (by decide)) (fun h => absurd h.2.2 (by decide)))) hk_4
                have hk150 := kp_fr hG139 (fun h => h.elim (fun h => absurd h.1 (by decide)) (fun h => h.elim (fun h => absurd h.1 (by decide)) (fun h => absurd h.2.1 (by decide)))) hk_5
                have hF151 := Fr.trans hF hG139 (fun a b h => h.elim (fun h => (Or.inr (Or.inr (Or.inr ⟨by omega, by omega⟩)))) (fun h => h.elim (fun h => (Or.inr (Or.inr (Or.inr ⟨by omega, by omega⟩)))) (fun h => (Or.inr (Or.inl ⟨h.1, Int.le_trans (by decide) h.2.1, Int.le_trans h.2.2 (by decide)⟩)))))
                obtain ⟨hp1, hp2, hp3⟩ := hq140
                have hV152 := PS_pb hV_0 hk_0 (by omega) (fun i h => hG139 239 i (by omega)) (fun i h => hG139 240 i (by omega)) (fun i _ => hG139 237 i (by omega)) (by omega) (show _ ∧ _ from ⟨by omega, by omega⟩) (by omega) (hG139 210 43 (by omega)) (hG139 210 42 (by omega)) (hG139 210 45 (by omega))
                have hg48 : M134.1 210 4 = 0 ∧ M134.1 210 8 ≠ 0 := ⟨by omega, by omega⟩
                refine j_aload_n hX dX11_behindUnit_141 rfl 0 rfl ?_
                refine j_callVV hX lk_X11_253 (c_X11_goOn _ _ _ _ _ _ _ _ (by omega) hI138 (by first | assumption | rfl) hV142) (by omega) hce rfl rfl (by omega) (by omega) kc_210 rfl rfl (Nat.le_of_ble_eq_true rfl) dX11_behindUnit_142 (fun M154 hp155 => ?_)
                obtain ⟨hI158, hG159, hq160, hq161⟩ := hp155
                have hV164 := CF_dp hV145 (fun a b h => hG159 a b (by omega))
                have hV165 := PS_dp hV152 (fun a b h => hG159 a b (by omega))
                have hk166 := kp_fr hG159 (fun h => absurd h.2.2 (by decide)) hk146
                have hk167 := kp_fr hG159 (fun h => absurd h.2.2 (by decide)) hk147
                have hk168 := kp_fr hG159 (fun h => absurd h.2.2 (by decide)) hk149
                have hk169 := kp_fr hG159 (fun h => absurd h.2.1 (by decide)) hk150
                have hk170 := kp_fr hG159 (fun h => absurd h.2.2 (by decide)) hp3
                clear hk146 hk147 hk148 hk149 hk150
                have hF171 := Fr.trans hF151 hG159 (fun a b h => (Or.inl ⟨h.1, Int.le_trans (by decide) h.2.1, Int.le_trans h.2.2 (by decide)⟩))
                have hV172 := hq161 hg48.1 hg48.2
                refine j_iconst hX dX11_behindUnit_145 ?_
                exact hret _ _ _ _ dX11_behindUnit_146 (nb (by omega)) (by omega) ⟨hI158, hF171, by omega, ⟨m - 1, hV172, by omega, by omega⟩, fun _ => PT_1 hV165⟩
            · skip
              refine j_bipush hX dX11_behindUnit_115 rfl ?_
              refine j_goto (tgt := 138) hX dX11_behindUnit_117 (by decide) ?_
              refine j_callVV hX lk_X11_344 (c_X11_pushE _ _ _ _ _ _ _ _ _ (by omega) hI (by omega) (by omega) hk_0 (by first | assumption | omega)) (by omega) hce rfl rfl (by omega) (by omega) kc_210 rfl rfl (Nat.le_of_ble_eq_true rfl) dX11_behindUnit_138 (fun M174 hp175 => ?_)
              obtain ⟨hI178, hG179, hq180⟩ := hp175
              have hV182 := ML_dp hV_1 (fun a b h => hG179 a b (by omega))
              have hV183 := SQ_dp hV_2 (fun a b h => hG179 a b (by omega))
              have hV185 := CF_dp hV5 (fun a b h => hG179 a b (by omega))
              have hk186 := kp_fr hG179 (fun h => h.elim (fun h => absurd h.1 (by decide)) (fun h => h.elim (fun h => absurd h.1 (by decide)) (fun h => absurd h.2.1 (by decide)))) hk_1
              have hk187 := kp_fr hG179 (fun h => h.elim (fun h => absurd h.1 (by decide)) (fun h => h.elim (fun h => absurd h.1 (by decide)) (fun h => absurd h.2.1 (by decide)))) hk_2
              have hk188 := kp_fr hG179 (fun h => h.elim (fun h => absurd h.1 (by decide)) (fun h => h.elim (fun h => absurd h.1 (by decide)) (fun h => absurd h.2.1 (by decide)))) hk_3
              have hk189 := kp_fr hG179 (fun h => h.elim (fun h => absurd h.1 (by decide)) (fun h => h.elim (fun h => absurd h.1 (by decide)) (fun h => absurd h.2.2 (by decide)))) hk_4
              have hk190 := kp_fr hG179 (fun h => h.elim (fun h => absurd h.1 (by decide)) (fun h => h.elim (fun h => absurd h.1 (by decide)) (fun h => absurd h.2.1 (by decide)))) hk_5
              have hF191 := Fr.trans hF hG179 (fun a b h => h.elim (fun h => (Or.inr (Or.inr (Or.inr ⟨by omega, by omega⟩)))) (fun h => h.elim (fun h => (Or.inr (Or.inr (Or.inr ⟨by omega, by omega⟩)))) (fun h => (Or.inr (Or.inl ⟨h.1, Int.le_trans (by decide) h.2.1, Int.le_trans h.2.2 (by decide)⟩)))))
              obtain ⟨hp1, hp2, hp3⟩ := hq180
              have hV192 := PS_pb hV_0 hk_0 (by omega) (fun i h => hG179 239 i (by omega)) (fun i h => hG179 240 i (by omega)) (fun i _ => hG179 237 i (by omega)) (by omega) (show _ ∧ _ from ⟨by omega, by omega⟩) (by omega) (hG179 210 43 (by omega)) (hG179 210 42 (by omega)) (hG179 210 45 (by omega))
              have hg48 : M174.1 210 4 = 0 ∧ M174.1 210 8 ≠ 0 := ⟨by omega, by omega⟩
              refine j_aload_n hX dX11_behindUnit_141 rfl 0 rfl ?_
              refine j_callVV hX lk_X11_253 (c_X11_goOn _ _ _ _ _ _ _ _ (by omega) hI178 (by first | assumption | rfl) hV182) (by omega) hce rfl rfl (by omega) (by omega) kc_210 rfl rfl (Nat.le_of_ble_eq_true rfl) dX11_behindUnit_142 (fun M194 hp195 => ?_)
              obtain ⟨hI198, hG199, hq200, hq201⟩ := hp195
              have hV204 := CF_dp hV185 (fun a b h => hG199 a b (by omega))
              have hV205 := PS_dp hV192 (fun a b h => hG199 a b (by omega))
              have hk206 := kp_fr hG199 (fun h => absurd h.2.2 (by decide)) hk186
              have hk207 := kp_fr hG199 (fun h => absurd h.2.2 (by decide)) hk187
              have hk208 := kp_fr hG199 (fun h => absurd h.2.2 (by decide)) hk189
              have hk209 := kp_fr hG199 (fun h => absurd h.2.1 (by decide)) hk190
              have hk210 := kp_fr hG199 (fun h => absurd h.2.2 (by decide)) hp3
              clear hk186 hk187 hk188 hk189 hk190
              have hF211 := Fr.trans hF191 hG199 (fun a b h => (Or.inl ⟨h.1, Int.le_trans (by decide) h.2.1, Int.le_trans h.2.2 (by decide)⟩))
              have hV212 := hq201 hg48.1 hg48.2
              refine j_iconst hX dX11_behindUnit_145 ?_
              exact hret _ _ _ _ dX11_behindUnit_146 (nb (by omega)) (by omega) ⟨hI198, hF211, by omega, ⟨m - 1, hV212, by omega, by omega⟩, fun _ => PT_1 hV205⟩
        · skip
          refine j_aload_n hX dX11_behindUnit_39 rfl 0 rfl ?_
          refine gf_X11_101 hX (by omega) (by omega) kc_210 (fc_210_37 hI) (by decide) dX11_behindUnit_40 ?_
          refine j_aload_n hX dX11_behindUnit_43 rfl 0 rfl ?_
          refine gf_X11_338 hX (by omega) (by omega) kc_210 dX11_behindUnit_44 ?_
          refine j_top hk_0 ?_
          refine j_iconst hX dX11_behindUnit_47 ?_
          refine j_isub hX dX11_behindUnit_48 ?_
          refine j_iald hX (by omega) (by omega) kc_239 (by omega) (by omega) (by omega) dX11_behindUnit_49 ?_
          refine j_name hI (ra_239 _) (fun v213 hv214 hl215 hh216 => ?_)
          refine j_iload_n hX dX11_behindUnit_50 rfl 1 rfl ?_
          refine j_icmp_lt (tgt := 104) hX dX11_behindUnit_51 (by decide) (by omega) (by omega) (fun hc217 => ?_) (fun hc217 => ?_)
          · skip
            refine j_iload_n hX dX11_behindUnit_104 rfl 1 rfl ?_
            refine j_if_le (tgt := 147) hX dX11_behindUnit_105 (by decide) (by omega) (fun hc218 => ?_) (fun hc218 => ?_)
            · skip
              refine j_aload_n hX dX11_behindUnit_147 rfl 0 rfl ?_
              refine j_dup hX dX11_behindUnit_148 rfl ?_
              refine gf_X11_338 hX (by omega) (by omega) kc_210 dX11_behindUnit_149 ?_
              refine j_top hk_0 ?_
              refine j_iconst hX dX11_behindUnit_152 ?_
              refine j_isub hX dX11_behindUnit_153 ?_
              refine pf_X11_338 hX (by omega) (by omega) kc_210 (by omega) dX11_behindUnit_154 ?_
              refine j_up hI ro_210_44 (by omega) (by omega) (Or.inl (by omega)) (fun M219 w220 hw221 hM222 hI223 hf224 => ?_)
              have hV226 := ML_dp (M' := M219) hV_1 (fun a b h => by rw [hM222]; exact up_ne (by omega))
              have hV227 := SQ_dp (M' := M219) hV_2 (fun a b h => by rw [hM222]; exact up_ne (by omega))
              have hV228 := RE_dp (M' := M219) hV4 (fun a b h => by rw [hM222]; exact up_ne (by omega))
              have hV229 := CF_dp (M' := M219) hV5 (fun a b h => by rw [hM222]; exact up_ne (by omega))
              have hk230 := kp_up hM222 (fun h => absurd h.2 (by decide)) hk_1
              have hk231 := kp_up hM222 (fun h => absurd h.2 (by decide)) hk_2
              have hk232 := kp_up hM222 (fun h => absurd h.2 (by decide)) hk_3
              have hk233 := kp_up hM222 (fun h => absurd h.2 (by decide)) hk_4
              have hk234 := kp_up hM222 (fun h => absurd h.2 (by decide)) hk_5
              have hF235 := Fr.put hF hM222 ((Or.inr (Or.inl ⟨rfl, by decide, by decide⟩)))
              refine j_aload_n hX dX11_behindUnit_157 rfl 0 rfl ?_
              refine gf_X11_101 hX (by omega) (by omega) kc_210 (fc_210_37 hI223) (by decide) dX11_behindUnit_158 ?_
              refine j_aload_n hX dX11_behindUnit_161 rfl 0 rfl ?_
              refine gf_X11_338 hX (by omega) (by omega) kc_210 dX11_behindUnit_162 ?_
              refine j_top hf224 ?_
              refine j_iald hX (by omega) (by omega) kc_239 (by omega) (by omega) (by omega) dX11_behindUnit_165 ?_
              refine j_name hI223 (ra_239 _) (fun v236 hv237 hl238 hh239 => ?_)
              have hv2 := re_w hV228 hv237 (k := np - 1) (by omega)
              refine j_bipush hX dX11_behindUnit_166 rfl ?_
              refine j_icmp_ne (tgt := 191) hX dX11_behindUnit_168 (by decide) (by omega) (by omega) (fun hc240 => ?_) (fun hc240 => ?_)
              · skip
                refine j_iconst hX dX11_behindUnit_191 ?_
                exact hret _ _ _ _ dX11_behindUnit_192 (nb (by omega)) (by omega) ⟨hI223, hF235, by omega, ⟨m, hV226, by omega, by omega⟩, by first | exact fun _ => PT_0 (PS_pk hV_0 hk_0 (fun i _ => (hV228 i).1) (fun i _ => (hV228 i).2) (fun i _ => hV229 i) (by omega) (by omega) (by omega) (by omega) (by omega)) | exact fun _ => Or.inl ⟨by have := PS_8 hV_0 hk_0 (by omega); omega, PS_dn hV_0 (by omega) (by omega) (fun i _ => hV229 i) (by omega)⟩⟩
              · skip
                have hw1 := PS_w1 hV_0 hk_0 (by omega)
                refine j_aload_n hX dX11_behindUnit_171 rfl 0 rfl ?_
                refine j_dup hX dX11_behindUnit_172 rfl ?_
                refine gf_X11_341 hX (by omega) (by omega) kc_210 dX11_behindUnit_173 ?_
                refine j_top hk230 ?_
                refine j_iconst hX dX11_behindUnit_176 ?_
                refine j_isub hX dX11_behindUnit_177 ?_
                refine pf_X11_341 hX (by omega) (by omega) kc_210 (by omega) dX11_behindUnit_178 ?_
                refine j_up hI223 ro_210_43 (by omega) (by omega) (Or.inl (by omega)) (fun M241 w242 hw243 hM244 hI245 hf246 => ?_)
                have hV247 := ML_dp (M' := M241) hV226 (fun a b h => by rw [hM244]; exact up_ne (by omega))
                have hV248 := SQ_dp (M' := M241) hV227 (fun a b h => by rw [hM244]; exact up_ne (by omega))
                have hV249 := RE_dp (M' := M241) hV228 (fun a b h => by rw [hM244]; exact up_ne (by omega))
                have hV250 := CF_dp (M' := M241) hV229 (fun a b h => by rw [hM244]; exact up_ne (by omega))
                have hk251 := kp_up hM244 (fun h => absurd h.2 (by decide)) hk231
                have hk252 := kp_up hM244 (fun h => absurd h.2 (by decide)) hk232
                have hk253 := kp_up hM244 (fun h => absurd h.2 (by decide)) hk233
                have hk254 := kp_up hM244 (fun h => absurd h.2 (by decide)) hk234
                have hk255 := kp_up hM244 (fun h => absurd h.2 (by decide)) hf224
                clear hk230 hk231 hk232 hk233 hk234 hf224
                have hF256 := Fr.put hF235 hM244 ((Or.inr (Or.inl ⟨rfl, by decide, by decide⟩)))
                refine j_aload_n hX dX11_behindUnit_181 rfl 0 rfl ?_
                refine j_aload_n hX dX11_behindUnit_182 rfl 0 rfl ?_
                refine j_bipush hX dX11_behindUnit_183 rfl ?_
                refine j_callVI hX lk_X11_311 (c_X11_isSignHere _ _ _ _ _ _ _ (by omega) hI245 (by omega)) (by omega) hce rfl rfl (by omega) (by omega) kc_210 rfl rfl (Nat.le_of_ble_eq_true rfl) dX11_behindUnit_185 (fun z257 M258 hz260 hp259 => ?_)
                obtain ⟨hE261, hb262, hq263, hq264⟩ := hp259
                replace hE261 := hE261.symm
                subst hE261
                refine j_callVV hX lk_X11_262 (c_X11_must _ _ _ _ _ _ _ _ (by omega) hI245 (by omega) hV247 (by first | assumption | omega)) (by omega) hce rfl rfl (by omega) (by omega) kc_210 rfl rfl (Nat.le_of_ble_eq_true rfl) dX11_behindUnit_188 (fun M266 hp267 => ?_)
                obtain ⟨hI270, hG271, hq272, hq273, hq274⟩ := hp267
                have hV277 := RE_dp hV249 (fun a b h => hG271 a b (by omega))
                have hV278 := CF_dp hV250 (fun a b h => hG271 a b (by omega))
                have hk279 := kp_fr hG271 (fun h => absurd h.2.2 (by decide)) hk251
                have hk280 := kp_fr hG271 (fun h => absurd h.2.2 (by decide)) hk253
                have hk281 := kp_fr hG271 (fun h => absurd h.2.2 (by decide)) hk255
                have hk282 := kp_fr hG271 (fun h => absurd h.2.2 (by decide)) hf246
                clear hk251 hk252 hk253 hk254 hk255 hf246
                have hF283 := Fr.trans hF256 hG271 (fun a b h => (Or.inl h))
                refine j_iconst hX dX11_behindUnit_191 ?_
                exact hret _ _ _ _ dX11_behindUnit_192 (nb (by omega)) (by omega) ⟨hI270, hF283, by omega, ⟨m, hq272, by omega, by omega⟩, by first | exact fun _ => PT_0 (PS_pk hV_0 hk_0 (fun i _ => (hV277 i).1) (fun i _ => (hV277 i).2) (fun i _ => hV278 i) (by omega) (by omega) (by omega) (by omega) (by omega)) | exact fun _ => Or.inl ⟨by have := PS_8 hV_0 hk_0 (by omega); omega, PS_dn hV_0 (by omega) (by omega) (fun i _ => hV278 i) (by omega)⟩⟩
            · skip
              have htk := h3 (by omega)
              refine j_aload_n hX dX11_behindUnit_108 rfl 0 rfl ?_
              refine j_iload_n hX dX11_behindUnit_109 rfl 1 rfl ?_
              refine j_iload_n hX dX11_behindUnit_110 rfl 1 rfl ?_
              refine j_iconst hX dX11_behindUnit_111 ?_
              refine j_icmp_ne (tgt := 120) hX dX11_behindUnit_112 (by decide) (by omega) (by omega) (fun hc284 => ?_) (fun hc284 => ?_)
              · skip
                refine j_iload_n hX dX11_behindUnit_120 rfl 1 rfl ?_
                refine j_iconst hX dX11_behindUnit_121 ?_
                refine j_icmp_ne (tgt := 130) hX dX11_behindUnit_122 (by decide) (by omega) (by omega) (fun hc285 => ?_) (fun hc285 => ?_)
                · skip
                  have hx4 := h4 (by omega)
                  refine j_aload_n hX dX11_behindUnit_130 rfl 0 rfl ?_
                  refine j_aload_n hX dX11_behindUnit_131 rfl 0 rfl ?_
                  refine gf_X11_214 hX (by omega) (by omega) kc_210 dX11_behindUnit_132 ?_
                  refine j_name hI ro_210_6 (fun v286 hv287 hl288 hh289 => ?_)
                  have hk290 := hv287.symm
                  refine j_callVI hX lk_X11_217 (c_X11_sign _ _ _ _ _ _ _ _ (by omega) hI (by omega) (by first | assumption | rfl) (by first | assumption | omega)) (by omega) hce rfl rfl (by omega) (by omega) kc_210 rfl rfl (Nat.le_of_ble_eq_true rfl) dX11_behindUnit_135 (fun z291 M292 hz294 hp293 => ?_)
                  obtain ⟨hE295, hq296, hq297, hq298⟩ := hp293
                  replace hE295 := hE295.symm
                  subst hE295
                  have hsg := sq_at hV_2 hq298 (by assumption) (by omega)
                  refine j_callVV hX lk_X11_344 (c_X11_pushE _ _ _ _ _ _ _ _ _ (by omega) hI (by omega) (by omega) hk_0 (by first | assumption | omega)) (by omega) hce rfl rfl (by omega) (by omega) kc_210 rfl rfl (Nat.le_of_ble_eq_true rfl) dX11_behindUnit_138 (fun M300 hp301 => ?_)
                  obtain ⟨hI304, hG305, hq306⟩ := hp301
                  have hV308 := ML_dp hV_1 (fun a b h => hG305 a b (by omega))
                  have hV309 := SQ_dp hV_2 (fun a b h => hG305 a b (by omega))
                  have hV311 := CF_dp hV5 (fun a b h => hG305 a b (by omega))
                  have hk312 := kp_fr hG305 (fun h => h.elim (fun h => absurd h.1 (by decide)) (fun h => h.elim (fun h => absurd h.1 (by decide)) (fun h => absurd h.2.1 (by decide)))) hk_1
                  have hk313 := kp_fr hG305 (fun h => h.elim (fun h => absurd h.1 (by decide)) (fun h => h.elim (fun h => absurd h.1 (by decide)) (fun h => absurd h.2.1 (by decide)))) hk_2
                  have hk314 := kp_fr hG305 (fun h => h.elim (fun h => absurd h.1 (by decide)) (fun h => h.elim (fun h => absurd h.1 (by decide)) (fun h => absurd h.2.1 (by decide)))) hk_3
                  have hk315 := kp_fr hG305 (fun h => h.elim (fun h => absurd h.1 (by decide)) (fun h => h.elim (fun h => absurd h.1 (by decide)) (fun h => absurd h.2.2 (by decide)))) hk_4
                  have hk316 := kp_fr hG305 (fun h => h.elim (fun h => absurd h.1 (by decide)) (fun h => h.elim (fun h => absurd h.1 (by decide)) (fun h => absurd h.2.1 (by decide)))) hk_5
                  have hk317 := kp_fr hG305 (fun h => h.elim (fun h => absurd h.1 (by decide)) (fun h => h.elim (fun h => absurd h.1 (by decide)) (fun h => absurd h.2.1 (by decide)))) hk290
                  clear hk290
                  have hF318 := Fr.trans hF hG305 (fun a b h => h.elim (fun h => (Or.inr (Or.inr (Or.inr ⟨by omega, by omega⟩)))) (fun h => h.elim (fun h => (Or.inr (Or.inr (Or.inr ⟨by omega, by omega⟩)))) (fun h => (Or.inr (Or.inl ⟨h.1, Int.le_trans (by decide) h.2.1, Int.le_trans h.2.2 (by decide)⟩)))))
                  obtain ⟨hp1, hp2, hp3⟩ := hq306
                  have hV319 := PS_pb hV_0 hk_0 (by omega) (fun i h => hG305 239 i (by omega)) (fun i h => hG305 240 i (by omega)) (fun i _ => hG305 237 i (by omega)) (by omega) (show _ ∧ _ from ⟨by omega, by omega⟩) (by omega) (hG305 210 43 (by omega)) (hG305 210 42 (by omega)) (hG305 210 45 (by omega))
                  have hg48 : M300.1 210 4 = 0 ∧ M300.1 210 8 ≠ 0 := ⟨by omega, by omega⟩
                  refine j_aload_n hX dX11_behindUnit_141 rfl 0 rfl ?_
                  refine j_callVV hX lk_X11_253 (c_X11_goOn _ _ _ _ _ _ _ _ (by omega) hI304 (by first | assumption | rfl) hV308) (by omega) hce rfl rfl (by omega) (by omega) kc_210 rfl rfl (Nat.le_of_ble_eq_true rfl) dX11_behindUnit_142 (fun M321 hp322 => ?_)
                  obtain ⟨hI325, hG326, hq327, hq328⟩ := hp322
                  have hV331 := CF_dp hV311 (fun a b h => hG326 a b (by omega))
                  have hV332 := PS_dp hV319 (fun a b h => hG326 a b (by omega))
                  have hk333 := kp_fr hG326 (fun h => absurd h.2.2 (by decide)) hk312
                  have hk334 := kp_fr hG326 (fun h => absurd h.2.2 (by decide)) hk313
                  have hk335 := kp_fr hG326 (fun h => absurd h.2.2 (by decide)) hk315
                  have hk336 := kp_fr hG326 (fun h => absurd h.2.1 (by decide)) hk316
                  have hk337 := kp_fr hG326 (fun h => absurd h.2.2 (by decide)) hp3
                  clear hk312 hk313 hk314 hk315 hk316 hk317
                  have hF338 := Fr.trans hF318 hG326 (fun a b h => (Or.inl ⟨h.1, Int.le_trans (by decide) h.2.1, Int.le_trans h.2.2 (by decide)⟩))
                  have hV339 := hq328 hg48.1 hg48.2
                  refine j_iconst hX dX11_behindUnit_145 ?_
                  exact hret _ _ _ _ dX11_behindUnit_146 (nb (by omega)) (by omega) ⟨hI325, hF338, by omega, ⟨m - 1, hV339, by omega, by omega⟩, fun _ => PT_1 hV332⟩
                · skip
                  refine j_bipush hX dX11_behindUnit_125 rfl ?_
                  refine j_goto (tgt := 138) hX dX11_behindUnit_127 (by decide) ?_
                  refine j_callVV hX lk_X11_344 (c_X11_pushE _ _ _ _ _ _ _ _ _ (by omega) hI (by omega) (by omega) hk_0 (by first | assumption | omega)) (by omega) hce rfl rfl (by omega) (by omega) kc_210 rfl rfl (Nat.le_of_ble_eq_true rfl) dX11_behindUnit_138 (fun M341 hp342 => ?_)
                  obtain ⟨hI345, hG346, hq347⟩ := hp342
                  have hV349 := ML_dp hV_1 (fun a b h => hG346 a b (by omega))
                  have hV350 := SQ_dp hV_2 (fun a b h => hG346 a b (by omega))
                  have hV352 := CF_dp hV5 (fun a b h => hG346 a b (by omega))
                  have hk353 := kp_fr hG346 (fun h => h.elim (fun h => absurd h.1 (by decide)) (fun h => h.elim (fun h => absurd h.1 (by decide)) (fun h => absurd h.2.1 (by decide)))) hk_1
                  have hk354 := kp_fr hG346 (fun h => h.elim (fun h => absurd h.1 (by decide)) (fun h => h.elim (fun h => absurd h.1 (by decide)) (fun h => absurd h.2.1 (by decide)))) hk_2
                  have hk355 := kp_fr hG346 (fun h => h.elim (fun h => absurd h.1 (by decide)) (fun h => h.elim (fun h => absurd h.1 (by decide)) (fun h => absurd h.2.1 (by decide)))) hk_3
                  have hk356 := kp_fr hG346 (fun h => h.elim (fun h => absurd h.1 (by decide)) (fun h => h.elim (fun h => absurd h.1 (by decide)) (fun h => absurd h.2.2 (by decide)))) hk_4
                  have hk357 := kp_fr hG346 (fun h => h.elim (fun h => absurd h.1 (by decide)) (fun h => h.elim (fun h => absurd h.1 (by decide)) (fun h => absurd h.2.1 (by decide)))) hk_5
                  have hF358 := Fr.trans hF hG346 (fun a b h => h.elim (fun h => (Or.inr (Or.inr (Or.inr ⟨by omega, by omega⟩)))) (fun h => h.elim (fun h => (Or.inr (Or.inr (Or.inr ⟨by omega, by omega⟩)))) (fun h => (Or.inr (Or.inl ⟨h.1, Int.le_trans (by decide) h.2.1, Int.le_trans h.2.2 (by decide)⟩)))))
                  obtain ⟨hp1, hp2, hp3⟩ := hq347
                  have hV359 := PS_pb hV_0 hk_0 (by omega) (fun i h => hG346 239 i (by omega)) (fun i h => hG346 240 i (by omega)) (fun i _ => hG346 237 i (by omega)) (by omega) (show _ ∧ _ from ⟨by omega, by omega⟩) (by omega) (hG346 210 43 (by omega)) (hG346 210 42 (by omega)) (hG346 210 45 (by omega))
                  have hg48 : M341.1 210 4 = 0 ∧ M341.1 210 8 ≠ 0 := ⟨by omega, by omega⟩
                  refine j_aload_n hX dX11_behindUnit_141 rfl 0 rfl ?_
                  refine j_callVV hX lk_X11_253 (c_X11_goOn _ _ _ _ _ _ _ _ (by omega) hI345 (by first | assumption | rfl) hV349) (by omega) hce rfl rfl (by omega) (by omega) kc_210 rfl rfl (Nat.le_of_ble_eq_true rfl) dX11_behindUnit_142 (fun M361 hp362 => ?_)
                  obtain ⟨hI365, hG366, hq367, hq368⟩ := hp362
                  have hV371 := CF_dp hV352 (fun a b h => hG366 a b (by omega))
                  have hV372 := PS_dp hV359 (fun a b h => hG366 a b (by omega))
                  have hk373 := kp_fr hG366 (fun h => absurd h.2.2 (by decide)) hk353
                  have hk374 := kp_fr hG366 (fun h => absurd h.2.2 (by decide)) hk354
                  have hk375 := kp_fr hG366 (fun h => absurd h.2.2 (by decide)) hk356
                  have hk376 := kp_fr hG366 (fun h => absurd h.2.1 (by decide)) hk357
                  have hk377 := kp_fr hG366 (fun h => absurd h.2.2 (by decide)) hp3
                  clear hk353 hk354 hk355 hk356 hk357
                  have hF378 := Fr.trans hF358 hG366 (fun a b h => (Or.inl ⟨h.1, Int.le_trans (by decide) h.2.1, Int.le_trans h.2.2 (by decide)⟩))
                  have hV379 := hq368 hg48.1 hg48.2
                  refine j_iconst hX dX11_behindUnit_145 ?_
                  exact hret _ _ _ _ dX11_behindUnit_146 (nb (by omega)) (by omega) ⟨hI365, hF378, by omega, ⟨m - 1, hV379, by omega, by omega⟩, fun _ => PT_1 hV372⟩
              · skip
                refine j_bipush hX dX11_behindUnit_115 rfl ?_
                refine j_goto (tgt := 138) hX dX11_behindUnit_117 (by decide) ?_
                refine j_callVV hX lk_X11_344 (c_X11_pushE _ _ _ _ _ _ _ _ _ (by omega) hI (by omega) (by omega) hk_0 (by first | assumption | omega)) (by omega) hce rfl rfl (by omega) (by omega) kc_210 rfl rfl (Nat.le_of_ble_eq_true rfl) dX11_behindUnit_138 (fun M381 hp382 => ?_)
                obtain ⟨hI385, hG386, hq387⟩ := hp382
                have hV389 := ML_dp hV_1 (fun a b h => hG386 a b (by omega))
                have hV390 := SQ_dp hV_2 (fun a b h => hG386 a b (by omega))
                have hV392 := CF_dp hV5 (fun a b h => hG386 a b (by omega))
                have hk393 := kp_fr hG386 (fun h => h.elim (fun h => absurd h.1 (by decide)) (fun h => h.elim (fun h => absurd h.1 (by decide)) (fun h => absurd h.2.1 (by decide)))) hk_1
                have hk394 := kp_fr hG386 (fun h => h.elim (fun h => absurd h.1 (by decide)) (fun h => h.elim (fun h => absurd h.1 (by decide)) (fun h => absurd h.2.1 (by decide)))) hk_2
                have hk395 := kp_fr hG386 (fun h => h.elim (fun h => absurd h.1 (by decide)) (fun h => h.elim (fun h => absurd h.1 (by decide)) (fun h => absurd h.2.1 (by decide)))) hk_3
                have hk396 := kp_fr hG386 (fun h => h.elim (fun h => absurd h.1 (by decide)) (fun h => h.elim (fun h => absurd h.1 (by decide)) (fun h => absurd h.2.2 (by decide)))) hk_4
                have hk397 := kp_fr hG386 (fun h => h.elim (fun h => absurd h.1 (by decide)) (fun h => h.elim (fun h => absurd h.1 (by decide)) (fun h => absurd h.2.1 (by decide)))) hk_5
                have hF398 := Fr.trans hF hG386 (fun a b h => h.elim (fun h => (Or.inr (Or.inr (Or.inr ⟨by omega, by omega⟩)))) (fun h => h.elim (fun h => (Or.inr (Or.inr (Or.inr ⟨by omega, by omega⟩)))) (fun h => (Or.inr (Or.inl ⟨h.1, Int.le_trans (by decide) h.2.1, Int.le_trans h.2.2 (by decide)⟩)))))
                obtain ⟨hp1, hp2, hp3⟩ := hq387
                have hV399 := PS_pb hV_0 hk_0 (by omega) (fun i h => hG386 239 i (by omega)) (fun i h => hG386 240 i (by omega)) (fun i _ => hG386 237 i (by omega)) (by omega) (show _ ∧ _ from ⟨by omega, by omega⟩) (by omega) (hG386 210 43 (by omega)) (hG386 210 42 (by omega)) (hG386 210 45 (by omega))
                have hg48 : M381.1 210 4 = 0 ∧ M381.1 210 8 ≠ 0 := ⟨by omega, by omega⟩
                refine j_aload_n hX dX11_behindUnit_141 rfl 0 rfl ?_
                refine j_callVV hX lk_X11_253 (c_X11_goOn _ _ _ _ _ _ _ _ (by omega) hI385 (by first | assumption | rfl) hV389) (by omega) hce rfl rfl (by omega) (by omega) kc_210 rfl rfl (Nat.le_of_ble_eq_true rfl) dX11_behindUnit_142 (fun M401 hp402 => ?_)
                obtain ⟨hI405, hG406, hq407, hq408⟩ := hp402
                have hV411 := CF_dp hV392 (fun a b h => hG406 a b (by omega))
                have hV412 := PS_dp hV399 (fun a b h => hG406 a b (by omega))
                have hk413 := kp_fr hG406 (fun h => absurd h.2.2 (by decide)) hk393
                have hk414 := kp_fr hG406 (fun h => absurd h.2.2 (by decide)) hk394
                have hk415 := kp_fr hG406 (fun h => absurd h.2.2 (by decide)) hk396
                have hk416 := kp_fr hG406 (fun h => absurd h.2.1 (by decide)) hk397
                have hk417 := kp_fr hG406 (fun h => absurd h.2.2 (by decide)) hp3
                clear hk393 hk394 hk395 hk396 hk397
                have hF418 := Fr.trans hF398 hG406 (fun a b h => (Or.inl ⟨h.1, Int.le_trans (by decide) h.2.1, Int.le_trans h.2.2 (by decide)⟩))
                have hV419 := hq408 hg48.1 hg48.2
                refine j_iconst hX dX11_behindUnit_145 ?_
                exact hret _ _ _ _ dX11_behindUnit_146 (nb (by omega)) (by omega) ⟨hI405, hF418, by omega, ⟨m - 1, hV419, by omega, by omega⟩, fun _ => PT_1 hV412⟩
          · skip
            refine j_aload_n hX dX11_behindUnit_54 rfl 0 rfl ?_
            refine j_dup hX dX11_behindUnit_55 rfl ?_
            refine gf_X11_338 hX (by omega) (by omega) kc_210 dX11_behindUnit_56 ?_
            refine j_top hk_0 ?_
            refine j_iconst hX dX11_behindUnit_59 ?_
            refine j_isub hX dX11_behindUnit_60 ?_
            refine pf_X11_338 hX (by omega) (by omega) kc_210 (by omega) dX11_behindUnit_61 ?_
            refine j_up hI ro_210_44 (by omega) (by omega) (Or.inl (by omega)) (fun M420 w421 hw422 hM423 hI424 hf425 => ?_)
            have hV427 := ML_dp (M' := M420) hV_1 (fun a b h => by rw [hM423]; exact up_ne (by omega))
            have hV428 := SQ_dp (M' := M420) hV_2 (fun a b h => by rw [hM423]; exact up_ne (by omega))
            have hV429 := RE_dp (M' := M420) hV4 (fun a b h => by rw [hM423]; exact up_ne (by omega))
            have hV430 := CF_dp (M' := M420) hV5 (fun a b h => by rw [hM423]; exact up_ne (by omega))
            have hk431 := kp_up hM423 (fun h => absurd h.2 (by decide)) hk_1
            have hk432 := kp_up hM423 (fun h => absurd h.2 (by decide)) hk_2
            have hk433 := kp_up hM423 (fun h => absurd h.2 (by decide)) hk_3
            have hk434 := kp_up hM423 (fun h => absurd h.2 (by decide)) hk_4
            have hk435 := kp_up hM423 (fun h => absurd h.2 (by decide)) hk_5
            have hF436 := Fr.put hF hM423 ((Or.inr (Or.inl ⟨rfl, by decide, by decide⟩)))
            refine j_aload_n hX dX11_behindUnit_64 rfl 0 rfl ?_
            refine gf_X11_101 hX (by omega) (by omega) kc_210 (fc_210_37 hI424) (by decide) dX11_behindUnit_65 ?_
            refine j_aload_n hX dX11_behindUnit_68 rfl 0 rfl ?_
            refine gf_X11_338 hX (by omega) (by omega) kc_210 dX11_behindUnit_69 ?_
            refine j_top hf425 ?_
            refine j_iald hX (by omega) (by omega) kc_239 (by omega) (by omega) (by omega) dX11_behindUnit_72 ?_
            refine j_name hI424 (ra_239 _) (fun v437 hv438 hl439 hh440 => ?_)
            have hv2 := re_w hV429 hv438 (k := np - 1) (by omega)
            refine j_iconst hX dX11_behindUnit_73 ?_
            refine j_icmp_ne (tgt := 87) hX dX11_behindUnit_74 (by decide) (by omega) (by omega) (fun hc441 => ?_) (fun hc441 => ?_)
            · skip
              refine j_aload_n hX dX11_behindUnit_87 rfl 0 rfl ?_
              refine j_aload_n hX dX11_behindUnit_88 rfl 0 rfl ?_
              refine gf_X11_104 hX (by omega) (by omega) kc_210 (fc_210_38 hI424) (by decide) dX11_behindUnit_89 ?_
              refine j_aload_n hX dX11_behindUnit_92 rfl 0 rfl ?_
              refine gf_X11_338 hX (by omega) (by omega) kc_210 dX11_behindUnit_93 ?_
              refine j_top hf425 ?_
              refine j_iald hX (by omega) (by omega) kc_240 (by omega) (by omega) (by omega) dX11_behindUnit_96 ?_
              refine j_name hI424 (ra_240 _) (fun v442 hv443 hl444 hh445 => ?_)
              have hs2 := re_s hV429 hv443 (k := np - 1) (by omega)
              refine j_iconst hX dX11_behindUnit_97 ?_
              have hcfe := hV430
              refine j_callVV hX lk_X11_356 (c_X11_emit _ _ _ _ _ _ _ _ _ (by omega) hI424 (by omega) (by omega) hk432 (by first | assumption | omega)) (by omega) hce rfl rfl (by omega) (by omega) kc_210 rfl rfl (Nat.le_of_ble_eq_true rfl) dX11_behindUnit_98 (fun M447 hp448 => ?_)
              obtain ⟨hI451, hG452, hq453⟩ := hp448
              have hV454 := ML_dp hV427 (fun a b h => hG452 a b (by omega))
              have hV455 := SQ_dp hV428 (fun a b h => hG452 a b (by omega))
              have hV456 := RE_dp hV429 (fun a b h => hG452 a b (by omega))
              have hk458 := kp_fr hG452 (fun h => h.elim (fun h => absurd h.1 (by decide)) (fun h => h.elim (fun h => absurd h.1 (by decide)) (fun h => absurd h.2.2 (by decide)))) hk431
              have hk459 := kp_fr hG452 (fun h => h.elim (fun h => absurd h.1 (by decide)) (fun h => h.elim (fun h => absurd h.1 (by decide)) (fun h => absurd h.2.1 (by decide)))) hk433
              have hk460 := kp_fr hG452 (fun h => h.elim (fun h => absurd h.1 (by decide)) (fun h => h.elim (fun h => absurd h.1 (by decide)) (fun h => absurd h.2.2 (by decide)))) hk434
              have hk461 := kp_fr hG452 (fun h => h.elim (fun h => absurd h.1 (by decide)) (fun h => h.elim (fun h => absurd h.1 (by decide)) (fun h => absurd h.2.1 (by decide)))) hk435
              have hk462 := kp_fr hG452 (fun h => h.elim (fun h => absurd h.1 (by decide)) (fun h => h.elim (fun h => absurd h.1 (by decide)) (fun h => absurd h.2.2 (by decide)))) hf425
              clear hk431 hk432 hk433 hk434 hk435 hf425
              have hF463 := Fr.trans hF436 hG452 (fun a b h => h.elim (fun h => (Or.inr (Or.inr (Or.inl ⟨h.1, by omega, by omega⟩)))) (fun h => h.elim (fun h => (Or.inr (Or.inr (Or.inr ⟨by omega, by omega⟩)))) (fun h => (Or.inr (Or.inl ⟨h.1, Int.le_trans (by decide) h.2.1, Int.le_trans h.2.2 (by decide)⟩)))))
              have hk464 : M447.1 210 42 = M447.1 210 42 := rfl
              obtain ⟨hp1, hp2⟩ := hq453
              have hV465 := PS_po hV_0 hk_2 hk_0 (by omega) (fun i _ => (hV456 i).1) (fun i _ => (hV456 i).2) (fun i h => (hG452 237 i (by omega)).trans (hcfe i)) (by omega) (by omega) (by omega) (by first | (rw [tw_i (by omega)]; omega) | (rw [tw_o (by omega)]; omega)) (by omega) (by omega)
              refine j_goto (tgt := 23) hX dX11_behindUnit_101 (by decide) ?_
              exact ih _ _ _ _ _ _ (by omega) hI451 hF463 hk462 hk458 hp2 hk459 hk460 hk461 hV465 hV454 hV455 (by first | assumption | omega) (by first | assumption | exact fun h => by have := hrk2 h; omega) (by first | assumption | omega) (by omega) (by omega)
            · skip
              have hw1 := PS_w1 hV_0 hk_0 (by omega)
              refine j_aload_n hX dX11_behindUnit_77 rfl 0 rfl ?_
              refine j_dup hX dX11_behindUnit_78 rfl ?_
              refine gf_X11_341 hX (by omega) (by omega) kc_210 dX11_behindUnit_79 ?_
              refine j_top hk431 ?_
              refine j_iconst hX dX11_behindUnit_82 ?_
              refine j_isub hX dX11_behindUnit_83 ?_
              refine pf_X11_341 hX (by omega) (by omega) kc_210 (by omega) dX11_behindUnit_84 ?_
              refine j_up hI424 ro_210_43 (by omega) (by omega) (Or.inl (by omega)) (fun M466 w467 hw468 hM469 hI470 hf471 => ?_)
              have hV472 := ML_dp (M' := M466) hV427 (fun a b h => by rw [hM469]; exact up_ne (by omega))
              have hV473 := SQ_dp (M' := M466) hV428 (fun a b h => by rw [hM469]; exact up_ne (by omega))
              have hV474 := RE_dp (M' := M466) hV429 (fun a b h => by rw [hM469]; exact up_ne (by omega))
              have hV475 := CF_dp (M' := M466) hV430 (fun a b h => by rw [hM469]; exact up_ne (by omega))
              have hk476 := kp_up hM469 (fun h => absurd h.2 (by decide)) hk432
              have hk477 := kp_up hM469 (fun h => absurd h.2 (by decide)) hk433
              have hk478 := kp_up hM469 (fun h => absurd h.2 (by decide)) hk434
              have hk479 := kp_up hM469 (fun h => absurd h.2 (by decide)) hk435
              have hk480 := kp_up hM469 (fun h => absurd h.2 (by decide)) hf425
              clear hk431 hk432 hk433 hk434 hk435 hf425
              have hF481 := Fr.put hF436 hM469 ((Or.inr (Or.inl ⟨rfl, by decide, by decide⟩)))
              refine j_aload_n hX dX11_behindUnit_87 rfl 0 rfl ?_
              refine j_aload_n hX dX11_behindUnit_88 rfl 0 rfl ?_
              refine gf_X11_104 hX (by omega) (by omega) kc_210 (fc_210_38 hI470) (by decide) dX11_behindUnit_89 ?_
              refine j_aload_n hX dX11_behindUnit_92 rfl 0 rfl ?_
              refine gf_X11_338 hX (by omega) (by omega) kc_210 dX11_behindUnit_93 ?_
              refine j_top hk480 ?_
              refine j_iald hX (by omega) (by omega) kc_240 (by omega) (by omega) (by omega) dX11_behindUnit_96 ?_
              refine j_name hI470 (ra_240 _) (fun v482 hv483 hl484 hh485 => ?_)
              have hs2 := re_s hV474 hv483 (k := np - 1) (by omega)
              refine j_iconst hX dX11_behindUnit_97 ?_
              have hcfe := hV475
              refine j_callVV hX lk_X11_356 (c_X11_emit _ _ _ _ _ _ _ _ _ (by omega) hI470 (by omega) (by omega) hk476 (by first | assumption | omega)) (by omega) hce rfl rfl (by omega) (by omega) kc_210 rfl rfl (Nat.le_of_ble_eq_true rfl) dX11_behindUnit_98 (fun M487 hp488 => ?_)
              obtain ⟨hI491, hG492, hq493⟩ := hp488
              have hV494 := ML_dp hV472 (fun a b h => hG492 a b (by omega))
              have hV495 := SQ_dp hV473 (fun a b h => hG492 a b (by omega))
              have hV496 := RE_dp hV474 (fun a b h => hG492 a b (by omega))
              have hk498 := kp_fr hG492 (fun h => h.elim (fun h => absurd h.1 (by decide)) (fun h => h.elim (fun h => absurd h.1 (by decide)) (fun h => absurd h.2.1 (by decide)))) hk477
              have hk499 := kp_fr hG492 (fun h => h.elim (fun h => absurd h.1 (by decide)) (fun h => h.elim (fun h => absurd h.1 (by decide)) (fun h => absurd h.2.2 (by decide)))) hk478
              have hk500 := kp_fr hG492 (fun h => h.elim (fun h => absurd h.1 (by decide)) (fun h => h.elim (fun h => absurd h.1 (by decide)) (fun h => absurd h.2.1 (by decide)))) hk479
              have hk501 := kp_fr hG492 (fun h => h.elim (fun h => absurd h.1 (by decide)) (fun h => h.elim (fun h => absurd h.1 (by decide)) (fun h => absurd h.2.2 (by decide)))) hk480
              have hk502 := kp_fr hG492 (fun h => h.elim (fun h => absurd h.1 (by decide)) (fun h => h.elim (fun h => absurd h.1 (by decide)) (fun h => absurd h.2.2 (by decide)))) hf471
              clear hk476 hk477 hk478 hk479 hk480 hf471
              have hF503 := Fr.trans hF481 hG492 (fun a b h => h.elim (fun h => (Or.inr (Or.inr (Or.inl ⟨h.1, by omega, by omega⟩)))) (fun h => h.elim (fun h => (Or.inr (Or.inr (Or.inr ⟨by omega, by omega⟩)))) (fun h => (Or.inr (Or.inl ⟨h.1, Int.le_trans (by decide) h.2.1, Int.le_trans h.2.2 (by decide)⟩)))))
              have hk504 : M487.1 210 42 = M487.1 210 42 := rfl
              obtain ⟨hp1, hp2⟩ := hq493
              have hV505 := PS_po hV_0 hk_2 hk_0 (by omega) (fun i _ => (hV496 i).1) (fun i _ => (hV496 i).2) (fun i h => (hG492 237 i (by omega)).trans (hcfe i)) (by omega) (by omega) (by omega) (by first | (rw [tw_i (by omega)]; omega) | (rw [tw_o (by omega)]; omega)) (by omega) (by omega)
              refine j_goto (tgt := 23) hX dX11_behindUnit_101 (by decide) ?_
              exact ih _ _ _ _ _ _ (by omega) hI491 hF503 hk501 hk502 hp2 hk498 hk499 hk500 hV505 hV494 hV495 (by first | assumption | omega) (by first | assumption | exact fun h => by have := hrk2 h; omega) (by first | assumption | omega) (by omega) (by omega)
  show J X B N 0 0 0 [(0, rv B 210)] [] M
  refine j_aload_n hX dX11_behindUnit_0 rfl 0 rfl ?_
  refine j_callVI hX lk_X11_359 (c_X11_rankHere _ _ _ _ _ _ (by omega) hI) (by omega) hce rfl rfl (by omega) (by omega) kc_210 rfl rfl (Nat.le_of_ble_eq_true rfl) dX11_behindUnit_1 (fun z506 M507 hz509 hp508 => ?_)
  obtain ⟨hE510, hq511, hq512, hq513, hq514⟩ := hp508
  replace hE510 := hE510.symm
  subst hE510
  have hrk2 := hq513
  refine j_istore_n (lv' := [(1, _), (0, _)]) hX dX11_behindUnit_4 rfl (by rw [hnL]; decide) rfl ?_
  refine j_iload_n hX dX11_behindUnit_5 rfl 0 rfl ?_
  refine j_iconst hX dX11_behindUnit_6 ?_
  refine j_icmp_ne (tgt := 23) hX dX11_behindUnit_7 (by decide) (by omega) (by omega) (fun hc515 => ?_) (fun hc515 => ?_)
  · skip
    refine j_sub [1, 0] rfl ?_
    refine (cp (Int.toNat (3264 + 1))) _ _ _ _ _ _ (by omega) hI hF hunq hk1 hk2 hutk hk3 hufk hPS hML hq514 (by first | assumption | omega) (by first | assumption | exact fun h => by have := hrk2 h; omega) (by first | assumption | omega) ?_ ?_
    · omega
    · omega
  · skip
    refine j_aload_n hX dX11_behindUnit_10 rfl 1 rfl ?_
    refine j_callVI hX lk_X11_362 (c_X11_isCompared _ _ _ _ _ _ _ (by omega) hI hPS) (by omega) hce rfl rfl (by omega) (by omega) kc_210 rfl rfl (Nat.le_of_ble_eq_true rfl) dX11_behindUnit_11 (fun z516 M517 hz519 hp518 => ?_)
    obtain ⟨hE520, hb521⟩ := hp518
    replace hE520 := hE520.symm
    subst hE520
    refine j_if_eq (tgt := 23) hX dX11_behindUnit_14 (by decide) (by omega) (fun hc522 => ?_) (fun hc522 => ?_)
    · skip
      refine j_sub [1, 0] rfl ?_
      refine (cp (Int.toNat (3264 + 1))) _ _ _ _ _ _ (by omega) hI hF hunq hk1 hk2 hutk hk3 hufk hPS hML hq514 (by first | assumption | omega) (by first | assumption | exact fun h => by have := hrk2 h; omega) (by first | assumption | omega) ?_ ?_
      · omega
      · omega
    · skip
      refine j_aload_n hX dX11_behindUnit_17 rfl 1 rfl ?_
      refine j_callVV hX lk_X11_256 (c_X11_misplaced _ _ _ _ _ _ _ (by omega) hI hML) (by omega) hce rfl rfl (by omega) (by omega) kc_210 rfl rfl (Nat.le_of_ble_eq_true rfl) dX11_behindUnit_18 (fun M524 hp525 => ?_)
      obtain ⟨hI528, hG529, hq530, hq531⟩ := hp525
      have hV533 := PS_dp hPS (fun a b h => hG529 a b (by omega))
      have hV534 := SQ_dp hq514 (fun a b h => hG529 a b (by omega))
      have hk535 := kp_fr hG529 (fun h => absurd h.2.2 (by decide)) hutk
      have hk536 := kp_fr hG529 (fun h => absurd h.2.2 (by decide)) hunq
      have hk537 := kp_fr hG529 (fun h => absurd h.2.2 (by decide)) hk1
      have hk538 := kp_fr hG529 (fun h => absurd h.2.2 (by decide)) hk2
      have hk539 := kp_fr hG529 (fun h => absurd h.2.2 (by decide)) hk3
      clear hk1 hk2 hk3
      have hF540 := Fr.trans hF hG529 (fun a b h => (Or.inl ⟨h.1, Int.le_trans (by decide) h.2.1, Int.le_trans h.2.2 (by decide)⟩))
      refine j_iconst hX dX11_behindUnit_21 ?_
      exact hret _ _ _ _ dX11_behindUnit_22 (nb (by omega)) (by omega) ⟨hI528, hF540, by omega, ⟨m - 1, ML_bad (by have := ML_1 hML (by omega); omega) (by omega), by omega, by omega⟩, fun h => absurd h (by omega)⟩
