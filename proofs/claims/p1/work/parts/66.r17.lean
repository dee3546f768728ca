theorem rfw_a {w a b : Int} (h : a = 210 ∧ 4 ≤ b ∧ b ≤ 10) : RFw w a b := Or.inl h
theorem rfw_b {w a b : Int} (h : a = 210 ∧ 42 ≤ b ∧ b ≤ 45) : RFw w a b := Or.inr (Or.inl h)
theorem rfw_u {w a b : Int} (h : a = 216) : RFw w a b := Or.inr (Or.inr (Or.inl h))
theorem rfw_k {w a b : Int} (h : 238 ≤ a ∧ a ≤ 240) : RFw w a b := Or.inr (Or.inr (Or.inr (Or.inl h)))
theorem rfw_w {w a b c : Int} (hc : (213 ≤ c ∧ c ≤ 220) ∨ c = 225 ∨ (229 ≤ c ∧ c ≤ 234)) (h : a = c ∧ w ≤ b ∧ b ≤ w) : RFw w a b := Or.inr (Or.inr (Or.inr (Or.inr (Or.inl ⟨by rw [h.1]; exact hc, by omega⟩))))
theorem rfw_6 {w a b c : Int} (hc : c = 221 ∨ c = 222 ∨ c = 226 ∨ c = 228) (h : a = c ∧ 6 * w ≤ b ∧ b ≤ 6 * w + 5) : RFw w a b := Or.inr (Or.inr (Or.inr (Or.inr (Or.inr (Or.inl ⟨by rw [h.1]; exact hc, h.2⟩)))))
theorem rfw_10 {w a b c : Int} (hc : c = 223 ∨ c = 224) (h : a = c ∧ 10 * w ≤ b ∧ b ≤ 10 * w + 9) : RFw w a b := Or.inr (Or.inr (Or.inr (Or.inr (Or.inr (Or.inr (Or.inl ⟨by rw [h.1]; exact hc, h.2⟩))))))
theorem rfw_36 {w a b : Int} (h : a = 227 ∧ 36 * w ≤ b ∧ b ≤ 36 * w + 35) : RFw w a b := Or.inr (Or.inr (Or.inr (Or.inr (Or.inr (Or.inr (Or.inr (Or.inl h)))))))
theorem rfw_c {w a b : Int} (h : a = 237 ∧ 560 * w ≤ b ∧ b ≤ 560 * w + 559) : RFw w a b := Or.inr (Or.inr (Or.inr (Or.inr (Or.inr (Or.inr (Or.inr (Or.inr h)))))))
theorem dX11_readLine_0 : decode cX11_readLine 0 = .ok (.aload_n 0, 1) := by decide +kernel
theorem dX11_readLine_1 : decode cX11_readLine 1 = .ok (.getfield 228, 3) := by decide +kernel
theorem dX11_readLine_4 : decode cX11_readLine 4 = .ok (.lstore_n 1, 1) := by decide +kernel
theorem dX11_readLine_5 : decode cX11_readLine 5 = .ok (.aload_n 0, 1) := by decide +kernel
theorem dX11_readLine_6 : decode cX11_readLine 6 = .ok (.getfield 221, 3) := by decide +kernel
theorem dX11_readLine_9 : decode cX11_readLine 9 = .ok (.iconst 3, 1) := by decide +kernel
theorem dX11_readLine_10 : decode cX11_readLine 10 = .ok (.if_icmp .ne 10, 3) := by decide +kernel
theorem dX11_readLine_13 : decode cX11_readLine 13 = .ok (.aload_n 0, 1) := by decide +kernel
theorem dX11_readLine_14 : decode cX11_readLine 14 = .ok (.invokevirtual 285, 3) := by decide +kernel
theorem dX11_readLine_17 : decode cX11_readLine 17 = .ok (.ifCond .eq 7, 3) := by decide +kernel
theorem dX11_readLine_20 : decode cX11_readLine 20 = .ok (.aload_n 0, 1) := by decide +kernel
theorem dX11_readLine_21 : decode cX11_readLine 21 = .ok (.invokevirtual 256, 3) := by decide +kernel
theorem dX11_readLine_24 : decode cX11_readLine 24 = .ok (.aload_n 0, 1) := by decide +kernel
theorem dX11_readLine_25 : decode cX11_readLine 25 = .ok (.invokevirtual 249, 3) := by decide +kernel
theorem dX11_readLine_28 : decode cX11_readLine 28 = .ok (.ifCond .ne 4, 3) := by decide +kernel
theorem dX11_readLine_31 : decode cX11_readLine 31 = .ok (.return_, 1) := by decide +kernel
theorem dX11_readLine_32 : decode cX11_readLine 32 = .ok (.aload_n 0, 1) := by decide +kernel
theorem dX11_readLine_33 : decode cX11_readLine 33 = .ok (.invokevirtual 253, 3) := by decide +kernel
theorem dX11_readLine_36 : decode cX11_readLine 36 = .ok (.lload_n 1, 1) := by decide +kernel
theorem dX11_readLine_37 : decode cX11_readLine 37 = .ok (.ldc2_w 167, 3) := by decide +kernel
theorem dX11_readLine_40 : decode cX11_readLine 40 = .ok (.lcmp, 1) := by decide +kernel
theorem dX11_readLine_41 : decode cX11_readLine 41 = .ok (.ifCond .ne 7, 3) := by decide +kernel
theorem dX11_readLine_44 : decode cX11_readLine 44 = .ok (.aload_n 0, 1) := by decide +kernel
theorem dX11_readLine_45 : decode cX11_readLine 45 = .ok (.invokevirtual 288, 3) := by decide +kernel
theorem dX11_readLine_48 : decode cX11_readLine 48 = .ok (.lload_n 1, 1) := by decide +kernel
theorem dX11_readLine_49 : decode cX11_readLine 49 = .ok (.ldc2_w 173, 3) := by decide +kernel
theorem dX11_readLine_52 : decode cX11_readLine 52 = .ok (.lcmp, 1) := by decide +kernel
theorem dX11_readLine_53 : decode cX11_readLine 53 = .ok (.ifCond .ne 7, 3) := by decide +kernel
theorem dX11_readLine_56 : decode cX11_readLine 56 = .ok (.aload_n 0, 1) := by decide +kernel
theorem dX11_readLine_57 : decode cX11_readLine 57 = .ok (.invokevirtual 291, 3) := by decide +kernel
theorem dX11_readLine_60 : decode cX11_readLine 60 = .ok (.lload_n 1, 1) := by decide +kernel
theorem dX11_readLine_61 : decode cX11_readLine 61 = .ok (.ldc2_w 175, 3) := by decide +kernel
theorem dX11_readLine_64 : decode cX11_readLine 64 = .ok (.lcmp, 1) := by decide +kernel
theorem dX11_readLine_65 : decode cX11_readLine 65 = .ok (.ifCond .ne 7, 3) := by decide +kernel
theorem dX11_readLine_68 : decode cX11_readLine 68 = .ok (.aload_n 0, 1) := by decide +kernel
theorem dX11_readLine_69 : decode cX11_readLine 69 = .ok (.invokevirtual 294, 3) := by decide +kernel
theorem dX11_readLine_72 : decode cX11_readLine 72 = .ok (.lload_n 1, 1) := by decide +kernel
theorem dX11_readLine_73 : decode cX11_readLine 73 = .ok (.ldc2_w 183, 3) := by decide +kernel
theorem dX11_readLine_76 : decode cX11_readLine 76 = .ok (.lcmp, 1) := by decide +kernel
theorem dX11_readLine_77 : decode cX11_readLine 77 = .ok (.ifCond .ne 7, 3) := by decide +kernel
theorem dX11_readLine_80 : decode cX11_readLine 80 = .ok (.aload_n 0, 1) := by decide +kernel
theorem dX11_readLine_81 : decode cX11_readLine 81 = .ok (.invokevirtual 297, 3) := by decide +kernel
theorem dX11_readLine_84 : decode cX11_readLine 84 = .ok (.lload_n 1, 1) := by decide +kernel
theorem dX11_readLine_85 : decode cX11_readLine 85 = .ok (.ldc2_w 185, 3) := by decide +kernel
theorem dX11_readLine_88 : decode cX11_readLine 88 = .ok (.lcmp, 1) := by decide +kernel
theorem dX11_readLine_89 : decode cX11_readLine 89 = .ok (.ifCond .ne 7, 3) := by decide +kernel
theorem dX11_readLine_92 : decode cX11_readLine 92 = .ok (.aload_n 0, 1) := by decide +kernel
theorem dX11_readLine_93 : decode cX11_readLine 93 = .ok (.invokevirtual 300, 3) := by decide +kernel
theorem dX11_readLine_96 : decode cX11_readLine 96 = .ok (.lload_n 1, 1) := by decide +kernel
theorem dX11_readLine_97 : decode cX11_readLine 97 = .ok (.ldc2_w 187, 3) := by decide +kernel
theorem dX11_readLine_100 : decode cX11_readLine 100 = .ok (.lcmp, 1) := by decide +kernel
theorem dX11_readLine_101 : decode cX11_readLine 101 = .ok (.ifCond .ne 18, 3) := by decide +kernel
theorem dX11_readLine_104 : decode cX11_readLine 104 = .ok (.aload_n 0, 1) := by decide +kernel
theorem dX11_readLine_105 : decode cX11_readLine 105 = .ok (.getfield 79, 3) := by decide +kernel
theorem dX11_readLine_108 : decode cX11_readLine 108 = .ok (.aload_n 0, 1) := by decide +kernel
theorem dX11_readLine_109 : decode cX11_readLine 109 = .ok (.getfield 270, 3) := by decide +kernel
theorem dX11_readLine_112 : decode cX11_readLine 112 = .ok (.iconst 1, 1) := by decide +kernel
theorem dX11_readLine_113 : decode cX11_readLine 113 = .ok (.bastore, 1) := by decide +kernel
theorem dX11_readLine_114 : decode cX11_readLine 114 = .ok (.aload_n 0, 1) := by decide +kernel
theorem dX11_readLine_115 : decode cX11_readLine 115 = .ok (.iconst 0, 1) := by decide +kernel
theorem dX11_readLine_116 : decode cX11_readLine 116 = .ok (.invokevirtual 303, 3) := by decide +kernel
theorem dX11_readLine_119 : decode cX11_readLine 119 = .ok (.lload_n 1, 1) := by decide +kernel
theorem dX11_readLine_120 : decode cX11_readLine 120 = .ok (.ldc2_w 189, 3) := by decide +kernel
theorem dX11_readLine_123 : decode cX11_readLine 123 = .ok (.lcmp, 1) := by decide +kernel
theorem dX11_readLine_124 : decode cX11_readLine 124 = .ok (.ifCond .ne 48, 3) := by decide +kernel
theorem dX11_readLine_127 : decode cX11_readLine 127 = .ok (.aload_n 0, 1) := by decide +kernel
theorem dX11_readLine_128 : decode cX11_readLine 128 = .ok (.getfield 82, 3) := by decide +kernel
theorem dX11_readLine_131 : decode cX11_readLine 131 = .ok (.aload_n 0, 1) := by decide +kernel
theorem dX11_readLine_132 : decode cX11_readLine 132 = .ok (.getfield 270, 3) := by decide +kernel
theorem dX11_readLine_135 : decode cX11_readLine 135 = .ok (.iconst 1, 1) := by decide +kernel
theorem dX11_readLine_136 : decode cX11_readLine 136 = .ok (.bastore, 1) := by decide +kernel
theorem dX11_readLine_137 : decode cX11_readLine 137 = .ok (.aload_n 0, 1) := by decide +kernel
theorem dX11_readLine_138 : decode cX11_readLine 138 = .ok (.getfield 39, 3) := by decide +kernel
theorem dX11_readLine_141 : decode cX11_readLine 141 = .ok (.aload_n 0, 1) := by decide +kernel
theorem dX11_readLine_142 : decode cX11_readLine 142 = .ok (.getfield 270, 3) := by decide +kernel
theorem dX11_readLine_145 : decode cX11_readLine 145 = .ok (.aload_n 0, 1) := by decide +kernel
theorem dX11_readLine_146 : decode cX11_readLine 146 = .ok (.iconst 0, 1) := by decide +kernel
theorem dX11_readLine_147 : decode cX11_readLine 147 = .ok (.bipush 23, 2) := by decide +kernel
theorem dX11_readLine_149 : decode cX11_readLine 149 = .ok (.invokevirtual 266, 3) := by decide +kernel
theorem dX11_readLine_152 : decode cX11_readLine 152 = .ok (.iastore, 1) := by decide +kernel
theorem dX11_readLine_153 : decode cX11_readLine 153 = .ok (.aload_n 0, 1) := by decide +kernel
theorem dX11_readLine_154 : decode cX11_readLine 154 = .ok (.getfield 42, 3) := by decide +kernel
theorem dX11_readLine_157 : decode cX11_readLine 157 = .ok (.aload_n 0, 1) := by decide +kernel
theorem dX11_readLine_158 : decode cX11_readLine 158 = .ok (.getfield 270, 3) := by decide +kernel
theorem dX11_readLine_161 : decode cX11_readLine 161 = .ok (.aload_n 0, 1) := by decide +kernel
theorem dX11_readLine_162 : decode cX11_readLine 162 = .ok (.ldc2_w 191, 3) := by decide +kernel
theorem dX11_readLine_165 : decode cX11_readLine 165 = .ok (.iconst 0, 1) := by decide +kernel
theorem dX11_readLine_166 : decode cX11_readLine 166 = .ok (.bipush 23, 2) := by decide +kernel
theorem dX11_readLine_168 : decode cX11_readLine 168 = .ok (.invokevirtual 307, 3) := by decide +kernel
theorem dX11_readLine_171 : decode cX11_readLine 171 = .ok (.iastore, 1) := by decide +kernel
theorem dX11_readLine_172 : decode cX11_readLine 172 = .ok (.lload_n 1, 1) := by decide +kernel
theorem dX11_readLine_173 : decode cX11_readLine 173 = .ok (.ldc2_w 193, 3) := by decide +kernel
theorem dX11_readLine_176 : decode cX11_readLine 176 = .ok (.lcmp, 1) := by decide +kernel
theorem dX11_readLine_177 : decode cX11_readLine 177 = .ok (.ifCond .ne 30, 3) := by decide +kernel
theorem dX11_readLine_180 : decode cX11_readLine 180 = .ok (.aload_n 0, 1) := by decide +kernel
theorem dX11_readLine_181 : decode cX11_readLine 181 = .ok (.getfield 85, 3) := by decide +kernel
theorem dX11_readLine_184 : decode cX11_readLine 184 = .ok (.aload_n 0, 1) := by decide +kernel
theorem dX11_readLine_185 : decode cX11_readLine 185 = .ok (.getfield 270, 3) := by decide +kernel
theorem dX11_readLine_188 : decode cX11_readLine 188 = .ok (.iconst 1, 1) := by decide +kernel
theorem dX11_readLine_189 : decode cX11_readLine 189 = .ok (.bastore, 1) := by decide +kernel
theorem dX11_readLine_190 : decode cX11_readLine 190 = .ok (.aload_n 0, 1) := by decide +kernel
theorem dX11_readLine_191 : decode cX11_readLine 191 = .ok (.getfield 33, 3) := by decide +kernel
theorem dX11_readLine_194 : decode cX11_readLine 194 = .ok (.aload_n 0, 1) := by decide +kernel
theorem dX11_readLine_195 : decode cX11_readLine 195 = .ok (.getfield 270, 3) := by decide +kernel
theorem dX11_readLine_198 : decode cX11_readLine 198 = .ok (.aload_n 0, 1) := by decide +kernel
theorem dX11_readLine_199 : decode cX11_readLine 199 = .ok (.iconst 0, 1) := by decide +kernel
theorem dX11_readLine_200 : decode cX11_readLine 200 = .ok (.sipush 999, 3) := by decide +kernel
theorem dX11_readLine_203 : decode cX11_readLine 203 = .ok (.invokevirtual 266, 3) := by decide +kernel
theorem dX11_readLine_206 : decode cX11_readLine 206 = .ok (.iastore, 1) := by decide +kernel
theorem dX11_readLine_207 : decode cX11_readLine 207 = .ok (.aload_n 0, 1) := by decide +kernel
theorem dX11_readLine_208 : decode cX11_readLine 208 = .ok (.aload_n 0, 1) := by decide +kernel
theorem dX11_readLine_209 : decode cX11_readLine 209 = .ok (.bipush 59, 2) := by decide +kernel
theorem dX11_readLine_211 : decode cX11_readLine 211 = .ok (.invokevirtual 311, 3) := by decide +kernel
theorem dX11_readLine_214 : decode cX11_readLine 214 = .ok (.invokevirtual 262, 3) := by decide +kernel
theorem dX11_readLine_217 : decode cX11_readLine 217 = .ok (.return_, 1) := by decide +kernel
set_option maxHeartbeats 2000000 in
set_option maxRecDepth 20000 in
theorem c_X11_readLine (l : Launch) (D : va_G) (cy : Nat → ClassId) (B N : Nat) (m : Int) (w : Int) (nw : Int) (fw : Int) (hl : Int) (hr : Int) (M : MM) (hN : 257 ≤ N) (hI : Iv M) (hw : M.1 210 41 = w) (hnw : M.1 213 w = nw) (hfw : M.1 214 w = fw) (hhl : M.1 231 w = hl) (hhr : M.1 232 w = hr) (hML : ML m M) (hRD : RD0 w M) (h1 : M.1 210 4 = 0 ∧ M.1 210 8 ≠ 0 ∧ m ≤ 10000) : CV l D cy B N 7 yX11_readLine cX11_readLine 3 none [rv B 210] M (fun M' => Iv M' ∧ Fr (RFw w) M M' ∧ (ML (m - 1) M') ∧ (M'.1 210 4 = 0 → RD0 w M')) := by
  refine mk_CV (by decide) (Nat.le_of_ble_eq_true rfl) ?_
  intro X exl exD excy hnL hX hret
  have hce : 0 + 0 ≤ (xR X).cells ∧ 0 + 0 ≤ (xR X).slots := ⟨Nat.zero_le _, Nat.zero_le _⟩
  have hF : Fr (RFw w) M M := Fr.rf
  have hk1 : M.1 210 4 = M.1 210 4 := rfl
  have hk2 : M.1 210 42 = M.1 210 42 := rfl
  have hw2 : 0 ≤ w ∧ w ≤ 1 := by have := hI.at 210 41 ro_210_41; omega
  have hnw2 : 0 ≤ nw ∧ nw ≤ 6 := by have := hI.at 213 w (ra_213 _); omega
  have hfw2 : 0 ≤ fw ∧ fw ≤ 10 := by have := hI.at 214 w (ra_214 _); omega
  show J X B N 0 0 0 [(0, rv B 210)] [] M
  refine j_aload_n hX dX11_readLine_0 rfl 0 rfl ?_
  refine gf_X11_228 hX (by omega) (by omega) kc_210 dX11_readLine_1 ?_
  refine j_lstore_n (lv' := [(1, _), (0, _)]) hX dX11_readLine_4 rfl (by rw [hnL]; decide) rfl ?_
  refine j_aload_n hX dX11_readLine_5 rfl 1 rfl ?_
  refine gf_X11_221 hX (by omega) (by omega) kc_210 dX11_readLine_6 ?_
  refine j_name hI ro_210_8 (fun v3 hv4 hl5 hh6 => ?_)
  have hk7 := hv4.symm
  refine j_iconst hX dX11_readLine_9 ?_
  refine j_icmp_ne (tgt := 20) hX dX11_readLine_10 (by decide) (by omega) (by omega) (fun hc8 => ?_) (fun hc8 => ?_)
  · skip
    refine j_aload_n hX dX11_readLine_20 rfl 1 rfl ?_
    refine j_callVV hX lk_X11_256 (c_X11_misplaced _ _ _ _ _ _ _ (by omega) hI hML) (by omega) hce rfl rfl (by omega) (by omega) kc_210 rfl rfl (Nat.le_of_ble_eq_true rfl) dX11_readLine_21 (fun M10 hp11 => ?_)
    obtain ⟨hI14, hG15, hq16, hq17⟩ := hp11
    have hV19 := RD0_dp hRD (fun a b h => hG15 a b (by omega))
    have hk20 := kp_fr hG15 (fun h => absurd h.2.2 (by decide)) hw
    have hk21 := kp_fr hG15 (fun h => absurd h.1 (by decide)) hnw
    have hk22 := kp_fr hG15 (fun h => absurd h.1 (by decide)) hfw
    have hk23 := kp_fr hG15 (fun h => absurd h.1 (by decide)) hhl
    have hk24 := kp_fr hG15 (fun h => absurd h.1 (by decide)) hhr
    have hk25 := kp_fr hG15 (fun h => absurd h.2.2 (by decide)) hk2
    have hk26 := kp_fr hG15 (fun h => absurd h.2.2 (by decide)) hk7
    clear hk1 hk2 hk7
    have hF27 := Fr.trans hF hG15 (fun a b h => (rfw_a ⟨h.1, Int.le_trans (by decide) h.2.1, Int.le_trans h.2.2 (by decide)⟩))
    have hk28 : M10.1 210 4 = M10.1 210 4 := rfl
    refine j_aload_n hX dX11_readLine_24 rfl 1 rfl ?_
    refine j_callVI hX lk_X11_249 (c_X11_isGood _ _ _ _ _ _ (by omega) hI14) (by omega) hce rfl rfl (by omega) (by omega) kc_210 rfl rfl (Nat.le_of_ble_eq_true rfl) dX11_readLine_25 (fun z29 M30 hz32 hp31 => ?_)
    obtain ⟨hE33, hb34, hq35, hq36⟩ := hp31
    replace hE33 := hE33.symm
    subst hE33
    refine j_if_ne (tgt := 32) hX dX11_readLine_28 (by decide) (by omega) (fun hc37 => ?_) (fun hc37 => ?_)
    · exfalso; omega
    · skip
      clear hq35
      have hi38 := hq36 (by omega)
      clear hq36
      exact hret _ _ _ dX11_readLine_31 ⟨hI14, hF27, by first | exact hq16 | exact ML_bad (by have := ML_1 hML (by omega); omega) (by omega), by first | exact fun _ => hV19 | exact fun h => noRel (by omega) | exact fun h => absurd h (by omega)⟩
  · skip
    refine j_aload_n hX dX11_readLine_13 rfl 1 rfl ?_
    refine j_callVI hX lk_X11_285 (c_X11_isFull _ _ _ _ _ _ _ (by omega) hI hw) (by omega) hce rfl rfl (by omega) (by omega) kc_210 rfl rfl (Nat.le_of_ble_eq_true rfl) dX11_readLine_14 (fun z39 M40 hz42 hp41 => ?_)
    obtain ⟨hE43, hb44, hq45⟩ := hp41
    replace hE43 := hE43.symm
    subst hE43
    have hfu := hq45
    refine j_if_eq (tgt := 24) hX dX11_readLine_17 (by decide) (by omega) (fun hc46 => ?_) (fun hc46 => ?_)
    · skip
      have hi47 := hq45 (by omega)
      clear hq45
      refine j_aload_n hX dX11_readLine_24 rfl 1 rfl ?_
      refine j_callVI hX lk_X11_249 (c_X11_isGood _ _ _ _ _ _ (by omega) hI) (by omega) hce rfl rfl (by omega) (by omega) kc_210 rfl rfl (Nat.le_of_ble_eq_true rfl) dX11_readLine_25 (fun z48 M49 hz51 hp50 => ?_)
      obtain ⟨hE52, hb53, hq54, hq55⟩ := hp50
      replace hE52 := hE52.symm
      subst hE52
      refine j_if_ne (tgt := 32) hX dX11_readLine_28 (by decide) (by omega) (fun hc56 => ?_) (fun hc56 => ?_)
      · skip
        have hi57 := hq54 (by omega)
        clear hq54
        clear hq55
        have hfu2 := hfu (by omega) (by omega)
        have hg48 : M.1 210 4 = 0 ∧ M.1 210 8 ≠ 0 := ⟨by omega, by omega⟩
        refine j_aload_n hX dX11_readLine_32 rfl 1 rfl ?_
        refine j_callVV hX lk_X11_253 (c_X11_goOn _ _ _ _ _ _ _ _ (by omega) hI (by first | assumption | rfl) hML) (by omega) hce rfl rfl (by omega) (by omega) kc_210 rfl rfl (Nat.le_of_ble_eq_true rfl) dX11_readLine_33 (fun M59 hp60 => ?_)
        obtain ⟨hI63, hG64, hq65, hq66⟩ := hp60
        have hV68 := RD0_dp hRD (fun a b h => hG64 a b (by omega))
        have hk69 := kp_fr hG64 (fun h => absurd h.2.2 (by decide)) hw
        have hk70 := kp_fr hG64 (fun h => absurd h.1 (by decide)) hnw
        have hk71 := kp_fr hG64 (fun h => absurd h.1 (by decide)) hfw
        have hk72 := kp_fr hG64 (fun h => absurd h.1 (by decide)) hhl
        have hk73 := kp_fr hG64 (fun h => absurd h.1 (by decide)) hhr
        have hk74 := kp_fr hG64 (fun h => absurd h.2.1 (by decide)) hk1
        have hk75 := kp_fr hG64 (fun h => absurd h.2.2 (by decide)) hk2
        clear hk1 hk2 hk7
        have hF76 := Fr.trans hF hG64 (fun a b h => (rfw_a ⟨h.1, Int.le_trans (by decide) h.2.1, Int.le_trans h.2.2 (by decide)⟩))
        have hV77 := hq66 hg48.1 hg48.2
        refine j_lload_n hX dX11_readLine_36 rfl 0 rfl ?_
        refine j_ldc2 hX (in_6 188 (by first | rfl | decide +kernel) rfl) dX11_readLine_37 ?_
        refine j_lcmp hX dX11_readLine_40 (fun z78 hz79 hy80 he81 => ?_)
        refine j_if_ne (tgt := 48) hX dX11_readLine_41 (by decide) (by omega) (fun hc82 => ?_) (fun hc82 => ?_)
        · skip
          refine j_lload_n hX dX11_readLine_48 rfl 0 rfl ?_
          refine j_ldc2 hX (in_6 191 (by first | rfl | decide +kernel) rfl) dX11_readLine_49 ?_
          refine j_lcmp hX dX11_readLine_52 (fun z83 hz84 hy85 he86 => ?_)
          refine j_if_ne (tgt := 60) hX dX11_readLine_53 (by decide) (by omega) (fun hc87 => ?_) (fun hc87 => ?_)
          · skip
            refine j_lload_n hX dX11_readLine_60 rfl 0 rfl ?_
            refine j_ldc2 hX (in_6 192 (by first | rfl | decide +kernel) rfl) dX11_readLine_61 ?_
            refine j_lcmp hX dX11_readLine_64 (fun z88 hz89 hy90 he91 => ?_)
            refine j_if_ne (tgt := 72) hX dX11_readLine_65 (by decide) (by omega) (fun hc92 => ?_) (fun hc92 => ?_)
            · skip
              refine j_lload_n hX dX11_readLine_72 rfl 0 rfl ?_
              refine j_ldc2 hX (in_6 196 (by first | rfl | decide +kernel) rfl) dX11_readLine_73 ?_
              refine j_lcmp hX dX11_readLine_76 (fun z93 hz94 hy95 he96 => ?_)
              refine j_if_ne (tgt := 84) hX dX11_readLine_77 (by decide) (by omega) (fun hc97 => ?_) (fun hc97 => ?_)
              · skip
                refine j_lload_n hX dX11_readLine_84 rfl 0 rfl ?_
                refine j_ldc2 hX (in_6 197 (by first | rfl | decide +kernel) rfl) dX11_readLine_85 ?_
                refine j_lcmp hX dX11_readLine_88 (fun z98 hz99 hy100 he101 => ?_)
                refine j_if_ne (tgt := 96) hX dX11_readLine_89 (by decide) (by omega) (fun hc102 => ?_) (fun hc102 => ?_)
                · skip
                  refine j_lload_n hX dX11_readLine_96 rfl 0 rfl ?_
                  refine j_ldc2 hX (in_6 198 (by first | rfl | decide +kernel) rfl) dX11_readLine_97 ?_
                  refine j_lcmp hX dX11_readLine_100 (fun z103 hz104 hy105 he106 => ?_)
                  refine j_if_ne (tgt := 119) hX dX11_readLine_101 (by decide) (by omega) (fun hc107 => ?_) (fun hc107 => ?_)
                  · skip
                    refine j_lload_n hX dX11_readLine_119 rfl 0 rfl ?_
                    refine j_ldc2 hX (in_6 199 (by first | rfl | decide +kernel) rfl) dX11_readLine_120 ?_
                    refine j_lcmp hX dX11_readLine_123 (fun z108 hz109 hy110 he111 => ?_)
                    refine j_if_ne (tgt := 172) hX dX11_readLine_124 (by decide) (by omega) (fun hc112 => ?_) (fun hc112 => ?_)
                    · skip
                      refine j_lload_n hX dX11_readLine_172 rfl 0 rfl ?_
                      refine j_ldc2 hX (in_6 201 (by first | rfl | decide +kernel) rfl) dX11_readLine_173 ?_
                      refine j_lcmp hX dX11_readLine_176 (fun z113 hz114 hy115 he116 => ?_)
                      refine j_if_ne (tgt := 207) hX dX11_readLine_177 (by decide) (by omega) (fun hc117 => ?_) (fun hc117 => ?_)
                      · skip
                        refine j_aload_n hX dX11_readLine_207 rfl 1 rfl ?_
                        refine j_aload_n hX dX11_readLine_208 rfl 1 rfl ?_
                        refine j_bipush hX dX11_readLine_209 rfl ?_
                        refine j_callVI hX lk_X11_311 (c_X11_isSignHere _ _ _ _ _ _ _ (by omega) hI63 (by omega)) (by omega) hce rfl rfl (by omega) (by omega) kc_210 rfl rfl (Nat.le_of_ble_eq_true rfl) dX11_readLine_211 (fun z118 M119 hz121 hp120 => ?_)
                        obtain ⟨hE122, hb123, hq124, hq125⟩ := hp120
                        replace hE122 := hE122.symm
                        subst hE122
                        refine j_callVV hX lk_X11_262 (c_X11_must _ _ _ _ _ _ _ _ (by omega) hI63 (by omega) hV77 (by first | assumption | omega)) (by omega) hce rfl rfl (by omega) (by omega) kc_210 rfl rfl (Nat.le_of_ble_eq_true rfl) dX11_readLine_214 (fun M127 hp128 => ?_)
                        obtain ⟨hI131, hG132, hq133, hq134, hq135⟩ := hp128
                        have hV136 := RD0_dp hV68 (fun a b h => hG132 a b (by omega))
                        have hk139 := kp_fr hG132 (fun h => absurd h.2.2 (by decide)) hk69
                        have hk140 := kp_fr hG132 (fun h => absurd h.1 (by decide)) hk70
                        have hk141 := kp_fr hG132 (fun h => absurd h.1 (by decide)) hk71
                        have hk142 := kp_fr hG132 (fun h => absurd h.1 (by decide)) hk72
                        have hk143 := kp_fr hG132 (fun h => absurd h.1 (by decide)) hk73
                        have hk144 := kp_fr hG132 (fun h => absurd h.2.2 (by decide)) hk75
                        clear hk69 hk70 hk71 hk72 hk73 hk74 hk75
                        have hF145 := Fr.trans hF76 hG132 (fun a b h => (rfw_a ⟨h.1, Int.le_trans (by decide) h.2.1, Int.le_trans h.2.2 (by decide)⟩))
                        have hk146 : M127.1 210 4 = M127.1 210 4 := rfl
                        exact hret _ _ _ dX11_readLine_217 ⟨hI131, hF145, by first | exact hq133 | exact ML_bad (by have := ML_1 hML (by omega); omega) (by omega), by first | exact fun _ => hV136 | exact fun h => noRel (by omega) | exact fun h => absurd h (by omega)⟩
                      · skip
                        refine j_aload_n hX dX11_readLine_180 rfl 1 rfl ?_
                        refine gf_X11_85 hX (by omega) (by omega) kc_210 (fc_210_32 hI63) (by decide) dX11_readLine_181 ?_
                        refine j_aload_n hX dX11_readLine_184 rfl 1 rfl ?_
                        refine gf_X11_270 hX (by omega) (by omega) kc_210 dX11_readLine_185 ?_
                        refine j_top hk69 ?_
                        refine j_iconst hX dX11_readLine_188 ?_
                        refine j_zast hX (by omega) (by omega) kc_234 (by omega) (by omega) (by omega) (by omega) dX11_readLine_189 ?_
                        refine j_up hI63 (ra_234 _) (by omega) (by omega) (Or.inl (by omega)) (fun M147 w148 hw149 hM150 hI151 hf152 => ?_)
                        have hV153 := RD0_dp (M' := M147) hV68 (fun a b h => by rw [hM150]; exact up_ne (by omega))
                        have hV154 := ML_dp (M' := M147) hq65 (fun a b h => by rw [hM150]; exact up_ne (by omega))
                        have hV155 := ML_dp (M' := M147) hV77 (fun a b h => by rw [hM150]; exact up_ne (by omega))
                        have hk156 := kp_up hM150 (fun h => absurd h.1 (by decide)) hk69
                        have hk157 := kp_up hM150 (fun h => absurd h.1 (by decide)) hk70
                        have hk158 := kp_up hM150 (fun h => absurd h.1 (by decide)) hk71
                        have hk159 := kp_up hM150 (fun h => absurd h.1 (by decide)) hk72
                        have hk160 := kp_up hM150 (fun h => absurd h.1 (by decide)) hk73
                        have hk161 := kp_up hM150 (fun h => absurd h.1 (by decide)) hk74
                        have hk162 := kp_up hM150 (fun h => absurd h.1 (by decide)) hk75
                        clear hk69 hk70 hk71 hk72 hk73 hk74 hk75
                        have hF163 := Fr.put hF76 hM150 ((rfw_w (c := 234) (by decide) ⟨rfl, by omega, by omega⟩))
                        refine j_aload_n hX dX11_readLine_190 rfl 1 rfl ?_
                        refine gf_X11_33 hX (by omega) (by omega) kc_210 (fc_210_15 hI151) (by decide) dX11_readLine_191 ?_
                        refine j_aload_n hX dX11_readLine_194 rfl 1 rfl ?_
                        refine gf_X11_270 hX (by omega) (by omega) kc_210 dX11_readLine_195 ?_
                        refine j_top hk156 ?_
                        refine j_aload_n hX dX11_readLine_198 rfl 1 rfl ?_
                        refine j_iconst hX dX11_readLine_199 ?_
                        refine j_sipush hX dX11_readLine_200 rfl ?_
                        refine j_callVI hX lk_X11_266 (c_X11_numeral _ _ _ _ _ _ _ _ _ (by omega) hI151 (by omega) (by omega) hV155 (by first | assumption | omega)) (by omega) hce rfl rfl (by omega) (by omega) kc_210 rfl rfl (Nat.le_of_ble_eq_true rfl) dX11_readLine_203 (fun z164 M165 hz167 hp166 => ?_)
                        obtain ⟨hI169, hG170, hq171, hq172, hq173⟩ := hp166
                        have hV174 := RD0_dp hV153 (fun a b h => hG170 a b (by omega))
                        have hk177 := kp_fr hG170 (fun h => absurd h.2.2 (by decide)) hk156
                        have hk178 := kp_fr hG170 (fun h => absurd h.1 (by decide)) hk157
                        have hk179 := kp_fr hG170 (fun h => absurd h.1 (by decide)) hk158
                        have hk180 := kp_fr hG170 (fun h => absurd h.1 (by decide)) hk159
                        have hk181 := kp_fr hG170 (fun h => absurd h.1 (by decide)) hk160
                        have hk182 := kp_fr hG170 (fun h => absurd h.2.2 (by decide)) hk162
                        clear hk156 hk157 hk158 hk159 hk160 hk161 hk162
                        have hF183 := Fr.trans hF163 hG170 (fun a b h => (rfw_a ⟨h.1, Int.le_trans (by decide) h.2.1, Int.le_trans h.2.2 (by decide)⟩))
                        have hk184 : M165.1 210 4 = M165.1 210 4 := rfl
                        refine j_iast hX (by omega) (by omega) kc_217 (by omega) (by omega) (by omega) (by omega) dX11_readLine_206 ?_
                        refine j_up hI169 (ra_217 _) (by omega) (by omega) (Or.inl (by omega)) (fun M185 w186 hw187 hM188 hI189 hf190 => ?_)
                        have hV191 := RD0_dp (M' := M185) hV174 (fun a b h => by rw [hM188]; exact up_ne (by omega))
                        have hV192 := ML_dp (M' := M185) hq171 (fun a b h => by rw [hM188]; exact up_ne (by omega))
                        have hk193 := kp_up hM188 (fun h => absurd h.1 (by decide)) hk177
                        have hk194 := kp_up hM188 (fun h => absurd h.1 (by decide)) hk178
                        have hk195 := kp_up hM188 (fun h => absurd h.1 (by decide)) hk179
                        have hk196 := kp_up hM188 (fun h => absurd h.1 (by decide)) hk180
                        have hk197 := kp_up hM188 (fun h => absurd h.1 (by decide)) hk181
                        have hk198 := kp_up hM188 (fun h => absurd h.1 (by decide)) hk182
                        have hk199 := kp_up hM188 (fun h => absurd h.1 (by decide)) hk184
                        clear hk177 hk178 hk179 hk180 hk181 hk182 hk184
                        have hF200 := Fr.put hF183 hM188 ((rfw_w (c := 217) (by decide) ⟨rfl, by omega, by omega⟩))
                        refine j_aload_n hX dX11_readLine_207 rfl 1 rfl ?_
                        refine j_aload_n hX dX11_readLine_208 rfl 1 rfl ?_
                        refine j_bipush hX dX11_readLine_209 rfl ?_
                        refine j_callVI hX lk_X11_311 (c_X11_isSignHere _ _ _ _ _ _ _ (by omega) hI189 (by omega)) (by omega) hce rfl rfl (by omega) (by omega) kc_210 rfl rfl (Nat.le_of_ble_eq_true rfl) dX11_readLine_211 (fun z201 M202 hz204 hp203 => ?_)
                        obtain ⟨hE205, hb206, hq207, hq208⟩ := hp203
                        replace hE205 := hE205.symm
                        subst hE205
                        refine j_callVV hX lk_X11_262 (c_X11_must _ _ _ _ _ _ _ _ (by omega) hI189 (by omega) hV192 (by first | assumption | omega)) (by omega) hce rfl rfl (by omega) (by omega) kc_210 rfl rfl (Nat.le_of_ble_eq_true rfl) dX11_readLine_214 (fun M210 hp211 => ?_)
                        obtain ⟨hI214, hG215, hq216, hq217, hq218⟩ := hp211
                        have hV219 := RD0_dp hV191 (fun a b h => hG215 a b (by omega))
                        have hk221 := kp_fr hG215 (fun h => absurd h.2.2 (by decide)) hk193
                        have hk222 := kp_fr hG215 (fun h => absurd h.1 (by decide)) hk194
                        have hk223 := kp_fr hG215 (fun h => absurd h.1 (by decide)) hk195
                        have hk224 := kp_fr hG215 (fun h => absurd h.1 (by decide)) hk196
                        have hk225 := kp_fr hG215 (fun h => absurd h.1 (by decide)) hk197
                        have hk226 := kp_fr hG215 (fun h => absurd h.2.2 (by decide)) hk198
                        clear hk193 hk194 hk195 hk196 hk197 hk198 hk199
                        have hF227 := Fr.trans hF200 hG215 (fun a b h => (rfw_a ⟨h.1, Int.le_trans (by decide) h.2.1, Int.le_trans h.2.2 (by decide)⟩))
                        have hk228 : M210.1 210 4 = M210.1 210 4 := rfl
                        exact hret _ _ _ dX11_readLine_217 ⟨hI214, hF227, by first | exact hq216 | exact ML_bad (by have := ML_1 hML (by omega); omega) (by omega), by first | exact fun _ => hV219 | exact fun h => noRel (by omega) | exact fun h => absurd h (by omega)⟩
                    · skip
                      refine j_aload_n hX dX11_readLine_127 rfl 1 rfl ?_
                      refine gf_X11_82 hX (by omega) (by omega) kc_210 (fc_210_31 hI63) (by decide) dX11_readLine_128 ?_
                      refine j_aload_n hX dX11_readLine_131 rfl 1 rfl ?_
                      refine gf_X11_270 hX (by omega) (by omega) kc_210 dX11_readLine_132 ?_
                      refine j_top hk69 ?_
                      refine j_iconst hX dX11_readLine_135 ?_
                      refine j_zast hX (by omega) (by omega) kc_233 (by omega) (by omega) (by omega) (by omega) dX11_readLine_136 ?_
                      refine j_up hI63 (ra_233 _) (by omega) (by omega) (Or.inl (by omega)) (fun M229 w230 hw231 hM232 hI233 hf234 => ?_)
                      have hV235 := RD0_dp (M' := M229) hV68 (fun a b h => by rw [hM232]; exact up_ne (by omega))
                      have hV236 := ML_dp (M' := M229) hq65 (fun a b h => by rw [hM232]; exact up_ne (by omega))
                      have hV237 := ML_dp (M' := M229) hV77 (fun a b h => by rw [hM232]; exact up_ne (by omega))
                      have hk238 := kp_up hM232 (fun h => absurd h.1 (by decide)) hk69
                      have hk239 := kp_up hM232 (fun h => absurd h.1 (by decide)) hk70
                      have hk240 := kp_up hM232 (fun h => absurd h.1 (by decide)) hk71
                      have hk241 := kp_up hM232 (fun h => absurd h.1 (by decide)) hk72
                      have hk242 := kp_up hM232 (fun h => absurd h.1 (by decide)) hk73
                      have hk243 := kp_up hM232 (fun h => absurd h.1 (by decide)) hk74
                      have hk244 := kp_up hM232 (fun h => absurd h.1 (by decide)) hk75
                      clear hk69 hk70 hk71 hk72 hk73 hk74 hk75
                      have hF245 := Fr.put hF76 hM232 ((rfw_w (c := 233) (by decide) ⟨rfl, by omega, by omega⟩))
                      refine j_aload_n hX dX11_readLine_137 rfl 1 rfl ?_
                      refine gf_X11_39 hX (by omega) (by omega) kc_210 (fc_210_17 hI233) (by decide) dX11_readLine_138 ?_
                      refine j_aload_n hX dX11_readLine_141 rfl 1 rfl ?_
                      refine gf_X11_270 hX (by omega) (by omega) kc_210 dX11_readLine_142 ?_
                      refine j_top hk238 ?_
                      refine j_aload_n hX dX11_readLine_145 rfl 1 rfl ?_
                      refine j_iconst hX dX11_readLine_146 ?_
                      refine j_bipush hX dX11_readLine_147 rfl ?_
                      refine j_callVI hX lk_X11_266 (c_X11_numeral _ _ _ _ _ _ _ _ _ (by omega) hI233 (by omega) (by omega) hV237 (by first | assumption | omega)) (by omega) hce rfl rfl (by omega) (by omega) kc_210 rfl rfl (Nat.le_of_ble_eq_true rfl) dX11_readLine_149 (fun z246 M247 hz249 hp248 => ?_)
                      obtain ⟨hI251, hG252, hq253, hq254, hq255⟩ := hp248
                      have hV256 := RD0_dp hV235 (fun a b h => hG252 a b (by omega))
                      have hk259 := kp_fr hG252 (fun h => absurd h.2.2 (by decide)) hk238
                      have hk260 := kp_fr hG252 (fun h => absurd h.1 (by decide)) hk239
                      have hk261 := kp_fr hG252 (fun h => absurd h.1 (by decide)) hk240
                      have hk262 := kp_fr hG252 (fun h => absurd h.1 (by decide)) hk241
                      have hk263 := kp_fr hG252 (fun h => absurd h.1 (by decide)) hk242
                      have hk264 := kp_fr hG252 (fun h => absurd h.2.2 (by decide)) hk244
                      clear hk238 hk239 hk240 hk241 hk242 hk243 hk244
                      have hF265 := Fr.trans hF245 hG252 (fun a b h => (rfw_a ⟨h.1, Int.le_trans (by decide) h.2.1, Int.le_trans h.2.2 (by decide)⟩))
                      have hk266 : M247.1 210 4 = M247.1 210 4 := rfl
                      refine j_iast hX (by omega) (by omega) kc_219 (by omega) (by omega) (by omega) (by omega) dX11_readLine_152 ?_
                      refine j_up hI251 (ra_219 _) (by omega) (by omega) (Or.inl (by omega)) (fun M267 w268 hw269 hM270 hI271 hf272 => ?_)
                      have hV273 := RD0_dp (M' := M267) hV256 (fun a b h => by rw [hM270]; exact up_ne (by omega))
                      have hV274 := ML_dp (M' := M267) hq253 (fun a b h => by rw [hM270]; exact up_ne (by omega))
                      have hk275 := kp_up hM270 (fun h => absurd h.1 (by decide)) hk259
                      have hk276 := kp_up hM270 (fun h => absurd h.1 (by decide)) hk260
                      have hk277 := kp_up hM270 (fun h => absurd h.1 (by decide)) hk261
                      have hk278 := kp_up hM270 (fun h => absurd h.1 (by decide)) hk262
                      have hk279 := kp_up hM270 (fun h => absurd h.1 (by decide)) hk263
                      have hk280 := kp_up hM270 (fun h => absurd h.1 (by decide)) hk264
                      have hk281 := kp_up hM270 (fun h => absurd h.1 (by decide)) hk266
                      clear hk259 hk260 hk261 hk262 hk263 hk264 hk266
                      have hF282 := Fr.put hF265 hM270 ((rfw_w (c := 219) (by decide) ⟨rfl, by omega, by omega⟩))
                      refine j_aload_n hX dX11_readLine_153 rfl 1 rfl ?_
                      refine gf_X11_42 hX (by omega) (by omega) kc_210 (fc_210_18 hI271) (by decide) dX11_readLine_154 ?_
                      refine j_aload_n hX dX11_readLine_157 rfl 1 rfl ?_
                      refine gf_X11_270 hX (by omega) (by omega) kc_210 dX11_readLine_158 ?_
                      refine j_top hk275 ?_
                      refine j_aload_n hX dX11_readLine_161 rfl 1 rfl ?_
                      refine j_ldc2 hX (in_6 200 (by first | rfl | decide +kernel) rfl) dX11_readLine_162 ?_
                      refine j_iconst hX dX11_readLine_165 ?_
                      refine j_bipush hX dX11_readLine_166 rfl ?_
                      refine j_callVI hX lk_X11_307 (c_X11_after _ _ _ _ _ _ _ _ _ _ (by omega) hI271 (by omega) (by omega) hV274 (by first | assumption | omega)) (by omega) hce rfl rfl (by omega) (by omega) kc_210 rfl rfl (Nat.le_of_ble_eq_true rfl) dX11_readLine_168 (fun z283 M284 hz286 hp285 => ?_)
                      obtain ⟨hI288, hG289, hq290, hq291, hq292⟩ := hp285
                      have hV293 := RD0_dp hV273 (fun a b h => hG289 a b (by omega))
                      have hk295 := kp_fr hG289 (fun h => absurd h.2.2 (by decide)) hk275
                      have hk296 := kp_fr hG289 (fun h => absurd h.1 (by decide)) hk276
                      have hk297 := kp_fr hG289 (fun h => absurd h.1 (by decide)) hk277
                      have hk298 := kp_fr hG289 (fun h => absurd h.1 (by decide)) hk278
                      have hk299 := kp_fr hG289 (fun h => absurd h.1 (by decide)) hk279
                      have hk300 := kp_fr hG289 (fun h => absurd h.2.2 (by decide)) hk280
                      clear hk275 hk276 hk277 hk278 hk279 hk280 hk281
                      have hF301 := Fr.trans hF282 hG289 (fun a b h => (rfw_a ⟨h.1, Int.le_trans (by decide) h.2.1, Int.le_trans h.2.2 (by decide)⟩))
                      have hk302 : M284.1 210 4 = M284.1 210 4 := rfl
                      refine j_iast hX (by omega) (by omega) kc_220 (by omega) (by omega) (by omega) (by omega) dX11_readLine_171 ?_
                      refine j_up hI288 (ra_220 _) (by omega) (by omega) (Or.inl (by omega)) (fun M303 w304 hw305 hM306 hI307 hf308 => ?_)
                      have hV309 := RD0_dp (M' := M303) hV293 (fun a b h => by rw [hM306]; exact up_ne (by omega))
                      have hV310 := ML_dp (M' := M303) hq290 (fun a b h => by rw [hM306]; exact up_ne (by omega))
                      have hk311 := kp_up hM306 (fun h => absurd h.1 (by decide)) hk295
                      have hk312 := kp_up hM306 (fun h => absurd h.1 (by decide)) hk296
                      have hk313 := kp_up hM306 (fun h => absurd h.1 (by decide)) hk297
                      have hk314 := kp_up hM306 (fun h => absurd h.1 (by decide)) hk298
                      have hk315 := kp_up hM306 (fun h => absurd h.1 (by decide)) hk299
                      have hk316 := kp_up hM306 (fun h => absurd h.1 (by decide)) hk300
                      have hk317 := kp_up hM306 (fun h => absurd h.1 (by decide)) hk302
                      clear hk295 hk296 hk297 hk298 hk299 hk300 hk302
                      have hF318 := Fr.put hF301 hM306 ((rfw_w (c := 220) (by decide) ⟨rfl, by omega, by omega⟩))
                      refine j_lload_n hX dX11_readLine_172 rfl 0 rfl ?_
                      refine j_ldc2 hX (in_6 201 (by first | rfl | decide +kernel) rfl) dX11_readLine_173 ?_
                      refine j_lcmp hX dX11_readLine_176 (fun z319 hz320 hy321 he322 => ?_)
                      refine j_if_ne (tgt := 207) hX dX11_readLine_177 (by decide) (by omega) (fun hc323 => ?_) (fun hc323 => ?_)
                      · skip
                        refine j_aload_n hX dX11_readLine_207 rfl 1 rfl ?_
                        refine j_aload_n hX dX11_readLine_208 rfl 1 rfl ?_
                        refine j_bipush hX dX11_readLine_209 rfl ?_
                        refine j_callVI hX lk_X11_311 (c_X11_isSignHere _ _ _ _ _ _ _ (by omega) hI307 (by omega)) (by omega) hce rfl rfl (by omega) (by omega) kc_210 rfl rfl (Nat.le_of_ble_eq_true rfl) dX11_readLine_211 (fun z324 M325 hz327 hp326 => ?_)
                        obtain ⟨hE328, hb329, hq330, hq331⟩ := hp326
                        replace hE328 := hE328.symm
                        subst hE328
                        refine j_callVV hX lk_X11_262 (c_X11_must _ _ _ _ _ _ _ _ (by omega) hI307 (by omega) hV310 (by first | assumption | omega)) (by omega) hce rfl rfl (by omega) (by omega) kc_210 rfl rfl (Nat.le_of_ble_eq_true rfl) dX11_readLine_214 (fun M333 hp334 => ?_)
                        obtain ⟨hI337, hG338, hq339, hq340, hq341⟩ := hp334
                        have hV342 := RD0_dp hV309 (fun a b h => hG338 a b (by omega))
                        have hk344 := kp_fr hG338 (fun h => absurd h.2.2 (by decide)) hk311
                        have hk345 := kp_fr hG338 (fun h => absurd h.1 (by decide)) hk312
                        have hk346 := kp_fr hG338 (fun h => absurd h.1 (by decide)) hk313
                        have hk347 := kp_fr hG338 (fun h => absurd h.1 (by decide)) hk314
                        have hk348 := kp_fr hG338 (fun h => absurd h.1 (by decide)) hk315
                        have hk349 := kp_fr hG338 (fun h => absurd h.2.2 (by decide)) hk316
                        clear hk311 hk312 hk313 hk314 hk315 hk316 hk317
                        have hF350 := Fr.trans hF318 hG338 (fun a b h => (rfw_a ⟨h.1, Int.le_trans (by decide) h.2.1, Int.le_trans h.2.2 (by decide)⟩))
                        have hk351 : M333.1 210 4 = M333.1 210 4 := rfl
                        exact hret _ _ _ dX11_readLine_217 ⟨hI337, hF350, by first | exact hq339 | exact ML_bad (by have := ML_1 hML (by omega); omega) (by omega), by first | exact fun _ => hV342 | exact fun h => noRel (by omega) | exact fun h => absurd h (by omega)⟩
                      · exfalso; exact absurd ((he111.1 (by omega)).symm.trans (he322.1 (by omega))) (by decide)
                  · skip
                    have hfr := hfu2.2.2.2 (he106.1 (by omega))
                    have hrd := hV68
                    have h42 := hrd.2.2 (by omega)
                    have h42b : M.1 210 42 = 560 * w := by omega
                    refine j_aload_n hX dX11_readLine_104 rfl 1 rfl ?_
                    refine gf_X11_79 hX (by omega) (by omega) kc_210 (fc_210_30 hI63) (by decide) dX11_readLine_105 ?_
                    refine j_aload_n hX dX11_readLine_108 rfl 1 rfl ?_
                    refine gf_X11_270 hX (by omega) (by omega) kc_210 dX11_readLine_109 ?_
                    refine j_top hk69 ?_
                    refine j_iconst hX dX11_readLine_112 ?_
                    refine j_zast hX (by omega) (by omega) kc_232 (by omega) (by omega) (by omega) (by omega) dX11_readLine_113 ?_
                    refine j_up hI63 (ra_232 _) (by omega) (by omega) (Or.inl (by omega)) (fun M352 w353 hw354 hM355 hI356 hf357 => ?_)
                    have hV359 := ML_dp (M' := M352) hq65 (fun a b h => by rw [hM355]; exact up_ne (by omega))
                    have hV360 := ML_dp (M' := M352) hV77 (fun a b h => by rw [hM355]; exact up_ne (by omega))
                    have hk361 := kp_up hM355 (fun h => absurd h.1 (by decide)) hk69
                    have hk362 := kp_up hM355 (fun h => absurd h.1 (by decide)) hk70
                    have hk363 := kp_up hM355 (fun h => absurd h.1 (by decide)) hk71
                    have hk364 := kp_up hM355 (fun h => absurd h.1 (by decide)) hk72
                    have hk365 := kp_up hM355 (fun h => absurd h.1 (by decide)) hk74
                    have hk366 := kp_up hM355 (fun h => absurd h.1 (by decide)) hk75
                    clear hk69 hk70 hk71 hk72 hk73 hk74 hk75
                    have hF367 := Fr.put hF76 hM355 ((rfw_w (c := 232) (by decide) ⟨rfl, by omega, by omega⟩))
                    have he1 := hM355
                    have hr1 := hw354
                    refine j_aload_n hX dX11_readLine_114 rfl 1 rfl ?_
                    refine j_iconst hX dX11_readLine_115 ?_
                    refine j_callVV hX lk_X11_303 (c_X11_readRule _ _ _ _ _ _ _ _ _ _ (by omega) hI356 (by omega) hk361 hk366 hV360 (by first | assumption | omega)) (by omega) hce rfl rfl (by omega) (by omega) kc_210 rfl rfl (Nat.le_of_ble_eq_true rfl) dX11_readLine_116 (fun M369 hp370 => ?_)
                    obtain ⟨hI373, hG374, hq375, hq376⟩ := hp370
                    have hk379 := kp_fr hG374 (fun h => h.elim (fun h => absurd h.2.2 (by decide)) (fun h => h.elim (fun h => absurd h.2.1 (by decide)) (fun h => h.elim (fun h => absurd h (by decide)) (fun h => h.elim (fun h => absurd h.1 (by decide)) (fun h => h.elim (fun h => absurd h.1 (by decide)) (fun h => h.elim (fun h => absurd h.1 (by decide)) (fun h => absurd h.1 (by decide)))))))) hk361
                    have hk380 := kp_fr hG374 (fun h => h.elim (fun h => absurd h.1 (by decide)) (fun h => h.elim (fun h => absurd h.1 (by decide)) (fun h => h.elim (fun h => absurd h (by decide)) (fun h => h.elim (fun h => absurd h.1 (by decide)) (fun h => h.elim (fun h => absurd h.1 (by decide)) (fun h => h.elim (fun h => absurd h.1 (by decide)) (fun h => absurd h.1 (by decide)))))))) hk362
                    have hk381 := kp_fr hG374 (fun h => h.elim (fun h => absurd h.1 (by decide)) (fun h => h.elim (fun h => absurd h.1 (by decide)) (fun h => h.elim (fun h => absurd h (by decide)) (fun h => h.elim (fun h => absurd h.1 (by decide)) (fun h => h.elim (fun h => absurd h.1 (by decide)) (fun h => h.elim (fun h => absurd h.1 (by decide)) (fun h => absurd h.1 (by decide)))))))) hk363
                    have hk382 := kp_fr hG374 (fun h => h.elim (fun h => absurd h.1 (by decide)) (fun h => h.elim (fun h => absurd h.1 (by decide)) (fun h => h.elim (fun h => absurd h (by decide)) (fun h => h.elim (fun h => absurd h.1 (by decide)) (fun h => h.elim (fun h => absurd h.1 (by decide)) (fun h => h.elim (fun h => absurd h.1 (by decide)) (fun h => absurd h.1 (by decide)))))))) hk364
                    have hk383 := kp_fr hG374 (fun h => h.elim (fun h => absurd h.1 (by decide)) (fun h => h.elim (fun h => absurd h.1 (by decide)) (fun h => h.elim (fun h => absurd h (by decide)) (fun h => h.elim (fun h => absurd h.1 (by decide)) (fun h => h.elim (fun h => absurd h.1 (by decide)) (fun h => h.elim (fun h => absurd h.1 (by decide)) (fun h => absurd h.1 (by decide)))))))) hf357
                    clear hk361 hk362 hk363 hk364 hk365 hk366 hf357
                    have hF384 := Fr.trans hF367 hG374 (fun a b h => h.elim (fun h => (rfw_a ⟨h.1, Int.le_trans (by decide) h.2.1, Int.le_trans h.2.2 (by decide)⟩)) (fun h => h.elim (fun h => (rfw_b ⟨h.1, Int.le_trans (by decide) h.2.1, Int.le_trans h.2.2 (by decide)⟩)) (fun h => h.elim (fun h => (rfw_u h)) (fun h => h.elim (fun h => (rfw_w (c := 229) (by decide) h)) (fun h => h.elim (fun h => (rfw_w (c := 230) (by decide) h)) (fun h => h.elim (fun h => (rfw_c h)) (fun h => (rfw_k h))))))))
                    have hk385 : M369.1 210 4 = M369.1 210 4 := rfl
                    have hk386 : M369.1 210 42 = M369.1 210 42 := rfl
                    have hV387 := RX_rent hrd he1 hr1 hG374 (fun a b h => by omega) hq376
                    refine j_lload_n hX dX11_readLine_119 rfl 0 rfl ?_
                    refine j_ldc2 hX (in_6 199 (by first | rfl | decide +kernel) rfl) dX11_readLine_120 ?_
                    refine j_lcmp hX dX11_readLine_123 (fun z388 hz389 hy390 he391 => ?_)
                    refine j_if_ne (tgt := 172) hX dX11_readLine_124 (by decide) (by omega) (fun hc392 => ?_) (fun hc392 => ?_)
                    · skip
                      refine j_lload_n hX dX11_readLine_172 rfl 0 rfl ?_
                      refine j_ldc2 hX (in_6 201 (by first | rfl | decide +kernel) rfl) dX11_readLine_173 ?_
                      refine j_lcmp hX dX11_readLine_176 (fun z393 hz394 hy395 he396 => ?_)
                      refine j_if_ne (tgt := 207) hX dX11_readLine_177 (by decide) (by omega) (fun hc397 => ?_) (fun hc397 => ?_)
                      · skip
                        refine j_aload_n hX dX11_readLine_207 rfl 1 rfl ?_
                        refine j_aload_n hX dX11_readLine_208 rfl 1 rfl ?_
                        refine j_bipush hX dX11_readLine_209 rfl ?_
                        refine j_callVI hX lk_X11_311 (c_X11_isSignHere _ _ _ _ _ _ _ (by omega) hI373 (by omega)) (by omega) hce rfl rfl (by omega) (by omega) kc_210 rfl rfl (Nat.le_of_ble_eq_true rfl) dX11_readLine_211 (fun z398 M399 hz401 hp400 => ?_)
                        obtain ⟨hE402, hb403, hq404, hq405⟩ := hp400
                        replace hE402 := hE402.symm
                        subst hE402
                        refine j_callVV hX lk_X11_262 (c_X11_must _ _ _ _ _ _ _ _ (by omega) hI373 (by omega) hq375 (by first | assumption | omega)) (by omega) hce rfl rfl (by omega) (by omega) kc_210 rfl rfl (Nat.le_of_ble_eq_true rfl) dX11_readLine_214 (fun M407 hp408 => ?_)
                        obtain ⟨hI411, hG412, hq413, hq414, hq415⟩ := hp408
                        have hV417 := RX_dp hV387 (fun a b h => hG412 a b (by omega))
                        have hk418 := kp_fr hG412 (fun h => absurd h.2.2 (by decide)) hk379
                        have hk419 := kp_fr hG412 (fun h => absurd h.1 (by decide)) hk380
                        have hk420 := kp_fr hG412 (fun h => absurd h.1 (by decide)) hk381
                        have hk421 := kp_fr hG412 (fun h => absurd h.1 (by decide)) hk382
                        have hk422 := kp_fr hG412 (fun h => absurd h.1 (by decide)) hk383
                        have hk423 := kp_fr hG412 (fun h => absurd h.2.2 (by decide)) hk386
                        clear hk379 hk380 hk381 hk382 hk383 hk385 hk386
                        have hF424 := Fr.trans hF384 hG412 (fun a b h => (rfw_a ⟨h.1, Int.le_trans (by decide) h.2.1, Int.le_trans h.2.2 (by decide)⟩))
                        have hk425 : M407.1 210 4 = M407.1 210 4 := rfl
                        exact hret _ _ _ dX11_readLine_217 ⟨hI411, hF424, by first | exact hq413 | exact ML_bad (by have := ML_1 hML (by omega); omega) (by omega), by first | exact fun _ => noRel | exact fun h => hV417 (by omega) | exact fun h => absurd h (by omega)⟩
                      · exfalso; exact absurd ((he106.1 (by omega)).symm.trans (he396.1 (by omega))) (by decide)
                    · exfalso; exact absurd ((he106.1 (by omega)).symm.trans (he391.1 (by omega))) (by decide)
                · skip
                  refine j_aload_n hX dX11_readLine_92 rfl 1 rfl ?_
                  refine j_callVV hX lk_X11_300 (c_X11_readWants _ _ _ _ _ _ _ _ _ (by omega) hI63 hk69 hk70 hV77) (by omega) hce rfl rfl (by omega) (by omega) kc_210 rfl rfl (Nat.le_of_ble_eq_true rfl) dX11_readLine_93 (fun M427 hp428 => ?_)
                  obtain ⟨hI431, hG432, hq433⟩ := hp428
                  have hV434 := RD0_dp hV68 (fun a b h => hG432 a b (by omega))
                  have hk437 := kp_fr hG432 (fun h => h.elim (fun h => absurd h.2.2 (by decide)) (fun h => h.elim (fun h => absurd h.1 (by decide)) (fun h => absurd h.1 (by decide)))) hk69
                  have hk438 := kp_fr hG432 (fun h => h.elim (fun h => absurd h.1 (by decide)) (fun h => h.elim (fun h => absurd h.1 (by decide)) (fun h => absurd h.1 (by decide)))) hk70
                  have hk439 := kp_fr hG432 (fun h => h.elim (fun h => absurd h.1 (by decide)) (fun h => h.elim (fun h => absurd h.1 (by decide)) (fun h => absurd h.1 (by decide)))) hk71
                  have hk440 := kp_fr hG432 (fun h => h.elim (fun h => absurd h.1 (by decide)) (fun h => h.elim (fun h => absurd h.1 (by decide)) (fun h => absurd h.1 (by decide)))) hk72
                  have hk441 := kp_fr hG432 (fun h => h.elim (fun h => absurd h.1 (by decide)) (fun h => h.elim (fun h => absurd h.1 (by decide)) (fun h => absurd h.1 (by decide)))) hk73
                  have hk442 := kp_fr hG432 (fun h => h.elim (fun h => absurd h.2.2 (by decide)) (fun h => h.elim (fun h => absurd h.1 (by decide)) (fun h => absurd h.1 (by decide)))) hk75
                  clear hk69 hk70 hk71 hk72 hk73 hk74 hk75
                  have hF443 := Fr.trans hF76 hG432 (fun a b h => h.elim (fun h => (rfw_a ⟨h.1, Int.le_trans (by decide) h.2.1, Int.le_trans h.2.2 (by decide)⟩)) (fun h => h.elim (fun h => (rfw_6 (c := 228) (by decide) h)) (fun h => (rfw_36 h))))
                  have hk444 : M427.1 210 4 = M427.1 210 4 := rfl
                  refine j_lload_n hX dX11_readLine_96 rfl 0 rfl ?_
                  refine j_ldc2 hX (in_6 198 (by first | rfl | decide +kernel) rfl) dX11_readLine_97 ?_
                  refine j_lcmp hX dX11_readLine_100 (fun z445 hz446 hy447 he448 => ?_)
                  refine j_if_ne (tgt := 119) hX dX11_readLine_101 (by decide) (by omega) (fun hc449 => ?_) (fun hc449 => ?_)
                  · skip
                    refine j_lload_n hX dX11_readLine_119 rfl 0 rfl ?_
                    refine j_ldc2 hX (in_6 199 (by first | rfl | decide +kernel) rfl) dX11_readLine_120 ?_
                    refine j_lcmp hX dX11_readLine_123 (fun z450 hz451 hy452 he453 => ?_)
                    refine j_if_ne (tgt := 172) hX dX11_readLine_124 (by decide) (by omega) (fun hc454 => ?_) (fun hc454 => ?_)
                    · skip
                      refine j_lload_n hX dX11_readLine_172 rfl 0 rfl ?_
                      refine j_ldc2 hX (in_6 201 (by first | rfl | decide +kernel) rfl) dX11_readLine_173 ?_
                      refine j_lcmp hX dX11_readLine_176 (fun z455 hz456 hy457 he458 => ?_)
                      refine j_if_ne (tgt := 207) hX dX11_readLine_177 (by decide) (by omega) (fun hc459 => ?_) (fun hc459 => ?_)
                      · skip
                        refine j_aload_n hX dX11_readLine_207 rfl 1 rfl ?_
                        refine j_aload_n hX dX11_readLine_208 rfl 1 rfl ?_
                        refine j_bipush hX dX11_readLine_209 rfl ?_
                        refine j_callVI hX lk_X11_311 (c_X11_isSignHere _ _ _ _ _ _ _ (by omega) hI431 (by omega)) (by omega) hce rfl rfl (by omega) (by omega) kc_210 rfl rfl (Nat.le_of_ble_eq_true rfl) dX11_readLine_211 (fun z460 M461 hz463 hp462 => ?_)
                        obtain ⟨hE464, hb465, hq466, hq467⟩ := hp462
                        replace hE464 := hE464.symm
                        subst hE464
                        refine j_callVV hX lk_X11_262 (c_X11_must _ _ _ _ _ _ _ _ (by omega) hI431 (by omega) hq433 (by first | assumption | omega)) (by omega) hce rfl rfl (by omega) (by omega) kc_210 rfl rfl (Nat.le_of_ble_eq_true rfl) dX11_readLine_214 (fun M469 hp470 => ?_)
                        obtain ⟨hI473, hG474, hq475, hq476, hq477⟩ := hp470
                        have hV478 := RD0_dp hV434 (fun a b h => hG474 a b (by omega))
                        have hk480 := kp_fr hG474 (fun h => absurd h.2.2 (by decide)) hk437
                        have hk481 := kp_fr hG474 (fun h => absurd h.1 (by decide)) hk438
                        have hk482 := kp_fr hG474 (fun h => absurd h.1 (by decide)) hk439
                        have hk483 := kp_fr hG474 (fun h => absurd h.1 (by decide)) hk440
                        have hk484 := kp_fr hG474 (fun h => absurd h.1 (by decide)) hk441
                        have hk485 := kp_fr hG474 (fun h => absurd h.2.2 (by decide)) hk442
                        clear hk437 hk438 hk439 hk440 hk441 hk442 hk444
                        have hF486 := Fr.trans hF443 hG474 (fun a b h => (rfw_a ⟨h.1, Int.le_trans (by decide) h.2.1, Int.le_trans h.2.2 (by decide)⟩))
                        have hk487 : M469.1 210 4 = M469.1 210 4 := rfl
                        exact hret _ _ _ dX11_readLine_217 ⟨hI473, hF486, by first | exact hq475 | exact ML_bad (by have := ML_1 hML (by omega); omega) (by omega), by first | exact fun _ => hV478 | exact fun h => noRel (by omega) | exact fun h => absurd h (by omega)⟩
                      · exfalso; exact absurd ((he101.1 (by omega)).symm.trans (he458.1 (by omega))) (by decide)
                    · exfalso; exact absurd ((he101.1 (by omega)).symm.trans (he453.1 (by omega))) (by decide)
                  · exfalso; exact absurd ((he101.1 (by omega)).symm.trans (he448.1 (by omega))) (by decide)
              · skip
                refine j_aload_n hX dX11_readLine_80 rfl 1 rfl ?_
                refine j_callVV hX lk_X11_297 (c_X11_readTells _ _ _ _ _ _ _ _ _ (by omega) hI63 hk69 hk70 hV77) (by omega) hce rfl rfl (by omega) (by omega) kc_210 rfl rfl (Nat.le_of_ble_eq_true rfl) dX11_readLine_81 (fun M489 hp490 => ?_)
                obtain ⟨hI493, hG494, hq495⟩ := hp490
                have hV496 := RD0_dp hV68 (fun a b h => hG494 a b (by omega))
                have hk499 := kp_fr hG494 (fun h => h.elim (fun h => absurd h.2.2 (by decide)) (fun h => h.elim (fun h => absurd h.1 (by decide)) (fun h => absurd h.1 (by decide)))) hk69
                have hk500 := kp_fr hG494 (fun h => h.elim (fun h => absurd h.1 (by decide)) (fun h => h.elim (fun h => absurd h.1 (by decide)) (fun h => absurd h.1 (by decide)))) hk70
                have hk501 := kp_fr hG494 (fun h => h.elim (fun h => absurd h.1 (by decide)) (fun h => h.elim (fun h => absurd h.1 (by decide)) (fun h => absurd h.1 (by decide)))) hk71
                have hk502 := kp_fr hG494 (fun h => h.elim (fun h => absurd h.1 (by decide)) (fun h => h.elim (fun h => absurd h.1 (by decide)) (fun h => absurd h.1 (by decide)))) hk72
                have hk503 := kp_fr hG494 (fun h => h.elim (fun h => absurd h.1 (by decide)) (fun h => h.elim (fun h => absurd h.1 (by decide)) (fun h => absurd h.1 (by decide)))) hk73
                have hk504 := kp_fr hG494 (fun h => h.elim (fun h => absurd h.2.2 (by decide)) (fun h => h.elim (fun h => absurd h.1 (by decide)) (fun h => absurd h.1 (by decide)))) hk75
                clear hk69 hk70 hk71 hk72 hk73 hk74 hk75
                have hF505 := Fr.trans hF76 hG494 (fun a b h => h.elim (fun h => (rfw_a ⟨h.1, Int.le_trans (by decide) h.2.1, Int.le_trans h.2.2 (by decide)⟩)) (fun h => h.elim (fun h => (rfw_w (c := 215) (by decide) h)) (fun h => (rfw_6 (c := 226) (by decide) h))))
                have hk506 : M489.1 210 4 = M489.1 210 4 := rfl
                refine j_lload_n hX dX11_readLine_84 rfl 0 rfl ?_
                refine j_ldc2 hX (in_6 197 (by first | rfl | decide +kernel) rfl) dX11_readLine_85 ?_
                refine j_lcmp hX dX11_readLine_88 (fun z507 hz508 hy509 he510 => ?_)
                refine j_if_ne (tgt := 96) hX dX11_readLine_89 (by decide) (by omega) (fun hc511 => ?_) (fun hc511 => ?_)
                · skip
                  refine j_lload_n hX dX11_readLine_96 rfl 0 rfl ?_
                  refine j_ldc2 hX (in_6 198 (by first | rfl | decide +kernel) rfl) dX11_readLine_97 ?_
                  refine j_lcmp hX dX11_readLine_100 (fun z512 hz513 hy514 he515 => ?_)
                  refine j_if_ne (tgt := 119) hX dX11_readLine_101 (by decide) (by omega) (fun hc516 => ?_) (fun hc516 => ?_)
                  · skip
                    refine j_lload_n hX dX11_readLine_119 rfl 0 rfl ?_
                    refine j_ldc2 hX (in_6 199 (by first | rfl | decide +kernel) rfl) dX11_readLine_120 ?_
                    refine j_lcmp hX dX11_readLine_123 (fun z517 hz518 hy519 he520 => ?_)
                    refine j_if_ne (tgt := 172) hX dX11_readLine_124 (by decide) (by omega) (fun hc521 => ?_) (fun hc521 => ?_)
                    · skip
                      refine j_lload_n hX dX11_readLine_172 rfl 0 rfl ?_
                      refine j_ldc2 hX (in_6 201 (by first | rfl | decide +kernel) rfl) dX11_readLine_173 ?_
                      refine j_lcmp hX dX11_readLine_176 (fun z522 hz523 hy524 he525 => ?_)
                      refine j_if_ne (tgt := 207) hX dX11_readLine_177 (by decide) (by omega) (fun hc526 => ?_) (fun hc526 => ?_)
                      · skip
                        refine j_aload_n hX dX11_readLine_207 rfl 1 rfl ?_
                        refine j_aload_n hX dX11_readLine_208 rfl 1 rfl ?_
                        refine j_bipush hX dX11_readLine_209 rfl ?_
                        refine j_callVI hX lk_X11_311 (c_X11_isSignHere _ _ _ _ _ _ _ (by omega) hI493 (by omega)) (by omega) hce rfl rfl (by omega) (by omega) kc_210 rfl rfl (Nat.le_of_ble_eq_true rfl) dX11_readLine_211 (fun z527 M528 hz530 hp529 => ?_)
                        obtain ⟨hE531, hb532, hq533, hq534⟩ := hp529
                        replace hE531 := hE531.symm
                        subst hE531
                        refine j_callVV hX lk_X11_262 (c_X11_must _ _ _ _ _ _ _ _ (by omega) hI493 (by omega) hq495 (by first | assumption | omega)) (by omega) hce rfl rfl (by omega) (by omega) kc_210 rfl rfl (Nat.le_of_ble_eq_true rfl) dX11_readLine_214 (fun M536 hp537 => ?_)
                        obtain ⟨hI540, hG541, hq542, hq543, hq544⟩ := hp537
                        have hV545 := RD0_dp hV496 (fun a b h => hG541 a b (by omega))
                        have hk547 := kp_fr hG541 (fun h => absurd h.2.2 (by decide)) hk499
                        have hk548 := kp_fr hG541 (fun h => absurd h.1 (by decide)) hk500
                        have hk549 := kp_fr hG541 (fun h => absurd h.1 (by decide)) hk501
                        have hk550 := kp_fr hG541 (fun h => absurd h.1 (by decide)) hk502
                        have hk551 := kp_fr hG541 (fun h => absurd h.1 (by decide)) hk503
                        have hk552 := kp_fr hG541 (fun h => absurd h.2.2 (by decide)) hk504
                        clear hk499 hk500 hk501 hk502 hk503 hk504 hk506
                        have hF553 := Fr.trans hF505 hG541 (fun a b h => (rfw_a ⟨h.1, Int.le_trans (by decide) h.2.1, Int.le_trans h.2.2 (by decide)⟩))
                        have hk554 : M536.1 210 4 = M536.1 210 4 := rfl
                        exact hret _ _ _ dX11_readLine_217 ⟨hI540, hF553, by first | exact hq542 | exact ML_bad (by have := ML_1 hML (by omega); omega) (by omega), by first | exact fun _ => hV545 | exact fun h => noRel (by omega) | exact fun h => absurd h (by omega)⟩
                      · exfalso; exact absurd ((he96.1 (by omega)).symm.trans (he525.1 (by omega))) (by decide)
                    · exfalso; exact absurd ((he96.1 (by omega)).symm.trans (he520.1 (by omega))) (by decide)
                  · exfalso; exact absurd ((he96.1 (by omega)).symm.trans (he515.1 (by omega))) (by decide)
                · exfalso; exact absurd ((he96.1 (by omega)).symm.trans (he510.1 (by omega))) (by decide)
            · skip
              have hff := hfu2.2.2.1 (he91.1 (by omega))
              refine j_aload_n hX dX11_readLine_68 rfl 1 rfl ?_
              refine j_callVV hX lk_X11_294 (c_X11_readFact _ _ _ _ _ _ _ _ _ _ (by omega) hI63 hk69 hk70 hk71 hV77 (by first | assumption | omega)) (by omega) hce rfl rfl (by omega) (by omega) kc_210 rfl rfl (Nat.le_of_ble_eq_true rfl) dX11_readLine_69 (fun M556 hp557 => ?_)
              obtain ⟨hI560, hG561, hq562⟩ := hp557
              have hV563 := RD0_dp hV68 (fun a b h => hG561 a b (by omega))
              have hk566 := kp_fr hG561 (fun h => h.elim (fun h => absurd h.2.2 (by decide)) (fun h => h.elim (fun h => absurd h.1 (by decide)) (fun h => h.elim (fun h => absurd h.1 (by decide)) (fun h => h.elim (fun h => absurd h.1 (by decide)) (fun h => absurd h.1 (by decide)))))) hk69
              have hk567 := kp_fr hG561 (fun h => h.elim (fun h => absurd h.1 (by decide)) (fun h => h.elim (fun h => absurd h.1 (by decide)) (fun h => h.elim (fun h => absurd h.1 (by decide)) (fun h => h.elim (fun h => absurd h.1 (by decide)) (fun h => absurd h.1 (by decide)))))) hk70
              have hk568 := kp_fr hG561 (fun h => h.elim (fun h => absurd h.1 (by decide)) (fun h => h.elim (fun h => absurd h.1 (by decide)) (fun h => h.elim (fun h => absurd h.1 (by decide)) (fun h => h.elim (fun h => absurd h.1 (by decide)) (fun h => absurd h.1 (by decide)))))) hk72
              have hk569 := kp_fr hG561 (fun h => h.elim (fun h => absurd h.1 (by decide)) (fun h => h.elim (fun h => absurd h.1 (by decide)) (fun h => h.elim (fun h => absurd h.1 (by decide)) (fun h => h.elim (fun h => absurd h.1 (by decide)) (fun h => absurd h.1 (by decide)))))) hk73
              have hk570 := kp_fr hG561 (fun h => h.elim (fun h => absurd h.2.2 (by decide)) (fun h => h.elim (fun h => absurd h.1 (by decide)) (fun h => h.elim (fun h => absurd h.1 (by decide)) (fun h => h.elim (fun h => absurd h.1 (by decide)) (fun h => absurd h.1 (by decide)))))) hk75
              clear hk69 hk70 hk71 hk72 hk73 hk74 hk75
              have hF571 := Fr.trans hF76 hG561 (fun a b h => h.elim (fun h => (rfw_a ⟨h.1, Int.le_trans (by decide) h.2.1, Int.le_trans h.2.2 (by decide)⟩)) (fun h => h.elim (fun h => (rfw_w (c := 214) (by decide) h)) (fun h => h.elim (fun h => (rfw_w (c := 225) (by decide) h)) (fun h => h.elim (fun h => (rfw_10 (c := 223) (by decide) h)) (fun h => (rfw_10 (c := 224) (by decide) h))))))
              have hk572 : M556.1 210 4 = M556.1 210 4 := rfl
              refine j_lload_n hX dX11_readLine_72 rfl 0 rfl ?_
              refine j_ldc2 hX (in_6 196 (by first | rfl | decide +kernel) rfl) dX11_readLine_73 ?_
              refine j_lcmp hX dX11_readLine_76 (fun z573 hz574 hy575 he576 => ?_)
              refine j_if_ne (tgt := 84) hX dX11_readLine_77 (by decide) (by omega) (fun hc577 => ?_) (fun hc577 => ?_)
              · skip
                refine j_lload_n hX dX11_readLine_84 rfl 0 rfl ?_
                refine j_ldc2 hX (in_6 197 (by first | rfl | decide +kernel) rfl) dX11_readLine_85 ?_
                refine j_lcmp hX dX11_readLine_88 (fun z578 hz579 hy580 he581 => ?_)
                refine j_if_ne (tgt := 96) hX dX11_readLine_89 (by decide) (by omega) (fun hc582 => ?_) (fun hc582 => ?_)
                · skip
                  refine j_lload_n hX dX11_readLine_96 rfl 0 rfl ?_
                  refine j_ldc2 hX (in_6 198 (by first | rfl | decide +kernel) rfl) dX11_readLine_97 ?_
                  refine j_lcmp hX dX11_readLine_100 (fun z583 hz584 hy585 he586 => ?_)
                  refine j_if_ne (tgt := 119) hX dX11_readLine_101 (by decide) (by omega) (fun hc587 => ?_) (fun hc587 => ?_)
                  · skip
                    refine j_lload_n hX dX11_readLine_119 rfl 0 rfl ?_
                    refine j_ldc2 hX (in_6 199 (by first | rfl | decide +kernel) rfl) dX11_readLine_120 ?_
                    refine j_lcmp hX dX11_readLine_123 (fun z588 hz589 hy590 he591 => ?_)
                    refine j_if_ne (tgt := 172) hX dX11_readLine_124 (by decide) (by omega) (fun hc592 => ?_) (fun hc592 => ?_)
                    · skip
                      refine j_lload_n hX dX11_readLine_172 rfl 0 rfl ?_
                      refine j_ldc2 hX (in_6 201 (by first | rfl | decide +kernel) rfl) dX11_readLine_173 ?_
                      refine j_lcmp hX dX11_readLine_176 (fun z593 hz594 hy595 he596 => ?_)
                      refine j_if_ne (tgt := 207) hX dX11_readLine_177 (by decide) (by omega) (fun hc597 => ?_) (fun hc597 => ?_)
                      · skip
                        refine j_aload_n hX dX11_readLine_207 rfl 1 rfl ?_
                        refine j_aload_n hX dX11_readLine_208 rfl 1 rfl ?_
                        refine j_bipush hX dX11_readLine_209 rfl ?_
                        refine j_callVI hX lk_X11_311 (c_X11_isSignHere _ _ _ _ _ _ _ (by omega) hI560 (by omega)) (by omega) hce rfl rfl (by omega) (by omega) kc_210 rfl rfl (Nat.le_of_ble_eq_true rfl) dX11_readLine_211 (fun z598 M599 hz601 hp600 => ?_)
                        obtain ⟨hE602, hb603, hq604, hq605⟩ := hp600
                        replace hE602 := hE602.symm
                        subst hE602
                        refine j_callVV hX lk_X11_262 (c_X11_must _ _ _ _ _ _ _ _ (by omega) hI560 (by omega) hq562 (by first | assumption | omega)) (by omega) hce rfl rfl (by omega) (by omega) kc_210 rfl rfl (Nat.le_of_ble_eq_true rfl) dX11_readLine_214 (fun M607 hp608 => ?_)
                        obtain ⟨hI611, hG612, hq613, hq614, hq615⟩ := hp608
                        have hV616 := RD0_dp hV563 (fun a b h => hG612 a b (by omega))
                        have hk618 := kp_fr hG612 (fun h => absurd h.2.2 (by decide)) hk566
                        have hk619 := kp_fr hG612 (fun h => absurd h.1 (by decide)) hk567
                        have hk620 := kp_fr hG612 (fun h => absurd h.1 (by decide)) hk568
                        have hk621 := kp_fr hG612 (fun h => absurd h.1 (by decide)) hk569
                        have hk622 := kp_fr hG612 (fun h => absurd h.2.2 (by decide)) hk570
                        clear hk566 hk567 hk568 hk569 hk570 hk572
                        have hF623 := Fr.trans hF571 hG612 (fun a b h => (rfw_a ⟨h.1, Int.le_trans (by decide) h.2.1, Int.le_trans h.2.2 (by decide)⟩))
                        have hk624 : M607.1 210 4 = M607.1 210 4 := rfl
                        exact hret _ _ _ dX11_readLine_217 ⟨hI611, hF623, by first | exact hq613 | exact ML_bad (by have := ML_1 hML (by omega); omega) (by omega), by first | exact fun _ => hV616 | exact fun h => noRel (by omega) | exact fun h => absurd h (by omega)⟩
                      · exfalso; exact absurd ((he91.1 (by omega)).symm.trans (he596.1 (by omega))) (by decide)
                    · exfalso; exact absurd ((he91.1 (by omega)).symm.trans (he591.1 (by omega))) (by decide)
                  · exfalso; exact absurd ((he91.1 (by omega)).symm.trans (he586.1 (by omega))) (by decide)
                · exfalso; exact absurd ((he91.1 (by omega)).symm.trans (he581.1 (by omega))) (by decide)
              · exfalso; exact absurd ((he91.1 (by omega)).symm.trans (he576.1 (by omega))) (by decide)
          · skip
            have hrd := hV68
            have h213 : M59.1 213 w = nw := by omega
            refine j_aload_n hX dX11_readLine_56 rfl 1 rfl ?_
            refine j_callVV hX lk_X11_291 (c_X11_readLot _ _ _ _ _ _ _ _ _ (by omega) hI63 hk69 hk70 hV77) (by omega) hce rfl rfl (by omega) (by omega) kc_210 rfl rfl (Nat.le_of_ble_eq_true rfl) dX11_readLine_57 (fun M626 hp627 => ?_)
            obtain ⟨hI630, hG631, hq632, hq633⟩ := hp627
            have hk637 := kp_fr hG631 (fun h => h.elim (fun h => absurd h.2.2 (by decide)) (fun h => h.elim (fun h => absurd h.1 (by decide)) (fun h => absurd h.1 (by decide)))) hk69
            have hk638 := kp_fr hG631 (fun h => h.elim (fun h => absurd h.1 (by decide)) (fun h => h.elim (fun h => absurd h.1 (by decide)) (fun h => absurd h.1 (by decide)))) hk70
            have hk639 := kp_fr hG631 (fun h => h.elim (fun h => absurd h.1 (by decide)) (fun h => h.elim (fun h => absurd h.1 (by decide)) (fun h => absurd h.1 (by decide)))) hk71
            have hk640 := kp_fr hG631 (fun h => h.elim (fun h => absurd h.1 (by decide)) (fun h => h.elim (fun h => absurd h.1 (by decide)) (fun h => absurd h.1 (by decide)))) hk73
            have hk641 := kp_fr hG631 (fun h => h.elim (fun h => absurd h.2.2 (by decide)) (fun h => h.elim (fun h => absurd h.1 (by decide)) (fun h => absurd h.1 (by decide)))) hk75
            clear hk69 hk70 hk71 hk72 hk73 hk74 hk75
            have hF642 := Fr.trans hF76 hG631 (fun a b h => h.elim (fun h => (rfw_a ⟨h.1, Int.le_trans (by decide) h.2.1, Int.le_trans h.2.2 (by decide)⟩)) (fun h => h.elim (fun h => (rfw_w (c := 231) (by decide) h)) (fun h => (rfw_6 (c := 222) (by decide) h))))
            have hk643 : M626.1 210 4 = M626.1 210 4 := rfl
            have hV644 := RX_lot hrd h213 hG631 (fun a b h => by omega) hq633
            refine j_lload_n hX dX11_readLine_60 rfl 0 rfl ?_
            refine j_ldc2 hX (in_6 192 (by first | rfl | decide +kernel) rfl) dX11_readLine_61 ?_
            refine j_lcmp hX dX11_readLine_64 (fun z645 hz646 hy647 he648 => ?_)
            refine j_if_ne (tgt := 72) hX dX11_readLine_65 (by decide) (by omega) (fun hc649 => ?_) (fun hc649 => ?_)
            · skip
              refine j_lload_n hX dX11_readLine_72 rfl 0 rfl ?_
              refine j_ldc2 hX (in_6 196 (by first | rfl | decide +kernel) rfl) dX11_readLine_73 ?_
              refine j_lcmp hX dX11_readLine_76 (fun z650 hz651 hy652 he653 => ?_)
              refine j_if_ne (tgt := 84) hX dX11_readLine_77 (by decide) (by omega) (fun hc654 => ?_) (fun hc654 => ?_)
              · skip
                refine j_lload_n hX dX11_readLine_84 rfl 0 rfl ?_
                refine j_ldc2 hX (in_6 197 (by first | rfl | decide +kernel) rfl) dX11_readLine_85 ?_
                refine j_lcmp hX dX11_readLine_88 (fun z655 hz656 hy657 he658 => ?_)
                refine j_if_ne (tgt := 96) hX dX11_readLine_89 (by decide) (by omega) (fun hc659 => ?_) (fun hc659 => ?_)
                · skip
                  refine j_lload_n hX dX11_readLine_96 rfl 0 rfl ?_
                  refine j_ldc2 hX (in_6 198 (by first | rfl | decide +kernel) rfl) dX11_readLine_97 ?_
                  refine j_lcmp hX dX11_readLine_100 (fun z660 hz661 hy662 he663 => ?_)
                  refine j_if_ne (tgt := 119) hX dX11_readLine_101 (by decide) (by omega) (fun hc664 => ?_) (fun hc664 => ?_)
                  · skip
                    refine j_lload_n hX dX11_readLine_119 rfl 0 rfl ?_
                    refine j_ldc2 hX (in_6 199 (by first | rfl | decide +kernel) rfl) dX11_readLine_120 ?_
                    refine j_lcmp hX dX11_readLine_123 (fun z665 hz666 hy667 he668 => ?_)
                    refine j_if_ne (tgt := 172) hX dX11_readLine_124 (by decide) (by omega) (fun hc669 => ?_) (fun hc669 => ?_)
                    · skip
                      refine j_lload_n hX dX11_readLine_172 rfl 0 rfl ?_
                      refine j_ldc2 hX (in_6 201 (by first | rfl | decide +kernel) rfl) dX11_readLine_173 ?_
                      refine j_lcmp hX dX11_readLine_176 (fun z670 hz671 hy672 he673 => ?_)
                      refine j_if_ne (tgt := 207) hX dX11_readLine_177 (by decide) (by omega) (fun hc674 => ?_) (fun hc674 => ?_)
                      · skip
                        refine j_aload_n hX dX11_readLine_207 rfl 1 rfl ?_
                        refine j_aload_n hX dX11_readLine_208 rfl 1 rfl ?_
                        refine j_bipush hX dX11_readLine_209 rfl ?_
                        refine j_callVI hX lk_X11_311 (c_X11_isSignHere _ _ _ _ _ _ _ (by omega) hI630 (by omega)) (by omega) hce rfl rfl (by omega) (by omega) kc_210 rfl rfl (Nat.le_of_ble_eq_true rfl) dX11_readLine_211 (fun z675 M676 hz678 hp677 => ?_)
                        obtain ⟨hE679, hb680, hq681, hq682⟩ := hp677
                        replace hE679 := hE679.symm
                        subst hE679
                        refine j_callVV hX lk_X11_262 (c_X11_must _ _ _ _ _ _ _ _ (by omega) hI630 (by omega) hq632 (by first | assumption | omega)) (by omega) hce rfl rfl (by omega) (by omega) kc_210 rfl rfl (Nat.le_of_ble_eq_true rfl) dX11_readLine_214 (fun M684 hp685 => ?_)
                        obtain ⟨hI688, hG689, hq690, hq691, hq692⟩ := hp685
                        have hV694 := RX_dp hV644 (fun a b h => hG689 a b (by omega))
                        have hk695 := kp_fr hG689 (fun h => absurd h.2.2 (by decide)) hk637
                        have hk696 := kp_fr hG689 (fun h => absurd h.1 (by decide)) hk638
                        have hk697 := kp_fr hG689 (fun h => absurd h.1 (by decide)) hk639
                        have hk698 := kp_fr hG689 (fun h => absurd h.1 (by decide)) hk640
                        have hk699 := kp_fr hG689 (fun h => absurd h.2.2 (by decide)) hk641
                        clear hk637 hk638 hk639 hk640 hk641 hk643
                        have hF700 := Fr.trans hF642 hG689 (fun a b h => (rfw_a ⟨h.1, Int.le_trans (by decide) h.2.1, Int.le_trans h.2.2 (by decide)⟩))
                        have hk701 : M684.1 210 4 = M684.1 210 4 := rfl
                        exact hret _ _ _ dX11_readLine_217 ⟨hI688, hF700, by first | exact hq690 | exact ML_bad (by have := ML_1 hML (by omega); omega) (by omega), by first | exact fun _ => noRel | exact fun h => hV694 (by omega) | exact fun h => absurd h (by omega)⟩
                      · exfalso; exact absurd ((he86.1 (by omega)).symm.trans (he673.1 (by omega))) (by decide)
                    · exfalso; exact absurd ((he86.1 (by omega)).symm.trans (he668.1 (by omega))) (by decide)
                  · exfalso; exact absurd ((he86.1 (by omega)).symm.trans (he663.1 (by omega))) (by decide)
                · exfalso; exact absurd ((he86.1 (by omega)).symm.trans (he658.1 (by omega))) (by decide)
              · exfalso; exact absurd ((he86.1 (by omega)).symm.trans (he653.1 (by omega))) (by decide)
            · exfalso; exact absurd ((he86.1 (by omega)).symm.trans (he648.1 (by omega))) (by decide)
        · skip
          have hfr := hfu2.1 (he81.1 (by omega))
          have hrd := hV68
          have h231 : M59.1 231 w = 0 := by omega
          refine j_aload_n hX dX11_readLine_44 rfl 1 rfl ?_
          refine j_callVV hX lk_X11_288 (c_X11_readRoom _ _ _ _ _ _ _ _ _ (by omega) hI63 hk69 hk70 hV77 (by first | assumption | omega)) (by omega) hce rfl rfl (by omega) (by omega) kc_210 rfl rfl (Nat.le_of_ble_eq_true rfl) dX11_readLine_45 (fun M703 hp704 => ?_)
          obtain ⟨hI707, hG708, hq709⟩ := hp704
          have hk713 := kp_fr hG708 (fun h => h.elim (fun h => absurd h.2.2 (by decide)) (fun h => h.elim (fun h => absurd h.1 (by decide)) (fun h => h.elim (fun h => absurd h.1 (by decide)) (fun h => h.elim (fun h => absurd h.1 (by decide)) (fun h => h.elim (fun h => absurd h.1 (by decide)) (fun h => h.elim (fun h => absurd h.1 (by decide)) (fun h => absurd h.1 (by decide)))))))) hk69
          have hk714 := kp_fr hG708 (fun h => h.elim (fun h => absurd h.1 (by decide)) (fun h => h.elim (fun h => absurd h.1 (by decide)) (fun h => h.elim (fun h => absurd h.1 (by decide)) (fun h => h.elim (fun h => absurd h.1 (by decide)) (fun h => h.elim (fun h => absurd h.1 (by decide)) (fun h => h.elim (fun h => absurd h.1 (by decide)) (fun h => absurd h.1 (by decide)))))))) hk71
          have hk715 := kp_fr hG708 (fun h => h.elim (fun h => absurd h.1 (by decide)) (fun h => h.elim (fun h => absurd h.1 (by decide)) (fun h => h.elim (fun h => absurd h.1 (by decide)) (fun h => h.elim (fun h => absurd h.1 (by decide)) (fun h => h.elim (fun h => absurd h.1 (by decide)) (fun h => h.elim (fun h => absurd h.1 (by decide)) (fun h => absurd h.1 (by decide)))))))) hk72
          have hk716 := kp_fr hG708 (fun h => h.elim (fun h => absurd h.1 (by decide)) (fun h => h.elim (fun h => absurd h.1 (by decide)) (fun h => h.elim (fun h => absurd h.1 (by decide)) (fun h => h.elim (fun h => absurd h.1 (by decide)) (fun h => h.elim (fun h => absurd h.1 (by decide)) (fun h => h.elim (fun h => absurd h.1 (by decide)) (fun h => absurd h.1 (by decide)))))))) hk73
          have hk717 := kp_fr hG708 (fun h => h.elim (fun h => absurd h.2.2 (by decide)) (fun h => h.elim (fun h => absurd h.1 (by decide)) (fun h => h.elim (fun h => absurd h.1 (by decide)) (fun h => h.elim (fun h => absurd h.1 (by decide)) (fun h => h.elim (fun h => absurd h.1 (by decide)) (fun h => h.elim (fun h => absurd h.1 (by decide)) (fun h => absurd h.1 (by decide)))))))) hk75
          clear hk69 hk70 hk71 hk72 hk73 hk74 hk75
          have hF718 := Fr.trans hF76 hG708 (fun a b h => h.elim (fun h => (rfw_a ⟨h.1, Int.le_trans (by decide) h.2.1, Int.le_trans h.2.2 (by decide)⟩)) (fun h => h.elim (fun h => (rfw_w (c := 213) (by decide) h)) (fun h => h.elim (fun h => (rfw_w (c := 218) (by decide) h)) (fun h => h.elim (fun h => (rfw_6 (c := 221) (by decide) h)) (fun h => h.elim (fun h => (rfw_6 (c := 226) (by decide) h)) (fun h => h.elim (fun h => (rfw_6 (c := 228) (by decide) h)) (fun h => (rfw_36 h))))))))
          have hk719 : M703.1 210 4 = M703.1 210 4 := rfl
          have hV720 := RD0_room hrd h231 hG708 (fun a b h => by omega)
          refine j_lload_n hX dX11_readLine_48 rfl 0 rfl ?_
          refine j_ldc2 hX (in_6 191 (by first | rfl | decide +kernel) rfl) dX11_readLine_49 ?_
          refine j_lcmp hX dX11_readLine_52 (fun z721 hz722 hy723 he724 => ?_)
          refine j_if_ne (tgt := 60) hX dX11_readLine_53 (by decide) (by omega) (fun hc725 => ?_) (fun hc725 => ?_)
          · skip
            refine j_lload_n hX dX11_readLine_60 rfl 0 rfl ?_
            refine j_ldc2 hX (in_6 192 (by first | rfl | decide +kernel) rfl) dX11_readLine_61 ?_
            refine j_lcmp hX dX11_readLine_64 (fun z726 hz727 hy728 he729 => ?_)
            refine j_if_ne (tgt := 72) hX dX11_readLine_65 (by decide) (by omega) (fun hc730 => ?_) (fun hc730 => ?_)
            · skip
              refine j_lload_n hX dX11_readLine_72 rfl 0 rfl ?_
              refine j_ldc2 hX (in_6 196 (by first | rfl | decide +kernel) rfl) dX11_readLine_73 ?_
              refine j_lcmp hX dX11_readLine_76 (fun z731 hz732 hy733 he734 => ?_)
              refine j_if_ne (tgt := 84) hX dX11_readLine_77 (by decide) (by omega) (fun hc735 => ?_) (fun hc735 => ?_)
              · skip
                refine j_lload_n hX dX11_readLine_84 rfl 0 rfl ?_
                refine j_ldc2 hX (in_6 197 (by first | rfl | decide +kernel) rfl) dX11_readLine_85 ?_
                refine j_lcmp hX dX11_readLine_88 (fun z736 hz737 hy738 he739 => ?_)
                refine j_if_ne (tgt := 96) hX dX11_readLine_89 (by decide) (by omega) (fun hc740 => ?_) (fun hc740 => ?_)
                · skip
                  refine j_lload_n hX dX11_readLine_96 rfl 0 rfl ?_
                  refine j_ldc2 hX (in_6 198 (by first | rfl | decide +kernel) rfl) dX11_readLine_97 ?_
                  refine j_lcmp hX dX11_readLine_100 (fun z741 hz742 hy743 he744 => ?_)
                  refine j_if_ne (tgt := 119) hX dX11_readLine_101 (by decide) (by omega) (fun hc745 => ?_) (fun hc745 => ?_)
                  · skip
                    refine j_lload_n hX dX11_readLine_119 rfl 0 rfl ?_
                    refine j_ldc2 hX (in_6 199 (by first | rfl | decide +kernel) rfl) dX11_readLine_120 ?_
                    refine j_lcmp hX dX11_readLine_123 (fun z746 hz747 hy748 he749 => ?_)
                    refine j_if_ne (tgt := 172) hX dX11_readLine_124 (by decide) (by omega) (fun hc750 => ?_) (fun hc750 => ?_)
                    · skip
                      refine j_lload_n hX dX11_readLine_172 rfl 0 rfl ?_
                      refine j_ldc2 hX (in_6 201 (by first | rfl | decide +kernel) rfl) dX11_readLine_173 ?_
                      refine j_lcmp hX dX11_readLine_176 (fun z751 hz752 hy753 he754 => ?_)
                      refine j_if_ne (tgt := 207) hX dX11_readLine_177 (by decide) (by omega) (fun hc755 => ?_) (fun hc755 => ?_)
                      · skip
                        refine j_aload_n hX dX11_readLine_207 rfl 1 rfl ?_
                        refine j_aload_n hX dX11_readLine_208 rfl 1 rfl ?_
                        refine j_bipush hX dX11_readLine_209 rfl ?_
                        refine j_callVI hX lk_X11_311 (c_X11_isSignHere _ _ _ _ _ _ _ (by omega) hI707 (by omega)) (by omega) hce rfl rfl (by omega) (by omega) kc_210 rfl rfl (Nat.le_of_ble_eq_true rfl) dX11_readLine_211 (fun z756 M757 hz759 hp758 => ?_)
                        obtain ⟨hE760, hb761, hq762, hq763⟩ := hp758
                        replace hE760 := hE760.symm
                        subst hE760
                        refine j_callVV hX lk_X11_262 (c_X11_must _ _ _ _ _ _ _ _ (by omega) hI707 (by omega) hq709 (by first | assumption | omega)) (by omega) hce rfl rfl (by omega) (by omega) kc_210 rfl rfl (Nat.le_of_ble_eq_true rfl) dX11_readLine_214 (fun M765 hp766 => ?_)
                        obtain ⟨hI769, hG770, hq771, hq772, hq773⟩ := hp766
                        have hV775 := RD0_dp hV720 (fun a b h => hG770 a b (by omega))
                        have hk776 := kp_fr hG770 (fun h => absurd h.2.2 (by decide)) hk713
                        have hk777 := kp_fr hG770 (fun h => absurd h.1 (by decide)) hk714
                        have hk778 := kp_fr hG770 (fun h => absurd h.1 (by decide)) hk715
                        have hk779 := kp_fr hG770 (fun h => absurd h.1 (by decide)) hk716
                        have hk780 := kp_fr hG770 (fun h => absurd h.2.2 (by decide)) hk717
                        clear hk713 hk714 hk715 hk716 hk717 hk719
                        have hF781 := Fr.trans hF718 hG770 (fun a b h => (rfw_a ⟨h.1, Int.le_trans (by decide) h.2.1, Int.le_trans h.2.2 (by decide)⟩))
                        have hk782 : M765.1 210 4 = M765.1 210 4 := rfl
                        exact hret _ _ _ dX11_readLine_217 ⟨hI769, hF781, by first | exact hq771 | exact ML_bad (by have := ML_1 hML (by omega); omega) (by omega), by first | exact fun _ => hV775 | exact fun h => noRel (by omega) | exact fun h => absurd h (by omega)⟩
                      · exfalso; exact absurd ((he81.1 (by omega)).symm.trans (he754.1 (by omega))) (by decide)
                    · exfalso; exact absurd ((he81.1 (by omega)).symm.trans (he749.1 (by omega))) (by decide)
                  · exfalso; exact absurd ((he81.1 (by omega)).symm.trans (he744.1 (by omega))) (by decide)
                · exfalso; exact absurd ((he81.1 (by omega)).symm.trans (he739.1 (by omega))) (by decide)
              · exfalso; exact absurd ((he81.1 (by omega)).symm.trans (he734.1 (by omega))) (by decide)
            · exfalso; exact absurd ((he81.1 (by omega)).symm.trans (he729.1 (by omega))) (by decide)
          · exfalso; exact absurd ((he81.1 (by omega)).symm.trans (he724.1 (by omega))) (by decide)
      · exfalso; omega
    · skip
      clear hq45
      refine j_aload_n hX dX11_readLine_20 rfl 1 rfl ?_
      refine j_callVV hX lk_X11_256 (c_X11_misplaced _ _ _ _ _ _ _ (by omega) hI hML) (by omega) hce rfl rfl (by omega) (by omega) kc_210 rfl rfl (Nat.le_of_ble_eq_true rfl) dX11_readLine_21 (fun M784 hp785 => ?_)
      obtain ⟨hI788, hG789, hq790, hq791⟩ := hp785
      have hV793 := RD0_dp hRD (fun a b h => hG789 a b (by omega))
      have hk794 := kp_fr hG789 (fun h => absurd h.2.2 (by decide)) hw
      have hk795 := kp_fr hG789 (fun h => absurd h.1 (by decide)) hnw
      have hk796 := kp_fr hG789 (fun h => absurd h.1 (by decide)) hfw
      have hk797 := kp_fr hG789 (fun h => absurd h.1 (by decide)) hhl
      have hk798 := kp_fr hG789 (fun h => absurd h.1 (by decide)) hhr
      have hk799 := kp_fr hG789 (fun h => absurd h.2.2 (by decide)) hk2
      have hk800 := kp_fr hG789 (fun h => absurd h.2.2 (by decide)) hk7
      clear hk1 hk2 hk7
      have hF801 := Fr.trans hF hG789 (fun a b h => (rfw_a ⟨h.1, Int.le_trans (by decide) h.2.1, Int.le_trans h.2.2 (by decide)⟩))
      have hk802 : M784.1 210 4 = M784.1 210 4 := rfl
      refine j_aload_n hX dX11_readLine_24 rfl 1 rfl ?_
      refine j_callVI hX lk_X11_249 (c_X11_isGood _ _ _ _ _ _ (by omega) hI788) (by omega) hce rfl rfl (by omega) (by omega) kc_210 rfl rfl (Nat.le_of_ble_eq_true rfl) dX11_readLine_25 (fun z803 M804 hz806 hp805 => ?_)
      obtain ⟨hE807, hb808, hq809, hq810⟩ := hp805
      replace hE807 := hE807.symm
      subst hE807
      refine j_if_ne (tgt := 32) hX dX11_readLine_28 (by decide) (by omega) (fun hc811 => ?_) (fun hc811 => ?_)
      · exfalso; omega
      · skip
        clear hq809
        have hi812 := hq810 (by omega)
        clear hq810
        exact hret _ _ _ dX11_readLine_31 ⟨hI788, hF801, by first | exact hq790 | exact ML_bad (by have := ML_1 hML (by omega); omega) (by omega), by first | exact fun _ => hV793 | exact fun h => noRel (by omega) | exact fun h => absurd h (by omega)⟩
