theorem dX11_unit_0 : decode cX11_unit 0 = .ok (.aload_n 0, 1) := by decide +kernel
theorem dX11_unit_1 : decode cX11_unit 1 = .ok (.getfield 101, 3) := by decide +kernel
theorem dX11_unit_4 : decode cX11_unit 4 = .ok (.aload_n 0, 1) := by decide +kernel
theorem dX11_unit_5 : decode cX11_unit 5 = .ok (.getfield 338, 3) := by decide +kernel
theorem dX11_unit_8 : decode cX11_unit 8 = .ok (.iconst 1, 1) := by decide +kernel
theorem dX11_unit_9 : decode cX11_unit 9 = .ok (.isub, 1) := by decide +kernel
theorem dX11_unit_10 : decode cX11_unit 10 = .ok (.iaload, 1) := by decide +kernel
theorem dX11_unit_11 : decode cX11_unit 11 = .ok (.iconst 3, 1) := by decide +kernel
theorem dX11_unit_12 : decode cX11_unit 12 = .ok (.if_icmp .le 19, 3) := by decide +kernel
theorem dX11_unit_15 : decode cX11_unit 15 = .ok (.aload_n 0, 1) := by decide +kernel
theorem dX11_unit_16 : decode cX11_unit 16 = .ok (.getfield 101, 3) := by decide +kernel
theorem dX11_unit_19 : decode cX11_unit 19 = .ok (.aload_n 0, 1) := by decide +kernel
theorem dX11_unit_20 : decode cX11_unit 20 = .ok (.getfield 338, 3) := by decide +kernel
theorem dX11_unit_23 : decode cX11_unit 23 = .ok (.iconst 1, 1) := by decide +kernel
theorem dX11_unit_24 : decode cX11_unit 24 = .ok (.isub, 1) := by decide +kernel
theorem dX11_unit_25 : decode cX11_unit 25 = .ok (.iaload, 1) := by decide +kernel
theorem dX11_unit_26 : decode cX11_unit 26 = .ok (.bipush 7, 2) := by decide +kernel
theorem dX11_unit_28 : decode cX11_unit 28 = .ok (.if_icmp .lt 7, 3) := by decide +kernel
theorem dX11_unit_31 : decode cX11_unit 31 = .ok (.iconst 1, 1) := by decide +kernel
theorem dX11_unit_32 : decode cX11_unit 32 = .ok (.goto 4, 3) := by decide +kernel
theorem dX11_unit_35 : decode cX11_unit 35 = .ok (.iconst 0, 1) := by decide +kernel
theorem dX11_unit_36 : decode cX11_unit 36 = .ok (.istore_n 1, 1) := by decide +kernel
theorem dX11_unit_37 : decode cX11_unit 37 = .ok (.iload_n 1, 1) := by decide +kernel
theorem dX11_unit_38 : decode cX11_unit 38 = .ok (.ifCond .eq 17, 3) := by decide +kernel
theorem dX11_unit_41 : decode cX11_unit 41 = .ok (.aload_n 0, 1) := by decide +kernel
theorem dX11_unit_42 : decode cX11_unit 42 = .ok (.ldc2_w 209, 3) := by decide +kernel
theorem dX11_unit_45 : decode cX11_unit 45 = .ok (.invokevirtual 259, 3) := by decide +kernel
theorem dX11_unit_48 : decode cX11_unit 48 = .ok (.ifCond .eq 7, 3) := by decide +kernel
theorem dX11_unit_51 : decode cX11_unit 51 = .ok (.iconst 1, 1) := by decide +kernel
theorem dX11_unit_52 : decode cX11_unit 52 = .ok (.goto 4, 3) := by decide +kernel
theorem dX11_unit_55 : decode cX11_unit 55 = .ok (.iconst 0, 1) := by decide +kernel
theorem dX11_unit_56 : decode cX11_unit 56 = .ok (.istore_n 2, 1) := by decide +kernel
theorem dX11_unit_57 : decode cX11_unit 57 = .ok (.aload_n 0, 1) := by decide +kernel
theorem dX11_unit_58 : decode cX11_unit 58 = .ok (.bipush 40, 2) := by decide +kernel
theorem dX11_unit_60 : decode cX11_unit 60 = .ok (.invokevirtual 311, 3) := by decide +kernel
theorem dX11_unit_63 : decode cX11_unit 63 = .ok (.istore_n 3, 1) := by decide +kernel
theorem dX11_unit_64 : decode cX11_unit 64 = .ok (.aload_n 0, 1) := by decide +kernel
theorem dX11_unit_65 : decode cX11_unit 65 = .ok (.invokevirtual 353, 3) := by decide +kernel
theorem dX11_unit_68 : decode cX11_unit 68 = .ok (.istore 4, 2) := by decide +kernel
theorem dX11_unit_70 : decode cX11_unit 70 = .ok (.aload_n 0, 1) := by decide +kernel
theorem dX11_unit_71 : decode cX11_unit 71 = .ok (.getfield 30, 3) := by decide +kernel
theorem dX11_unit_74 : decode cX11_unit 74 = .ok (.aload_n 0, 1) := by decide +kernel
theorem dX11_unit_75 : decode cX11_unit 75 = .ok (.getfield 270, 3) := by decide +kernel
theorem dX11_unit_78 : decode cX11_unit 78 = .ok (.iaload, 1) := by decide +kernel
theorem dX11_unit_79 : decode cX11_unit 79 = .ok (.bipush 60, 2) := by decide +kernel
theorem dX11_unit_81 : decode cX11_unit 81 = .ok (.if_icmp .eq 12, 3) := by decide +kernel
theorem dX11_unit_84 : decode cX11_unit 84 = .ok (.aload_n 0, 1) := by decide +kernel
theorem dX11_unit_85 : decode cX11_unit 85 = .ok (.getfield 332, 3) := by decide +kernel
theorem dX11_unit_88 : decode cX11_unit 88 = .ok (.bipush 30, 2) := by decide +kernel
theorem dX11_unit_90 : decode cX11_unit 90 = .ok (.if_icmp .ne 7, 3) := by decide +kernel
theorem dX11_unit_93 : decode cX11_unit 93 = .ok (.iconst 1, 1) := by decide +kernel
theorem dX11_unit_94 : decode cX11_unit 94 = .ok (.goto 4, 3) := by decide +kernel
theorem dX11_unit_97 : decode cX11_unit 97 = .ok (.iconst 0, 1) := by decide +kernel
theorem dX11_unit_98 : decode cX11_unit 98 = .ok (.istore 5, 2) := by decide +kernel
theorem dX11_unit_100 : decode cX11_unit 100 = .ok (.iload_n 2, 1) := by decide +kernel
theorem dX11_unit_101 : decode cX11_unit 101 = .ok (.ifCond .ne 25, 3) := by decide +kernel
theorem dX11_unit_104 : decode cX11_unit 104 = .ok (.iload 4, 2) := by decide +kernel
theorem dX11_unit_106 : decode cX11_unit 106 = .ok (.ifCond .ne 15, 3) := by decide +kernel
theorem dX11_unit_109 : decode cX11_unit 109 = .ok (.aload_n 0, 1) := by decide +kernel
theorem dX11_unit_110 : decode cX11_unit 110 = .ok (.getfield 221, 3) := by decide +kernel
theorem dX11_unit_113 : decode cX11_unit 113 = .ok (.iconst 4, 1) := by decide +kernel
theorem dX11_unit_114 : decode cX11_unit 114 = .ok (.if_icmp .eq 7, 3) := by decide +kernel
theorem dX11_unit_117 : decode cX11_unit 117 = .ok (.iload_n 3, 1) := by decide +kernel
theorem dX11_unit_118 : decode cX11_unit 118 = .ok (.ifCond .eq 25, 3) := by decide +kernel
theorem dX11_unit_121 : decode cX11_unit 121 = .ok (.iload 5, 2) := by decide +kernel
theorem dX11_unit_123 : decode cX11_unit 123 = .ok (.ifCond .ne 20, 3) := by decide +kernel
theorem dX11_unit_126 : decode cX11_unit 126 = .ok (.iload_n 2, 1) := by decide +kernel
theorem dX11_unit_127 : decode cX11_unit 127 = .ok (.ifCond .ne 7, 3) := by decide +kernel
theorem dX11_unit_130 : decode cX11_unit 130 = .ok (.iload_n 3, 1) := by decide +kernel
theorem dX11_unit_131 : decode cX11_unit 131 = .ok (.ifCond .eq 16, 3) := by decide +kernel
theorem dX11_unit_134 : decode cX11_unit 134 = .ok (.aload_n 0, 1) := by decide +kernel
theorem dX11_unit_135 : decode cX11_unit 135 = .ok (.getfield 341, 3) := by decide +kernel
theorem dX11_unit_138 : decode cX11_unit 138 = .ok (.bipush 7, 2) := by decide +kernel
theorem dX11_unit_140 : decode cX11_unit 140 = .ok (.if_icmp .ne 7, 3) := by decide +kernel
theorem dX11_unit_143 : decode cX11_unit 143 = .ok (.aload_n 0, 1) := by decide +kernel
theorem dX11_unit_144 : decode cX11_unit 144 = .ok (.invokevirtual 256, 3) := by decide +kernel
theorem dX11_unit_147 : decode cX11_unit 147 = .ok (.aload_n 0, 1) := by decide +kernel
theorem dX11_unit_148 : decode cX11_unit 148 = .ok (.invokevirtual 249, 3) := by decide +kernel
theorem dX11_unit_151 : decode cX11_unit 151 = .ok (.ifCond .ne 5, 3) := by decide +kernel
theorem dX11_unit_154 : decode cX11_unit 154 = .ok (.iconst 1, 1) := by decide +kernel
theorem dX11_unit_155 : decode cX11_unit 155 = .ok (.ireturn, 1) := by decide +kernel
theorem dX11_unit_156 : decode cX11_unit 156 = .ok (.aload_n 0, 1) := by decide +kernel
theorem dX11_unit_157 : decode cX11_unit 157 = .ok (.getfield 30, 3) := by decide +kernel
theorem dX11_unit_160 : decode cX11_unit 160 = .ok (.aload_n 0, 1) := by decide +kernel
theorem dX11_unit_161 : decode cX11_unit 161 = .ok (.getfield 270, 3) := by decide +kernel
theorem dX11_unit_164 : decode cX11_unit 164 = .ok (.dup2, 1) := by decide +kernel
theorem dX11_unit_165 : decode cX11_unit 165 = .ok (.iaload, 1) := by decide +kernel
theorem dX11_unit_166 : decode cX11_unit 166 = .ok (.iload_n 2, 1) := by decide +kernel
theorem dX11_unit_167 : decode cX11_unit 167 = .ok (.ifCond .eq 7, 3) := by decide +kernel
theorem dX11_unit_170 : decode cX11_unit 170 = .ok (.iconst 0, 1) := by decide +kernel
theorem dX11_unit_171 : decode cX11_unit 171 = .ok (.goto 4, 3) := by decide +kernel
theorem dX11_unit_174 : decode cX11_unit 174 = .ok (.iconst 1, 1) := by decide +kernel
theorem dX11_unit_175 : decode cX11_unit 175 = .ok (.iadd, 1) := by decide +kernel
theorem dX11_unit_176 : decode cX11_unit 176 = .ok (.iastore, 1) := by decide +kernel
theorem dX11_unit_177 : decode cX11_unit 177 = .ok (.aload_n 0, 1) := by decide +kernel
theorem dX11_unit_178 : decode cX11_unit 178 = .ok (.dup, 1) := by decide +kernel
theorem dX11_unit_179 : decode cX11_unit 179 = .ok (.getfield 332, 3) := by decide +kernel
theorem dX11_unit_182 : decode cX11_unit 182 = .ok (.iload_n 2, 1) := by decide +kernel
theorem dX11_unit_183 : decode cX11_unit 183 = .ok (.ifCond .eq 7, 3) := by decide +kernel
theorem dX11_unit_186 : decode cX11_unit 186 = .ok (.iconst 0, 1) := by decide +kernel
theorem dX11_unit_187 : decode cX11_unit 187 = .ok (.goto 4, 3) := by decide +kernel
theorem dX11_unit_190 : decode cX11_unit 190 = .ok (.iconst 1, 1) := by decide +kernel
theorem dX11_unit_191 : decode cX11_unit 191 = .ok (.iadd, 1) := by decide +kernel
theorem dX11_unit_192 : decode cX11_unit 192 = .ok (.putfield 332, 3) := by decide +kernel
theorem dX11_unit_195 : decode cX11_unit 195 = .ok (.iload 4, 2) := by decide +kernel
theorem dX11_unit_197 : decode cX11_unit 197 = .ok (.ifCond .ne 10, 3) := by decide +kernel
theorem dX11_unit_200 : decode cX11_unit 200 = .ok (.aload_n 0, 1) := by decide +kernel
theorem dX11_unit_201 : decode cX11_unit 201 = .ok (.getfield 239, 3) := by decide +kernel
theorem dX11_unit_204 : decode cX11_unit 204 = .ok (.goto 4, 3) := by decide +kernel
theorem dX11_unit_207 : decode cX11_unit 207 = .ok (.iconst 0, 1) := by decide +kernel
theorem dX11_unit_208 : decode cX11_unit 208 = .ok (.istore 6, 2) := by decide +kernel
theorem dX11_unit_210 : decode cX11_unit 210 = .ok (.aload_n 0, 1) := by decide +kernel
theorem dX11_unit_211 : decode cX11_unit 211 = .ok (.invokevirtual 253, 3) := by decide +kernel
theorem dX11_unit_214 : decode cX11_unit 214 = .ok (.iload_n 2, 1) := by decide +kernel
theorem dX11_unit_215 : decode cX11_unit 215 = .ok (.ifCond .ne 7, 3) := by decide +kernel
theorem dX11_unit_218 : decode cX11_unit 218 = .ok (.iload_n 3, 1) := by decide +kernel
theorem dX11_unit_219 : decode cX11_unit 219 = .ok (.ifCond .eq 31, 3) := by decide +kernel
theorem dX11_unit_222 : decode cX11_unit 222 = .ok (.aload_n 0, 1) := by decide +kernel
theorem dX11_unit_223 : decode cX11_unit 223 = .ok (.iload_n 2, 1) := by decide +kernel
theorem dX11_unit_224 : decode cX11_unit 224 = .ok (.ifCond .eq 7, 3) := by decide +kernel
theorem dX11_unit_227 : decode cX11_unit 227 = .ok (.iconst 3, 1) := by decide +kernel
theorem dX11_unit_228 : decode cX11_unit 228 = .ok (.goto 5, 3) := by decide +kernel
theorem dX11_unit_231 : decode cX11_unit 231 = .ok (.bipush 7, 2) := by decide +kernel
theorem dX11_unit_233 : decode cX11_unit 233 = .ok (.bipush 126, 2) := by decide +kernel
theorem dX11_unit_235 : decode cX11_unit 235 = .ok (.invokevirtual 344, 3) := by decide +kernel
theorem dX11_unit_238 : decode cX11_unit 238 = .ok (.aload_n 0, 1) := by decide +kernel
theorem dX11_unit_239 : decode cX11_unit 239 = .ok (.dup, 1) := by decide +kernel
theorem dX11_unit_240 : decode cX11_unit 240 = .ok (.getfield 341, 3) := by decide +kernel
theorem dX11_unit_243 : decode cX11_unit 243 = .ok (.iconst 1, 1) := by decide +kernel
theorem dX11_unit_244 : decode cX11_unit 244 = .ok (.iadd, 1) := by decide +kernel
theorem dX11_unit_245 : decode cX11_unit 245 = .ok (.putfield 341, 3) := by decide +kernel
theorem dX11_unit_248 : decode cX11_unit 248 = .ok (.iconst 1, 1) := by decide +kernel
theorem dX11_unit_249 : decode cX11_unit 249 = .ok (.ireturn, 1) := by decide +kernel
theorem dX11_unit_250 : decode cX11_unit 250 = .ok (.aload_n 0, 1) := by decide +kernel
theorem dX11_unit_251 : decode cX11_unit 251 = .ok (.iload 4, 2) := by decide +kernel
theorem dX11_unit_253 : decode cX11_unit 253 = .ok (.ifCond .ne 8, 3) := by decide +kernel
theorem dX11_unit_256 : decode cX11_unit 256 = .ok (.bipush 110, 2) := by decide +kernel
theorem dX11_unit_258 : decode cX11_unit 258 = .ok (.goto 5, 3) := by decide +kernel
theorem dX11_unit_261 : decode cX11_unit 261 = .ok (.iload 4, 2) := by decide +kernel
theorem dX11_unit_263 : decode cX11_unit 263 = .ok (.iload 6, 2) := by decide +kernel
theorem dX11_unit_265 : decode cX11_unit 265 = .ok (.invokevirtual 356, 3) := by decide +kernel
theorem dX11_unit_268 : decode cX11_unit 268 = .ok (.iconst 0, 1) := by decide +kernel
theorem dX11_unit_269 : decode cX11_unit 269 = .ok (.ireturn, 1) := by decide +kernel
set_option maxHeartbeats 2000000 in
set_option maxRecDepth 20000 in
theorem k_X11_unit_195 (l : Launch) (D : va_G) (cy : Nat → ClassId) (B N : Nat) (m : Int) (lo : Int) (np : Int) (cd : Int) (tk : Int) (wi : Int) (uu : Int) (w : Int) (un : Int) (fk : Int) (M : MM) (hN : 257 ≤ N) (hI0 : Iv M) (hunp : M.1 210 44 = np) (hucd : M.1 210 42 = cd) (hutk : M.1 210 8 = tk) (huwi : M.1 210 43 = wi) (huuu : M.1 210 45 = uu) (huw : M.1 210 41 = w) (huun : M.1 216 w = un) (hufk : M.1 210 4 = fk) (hML : ML m M) (hPS : PS 0 lo M) (h1 : 0 ≤ lo ∧ lo ≤ 560 ∧ fk = 0) (X : CT) (exl : xl X = l) (exD : xD X = D) (excy : xcy X = cy) (hnL : xnL X = 7) (hX : Cx X B 3 cX11_unit yX11_unit.cls) (hret : ∀ (pc : Nat) (lv : List (Nat × Value)) (z : Int) (M' : MM), decode cX11_unit pc = .ok (.ireturn, 1) → narrow .boolean (iv z) = iv z → I32 z → (fun z M' => Iv M' ∧ Fr (fun a b => (a = 210 ∧ 4 ≤ b ∧ b ≤ 10) ∨ (a = 210 ∧ 42 ≤ b ∧ b ≤ 45) ∨ (a = 237 ∧ cd ≤ b ∧ b ≤ cd) ∨ (a = 238 ∧ cd ≤ b ∧ b ≤ cd) ∨ (a = 239 ∧ np ≤ b ∧ b ≤ np) ∨ (a = 240 ∧ np ≤ b ∧ b ≤ np) ∨ (a = 216)) M M' ∧ (0 ≤ z ∧ z ≤ 1) ∧ (ML (m - 1) M') ∧ (M'.1 210 44 ≤ np + 1) ∧ (M'.1 210 4 = 0 → PT z lo M')) z M' → J X B N 0 0 pc lv [iv z] M') : ∀ (x1 x2 x3 x4 x5 : Int), ∀ (fk2 u2 : Int), ∀ (Mc : MM), I32 x1 → I32 x2 → I32 x3 → I32 x4 → I32 x5 → Iv Mc → Fr (fun a b => (a = 210 ∧ 4 ≤ b ∧ b ≤ 10) ∨ (a = 210 ∧ 42 ≤ b ∧ b ≤ 45) ∨ (a = 237 ∧ cd ≤ b ∧ b ≤ cd) ∨ (a = 238 ∧ cd ≤ b ∧ b ≤ cd) ∨ (a = 239 ∧ np ≤ b ∧ b ≤ np) ∨ (a = 240 ∧ np ≤ b ∧ b ≤ np) ∨ (a = 216)) M Mc → Mc.1 210 44 = np → Mc.1 210 42 = cd → Mc.1 210 8 = tk → Mc.1 210 43 = wi → Mc.1 210 41 = w → Mc.1 210 4 = fk2 → Mc.1 210 45 = u2 → ML m Mc → (0 ≤ x2 ∧ x2 ≤ 1 ∧ 0 ≤ x3 ∧ x3 ≤ 1 ∧ fk2 = 0 ∧ u2 = uu + 1 - x2) → (Imp (x4 ≠ 0) (97 ≤ x4 ∧ x4 ≤ 122 ∧ tk = 3)) → (Imp (x2 = 0) (uu ≤ 29)) → (tk ≠ 0) → (Imp (1 ≤ x2 + x3) (wi ≤ 6)) → J X B N 0 0 195 [(0, rv B 210), (1, iv x1), (2, iv x2), (3, iv x3), (4, iv x4), (5, iv x5)] [] Mc := by
  have hI := hI0
  have hce : 0 + 0 ≤ (xR X).cells ∧ 0 + 0 ≤ (xR X).slots := ⟨Nat.zero_le _, Nat.zero_le _⟩
  have hwr : 0 ≤ wi ∧ wi ≤ 7 := by have := hI.at 210 43 ro_210_43; omega
  have hur : 0 ≤ uu ∧ uu ≤ 30 := by have := hI.at 210 45 ro_210_45; omega
  have hpb := PS_b hPS (Or.inl rfl) (by omega) (by omega)
  have htkr : -2147483648 ≤ tk ∧ tk ≤ 2147483647 := by have := hI.at 210 8 ro_210_8; omega
  have hwb : 0 ≤ w ∧ w ≤ 1 := by have := hI.at 210 41 ro_210_41; omega
  have hunb : 0 ≤ un ∧ un ≤ 60 := by have := hI.at 216 w (ra_216 _); omega
  intro x1 x2 x3 x4 x5 fk2 u2 Mc hxx1 hxx2 hxx3 hxx4 hxx5 hI hF hk_0 hk_1 hk_2 hk_3 hk_4 hk_5 hk_6 hV_0 h2 h5 h6 h7 h8
  refine j_iload hX dX11_unit_195 4 rfl ?_
  refine j_if_ne (tgt := 207) hX dX11_unit_197 (by decide) (by omega) (fun hc1 => ?_) (fun hc1 => ?_)
  · skip
    refine j_iconst hX dX11_unit_207 ?_
    refine j_istore (lv' := [(6, _), (0, _), (1, _), (2, _), (3, _), (4, _), (5, _)]) hX dX11_unit_208 (by rw [hnL]; decide) rfl ?_
    refine j_aload_n hX dX11_unit_210 rfl 1 rfl ?_
    refine j_callVV hX lk_X11_253 (c_X11_goOn _ _ _ _ _ _ _ _ (by omega) hI (by first | assumption | rfl) hV_0) (by omega) hce rfl rfl (by omega) (by omega) kc_210 rfl rfl (Nat.le_of_ble_eq_true rfl) dX11_unit_211 (fun M3 hp4 => ?_)
    obtain ⟨hI7, hG8, hq9, hq10⟩ := hp4
    have hk12 := kp_fr hG8 (fun h => absurd h.2.2 (by decide)) hk_0
    have hk13 := kp_fr hG8 (fun h => absurd h.2.2 (by decide)) hk_1
    have hk14 := kp_fr hG8 (fun h => absurd h.2.2 (by decide)) hk_3
    have hk15 := kp_fr hG8 (fun h => absurd h.2.2 (by decide)) hk_4
    have hk16 := kp_fr hG8 (fun h => absurd h.2.1 (by decide)) hk_5
    have hk17 := kp_fr hG8 (fun h => absurd h.2.2 (by decide)) hk_6
    have hF18 := Fr.trans hF hG8 (fun a b h => (Or.inl ⟨h.1, Int.le_trans (by decide) h.2.1, Int.le_trans h.2.2 (by decide)⟩))
    have hV19 := hq10 (by omega) (by omega)
    refine j_iload_n hX dX11_unit_214 rfl 3 rfl ?_
    refine j_if_ne (tgt := 222) hX dX11_unit_215 (by decide) (by omega) (fun hc20 => ?_) (fun hc20 => ?_)
    · skip
      refine j_aload_n hX dX11_unit_222 rfl 1 rfl ?_
      refine j_iload_n hX dX11_unit_223 rfl 3 rfl ?_
      refine j_if_eq (tgt := 231) hX dX11_unit_224 (by decide) (by omega) (fun hc21 => ?_) (fun hc21 => ?_)
      · skip
        refine j_bipush hX dX11_unit_231 rfl ?_
        refine j_bipush hX dX11_unit_233 rfl ?_
        refine j_callVV hX lk_X11_344 (c_X11_pushE _ _ _ _ _ _ _ _ _ (by omega) hI7 (by omega) (by omega) hk12 (by first | assumption | omega)) (by omega) hce rfl rfl (by omega) (by omega) kc_210 rfl rfl (Nat.le_of_ble_eq_true rfl) dX11_unit_235 (fun M23 hp24 => ?_)
        obtain ⟨hI27, hG28, hq29⟩ := hp24
        have hV30 := ML_dp hq9 (fun a b h => hG28 a b (by omega))
        have hV31 := ML_dp hV19 (fun a b h => hG28 a b (by omega))
        have hk32 := kp_fr hG28 (fun h => h.elim (fun h => absurd h.1 (by decide)) (fun h => h.elim (fun h => absurd h.1 (by decide)) (fun h => absurd h.2.1 (by decide)))) hk13
        have hk33 := kp_fr hG28 (fun h => h.elim (fun h => absurd h.1 (by decide)) (fun h => h.elim (fun h => absurd h.1 (by decide)) (fun h => absurd h.2.1 (by decide)))) hk14
        have hk34 := kp_fr hG28 (fun h => h.elim (fun h => absurd h.1 (by decide)) (fun h => h.elim (fun h => absurd h.1 (by decide)) (fun h => absurd h.2.1 (by decide)))) hk15
        have hk35 := kp_fr hG28 (fun h => h.elim (fun h => absurd h.1 (by decide)) (fun h => h.elim (fun h => absurd h.1 (by decide)) (fun h => absurd h.2.1 (by decide)))) hk16
        have hk36 := kp_fr hG28 (fun h => h.elim (fun h => absurd h.1 (by decide)) (fun h => h.elim (fun h => absurd h.1 (by decide)) (fun h => absurd h.2.2 (by decide)))) hk17
        clear hk12 hk13 hk14 hk15 hk16 hk17
        have hF37 := Fr.trans hF18 hG28 (fun a b h => h.elim (fun h => (Or.inr (Or.inr (Or.inr (Or.inr (Or.inl h)))))) (fun h => h.elim (fun h => (Or.inr (Or.inr (Or.inr (Or.inr (Or.inr (Or.inl h))))))) (fun h => (Or.inr (Or.inl ⟨h.1, Int.le_trans (by decide) h.2.1, Int.le_trans h.2.2 (by decide)⟩)))))
        obtain ⟨hp1, hp2, hp3⟩ := hq29
        have hwi6 := h8 (by omega)
        refine j_aload_n hX dX11_unit_238 rfl 1 rfl ?_
        refine j_dup hX dX11_unit_239 rfl ?_
        refine gf_X11_341 hX (by omega) (by omega) kc_210 dX11_unit_240 ?_
        refine j_top hk33 ?_
        refine j_iconst hX dX11_unit_243 ?_
        refine j_iadd hX dX11_unit_244 ?_
        refine pf_X11_341 hX (by omega) (by omega) kc_210 (by omega) dX11_unit_245 ?_
        refine j_up hI27 ro_210_43 (by omega) (by omega) (Or.inl (by omega)) (fun M38 w39 hw40 hM41 hI42 hf43 => ?_)
        have hV44 := ML_dp (M' := M38) hV30 (fun a b h => by rw [hM41]; exact up_ne (by omega))
        have hV45 := ML_dp (M' := M38) hV31 (fun a b h => by rw [hM41]; exact up_ne (by omega))
        have hk46 := kp_up hM41 (fun h => absurd h.2 (by decide)) hk32
        have hk47 := kp_up hM41 (fun h => absurd h.2 (by decide)) hk34
        have hk48 := kp_up hM41 (fun h => absurd h.2 (by decide)) hk35
        have hk49 := kp_up hM41 (fun h => absurd h.2 (by decide)) hk36
        have hk50 := kp_up hM41 (fun h => absurd h.1 (by decide)) hp1
        have hk51 := kp_up hM41 (fun h => absurd h.1 (by decide)) hp2
        have hk52 := kp_up hM41 (fun h => absurd h.2 (by decide)) hp3
        clear hk32 hk33 hk34 hk35 hk36
        have hF53 := Fr.put hF37 hM41 ((Or.inr (Or.inl ⟨rfl, by decide, by decide⟩)))
        refine j_iconst hX dX11_unit_248 ?_
        exact hret _ _ _ _ dX11_unit_249 (nb (by omega)) (by omega) ⟨hI42, hF53, by omega, hV45, by omega, fun _ => PT_1 (PS_pw (u := 1 - x2) hPS hunp (fun i h => hF53 239 i (by omega)) (fun i h => hF53 240 i (by omega)) (fun i h => hF53 237 i (by omega)) (by omega) (by omega) (by omega) (by omega) (by omega) (by omega) (by omega))⟩
      · skip
        refine j_iconst hX dX11_unit_227 ?_
        refine j_goto (tgt := 233) hX dX11_unit_228 (by decide) ?_
        refine j_bipush hX dX11_unit_233 rfl ?_
        refine j_callVV hX lk_X11_344 (c_X11_pushE _ _ _ _ _ _ _ _ _ (by omega) hI7 (by omega) (by omega) hk12 (by first | assumption | omega)) (by omega) hce rfl rfl (by omega) (by omega) kc_210 rfl rfl (Nat.le_of_ble_eq_true rfl) dX11_unit_235 (fun M55 hp56 => ?_)
        obtain ⟨hI59, hG60, hq61⟩ := hp56
        have hV62 := ML_dp hq9 (fun a b h => hG60 a b (by omega))
        have hV63 := ML_dp hV19 (fun a b h => hG60 a b (by omega))
        have hk64 := kp_fr hG60 (fun h => h.elim (fun h => absurd h.1 (by decide)) (fun h => h.elim (fun h => absurd h.1 (by decide)) (fun h => absurd h.2.1 (by decide)))) hk13
        have hk65 := kp_fr hG60 (fun h => h.elim (fun h => absurd h.1 (by decide)) (fun h => h.elim (fun h => absurd h.1 (by decide)) (fun h => absurd h.2.1 (by decide)))) hk14
        have hk66 := kp_fr hG60 (fun h => h.elim (fun h => absurd h.1 (by decide)) (fun h => h.elim (fun h => absurd h.1 (by decide)) (fun h => absurd h.2.1 (by decide)))) hk15
        have hk67 := kp_fr hG60 (fun h => h.elim (fun h => absurd h.1 (by decide)) (fun h => h.elim (fun h => absurd h.1 (by decide)) (fun h => absurd h.2.1 (by decide)))) hk16
        have hk68 := kp_fr hG60 (fun h => h.elim (fun h => absurd h.1 (by decide)) (fun h => h.elim (fun h => absurd h.1 (by decide)) (fun h => absurd h.2.2 (by decide)))) hk17
        clear hk12 hk13 hk14 hk15 hk16 hk17
        have hF69 := Fr.trans hF18 hG60 (fun a b h => h.elim (fun h => (Or.inr (Or.inr (Or.inr (Or.inr (Or.inl h)))))) (fun h => h.elim (fun h => (Or.inr (Or.inr (Or.inr (Or.inr (Or.inr (Or.inl h))))))) (fun h => (Or.inr (Or.inl ⟨h.1, Int.le_trans (by decide) h.2.1, Int.le_trans h.2.2 (by decide)⟩)))))
        obtain ⟨hp1, hp2, hp3⟩ := hq61
        have hwi6 := h8 (by omega)
        refine j_aload_n hX dX11_unit_238 rfl 1 rfl ?_
        refine j_dup hX dX11_unit_239 rfl ?_
        refine gf_X11_341 hX (by omega) (by omega) kc_210 dX11_unit_240 ?_
        refine j_top hk65 ?_
        refine j_iconst hX dX11_unit_243 ?_
        refine j_iadd hX dX11_unit_244 ?_
        refine pf_X11_341 hX (by omega) (by omega) kc_210 (by omega) dX11_unit_245 ?_
        refine j_up hI59 ro_210_43 (by omega) (by omega) (Or.inl (by omega)) (fun M70 w71 hw72 hM73 hI74 hf75 => ?_)
        have hV76 := ML_dp (M' := M70) hV62 (fun a b h => by rw [hM73]; exact up_ne (by omega))
        have hV77 := ML_dp (M' := M70) hV63 (fun a b h => by rw [hM73]; exact up_ne (by omega))
        have hk78 := kp_up hM73 (fun h => absurd h.2 (by decide)) hk64
        have hk79 := kp_up hM73 (fun h => absurd h.2 (by decide)) hk66
        have hk80 := kp_up hM73 (fun h => absurd h.2 (by decide)) hk67
        have hk81 := kp_up hM73 (fun h => absurd h.2 (by decide)) hk68
        have hk82 := kp_up hM73 (fun h => absurd h.1 (by decide)) hp1
        have hk83 := kp_up hM73 (fun h => absurd h.1 (by decide)) hp2
        have hk84 := kp_up hM73 (fun h => absurd h.2 (by decide)) hp3
        clear hk64 hk65 hk66 hk67 hk68
        have hF85 := Fr.put hF69 hM73 ((Or.inr (Or.inl ⟨rfl, by decide, by decide⟩)))
        refine j_iconst hX dX11_unit_248 ?_
        exact hret _ _ _ _ dX11_unit_249 (nb (by omega)) (by omega) ⟨hI74, hF85, by omega, hV77, by omega, fun _ => PT_1 (PS_pw (u := 1 - x2) hPS hunp (fun i h => hF85 239 i (by omega)) (fun i h => hF85 240 i (by omega)) (fun i h => hF85 237 i (by omega)) (by omega) (by omega) (by omega) (by omega) (by omega) (by omega) (by omega))⟩
    · skip
      refine j_iload_n hX dX11_unit_218 rfl 4 rfl ?_
      refine j_if_eq (tgt := 250) hX dX11_unit_219 (by decide) (by omega) (fun hc86 => ?_) (fun hc86 => ?_)
      · skip
        have hu29 := h6 (by omega)
        refine j_aload_n hX dX11_unit_250 rfl 1 rfl ?_
        refine j_iload hX dX11_unit_251 5 rfl ?_
        refine j_if_ne (tgt := 261) hX dX11_unit_253 (by decide) (by omega) (fun hc87 => ?_) (fun hc87 => ?_)
        · skip
          have hx4 := h5 (by omega)
          refine j_iload hX dX11_unit_261 5 rfl ?_
          refine j_iload hX dX11_unit_263 0 rfl ?_
          refine j_callVV hX lk_X11_356 (c_X11_emit _ _ _ _ _ _ _ _ _ (by omega) hI7 (by omega) (by omega) hk13 (by first | assumption | omega)) (by omega) hce rfl rfl (by omega) (by omega) kc_210 rfl rfl (Nat.le_of_ble_eq_true rfl) dX11_unit_265 (fun M89 hp90 => ?_)
          obtain ⟨hI93, hG94, hq95⟩ := hp90
          have hV96 := ML_dp hq9 (fun a b h => hG94 a b (by omega))
          have hV97 := ML_dp hV19 (fun a b h => hG94 a b (by omega))
          have hk98 := kp_fr hG94 (fun h => h.elim (fun h => absurd h.1 (by decide)) (fun h => h.elim (fun h => absurd h.1 (by decide)) (fun h => absurd h.2.2 (by decide)))) hk12
          have hk99 := kp_fr hG94 (fun h => h.elim (fun h => absurd h.1 (by decide)) (fun h => h.elim (fun h => absurd h.1 (by decide)) (fun h => absurd h.2.2 (by decide)))) hk14
          have hk100 := kp_fr hG94 (fun h => h.elim (fun h => absurd h.1 (by decide)) (fun h => h.elim (fun h => absurd h.1 (by decide)) (fun h => absurd h.2.1 (by decide)))) hk15
          have hk101 := kp_fr hG94 (fun h => h.elim (fun h => absurd h.1 (by decide)) (fun h => h.elim (fun h => absurd h.1 (by decide)) (fun h => absurd h.2.1 (by decide)))) hk16
          have hk102 := kp_fr hG94 (fun h => h.elim (fun h => absurd h.1 (by decide)) (fun h => h.elim (fun h => absurd h.1 (by decide)) (fun h => absurd h.2.2 (by decide)))) hk17
          clear hk12 hk13 hk14 hk15 hk16 hk17
          have hF103 := Fr.trans hF18 hG94 (fun a b h => h.elim (fun h => (Or.inr (Or.inr (Or.inl h)))) (fun h => h.elim (fun h => (Or.inr (Or.inr (Or.inr (Or.inl h))))) (fun h => (Or.inr (Or.inl ⟨h.1, Int.le_trans (by decide) h.2.1, Int.le_trans h.2.2 (by decide)⟩)))))
          obtain ⟨hp1, hp2⟩ := hq95
          refine j_iconst hX dX11_unit_268 ?_
          exact hret _ _ _ _ dX11_unit_269 (nb (by omega)) (by omega) ⟨hI93, hF103, by omega, hV97, by omega, fun _ => PT_0 (PS_em hPS hucd (by omega) (by omega) (fun i h => hF103 239 i (by omega)) (fun i h => hF103 240 i (by omega)) (fun i h => hF103 237 i (by omega)) (by omega) (by omega) (by omega) (by omega) (by omega))⟩
        · skip
          refine j_bipush hX dX11_unit_256 rfl ?_
          refine j_goto (tgt := 263) hX dX11_unit_258 (by decide) ?_
          refine j_iload hX dX11_unit_263 0 rfl ?_
          refine j_callVV hX lk_X11_356 (c_X11_emit _ _ _ _ _ _ _ _ _ (by omega) hI7 (by omega) (by omega) hk13 (by first | assumption | omega)) (by omega) hce rfl rfl (by omega) (by omega) kc_210 rfl rfl (Nat.le_of_ble_eq_true rfl) dX11_unit_265 (fun M105 hp106 => ?_)
          obtain ⟨hI109, hG110, hq111⟩ := hp106
          have hV112 := ML_dp hq9 (fun a b h => hG110 a b (by omega))
          have hV113 := ML_dp hV19 (fun a b h => hG110 a b (by omega))
          have hk114 := kp_fr hG110 (fun h => h.elim (fun h => absurd h.1 (by decide)) (fun h => h.elim (fun h => absurd h.1 (by decide)) (fun h => absurd h.2.2 (by decide)))) hk12
          have hk115 := kp_fr hG110 (fun h => h.elim (fun h => absurd h.1 (by decide)) (fun h => h.elim (fun h => absurd h.1 (by decide)) (fun h => absurd h.2.2 (by decide)))) hk14
          have hk116 := kp_fr hG110 (fun h => h.elim (fun h => absurd h.1 (by decide)) (fun h => h.elim (fun h => absurd h.1 (by decide)) (fun h => absurd h.2.1 (by decide)))) hk15
          have hk117 := kp_fr hG110 (fun h => h.elim (fun h => absurd h.1 (by decide)) (fun h => h.elim (fun h => absurd h.1 (by decide)) (fun h => absurd h.2.1 (by decide)))) hk16
          have hk118 := kp_fr hG110 (fun h => h.elim (fun h => absurd h.1 (by decide)) (fun h => h.elim (fun h => absurd h.1 (by decide)) (fun h => absurd h.2.2 (by decide)))) hk17
          clear hk12 hk13 hk14 hk15 hk16 hk17
          have hF119 := Fr.trans hF18 hG110 (fun a b h => h.elim (fun h => (Or.inr (Or.inr (Or.inl h)))) (fun h => h.elim (fun h => (Or.inr (Or.inr (Or.inr (Or.inl h))))) (fun h => (Or.inr (Or.inl ⟨h.1, Int.le_trans (by decide) h.2.1, Int.le_trans h.2.2 (by decide)⟩)))))
          obtain ⟨hp1, hp2⟩ := hq111
          refine j_iconst hX dX11_unit_268 ?_
          exact hret _ _ _ _ dX11_unit_269 (nb (by omega)) (by omega) ⟨hI109, hF119, by omega, hV113, by omega, fun _ => PT_0 (PS_em hPS hucd (by omega) (by omega) (fun i h => hF119 239 i (by omega)) (fun i h => hF119 240 i (by omega)) (fun i h => hF119 237 i (by omega)) (by omega) (by omega) (by omega) (by omega) (by omega))⟩
      · skip
        refine j_aload_n hX dX11_unit_222 rfl 1 rfl ?_
        refine j_iload_n hX dX11_unit_223 rfl 3 rfl ?_
        refine j_if_eq (tgt := 231) hX dX11_unit_224 (by decide) (by omega) (fun hc120 => ?_) (fun hc120 => ?_)
        · skip
          refine j_bipush hX dX11_unit_231 rfl ?_
          refine j_bipush hX dX11_unit_233 rfl ?_
          refine j_callVV hX lk_X11_344 (c_X11_pushE _ _ _ _ _ _ _ _ _ (by omega) hI7 (by omega) (by omega) hk12 (by first | assumption | omega)) (by omega) hce rfl rfl (by omega) (by omega) kc_210 rfl rfl (Nat.le_of_ble_eq_true rfl) dX11_unit_235 (fun M122 hp123 => ?_)
          obtain ⟨hI126, hG127, hq128⟩ := hp123
          have hV129 := ML_dp hq9 (fun a b h => hG127 a b (by omega))
          have hV130 := ML_dp hV19 (fun a b h => hG127 a b (by omega))
          have hk131 := kp_fr hG127 (fun h => h.elim (fun h => absurd h.1 (by decide)) (fun h => h.elim (fun h => absurd h.1 (by decide)) (fun h => absurd h.2.1 (by decide)))) hk13
          have hk132 := kp_fr hG127 (fun h => h.elim (fun h => absurd h.1 (by decide)) (fun h => h.elim (fun h => absurd h.1 (by decide)) (fun h => absurd h.2.1 (by decide)))) hk14
          have hk133 := kp_fr hG127 (fun h => h.elim (fun h => absurd h.1 (by decide)) (fun h => h.elim (fun h => absurd h.1 (by decide)) (fun h => absurd h.2.1 (by decide)))) hk15
          have hk134 := kp_fr hG127 (fun h => h.elim (fun h => absurd h.1 (by decide)) (fun h => h.elim (fun h => absurd h.1 (by decide)) (fun h => absurd h.2.1 (by decide)))) hk16
          have hk135 := kp_fr hG127 (fun h => h.elim (fun h => absurd h.1 (by decide)) (fun h => h.elim (fun h => absurd h.1 (by decide)) (fun h => absurd h.2.2 (by decide)))) hk17
          clear hk12 hk13 hk14 hk15 hk16 hk17
          have hF136 := Fr.trans hF18 hG127 (fun a b h => h.elim (fun h => (Or.inr (Or.inr (Or.inr (Or.inr (Or.inl h)))))) (fun h => h.elim (fun h => (Or.inr (Or.inr (Or.inr (Or.inr (Or.inr (Or.inl h))))))) (fun h => (Or.inr (Or.inl ⟨h.1, Int.le_trans (by decide) h.2.1, Int.le_trans h.2.2 (by decide)⟩)))))
          obtain ⟨hp1, hp2, hp3⟩ := hq128
          have hwi6 := h8 (by omega)
          refine j_aload_n hX dX11_unit_238 rfl 1 rfl ?_
          refine j_dup hX dX11_unit_239 rfl ?_
          refine gf_X11_341 hX (by omega) (by omega) kc_210 dX11_unit_240 ?_
          refine j_top hk132 ?_
          refine j_iconst hX dX11_unit_243 ?_
          refine j_iadd hX dX11_unit_244 ?_
          refine pf_X11_341 hX (by omega) (by omega) kc_210 (by omega) dX11_unit_245 ?_
          refine j_up hI126 ro_210_43 (by omega) (by omega) (Or.inl (by omega)) (fun M137 w138 hw139 hM140 hI141 hf142 => ?_)
          have hV143 := ML_dp (M' := M137) hV129 (fun a b h => by rw [hM140]; exact up_ne (by omega))
          have hV144 := ML_dp (M' := M137) hV130 (fun a b h => by rw [hM140]; exact up_ne (by omega))
          have hk145 := kp_up hM140 (fun h => absurd h.2 (by decide)) hk131
          have hk146 := kp_up hM140 (fun h => absurd h.2 (by decide)) hk133
          have hk147 := kp_up hM140 (fun h => absurd h.2 (by decide)) hk134
          have hk148 := kp_up hM140 (fun h => absurd h.2 (by decide)) hk135
          have hk149 := kp_up hM140 (fun h => absurd h.1 (by decide)) hp1
          have hk150 := kp_up hM140 (fun h => absurd h.1 (by decide)) hp2
          have hk151 := kp_up hM140 (fun h => absurd h.2 (by decide)) hp3
          clear hk131 hk132 hk133 hk134 hk135
          have hF152 := Fr.put hF136 hM140 ((Or.inr (Or.inl ⟨rfl, by decide, by decide⟩)))
          refine j_iconst hX dX11_unit_248 ?_
          exact hret _ _ _ _ dX11_unit_249 (nb (by omega)) (by omega) ⟨hI141, hF152, by omega, hV144, by omega, fun _ => PT_1 (PS_pw (u := 1 - x2) hPS hunp (fun i h => hF152 239 i (by omega)) (fun i h => hF152 240 i (by omega)) (fun i h => hF152 237 i (by omega)) (by omega) (by omega) (by omega) (by omega) (by omega) (by omega) (by omega))⟩
        · skip
          refine j_iconst hX dX11_unit_227 ?_
          refine j_goto (tgt := 233) hX dX11_unit_228 (by decide) ?_
          refine j_bipush hX dX11_unit_233 rfl ?_
          refine j_callVV hX lk_X11_344 (c_X11_pushE _ _ _ _ _ _ _ _ _ (by omega) hI7 (by omega) (by omega) hk12 (by first | assumption | omega)) (by omega) hce rfl rfl (by omega) (by omega) kc_210 rfl rfl (Nat.le_of_ble_eq_true rfl) dX11_unit_235 (fun M154 hp155 => ?_)
          obtain ⟨hI158, hG159, hq160⟩ := hp155
          have hV161 := ML_dp hq9 (fun a b h => hG159 a b (by omega))
          have hV162 := ML_dp hV19 (fun a b h => hG159 a b (by omega))
          have hk163 := kp_fr hG159 (fun h => h.elim (fun h => absurd h.1 (by decide)) (fun h => h.elim (fun h => absurd h.1 (by decide)) (fun h => absurd h.2.1 (by decide)))) hk13
          have hk164 := kp_fr hG159 (fun h => h.elim (fun h => absurd h.1 (by decide)) (fun h => h.elim (fun h => absurd h.1 (by decide)) (fun h => absurd h.2.1 (by decide)))) hk14
          have hk165 := kp_fr hG159 (fun h => h.elim (fun h => absurd h.1 (by decide)) (fun h => h.elim (fun h => absurd h.1 (by decide)) (fun h => absurd h.2.1 (by decide)))) hk15
          have hk166 := kp_fr hG159 (fun h => h.elim (fun h => absurd h.1 (by decide)) (fun h => h.elim (fun h => absurd h.1 (by decide)) (fun h => absurd h.2.1 (by decide)))) hk16
          have hk167 := kp_fr hG159 (fun h => h.elim (fun h => absurd h.1 (by decide)) (fun h => h.elim (fun h => absurd h.1 (by decide)) (fun h => absurd h.2.2 (by decide)))) hk17
          clear hk12 hk13 hk14 hk15 hk16 hk17
          have hF168 := Fr.trans hF18 hG159 (fun a b h => h.elim (fun h => (Or.inr (Or.inr (Or.inr (Or.inr (Or.inl h)))))) (fun h => h.elim (fun h => (Or.inr (Or.inr (Or.inr (Or.inr (Or.inr (Or.inl h))))))) (fun h => (Or.inr (Or.inl ⟨h.1, Int.le_trans (by decide) h.2.1, Int.le_trans h.2.2 (by decide)⟩)))))
          obtain ⟨hp1, hp2, hp3⟩ := hq160
          have hwi6 := h8 (by omega)
          refine j_aload_n hX dX11_unit_238 rfl 1 rfl ?_
          refine j_dup hX dX11_unit_239 rfl ?_
          refine gf_X11_341 hX (by omega) (by omega) kc_210 dX11_unit_240 ?_
          refine j_top hk164 ?_
          refine j_iconst hX dX11_unit_243 ?_
          refine j_iadd hX dX11_unit_244 ?_
          refine pf_X11_341 hX (by omega) (by omega) kc_210 (by omega) dX11_unit_245 ?_
          refine j_up hI158 ro_210_43 (by omega) (by omega) (Or.inl (by omega)) (fun M169 w170 hw171 hM172 hI173 hf174 => ?_)
          have hV175 := ML_dp (M' := M169) hV161 (fun a b h => by rw [hM172]; exact up_ne (by omega))
          have hV176 := ML_dp (M' := M169) hV162 (fun a b h => by rw [hM172]; exact up_ne (by omega))
          have hk177 := kp_up hM172 (fun h => absurd h.2 (by decide)) hk163
          have hk178 := kp_up hM172 (fun h => absurd h.2 (by decide)) hk165
          have hk179 := kp_up hM172 (fun h => absurd h.2 (by decide)) hk166
          have hk180 := kp_up hM172 (fun h => absurd h.2 (by decide)) hk167
          have hk181 := kp_up hM172 (fun h => absurd h.1 (by decide)) hp1
          have hk182 := kp_up hM172 (fun h => absurd h.1 (by decide)) hp2
          have hk183 := kp_up hM172 (fun h => absurd h.2 (by decide)) hp3
          clear hk163 hk164 hk165 hk166 hk167
          have hF184 := Fr.put hF168 hM172 ((Or.inr (Or.inl ⟨rfl, by decide, by decide⟩)))
          refine j_iconst hX dX11_unit_248 ?_
          exact hret _ _ _ _ dX11_unit_249 (nb (by omega)) (by omega) ⟨hI173, hF184, by omega, hV176, by omega, fun _ => PT_1 (PS_pw (u := 1 - x2) hPS hunp (fun i h => hF184 239 i (by omega)) (fun i h => hF184 240 i (by omega)) (fun i h => hF184 237 i (by omega)) (by omega) (by omega) (by omega) (by omega) (by omega) (by omega) (by omega))⟩
  · skip
    refine j_aload_n hX dX11_unit_200 rfl 0 rfl ?_
    refine gf_X11_239 hX (by omega) (by omega) kc_210 dX11_unit_201 ?_
    refine j_name hI ro_210_9 (fun v185 hv186 hl187 hh188 => ?_)
    have hk189 := hv186.symm
    refine j_goto (tgt := 208) hX dX11_unit_204 (by decide) ?_
    refine j_istore (lv' := [(6, _), (0, _), (1, _), (2, _), (3, _), (4, _), (5, _)]) hX dX11_unit_208 (by rw [hnL]; decide) rfl ?_
    refine j_aload_n hX dX11_unit_210 rfl 1 rfl ?_
    refine j_callVV hX lk_X11_253 (c_X11_goOn _ _ _ _ _ _ _ _ (by omega) hI (by first | assumption | rfl) hV_0) (by omega) hce rfl rfl (by omega) (by omega) kc_210 rfl rfl (Nat.le_of_ble_eq_true rfl) dX11_unit_211 (fun M191 hp192 => ?_)
    obtain ⟨hI195, hG196, hq197, hq198⟩ := hp192
    have hk200 := kp_fr hG196 (fun h => absurd h.2.2 (by decide)) hk_0
    have hk201 := kp_fr hG196 (fun h => absurd h.2.2 (by decide)) hk_1
    have hk202 := kp_fr hG196 (fun h => absurd h.2.2 (by decide)) hk_3
    have hk203 := kp_fr hG196 (fun h => absurd h.2.2 (by decide)) hk_4
    have hk204 := kp_fr hG196 (fun h => absurd h.2.1 (by decide)) hk_5
    have hk205 := kp_fr hG196 (fun h => absurd h.2.2 (by decide)) hk_6
    clear hk189
    have hF206 := Fr.trans hF hG196 (fun a b h => (Or.inl ⟨h.1, Int.le_trans (by decide) h.2.1, Int.le_trans h.2.2 (by decide)⟩))
    have hV207 := hq198 (by omega) (by omega)
    refine j_iload_n hX dX11_unit_214 rfl 3 rfl ?_
    refine j_if_ne (tgt := 222) hX dX11_unit_215 (by decide) (by omega) (fun hc208 => ?_) (fun hc208 => ?_)
    · skip
      refine j_aload_n hX dX11_unit_222 rfl 1 rfl ?_
      refine j_iload_n hX dX11_unit_223 rfl 3 rfl ?_
      refine j_if_eq (tgt := 231) hX dX11_unit_224 (by decide) (by omega) (fun hc209 => ?_) (fun hc209 => ?_)
      · skip
        refine j_bipush hX dX11_unit_231 rfl ?_
        refine j_bipush hX dX11_unit_233 rfl ?_
        refine j_callVV hX lk_X11_344 (c_X11_pushE _ _ _ _ _ _ _ _ _ (by omega) hI195 (by omega) (by omega) hk200 (by first | assumption | omega)) (by omega) hce rfl rfl (by omega) (by omega) kc_210 rfl rfl (Nat.le_of_ble_eq_true rfl) dX11_unit_235 (fun M211 hp212 => ?_)
        obtain ⟨hI215, hG216, hq217⟩ := hp212
        have hV218 := ML_dp hq197 (fun a b h => hG216 a b (by omega))
        have hV219 := ML_dp hV207 (fun a b h => hG216 a b (by omega))
        have hk220 := kp_fr hG216 (fun h => h.elim (fun h => absurd h.1 (by decide)) (fun h => h.elim (fun h => absurd h.1 (by decide)) (fun h => absurd h.2.1 (by decide)))) hk201
        have hk221 := kp_fr hG216 (fun h => h.elim (fun h => absurd h.1 (by decide)) (fun h => h.elim (fun h => absurd h.1 (by decide)) (fun h => absurd h.2.1 (by decide)))) hk202
        have hk222 := kp_fr hG216 (fun h => h.elim (fun h => absurd h.1 (by decide)) (fun h => h.elim (fun h => absurd h.1 (by decide)) (fun h => absurd h.2.1 (by decide)))) hk203
        have hk223 := kp_fr hG216 (fun h => h.elim (fun h => absurd h.1 (by decide)) (fun h => h.elim (fun h => absurd h.1 (by decide)) (fun h => absurd h.2.1 (by decide)))) hk204
        have hk224 := kp_fr hG216 (fun h => h.elim (fun h => absurd h.1 (by decide)) (fun h => h.elim (fun h => absurd h.1 (by decide)) (fun h => absurd h.2.2 (by decide)))) hk205
        clear hk200 hk201 hk202 hk203 hk204 hk205
        have hF225 := Fr.trans hF206 hG216 (fun a b h => h.elim (fun h => (Or.inr (Or.inr (Or.inr (Or.inr (Or.inl h)))))) (fun h => h.elim (fun h => (Or.inr (Or.inr (Or.inr (Or.inr (Or.inr (Or.inl h))))))) (fun h => (Or.inr (Or.inl ⟨h.1, Int.le_trans (by decide) h.2.1, Int.le_trans h.2.2 (by decide)⟩)))))
        obtain ⟨hp1, hp2, hp3⟩ := hq217
        have hwi6 := h8 (by omega)
        refine j_aload_n hX dX11_unit_238 rfl 1 rfl ?_
        refine j_dup hX dX11_unit_239 rfl ?_
        refine gf_X11_341 hX (by omega) (by omega) kc_210 dX11_unit_240 ?_
        refine j_top hk221 ?_
        refine j_iconst hX dX11_unit_243 ?_
        refine j_iadd hX dX11_unit_244 ?_
        refine pf_X11_341 hX (by omega) (by omega) kc_210 (by omega) dX11_unit_245 ?_
        refine j_up hI215 ro_210_43 (by omega) (by omega) (Or.inl (by omega)) (fun M226 w227 hw228 hM229 hI230 hf231 => ?_)
        have hV232 := ML_dp (M' := M226) hV218 (fun a b h => by rw [hM229]; exact up_ne (by omega))
        have hV233 := ML_dp (M' := M226) hV219 (fun a b h => by rw [hM229]; exact up_ne (by omega))
        have hk234 := kp_up hM229 (fun h => absurd h.2 (by decide)) hk220
        have hk235 := kp_up hM229 (fun h => absurd h.2 (by decide)) hk222
        have hk236 := kp_up hM229 (fun h => absurd h.2 (by decide)) hk223
        have hk237 := kp_up hM229 (fun h => absurd h.2 (by decide)) hk224
        have hk238 := kp_up hM229 (fun h => absurd h.1 (by decide)) hp1
        have hk239 := kp_up hM229 (fun h => absurd h.1 (by decide)) hp2
        have hk240 := kp_up hM229 (fun h => absurd h.2 (by decide)) hp3
        clear hk220 hk221 hk222 hk223 hk224
        have hF241 := Fr.put hF225 hM229 ((Or.inr (Or.inl ⟨rfl, by decide, by decide⟩)))
        refine j_iconst hX dX11_unit_248 ?_
        exact hret _ _ _ _ dX11_unit_249 (nb (by omega)) (by omega) ⟨hI230, hF241, by omega, hV233, by omega, fun _ => PT_1 (PS_pw (u := 1 - x2) hPS hunp (fun i h => hF241 239 i (by omega)) (fun i h => hF241 240 i (by omega)) (fun i h => hF241 237 i (by omega)) (by omega) (by omega) (by omega) (by omega) (by omega) (by omega) (by omega))⟩
      · skip
        refine j_iconst hX dX11_unit_227 ?_
        refine j_goto (tgt := 233) hX dX11_unit_228 (by decide) ?_
        refine j_bipush hX dX11_unit_233 rfl ?_
        refine j_callVV hX lk_X11_344 (c_X11_pushE _ _ _ _ _ _ _ _ _ (by omega) hI195 (by omega) (by omega) hk200 (by first | assumption | omega)) (by omega) hce rfl rfl (by omega) (by omega) kc_210 rfl rfl (Nat.le_of_ble_eq_true rfl) dX11_unit_235 (fun M243 hp244 => ?_)
        obtain ⟨hI247, hG248, hq249⟩ := hp244
        have hV250 := ML_dp hq197 (fun a b h => hG248 a b (by omega))
        have hV251 := ML_dp hV207 (fun a b h => hG248 a b (by omega))
        have hk252 := kp_fr hG248 (fun h => h.elim (fun h => absurd h.1 (by decide)) (fun h => h.elim (fun h => absurd h.1 (by decide)) (fun h => absurd h.2.1 (by decide)))) hk201
        have hk253 := kp_fr hG248 (fun h => h.elim (fun h => absurd h.1 (by decide)) (fun h => h.elim (fun h => absurd h.1 (by decide)) (fun h => absurd h.2.1 (by decide)))) hk202
        have hk254 := kp_fr hG248 (fun h => h.elim (fun h => absurd h.1 (by decide)) (fun h => h.elim (fun h => absurd h.1 (by decide)) (fun h => absurd h.2.1 (by decide)))) hk203
        have hk255 := kp_fr hG248 (fun h => h.elim (fun h => absurd h.1 (by decide)) (fun h => h.elim (fun h => absurd h.1 (by decide)) (fun h => absurd h.2.1 (by decide)))) hk204
        have hk256 := kp_fr hG248 (fun h => h.elim (fun h => absurd h.1 (by decide)) (fun h => h.elim (fun h => absurd h.1 (by decide)) (fun h => absurd h.2.2 (by decide)))) hk205
        clear hk200 hk201 hk202 hk203 hk204 hk205
        have hF257 := Fr.trans hF206 hG248 (fun a b h => h.elim (fun h => (Or.inr (Or.inr (Or.inr (Or.inr (Or.inl h)))))) (fun h => h.elim (fun h => (Or.inr (Or.inr (Or.inr (Or.inr (Or.inr (Or.inl h))))))) (fun h => (Or.inr (Or.inl ⟨h.1, Int.le_trans (by decide) h.2.1, Int.le_trans h.2.2 (by decide)⟩)))))
        obtain ⟨hp1, hp2, hp3⟩ := hq249
        have hwi6 := h8 (by omega)
        refine j_aload_n hX dX11_unit_238 rfl 1 rfl ?_
        refine j_dup hX dX11_unit_239 rfl ?_
        refine gf_X11_341 hX (by omega) (by omega) kc_210 dX11_unit_240 ?_
        refine j_top hk253 ?_
        refine j_iconst hX dX11_unit_243 ?_
        refine j_iadd hX dX11_unit_244 ?_
        refine pf_X11_341 hX (by omega) (by omega) kc_210 (by omega) dX11_unit_245 ?_
        refine j_up hI247 ro_210_43 (by omega) (by omega) (Or.inl (by omega)) (fun M258 w259 hw260 hM261 hI262 hf263 => ?_)
        have hV264 := ML_dp (M' := M258) hV250 (fun a b h => by rw [hM261]; exact up_ne (by omega))
        have hV265 := ML_dp (M' := M258) hV251 (fun a b h => by rw [hM261]; exact up_ne (by omega))
        have hk266 := kp_up hM261 (fun h => absurd h.2 (by decide)) hk252
        have hk267 := kp_up hM261 (fun h => absurd h.2 (by decide)) hk254
        have hk268 := kp_up hM261 (fun h => absurd h.2 (by decide)) hk255
        have hk269 := kp_up hM261 (fun h => absurd h.2 (by decide)) hk256
        have hk270 := kp_up hM261 (fun h => absurd h.1 (by decide)) hp1
        have hk271 := kp_up hM261 (fun h => absurd h.1 (by decide)) hp2
        have hk272 := kp_up hM261 (fun h => absurd h.2 (by decide)) hp3
        clear hk252 hk253 hk254 hk255 hk256
        have hF273 := Fr.put hF257 hM261 ((Or.inr (Or.inl ⟨rfl, by decide, by decide⟩)))
        refine j_iconst hX dX11_unit_248 ?_
        exact hret _ _ _ _ dX11_unit_249 (nb (by omega)) (by omega) ⟨hI262, hF273, by omega, hV265, by omega, fun _ => PT_1 (PS_pw (u := 1 - x2) hPS hunp (fun i h => hF273 239 i (by omega)) (fun i h => hF273 240 i (by omega)) (fun i h => hF273 237 i (by omega)) (by omega) (by omega) (by omega) (by omega) (by omega) (by omega) (by omega))⟩
    · skip
      refine j_iload_n hX dX11_unit_218 rfl 4 rfl ?_
      refine j_if_eq (tgt := 250) hX dX11_unit_219 (by decide) (by omega) (fun hc274 => ?_) (fun hc274 => ?_)
      · skip
        have hu29 := h6 (by omega)
        refine j_aload_n hX dX11_unit_250 rfl 1 rfl ?_
        refine j_iload hX dX11_unit_251 5 rfl ?_
        refine j_if_ne (tgt := 261) hX dX11_unit_253 (by decide) (by omega) (fun hc275 => ?_) (fun hc275 => ?_)
        · skip
          have hx4 := h5 (by omega)
          refine j_iload hX dX11_unit_261 5 rfl ?_
          refine j_iload hX dX11_unit_263 0 rfl ?_
          refine j_callVV hX lk_X11_356 (c_X11_emit _ _ _ _ _ _ _ _ _ (by omega) hI195 (by omega) (by omega) hk201 (by first | assumption | omega)) (by omega) hce rfl rfl (by omega) (by omega) kc_210 rfl rfl (Nat.le_of_ble_eq_true rfl) dX11_unit_265 (fun M277 hp278 => ?_)
          obtain ⟨hI281, hG282, hq283⟩ := hp278
          have hV284 := ML_dp hq197 (fun a b h => hG282 a b (by omega))
          have hV285 := ML_dp hV207 (fun a b h => hG282 a b (by omega))
          have hk286 := kp_fr hG282 (fun h => h.elim (fun h => absurd h.1 (by decide)) (fun h => h.elim (fun h => absurd h.1 (by decide)) (fun h => absurd h.2.2 (by decide)))) hk200
          have hk287 := kp_fr hG282 (fun h => h.elim (fun h => absurd h.1 (by decide)) (fun h => h.elim (fun h => absurd h.1 (by decide)) (fun h => absurd h.2.2 (by decide)))) hk202
          have hk288 := kp_fr hG282 (fun h => h.elim (fun h => absurd h.1 (by decide)) (fun h => h.elim (fun h => absurd h.1 (by decide)) (fun h => absurd h.2.1 (by decide)))) hk203
          have hk289 := kp_fr hG282 (fun h => h.elim (fun h => absurd h.1 (by decide)) (fun h => h.elim (fun h => absurd h.1 (by decide)) (fun h => absurd h.2.1 (by decide)))) hk204
          have hk290 := kp_fr hG282 (fun h => h.elim (fun h => absurd h.1 (by decide)) (fun h => h.elim (fun h => absurd h.1 (by decide)) (fun h => absurd h.2.2 (by decide)))) hk205
          clear hk200 hk201 hk202 hk203 hk204 hk205
          have hF291 := Fr.trans hF206 hG282 (fun a b h => h.elim (fun h => (Or.inr (Or.inr (Or.inl h)))) (fun h => h.elim (fun h => (Or.inr (Or.inr (Or.inr (Or.inl h))))) (fun h => (Or.inr (Or.inl ⟨h.1, Int.le_trans (by decide) h.2.1, Int.le_trans h.2.2 (by decide)⟩)))))
          obtain ⟨hp1, hp2⟩ := hq283
          refine j_iconst hX dX11_unit_268 ?_
          exact hret _ _ _ _ dX11_unit_269 (nb (by omega)) (by omega) ⟨hI281, hF291, by omega, hV285, by omega, fun _ => PT_0 (PS_em hPS hucd (by omega) (by omega) (fun i h => hF291 239 i (by omega)) (fun i h => hF291 240 i (by omega)) (fun i h => hF291 237 i (by omega)) (by omega) (by omega) (by omega) (by omega) (by omega))⟩
        · skip
          refine j_bipush hX dX11_unit_256 rfl ?_
          refine j_goto (tgt := 263) hX dX11_unit_258 (by decide) ?_
          refine j_iload hX dX11_unit_263 0 rfl ?_
          refine j_callVV hX lk_X11_356 (c_X11_emit _ _ _ _ _ _ _ _ _ (by omega) hI195 (by omega) (by omega) hk201 (by first | assumption | omega)) (by omega) hce rfl rfl (by omega) (by omega) kc_210 rfl rfl (Nat.le_of_ble_eq_true rfl) dX11_unit_265 (fun M293 hp294 => ?_)
          obtain ⟨hI297, hG298, hq299⟩ := hp294
          have hV300 := ML_dp hq197 (fun a b h => hG298 a b (by omega))
          have hV301 := ML_dp hV207 (fun a b h => hG298 a b (by omega))
          have hk302 := kp_fr hG298 (fun h => h.elim (fun h => absurd h.1 (by decide)) (fun h => h.elim (fun h => absurd h.1 (by decide)) (fun h => absurd h.2.2 (by decide)))) hk200
          have hk303 := kp_fr hG298 (fun h => h.elim (fun h => absurd h.1 (by decide)) (fun h => h.elim (fun h => absurd h.1 (by decide)) (fun h => absurd h.2.2 (by decide)))) hk202
          have hk304 := kp_fr hG298 (fun h => h.elim (fun h => absurd h.1 (by decide)) (fun h => h.elim (fun h => absurd h.1 (by decide)) (fun h => absurd h.2.1 (by decide)))) hk203
          have hk305 := kp_fr hG298 (fun h => h.elim (fun h => absurd h.1 (by decide)) (fun h => h.elim (fun h => absurd h.1 (by decide)) (fun h => absurd h.2.1 (by decide)))) hk204
          have hk306 := kp_fr hG298 (fun h => h.elim (fun h => absurd h.1 (by decide)) (fun h => h.elim (fun h => absurd h.1 (by decide)) (fun h => absurd h.2.2 (by decide)))) hk205
          clear hk200 hk201 hk202 hk203 hk204 hk205
          have hF307 := Fr.trans hF206 hG298 (fun a b h => h.elim (fun h => (Or.inr (Or.inr (Or.inl h)))) (fun h => h.elim (fun h => (Or.inr (Or.inr (Or.inr (Or.inl h))))) (fun h => (Or.inr (Or.inl ⟨h.1, Int.le_trans (by decide) h.2.1, Int.le_trans h.2.2 (by decide)⟩)))))
          obtain ⟨hp1, hp2⟩ := hq299
          refine j_iconst hX dX11_unit_268 ?_
          exact hret _ _ _ _ dX11_unit_269 (nb (by omega)) (by omega) ⟨hI297, hF307, by omega, hV301, by omega, fun _ => PT_0 (PS_em hPS hucd (by omega) (by omega) (fun i h => hF307 239 i (by omega)) (fun i h => hF307 240 i (by omega)) (fun i h => hF307 237 i (by omega)) (by omega) (by omega) (by omega) (by omega) (by omega))⟩
      · skip
        refine j_aload_n hX dX11_unit_222 rfl 1 rfl ?_
        refine j_iload_n hX dX11_unit_223 rfl 3 rfl ?_
        refine j_if_eq (tgt := 231) hX dX11_unit_224 (by decide) (by omega) (fun hc308 => ?_) (fun hc308 => ?_)
        · skip
          refine j_bipush hX dX11_unit_231 rfl ?_
          refine j_bipush hX dX11_unit_233 rfl ?_
          refine j_callVV hX lk_X11_344 (c_X11_pushE _ _ _ _ _ _ _ _ _ (by omega) hI195 (by omega) (by omega) hk200 (by first | assumption | omega)) (by omega) hce rfl rfl (by omega) (by omega) kc_210 rfl rfl (Nat.le_of_ble_eq_true rfl) dX11_unit_235 (fun M310 hp311 => ?_)
          obtain ⟨hI314, hG315, hq316⟩ := hp311
          have hV317 := ML_dp hq197 (fun a b h => hG315 a b (by omega))
          have hV318 := ML_dp hV207 (fun a b h => hG315 a b (by omega))
          have hk319 := kp_fr hG315 (fun h => h.elim (fun h => absurd h.1 (by decide)) (fun h => h.elim (fun h => absurd h.1 (by decide)) (fun h => absurd h.2.1 (by decide)))) hk201
          have hk320 := kp_fr hG315 (fun h => h.elim (fun h => absurd h.1 (by decide)) (fun h => h.elim (fun h => absurd h.1 (by decide)) (fun h => absurd h.2.1 (by decide)))) hk202
          have hk321 := kp_fr hG315 (fun h => h.elim (fun h => absurd h.1 (by decide)) (fun h => h.elim (fun h => absurd h.1 (by decide)) (fun h => absurd h.2.1 (by decide)))) hk203
          have hk322 := kp_fr hG315 (fun h => h.elim (fun h => absurd h.1 (by decide)) (fun h => h.elim (fun h => absurd h.1 (by decide)) (fun h => absurd h.2.1 (by decide)))) hk204
          have hk323 := kp_fr hG315 (fun h => h.elim (fun h => absurd h.1 (by decide)) (fun h => h.elim (fun h => absurd h.1 (by decide)) (fun h => absurd h.2.2 (by decide)))) hk205
          clear hk200 hk201 hk202 hk203 hk204 hk205
          have hF324 := Fr.trans hF206 hG315 (fun a b h => h.elim (fun h => (Or.inr (Or.inr (Or.inr (Or.inr (Or.inl h)))))) (fun h => h.elim (fun h => (Or.inr (Or.inr (Or.inr (Or.inr (Or.inr (Or.inl h))))))) (fun h => (Or.inr (Or.inl ⟨h.1, Int.le_trans (by decide) h.2.1, Int.le_trans h.2.2 (by decide)⟩)))))
          obtain ⟨hp1, hp2, hp3⟩ := hq316
          have hwi6 := h8 (by omega)
          refine j_aload_n hX dX11_unit_238 rfl 1 rfl ?_
          refine j_dup hX dX11_unit_239 rfl ?_
          refine gf_X11_341 hX (by omega) (by omega) kc_210 dX11_unit_240 ?_
          refine j_top hk320 ?_
          refine j_iconst hX dX11_unit_243 ?_
          refine j_iadd hX dX11_unit_244 ?_
          refine pf_X11_341 hX (by omega) (by omega) kc_210 (by omega) dX11_unit_245 ?_
          refine j_up hI314 ro_210_43 (by omega) (by omega) (Or.inl (by omega)) (fun M325 w326 hw327 hM328 hI329 hf330 => ?_)
          have hV331 := ML_dp (M' := M325) hV317 (fun a b h => by rw [hM328]; exact up_ne (by omega))
          have hV332 := ML_dp (M' := M325) hV318 (fun a b h => by rw [hM328]; exact up_ne (by omega))
          have hk333 := kp_up hM328 (fun h => absurd h.2 (by decide)) hk319
          have hk334 := kp_up hM328 (fun h => absurd h.2 (by decide)) hk321
          have hk335 := kp_up hM328 (fun h => absurd h.2 (by decide)) hk322
          have hk336 := kp_up hM328 (fun h => absurd h.2 (by decide)) hk323
          have hk337 := kp_up hM328 (fun h => absurd h.1 (by decide)) hp1
          have hk338 := kp_up hM328 (fun h => absurd h.1 (by decide)) hp2
          have hk339 := kp_up hM328 (fun h => absurd h.2 (by decide)) hp3
          clear hk319 hk320 hk321 hk322 hk323
          have hF340 := Fr.put hF324 hM328 ((Or.inr (Or.inl ⟨rfl, by decide, by decide⟩)))
          refine j_iconst hX dX11_unit_248 ?_
          exact hret _ _ _ _ dX11_unit_249 (nb (by omega)) (by omega) ⟨hI329, hF340, by omega, hV332, by omega, fun _ => PT_1 (PS_pw (u := 1 - x2) hPS hunp (fun i h => hF340 239 i (by omega)) (fun i h => hF340 240 i (by omega)) (fun i h => hF340 237 i (by omega)) (by omega) (by omega) (by omega) (by omega) (by omega) (by omega) (by omega))⟩
        · skip
          refine j_iconst hX dX11_unit_227 ?_
          refine j_goto (tgt := 233) hX dX11_unit_228 (by decide) ?_
          refine j_bipush hX dX11_unit_233 rfl ?_
          refine j_callVV hX lk_X11_344 (c_X11_pushE _ _ _ _ _ _ _ _ _ (by omega) hI195 (by omega) (by omega) hk200 (by first | assumption | omega)) (by omega) hce rfl rfl (by omega) (by omega) kc_210 rfl rfl (Nat.le_of_ble_eq_true rfl) dX11_unit_235 (fun M342 hp343 => ?_)
          obtain ⟨hI346, hG347, hq348⟩ := hp343
          have hV349 := ML_dp hq197 (fun a b h => hG347 a b (by omega))
          have hV350 := ML_dp hV207 (fun a b h => hG347 a b (by omega))
          have hk351 := kp_fr hG347 (fun h => h.elim (fun h => absurd h.1 (by decide)) (fun h => h.elim (fun h => absurd h.1 (by decide)) (fun h => absurd h.2.1 (by decide)))) hk201
          have hk352 := kp_fr hG347 (fun h => h.elim (fun h => absurd h.1 (by decide)) (fun h => h.elim (fun h => absurd h.1 (by decide)) (fun h => absurd h.2.1 (by decide)))) hk202
          have hk353 := kp_fr hG347 (fun h => h.elim (fun h => absurd h.1 (by decide)) (fun h => h.elim (fun h => absurd h.1 (by decide)) (fun h => absurd h.2.1 (by decide)))) hk203
          have hk354 := kp_fr hG347 (fun h => h.elim (fun h => absurd h.1 (by decide)) (fun h => h.elim (fun h => absurd h.1 (by decide)) (fun h => absurd h.2.1 (by decide)))) hk204
          have hk355 := kp_fr hG347 (fun h => h.elim (fun h => absurd h.1 (by decide)) (fun h => h.elim (fun h => absurd h.1 (by decide)) (fun h => absurd h.2.2 (by decide)))) hk205
          clear hk200 hk201 hk202 hk203 hk204 hk205
          have hF356 := Fr.trans hF206 hG347 (fun a b h => h.elim (fun h => (Or.inr (Or.inr (Or.inr (Or.inr (Or.inl h)))))) (fun h => h.elim (fun h => (Or.inr (Or.inr (Or.inr (Or.inr (Or.inr (Or.inl h))))))) (fun h => (Or.inr (Or.inl ⟨h.1, Int.le_trans (by decide) h.2.1, Int.le_trans h.2.2 (by decide)⟩)))))
          obtain ⟨hp1, hp2, hp3⟩ := hq348
          have hwi6 := h8 (by omega)
          refine j_aload_n hX dX11_unit_238 rfl 1 rfl ?_
          refine j_dup hX dX11_unit_239 rfl ?_
          refine gf_X11_341 hX (by omega) (by omega) kc_210 dX11_unit_240 ?_
          refine j_top hk352 ?_
          refine j_iconst hX dX11_unit_243 ?_
          refine j_iadd hX dX11_unit_244 ?_
          refine pf_X11_341 hX (by omega) (by omega) kc_210 (by omega) dX11_unit_245 ?_
          refine j_up hI346 ro_210_43 (by omega) (by omega) (Or.inl (by omega)) (fun M357 w358 hw359 hM360 hI361 hf362 => ?_)
          have hV363 := ML_dp (M' := M357) hV349 (fun a b h => by rw [hM360]; exact up_ne (by omega))
          have hV364 := ML_dp (M' := M357) hV350 (fun a b h => by rw [hM360]; exact up_ne (by omega))
          have hk365 := kp_up hM360 (fun h => absurd h.2 (by decide)) hk351
          have hk366 := kp_up hM360 (fun h => absurd h.2 (by decide)) hk353
          have hk367 := kp_up hM360 (fun h => absurd h.2 (by decide)) hk354
          have hk368 := kp_up hM360 (fun h => absurd h.2 (by decide)) hk355
          have hk369 := kp_up hM360 (fun h => absurd h.1 (by decide)) hp1
          have hk370 := kp_up hM360 (fun h => absurd h.1 (by decide)) hp2
          have hk371 := kp_up hM360 (fun h => absurd h.2 (by decide)) hp3
          clear hk351 hk352 hk353 hk354 hk355
          have hF372 := Fr.put hF356 hM360 ((Or.inr (Or.inl ⟨rfl, by decide, by decide⟩)))
          refine j_iconst hX dX11_unit_248 ?_
          exact hret _ _ _ _ dX11_unit_249 (nb (by omega)) (by omega) ⟨hI361, hF372, by omega, hV364, by omega, fun _ => PT_1 (PS_pw (u := 1 - x2) hPS hunp (fun i h => hF372 239 i (by omega)) (fun i h => hF372 240 i (by omega)) (fun i h => hF372 237 i (by omega)) (by omega) (by omega) (by omega) (by omega) (by omega) (by omega) (by omega))⟩
