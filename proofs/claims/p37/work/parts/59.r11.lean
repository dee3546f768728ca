theorem dX11_unit_0 : decode cX11_unit 0 = .ok (.aload_n 0, 1) := by decide +kernel
theorem dX11_unit_1 : decode cX11_unit 1 = .ok (.getfield 101, 3) := by decide +kernel
theorem dX11_unit_4 : decode cX11_unit 4 = .ok (.aload_n 0, 1) := by decide +kernel
theorem dX11_unit_5 : decode cX11_unit 5 = .ok (.getfield 338, 3) := by decide +kernel
theorem dX11_unit_8 : decode cX11_unit 8 = .ok (.iconst 1, 1) := by decide +kernel
theorem dX11_unit_9 : decode cX11_unit 9 = .ok (.isub, 1) := by decide +kernel
theorem dX11_unit_10 : decode cX11_unit 10 = .ok (.iaload, 1) := by decide +kernel
theorem dX11_unit_11 : decode cX11_unit 11 = .ok (.iconst 3, 1) := by decide +kernel
theorem dX11_unit_12 : decode cX11_unit 12 = .ok (.if_icmp .le 19, 3) := by decide +kernel
theorem dX11_unit_15 : decode cX11_unit 15 = .ok (.aload_n 0, 1) := by decide +kernel
theorem dX11_unit_16 : decode cX11_unit 16 = .ok (.getfield 101, 3) := by decide +kernel
theorem dX11_unit_19 : decode cX11_unit 19 = .ok (.aload_n 0, 1) := by decide +kernel
theorem dX11_unit_20 : decode cX11_unit 20 = .ok (.getfield 338, 3) := by decide +kernel
theorem dX11_unit_23 : decode cX11_unit 23 = .ok (.iconst 1, 1) := by decide +kernel
theorem dX11_unit_24 : decode cX11_unit 24 = .ok (.isub, 1) := by decide +kernel
theorem dX11_unit_25 : decode cX11_unit 25 = .ok (.iaload, 1) := by decide +kernel
theorem dX11_unit_26 : decode cX11_unit 26 = .ok (.bipush 7, 2) := by decide +kernel
theorem dX11_unit_28 : decode cX11_unit 28 = .ok (.if_icmp .lt 7, 3) := by decide +kernel
theorem dX11_unit_31 : decode cX11_unit 31 = .ok (.iconst 1, 1) := by decide +kernel
theorem dX11_unit_32 : decode cX11_unit 32 = .ok (.goto 4, 3) := by decide +kernel
theorem dX11_unit_35 : decode cX11_unit 35 = .ok (.iconst 0, 1) := by decide +kernel
theorem dX11_unit_36 : decode cX11_unit 36 = .ok (.istore_n 1, 1) := by decide +kernel
theorem dX11_unit_37 : decode cX11_unit 37 = .ok (.iload_n 1, 1) := by decide +kernel
theorem dX11_unit_38 : decode cX11_unit 38 = .ok (.ifCond .eq 17, 3) := by decide +kernel
theorem dX11_unit_41 : decode cX11_unit 41 = .ok (.aload_n 0, 1) := by decide +kernel
theorem dX11_unit_42 : decode cX11_unit 42 = .ok (.ldc2_w 209, 3) := by decide +kernel
theorem dX11_unit_45 : decode cX11_unit 45 = .ok (.invokevirtual 259, 3) := by decide +kernel
theorem dX11_unit_48 : decode cX11_unit 48 = .ok (.ifCond .eq 7, 3) := by decide +kernel
theorem dX11_unit_51 : decode cX11_unit 51 = .ok (.iconst 1, 1) := by decide +kernel
theorem dX11_unit_52 : decode cX11_unit 52 = .ok (.goto 4, 3) := by decide +kernel
theorem dX11_unit_55 : decode cX11_unit 55 = .ok (.iconst 0, 1) := by decide +kernel
theorem dX11_unit_56 : decode cX11_unit 56 = .ok (.istore_n 2, 1) := by decide +kernel
theorem dX11_unit_57 : decode cX11_unit 57 = .ok (.aload_n 0, 1) := by decide +kernel
theorem dX11_unit_58 : decode cX11_unit 58 = .ok (.bipush 40, 2) := by decide +kernel
theorem dX11_unit_60 : decode cX11_unit 60 = .ok (.invokevirtual 311, 3) := by decide +kernel
theorem dX11_unit_63 : decode cX11_unit 63 = .ok (.istore_n 3, 1) := by decide +kernel
theorem dX11_unit_64 : decode cX11_unit 64 = .ok (.aload_n 0, 1) := by decide +kernel
theorem dX11_unit_65 : decode cX11_unit 65 = .ok (.invokevirtual 353, 3) := by decide +kernel
theorem dX11_unit_68 : decode cX11_unit 68 = .ok (.istore 4, 2) := by decide +kernel
theorem dX11_unit_70 : decode cX11_unit 70 = .ok (.aload_n 0, 1) := by decide +kernel
theorem dX11_unit_71 : decode cX11_unit 71 = .ok (.getfield 30, 3) := by decide +kernel
theorem dX11_unit_74 : decode cX11_unit 74 = .ok (.aload_n 0, 1) := by decide +kernel
theorem dX11_unit_75 : decode cX11_unit 75 = .ok (.getfield 270, 3) := by decide +kernel
theorem dX11_unit_78 : decode cX11_unit 78 = .ok (.iaload, 1) := by decide +kernel
theorem dX11_unit_79 : decode cX11_unit 79 = .ok (.bipush 60, 2) := by decide +kernel
theorem dX11_unit_81 : decode cX11_unit 81 = .ok (.if_icmp .eq 12, 3) := by decide +kernel
theorem dX11_unit_84 : decode cX11_unit 84 = .ok (.aload_n 0, 1) := by decide +kernel
theorem dX11_unit_85 : decode cX11_unit 85 = .ok (.getfield 332, 3) := by decide +kernel
theorem dX11_unit_88 : decode cX11_unit 88 = .ok (.bipush 30, 2) := by decide +kernel
theorem dX11_unit_90 : decode cX11_unit 90 = .ok (.if_icmp .ne 7, 3) := by decide +kernel
theorem dX11_unit_93 : decode cX11_unit 93 = .ok (.iconst 1, 1) := by decide +kernel
theorem dX11_unit_94 : decode cX11_unit 94 = .ok (.goto 4, 3) := by decide +kernel
theorem dX11_unit_97 : decode cX11_unit 97 = .ok (.iconst 0, 1) := by decide +kernel
theorem dX11_unit_98 : decode cX11_unit 98 = .ok (.istore 5, 2) := by decide +kernel
theorem dX11_unit_100 : decode cX11_unit 100 = .ok (.iload_n 2, 1) := by decide +kernel
theorem dX11_unit_101 : decode cX11_unit 101 = .ok (.ifCond .ne 25, 3) := by decide +kernel
theorem dX11_unit_104 : decode cX11_unit 104 = .ok (.iload 4, 2) := by decide +kernel
theorem dX11_unit_106 : decode cX11_unit 106 = .ok (.ifCond .ne 15, 3) := by decide +kernel
theorem dX11_unit_109 : decode cX11_unit 109 = .ok (.aload_n 0, 1) := by decide +kernel
theorem dX11_unit_110 : decode cX11_unit 110 = .ok (.getfield 221, 3) := by decide +kernel
theorem dX11_unit_113 : decode cX11_unit 113 = .ok (.iconst 4, 1) := by decide +kernel
theorem dX11_unit_114 : decode cX11_unit 114 = .ok (.if_icmp .eq 7, 3) := by decide +kernel
theorem dX11_unit_117 : decode cX11_unit 117 = .ok (.iload_n 3, 1) := by decide +kernel
theorem dX11_unit_118 : decode cX11_unit 118 = .ok (.ifCond .eq 25, 3) := by decide +kernel
theorem dX11_unit_121 : decode cX11_unit 121 = .ok (.iload 5, 2) := by decide +kernel
theorem dX11_unit_123 : decode cX11_unit 123 = .ok (.ifCond .ne 20, 3) := by decide +kernel
theorem dX11_unit_126 : decode cX11_unit 126 = .ok (.iload_n 2, 1) := by decide +kernel
theorem dX11_unit_127 : decode cX11_unit 127 = .ok (.ifCond .ne 7, 3) := by decide +kernel
theorem dX11_unit_130 : decode cX11_unit 130 = .ok (.iload_n 3, 1) := by decide +kernel
theorem dX11_unit_131 : decode cX11_unit 131 = .ok (.ifCond .eq 16, 3) := by decide +kernel
theorem dX11_unit_134 : decode cX11_unit 134 = .ok (.aload_n 0, 1) := by decide +kernel
theorem dX11_unit_135 : decode cX11_unit 135 = .ok (.getfield 341, 3) := by decide +kernel
theorem dX11_unit_138 : decode cX11_unit 138 = .ok (.bipush 7, 2) := by decide +kernel
theorem dX11_unit_140 : decode cX11_unit 140 = .ok (.if_icmp .ne 7, 3) := by decide +kernel
theorem dX11_unit_143 : decode cX11_unit 143 = .ok (.aload_n 0, 1) := by decide +kernel
theorem dX11_unit_144 : decode cX11_unit 144 = .ok (.invokevirtual 256, 3) := by decide +kernel
theorem dX11_unit_147 : decode cX11_unit 147 = .ok (.aload_n 0, 1) := by decide +kernel
theorem dX11_unit_148 : decode cX11_unit 148 = .ok (.invokevirtual 249, 3) := by decide +kernel
theorem dX11_unit_151 : decode cX11_unit 151 = .ok (.ifCond .ne 5, 3) := by decide +kernel
theorem dX11_unit_154 : decode cX11_unit 154 = .ok (.iconst 1, 1) := by decide +kernel
theorem dX11_unit_155 : decode cX11_unit 155 = .ok (.ireturn, 1) := by decide +kernel
theorem dX11_unit_156 : decode cX11_unit 156 = .ok (.aload_n 0, 1) := by decide +kernel
theorem dX11_unit_157 : decode cX11_unit 157 = .ok (.getfield 30, 3) := by decide +kernel
theorem dX11_unit_160 : decode cX11_unit 160 = .ok (.aload_n 0, 1) := by decide +kernel
theorem dX11_unit_161 : decode cX11_unit 161 = .ok (.getfield 270, 3) := by decide +kernel
theorem dX11_unit_164 : decode cX11_unit 164 = .ok (.dup2, 1) := by decide +kernel
theorem dX11_unit_165 : decode cX11_unit 165 = .ok (.iaload, 1) := by decide +kernel
theorem dX11_unit_166 : decode cX11_unit 166 = .ok (.iload_n 2, 1) := by decide +kernel
theorem dX11_unit_167 : decode cX11_unit 167 = .ok (.ifCond .eq 7, 3) := by decide +kernel
theorem dX11_unit_170 : decode cX11_unit 170 = .ok (.iconst 0, 1) := by decide +kernel
theorem dX11_unit_171 : decode cX11_unit 171 = .ok (.goto 4, 3) := by decide +kernel
theorem dX11_unit_174 : decode cX11_unit 174 = .ok (.iconst 1, 1) := by decide +kernel
theorem dX11_unit_175 : decode cX11_unit 175 = .ok (.iadd, 1) := by decide +kernel
theorem dX11_unit_176 : decode cX11_unit 176 = .ok (.iastore, 1) := by decide +kernel
theorem dX11_unit_177 : decode cX11_unit 177 = .ok (.aload_n 0, 1) := by decide +kernel
theorem dX11_unit_178 : decode cX11_unit 178 = .ok (.dup, 1) := by decide +kernel
theorem dX11_unit_179 : decode cX11_unit 179 = .ok (.getfield 332, 3) := by decide +kernel
theorem dX11_unit_182 : decode cX11_unit 182 = .ok (.iload_n 2, 1) := by decide +kernel
theorem dX11_unit_183 : decode cX11_unit 183 = .ok (.ifCond .eq 7, 3) := by decide +kernel
theorem dX11_unit_186 : decode cX11_unit 186 = .ok (.iconst 0, 1) := by decide +kernel
theorem dX11_unit_187 : decode cX11_unit 187 = .ok (.goto 4, 3) := by decide +kernel
theorem dX11_unit_190 : decode cX11_unit 190 = .ok (.iconst 1, 1) := by decide +kernel
theorem dX11_unit_191 : decode cX11_unit 191 = .ok (.iadd, 1) := by decide +kernel
theorem dX11_unit_192 : decode cX11_unit 192 = .ok (.putfield 332, 3) := by decide +kernel
theorem dX11_unit_195 : decode cX11_unit 195 = .ok (.iload 4, 2) := by decide +kernel
theorem dX11_unit_197 : decode cX11_unit 197 = .ok (.ifCond .ne 10, 3) := by decide +kernel
theorem dX11_unit_200 : decode cX11_unit 200 = .ok (.aload_n 0, 1) := by decide +kernel
theorem dX11_unit_201 : decode cX11_unit 201 = .ok (.getfield 239, 3) := by decide +kernel
theorem dX11_unit_204 : decode cX11_unit 204 = .ok (.goto 4, 3) := by decide +kernel
theorem dX11_unit_207 : decode cX11_unit 207 = .ok (.iconst 0, 1) := by decide +kernel
theorem dX11_unit_208 : decode cX11_unit 208 = .ok (.istore 6, 2) := by decide +kernel
theorem dX11_unit_210 : decode cX11_unit 210 = .ok (.aload_n 0, 1) := by decide +kernel
theorem dX11_unit_211 : decode cX11_unit 211 = .ok (.invokevirtual 253, 3) := by decide +kernel
theorem dX11_unit_214 : decode cX11_unit 214 = .ok (.iload_n 2, 1) := by decide +kernel
theorem dX11_unit_215 : decode cX11_unit 215 = .ok (.ifCond .ne 7, 3) := by decide +kernel
theorem dX11_unit_218 : decode cX11_unit 218 = .ok (.iload_n 3, 1) := by decide +kernel
theorem dX11_unit_219 : decode cX11_unit 219 = .ok (.ifCond .eq 31, 3) := by decide +kernel
theorem dX11_unit_222 : decode cX11_unit 222 = .ok (.aload_n 0, 1) := by decide +kernel
theorem dX11_unit_223 : decode cX11_unit 223 = .ok (.iload_n 2, 1) := by decide +kernel
theorem dX11_unit_224 : decode cX11_unit 224 = .ok (.ifCond .eq 7, 3) := by decide +kernel
theorem dX11_unit_227 : decode cX11_unit 227 = .ok (.iconst 3, 1) := by decide +kernel
theorem dX11_unit_228 : decode cX11_unit 228 = .ok (.goto 5, 3) := by decide +kernel
theorem dX11_unit_231 : decode cX11_unit 231 = .ok (.bipush 7, 2) := by decide +kernel
theorem dX11_unit_233 : decode cX11_unit 233 = .ok (.bipush 126, 2) := by decide +kernel
theorem dX11_unit_235 : decode cX11_unit 235 = .ok (.invokevirtual 344, 3) := by decide +kernel
theorem dX11_unit_238 : decode cX11_unit 238 = .ok (.aload_n 0, 1) := by decide +kernel
theorem dX11_unit_239 : decode cX11_unit 239 = .ok (.dup, 1) := by decide +kernel
theorem dX11_unit_240 : decode cX11_unit 240 = .ok (.getfield 341, 3) := by decide +kernel
theorem dX11_unit_243 : decode cX11_unit 243 = .ok (.iconst 1, 1) := by decide +kernel
theorem dX11_unit_244 : decode cX11_unit 244 = .ok (.iadd, 1) := by decide +kernel
theorem dX11_unit_245 : decode cX11_unit 245 = .ok (.putfield 341, 3) := by decide +kernel
theorem dX11_unit_248 : decode cX11_unit 248 = .ok (.iconst 1, 1) := by decide +kernel
theorem dX11_unit_249 : decode cX11_unit 249 = .ok (.ireturn, 1) := by decide +kernel
theorem dX11_unit_250 : decode cX11_unit 250 = .ok (.aload_n 0, 1) := by decide +kernel
theorem dX11_unit_251 : decode cX11_unit 251 = .ok (.iload 4, 2) := by decide +kernel
theorem dX11_unit_253 : decode cX11_unit 253 = .ok (.ifCond .ne 8, 3) := by decide +kernel
theorem dX11_unit_256 : decode cX11_unit 256 = .ok (.bipush 110, 2) := by decide +kernel
theorem dX11_unit_258 : decode cX11_unit 258 = .ok (.goto 5, 3) := by decide +kernel
theorem dX11_unit_261 : decode cX11_unit 261 = .ok (.iload 4, 2) := by decide +kernel
theorem dX11_unit_263 : decode cX11_unit 263 = .ok (.iload 6, 2) := by decide +kernel
theorem dX11_unit_265 : decode cX11_unit 265 = .ok (.invokevirtual 356, 3) := by decide +kernel
theorem dX11_unit_268 : decode cX11_unit 268 = .ok (.iconst 0, 1) := by decide +kernel
theorem dX11_unit_269 : decode cX11_unit 269 = .ok (.ireturn, 1) := by decide +kernel
set_option maxHeartbeats 2000000 in
set_option maxRecDepth 20000 in
theorem c_X11_unit (l : Launch) (D : va_G) (cy : Nat → ClassId) (B N : Nat) (m : Int) (lo : Int) (np : Int) (cd : Int) (tk : Int) (wi : Int) (uu : Int) (w : Int) (un : Int) (fk : Int) (M : MM) (hN : 257 ≤ N) (hI : Iv M) (hunp : M.1 210 44 = np) (hucd : M.1 210 42 = cd) (hutk : M.1 210 8 = tk) (huwi : M.1 210 43 = wi) (huuu : M.1 210 45 = uu) (huw : M.1 210 41 = w) (huun : M.1 216 w = un) (hufk : M.1 210 4 = fk) (hML : ML m M) (hPS : PS 0 lo M) (h1 : 0 ≤ lo ∧ lo ≤ 560 ∧ fk = 0) : CI l D cy B N 3 yX11_unit cX11_unit 7 (some .boolean) [rv B 210] M (fun z M' => Iv M' ∧ Fr (fun a b => (a = 210 ∧ 4 ≤ b ∧ b ≤ 10) ∨ (a = 210 ∧ 42 ≤ b ∧ b ≤ 45) ∨ (a = 237 ∧ cd ≤ b ∧ b ≤ cd) ∨ (a = 238 ∧ cd ≤ b ∧ b ≤ cd) ∨ (a = 239 ∧ np ≤ b ∧ b ≤ np) ∨ (a = 240 ∧ np ≤ b ∧ b ≤ np) ∨ (a = 216)) M M' ∧ (0 ≤ z ∧ z ≤ 1) ∧ (ML (m - 1) M') ∧ (M'.1 210 44 ≤ np + 1) ∧ (M'.1 210 4 = 0 → PT z lo M')) := by
  refine mk_CI (by decide) (Nat.le_of_ble_eq_true rfl) ?_
  intro X exl exD excy hnL hX hret
  have hce : 0 + 0 ≤ (xR X).cells ∧ 0 + 0 ≤ (xR X).slots := ⟨Nat.zero_le _, Nat.zero_le _⟩
  have hF : Fr (fun a b => (a = 210 ∧ 4 ≤ b ∧ b ≤ 10) ∨ (a = 210 ∧ 42 ≤ b ∧ b ≤ 45) ∨ (a = 237 ∧ cd ≤ b ∧ b ≤ cd) ∨ (a = 238 ∧ cd ≤ b ∧ b ≤ cd) ∨ (a = 239 ∧ np ≤ b ∧ b ≤ np) ∨ (a = 240 ∧ np ≤ b ∧ b ≤ np) ∨ (a = 216)) M M := Fr.rf
  have hwr : 0 ≤ wi ∧ wi ≤ 7 := by have := hI.at 210 43 ro_210_43; omega
  have hur : 0 ≤ uu ∧ uu ≤ 30 := by have := hI.at 210 45 ro_210_45; omega
  have hpb := PS_b hPS (Or.inl rfl) (by omega) (by omega)
  have htkr : -2147483648 ≤ tk ∧ tk ≤ 2147483647 := by have := hI.at 210 8 ro_210_8; omega
  have hwb : 0 ≤ w ∧ w ≤ 1 := by have := hI.at 210 41 ro_210_41; omega
  have hunb : 0 ≤ un ∧ un ≤ 60 := by have := hI.at 216 w (ra_216 _); omega
  have cp : ∀ n : Nat, (∀ (x1 : Int), ∀ (Mc : MM), I32 x1 → Iv Mc → Fr (fun a b => (a = 210 ∧ 4 ≤ b ∧ b ≤ 10) ∨ (a = 210 ∧ 42 ≤ b ∧ b ≤ 45) ∨ (a = 237 ∧ cd ≤ b ∧ b ≤ cd) ∨ (a = 238 ∧ cd ≤ b ∧ b ≤ cd) ∨ (a = 239 ∧ np ≤ b ∧ b ≤ np) ∨ (a = 240 ∧ np ≤ b ∧ b ≤ np) ∨ (a = 216)) M Mc → Mc.1 210 44 = np → Mc.1 210 42 = cd → Mc.1 210 8 = tk → Mc.1 210 43 = wi → Mc.1 210 45 = uu → Mc.1 210 41 = w → Mc.1 216 w = un → Mc.1 210 4 = fk → ML m Mc → (0 ≤ x1 ∧ x1 ≤ 1) → 0 ≤ 32 * (0) + 5 → 32 * (0) + 5 < (n : Int) → J X B N 0 0 37 [(0, rv B 210), (1, iv x1)] [] Mc) ∧ (∀ (x1 x2 : Int), ∀ (Mc : MM), I32 x1 → I32 x2 → Iv Mc → Fr (fun a b => (a = 210 ∧ 4 ≤ b ∧ b ≤ 10) ∨ (a = 210 ∧ 42 ≤ b ∧ b ≤ 45) ∨ (a = 237 ∧ cd ≤ b ∧ b ≤ cd) ∨ (a = 238 ∧ cd ≤ b ∧ b ≤ cd) ∨ (a = 239 ∧ np ≤ b ∧ b ≤ np) ∨ (a = 240 ∧ np ≤ b ∧ b ≤ np) ∨ (a = 216)) M Mc → Mc.1 210 44 = np → Mc.1 210 42 = cd → Mc.1 210 8 = tk → Mc.1 210 43 = wi → Mc.1 210 45 = uu → Mc.1 210 41 = w → Mc.1 216 w = un → Mc.1 210 4 = fk → ML m Mc → (0 ≤ x2 ∧ x2 ≤ 1) → (Imp (x2 = 1) (tk = 3)) → 0 ≤ 32 * (0) + 4 → 32 * (0) + 4 < (n : Int) → J X B N 0 0 57 [(0, rv B 210), (1, iv x1), (2, iv x2)] [] Mc) ∧ (∀ (x1 x2 x3 x4 x5 : Int), ∀ (Mc : MM), I32 x1 → I32 x2 → I32 x3 → I32 x4 → I32 x5 → Iv Mc → Fr (fun a b => (a = 210 ∧ 4 ≤ b ∧ b ≤ 10) ∨ (a = 210 ∧ 42 ≤ b ∧ b ≤ 45) ∨ (a = 237 ∧ cd ≤ b ∧ b ≤ cd) ∨ (a = 238 ∧ cd ≤ b ∧ b ≤ cd) ∨ (a = 239 ∧ np ≤ b ∧ b ≤ np) ∨ (a = 240 ∧ np ≤ b ∧ b ≤ np) ∨ (a = 216)) M Mc → Mc.1 210 44 = np → Mc.1 210 42 = cd → Mc.1 210 8 = tk → Mc.1 210 43 = wi → Mc.1 210 45 = uu → Mc.1 210 41 = w → Mc.1 216 w = un → Mc.1 210 4 = fk → ML m Mc → (0 ≤ x2 ∧ x2 ≤ 1 ∧ 0 ≤ x3 ∧ x3 ≤ 1 ∧ 0 ≤ x5 ∧ x5 ≤ 1) → (Imp (x2 = 1) (tk = 3)) → (Imp (x3 = 1) (tk = 5)) → (Imp (x4 ≠ 0) (97 ≤ x4 ∧ x4 ≤ 122 ∧ tk = 3)) → (Imp (x5 = 0) (un ≤ 59 ∧ uu ≤ 29)) → 0 ≤ 32 * (0) + 3 → 32 * (0) + 3 < (n : Int) → J X B N 0 0 100 [(0, rv B 210), (1, iv x1), (2, iv x2), (3, iv x3), (4, iv x4), (5, iv x5)] [] Mc) ∧ (∀ (x1 x2 x3 x4 x5 : Int), ∀ (fk2 : Int), ∀ (Mc : MM), I32 x1 → I32 x2 → I32 x3 → I32 x4 → I32 x5 → Iv Mc → Fr (fun a b => (a = 210 ∧ 4 ≤ b ∧ b ≤ 10) ∨ (a = 210 ∧ 42 ≤ b ∧ b ≤ 45) ∨ (a = 237 ∧ cd ≤ b ∧ b ≤ cd) ∨ (a = 238 ∧ cd ≤ b ∧ b ≤ cd) ∨ (a = 239 ∧ np ≤ b ∧ b ≤ np) ∨ (a = 240 ∧ np ≤ b ∧ b ≤ np) ∨ (a = 216)) M Mc → Mc.1 210 44 = np → Mc.1 210 42 = cd → Mc.1 210 8 = tk → Mc.1 210 43 = wi → Mc.1 210 45 = uu → Mc.1 210 41 = w → Mc.1 216 w = un → Mc.1 210 4 = fk2 → ML m Mc → (0 ≤ x2 ∧ x2 ≤ 1 ∧ 0 ≤ x3 ∧ x3 ≤ 1) → (Imp (x2 = 1) (tk = 3)) → (Imp (x3 = 1) (tk = 5)) → (Imp (x4 ≠ 0) (97 ≤ x4 ∧ x4 ≤ 122 ∧ tk = 3)) → (Imp (fk2 = 0 ∧ x2 = 0) (un ≤ 59 ∧ uu ≤ 29)) → (Imp (fk2 = 0) (tk ≠ 0)) → (Imp (fk2 = 0 ∧ 1 ≤ x2 + x3) (wi ≤ 6)) → 0 ≤ 32 * (0) + 2 → 32 * (0) + 2 < (n : Int) → J X B N 0 0 147 [(0, rv B 210), (1, iv x1), (2, iv x2), (3, iv x3), (4, iv x4), (5, iv x5)] [] Mc) ∧ (∀ (x1 x2 x3 x4 x5 : Int), ∀ (fk2 u2 : Int), ∀ (Mc : MM), I32 x1 → I32 x2 → I32 x3 → I32 x4 → I32 x5 → Iv Mc → Fr (fun a b => (a = 210 ∧ 4 ≤ b ∧ b ≤ 10) ∨ (a = 210 ∧ 42 ≤ b ∧ b ≤ 45) ∨ (a = 237 ∧ cd ≤ b ∧ b ≤ cd) ∨ (a = 238 ∧ cd ≤ b ∧ b ≤ cd) ∨ (a = 239 ∧ np ≤ b ∧ b ≤ np) ∨ (a = 240 ∧ np ≤ b ∧ b ≤ np) ∨ (a = 216)) M Mc → Mc.1 210 44 = np → Mc.1 210 42 = cd → Mc.1 210 8 = tk → Mc.1 210 43 = wi → Mc.1 210 41 = w → Mc.1 210 4 = fk2 → Mc.1 210 45 = u2 → ML m Mc → (0 ≤ x2 ∧ x2 ≤ 1 ∧ 0 ≤ x3 ∧ x3 ≤ 1 ∧ fk2 = 0 ∧ u2 = uu + 1 - x2) → (Imp (x4 ≠ 0) (97 ≤ x4 ∧ x4 ≤ 122 ∧ tk = 3)) → (Imp (x2 = 0) (uu ≤ 29)) → (tk ≠ 0) → (Imp (1 ≤ x2 + x3) (wi ≤ 6)) → 0 ≤ 32 * (0) + 1 → 32 * (0) + 1 < (n : Int) → J X B N 0 0 195 [(0, rv B 210), (1, iv x1), (2, iv x2), (3, iv x3), (4, iv x4), (5, iv x5)] [] Mc) := by
    intro n
    induction n with
    | zero => exact ⟨by intros; exfalso; omega, by intros; exfalso; omega, by intros; exfalso; omega, by intros; exfalso; omega, by intros; exfalso; omega⟩
    | succ n ih =>
      refine ⟨?_, ?_, ?_, ?_, ?_⟩
      · intro x1 Mc hxx1 hI hF hk_0 hk_1 hk_2 hk_3 hk_4 hk_5 hk_6 hk_7 hV_0 h2 hm0 hm1
        refine j_iload_n hX dX11_unit_37 rfl 1 rfl ?_
        refine j_if_eq (tgt := 55) hX dX11_unit_38 (by decide) (by omega) (fun hc1 => ?_) (fun hc1 => ?_)
        · skip
          refine j_iconst hX dX11_unit_55 ?_
          refine j_istore_n (lv' := [(2, _), (0, _), (1, _)]) hX dX11_unit_56 rfl (by rw [hnL]; decide) rfl ?_
          refine j_sub [1, 2, 0] rfl ?_
          exact ih.2.1 _ _ _ (by omega) (by omega) hI hF hk_0 hk_1 hk_2 hk_3 hk_4 hk_5 hk_6 hk_7 hV_0 (by first | assumption | omega) (by first | assumption | exact fun h => absurd h (by omega) | exact fun _ => by omega) (by omega) (by omega)
        · skip
          refine j_aload_n hX dX11_unit_41 rfl 0 rfl ?_
          refine j_ldc2 hX (in_6 209 (by first | rfl | decide +kernel) rfl) dX11_unit_42 ?_
          refine j_callVI hX lk_X11_259 (c_X11_isWord _ _ _ _ _ _ _ (by omega) hI) (by omega) hce rfl rfl (by omega) (by omega) kc_210 rfl rfl (Nat.le_of_ble_eq_true rfl) dX11_unit_45 (fun z2 M3 hz5 hp4 => ?_)
          obtain ⟨hE6, hb7, hq8, hq9⟩ := hp4
          replace hE6 := hE6.symm
          subst hE6
          refine j_if_eq (tgt := 55) hX dX11_unit_48 (by decide) (by omega) (fun hc10 => ?_) (fun hc10 => ?_)
          · skip
            clear hq8
            have hi11 := hq9 (by omega)
            clear hq9
            refine j_iconst hX dX11_unit_55 ?_
            refine j_istore_n (lv' := [(2, _), (0, _), (1, _)]) hX dX11_unit_56 rfl (by rw [hnL]; decide) rfl ?_
            refine j_sub [1, 2, 0] rfl ?_
            exact ih.2.1 _ _ _ (by omega) (by omega) hI hF hk_0 hk_1 hk_2 hk_3 hk_4 hk_5 hk_6 hk_7 hV_0 (by first | assumption | omega) (by first | assumption | exact fun h => absurd h (by omega) | exact fun _ => by omega) (by omega) (by omega)
          · skip
            have hi12 := hq8 (by omega)
            clear hq8
            clear hq9
            refine j_iconst hX dX11_unit_51 ?_
            refine j_goto (tgt := 56) hX dX11_unit_52 (by decide) ?_
            refine j_istore_n (lv' := [(2, _), (0, _), (1, _)]) hX dX11_unit_56 rfl (by rw [hnL]; decide) rfl ?_
            refine j_sub [1, 2, 0] rfl ?_
            exact ih.2.1 _ _ _ (by omega) (by omega) hI hF hk_0 hk_1 hk_2 hk_3 hk_4 hk_5 hk_6 hk_7 hV_0 (by first | assumption | omega) (by first | assumption | exact fun h => absurd h (by omega) | exact fun _ => by omega) (by omega) (by omega)
      · intro x1 x2 Mc hxx1 hxx2 hI hF hk_0 hk_1 hk_2 hk_3 hk_4 hk_5 hk_6 hk_7 hV_0 h2 h3 hm0 hm1
        refine j_aload_n hX dX11_unit_57 rfl 0 rfl ?_
        refine j_bipush hX dX11_unit_58 rfl ?_
        refine j_callVI hX lk_X11_311 (c_X11_isSignHere _ _ _ _ _ _ _ (by omega) hI (by omega)) (by omega) hce rfl rfl (by omega) (by omega) kc_210 rfl rfl (Nat.le_of_ble_eq_true rfl) dX11_unit_60 (fun z13 M14 hz16 hp15 => ?_)
        obtain ⟨hE17, hb18, hq19, hq20⟩ := hp15
        replace hE17 := hE17.symm
        subst hE17
        have hbr : Imp (z13 = 1) (tk = 5) := fun h => by have := hq20 h; omega
        refine j_istore_n (lv' := [(3, _), (0, _), (1, _), (2, _)]) hX dX11_unit_63 rfl (by rw [hnL]; decide) rfl ?_
        refine j_aload_n hX dX11_unit_64 rfl 1 rfl ?_
        refine j_callVI hX lk_X11_353 (c_X11_wordHere _ _ _ _ _ _ (by omega) hI) (by omega) hce rfl rfl (by omega) (by omega) kc_210 rfl rfl (Nat.le_of_ble_eq_true rfl) dX11_unit_65 (fun z21 M22 hz24 hp23 => ?_)
        obtain ⟨hE25, hq26⟩ := hp23
        replace hE25 := hE25.symm
        subst hE25
        have hwd : Imp (z21 ≠ 0) (97 ≤ z21 ∧ z21 ≤ 122 ∧ tk = 3) := fun h => by have := hq26 h; omega
        refine j_istore (lv' := [(4, _), (3, _), (0, _), (1, _), (2, _)]) hX dX11_unit_68 (by rw [hnL]; decide) rfl ?_
        refine j_aload_n hX dX11_unit_70 rfl 2 rfl ?_
        refine gf_X11_30 hX (by omega) (by omega) kc_210 (fc_210_14 hI) (by decide) dX11_unit_71 ?_
        refine j_aload_n hX dX11_unit_74 rfl 2 rfl ?_
        refine gf_X11_270 hX (by omega) (by omega) kc_210 dX11_unit_75 ?_
        refine j_top hk_5 ?_
        refine j_iald hX (by omega) (by omega) kc_216 (by omega) (by omega) (by omega) dX11_unit_78 ?_
        refine j_top hk_6 ?_
        refine j_bipush hX dX11_unit_79 rfl ?_
        refine j_icmp_eq (tgt := 93) hX dX11_unit_81 (by decide) (by omega) (by omega) (fun hc27 => ?_) (fun hc27 => ?_)
        · skip
          refine j_iconst hX dX11_unit_93 ?_
          refine j_goto (tgt := 98) hX dX11_unit_94 (by decide) ?_
          refine j_istore (lv' := [(5, _), (4, _), (3, _), (0, _), (1, _), (2, _)]) hX dX11_unit_98 (by rw [hnL]; decide) rfl ?_
          refine j_sub [3, 4, 5, 2, 1, 0] rfl ?_
          exact ih.2.2.1 _ _ _ _ _ _ (by omega) (by omega) (by omega) (by omega) (by omega) hI hF hk_0 hk_1 hk_2 hk_3 hk_4 hk_5 hk_6 hk_7 hV_0 (by first | assumption | omega) (by first | assumption | exact fun h => absurd h (by omega) | exact fun _ => by omega) (by first | assumption | exact fun h => hbr h) (by first | assumption | exact fun h => by have := hwd h; omega) (by first | assumption | exact fun h => absurd h (by omega) | exact fun _ => by omega) (by omega) (by omega)
        · skip
          refine j_aload_n hX dX11_unit_84 rfl 2 rfl ?_
          refine gf_X11_332 hX (by omega) (by omega) kc_210 dX11_unit_85 ?_
          refine j_top hk_4 ?_
          refine j_bipush hX dX11_unit_88 rfl ?_
          refine j_icmp_ne (tgt := 97) hX dX11_unit_90 (by decide) (by omega) (by omega) (fun hc28 => ?_) (fun hc28 => ?_)
          · skip
            refine j_iconst hX dX11_unit_97 ?_
            refine j_istore (lv' := [(5, _), (4, _), (3, _), (0, _), (1, _), (2, _)]) hX dX11_unit_98 (by rw [hnL]; decide) rfl ?_
            refine j_sub [3, 4, 5, 2, 1, 0] rfl ?_
            exact ih.2.2.1 _ _ _ _ _ _ (by omega) (by omega) (by omega) (by omega) (by omega) hI hF hk_0 hk_1 hk_2 hk_3 hk_4 hk_5 hk_6 hk_7 hV_0 (by first | assumption | omega) (by first | assumption | exact fun h => absurd h (by omega) | exact fun _ => by omega) (by first | assumption | exact fun h => hbr h) (by first | assumption | exact fun h => by have := hwd h; omega) (by first | assumption | exact fun h => absurd h (by omega) | exact fun _ => by omega) (by omega) (by omega)
          · skip
            refine j_iconst hX dX11_unit_93 ?_
            refine j_goto (tgt := 98) hX dX11_unit_94 (by decide) ?_
            refine j_istore (lv' := [(5, _), (4, _), (3, _), (0, _), (1, _), (2, _)]) hX dX11_unit_98 (by rw [hnL]; decide) rfl ?_
            refine j_sub [3, 4, 5, 2, 1, 0] rfl ?_
            exact ih.2.2.1 _ _ _ _ _ _ (by omega) (by omega) (by omega) (by omega) (by omega) hI hF hk_0 hk_1 hk_2 hk_3 hk_4 hk_5 hk_6 hk_7 hV_0 (by first | assumption | omega) (by first | assumption | exact fun h => absurd h (by omega) | exact fun _ => by omega) (by first | assumption | exact fun h => hbr h) (by first | assumption | exact fun h => by have := hwd h; omega) (by first | assumption | exact fun h => absurd h (by omega) | exact fun _ => by omega) (by omega) (by omega)
      · intro x1 x2 x3 x4 x5 Mc hxx1 hxx2 hxx3 hxx4 hxx5 hI hF hk_0 hk_1 hk_2 hk_3 hk_4 hk_5 hk_6 hk_7 hV_0 h2 h3 h4 h5 h6 hm0 hm1
        refine j_iload_n hX dX11_unit_100 rfl 2 rfl ?_
        refine j_if_ne (tgt := 126) hX dX11_unit_101 (by decide) (by omega) (fun hc29 => ?_) (fun hc29 => ?_)
        · skip
          refine j_iload_n hX dX11_unit_126 rfl 2 rfl ?_
          refine j_if_ne (tgt := 134) hX dX11_unit_127 (by decide) (by omega) (fun hc30 => ?_) (fun hc30 => ?_)
          · skip
            refine j_aload_n hX dX11_unit_134 rfl 0 rfl ?_
            refine gf_X11_341 hX (by omega) (by omega) kc_210 dX11_unit_135 ?_
            refine j_top hk_3 ?_
            refine j_bipush hX dX11_unit_138 rfl ?_
            refine j_icmp_ne (tgt := 147) hX dX11_unit_140 (by decide) (by omega) (by omega) (fun hc31 => ?_) (fun hc31 => ?_)
            · skip
              exact ih.2.2.2.1 _ _ _ _ _ _ _ (by omega) (by omega) (by omega) (by omega) (by omega) hI hF hk_0 hk_1 hk_2 hk_3 hk_4 hk_5 hk_6 hk_7 hV_0 (by first | assumption | omega) (by first | assumption | omega) (by first | assumption | omega) (by first | assumption | omega) (by first | exact fun h => absurd h (by omega) | exact fun _ => h6 (by omega)) (by first | exact fun h => absurd h (by omega) | exact fun _ => by omega | exact fun _ => by have := h3 (by omega); omega | exact fun _ => by have := h5 (by omega); omega | exact fun _ => by have := h4 (by omega); omega) (by first | exact fun h => absurd h (by omega) | exact fun _ => by omega) (by omega) (by omega)
            · skip
              refine j_aload_n hX dX11_unit_143 rfl 0 rfl ?_
              refine j_callVV hX lk_X11_256 (c_X11_misplaced _ _ _ _ _ _ _ (by omega) hI hV_0) (by omega) hce rfl rfl (by omega) (by omega) kc_210 rfl rfl (Nat.le_of_ble_eq_true rfl) dX11_unit_144 (fun M33 hp34 => ?_)
              obtain ⟨hI37, hG38, hq39, hq40⟩ := hp34
              have hk42 := kp_fr hG38 (by omega) hk_0
              have hk43 := kp_fr hG38 (by omega) hk_1
              have hk44 := kp_fr hG38 (by omega) hk_2
              have hk45 := kp_fr hG38 (by omega) hk_3
              have hk46 := kp_fr hG38 (by omega) hk_4
              have hk47 := kp_fr hG38 (by omega) hk_5
              have hk48 := kp_fr hG38 (by omega) hk_6
              have hF49 := Fr.trans hF hG38 (fun a b h => by omega)
              exact ih.2.2.2.1 _ _ _ _ _ _ _ (by omega) (by omega) (by omega) (by omega) (by omega) hI37 hF49 hk42 hk43 hk44 hk45 hk46 hk47 hk48 (by first | assumption | rfl) hq39 (by first | assumption | omega) (by first | assumption | omega) (by first | assumption | omega) (by first | assumption | omega) (by first | exact fun h => absurd h (by omega) | exact fun _ => h6 (by omega)) (by first | exact fun h => absurd h (by omega) | exact fun _ => by omega | exact fun _ => by have := h3 (by omega); omega | exact fun _ => by have := h5 (by omega); omega | exact fun _ => by have := h4 (by omega); omega) (by first | exact fun h => absurd h (by omega) | exact fun _ => by omega) (by omega) (by omega)
          · skip
            refine j_iload_n hX dX11_unit_130 rfl 3 rfl ?_
            refine j_if_eq (tgt := 147) hX dX11_unit_131 (by decide) (by omega) (fun hc50 => ?_) (fun hc50 => ?_)
            · skip
              exact ih.2.2.2.1 _ _ _ _ _ _ _ (by omega) (by omega) (by omega) (by omega) (by omega) hI hF hk_0 hk_1 hk_2 hk_3 hk_4 hk_5 hk_6 hk_7 hV_0 (by first | assumption | omega) (by first | assumption | omega) (by first | assumption | omega) (by first | assumption | omega) (by first | exact fun h => absurd h (by omega) | exact fun _ => h6 (by omega)) (by first | exact fun h => absurd h (by omega) | exact fun _ => by omega | exact fun _ => by have := h3 (by omega); omega | exact fun _ => by have := h5 (by omega); omega | exact fun _ => by have := h4 (by omega); omega) (by first | exact fun h => absurd h (by omega) | exact fun _ => by omega) (by omega) (by omega)
            · skip
              refine j_aload_n hX dX11_unit_134 rfl 0 rfl ?_
              refine gf_X11_341 hX (by omega) (by omega) kc_210 dX11_unit_135 ?_
              refine j_top hk_3 ?_
              refine j_bipush hX dX11_unit_138 rfl ?_
              refine j_icmp_ne (tgt := 147) hX dX11_unit_140 (by decide) (by omega) (by omega) (fun hc51 => ?_) (fun hc51 => ?_)
              · skip
                exact ih.2.2.2.1 _ _ _ _ _ _ _ (by omega) (by omega) (by omega) (by omega) (by omega) hI hF hk_0 hk_1 hk_2 hk_3 hk_4 hk_5 hk_6 hk_7 hV_0 (by first | assumption | omega) (by first | assumption | omega) (by first | assumption | omega) (by first | assumption | omega) (by first | exact fun h => absurd h (by omega) | exact fun _ => h6 (by omega)) (by first | exact fun h => absurd h (by omega) | exact fun _ => by omega | exact fun _ => by have := h3 (by omega); omega | exact fun _ => by have := h5 (by omega); omega | exact fun _ => by have := h4 (by omega); omega) (by first | exact fun h => absurd h (by omega) | exact fun _ => by omega) (by omega) (by omega)
              · skip
                refine j_aload_n hX dX11_unit_143 rfl 0 rfl ?_
                refine j_callVV hX lk_X11_256 (c_X11_misplaced _ _ _ _ _ _ _ (by omega) hI hV_0) (by omega) hce rfl rfl (by omega) (by omega) kc_210 rfl rfl (Nat.le_of_ble_eq_true rfl) dX11_unit_144 (fun M53 hp54 => ?_)
                obtain ⟨hI57, hG58, hq59, hq60⟩ := hp54
                have hk62 := kp_fr hG58 (by omega) hk_0
                have hk63 := kp_fr hG58 (by omega) hk_1
                have hk64 := kp_fr hG58 (by omega) hk_2
                have hk65 := kp_fr hG58 (by omega) hk_3
                have hk66 := kp_fr hG58 (by omega) hk_4
                have hk67 := kp_fr hG58 (by omega) hk_5
                have hk68 := kp_fr hG58 (by omega) hk_6
                have hF69 := Fr.trans hF hG58 (fun a b h => by omega)
                exact ih.2.2.2.1 _ _ _ _ _ _ _ (by omega) (by omega) (by omega) (by omega) (by omega) hI57 hF69 hk62 hk63 hk64 hk65 hk66 hk67 hk68 (by first | assumption | rfl) hq59 (by first | assumption | omega) (by first | assumption | omega) (by first | assumption | omega) (by first | assumption | omega) (by first | exact fun h => absurd h (by omega) | exact fun _ => h6 (by omega)) (by first | exact fun h => absurd h (by omega) | exact fun _ => by omega | exact fun _ => by have := h3 (by omega); omega | exact fun _ => by have := h5 (by omega); omega | exact fun _ => by have := h4 (by omega); omega) (by first | exact fun h => absurd h (by omega) | exact fun _ => by omega) (by omega) (by omega)
        · skip
          refine j_iload hX dX11_unit_104 4 rfl ?_
          refine j_if_ne (tgt := 121) hX dX11_unit_106 (by decide) (by omega) (fun hc70 => ?_) (fun hc70 => ?_)
          · skip
            refine j_iload hX dX11_unit_121 5 rfl ?_
            refine j_if_ne (tgt := 143) hX dX11_unit_123 (by decide) (by omega) (fun hc71 => ?_) (fun hc71 => ?_)
            · skip
              refine j_aload_n hX dX11_unit_143 rfl 0 rfl ?_
              refine j_callVV hX lk_X11_256 (c_X11_misplaced _ _ _ _ _ _ _ (by omega) hI hV_0) (by omega) hce rfl rfl (by omega) (by omega) kc_210 rfl rfl (Nat.le_of_ble_eq_true rfl) dX11_unit_144 (fun M73 hp74 => ?_)
              obtain ⟨hI77, hG78, hq79, hq80⟩ := hp74
              have hk82 := kp_fr hG78 (by omega) hk_0
              have hk83 := kp_fr hG78 (by omega) hk_1
              have hk84 := kp_fr hG78 (by omega) hk_2
              have hk85 := kp_fr hG78 (by omega) hk_3
              have hk86 := kp_fr hG78 (by omega) hk_4
              have hk87 := kp_fr hG78 (by omega) hk_5
              have hk88 := kp_fr hG78 (by omega) hk_6
              have hF89 := Fr.trans hF hG78 (fun a b h => by omega)
              exact ih.2.2.2.1 _ _ _ _ _ _ _ (by omega) (by omega) (by omega) (by omega) (by omega) hI77 hF89 hk82 hk83 hk84 hk85 hk86 hk87 hk88 (by first | assumption | rfl) hq79 (by first | assumption | omega) (by first | assumption | omega) (by first | assumption | omega) (by first | assumption | omega) (by first | exact fun h => absurd h (by omega) | exact fun _ => h6 (by omega)) (by first | exact fun h => absurd h (by omega) | exact fun _ => by omega | exact fun _ => by have := h3 (by omega); omega | exact fun _ => by have := h5 (by omega); omega | exact fun _ => by have := h4 (by omega); omega) (by first | exact fun h => absurd h (by omega) | exact fun _ => by omega) (by omega) (by omega)
            · skip
              refine j_iload_n hX dX11_unit_126 rfl 2 rfl ?_
              refine j_if_ne (tgt := 134) hX dX11_unit_127 (by decide) (by omega) (fun hc90 => ?_) (fun hc90 => ?_)
              · skip
                refine j_aload_n hX dX11_unit_134 rfl 0 rfl ?_
                refine gf_X11_341 hX (by omega) (by omega) kc_210 dX11_unit_135 ?_
                refine j_top hk_3 ?_
                refine j_bipush hX dX11_unit_138 rfl ?_
                refine j_icmp_ne (tgt := 147) hX dX11_unit_140 (by decide) (by omega) (by omega) (fun hc91 => ?_) (fun hc91 => ?_)
                · skip
                  exact ih.2.2.2.1 _ _ _ _ _ _ _ (by omega) (by omega) (by omega) (by omega) (by omega) hI hF hk_0 hk_1 hk_2 hk_3 hk_4 hk_5 hk_6 hk_7 hV_0 (by first | assumption | omega) (by first | assumption | omega) (by first | assumption | omega) (by first | assumption | omega) (by first | exact fun h => absurd h (by omega) | exact fun _ => h6 (by omega)) (by first | exact fun h => absurd h (by omega) | exact fun _ => by omega | exact fun _ => by have := h3 (by omega); omega | exact fun _ => by have := h5 (by omega); omega | exact fun _ => by have := h4 (by omega); omega) (by first | exact fun h => absurd h (by omega) | exact fun _ => by omega) (by omega) (by omega)
                · skip
                  refine j_aload_n hX dX11_unit_143 rfl 0 rfl ?_
                  refine j_callVV hX lk_X11_256 (c_X11_misplaced _ _ _ _ _ _ _ (by omega) hI hV_0) (by omega) hce rfl rfl (by omega) (by omega) kc_210 rfl rfl (Nat.le_of_ble_eq_true rfl) dX11_unit_144 (fun M93 hp94 => ?_)
                  obtain ⟨hI97, hG98, hq99, hq100⟩ := hp94
                  have hk102 := kp_fr hG98 (by omega) hk_0
                  have hk103 := kp_fr hG98 (by omega) hk_1
                  have hk104 := kp_fr hG98 (by omega) hk_2
                  have hk105 := kp_fr hG98 (by omega) hk_3
                  have hk106 := kp_fr hG98 (by omega) hk_4
                  have hk107 := kp_fr hG98 (by omega) hk_5
                  have hk108 := kp_fr hG98 (by omega) hk_6
                  have hF109 := Fr.trans hF hG98 (fun a b h => by omega)
                  exact ih.2.2.2.1 _ _ _ _ _ _ _ (by omega) (by omega) (by omega) (by omega) (by omega) hI97 hF109 hk102 hk103 hk104 hk105 hk106 hk107 hk108 (by first | assumption | rfl) hq99 (by first | assumption | omega) (by first | assumption | omega) (by first | assumption | omega) (by first | assumption | omega) (by first | exact fun h => absurd h (by omega) | exact fun _ => h6 (by omega)) (by first | exact fun h => absurd h (by omega) | exact fun _ => by omega | exact fun _ => by have := h3 (by omega); omega | exact fun _ => by have := h5 (by omega); omega | exact fun _ => by have := h4 (by omega); omega) (by first | exact fun h => absurd h (by omega) | exact fun _ => by omega) (by omega) (by omega)
              · skip
                refine j_iload_n hX dX11_unit_130 rfl 3 rfl ?_
                refine j_if_eq (tgt := 147) hX dX11_unit_131 (by decide) (by omega) (fun hc110 => ?_) (fun hc110 => ?_)
                · skip
                  exact ih.2.2.2.1 _ _ _ _ _ _ _ (by omega) (by omega) (by omega) (by omega) (by omega) hI hF hk_0 hk_1 hk_2 hk_3 hk_4 hk_5 hk_6 hk_7 hV_0 (by first | assumption | omega) (by first | assumption | omega) (by first | assumption | omega) (by first | assumption | omega) (by first | exact fun h => absurd h (by omega) | exact fun _ => h6 (by omega)) (by first | exact fun h => absurd h (by omega) | exact fun _ => by omega | exact fun _ => by have := h3 (by omega); omega | exact fun _ => by have := h5 (by omega); omega | exact fun _ => by have := h4 (by omega); omega) (by first | exact fun h => absurd h (by omega) | exact fun _ => by omega) (by omega) (by omega)
                · skip
                  refine j_aload_n hX dX11_unit_134 rfl 0 rfl ?_
                  refine gf_X11_341 hX (by omega) (by omega) kc_210 dX11_unit_135 ?_
                  refine j_top hk_3 ?_
                  refine j_bipush hX dX11_unit_138 rfl ?_
                  refine j_icmp_ne (tgt := 147) hX dX11_unit_140 (by decide) (by omega) (by omega) (fun hc111 => ?_) (fun hc111 => ?_)
                  · skip
                    exact ih.2.2.2.1 _ _ _ _ _ _ _ (by omega) (by omega) (by omega) (by omega) (by omega) hI hF hk_0 hk_1 hk_2 hk_3 hk_4 hk_5 hk_6 hk_7 hV_0 (by first | assumption | omega) (by first | assumption | omega) (by first | assumption | omega) (by first | assumption | omega) (by first | exact fun h => absurd h (by omega) | exact fun _ => h6 (by omega)) (by first | exact fun h => absurd h (by omega) | exact fun _ => by omega | exact fun _ => by have := h3 (by omega); omega | exact fun _ => by have := h5 (by omega); omega | exact fun _ => by have := h4 (by omega); omega) (by first | exact fun h => absurd h (by omega) | exact fun _ => by omega) (by omega) (by omega)
                  · skip
                    refine j_aload_n hX dX11_unit_143 rfl 0 rfl ?_
                    refine j_callVV hX lk_X11_256 (c_X11_misplaced _ _ _ _ _ _ _ (by omega) hI hV_0) (by omega) hce rfl rfl (by omega) (by omega) kc_210 rfl rfl (Nat.le_of_ble_eq_true rfl) dX11_unit_144 (fun M113 hp114 => ?_)
                    obtain ⟨hI117, hG118, hq119, hq120⟩ := hp114
                    have hk122 := kp_fr hG118 (by omega) hk_0
                    have hk123 := kp_fr hG118 (by omega) hk_1
                    have hk124 := kp_fr hG118 (by omega) hk_2
                    have hk125 := kp_fr hG118 (by omega) hk_3
                    have hk126 := kp_fr hG118 (by omega) hk_4
                    have hk127 := kp_fr hG118 (by omega) hk_5
                    have hk128 := kp_fr hG118 (by omega) hk_6
                    have hF129 := Fr.trans hF hG118 (fun a b h => by omega)
                    exact ih.2.2.2.1 _ _ _ _ _ _ _ (by omega) (by omega) (by omega) (by omega) (by omega) hI117 hF129 hk122 hk123 hk124 hk125 hk126 hk127 hk128 (by first | assumption | rfl) hq119 (by first | assumption | omega) (by first | assumption | omega) (by first | assumption | omega) (by first | assumption | omega) (by first | exact fun h => absurd h (by omega) | exact fun _ => h6 (by omega)) (by first | exact fun h => absurd h (by omega) | exact fun _ => by omega | exact fun _ => by have := h3 (by omega); omega | exact fun _ => by have := h5 (by omega); omega | exact fun _ => by have := h4 (by omega); omega) (by first | exact fun h => absurd h (by omega) | exact fun _ => by omega) (by omega) (by omega)
          · skip
            refine j_aload_n hX dX11_unit_109 rfl 0 rfl ?_
            refine gf_X11_221 hX (by omega) (by omega) kc_210 dX11_unit_110 ?_
            refine j_top hk_2 ?_
            refine j_iconst hX dX11_unit_113 ?_
            refine j_icmp_eq (tgt := 121) hX dX11_unit_114 (by decide) (by omega) (by omega) (fun hc130 => ?_) (fun hc130 => ?_)
            · skip
              refine j_iload hX dX11_unit_121 5 rfl ?_
              refine j_if_ne (tgt := 143) hX dX11_unit_123 (by decide) (by omega) (fun hc131 => ?_) (fun hc131 => ?_)
              · skip
                refine j_aload_n hX dX11_unit_143 rfl 0 rfl ?_
                refine j_callVV hX lk_X11_256 (c_X11_misplaced _ _ _ _ _ _ _ (by omega) hI hV_0) (by omega) hce rfl rfl (by omega) (by omega) kc_210 rfl rfl (Nat.le_of_ble_eq_true rfl) dX11_unit_144 (fun M133 hp134 => ?_)
                obtain ⟨hI137, hG138, hq139, hq140⟩ := hp134
                have hk142 := kp_fr hG138 (by omega) hk_0
                have hk143 := kp_fr hG138 (by omega) hk_1
                have hk144 := kp_fr hG138 (by omega) hk_2
                have hk145 := kp_fr hG138 (by omega) hk_3
                have hk146 := kp_fr hG138 (by omega) hk_4
                have hk147 := kp_fr hG138 (by omega) hk_5
                have hk148 := kp_fr hG138 (by omega) hk_6
                have hF149 := Fr.trans hF hG138 (fun a b h => by omega)
                exact ih.2.2.2.1 _ _ _ _ _ _ _ (by omega) (by omega) (by omega) (by omega) (by omega) hI137 hF149 hk142 hk143 hk144 hk145 hk146 hk147 hk148 (by first | assumption | rfl) hq139 (by first | assumption | omega) (by first | assumption | omega) (by first | assumption | omega) (by first | assumption | omega) (by first | exact fun h => absurd h (by omega) | exact fun _ => h6 (by omega)) (by first | exact fun h => absurd h (by omega) | exact fun _ => by omega | exact fun _ => by have := h3 (by omega); omega | exact fun _ => by have := h5 (by omega); omega | exact fun _ => by have := h4 (by omega); omega) (by first | exact fun h => absurd h (by omega) | exact fun _ => by omega) (by omega) (by omega)
              · skip
                refine j_iload_n hX dX11_unit_126 rfl 2 rfl ?_
                refine j_if_ne (tgt := 134) hX dX11_unit_127 (by decide) (by omega) (fun hc150 => ?_) (fun hc150 => ?_)
                · skip
                  refine j_aload_n hX dX11_unit_134 rfl 0 rfl ?_
                  refine gf_X11_341 hX (by omega) (by omega) kc_210 dX11_unit_135 ?_
                  refine j_top hk_3 ?_
                  refine j_bipush hX dX11_unit_138 rfl ?_
                  refine j_icmp_ne (tgt := 147) hX dX11_unit_140 (by decide) (by omega) (by omega) (fun hc151 => ?_) (fun hc151 => ?_)
                  · skip
                    exact ih.2.2.2.1 _ _ _ _ _ _ _ (by omega) (by omega) (by omega) (by omega) (by omega) hI hF hk_0 hk_1 hk_2 hk_3 hk_4 hk_5 hk_6 hk_7 hV_0 (by first | assumption | omega) (by first | assumption | omega) (by first | assumption | omega) (by first | assumption | omega) (by first | exact fun h => absurd h (by omega) | exact fun _ => h6 (by omega)) (by first | exact fun h => absurd h (by omega) | exact fun _ => by omega | exact fun _ => by have := h3 (by omega); omega | exact fun _ => by have := h5 (by omega); omega | exact fun _ => by have := h4 (by omega); omega) (by first | exact fun h => absurd h (by omega) | exact fun _ => by omega) (by omega) (by omega)
                  · skip
                    refine j_aload_n hX dX11_unit_143 rfl 0 rfl ?_
                    refine j_callVV hX lk_X11_256 (c_X11_misplaced _ _ _ _ _ _ _ (by omega) hI hV_0) (by omega) hce rfl rfl (by omega) (by omega) kc_210 rfl rfl (Nat.le_of_ble_eq_true rfl) dX11_unit_144 (fun M153 hp154 => ?_)
                    obtain ⟨hI157, hG158, hq159, hq160⟩ := hp154
                    have hk162 := kp_fr hG158 (by omega) hk_0
                    have hk163 := kp_fr hG158 (by omega) hk_1
                    have hk164 := kp_fr hG158 (by omega) hk_2
                    have hk165 := kp_fr hG158 (by omega) hk_3
                    have hk166 := kp_fr hG158 (by omega) hk_4
                    have hk167 := kp_fr hG158 (by omega) hk_5
                    have hk168 := kp_fr hG158 (by omega) hk_6
                    have hF169 := Fr.trans hF hG158 (fun a b h => by omega)
                    exact ih.2.2.2.1 _ _ _ _ _ _ _ (by omega) (by omega) (by omega) (by omega) (by omega) hI157 hF169 hk162 hk163 hk164 hk165 hk166 hk167 hk168 (by first | assumption | rfl) hq159 (by first | assumption | omega) (by first | assumption | omega) (by first | assumption | omega) (by first | assumption | omega) (by first | exact fun h => absurd h (by omega) | exact fun _ => h6 (by omega)) (by first | exact fun h => absurd h (by omega) | exact fun _ => by omega | exact fun _ => by have := h3 (by omega); omega | exact fun _ => by have := h5 (by omega); omega | exact fun _ => by have := h4 (by omega); omega) (by first | exact fun h => absurd h (by omega) | exact fun _ => by omega) (by omega) (by omega)
                · skip
                  refine j_iload_n hX dX11_unit_130 rfl 3 rfl ?_
                  refine j_if_eq (tgt := 147) hX dX11_unit_131 (by decide) (by omega) (fun hc170 => ?_) (fun hc170 => ?_)
                  · skip
                    exact ih.2.2.2.1 _ _ _ _ _ _ _ (by omega) (by omega) (by omega) (by omega) (by omega) hI hF hk_0 hk_1 hk_2 hk_3 hk_4 hk_5 hk_6 hk_7 hV_0 (by first | assumption | omega) (by first | assumption | omega) (by first | assumption | omega) (by first | assumption | omega) (by first | exact fun h => absurd h (by omega) | exact fun _ => h6 (by omega)) (by first | exact fun h => absurd h (by omega) | exact fun _ => by omega | exact fun _ => by have := h3 (by omega); omega | exact fun _ => by have := h5 (by omega); omega | exact fun _ => by have := h4 (by omega); omega) (by first | exact fun h => absurd h (by omega) | exact fun _ => by omega) (by omega) (by omega)
                  · skip
                    refine j_aload_n hX dX11_unit_134 rfl 0 rfl ?_
                    refine gf_X11_341 hX (by omega) (by omega) kc_210 dX11_unit_135 ?_
                    refine j_top hk_3 ?_
                    refine j_bipush hX dX11_unit_138 rfl ?_
                    refine j_icmp_ne (tgt := 147) hX dX11_unit_140 (by decide) (by omega) (by omega) (fun hc171 => ?_) (fun hc171 => ?_)
                    · skip
                      exact ih.2.2.2.1 _ _ _ _ _ _ _ (by omega) (by omega) (by omega) (by omega) (by omega) hI hF hk_0 hk_1 hk_2 hk_3 hk_4 hk_5 hk_6 hk_7 hV_0 (by first | assumption | omega) (by first | assumption | omega) (by first | assumption | omega) (by first | assumption | omega) (by first | exact fun h => absurd h (by omega) | exact fun _ => h6 (by omega)) (by first | exact fun h => absurd h (by omega) | exact fun _ => by omega | exact fun _ => by have := h3 (by omega); omega | exact fun _ => by have := h5 (by omega); omega | exact fun _ => by have := h4 (by omega); omega) (by first | exact fun h => absurd h (by omega) | exact fun _ => by omega) (by omega) (by omega)
                    · skip
                      refine j_aload_n hX dX11_unit_143 rfl 0 rfl ?_
                      refine j_callVV hX lk_X11_256 (c_X11_misplaced _ _ _ _ _ _ _ (by omega) hI hV_0) (by omega) hce rfl rfl (by omega) (by omega) kc_210 rfl rfl (Nat.le_of_ble_eq_true rfl) dX11_unit_144 (fun M173 hp174 => ?_)
                      obtain ⟨hI177, hG178, hq179, hq180⟩ := hp174
                      have hk182 := kp_fr hG178 (by omega) hk_0
                      have hk183 := kp_fr hG178 (by omega) hk_1
                      have hk184 := kp_fr hG178 (by omega) hk_2
                      have hk185 := kp_fr hG178 (by omega) hk_3
                      have hk186 := kp_fr hG178 (by omega) hk_4
                      have hk187 := kp_fr hG178 (by omega) hk_5
                      have hk188 := kp_fr hG178 (by omega) hk_6
                      have hF189 := Fr.trans hF hG178 (fun a b h => by omega)
                      exact ih.2.2.2.1 _ _ _ _ _ _ _ (by omega) (by omega) (by omega) (by omega) (by omega) hI177 hF189 hk182 hk183 hk184 hk185 hk186 hk187 hk188 (by first | assumption | rfl) hq179 (by first | assumption | omega) (by first | assumption | omega) (by first | assumption | omega) (by first | assumption | omega) (by first | exact fun h => absurd h (by omega) | exact fun _ => h6 (by omega)) (by first | exact fun h => absurd h (by omega) | exact fun _ => by omega | exact fun _ => by have := h3 (by omega); omega | exact fun _ => by have := h5 (by omega); omega | exact fun _ => by have := h4 (by omega); omega) (by first | exact fun h => absurd h (by omega) | exact fun _ => by omega) (by omega) (by omega)
            · skip
              refine j_iload_n hX dX11_unit_117 rfl 3 rfl ?_
              refine j_if_eq (tgt := 143) hX dX11_unit_118 (by decide) (by omega) (fun hc190 => ?_) (fun hc190 => ?_)
              · skip
                refine j_aload_n hX dX11_unit_143 rfl 0 rfl ?_
                refine j_callVV hX lk_X11_256 (c_X11_misplaced _ _ _ _ _ _ _ (by omega) hI hV_0) (by omega) hce rfl rfl (by omega) (by omega) kc_210 rfl rfl (Nat.le_of_ble_eq_true rfl) dX11_unit_144 (fun M192 hp193 => ?_)
                obtain ⟨hI196, hG197, hq198, hq199⟩ := hp193
                have hk201 := kp_fr hG197 (by omega) hk_0
                have hk202 := kp_fr hG197 (by omega) hk_1
                have hk203 := kp_fr hG197 (by omega) hk_2
                have hk204 := kp_fr hG197 (by omega) hk_3
                have hk205 := kp_fr hG197 (by omega) hk_4
                have hk206 := kp_fr hG197 (by omega) hk_5
                have hk207 := kp_fr hG197 (by omega) hk_6
                have hF208 := Fr.trans hF hG197 (fun a b h => by omega)
                exact ih.2.2.2.1 _ _ _ _ _ _ _ (by omega) (by omega) (by omega) (by omega) (by omega) hI196 hF208 hk201 hk202 hk203 hk204 hk205 hk206 hk207 (by first | assumption | rfl) hq198 (by first | assumption | omega) (by first | assumption | omega) (by first | assumption | omega) (by first | assumption | omega) (by first | exact fun h => absurd h (by omega) | exact fun _ => h6 (by omega)) (by first | exact fun h => absurd h (by omega) | exact fun _ => by omega | exact fun _ => by have := h3 (by omega); omega | exact fun _ => by have := h5 (by omega); omega | exact fun _ => by have := h4 (by omega); omega) (by first | exact fun h => absurd h (by omega) | exact fun _ => by omega) (by omega) (by omega)
              · skip
                refine j_iload hX dX11_unit_121 5 rfl ?_
                refine j_if_ne (tgt := 143) hX dX11_unit_123 (by decide) (by omega) (fun hc209 => ?_) (fun hc209 => ?_)
                · skip
                  refine j_aload_n hX dX11_unit_143 rfl 0 rfl ?_
                  refine j_callVV hX lk_X11_256 (c_X11_misplaced _ _ _ _ _ _ _ (by omega) hI hV_0) (by omega) hce rfl rfl (by omega) (by omega) kc_210 rfl rfl (Nat.le_of_ble_eq_true rfl) dX11_unit_144 (fun M211 hp212 => ?_)
                  obtain ⟨hI215, hG216, hq217, hq218⟩ := hp212
                  have hk220 := kp_fr hG216 (by omega) hk_0
                  have hk221 := kp_fr hG216 (by omega) hk_1
                  have hk222 := kp_fr hG216 (by omega) hk_2
                  have hk223 := kp_fr hG216 (by omega) hk_3
                  have hk224 := kp_fr hG216 (by omega) hk_4
                  have hk225 := kp_fr hG216 (by omega) hk_5
                  have hk226 := kp_fr hG216 (by omega) hk_6
                  have hF227 := Fr.trans hF hG216 (fun a b h => by omega)
                  exact ih.2.2.2.1 _ _ _ _ _ _ _ (by omega) (by omega) (by omega) (by omega) (by omega) hI215 hF227 hk220 hk221 hk222 hk223 hk224 hk225 hk226 (by first | assumption | rfl) hq217 (by first | assumption | omega) (by first | assumption | omega) (by first | assumption | omega) (by first | assumption | omega) (by first | exact fun h => absurd h (by omega) | exact fun _ => h6 (by omega)) (by first | exact fun h => absurd h (by omega) | exact fun _ => by omega | exact fun _ => by have := h3 (by omega); omega | exact fun _ => by have := h5 (by omega); omega | exact fun _ => by have := h4 (by omega); omega) (by first | exact fun h => absurd h (by omega) | exact fun _ => by omega) (by omega) (by omega)
                · skip
                  refine j_iload_n hX dX11_unit_126 rfl 2 rfl ?_
                  refine j_if_ne (tgt := 134) hX dX11_unit_127 (by decide) (by omega) (fun hc228 => ?_) (fun hc228 => ?_)
                  · skip
                    refine j_aload_n hX dX11_unit_134 rfl 0 rfl ?_
                    refine gf_X11_341 hX (by omega) (by omega) kc_210 dX11_unit_135 ?_
                    refine j_top hk_3 ?_
                    refine j_bipush hX dX11_unit_138 rfl ?_
                    refine j_icmp_ne (tgt := 147) hX dX11_unit_140 (by decide) (by omega) (by omega) (fun hc229 => ?_) (fun hc229 => ?_)
                    · skip
                      exact ih.2.2.2.1 _ _ _ _ _ _ _ (by omega) (by omega) (by omega) (by omega) (by omega) hI hF hk_0 hk_1 hk_2 hk_3 hk_4 hk_5 hk_6 hk_7 hV_0 (by first | assumption | omega) (by first | assumption | omega) (by first | assumption | omega) (by first | assumption | omega) (by first | exact fun h => absurd h (by omega) | exact fun _ => h6 (by omega)) (by first | exact fun h => absurd h (by omega) | exact fun _ => by omega | exact fun _ => by have := h3 (by omega); omega | exact fun _ => by have := h5 (by omega); omega | exact fun _ => by have := h4 (by omega); omega) (by first | exact fun h => absurd h (by omega) | exact fun _ => by omega) (by omega) (by omega)
                    · skip
                      refine j_aload_n hX dX11_unit_143 rfl 0 rfl ?_
                      refine j_callVV hX lk_X11_256 (c_X11_misplaced _ _ _ _ _ _ _ (by omega) hI hV_0) (by omega) hce rfl rfl (by omega) (by omega) kc_210 rfl rfl (Nat.le_of_ble_eq_true rfl) dX11_unit_144 (fun M231 hp232 => ?_)
                      obtain ⟨hI235, hG236, hq237, hq238⟩ := hp232
                      have hk240 := kp_fr hG236 (by omega) hk_0
                      have hk241 := kp_fr hG236 (by omega) hk_1
                      have hk242 := kp_fr hG236 (by omega) hk_2
                      have hk243 := kp_fr hG236 (by omega) hk_3
                      have hk244 := kp_fr hG236 (by omega) hk_4
                      have hk245 := kp_fr hG236 (by omega) hk_5
                      have hk246 := kp_fr hG236 (by omega) hk_6
                      have hF247 := Fr.trans hF hG236 (fun a b h => by omega)
                      exact ih.2.2.2.1 _ _ _ _ _ _ _ (by omega) (by omega) (by omega) (by omega) (by omega) hI235 hF247 hk240 hk241 hk242 hk243 hk244 hk245 hk246 (by first | assumption | rfl) hq237 (by first | assumption | omega) (by first | assumption | omega) (by first | assumption | omega) (by first | assumption | omega) (by first | exact fun h => absurd h (by omega) | exact fun _ => h6 (by omega)) (by first | exact fun h => absurd h (by omega) | exact fun _ => by omega | exact fun _ => by have := h3 (by omega); omega | exact fun _ => by have := h5 (by omega); omega | exact fun _ => by have := h4 (by omega); omega) (by first | exact fun h => absurd h (by omega) | exact fun _ => by omega) (by omega) (by omega)
                  · skip
                    refine j_iload_n hX dX11_unit_130 rfl 3 rfl ?_
                    refine j_if_eq (tgt := 147) hX dX11_unit_131 (by decide) (by omega) (fun hc248 => ?_) (fun hc248 => ?_)
                    · skip
                      exact ih.2.2.2.1 _ _ _ _ _ _ _ (by omega) (by omega) (by omega) (by omega) (by omega) hI hF hk_0 hk_1 hk_2 hk_3 hk_4 hk_5 hk_6 hk_7 hV_0 (by first | assumption | omega) (by first | assumption | omega) (by first | assumption | omega) (by first | assumption | omega) (by first | exact fun h => absurd h (by omega) | exact fun _ => h6 (by omega)) (by first | exact fun h => absurd h (by omega) | exact fun _ => by omega | exact fun _ => by have := h3 (by omega); omega | exact fun _ => by have := h5 (by omega); omega | exact fun _ => by have := h4 (by omega); omega) (by first | exact fun h => absurd h (by omega) | exact fun _ => by omega) (by omega) (by omega)
                    · skip
                      refine j_aload_n hX dX11_unit_134 rfl 0 rfl ?_
                      refine gf_X11_341 hX (by omega) (by omega) kc_210 dX11_unit_135 ?_
                      refine j_top hk_3 ?_
                      refine j_bipush hX dX11_unit_138 rfl ?_
                      refine j_icmp_ne (tgt := 147) hX dX11_unit_140 (by decide) (by omega) (by omega) (fun hc249 => ?_) (fun hc249 => ?_)
                      · skip
                        exact ih.2.2.2.1 _ _ _ _ _ _ _ (by omega) (by omega) (by omega) (by omega) (by omega) hI hF hk_0 hk_1 hk_2 hk_3 hk_4 hk_5 hk_6 hk_7 hV_0 (by first | assumption | omega) (by first | assumption | omega) (by first | assumption | omega) (by first | assumption | omega) (by first | exact fun h => absurd h (by omega) | exact fun _ => h6 (by omega)) (by first | exact fun h => absurd h (by omega) | exact fun _ => by omega | exact fun _ => by have := h3 (by omega); omega | exact fun _ => by have := h5 (by omega); omega | exact fun _ => by have := h4 (by omega); omega) (by first | exact fun h => absurd h (by omega) | exact fun _ => by omega) (by omega) (by omega)
                      · skip
                        refine j_aload_n hX dX11_unit_143 rfl 0 rfl ?_
                        refine j_callVV hX lk_X11_256 (c_X11_misplaced _ _ _ _ _ _ _ (by omega) hI hV_0) (by omega) hce rfl rfl (by omega) (by omega) kc_210 rfl rfl (Nat.le_of_ble_eq_true rfl) dX11_unit_144 (fun M251 hp252 => ?_)
                        obtain ⟨hI255, hG256, hq257, hq258⟩ := hp252
                        have hk260 := kp_fr hG256 (by omega) hk_0
                        have hk261 := kp_fr hG256 (by omega) hk_1
                        have hk262 := kp_fr hG256 (by omega) hk_2
                        have hk263 := kp_fr hG256 (by omega) hk_3
                        have hk264 := kp_fr hG256 (by omega) hk_4
                        have hk265 := kp_fr hG256 (by omega) hk_5
                        have hk266 := kp_fr hG256 (by omega) hk_6
                        have hF267 := Fr.trans hF hG256 (fun a b h => by omega)
                        exact ih.2.2.2.1 _ _ _ _ _ _ _ (by omega) (by omega) (by omega) (by omega) (by omega) hI255 hF267 hk260 hk261 hk262 hk263 hk264 hk265 hk266 (by first | assumption | rfl) hq257 (by first | assumption | omega) (by first | assumption | omega) (by first | assumption | omega) (by first | assumption | omega) (by first | exact fun h => absurd h (by omega) | exact fun _ => h6 (by omega)) (by first | exact fun h => absurd h (by omega) | exact fun _ => by omega | exact fun _ => by have := h3 (by omega); omega | exact fun _ => by have := h5 (by omega); omega | exact fun _ => by have := h4 (by omega); omega) (by first | exact fun h => absurd h (by omega) | exact fun _ => by omega) (by omega) (by omega)
      · intro x1 x2 x3 x4 x5 fk2 Mc hxx1 hxx2 hxx3 hxx4 hxx5 hI hF hk_0 hk_1 hk_2 hk_3 hk_4 hk_5 hk_6 hk_7 hV_0 h2 h3 h4 h5 h6 h7 h8 hm0 hm1
        refine j_aload_n hX dX11_unit_147 rfl 0 rfl ?_
        refine j_callVI hX lk_X11_249 (c_X11_isGood _ _ _ _ _ _ (by omega) hI) (by omega) hce rfl rfl (by omega) (by omega) kc_210 rfl rfl (Nat.le_of_ble_eq_true rfl) dX11_unit_148 (fun z268 M269 hz271 hp270 => ?_)
        obtain ⟨hE272, hb273, hq274, hq275⟩ := hp270
        replace hE272 := hE272.symm
        subst hE272
        refine j_if_ne (tgt := 156) hX dX11_unit_151 (by decide) (by omega) (fun hc276 => ?_) (fun hc276 => ?_)
        · skip
          have hi277 := hq274 (by omega)
          clear hq274
          clear hq275
          have htk := h7 (by omega)
          refine j_aload_n hX dX11_unit_156 rfl 0 rfl ?_
          refine gf_X11_30 hX (by omega) (by omega) kc_210 (fc_210_14 hI) (by decide) dX11_unit_157 ?_
          refine j_aload_n hX dX11_unit_160 rfl 0 rfl ?_
          refine gf_X11_270 hX (by omega) (by omega) kc_210 dX11_unit_161 ?_
          refine j_top hk_5 ?_
          refine j_dup2 hX dX11_unit_164 rfl rfl ?_
          refine j_iald hX (by omega) (by omega) kc_216 (by omega) (by omega) (by omega) dX11_unit_165 ?_
          refine j_top hk_6 ?_
          refine j_iload_n hX dX11_unit_166 rfl 2 rfl ?_
          refine j_if_eq (tgt := 174) hX dX11_unit_167 (by decide) (by omega) (fun hc278 => ?_) (fun hc278 => ?_)
          · skip
            have hfu := h6 (by omega)
            refine j_iconst hX dX11_unit_174 ?_
            refine j_iadd hX dX11_unit_175 ?_
            refine j_iast hX (by omega) (by omega) kc_216 (by omega) (by omega) (by omega) (by omega) dX11_unit_176 ?_
            refine j_up hI (ra_216 _) (by omega) (by omega) (Or.inl (by omega)) (fun M279 w280 hw281 hM282 hI283 hf284 => ?_)
            have hV285 := ML_dp (M' := M279) hV_0 (fun a b h => by rw [hM282]; exact up_ne (by omega))
            have hk286 := kp_up hM282 (fun h => absurd h.1 (by decide)) hk_0
            have hk287 := kp_up hM282 (fun h => absurd h.1 (by decide)) hk_1
            have hk288 := kp_up hM282 (fun h => absurd h.1 (by decide)) hk_2
            have hk289 := kp_up hM282 (fun h => absurd h.1 (by decide)) hk_3
            have hk290 := kp_up hM282 (fun h => absurd h.1 (by decide)) hk_4
            have hk291 := kp_up hM282 (fun h => absurd h.1 (by decide)) hk_5
            have hk292 := kp_up hM282 (fun h => absurd h.1 (by decide)) hk_7
            have hF293 := Fr.put hF hM282 (by omega)
            refine j_aload_n hX dX11_unit_177 rfl 0 rfl ?_
            refine j_dup hX dX11_unit_178 rfl ?_
            refine gf_X11_332 hX (by omega) (by omega) kc_210 dX11_unit_179 ?_
            refine j_top hk290 ?_
            refine j_iload_n hX dX11_unit_182 rfl 2 rfl ?_
            refine j_if_eq (tgt := 190) hX dX11_unit_183 (by decide) (by omega) (fun hc294 => ?_) (fun hc294 => ?_)
            · skip
              refine j_iconst hX dX11_unit_190 ?_
              refine j_iadd hX dX11_unit_191 ?_
              refine pf_X11_332 hX (by omega) (by omega) kc_210 (by omega) dX11_unit_192 ?_
              refine j_up hI283 ro_210_45 (by omega) (by omega) (Or.inl (by omega)) (fun M295 w296 hw297 hM298 hI299 hf300 => ?_)
              have hV301 := ML_dp (M' := M295) hV285 (fun a b h => by rw [hM298]; exact up_ne (by omega))
              have hk302 := kp_up hM298 (fun h => absurd h.2 (by decide)) hk286
              have hk303 := kp_up hM298 (fun h => absurd h.2 (by decide)) hk287
              have hk304 := kp_up hM298 (fun h => absurd h.2 (by decide)) hk288
              have hk305 := kp_up hM298 (fun h => absurd h.2 (by decide)) hk289
              have hk306 := kp_up hM298 (fun h => absurd h.2 (by decide)) hk291
              have hk307 := kp_up hM298 (fun h => absurd h.2 (by decide)) hk292
              clear hk286 hk287 hk288 hk289 hk290 hk291 hk292
              have hF308 := Fr.put hF293 hM298 (by omega)
              exact ih.2.2.2.2 _ _ _ _ _ _ _ _ (by omega) (by omega) (by omega) (by omega) (by omega) hI299 hF308 hk302 hk303 hk304 hk305 hk306 hk307 hf300 hV301 (by first | assumption | omega) (by first | assumption | omega) (by first | assumption | exact fun h => absurd h (by omega) | exact fun _ => by omega) (by first | assumption | omega) (fun h => h8 (by omega)) (by omega) (by omega)
            · skip
              refine j_iconst hX dX11_unit_186 ?_
              refine j_goto (tgt := 191) hX dX11_unit_187 (by decide) ?_
              refine j_iadd hX dX11_unit_191 ?_
              refine pf_X11_332 hX (by omega) (by omega) kc_210 (by omega) dX11_unit_192 ?_
              refine j_up hI283 ro_210_45 (by omega) (by omega) (Or.inl (by omega)) (fun M309 w310 hw311 hM312 hI313 hf314 => ?_)
              have hV315 := ML_dp (M' := M309) hV285 (fun a b h => by rw [hM312]; exact up_ne (by omega))
              have hk316 := kp_up hM312 (fun h => absurd h.2 (by decide)) hk286
              have hk317 := kp_up hM312 (fun h => absurd h.2 (by decide)) hk287
              have hk318 := kp_up hM312 (fun h => absurd h.2 (by decide)) hk288
              have hk319 := kp_up hM312 (fun h => absurd h.2 (by decide)) hk289
              have hk320 := kp_up hM312 (fun h => absurd h.2 (by decide)) hk291
              have hk321 := kp_up hM312 (fun h => absurd h.2 (by decide)) hk292
              clear hk286 hk287 hk288 hk289 hk290 hk291 hk292
              have hF322 := Fr.put hF293 hM312 (by omega)
              exact ih.2.2.2.2 _ _ _ _ _ _ _ _ (by omega) (by omega) (by omega) (by omega) (by omega) hI313 hF322 hk316 hk317 hk318 hk319 hk320 hk321 hf314 hV315 (by first | assumption | omega) (by first | assumption | omega) (by first | assumption | exact fun h => absurd h (by omega) | exact fun _ => by omega) (by first | assumption | omega) (fun h => h8 (by omega)) (by omega) (by omega)
          · skip
            refine j_iconst hX dX11_unit_170 ?_
            refine j_goto (tgt := 175) hX dX11_unit_171 (by decide) ?_
            refine j_iadd hX dX11_unit_175 ?_
            refine j_iast hX (by omega) (by omega) kc_216 (by omega) (by omega) (by omega) (by omega) dX11_unit_176 ?_
            refine j_up hI (ra_216 _) (by omega) (by omega) (Or.inl (by omega)) (fun M323 w324 hw325 hM326 hI327 hf328 => ?_)
            have hV329 := ML_dp (M' := M323) hV_0 (fun a b h => by rw [hM326]; exact up_ne (by omega))
            have hk330 := kp_up hM326 (fun h => absurd h.1 (by decide)) hk_0
            have hk331 := kp_up hM326 (fun h => absurd h.1 (by decide)) hk_1
            have hk332 := kp_up hM326 (fun h => absurd h.1 (by decide)) hk_2
            have hk333 := kp_up hM326 (fun h => absurd h.1 (by decide)) hk_3
            have hk334 := kp_up hM326 (fun h => absurd h.1 (by decide)) hk_4
            have hk335 := kp_up hM326 (fun h => absurd h.1 (by decide)) hk_5
            have hk336 := kp_up hM326 (fun h => absurd h.1 (by decide)) hk_7
            have hF337 := Fr.put hF hM326 (by omega)
            refine j_aload_n hX dX11_unit_177 rfl 0 rfl ?_
            refine j_dup hX dX11_unit_178 rfl ?_
            refine gf_X11_332 hX (by omega) (by omega) kc_210 dX11_unit_179 ?_
            refine j_top hk334 ?_
            refine j_iload_n hX dX11_unit_182 rfl 2 rfl ?_
            refine j_if_eq (tgt := 190) hX dX11_unit_183 (by decide) (by omega) (fun hc338 => ?_) (fun hc338 => ?_)
            · skip
              refine j_iconst hX dX11_unit_190 ?_
              refine j_iadd hX dX11_unit_191 ?_
              refine pf_X11_332 hX (by omega) (by omega) kc_210 (by omega) dX11_unit_192 ?_
              refine j_up hI327 ro_210_45 (by omega) (by omega) (Or.inl (by omega)) (fun M339 w340 hw341 hM342 hI343 hf344 => ?_)
              have hV345 := ML_dp (M' := M339) hV329 (fun a b h => by rw [hM342]; exact up_ne (by omega))
              have hk346 := kp_up hM342 (fun h => absurd h.2 (by decide)) hk330
              have hk347 := kp_up hM342 (fun h => absurd h.2 (by decide)) hk331
              have hk348 := kp_up hM342 (fun h => absurd h.2 (by decide)) hk332
              have hk349 := kp_up hM342 (fun h => absurd h.2 (by decide)) hk333
              have hk350 := kp_up hM342 (fun h => absurd h.2 (by decide)) hk335
              have hk351 := kp_up hM342 (fun h => absurd h.2 (by decide)) hk336
              clear hk330 hk331 hk332 hk333 hk334 hk335 hk336
              have hF352 := Fr.put hF337 hM342 (by omega)
              exact ih.2.2.2.2 _ _ _ _ _ _ _ _ (by omega) (by omega) (by omega) (by omega) (by omega) hI343 hF352 hk346 hk347 hk348 hk349 hk350 hk351 hf344 hV345 (by first | assumption | omega) (by first | assumption | omega) (by first | assumption | exact fun h => absurd h (by omega) | exact fun _ => by omega) (by first | assumption | omega) (fun h => h8 (by omega)) (by omega) (by omega)
            · skip
              refine j_iconst hX dX11_unit_186 ?_
              refine j_goto (tgt := 191) hX dX11_unit_187 (by decide) ?_
              refine j_iadd hX dX11_unit_191 ?_
              refine pf_X11_332 hX (by omega) (by omega) kc_210 (by omega) dX11_unit_192 ?_
              refine j_up hI327 ro_210_45 (by omega) (by omega) (Or.inl (by omega)) (fun M353 w354 hw355 hM356 hI357 hf358 => ?_)
              have hV359 := ML_dp (M' := M353) hV329 (fun a b h => by rw [hM356]; exact up_ne (by omega))
              have hk360 := kp_up hM356 (fun h => absurd h.2 (by decide)) hk330
              have hk361 := kp_up hM356 (fun h => absurd h.2 (by decide)) hk331
              have hk362 := kp_up hM356 (fun h => absurd h.2 (by decide)) hk332
              have hk363 := kp_up hM356 (fun h => absurd h.2 (by decide)) hk333
              have hk364 := kp_up hM356 (fun h => absurd h.2 (by decide)) hk335
              have hk365 := kp_up hM356 (fun h => absurd h.2 (by decide)) hk336
              clear hk330 hk331 hk332 hk333 hk334 hk335 hk336
              have hF366 := Fr.put hF337 hM356 (by omega)
              exact ih.2.2.2.2 _ _ _ _ _ _ _ _ (by omega) (by omega) (by omega) (by omega) (by omega) hI357 hF366 hk360 hk361 hk362 hk363 hk364 hk365 hf358 hV359 (by first | assumption | omega) (by first | assumption | omega) (by first | assumption | exact fun h => absurd h (by omega) | exact fun _ => by omega) (by first | assumption | omega) (fun h => h8 (by omega)) (by omega) (by omega)
        · skip
          clear hq274
          have hi367 := hq275 (by omega)
          clear hq275
          refine j_iconst hX dX11_unit_154 ?_
          exact hret _ _ _ _ dX11_unit_155 (nb (by omega)) (by omega) ⟨hI, hF, by omega, by first | exact noRel | exact ML_bad (by have := ML_1 hML (by omega); omega) (by omega), by omega, by first | exact fun h => absurd h (by omega) | exact fun _ => PT_1 (PS_pw (u := 1 - x2) hPS hunp (fun i h => hF 239 i (by omega)) (fun i h => hF 240 i (by omega)) (fun i h => hF 237 i (by omega)) (by omega) (by omega) (by omega) (by omega) (by omega) (by omega) (by omega)) | exact fun _ => PT_0 (PS_em hPS hucd (by omega) (by omega) (fun i h => hF 239 i (by omega)) (fun i h => hF 240 i (by omega)) (fun i h => hF 237 i (by omega)) (by omega) (by omega) (by omega) (by omega) (by omega))⟩
      · intro x1 x2 x3 x4 x5 fk2 u2 Mc hxx1 hxx2 hxx3 hxx4 hxx5 hI hF hk_0 hk_1 hk_2 hk_3 hk_4 hk_5 hk_6 hV_0 h2 h5 h6 h7 h8 hm0 hm1
        refine j_iload hX dX11_unit_195 4 rfl ?_
        refine j_if_ne (tgt := 207) hX dX11_unit_197 (by decide) (by omega) (fun hc368 => ?_) (fun hc368 => ?_)
        · skip
          refine j_iconst hX dX11_unit_207 ?_
          refine j_istore (lv' := [(6, _), (0, _), (1, _), (2, _), (3, _), (4, _), (5, _)]) hX dX11_unit_208 (by rw [hnL]; decide) rfl ?_
          refine j_aload_n hX dX11_unit_210 rfl 1 rfl ?_
          refine j_callVV hX lk_X11_253 (c_X11_goOn _ _ _ _ _ _ _ _ (by omega) hI (by first | assumption | rfl) hV_0) (by omega) hce rfl rfl (by omega) (by omega) kc_210 rfl rfl (Nat.le_of_ble_eq_true rfl) dX11_unit_211 (fun M370 hp371 => ?_)
          obtain ⟨hI374, hG375, hq376, hq377⟩ := hp371
          have hk379 := kp_fr hG375 (by omega) hk_0
          have hk380 := kp_fr hG375 (by omega) hk_1
          have hk381 := kp_fr hG375 (by omega) hk_3
          have hk382 := kp_fr hG375 (by omega) hk_4
          have hk383 := kp_fr hG375 (by omega) hk_5
          have hk384 := kp_fr hG375 (by omega) hk_6
          have hF385 := Fr.trans hF hG375 (fun a b h => by omega)
          have hV386 := hq377 (by omega) (by omega)
          refine j_iload_n hX dX11_unit_214 rfl 3 rfl ?_
          refine j_if_ne (tgt := 222) hX dX11_unit_215 (by decide) (by omega) (fun hc387 => ?_) (fun hc387 => ?_)
          · skip
            refine j_aload_n hX dX11_unit_222 rfl 1 rfl ?_
            refine j_iload_n hX dX11_unit_223 rfl 3 rfl ?_
            refine j_if_eq (tgt := 231) hX dX11_unit_224 (by decide) (by omega) (fun hc388 => ?_) (fun hc388 => ?_)
            · skip
              refine j_bipush hX dX11_unit_231 rfl ?_
              refine j_bipush hX dX11_unit_233 rfl ?_
              refine j_callVV hX lk_X11_344 (c_X11_pushE _ _ _ _ _ _ _ _ _ (by omega) hI374 (by omega) (by omega) hk379 (by first | assumption | omega)) (by omega) hce rfl rfl (by omega) (by omega) kc_210 rfl rfl (Nat.le_of_ble_eq_true rfl) dX11_unit_235 (fun M390 hp391 => ?_)
              obtain ⟨hI394, hG395, hq396⟩ := hp391
              have hV397 := ML_dp hq376 (fun a b h => hG395 a b (by omega))
              have hV398 := ML_dp hV386 (fun a b h => hG395 a b (by omega))
              have hk399 := kp_fr hG395 (by omega) hk380
              have hk400 := kp_fr hG395 (by omega) hk381
              have hk401 := kp_fr hG395 (by omega) hk382
              have hk402 := kp_fr hG395 (by omega) hk383
              have hk403 := kp_fr hG395 (by omega) hk384
              clear hk379 hk380 hk381 hk382 hk383 hk384
              have hF404 := Fr.trans hF385 hG395 (fun a b h => by omega)
              obtain ⟨hp1, hp2, hp3⟩ := hq396
              have hwi6 := h8 (by omega)
              refine j_aload_n hX dX11_unit_238 rfl 1 rfl ?_
              refine j_dup hX dX11_unit_239 rfl ?_
              refine gf_X11_341 hX (by omega) (by omega) kc_210 dX11_unit_240 ?_
              refine j_top hk400 ?_
              refine j_iconst hX dX11_unit_243 ?_
              refine j_iadd hX dX11_unit_244 ?_
              refine pf_X11_341 hX (by omega) (by omega) kc_210 (by omega) dX11_unit_245 ?_
              refine j_up hI394 ro_210_43 (by omega) (by omega) (Or.inl (by omega)) (fun M405 w406 hw407 hM408 hI409 hf410 => ?_)
              have hV411 := ML_dp (M' := M405) hV397 (fun a b h => by rw [hM408]; exact up_ne (by omega))
              have hV412 := ML_dp (M' := M405) hV398 (fun a b h => by rw [hM408]; exact up_ne (by omega))
              have hk413 := kp_up hM408 (fun h => absurd h.2 (by decide)) hk399
              have hk414 := kp_up hM408 (fun h => absurd h.2 (by decide)) hk401
              have hk415 := kp_up hM408 (fun h => absurd h.2 (by decide)) hk402
              have hk416 := kp_up hM408 (fun h => absurd h.2 (by decide)) hk403
              have hk417 := kp_up hM408 (fun h => absurd h.1 (by decide)) hp1
              have hk418 := kp_up hM408 (fun h => absurd h.1 (by decide)) hp2
              have hk419 := kp_up hM408 (fun h => absurd h.2 (by decide)) hp3
              clear hk399 hk400 hk401 hk402 hk403
              have hF420 := Fr.put hF404 hM408 (by omega)
              refine j_iconst hX dX11_unit_248 ?_
              exact hret _ _ _ _ dX11_unit_249 (nb (by omega)) (by omega) ⟨hI409, hF420, by omega, by first | exact hV412 | exact ML_bad (by have := ML_1 hML (by omega); omega) (by omega), by omega, by first | exact fun h => absurd h (by omega) | exact fun _ => PT_1 (PS_pw (u := 1 - x2) hPS hunp (fun i h => hF420 239 i (by omega)) (fun i h => hF420 240 i (by omega)) (fun i h => hF420 237 i (by omega)) (by omega) (by omega) (by omega) (by omega) (by omega) (by omega) (by omega)) | exact fun _ => PT_0 (PS_em hPS hucd (by omega) (by omega) (fun i h => hF420 239 i (by omega)) (fun i h => hF420 240 i (by omega)) (fun i h => hF420 237 i (by omega)) (by omega) (by omega) (by omega) (by omega) (by omega))⟩
            · skip
              refine j_iconst hX dX11_unit_227 ?_
              refine j_goto (tgt := 233) hX dX11_unit_228 (by decide) ?_
              refine j_bipush hX dX11_unit_233 rfl ?_
              refine j_callVV hX lk_X11_344 (c_X11_pushE _ _ _ _ _ _ _ _ _ (by omega) hI374 (by omega) (by omega) hk379 (by first | assumption | omega)) (by omega) hce rfl rfl (by omega) (by omega) kc_210 rfl rfl (Nat.le_of_ble_eq_true rfl) dX11_unit_235 (fun M422 hp423 => ?_)
              obtain ⟨hI426, hG427, hq428⟩ := hp423
              have hV429 := ML_dp hq376 (fun a b h => hG427 a b (by omega))
              have hV430 := ML_dp hV386 (fun a b h => hG427 a b (by omega))
              have hk431 := kp_fr hG427 (by omega) hk380
              have hk432 := kp_fr hG427 (by omega) hk381
              have hk433 := kp_fr hG427 (by omega) hk382
              have hk434 := kp_fr hG427 (by omega) hk383
              have hk435 := kp_fr hG427 (by omega) hk384
              clear hk379 hk380 hk381 hk382 hk383 hk384
              have hF436 := Fr.trans hF385 hG427 (fun a b h => by omega)
              obtain ⟨hp1, hp2, hp3⟩ := hq428
              have hwi6 := h8 (by omega)
              refine j_aload_n hX dX11_unit_238 rfl 1 rfl ?_
              refine j_dup hX dX11_unit_239 rfl ?_
              refine gf_X11_341 hX (by omega) (by omega) kc_210 dX11_unit_240 ?_
              refine j_top hk432 ?_
              refine j_iconst hX dX11_unit_243 ?_
              refine j_iadd hX dX11_unit_244 ?_
              refine pf_X11_341 hX (by omega) (by omega) kc_210 (by omega) dX11_unit_245 ?_
              refine j_up hI426 ro_210_43 (by omega) (by omega) (Or.inl (by omega)) (fun M437 w438 hw439 hM440 hI441 hf442 => ?_)
              have hV443 := ML_dp (M' := M437) hV429 (fun a b h => by rw [hM440]; exact up_ne (by omega))
              have hV444 := ML_dp (M' := M437) hV430 (fun a b h => by rw [hM440]; exact up_ne (by omega))
              have hk445 := kp_up hM440 (fun h => absurd h.2 (by decide)) hk431
              have hk446 := kp_up hM440 (fun h => absurd h.2 (by decide)) hk433
              have hk447 := kp_up hM440 (fun h => absurd h.2 (by decide)) hk434
              have hk448 := kp_up hM440 (fun h => absurd h.2 (by decide)) hk435
              have hk449 := kp_up hM440 (fun h => absurd h.1 (by decide)) hp1
              have hk450 := kp_up hM440 (fun h => absurd h.1 (by decide)) hp2
              have hk451 := kp_up hM440 (fun h => absurd h.2 (by decide)) hp3
              clear hk431 hk432 hk433 hk434 hk435
              have hF452 := Fr.put hF436 hM440 (by omega)
              refine j_iconst hX dX11_unit_248 ?_
              exact hret _ _ _ _ dX11_unit_249 (nb (by omega)) (by omega) ⟨hI441, hF452, by omega, by first | exact hV444 | exact ML_bad (by have := ML_1 hML (by omega); omega) (by omega), by omega, by first | exact fun h => absurd h (by omega) | exact fun _ => PT_1 (PS_pw (u := 1 - x2) hPS hunp (fun i h => hF452 239 i (by omega)) (fun i h => hF452 240 i (by omega)) (fun i h => hF452 237 i (by omega)) (by omega) (by omega) (by omega) (by omega) (by omega) (by omega) (by omega)) | exact fun _ => PT_0 (PS_em hPS hucd (by omega) (by omega) (fun i h => hF452 239 i (by omega)) (fun i h => hF452 240 i (by omega)) (fun i h => hF452 237 i (by omega)) (by omega) (by omega) (by omega) (by omega) (by omega))⟩
          · skip
            refine j_iload_n hX dX11_unit_218 rfl 4 rfl ?_
            refine j_if_eq (tgt := 250) hX dX11_unit_219 (by decide) (by omega) (fun hc453 => ?_) (fun hc453 => ?_)
            · skip
              have hu29 := h6 (by omega)
              refine j_aload_n hX dX11_unit_250 rfl 1 rfl ?_
              refine j_iload hX dX11_unit_251 5 rfl ?_
              refine j_if_ne (tgt := 261) hX dX11_unit_253 (by decide) (by omega) (fun hc454 => ?_) (fun hc454 => ?_)
              · skip
                have hx4 := h5 (by omega)
                refine j_iload hX dX11_unit_261 5 rfl ?_
                refine j_iload hX dX11_unit_263 0 rfl ?_
                refine j_callVV hX lk_X11_356 (c_X11_emit _ _ _ _ _ _ _ _ _ (by omega) hI374 (by omega) (by omega) hk380 (by first | assumption | omega)) (by omega) hce rfl rfl (by omega) (by omega) kc_210 rfl rfl (Nat.le_of_ble_eq_true rfl) dX11_unit_265 (fun M456 hp457 => ?_)
                obtain ⟨hI460, hG461, hq462⟩ := hp457
                have hV463 := ML_dp hq376 (fun a b h => hG461 a b (by omega))
                have hV464 := ML_dp hV386 (fun a b h => hG461 a b (by omega))
                have hk465 := kp_fr hG461 (by omega) hk379
                have hk466 := kp_fr hG461 (by omega) hk381
                have hk467 := kp_fr hG461 (by omega) hk382
                have hk468 := kp_fr hG461 (by omega) hk383
                have hk469 := kp_fr hG461 (by omega) hk384
                clear hk379 hk380 hk381 hk382 hk383 hk384
                have hF470 := Fr.trans hF385 hG461 (fun a b h => by omega)
                obtain ⟨hp1, hp2⟩ := hq462
                refine j_iconst hX dX11_unit_268 ?_
                exact hret _ _ _ _ dX11_unit_269 (nb (by omega)) (by omega) ⟨hI460, hF470, by omega, by first | exact hV464 | exact ML_bad (by have := ML_1 hML (by omega); omega) (by omega), by omega, by first | exact fun h => absurd h (by omega) | exact fun _ => PT_1 (PS_pw (u := 1 - x2) hPS hunp (fun i h => hF470 239 i (by omega)) (fun i h => hF470 240 i (by omega)) (fun i h => hF470 237 i (by omega)) (by omega) (by omega) (by omega) (by omega) (by omega) (by omega) (by omega)) | exact fun _ => PT_0 (PS_em hPS hucd (by omega) (by omega) (fun i h => hF470 239 i (by omega)) (fun i h => hF470 240 i (by omega)) (fun i h => hF470 237 i (by omega)) (by omega) (by omega) (by omega) (by omega) (by omega))⟩
              · skip
                refine j_bipush hX dX11_unit_256 rfl ?_
                refine j_goto (tgt := 263) hX dX11_unit_258 (by decide) ?_
                refine j_iload hX dX11_unit_263 0 rfl ?_
                refine j_callVV hX lk_X11_356 (c_X11_emit _ _ _ _ _ _ _ _ _ (by omega) hI374 (by omega) (by omega) hk380 (by first | assumption | omega)) (by omega) hce rfl rfl (by omega) (by omega) kc_210 rfl rfl (Nat.le_of_ble_eq_true rfl) dX11_unit_265 (fun M472 hp473 => ?_)
                obtain ⟨hI476, hG477, hq478⟩ := hp473
                have hV479 := ML_dp hq376 (fun a b h => hG477 a b (by omega))
                have hV480 := ML_dp hV386 (fun a b h => hG477 a b (by omega))
                have hk481 := kp_fr hG477 (by omega) hk379
                have hk482 := kp_fr hG477 (by omega) hk381
                have hk483 := kp_fr hG477 (by omega) hk382
                have hk484 := kp_fr hG477 (by omega) hk383
                have hk485 := kp_fr hG477 (by omega) hk384
                clear hk379 hk380 hk381 hk382 hk383 hk384
                have hF486 := Fr.trans hF385 hG477 (fun a b h => by omega)
                obtain ⟨hp1, hp2⟩ := hq478
                refine j_iconst hX dX11_unit_268 ?_
                exact hret _ _ _ _ dX11_unit_269 (nb (by omega)) (by omega) ⟨hI476, hF486, by omega, by first | exact hV480 | exact ML_bad (by have := ML_1 hML (by omega); omega) (by omega), by omega, by first | exact fun h => absurd h (by omega) | exact fun _ => PT_1 (PS_pw (u := 1 - x2) hPS hunp (fun i h => hF486 239 i (by omega)) (fun i h => hF486 240 i (by omega)) (fun i h => hF486 237 i (by omega)) (by omega) (by omega) (by omega) (by omega) (by omega) (by omega) (by omega)) | exact fun _ => PT_0 (PS_em hPS hucd (by omega) (by omega) (fun i h => hF486 239 i (by omega)) (fun i h => hF486 240 i (by omega)) (fun i h => hF486 237 i (by omega)) (by omega) (by omega) (by omega) (by omega) (by omega))⟩
            · skip
              refine j_aload_n hX dX11_unit_222 rfl 1 rfl ?_
              refine j_iload_n hX dX11_unit_223 rfl 3 rfl ?_
              refine j_if_eq (tgt := 231) hX dX11_unit_224 (by decide) (by omega) (fun hc487 => ?_) (fun hc487 => ?_)
              · skip
                refine j_bipush hX dX11_unit_231 rfl ?_
                refine j_bipush hX dX11_unit_233 rfl ?_
                refine j_callVV hX lk_X11_344 (c_X11_pushE _ _ _ _ _ _ _ _ _ (by omega) hI374 (by omega) (by omega) hk379 (by first | assumption | omega)) (by omega) hce rfl rfl (by omega) (by omega) kc_210 rfl rfl (Nat.le_of_ble_eq_true rfl) dX11_unit_235 (fun M489 hp490 => ?_)
                obtain ⟨hI493, hG494, hq495⟩ := hp490
                have hV496 := ML_dp hq376 (fun a b h => hG494 a b (by omega))
                have hV497 := ML_dp hV386 (fun a b h => hG494 a b (by omega))
                have hk498 := kp_fr hG494 (by omega) hk380
                have hk499 := kp_fr hG494 (by omega) hk381
                have hk500 := kp_fr hG494 (by omega) hk382
                have hk501 := kp_fr hG494 (by omega) hk383
                have hk502 := kp_fr hG494 (by omega) hk384
                clear hk379 hk380 hk381 hk382 hk383 hk384
                have hF503 := Fr.trans hF385 hG494 (fun a b h => by omega)
                obtain ⟨hp1, hp2, hp3⟩ := hq495
                have hwi6 := h8 (by omega)
                refine j_aload_n hX dX11_unit_238 rfl 1 rfl ?_
                refine j_dup hX dX11_unit_239 rfl ?_
                refine gf_X11_341 hX (by omega) (by omega) kc_210 dX11_unit_240 ?_
                refine j_top hk499 ?_
                refine j_iconst hX dX11_unit_243 ?_
                refine j_iadd hX dX11_unit_244 ?_
                refine pf_X11_341 hX (by omega) (by omega) kc_210 (by omega) dX11_unit_245 ?_
                refine j_up hI493 ro_210_43 (by omega) (by omega) (Or.inl (by omega)) (fun M504 w505 hw506 hM507 hI508 hf509 => ?_)
                have hV510 := ML_dp (M' := M504) hV496 (fun a b h => by rw [hM507]; exact up_ne (by omega))
                have hV511 := ML_dp (M' := M504) hV497 (fun a b h => by rw [hM507]; exact up_ne (by omega))
                have hk512 := kp_up hM507 (fun h => absurd h.2 (by decide)) hk498
                have hk513 := kp_up hM507 (fun h => absurd h.2 (by decide)) hk500
                have hk514 := kp_up hM507 (fun h => absurd h.2 (by decide)) hk501
                have hk515 := kp_up hM507 (fun h => absurd h.2 (by decide)) hk502
                have hk516 := kp_up hM507 (fun h => absurd h.1 (by decide)) hp1
                have hk517 := kp_up hM507 (fun h => absurd h.1 (by decide)) hp2
                have hk518 := kp_up hM507 (fun h => absurd h.2 (by decide)) hp3
                clear hk498 hk499 hk500 hk501 hk502
                have hF519 := Fr.put hF503 hM507 (by omega)
                refine j_iconst hX dX11_unit_248 ?_
                exact hret _ _ _ _ dX11_unit_249 (nb (by omega)) (by omega) ⟨hI508, hF519, by omega, by first | exact hV511 | exact ML_bad (by have := ML_1 hML (by omega); omega) (by omega), by omega, by first | exact fun h => absurd h (by omega) | exact fun _ => PT_1 (PS_pw (u := 1 - x2) hPS hunp (fun i h => hF519 239 i (by omega)) (fun i h => hF519 240 i (by omega)) (fun i h => hF519 237 i (by omega)) (by omega) (by omega) (by omega) (by omega) (by omega) (by omega) (by omega)) | exact fun _ => PT_0 (PS_em hPS hucd (by omega) (by omega) (fun i h => hF519 239 i (by omega)) (fun i h => hF519 240 i (by omega)) (fun i h => hF519 237 i (by omega)) (by omega) (by omega) (by omega) (by omega) (by omega))⟩
              · skip
                refine j_iconst hX dX11_unit_227 ?_
                refine j_goto (tgt := 233) hX dX11_unit_228 (by decide) ?_
                refine j_bipush hX dX11_unit_233 rfl ?_
                refine j_callVV hX lk_X11_344 (c_X11_pushE _ _ _ _ _ _ _ _ _ (by omega) hI374 (by omega) (by omega) hk379 (by first | assumption | omega)) (by omega) hce rfl rfl (by omega) (by omega) kc_210 rfl rfl (Nat.le_of_ble_eq_true rfl) dX11_unit_235 (fun M521 hp522 => ?_)
                obtain ⟨hI525, hG526, hq527⟩ := hp522
                have hV528 := ML_dp hq376 (fun a b h => hG526 a b (by omega))
                have hV529 := ML_dp hV386 (fun a b h => hG526 a b (by omega))
                have hk530 := kp_fr hG526 (by omega) hk380
                have hk531 := kp_fr hG526 (by omega) hk381
                have hk532 := kp_fr hG526 (by omega) hk382
                have hk533 := kp_fr hG526 (by omega) hk383
                have hk534 := kp_fr hG526 (by omega) hk384
                clear hk379 hk380 hk381 hk382 hk383 hk384
                have hF535 := Fr.trans hF385 hG526 (fun a b h => by omega)
                obtain ⟨hp1, hp2, hp3⟩ := hq527
                have hwi6 := h8 (by omega)
                refine j_aload_n hX dX11_unit_238 rfl 1 rfl ?_
                refine j_dup hX dX11_unit_239 rfl ?_
                refine gf_X11_341 hX (by omega) (by omega) kc_210 dX11_unit_240 ?_
                refine j_top hk531 ?_
                refine j_iconst hX dX11_unit_243 ?_
                refine j_iadd hX dX11_unit_244 ?_
                refine pf_X11_341 hX (by omega) (by omega) kc_210 (by omega) dX11_unit_245 ?_
                refine j_up hI525 ro_210_43 (by omega) (by omega) (Or.inl (by omega)) (fun M536 w537 hw538 hM539 hI540 hf541 => ?_)
                have hV542 := ML_dp (M' := M536) hV528 (fun a b h => by rw [hM539]; exact up_ne (by omega))
                have hV543 := ML_dp (M' := M536) hV529 (fun a b h => by rw [hM539]; exact up_ne (by omega))
                have hk544 := kp_up hM539 (fun h => absurd h.2 (by decide)) hk530
                have hk545 := kp_up hM539 (fun h => absurd h.2 (by decide)) hk532
                have hk546 := kp_up hM539 (fun h => absurd h.2 (by decide)) hk533
                have hk547 := kp_up hM539 (fun h => absurd h.2 (by decide)) hk534
                have hk548 := kp_up hM539 (fun h => absurd h.1 (by decide)) hp1
                have hk549 := kp_up hM539 (fun h => absurd h.1 (by decide)) hp2
                have hk550 := kp_up hM539 (fun h => absurd h.2 (by decide)) hp3
                clear hk530 hk531 hk532 hk533 hk534
                have hF551 := Fr.put hF535 hM539 (by omega)
                refine j_iconst hX dX11_unit_248 ?_
                exact hret _ _ _ _ dX11_unit_249 (nb (by omega)) (by omega) ⟨hI540, hF551, by omega, by first | exact hV543 | exact ML_bad (by have := ML_1 hML (by omega); omega) (by omega), by omega, by first | exact fun h => absurd h (by omega) | exact fun _ => PT_1 (PS_pw (u := 1 - x2) hPS hunp (fun i h => hF551 239 i (by omega)) (fun i h => hF551 240 i (by omega)) (fun i h => hF551 237 i (by omega)) (by omega) (by omega) (by omega) (by omega) (by omega) (by omega) (by omega)) | exact fun _ => PT_0 (PS_em hPS hucd (by omega) (by omega) (fun i h => hF551 239 i (by omega)) (fun i h => hF551 240 i (by omega)) (fun i h => hF551 237 i (by omega)) (by omega) (by omega) (by omega) (by omega) (by omega))⟩
        · skip
          refine j_aload_n hX dX11_unit_200 rfl 0 rfl ?_
          refine gf_X11_239 hX (by omega) (by omega) kc_210 dX11_unit_201 ?_
          refine j_name hI ro_210_9 (fun v552 hv553 hl554 hh555 => ?_)
          have hk556 := hv553.symm
          refine j_goto (tgt := 208) hX dX11_unit_204 (by decide) ?_
          refine j_istore (lv' := [(6, _), (0, _), (1, _), (2, _), (3, _), (4, _), (5, _)]) hX dX11_unit_208 (by rw [hnL]; decide) rfl ?_
          refine j_aload_n hX dX11_unit_210 rfl 1 rfl ?_
          refine j_callVV hX lk_X11_253 (c_X11_goOn _ _ _ _ _ _ _ _ (by omega) hI (by first | assumption | rfl) hV_0) (by omega) hce rfl rfl (by omega) (by omega) kc_210 rfl rfl (Nat.le_of_ble_eq_true rfl) dX11_unit_211 (fun M558 hp559 => ?_)
          obtain ⟨hI562, hG563, hq564, hq565⟩ := hp559
          have hk567 := kp_fr hG563 (by omega) hk_0
          have hk568 := kp_fr hG563 (by omega) hk_1
          have hk569 := kp_fr hG563 (by omega) hk_3
          have hk570 := kp_fr hG563 (by omega) hk_4
          have hk571 := kp_fr hG563 (by omega) hk_5
          have hk572 := kp_fr hG563 (by omega) hk_6
          clear hk556
          have hF573 := Fr.trans hF hG563 (fun a b h => by omega)
          have hV574 := hq565 (by omega) (by omega)
          refine j_iload_n hX dX11_unit_214 rfl 3 rfl ?_
          refine j_if_ne (tgt := 222) hX dX11_unit_215 (by decide) (by omega) (fun hc575 => ?_) (fun hc575 => ?_)
          · skip
            refine j_aload_n hX dX11_unit_222 rfl 1 rfl ?_
            refine j_iload_n hX dX11_unit_223 rfl 3 rfl ?_
            refine j_if_eq (tgt := 231) hX dX11_unit_224 (by decide) (by omega) (fun hc576 => ?_) (fun hc576 => ?_)
            · skip
              refine j_bipush hX dX11_unit_231 rfl ?_
              refine j_bipush hX dX11_unit_233 rfl ?_
              refine j_callVV hX lk_X11_344 (c_X11_pushE _ _ _ _ _ _ _ _ _ (by omega) hI562 (by omega) (by omega) hk567 (by first | assumption | omega)) (by omega) hce rfl rfl (by omega) (by omega) kc_210 rfl rfl (Nat.le_of_ble_eq_true rfl) dX11_unit_235 (fun M578 hp579 => ?_)
              obtain ⟨hI582, hG583, hq584⟩ := hp579
              have hV585 := ML_dp hq564 (fun a b h => hG583 a b (by omega))
              have hV586 := ML_dp hV574 (fun a b h => hG583 a b (by omega))
              have hk587 := kp_fr hG583 (by omega) hk568
              have hk588 := kp_fr hG583 (by omega) hk569
              have hk589 := kp_fr hG583 (by omega) hk570
              have hk590 := kp_fr hG583 (by omega) hk571
              have hk591 := kp_fr hG583 (by omega) hk572
              clear hk567 hk568 hk569 hk570 hk571 hk572
              have hF592 := Fr.trans hF573 hG583 (fun a b h => by omega)
              obtain ⟨hp1, hp2, hp3⟩ := hq584
              have hwi6 := h8 (by omega)
              refine j_aload_n hX dX11_unit_238 rfl 1 rfl ?_
              refine j_dup hX dX11_unit_239 rfl ?_
              refine gf_X11_341 hX (by omega) (by omega) kc_210 dX11_unit_240 ?_
              refine j_top hk588 ?_
              refine j_iconst hX dX11_unit_243 ?_
              refine j_iadd hX dX11_unit_244 ?_
              refine pf_X11_341 hX (by omega) (by omega) kc_210 (by omega) dX11_unit_245 ?_
              refine j_up hI582 ro_210_43 (by omega) (by omega) (Or.inl (by omega)) (fun M593 w594 hw595 hM596 hI597 hf598 => ?_)
              have hV599 := ML_dp (M' := M593) hV585 (fun a b h => by rw [hM596]; exact up_ne (by omega))
              have hV600 := ML_dp (M' := M593) hV586 (fun a b h => by rw [hM596]; exact up_ne (by omega))
              have hk601 := kp_up hM596 (fun h => absurd h.2 (by decide)) hk587
              have hk602 := kp_up hM596 (fun h => absurd h.2 (by decide)) hk589
              have hk603 := kp_up hM596 (fun h => absurd h.2 (by decide)) hk590
              have hk604 := kp_up hM596 (fun h => absurd h.2 (by decide)) hk591
              have hk605 := kp_up hM596 (fun h => absurd h.1 (by decide)) hp1
              have hk606 := kp_up hM596 (fun h => absurd h.1 (by decide)) hp2
              have hk607 := kp_up hM596 (fun h => absurd h.2 (by decide)) hp3
              clear hk587 hk588 hk589 hk590 hk591
              have hF608 := Fr.put hF592 hM596 (by omega)
              refine j_iconst hX dX11_unit_248 ?_
              exact hret _ _ _ _ dX11_unit_249 (nb (by omega)) (by omega) ⟨hI597, hF608, by omega, by first | exact hV600 | exact ML_bad (by have := ML_1 hML (by omega); omega) (by omega), by omega, by first | exact fun h => absurd h (by omega) | exact fun _ => PT_1 (PS_pw (u := 1 - x2) hPS hunp (fun i h => hF608 239 i (by omega)) (fun i h => hF608 240 i (by omega)) (fun i h => hF608 237 i (by omega)) (by omega) (by omega) (by omega) (by omega) (by omega) (by omega) (by omega)) | exact fun _ => PT_0 (PS_em hPS hucd (by omega) (by omega) (fun i h => hF608 239 i (by omega)) (fun i h => hF608 240 i (by omega)) (fun i h => hF608 237 i (by omega)) (by omega) (by omega) (by omega) (by omega) (by omega))⟩
            · skip
              refine j_iconst hX dX11_unit_227 ?_
              refine j_goto (tgt := 233) hX dX11_unit_228 (by decide) ?_
              refine j_bipush hX dX11_unit_233 rfl ?_
              refine j_callVV hX lk_X11_344 (c_X11_pushE _ _ _ _ _ _ _ _ _ (by omega) hI562 (by omega) (by omega) hk567 (by first | assumption | omega)) (by omega) hce rfl rfl (by omega) (by omega) kc_210 rfl rfl (Nat.le_of_ble_eq_true rfl) dX11_unit_235 (fun M610 hp611 => ?_)
              obtain ⟨hI614, hG615, hq616⟩ := hp611
              have hV617 := ML_dp hq564 (fun a b h => hG615 a b (by omega))
              have hV618 := ML_dp hV574 (fun a b h => hG615 a b (by omega))
              have hk619 := kp_fr hG615 (by omega) hk568
              have hk620 := kp_fr hG615 (by omega) hk569
              have hk621 := kp_fr hG615 (by omega) hk570
              have hk622 := kp_fr hG615 (by omega) hk571
              have hk623 := kp_fr hG615 (by omega) hk572
              clear hk567 hk568 hk569 hk570 hk571 hk572
              have hF624 := Fr.trans hF573 hG615 (fun a b h => by omega)
              obtain ⟨hp1, hp2, hp3⟩ := hq616
              have hwi6 := h8 (by omega)
              refine j_aload_n hX dX11_unit_238 rfl 1 rfl ?_
              refine j_dup hX dX11_unit_239 rfl ?_
              refine gf_X11_341 hX (by omega) (by omega) kc_210 dX11_unit_240 ?_
              refine j_top hk620 ?_
              refine j_iconst hX dX11_unit_243 ?_
              refine j_iadd hX dX11_unit_244 ?_
              refine pf_X11_341 hX (by omega) (by omega) kc_210 (by omega) dX11_unit_245 ?_
              refine j_up hI614 ro_210_43 (by omega) (by omega) (Or.inl (by omega)) (fun M625 w626 hw627 hM628 hI629 hf630 => ?_)
              have hV631 := ML_dp (M' := M625) hV617 (fun a b h => by rw [hM628]; exact up_ne (by omega))
              have hV632 := ML_dp (M' := M625) hV618 (fun a b h => by rw [hM628]; exact up_ne (by omega))
              have hk633 := kp_up hM628 (fun h => absurd h.2 (by decide)) hk619
              have hk634 := kp_up hM628 (fun h => absurd h.2 (by decide)) hk621
              have hk635 := kp_up hM628 (fun h => absurd h.2 (by decide)) hk622
              have hk636 := kp_up hM628 (fun h => absurd h.2 (by decide)) hk623
              have hk637 := kp_up hM628 (fun h => absurd h.1 (by decide)) hp1
              have hk638 := kp_up hM628 (fun h => absurd h.1 (by decide)) hp2
              have hk639 := kp_up hM628 (fun h => absurd h.2 (by decide)) hp3
              clear hk619 hk620 hk621 hk622 hk623
              have hF640 := Fr.put hF624 hM628 (by omega)
              refine j_iconst hX dX11_unit_248 ?_
              exact hret _ _ _ _ dX11_unit_249 (nb (by omega)) (by omega) ⟨hI629, hF640, by omega, by first | exact hV632 | exact ML_bad (by have := ML_1 hML (by omega); omega) (by omega), by omega, by first | exact fun h => absurd h (by omega) | exact fun _ => PT_1 (PS_pw (u := 1 - x2) hPS hunp (fun i h => hF640 239 i (by omega)) (fun i h => hF640 240 i (by omega)) (fun i h => hF640 237 i (by omega)) (by omega) (by omega) (by omega) (by omega) (by omega) (by omega) (by omega)) | exact fun _ => PT_0 (PS_em hPS hucd (by omega) (by omega) (fun i h => hF640 239 i (by omega)) (fun i h => hF640 240 i (by omega)) (fun i h => hF640 237 i (by omega)) (by omega) (by omega) (by omega) (by omega) (by omega))⟩
          · skip
            refine j_iload_n hX dX11_unit_218 rfl 4 rfl ?_
            refine j_if_eq (tgt := 250) hX dX11_unit_219 (by decide) (by omega) (fun hc641 => ?_) (fun hc641 => ?_)
            · skip
              have hu29 := h6 (by omega)
              refine j_aload_n hX dX11_unit_250 rfl 1 rfl ?_
              refine j_iload hX dX11_unit_251 5 rfl ?_
              refine j_if_ne (tgt := 261) hX dX11_unit_253 (by decide) (by omega) (fun hc642 => ?_) (fun hc642 => ?_)
              · skip
                have hx4 := h5 (by omega)
                refine j_iload hX dX11_unit_261 5 rfl ?_
                refine j_iload hX dX11_unit_263 0 rfl ?_
                refine j_callVV hX lk_X11_356 (c_X11_emit _ _ _ _ _ _ _ _ _ (by omega) hI562 (by omega) (by omega) hk568 (by first | assumption | omega)) (by omega) hce rfl rfl (by omega) (by omega) kc_210 rfl rfl (Nat.le_of_ble_eq_true rfl) dX11_unit_265 (fun M644 hp645 => ?_)
                obtain ⟨hI648, hG649, hq650⟩ := hp645
                have hV651 := ML_dp hq564 (fun a b h => hG649 a b (by omega))
                have hV652 := ML_dp hV574 (fun a b h => hG649 a b (by omega))
                have hk653 := kp_fr hG649 (by omega) hk567
                have hk654 := kp_fr hG649 (by omega) hk569
                have hk655 := kp_fr hG649 (by omega) hk570
                have hk656 := kp_fr hG649 (by omega) hk571
                have hk657 := kp_fr hG649 (by omega) hk572
                clear hk567 hk568 hk569 hk570 hk571 hk572
                have hF658 := Fr.trans hF573 hG649 (fun a b h => by omega)
                obtain ⟨hp1, hp2⟩ := hq650
                refine j_iconst hX dX11_unit_268 ?_
                exact hret _ _ _ _ dX11_unit_269 (nb (by omega)) (by omega) ⟨hI648, hF658, by omega, by first | exact hV652 | exact ML_bad (by have := ML_1 hML (by omega); omega) (by omega), by omega, by first | exact fun h => absurd h (by omega) | exact fun _ => PT_1 (PS_pw (u := 1 - x2) hPS hunp (fun i h => hF658 239 i (by omega)) (fun i h => hF658 240 i (by omega)) (fun i h => hF658 237 i (by omega)) (by omega) (by omega) (by omega) (by omega) (by omega) (by omega) (by omega)) | exact fun _ => PT_0 (PS_em hPS hucd (by omega) (by omega) (fun i h => hF658 239 i (by omega)) (fun i h => hF658 240 i (by omega)) (fun i h => hF658 237 i (by omega)) (by omega) (by omega) (by omega) (by omega) (by omega))⟩
              · skip
                refine j_bipush hX dX11_unit_256 rfl ?_
                refine j_goto (tgt := 263) hX dX11_unit_258 (by decide) ?_
                refine j_iload hX dX11_unit_263 0 rfl ?_
                refine j_callVV hX lk_X11_356 (c_X11_emit _ _ _ _ _ _ _ _ _ (by omega) hI562 (by omega) (by omega) hk568 (by first | assumption | omega)) (by omega) hce rfl rfl (by omega) (by omega) kc_210 rfl rfl (Nat.le_of_ble_eq_true rfl) dX11_unit_265 (fun M660 hp661 => ?_)
                obtain ⟨hI664, hG665, hq666⟩ := hp661
                have hV667 := ML_dp hq564 (fun a b h => hG665 a b (by omega))
                have hV668 := ML_dp hV574 (fun a b h => hG665 a b (by omega))
                have hk669 := kp_fr hG665 (by omega) hk567
                have hk670 := kp_fr hG665 (by omega) hk569
                have hk671 := kp_fr hG665 (by omega) hk570
                have hk672 := kp_fr hG665 (by omega) hk571
                have hk673 := kp_fr hG665 (by omega) hk572
                clear hk567 hk568 hk569 hk570 hk571 hk572
                have hF674 := Fr.trans hF573 hG665 (fun a b h => by omega)
                obtain ⟨hp1, hp2⟩ := hq666
                refine j_iconst hX dX11_unit_268 ?_
                exact hret _ _ _ _ dX11_unit_269 (nb (by omega)) (by omega) ⟨hI664, hF674, by omega, by first | exact hV668 | exact ML_bad (by have := ML_1 hML (by omega); omega) (by omega), by omega, by first | exact fun h => absurd h (by omega) | exact fun _ => PT_1 (PS_pw (u := 1 - x2) hPS hunp (fun i h => hF674 239 i (by omega)) (fun i h => hF674 240 i (by omega)) (fun i h => hF674 237 i (by omega)) (by omega) (by omega) (by omega) (by omega) (by omega) (by omega) (by omega)) | exact fun _ => PT_0 (PS_em hPS hucd (by omega) (by omega) (fun i h => hF674 239 i (by omega)) (fun i h => hF674 240 i (by omega)) (fun i h => hF674 237 i (by omega)) (by omega) (by omega) (by omega) (by omega) (by omega))⟩
            · skip
              refine j_aload_n hX dX11_unit_222 rfl 1 rfl ?_
              refine j_iload_n hX dX11_unit_223 rfl 3 rfl ?_
              refine j_if_eq (tgt := 231) hX dX11_unit_224 (by decide) (by omega) (fun hc675 => ?_) (fun hc675 => ?_)
              · skip
                refine j_bipush hX dX11_unit_231 rfl ?_
                refine j_bipush hX dX11_unit_233 rfl ?_
                refine j_callVV hX lk_X11_344 (c_X11_pushE _ _ _ _ _ _ _ _ _ (by omega) hI562 (by omega) (by omega) hk567 (by first | assumption | omega)) (by omega) hce rfl rfl (by omega) (by omega) kc_210 rfl rfl (Nat.le_of_ble_eq_true rfl) dX11_unit_235 (fun M677 hp678 => ?_)
                obtain ⟨hI681, hG682, hq683⟩ := hp678
                have hV684 := ML_dp hq564 (fun a b h => hG682 a b (by omega))
                have hV685 := ML_dp hV574 (fun a b h => hG682 a b (by omega))
                have hk686 := kp_fr hG682 (by omega) hk568
                have hk687 := kp_fr hG682 (by omega) hk569
                have hk688 := kp_fr hG682 (by omega) hk570
                have hk689 := kp_fr hG682 (by omega) hk571
                have hk690 := kp_fr hG682 (by omega) hk572
                clear hk567 hk568 hk569 hk570 hk571 hk572
                have hF691 := Fr.trans hF573 hG682 (fun a b h => by omega)
                obtain ⟨hp1, hp2, hp3⟩ := hq683
                have hwi6 := h8 (by omega)
                refine j_aload_n hX dX11_unit_238 rfl 1 rfl ?_
                refine j_dup hX dX11_unit_239 rfl ?_
                refine gf_X11_341 hX (by omega) (by omega) kc_210 dX11_unit_240 ?_
                refine j_top hk687 ?_
                refine j_iconst hX dX11_unit_243 ?_
                refine j_iadd hX dX11_unit_244 ?_
                refine pf_X11_341 hX (by omega) (by omega) kc_210 (by omega) dX11_unit_245 ?_
                refine j_up hI681 ro_210_43 (by omega) (by omega) (Or.inl (by omega)) (fun M692 w693 hw694 hM695 hI696 hf697 => ?_)
                have hV698 := ML_dp (M' := M692) hV684 (fun a b h => by rw [hM695]; exact up_ne (by omega))
                have hV699 := ML_dp (M' := M692) hV685 (fun a b h => by rw [hM695]; exact up_ne (by omega))
                have hk700 := kp_up hM695 (fun h => absurd h.2 (by decide)) hk686
                have hk701 := kp_up hM695 (fun h => absurd h.2 (by decide)) hk688
                have hk702 := kp_up hM695 (fun h => absurd h.2 (by decide)) hk689
                have hk703 := kp_up hM695 (fun h => absurd h.2 (by decide)) hk690
                have hk704 := kp_up hM695 (fun h => absurd h.1 (by decide)) hp1
                have hk705 := kp_up hM695 (fun h => absurd h.1 (by decide)) hp2
                have hk706 := kp_up hM695 (fun h => absurd h.2 (by decide)) hp3
                clear hk686 hk687 hk688 hk689 hk690
                have hF707 := Fr.put hF691 hM695 (by omega)
                refine j_iconst hX dX11_unit_248 ?_
                exact hret _ _ _ _ dX11_unit_249 (nb (by omega)) (by omega) ⟨hI696, hF707, by omega, by first | exact hV699 | exact ML_bad (by have := ML_1 hML (by omega); omega) (by omega), by omega, by first | exact fun h => absurd h (by omega) | exact fun _ => PT_1 (PS_pw (u := 1 - x2) hPS hunp (fun i h => hF707 239 i (by omega)) (fun i h => hF707 240 i (by omega)) (fun i h => hF707 237 i (by omega)) (by omega) (by omega) (by omega) (by omega) (by omega) (by omega) (by omega)) | exact fun _ => PT_0 (PS_em hPS hucd (by omega) (by omega) (fun i h => hF707 239 i (by omega)) (fun i h => hF707 240 i (by omega)) (fun i h => hF707 237 i (by omega)) (by omega) (by omega) (by omega) (by omega) (by omega))⟩
              · skip
                refine j_iconst hX dX11_unit_227 ?_
                refine j_goto (tgt := 233) hX dX11_unit_228 (by decide) ?_
                refine j_bipush hX dX11_unit_233 rfl ?_
                refine j_callVV hX lk_X11_344 (c_X11_pushE _ _ _ _ _ _ _ _ _ (by omega) hI562 (by omega) (by omega) hk567 (by first | assumption | omega)) (by omega) hce rfl rfl (by omega) (by omega) kc_210 rfl rfl (Nat.le_of_ble_eq_true rfl) dX11_unit_235 (fun M709 hp710 => ?_)
                obtain ⟨hI713, hG714, hq715⟩ := hp710
                have hV716 := ML_dp hq564 (fun a b h => hG714 a b (by omega))
                have hV717 := ML_dp hV574 (fun a b h => hG714 a b (by omega))
                have hk718 := kp_fr hG714 (by omega) hk568
                have hk719 := kp_fr hG714 (by omega) hk569
                have hk720 := kp_fr hG714 (by omega) hk570
                have hk721 := kp_fr hG714 (by omega) hk571
                have hk722 := kp_fr hG714 (by omega) hk572
                clear hk567 hk568 hk569 hk570 hk571 hk572
                have hF723 := Fr.trans hF573 hG714 (fun a b h => by omega)
                obtain ⟨hp1, hp2, hp3⟩ := hq715
                have hwi6 := h8 (by omega)
                refine j_aload_n hX dX11_unit_238 rfl 1 rfl ?_
                refine j_dup hX dX11_unit_239 rfl ?_
                refine gf_X11_341 hX (by omega) (by omega) kc_210 dX11_unit_240 ?_
                refine j_top hk719 ?_
                refine j_iconst hX dX11_unit_243 ?_
                refine j_iadd hX dX11_unit_244 ?_
                refine pf_X11_341 hX (by omega) (by omega) kc_210 (by omega) dX11_unit_245 ?_
                refine j_up hI713 ro_210_43 (by omega) (by omega) (Or.inl (by omega)) (fun M724 w725 hw726 hM727 hI728 hf729 => ?_)
                have hV730 := ML_dp (M' := M724) hV716 (fun a b h => by rw [hM727]; exact up_ne (by omega))
                have hV731 := ML_dp (M' := M724) hV717 (fun a b h => by rw [hM727]; exact up_ne (by omega))
                have hk732 := kp_up hM727 (fun h => absurd h.2 (by decide)) hk718
                have hk733 := kp_up hM727 (fun h => absurd h.2 (by decide)) hk720
                have hk734 := kp_up hM727 (fun h => absurd h.2 (by decide)) hk721
                have hk735 := kp_up hM727 (fun h => absurd h.2 (by decide)) hk722
                have hk736 := kp_up hM727 (fun h => absurd h.1 (by decide)) hp1
                have hk737 := kp_up hM727 (fun h => absurd h.1 (by decide)) hp2
                have hk738 := kp_up hM727 (fun h => absurd h.2 (by decide)) hp3
                clear hk718 hk719 hk720 hk721 hk722
                have hF739 := Fr.put hF723 hM727 (by omega)
                refine j_iconst hX dX11_unit_248 ?_
                exact hret _ _ _ _ dX11_unit_249 (nb (by omega)) (by omega) ⟨hI728, hF739, by omega, by first | exact hV731 | exact ML_bad (by have := ML_1 hML (by omega); omega) (by omega), by omega, by first | exact fun h => absurd h (by omega) | exact fun _ => PT_1 (PS_pw (u := 1 - x2) hPS hunp (fun i h => hF739 239 i (by omega)) (fun i h => hF739 240 i (by omega)) (fun i h => hF739 237 i (by omega)) (by omega) (by omega) (by omega) (by omega) (by omega) (by omega) (by omega)) | exact fun _ => PT_0 (PS_em hPS hucd (by omega) (by omega) (fun i h => hF739 239 i (by omega)) (fun i h => hF739 240 i (by omega)) (fun i h => hF739 237 i (by omega)) (by omega) (by omega) (by omega) (by omega) (by omega))⟩
  show J X B N 0 0 0 [(0, rv B 210)] [] M
  refine j_aload_n hX dX11_unit_0 rfl 0 rfl ?_
  refine gf_X11_101 hX (by omega) (by omega) kc_210 (fc_210_37 hI) (by decide) dX11_unit_1 ?_
  refine j_aload_n hX dX11_unit_4 rfl 0 rfl ?_
  refine gf_X11_338 hX (by omega) (by omega) kc_210 dX11_unit_5 ?_
  refine j_top hunp ?_
  refine j_iconst hX dX11_unit_8 ?_
  refine j_isub hX dX11_unit_9 ?_
  refine j_iald hX (by omega) (by omega) kc_239 (by omega) (by omega) (by omega) dX11_unit_10 ?_
  refine j_name hI (ra_239 _) (fun v740 hv741 hl742 hh743 => ?_)
  refine j_iconst hX dX11_unit_11 ?_
  refine j_icmp_le (tgt := 31) hX dX11_unit_12 (by decide) (by omega) (by omega) (fun hc744 => ?_) (fun hc744 => ?_)
  · skip
    refine j_iconst hX dX11_unit_31 ?_
    refine j_goto (tgt := 36) hX dX11_unit_32 (by decide) ?_
    refine j_istore_n (lv' := [(1, _), (0, _)]) hX dX11_unit_36 rfl (by rw [hnL]; decide) rfl ?_
    refine j_sub [1, 0] rfl ?_
    refine (cp (Int.toNat (96 + 1))).1 _ _ (by omega) hI hF hunp hucd hutk huwi huuu huw huun hufk hML (by first | assumption | omega) ?_ ?_
    · omega
    · omega
  · skip
    refine j_aload_n hX dX11_unit_15 rfl 0 rfl ?_
    refine gf_X11_101 hX (by omega) (by omega) kc_210 (fc_210_37 hI) (by decide) dX11_unit_16 ?_
    refine j_aload_n hX dX11_unit_19 rfl 0 rfl ?_
    refine gf_X11_338 hX (by omega) (by omega) kc_210 dX11_unit_20 ?_
    refine j_top hunp ?_
    refine j_iconst hX dX11_unit_23 ?_
    refine j_isub hX dX11_unit_24 ?_
    refine j_iald hX (by omega) (by omega) kc_239 (by omega) (by omega) (by omega) dX11_unit_25 ?_
    refine j_name hI (ra_239 _) (fun v745 hv746 hl747 hh748 => ?_)
    refine j_bipush hX dX11_unit_26 rfl ?_
    refine j_icmp_lt (tgt := 35) hX dX11_unit_28 (by decide) (by omega) (by omega) (fun hc749 => ?_) (fun hc749 => ?_)
    · skip
      refine j_iconst hX dX11_unit_35 ?_
      refine j_istore_n (lv' := [(1, _), (0, _)]) hX dX11_unit_36 rfl (by rw [hnL]; decide) rfl ?_
      refine j_sub [1, 0] rfl ?_
      refine (cp (Int.toNat (96 + 1))).1 _ _ (by omega) hI hF hunp hucd hutk huwi huuu huw huun hufk hML (by first | assumption | omega) ?_ ?_
      · omega
      · omega
    · skip
      refine j_iconst hX dX11_unit_31 ?_
      refine j_goto (tgt := 36) hX dX11_unit_32 (by decide) ?_
      refine j_istore_n (lv' := [(1, _), (0, _)]) hX dX11_unit_36 rfl (by rw [hnL]; decide) rfl ?_
      refine j_sub [1, 0] rfl ?_
      refine (cp (Int.toNat (96 + 1))).1 _ _ (by omega) hI hF hunp hucd hutk huwi huuu huw huun hufk hML (by first | assumption | omega) ?_ ?_
      · omega
      · omega
