/-! single cells and places -/
theorem kc_0 : kd 0 = .inl 10 := by decide +kernel
theorem fc_0_0 {M : MM} (hI : Iv M) : M.1 0 0 = 1 := by have := hI.at 0 0 (lo := 1) (hi := 1) (by decide +kernel); omega
theorem fc_0_1 {M : MM} (hI : Iv M) : M.1 0 1 = 26 := by have := hI.at 0 1 (lo := 26) (hi := 26) (by decide +kernel); omega
theorem fc_0_2 {M : MM} (hI : Iv M) : M.1 0 2 = 151 := by have := hI.at 0 2 (lo := 151) (hi := 151) (by decide +kernel); omega
theorem fc_0_3 {M : MM} (hI : Iv M) : M.1 0 3 = 153 := by have := hI.at 0 3 (lo := 153) (hi := 153) (by decide +kernel); omega
theorem fc_0_4 {M : MM} (hI : Iv M) : M.1 0 4 = 156 := by have := hI.at 0 4 (lo := 156) (hi := 156) (by decide +kernel); omega
theorem fc_0_5 {M : MM} (hI : Iv M) : M.1 0 5 = 157 := by have := hI.at 0 5 (lo := 157) (hi := 157) (by decide +kernel); omega
theorem fc_0_6 {M : MM} (hI : Iv M) : M.1 0 6 = 164 := by have := hI.at 0 6 (lo := 164) (hi := 164) (by decide +kernel); omega
theorem fc_0_7 {M : MM} (hI : Iv M) : M.1 0 7 = 179 := by have := hI.at 0 7 (lo := 179) (hi := 179) (by decide +kernel); omega
theorem ro_0_8 : rg 0 8 = (5, 180) := by decide +kernel
theorem ro_0_9 : rg 0 9 = ((-2147483648), 2147483647) := by decide +kernel
theorem ro_0_10 : rg 0 10 = (0, 6) := by decide +kernel
theorem ro_0_11 : rg 0 11 = (0, 100000) := by decide +kernel
theorem kc_1 : kd 1 = .inl 7 := by decide +kernel
theorem fc_1_0 {M : MM} (hI : Iv M) : M.1 1 0 = 2 := by have := hI.at 1 0 (lo := 2) (hi := 2) (by decide +kernel); omega
theorem ro_1_1 : rg 1 1 = (5, 180) := by decide +kernel
theorem ro_1_2 : rg 1 2 = ((-2147483648), 2147483647) := by decide +kernel
theorem ro_1_3 : rg 1 3 = ((-2147483648), 2147483647) := by decide +kernel
theorem ro_1_4 : rg 1 4 = ((-2147483648), 2147483647) := by decide +kernel
theorem kc_2 : kd 2 = .inl 9 := by decide +kernel
theorem fc_2_0 {M : MM} (hI : Iv M) : M.1 2 0 = 3 := by have := hI.at 2 0 (lo := 3) (hi := 3) (by decide +kernel); omega
theorem fc_2_1 {M : MM} (hI : Iv M) : M.1 2 1 = 4 := by have := hI.at 2 1 (lo := 4) (hi := 4) (by decide +kernel); omega
theorem ro_2_2 : rg 2 2 = (0, 1600) := by decide +kernel
theorem ro_2_3 : rg 2 3 = (0, 1600) := by decide +kernel
theorem ro_2_4 : rg 2 4 = ((-2147483648), 2147483647) := by decide +kernel
theorem ro_2_5 : rg 2 5 = (0, 1600) := by decide +kernel
theorem ro_2_6 : rg 2 6 = ((-2147483648), 2147483647) := by decide +kernel
theorem kc_3 : kd 3 = .inr (1, 1600) := by decide +kernel
theorem ra_3 (j : Int) : rg 3 j = ((-128), 127) := rg_u (by decide +kernel)
theorem kc_4 : kd 4 = .inr (3, 22) := by decide +kernel
theorem ra_4 (j : Int) : rg 4 j = ((-2147483648), 2147483647) := rg_u (by decide +kernel)
theorem kc_26 : kd 26 = .inl 0 := by decide +kernel
theorem fc_26_0 {M : MM} (hI : Iv M) : M.1 26 0 = 27 := by have := hI.at 26 0 (lo := 27) (hi := 27) (by decide +kernel); omega
theorem ro_26_1 : rg 26 1 = (0, 40) := by decide +kernel
theorem ro_26_2 : rg 26 2 = (0, 40) := by decide +kernel
theorem kc_27 : kd 27 = .inr (4, 41) := by decide +kernel
theorem ra_27 (j : Int) : rg 27 j = (28, 148) := rg_u (by decide +kernel)
theorem kc_151 : kd 151 = .inl 1 := by decide +kernel
theorem fc_151_0 {M : MM} (hI : Iv M) : M.1 151 0 = 152 := by have := hI.at 151 0 (lo := 152) (hi := 152) (by decide +kernel); omega
theorem kc_152 : kd 152 = .inr (0, 6) := by decide +kernel
theorem ra_152 (j : Int) : rg 152 j = ((-2147483648), 2147483647) := rg_u (by decide +kernel)
theorem kc_153 : kd 153 = .inl 8 := by decide +kernel
theorem fc_153_0 {M : MM} (hI : Iv M) : M.1 153 0 = 154 := by have := hI.at 153 0 (lo := 154) (hi := 154) (by decide +kernel); omega
theorem fc_153_1 {M : MM} (hI : Iv M) : M.1 153 1 = 155 := by have := hI.at 153 1 (lo := 155) (hi := 155) (by decide +kernel); omega
theorem ro_153_2 : rg 153 2 = ((-2147483648), 2147483647) := by decide +kernel
theorem ro_153_3 : rg 153 3 = (0, 24) := by decide +kernel
theorem ro_153_4 : rg 153 4 = ((-2147483648), 2147483647) := by decide +kernel
theorem ro_153_5 : rg 153 5 = (0, 999) := by decide +kernel
theorem kc_154 : kd 154 = .inr (0, 6) := by decide +kernel
theorem ra_154 (j : Int) : rg 154 j = ((-1), 5) := rg_u (by decide +kernel)
theorem kc_155 : kd 155 = .inr (0, 6) := by decide +kernel
theorem ra_155 (j : Int) : rg 155 j = ((-2147483648), 2147483647) := rg_u (by decide +kernel)
theorem kc_156 : kd 156 = .inr (4, 3) := by decide +kernel
theorem kc_157 : kd 157 = .inl 5 := by decide +kernel
theorem fc_157_0 {M : MM} (hI : Iv M) : M.1 157 0 = 158 := by have := hI.at 157 0 (lo := 158) (hi := 158) (by decide +kernel); omega
theorem fc_157_1 {M : MM} (hI : Iv M) : M.1 157 1 = 160 := by have := hI.at 157 1 (lo := 160) (hi := 160) (by decide +kernel); omega
theorem fc_157_2 {M : MM} (hI : Iv M) : M.1 157 2 = 161 := by have := hI.at 157 2 (lo := 161) (hi := 161) (by decide +kernel); omega
theorem fc_157_3 {M : MM} (hI : Iv M) : M.1 157 3 = 162 := by have := hI.at 157 3 (lo := 162) (hi := 162) (by decide +kernel); omega
theorem fc_157_4 {M : MM} (hI : Iv M) : M.1 157 4 = 163 := by have := hI.at 157 4 (lo := 163) (hi := 163) (by decide +kernel); omega
theorem kc_158 : kd 158 = .inl 4 := by decide +kernel
theorem fc_158_0 {M : MM} (hI : Iv M) : M.1 158 0 = 159 := by have := hI.at 158 0 (lo := 159) (hi := 159) (by decide +kernel); omega
theorem ro_158_1 : rg 158 1 = (0, 6) := by decide +kernel
theorem kc_159 : kd 159 = .inr (0, 6) := by decide +kernel
theorem ra_159 (j : Int) : rg 159 j = (0, 5) := rg_u (by decide +kernel)
theorem kc_160 : kd 160 = .inr (0, 6) := by decide +kernel
theorem ra_160 (j : Int) : rg 160 j = ((-1), 5) := rg_u (by decide +kernel)
theorem kc_161 : kd 161 = .inr (0, 6) := by decide +kernel
theorem ra_161 (j : Int) : rg 161 j = ((-2147483648), 2147483647) := rg_u (by decide +kernel)
theorem kc_162 : kd 162 = .inr (0, 6) := by decide +kernel
theorem ra_162 (j : Int) : rg 162 j = (0, 5) := rg_u (by decide +kernel)
theorem kc_163 : kd 163 = .inr (0, 6) := by decide +kernel
theorem ra_163 (j : Int) : rg 163 j = (0, 5) := rg_u (by decide +kernel)
theorem kc_164 : kd 164 = .inl 3 := by decide +kernel
theorem fc_164_0 {M : MM} (hI : Iv M) : M.1 164 0 = 165 := by have := hI.at 164 0 (lo := 165) (hi := 165) (by decide +kernel); omega
theorem fc_164_1 {M : MM} (hI : Iv M) : M.1 164 1 = 167 := by have := hI.at 164 1 (lo := 167) (hi := 167) (by decide +kernel); omega
theorem fc_164_2 {M : MM} (hI : Iv M) : M.1 164 2 = 168 := by have := hI.at 164 2 (lo := 168) (hi := 168) (by decide +kernel); omega
theorem fc_164_3 {M : MM} (hI : Iv M) : M.1 164 3 = 169 := by have := hI.at 164 3 (lo := 169) (hi := 169) (by decide +kernel); omega
theorem fc_164_4 {M : MM} (hI : Iv M) : M.1 164 4 = 170 := by have := hI.at 164 4 (lo := 170) (hi := 170) (by decide +kernel); omega
theorem fc_164_5 {M : MM} (hI : Iv M) : M.1 164 5 = 171 := by have := hI.at 164 5 (lo := 171) (hi := 171) (by decide +kernel); omega
theorem fc_164_6 {M : MM} (hI : Iv M) : M.1 164 6 = 172 := by have := hI.at 164 6 (lo := 172) (hi := 172) (by decide +kernel); omega
theorem ro_164_7 : rg 164 7 = ((-2147483648), 2147483647) := by decide +kernel
theorem ro_164_8 : rg 164 8 = (0, 30) := by decide +kernel
theorem kc_165 : kd 165 = .inl 4 := by decide +kernel
theorem fc_165_0 {M : MM} (hI : Iv M) : M.1 165 0 = 166 := by have := hI.at 165 0 (lo := 166) (hi := 166) (by decide +kernel); omega
theorem ro_165_1 : rg 165 1 = (0, 6) := by decide +kernel
theorem kc_166 : kd 166 = .inr (0, 6) := by decide +kernel
theorem ra_166 (j : Int) : rg 166 j = (0, 5) := rg_u (by decide +kernel)
theorem kc_167 : kd 167 = .inr (0, 30) := by decide +kernel
theorem ra_167 (j : Int) : rg 167 j = (0, 5) := rg_u (by decide +kernel)
theorem kc_168 : kd 168 = .inr (0, 30) := by decide +kernel
theorem ra_168 (j : Int) : rg 168 j = (0, 5) := rg_u (by decide +kernel)
theorem kc_169 : kd 169 = .inr (0, 30) := by decide +kernel
theorem ra_169 (j : Int) : rg 169 j = ((-2147483648), 2147483647) := rg_u (by decide +kernel)
theorem kc_170 : kd 170 = .inr (0, 30) := by decide +kernel
theorem ra_170 (j : Int) : rg 170 j = ((-2147483648), 2147483647) := rg_u (by decide +kernel)
theorem kc_171 : kd 171 = .inr (0, 6) := by decide +kernel
theorem ra_171 (j : Int) : rg 171 j = ((-2147483648), 2147483647) := rg_u (by decide +kernel)
theorem kc_172 : kd 172 = .inr (5, 6) := by decide +kernel
theorem kc_173 : kd 173 = .inr (0, 6) := by decide +kernel
theorem ra_173 (j : Int) : rg 173 j = ((-2147483648), 2147483647) := rg_u (by decide +kernel)
theorem kc_174 : kd 174 = .inr (0, 6) := by decide +kernel
theorem ra_174 (j : Int) : rg 174 j = ((-2147483648), 2147483647) := rg_u (by decide +kernel)
theorem kc_175 : kd 175 = .inr (0, 6) := by decide +kernel
theorem ra_175 (j : Int) : rg 175 j = ((-2147483648), 2147483647) := rg_u (by decide +kernel)
theorem kc_176 : kd 176 = .inr (0, 6) := by decide +kernel
theorem ra_176 (j : Int) : rg 176 j = ((-2147483648), 2147483647) := rg_u (by decide +kernel)
theorem kc_177 : kd 177 = .inr (0, 6) := by decide +kernel
theorem ra_177 (j : Int) : rg 177 j = ((-2147483648), 2147483647) := rg_u (by decide +kernel)
theorem kc_178 : kd 178 = .inr (0, 6) := by decide +kernel
theorem ra_178 (j : Int) : rg 178 j = ((-2147483648), 2147483647) := rg_u (by decide +kernel)
theorem kc_179 : kd 179 = .inr (0, 6) := by decide +kernel
theorem ra_179 (j : Int) : rg 179 j = (0, 5) := rg_u (by decide +kernel)
theorem kc_210 : kd 210 = .inl 11 := by decide +kernel
theorem fc_210_0 {M : MM} (hI : Iv M) : M.1 210 0 = 211 := by have := hI.at 210 0 (lo := 211) (hi := 211) (by decide +kernel); omega
theorem fc_210_1 {M : MM} (hI : Iv M) : M.1 210 1 = 212 := by have := hI.at 210 1 (lo := 212) (hi := 212) (by decide +kernel); omega
theorem ro_210_2 : rg 210 2 = (0, 1600) := by decide +kernel
theorem ro_210_3 : rg 210 3 = (0, 1600) := by decide +kernel
theorem ro_210_4 : rg 210 4 = ((-2147483648), 2147483647) := by decide +kernel
theorem ro_210_5 : rg 210 5 = ((-2147483648), 2147483647) := by decide +kernel
theorem ro_210_6 : rg 210 6 = (0, 1600) := by decide +kernel
theorem ro_210_7 : rg 210 7 = (0, 1600) := by decide +kernel
theorem ro_210_8 : rg 210 8 = ((-2147483648), 2147483647) := by decide +kernel
theorem ro_210_9 : rg 210 9 = ((-2147483648), 2147483647) := by decide +kernel
theorem fc_210_11 {M : MM} (hI : Iv M) : M.1 210 11 = 213 := by have := hI.at 210 11 (lo := 213) (hi := 213) (by decide +kernel); omega
theorem fc_210_12 {M : MM} (hI : Iv M) : M.1 210 12 = 214 := by have := hI.at 210 12 (lo := 214) (hi := 214) (by decide +kernel); omega
theorem fc_210_13 {M : MM} (hI : Iv M) : M.1 210 13 = 215 := by have := hI.at 210 13 (lo := 215) (hi := 215) (by decide +kernel); omega
theorem fc_210_14 {M : MM} (hI : Iv M) : M.1 210 14 = 216 := by have := hI.at 210 14 (lo := 216) (hi := 216) (by decide +kernel); omega
theorem fc_210_15 {M : MM} (hI : Iv M) : M.1 210 15 = 217 := by have := hI.at 210 15 (lo := 217) (hi := 217) (by decide +kernel); omega
theorem fc_210_16 {M : MM} (hI : Iv M) : M.1 210 16 = 218 := by have := hI.at 210 16 (lo := 218) (hi := 218) (by decide +kernel); omega
theorem fc_210_17 {M : MM} (hI : Iv M) : M.1 210 17 = 219 := by have := hI.at 210 17 (lo := 219) (hi := 219) (by decide +kernel); omega
theorem fc_210_18 {M : MM} (hI : Iv M) : M.1 210 18 = 220 := by have := hI.at 210 18 (lo := 220) (hi := 220) (by decide +kernel); omega
theorem fc_210_19 {M : MM} (hI : Iv M) : M.1 210 19 = 221 := by have := hI.at 210 19 (lo := 221) (hi := 221) (by decide +kernel); omega
theorem fc_210_20 {M : MM} (hI : Iv M) : M.1 210 20 = 222 := by have := hI.at 210 20 (lo := 222) (hi := 222) (by decide +kernel); omega
theorem fc_210_21 {M : MM} (hI : Iv M) : M.1 210 21 = 223 := by have := hI.at 210 21 (lo := 223) (hi := 223) (by decide +kernel); omega
theorem fc_210_22 {M : MM} (hI : Iv M) : M.1 210 22 = 224 := by have := hI.at 210 22 (lo := 224) (hi := 224) (by decide +kernel); omega
theorem fc_210_23 {M : MM} (hI : Iv M) : M.1 210 23 = 225 := by have := hI.at 210 23 (lo := 225) (hi := 225) (by decide +kernel); omega
theorem fc_210_24 {M : MM} (hI : Iv M) : M.1 210 24 = 226 := by have := hI.at 210 24 (lo := 226) (hi := 226) (by decide +kernel); omega
theorem fc_210_25 {M : MM} (hI : Iv M) : M.1 210 25 = 227 := by have := hI.at 210 25 (lo := 227) (hi := 227) (by decide +kernel); omega
theorem fc_210_26 {M : MM} (hI : Iv M) : M.1 210 26 = 228 := by have := hI.at 210 26 (lo := 228) (hi := 228) (by decide +kernel); omega
theorem fc_210_27 {M : MM} (hI : Iv M) : M.1 210 27 = 229 := by have := hI.at 210 27 (lo := 229) (hi := 229) (by decide +kernel); omega
theorem fc_210_28 {M : MM} (hI : Iv M) : M.1 210 28 = 230 := by have := hI.at 210 28 (lo := 230) (hi := 230) (by decide +kernel); omega
theorem fc_210_29 {M : MM} (hI : Iv M) : M.1 210 29 = 231 := by have := hI.at 210 29 (lo := 231) (hi := 231) (by decide +kernel); omega
theorem fc_210_30 {M : MM} (hI : Iv M) : M.1 210 30 = 232 := by have := hI.at 210 30 (lo := 232) (hi := 232) (by decide +kernel); omega
theorem fc_210_31 {M : MM} (hI : Iv M) : M.1 210 31 = 233 := by have := hI.at 210 31 (lo := 233) (hi := 233) (by decide +kernel); omega
theorem fc_210_32 {M : MM} (hI : Iv M) : M.1 210 32 = 234 := by have := hI.at 210 32 (lo := 234) (hi := 234) (by decide +kernel); omega
theorem fc_210_33 {M : MM} (hI : Iv M) : M.1 210 33 = 235 := by have := hI.at 210 33 (lo := 235) (hi := 235) (by decide +kernel); omega
theorem fc_210_34 {M : MM} (hI : Iv M) : M.1 210 34 = 236 := by have := hI.at 210 34 (lo := 236) (hi := 236) (by decide +kernel); omega
theorem fc_210_35 {M : MM} (hI : Iv M) : M.1 210 35 = 237 := by have := hI.at 210 35 (lo := 237) (hi := 237) (by decide +kernel); omega
theorem fc_210_36 {M : MM} (hI : Iv M) : M.1 210 36 = 238 := by have := hI.at 210 36 (lo := 238) (hi := 238) (by decide +kernel); omega
theorem fc_210_37 {M : MM} (hI : Iv M) : M.1 210 37 = 239 := by have := hI.at 210 37 (lo := 239) (hi := 239) (by decide +kernel); omega
theorem fc_210_38 {M : MM} (hI : Iv M) : M.1 210 38 = 240 := by have := hI.at 210 38 (lo := 240) (hi := 240) (by decide +kernel); omega
theorem fc_210_39 {M : MM} (hI : Iv M) : M.1 210 39 = 241 := by have := hI.at 210 39 (lo := 241) (hi := 241) (by decide +kernel); omega
theorem ro_210_40 : rg 210 40 = (0, 1) := by decide +kernel
theorem ro_210_41 : rg 210 41 = (0, 1) := by decide +kernel
theorem ro_210_42 : rg 210 42 = (0, 1120) := by decide +kernel
theorem ro_210_43 : rg 210 43 = (0, 7) := by decide +kernel
theorem ro_210_44 : rg 210 44 = (0, 90) := by decide +kernel
theorem ro_210_45 : rg 210 45 = (0, 30) := by decide +kernel
theorem ro_210_46 : rg 210 46 = (0, 5) := by decide +kernel
theorem fc_210_47 {M : MM} (hI : Iv M) : M.1 210 47 = 242 := by have := hI.at 210 47 (lo := 242) (hi := 242) (by decide +kernel); omega
theorem fc_210_48 {M : MM} (hI : Iv M) : M.1 210 48 = 243 := by have := hI.at 210 48 (lo := 243) (hi := 243) (by decide +kernel); omega
theorem fc_210_49 {M : MM} (hI : Iv M) : M.1 210 49 = 244 := by have := hI.at 210 49 (lo := 244) (hi := 244) (by decide +kernel); omega
theorem ro_210_50 : rg 210 50 = (0, 40) := by decide +kernel
theorem ro_210_51 : rg 210 51 = (0, 40) := by decide +kernel
theorem fc_210_52 {M : MM} (hI : Iv M) : M.1 210 52 = 245 := by have := hI.at 210 52 (lo := 245) (hi := 245) (by decide +kernel); omega
theorem fc_210_53 {M : MM} (hI : Iv M) : M.1 210 53 = 246 := by have := hI.at 210 53 (lo := 246) (hi := 246) (by decide +kernel); omega
theorem ro_210_54 : rg 210 54 = (0, 7) := by decide +kernel
theorem fc_210_55 {M : MM} (hI : Iv M) : M.1 210 55 = 247 := by have := hI.at 210 55 (lo := 247) (hi := 247) (by decide +kernel); omega
theorem fc_210_56 {M : MM} (hI : Iv M) : M.1 210 56 = 248 := by have := hI.at 210 56 (lo := 248) (hi := 248) (by decide +kernel); omega
theorem fc_210_57 {M : MM} (hI : Iv M) : M.1 210 57 = 249 := by have := hI.at 210 57 (lo := 249) (hi := 249) (by decide +kernel); omega
theorem fc_210_58 {M : MM} (hI : Iv M) : M.1 210 58 = 250 := by have := hI.at 210 58 (lo := 250) (hi := 250) (by decide +kernel); omega
theorem fc_210_59 {M : MM} (hI : Iv M) : M.1 210 59 = 251 := by have := hI.at 210 59 (lo := 251) (hi := 251) (by decide +kernel); omega
theorem fc_210_60 {M : MM} (hI : Iv M) : M.1 210 60 = 252 := by have := hI.at 210 60 (lo := 252) (hi := 252) (by decide +kernel); omega
theorem fc_210_61 {M : MM} (hI : Iv M) : M.1 210 61 = 253 := by have := hI.at 210 61 (lo := 253) (hi := 253) (by decide +kernel); omega
theorem fc_210_62 {M : MM} (hI : Iv M) : M.1 210 62 = 254 := by have := hI.at 210 62 (lo := 254) (hi := 254) (by decide +kernel); omega
theorem ro_210_63 : rg 210 63 = (0, 30) := by decide +kernel
theorem ro_210_64 : rg 210 64 = (0, 100000) := by decide +kernel
theorem ro_210_65 : rg 210 65 = ((-2147483648), 2147483647) := by decide +kernel
theorem fc_210_66 {M : MM} (hI : Iv M) : M.1 210 66 = 255 := by have := hI.at 210 66 (lo := 255) (hi := 255) (by decide +kernel); omega
theorem fc_210_67 {M : MM} (hI : Iv M) : M.1 210 67 = 256 := by have := hI.at 210 67 (lo := 256) (hi := 256) (by decide +kernel); omega
theorem kc_211 : kd 211 = .inr (1, 1620) := by decide +kernel
theorem ra_211 (j : Int) : rg 211 j = ((-128), 127) := rg_u (by decide +kernel)
theorem kc_212 : kd 212 = .inr (1, 1600) := by decide +kernel
theorem ra_212 (j : Int) : rg 212 j = ((-128), 127) := rg_u (by decide +kernel)
theorem kc_213 : kd 213 = .inr (0, 2) := by decide +kernel
theorem ra_213 (j : Int) : rg 213 j = (0, 6) := rg_u (by decide +kernel)
theorem kc_214 : kd 214 = .inr (0, 2) := by decide +kernel
theorem ra_214 (j : Int) : rg 214 j = (0, 10) := rg_u (by decide +kernel)
theorem kc_215 : kd 215 = .inr (0, 2) := by decide +kernel
theorem ra_215 (j : Int) : rg 215 j = ((-2147483648), 2147483647) := rg_u (by decide +kernel)
theorem kc_216 : kd 216 = .inr (0, 2) := by decide +kernel
theorem ra_216 (j : Int) : rg 216 j = (0, 60) := rg_u (by decide +kernel)
theorem kc_217 : kd 217 = .inr (0, 2) := by decide +kernel
theorem ra_217 (j : Int) : rg 217 j = (0, 999) := rg_u (by decide +kernel)
theorem kc_218 : kd 218 = .inr (0, 2) := by decide +kernel
theorem ra_218 (j : Int) : rg 218 j = ((-2147483648), 2147483647) := rg_u (by decide +kernel)
theorem kc_219 : kd 219 = .inr (0, 2) := by decide +kernel
theorem ra_219 (j : Int) : rg 219 j = ((-2147483648), 2147483647) := rg_u (by decide +kernel)
theorem kc_220 : kd 220 = .inr (0, 2) := by decide +kernel
theorem ra_220 (j : Int) : rg 220 j = ((-2147483648), 2147483647) := rg_u (by decide +kernel)
theorem kc_221 : kd 221 = .inr (0, 12) := by decide +kernel
theorem ra_221 (j : Int) : rg 221 j = ((-2147483648), 2147483647) := rg_u (by decide +kernel)
theorem kc_222 : kd 222 = .inr (0, 12) := by decide +kernel
theorem ra_222 (j : Int) : rg 222 j = (0, 5) := rg_u (by decide +kernel)
theorem kc_223 : kd 223 = .inr (0, 20) := by decide +kernel
theorem ra_223 (j : Int) : rg 223 j = (0, 5) := rg_u (by decide +kernel)
theorem kc_224 : kd 224 = .inr (0, 20) := by decide +kernel
theorem ra_224 (j : Int) : rg 224 j = ((-2147483648), 2147483647) := rg_u (by decide +kernel)
theorem kc_225 : kd 225 = .inr (0, 2) := by decide +kernel
theorem ra_225 (j : Int) : rg 225 j = ((-2147483648), 2147483647) := rg_u (by decide +kernel)
theorem kc_226 : kd 226 = .inr (0, 12) := by decide +kernel
theorem ra_226 (j : Int) : rg 226 j = ((-2147483648), 2147483647) := rg_u (by decide +kernel)
theorem kc_227 : kd 227 = .inr (0, 72) := by decide +kernel
theorem ra_227 (j : Int) : rg 227 j = ((-2147483648), 2147483647) := rg_u (by decide +kernel)
theorem kc_228 : kd 228 = .inr (0, 12) := by decide +kernel
theorem ra_228 (j : Int) : rg 228 j = ((-2147483648), 2147483647) := rg_u (by decide +kernel)
theorem kc_229 : kd 229 = .inr (0, 2) := by decide +kernel
theorem ra_229 (j : Int) : rg 229 j = (0, 1120) := rg_u (by decide +kernel)
theorem kc_230 : kd 230 = .inr (0, 2) := by decide +kernel
theorem ra_230 (j : Int) : rg 230 j = (0, 1120) := rg_u (by decide +kernel)
theorem kc_231 : kd 231 = .inr (2, 2) := by decide +kernel
theorem ra_231 (j : Int) : rg 231 j = (0, 1) := rg_u (by decide +kernel)
theorem kc_232 : kd 232 = .inr (2, 2) := by decide +kernel
theorem ra_232 (j : Int) : rg 232 j = (0, 1) := rg_u (by decide +kernel)
theorem kc_233 : kd 233 = .inr (2, 2) := by decide +kernel
theorem ra_233 (j : Int) : rg 233 j = (0, 1) := rg_u (by decide +kernel)
theorem kc_234 : kd 234 = .inr (2, 2) := by decide +kernel
theorem ra_234 (j : Int) : rg 234 j = (0, 1) := rg_u (by decide +kernel)
theorem kc_235 : kd 235 = .inr (3, 12) := by decide +kernel
theorem ra_235 (j : Int) : rg 235 j = ((-2147483648), 2147483647) := rg_u (by decide +kernel)
theorem kc_236 : kd 236 = .inr (3, 20) := by decide +kernel
theorem ra_236 (j : Int) : rg 236 j = ((-2147483648), 2147483647) := rg_u (by decide +kernel)
theorem kc_237 : kd 237 = .inr (0, 1120) := by decide +kernel
theorem ra_237 (j : Int) : rg 237 j = ((-2147483648), 2147483647) := rg_u (by decide +kernel)
theorem kc_238 : kd 238 = .inr (0, 1120) := by decide +kernel
theorem ra_238 (j : Int) : rg 238 j = ((-2147483648), 2147483647) := rg_u (by decide +kernel)
theorem kc_239 : kd 239 = .inr (0, 90) := by decide +kernel
theorem ra_239 (j : Int) : rg 239 j = (0, 8) := rg_u (by decide +kernel)
theorem kc_240 : kd 240 = .inr (0, 90) := by decide +kernel
theorem ra_240 (j : Int) : rg 240 j = ((-2147483648), 2147483647) := rg_u (by decide +kernel)
theorem kc_241 : kd 241 = .inr (0, 60) := by decide +kernel
theorem ra_241 (j : Int) : rg 241 j = ((-2147483648), 2147483647) := rg_u (by decide +kernel)
theorem kc_242 : kd 242 = .inr (0, 16) := by decide +kernel
theorem kc_243 : kd 243 = .inr (0, 6) := by decide +kernel
theorem ra_243 (j : Int) : rg 243 j = ((-2147483648), 2147483647) := rg_u (by decide +kernel)
theorem kc_244 : kd 244 = .inr (0, 656) := by decide +kernel
theorem kc_245 : kd 245 = .inr (0, 16) := by decide +kernel
theorem kc_246 : kd 246 = .inr (0, 7) := by decide +kernel
theorem ra_246 (j : Int) : rg 246 j = (0, 5) := rg_u (by decide +kernel)
theorem kc_247 : kd 247 = .inr (0, 6) := by decide +kernel
theorem ra_247 (j : Int) : rg 247 j = ((-1), 5) := rg_u (by decide +kernel)
theorem kc_248 : kd 248 = .inr (0, 6) := by decide +kernel
theorem ra_248 (j : Int) : rg 248 j = (0, 5) := rg_u (by decide +kernel)
theorem kc_249 : kd 249 = .inr (0, 30) := by decide +kernel
theorem ra_249 (j : Int) : rg 249 j = (0, 5) := rg_u (by decide +kernel)
theorem kc_250 : kd 250 = .inr (0, 30) := by decide +kernel
theorem ra_250 (j : Int) : rg 250 j = ((-2147483648), 2147483647) := rg_u (by decide +kernel)
theorem kc_251 : kd 251 = .inr (0, 30) := by decide +kernel
theorem ra_251 (j : Int) : rg 251 j = ((-2147483648), 2147483647) := rg_u (by decide +kernel)
theorem kc_252 : kd 252 = .inr (0, 30) := by decide +kernel
theorem ra_252 (j : Int) : rg 252 j = ((-2147483648), 2147483647) := rg_u (by decide +kernel)
theorem kc_253 : kd 253 = .inr (0, 30) := by decide +kernel
theorem ra_253 (j : Int) : rg 253 j = ((-2147483648), 2147483647) := rg_u (by decide +kernel)
theorem kc_254 : kd 254 = .inr (0, 36) := by decide +kernel
theorem ra_254 (j : Int) : rg 254 j = ((-2147483648), 2147483647) := rg_u (by decide +kernel)
theorem kc_255 : kd 255 = .inr (0, 48) := by decide +kernel
theorem kc_256 : kd 256 = .inr (2, 3) := by decide +kernel
theorem ra_256 (j : Int) : rg 256 j = (0, 1) := rg_u (by decide +kernel)
theorem rp_242 (j : Int) : rg 242 j = rgA (j % 16) := by
  unfold rgA rg
  rw [show RGL.getD (242 : Int).toNat ([], (-2147483648, 2147483647), 0) = RGL.getD (242 : Int).toNat ([], (-2147483648, 2147483647), 0) from by decide +kernel]
  rw [show (RGL.getD (242 : Int).toNat ([], (-2147483648, 2147483647), 0)).2.2 = 16 from by decide +kernel]
  simp only [show ¬ (16 : Int) = 0 by decide, if_false, Int.emod_emod_of_dvd j (Int.dvd_refl 16)]
theorem rp_244 (j : Int) : rg 244 j = rgA (j % 16) := by
  unfold rgA rg
  rw [show RGL.getD (244 : Int).toNat ([], (-2147483648, 2147483647), 0) = RGL.getD (242 : Int).toNat ([], (-2147483648, 2147483647), 0) from by decide +kernel]
  rw [show (RGL.getD (242 : Int).toNat ([], (-2147483648, 2147483647), 0)).2.2 = 16 from by decide +kernel]
  simp only [show ¬ (16 : Int) = 0 by decide, if_false, Int.emod_emod_of_dvd j (Int.dvd_refl 16)]
theorem rp_245 (j : Int) : rg 245 j = rgA (j % 16) := by
  unfold rgA rg
  rw [show RGL.getD (245 : Int).toNat ([], (-2147483648, 2147483647), 0) = RGL.getD (242 : Int).toNat ([], (-2147483648, 2147483647), 0) from by decide +kernel]
  rw [show (RGL.getD (242 : Int).toNat ([], (-2147483648, 2147483647), 0)).2.2 = 16 from by decide +kernel]
  simp only [show ¬ (16 : Int) = 0 by decide, if_false, Int.emod_emod_of_dvd j (Int.dvd_refl 16)]
theorem rp_255 (j : Int) : rg 255 j = rgA (j % 16) := by
  unfold rgA rg
  rw [show RGL.getD (255 : Int).toNat ([], (-2147483648, 2147483647), 0) = RGL.getD (242 : Int).toNat ([], (-2147483648, 2147483647), 0) from by decide +kernel]
  rw [show (RGL.getD (242 : Int).toNat ([], (-2147483648, 2147483647), 0)).2.2 = 16 from by decide +kernel]
  simp only [show ¬ (16 : Int) = 0 by decide, if_false, Int.emod_emod_of_dvd j (Int.dvd_refl 16)]
theorem rA_s {i : Int} (h0 : 0 ≤ i) (h1 : i < 6) : rgA i = (0, 5) := by
  have h2 : i = 0 ∨ i = 1 ∨ i = 2 ∨ i = 3 ∨ i = 4 ∨ i = 5 := by omega
  rcases h2 with h | h | h | h | h | h <;> subst h <;> decide +kernel
theorem rA_k {i : Int} (h0 : 6 ≤ i) (h1 : i < 13) : rgA i = (-2147483648, 2147483647) := by
  have h2 : i = 6 ∨ i = 7 ∨ i = 8 ∨ i = 9 ∨ i = 10 ∨ i = 11 ∨ i = 12 := by omega
  rcases h2 with h | h | h | h | h | h | h <;> subst h <;> decide +kernel
theorem rs_242 {i : Int} (h0 : 0 ≤ i) (h1 : i < 6) : rg 242 i = (0, 5) := by rw [rp_242, show i % 16 = i by omega]; exact rA_s h0 h1
theorem rk_242 {i : Int} (h0 : 6 ≤ i) (h1 : i < 13) : rg 242 i = (-2147483648, 2147483647) := by rw [rp_242, show i % 16 = i by omega]; exact rA_k h0 h1
theorem ro_242_6 : rg 242 6 = (-2147483648, 2147483647) := by decide +kernel
theorem ro_242_13 : rg 242 13 = (-2147483648, 2147483647) := by decide +kernel
theorem ro_242_14 : rg 242 14 = (-2147483648, 2147483647) := by decide +kernel
theorem ro_242_15 : rg 242 15 = (0, 999) := by decide +kernel
theorem and_f {a b z : Int} (h : z = (Int32.ofInt a &&& Int32.ofInt b).toInt) (ha : I32 a) (hb : I32 b) : (0 ≤ a → 0 ≤ z ∧ z ≤ a) ∧ (0 ≤ b → 0 ≤ z ∧ z ≤ b) := by
  have key : ∀ x y : Int32, 0 ≤ y.toInt → 0 ≤ (x &&& y).toInt ∧ (x &&& y).toInt ≤ y.toInt := by
    intro x y hy
    have h1 : ¬ (y.toBitVec.msb = true) := by
      intro hm
      have := BitVec.toInt_neg_of_msb_true hm
      have e : y.toInt = y.toBitVec.toInt := rfl
      omega
    have h1' : y.toBitVec.msb = false := by simpa using h1
    have h2 : (x &&& y).toBitVec.msb = false := by
      show (x.toBitVec &&& y.toBitVec).msb = false
      rw [BitVec.msb_and, h1']; simp
    have e1 : (x &&& y).toInt = ((x.toBitVec &&& y.toBitVec).toNat : Int) := by
      show (x.toBitVec &&& y.toBitVec).toInt = _
      exact BitVec.toInt_eq_toNat_of_msb h2
    have e2 : y.toInt = (y.toBitVec.toNat : Int) := BitVec.toInt_eq_toNat_of_msb h1'
    rw [e1, e2, BitVec.toNat_and]
    have h3 : x.toBitVec.toNat &&& y.toBitVec.toNat ≤ y.toBitVec.toNat := Nat.and_le_right
    exact ⟨by omega, by omega⟩
  subst h
  refine ⟨fun h0 => ?_, fun h0 => ?_⟩
  · have := key (Int32.ofInt b) (Int32.ofInt a) (by rw [i32_int ha]; exact h0)
    rw [i32_int ha, show Int32.ofInt b &&& Int32.ofInt a = Int32.ofInt a &&& Int32.ofInt b from Int32.and_comm _ _] at this
    exact this
  · have := key (Int32.ofInt a) (Int32.ofInt b) (by rw [i32_int hb]; exact h0)
    rw [i32_int hb] at this
    exact this
theorem shl_f {b z : Int} (h : z = (Int32.ofInt 1 <<< (Int32.ofInt b &&& 31)).toInt) (h0 : 0 ≤ b) (h1 : b ≤ 29) : z = (2 : Int) ^ b.toNat := by
  subst h
  obtain ⟨n, rfl⟩ : ∃ n : Nat, b = n := ⟨b.toNat, by omega⟩
  exact (by decide +kernel : ∀ n : Nat, n < 30 → (Int32.ofInt 1 <<< (Int32.ofInt (n : Int) &&& 31)).toInt = (2 : Int) ^ (n : Int).toNat) n (by omega)
theorem shl_b {b z : Int} (h : z = (Int32.ofInt 1 <<< (Int32.ofInt b &&& 31)).toInt) : (0 ≤ b → b ≤ 6 → 1 ≤ z ∧ z ≤ 64) ∧ (0 ≤ b → b ≤ 10 → 1 ≤ z ∧ z ≤ 1024) ∧ (0 ≤ b → b ≤ 29 → 1 ≤ z) := by
  have g : ∀ n : Nat, n < 30 → 1 ≤ (Int32.ofInt 1 <<< (Int32.ofInt (n : Int) &&& 31)).toInt ∧ (n < 7 → (Int32.ofInt 1 <<< (Int32.ofInt (n : Int) &&& 31)).toInt ≤ 64) ∧ (n < 11 → (Int32.ofInt 1 <<< (Int32.ofInt (n : Int) &&& 31)).toInt ≤ 1024) := by decide +kernel
  subst h
  refine ⟨fun h0 h1 => ?_, fun h0 h1 => ?_, fun h0 h1 => ?_⟩ <;> obtain ⟨n, rfl⟩ : ∃ n : Nat, b = n := ⟨b.toNat, by omega⟩
  · exact ⟨(g n (by omega)).1, (g n (by omega)).2.1 (by omega)⟩
  · exact ⟨(g n (by omega)).1, (g n (by omega)).2.2 (by omega)⟩
  · exact (g n (by omega)).1
theorem tmod_f {a b z : Int} (h : z = a.tmod b) : (0 < b → -b < z ∧ z < b) ∧ (0 ≤ a → 0 ≤ z ∧ z ≤ a) := by
  subst h
  refine ⟨fun hb => ⟨Int.lt_tmod_of_pos a hb, Int.tmod_lt_of_pos a hb⟩, fun ha => ⟨Int.tmod_nonneg b ha, ?_⟩⟩
  obtain ⟨m, rfl⟩ : ∃ m : Nat, a = (m : Int) := ⟨a.toNat, by omega⟩
  cases b with
  | ofNat n => exact Int.ofNat_le.mpr (Nat.mod_le m n)
  | negSucc n => exact Int.ofNat_le.mpr (Nat.mod_le m (n + 1))
theorem tdiv_f {a b z : Int} (h : b ≠ -1 → z = a.tdiv b) (ha : 0 ≤ a) (hb : 0 < b) : 0 ≤ z ∧ z ≤ a := by
  have e := h (by omega)
  subst e
  exact ⟨Int.tdiv_nonneg ha (by omega), Int.tdiv_le_self b ha⟩
