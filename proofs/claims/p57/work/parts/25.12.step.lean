/-! the law: 25.12.step (wip/p57/gen) -/
theorem i327_26 : zi 327 26 27 2 1 0 := by decide +kernel
theorem i327_27 : zi 327 27 28 0 0 8 := by decide +kernel
theorem i327_28 : zi 327 28 29 8 0 0 := by decide +kernel
theorem i327_29 : zi 327 29 30 0 0 1 := by decide +kernel
theorem i327_30 : zi 327 30 31 19 60 1 := by decide +kernel
theorem i327_31 : zi 327 31 32 1 5 0 := by decide +kernel
theorem i327_32 : zi 327 32 33 0 0 3 := by decide +kernel
theorem i327_33 : zi 327 33 34 13 4 0 := by decide +kernel
theorem i327_34 : zi 327 34 35 18 60 1 := by decide +kernel
theorem i327_35 : zi 327 35 36 2 1 0 := by decide +kernel
theorem i327_36 : zi 327 36 37 0 0 8 := by decide +kernel
theorem i327_37 : zi 327 37 38 0 0 0 := by decide +kernel
theorem i327_38 : zi 327 38 39 10 0 0 := by decide +kernel
theorem i327_39 : zi 327 39 40 2 0 0 := by decide +kernel
theorem i327_40 : zi 327 40 41 21 134 11 := by decide +kernel
theorem na_134 : z_na 134 = 0 := by decide +kernel
theorem i327_41 : zi 327 41 42 18 58 0 := by decide +kernel
theorem i327_42 : zi 327 42 43 2 0 0 := by decide +kernel
theorem i327_43 : zi 327 43 44 21 135 11 := by decide +kernel
theorem i327_44 : zi 327 44 45 18 58 1 := by decide +kernel
theorem i327_45 : zi 327 45 46 2 0 0 := by decide +kernel
theorem i327_46 : zi 327 46 47 21 134 11 := by decide +kernel
theorem i327_47 : zi 327 47 48 18 58 1 := by decide +kernel
theorem i327_48 : zi 327 48 49 2 0 0 := by decide +kernel
theorem i327_49 : zi 327 49 50 1 6 0 := by decide +kernel
theorem i327_50 : zi 327 50 51 1 8 0 := by decide +kernel
theorem i327_51 : zi 327 51 52 1 7 0 := by decide +kernel
theorem i327_52 : zi 327 52 53 0 0 0 := by decide +kernel
theorem i327_53 : zi 327 53 54 21 158 11 := by decide +kernel
theorem i327_54 : zi 327 54 55 0 0 (-2) := by decide +kernel
theorem i327_55 : zi 327 55 56 19 58 1 := by decide +kernel
theorem i327_56 : zi 327 56 57 0 0 1 := by decide +kernel
theorem i327_57 : zi 327 57 58 17 59 0 := by decide +kernel
theorem i327_59 : zi 327 59 60 26 0 0 := by decide +kernel
theorem i327_60 : zi 327 60 61 2 1 0 := by decide +kernel
theorem i327_61 : zi 327 61 62 0 0 8 := by decide +kernel
theorem i327_62 : zi 327 62 63 8 0 0 := by decide +kernel
theorem i327_63 : zi 327 63 64 0 0 1 := by decide +kernel
theorem i327_64 : zi 327 64 65 19 69 0 := by decide +kernel
theorem i327_69 : zi 327 69 70 0 0 1 := by decide +kernel
theorem i327_70 : zi 327 70 71 17 72 0 := by decide +kernel
theorem i327_72 : zi 327 72 73 26 0 0 := by decide +kernel
theorem i327_65 : zi 327 65 66 2 0 0 := by decide +kernel
theorem i327_66 : zi 327 66 67 2 1 0 := by decide +kernel
theorem i327_67 : zi 327 67 68 22 326 0 := by decide +kernel
theorem na_326 : z_na 326 = 2 := by decide +kernel
theorem i327_68 : zi 327 68 69 18 71 0 := by decide +kernel
theorem i327_73 : zi 327 73 74 2 0 0 := by decide +kernel
theorem i327_74 : zi 327 74 75 2 1 0 := by decide +kernel
theorem i327_75 : zi 327 75 76 1 4 0 := by decide +kernel
theorem i327_76 : zi 327 76 77 0 0 3 := by decide +kernel
theorem i327_77 : zi 327 77 78 13 4 0 := by decide +kernel
theorem i327_78 : zi 327 78 79 1 5 0 := by decide +kernel
theorem i327_79 : zi 327 79 80 0 0 6 := by decide +kernel
theorem i327_80 : zi 327 80 81 13 4 0 := by decide +kernel
theorem i327_81 : zi 327 81 82 22 328 0 := by decide +kernel
theorem na_328 : z_na 328 = 4 := by decide +kernel
theorem i327_82 : zi 327 82 83 26 0 0 := by decide +kernel
theorem i327_83 : zi 327 83 84 2 0 0 := by decide +kernel
theorem i327_84 : zi 327 84 85 2 1 0 := by decide +kernel
theorem i327_85 : zi 327 85 86 1 6 0 := by decide +kernel
theorem i327_86 : zi 327 86 87 1 4 0 := by decide +kernel
theorem i327_87 : zi 327 87 88 1 5 0 := by decide +kernel
theorem i327_88 : zi 327 88 89 22 329 0 := by decide +kernel
theorem na_329 : z_na 329 = 5 := by decide +kernel
theorem i327_89 : zi 327 89 90 26 0 0 := by decide +kernel
theorem i327_90 : zi 327 90 91 2 1 0 := by decide +kernel
theorem i327_91 : zi 327 91 92 0 0 1 := by decide +kernel
theorem i327_92 : zi 327 92 93 8 0 0 := by decide +kernel
theorem i327_93 : zi 327 93 94 18 100 0 := by decide +kernel
theorem i327_100 : zi 327 100 101 0 0 1 := by decide +kernel
theorem i327_101 : zi 327 101 102 17 103 0 := by decide +kernel
theorem i327_103 : zi 327 103 104 26 0 0 := by decide +kernel
theorem i327_94 : zi 327 94 95 2 0 0 := by decide +kernel
theorem i327_95 : zi 327 95 96 2 1 0 := by decide +kernel
theorem i327_96 : zi 327 96 97 1 6 0 := by decide +kernel
theorem i327_97 : zi 327 97 98 1 5 0 := by decide +kernel
theorem i327_98 : zi 327 98 99 22 330 0 := by decide +kernel
theorem na_330 : z_na 330 = 4 := by decide +kernel
theorem i327_99 : zi 327 99 100 18 102 0 := by decide +kernel
theorem i327_104 : zi 327 104 105 2 1 0 := by decide +kernel
theorem i327_105 : zi 327 105 106 0 0 1 := by decide +kernel
theorem i327_106 : zi 327 106 107 8 0 0 := by decide +kernel
theorem i327_107 : zi 327 107 108 18 115 1 := by decide +kernel
theorem i327_108 : zi 327 108 109 2 0 0 := by decide +kernel
theorem i327_109 : zi 327 109 110 21 174 11 := by decide +kernel
theorem i327_110 : zi 327 110 111 18 113 1 := by decide +kernel
theorem i327_111 : zi 327 111 112 0 0 1 := by decide +kernel
theorem i327_112 : zi 327 112 113 17 114 0 := by decide +kernel
theorem i327_114 : zi 327 114 115 26 0 0 := by decide +kernel
theorem i327_115 : zi 327 115 116 2 0 0 := by decide +kernel
theorem i327_116 : zi 327 116 117 1 6 0 := by decide +kernel
theorem i327_117 : zi 327 117 118 21 156 11 := by decide +kernel
theorem i327_118 : zi 327 118 119 3 9 0 := by decide +kernel
theorem i327_119 : zi 327 119 120 2 0 0 := by decide +kernel
theorem i327_120 : zi 327 120 121 1 6 0 := by decide +kernel
theorem i327_121 : zi 327 121 122 0 0 1 := by decide +kernel
theorem i327_122 : zi 327 122 123 1 5 0 := by decide +kernel
theorem i327_123 : zi 327 123 124 0 0 100 := by decide +kernel
theorem i327_124 : zi 327 124 125 13 4 0 := by decide +kernel
theorem i327_125 : zi 327 125 126 13 0 0 := by decide +kernel
theorem i327_126 : zi 327 126 127 21 153 11 := by decide +kernel
theorem na_153 : z_na 153 = 2 := by decide +kernel
theorem i327_127 : zi 327 127 128 3 10 0 := by decide +kernel
theorem i327_128 : zi 327 128 129 2 1 0 := by decide +kernel
theorem i327_129 : zi 327 129 130 0 0 8 := by decide +kernel
theorem i327_130 : zi 327 130 131 8 0 0 := by decide +kernel
theorem i327_131 : zi 327 131 132 18 139 1 := by decide +kernel
theorem i327_132 : zi 327 132 133 1 10 0 := by decide +kernel
theorem i327_133 : zi 327 133 134 0 0 (-2) := by decide +kernel
theorem i327_134 : zi 327 134 135 19 137 1 := by decide +kernel
theorem i327_135 : zi 327 135 136 0 0 1 := by decide +kernel
theorem i327_136 : zi 327 136 137 17 166 0 := by decide +kernel
theorem i327_166 : zi 327 166 167 26 0 0 := by decide +kernel
theorem i327_139 : zi 327 139 140 1 9 0 := by decide +kernel
theorem i327_140 : zi 327 140 141 18 160 0 := by decide +kernel
theorem i327_160 : zi 327 160 161 1 10 0 := by decide +kernel
theorem i327_161 : zi 327 161 162 0 0 (-4) := by decide +kernel
theorem i327_162 : zi 327 162 163 19 165 1 := by decide +kernel
theorem i327_163 : zi 327 163 164 0 0 1 := by decide +kernel
theorem i327_164 : zi 327 164 165 17 166 0 := by decide +kernel
theorem i327_141 : zi 327 141 142 1 10 0 := by decide +kernel
theorem i327_142 : zi 327 142 143 0 0 (-4) := by decide +kernel
theorem i327_143 : zi 327 143 144 19 156 0 := by decide +kernel
theorem i327_156 : zi 327 156 157 0 0 1 := by decide +kernel
theorem i327_157 : zi 327 157 158 17 166 0 := by decide +kernel
theorem i327_144 : zi 327 144 145 1 10 0 := by decide +kernel
theorem i327_145 : zi 327 145 146 2 1 0 := by decide +kernel
theorem i327_146 : zi 327 146 147 0 0 0 := by decide +kernel
theorem i327_147 : zi 327 147 148 8 0 0 := by decide +kernel
theorem i327_148 : zi 327 148 149 19 158 5 := by decide +kernel
theorem i327_149 : zi 327 149 150 1 10 0 := by decide +kernel
theorem i327_150 : zi 327 150 151 2 1 0 := by decide +kernel
theorem i327_151 : zi 327 151 152 0 0 0 := by decide +kernel
theorem i327_152 : zi 327 152 153 8 0 0 := by decide +kernel
theorem i327_153 : zi 327 153 154 0 0 100 := by decide +kernel
theorem i327_154 : zi 327 154 155 13 0 0 := by decide +kernel
theorem i327_155 : zi 327 155 156 19 158 4 := by decide +kernel
theorem i327_167 : zi 327 167 168 2 0 0 := by decide +kernel
theorem i327_168 : zi 327 168 169 2 1 0 := by decide +kernel
theorem i327_169 : zi 327 169 170 2 2 0 := by decide +kernel
theorem i327_170 : zi 327 170 171 1 6 0 := by decide +kernel
theorem i327_171 : zi 327 171 172 1 8 0 := by decide +kernel
theorem i327_172 : zi 327 172 173 1 7 0 := by decide +kernel
theorem i327_173 : zi 327 173 174 1 4 0 := by decide +kernel
theorem i327_174 : zi 327 174 175 0 0 512 := by decide +kernel
theorem i327_175 : zi 327 175 176 13 3 0 := by decide +kernel
theorem nz_512 : ¬ (512 : Int32) = 0 := by decide
theorem i327_176 : zi 327 176 177 22 331 0 := by decide +kernel
theorem na_331 : z_na 331 = 7 := by decide +kernel
theorem i327_177 : zi 327 177 178 26 0 0 := by decide +kernel
theorem i327_178 : zi 327 178 179 2 0 0 := by decide +kernel
theorem i327_179 : zi 327 179 180 2 1 0 := by decide +kernel
theorem i327_180 : zi 327 180 181 2 2 0 := by decide +kernel
theorem i327_181 : zi 327 181 182 1 6 0 := by decide +kernel
theorem i327_182 : zi 327 182 183 1 8 0 := by decide +kernel
theorem i327_183 : zi 327 183 184 1 7 0 := by decide +kernel
theorem i327_184 : zi 327 184 185 1 4 0 := by decide +kernel
theorem i327_185 : zi 327 185 186 0 0 512 := by decide +kernel
theorem i327_186 : zi 327 186 187 13 3 0 := by decide +kernel
theorem i327_187 : zi 327 187 188 22 332 0 := by decide +kernel
theorem na_332 : z_na 332 = 7 := by decide +kernel
theorem i327_188 : zi 327 188 189 26 0 0 := by decide +kernel
theorem i327_189 : zi 327 189 190 2 0 0 := by decide +kernel
theorem i327_190 : zi 327 190 191 1 4 0 := by decide +kernel
theorem i327_191 : zi 327 191 192 0 0 3 := by decide +kernel
theorem i327_192 : zi 327 192 193 13 4 0 := by decide +kernel
theorem i327_193 : zi 327 193 194 1 5 0 := by decide +kernel
theorem i327_194 : zi 327 194 195 0 0 3 := by decide +kernel
theorem i327_195 : zi 327 195 196 13 4 0 := by decide +kernel
theorem i327_196 : zi 327 196 197 21 162 11 := by decide +kernel
theorem na_162 : z_na 162 = 2 := by decide +kernel
theorem i327_197 : zi 327 197 198 3 11 0 := by decide +kernel
theorem i327_198 : zi 327 198 199 1 11 0 := by decide +kernel
theorem i327_199 : zi 327 199 200 18 217 2 := by decide +kernel
theorem i327_200 : zi 327 200 201 1 11 0 := by decide +kernel
theorem i327_201 : zi 327 201 202 0 0 3 := by decide +kernel
theorem i327_202 : zi 327 202 203 19 217 3 := by decide +kernel
theorem i327_203 : zi 327 203 204 2 0 0 := by decide +kernel
theorem i327_204 : zi 327 204 205 1 4 0 := by decide +kernel
theorem i327_205 : zi 327 205 206 0 0 3 := by decide +kernel
theorem i327_206 : zi 327 206 207 13 4 0 := by decide +kernel
theorem i327_207 : zi 327 207 208 1 5 0 := by decide +kernel
theorem i327_208 : zi 327 208 209 0 0 3 := by decide +kernel
theorem i327_209 : zi 327 209 210 13 4 0 := by decide +kernel
theorem i327_210 : zi 327 210 211 21 162 11 := by decide +kernel
theorem i327_211 : zi 327 211 212 1 5 0 := by decide +kernel
theorem i327_212 : zi 327 212 213 0 0 3 := by decide +kernel
theorem i327_213 : zi 327 213 214 13 4 0 := by decide +kernel
theorem i327_214 : zi 327 214 215 19 217 1 := by decide +kernel
theorem i327_215 : zi 327 215 216 0 0 1 := by decide +kernel
theorem i327_216 : zi 327 216 217 17 218 0 := by decide +kernel
theorem i327_218 : zi 327 218 219 26 0 0 := by decide +kernel
theorem i327_219 : zi 327 219 220 2 0 0 := by decide +kernel
theorem i327_220 : zi 327 220 221 2 1 0 := by decide +kernel
theorem i327_221 : zi 327 221 222 1 6 0 := by decide +kernel
theorem i327_222 : zi 327 222 223 1 8 0 := by decide +kernel
theorem i327_223 : zi 327 223 224 1 7 0 := by decide +kernel
theorem i327_224 : zi 327 224 225 22 333 0 := by decide +kernel
theorem na_333 : z_na 333 = 5 := by decide +kernel
theorem i327_225 : zi 327 225 226 26 0 0 := by decide +kernel
theorem i327_226 : zi 327 226 227 2 1 0 := by decide +kernel
theorem i327_227 : zi 327 227 228 0 0 4 := by decide +kernel
theorem i327_228 : zi 327 228 229 8 0 0 := by decide +kernel
theorem i327_229 : zi 327 229 230 18 244 0 := by decide +kernel
theorem i327_244 : zi 327 244 245 0 0 1 := by decide +kernel
theorem i327_245 : zi 327 245 246 17 247 0 := by decide +kernel
theorem i327_247 : zi 327 247 248 26 0 0 := by decide +kernel
theorem i327_230 : zi 327 230 231 2 0 0 := by decide +kernel
theorem i327_231 : zi 327 231 232 2 1 0 := by decide +kernel
theorem i327_232 : zi 327 232 233 1 6 0 := by decide +kernel
theorem i327_233 : zi 327 233 234 1 8 0 := by decide +kernel
theorem i327_234 : zi 327 234 235 1 4 0 := by decide +kernel
theorem i327_235 : zi 327 235 236 0 0 512 := by decide +kernel
theorem i327_236 : zi 327 236 237 13 3 0 := by decide +kernel
theorem i327_237 : zi 327 237 238 2 1 0 := by decide +kernel
theorem i327_238 : zi 327 238 239 0 0 4 := by decide +kernel
theorem i327_239 : zi 327 239 240 8 0 0 := by decide +kernel
theorem i327_240 : zi 327 240 241 13 4 0 := by decide +kernel
theorem i327_241 : zi 327 241 242 1 5 0 := by decide +kernel
theorem i327_242 : zi 327 242 243 22 334 0 := by decide +kernel
theorem na_334 : z_na 334 = 6 := by decide +kernel
theorem i327_243 : zi 327 243 244 18 246 0 := by decide +kernel
theorem i327_248 : zi 327 248 249 2 0 0 := by decide +kernel
theorem i327_249 : zi 327 249 250 2 1 0 := by decide +kernel
theorem i327_250 : zi 327 250 251 1 6 0 := by decide +kernel
theorem i327_251 : zi 327 251 252 1 8 0 := by decide +kernel
theorem i327_252 : zi 327 252 253 1 7 0 := by decide +kernel
theorem i327_253 : zi 327 253 254 0 0 1 := by decide +kernel
theorem i327_254 : zi 327 254 255 1 5 0 := by decide +kernel
theorem i327_255 : zi 327 255 256 0 0 216 := by decide +kernel
theorem i327_256 : zi 327 256 257 13 3 0 := by decide +kernel
theorem nz_216 : ¬ (216 : Int32) = 0 := by decide
theorem i327_257 : zi 327 257 258 0 0 200 := by decide +kernel
theorem i327_258 : zi 327 258 259 13 4 0 := by decide +kernel
theorem nz_200 : ¬ (200 : Int32) = 0 := by decide
theorem i327_259 : zi 327 259 260 13 0 0 := by decide +kernel
theorem i327_260 : zi 327 260 261 22 335 0 := by decide +kernel
theorem na_335 : z_na 335 = 6 := by decide +kernel
theorem i327_261 : zi 327 261 262 26 0 0 := by decide +kernel
theorem i327_497 : zi 327 497 498 2 0 0 := by decide +kernel
theorem i327_498 : zi 327 498 499 1 4 0 := by decide +kernel
theorem i327_499 : zi 327 499 500 1 5 0 := by decide +kernel
theorem i327_500 : zi 327 500 501 22 336 0 := by decide +kernel
theorem na_336 : z_na 336 = 3 := by decide +kernel
theorem i327_501 : zi 327 501 502 26 0 0 := by decide +kernel
theorem i327_502 : zi 327 502 503 0 0 1 := by decide +kernel
theorem i327_503 : zi 327 503 504 1 5 0 := by decide +kernel
theorem i327_504 : zi 327 504 505 0 0 4 := by decide +kernel
theorem i327_505 : zi 327 505 506 13 4 0 := by decide +kernel
theorem i327_506 : zi 327 506 507 13 0 0 := by decide +kernel
theorem i327_507 : zi 327 507 508 3 16 0 := by decide +kernel
theorem i327_508 : zi 327 508 509 2 1 0 := by decide +kernel
theorem i327_509 : zi 327 509 510 0 0 0 := by decide +kernel
theorem i327_510 : zi 327 510 511 15 0 0 := by decide +kernel
theorem i327_511 : zi 327 511 512 8 0 0 := by decide +kernel
theorem i327_512 : zi 327 512 513 1 16 0 := by decide +kernel
theorem i327_513 : zi 327 513 514 13 0 0 := by decide +kernel
theorem i327_514 : zi 327 514 515 10 0 0 := by decide +kernel
theorem i327_515 : zi 327 515 516 2 0 0 := by decide +kernel
theorem i327_516 : zi 327 516 517 1 16 0 := by decide +kernel
theorem i327_517 : zi 327 517 518 21 184 11 := by decide +kernel
theorem na_184 : z_na 184 = 1 := by decide +kernel
theorem i327_518 : zi 327 518 519 2 1 0 := by decide +kernel
theorem i327_519 : zi 327 519 520 0 0 0 := by decide +kernel
theorem i327_520 : zi 327 520 521 8 0 0 := by decide +kernel
theorem i327_521 : zi 327 521 522 19 524 1 := by decide +kernel
theorem i327_522 : zi 327 522 523 0 0 1 := by decide +kernel
theorem i327_523 : zi 327 523 524 17 525 0 := by decide +kernel
theorem i327_525 : zi 327 525 526 26 0 0 := by decide +kernel
theorem jCx_out0 {S : zS} {v : Int32} (h : jCx [] S) : jCx [0] (z_up S 13 0 v) := by
  unfold jCx
  refine ⟨fun hk => absurd hk (by decide), fun _ => by rw [zupf rfl, zupci rfl]; exact jcx1 h, fun _ => by rw [zupf rfl, zupci rfl]; exact jcx2 h, fun _ => by rw [zupf rfl, zupci rfl]; exact jcx3 h, fun _ => by rw [zupf rfl, zupci rfl]; exact jcx4 h, fun _ => by rw [zupf rfl, zupci rfl]; exact jcx5 h, fun _ => by rw [zupf rfl, zupci rfl]; exact jcx6 h, fun _ => by rw [zupf rfl, zupci rfl]; exact jcx7 h, fun _ => by rw [zupf rfl, zupci rfl]; exact jcx8 h⟩
theorem jCx_out8 {S : zS} {v : Int32} (h : jCx [] S) : jCx [8] (z_up S 13 8 v) := by
  unfold jCx
  refine ⟨fun _ => by rw [zupf rfl, zupci rfl]; exact jcx0 h, fun _ => by rw [zupf rfl, zupci rfl]; exact jcx1 h, fun _ => by rw [zupf rfl, zupci rfl]; exact jcx2 h, fun _ => by rw [zupf rfl, zupci rfl]; exact jcx3 h, fun _ => by rw [zupf rfl, zupci rfl]; exact jcx4 h, fun _ => by rw [zupf rfl, zupci rfl]; exact jcx5 h, fun _ => by rw [zupf rfl, zupci rfl]; exact jcx6 h, fun _ => by rw [zupf rfl, zupci rfl]; exact jcx7 h, fun hk => absurd hk (by decide)⟩
theorem jCx_in0 {S : zS} (h : jCx [0] S) (e : S 13 0 = S 0 11) : jCx [] S := by
  have e1 := jCx_up0 (v := S 13 0) h e [] jmem1
  rwa [jup_id] at e1
theorem jCx_in4 {S : zS} (h : jCx [4] S) (e : S 13 4 = S 10 4) : jCx [] S := by
  have e1 := jCx_up4 (v := S 13 4) h e [] jmem1
  rwa [jup_id] at e1
theorem jCx_in8 {S : zS} (h : jCx [8] S) (e : S 13 8 = S 1 6) : jCx [] S := by
  have e1 := jCx_up8 (v := S 13 8) h e [] jmem1
  rwa [jup_id] at e1
theorem jk_65521b : (65521 : Int32).toInt = 65521 := rfl
theorem jseal {n : Nat} {S : zS} (i : jI n S) (c : jCx [8] S) (e : jE S) (h8 : S 13 8 = 0) : jLaw n (B134 S) ∧ B134 S 1 6 = 0 := by
  obtain ⟨h1, h2⟩ := jq134 i
  have hp := p_B134 S
  exact ⟨⟨h1, jCx_in8 (jCx_kk (ks' := [8]) rfl rfl hp c) (by rw [hp.1 13 rfl, h8, h2]), jE_k rfl rfl hp e⟩, h2⟩
theorem jseal2 {n : Nat} {S : zS} (w : jLaw n S) (h6 : S 1 6 = 0) : jLaw n (B134 S) ∧ B134 S 1 6 = 0 := jseal w.1 (jCx_kk (l := []) (fl := []) rfl rfl zkp_S w.2.1) w.2.2 ((jcx8 w.2.1).trans h6)
theorem jread0 {S : zS} {n : Nat} (h : jI n S) (a b c d : Int32) (h6 : S 1 6 = 0) : B158 a b c d S 10 = S 10 := by
  have hs := jsealed h a b c 1 h6
  unfold B158
  rw [hs, if_neg (by decide), if_neg (by decide)]
  exact ((p_G197 _ _ _ _ _).1 10 rfl).trans ((p_G196 _ _ _ _ _).1 10 rfl)
theorem jopn {n : Nat} {S S1 : zS} (w : jLaw n S) (i : jI n S1) (h6 : S1 1 6 = 1) (hp : zkp [1, 15] [1005, 1006] S S1) : jLaw n (z_up S1 13 8 1) := 
  ⟨jI_13 i 8 1 rfl, jCx_up8 (jCx_kk (ks' := [8]) rfl rfl hp w.2.1) h6.symm [] jmem1, jE_13 (jE_k rfl rfl hp w.2.2) 8 1⟩
theorem jI_81 {n : Nat} {S : zS} (h : jI n S) (i : Nat) (v : Int32) : jI n (z_up S 81 i v) := by
  have hp : zkp [81] [] S (z_up S 81 i v) := zkp_up zkp_S rfl rfl
  unfold jI
  exact ⟨(jSea_k rfl hp (jI_Sea h)), (jKey_k rfl hp (jI_Key h)), (jEng_k rfl hp (jI_Eng h)), (jPpl_k rfl hp (jI_Ppl h)), (jTok_k rfl hp (jI_Tok h)), (jTim_k rfl hp (jI_Tim h)), (jUse_k rfl hp (jI_Use h)), (jLea_k rfl hp (jI_Lea h)), (jEnd_k rfl hp (jI_End h)), (jLT_k rfl hp (jI_LT h)), (jCnt_k rfl hp (jI_Cnt h)), (jSto_k rfl hp (jI_Sto h)), (jFar_k rfl hp (jI_Far h)), (jWra_k rfl hp (jI_Wra h)), (jCas_k rfl hp (jI_Cas h)), (jCer_k rfl hp (jI_Cer h)), (jSin_k rfl hp (jI_Sin h))⟩
theorem jCx_81 {S : zS} (h : jCx [] S) (i : Nat) (v : Int32) : jCx [] (z_up S 81 i v) := jCx_k (l := [81]) (fl := []) rfl (zkp_up zkp_S rfl rfl) h
theorem jmount1 {n : Nat} {S : zS} (w : jLaw n S) {a b c u : Int32} {j : Nat} (ha : zx 6 a) (hb : 0 ≤ b.toInt ∧ b.toInt ≤ 2) (hc : zx 3 c) (hj : 6 ≤ j) : jLaw n (z_up (z_up (B143 a b c S) 81 a.toNatClampNeg (b + 1)) 81 j u) := by
  obtain ⟨h1, h2, h3⟩ := jq143a w.1 (a := a) hb hc
  refine ⟨jI_81 (jI_81 h1 _ _) _ _, jCx_81 (jCx_81 (jCx_k rfl h3 w.2.1) _ _) _ _, fun f hf => ?_⟩
  have hne : ¬ f = j := by omega
  have e16 : z_up (z_up (B143 a b c S) 81 a.toNatClampNeg (b + 1)) 81 j u 16 f = B143 a b c S 16 f := by rw [zupci rfl, zupci rfl]
  rw [e16, zup2, if_pos rfl, if_neg hne, zup2, if_pos rfl, h2, h3.1 81 rfl]
  unfold upd
  by_cases hfa : f = a.toNatClampNeg
  · rw [if_pos hfa, if_pos hfa]
  · rw [if_neg hfa, if_neg hfa]; exact w.2.2 f hf
theorem jmount0 {n : Nat} {S : zS} (hn : n < 490) (w : jLaw n S) {a : Int32} (ha : zx 6 a) : jLaw n (z_up (B143 a (-1) 0 S) 81 a.toNatClampNeg 0) ∧ (∀ p : Nat, a.toInt * 36 ≤ p → (p : Int) < a.toInt * 36 + 36 → z_up (B143 a (-1) 0 S) 81 a.toNatClampNeg 0 51 p = 0) ∧ (∀ i, i < (z_up (B143 a (-1) 0 S) 81 a.toNatClampNeg 0 6 0).toNatClampNeg → z_up (B143 a (-1) 0 S) 81 a.toNatClampNeg 0 46 i = 0 → (z_up (B143 a (-1) 0 S) 81 a.toNatClampNeg 0 42 i).toInt < jLo a (-1) ∨ jHi a (-1) ≤ (z_up (B143 a (-1) 0 S) 81 a.toNatClampNeg 0 42 i).toInt) := by
  have ha' := zx_iff.mp ha
  obtain ⟨h1, h2, h3, h4⟩ := jq143b (by omega) w.1 (a := a) (by omega)
  have hp := p_B143 a (-1) 0 S
  refine ⟨⟨jI_81 h1 _ _, jCx_81 (jCx_k rfl hp w.2.1) _ _, fun f hf => ?_⟩, fun p e1 e2 => (zupci rfl).trans (h3 p e1 e2), fun i hi e => ?_⟩
  · have e16 : z_up (B143 a (-1) 0 S) 81 a.toNatClampNeg 0 16 f = B143 a (-1) 0 S 16 f := zupci rfl
    rw [e16, zup2, if_pos rfl, h2, hp.1 81 rfl]
    unfold upd
    by_cases hfa : f = a.toNatClampNeg
    · rw [if_pos hfa, if_pos hfa]; rfl
    · rw [if_neg hfa, if_neg hfa]; exact w.2.2 f hf
  · have e6 : z_up (B143 a (-1) 0 S) 81 a.toNatClampNeg 0 6 0 = B143 a (-1) 0 S 6 0 := zupci rfl
    have e46 : z_up (B143 a (-1) 0 S) 81 a.toNatClampNeg 0 46 i = B143 a (-1) 0 S 46 i := zupci rfl
    have e42 : z_up (B143 a (-1) 0 S) 81 a.toNatClampNeg 0 42 i = B143 a (-1) 0 S 42 i := zupci rfl
    rw [e6] at hi
    rw [e46] at e
    have := h4 i hi e
    have e36 := (jn36 (a := a) (by omega)).1
    rw [zk_lt, zk_le, zk_tadd (by rw [e36, jk_36]; omega) (by rw [e36, jk_36]; omega), e36, jk_36] at this
    rw [e42]
    unfold jHi jLo
    rw [if_pos rfl, if_pos rfl]
    omega
theorem jkey0 {S : zS} {p : Int32} (h : S 51 p.toNatClampNeg = 0) : A161 p 0 S = -1 := by
  have e : F107 p 0 S = -1 := by
    unfold F107
    rw [if_pos rfl, h]
    exact if_neg (fun e9 => e9.1 (by decide))
  unfold A161
  rw [if_pos e]
theorem jpas2 {n : Nat} {S : zS} (hn : n < 490) (w : jLaw n S) {a : Int32} (ha : 1 ≤ a.toInt ∧ a.toInt ≤ 4) : jLaw (n + 1) (B184 a (z_up S 13 0 (S 13 0 + a))) ∧ A184 a (z_up S 13 0 (S 13 0 + a)) = B184 a (z_up S 13 0 (S 13 0 + a)) 13 0 := by
  have hK := rKey_0 (jI_Key w.1)
  unfold zn at hK
  have k0 := jcx0 w.2.1
  have i1 : jI n (z_up S 13 0 (S 13 0 + a)) := jI_13 w.1 0 _ rfl
  obtain ⟨h1, h2, h3⟩ := jq184 (by omega) i1 (a := a) (by omega)
  have hp := p_B184 a (z_up S 13 0 (S 13 0 + a))
  have e13 : B184 a (z_up S 13 0 (S 13 0 + a)) 13 0 = S 13 0 + a := by rw [hp.1 13 rfl, zup_s]
  have e11 : z_up S 13 0 (S 13 0 + a) 0 11 = S 0 11 := zupci rfl
  have eA : A184 a (z_up S 13 0 (S 13 0 + a)) = S 13 0 + a := zk_eq.mpr (by rw [h2, e11, k0, zk_tadd (by omega) (by omega)])
  exact ⟨⟨h1, jCx_in0 (jCx_kk (ks' := [0]) rfl rfl hp (jCx_out0 w.2.1)) (by rw [e13, h3, eA]), jE_k rfl rfl hp (jE_13 w.2.2 0 _)⟩, by rw [e13, eA]⟩

set_option maxRecDepth 100000 in
theorem q327_26 {L : Nat} (x a b t p q : Int32) {S : zS} {n : Nat} (hn : n < 480) (w : jLaw n S) (ha : 0 ≤ a.toInt) (hb : 0 ≤ b.toInt) (ht : zn 39 t) (hT : ¬ S 5 0 = 0 → t.toInt < (S 5 0).toInt) (hp : zx 216 p) (hq : 0 ≤ q.toInt ∧ q.toInt < 4) : zH L 327 (26, [some (.inr (.inr 0)), some (.inr (.inr 13)), some (.inr (.inr 81)), some (.inl x), some (.inl a), some (.inl b), some (.inl t), some (.inl p), some (.inl q), none, none, none, none, none, none, none, none], [], S) (jQ (fun S' => jLaw (n + 6) S')) := by
  have k8 := jcx8 w.2.1
  have zo6 := rSea_0 (jI_Sea w.1)
  have hpp := zx_iff.mp hp
  refine zH_pre (zr_2_1 i327_26 (zr_0 i327_27 kc_8 (zr_8 i327_28 ar_13 (zx_9_8) kt_8 rfl (zr_0 i327_29 kc_1 (zt_rfl))))) ?_
  by_cases c8 : ((S 13 8) = 1)
  · refine zH_pre (zt_cast (zr_19_1 i327_30 (fun _ => zt_rfl) (fun _ => zt_rfl)) (if_pos c8)) ?_
    have h6 : S 1 6 = 1 := k8.symm.trans c8
    refine zH_pre (zr_1_5 i327_31 (zr_0 i327_32 kc_3 (zr_13_4 i327_33 nz_3 (zt_rfl)))) ?_
    by_cases c3 : ((zrem b 3) = 0)
    · refine zH_pre (zt_cast (zr_18_1 i327_34 (fun _ => zt_rfl) (fun _ => zt_rfl)) (if_pos c3)) ?_
      refine zH_pre (zr_2_1 i327_35 (zr_0 i327_36 kc_8 (zr_0 i327_37 kc_0 (zr_10 i327_38 ar_13 (zx_9_8) kt_8 (zr_2_0 i327_39 (zt_rfl)))))) ?_
      have f := (show jI n (z_up S 13 8 0) ∧ jCx [8] (z_up S 13 8 0) ∧ jE (z_up S 13 8 0) ∧ (z_up S 13 8 0) 13 8 = 0 ∧ (z_up S 13 8 0) 1 6 = 1 from ⟨jI_13 w.1 8 0 rfl, jCx_out8 w.2.1, jE_13 w.2.2 8 0, zup_s _ _ _ _, (zupci rfl).trans h6⟩)
      generalize (z_up S 13 8 0) = S0 at f ⊢
      obtain ⟨i0, x0, e0, z8, z6⟩ := f
      have hP : jP134  S0 := jI_n (by omega) i0
      refine zH_call (zs_21_0 i327_40 na_134 ob_0 rfl) (y134  S0 hP) ?_
      have f := (show (jLaw n (B134 S0) ∧ (B134 S0) 1 6 = 0) ∧ (A134 S0) = 1 from ⟨jseal i0 x0 e0 z8, z6⟩)
      generalize (B134 S0) = S1 at f ⊢
      generalize (A134 S0) = r at f ⊢
      obtain ⟨⟨w1, y6⟩, r1⟩ := f
      have hc : ¬ (r = 0) := by rw [r1]; decide
      refine zH_pre (zt_cast (zr_18_0 i327_41 (fun _ => zt_rfl) (fun _ => zt_rfl)) (if_neg hc)) ?_
      clear hc
      refine zH_pre (zr_2_0 i327_42 (zt_rfl)) ?_
      have hP : jP135  S1 := jI_n (by omega) w1.1
      refine zH_call (zs_21_0 i327_43 na_135 ob_0 rfl) (y135  S1 hP) ?_
      have f := (show (A135 S1) = 0 from y6)
      generalize (A135 S1) = r2 at f ⊢
      have hc : (r2 = 0) := f
      refine zH_pre (zt_cast (zr_18_1 i327_44 (fun _ => zt_rfl) (fun _ => zt_rfl)) (if_pos hc)) ?_
      clear hc
      refine zH_pre (zr_2_0 i327_45 (zt_rfl)) ?_
      have hP : jP134  S1 := jI_n (by omega) w1.1
      refine zH_call (zs_21_0 i327_46 na_134 ob_0 rfl) (y134  S1 hP) ?_
      have f := (show (jLaw n (B134 S1) ∧ (B134 S1) 1 6 = 0) ∧ (A134 S1) = 0 from ⟨jseal2 w1 y6, y6⟩)
      generalize (B134 S1) = S2 at f ⊢
      generalize (A134 S1) = r3 at f ⊢
      obtain ⟨⟨w2, v6⟩, r3e⟩ := f
      have hc : (r3 = 0) := r3e
      refine zH_pre (zt_cast (zr_18_1 i327_47 (fun _ => zt_rfl) (fun _ => zt_rfl)) (if_pos hc)) ?_
      clear hc
      refine zH_pre (zr_2_0 i327_48 (zr_1_6 i327_49 (zr_1_8 i327_50 (zr_1_7 i327_51 (zr_0 i327_52 kc_0 (zt_rfl)))))) ?_
      have hP : jP158 t q p 0 S2 := ⟨jI_n (by omega) w2.1, ht, (by simp only [zk_lt, zk_le, zk_1, jk_0, jk_2, jk_3, jk_4, jk_5, jk_6, jk_7, jk_8, jk_10, jk_11, jk_13, jk_14, jk_15, jk_16, jk_18, jk_20, jk_24, jk_25, jk_36, jk_40, jk_50, jk_64, jk_72, jk_100, jk_120, jk_200, jk_201, jk_216, jk_255, jk_256, jk_257, jk_512, jk_1000, jk_2048, jk_9999, jk_10000, jk_65521, jk_65536, jk_104729, jk_2147483647, jk_m1, jk_m2, jk_m3, jk_m4, jk_m5, jk_m6, jk_m7, jk_m8, jk_m9, jk_m10, jk_m11, jk_m12, jk_m13, jk_m14]; omega)⟩
      refine zH_call (zs_21_4 i327_53 na_158 ob_0 rfl) (y158 t q p 0 S2 hP) ?_
      have f := (show jLaw (n + 1) (B158 t q p 0 S2) ∧ (A158 t q p 0 S2) = -2 from (fun z => ⟨⟨z.2.1, jCx_in4 z.2.2.1 (by rw [z.1.1 13 rfl, jread0 w2.1 _ _ _ _ v6]; exact jcx4 w2.2.1), z.2.2.2.1⟩, z.2.2.2.2.2 v6⟩) (jv158 (by omega) w2 0 ht hp))
      generalize (B158 t q p 0 S2) = S3 at f ⊢
      generalize (A158 t q p 0 S2) = r4 at f ⊢
      obtain ⟨w3, r4e⟩ := f
      refine zH_pre (zr_0 i327_54 kc_m2 (zt_rfl)) ?_
      have hc : (r4 = (-2)) := r4e
      refine zH_pre (zt_cast (zr_19_1 i327_55 (fun _ => zt_rfl) (fun _ => zt_rfl)) (if_pos hc)) ?_
      clear hc
      refine zH_pre (zr_0 i327_56 kc_1 (zr_17 i327_57 (zt_rfl))) ?_
      exact zH_ret (zr_26 i327_59 zo_1) ⟨rfl, jLaw_u (by omega) w3⟩
    · refine zH_pre (zt_cast (zr_18_1 i327_34 (fun _ => zt_rfl) (fun _ => zt_rfl)) (if_neg c3)) ?_
      refine zH_pre (zr_2_1 i327_60 (zr_0 i327_61 kc_8 (zr_8 i327_62 ar_13 (zx_9_8) kt_8 rfl (zr_0 i327_63 kc_1 (zt_rfl))))) ?_
      have hc : ((S 13 8) = 1) := c8
      refine zH_pre (zt_cast (zr_19_0 i327_64 (fun _ => zt_rfl) (fun _ => zt_rfl)) (if_pos hc)) ?_
      clear hc
      refine zH_pre (zr_0 i327_69 kc_1 (zr_17 i327_70 (zt_rfl))) ?_
      exact zH_ret (zr_26 i327_72 zo_1) ⟨rfl, jLaw_u (by omega) w⟩
  · refine zH_pre (zt_cast (zr_19_1 i327_30 (fun _ => zt_rfl) (fun _ => zt_rfl)) (if_neg c8)) ?_
    refine zH_pre (zr_2_1 i327_60 (zr_0 i327_61 kc_8 (zr_8 i327_62 ar_13 (zx_9_8) kt_8 rfl (zr_0 i327_63 kc_1 (zt_rfl))))) ?_
    have hc : ¬ ((S 13 8) = 1) := c8
    refine zH_pre (zt_cast (zr_19_0 i327_64 (fun _ => zt_rfl) (fun _ => zt_rfl)) (if_neg hc)) ?_
    clear hc
    have h6 : S 1 6 = 0 := zo6.resolve_right (fun e => c8 (k8.trans e))
    refine zH_pre (zr_2_0 i327_65 (zr_2_1 i327_66 (zt_rfl))) ?_
    obtain ⟨S1, hz, fz⟩ := q326 (by omega) w.1 h6 (jcx6 w.2.1) (jcx7 w.2.1)
    refine zH_call (zs_22_2 i327_67 na_326 rfl) hz ?_
    obtain ⟨S2, e2, i2, z6, zp⟩ := fz
    subst e2
    refine zH_pre (zr_18f_0 i327_68 (by decide) zt_rfl) ?_
    refine zH_pre (zr_0 i327_69 kc_1 (zr_17 i327_70 (zt_rfl))) ?_
    exact zH_ret (zr_26 i327_72 zo_1) ⟨rfl, jLaw_u (by omega) (jopn w i2 z6 zp)⟩
set_option maxRecDepth 100000 in
theorem q327_73 {L : Nat} (x a b t p q : Int32) {S : zS} {n : Nat} (hn : n < 480) (w : jLaw n S) (ha : 0 ≤ a.toInt) (hb : 0 ≤ b.toInt) (ht : zn 39 t) (hT : ¬ S 5 0 = 0 → t.toInt < (S 5 0).toInt) (hp : zx 216 p) (hq : 0 ≤ q.toInt ∧ q.toInt < 4) : zH L 327 (73, [some (.inr (.inr 0)), some (.inr (.inr 13)), some (.inr (.inr 81)), some (.inl x), some (.inl a), some (.inl b), some (.inl t), some (.inl p), some (.inl q), none, none, none, none, none, none, none, none], [], S) (jQ (fun S' => jLaw (n + 6) S')) := by
  have h3 := jrem (x := a) (y := 3) ha (by decide)
  rw [jk_3] at h3
  have h6 := jrem (x := b) (y := 6) hb (by decide)
  rw [jk_6] at h6
  refine zH_pre (zr_2_0 i327_73 (zr_2_1 i327_74 (zr_1_4 i327_75 (zr_0 i327_76 kc_3 (zr_13_4 i327_77 nz_3 (zr_1_5 i327_78 (zr_0 i327_79 kc_6 (zr_13_4 i327_80 nz_6 (zt_rfl))))))))) ?_
  obtain ⟨S1, hz, fz⟩ := q328 _ _ hn w h3 h6
  refine zH_call (zs_22_4 i327_81 na_328 rfl) hz ?_
  have w1 := fz
  exact zH_ret (zr_26 i327_82 zo_1) ⟨rfl, w1⟩
set_option maxRecDepth 100000 in
theorem q327_83 {L : Nat} (x a b t p q : Int32) {S : zS} {n : Nat} (hn : n < 480) (w : jLaw n S) (ha : 0 ≤ a.toInt) (hb : 0 ≤ b.toInt) (ht : zn 39 t) (hT : ¬ S 5 0 = 0 → t.toInt < (S 5 0).toInt) (hp : zx 216 p) (hq : 0 ≤ q.toInt ∧ q.toInt < 4) : zH L 327 (83, [some (.inr (.inr 0)), some (.inr (.inr 13)), some (.inr (.inr 81)), some (.inl x), some (.inl a), some (.inl b), some (.inl t), some (.inl p), some (.inl q), none, none, none, none, none, none, none, none], [], S) (jQ (fun S' => jLaw (n + 6) S')) := by
  refine zH_pre (zr_2_0 i327_83 (zr_2_1 i327_84 (zr_1_6 i327_85 (zr_1_4 i327_86 (zr_1_5 i327_87 (zt_rfl)))))) ?_
  obtain ⟨S1, hz, fz⟩ := q329 t a b hn w ht ha hb
  refine zH_call (zs_22_5 i327_88 na_329 rfl) hz ?_
  have w1 := fz
  exact zH_ret (zr_26 i327_89 zo_1) ⟨rfl, w1⟩
set_option maxRecDepth 100000 in
theorem q327_90 {L : Nat} (x a b t p q : Int32) {S : zS} {n : Nat} (hn : n < 480) (w : jLaw n S) (ha : 0 ≤ a.toInt) (hb : 0 ≤ b.toInt) (ht : zn 39 t) (hT : ¬ S 5 0 = 0 → t.toInt < (S 5 0).toInt) (hp : zx 216 p) (hq : 0 ≤ q.toInt ∧ q.toInt < 4) : zH L 327 (90, [some (.inr (.inr 0)), some (.inr (.inr 13)), some (.inr (.inr 81)), some (.inl x), some (.inl a), some (.inl b), some (.inl t), some (.inl p), some (.inl q), none, none, none, none, none, none, none, none], [], S) (jQ (fun S' => jLaw (n + 6) S')) := by
  have k1 := jcx1 w.2.1
  refine zH_pre (zr_2_1 i327_90 (zr_0 i327_91 kc_1 (zr_8 i327_92 ar_13 (zx_9_1) kt_1 rfl (zt_rfl)))) ?_
  by_cases c1 : ((S 13 1) = 0)
  · refine zH_pre (zt_cast (zr_18_0 i327_93 (fun _ => zt_rfl) (fun _ => zt_rfl)) (if_pos c1)) ?_
    refine zH_pre (zr_0 i327_100 kc_1 (zr_17 i327_101 (zt_rfl))) ?_
    exact zH_ret (zr_26 i327_103 zo_1) ⟨rfl, jLaw_u (by omega) w⟩
  · refine zH_pre (zt_cast (zr_18_0 i327_93 (fun _ => zt_rfl) (fun _ => zt_rfl)) (if_neg c1)) ?_
    refine zH_pre (zr_2_0 i327_94 (zr_2_1 i327_95 (zr_1_6 i327_96 (zr_1_5 i327_97 (zt_rfl))))) ?_
    obtain ⟨S1, hz, fz⟩ := q330 t b hn w ⟨ht.1, hT (fun e => c1 (k1.trans e))⟩
    refine zH_call (zs_22_4 i327_98 na_330 rfl) hz ?_
    have w1 := fz
    refine zH_pre (zr_18f_0 i327_99 (by decide) zt_rfl) ?_
    refine zH_pre (zr_0 i327_100 kc_1 (zr_17 i327_101 (zt_rfl))) ?_
    exact zH_ret (zr_26 i327_103 zo_1) ⟨rfl, w1⟩
set_option maxRecDepth 100000 in
theorem q327_104 {L : Nat} (x a b t p q : Int32) {S : zS} {n : Nat} (hn : n < 480) (w : jLaw n S) (ha : 0 ≤ a.toInt) (hb : 0 ≤ b.toInt) (ht : zn 39 t) (hT : ¬ S 5 0 = 0 → t.toInt < (S 5 0).toInt) (hp : zx 216 p) (hq : 0 ≤ q.toInt ∧ q.toInt < 4) : zH L 327 (104, [some (.inr (.inr 0)), some (.inr (.inr 13)), some (.inr (.inr 81)), some (.inl x), some (.inl a), some (.inl b), some (.inl t), some (.inl p), some (.inl q), none, none, none, none, none, none, none, none], [], S) (jQ (fun S' => jLaw (n + 6) S')) := by
  have k1 := jcx1 w.2.1
  have k0 := jcx0 w.2.1
  have k8 := jcx8 w.2.1
  refine zH_pre (zr_2_1 i327_104 (zr_0 i327_105 kc_1 (zr_8 i327_106 ar_13 (zx_9_1) kt_1 rfl (zt_rfl)))) ?_
  by_cases c1 : ((S 13 1) = 0)
  · refine zH_pre (zt_cast (zr_18_1 i327_107 (fun _ => zt_rfl) (fun _ => zt_rfl)) (if_pos c1)) ?_
    refine zH_pre (zr_2_0 i327_108 (zt_rfl)) ?_
    have hP : jP174  S := jI_n (by omega) w.1
    refine zH_call (zs_21_0 i327_109 na_174 ob_0 rfl) (y174  S hP) ?_
    have f := (show (A174 S) = 0 from (jI_Cas w.1).2.2.2.2.2 (k1.symm.trans c1))
    generalize (A174 S) = r at f ⊢
    have hc : (r = 0) := f
    refine zH_pre (zt_cast (zr_18_1 i327_110 (fun _ => zt_rfl) (fun _ => zt_rfl)) (if_pos hc)) ?_
    clear hc
    refine zH_pre (zr_0 i327_111 kc_1 (zr_17 i327_112 (zt_rfl))) ?_
    exact zH_ret (zr_26 i327_114 zo_1) ⟨rfl, jLaw_u (by omega) w⟩
  · refine zH_pre (zt_cast (zr_18_1 i327_107 (fun _ => zt_rfl) (fun _ => zt_rfl)) (if_neg c1)) ?_
    have htt := hT (fun e => c1 (k1.trans e))
    have hb1 := jrem (x := b) (y := 100) hb (by decide)
    rw [jk_100] at hb1
    have hb2 : 1 ≤ (1 + (zrem b 100)).toInt ∧ (1 + (zrem b 100)).toInt ≤ 100 := by rw [jp1 hb1 (by decide)]; omega
    have hK := rKey_0 (jI_Key w.1)
    unfold zn at hK
    refine zH_pre (zr_2_0 i327_115 (zr_1_6 i327_116 (zt_rfl))) ?_
    have hP : jP156 t S := ⟨jI_n (by omega) w.1, jdem ht.1 htt⟩
    refine zH_call (zs_21_1 i327_117 na_156 ob_0 rfl) (y156 t S hP) ?_
    have f := (show (A156 t S) = zb (S 40 t.toNatClampNeg = 0) from rfl)
    generalize (A156 t S) = l at f ⊢
    have hl := f
    refine zH_pre (zr_3_9 i327_118 (zr_2_0 i327_119 (zr_1_6 i327_120 (zr_0 i327_121 kc_1 (zr_1_5 i327_122 (zr_0 i327_123 kc_100 (zr_13_4 i327_124 nz_100 (zr_13_0 i327_125 (zt_rfl))))))))) ?_
    have hP : jP153 t (1 + (zrem b 100)) S := ⟨jI_n (by omega) w.1, jdem ht.1 htt, (by simp only [zk_lt, zk_le, zk_1, jk_0, jk_2, jk_3, jk_4, jk_5, jk_6, jk_7, jk_8, jk_10, jk_11, jk_13, jk_14, jk_15, jk_16, jk_18, jk_20, jk_24, jk_25, jk_36, jk_40, jk_50, jk_64, jk_72, jk_100, jk_120, jk_200, jk_201, jk_216, jk_255, jk_256, jk_257, jk_512, jk_1000, jk_2048, jk_9999, jk_10000, jk_65521, jk_65536, jk_104729, jk_2147483647, jk_m1, jk_m2, jk_m3, jk_m4, jk_m5, jk_m6, jk_m7, jk_m8, jk_m9, jk_m10, jk_m11, jk_m12, jk_m13, jk_m14]; omega)⟩
    refine zH_call (zs_21_2 i327_126 na_153 ob_0 rfl) (y153 t (1 + (zrem b 100)) S hP) ?_
    have f := (show jLaw n (B153 t (1 + (zrem b 100)) S) ∧ (B153 t (1 + (zrem b 100)) S) 13 = S 13 ∧ _ from (fun z => ⟨⟨z.1, jCx_k rfl (p_B153 _ _ S) w.2.1, jE_k rfl rfl (p_B153 _ _ S) w.2.2⟩, (p_B153 _ _ S).1 13 rfl, z.2⟩) (jq153 (by omega) w.1 ⟨ht.1, htt⟩ hb2))
    generalize (B153 t (1 + (zrem b 100)) S) = S1 at f ⊢
    generalize (A153 t (1 + (zrem b 100)) S) = r at f ⊢
    obtain ⟨w1, k13, z⟩ := f
    refine zH_pre (zr_3_10 i327_127 (zr_2_1 i327_128 (zr_0 i327_129 kc_8 (zr_8 i327_130 ar_13 (zx_9_8) kt_8 rfl (zt_rfl))))) ?_
    by_cases c8 : ((S1 13 8) = 0)
    · refine zH_pre (zt_cast (zr_18_1 i327_131 (fun _ => zt_rfl) (fun _ => zt_rfl)) (if_pos c8)) ?_
      have h6 : S 1 6 = 0 := by rw [← k8, ← k13]; exact c8
      refine zH_pre (zr_1_10 i327_132 (zr_0 i327_133 kc_m2 (zt_rfl))) ?_
      have hc : (r = (-2)) := (z.resolve_right (fun e => e.elim (fun e => e.1 h6) (fun e => e.1 h6))).2
      refine zH_pre (zt_cast (zr_19_1 i327_134 (fun _ => zt_rfl) (fun _ => zt_rfl)) (if_pos hc)) ?_
      clear hc
      refine zH_pre (zr_0 i327_135 kc_1 (zr_17 i327_136 (zt_rfl))) ?_
      exact zH_ret (zr_26 i327_166 zo_1) ⟨rfl, jLaw_u (by omega) w1⟩
    · refine zH_pre (zt_cast (zr_18_1 i327_131 (fun _ => zt_rfl) (fun _ => zt_rfl)) (if_neg c8)) ?_
      have h6 : ¬ S 1 6 = 0 := by rw [← k8, ← k13]; exact c8
      have z1 := z.resolve_left (fun e => h6 e.1)
      have e0 : ((S 0 11) + 100).toInt = (S 0 11).toInt + 100 := by rw [zk_tadd (by rw [jk_100]; omega) (by rw [jk_100]; omega), jk_100]
      refine zH_pre (zr_1_9 i327_139 (zt_rfl)) ?_
      by_cases cl : (l = 0)
      · refine zH_pre (zt_cast (zr_18_0 i327_140 (fun _ => zt_rfl) (fun _ => zt_rfl)) (if_pos cl)) ?_
        have z2 := z1.resolve_right (fun e => (zb_0 _).mp (hl.symm.trans cl) e.2.1)
        refine zH_pre (zr_1_10 i327_160 (zr_0 i327_161 kc_m4 (zt_rfl))) ?_
        have hc : (r = (-4)) := z2.2
        refine zH_pre (zt_cast (zr_19_1 i327_162 (fun _ => zt_rfl) (fun _ => zt_rfl)) (if_pos hc)) ?_
        clear hc
        refine zH_pre (zr_0 i327_163 kc_1 (zr_17 i327_164 (zt_rfl))) ?_
        exact zH_ret (zr_26 i327_166 zo_1) ⟨rfl, jLaw_u (by omega) w1⟩
      · refine zH_pre (zt_cast (zr_18_0 i327_140 (fun _ => zt_rfl) (fun _ => zt_rfl)) (if_neg cl)) ?_
        refine zH_pre (zr_1_10 i327_141 (zr_0 i327_142 kc_m4 (zt_rfl))) ?_
        by_cases cr : (r = (-4))
        · refine zH_pre (zt_cast (zr_19_0 i327_143 (fun _ => zt_rfl) (fun _ => zt_rfl)) (if_pos cr)) ?_
          refine zH_pre (zr_0 i327_156 kc_1 (zr_17 i327_157 (zt_rfl))) ?_
          exact zH_ret (zr_26 i327_166 zo_1) ⟨rfl, jLaw_u (by omega) w1⟩
        · refine zH_pre (zt_cast (zr_19_0 i327_143 (fun _ => zt_rfl) (fun _ => zt_rfl)) (if_neg cr)) ?_
          obtain ⟨_, _, y1, y2⟩ := z1.resolve_left (fun e => cr e.2)
          refine zH_pre (zr_1_10 i327_144 (zr_2_1 i327_145 (zr_0 i327_146 kc_0 (zr_8 i327_147 ar_13 (zx_9_0) kt_0 rfl (zt_rfl))))) ?_
          have hc : ¬ (r ≤ (S1 13 0)) := by rw [k13, k0, zk_le]; omega
          refine zH_pre (zt_cast (zr_19_5 i327_148 (fun _ => zt_rfl) (fun _ => zt_rfl)) (if_neg hc)) ?_
          clear hc
          refine zH_pre (zr_1_10 i327_149 (zr_2_1 i327_150 (zr_0 i327_151 kc_0 (zr_8 i327_152 ar_13 (zx_9_0) kt_0 rfl (zr_0 i327_153 kc_100 (zr_13_0 i327_154 (zt_rfl))))))) ?_
          have hc : ¬ (((S1 13 0) + 100) < r) := by rw [k13, k0, zk_lt, e0]; omega
          refine zH_pre (zt_cast (zr_19_4 i327_155 (fun _ => zt_rfl) (fun _ => zt_rfl)) (if_neg hc)) ?_
          clear hc
          refine zH_pre (zr_0 i327_156 kc_1 (zr_17 i327_157 (zt_rfl))) ?_
          exact zH_ret (zr_26 i327_166 zo_1) ⟨rfl, jLaw_u (by omega) w1⟩
set_option maxRecDepth 100000 in
theorem q327_167 {L : Nat} (x a b t p q : Int32) {S : zS} {n : Nat} (hn : n < 480) (w : jLaw n S) (ha : 0 ≤ a.toInt) (hb : 0 ≤ b.toInt) (ht : zn 39 t) (hT : ¬ S 5 0 = 0 → t.toInt < (S 5 0).toInt) (hp : zx 216 p) (hq : 0 ≤ q.toInt ∧ q.toInt < 4) : zH L 327 (167, [some (.inr (.inr 0)), some (.inr (.inr 13)), some (.inr (.inr 81)), some (.inl x), some (.inl a), some (.inl b), some (.inl t), some (.inl p), some (.inl q), none, none, none, none, none, none, none, none], [], S) (jQ (fun S' => jLaw (n + 6) S')) := by
  have h512 := jdv (x := a) (y := 512) ha (by decide)
  refine zH_pre (zr_2_0 i327_167 (zr_2_1 i327_168 (zr_2_2 i327_169 (zr_1_6 i327_170 (zr_1_8 i327_171 (zr_1_7 i327_172 (zr_1_4 i327_173 (zr_0 i327_174 kc_512 (zr_13_3 i327_175 nz_512 (zt_rfl)))))))))) ?_
  obtain ⟨S1, hz, fz⟩ := q331 t q p _ hn w ht hq hp h512.1
  refine zH_call (zs_22_7 i327_176 na_331 rfl) hz ?_
  have w1 := fz
  exact zH_ret (zr_26 i327_177 zo_1) ⟨rfl, w1⟩
set_option maxRecDepth 100000 in
theorem q327_178 {L : Nat} (x a b t p q : Int32) {S : zS} {n : Nat} (hn : n < 480) (w : jLaw n S) (ha : 0 ≤ a.toInt) (hb : 0 ≤ b.toInt) (ht : zn 39 t) (hT : ¬ S 5 0 = 0 → t.toInt < (S 5 0).toInt) (hp : zx 216 p) (hq : 0 ≤ q.toInt ∧ q.toInt < 4) : zH L 327 (178, [some (.inr (.inr 0)), some (.inr (.inr 13)), some (.inr (.inr 81)), some (.inl x), some (.inl a), some (.inl b), some (.inl t), some (.inl p), some (.inl q), none, none, none, none, none, none, none, none], [], S) (jQ (fun S' => jLaw (n + 6) S')) := by
  have h512 := jdv (x := a) (y := 512) ha (by decide)
  refine zH_pre (zr_2_0 i327_178 (zr_2_1 i327_179 (zr_2_2 i327_180 (zr_1_6 i327_181 (zr_1_8 i327_182 (zr_1_7 i327_183 (zr_1_4 i327_184 (zr_0 i327_185 kc_512 (zr_13_3 i327_186 nz_512 (zt_rfl)))))))))) ?_
  obtain ⟨S1, hz, fz⟩ := q332 t q p _ hn w ht hq hp h512.1
  refine zH_call (zs_22_7 i327_187 na_332 rfl) hz ?_
  have w1 := fz
  exact zH_ret (zr_26 i327_188 zo_1) ⟨rfl, jLaw_u (by omega) w1⟩
set_option maxRecDepth 100000 in
theorem q327_189 {L : Nat} (x a b t p q : Int32) {S : zS} {n : Nat} (hn : n < 480) (w : jLaw n S) (ha : 0 ≤ a.toInt) (hb : 0 ≤ b.toInt) (ht : zn 39 t) (hT : ¬ S 5 0 = 0 → t.toInt < (S 5 0).toInt) (hp : zx 216 p) (hq : 0 ≤ q.toInt ∧ q.toInt < 4) : zH L 327 (189, [some (.inr (.inr 0)), some (.inr (.inr 13)), some (.inr (.inr 81)), some (.inl x), some (.inl a), some (.inl b), some (.inl t), some (.inl p), some (.inl q), none, none, none, none, none, none, none, none], [], S) (jQ (fun S' => jLaw (n + 6) S')) := by
  have h3 := jrem (x := a) (y := 3) ha (by decide)
  rw [jk_3] at h3
  have h4 := jrem (x := b) (y := 3) hb (by decide)
  rw [jk_3] at h4
  have hs := rLea_4 (jI_Lea w.1) (zrem a 3).toNatClampNeg (by have := zk_nat h3.1; omega)
  unfold zn at hs
  have hz : zn 2 (zrem b 3) := by unfold zn; omega
  refine zH_pre (zr_2_0 i327_189 (zr_1_4 i327_190 (zr_0 i327_191 kc_3 (zr_13_4 i327_192 nz_3 (zr_1_5 i327_193 (zr_0 i327_194 kc_3 (zr_13_4 i327_195 nz_3 (zt_rfl)))))))) ?_
  have hP : jP162 (zrem a 3) (zrem b 3) S := ⟨jI_n (by omega) w.1, (by simp only [zk_lt, zk_le, zk_1, jk_0, jk_2, jk_3, jk_4, jk_5, jk_6, jk_7, jk_8, jk_10, jk_11, jk_13, jk_14, jk_15, jk_16, jk_18, jk_20, jk_24, jk_25, jk_36, jk_40, jk_50, jk_64, jk_72, jk_100, jk_120, jk_200, jk_201, jk_216, jk_255, jk_256, jk_257, jk_512, jk_1000, jk_2048, jk_9999, jk_10000, jk_65521, jk_65536, jk_104729, jk_2147483647, jk_m1, jk_m2, jk_m3, jk_m4, jk_m5, jk_m6, jk_m7, jk_m8, jk_m9, jk_m10, jk_m11, jk_m12, jk_m13, jk_m14]; omega)⟩
  refine zH_call (zs_21_2 i327_196 na_162 ob_0 rfl) (y162 (zrem a 3) (zrem b 3) S hP) ?_
  have f := (show jLaw n (B162 (zrem a 3) (zrem b 3) S) ∧ (A162 (zrem a 3) (zrem b 3) S) = S 48 (zrem a 3).toNatClampNeg ∧ A162 (zrem a 3) (zrem b 3) (B162 (zrem a 3) (zrem b 3) S) = zrem b 3 from (fun z => ⟨⟨z.1, jCx_k rfl (p_B162 _ _ S) w.2.1, jE_k rfl rfl (p_B162 _ _ S) w.2.2⟩, rfl, z.2⟩) (jq162 w.1 (zrem a 3) hz))
  generalize (B162 (zrem a 3) (zrem b 3) S) = S1 at f ⊢
  generalize (A162 (zrem a 3) (zrem b 3) S) = r at f ⊢
  obtain ⟨w1, r1, r2⟩ := f
  refine zH_pre (zr_3_11 i327_197 (zr_1_11 i327_198 (zt_rfl))) ?_
  have hc : ¬ (r < 0) := by rw [r1, zk_lt, jk_0]; omega
  refine zH_pre (zt_cast (zr_18_2 i327_199 (fun _ => zt_rfl) (fun _ => zt_rfl)) (if_neg hc)) ?_
  clear hc
  refine zH_pre (zr_1_11 i327_200 (zr_0 i327_201 kc_3 (zt_rfl))) ?_
  have hc : ¬ (3 ≤ r) := by rw [r1, zk_le, jk_3]; omega
  refine zH_pre (zt_cast (zr_19_3 i327_202 (fun _ => zt_rfl) (fun _ => zt_rfl)) (if_neg hc)) ?_
  clear hc
  refine zH_pre (zr_2_0 i327_203 (zr_1_4 i327_204 (zr_0 i327_205 kc_3 (zr_13_4 i327_206 nz_3 (zr_1_5 i327_207 (zr_0 i327_208 kc_3 (zr_13_4 i327_209 nz_3 (zt_rfl)))))))) ?_
  have hP : jP162 (zrem a 3) (zrem b 3) S1 := ⟨jI_n (by omega) w1.1, (by simp only [zk_lt, zk_le, zk_1, jk_0, jk_2, jk_3, jk_4, jk_5, jk_6, jk_7, jk_8, jk_10, jk_11, jk_13, jk_14, jk_15, jk_16, jk_18, jk_20, jk_24, jk_25, jk_36, jk_40, jk_50, jk_64, jk_72, jk_100, jk_120, jk_200, jk_201, jk_216, jk_255, jk_256, jk_257, jk_512, jk_1000, jk_2048, jk_9999, jk_10000, jk_65521, jk_65536, jk_104729, jk_2147483647, jk_m1, jk_m2, jk_m3, jk_m4, jk_m5, jk_m6, jk_m7, jk_m8, jk_m9, jk_m10, jk_m11, jk_m12, jk_m13, jk_m14]; omega)⟩
  refine zH_call (zs_21_2 i327_210 na_162 ob_0 rfl) (y162 (zrem a 3) (zrem b 3) S1 hP) ?_
  have f := (show jLaw n (B162 (zrem a 3) (zrem b 3) S1) ∧ (A162 (zrem a 3) (zrem b 3) S1) = zrem b 3 from (fun z => ⟨⟨z.1, jCx_k rfl (p_B162 _ _ S1) w1.2.1, jE_k rfl rfl (p_B162 _ _ S1) w1.2.2⟩, r2⟩) (jq162 w1.1 (zrem a 3) hz))
  generalize (B162 (zrem a 3) (zrem b 3) S1) = S2 at f ⊢
  generalize (A162 (zrem a 3) (zrem b 3) S1) = r5 at f ⊢
  obtain ⟨w2, r6⟩ := f
  refine zH_pre (zr_1_5 i327_211 (zr_0 i327_212 kc_3 (zr_13_4 i327_213 nz_3 (zt_rfl)))) ?_
  have hc : (r5 = (zrem b 3)) := r6
  refine zH_pre (zt_cast (zr_19_1 i327_214 (fun _ => zt_rfl) (fun _ => zt_rfl)) (if_pos hc)) ?_
  clear hc
  refine zH_pre (zr_0 i327_215 kc_1 (zr_17 i327_216 (zt_rfl))) ?_
  exact zH_ret (zr_26 i327_218 zo_1) ⟨rfl, jLaw_u (by omega) w2⟩
set_option maxRecDepth 100000 in
theorem q327_219 {L : Nat} (x a b t p q : Int32) {S : zS} {n : Nat} (hn : n < 480) (w : jLaw n S) (ha : 0 ≤ a.toInt) (hb : 0 ≤ b.toInt) (ht : zn 39 t) (hT : ¬ S 5 0 = 0 → t.toInt < (S 5 0).toInt) (hp : zx 216 p) (hq : 0 ≤ q.toInt ∧ q.toInt < 4) : zH L 327 (219, [some (.inr (.inr 0)), some (.inr (.inr 13)), some (.inr (.inr 81)), some (.inl x), some (.inl a), some (.inl b), some (.inl t), some (.inl p), some (.inl q), none, none, none, none, none, none, none, none], [], S) (jQ (fun S' => jLaw (n + 6) S')) := by
  refine zH_pre (zr_2_0 i327_219 (zr_2_1 i327_220 (zr_1_6 i327_221 (zr_1_8 i327_222 (zr_1_7 i327_223 (zt_rfl)))))) ?_
  obtain ⟨S1, hz, fz⟩ := q333 t q p hn w ht hq hp
  refine zH_call (zs_22_5 i327_224 na_333 rfl) hz ?_
  have w1 := fz
  exact zH_ret (zr_26 i327_225 zo_1) ⟨rfl, w1⟩
set_option maxRecDepth 100000 in
theorem q327_226 {L : Nat} (x a b t p q : Int32) {S : zS} {n : Nat} (hn : n < 480) (w : jLaw n S) (ha : 0 ≤ a.toInt) (hb : 0 ≤ b.toInt) (ht : zn 39 t) (hT : ¬ S 5 0 = 0 → t.toInt < (S 5 0).toInt) (hp : zx 216 p) (hq : 0 ≤ q.toInt ∧ q.toInt < 4) : zH L 327 (226, [some (.inr (.inr 0)), some (.inr (.inr 13)), some (.inr (.inr 81)), some (.inl x), some (.inl a), some (.inl b), some (.inl t), some (.inl p), some (.inl q), none, none, none, none, none, none, none, none], [], S) (jQ (fun S' => jLaw (n + 6) S')) := by
  have k4 := jcx4 w.2.1
  have h512 := jdv (x := a) (y := 512) ha (by decide)
  have hCa := (jI_Cas w.1).1
  unfold zn at hCa
  refine zH_pre (zr_2_1 i327_226 (zr_0 i327_227 kc_4 (zr_8 i327_228 ar_13 (zx_9_4) kt_4 rfl (zt_rfl)))) ?_
  by_cases c4 : ((S 13 4) = 0)
  · refine zH_pre (zt_cast (zr_18_0 i327_229 (fun _ => zt_rfl) (fun _ => zt_rfl)) (if_pos c4)) ?_
    refine zH_pre (zr_0 i327_244 kc_1 (zr_17 i327_245 (zt_rfl))) ?_
    exact zH_ret (zr_26 i327_247 zo_1) ⟨rfl, jLaw_u (by omega) w⟩
  · refine zH_pre (zt_cast (zr_18_0 i327_229 (fun _ => zt_rfl) (fun _ => zt_rfl)) (if_neg c4)) ?_
    have hpos : 0 < (S 13 4).toInt := by have : ¬ (S 10 4).toInt = 0 := fun e => c4 (k4.trans (zk_eq.mpr e)); rw [k4]; omega
    have ho := jrem (x := a / 512) (y := S 13 4) h512.1 hpos
    have ho2 : 0 ≤ (zrem (a / 512) (S 13 4)).toInt ∧ (zrem (a / 512) (S 13 4)).toInt < (S 10 4).toInt := by rw [k4] at ho ⊢; exact ho
    have g0 : (¬ ((S 13 4) = 0)) := c4
    refine zH_pre (zr_2_0 i327_230 (zr_2_1 i327_231 (zr_1_6 i327_232 (zr_1_8 i327_233 (zr_1_4 i327_234 (zr_0 i327_235 kc_512 (zr_13_3 i327_236 nz_512 (zr_2_1 i327_237 (zr_0 i327_238 kc_4 (zr_8 i327_239 ar_13 (zx_9_4) kt_4 rfl (zr_13_4 i327_240 (g0) (zr_1_5 i327_241 (zt_rfl))))))))))))) ?_
    obtain ⟨S1, hz, fz⟩ := q334 t q _ b hn w ht hq ho2
    refine zH_call (zs_22_6 i327_242 na_334 rfl) hz ?_
    have w1 := fz
    refine zH_pre (zr_18f_0 i327_243 (by decide) zt_rfl) ?_
    refine zH_pre (zr_0 i327_244 kc_1 (zr_17 i327_245 (zt_rfl))) ?_
    exact zH_ret (zr_26 i327_247 zo_1) ⟨rfl, w1⟩
set_option maxRecDepth 100000 in
theorem q327_248 {L : Nat} (x a b t p q : Int32) {S : zS} {n : Nat} (hn : n < 480) (w : jLaw n S) (ha : 0 ≤ a.toInt) (hb : 0 ≤ b.toInt) (ht : zn 39 t) (hT : ¬ S 5 0 = 0 → t.toInt < (S 5 0).toInt) (hp : zx 216 p) (hq : 0 ≤ q.toInt ∧ q.toInt < 4) : zH L 327 (248, [some (.inr (.inr 0)), some (.inr (.inr 13)), some (.inr (.inr 81)), some (.inl x), some (.inl a), some (.inl b), some (.inl t), some (.inl p), some (.inl q), none, none, none, none, none, none, none, none], [], S) (jQ (fun S' => jLaw (n + 6) S')) := by
  have h216 := jdv (x := b) (y := 216) hb (by decide)
  have h2 := jrem (x := b / 216) (y := 200) h216.1 (by decide)
  rw [jk_200] at h2
  have h3 : 1 ≤ (1 + (zrem (b / 216) 200)).toInt ∧ (1 + (zrem (b / 216) 200)).toInt ≤ 200 := by rw [jp1 h2 (by decide)]; omega
  refine zH_pre (zr_2_0 i327_248 (zr_2_1 i327_249 (zr_1_6 i327_250 (zr_1_8 i327_251 (zr_1_7 i327_252 (zr_0 i327_253 kc_1 (zr_1_5 i327_254 (zr_0 i327_255 kc_216 (zr_13_3 i327_256 nz_216 (zr_0 i327_257 kc_200 (zr_13_4 i327_258 nz_200 (zr_13_0 i327_259 (zt_rfl))))))))))))) ?_
  obtain ⟨S1, hz, fz⟩ := q335 t q p _ hn w ht hq hp h3
  refine zH_call (zs_22_6 i327_260 na_335 rfl) hz ?_
  have w1 := fz
  exact zH_ret (zr_26 i327_261 zo_1) ⟨rfl, w1⟩
set_option maxRecDepth 100000 in
theorem q327_497 {L : Nat} (x a b t p q : Int32) {S : zS} {n : Nat} (hn : n < 480) (w : jLaw n S) (ha : 0 ≤ a.toInt) (hb : 0 ≤ b.toInt) (ht : zn 39 t) (hT : ¬ S 5 0 = 0 → t.toInt < (S 5 0).toInt) (hp : zx 216 p) (hq : 0 ≤ q.toInt ∧ q.toInt < 4) : zH L 327 (497, [some (.inr (.inr 0)), some (.inr (.inr 13)), some (.inr (.inr 81)), some (.inl x), some (.inl a), some (.inl b), some (.inl t), some (.inl p), some (.inl q), none, none, none, none, none, none, none, none], [], S) (jQ (fun S' => jLaw (n + 6) S')) := by
  refine zH_pre (zr_2_0 i327_497 (zr_1_4 i327_498 (zr_1_5 i327_499 (zt_rfl)))) ?_
  obtain ⟨S1, hz, fz⟩ := q336 a b hn w ha hb
  refine zH_call (zs_22_3 i327_500 na_336 rfl) hz ?_
  have w1 := fz
  exact zH_ret (zr_26 i327_501 zo_1) ⟨rfl, w1⟩
set_option maxRecDepth 100000 in
theorem q327_502 {L : Nat} (x a b t p q : Int32) {S : zS} {n : Nat} (hn : n < 480) (w : jLaw n S) (ha : 0 ≤ a.toInt) (hb : 0 ≤ b.toInt) (ht : zn 39 t) (hT : ¬ S 5 0 = 0 → t.toInt < (S 5 0).toInt) (hp : zx 216 p) (hq : 0 ≤ q.toInt ∧ q.toInt < 4) : zH L 327 (502, [some (.inr (.inr 0)), some (.inr (.inr 13)), some (.inr (.inr 81)), some (.inl x), some (.inl a), some (.inl b), some (.inl t), some (.inl p), some (.inl q), none, none, none, none, none, none, none, none], [], S) (jQ (fun S' => jLaw (n + 6) S')) := by
  have h4 := jrem (x := b) (y := 4) hb (by decide)
  rw [jk_4] at h4
  have h5 : 1 ≤ (1 + (zrem b 4)).toInt ∧ (1 + (zrem b 4)).toInt ≤ 4 := by rw [jp1 h4 (by decide)]; omega
  refine zH_pre (zr_0 i327_502 kc_1 (zr_1_5 i327_503 (zr_0 i327_504 kc_4 (zr_13_4 i327_505 nz_4 (zr_13_0 i327_506 (zr_3_16 i327_507 (zr_2_1 i327_508 (zr_0 i327_509 kc_0 (zr_15 i327_510 (zr_8 i327_511 ar_13 (zx_9_0) kt_0 rfl (zr_1_16 i327_512 (zr_13_0 i327_513 (zr_10 i327_514 ar_13 (zx_9_0) kt_0 (zr_2_0 i327_515 (zr_1_16 i327_516 (zt_rfl)))))))))))))))) ?_
  have hP : jP184 (1 + (zrem b 4)) (z_up S 13 0 ((S 13 0) + (1 + (zrem b 4)))) := ⟨jI_n (by omega) (jI_13 w.1 0 _ rfl), (by simp only [zk_lt, zk_le, zk_1, jk_0, jk_2, jk_3, jk_4, jk_5, jk_6, jk_7, jk_8, jk_10, jk_11, jk_13, jk_14, jk_15, jk_16, jk_18, jk_20, jk_24, jk_25, jk_36, jk_40, jk_50, jk_64, jk_72, jk_100, jk_120, jk_200, jk_201, jk_216, jk_255, jk_256, jk_257, jk_512, jk_1000, jk_2048, jk_9999, jk_10000, jk_65521, jk_65536, jk_104729, jk_2147483647, jk_m1, jk_m2, jk_m3, jk_m4, jk_m5, jk_m6, jk_m7, jk_m8, jk_m9, jk_m10, jk_m11, jk_m12, jk_m13, jk_m14]; omega)⟩
  refine zH_call (zs_21_1 i327_517 na_184 ob_0 rfl) (y184 (1 + (zrem b 4)) (z_up S 13 0 ((S 13 0) + (1 + (zrem b 4)))) hP) ?_
  have f := jpas2 (by omega) w h5
  generalize (B184 (1 + (zrem b 4)) (z_up S 13 0 ((S 13 0) + (1 + (zrem b 4))))) = S1 at f ⊢
  generalize (A184 (1 + (zrem b 4)) (z_up S 13 0 ((S 13 0) + (1 + (zrem b 4))))) = r at f ⊢
  obtain ⟨w1, z⟩ := f
  refine zH_pre (zr_2_1 i327_518 (zr_0 i327_519 kc_0 (zr_8 i327_520 ar_13 (zx_9_0) kt_0 rfl (zt_rfl)))) ?_
  have hc : (r = (S1 13 0)) := z
  refine zH_pre (zt_cast (zr_19_1 i327_521 (fun _ => zt_rfl) (fun _ => zt_rfl)) (if_pos hc)) ?_
  clear hc
  refine zH_pre (zr_0 i327_522 kc_1 (zr_17 i327_523 (zt_rfl))) ?_
  exact zH_ret (zr_26 i327_525 zo_1) ⟨rfl, jLaw_u (by omega) w1⟩
