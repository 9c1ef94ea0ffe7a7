/-! the objects: 0..16 the words of the enum, 20..36 how each is spelled, 40..50 the texts of their numbers, 60.., 80.. their bytes, 98 the array of all words, 99 the script; from 100 on what the constructors make, in their order -/
def fg_layL : List (Nat × Nat) := [(6, 8), (4, 8), (11, 600), (14, 2), (5, 9), (2, 3), (10, 32), (2, 3), (10, 15), (2, 3), (10, 24), (2, 3), (10, 48), (2, 3), (10, 12), (2, 3), (10, 12), (10, 1024), (5, 9), (2, 3), (10, 32), (2, 3), (10, 15), (2, 3), (10, 24), (2, 3), (10, 48), (2, 3), (10, 12), (2, 3), (10, 12), (10, 1024), (15, 3), (2, 3), (10, 120), (2, 3), (10, 120), (2, 3), (10, 120), (13, 3), (4, 8), (11, 600), (14, 2), (5, 9), (2, 3), (10, 32), (2, 3), (10, 15), (2, 3), (10, 24), (2, 3), (10, 48), (2, 3), (10, 12), (2, 3), (10, 12), (10, 1024), (5, 9), (2, 3), (10, 32), (2, 3), (10, 15), (2, 3), (10, 24), (2, 3), (10, 48), (2, 3), (10, 12), (2, 3), (10, 12), (10, 1024), (15, 3), (2, 3), (10, 120), (2, 3), (10, 120), (2, 3), (10, 120), (4, 8), (11, 600), (14, 2), (5, 9), (2, 3), (10, 32), (2, 3), (10, 15), (2, 3), (10, 24), (2, 3), (10, 48), (2, 3), (10, 12), (2, 3), (10, 12), (10, 1024), (5, 9), (2, 3), (10, 32), (2, 3), (10, 15), (2, 3), (10, 24), (2, 3), (10, 48), (2, 3), (10, 12), (2, 3), (10, 12), (10, 1024), (15, 3), (2, 3), (10, 120), (2, 3), (10, 120), (2, 3), (10, 120), (4, 8), (11, 600), (14, 2), (5, 9), (2, 3), (10, 32), (2, 3), (10, 15), (2, 3), (10, 24), (2, 3), (10, 48), (2, 3), (10, 12), (2, 3), (10, 12), (10, 1024), (5, 9), (2, 3), (10, 32), (2, 3), (10, 15), (2, 3), (10, 24), (2, 3), (10, 48), (2, 3), (10, 12), (2, 3), (10, 12), (10, 1024), (15, 3), (2, 3), (10, 120), (2, 3), (10, 120), (2, 3), (10, 120), (12, 3), (1, 15), (5, 9), (2, 3), (10, 32), (2, 3), (10, 15), (2, 3), (10, 24), (2, 3), (10, 48), (2, 3), (10, 12), (2, 3), (10, 12), (10, 1024), (2, 3), (10, 120), (16, 17), (0, 12), (10, 5), (10, 5), (10, 5), (0, 12), (10, 5), (10, 5), (10, 5), (3, 8), (10, 1024), (10, 1024), (10, 1024), (10, 1024), (10, 5), (7, 35), (10, 5120), (12, 3), (10, 152), (12, 1024), (10, 5), (10, 5), (10, 5), (10, 1024), (10, 1024), (10, 1024), (10, 1024), (10, 1024), (10, 5), (10, 5), (10, 5), (10, 5)]
def fg_lay (a : Nat) : Nat × Nat := if a < 100 then (99, 0) else fg_layL.getD (a - 100) (99, 0)
theorem ly_100 : fg_lay 100 = (6, 8) := by decide +kernel
theorem ly_101 : fg_lay 101 = (4, 8) := by decide +kernel
theorem ly_102 : fg_lay 102 = (11, 600) := by decide +kernel
theorem ly_103 : fg_lay 103 = (14, 2) := by decide +kernel
theorem ly_104 : fg_lay 104 = (5, 9) := by decide +kernel
theorem ly_105 : fg_lay 105 = (2, 3) := by decide +kernel
theorem ly_106 : fg_lay 106 = (10, 32) := by decide +kernel
theorem ly_107 : fg_lay 107 = (2, 3) := by decide +kernel
theorem ly_108 : fg_lay 108 = (10, 15) := by decide +kernel
theorem ly_109 : fg_lay 109 = (2, 3) := by decide +kernel
theorem ly_110 : fg_lay 110 = (10, 24) := by decide +kernel
theorem ly_111 : fg_lay 111 = (2, 3) := by decide +kernel
theorem ly_112 : fg_lay 112 = (10, 48) := by decide +kernel
theorem ly_113 : fg_lay 113 = (2, 3) := by decide +kernel
theorem ly_114 : fg_lay 114 = (10, 12) := by decide +kernel
theorem ly_115 : fg_lay 115 = (2, 3) := by decide +kernel
theorem ly_116 : fg_lay 116 = (10, 12) := by decide +kernel
theorem ly_117 : fg_lay 117 = (10, 1024) := by decide +kernel
theorem ly_118 : fg_lay 118 = (5, 9) := by decide +kernel
theorem ly_119 : fg_lay 119 = (2, 3) := by decide +kernel
theorem ly_120 : fg_lay 120 = (10, 32) := by decide +kernel
theorem ly_121 : fg_lay 121 = (2, 3) := by decide +kernel
theorem ly_122 : fg_lay 122 = (10, 15) := by decide +kernel
theorem ly_123 : fg_lay 123 = (2, 3) := by decide +kernel
theorem ly_124 : fg_lay 124 = (10, 24) := by decide +kernel
theorem ly_125 : fg_lay 125 = (2, 3) := by decide +kernel
theorem ly_126 : fg_lay 126 = (10, 48) := by decide +kernel
theorem ly_127 : fg_lay 127 = (2, 3) := by decide +kernel
theorem ly_128 : fg_lay 128 = (10, 12) := by decide +kernel
theorem ly_129 : fg_lay 129 = (2, 3) := by decide +kernel
theorem ly_130 : fg_lay 130 = (10, 12) := by decide +kernel
theorem ly_131 : fg_lay 131 = (10, 1024) := by decide +kernel
theorem ly_132 : fg_lay 132 = (15, 3) := by decide +kernel
theorem ly_133 : fg_lay 133 = (2, 3) := by decide +kernel
theorem ly_134 : fg_lay 134 = (10, 120) := by decide +kernel
theorem ly_135 : fg_lay 135 = (2, 3) := by decide +kernel
theorem ly_136 : fg_lay 136 = (10, 120) := by decide +kernel
theorem ly_137 : fg_lay 137 = (2, 3) := by decide +kernel
theorem ly_138 : fg_lay 138 = (10, 120) := by decide +kernel
theorem ly_139 : fg_lay 139 = (13, 3) := by decide +kernel
theorem ly_140 : fg_lay 140 = (4, 8) := by decide +kernel
theorem ly_141 : fg_lay 141 = (11, 600) := by decide +kernel
theorem ly_142 : fg_lay 142 = (14, 2) := by decide +kernel
theorem ly_143 : fg_lay 143 = (5, 9) := by decide +kernel
theorem ly_144 : fg_lay 144 = (2, 3) := by decide +kernel
theorem ly_145 : fg_lay 145 = (10, 32) := by decide +kernel
theorem ly_146 : fg_lay 146 = (2, 3) := by decide +kernel
theorem ly_147 : fg_lay 147 = (10, 15) := by decide +kernel
theorem ly_148 : fg_lay 148 = (2, 3) := by decide +kernel
theorem ly_149 : fg_lay 149 = (10, 24) := by decide +kernel
theorem ly_150 : fg_lay 150 = (2, 3) := by decide +kernel
theorem ly_151 : fg_lay 151 = (10, 48) := by decide +kernel
theorem ly_152 : fg_lay 152 = (2, 3) := by decide +kernel
theorem ly_153 : fg_lay 153 = (10, 12) := by decide +kernel
theorem ly_154 : fg_lay 154 = (2, 3) := by decide +kernel
theorem ly_155 : fg_lay 155 = (10, 12) := by decide +kernel
theorem ly_156 : fg_lay 156 = (10, 1024) := by decide +kernel
theorem ly_157 : fg_lay 157 = (5, 9) := by decide +kernel
theorem ly_158 : fg_lay 158 = (2, 3) := by decide +kernel
theorem ly_159 : fg_lay 159 = (10, 32) := by decide +kernel
theorem ly_160 : fg_lay 160 = (2, 3) := by decide +kernel
theorem ly_161 : fg_lay 161 = (10, 15) := by decide +kernel
theorem ly_162 : fg_lay 162 = (2, 3) := by decide +kernel
theorem ly_163 : fg_lay 163 = (10, 24) := by decide +kernel
theorem ly_164 : fg_lay 164 = (2, 3) := by decide +kernel
theorem ly_165 : fg_lay 165 = (10, 48) := by decide +kernel
theorem ly_166 : fg_lay 166 = (2, 3) := by decide +kernel
theorem ly_167 : fg_lay 167 = (10, 12) := by decide +kernel
theorem ly_168 : fg_lay 168 = (2, 3) := by decide +kernel
theorem ly_169 : fg_lay 169 = (10, 12) := by decide +kernel
theorem ly_170 : fg_lay 170 = (10, 1024) := by decide +kernel
theorem ly_171 : fg_lay 171 = (15, 3) := by decide +kernel
theorem ly_172 : fg_lay 172 = (2, 3) := by decide +kernel
theorem ly_173 : fg_lay 173 = (10, 120) := by decide +kernel
theorem ly_174 : fg_lay 174 = (2, 3) := by decide +kernel
theorem ly_175 : fg_lay 175 = (10, 120) := by decide +kernel
theorem ly_176 : fg_lay 176 = (2, 3) := by decide +kernel
theorem ly_177 : fg_lay 177 = (10, 120) := by decide +kernel
theorem ly_178 : fg_lay 178 = (4, 8) := by decide +kernel
theorem ly_179 : fg_lay 179 = (11, 600) := by decide +kernel
theorem ly_180 : fg_lay 180 = (14, 2) := by decide +kernel
theorem ly_181 : fg_lay 181 = (5, 9) := by decide +kernel
theorem ly_182 : fg_lay 182 = (2, 3) := by decide +kernel
theorem ly_183 : fg_lay 183 = (10, 32) := by decide +kernel
theorem ly_184 : fg_lay 184 = (2, 3) := by decide +kernel
theorem ly_185 : fg_lay 185 = (10, 15) := by decide +kernel
theorem ly_186 : fg_lay 186 = (2, 3) := by decide +kernel
theorem ly_187 : fg_lay 187 = (10, 24) := by decide +kernel
theorem ly_188 : fg_lay 188 = (2, 3) := by decide +kernel
theorem ly_189 : fg_lay 189 = (10, 48) := by decide +kernel
theorem ly_190 : fg_lay 190 = (2, 3) := by decide +kernel
theorem ly_191 : fg_lay 191 = (10, 12) := by decide +kernel
theorem ly_192 : fg_lay 192 = (2, 3) := by decide +kernel
theorem ly_193 : fg_lay 193 = (10, 12) := by decide +kernel
theorem ly_194 : fg_lay 194 = (10, 1024) := by decide +kernel
theorem ly_195 : fg_lay 195 = (5, 9) := by decide +kernel
theorem ly_196 : fg_lay 196 = (2, 3) := by decide +kernel
theorem ly_197 : fg_lay 197 = (10, 32) := by decide +kernel
theorem ly_198 : fg_lay 198 = (2, 3) := by decide +kernel
theorem ly_199 : fg_lay 199 = (10, 15) := by decide +kernel
theorem ly_200 : fg_lay 200 = (2, 3) := by decide +kernel
theorem ly_201 : fg_lay 201 = (10, 24) := by decide +kernel
theorem ly_202 : fg_lay 202 = (2, 3) := by decide +kernel
theorem ly_203 : fg_lay 203 = (10, 48) := by decide +kernel
theorem ly_204 : fg_lay 204 = (2, 3) := by decide +kernel
theorem ly_205 : fg_lay 205 = (10, 12) := by decide +kernel
theorem ly_206 : fg_lay 206 = (2, 3) := by decide +kernel
theorem ly_207 : fg_lay 207 = (10, 12) := by decide +kernel
theorem ly_208 : fg_lay 208 = (10, 1024) := by decide +kernel
theorem ly_209 : fg_lay 209 = (15, 3) := by decide +kernel
theorem ly_210 : fg_lay 210 = (2, 3) := by decide +kernel
theorem ly_211 : fg_lay 211 = (10, 120) := by decide +kernel
theorem ly_212 : fg_lay 212 = (2, 3) := by decide +kernel
theorem ly_213 : fg_lay 213 = (10, 120) := by decide +kernel
theorem ly_214 : fg_lay 214 = (2, 3) := by decide +kernel
theorem ly_215 : fg_lay 215 = (10, 120) := by decide +kernel
theorem ly_216 : fg_lay 216 = (4, 8) := by decide +kernel
theorem ly_217 : fg_lay 217 = (11, 600) := by decide +kernel
theorem ly_218 : fg_lay 218 = (14, 2) := by decide +kernel
theorem ly_219 : fg_lay 219 = (5, 9) := by decide +kernel
theorem ly_220 : fg_lay 220 = (2, 3) := by decide +kernel
theorem ly_221 : fg_lay 221 = (10, 32) := by decide +kernel
theorem ly_222 : fg_lay 222 = (2, 3) := by decide +kernel
theorem ly_223 : fg_lay 223 = (10, 15) := by decide +kernel
theorem ly_224 : fg_lay 224 = (2, 3) := by decide +kernel
theorem ly_225 : fg_lay 225 = (10, 24) := by decide +kernel
theorem ly_226 : fg_lay 226 = (2, 3) := by decide +kernel
theorem ly_227 : fg_lay 227 = (10, 48) := by decide +kernel
theorem ly_228 : fg_lay 228 = (2, 3) := by decide +kernel
theorem ly_229 : fg_lay 229 = (10, 12) := by decide +kernel
theorem ly_230 : fg_lay 230 = (2, 3) := by decide +kernel
theorem ly_231 : fg_lay 231 = (10, 12) := by decide +kernel
theorem ly_232 : fg_lay 232 = (10, 1024) := by decide +kernel
theorem ly_233 : fg_lay 233 = (5, 9) := by decide +kernel
theorem ly_234 : fg_lay 234 = (2, 3) := by decide +kernel
theorem ly_235 : fg_lay 235 = (10, 32) := by decide +kernel
theorem ly_236 : fg_lay 236 = (2, 3) := by decide +kernel
theorem ly_237 : fg_lay 237 = (10, 15) := by decide +kernel
theorem ly_238 : fg_lay 238 = (2, 3) := by decide +kernel
theorem ly_239 : fg_lay 239 = (10, 24) := by decide +kernel
theorem ly_240 : fg_lay 240 = (2, 3) := by decide +kernel
theorem ly_241 : fg_lay 241 = (10, 48) := by decide +kernel
theorem ly_242 : fg_lay 242 = (2, 3) := by decide +kernel
theorem ly_243 : fg_lay 243 = (10, 12) := by decide +kernel
theorem ly_244 : fg_lay 244 = (2, 3) := by decide +kernel
theorem ly_245 : fg_lay 245 = (10, 12) := by decide +kernel
theorem ly_246 : fg_lay 246 = (10, 1024) := by decide +kernel
theorem ly_247 : fg_lay 247 = (15, 3) := by decide +kernel
theorem ly_248 : fg_lay 248 = (2, 3) := by decide +kernel
theorem ly_249 : fg_lay 249 = (10, 120) := by decide +kernel
theorem ly_250 : fg_lay 250 = (2, 3) := by decide +kernel
theorem ly_251 : fg_lay 251 = (10, 120) := by decide +kernel
theorem ly_252 : fg_lay 252 = (2, 3) := by decide +kernel
theorem ly_253 : fg_lay 253 = (10, 120) := by decide +kernel
theorem ly_254 : fg_lay 254 = (12, 3) := by decide +kernel
theorem ly_255 : fg_lay 255 = (1, 15) := by decide +kernel
theorem ly_256 : fg_lay 256 = (5, 9) := by decide +kernel
theorem ly_257 : fg_lay 257 = (2, 3) := by decide +kernel
theorem ly_258 : fg_lay 258 = (10, 32) := by decide +kernel
theorem ly_259 : fg_lay 259 = (2, 3) := by decide +kernel
theorem ly_260 : fg_lay 260 = (10, 15) := by decide +kernel
theorem ly_261 : fg_lay 261 = (2, 3) := by decide +kernel
theorem ly_262 : fg_lay 262 = (10, 24) := by decide +kernel
theorem ly_263 : fg_lay 263 = (2, 3) := by decide +kernel
theorem ly_264 : fg_lay 264 = (10, 48) := by decide +kernel
theorem ly_265 : fg_lay 265 = (2, 3) := by decide +kernel
theorem ly_266 : fg_lay 266 = (10, 12) := by decide +kernel
theorem ly_267 : fg_lay 267 = (2, 3) := by decide +kernel
theorem ly_268 : fg_lay 268 = (10, 12) := by decide +kernel
theorem ly_269 : fg_lay 269 = (10, 1024) := by decide +kernel
theorem ly_270 : fg_lay 270 = (2, 3) := by decide +kernel
theorem ly_271 : fg_lay 271 = (10, 120) := by decide +kernel
theorem ly_272 : fg_lay 272 = (16, 17) := by decide +kernel
theorem ly_273 : fg_lay 273 = (0, 12) := by decide +kernel
theorem ly_274 : fg_lay 274 = (10, 5) := by decide +kernel
theorem ly_275 : fg_lay 275 = (10, 5) := by decide +kernel
theorem ly_276 : fg_lay 276 = (10, 5) := by decide +kernel
theorem ly_277 : fg_lay 277 = (0, 12) := by decide +kernel
theorem ly_278 : fg_lay 278 = (10, 5) := by decide +kernel
theorem ly_279 : fg_lay 279 = (10, 5) := by decide +kernel
theorem ly_280 : fg_lay 280 = (10, 5) := by decide +kernel
theorem ly_281 : fg_lay 281 = (3, 8) := by decide +kernel
theorem ly_282 : fg_lay 282 = (10, 1024) := by decide +kernel
theorem ly_283 : fg_lay 283 = (10, 1024) := by decide +kernel
theorem ly_284 : fg_lay 284 = (10, 1024) := by decide +kernel
theorem ly_285 : fg_lay 285 = (10, 1024) := by decide +kernel
theorem ly_286 : fg_lay 286 = (10, 5) := by decide +kernel
theorem ly_287 : fg_lay 287 = (7, 35) := by decide +kernel
theorem ly_288 : fg_lay 288 = (10, 5120) := by decide +kernel
theorem ly_289 : fg_lay 289 = (12, 3) := by decide +kernel
theorem ly_290 : fg_lay 290 = (10, 152) := by decide +kernel
theorem ly_291 : fg_lay 291 = (12, 1024) := by decide +kernel
theorem ly_292 : fg_lay 292 = (10, 5) := by decide +kernel
theorem ly_293 : fg_lay 293 = (10, 5) := by decide +kernel
theorem ly_294 : fg_lay 294 = (10, 5) := by decide +kernel
theorem ly_295 : fg_lay 295 = (10, 1024) := by decide +kernel
theorem ly_296 : fg_lay 296 = (10, 1024) := by decide +kernel
theorem ly_297 : fg_lay 297 = (10, 1024) := by decide +kernel
theorem ly_298 : fg_lay 298 = (10, 1024) := by decide +kernel
theorem ly_299 : fg_lay 299 = (10, 1024) := by decide +kernel
theorem ly_300 : fg_lay 300 = (10, 5) := by decide +kernel
theorem ly_301 : fg_lay 301 = (10, 5) := by decide +kernel
theorem ly_302 : fg_lay 302 = (10, 5) := by decide +kernel
theorem ly_303 : fg_lay 303 = (10, 5) := by decide +kernel
def fg_stat : List (String × String × String × Value) := [("ForgetBread$Word", "FACTS", "LForgetBread$Word;", .ref 0), ("ForgetBread$Word", "RULE", "LForgetBread$Word;", .ref 1), ("ForgetBread$Word", "ONE", "LForgetBread$Word;", .ref 2), ("ForgetBread$Word", "KNOWS", "LForgetBread$Word;", .ref 3), ("ForgetBread$Word", "OUT", "LForgetBread$Word;", .ref 4), ("ForgetBread$Word", "SIGN", "LForgetBread$Word;", .ref 5), ("ForgetBread$Word", "MEET", "LForgetBread$Word;", .ref 6), ("ForgetBread$Word", "SKILL", "LForgetBread$Word;", .ref 7), ("ForgetBread$Word", "HURT", "LForgetBread$Word;", .ref 8), ("ForgetBread$Word", "PRICE", "LForgetBread$Word;", .ref 9), ("ForgetBread$Word", "WHOLE", "LForgetBread$Word;", .ref 10), ("ForgetBread$Word", "LEAST", "LForgetBread$Word;", .ref 11), ("ForgetBread$Word", "LATE", "LForgetBread$Word;", .ref 12), ("ForgetBread$Word", "HALF", "LForgetBread$Word;", .ref 13), ("ForgetBread$Word", "LEARN", "LForgetBread$Word;", .ref 14), ("ForgetBread$Word", "ASK", "LForgetBread$Word;", .ref 15), ("ForgetBread$Word", "HOUR", "LForgetBread$Word;", .ref 16), ("ForgetBread$Word", "$VALUES", "[LForgetBread$Word;", .ref 98), ("java/lang/String", "COMPACT_STRINGS", "Z", .int 1)]
def fg_objs : List (Nat × String) := [(0, "ForgetBread$Word"), (1, "ForgetBread$Word"), (2, "ForgetBread$Word"), (3, "ForgetBread$Word"), (4, "ForgetBread$Word"), (5, "ForgetBread$Word"), (6, "ForgetBread$Word"), (7, "ForgetBread$Word"), (8, "ForgetBread$Word"), (9, "ForgetBread$Word"), (10, "ForgetBread$Word"), (11, "ForgetBread$Word"), (12, "ForgetBread$Word"), (13, "ForgetBread$Word"), (14, "ForgetBread$Word"), (15, "ForgetBread$Word"), (16, "ForgetBread$Word"), (20, "java/lang/String"), (21, "java/lang/String"), (22, "java/lang/String"), (23, "java/lang/String"), (24, "java/lang/String"), (25, "java/lang/String"), (26, "java/lang/String"), (27, "java/lang/String"), (28, "java/lang/String"), (29, "java/lang/String"), (30, "java/lang/String"), (31, "java/lang/String"), (32, "java/lang/String"), (33, "java/lang/String"), (34, "java/lang/String"), (35, "java/lang/String"), (36, "java/lang/String"), (40, "java/lang/String"), (41, "java/lang/String"), (42, "java/lang/String"), (43, "java/lang/String"), (44, "java/lang/String"), (45, "java/lang/String"), (46, "java/lang/String"), (47, "java/lang/String"), (48, "java/lang/String"), (49, "java/lang/String"), (50, "java/lang/String")]
def fg_ofld : List (Nat × String × String × String × Value) := [(0, "ForgetBread$Word", "kind", "I", .int (-1)), (0, "ForgetBread$Word", "more", "Z", .int 0), (0, "ForgetBread$Word", "spelled", "Ljava/lang/String;", .ref 20), (0, "ForgetBread$Word", "numbers", "Ljava/lang/String;", .ref 40), (20, "java/lang/String", "value", "[B", .ref 60), (20, "java/lang/String", "coder", "B", .int 0), (1, "ForgetBread$Word", "kind", "I", .int (-1)), (1, "ForgetBread$Word", "more", "Z", .int 1), (1, "ForgetBread$Word", "spelled", "Ljava/lang/String;", .ref 21), (1, "ForgetBread$Word", "numbers", "Ljava/lang/String;", .ref 41), (21, "java/lang/String", "value", "[B", .ref 61), (21, "java/lang/String", "coder", "B", .int 0), (2, "ForgetBread$Word", "kind", "I", .int (-1)), (2, "ForgetBread$Word", "more", "Z", .int 0), (2, "ForgetBread$Word", "spelled", "Ljava/lang/String;", .ref 22), (2, "ForgetBread$Word", "numbers", "Ljava/lang/String;", .ref 42), (22, "java/lang/String", "value", "[B", .ref 62), (22, "java/lang/String", "coder", "B", .int 0), (3, "ForgetBread$Word", "kind", "I", .int (-1)), (3, "ForgetBread$Word", "more", "Z", .int 1), (3, "ForgetBread$Word", "spelled", "Ljava/lang/String;", .ref 23), (3, "ForgetBread$Word", "numbers", "Ljava/lang/String;", .ref 43), (23, "java/lang/String", "value", "[B", .ref 63), (23, "java/lang/String", "coder", "B", .int 0), (4, "ForgetBread$Word", "kind", "I", .int (-1)), (4, "ForgetBread$Word", "more", "Z", .int 1), (4, "ForgetBread$Word", "spelled", "Ljava/lang/String;", .ref 24), (4, "ForgetBread$Word", "numbers", "Ljava/lang/String;", .ref 44), (24, "java/lang/String", "value", "[B", .ref 64), (24, "java/lang/String", "coder", "B", .int 0), (5, "ForgetBread$Word", "kind", "I", .int (-1)), (5, "ForgetBread$Word", "more", "Z", .int 0), (5, "ForgetBread$Word", "spelled", "Ljava/lang/String;", .ref 25), (5, "ForgetBread$Word", "numbers", "Ljava/lang/String;", .ref 45), (25, "java/lang/String", "value", "[B", .ref 65), (25, "java/lang/String", "coder", "B", .int 0), (6, "ForgetBread$Word", "kind", "I", .int (-1)), (6, "ForgetBread$Word", "more", "Z", .int 0), (6, "ForgetBread$Word", "spelled", "Ljava/lang/String;", .ref 26), (6, "ForgetBread$Word", "numbers", "Ljava/lang/String;", .ref 46), (26, "java/lang/String", "value", "[B", .ref 66), (26, "java/lang/String", "coder", "B", .int 0), (7, "ForgetBread$Word", "kind", "I", .int (-1)), (7, "ForgetBread$Word", "more", "Z", .int 1), (7, "ForgetBread$Word", "spelled", "Ljava/lang/String;", .ref 27), (7, "ForgetBread$Word", "numbers", "Ljava/lang/String;", .ref 47), (27, "java/lang/String", "value", "[B", .ref 67), (27, "java/lang/String", "coder", "B", .int 0), (8, "ForgetBread$Word", "kind", "I", .int (-1)), (8, "ForgetBread$Word", "more", "Z", .int 1), (8, "ForgetBread$Word", "spelled", "Ljava/lang/String;", .ref 28), (8, "ForgetBread$Word", "numbers", "Ljava/lang/String;", .ref 47), (28, "java/lang/String", "value", "[B", .ref 68), (28, "java/lang/String", "coder", "B", .int 0), (9, "ForgetBread$Word", "kind", "I", .int (-1)), (9, "ForgetBread$Word", "more", "Z", .int 0), (9, "ForgetBread$Word", "spelled", "Ljava/lang/String;", .ref 29), (9, "ForgetBread$Word", "numbers", "Ljava/lang/String;", .ref 42), (29, "java/lang/String", "value", "[B", .ref 69), (29, "java/lang/String", "coder", "B", .int 0), (10, "ForgetBread$Word", "kind", "I", .int (0)), (10, "ForgetBread$Word", "more", "Z", .int 0), (10, "ForgetBread$Word", "spelled", "Ljava/lang/String;", .ref 30), (10, "ForgetBread$Word", "numbers", "Ljava/lang/String;", .ref 48), (30, "java/lang/String", "value", "[B", .ref 70), (30, "java/lang/String", "coder", "B", .int 0), (11, "ForgetBread$Word", "kind", "I", .int (1)), (11, "ForgetBread$Word", "more", "Z", .int 0), (11, "ForgetBread$Word", "spelled", "Ljava/lang/String;", .ref 31), (11, "ForgetBread$Word", "numbers", "Ljava/lang/String;", .ref 48), (31, "java/lang/String", "value", "[B", .ref 71), (31, "java/lang/String", "coder", "B", .int 0), (12, "ForgetBread$Word", "kind", "I", .int (2)), (12, "ForgetBread$Word", "more", "Z", .int 0), (12, "ForgetBread$Word", "spelled", "Ljava/lang/String;", .ref 32), (12, "ForgetBread$Word", "numbers", "Ljava/lang/String;", .ref 48), (32, "java/lang/String", "value", "[B", .ref 72), (32, "java/lang/String", "coder", "B", .int 0), (13, "ForgetBread$Word", "kind", "I", .int (3)), (13, "ForgetBread$Word", "more", "Z", .int 0), (13, "ForgetBread$Word", "spelled", "Ljava/lang/String;", .ref 33), (13, "ForgetBread$Word", "numbers", "Ljava/lang/String;", .ref 48), (33, "java/lang/String", "value", "[B", .ref 73), (33, "java/lang/String", "coder", "B", .int 0), (14, "ForgetBread$Word", "kind", "I", .int (4)), (14, "ForgetBread$Word", "more", "Z", .int 0), (14, "ForgetBread$Word", "spelled", "Ljava/lang/String;", .ref 34), (14, "ForgetBread$Word", "numbers", "Ljava/lang/String;", .ref 48), (34, "java/lang/String", "value", "[B", .ref 74), (34, "java/lang/String", "coder", "B", .int 0), (15, "ForgetBread$Word", "kind", "I", .int (5)), (15, "ForgetBread$Word", "more", "Z", .int 0), (15, "ForgetBread$Word", "spelled", "Ljava/lang/String;", .ref 35), (15, "ForgetBread$Word", "numbers", "Ljava/lang/String;", .ref 49), (35, "java/lang/String", "value", "[B", .ref 75), (35, "java/lang/String", "coder", "B", .int 0), (16, "ForgetBread$Word", "kind", "I", .int (6)), (16, "ForgetBread$Word", "more", "Z", .int 0), (16, "ForgetBread$Word", "spelled", "Ljava/lang/String;", .ref 36), (16, "ForgetBread$Word", "numbers", "Ljava/lang/String;", .ref 50), (36, "java/lang/String", "value", "[B", .ref 76), (36, "java/lang/String", "coder", "B", .int 0), (40, "java/lang/String", "value", "[B", .ref 80), (40, "java/lang/String", "coder", "B", .int 0), (41, "java/lang/String", "value", "[B", .ref 81), (41, "java/lang/String", "coder", "B", .int 0), (42, "java/lang/String", "value", "[B", .ref 82), (42, "java/lang/String", "coder", "B", .int 0), (43, "java/lang/String", "value", "[B", .ref 83), (43, "java/lang/String", "coder", "B", .int 0), (44, "java/lang/String", "value", "[B", .ref 84), (44, "java/lang/String", "coder", "B", .int 0), (45, "java/lang/String", "value", "[B", .ref 85), (45, "java/lang/String", "coder", "B", .int 0), (46, "java/lang/String", "value", "[B", .ref 86), (46, "java/lang/String", "coder", "B", .int 0), (47, "java/lang/String", "value", "[B", .ref 87), (47, "java/lang/String", "coder", "B", .int 0), (48, "java/lang/String", "value", "[B", .ref 88), (48, "java/lang/String", "coder", "B", .int 0), (49, "java/lang/String", "value", "[B", .ref 89), (49, "java/lang/String", "coder", "B", .int 0), (50, "java/lang/String", "value", "[B", .ref 90), (50, "java/lang/String", "coder", "B", .int 0)]
def fg_carr : List (Nat × List Int32) := [(60, [102, 97, 99, 116, 115]), (61, [114, 117, 108, 101]), (62, [111, 110, 101]), (63, [107, 110, 111, 119, 115]), (64, [111, 117, 116]), (65, [115, 105, 103, 110]), (66, [109, 101, 101, 116]), (67, [115, 107, 105, 108, 108]), (68, [104, 117, 114, 116]), (69, [112, 114, 105, 99, 101]), (70, [119, 104, 111, 108, 101]), (71, [108, 101, 97, 115, 116]), (72, [108, 97, 116, 101]), (73, [104, 97, 108, 102]), (74, [108, 101, 97, 114, 110]), (75, [97, 115, 107]), (76, [104, 111, 117, 114]), (80, [99]), (81, [117, 117]), (82, [110]), (83, [112, 102]), (84, [112, 104]), (85, [104, 102]), (86, [112, 111, 104, 102]), (87, [110, 117]), (88, [119, 102]), (89, [119, 120, 102]), (90, [])]
def fg_nest : List (String × Nat × MethodName) := [("ForgetBread$Told", 25, ⟨"ForgetBread$Town", "<init>", "()V"⟩), ("ForgetBread", 26, ⟨"ForgetBread$Reader", "<init>", "()V"⟩), ("ForgetBread$Reader", 11, ⟨"ForgetBread$Town", "<init>", "()V"⟩), ("ForgetBread", 33, ⟨"ForgetBread$Folk", "<init>", "()V"⟩), ("ForgetBread", 43, ⟨"ForgetBread$Search", "<init>", "()V"⟩), ("ForgetBread$Reader", 210, ⟨"ForgetBread", "isIn", "(II)Z"⟩), ("ForgetBread$Folk", 90, ⟨"ForgetBread", "isIn", "(II)Z"⟩), ("ForgetBread$Town", 76, ⟨"ForgetBread", "isIn", "(II)Z"⟩), ("ForgetBread$Search", 56, ⟨"ForgetBread", "isIn", "(II)Z"⟩)]
/-! ===== the machine in numbers of objects: a memory is (whole numbers, references, how many objects there are) ===== -/
abbrev fg_M : Type := (Nat → Nat → Int32) × (Nat → Nat → Option Nat) × Nat
abbrev fg_E : Type := Launch × va_G × (Nat → ClassId) × (Nat → Nat) × Nat × (Nat → Int32) × Nat
def fg_base (E : fg_E) : Nat := E.2.2.2.2.1
def fg_ad (E : fg_E) (k : Nat) : Nat := if k < 100 then E.2.2.2.1 k else fg_base E + (k - 100)
def fg_tv (E : fg_E) (v : Value) : Value := match v with
  | .ref k => .ref (fg_ad E k)
  | w => w
def fg_A (E : fg_E) : Nat → Prop := fun q => fg_base E ≤ q
def fg_ty (ci : Nat) : Nat → FieldType := match ci with
  | 0 => tyX0
  | 1 => tyX1
  | 2 => tyX2
  | 3 => tyX3
  | 4 => tyX4
  | 5 => tyX5
  | 6 => tyX7
  | _ => tyX8
def fg_isR (t : FieldType) : Bool := match t with
  | .object _ => true
  | .array _ => true
  | _ => false
def fg_fv (E : fg_E) (M : fg_M) (ci a j : Nat) : Value := if fg_isR (fg_ty ci j) then va_rf ((M.2.1 a j).map (fg_ad E)) else .int (M.1 a j)
def fg_ent (E : fg_E) (M : fg_M) (a : Nat) : va_E :=
  if (fg_lay a).1 < 10 then .inr ((fg_lay a).1, (List.range (fg_lay a).2).map (fg_fv E M (fg_lay a).1 a))
  else .inl (E.2.2.1 ((fg_lay a).1 - 10), (fg_lay a).2, if (fg_lay a).1 < 13 then .inl (M.1 a) else .inr (.inr (.inr (.inr (fun j => (M.2.1 a j).map (fg_ad E))))))
def fg_ws (E : fg_E) (M : fg_M) : va_W := (List.range (M.2.2 - 100)).map (fun i => (fg_base E + i, fg_ent E M (i + 100)))
def fg_aty (k : Nat) : FieldType := match k with
  | 0 => .int
  | 1 => .byte
  | 2 => .boolean
  | 3 => .object RX4
  | 4 => .object RX5
  | 5 => .object RX2
  | _ => .object RX6
def fg_tys (E : fg_E) : List (ClassId × FieldType) := (List.range 7).map (fun k => (E.2.2.1 k, fg_aty k))
def fg_H (E : fg_E) (M : fg_M) (H : Heap) : Prop := 100 ≤ M.2.2 ∧ va_P E.2.1 fg_cl (fg_ws E M) H
/-- the array of all words: whole, and known -/
def fg_V98 (t : Nat) (f : Nat → Value) (A : Nat → Prop) (U : State) (H : Heap) : Prop := ∃ cell : Cell, H[t]? = some cell ∧ U.isArrayOf cell (.object RX6) ∧ cell.vm ≠ .unknown ∧ cell.slots.size = 17 ∧ (∀ j : Nat, j < 17 → cell.slots[j]? = some (f j)) ∧ ¬ A t ∧ U.vm.findClass "[LForgetBread$Word;" = some cell.cls
theorem fg_V98.moved {t : Nat} {f : Nat → Value} {A : Nat → Prop} {u U : State} {H : Heap} (hvm : u.vm.Alike U.vm) (h : fg_V98 t f A u H) : fg_V98 t f A U H := by
  obtain ⟨cell, h1, h2, h3, h4, h5, h6, h7⟩ := h
  exact ⟨cell, h1, State.isArrayOf_alike hvm h2, h3, h4, h5, h6, by rw [hvm.findClass]; exact h7⟩
theorem fg_V98.kept {t : Nat} {f : Nat → Value} {A : Nat → Prop} {U : State} {H H1 : Heap} (h : fg_V98 t f A U H) (hq : ∀ a : Nat, a < H.size → ¬ A a → H1[a]? = H[a]?) : fg_V98 t f A U H1 := by
  obtain ⟨cell, h1, h2, h3, h4, h5, h6, h7⟩ := h
  exact ⟨cell, by rw [hq t (Array.getElem?_eq_some_iff.mp h1).1 h6]; exact h1, h2, h3, h4, h5, h6, h7⟩
/-- with it: what a text's test of an index is handed, which may be none -/
def fg_V9 (t9 t : Nat) (f : Nat → Value) (A : Nat → Prop) (U : State) (H : Heap) : Prop := fg_V98 t f A U H ∧ (va_Z "jdk/internal/util/Preconditions" "SIOOBE_FORMATTER" "Ljava/util/function/BiFunction;" .null A U H ∨ va_Z "jdk/internal/util/Preconditions" "SIOOBE_FORMATTER" "Ljava/util/function/BiFunction;" (.ref t9) A U H)
theorem fg_V9.moved {t9 t : Nat} {f : Nat → Value} {A : Nat → Prop} {u U : State} {H : Heap} (hvm : u.vm.Alike U.vm) (h : fg_V9 t9 t f A u H) : fg_V9 t9 t f A U H := ⟨h.1.moved hvm, h.2.elim (fun q => Or.inl (q.moved hvm)) (fun q => Or.inr (q.moved hvm))⟩
theorem fg_V9.kept {t9 t : Nat} {f : Nat → Value} {A : Nat → Prop} {U : State} {H H1 : Heap} (h : fg_V9 t9 t f A U H) (hq : ∀ a : Nat, a < H.size → ¬ A a → H1[a]? = H[a]?) : fg_V9 t9 t f A U H1 := ⟨h.1.kept hq, h.2.elim (fun q => Or.inl (q.kept hq)) (fun q => Or.inr (q.kept hq))⟩
/-- what stands ahead of the start, and is never written -/
def fg_K (E : fg_E) (U : State) (H : Heap) : Prop :=
  (∀ q ∈ fg_stat, va_Z q.1 q.2.1 q.2.2.1 (fg_tv E q.2.2.2) (fg_A E) U H) ∧ (∀ q ∈ fg_objs, va_O q.2 (fg_ad E q.1) (fg_A E) U H) ∧
  (∀ q ∈ fg_ofld, va_OF q.2.1 q.2.2.1 q.2.2.2.1 (fg_tv E q.2.2.2.2) (fg_ad E q.1) (fg_A E) U H) ∧
  (∀ q ∈ fg_carr, va_T .byte (fg_ad E q.1) q.2.length (fun j => .int (q.2.getD j 0)) (fg_A E) U H) ∧
  fg_V9 (fg_ad E 97) (fg_ad E 98) (fun j => .ref (fg_ad E j)) (fg_A E) U H ∧
  (∀ i j, i < 17 → j < 17 → fg_ad E i = fg_ad E j → i = j) ∧
  (va_X (fg_ad E 99) E.2.2.2.2.2.2 E.2.2.2.2.2.1 U H ∧ ¬ fg_A E (fg_ad E 99) ∧ E.2.2.2.2.2.2 ≤ 4096) ∧ ∀ i, i < 17 → fg_ad E i < fg_base E
def fg_U (E : fg_E) (U : State) : Prop :=
  va_K E.2.1 fg_cl (fg_tys E) U ∧ (∀ q ∈ fg_nest, va_Nw (.methodLinkNest q.1 q.2.1 q.2.2 "ForgetBread") U) ∧ (∀ C ∈ [RX4, RX5, RX2, RX6], va_AO C U) ∧ va_Nw (.castable "[LForgetBread$Word;" "java/lang/Cloneable") U
theorem fg_K.moved {E : fg_E} {u U : State} {H : Heap} (hvm : u.vm.Alike U.vm) (h : fg_K E u H) : fg_K E U H := by
  obtain ⟨h1, h2, h3, h4, h5, h6, h7, h8⟩ := h
  exact ⟨fun q hq => (h1 q hq).moved hvm, fun q hq => (h2 q hq).moved hvm, fun q hq => (h3 q hq).moved hvm, fun q hq => (h4 q hq).moved hvm, h5.moved hvm, h6, ⟨h7.1.moved hvm, h7.2⟩, h8⟩
theorem fg_K.kept {E : fg_E} {U : State} {H H1 : Heap} (h : fg_K E U H) (hq : ∀ a : Nat, a < H.size → ¬ fg_A E a → H1[a]? = H[a]?) : fg_K E U H1 := by
  obtain ⟨h1, h2, h3, h4, h5, h6, h7, h8⟩ := h
  refine ⟨fun q h => (h1 q h).kept hq, fun q h => (h2 q h).kept hq, fun q h => (h3 q h).kept hq, fun q h => (h4 q h).kept hq, h5.kept hq, h6, ⟨h7.1.kept (hq _ ?_ h7.2.1), h7.2⟩, h8⟩
  obtain ⟨scr, e1, -⟩ := h7.1
  exact (Array.getElem?_eq_some_iff.mp e1).1
theorem fg_U.warm {E : fg_E} {s U : State} (hW : s.WarmedH U.vm) (h : fg_U E s) : fg_U E U := by
  obtain ⟨h1, h2, h3, h4⟩ := h
  exact ⟨h1.moved hW.alike, fun q hq => va_Nw.warmM hW (h2 q hq), fun C hC => va_AO.moved hW.alike (h3 C hC), va_Nw.warmC hW h4⟩
theorem fg_wsAt {E : fg_E} {M : fg_M} {a : Nat} (h1 : 100 ≤ a) (h2 : a < M.2.2) : (fg_ws E M)[a - 100]? = some (fg_ad E a, fg_ent E M a) := by
  have h3 : a - 100 < M.2.2 - 100 := by omega
  have h4 : ¬ a < 100 := by omega
  have h5 : a - 100 + 100 = a := by omega
  simp [fg_ws, h3, fg_ad, h4, h5]
theorem fg_wsD {E : fg_E} {M : fg_M} : va_D (fg_A E) (fg_ws E M) := by
  have key : ∀ (i : Nat) (p : Nat × va_E), (fg_ws E M)[i]? = some p → p.1 = fg_base E + i := by
    intro i p hp
    simp only [fg_ws, List.getElem?_map] at hp
    cases hr : (List.range (M.2.2 - 100))[i]? with
    | none => rw [hr] at hp; cases hp
    | some j =>
      rw [hr] at hp
      have hj : j = i := by
        have := List.getElem?_eq_some_iff.mp hr
        obtain ⟨hl, he⟩ := this
        simpa using he.symm
      cases hp
      rw [hj]
  refine ⟨fun i j p q hi hj hpq => ?_, fun k q hk => ?_⟩
  · have a1 := key i p hi
    have a2 := key j q hj
    omega
  · rw [key k q hk]
    exact Nat.le_add_right _ _
theorem fg_wsSet {E : fg_E} {M M' : fg_M} {a : Nat} {e : va_E} (h1 : 100 ≤ a) (h2 : a < M.2.2) (hn : M'.2.2 = M.2.2) (he : fg_ent E M' a = e) (ho : ∀ k, k ≠ a → fg_ent E M' k = fg_ent E M k) : (fg_ws E M).set (a - 100) (fg_ad E a, e) = fg_ws E M' := by
  have h4 : ¬ a < 100 := by omega
  apply List.ext_getElem?
  intro i
  by_cases hi : i < M.2.2 - 100
  · by_cases hia : i = a - 100
    · subst hia
      have h5 : a - 100 + 100 = a := by omega
      rw [List.getElem?_set_self (by simp [fg_ws]; exact hi)]
      simp [fg_ws, hn, hi, h5, he, fg_ad, h4]
    · rw [List.getElem?_set_ne (fun z => hia z.symm)]
      have h6 : i + 100 ≠ a := by omega
      simp [fg_ws, hn, hi, ho _ h6]
  · rw [List.getElem?_eq_none (by simp [fg_ws]; omega), List.getElem?_eq_none (by simp [fg_ws, hn]; omega)]
theorem fg_wsPush {E : fg_E} {M M' : fg_M} {e : va_E} (h1 : 100 ≤ M.2.2) (hn : M'.2.2 = M.2.2 + 1) (he : fg_ent E M' M.2.2 = e) (ho : ∀ k, k < M.2.2 → fg_ent E M' k = fg_ent E M k) : fg_ws E M ++ [(fg_base E + (M.2.2 - 100), e)] = fg_ws E M' := by
  have h3 : M'.2.2 - 100 = (M.2.2 - 100) + 1 := by omega
  have h5 : M.2.2 - 100 + 100 = M.2.2 := by omega
  unfold fg_ws
  rw [h3, List.range_succ, List.map_append]
  congr 1
  · apply List.map_congr_left
    intro i hi
    have hi' : i < M.2.2 - 100 := List.mem_range.mp hi
    rw [ho (i + 100) (by omega)]
  · simp [h5, he]
theorem fg_adE {E : fg_E} {a : Nat} (h : 100 ≤ a) : fg_ad E a = fg_base E + (a - 100) := by
  unfold fg_ad
  rw [if_neg (by omega)]
