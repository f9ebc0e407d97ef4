abbrev cX7_init : ByteArray := prog_9_method_1_code
def yX7_init : MethodName := ⟨RX7, "<init>", "()V"⟩
abbrev wX7_init : Cond := .code yX7_init cX7_init 2 none
theorem kX7_init : wX7_init ∈ wG := mG 707 (by decide +kernel) rfl
theorem dX7_init_0 : decode cX7_init 0 = .ok (.aload_n 0, 1) := by decide +kernel
theorem dX7_init_1 : decode cX7_init 1 = .ok (.invokespecial 1, 3) := by decide +kernel
theorem dX7_init_4 : decode cX7_init 4 = .ok (.aload_n 0, 1) := by decide +kernel
theorem dX7_init_5 : decode cX7_init 5 = .ok (.bipush 16, 2) := by decide +kernel
theorem dX7_init_7 : decode cX7_init 7 = .ok (.newarray .int, 2) := by decide +kernel
theorem dX7_init_9 : decode cX7_init 9 = .ok (.putfield 7, 3) := by decide +kernel
theorem dX7_init_12 : decode cX7_init 12 = .ok (.aload_n 0, 1) := by decide +kernel
theorem dX7_init_13 : decode cX7_init 13 = .ok (.bipush 16, 2) := by decide +kernel
theorem dX7_init_15 : decode cX7_init 15 = .ok (.newarray .int, 2) := by decide +kernel
theorem dX7_init_17 : decode cX7_init 17 = .ok (.putfield 13, 3) := by decide +kernel
theorem dX7_init_20 : decode cX7_init 20 = .ok (.aload_n 0, 1) := by decide +kernel
theorem dX7_init_21 : decode cX7_init 21 = .ok (.bipush 16, 2) := by decide +kernel
theorem dX7_init_23 : decode cX7_init 23 = .ok (.newarray .int, 2) := by decide +kernel
theorem dX7_init_25 : decode cX7_init 25 = .ok (.putfield 16, 3) := by decide +kernel
theorem dX7_init_28 : decode cX7_init 28 = .ok (.aload_n 0, 1) := by decide +kernel
theorem dX7_init_29 : decode cX7_init 29 = .ok (.bipush 16, 2) := by decide +kernel
theorem dX7_init_31 : decode cX7_init 31 = .ok (.newarray .int, 2) := by decide +kernel
theorem dX7_init_33 : decode cX7_init 33 = .ok (.putfield 19, 3) := by decide +kernel
theorem dX7_init_36 : decode cX7_init 36 = .ok (.aload_n 0, 1) := by decide +kernel
theorem dX7_init_37 : decode cX7_init 37 = .ok (.bipush 16, 2) := by decide +kernel
theorem dX7_init_39 : decode cX7_init 39 = .ok (.newarray .int, 2) := by decide +kernel
theorem dX7_init_41 : decode cX7_init 41 = .ok (.putfield 22, 3) := by decide +kernel
theorem dX7_init_44 : decode cX7_init 44 = .ok (.aload_n 0, 1) := by decide +kernel
theorem dX7_init_45 : decode cX7_init 45 = .ok (.bipush 16, 2) := by decide +kernel
theorem dX7_init_47 : decode cX7_init 47 = .ok (.newarray .boolean, 2) := by decide +kernel
theorem dX7_init_49 : decode cX7_init 49 = .ok (.putfield 25, 3) := by decide +kernel
theorem dX7_init_52 : decode cX7_init 52 = .ok (.aload_n 0, 1) := by decide +kernel
theorem dX7_init_53 : decode cX7_init 53 = .ok (.bipush 16, 2) := by decide +kernel
theorem dX7_init_55 : decode cX7_init 55 = .ok (.newarray .int, 2) := by decide +kernel
theorem dX7_init_57 : decode cX7_init 57 = .ok (.putfield 29, 3) := by decide +kernel
theorem dX7_init_60 : decode cX7_init 60 = .ok (.aload_n 0, 1) := by decide +kernel
theorem dX7_init_61 : decode cX7_init 61 = .ok (.bipush 16, 2) := by decide +kernel
theorem dX7_init_63 : decode cX7_init 63 = .ok (.newarray .int, 2) := by decide +kernel
theorem dX7_init_65 : decode cX7_init 65 = .ok (.putfield 32, 3) := by decide +kernel
theorem dX7_init_68 : decode cX7_init 68 = .ok (.aload_n 0, 1) := by decide +kernel
theorem dX7_init_69 : decode cX7_init 69 = .ok (.bipush 16, 2) := by decide +kernel
theorem dX7_init_71 : decode cX7_init 71 = .ok (.newarray .int, 2) := by decide +kernel
theorem dX7_init_73 : decode cX7_init 73 = .ok (.putfield 35, 3) := by decide +kernel
theorem dX7_init_76 : decode cX7_init 76 = .ok (.aload_n 0, 1) := by decide +kernel
theorem dX7_init_77 : decode cX7_init 77 = .ok (.bipush 8, 2) := by decide +kernel
theorem dX7_init_79 : decode cX7_init 79 = .ok (.newarray .int, 2) := by decide +kernel
theorem dX7_init_81 : decode cX7_init 81 = .ok (.putfield 38, 3) := by decide +kernel
theorem dX7_init_84 : decode cX7_init 84 = .ok (.aload_n 0, 1) := by decide +kernel
theorem dX7_init_85 : decode cX7_init 85 = .ok (.sipush 400, 3) := by decide +kernel
theorem dX7_init_88 : decode cX7_init 88 = .ok (.newarray .boolean, 2) := by decide +kernel
theorem dX7_init_90 : decode cX7_init 90 = .ok (.putfield 41, 3) := by decide +kernel
theorem dX7_init_93 : decode cX7_init 93 = .ok (.aload_n 0, 1) := by decide +kernel
theorem dX7_init_94 : decode cX7_init 94 = .ok (.sipush 6400, 3) := by decide +kernel
theorem dX7_init_97 : decode cX7_init 97 = .ok (.newarray .int, 2) := by decide +kernel
theorem dX7_init_99 : decode cX7_init 99 = .ok (.putfield 44, 3) := by decide +kernel
theorem dX7_init_102 : decode cX7_init 102 = .ok (.aload_n 0, 1) := by decide +kernel
theorem dX7_init_103 : decode cX7_init 103 = .ok (.iconst 4, 1) := by decide +kernel
theorem dX7_init_104 : decode cX7_init 104 = .ok (.newarray .int, 2) := by decide +kernel
theorem dX7_init_106 : decode cX7_init 106 = .ok (.putfield 47, 3) := by decide +kernel
theorem dX7_init_109 : decode cX7_init 109 = .ok (.aload_n 0, 1) := by decide +kernel
theorem dX7_init_110 : decode cX7_init 110 = .ok (.iconst 4, 1) := by decide +kernel
theorem dX7_init_111 : decode cX7_init 111 = .ok (.newarray .int, 2) := by decide +kernel
theorem dX7_init_113 : decode cX7_init 113 = .ok (.putfield 50, 3) := by decide +kernel
theorem dX7_init_116 : decode cX7_init 116 = .ok (.aload_n 0, 1) := by decide +kernel
theorem dX7_init_117 : decode cX7_init 117 = .ok (.iconst 4, 1) := by decide +kernel
theorem dX7_init_118 : decode cX7_init 118 = .ok (.newarray .int, 2) := by decide +kernel
theorem dX7_init_120 : decode cX7_init 120 = .ok (.putfield 53, 3) := by decide +kernel
theorem dX7_init_123 : decode cX7_init 123 = .ok (.aload_n 0, 1) := by decide +kernel
theorem dX7_init_124 : decode cX7_init 124 = .ok (.bipush 12, 2) := by decide +kernel
theorem dX7_init_126 : decode cX7_init 126 = .ok (.newarray .int, 2) := by decide +kernel
theorem dX7_init_128 : decode cX7_init 128 = .ok (.putfield 56, 3) := by decide +kernel
theorem dX7_init_131 : decode cX7_init 131 = .ok (.aload_n 0, 1) := by decide +kernel
theorem dX7_init_132 : decode cX7_init 132 = .ok (.bipush 12, 2) := by decide +kernel
theorem dX7_init_134 : decode cX7_init 134 = .ok (.newarray .int, 2) := by decide +kernel
theorem dX7_init_136 : decode cX7_init 136 = .ok (.putfield 59, 3) := by decide +kernel
theorem dX7_init_139 : decode cX7_init 139 = .ok (.aload_n 0, 1) := by decide +kernel
theorem dX7_init_140 : decode cX7_init 140 = .ok (.bipush 30, 2) := by decide +kernel
theorem dX7_init_142 : decode cX7_init 142 = .ok (.newarray .int, 2) := by decide +kernel
theorem dX7_init_144 : decode cX7_init 144 = .ok (.putfield 62, 3) := by decide +kernel
theorem dX7_init_147 : decode cX7_init 147 = .ok (.aload_n 0, 1) := by decide +kernel
theorem dX7_init_148 : decode cX7_init 148 = .ok (.bipush 30, 2) := by decide +kernel
theorem dX7_init_150 : decode cX7_init 150 = .ok (.newarray .int, 2) := by decide +kernel
theorem dX7_init_152 : decode cX7_init 152 = .ok (.putfield 65, 3) := by decide +kernel
theorem dX7_init_155 : decode cX7_init 155 = .ok (.aload_n 0, 1) := by decide +kernel
theorem dX7_init_156 : decode cX7_init 156 = .ok (.bipush 30, 2) := by decide +kernel
theorem dX7_init_158 : decode cX7_init 158 = .ok (.newarray .int, 2) := by decide +kernel
theorem dX7_init_160 : decode cX7_init 160 = .ok (.putfield 68, 3) := by decide +kernel
theorem dX7_init_163 : decode cX7_init 163 = .ok (.aload_n 0, 1) := by decide +kernel
theorem dX7_init_164 : decode cX7_init 164 = .ok (.bipush 30, 2) := by decide +kernel
theorem dX7_init_166 : decode cX7_init 166 = .ok (.newarray .int, 2) := by decide +kernel
theorem dX7_init_168 : decode cX7_init 168 = .ok (.putfield 71, 3) := by decide +kernel
theorem dX7_init_171 : decode cX7_init 171 = .ok (.aload_n 0, 1) := by decide +kernel
theorem dX7_init_172 : decode cX7_init 172 = .ok (.bipush 30, 2) := by decide +kernel
theorem dX7_init_174 : decode cX7_init 174 = .ok (.newarray .int, 2) := by decide +kernel
theorem dX7_init_176 : decode cX7_init 176 = .ok (.putfield 74, 3) := by decide +kernel
theorem dX7_init_179 : decode cX7_init 179 = .ok (.aload_n 0, 1) := by decide +kernel
theorem dX7_init_180 : decode cX7_init 180 = .ok (.bipush 30, 2) := by decide +kernel
theorem dX7_init_182 : decode cX7_init 182 = .ok (.newarray .int, 2) := by decide +kernel
theorem dX7_init_184 : decode cX7_init 184 = .ok (.putfield 77, 3) := by decide +kernel
theorem dX7_init_187 : decode cX7_init 187 = .ok (.aload_n 0, 1) := by decide +kernel
theorem dX7_init_188 : decode cX7_init 188 = .ok (.bipush 30, 2) := by decide +kernel
theorem dX7_init_190 : decode cX7_init 190 = .ok (.newarray .int, 2) := by decide +kernel
theorem dX7_init_192 : decode cX7_init 192 = .ok (.putfield 80, 3) := by decide +kernel
theorem dX7_init_195 : decode cX7_init 195 = .ok (.aload_n 0, 1) := by decide +kernel
theorem dX7_init_196 : decode cX7_init 196 = .ok (.bipush 30, 2) := by decide +kernel
theorem dX7_init_198 : decode cX7_init 198 = .ok (.newarray .int, 2) := by decide +kernel
theorem dX7_init_200 : decode cX7_init 200 = .ok (.putfield 83, 3) := by decide +kernel
theorem dX7_init_203 : decode cX7_init 203 = .ok (.aload_n 0, 1) := by decide +kernel
theorem dX7_init_204 : decode cX7_init 204 = .ok (.bipush 30, 2) := by decide +kernel
theorem dX7_init_206 : decode cX7_init 206 = .ok (.newarray .boolean, 2) := by decide +kernel
theorem dX7_init_208 : decode cX7_init 208 = .ok (.putfield 86, 3) := by decide +kernel
theorem dX7_init_211 : decode cX7_init 211 = .ok (.aload_n 0, 1) := by decide +kernel
theorem dX7_init_212 : decode cX7_init 212 = .ok (.bipush 30, 2) := by decide +kernel
theorem dX7_init_214 : decode cX7_init 214 = .ok (.newarray .boolean, 2) := by decide +kernel
theorem dX7_init_216 : decode cX7_init 216 = .ok (.putfield 89, 3) := by decide +kernel
theorem dX7_init_219 : decode cX7_init 219 = .ok (.aload_n 0, 1) := by decide +kernel
theorem dX7_init_220 : decode cX7_init 220 = .ok (.bipush 16, 2) := by decide +kernel
theorem dX7_init_222 : decode cX7_init 222 = .ok (.newarray .int, 2) := by decide +kernel
theorem dX7_init_224 : decode cX7_init 224 = .ok (.putfield 92, 3) := by decide +kernel
theorem dX7_init_227 : decode cX7_init 227 = .ok (.aload_n 0, 1) := by decide +kernel
theorem dX7_init_228 : decode cX7_init 228 = .ok (.bipush 16, 2) := by decide +kernel
theorem dX7_init_230 : decode cX7_init 230 = .ok (.newarray .boolean, 2) := by decide +kernel
theorem dX7_init_232 : decode cX7_init 232 = .ok (.putfield 95, 3) := by decide +kernel
theorem dX7_init_235 : decode cX7_init 235 = .ok (.iconst 0, 1) := by decide +kernel
theorem dX7_init_236 : decode cX7_init 236 = .ok (.istore_n 1, 1) := by decide +kernel
theorem dX7_init_237 : decode cX7_init 237 = .ok (.iload_n 1, 1) := by decide +kernel
theorem dX7_init_238 : decode cX7_init 238 = .ok (.bipush 16, 2) := by decide +kernel
theorem dX7_init_240 : decode cX7_init 240 = .ok (.if_icmp .ge 25, 3) := by decide +kernel
theorem dX7_init_243 : decode cX7_init 243 = .ok (.aload_n 0, 1) := by decide +kernel
theorem dX7_init_244 : decode cX7_init 244 = .ok (.getfield 7, 3) := by decide +kernel
theorem dX7_init_247 : decode cX7_init 247 = .ok (.iload_n 1, 1) := by decide +kernel
theorem dX7_init_248 : decode cX7_init 248 = .ok (.sipush 1000, 3) := by decide +kernel
theorem dX7_init_251 : decode cX7_init 251 = .ok (.iastore, 1) := by decide +kernel
theorem dX7_init_252 : decode cX7_init 252 = .ok (.aload_n 0, 1) := by decide +kernel
theorem dX7_init_253 : decode cX7_init 253 = .ok (.getfield 19, 3) := by decide +kernel
theorem dX7_init_256 : decode cX7_init 256 = .ok (.iload_n 1, 1) := by decide +kernel
theorem dX7_init_257 : decode cX7_init 257 = .ok (.iconst (-1), 1) := by decide +kernel
theorem dX7_init_258 : decode cX7_init 258 = .ok (.iastore, 1) := by decide +kernel
theorem dX7_init_259 : decode cX7_init 259 = .ok (.iinc 1 1, 3) := by decide +kernel
theorem dX7_init_262 : decode cX7_init 262 = .ok (.goto (-25), 3) := by decide +kernel
theorem dX7_init_265 : decode cX7_init 265 = .ok (.iconst 0, 1) := by decide +kernel
theorem dX7_init_266 : decode cX7_init 266 = .ok (.istore_n 1, 1) := by decide +kernel
theorem dX7_init_267 : decode cX7_init 267 = .ok (.iload_n 1, 1) := by decide +kernel
theorem dX7_init_268 : decode cX7_init 268 = .ok (.bipush 8, 2) := by decide +kernel
theorem dX7_init_270 : decode cX7_init 270 = .ok (.if_icmp .ge 16, 3) := by decide +kernel
theorem dX7_init_273 : decode cX7_init 273 = .ok (.aload_n 0, 1) := by decide +kernel
theorem dX7_init_274 : decode cX7_init 274 = .ok (.getfield 38, 3) := by decide +kernel
theorem dX7_init_277 : decode cX7_init 277 = .ok (.iload_n 1, 1) := by decide +kernel
theorem dX7_init_278 : decode cX7_init 278 = .ok (.iconst 1, 1) := by decide +kernel
theorem dX7_init_279 : decode cX7_init 279 = .ok (.iastore, 1) := by decide +kernel
theorem dX7_init_280 : decode cX7_init 280 = .ok (.iinc 1 1, 3) := by decide +kernel
theorem dX7_init_283 : decode cX7_init 283 = .ok (.goto (-16), 3) := by decide +kernel
theorem dX7_init_286 : decode cX7_init 286 = .ok (.iconst 0, 1) := by decide +kernel
theorem dX7_init_287 : decode cX7_init 287 = .ok (.istore_n 1, 1) := by decide +kernel
theorem dX7_init_288 : decode cX7_init 288 = .ok (.iload_n 1, 1) := by decide +kernel
theorem dX7_init_289 : decode cX7_init 289 = .ok (.iconst 4, 1) := by decide +kernel
theorem dX7_init_290 : decode cX7_init 290 = .ok (.if_icmp .ge 25, 3) := by decide +kernel
theorem dX7_init_293 : decode cX7_init 293 = .ok (.aload_n 0, 1) := by decide +kernel
theorem dX7_init_294 : decode cX7_init 294 = .ok (.getfield 50, 3) := by decide +kernel
theorem dX7_init_297 : decode cX7_init 297 = .ok (.iload_n 1, 1) := by decide +kernel
theorem dX7_init_298 : decode cX7_init 298 = .ok (.iconst 1, 1) := by decide +kernel
theorem dX7_init_299 : decode cX7_init 299 = .ok (.iastore, 1) := by decide +kernel
theorem dX7_init_300 : decode cX7_init 300 = .ok (.aload_n 0, 1) := by decide +kernel
theorem dX7_init_301 : decode cX7_init 301 = .ok (.getfield 53, 3) := by decide +kernel
theorem dX7_init_304 : decode cX7_init 304 = .ok (.iload_n 1, 1) := by decide +kernel
theorem dX7_init_305 : decode cX7_init 305 = .ok (.sipush 399, 3) := by decide +kernel
theorem dX7_init_308 : decode cX7_init 308 = .ok (.iastore, 1) := by decide +kernel
theorem dX7_init_309 : decode cX7_init 309 = .ok (.iinc 1 1, 3) := by decide +kernel
theorem dX7_init_312 : decode cX7_init 312 = .ok (.goto (-24), 3) := by decide +kernel
theorem dX7_init_315 : decode cX7_init 315 = .ok (.iconst 0, 1) := by decide +kernel
theorem dX7_init_316 : decode cX7_init 316 = .ok (.istore_n 1, 1) := by decide +kernel
theorem dX7_init_317 : decode cX7_init 317 = .ok (.iload_n 1, 1) := by decide +kernel
theorem dX7_init_318 : decode cX7_init 318 = .ok (.bipush 12, 2) := by decide +kernel
theorem dX7_init_320 : decode cX7_init 320 = .ok (.if_icmp .ge 23, 3) := by decide +kernel
theorem dX7_init_323 : decode cX7_init 323 = .ok (.aload_n 0, 1) := by decide +kernel
theorem dX7_init_324 : decode cX7_init 324 = .ok (.getfield 56, 3) := by decide +kernel
theorem dX7_init_327 : decode cX7_init 327 = .ok (.iload_n 1, 1) := by decide +kernel
theorem dX7_init_328 : decode cX7_init 328 = .ok (.iconst 1, 1) := by decide +kernel
theorem dX7_init_329 : decode cX7_init 329 = .ok (.iastore, 1) := by decide +kernel
theorem dX7_init_330 : decode cX7_init 330 = .ok (.aload_n 0, 1) := by decide +kernel
theorem dX7_init_331 : decode cX7_init 331 = .ok (.getfield 59, 3) := by decide +kernel
theorem dX7_init_334 : decode cX7_init 334 = .ok (.iload_n 1, 1) := by decide +kernel
theorem dX7_init_335 : decode cX7_init 335 = .ok (.iconst 1, 1) := by decide +kernel
theorem dX7_init_336 : decode cX7_init 336 = .ok (.iastore, 1) := by decide +kernel
theorem dX7_init_337 : decode cX7_init 337 = .ok (.iinc 1 1, 3) := by decide +kernel
theorem dX7_init_340 : decode cX7_init 340 = .ok (.goto (-23), 3) := by decide +kernel
theorem dX7_init_343 : decode cX7_init 343 = .ok (.return_, 1) := by decide +kernel
abbrev cX7_thrown : ByteArray := prog_9_method_2_code
def yX7_thrown : MethodName := ⟨RX7, "thrown", "()I"⟩
abbrev wX7_thrown : Cond := .code yX7_thrown cX7_thrown 1 (some .int)
theorem kX7_thrown : wX7_thrown ∈ wG := mG 812 (by decide +kernel) rfl
theorem dX7_thrown_0 : decode cX7_thrown 0 = .ok (.aload_n 0, 1) := by decide +kernel
theorem dX7_thrown_1 : decode cX7_thrown 1 = .ok (.getfield 98, 3) := by decide +kernel
theorem dX7_thrown_4 : decode cX7_thrown 4 = .ok (.ireturn, 1) := by decide +kernel
abbrev cX7_in : ByteArray := prog_9_method_3_code
def yX7_in : MethodName := ⟨RX7, "in", "(III)Z"⟩
abbrev wX7_in : Cond := .code yX7_in cX7_in 3 (some .boolean)
theorem kX7_in : wX7_in ∈ wG := mG 822 (by decide +kernel) rfl
theorem dX7_in_0 : decode cX7_in 0 = .ok (.iload_n 0, 1) := by decide +kernel
theorem dX7_in_1 : decode cX7_in 1 = .ok (.iload_n 1, 1) := by decide +kernel
theorem dX7_in_2 : decode cX7_in 2 = .ok (.if_icmp .lt 12, 3) := by decide +kernel
theorem dX7_in_5 : decode cX7_in 5 = .ok (.iload_n 0, 1) := by decide +kernel
theorem dX7_in_6 : decode cX7_in 6 = .ok (.iload_n 2, 1) := by decide +kernel
theorem dX7_in_7 : decode cX7_in 7 = .ok (.if_icmp .gt 7, 3) := by decide +kernel
theorem dX7_in_10 : decode cX7_in 10 = .ok (.iconst 1, 1) := by decide +kernel
theorem dX7_in_11 : decode cX7_in 11 = .ok (.goto 4, 3) := by decide +kernel
theorem dX7_in_14 : decode cX7_in 14 = .ok (.iconst 0, 1) := by decide +kernel
theorem dX7_in_15 : decode cX7_in 15 = .ok (.ireturn, 1) := by decide +kernel
abbrev cX7_isPlace : ByteArray := prog_9_method_4_code
def yX7_isPlace : MethodName := ⟨RX7, "isPlace", "(I)Z"⟩
abbrev wX7_isPlace : Cond := .code yX7_isPlace cX7_isPlace 1 (some .boolean)
theorem kX7_isPlace : wX7_isPlace ∈ wG := mG 819 (by decide +kernel) rfl
theorem dX7_isPlace_0 : decode cX7_isPlace 0 = .ok (.iload_n 0, 1) := by decide +kernel
theorem dX7_isPlace_1 : decode cX7_isPlace 1 = .ok (.iconst 0, 1) := by decide +kernel
theorem dX7_isPlace_2 : decode cX7_isPlace 2 = .ok (.bipush 15, 2) := by decide +kernel
theorem dX7_isPlace_4 : decode cX7_isPlace 4 = .ok (.invokestatic 102, 3) := by decide +kernel
theorem dX7_isPlace_7 : decode cX7_isPlace 7 = .ok (.ireturn, 1) := by decide +kernel
abbrev cX7_holdsOther : ByteArray := prog_9_method_5_code
def yX7_holdsOther : MethodName := ⟨RX7, "holdsOther", "(II)Z"⟩
abbrev wX7_holdsOther : Cond := .code yX7_holdsOther cX7_holdsOther 3 (some .boolean)
theorem kX7_holdsOther : wX7_holdsOther ∈ wG := mG 831 (by decide +kernel) rfl
theorem dX7_holdsOther_0 : decode cX7_holdsOther 0 = .ok (.aload_n 0, 1) := by decide +kernel
theorem dX7_holdsOther_1 : decode cX7_holdsOther 1 = .ok (.getfield 16, 3) := by decide +kernel
theorem dX7_holdsOther_4 : decode cX7_holdsOther 4 = .ok (.iload_n 1, 1) := by decide +kernel
theorem dX7_holdsOther_5 : decode cX7_holdsOther 5 = .ok (.iaload, 1) := by decide +kernel
theorem dX7_holdsOther_6 : decode cX7_holdsOther 6 = .ok (.ifCond .le 17, 3) := by decide +kernel
theorem dX7_holdsOther_9 : decode cX7_holdsOther 9 = .ok (.aload_n 0, 1) := by decide +kernel
theorem dX7_holdsOther_10 : decode cX7_holdsOther 10 = .ok (.getfield 19, 3) := by decide +kernel
theorem dX7_holdsOther_13 : decode cX7_holdsOther 13 = .ok (.iload_n 1, 1) := by decide +kernel
theorem dX7_holdsOther_14 : decode cX7_holdsOther 14 = .ok (.iaload, 1) := by decide +kernel
theorem dX7_holdsOther_15 : decode cX7_holdsOther 15 = .ok (.iload_n 2, 1) := by decide +kernel
theorem dX7_holdsOther_16 : decode cX7_holdsOther 16 = .ok (.if_icmp .eq 7, 3) := by decide +kernel
theorem dX7_holdsOther_19 : decode cX7_holdsOther 19 = .ok (.iconst 1, 1) := by decide +kernel
theorem dX7_holdsOther_20 : decode cX7_holdsOther 20 = .ok (.goto 4, 3) := by decide +kernel
theorem dX7_holdsOther_23 : decode cX7_holdsOther 23 = .ok (.iconst 0, 1) := by decide +kernel
theorem dX7_holdsOther_24 : decode cX7_holdsOther 24 = .ok (.ireturn, 1) := by decide +kernel
abbrev cX7_place : ByteArray := prog_9_method_6_code
def yX7_place : MethodName := ⟨RX7, "place", "(III)V"⟩
abbrev wX7_place : Cond := .code yX7_place cX7_place 4 none
theorem kX7_place : wX7_place ∈ wG := mG 816 (by decide +kernel) rfl
theorem dX7_place_0 : decode cX7_place 0 = .ok (.aload_n 0, 1) := by decide +kernel
theorem dX7_place_1 : decode cX7_place 1 = .ok (.iload_n 1, 1) := by decide +kernel
theorem dX7_place_2 : decode cX7_place 2 = .ok (.invokestatic 106, 3) := by decide +kernel
theorem dX7_place_5 : decode cX7_place 5 = .ok (.ifCond .eq 22, 3) := by decide +kernel
theorem dX7_place_8 : decode cX7_place 8 = .ok (.iload_n 2, 1) := by decide +kernel
theorem dX7_place_9 : decode cX7_place 9 = .ok (.iconst 1, 1) := by decide +kernel
theorem dX7_place_10 : decode cX7_place 10 = .ok (.ldc 110, 2) := by decide +kernel
theorem dX7_place_12 : decode cX7_place 12 = .ok (.invokestatic 102, 3) := by decide +kernel
theorem dX7_place_15 : decode cX7_place 15 = .ok (.ifCond .eq 12, 3) := by decide +kernel
theorem dX7_place_18 : decode cX7_place 18 = .ok (.iload_n 3, 1) := by decide +kernel
theorem dX7_place_19 : decode cX7_place 19 = .ok (.iconst 0, 1) := by decide +kernel
theorem dX7_place_20 : decode cX7_place 20 = .ok (.iconst 3, 1) := by decide +kernel
theorem dX7_place_21 : decode cX7_place 21 = .ok (.invokestatic 102, 3) := by decide +kernel
theorem dX7_place_24 : decode cX7_place 24 = .ok (.ifCond .ne 7, 3) := by decide +kernel
theorem dX7_place_27 : decode cX7_place 27 = .ok (.iconst 1, 1) := by decide +kernel
theorem dX7_place_28 : decode cX7_place 28 = .ok (.goto 37, 3) := by decide +kernel
theorem dX7_place_31 : decode cX7_place 31 = .ok (.aload_n 0, 1) := by decide +kernel
theorem dX7_place_32 : decode cX7_place 32 = .ok (.getfield 16, 3) := by decide +kernel
theorem dX7_place_35 : decode cX7_place 35 = .ok (.iload_n 1, 1) := by decide +kernel
theorem dX7_place_36 : decode cX7_place 36 = .ok (.iaload, 1) := by decide +kernel
theorem dX7_place_37 : decode cX7_place 37 = .ok (.iload_n 2, 1) := by decide +kernel
theorem dX7_place_38 : decode cX7_place 38 = .ok (.if_icmp .gt 22, 3) := by decide +kernel
theorem dX7_place_41 : decode cX7_place 41 = .ok (.aload_n 0, 1) := by decide +kernel
theorem dX7_place_42 : decode cX7_place 42 = .ok (.getfield 25, 3) := by decide +kernel
theorem dX7_place_45 : decode cX7_place 45 = .ok (.iload_n 1, 1) := by decide +kernel
theorem dX7_place_46 : decode cX7_place 46 = .ok (.baload, 1) := by decide +kernel
theorem dX7_place_47 : decode cX7_place 47 = .ok (.ifCond .eq 17, 3) := by decide +kernel
theorem dX7_place_50 : decode cX7_place 50 = .ok (.aload_n 0, 1) := by decide +kernel
theorem dX7_place_51 : decode cX7_place 51 = .ok (.getfield 35, 3) := by decide +kernel
theorem dX7_place_54 : decode cX7_place 54 = .ok (.iload_n 1, 1) := by decide +kernel
theorem dX7_place_55 : decode cX7_place 55 = .ok (.iaload, 1) := by decide +kernel
theorem dX7_place_56 : decode cX7_place 56 = .ok (.iload_n 2, 1) := by decide +kernel
theorem dX7_place_57 : decode cX7_place 57 = .ok (.if_icmp .le 7, 3) := by decide +kernel
theorem dX7_place_60 : decode cX7_place 60 = .ok (.iconst 2, 1) := by decide +kernel
theorem dX7_place_61 : decode cX7_place 61 = .ok (.goto 4, 3) := by decide +kernel
theorem dX7_place_64 : decode cX7_place 64 = .ok (.iconst 0, 1) := by decide +kernel
theorem dX7_place_65 : decode cX7_place 65 = .ok (.putfield 98, 3) := by decide +kernel
theorem dX7_place_68 : decode cX7_place 68 = .ok (.aload_n 0, 1) := by decide +kernel
theorem dX7_place_69 : decode cX7_place 69 = .ok (.getfield 98, 3) := by decide +kernel
theorem dX7_place_72 : decode cX7_place 72 = .ok (.ifCond .ne 17, 3) := by decide +kernel
theorem dX7_place_75 : decode cX7_place 75 = .ok (.aload_n 0, 1) := by decide +kernel
theorem dX7_place_76 : decode cX7_place 76 = .ok (.getfield 7, 3) := by decide +kernel
theorem dX7_place_79 : decode cX7_place 79 = .ok (.iload_n 1, 1) := by decide +kernel
theorem dX7_place_80 : decode cX7_place 80 = .ok (.iload_n 2, 1) := by decide +kernel
theorem dX7_place_81 : decode cX7_place 81 = .ok (.iastore, 1) := by decide +kernel
theorem dX7_place_82 : decode cX7_place 82 = .ok (.aload_n 0, 1) := by decide +kernel
theorem dX7_place_83 : decode cX7_place 83 = .ok (.getfield 13, 3) := by decide +kernel
theorem dX7_place_86 : decode cX7_place 86 = .ok (.iload_n 1, 1) := by decide +kernel
theorem dX7_place_87 : decode cX7_place 87 = .ok (.iload_n 3, 1) := by decide +kernel
theorem dX7_place_88 : decode cX7_place 88 = .ok (.iastore, 1) := by decide +kernel
theorem dX7_place_89 : decode cX7_place 89 = .ok (.return_, 1) := by decide +kernel
abbrev cX7_face : ByteArray := prog_9_method_7_code
def yX7_face : MethodName := ⟨RX7, "face", "(IIII)V"⟩
abbrev wX7_face : Cond := .code yX7_face cX7_face 6 none
theorem kX7_face : wX7_face ∈ wG := mG 827 (by decide +kernel) rfl
theorem dX7_face_0 : decode cX7_face 0 = .ok (.iload_n 1, 1) := by decide +kernel
theorem dX7_face_1 : decode cX7_face 1 = .ok (.invokestatic 106, 3) := by decide +kernel
theorem dX7_face_4 : decode cX7_face 4 = .ok (.ifCond .eq 38, 3) := by decide +kernel
theorem dX7_face_7 : decode cX7_face 7 = .ok (.iload_n 2, 1) := by decide +kernel
theorem dX7_face_8 : decode cX7_face 8 = .ok (.iconst 0, 1) := by decide +kernel
theorem dX7_face_9 : decode cX7_face 9 = .ok (.bipush 7, 2) := by decide +kernel
theorem dX7_face_11 : decode cX7_face 11 = .ok (.invokestatic 102, 3) := by decide +kernel
theorem dX7_face_14 : decode cX7_face 14 = .ok (.ifCond .eq 28, 3) := by decide +kernel
theorem dX7_face_17 : decode cX7_face 17 = .ok (.iload_n 3, 1) := by decide +kernel
theorem dX7_face_18 : decode cX7_face 18 = .ok (.ifCond .lt 24, 3) := by decide +kernel
theorem dX7_face_21 : decode cX7_face 21 = .ok (.iload_n 3, 1) := by decide +kernel
theorem dX7_face_22 : decode cX7_face 22 = .ok (.iload 4, 2) := by decide +kernel
theorem dX7_face_24 : decode cX7_face 24 = .ok (.if_icmp .gt 18, 3) := by decide +kernel
theorem dX7_face_27 : decode cX7_face 27 = .ok (.iload 4, 2) := by decide +kernel
theorem dX7_face_29 : decode cX7_face 29 = .ok (.aload_n 0, 1) := by decide +kernel
theorem dX7_face_30 : decode cX7_face 30 = .ok (.getfield 7, 3) := by decide +kernel
theorem dX7_face_33 : decode cX7_face 33 = .ok (.iload_n 1, 1) := by decide +kernel
theorem dX7_face_34 : decode cX7_face 34 = .ok (.iaload, 1) := by decide +kernel
theorem dX7_face_35 : decode cX7_face 35 = .ok (.if_icmp .gt 7, 3) := by decide +kernel
theorem dX7_face_38 : decode cX7_face 38 = .ok (.iconst 1, 1) := by decide +kernel
theorem dX7_face_39 : decode cX7_face 39 = .ok (.goto 4, 3) := by decide +kernel
theorem dX7_face_42 : decode cX7_face 42 = .ok (.iconst 0, 1) := by decide +kernel
theorem dX7_face_43 : decode cX7_face 43 = .ok (.istore 5, 2) := by decide +kernel
theorem dX7_face_45 : decode cX7_face 45 = .ok (.aload_n 0, 1) := by decide +kernel
theorem dX7_face_46 : decode cX7_face 46 = .ok (.iload 5, 2) := by decide +kernel
theorem dX7_face_48 : decode cX7_face 48 = .ok (.ifCond .ne 7, 3) := by decide +kernel
theorem dX7_face_51 : decode cX7_face 51 = .ok (.iconst 1, 1) := by decide +kernel
theorem dX7_face_52 : decode cX7_face 52 = .ok (.goto 17, 3) := by decide +kernel
theorem dX7_face_55 : decode cX7_face 55 = .ok (.aload_n 0, 1) := by decide +kernel
theorem dX7_face_56 : decode cX7_face 56 = .ok (.iload_n 1, 1) := by decide +kernel
theorem dX7_face_57 : decode cX7_face 57 = .ok (.iload_n 2, 1) := by decide +kernel
theorem dX7_face_58 : decode cX7_face 58 = .ok (.invokevirtual 111, 3) := by decide +kernel
theorem dX7_face_61 : decode cX7_face 61 = .ok (.ifCond .eq 7, 3) := by decide +kernel
theorem dX7_face_64 : decode cX7_face 64 = .ok (.iconst 2, 1) := by decide +kernel
theorem dX7_face_65 : decode cX7_face 65 = .ok (.goto 4, 3) := by decide +kernel
theorem dX7_face_68 : decode cX7_face 68 = .ok (.iconst 0, 1) := by decide +kernel
theorem dX7_face_69 : decode cX7_face 69 = .ok (.putfield 98, 3) := by decide +kernel
theorem dX7_face_72 : decode cX7_face 72 = .ok (.aload_n 0, 1) := by decide +kernel
theorem dX7_face_73 : decode cX7_face 73 = .ok (.getfield 98, 3) := by decide +kernel
theorem dX7_face_76 : decode cX7_face 76 = .ok (.ifCond .ne 32, 3) := by decide +kernel
theorem dX7_face_79 : decode cX7_face 79 = .ok (.aload_n 0, 1) := by decide +kernel
theorem dX7_face_80 : decode cX7_face 80 = .ok (.getfield 25, 3) := by decide +kernel
theorem dX7_face_83 : decode cX7_face 83 = .ok (.iload_n 1, 1) := by decide +kernel
theorem dX7_face_84 : decode cX7_face 84 = .ok (.iconst 1, 1) := by decide +kernel
theorem dX7_face_85 : decode cX7_face 85 = .ok (.bastore, 1) := by decide +kernel
theorem dX7_face_86 : decode cX7_face 86 = .ok (.aload_n 0, 1) := by decide +kernel
theorem dX7_face_87 : decode cX7_face 87 = .ok (.getfield 29, 3) := by decide +kernel
theorem dX7_face_90 : decode cX7_face 90 = .ok (.iload_n 1, 1) := by decide +kernel
theorem dX7_face_91 : decode cX7_face 91 = .ok (.iload_n 2, 1) := by decide +kernel
theorem dX7_face_92 : decode cX7_face 92 = .ok (.iastore, 1) := by decide +kernel
theorem dX7_face_93 : decode cX7_face 93 = .ok (.aload_n 0, 1) := by decide +kernel
theorem dX7_face_94 : decode cX7_face 94 = .ok (.getfield 32, 3) := by decide +kernel
theorem dX7_face_97 : decode cX7_face 97 = .ok (.iload_n 1, 1) := by decide +kernel
theorem dX7_face_98 : decode cX7_face 98 = .ok (.iload_n 3, 1) := by decide +kernel
theorem dX7_face_99 : decode cX7_face 99 = .ok (.iastore, 1) := by decide +kernel
theorem dX7_face_100 : decode cX7_face 100 = .ok (.aload_n 0, 1) := by decide +kernel
theorem dX7_face_101 : decode cX7_face 101 = .ok (.getfield 35, 3) := by decide +kernel
theorem dX7_face_104 : decode cX7_face 104 = .ok (.iload_n 1, 1) := by decide +kernel
theorem dX7_face_105 : decode cX7_face 105 = .ok (.iload 4, 2) := by decide +kernel
theorem dX7_face_107 : decode cX7_face 107 = .ok (.iastore, 1) := by decide +kernel
theorem dX7_face_108 : decode cX7_face 108 = .ok (.return_, 1) := by decide +kernel
abbrev cX7_put : ByteArray := prog_9_method_8_code
def yX7_put : MethodName := ⟨RX7, "put", "(III)V"⟩
abbrev wX7_put : Cond := .code yX7_put cX7_put 5 none
theorem kX7_put : wX7_put ∈ wG := mG 835 (by decide +kernel) rfl
theorem dX7_put_0 : decode cX7_put 0 = .ok (.iload_n 1, 1) := by decide +kernel
theorem dX7_put_1 : decode cX7_put 1 = .ok (.invokestatic 106, 3) := by decide +kernel
theorem dX7_put_4 : decode cX7_put 4 = .ok (.ifCond .eq 27, 3) := by decide +kernel
theorem dX7_put_7 : decode cX7_put 7 = .ok (.iload_n 2, 1) := by decide +kernel
theorem dX7_put_8 : decode cX7_put 8 = .ok (.iconst 0, 1) := by decide +kernel
theorem dX7_put_9 : decode cX7_put 9 = .ok (.bipush 7, 2) := by decide +kernel
theorem dX7_put_11 : decode cX7_put 11 = .ok (.invokestatic 102, 3) := by decide +kernel
theorem dX7_put_14 : decode cX7_put 14 = .ok (.ifCond .eq 17, 3) := by decide +kernel
theorem dX7_put_17 : decode cX7_put 17 = .ok (.iload_n 3, 1) := by decide +kernel
theorem dX7_put_18 : decode cX7_put 18 = .ok (.iconst 1, 1) := by decide +kernel
theorem dX7_put_19 : decode cX7_put 19 = .ok (.ldc 110, 2) := by decide +kernel
theorem dX7_put_21 : decode cX7_put 21 = .ok (.invokestatic 102, 3) := by decide +kernel
theorem dX7_put_24 : decode cX7_put 24 = .ok (.ifCond .eq 7, 3) := by decide +kernel
theorem dX7_put_27 : decode cX7_put 27 = .ok (.iconst 1, 1) := by decide +kernel
theorem dX7_put_28 : decode cX7_put 28 = .ok (.goto 4, 3) := by decide +kernel
theorem dX7_put_31 : decode cX7_put 31 = .ok (.iconst 0, 1) := by decide +kernel
theorem dX7_put_32 : decode cX7_put 32 = .ok (.istore 4, 2) := by decide +kernel
theorem dX7_put_34 : decode cX7_put 34 = .ok (.aload_n 0, 1) := by decide +kernel
theorem dX7_put_35 : decode cX7_put 35 = .ok (.iload 4, 2) := by decide +kernel
theorem dX7_put_37 : decode cX7_put 37 = .ok (.ifCond .ne 7, 3) := by decide +kernel
theorem dX7_put_40 : decode cX7_put 40 = .ok (.iconst 1, 1) := by decide +kernel
theorem dX7_put_41 : decode cX7_put 41 = .ok (.goto 57, 3) := by decide +kernel
theorem dX7_put_44 : decode cX7_put 44 = .ok (.aload_n 0, 1) := by decide +kernel
theorem dX7_put_45 : decode cX7_put 45 = .ok (.iload_n 1, 1) := by decide +kernel
theorem dX7_put_46 : decode cX7_put 46 = .ok (.iload_n 2, 1) := by decide +kernel
theorem dX7_put_47 : decode cX7_put 47 = .ok (.invokevirtual 111, 3) := by decide +kernel
theorem dX7_put_50 : decode cX7_put 50 = .ok (.ifCond .ne 22, 3) := by decide +kernel
theorem dX7_put_53 : decode cX7_put 53 = .ok (.aload_n 0, 1) := by decide +kernel
theorem dX7_put_54 : decode cX7_put 54 = .ok (.getfield 25, 3) := by decide +kernel
theorem dX7_put_57 : decode cX7_put 57 = .ok (.iload_n 1, 1) := by decide +kernel
theorem dX7_put_58 : decode cX7_put 58 = .ok (.baload, 1) := by decide +kernel
theorem dX7_put_59 : decode cX7_put 59 = .ok (.ifCond .eq 17, 3) := by decide +kernel
theorem dX7_put_62 : decode cX7_put 62 = .ok (.aload_n 0, 1) := by decide +kernel
theorem dX7_put_63 : decode cX7_put 63 = .ok (.getfield 29, 3) := by decide +kernel
theorem dX7_put_66 : decode cX7_put 66 = .ok (.iload_n 1, 1) := by decide +kernel
theorem dX7_put_67 : decode cX7_put 67 = .ok (.iaload, 1) := by decide +kernel
theorem dX7_put_68 : decode cX7_put 68 = .ok (.iload_n 2, 1) := by decide +kernel
theorem dX7_put_69 : decode cX7_put 69 = .ok (.if_icmp .eq 7, 3) := by decide +kernel
theorem dX7_put_72 : decode cX7_put 72 = .ok (.iconst 2, 1) := by decide +kernel
theorem dX7_put_73 : decode cX7_put 73 = .ok (.goto 25, 3) := by decide +kernel
theorem dX7_put_76 : decode cX7_put 76 = .ok (.aload_n 0, 1) := by decide +kernel
