theorem q_651 : Cond.methodLink RL 142 yL_value ∈ lw_all := kq 651 (by decide +kernel) (by decide +kernel)
theorem bipush_14 : (Int8.ofInt 14).toInt32 = 14 := by decide
theorem bipush_18 : (Int8.ofInt 18).toInt32 = 18 := by decide
theorem bipush_19 : (Int8.ofInt 19).toInt32 = 19 := by decide
theorem dL_isMinute_0 : decode cL_isMinute 0 = .ok (.aload_n 0, 1) := by decide +kernel
theorem dL_isMinute_1 : decode cL_isMinute 1 = .ok (.bipush 13, 2) := by decide +kernel
theorem dL_isMinute_3 : decode cL_isMinute 3 = .ok (.invokestatic 142, 3) := by decide +kernel
theorem dL_isMinute_6 : decode cL_isMinute 6 = .ok (.istore_n 1, 1) := by decide +kernel
theorem dL_isMinute_7 : decode cL_isMinute 7 = .ok (.aload_n 0, 1) := by decide +kernel
theorem dL_isMinute_8 : decode cL_isMinute 8 = .ok (.bipush 14, 2) := by decide +kernel
theorem dL_isMinute_10 : decode cL_isMinute 10 = .ok (.invokestatic 142, 3) := by decide +kernel
theorem dL_isMinute_13 : decode cL_isMinute 13 = .ok (.istore_n 2, 1) := by decide +kernel
theorem dL_isMinute_14 : decode cL_isMinute 14 = .ok (.aload_n 0, 1) := by decide +kernel
theorem dL_isMinute_15 : decode cL_isMinute 15 = .ok (.bipush 19, 2) := by decide +kernel
theorem dL_isMinute_17 : decode cL_isMinute 17 = .ok (.invokestatic 142, 3) := by decide +kernel
theorem dL_isMinute_20 : decode cL_isMinute 20 = .ok (.aload_n 0, 1) := by decide +kernel
theorem dL_isMinute_21 : decode cL_isMinute 21 = .ok (.bipush 8, 2) := by decide +kernel
theorem dL_isMinute_23 : decode cL_isMinute 23 = .ok (.invokestatic 144, 3) := by decide +kernel
theorem dL_isMinute_26 : decode cL_isMinute 26 = .ok (.if_icmp .lt 7, 3) := by decide +kernel
theorem dL_isMinute_29 : decode cL_isMinute 29 = .ok (.iconst 1, 1) := by decide +kernel
theorem dL_isMinute_30 : decode cL_isMinute 30 = .ok (.goto 4, 3) := by decide +kernel
theorem dL_isMinute_33 : decode cL_isMinute 33 = .ok (.iconst 0, 1) := by decide +kernel
theorem dL_isMinute_34 : decode cL_isMinute 34 = .ok (.istore_n 3, 1) := by decide +kernel
theorem dL_isMinute_35 : decode cL_isMinute 35 = .ok (.aload_n 0, 1) := by decide +kernel
theorem dL_isMinute_36 : decode cL_isMinute 36 = .ok (.bipush 18, 2) := by decide +kernel
theorem dL_isMinute_38 : decode cL_isMinute 38 = .ok (.invokestatic 142, 3) := by decide +kernel
theorem dL_isMinute_41 : decode cL_isMinute 41 = .ok (.aload_n 0, 1) := by decide +kernel
theorem dL_isMinute_42 : decode cL_isMinute 42 = .ok (.bipush 8, 2) := by decide +kernel
theorem dL_isMinute_44 : decode cL_isMinute 44 = .ok (.invokestatic 144, 3) := by decide +kernel
theorem dL_isMinute_47 : decode cL_isMinute 47 = .ok (.if_icmp .lt 7, 3) := by decide +kernel
theorem dL_isMinute_50 : decode cL_isMinute 50 = .ok (.iconst 1, 1) := by decide +kernel
theorem dL_isMinute_51 : decode cL_isMinute 51 = .ok (.goto 4, 3) := by decide +kernel
theorem dL_isMinute_54 : decode cL_isMinute 54 = .ok (.iconst 0, 1) := by decide +kernel
theorem dL_isMinute_55 : decode cL_isMinute 55 = .ok (.istore 4, 2) := by decide +kernel
theorem dL_isMinute_57 : decode cL_isMinute 57 = .ok (.aload_n 0, 1) := by decide +kernel
theorem dL_isMinute_58 : decode cL_isMinute 58 = .ok (.bipush 8, 2) := by decide +kernel
theorem dL_isMinute_60 : decode cL_isMinute 60 = .ok (.invokestatic 142, 3) := by decide +kernel
theorem dL_isMinute_63 : decode cL_isMinute 63 = .ok (.ifCond .lt 7, 3) := by decide +kernel
theorem dL_isMinute_66 : decode cL_isMinute 66 = .ok (.iconst 1, 1) := by decide +kernel
theorem dL_isMinute_67 : decode cL_isMinute 67 = .ok (.goto 4, 3) := by decide +kernel
theorem dL_isMinute_70 : decode cL_isMinute 70 = .ok (.iconst 0, 1) := by decide +kernel
theorem dL_isMinute_71 : decode cL_isMinute 71 = .ok (.istore 5, 2) := by decide +kernel
theorem dL_isMinute_73 : decode cL_isMinute 73 = .ok (.aload_n 0, 1) := by decide +kernel
theorem dL_isMinute_74 : decode cL_isMinute 74 = .ok (.iconst 3, 1) := by decide +kernel
theorem dL_isMinute_75 : decode cL_isMinute 75 = .ok (.invokestatic 142, 3) := by decide +kernel
theorem dL_isMinute_78 : decode cL_isMinute 78 = .ok (.istore 6, 2) := by decide +kernel
theorem dL_isMinute_80 : decode cL_isMinute 80 = .ok (.aload_n 0, 1) := by decide +kernel
theorem dL_isMinute_81 : decode cL_isMinute 81 = .ok (.iconst 4, 1) := by decide +kernel
theorem dL_isMinute_82 : decode cL_isMinute 82 = .ok (.invokestatic 142, 3) := by decide +kernel
theorem dL_isMinute_85 : decode cL_isMinute 85 = .ok (.istore 7, 2) := by decide +kernel
theorem dL_isMinute_87 : decode cL_isMinute 87 = .ok (.aload_n 0, 1) := by decide +kernel
theorem dL_isMinute_88 : decode cL_isMinute 88 = .ok (.bipush 7, 2) := by decide +kernel
theorem dL_isMinute_90 : decode cL_isMinute 90 = .ok (.invokestatic 142, 3) := by decide +kernel
theorem dL_isMinute_93 : decode cL_isMinute 93 = .ok (.iconst 1, 1) := by decide +kernel
theorem dL_isMinute_94 : decode cL_isMinute 94 = .ok (.if_icmp .ne 7, 3) := by decide +kernel
theorem dL_isMinute_97 : decode cL_isMinute 97 = .ok (.iconst 1, 1) := by decide +kernel
theorem dL_isMinute_98 : decode cL_isMinute 98 = .ok (.goto 4, 3) := by decide +kernel
theorem dL_isMinute_101 : decode cL_isMinute 101 = .ok (.iconst 0, 1) := by decide +kernel
theorem dL_isMinute_102 : decode cL_isMinute 102 = .ok (.istore 8, 2) := by decide +kernel
theorem dL_isMinute_104 : decode cL_isMinute 104 = .ok (.aload_n 0, 1) := by decide +kernel
theorem dL_isMinute_105 : decode cL_isMinute 105 = .ok (.bipush 20, 2) := by decide +kernel
theorem dL_isMinute_107 : decode cL_isMinute 107 = .ok (.invokestatic 142, 3) := by decide +kernel
theorem dL_isMinute_110 : decode cL_isMinute 110 = .ok (.istore 9, 2) := by decide +kernel
theorem dL_isMinute_112 : decode cL_isMinute 112 = .ok (.aload_n 0, 1) := by decide +kernel
theorem dL_isMinute_113 : decode cL_isMinute 113 = .ok (.iconst 0, 1) := by decide +kernel
theorem dL_isMinute_114 : decode cL_isMinute 114 = .ok (.iconst 1, 1) := by decide +kernel
theorem dL_isMinute_115 : decode cL_isMinute 115 = .ok (.invokestatic 125, 3) := by decide +kernel
theorem dL_isMinute_118 : decode cL_isMinute 118 = .ok (.istore 10, 2) := by decide +kernel
theorem dL_isMinute_120 : decode cL_isMinute 120 = .ok (.aload_n 0, 1) := by decide +kernel
theorem dL_isMinute_121 : decode cL_isMinute 121 = .ok (.iconst 0, 1) := by decide +kernel
theorem dL_isMinute_122 : decode cL_isMinute 122 = .ok (.invokestatic 142, 3) := by decide +kernel
theorem dL_isMinute_125 : decode cL_isMinute 125 = .ok (.sipush 20000, 3) := by decide +kernel
theorem dL_isMinute_128 : decode cL_isMinute 128 = .ok (.if_icmp .eq 13, 3) := by decide +kernel
theorem dL_isMinute_131 : decode cL_isMinute 131 = .ok (.aload_n 0, 1) := by decide +kernel
theorem dL_isMinute_132 : decode cL_isMinute 132 = .ok (.iconst 1, 1) := by decide +kernel
theorem dL_isMinute_133 : decode cL_isMinute 133 = .ok (.invokestatic 123, 3) := by decide +kernel
theorem dL_isMinute_136 : decode cL_isMinute 136 = .ok (.iload 10, 2) := by decide +kernel
theorem dL_isMinute_138 : decode cL_isMinute 138 = .ok (.if_icmp .eq 5, 3) := by decide +kernel
theorem dL_isMinute_141 : decode cL_isMinute 141 = .ok (.iconst 0, 1) := by decide +kernel
theorem dL_isMinute_142 : decode cL_isMinute 142 = .ok (.ireturn, 1) := by decide +kernel
theorem dL_isMinute_143 : decode cL_isMinute 143 = .ok (.aload_n 0, 1) := by decide +kernel
theorem dL_isMinute_144 : decode cL_isMinute 144 = .ok (.bipush 13, 2) := by decide +kernel
theorem dL_isMinute_146 : decode cL_isMinute 146 = .ok (.invokestatic 142, 3) := by decide +kernel
theorem dL_isMinute_149 : decode cL_isMinute 149 = .ok (.iload_n 1, 1) := by decide +kernel
theorem dL_isMinute_150 : decode cL_isMinute 150 = .ok (.isub, 1) := by decide +kernel
theorem dL_isMinute_151 : decode cL_isMinute 151 = .ok (.istore 11, 2) := by decide +kernel
theorem dL_isMinute_153 : decode cL_isMinute 153 = .ok (.aload_n 0, 1) := by decide +kernel
theorem dL_isMinute_154 : decode cL_isMinute 154 = .ok (.bipush 14, 2) := by decide +kernel
theorem dL_isMinute_156 : decode cL_isMinute 156 = .ok (.invokestatic 142, 3) := by decide +kernel
theorem dL_isMinute_159 : decode cL_isMinute 159 = .ok (.iload_n 2, 1) := by decide +kernel
theorem dL_isMinute_160 : decode cL_isMinute 160 = .ok (.isub, 1) := by decide +kernel
theorem dL_isMinute_161 : decode cL_isMinute 161 = .ok (.istore 12, 2) := by decide +kernel
theorem dL_isMinute_163 : decode cL_isMinute 163 = .ok (.iload 11, 2) := by decide +kernel
theorem dL_isMinute_165 : decode cL_isMinute 165 = .ok (.iload 12, 2) := by decide +kernel
theorem dL_isMinute_167 : decode cL_isMinute 167 = .ok (.iadd, 1) := by decide +kernel
theorem dL_isMinute_168 : decode cL_isMinute 168 = .ok (.iconst 1, 1) := by decide +kernel
theorem dL_isMinute_169 : decode cL_isMinute 169 = .ok (.if_icmp .gt 52, 3) := by decide +kernel
theorem dL_isMinute_172 : decode cL_isMinute 172 = .ok (.iload 11, 2) := by decide +kernel
theorem dL_isMinute_174 : decode cL_isMinute 174 = .ok (.ifCond .eq 12, 3) := by decide +kernel
theorem dL_isMinute_177 : decode cL_isMinute 177 = .ok (.iload_n 3, 1) := by decide +kernel
theorem dL_isMinute_178 : decode cL_isMinute 178 = .ok (.ifCond .eq 43, 3) := by decide +kernel
theorem dL_isMinute_181 : decode cL_isMinute 181 = .ok (.iload 8, 2) := by decide +kernel
theorem dL_isMinute_183 : decode cL_isMinute 183 = .ok (.ifCond .ne 38, 3) := by decide +kernel
theorem dL_isMinute_186 : decode cL_isMinute 186 = .ok (.iload 12, 2) := by decide +kernel
theorem dL_isMinute_188 : decode cL_isMinute 188 = .ok (.ifCond .eq 13, 3) := by decide +kernel
theorem dL_isMinute_191 : decode cL_isMinute 191 = .ok (.iload 4, 2) := by decide +kernel
theorem dL_isMinute_193 : decode cL_isMinute 193 = .ok (.ifCond .eq 28, 3) := by decide +kernel
theorem dL_isMinute_196 : decode cL_isMinute 196 = .ok (.iload 8, 2) := by decide +kernel
theorem dL_isMinute_198 : decode cL_isMinute 198 = .ok (.ifCond .ne 23, 3) := by decide +kernel
theorem dL_isMinute_201 : decode cL_isMinute 201 = .ok (.iload 8, 2) := by decide +kernel
theorem dL_isMinute_203 : decode cL_isMinute 203 = .ok (.ifCond .eq 14, 3) := by decide +kernel
theorem dL_isMinute_206 : decode cL_isMinute 206 = .ok (.aload_n 0, 1) := by decide +kernel
theorem dL_isMinute_207 : decode cL_isMinute 207 = .ok (.bipush 20, 2) := by decide +kernel
theorem dL_isMinute_209 : decode cL_isMinute 209 = .ok (.invokestatic 142, 3) := by decide +kernel
theorem dL_isMinute_212 : decode cL_isMinute 212 = .ok (.iload 9, 2) := by decide +kernel
theorem dL_isMinute_214 : decode cL_isMinute 214 = .ok (.if_icmp .ne 7, 3) := by decide +kernel
theorem dL_isMinute_217 : decode cL_isMinute 217 = .ok (.iconst 1, 1) := by decide +kernel
theorem dL_isMinute_218 : decode cL_isMinute 218 = .ok (.goto 4, 3) := by decide +kernel
theorem dL_isMinute_221 : decode cL_isMinute 221 = .ok (.iconst 0, 1) := by decide +kernel
theorem dL_isMinute_222 : decode cL_isMinute 222 = .ok (.istore 13, 2) := by decide +kernel
theorem dL_isMinute_224 : decode cL_isMinute 224 = .ok (.iload 13, 2) := by decide +kernel
theorem dL_isMinute_226 : decode cL_isMinute 226 = .ok (.ifCond .eq 57, 3) := by decide +kernel
theorem dL_isMinute_229 : decode cL_isMinute 229 = .ok (.aload_n 0, 1) := by decide +kernel
theorem dL_isMinute_230 : decode cL_isMinute 230 = .ok (.bipush 18, 2) := by decide +kernel
theorem dL_isMinute_232 : decode cL_isMinute 232 = .ok (.invokestatic 142, 3) := by decide +kernel
theorem dL_isMinute_235 : decode cL_isMinute 235 = .ok (.iload 11, 2) := by decide +kernel
theorem dL_isMinute_237 : decode cL_isMinute 237 = .ok (.iconst 1, 1) := by decide +kernel
theorem dL_isMinute_238 : decode cL_isMinute 238 = .ok (.if_icmp .ne 7, 3) := by decide +kernel
theorem dL_isMinute_241 : decode cL_isMinute 241 = .ok (.iconst 0, 1) := by decide +kernel
theorem dL_isMinute_242 : decode cL_isMinute 242 = .ok (.goto 9, 3) := by decide +kernel
theorem dL_isMinute_245 : decode cL_isMinute 245 = .ok (.aload_n 0, 1) := by decide +kernel
theorem dL_isMinute_246 : decode cL_isMinute 246 = .ok (.bipush 18, 2) := by decide +kernel
theorem dL_isMinute_248 : decode cL_isMinute 248 = .ok (.invokestatic 142, 3) := by decide +kernel
theorem dL_isMinute_251 : decode cL_isMinute 251 = .ok (.if_icmp .ne 32, 3) := by decide +kernel
theorem dL_isMinute_254 : decode cL_isMinute 254 = .ok (.aload_n 0, 1) := by decide +kernel
theorem dL_isMinute_255 : decode cL_isMinute 255 = .ok (.bipush 19, 2) := by decide +kernel
theorem dL_isMinute_257 : decode cL_isMinute 257 = .ok (.invokestatic 142, 3) := by decide +kernel
theorem dL_isMinute_260 : decode cL_isMinute 260 = .ok (.iload 12, 2) := by decide +kernel
theorem dL_isMinute_262 : decode cL_isMinute 262 = .ok (.iconst 1, 1) := by decide +kernel
theorem dL_isMinute_263 : decode cL_isMinute 263 = .ok (.if_icmp .ne 7, 3) := by decide +kernel
theorem dL_isMinute_266 : decode cL_isMinute 266 = .ok (.iconst 0, 1) := by decide +kernel
theorem dL_isMinute_267 : decode cL_isMinute 267 = .ok (.goto 9, 3) := by decide +kernel
theorem dL_isMinute_270 : decode cL_isMinute 270 = .ok (.aload_n 0, 1) := by decide +kernel
theorem dL_isMinute_271 : decode cL_isMinute 271 = .ok (.bipush 19, 2) := by decide +kernel
theorem dL_isMinute_273 : decode cL_isMinute 273 = .ok (.invokestatic 142, 3) := by decide +kernel
theorem dL_isMinute_276 : decode cL_isMinute 276 = .ok (.if_icmp .ne 7, 3) := by decide +kernel
theorem dL_isMinute_279 : decode cL_isMinute 279 = .ok (.iconst 1, 1) := by decide +kernel
theorem dL_isMinute_280 : decode cL_isMinute 280 = .ok (.goto 4, 3) := by decide +kernel
theorem dL_isMinute_283 : decode cL_isMinute 283 = .ok (.iconst 0, 1) := by decide +kernel
theorem dL_isMinute_284 : decode cL_isMinute 284 = .ok (.istore 13, 2) := by decide +kernel
theorem dL_isMinute_286 : decode cL_isMinute 286 = .ok (.iload 13, 2) := by decide +kernel
theorem dL_isMinute_288 : decode cL_isMinute 288 = .ok (.ifCond .eq 86, 3) := by decide +kernel
theorem dL_isMinute_291 : decode cL_isMinute 291 = .ok (.iload 5, 2) := by decide +kernel
theorem dL_isMinute_293 : decode cL_isMinute 293 = .ok (.ifCond .ne 23, 3) := by decide +kernel
theorem dL_isMinute_296 : decode cL_isMinute 296 = .ok (.aload_n 0, 1) := by decide +kernel
theorem dL_isMinute_297 : decode cL_isMinute 297 = .ok (.iconst 3, 1) := by decide +kernel
theorem dL_isMinute_298 : decode cL_isMinute 298 = .ok (.invokestatic 142, 3) := by decide +kernel
theorem dL_isMinute_301 : decode cL_isMinute 301 = .ok (.iload 6, 2) := by decide +kernel
theorem dL_isMinute_303 : decode cL_isMinute 303 = .ok (.if_icmp .ne 71, 3) := by decide +kernel
theorem dL_isMinute_306 : decode cL_isMinute 306 = .ok (.aload_n 0, 1) := by decide +kernel
theorem dL_isMinute_307 : decode cL_isMinute 307 = .ok (.iconst 4, 1) := by decide +kernel
theorem dL_isMinute_308 : decode cL_isMinute 308 = .ok (.invokestatic 142, 3) := by decide +kernel
theorem dL_isMinute_311 : decode cL_isMinute 311 = .ok (.iload 7, 2) := by decide +kernel
theorem dL_isMinute_313 : decode cL_isMinute 313 = .ok (.if_icmp .ne 61, 3) := by decide +kernel
theorem dL_isMinute_316 : decode cL_isMinute 316 = .ok (.aload_n 0, 1) := by decide +kernel
theorem dL_isMinute_317 : decode cL_isMinute 317 = .ok (.iconst 1, 1) := by decide +kernel
theorem dL_isMinute_318 : decode cL_isMinute 318 = .ok (.invokestatic 142, 3) := by decide +kernel
theorem dL_isMinute_321 : decode cL_isMinute 321 = .ok (.sipush (-700), 3) := by decide +kernel
theorem dL_isMinute_324 : decode cL_isMinute 324 = .ok (.if_icmp .lt 50, 3) := by decide +kernel
theorem dL_isMinute_327 : decode cL_isMinute 327 = .ok (.aload_n 0, 1) := by decide +kernel
theorem dL_isMinute_328 : decode cL_isMinute 328 = .ok (.iconst 1, 1) := by decide +kernel
theorem dL_isMinute_329 : decode cL_isMinute 329 = .ok (.invokestatic 142, 3) := by decide +kernel
theorem dL_isMinute_332 : decode cL_isMinute 332 = .ok (.sipush 2000, 3) := by decide +kernel
theorem dL_isMinute_335 : decode cL_isMinute 335 = .ok (.if_icmp .gt 39, 3) := by decide +kernel
theorem dL_isMinute_338 : decode cL_isMinute 338 = .ok (.aload_n 0, 1) := by decide +kernel
theorem dL_isMinute_339 : decode cL_isMinute 339 = .ok (.iconst 2, 1) := by decide +kernel
theorem dL_isMinute_340 : decode cL_isMinute 340 = .ok (.invokestatic 142, 3) := by decide +kernel
theorem dL_isMinute_343 : decode cL_isMinute 343 = .ok (.ifCond .lt 31, 3) := by decide +kernel
theorem dL_isMinute_346 : decode cL_isMinute 346 = .ok (.aload_n 0, 1) := by decide +kernel
theorem dL_isMinute_347 : decode cL_isMinute 347 = .ok (.iconst 2, 1) := by decide +kernel
theorem dL_isMinute_348 : decode cL_isMinute 348 = .ok (.invokestatic 142, 3) := by decide +kernel
theorem dL_isMinute_351 : decode cL_isMinute 351 = .ok (.sipush 1000, 3) := by decide +kernel
theorem dL_isMinute_354 : decode cL_isMinute 354 = .ok (.if_icmp .gt 20, 3) := by decide +kernel
theorem dL_isMinute_357 : decode cL_isMinute 357 = .ok (.aload_n 0, 1) := by decide +kernel
theorem dL_isMinute_358 : decode cL_isMinute 358 = .ok (.iconst 0, 1) := by decide +kernel
theorem dL_isMinute_359 : decode cL_isMinute 359 = .ok (.invokestatic 135, 3) := by decide +kernel
theorem dL_isMinute_362 : decode cL_isMinute 362 = .ok (.aload_n 0, 1) := by decide +kernel
theorem dL_isMinute_363 : decode cL_isMinute 363 = .ok (.iconst 1, 1) := by decide +kernel
theorem dL_isMinute_364 : decode cL_isMinute 364 = .ok (.invokestatic 142, 3) := by decide +kernel
theorem dL_isMinute_367 : decode cL_isMinute 367 = .ok (.if_icmp .ne 7, 3) := by decide +kernel
theorem dL_isMinute_370 : decode cL_isMinute 370 = .ok (.iconst 1, 1) := by decide +kernel
theorem dL_isMinute_371 : decode cL_isMinute 371 = .ok (.goto 4, 3) := by decide +kernel
theorem dL_isMinute_374 : decode cL_isMinute 374 = .ok (.iconst 0, 1) := by decide +kernel
theorem dL_isMinute_375 : decode cL_isMinute 375 = .ok (.ireturn, 1) := by decide +kernel
theorem i32_nlt {x y : Int32} {a b : Int} (h : a ≤ b) (hx : a = x.toInt ∧ b = y.toInt) : ¬ y < x := by
  intro z
  have := Int32.lt_iff_toInt_lt.mp z
  omega
set_option maxRecDepth 100000 in
theorem im_316 (l : Launch) (hl0 : l.stackTraces = false) (D : va_G) (cI cJ cO : ClassId) (z : zT) {V V2 : pV} {b : Nat} {u : Nat → Nat} {Q : State → Prop} {A : Nat → Prop} {p : Program} {e : Env} {s : State} {m : MethodId} {args : Array Value} {below : List Frame} {meth : Method} {c : Code} (C : KC p s m args meth c cL_isMinute 14 RL (some .boolean) D (kT cI cJ cO) A) (hZ : kZ z A s s.heap) (hret : ∀ (w : pSt V2) (lv2 : List (Nat × Value)) (pc k n : Nat), k ≤ 780 → n ≤ 9930 → decode cL_isMinute pc = .ok (.ireturn, 1) → narrow .boolean (.int 1) = .int 1 → KJ p l e (kRc 9 200 780 9930) s m args below meth c k n Q D A 14 (pW cI cO b u w.1) lv2 [.int 1] pc) (hg1 : kIn (V2.1 6 0) (-700) 2000) (hg2 : kIn (V2.1 6 1) 0 1000) (hg3 : s_X3_latest 60 (V2.1 9) (V2.1 25) 0 = V2.1 6 0) (x3 x4 x5 x8 hh cc : Int32) (q9 : kXS × kTS) (hq9 : pvis q9.1 q9.2 = V2) : KJ p l e (kRc 9 200 780 9930) s m args below meth c 598 7613 Q D A 14 (pW cI cO b u q9) [(13, .int 1), (12, .int cc), (11, .int hh), (10, .int ((mnR V.1 V.2.1).2.2.1 0)), (9, .int (V.1 6 13)), (8, .int x8), (7, .int (V.1 6 3)), (6, .int (V.1 6 2)), (5, .int x5), (4, .int x4), (3, .int x3), (2, .int (V.1 6 10)), (1, .int (V.1 6 9)), (0, .ref b)] [] 316 := by
  refine k_aload_n (pc := 316) C rfl 13 rfl dL_isMinute_316 ?_
  refine k_iconst (pc := 317) C iconst_1 dL_isMinute_317 ?_
  refine k_pcall (pc := 318) (As := [.int 1]) (rest := []) C hZ (pwv_1 l hl0 D cI cJ cO z V2 b u q9 hq9) cw_value q_651 rfl (Nat.le_of_ble_eq_true rfl) ⟨Nat.le_of_ble_eq_true rfl, Nat.le_of_ble_eq_true rfl⟩ rfl ⟨Nat.le_of_ble_eq_true rfl, Nat.le_of_ble_eq_true rfl⟩ dL_isMinute_318 (fun q29 hq29 => ?_)
  refine k_sipush (pc := 321) C sipush_m700 dL_isMinute_321 ?_
  refine k_icmp_lt (pc := 324) (tgt := 374) C dL_isMinute_324 (by decide) (fun z9 => absurd z9 (i32_nlt hg1.1 ⟨by decide, rfl⟩)) (fun _ => ?_)
  refine k_aload_n (pc := 327) C rfl 13 rfl dL_isMinute_327 ?_
  refine k_iconst (pc := 328) C iconst_1 dL_isMinute_328 ?_
  refine k_pcall (pc := 329) (As := [.int 1]) (rest := []) C hZ (pwv_1 l hl0 D cI cJ cO z V2 b u q29 hq29) cw_value q_651 rfl (Nat.le_of_ble_eq_true rfl) ⟨Nat.le_of_ble_eq_true rfl, Nat.le_of_ble_eq_true rfl⟩ rfl ⟨Nat.le_of_ble_eq_true rfl, Nat.le_of_ble_eq_true rfl⟩ dL_isMinute_329 (fun q30 hq30 => ?_)
  refine k_sipush (pc := 332) C sipush_2000 dL_isMinute_332 ?_
  refine k_icmp_gt (pc := 335) (tgt := 374) C dL_isMinute_335 (by decide) (fun z9 => absurd z9 (i32_nlt hg1.2 ⟨rfl, by decide⟩)) (fun _ => ?_)
  refine k_aload_n (pc := 338) C rfl 13 rfl dL_isMinute_338 ?_
  refine k_iconst (pc := 339) C iconst_2 dL_isMinute_339 ?_
  refine k_pcall (pc := 340) (As := [.int 2]) (rest := []) C hZ (pwv_2 l hl0 D cI cJ cO z V2 b u q30 hq30) cw_value q_651 rfl (Nat.le_of_ble_eq_true rfl) ⟨Nat.le_of_ble_eq_true rfl, Nat.le_of_ble_eq_true rfl⟩ rfl ⟨Nat.le_of_ble_eq_true rfl, Nat.le_of_ble_eq_true rfl⟩ dL_isMinute_340 (fun q31 hq31 => ?_)
  refine k_if_lt (pc := 343) (tgt := 374) C dL_isMinute_343 (by decide) (fun z9 => absurd z9 (i32_nlt hg2.1 ⟨by decide, rfl⟩)) (fun _ => ?_)
  refine k_aload_n (pc := 346) C rfl 13 rfl dL_isMinute_346 ?_
  refine k_iconst (pc := 347) C iconst_2 dL_isMinute_347 ?_
  refine k_pcall (pc := 348) (As := [.int 2]) (rest := []) C hZ (pwv_2 l hl0 D cI cJ cO z V2 b u q31 hq31) cw_value q_651 rfl (Nat.le_of_ble_eq_true rfl) ⟨Nat.le_of_ble_eq_true rfl, Nat.le_of_ble_eq_true rfl⟩ rfl ⟨Nat.le_of_ble_eq_true rfl, Nat.le_of_ble_eq_true rfl⟩ dL_isMinute_348 (fun q32 hq32 => ?_)
  refine k_sipush (pc := 351) C sipush_1000 dL_isMinute_351 ?_
  refine k_icmp_gt (pc := 354) (tgt := 374) C dL_isMinute_354 (by decide) (fun z9 => absurd z9 (i32_nlt hg2.2 ⟨rfl, by decide⟩)) (fun _ => ?_)
  refine k_aload_n (pc := 357) C rfl 13 rfl dL_isMinute_357 ?_
  refine k_iconst (pc := 358) C iconst_0 dL_isMinute_358 ?_
  refine k_pcall (pc := 359) (As := [.int 0]) (rest := []) C hZ (pwh_0 l hl0 D cI cJ cO z V2 b u q32 hq32) cw_history q_865 rfl (Nat.le_of_ble_eq_true rfl) ⟨Nat.le_of_ble_eq_true rfl, Nat.le_of_ble_eq_true rfl⟩ rfl ⟨Nat.le_of_ble_eq_true rfl, Nat.le_of_ble_eq_true rfl⟩ dL_isMinute_359 (fun q33 hq33 => ?_)
  refine k_aload_n (pc := 362) C rfl 13 rfl dL_isMinute_362 ?_
  refine k_iconst (pc := 363) C iconst_1 dL_isMinute_363 ?_
  refine k_pcall (pc := 364) (As := [.int 1]) (rest := [.int (s_X3_latest 60 (V2.1 9) (V2.1 25) 0)]) C hZ (pwv_1 l hl0 D cI cJ cO z V2 b u q33 hq33) cw_value q_651 rfl (Nat.le_of_ble_eq_true rfl) ⟨Nat.le_of_ble_eq_true rfl, Nat.le_of_ble_eq_true rfl⟩ rfl ⟨Nat.le_of_ble_eq_true rfl, Nat.le_of_ble_eq_true rfl⟩ dL_isMinute_364 (fun q34 hq34 => ?_)
  refine k_icmp_ne (pc := 367) (tgt := 374) C dL_isMinute_367 (by decide) (fun z9 => absurd (hg3) z9) (fun _ => ?_)
  refine k_iconst (pc := 370) C iconst_1 dL_isMinute_370 ?_
  refine k_goto (pc := 371) (tgt := 375) C (by decide) dL_isMinute_371 ?_
  exact k_finUi (pc := 375) hret ⟨q34, hq34⟩ rfl rfl rfl (Nat.le_of_ble_eq_true rfl) (Nat.le_of_ble_eq_true rfl) dL_isMinute_375
set_option maxRecDepth 100000 in
theorem im_291 (l : Launch) (hl0 : l.stackTraces = false) (D : va_G) (cI cJ cO : ClassId) (z : zT) {V V2 : pV} {b : Nat} {u : Nat → Nat} {Q : State → Prop} {A : Nat → Prop} {p : Program} {e : Env} {s : State} {m : MethodId} {args : Array Value} {below : List Frame} {meth : Method} {c : Code} (C : KC p s m args meth c cL_isMinute 14 RL (some .boolean) D (kT cI cJ cO) A) (hZ : kZ z A s s.heap) (hret : ∀ (w : pSt V2) (lv2 : List (Nat × Value)) (pc k n : Nat), k ≤ 780 → n ≤ 9930 → decode cL_isMinute pc = .ok (.ireturn, 1) → narrow .boolean (.int 1) = .int 1 → KJ p l e (kRc 9 200 780 9930) s m args below meth c k n Q D A 14 (pW cI cO b u w.1) lv2 [.int 1] pc) (hg1 : kIn (V2.1 6 0) (-700) 2000) (hg2 : kIn (V2.1 6 1) 0 1000) (hg3 : s_X3_latest 60 (V2.1 9) (V2.1 25) 0 = V2.1 6 0) (hfp : (if s_X4_isRunning (V.1 5) = 0 then (-10000) else V.1 5 2) < 0 → V2.1 6 2 = V.1 6 2 ∧ V2.1 6 3 = V.1 6 3) (x3 x4 x5 x8 hh cc : Int32) (h5 : x5 = 0 → (if s_X4_isRunning (V.1 5) = 0 then (-10000) else V.1 5 2) < 0) (q9 : kXS × kTS) (hq9 : pvis q9.1 q9.2 = V2) : KJ p l e (kRc 9 200 780 9930) s m args below meth c 546 6951 Q D A 14 (pW cI cO b u q9) [(13, .int 1), (12, .int cc), (11, .int hh), (10, .int ((mnR V.1 V.2.1).2.2.1 0)), (9, .int (V.1 6 13)), (8, .int x8), (7, .int (V.1 6 3)), (6, .int (V.1 6 2)), (5, .int x5), (4, .int x4), (3, .int x3), (2, .int (V.1 6 10)), (1, .int (V.1 6 9)), (0, .ref b)] [] 291 := by
  refine k_iload (pc := 291) C 8 rfl dL_isMinute_291 ?_
  refine k_if_ne (pc := 293) (tgt := 316) C dL_isMinute_293 (by decide) (fun h9 => ?_) (fun h9 => ?_)
  · exact k_widen (Nat.le_of_ble_eq_true rfl) (Nat.le_of_ble_eq_true rfl) (im_316 l hl0 D cI cJ cO z C hZ hret hg1 hg2 hg3 x3 x4 x5 x8 hh cc q9 hq9)
  · refine k_aload_n (pc := 296) C rfl 13 rfl dL_isMinute_296 ?_
    refine k_iconst (pc := 297) C iconst_3 dL_isMinute_297 ?_
    refine k_pcall (pc := 298) (As := [.int 3]) (rest := []) C hZ (pwv_3 l hl0 D cI cJ cO z V2 b u q9 hq9) cw_value q_651 rfl (Nat.le_of_ble_eq_true rfl) ⟨Nat.le_of_ble_eq_true rfl, Nat.le_of_ble_eq_true rfl⟩ rfl ⟨Nat.le_of_ble_eq_true rfl, Nat.le_of_ble_eq_true rfl⟩ dL_isMinute_298 (fun q35 hq35 => ?_)
    refine k_iload (pc := 301) C 7 rfl dL_isMinute_301 ?_
    refine k_icmp_ne (pc := 303) (tgt := 374) C dL_isMinute_303 (by decide) (fun z9 => absurd ((hfp (h5 h9)).1) z9) (fun _ => ?_)
    refine k_aload_n (pc := 306) C rfl 13 rfl dL_isMinute_306 ?_
    refine k_iconst (pc := 307) C iconst_4 dL_isMinute_307 ?_
    refine k_pcall (pc := 308) (As := [.int 4]) (rest := []) C hZ (pwv_4 l hl0 D cI cJ cO z V2 b u q35 hq35) cw_value q_651 rfl (Nat.le_of_ble_eq_true rfl) ⟨Nat.le_of_ble_eq_true rfl, Nat.le_of_ble_eq_true rfl⟩ rfl ⟨Nat.le_of_ble_eq_true rfl, Nat.le_of_ble_eq_true rfl⟩ dL_isMinute_308 (fun q36 hq36 => ?_)
    refine k_iload (pc := 311) C 6 rfl dL_isMinute_311 ?_
    refine k_icmp_ne (pc := 313) (tgt := 374) C dL_isMinute_313 (by decide) (fun z9 => absurd ((hfp (h5 h9)).2) z9) (fun _ => ?_)
    exact k_widen (Nat.le_of_ble_eq_true rfl) (Nat.le_of_ble_eq_true rfl) (im_316 l hl0 D cI cJ cO z C hZ hret hg1 hg2 hg3 x3 x4 x5 x8 hh cc q36 hq36)
set_option maxRecDepth 100000 in
theorem im_224a (l : Launch) (hl0 : l.stackTraces = false) (D : va_G) (cI cJ cO : ClassId) (z : zT) {V V2 : pV} {b : Nat} {u : Nat → Nat} {Q : State → Prop} {A : Nat → Prop} {p : Program} {e : Env} {s : State} {m : MethodId} {args : Array Value} {below : List Frame} {meth : Method} {c : Code} (C : KC p s m args meth c cL_isMinute 14 RL (some .boolean) D (kT cI cJ cO) A) (hZ : kZ z A s s.heap) (hret : ∀ (w : pSt V2) (lv2 : List (Nat × Value)) (pc k n : Nat), k ≤ 780 → n ≤ 9930 → decode cL_isMinute pc = .ok (.ireturn, 1) → narrow .boolean (.int 1) = .int 1 → KJ p l e (kRc 9 200 780 9930) s m args below meth c k n Q D A 14 (pW cI cO b u w.1) lv2 [.int 1] pc) (hg1 : kIn (V2.1 6 0) (-700) 2000) (hg2 : kIn (V2.1 6 1) 0 1000) (hg3 : s_X3_latest 60 (V2.1 9) (V2.1 25) 0 = V2.1 6 0) (hfp : (if s_X4_isRunning (V.1 5) = 0 then (-10000) else V.1 5 2) < 0 → V2.1 6 2 = V.1 6 2 ∧ V2.1 6 3 = V.1 6 3) (x3 x4 x5 x8 : Int32) (h5 : x5 = 0 → (if s_X4_isRunning (V.1 5) = 0 then (-10000) else V.1 5 2) < 0)   (q9 : kXS × kTS) (hq9 : pvis q9.1 q9.2 = V2) : KJ p l e (kRc 9 200 780 9930) s m args below meth c 442 5627 Q D A 14 (pW cI cO b u q9) [(13, .int 1), (12, .int 0), (11, .int 0), (10, .int ((mnR V.1 V.2.1).2.2.1 0)), (9, .int (V.1 6 13)), (8, .int x8), (7, .int (V.1 6 3)), (6, .int (V.1 6 2)), (5, .int x5), (4, .int x4), (3, .int x3), (2, .int (V.1 6 10)), (1, .int (V.1 6 9)), (0, .ref b)] [] 224 := by
  refine k_iload (pc := 224) C 0 rfl dL_isMinute_224 ?_
  refine k_if_eq (pc := 226) (tgt := 283) C dL_isMinute_226 (by decide) (fun z9 => absurd z9 ((by decide : ¬ (1 : Int32) = 0))) (fun _ => ?_)
  refine k_aload_n (pc := 229) C rfl 13 rfl dL_isMinute_229 ?_
  refine k_bipush (pc := 230) C bipush_18 dL_isMinute_230 ?_
  refine k_pcall (pc := 232) (As := [.int 18]) (rest := []) C hZ (pwv_18 l hl0 D cI cJ cO z V2 b u q9 hq9) cw_value q_651 rfl (Nat.le_of_ble_eq_true rfl) ⟨Nat.le_of_ble_eq_true rfl, Nat.le_of_ble_eq_true rfl⟩ rfl ⟨Nat.le_of_ble_eq_true rfl, Nat.le_of_ble_eq_true rfl⟩ dL_isMinute_232 (fun q37 hq37 => ?_)
  refine k_iload (pc := 235) C 2 rfl dL_isMinute_235 ?_
  refine k_iconst (pc := 237) C iconst_1 dL_isMinute_237 ?_
  refine k_icmp_ne (pc := 238) (tgt := 245) C dL_isMinute_238 (by decide) (fun _ => ?_) (fun z9 => absurd z9 ((by decide : ¬ (0 : Int32) = 1)))
  refine k_aload_n (pc := 245) C rfl 13 rfl dL_isMinute_245 ?_
  refine k_bipush (pc := 246) C bipush_18 dL_isMinute_246 ?_
  refine k_pcall (pc := 248) (As := [.int 18]) (rest := [.int (V2.1 6 7)]) C hZ (pwv_18 l hl0 D cI cJ cO z V2 b u q37 hq37) cw_value q_651 rfl (Nat.le_of_ble_eq_true rfl) ⟨Nat.le_of_ble_eq_true rfl, Nat.le_of_ble_eq_true rfl⟩ rfl ⟨Nat.le_of_ble_eq_true rfl, Nat.le_of_ble_eq_true rfl⟩ dL_isMinute_248 (fun q38 hq38 => ?_)
  refine k_icmp_ne (pc := 251) (tgt := 283) C dL_isMinute_251 (by decide) (fun z9 => absurd (rfl) z9) (fun _ => ?_)
  refine k_aload_n (pc := 254) C rfl 13 rfl dL_isMinute_254 ?_
  refine k_bipush (pc := 255) C bipush_19 dL_isMinute_255 ?_
  refine k_pcall (pc := 257) (As := [.int 19]) (rest := []) C hZ (pwv_19 l hl0 D cI cJ cO z V2 b u q38 hq38) cw_value q_651 rfl (Nat.le_of_ble_eq_true rfl) ⟨Nat.le_of_ble_eq_true rfl, Nat.le_of_ble_eq_true rfl⟩ rfl ⟨Nat.le_of_ble_eq_true rfl, Nat.le_of_ble_eq_true rfl⟩ dL_isMinute_257 (fun q39 hq39 => ?_)
  refine k_iload (pc := 260) C 1 rfl dL_isMinute_260 ?_
  refine k_iconst (pc := 262) C iconst_1 dL_isMinute_262 ?_
  refine k_icmp_ne (pc := 263) (tgt := 270) C dL_isMinute_263 (by decide) (fun _ => ?_) (fun z9 => absurd z9 ((by decide : ¬ (0 : Int32) = 1)))
  refine k_aload_n (pc := 270) C rfl 13 rfl dL_isMinute_270 ?_
  refine k_bipush (pc := 271) C bipush_19 dL_isMinute_271 ?_
  refine k_pcall (pc := 273) (As := [.int 19]) (rest := [.int (V2.1 6 8)]) C hZ (pwv_19 l hl0 D cI cJ cO z V2 b u q39 hq39) cw_value q_651 rfl (Nat.le_of_ble_eq_true rfl) ⟨Nat.le_of_ble_eq_true rfl, Nat.le_of_ble_eq_true rfl⟩ rfl ⟨Nat.le_of_ble_eq_true rfl, Nat.le_of_ble_eq_true rfl⟩ dL_isMinute_273 (fun q40 hq40 => ?_)
  refine k_icmp_ne (pc := 276) (tgt := 283) C dL_isMinute_276 (by decide) (fun z9 => absurd (rfl) z9) (fun _ => ?_)
  refine k_iconst (pc := 279) C iconst_1 dL_isMinute_279 ?_
  refine k_goto (pc := 280) (tgt := 284) C (by decide) dL_isMinute_280 ?_
  refine k_istore (pc := 284) (lv2 := [(13, .int 1), (12, .int 0), (11, .int 0), (10, .int ((mnR V.1 V.2.1).2.2.1 0)), (9, .int (V.1 6 13)), (8, .int x8), (7, .int (V.1 6 3)), (6, .int (V.1 6 2)), (5, .int x5), (4, .int x4), (3, .int x3), (2, .int (V.1 6 10)), (1, .int (V.1 6 9)), (0, .ref b)]) C (by decide) rfl dL_isMinute_284 ?_
  refine k_iload (pc := 286) C 0 rfl dL_isMinute_286 ?_
  refine k_if_eq (pc := 288) (tgt := 374) C dL_isMinute_288 (by decide) (fun z9 => absurd z9 ((by decide : ¬ (1 : Int32) = 0))) (fun _ => ?_)
  exact k_widen (Nat.le_of_ble_eq_true rfl) (Nat.le_of_ble_eq_true rfl) (im_291 l hl0 D cI cJ cO z C hZ hret hg1 hg2 hg3 hfp x3 x4 x5 x8 0 0 h5 q40 hq40)
set_option maxRecDepth 100000 in
theorem im_224b (l : Launch) (hl0 : l.stackTraces = false) (D : va_G) (cI cJ cO : ClassId) (z : zT) {V V2 : pV} {b : Nat} {u : Nat → Nat} {Q : State → Prop} {A : Nat → Prop} {p : Program} {e : Env} {s : State} {m : MethodId} {args : Array Value} {below : List Frame} {meth : Method} {c : Code} (C : KC p s m args meth c cL_isMinute 14 RL (some .boolean) D (kT cI cJ cO) A) (hZ : kZ z A s s.heap) (hret : ∀ (w : pSt V2) (lv2 : List (Nat × Value)) (pc k n : Nat), k ≤ 780 → n ≤ 9930 → decode cL_isMinute pc = .ok (.ireturn, 1) → narrow .boolean (.int 1) = .int 1 → KJ p l e (kRc 9 200 780 9930) s m args below meth c k n Q D A 14 (pW cI cO b u w.1) lv2 [.int 1] pc) (hg1 : kIn (V2.1 6 0) (-700) 2000) (hg2 : kIn (V2.1 6 1) 0 1000) (hg3 : s_X3_latest 60 (V2.1 9) (V2.1 25) 0 = V2.1 6 0) (hfp : (if s_X4_isRunning (V.1 5) = 0 then (-10000) else V.1 5 2) < 0 → V2.1 6 2 = V.1 6 2 ∧ V2.1 6 3 = V.1 6 3) (x3 x4 x5 x8 : Int32) (h5 : x5 = 0 → (if s_X4_isRunning (V.1 5) = 0 then (-10000) else V.1 5 2) < 0) (f7 : V2.1 6 7 = 0)  (q9 : kXS × kTS) (hq9 : pvis q9.1 q9.2 = V2) : KJ p l e (kRc 9 200 780 9930) s m args below meth c 442 5627 Q D A 14 (pW cI cO b u q9) [(13, .int 1), (12, .int 0), (11, .int 1), (10, .int ((mnR V.1 V.2.1).2.2.1 0)), (9, .int (V.1 6 13)), (8, .int x8), (7, .int (V.1 6 3)), (6, .int (V.1 6 2)), (5, .int x5), (4, .int x4), (3, .int x3), (2, .int (V.1 6 10)), (1, .int (V.1 6 9)), (0, .ref b)] [] 224 := by
  refine k_iload (pc := 224) C 0 rfl dL_isMinute_224 ?_
  refine k_if_eq (pc := 226) (tgt := 283) C dL_isMinute_226 (by decide) (fun z9 => absurd z9 ((by decide : ¬ (1 : Int32) = 0))) (fun _ => ?_)
  refine k_aload_n (pc := 229) C rfl 13 rfl dL_isMinute_229 ?_
  refine k_bipush (pc := 230) C bipush_18 dL_isMinute_230 ?_
  refine k_pcall (pc := 232) (As := [.int 18]) (rest := []) C hZ (pwv_18 l hl0 D cI cJ cO z V2 b u q9 hq9) cw_value q_651 rfl (Nat.le_of_ble_eq_true rfl) ⟨Nat.le_of_ble_eq_true rfl, Nat.le_of_ble_eq_true rfl⟩ rfl ⟨Nat.le_of_ble_eq_true rfl, Nat.le_of_ble_eq_true rfl⟩ dL_isMinute_232 (fun q41 hq41 => ?_)
  refine k_iload (pc := 235) C 2 rfl dL_isMinute_235 ?_
  refine k_iconst (pc := 237) C iconst_1 dL_isMinute_237 ?_
  refine k_icmp_ne (pc := 238) (tgt := 245) C dL_isMinute_238 (by decide) (fun z9 => absurd ((rfl : (1 : Int32) = 1)) z9) (fun _ => ?_)
  refine k_iconst (pc := 241) C iconst_0 dL_isMinute_241 ?_
  refine k_goto (pc := 242) (tgt := 251) C (by decide) dL_isMinute_242 ?_
  refine k_icmp_ne (pc := 251) (tgt := 283) C dL_isMinute_251 (by decide) (fun z9 => absurd (f7) z9) (fun _ => ?_)
  refine k_aload_n (pc := 254) C rfl 13 rfl dL_isMinute_254 ?_
  refine k_bipush (pc := 255) C bipush_19 dL_isMinute_255 ?_
  refine k_pcall (pc := 257) (As := [.int 19]) (rest := []) C hZ (pwv_19 l hl0 D cI cJ cO z V2 b u q41 hq41) cw_value q_651 rfl (Nat.le_of_ble_eq_true rfl) ⟨Nat.le_of_ble_eq_true rfl, Nat.le_of_ble_eq_true rfl⟩ rfl ⟨Nat.le_of_ble_eq_true rfl, Nat.le_of_ble_eq_true rfl⟩ dL_isMinute_257 (fun q42 hq42 => ?_)
  refine k_iload (pc := 260) C 1 rfl dL_isMinute_260 ?_
  refine k_iconst (pc := 262) C iconst_1 dL_isMinute_262 ?_
  refine k_icmp_ne (pc := 263) (tgt := 270) C dL_isMinute_263 (by decide) (fun _ => ?_) (fun z9 => absurd z9 ((by decide : ¬ (0 : Int32) = 1)))
  refine k_aload_n (pc := 270) C rfl 13 rfl dL_isMinute_270 ?_
  refine k_bipush (pc := 271) C bipush_19 dL_isMinute_271 ?_
  refine k_pcall (pc := 273) (As := [.int 19]) (rest := [.int (V2.1 6 8)]) C hZ (pwv_19 l hl0 D cI cJ cO z V2 b u q42 hq42) cw_value q_651 rfl (Nat.le_of_ble_eq_true rfl) ⟨Nat.le_of_ble_eq_true rfl, Nat.le_of_ble_eq_true rfl⟩ rfl ⟨Nat.le_of_ble_eq_true rfl, Nat.le_of_ble_eq_true rfl⟩ dL_isMinute_273 (fun q43 hq43 => ?_)
  refine k_icmp_ne (pc := 276) (tgt := 283) C dL_isMinute_276 (by decide) (fun z9 => absurd (rfl) z9) (fun _ => ?_)
  refine k_iconst (pc := 279) C iconst_1 dL_isMinute_279 ?_
  refine k_goto (pc := 280) (tgt := 284) C (by decide) dL_isMinute_280 ?_
  refine k_istore (pc := 284) (lv2 := [(13, .int 1), (12, .int 0), (11, .int 1), (10, .int ((mnR V.1 V.2.1).2.2.1 0)), (9, .int (V.1 6 13)), (8, .int x8), (7, .int (V.1 6 3)), (6, .int (V.1 6 2)), (5, .int x5), (4, .int x4), (3, .int x3), (2, .int (V.1 6 10)), (1, .int (V.1 6 9)), (0, .ref b)]) C (by decide) rfl dL_isMinute_284 ?_
  refine k_iload (pc := 286) C 0 rfl dL_isMinute_286 ?_
  refine k_if_eq (pc := 288) (tgt := 374) C dL_isMinute_288 (by decide) (fun z9 => absurd z9 ((by decide : ¬ (1 : Int32) = 0))) (fun _ => ?_)
  exact k_widen (Nat.le_of_ble_eq_true rfl) (Nat.le_of_ble_eq_true rfl) (im_291 l hl0 D cI cJ cO z C hZ hret hg1 hg2 hg3 hfp x3 x4 x5 x8 1 0 h5 q43 hq43)
set_option maxRecDepth 100000 in
theorem im_224c (l : Launch) (hl0 : l.stackTraces = false) (D : va_G) (cI cJ cO : ClassId) (z : zT) {V V2 : pV} {b : Nat} {u : Nat → Nat} {Q : State → Prop} {A : Nat → Prop} {p : Program} {e : Env} {s : State} {m : MethodId} {args : Array Value} {below : List Frame} {meth : Method} {c : Code} (C : KC p s m args meth c cL_isMinute 14 RL (some .boolean) D (kT cI cJ cO) A) (hZ : kZ z A s s.heap) (hret : ∀ (w : pSt V2) (lv2 : List (Nat × Value)) (pc k n : Nat), k ≤ 780 → n ≤ 9930 → decode cL_isMinute pc = .ok (.ireturn, 1) → narrow .boolean (.int 1) = .int 1 → KJ p l e (kRc 9 200 780 9930) s m args below meth c k n Q D A 14 (pW cI cO b u w.1) lv2 [.int 1] pc) (hg1 : kIn (V2.1 6 0) (-700) 2000) (hg2 : kIn (V2.1 6 1) 0 1000) (hg3 : s_X3_latest 60 (V2.1 9) (V2.1 25) 0 = V2.1 6 0) (hfp : (if s_X4_isRunning (V.1 5) = 0 then (-10000) else V.1 5 2) < 0 → V2.1 6 2 = V.1 6 2 ∧ V2.1 6 3 = V.1 6 3) (x3 x4 x5 x8 : Int32) (h5 : x5 = 0 → (if s_X4_isRunning (V.1 5) = 0 then (-10000) else V.1 5 2) < 0)  (f8 : V2.1 6 8 = 0) (q9 : kXS × kTS) (hq9 : pvis q9.1 q9.2 = V2) : KJ p l e (kRc 9 200 780 9930) s m args below meth c 442 5627 Q D A 14 (pW cI cO b u q9) [(13, .int 1), (12, .int 1), (11, .int 0), (10, .int ((mnR V.1 V.2.1).2.2.1 0)), (9, .int (V.1 6 13)), (8, .int x8), (7, .int (V.1 6 3)), (6, .int (V.1 6 2)), (5, .int x5), (4, .int x4), (3, .int x3), (2, .int (V.1 6 10)), (1, .int (V.1 6 9)), (0, .ref b)] [] 224 := by
  refine k_iload (pc := 224) C 0 rfl dL_isMinute_224 ?_
  refine k_if_eq (pc := 226) (tgt := 283) C dL_isMinute_226 (by decide) (fun z9 => absurd z9 ((by decide : ¬ (1 : Int32) = 0))) (fun _ => ?_)
  refine k_aload_n (pc := 229) C rfl 13 rfl dL_isMinute_229 ?_
  refine k_bipush (pc := 230) C bipush_18 dL_isMinute_230 ?_
  refine k_pcall (pc := 232) (As := [.int 18]) (rest := []) C hZ (pwv_18 l hl0 D cI cJ cO z V2 b u q9 hq9) cw_value q_651 rfl (Nat.le_of_ble_eq_true rfl) ⟨Nat.le_of_ble_eq_true rfl, Nat.le_of_ble_eq_true rfl⟩ rfl ⟨Nat.le_of_ble_eq_true rfl, Nat.le_of_ble_eq_true rfl⟩ dL_isMinute_232 (fun q44 hq44 => ?_)
  refine k_iload (pc := 235) C 2 rfl dL_isMinute_235 ?_
  refine k_iconst (pc := 237) C iconst_1 dL_isMinute_237 ?_
  refine k_icmp_ne (pc := 238) (tgt := 245) C dL_isMinute_238 (by decide) (fun _ => ?_) (fun z9 => absurd z9 ((by decide : ¬ (0 : Int32) = 1)))
  refine k_aload_n (pc := 245) C rfl 13 rfl dL_isMinute_245 ?_
  refine k_bipush (pc := 246) C bipush_18 dL_isMinute_246 ?_
  refine k_pcall (pc := 248) (As := [.int 18]) (rest := [.int (V2.1 6 7)]) C hZ (pwv_18 l hl0 D cI cJ cO z V2 b u q44 hq44) cw_value q_651 rfl (Nat.le_of_ble_eq_true rfl) ⟨Nat.le_of_ble_eq_true rfl, Nat.le_of_ble_eq_true rfl⟩ rfl ⟨Nat.le_of_ble_eq_true rfl, Nat.le_of_ble_eq_true rfl⟩ dL_isMinute_248 (fun q45 hq45 => ?_)
  refine k_icmp_ne (pc := 251) (tgt := 283) C dL_isMinute_251 (by decide) (fun z9 => absurd (rfl) z9) (fun _ => ?_)
  refine k_aload_n (pc := 254) C rfl 13 rfl dL_isMinute_254 ?_
  refine k_bipush (pc := 255) C bipush_19 dL_isMinute_255 ?_
  refine k_pcall (pc := 257) (As := [.int 19]) (rest := []) C hZ (pwv_19 l hl0 D cI cJ cO z V2 b u q45 hq45) cw_value q_651 rfl (Nat.le_of_ble_eq_true rfl) ⟨Nat.le_of_ble_eq_true rfl, Nat.le_of_ble_eq_true rfl⟩ rfl ⟨Nat.le_of_ble_eq_true rfl, Nat.le_of_ble_eq_true rfl⟩ dL_isMinute_257 (fun q46 hq46 => ?_)
  refine k_iload (pc := 260) C 1 rfl dL_isMinute_260 ?_
  refine k_iconst (pc := 262) C iconst_1 dL_isMinute_262 ?_
  refine k_icmp_ne (pc := 263) (tgt := 270) C dL_isMinute_263 (by decide) (fun z9 => absurd ((rfl : (1 : Int32) = 1)) z9) (fun _ => ?_)
  refine k_iconst (pc := 266) C iconst_0 dL_isMinute_266 ?_
  refine k_goto (pc := 267) (tgt := 276) C (by decide) dL_isMinute_267 ?_
  refine k_icmp_ne (pc := 276) (tgt := 283) C dL_isMinute_276 (by decide) (fun z9 => absurd (f8) z9) (fun _ => ?_)
  refine k_iconst (pc := 279) C iconst_1 dL_isMinute_279 ?_
  refine k_goto (pc := 280) (tgt := 284) C (by decide) dL_isMinute_280 ?_
  refine k_istore (pc := 284) (lv2 := [(13, .int 1), (12, .int 1), (11, .int 0), (10, .int ((mnR V.1 V.2.1).2.2.1 0)), (9, .int (V.1 6 13)), (8, .int x8), (7, .int (V.1 6 3)), (6, .int (V.1 6 2)), (5, .int x5), (4, .int x4), (3, .int x3), (2, .int (V.1 6 10)), (1, .int (V.1 6 9)), (0, .ref b)]) C (by decide) rfl dL_isMinute_284 ?_
  refine k_iload (pc := 286) C 0 rfl dL_isMinute_286 ?_
  refine k_if_eq (pc := 288) (tgt := 374) C dL_isMinute_288 (by decide) (fun z9 => absurd z9 ((by decide : ¬ (1 : Int32) = 0))) (fun _ => ?_)
  exact k_widen (Nat.le_of_ble_eq_true rfl) (Nat.le_of_ble_eq_true rfl) (im_291 l hl0 D cI cJ cO z C hZ hret hg1 hg2 hg3 hfp x3 x4 x5 x8 0 1 h5 q46 hq46)
set_option maxRecDepth 100000 in
theorem im_143a (l : Launch) (hl0 : l.stackTraces = false) (D : va_G) (cI cJ cO : ClassId) (z : zT) {V V2 : pV} {b : Nat} {u : Nat → Nat} {Q : State → Prop} {A : Nat → Prop} {p : Program} {e : Env} {s : State} {m : MethodId} {args : Array Value} {below : List Frame} {meth : Method} {c : Code} (C : KC p s m args meth c cL_isMinute 14 RL (some .boolean) D (kT cI cJ cO) A) (hZ : kZ z A s s.heap) (hret : ∀ (w : pSt V2) (lv2 : List (Nat × Value)) (pc k n : Nat), k ≤ 780 → n ≤ 9930 → decode cL_isMinute pc = .ok (.ireturn, 1) → narrow .boolean (.int 1) = .int 1 → KJ p l e (kRc 9 200 780 9930) s m args below meth c k n Q D A 14 (pW cI cO b u w.1) lv2 [.int 1] pc) (hg1 : kIn (V2.1 6 0) (-700) 2000) (hg2 : kIn (V2.1 6 1) 0 1000) (hg3 : s_X3_latest 60 (V2.1 9) (V2.1 25) 0 = V2.1 6 0) (hfp : (if s_X4_isRunning (V.1 5) = 0 then (-10000) else V.1 5 2) < 0 → V2.1 6 2 = V.1 6 2 ∧ V2.1 6 3 = V.1 6 3) (x3 x4 x5 x8 : Int32) (h3 : (s_X10_at 12 (V.1 1) 8) ≤ V.1 6 8 → ¬ x3 = 0) (h4 : (s_X10_at 12 (V.1 1) 8) ≤ V.1 6 7 → ¬ x4 = 0) (h5 : x5 = 0 → (if s_X4_isRunning (V.1 5) = 0 then (-10000) else V.1 5 2) < 0) (h8 : V.1 6 4 = 0 → x8 = 0) (h8b : ¬ x8 = 0 → ¬ V.1 6 4 = 0) (f9 : V2.1 6 9 - V.1 6 9 = 0) (f10 : V2.1 6 10 - V.1 6 10 = 0) (f13 : ¬ V.1 6 4 = 0 → V2.1 6 13 = V.1 6 13) (q9 : kXS × kTS) (hq9 : pvis q9.1 q9.2 = V2) : KJ p l e (kRc 9 200 780 9930) s m args below meth c 364 4634 Q D A 14 (pW cI cO b u q9) [(10, .int ((mnR V.1 V.2.1).2.2.1 0)), (9, .int (V.1 6 13)), (8, .int x8), (7, .int (V.1 6 3)), (6, .int (V.1 6 2)), (5, .int x5), (4, .int x4), (3, .int x3), (2, .int (V.1 6 10)), (1, .int (V.1 6 9)), (0, .ref b)] [] 143 := by
  refine k_aload_n (pc := 143) C rfl 10 rfl dL_isMinute_143 ?_
  refine k_bipush (pc := 144) C bipush_13 dL_isMinute_144 ?_
  refine k_pcall (pc := 146) (As := [.int 13]) (rest := []) C hZ (pwv_13 l hl0 D cI cJ cO z V2 b u q9 hq9) cw_value q_651 rfl (Nat.le_of_ble_eq_true rfl) ⟨Nat.le_of_ble_eq_true rfl, Nat.le_of_ble_eq_true rfl⟩ rfl ⟨Nat.le_of_ble_eq_true rfl, Nat.le_of_ble_eq_true rfl⟩ dL_isMinute_146 (fun q47 hq47 => ?_)
  refine k_iload_n (pc := 149) C rfl 9 rfl dL_isMinute_149 ?_
  refine k_isub (pc := 150) C dL_isMinute_150 ?_
  refine k_topI (v := 0) f9 ?_
  refine k_istore (pc := 151) (lv2 := [(11, .int 0), (10, .int ((mnR V.1 V.2.1).2.2.1 0)), (9, .int (V.1 6 13)), (8, .int x8), (7, .int (V.1 6 3)), (6, .int (V.1 6 2)), (5, .int x5), (4, .int x4), (3, .int x3), (2, .int (V.1 6 10)), (1, .int (V.1 6 9)), (0, .ref b)]) C (by decide) rfl dL_isMinute_151 ?_
  refine k_aload_n (pc := 153) C rfl 11 rfl dL_isMinute_153 ?_
  refine k_bipush (pc := 154) C bipush_14 dL_isMinute_154 ?_
  refine k_pcall (pc := 156) (As := [.int 14]) (rest := []) C hZ (pwv_14 l hl0 D cI cJ cO z V2 b u q47 hq47) cw_value q_651 rfl (Nat.le_of_ble_eq_true rfl) ⟨Nat.le_of_ble_eq_true rfl, Nat.le_of_ble_eq_true rfl⟩ rfl ⟨Nat.le_of_ble_eq_true rfl, Nat.le_of_ble_eq_true rfl⟩ dL_isMinute_156 (fun q48 hq48 => ?_)
  refine k_iload_n (pc := 159) C rfl 9 rfl dL_isMinute_159 ?_
  refine k_isub (pc := 160) C dL_isMinute_160 ?_
  refine k_topI (v := 0) f10 ?_
  refine k_istore (pc := 161) (lv2 := [(12, .int 0), (11, .int 0), (10, .int ((mnR V.1 V.2.1).2.2.1 0)), (9, .int (V.1 6 13)), (8, .int x8), (7, .int (V.1 6 3)), (6, .int (V.1 6 2)), (5, .int x5), (4, .int x4), (3, .int x3), (2, .int (V.1 6 10)), (1, .int (V.1 6 9)), (0, .ref b)]) C (by decide) rfl dL_isMinute_161 ?_
  refine k_iload (pc := 163) C 1 rfl dL_isMinute_163 ?_
  refine k_iload (pc := 165) C 0 rfl dL_isMinute_165 ?_
  refine k_iadd (pc := 167) C dL_isMinute_167 ?_
  refine k_iconst (pc := 168) C iconst_1 dL_isMinute_168 ?_
  refine k_icmp_gt (pc := 169) (tgt := 221) C dL_isMinute_169 (by decide) (fun z9 => absurd z9 ((by decide : ¬ (1 : Int32) < 0 + 0))) (fun _ => ?_)
  refine k_iload (pc := 172) C 1 rfl dL_isMinute_172 ?_
  refine k_if_eq (pc := 174) (tgt := 186) C dL_isMinute_174 (by decide) (fun _ => ?_) (fun z9 => absurd ((rfl : (0 : Int32) = 0)) z9)
  refine k_iload (pc := 186) C 0 rfl dL_isMinute_186 ?_
  refine k_if_eq (pc := 188) (tgt := 201) C dL_isMinute_188 (by decide) (fun _ => ?_) (fun z9 => absurd ((rfl : (0 : Int32) = 0)) z9)
  refine k_iload (pc := 201) C 4 rfl dL_isMinute_201 ?_
  refine k_if_eq (pc := 203) (tgt := 217) C dL_isMinute_203 (by decide) (fun h9 => ?_) (fun h9 => ?_)
  · refine k_iconst (pc := 217) C iconst_1 dL_isMinute_217 ?_
    refine k_goto (pc := 218) (tgt := 222) C (by decide) dL_isMinute_218 ?_
    refine k_istore (pc := 222) (lv2 := [(13, .int 1), (12, .int 0), (11, .int 0), (10, .int ((mnR V.1 V.2.1).2.2.1 0)), (9, .int (V.1 6 13)), (8, .int x8), (7, .int (V.1 6 3)), (6, .int (V.1 6 2)), (5, .int x5), (4, .int x4), (3, .int x3), (2, .int (V.1 6 10)), (1, .int (V.1 6 9)), (0, .ref b)]) C (by decide) rfl dL_isMinute_222 ?_
    exact k_widen (Nat.le_of_ble_eq_true rfl) (Nat.le_of_ble_eq_true rfl) (im_224a l hl0 D cI cJ cO z C hZ hret hg1 hg2 hg3 hfp x3 x4 x5 x8 h5 q48 hq48)
  · refine k_aload_n (pc := 206) C rfl 12 rfl dL_isMinute_206 ?_
    refine k_bipush (pc := 207) C bipush_20 dL_isMinute_207 ?_
    refine k_pcall (pc := 209) (As := [.int 20]) (rest := []) C hZ (pwv_20 l hl0 D cI cJ cO z V2 b u q48 hq48) cw_value q_651 rfl (Nat.le_of_ble_eq_true rfl) ⟨Nat.le_of_ble_eq_true rfl, Nat.le_of_ble_eq_true rfl⟩ rfl ⟨Nat.le_of_ble_eq_true rfl, Nat.le_of_ble_eq_true rfl⟩ dL_isMinute_209 (fun q49 hq49 => ?_)
    refine k_iload (pc := 212) C 3 rfl dL_isMinute_212 ?_
    refine k_icmp_ne (pc := 214) (tgt := 221) C dL_isMinute_214 (by decide) (fun z9 => absurd (f13 (h8b h9)) z9) (fun _ => ?_)
    refine k_iconst (pc := 217) C iconst_1 dL_isMinute_217 ?_
    refine k_goto (pc := 218) (tgt := 222) C (by decide) dL_isMinute_218 ?_
    refine k_istore (pc := 222) (lv2 := [(13, .int 1), (12, .int 0), (11, .int 0), (10, .int ((mnR V.1 V.2.1).2.2.1 0)), (9, .int (V.1 6 13)), (8, .int x8), (7, .int (V.1 6 3)), (6, .int (V.1 6 2)), (5, .int x5), (4, .int x4), (3, .int x3), (2, .int (V.1 6 10)), (1, .int (V.1 6 9)), (0, .ref b)]) C (by decide) rfl dL_isMinute_222 ?_
    exact k_widen (Nat.le_of_ble_eq_true rfl) (Nat.le_of_ble_eq_true rfl) (im_224a l hl0 D cI cJ cO z C hZ hret hg1 hg2 hg3 hfp x3 x4 x5 x8 h5 q49 hq49)
set_option maxRecDepth 100000 in
theorem im_143b (l : Launch) (hl0 : l.stackTraces = false) (D : va_G) (cI cJ cO : ClassId) (z : zT) {V V2 : pV} {b : Nat} {u : Nat → Nat} {Q : State → Prop} {A : Nat → Prop} {p : Program} {e : Env} {s : State} {m : MethodId} {args : Array Value} {below : List Frame} {meth : Method} {c : Code} (C : KC p s m args meth c cL_isMinute 14 RL (some .boolean) D (kT cI cJ cO) A) (hZ : kZ z A s s.heap) (hret : ∀ (w : pSt V2) (lv2 : List (Nat × Value)) (pc k n : Nat), k ≤ 780 → n ≤ 9930 → decode cL_isMinute pc = .ok (.ireturn, 1) → narrow .boolean (.int 1) = .int 1 → KJ p l e (kRc 9 200 780 9930) s m args below meth c k n Q D A 14 (pW cI cO b u w.1) lv2 [.int 1] pc) (hg1 : kIn (V2.1 6 0) (-700) 2000) (hg2 : kIn (V2.1 6 1) 0 1000) (hg3 : s_X3_latest 60 (V2.1 9) (V2.1 25) 0 = V2.1 6 0) (hfp : (if s_X4_isRunning (V.1 5) = 0 then (-10000) else V.1 5 2) < 0 → V2.1 6 2 = V.1 6 2 ∧ V2.1 6 3 = V.1 6 3) (x3 x4 x5 x8 : Int32) (h3 : (s_X10_at 12 (V.1 1) 8) ≤ V.1 6 8 → ¬ x3 = 0) (h4 : (s_X10_at 12 (V.1 1) 8) ≤ V.1 6 7 → ¬ x4 = 0) (h5 : x5 = 0 → (if s_X4_isRunning (V.1 5) = 0 then (-10000) else V.1 5 2) < 0) (h8 : V.1 6 4 = 0 → x8 = 0) (h8b : ¬ x8 = 0 → ¬ V.1 6 4 = 0) (f9 : V2.1 6 9 - V.1 6 9 = 1) (f10 : V2.1 6 10 - V.1 6 10 = 0) (f4 : V.1 6 4 = 0) (f8r : (s_X10_at 12 (V.1 1) 8) ≤ V.1 6 8) (f7 : V2.1 6 7 = 0) (q9 : kXS × kTS) (hq9 : pvis q9.1 q9.2 = V2) : KJ p l e (kRc 9 200 780 9930) s m args below meth c 364 4634 Q D A 14 (pW cI cO b u q9) [(10, .int ((mnR V.1 V.2.1).2.2.1 0)), (9, .int (V.1 6 13)), (8, .int x8), (7, .int (V.1 6 3)), (6, .int (V.1 6 2)), (5, .int x5), (4, .int x4), (3, .int x3), (2, .int (V.1 6 10)), (1, .int (V.1 6 9)), (0, .ref b)] [] 143 := by
  refine k_aload_n (pc := 143) C rfl 10 rfl dL_isMinute_143 ?_
  refine k_bipush (pc := 144) C bipush_13 dL_isMinute_144 ?_
  refine k_pcall (pc := 146) (As := [.int 13]) (rest := []) C hZ (pwv_13 l hl0 D cI cJ cO z V2 b u q9 hq9) cw_value q_651 rfl (Nat.le_of_ble_eq_true rfl) ⟨Nat.le_of_ble_eq_true rfl, Nat.le_of_ble_eq_true rfl⟩ rfl ⟨Nat.le_of_ble_eq_true rfl, Nat.le_of_ble_eq_true rfl⟩ dL_isMinute_146 (fun q50 hq50 => ?_)
  refine k_iload_n (pc := 149) C rfl 9 rfl dL_isMinute_149 ?_
  refine k_isub (pc := 150) C dL_isMinute_150 ?_
  refine k_topI (v := 1) f9 ?_
  refine k_istore (pc := 151) (lv2 := [(11, .int 1), (10, .int ((mnR V.1 V.2.1).2.2.1 0)), (9, .int (V.1 6 13)), (8, .int x8), (7, .int (V.1 6 3)), (6, .int (V.1 6 2)), (5, .int x5), (4, .int x4), (3, .int x3), (2, .int (V.1 6 10)), (1, .int (V.1 6 9)), (0, .ref b)]) C (by decide) rfl dL_isMinute_151 ?_
  refine k_aload_n (pc := 153) C rfl 11 rfl dL_isMinute_153 ?_
  refine k_bipush (pc := 154) C bipush_14 dL_isMinute_154 ?_
  refine k_pcall (pc := 156) (As := [.int 14]) (rest := []) C hZ (pwv_14 l hl0 D cI cJ cO z V2 b u q50 hq50) cw_value q_651 rfl (Nat.le_of_ble_eq_true rfl) ⟨Nat.le_of_ble_eq_true rfl, Nat.le_of_ble_eq_true rfl⟩ rfl ⟨Nat.le_of_ble_eq_true rfl, Nat.le_of_ble_eq_true rfl⟩ dL_isMinute_156 (fun q51 hq51 => ?_)
  refine k_iload_n (pc := 159) C rfl 9 rfl dL_isMinute_159 ?_
  refine k_isub (pc := 160) C dL_isMinute_160 ?_
  refine k_topI (v := 0) f10 ?_
  refine k_istore (pc := 161) (lv2 := [(12, .int 0), (11, .int 1), (10, .int ((mnR V.1 V.2.1).2.2.1 0)), (9, .int (V.1 6 13)), (8, .int x8), (7, .int (V.1 6 3)), (6, .int (V.1 6 2)), (5, .int x5), (4, .int x4), (3, .int x3), (2, .int (V.1 6 10)), (1, .int (V.1 6 9)), (0, .ref b)]) C (by decide) rfl dL_isMinute_161 ?_
  refine k_iload (pc := 163) C 1 rfl dL_isMinute_163 ?_
  refine k_iload (pc := 165) C 0 rfl dL_isMinute_165 ?_
  refine k_iadd (pc := 167) C dL_isMinute_167 ?_
  refine k_iconst (pc := 168) C iconst_1 dL_isMinute_168 ?_
  refine k_icmp_gt (pc := 169) (tgt := 221) C dL_isMinute_169 (by decide) (fun z9 => absurd z9 ((by decide : ¬ (1 : Int32) < 1 + 0))) (fun _ => ?_)
  refine k_iload (pc := 172) C 1 rfl dL_isMinute_172 ?_
  refine k_if_eq (pc := 174) (tgt := 186) C dL_isMinute_174 (by decide) (fun z9 => absurd z9 ((by decide : ¬ (1 : Int32) = 0))) (fun _ => ?_)
  refine k_iload_n (pc := 177) C rfl 9 rfl dL_isMinute_177 ?_
  refine k_if_eq (pc := 178) (tgt := 221) C dL_isMinute_178 (by decide) (fun z9 => absurd z9 (h3 f8r)) (fun _ => ?_)
  refine k_iload (pc := 181) C 4 rfl dL_isMinute_181 ?_
  refine k_if_ne (pc := 183) (tgt := 221) C dL_isMinute_183 (by decide) (fun z9 => absurd (h8 f4) z9) (fun _ => ?_)
  refine k_iload (pc := 186) C 0 rfl dL_isMinute_186 ?_
  refine k_if_eq (pc := 188) (tgt := 201) C dL_isMinute_188 (by decide) (fun _ => ?_) (fun z9 => absurd ((rfl : (0 : Int32) = 0)) z9)
  refine k_iload (pc := 201) C 4 rfl dL_isMinute_201 ?_
  refine k_if_eq (pc := 203) (tgt := 217) C dL_isMinute_203 (by decide) (fun _ => ?_) (fun z9 => absurd (h8 f4) z9)
  refine k_iconst (pc := 217) C iconst_1 dL_isMinute_217 ?_
  refine k_goto (pc := 218) (tgt := 222) C (by decide) dL_isMinute_218 ?_
  refine k_istore (pc := 222) (lv2 := [(13, .int 1), (12, .int 0), (11, .int 1), (10, .int ((mnR V.1 V.2.1).2.2.1 0)), (9, .int (V.1 6 13)), (8, .int x8), (7, .int (V.1 6 3)), (6, .int (V.1 6 2)), (5, .int x5), (4, .int x4), (3, .int x3), (2, .int (V.1 6 10)), (1, .int (V.1 6 9)), (0, .ref b)]) C (by decide) rfl dL_isMinute_222 ?_
  exact k_widen (Nat.le_of_ble_eq_true rfl) (Nat.le_of_ble_eq_true rfl) (im_224b l hl0 D cI cJ cO z C hZ hret hg1 hg2 hg3 hfp x3 x4 x5 x8 h5 f7 q51 hq51)
set_option maxRecDepth 100000 in
theorem im_143c (l : Launch) (hl0 : l.stackTraces = false) (D : va_G) (cI cJ cO : ClassId) (z : zT) {V V2 : pV} {b : Nat} {u : Nat → Nat} {Q : State → Prop} {A : Nat → Prop} {p : Program} {e : Env} {s : State} {m : MethodId} {args : Array Value} {below : List Frame} {meth : Method} {c : Code} (C : KC p s m args meth c cL_isMinute 14 RL (some .boolean) D (kT cI cJ cO) A) (hZ : kZ z A s s.heap) (hret : ∀ (w : pSt V2) (lv2 : List (Nat × Value)) (pc k n : Nat), k ≤ 780 → n ≤ 9930 → decode cL_isMinute pc = .ok (.ireturn, 1) → narrow .boolean (.int 1) = .int 1 → KJ p l e (kRc 9 200 780 9930) s m args below meth c k n Q D A 14 (pW cI cO b u w.1) lv2 [.int 1] pc) (hg1 : kIn (V2.1 6 0) (-700) 2000) (hg2 : kIn (V2.1 6 1) 0 1000) (hg3 : s_X3_latest 60 (V2.1 9) (V2.1 25) 0 = V2.1 6 0) (hfp : (if s_X4_isRunning (V.1 5) = 0 then (-10000) else V.1 5 2) < 0 → V2.1 6 2 = V.1 6 2 ∧ V2.1 6 3 = V.1 6 3) (x3 x4 x5 x8 : Int32) (h3 : (s_X10_at 12 (V.1 1) 8) ≤ V.1 6 8 → ¬ x3 = 0) (h4 : (s_X10_at 12 (V.1 1) 8) ≤ V.1 6 7 → ¬ x4 = 0) (h5 : x5 = 0 → (if s_X4_isRunning (V.1 5) = 0 then (-10000) else V.1 5 2) < 0) (h8 : V.1 6 4 = 0 → x8 = 0) (h8b : ¬ x8 = 0 → ¬ V.1 6 4 = 0) (f9 : V2.1 6 9 - V.1 6 9 = 0) (f10 : V2.1 6 10 - V.1 6 10 = 1) (f4 : V.1 6 4 = 0) (f7r : (s_X10_at 12 (V.1 1) 8) ≤ V.1 6 7) (f8 : V2.1 6 8 = 0) (q9 : kXS × kTS) (hq9 : pvis q9.1 q9.2 = V2) : KJ p l e (kRc 9 200 780 9930) s m args below meth c 364 4634 Q D A 14 (pW cI cO b u q9) [(10, .int ((mnR V.1 V.2.1).2.2.1 0)), (9, .int (V.1 6 13)), (8, .int x8), (7, .int (V.1 6 3)), (6, .int (V.1 6 2)), (5, .int x5), (4, .int x4), (3, .int x3), (2, .int (V.1 6 10)), (1, .int (V.1 6 9)), (0, .ref b)] [] 143 := by
  refine k_aload_n (pc := 143) C rfl 10 rfl dL_isMinute_143 ?_
  refine k_bipush (pc := 144) C bipush_13 dL_isMinute_144 ?_
  refine k_pcall (pc := 146) (As := [.int 13]) (rest := []) C hZ (pwv_13 l hl0 D cI cJ cO z V2 b u q9 hq9) cw_value q_651 rfl (Nat.le_of_ble_eq_true rfl) ⟨Nat.le_of_ble_eq_true rfl, Nat.le_of_ble_eq_true rfl⟩ rfl ⟨Nat.le_of_ble_eq_true rfl, Nat.le_of_ble_eq_true rfl⟩ dL_isMinute_146 (fun q52 hq52 => ?_)
  refine k_iload_n (pc := 149) C rfl 9 rfl dL_isMinute_149 ?_
  refine k_isub (pc := 150) C dL_isMinute_150 ?_
  refine k_topI (v := 0) f9 ?_
  refine k_istore (pc := 151) (lv2 := [(11, .int 0), (10, .int ((mnR V.1 V.2.1).2.2.1 0)), (9, .int (V.1 6 13)), (8, .int x8), (7, .int (V.1 6 3)), (6, .int (V.1 6 2)), (5, .int x5), (4, .int x4), (3, .int x3), (2, .int (V.1 6 10)), (1, .int (V.1 6 9)), (0, .ref b)]) C (by decide) rfl dL_isMinute_151 ?_
  refine k_aload_n (pc := 153) C rfl 11 rfl dL_isMinute_153 ?_
  refine k_bipush (pc := 154) C bipush_14 dL_isMinute_154 ?_
  refine k_pcall (pc := 156) (As := [.int 14]) (rest := []) C hZ (pwv_14 l hl0 D cI cJ cO z V2 b u q52 hq52) cw_value q_651 rfl (Nat.le_of_ble_eq_true rfl) ⟨Nat.le_of_ble_eq_true rfl, Nat.le_of_ble_eq_true rfl⟩ rfl ⟨Nat.le_of_ble_eq_true rfl, Nat.le_of_ble_eq_true rfl⟩ dL_isMinute_156 (fun q53 hq53 => ?_)
  refine k_iload_n (pc := 159) C rfl 9 rfl dL_isMinute_159 ?_
  refine k_isub (pc := 160) C dL_isMinute_160 ?_
  refine k_topI (v := 1) f10 ?_
  refine k_istore (pc := 161) (lv2 := [(12, .int 1), (11, .int 0), (10, .int ((mnR V.1 V.2.1).2.2.1 0)), (9, .int (V.1 6 13)), (8, .int x8), (7, .int (V.1 6 3)), (6, .int (V.1 6 2)), (5, .int x5), (4, .int x4), (3, .int x3), (2, .int (V.1 6 10)), (1, .int (V.1 6 9)), (0, .ref b)]) C (by decide) rfl dL_isMinute_161 ?_
  refine k_iload (pc := 163) C 1 rfl dL_isMinute_163 ?_
  refine k_iload (pc := 165) C 0 rfl dL_isMinute_165 ?_
  refine k_iadd (pc := 167) C dL_isMinute_167 ?_
  refine k_iconst (pc := 168) C iconst_1 dL_isMinute_168 ?_
  refine k_icmp_gt (pc := 169) (tgt := 221) C dL_isMinute_169 (by decide) (fun z9 => absurd z9 ((by decide : ¬ (1 : Int32) < 0 + 1))) (fun _ => ?_)
  refine k_iload (pc := 172) C 1 rfl dL_isMinute_172 ?_
  refine k_if_eq (pc := 174) (tgt := 186) C dL_isMinute_174 (by decide) (fun _ => ?_) (fun z9 => absurd ((rfl : (0 : Int32) = 0)) z9)
  refine k_iload (pc := 186) C 0 rfl dL_isMinute_186 ?_
  refine k_if_eq (pc := 188) (tgt := 201) C dL_isMinute_188 (by decide) (fun z9 => absurd z9 ((by decide : ¬ (1 : Int32) = 0))) (fun _ => ?_)
  refine k_iload (pc := 191) C 8 rfl dL_isMinute_191 ?_
  refine k_if_eq (pc := 193) (tgt := 221) C dL_isMinute_193 (by decide) (fun z9 => absurd z9 (h4 f7r)) (fun _ => ?_)
  refine k_iload (pc := 196) C 4 rfl dL_isMinute_196 ?_
  refine k_if_ne (pc := 198) (tgt := 221) C dL_isMinute_198 (by decide) (fun z9 => absurd (h8 f4) z9) (fun _ => ?_)
  refine k_iload (pc := 201) C 4 rfl dL_isMinute_201 ?_
  refine k_if_eq (pc := 203) (tgt := 217) C dL_isMinute_203 (by decide) (fun _ => ?_) (fun z9 => absurd (h8 f4) z9)
  refine k_iconst (pc := 217) C iconst_1 dL_isMinute_217 ?_
  refine k_goto (pc := 218) (tgt := 222) C (by decide) dL_isMinute_218 ?_
  refine k_istore (pc := 222) (lv2 := [(13, .int 1), (12, .int 1), (11, .int 0), (10, .int ((mnR V.1 V.2.1).2.2.1 0)), (9, .int (V.1 6 13)), (8, .int x8), (7, .int (V.1 6 3)), (6, .int (V.1 6 2)), (5, .int x5), (4, .int x4), (3, .int x3), (2, .int (V.1 6 10)), (1, .int (V.1 6 9)), (0, .ref b)]) C (by decide) rfl dL_isMinute_222 ?_
  exact k_widen (Nat.le_of_ble_eq_true rfl) (Nat.le_of_ble_eq_true rfl) (im_224c l hl0 D cI cJ cO z C hZ hret hg1 hg2 hg3 hfp x3 x4 x5 x8 h5 f8 q53 hq53)