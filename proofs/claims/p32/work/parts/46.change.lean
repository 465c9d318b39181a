theorem q_384 : Cond.methodLink RL 123 yL_pass ∈ lw_all := kq 384 (by decide +kernel) (by decide +kernel)
theorem q_668 : Cond.static yL_change ∈ lw_all := kq 668 (by decide +kernel) (by decide +kernel)
theorem q_669 : Cond.code yL_change cL_change 5 (some .int) ∈ lw_all := kq 669 (by decide +kernel) (by decide +kernel)
theorem q_670 : Cond.methodLink RL 91 yL_low ∈ lw_all := kq 670 (by decide +kernel) (by decide +kernel)
theorem q_671 : Cond.static yL_low ∈ lw_all := kq 671 (by decide +kernel) (by decide +kernel)
theorem q_672 : Cond.code yL_low cL_low 2 (some .int) ∈ lw_all := kq 672 (by decide +kernel) (by decide +kernel)
theorem q_674 : Cond.methodLink RL 96 yL_set ∈ lw_all := kq 674 (by decide +kernel) (by decide +kernel)
theorem q_711 : Cond.methodLink RL 99 yL_setMode ∈ lw_all := kq 711 (by decide +kernel) (by decide +kernel)
theorem q_718 : Cond.methodLink RL 102 yL_setPoints ∈ lw_all := kq 718 (by decide +kernel) (by decide +kernel)
theorem q_732 : Cond.methodLink RL 104 yL_door ∈ lw_all := kq 732 (by decide +kernel) (by decide +kernel)
theorem q_740 : Cond.methodLink RL 107 yL_addSegment ∈ lw_all := kq 740 (by decide +kernel) (by decide +kernel)
theorem q_760 : Cond.methodLink RL 109 yL_removeSegment ∈ lw_all := kq 760 (by decide +kernel) (by decide +kernel)
theorem q_771 : Cond.methodLink RL 112 yL_setCycles ∈ lw_all := kq 771 (by decide +kernel) (by decide +kernel)
theorem q_778 : Cond.methodLink RL 114 yL_start ∈ lw_all := kq 778 (by decide +kernel) (by decide +kernel)
theorem q_789 : Cond.methodLink RL 117 yL_stop ∈ lw_all := kq 789 (by decide +kernel) (by decide +kernel)
theorem q_797 : Cond.methodLink RL 119 yL_hold ∈ lw_all := kq 797 (by decide +kernel) (by decide +kernel)
theorem q_804 : Cond.methodLink RL 121 yL_undo ∈ lw_all := kq 804 (by decide +kernel) (by decide +kernel)
theorem bipush_101 : (Int8.ofInt 101).toInt32 = 101 := by decide
theorem bipush_22 : (Int8.ofInt 22).toInt32 = 22 := by decide
theorem bipush_30 : (Int8.ofInt 30).toInt32 = 30 := by decide
theorem bipush_32 : (Int8.ofInt 32).toInt32 = 32 := by decide
theorem bipush_84 : (Int8.ofInt 84).toInt32 = 84 := by decide
theorem bipush_99 : (Int8.ofInt 99).toInt32 = 99 := by decide
theorem sipush_1002 : (Int16.ofInt 1002).toInt32 = 1002 := by decide
theorem sipush_700 : (Int16.ofInt 700).toInt32 = 700 := by decide
theorem sipush_900 : (Int16.ofInt 900).toInt32 = 900 := by decide
theorem cws_L_low : kCWs yL_low cL_low 2 (some .int) 2 := ⟨⟨q_672, q_15, by decide +kernel⟩, q_671⟩
/-- a method of the law over every object that is seen as V -/
def pMeth (l : Launch) (D : va_G) (cI cJ cO : ClassId) (z : zT) (y : MethodName) (code : ByteArray) (nL : Nat) (rt : FieldType) (F L mc ms : Nat) (As : List Value) (V : pV) (r : Int32) (V2 : pV) : Prop := ∀ (b : Nat) (u : Nat → Nat) (q : kXS × kTS), pvis q.1 q.2 = V → kUi l y code nL rt F L mc ms D (kT cI cJ cO) z (.ref b :: As) (pW cI cO b u q) r (fun w : pSt V2 => pW cI cO b u w.1)
theorem dL_change_0 : decode cL_change 0 = .ok (.iload_n 2, 1) := by decide +kernel
theorem dL_change_1 : decode cL_change 1 = .ok (.bipush 13, 2) := by decide +kernel
theorem dL_change_3 : decode cL_change 3 = .ok (.invokestatic 91, 3) := by decide +kernel
theorem dL_change_6 : decode cL_change 6 = .ok (.istore_n 3, 1) := by decide +kernel
theorem dL_change_7 : decode cL_change 7 = .ok (.iload_n 2, 1) := by decide +kernel
theorem dL_change_8 : decode cL_change 8 = .ok (.bipush 13, 2) := by decide +kernel
theorem dL_change_10 : decode cL_change 10 = .ok (.idiv, 1) := by decide +kernel
theorem dL_change_11 : decode cL_change 11 = .ok (.bipush 60, 2) := by decide +kernel
theorem dL_change_13 : decode cL_change 13 = .ok (.invokestatic 91, 3) := by decide +kernel
theorem dL_change_16 : decode cL_change 16 = .ok (.istore 4, 2) := by decide +kernel
theorem dL_change_18 : decode cL_change 18 = .ok (.iload_n 1, 1) := by decide +kernel
theorem dL_change_19 : decode cL_change 19 = .ok (.bipush 22, 2) := by decide +kernel
theorem dL_change_21 : decode cL_change 21 = .ok (.invokestatic 91, 3) := by decide +kernel
theorem dL_change_24 : decode cL_change 24 = .ok (.tableswitch 310 0 16 #[84, 92, 105, 142, 142, 169, 187, 187, 228, 238, 249, 249, 249, 254, 259, 277, 282], 84) := by decide +kernel
theorem dL_change_108 : decode cL_change 108 = .ok (.aload_n 0, 1) := by decide +kernel
theorem dL_change_109 : decode cL_change 109 = .ok (.iload_n 3, 1) := by decide +kernel
theorem dL_change_110 : decode cL_change 110 = .ok (.iload 4, 2) := by decide +kernel
theorem dL_change_112 : decode cL_change 112 = .ok (.invokestatic 96, 3) := by decide +kernel
theorem dL_change_115 : decode cL_change 115 = .ok (.ireturn, 1) := by decide +kernel
theorem dL_change_116 : decode cL_change 116 = .ok (.aload_n 0, 1) := by decide +kernel
theorem dL_change_117 : decode cL_change 117 = .ok (.bipush 8, 2) := by decide +kernel
theorem dL_change_119 : decode cL_change 119 = .ok (.iload_n 2, 1) := by decide +kernel
theorem dL_change_120 : decode cL_change 120 = .ok (.bipush 32, 2) := by decide +kernel
theorem dL_change_122 : decode cL_change 122 = .ok (.invokestatic 91, 3) := by decide +kernel
theorem dL_change_125 : decode cL_change 125 = .ok (.invokestatic 96, 3) := by decide +kernel
theorem dL_change_128 : decode cL_change 128 = .ok (.ireturn, 1) := by decide +kernel
theorem dL_change_129 : decode cL_change 129 = .ok (.aload_n 0, 1) := by decide +kernel
theorem dL_change_130 : decode cL_change 130 = .ok (.iload_n 2, 1) := by decide +kernel
theorem dL_change_131 : decode cL_change 131 = .ok (.iconst 3, 1) := by decide +kernel
theorem dL_change_132 : decode cL_change 132 = .ok (.invokestatic 91, 3) := by decide +kernel
theorem dL_change_135 : decode cL_change 135 = .ok (.iload_n 2, 1) := by decide +kernel
theorem dL_change_136 : decode cL_change 136 = .ok (.iconst 3, 1) := by decide +kernel
theorem dL_change_137 : decode cL_change 137 = .ok (.idiv, 1) := by decide +kernel
theorem dL_change_138 : decode cL_change 138 = .ok (.iconst 4, 1) := by decide +kernel
theorem dL_change_139 : decode cL_change 139 = .ok (.invokestatic 91, 3) := by decide +kernel
theorem dL_change_142 : decode cL_change 142 = .ok (.iconst 1, 1) := by decide +kernel
theorem dL_change_143 : decode cL_change 143 = .ok (.iload_n 2, 1) := by decide +kernel
theorem dL_change_144 : decode cL_change 144 = .ok (.bipush 12, 2) := by decide +kernel
theorem dL_change_146 : decode cL_change 146 = .ok (.idiv, 1) := by decide +kernel
theorem dL_change_147 : decode cL_change 147 = .ok (.bipush 101, 2) := by decide +kernel
theorem dL_change_149 : decode cL_change 149 = .ok (.invokestatic 91, 3) := by decide +kernel
theorem dL_change_152 : decode cL_change 152 = .ok (.iadd, 1) := by decide +kernel
theorem dL_change_153 : decode cL_change 153 = .ok (.iload_n 2, 1) := by decide +kernel
theorem dL_change_154 : decode cL_change 154 = .ok (.bipush 99, 2) := by decide +kernel
theorem dL_change_156 : decode cL_change 156 = .ok (.idiv, 1) := by decide +kernel
theorem dL_change_157 : decode cL_change 157 = .ok (.bipush 30, 2) := by decide +kernel
theorem dL_change_159 : decode cL_change 159 = .ok (.invokestatic 91, 3) := by decide +kernel
theorem dL_change_162 : decode cL_change 162 = .ok (.invokestatic 99, 3) := by decide +kernel
theorem dL_change_165 : decode cL_change 165 = .ok (.ireturn, 1) := by decide +kernel
theorem dL_change_166 : decode cL_change 166 = .ok (.aload_n 0, 1) := by decide +kernel
theorem dL_change_167 : decode cL_change 167 = .ok (.iload_n 2, 1) := by decide +kernel
theorem dL_change_168 : decode cL_change 168 = .ok (.sipush 900, 3) := by decide +kernel
theorem dL_change_171 : decode cL_change 171 = .ok (.invokestatic 91, 3) := by decide +kernel
theorem dL_change_174 : decode cL_change 174 = .ok (.sipush 200, 3) := by decide +kernel
theorem dL_change_177 : decode cL_change 177 = .ok (.isub, 1) := by decide +kernel
theorem dL_change_178 : decode cL_change 178 = .ok (.iload_n 2, 1) := by decide +kernel
theorem dL_change_179 : decode cL_change 179 = .ok (.sipush 900, 3) := by decide +kernel
theorem dL_change_182 : decode cL_change 182 = .ok (.idiv, 1) := by decide +kernel
theorem dL_change_183 : decode cL_change 183 = .ok (.sipush 1002, 3) := by decide +kernel
theorem dL_change_186 : decode cL_change 186 = .ok (.invokestatic 91, 3) := by decide +kernel
theorem dL_change_189 : decode cL_change 189 = .ok (.invokestatic 102, 3) := by decide +kernel
theorem dL_change_192 : decode cL_change 192 = .ok (.ireturn, 1) := by decide +kernel
theorem dL_change_193 : decode cL_change 193 = .ok (.aload_n 0, 1) := by decide +kernel
theorem dL_change_194 : decode cL_change 194 = .ok (.iload_n 2, 1) := by decide +kernel
theorem dL_change_195 : decode cL_change 195 = .ok (.iconst 2, 1) := by decide +kernel
theorem dL_change_196 : decode cL_change 196 = .ok (.invokestatic 91, 3) := by decide +kernel
theorem dL_change_199 : decode cL_change 199 = .ok (.ifCond .ne 7, 3) := by decide +kernel
theorem dL_change_202 : decode cL_change 202 = .ok (.iconst 1, 1) := by decide +kernel
theorem dL_change_203 : decode cL_change 203 = .ok (.goto 4, 3) := by decide +kernel
theorem dL_change_206 : decode cL_change 206 = .ok (.iconst 0, 1) := by decide +kernel
theorem dL_change_207 : decode cL_change 207 = .ok (.invokestatic 104, 3) := by decide +kernel
theorem dL_change_210 : decode cL_change 210 = .ok (.ireturn, 1) := by decide +kernel
theorem dL_change_211 : decode cL_change 211 = .ok (.aload_n 0, 1) := by decide +kernel
theorem dL_change_212 : decode cL_change 212 = .ok (.iload_n 2, 1) := by decide +kernel
theorem dL_change_213 : decode cL_change 213 = .ok (.sipush 500, 3) := by decide +kernel
theorem dL_change_216 : decode cL_change 216 = .ok (.invokestatic 91, 3) := by decide +kernel
theorem dL_change_219 : decode cL_change 219 = .ok (.iload_n 2, 1) := by decide +kernel
theorem dL_change_220 : decode cL_change 220 = .ok (.sipush 500, 3) := by decide +kernel
theorem dL_change_223 : decode cL_change 223 = .ok (.idiv, 1) := by decide +kernel
theorem dL_change_224 : decode cL_change 224 = .ok (.sipush 700, 3) := by decide +kernel
theorem dL_change_227 : decode cL_change 227 = .ok (.invokestatic 91, 3) := by decide +kernel
theorem dL_change_230 : decode cL_change 230 = .ok (.iload_n 2, 1) := by decide +kernel
theorem dL_change_231 : decode cL_change 231 = .ok (.bipush 7, 2) := by decide +kernel
theorem dL_change_233 : decode cL_change 233 = .ok (.idiv, 1) := by decide +kernel
theorem dL_change_234 : decode cL_change 234 = .ok (.bipush 12, 2) := by decide +kernel
theorem dL_change_236 : decode cL_change 236 = .ok (.invokestatic 91, 3) := by decide +kernel
theorem dL_change_239 : decode cL_change 239 = .ok (.iload_n 2, 1) := by decide +kernel
theorem dL_change_240 : decode cL_change 240 = .ok (.bipush 84, 2) := by decide +kernel
theorem dL_change_242 : decode cL_change 242 = .ok (.idiv, 1) := by decide +kernel
theorem dL_change_243 : decode cL_change 243 = .ok (.bipush 9, 2) := by decide +kernel
theorem dL_change_245 : decode cL_change 245 = .ok (.invokestatic 91, 3) := by decide +kernel
theorem dL_change_248 : decode cL_change 248 = .ok (.invokestatic 107, 3) := by decide +kernel
theorem dL_change_251 : decode cL_change 251 = .ok (.ireturn, 1) := by decide +kernel
theorem dL_change_252 : decode cL_change 252 = .ok (.aload_n 0, 1) := by decide +kernel
theorem dL_change_253 : decode cL_change 253 = .ok (.iload_n 2, 1) := by decide +kernel
theorem dL_change_254 : decode cL_change 254 = .ok (.iconst 4, 1) := by decide +kernel
theorem dL_change_255 : decode cL_change 255 = .ok (.invokestatic 91, 3) := by decide +kernel
theorem dL_change_258 : decode cL_change 258 = .ok (.invokestatic 109, 3) := by decide +kernel
theorem dL_change_261 : decode cL_change 261 = .ok (.ireturn, 1) := by decide +kernel
theorem dL_change_262 : decode cL_change 262 = .ok (.aload_n 0, 1) := by decide +kernel
theorem dL_change_263 : decode cL_change 263 = .ok (.iload_n 2, 1) := by decide +kernel
theorem dL_change_264 : decode cL_change 264 = .ok (.bipush 22, 2) := by decide +kernel
theorem dL_change_266 : decode cL_change 266 = .ok (.invokestatic 91, 3) := by decide +kernel
theorem dL_change_269 : decode cL_change 269 = .ok (.invokestatic 112, 3) := by decide +kernel
theorem dL_change_272 : decode cL_change 272 = .ok (.ireturn, 1) := by decide +kernel
theorem dL_change_273 : decode cL_change 273 = .ok (.aload_n 0, 1) := by decide +kernel
theorem dL_change_274 : decode cL_change 274 = .ok (.invokestatic 114, 3) := by decide +kernel
theorem dL_change_277 : decode cL_change 277 = .ok (.ireturn, 1) := by decide +kernel
theorem dL_change_278 : decode cL_change 278 = .ok (.aload_n 0, 1) := by decide +kernel
theorem dL_change_279 : decode cL_change 279 = .ok (.invokestatic 117, 3) := by decide +kernel
theorem dL_change_282 : decode cL_change 282 = .ok (.ireturn, 1) := by decide +kernel
theorem dL_change_283 : decode cL_change 283 = .ok (.aload_n 0, 1) := by decide +kernel
theorem dL_change_284 : decode cL_change 284 = .ok (.iload_n 2, 1) := by decide +kernel
theorem dL_change_285 : decode cL_change 285 = .ok (.iconst 2, 1) := by decide +kernel
theorem dL_change_286 : decode cL_change 286 = .ok (.invokestatic 91, 3) := by decide +kernel
theorem dL_change_289 : decode cL_change 289 = .ok (.ifCond .ne 7, 3) := by decide +kernel
theorem dL_change_292 : decode cL_change 292 = .ok (.iconst 1, 1) := by decide +kernel
theorem dL_change_293 : decode cL_change 293 = .ok (.goto 4, 3) := by decide +kernel
theorem dL_change_296 : decode cL_change 296 = .ok (.iconst 0, 1) := by decide +kernel
theorem dL_change_297 : decode cL_change 297 = .ok (.invokestatic 119, 3) := by decide +kernel
theorem dL_change_300 : decode cL_change 300 = .ok (.ireturn, 1) := by decide +kernel
theorem dL_change_301 : decode cL_change 301 = .ok (.aload_n 0, 1) := by decide +kernel
theorem dL_change_302 : decode cL_change 302 = .ok (.invokestatic 121, 3) := by decide +kernel
theorem dL_change_305 : decode cL_change 305 = .ok (.ireturn, 1) := by decide +kernel
theorem dL_change_306 : decode cL_change 306 = .ok (.aload_n 0, 1) := by decide +kernel
theorem dL_change_307 : decode cL_change 307 = .ok (.iload_n 2, 1) := by decide +kernel
theorem dL_change_308 : decode cL_change 308 = .ok (.iconst 2, 1) := by decide +kernel
theorem dL_change_309 : decode cL_change 309 = .ok (.invokestatic 91, 3) := by decide +kernel
theorem dL_change_312 : decode cL_change 312 = .ok (.ifCond .ne 8, 3) := by decide +kernel
theorem dL_change_315 : decode cL_change 315 = .ok (.bipush 6, 2) := by decide +kernel
theorem dL_change_317 : decode cL_change 317 = .ok (.goto 5, 3) := by decide +kernel
theorem dL_change_320 : decode cL_change 320 = .ok (.bipush 7, 2) := by decide +kernel
theorem dL_change_322 : decode cL_change 322 = .ok (.iload_n 2, 1) := by decide +kernel
theorem dL_change_323 : decode cL_change 323 = .ok (.iconst 2, 1) := by decide +kernel
theorem dL_change_324 : decode cL_change 324 = .ok (.idiv, 1) := by decide +kernel
theorem dL_change_325 : decode cL_change 325 = .ok (.bipush 100, 2) := by decide +kernel
theorem dL_change_327 : decode cL_change 327 = .ok (.invokestatic 91, 3) := by decide +kernel
theorem dL_change_330 : decode cL_change 330 = .ok (.invokestatic 96, 3) := by decide +kernel
theorem dL_change_333 : decode cL_change 333 = .ok (.ireturn, 1) := by decide +kernel
theorem dL_change_334 : decode cL_change 334 = .ok (.aload_n 0, 1) := by decide +kernel
theorem dL_change_335 : decode cL_change 335 = .ok (.iconst 1, 1) := by decide +kernel
theorem dL_change_336 : decode cL_change 336 = .ok (.iload_n 2, 1) := by decide +kernel
theorem dL_change_337 : decode cL_change 337 = .ok (.bipush 9, 2) := by decide +kernel
theorem dL_change_339 : decode cL_change 339 = .ok (.invokestatic 91, 3) := by decide +kernel
theorem dL_change_342 : decode cL_change 342 = .ok (.iadd, 1) := by decide +kernel
theorem dL_change_343 : decode cL_change 343 = .ok (.invokestatic 123, 3) := by decide +kernel
theorem dL_change_346 : decode cL_change 346 = .ok (.ireturn, 1) := by decide +kernel
set_option maxRecDepth 100000 in
theorem cg_0 (l : Launch) (hl0 : l.stackTraces = false) (D : va_G) (cI cJ cO : ClassId) (z : zT) {T : Int} {V : pV} (hI : pInv T V) (hT : 0 ≤ T ∧ T < 19000) (p0 p1 : Int32) (hx : (pLow p0 22) = 0) : ∃ (r : Int32) (V2 : pV), pInv (T + 9) V2 ∧ pMeth l D cI cJ cO z yL_change cL_change 5 .int 9 200 26 331 [.int p0, .int p1] V r V2 := by
  obtain ⟨r, V2, hI2, hc⟩ := pw_set l hl0 D cI cJ cO z hI (pLow p1 13) (pLow (p1 / 13) 60)
  refine ⟨r, V2, hI2.up (by omega), fun b u q hq => ?_⟩
  refine kUi_of (own := RL) (lv := [(0, .ref b), (1, .int p0), (2, .int p1)]) rfl rfl (by decide) (Nat.le_of_ble_eq_true rfl) ?_
  intro p e s m args below meth c Q A C hZ hret
  refine k_iload_n (pc := 0) C rfl 2 rfl dL_change_0 ?_
  refine k_bipush (pc := 1) C bipush_13 dL_change_1 ?_
  refine k_callS0 (pc := 3) (As := [.int p1, .int 13]) (rest := []) C (c_L_low l D cI cJ cO p1 13 (by decide)) cws_L_low q_670 rfl (Nat.le_of_ble_eq_true rfl) ⟨Nat.le_of_ble_eq_true rfl, Nat.le_of_ble_eq_true rfl⟩ rfl ⟨Nat.le_of_ble_eq_true rfl, Nat.le_of_ble_eq_true rfl⟩ dL_change_3 ?_
  refine k_istore_n (pc := 6) (lv2 := [(3, .int (pLow p1 13)), (0, .ref b), (1, .int p0), (2, .int p1)]) C rfl (by decide) rfl dL_change_6 ?_
  refine k_iload_n (pc := 7) C rfl 3 rfl dL_change_7 ?_
  refine k_bipush (pc := 8) C bipush_13 dL_change_8 ?_
  refine k_idiv (pc := 10) C (by decide) dL_change_10 ?_
  refine k_bipush (pc := 11) C bipush_60 dL_change_11 ?_
  refine k_callS0 (pc := 13) (As := [.int (p1 / 13), .int 60]) (rest := []) C (c_L_low l D cI cJ cO (p1 / 13) 60 (by decide)) cws_L_low q_670 rfl (Nat.le_of_ble_eq_true rfl) ⟨Nat.le_of_ble_eq_true rfl, Nat.le_of_ble_eq_true rfl⟩ rfl ⟨Nat.le_of_ble_eq_true rfl, Nat.le_of_ble_eq_true rfl⟩ dL_change_13 ?_
  refine k_istore (pc := 16) (lv2 := [(4, .int (pLow (p1 / 13) 60)), (3, .int (pLow p1 13)), (0, .ref b), (1, .int p0), (2, .int p1)]) C (by decide) rfl dL_change_16 ?_
  refine k_iload_n (pc := 18) C rfl 3 rfl dL_change_18 ?_
  refine k_bipush (pc := 19) C bipush_22 dL_change_19 ?_
  refine k_callS0 (pc := 21) (As := [.int p0, .int 22]) (rest := []) C (c_L_low l D cI cJ cO p0 22 (by decide)) cws_L_low q_670 rfl (Nat.le_of_ble_eq_true rfl) ⟨Nat.le_of_ble_eq_true rfl, Nat.le_of_ble_eq_true rfl⟩ rfl ⟨Nat.le_of_ble_eq_true rfl, Nat.le_of_ble_eq_true rfl⟩ dL_change_21 ?_
  refine k_tsIn (pc := 24) (tgt := 108) C 0 hx (by decide) (by decide) rfl (by decide) dL_change_24 ?_
  refine k_aload_n (pc := 108) C rfl 2 rfl dL_change_108 ?_
  refine k_iload_n (pc := 109) C rfl 1 rfl dL_change_109 ?_
  refine k_iload (pc := 110) C 0 rfl dL_change_110 ?_
  refine k_pcall (pc := 112) (As := [.int (pLow p1 13), .int (pLow (p1 / 13) 60)]) (rest := []) C hZ (hc b u q hq) cw_set q_674 rfl (Nat.le_of_ble_eq_true rfl) ⟨Nat.le_of_ble_eq_true rfl, Nat.le_of_ble_eq_true rfl⟩ rfl ⟨Nat.le_of_ble_eq_true rfl, Nat.le_of_ble_eq_true rfl⟩ dL_change_112 (fun q1 hq1 => ?_)
  exact k_finUi (pc := 115) hret ⟨q1, hq1⟩ rfl rfl rfl (Nat.le_of_ble_eq_true rfl) (Nat.le_of_ble_eq_true rfl) dL_change_115
set_option maxRecDepth 100000 in
theorem cg_1 (l : Launch) (hl0 : l.stackTraces = false) (D : va_G) (cI cJ cO : ClassId) (z : zT) {T : Int} {V : pV} (hI : pInv T V) (hT : 0 ≤ T ∧ T < 19000) (p0 p1 : Int32) (hx : (pLow p0 22) = 1) : ∃ (r : Int32) (V2 : pV), pInv (T + 9) V2 ∧ pMeth l D cI cJ cO z yL_change cL_change 5 .int 9 200 26 331 [.int p0, .int p1] V r V2 := by
  obtain ⟨r, V2, hI2, hc⟩ := pw_set l hl0 D cI cJ cO z hI 8 (pLow p1 32)
  refine ⟨r, V2, hI2.up (by omega), fun b u q hq => ?_⟩
  refine kUi_of (own := RL) (lv := [(0, .ref b), (1, .int p0), (2, .int p1)]) rfl rfl (by decide) (Nat.le_of_ble_eq_true rfl) ?_
  intro p e s m args below meth c Q A C hZ hret
  refine k_iload_n (pc := 0) C rfl 2 rfl dL_change_0 ?_
  refine k_bipush (pc := 1) C bipush_13 dL_change_1 ?_
  refine k_callS0 (pc := 3) (As := [.int p1, .int 13]) (rest := []) C (c_L_low l D cI cJ cO p1 13 (by decide)) cws_L_low q_670 rfl (Nat.le_of_ble_eq_true rfl) ⟨Nat.le_of_ble_eq_true rfl, Nat.le_of_ble_eq_true rfl⟩ rfl ⟨Nat.le_of_ble_eq_true rfl, Nat.le_of_ble_eq_true rfl⟩ dL_change_3 ?_
  refine k_istore_n (pc := 6) (lv2 := [(3, .int (pLow p1 13)), (0, .ref b), (1, .int p0), (2, .int p1)]) C rfl (by decide) rfl dL_change_6 ?_
  refine k_iload_n (pc := 7) C rfl 3 rfl dL_change_7 ?_
  refine k_bipush (pc := 8) C bipush_13 dL_change_8 ?_
  refine k_idiv (pc := 10) C (by decide) dL_change_10 ?_
  refine k_bipush (pc := 11) C bipush_60 dL_change_11 ?_
  refine k_callS0 (pc := 13) (As := [.int (p1 / 13), .int 60]) (rest := []) C (c_L_low l D cI cJ cO (p1 / 13) 60 (by decide)) cws_L_low q_670 rfl (Nat.le_of_ble_eq_true rfl) ⟨Nat.le_of_ble_eq_true rfl, Nat.le_of_ble_eq_true rfl⟩ rfl ⟨Nat.le_of_ble_eq_true rfl, Nat.le_of_ble_eq_true rfl⟩ dL_change_13 ?_
  refine k_istore (pc := 16) (lv2 := [(4, .int (pLow (p1 / 13) 60)), (3, .int (pLow p1 13)), (0, .ref b), (1, .int p0), (2, .int p1)]) C (by decide) rfl dL_change_16 ?_
  refine k_iload_n (pc := 18) C rfl 3 rfl dL_change_18 ?_
  refine k_bipush (pc := 19) C bipush_22 dL_change_19 ?_
  refine k_callS0 (pc := 21) (As := [.int p0, .int 22]) (rest := []) C (c_L_low l D cI cJ cO p0 22 (by decide)) cws_L_low q_670 rfl (Nat.le_of_ble_eq_true rfl) ⟨Nat.le_of_ble_eq_true rfl, Nat.le_of_ble_eq_true rfl⟩ rfl ⟨Nat.le_of_ble_eq_true rfl, Nat.le_of_ble_eq_true rfl⟩ dL_change_21 ?_
  refine k_tsIn (pc := 24) (tgt := 116) C 1 hx (by decide) (by decide) rfl (by decide) dL_change_24 ?_
  refine k_aload_n (pc := 116) C rfl 2 rfl dL_change_116 ?_
  refine k_bipush (pc := 117) C bipush_8 dL_change_117 ?_
  refine k_iload_n (pc := 119) C rfl 4 rfl dL_change_119 ?_
  refine k_bipush (pc := 120) C bipush_32 dL_change_120 ?_
  refine k_callS0 (pc := 122) (As := [.int p1, .int 32]) (rest := [.int 8, .ref b]) C (c_L_low l D cI cJ cO p1 32 (by decide)) cws_L_low q_670 rfl (Nat.le_of_ble_eq_true rfl) ⟨Nat.le_of_ble_eq_true rfl, Nat.le_of_ble_eq_true rfl⟩ rfl ⟨Nat.le_of_ble_eq_true rfl, Nat.le_of_ble_eq_true rfl⟩ dL_change_122 ?_
  refine k_pcall (pc := 125) (As := [.int 8, .int (pLow p1 32)]) (rest := []) C hZ (hc b u q hq) cw_set q_674 rfl (Nat.le_of_ble_eq_true rfl) ⟨Nat.le_of_ble_eq_true rfl, Nat.le_of_ble_eq_true rfl⟩ rfl ⟨Nat.le_of_ble_eq_true rfl, Nat.le_of_ble_eq_true rfl⟩ dL_change_125 (fun q2 hq2 => ?_)
  exact k_finUi (pc := 128) hret ⟨q2, hq2⟩ rfl rfl rfl (Nat.le_of_ble_eq_true rfl) (Nat.le_of_ble_eq_true rfl) dL_change_128
set_option maxRecDepth 100000 in
theorem cg_2 (l : Launch) (hl0 : l.stackTraces = false) (D : va_G) (cI cJ cO : ClassId) (z : zT) {T : Int} {V : pV} (hI : pInv T V) (hT : 0 ≤ T ∧ T < 19000) (p0 p1 : Int32) (hx : (pLow p0 22) = 2) : ∃ (r : Int32) (V2 : pV), pInv (T + 9) V2 ∧ pMeth l D cI cJ cO z yL_change cL_change 5 .int 9 200 26 331 [.int p0, .int p1] V r V2 := by
  obtain ⟨r, V2, hI2, hc⟩ := pw_setMode l hl0 D cI cJ cO z hI (pLow p1 3) (pLow (p1 / 3) 4) (1 + (pLow (p1 / 12) 101)) (pLow (p1 / 99) 30)
  refine ⟨r, V2, hI2.up (by omega), fun b u q hq => ?_⟩
  refine kUi_of (own := RL) (lv := [(0, .ref b), (1, .int p0), (2, .int p1)]) rfl rfl (by decide) (Nat.le_of_ble_eq_true rfl) ?_
  intro p e s m args below meth c Q A C hZ hret
  refine k_iload_n (pc := 0) C rfl 2 rfl dL_change_0 ?_
  refine k_bipush (pc := 1) C bipush_13 dL_change_1 ?_
  refine k_callS0 (pc := 3) (As := [.int p1, .int 13]) (rest := []) C (c_L_low l D cI cJ cO p1 13 (by decide)) cws_L_low q_670 rfl (Nat.le_of_ble_eq_true rfl) ⟨Nat.le_of_ble_eq_true rfl, Nat.le_of_ble_eq_true rfl⟩ rfl ⟨Nat.le_of_ble_eq_true rfl, Nat.le_of_ble_eq_true rfl⟩ dL_change_3 ?_
  refine k_istore_n (pc := 6) (lv2 := [(3, .int (pLow p1 13)), (0, .ref b), (1, .int p0), (2, .int p1)]) C rfl (by decide) rfl dL_change_6 ?_
  refine k_iload_n (pc := 7) C rfl 3 rfl dL_change_7 ?_
  refine k_bipush (pc := 8) C bipush_13 dL_change_8 ?_
  refine k_idiv (pc := 10) C (by decide) dL_change_10 ?_
  refine k_bipush (pc := 11) C bipush_60 dL_change_11 ?_
  refine k_callS0 (pc := 13) (As := [.int (p1 / 13), .int 60]) (rest := []) C (c_L_low l D cI cJ cO (p1 / 13) 60 (by decide)) cws_L_low q_670 rfl (Nat.le_of_ble_eq_true rfl) ⟨Nat.le_of_ble_eq_true rfl, Nat.le_of_ble_eq_true rfl⟩ rfl ⟨Nat.le_of_ble_eq_true rfl, Nat.le_of_ble_eq_true rfl⟩ dL_change_13 ?_
  refine k_istore (pc := 16) (lv2 := [(4, .int (pLow (p1 / 13) 60)), (3, .int (pLow p1 13)), (0, .ref b), (1, .int p0), (2, .int p1)]) C (by decide) rfl dL_change_16 ?_
  refine k_iload_n (pc := 18) C rfl 3 rfl dL_change_18 ?_
  refine k_bipush (pc := 19) C bipush_22 dL_change_19 ?_
  refine k_callS0 (pc := 21) (As := [.int p0, .int 22]) (rest := []) C (c_L_low l D cI cJ cO p0 22 (by decide)) cws_L_low q_670 rfl (Nat.le_of_ble_eq_true rfl) ⟨Nat.le_of_ble_eq_true rfl, Nat.le_of_ble_eq_true rfl⟩ rfl ⟨Nat.le_of_ble_eq_true rfl, Nat.le_of_ble_eq_true rfl⟩ dL_change_21 ?_
  refine k_tsIn (pc := 24) (tgt := 129) C 2 hx (by decide) (by decide) rfl (by decide) dL_change_24 ?_
  refine k_aload_n (pc := 129) C rfl 2 rfl dL_change_129 ?_
  refine k_iload_n (pc := 130) C rfl 4 rfl dL_change_130 ?_
  refine k_iconst (pc := 131) C iconst_3 dL_change_131 ?_
  refine k_callS0 (pc := 132) (As := [.int p1, .int 3]) (rest := [.ref b]) C (c_L_low l D cI cJ cO p1 3 (by decide)) cws_L_low q_670 rfl (Nat.le_of_ble_eq_true rfl) ⟨Nat.le_of_ble_eq_true rfl, Nat.le_of_ble_eq_true rfl⟩ rfl ⟨Nat.le_of_ble_eq_true rfl, Nat.le_of_ble_eq_true rfl⟩ dL_change_132 ?_
  refine k_iload_n (pc := 135) C rfl 4 rfl dL_change_135 ?_
  refine k_iconst (pc := 136) C iconst_3 dL_change_136 ?_
  refine k_idiv (pc := 137) C (by decide) dL_change_137 ?_
  refine k_iconst (pc := 138) C iconst_4 dL_change_138 ?_
  refine k_callS0 (pc := 139) (As := [.int (p1 / 3), .int 4]) (rest := [.int (pLow p1 3), .ref b]) C (c_L_low l D cI cJ cO (p1 / 3) 4 (by decide)) cws_L_low q_670 rfl (Nat.le_of_ble_eq_true rfl) ⟨Nat.le_of_ble_eq_true rfl, Nat.le_of_ble_eq_true rfl⟩ rfl ⟨Nat.le_of_ble_eq_true rfl, Nat.le_of_ble_eq_true rfl⟩ dL_change_139 ?_
  refine k_iconst (pc := 142) C iconst_1 dL_change_142 ?_
  refine k_iload_n (pc := 143) C rfl 4 rfl dL_change_143 ?_
  refine k_bipush (pc := 144) C bipush_12 dL_change_144 ?_
  refine k_idiv (pc := 146) C (by decide) dL_change_146 ?_
  refine k_bipush (pc := 147) C bipush_101 dL_change_147 ?_
  refine k_callS0 (pc := 149) (As := [.int (p1 / 12), .int 101]) (rest := [.int 1, .int (pLow (p1 / 3) 4), .int (pLow p1 3), .ref b]) C (c_L_low l D cI cJ cO (p1 / 12) 101 (by decide)) cws_L_low q_670 rfl (Nat.le_of_ble_eq_true rfl) ⟨Nat.le_of_ble_eq_true rfl, Nat.le_of_ble_eq_true rfl⟩ rfl ⟨Nat.le_of_ble_eq_true rfl, Nat.le_of_ble_eq_true rfl⟩ dL_change_149 ?_
  refine k_iadd (pc := 152) C dL_change_152 ?_
  refine k_iload_n (pc := 153) C rfl 4 rfl dL_change_153 ?_
  refine k_bipush (pc := 154) C bipush_99 dL_change_154 ?_
  refine k_idiv (pc := 156) C (by decide) dL_change_156 ?_
  refine k_bipush (pc := 157) C bipush_30 dL_change_157 ?_
  refine k_callS0 (pc := 159) (As := [.int (p1 / 99), .int 30]) (rest := [.int (1 + (pLow (p1 / 12) 101)), .int (pLow (p1 / 3) 4), .int (pLow p1 3), .ref b]) C (c_L_low l D cI cJ cO (p1 / 99) 30 (by decide)) cws_L_low q_670 rfl (Nat.le_of_ble_eq_true rfl) ⟨Nat.le_of_ble_eq_true rfl, Nat.le_of_ble_eq_true rfl⟩ rfl ⟨Nat.le_of_ble_eq_true rfl, Nat.le_of_ble_eq_true rfl⟩ dL_change_159 ?_
  refine k_pcall (pc := 162) (As := [.int (pLow p1 3), .int (pLow (p1 / 3) 4), .int (1 + (pLow (p1 / 12) 101)), .int (pLow (p1 / 99) 30)]) (rest := []) C hZ (hc b u q hq) cw_setMode q_711 rfl (Nat.le_of_ble_eq_true rfl) ⟨Nat.le_of_ble_eq_true rfl, Nat.le_of_ble_eq_true rfl⟩ rfl ⟨Nat.le_of_ble_eq_true rfl, Nat.le_of_ble_eq_true rfl⟩ dL_change_162 (fun q3 hq3 => ?_)
  exact k_finUi (pc := 165) hret ⟨q3, hq3⟩ rfl rfl rfl (Nat.le_of_ble_eq_true rfl) (Nat.le_of_ble_eq_true rfl) dL_change_165
set_option maxRecDepth 100000 in
theorem cg_3 (l : Launch) (hl0 : l.stackTraces = false) (D : va_G) (cI cJ cO : ClassId) (z : zT) {T : Int} {V : pV} (hI : pInv T V) (hT : 0 ≤ T ∧ T < 19000) (p0 p1 : Int32) (hx : (pLow p0 22) = 3) : ∃ (r : Int32) (V2 : pV), pInv (T + 9) V2 ∧ pMeth l D cI cJ cO z yL_change cL_change 5 .int 9 200 26 331 [.int p0, .int p1] V r V2 := by
  obtain ⟨r, V2, hI2, hc⟩ := pw_setPoints l hl0 D cI cJ cO z hI ((pLow p1 900) - 200) (pLow (p1 / 900) 1002)
  refine ⟨r, V2, hI2.up (by omega), fun b u q hq => ?_⟩
  refine kUi_of (own := RL) (lv := [(0, .ref b), (1, .int p0), (2, .int p1)]) rfl rfl (by decide) (Nat.le_of_ble_eq_true rfl) ?_
  intro p e s m args below meth c Q A C hZ hret
  refine k_iload_n (pc := 0) C rfl 2 rfl dL_change_0 ?_
  refine k_bipush (pc := 1) C bipush_13 dL_change_1 ?_
  refine k_callS0 (pc := 3) (As := [.int p1, .int 13]) (rest := []) C (c_L_low l D cI cJ cO p1 13 (by decide)) cws_L_low q_670 rfl (Nat.le_of_ble_eq_true rfl) ⟨Nat.le_of_ble_eq_true rfl, Nat.le_of_ble_eq_true rfl⟩ rfl ⟨Nat.le_of_ble_eq_true rfl, Nat.le_of_ble_eq_true rfl⟩ dL_change_3 ?_
  refine k_istore_n (pc := 6) (lv2 := [(3, .int (pLow p1 13)), (0, .ref b), (1, .int p0), (2, .int p1)]) C rfl (by decide) rfl dL_change_6 ?_
  refine k_iload_n (pc := 7) C rfl 3 rfl dL_change_7 ?_
  refine k_bipush (pc := 8) C bipush_13 dL_change_8 ?_
  refine k_idiv (pc := 10) C (by decide) dL_change_10 ?_
  refine k_bipush (pc := 11) C bipush_60 dL_change_11 ?_
  refine k_callS0 (pc := 13) (As := [.int (p1 / 13), .int 60]) (rest := []) C (c_L_low l D cI cJ cO (p1 / 13) 60 (by decide)) cws_L_low q_670 rfl (Nat.le_of_ble_eq_true rfl) ⟨Nat.le_of_ble_eq_true rfl, Nat.le_of_ble_eq_true rfl⟩ rfl ⟨Nat.le_of_ble_eq_true rfl, Nat.le_of_ble_eq_true rfl⟩ dL_change_13 ?_
  refine k_istore (pc := 16) (lv2 := [(4, .int (pLow (p1 / 13) 60)), (3, .int (pLow p1 13)), (0, .ref b), (1, .int p0), (2, .int p1)]) C (by decide) rfl dL_change_16 ?_
  refine k_iload_n (pc := 18) C rfl 3 rfl dL_change_18 ?_
  refine k_bipush (pc := 19) C bipush_22 dL_change_19 ?_
  refine k_callS0 (pc := 21) (As := [.int p0, .int 22]) (rest := []) C (c_L_low l D cI cJ cO p0 22 (by decide)) cws_L_low q_670 rfl (Nat.le_of_ble_eq_true rfl) ⟨Nat.le_of_ble_eq_true rfl, Nat.le_of_ble_eq_true rfl⟩ rfl ⟨Nat.le_of_ble_eq_true rfl, Nat.le_of_ble_eq_true rfl⟩ dL_change_21 ?_
  refine k_tsIn (pc := 24) (tgt := 166) C 3 hx (by decide) (by decide) rfl (by decide) dL_change_24 ?_
  refine k_aload_n (pc := 166) C rfl 2 rfl dL_change_166 ?_
  refine k_iload_n (pc := 167) C rfl 4 rfl dL_change_167 ?_
  refine k_sipush (pc := 168) C sipush_900 dL_change_168 ?_
  refine k_callS0 (pc := 171) (As := [.int p1, .int 900]) (rest := [.ref b]) C (c_L_low l D cI cJ cO p1 900 (by decide)) cws_L_low q_670 rfl (Nat.le_of_ble_eq_true rfl) ⟨Nat.le_of_ble_eq_true rfl, Nat.le_of_ble_eq_true rfl⟩ rfl ⟨Nat.le_of_ble_eq_true rfl, Nat.le_of_ble_eq_true rfl⟩ dL_change_171 ?_
  refine k_sipush (pc := 174) C sipush_200 dL_change_174 ?_
  refine k_isub (pc := 177) C dL_change_177 ?_
  refine k_iload_n (pc := 178) C rfl 4 rfl dL_change_178 ?_
  refine k_sipush (pc := 179) C sipush_900 dL_change_179 ?_
  refine k_idiv (pc := 182) C (by decide) dL_change_182 ?_
  refine k_sipush (pc := 183) C sipush_1002 dL_change_183 ?_
  refine k_callS0 (pc := 186) (As := [.int (p1 / 900), .int 1002]) (rest := [.int ((pLow p1 900) - 200), .ref b]) C (c_L_low l D cI cJ cO (p1 / 900) 1002 (by decide)) cws_L_low q_670 rfl (Nat.le_of_ble_eq_true rfl) ⟨Nat.le_of_ble_eq_true rfl, Nat.le_of_ble_eq_true rfl⟩ rfl ⟨Nat.le_of_ble_eq_true rfl, Nat.le_of_ble_eq_true rfl⟩ dL_change_186 ?_
  refine k_pcall (pc := 189) (As := [.int ((pLow p1 900) - 200), .int (pLow (p1 / 900) 1002)]) (rest := []) C hZ (hc b u q hq) cw_setPoints q_718 rfl (Nat.le_of_ble_eq_true rfl) ⟨Nat.le_of_ble_eq_true rfl, Nat.le_of_ble_eq_true rfl⟩ rfl ⟨Nat.le_of_ble_eq_true rfl, Nat.le_of_ble_eq_true rfl⟩ dL_change_189 (fun q4 hq4 => ?_)
  exact k_finUi (pc := 192) hret ⟨q4, hq4⟩ rfl rfl rfl (Nat.le_of_ble_eq_true rfl) (Nat.le_of_ble_eq_true rfl) dL_change_192
set_option maxRecDepth 100000 in
theorem cg_4 (l : Launch) (hl0 : l.stackTraces = false) (D : va_G) (cI cJ cO : ClassId) (z : zT) {T : Int} {V : pV} (hI : pInv T V) (hT : 0 ≤ T ∧ T < 19000) (p0 p1 : Int32) (hx : (pLow p0 22) = 4) : ∃ (r : Int32) (V2 : pV), pInv (T + 9) V2 ∧ pMeth l D cI cJ cO z yL_change cL_change 5 .int 9 200 26 331 [.int p0, .int p1] V r V2 := by
  obtain ⟨r, V2, hI2, hc⟩ := pw_setPoints l hl0 D cI cJ cO z hI ((pLow p1 900) - 200) (pLow (p1 / 900) 1002)
  refine ⟨r, V2, hI2.up (by omega), fun b u q hq => ?_⟩
  refine kUi_of (own := RL) (lv := [(0, .ref b), (1, .int p0), (2, .int p1)]) rfl rfl (by decide) (Nat.le_of_ble_eq_true rfl) ?_
  intro p e s m args below meth c Q A C hZ hret
  refine k_iload_n (pc := 0) C rfl 2 rfl dL_change_0 ?_
  refine k_bipush (pc := 1) C bipush_13 dL_change_1 ?_
  refine k_callS0 (pc := 3) (As := [.int p1, .int 13]) (rest := []) C (c_L_low l D cI cJ cO p1 13 (by decide)) cws_L_low q_670 rfl (Nat.le_of_ble_eq_true rfl) ⟨Nat.le_of_ble_eq_true rfl, Nat.le_of_ble_eq_true rfl⟩ rfl ⟨Nat.le_of_ble_eq_true rfl, Nat.le_of_ble_eq_true rfl⟩ dL_change_3 ?_
  refine k_istore_n (pc := 6) (lv2 := [(3, .int (pLow p1 13)), (0, .ref b), (1, .int p0), (2, .int p1)]) C rfl (by decide) rfl dL_change_6 ?_
  refine k_iload_n (pc := 7) C rfl 3 rfl dL_change_7 ?_
  refine k_bipush (pc := 8) C bipush_13 dL_change_8 ?_
  refine k_idiv (pc := 10) C (by decide) dL_change_10 ?_
  refine k_bipush (pc := 11) C bipush_60 dL_change_11 ?_
  refine k_callS0 (pc := 13) (As := [.int (p1 / 13), .int 60]) (rest := []) C (c_L_low l D cI cJ cO (p1 / 13) 60 (by decide)) cws_L_low q_670 rfl (Nat.le_of_ble_eq_true rfl) ⟨Nat.le_of_ble_eq_true rfl, Nat.le_of_ble_eq_true rfl⟩ rfl ⟨Nat.le_of_ble_eq_true rfl, Nat.le_of_ble_eq_true rfl⟩ dL_change_13 ?_
  refine k_istore (pc := 16) (lv2 := [(4, .int (pLow (p1 / 13) 60)), (3, .int (pLow p1 13)), (0, .ref b), (1, .int p0), (2, .int p1)]) C (by decide) rfl dL_change_16 ?_
  refine k_iload_n (pc := 18) C rfl 3 rfl dL_change_18 ?_
  refine k_bipush (pc := 19) C bipush_22 dL_change_19 ?_
  refine k_callS0 (pc := 21) (As := [.int p0, .int 22]) (rest := []) C (c_L_low l D cI cJ cO p0 22 (by decide)) cws_L_low q_670 rfl (Nat.le_of_ble_eq_true rfl) ⟨Nat.le_of_ble_eq_true rfl, Nat.le_of_ble_eq_true rfl⟩ rfl ⟨Nat.le_of_ble_eq_true rfl, Nat.le_of_ble_eq_true rfl⟩ dL_change_21 ?_
  refine k_tsIn (pc := 24) (tgt := 166) C 4 hx (by decide) (by decide) rfl (by decide) dL_change_24 ?_
  refine k_aload_n (pc := 166) C rfl 2 rfl dL_change_166 ?_
  refine k_iload_n (pc := 167) C rfl 4 rfl dL_change_167 ?_
  refine k_sipush (pc := 168) C sipush_900 dL_change_168 ?_
  refine k_callS0 (pc := 171) (As := [.int p1, .int 900]) (rest := [.ref b]) C (c_L_low l D cI cJ cO p1 900 (by decide)) cws_L_low q_670 rfl (Nat.le_of_ble_eq_true rfl) ⟨Nat.le_of_ble_eq_true rfl, Nat.le_of_ble_eq_true rfl⟩ rfl ⟨Nat.le_of_ble_eq_true rfl, Nat.le_of_ble_eq_true rfl⟩ dL_change_171 ?_
  refine k_sipush (pc := 174) C sipush_200 dL_change_174 ?_
  refine k_isub (pc := 177) C dL_change_177 ?_
  refine k_iload_n (pc := 178) C rfl 4 rfl dL_change_178 ?_
  refine k_sipush (pc := 179) C sipush_900 dL_change_179 ?_
  refine k_idiv (pc := 182) C (by decide) dL_change_182 ?_
  refine k_sipush (pc := 183) C sipush_1002 dL_change_183 ?_
  refine k_callS0 (pc := 186) (As := [.int (p1 / 900), .int 1002]) (rest := [.int ((pLow p1 900) - 200), .ref b]) C (c_L_low l D cI cJ cO (p1 / 900) 1002 (by decide)) cws_L_low q_670 rfl (Nat.le_of_ble_eq_true rfl) ⟨Nat.le_of_ble_eq_true rfl, Nat.le_of_ble_eq_true rfl⟩ rfl ⟨Nat.le_of_ble_eq_true rfl, Nat.le_of_ble_eq_true rfl⟩ dL_change_186 ?_
  refine k_pcall (pc := 189) (As := [.int ((pLow p1 900) - 200), .int (pLow (p1 / 900) 1002)]) (rest := []) C hZ (hc b u q hq) cw_setPoints q_718 rfl (Nat.le_of_ble_eq_true rfl) ⟨Nat.le_of_ble_eq_true rfl, Nat.le_of_ble_eq_true rfl⟩ rfl ⟨Nat.le_of_ble_eq_true rfl, Nat.le_of_ble_eq_true rfl⟩ dL_change_189 (fun q5 hq5 => ?_)
  exact k_finUi (pc := 192) hret ⟨q5, hq5⟩ rfl rfl rfl (Nat.le_of_ble_eq_true rfl) (Nat.le_of_ble_eq_true rfl) dL_change_192
set_option maxRecDepth 100000 in
theorem cg_5a (l : Launch) (hl0 : l.stackTraces = false) (D : va_G) (cI cJ cO : ClassId) (z : zT) {T : Int} {V : pV} (hI : pInv T V) (hT : 0 ≤ T ∧ T < 19000) (p0 p1 : Int32) (hx : (pLow p0 22) = 5) (h2 : pLow p1 2 = 0) : ∃ (r : Int32) (V2 : pV), pInv (T + 9) V2 ∧ pMeth l D cI cJ cO z yL_change cL_change 5 .int 9 200 26 331 [.int p0, .int p1] V r V2 := by
  obtain ⟨r, V2, hI2, hc⟩ := pw_door l hl0 D cI cJ cO z hI 1 kb1
  refine ⟨r, V2, hI2.up (by omega), fun b u q hq => ?_⟩
  refine kUi_of (own := RL) (lv := [(0, .ref b), (1, .int p0), (2, .int p1)]) rfl rfl (by decide) (Nat.le_of_ble_eq_true rfl) ?_
  intro p e s m args below meth c Q A C hZ hret
  refine k_iload_n (pc := 0) C rfl 2 rfl dL_change_0 ?_
  refine k_bipush (pc := 1) C bipush_13 dL_change_1 ?_
  refine k_callS0 (pc := 3) (As := [.int p1, .int 13]) (rest := []) C (c_L_low l D cI cJ cO p1 13 (by decide)) cws_L_low q_670 rfl (Nat.le_of_ble_eq_true rfl) ⟨Nat.le_of_ble_eq_true rfl, Nat.le_of_ble_eq_true rfl⟩ rfl ⟨Nat.le_of_ble_eq_true rfl, Nat.le_of_ble_eq_true rfl⟩ dL_change_3 ?_
  refine k_istore_n (pc := 6) (lv2 := [(3, .int (pLow p1 13)), (0, .ref b), (1, .int p0), (2, .int p1)]) C rfl (by decide) rfl dL_change_6 ?_
  refine k_iload_n (pc := 7) C rfl 3 rfl dL_change_7 ?_
  refine k_bipush (pc := 8) C bipush_13 dL_change_8 ?_
  refine k_idiv (pc := 10) C (by decide) dL_change_10 ?_
  refine k_bipush (pc := 11) C bipush_60 dL_change_11 ?_
  refine k_callS0 (pc := 13) (As := [.int (p1 / 13), .int 60]) (rest := []) C (c_L_low l D cI cJ cO (p1 / 13) 60 (by decide)) cws_L_low q_670 rfl (Nat.le_of_ble_eq_true rfl) ⟨Nat.le_of_ble_eq_true rfl, Nat.le_of_ble_eq_true rfl⟩ rfl ⟨Nat.le_of_ble_eq_true rfl, Nat.le_of_ble_eq_true rfl⟩ dL_change_13 ?_
  refine k_istore (pc := 16) (lv2 := [(4, .int (pLow (p1 / 13) 60)), (3, .int (pLow p1 13)), (0, .ref b), (1, .int p0), (2, .int p1)]) C (by decide) rfl dL_change_16 ?_
  refine k_iload_n (pc := 18) C rfl 3 rfl dL_change_18 ?_
  refine k_bipush (pc := 19) C bipush_22 dL_change_19 ?_
  refine k_callS0 (pc := 21) (As := [.int p0, .int 22]) (rest := []) C (c_L_low l D cI cJ cO p0 22 (by decide)) cws_L_low q_670 rfl (Nat.le_of_ble_eq_true rfl) ⟨Nat.le_of_ble_eq_true rfl, Nat.le_of_ble_eq_true rfl⟩ rfl ⟨Nat.le_of_ble_eq_true rfl, Nat.le_of_ble_eq_true rfl⟩ dL_change_21 ?_
  refine k_tsIn (pc := 24) (tgt := 193) C 5 hx (by decide) (by decide) rfl (by decide) dL_change_24 ?_
  refine k_aload_n (pc := 193) C rfl 2 rfl dL_change_193 ?_
  refine k_iload_n (pc := 194) C rfl 4 rfl dL_change_194 ?_
  refine k_iconst (pc := 195) C iconst_2 dL_change_195 ?_
  refine k_callS0 (pc := 196) (As := [.int p1, .int 2]) (rest := [.ref b]) C (c_L_low l D cI cJ cO p1 2 (by decide)) cws_L_low q_670 rfl (Nat.le_of_ble_eq_true rfl) ⟨Nat.le_of_ble_eq_true rfl, Nat.le_of_ble_eq_true rfl⟩ rfl ⟨Nat.le_of_ble_eq_true rfl, Nat.le_of_ble_eq_true rfl⟩ dL_change_196 ?_
  refine k_if_ne (pc := 199) (tgt := 206) C dL_change_199 (by decide) (fun z9 => absurd (h2) z9) (fun _ => ?_)
  refine k_iconst (pc := 202) C iconst_1 dL_change_202 ?_
  refine k_goto (pc := 203) (tgt := 207) C (by decide) dL_change_203 ?_
  refine k_pcall (pc := 207) (As := [.int 1]) (rest := []) C hZ (hc b u q hq) cw_door q_732 rfl (Nat.le_of_ble_eq_true rfl) ⟨Nat.le_of_ble_eq_true rfl, Nat.le_of_ble_eq_true rfl⟩ rfl ⟨Nat.le_of_ble_eq_true rfl, Nat.le_of_ble_eq_true rfl⟩ dL_change_207 (fun q6 hq6 => ?_)
  exact k_finUi (pc := 210) hret ⟨q6, hq6⟩ rfl rfl rfl (Nat.le_of_ble_eq_true rfl) (Nat.le_of_ble_eq_true rfl) dL_change_210
set_option maxRecDepth 100000 in
theorem cg_5b (l : Launch) (hl0 : l.stackTraces = false) (D : va_G) (cI cJ cO : ClassId) (z : zT) {T : Int} {V : pV} (hI : pInv T V) (hT : 0 ≤ T ∧ T < 19000) (p0 p1 : Int32) (hx : (pLow p0 22) = 5) (h2 : ¬ pLow p1 2 = 0) : ∃ (r : Int32) (V2 : pV), pInv (T + 9) V2 ∧ pMeth l D cI cJ cO z yL_change cL_change 5 .int 9 200 26 331 [.int p0, .int p1] V r V2 := by
  obtain ⟨r, V2, hI2, hc⟩ := pw_door l hl0 D cI cJ cO z hI 0 kb0
  refine ⟨r, V2, hI2.up (by omega), fun b u q hq => ?_⟩
  refine kUi_of (own := RL) (lv := [(0, .ref b), (1, .int p0), (2, .int p1)]) rfl rfl (by decide) (Nat.le_of_ble_eq_true rfl) ?_
  intro p e s m args below meth c Q A C hZ hret
  refine k_iload_n (pc := 0) C rfl 2 rfl dL_change_0 ?_
  refine k_bipush (pc := 1) C bipush_13 dL_change_1 ?_
  refine k_callS0 (pc := 3) (As := [.int p1, .int 13]) (rest := []) C (c_L_low l D cI cJ cO p1 13 (by decide)) cws_L_low q_670 rfl (Nat.le_of_ble_eq_true rfl) ⟨Nat.le_of_ble_eq_true rfl, Nat.le_of_ble_eq_true rfl⟩ rfl ⟨Nat.le_of_ble_eq_true rfl, Nat.le_of_ble_eq_true rfl⟩ dL_change_3 ?_
  refine k_istore_n (pc := 6) (lv2 := [(3, .int (pLow p1 13)), (0, .ref b), (1, .int p0), (2, .int p1)]) C rfl (by decide) rfl dL_change_6 ?_
  refine k_iload_n (pc := 7) C rfl 3 rfl dL_change_7 ?_
  refine k_bipush (pc := 8) C bipush_13 dL_change_8 ?_
  refine k_idiv (pc := 10) C (by decide) dL_change_10 ?_
  refine k_bipush (pc := 11) C bipush_60 dL_change_11 ?_
  refine k_callS0 (pc := 13) (As := [.int (p1 / 13), .int 60]) (rest := []) C (c_L_low l D cI cJ cO (p1 / 13) 60 (by decide)) cws_L_low q_670 rfl (Nat.le_of_ble_eq_true rfl) ⟨Nat.le_of_ble_eq_true rfl, Nat.le_of_ble_eq_true rfl⟩ rfl ⟨Nat.le_of_ble_eq_true rfl, Nat.le_of_ble_eq_true rfl⟩ dL_change_13 ?_
  refine k_istore (pc := 16) (lv2 := [(4, .int (pLow (p1 / 13) 60)), (3, .int (pLow p1 13)), (0, .ref b), (1, .int p0), (2, .int p1)]) C (by decide) rfl dL_change_16 ?_
  refine k_iload_n (pc := 18) C rfl 3 rfl dL_change_18 ?_
  refine k_bipush (pc := 19) C bipush_22 dL_change_19 ?_
  refine k_callS0 (pc := 21) (As := [.int p0, .int 22]) (rest := []) C (c_L_low l D cI cJ cO p0 22 (by decide)) cws_L_low q_670 rfl (Nat.le_of_ble_eq_true rfl) ⟨Nat.le_of_ble_eq_true rfl, Nat.le_of_ble_eq_true rfl⟩ rfl ⟨Nat.le_of_ble_eq_true rfl, Nat.le_of_ble_eq_true rfl⟩ dL_change_21 ?_
  refine k_tsIn (pc := 24) (tgt := 193) C 5 hx (by decide) (by decide) rfl (by decide) dL_change_24 ?_
  refine k_aload_n (pc := 193) C rfl 2 rfl dL_change_193 ?_
  refine k_iload_n (pc := 194) C rfl 4 rfl dL_change_194 ?_
  refine k_iconst (pc := 195) C iconst_2 dL_change_195 ?_
  refine k_callS0 (pc := 196) (As := [.int p1, .int 2]) (rest := [.ref b]) C (c_L_low l D cI cJ cO p1 2 (by decide)) cws_L_low q_670 rfl (Nat.le_of_ble_eq_true rfl) ⟨Nat.le_of_ble_eq_true rfl, Nat.le_of_ble_eq_true rfl⟩ rfl ⟨Nat.le_of_ble_eq_true rfl, Nat.le_of_ble_eq_true rfl⟩ dL_change_196 ?_
  refine k_if_ne (pc := 199) (tgt := 206) C dL_change_199 (by decide) (fun _ => ?_) (fun z9 => absurd z9 (h2))
  refine k_iconst (pc := 206) C iconst_0 dL_change_206 ?_
  refine k_pcall (pc := 207) (As := [.int 0]) (rest := []) C hZ (hc b u q hq) cw_door q_732 rfl (Nat.le_of_ble_eq_true rfl) ⟨Nat.le_of_ble_eq_true rfl, Nat.le_of_ble_eq_true rfl⟩ rfl ⟨Nat.le_of_ble_eq_true rfl, Nat.le_of_ble_eq_true rfl⟩ dL_change_207 (fun q7 hq7 => ?_)
  exact k_finUi (pc := 210) hret ⟨q7, hq7⟩ rfl rfl rfl (Nat.le_of_ble_eq_true rfl) (Nat.le_of_ble_eq_true rfl) dL_change_210
set_option maxRecDepth 100000 in
theorem cg_6 (l : Launch) (hl0 : l.stackTraces = false) (D : va_G) (cI cJ cO : ClassId) (z : zT) {T : Int} {V : pV} (hI : pInv T V) (hT : 0 ≤ T ∧ T < 19000) (p0 p1 : Int32) (hx : (pLow p0 22) = 6) : ∃ (r : Int32) (V2 : pV), pInv (T + 9) V2 ∧ pMeth l D cI cJ cO z yL_change cL_change 5 .int 9 200 26 331 [.int p0, .int p1] V r V2 := by
  obtain ⟨r, V2, hI2, hc⟩ := pw_addSegment l hl0 D cI cJ cO z hI (pLow p1 500) (pLow (p1 / 500) 700) (pLow (p1 / 7) 12) (pLow (p1 / 84) 9)
  refine ⟨r, V2, hI2.up (by omega), fun b u q hq => ?_⟩
  refine kUi_of (own := RL) (lv := [(0, .ref b), (1, .int p0), (2, .int p1)]) rfl rfl (by decide) (Nat.le_of_ble_eq_true rfl) ?_
  intro p e s m args below meth c Q A C hZ hret
  refine k_iload_n (pc := 0) C rfl 2 rfl dL_change_0 ?_
  refine k_bipush (pc := 1) C bipush_13 dL_change_1 ?_
  refine k_callS0 (pc := 3) (As := [.int p1, .int 13]) (rest := []) C (c_L_low l D cI cJ cO p1 13 (by decide)) cws_L_low q_670 rfl (Nat.le_of_ble_eq_true rfl) ⟨Nat.le_of_ble_eq_true rfl, Nat.le_of_ble_eq_true rfl⟩ rfl ⟨Nat.le_of_ble_eq_true rfl, Nat.le_of_ble_eq_true rfl⟩ dL_change_3 ?_
  refine k_istore_n (pc := 6) (lv2 := [(3, .int (pLow p1 13)), (0, .ref b), (1, .int p0), (2, .int p1)]) C rfl (by decide) rfl dL_change_6 ?_
  refine k_iload_n (pc := 7) C rfl 3 rfl dL_change_7 ?_
  refine k_bipush (pc := 8) C bipush_13 dL_change_8 ?_
  refine k_idiv (pc := 10) C (by decide) dL_change_10 ?_
  refine k_bipush (pc := 11) C bipush_60 dL_change_11 ?_
  refine k_callS0 (pc := 13) (As := [.int (p1 / 13), .int 60]) (rest := []) C (c_L_low l D cI cJ cO (p1 / 13) 60 (by decide)) cws_L_low q_670 rfl (Nat.le_of_ble_eq_true rfl) ⟨Nat.le_of_ble_eq_true rfl, Nat.le_of_ble_eq_true rfl⟩ rfl ⟨Nat.le_of_ble_eq_true rfl, Nat.le_of_ble_eq_true rfl⟩ dL_change_13 ?_
  refine k_istore (pc := 16) (lv2 := [(4, .int (pLow (p1 / 13) 60)), (3, .int (pLow p1 13)), (0, .ref b), (1, .int p0), (2, .int p1)]) C (by decide) rfl dL_change_16 ?_
  refine k_iload_n (pc := 18) C rfl 3 rfl dL_change_18 ?_
  refine k_bipush (pc := 19) C bipush_22 dL_change_19 ?_
  refine k_callS0 (pc := 21) (As := [.int p0, .int 22]) (rest := []) C (c_L_low l D cI cJ cO p0 22 (by decide)) cws_L_low q_670 rfl (Nat.le_of_ble_eq_true rfl) ⟨Nat.le_of_ble_eq_true rfl, Nat.le_of_ble_eq_true rfl⟩ rfl ⟨Nat.le_of_ble_eq_true rfl, Nat.le_of_ble_eq_true rfl⟩ dL_change_21 ?_
  refine k_tsIn (pc := 24) (tgt := 211) C 6 hx (by decide) (by decide) rfl (by decide) dL_change_24 ?_
  refine k_aload_n (pc := 211) C rfl 2 rfl dL_change_211 ?_
  refine k_iload_n (pc := 212) C rfl 4 rfl dL_change_212 ?_
  refine k_sipush (pc := 213) C sipush_500 dL_change_213 ?_
  refine k_callS0 (pc := 216) (As := [.int p1, .int 500]) (rest := [.ref b]) C (c_L_low l D cI cJ cO p1 500 (by decide)) cws_L_low q_670 rfl (Nat.le_of_ble_eq_true rfl) ⟨Nat.le_of_ble_eq_true rfl, Nat.le_of_ble_eq_true rfl⟩ rfl ⟨Nat.le_of_ble_eq_true rfl, Nat.le_of_ble_eq_true rfl⟩ dL_change_216 ?_
  refine k_iload_n (pc := 219) C rfl 4 rfl dL_change_219 ?_
  refine k_sipush (pc := 220) C sipush_500 dL_change_220 ?_
  refine k_idiv (pc := 223) C (by decide) dL_change_223 ?_
  refine k_sipush (pc := 224) C sipush_700 dL_change_224 ?_
  refine k_callS0 (pc := 227) (As := [.int (p1 / 500), .int 700]) (rest := [.int (pLow p1 500), .ref b]) C (c_L_low l D cI cJ cO (p1 / 500) 700 (by decide)) cws_L_low q_670 rfl (Nat.le_of_ble_eq_true rfl) ⟨Nat.le_of_ble_eq_true rfl, Nat.le_of_ble_eq_true rfl⟩ rfl ⟨Nat.le_of_ble_eq_true rfl, Nat.le_of_ble_eq_true rfl⟩ dL_change_227 ?_
  refine k_iload_n (pc := 230) C rfl 4 rfl dL_change_230 ?_
  refine k_bipush (pc := 231) C bipush_7 dL_change_231 ?_
  refine k_idiv (pc := 233) C (by decide) dL_change_233 ?_
  refine k_bipush (pc := 234) C bipush_12 dL_change_234 ?_
  refine k_callS0 (pc := 236) (As := [.int (p1 / 7), .int 12]) (rest := [.int (pLow (p1 / 500) 700), .int (pLow p1 500), .ref b]) C (c_L_low l D cI cJ cO (p1 / 7) 12 (by decide)) cws_L_low q_670 rfl (Nat.le_of_ble_eq_true rfl) ⟨Nat.le_of_ble_eq_true rfl, Nat.le_of_ble_eq_true rfl⟩ rfl ⟨Nat.le_of_ble_eq_true rfl, Nat.le_of_ble_eq_true rfl⟩ dL_change_236 ?_
  refine k_iload_n (pc := 239) C rfl 4 rfl dL_change_239 ?_
  refine k_bipush (pc := 240) C bipush_84 dL_change_240 ?_
  refine k_idiv (pc := 242) C (by decide) dL_change_242 ?_
  refine k_bipush (pc := 243) C bipush_9 dL_change_243 ?_
  refine k_callS0 (pc := 245) (As := [.int (p1 / 84), .int 9]) (rest := [.int (pLow (p1 / 7) 12), .int (pLow (p1 / 500) 700), .int (pLow p1 500), .ref b]) C (c_L_low l D cI cJ cO (p1 / 84) 9 (by decide)) cws_L_low q_670 rfl (Nat.le_of_ble_eq_true rfl) ⟨Nat.le_of_ble_eq_true rfl, Nat.le_of_ble_eq_true rfl⟩ rfl ⟨Nat.le_of_ble_eq_true rfl, Nat.le_of_ble_eq_true rfl⟩ dL_change_245 ?_
  refine k_pcall (pc := 248) (As := [.int (pLow p1 500), .int (pLow (p1 / 500) 700), .int (pLow (p1 / 7) 12), .int (pLow (p1 / 84) 9)]) (rest := []) C hZ (hc b u q hq) cw_addSegment q_740 rfl (Nat.le_of_ble_eq_true rfl) ⟨Nat.le_of_ble_eq_true rfl, Nat.le_of_ble_eq_true rfl⟩ rfl ⟨Nat.le_of_ble_eq_true rfl, Nat.le_of_ble_eq_true rfl⟩ dL_change_248 (fun q8 hq8 => ?_)
  exact k_finUi (pc := 251) hret ⟨q8, hq8⟩ rfl rfl rfl (Nat.le_of_ble_eq_true rfl) (Nat.le_of_ble_eq_true rfl) dL_change_251
set_option maxRecDepth 100000 in
theorem cg_7 (l : Launch) (hl0 : l.stackTraces = false) (D : va_G) (cI cJ cO : ClassId) (z : zT) {T : Int} {V : pV} (hI : pInv T V) (hT : 0 ≤ T ∧ T < 19000) (p0 p1 : Int32) (hx : (pLow p0 22) = 7) : ∃ (r : Int32) (V2 : pV), pInv (T + 9) V2 ∧ pMeth l D cI cJ cO z yL_change cL_change 5 .int 9 200 26 331 [.int p0, .int p1] V r V2 := by
  obtain ⟨r, V2, hI2, hc⟩ := pw_addSegment l hl0 D cI cJ cO z hI (pLow p1 500) (pLow (p1 / 500) 700) (pLow (p1 / 7) 12) (pLow (p1 / 84) 9)
  refine ⟨r, V2, hI2.up (by omega), fun b u q hq => ?_⟩
  refine kUi_of (own := RL) (lv := [(0, .ref b), (1, .int p0), (2, .int p1)]) rfl rfl (by decide) (Nat.le_of_ble_eq_true rfl) ?_
  intro p e s m args below meth c Q A C hZ hret
  refine k_iload_n (pc := 0) C rfl 2 rfl dL_change_0 ?_
  refine k_bipush (pc := 1) C bipush_13 dL_change_1 ?_
  refine k_callS0 (pc := 3) (As := [.int p1, .int 13]) (rest := []) C (c_L_low l D cI cJ cO p1 13 (by decide)) cws_L_low q_670 rfl (Nat.le_of_ble_eq_true rfl) ⟨Nat.le_of_ble_eq_true rfl, Nat.le_of_ble_eq_true rfl⟩ rfl ⟨Nat.le_of_ble_eq_true rfl, Nat.le_of_ble_eq_true rfl⟩ dL_change_3 ?_
  refine k_istore_n (pc := 6) (lv2 := [(3, .int (pLow p1 13)), (0, .ref b), (1, .int p0), (2, .int p1)]) C rfl (by decide) rfl dL_change_6 ?_
  refine k_iload_n (pc := 7) C rfl 3 rfl dL_change_7 ?_
  refine k_bipush (pc := 8) C bipush_13 dL_change_8 ?_
  refine k_idiv (pc := 10) C (by decide) dL_change_10 ?_
  refine k_bipush (pc := 11) C bipush_60 dL_change_11 ?_
  refine k_callS0 (pc := 13) (As := [.int (p1 / 13), .int 60]) (rest := []) C (c_L_low l D cI cJ cO (p1 / 13) 60 (by decide)) cws_L_low q_670 rfl (Nat.le_of_ble_eq_true rfl) ⟨Nat.le_of_ble_eq_true rfl, Nat.le_of_ble_eq_true rfl⟩ rfl ⟨Nat.le_of_ble_eq_true rfl, Nat.le_of_ble_eq_true rfl⟩ dL_change_13 ?_
  refine k_istore (pc := 16) (lv2 := [(4, .int (pLow (p1 / 13) 60)), (3, .int (pLow p1 13)), (0, .ref b), (1, .int p0), (2, .int p1)]) C (by decide) rfl dL_change_16 ?_
  refine k_iload_n (pc := 18) C rfl 3 rfl dL_change_18 ?_
  refine k_bipush (pc := 19) C bipush_22 dL_change_19 ?_
  refine k_callS0 (pc := 21) (As := [.int p0, .int 22]) (rest := []) C (c_L_low l D cI cJ cO p0 22 (by decide)) cws_L_low q_670 rfl (Nat.le_of_ble_eq_true rfl) ⟨Nat.le_of_ble_eq_true rfl, Nat.le_of_ble_eq_true rfl⟩ rfl ⟨Nat.le_of_ble_eq_true rfl, Nat.le_of_ble_eq_true rfl⟩ dL_change_21 ?_
  refine k_tsIn (pc := 24) (tgt := 211) C 7 hx (by decide) (by decide) rfl (by decide) dL_change_24 ?_
  refine k_aload_n (pc := 211) C rfl 2 rfl dL_change_211 ?_
  refine k_iload_n (pc := 212) C rfl 4 rfl dL_change_212 ?_
  refine k_sipush (pc := 213) C sipush_500 dL_change_213 ?_
  refine k_callS0 (pc := 216) (As := [.int p1, .int 500]) (rest := [.ref b]) C (c_L_low l D cI cJ cO p1 500 (by decide)) cws_L_low q_670 rfl (Nat.le_of_ble_eq_true rfl) ⟨Nat.le_of_ble_eq_true rfl, Nat.le_of_ble_eq_true rfl⟩ rfl ⟨Nat.le_of_ble_eq_true rfl, Nat.le_of_ble_eq_true rfl⟩ dL_change_216 ?_
  refine k_iload_n (pc := 219) C rfl 4 rfl dL_change_219 ?_
  refine k_sipush (pc := 220) C sipush_500 dL_change_220 ?_
  refine k_idiv (pc := 223) C (by decide) dL_change_223 ?_
  refine k_sipush (pc := 224) C sipush_700 dL_change_224 ?_
  refine k_callS0 (pc := 227) (As := [.int (p1 / 500), .int 700]) (rest := [.int (pLow p1 500), .ref b]) C (c_L_low l D cI cJ cO (p1 / 500) 700 (by decide)) cws_L_low q_670 rfl (Nat.le_of_ble_eq_true rfl) ⟨Nat.le_of_ble_eq_true rfl, Nat.le_of_ble_eq_true rfl⟩ rfl ⟨Nat.le_of_ble_eq_true rfl, Nat.le_of_ble_eq_true rfl⟩ dL_change_227 ?_
  refine k_iload_n (pc := 230) C rfl 4 rfl dL_change_230 ?_
  refine k_bipush (pc := 231) C bipush_7 dL_change_231 ?_
  refine k_idiv (pc := 233) C (by decide) dL_change_233 ?_
  refine k_bipush (pc := 234) C bipush_12 dL_change_234 ?_
  refine k_callS0 (pc := 236) (As := [.int (p1 / 7), .int 12]) (rest := [.int (pLow (p1 / 500) 700), .int (pLow p1 500), .ref b]) C (c_L_low l D cI cJ cO (p1 / 7) 12 (by decide)) cws_L_low q_670 rfl (Nat.le_of_ble_eq_true rfl) ⟨Nat.le_of_ble_eq_true rfl, Nat.le_of_ble_eq_true rfl⟩ rfl ⟨Nat.le_of_ble_eq_true rfl, Nat.le_of_ble_eq_true rfl⟩ dL_change_236 ?_
  refine k_iload_n (pc := 239) C rfl 4 rfl dL_change_239 ?_
  refine k_bipush (pc := 240) C bipush_84 dL_change_240 ?_
  refine k_idiv (pc := 242) C (by decide) dL_change_242 ?_
  refine k_bipush (pc := 243) C bipush_9 dL_change_243 ?_
  refine k_callS0 (pc := 245) (As := [.int (p1 / 84), .int 9]) (rest := [.int (pLow (p1 / 7) 12), .int (pLow (p1 / 500) 700), .int (pLow p1 500), .ref b]) C (c_L_low l D cI cJ cO (p1 / 84) 9 (by decide)) cws_L_low q_670 rfl (Nat.le_of_ble_eq_true rfl) ⟨Nat.le_of_ble_eq_true rfl, Nat.le_of_ble_eq_true rfl⟩ rfl ⟨Nat.le_of_ble_eq_true rfl, Nat.le_of_ble_eq_true rfl⟩ dL_change_245 ?_
  refine k_pcall (pc := 248) (As := [.int (pLow p1 500), .int (pLow (p1 / 500) 700), .int (pLow (p1 / 7) 12), .int (pLow (p1 / 84) 9)]) (rest := []) C hZ (hc b u q hq) cw_addSegment q_740 rfl (Nat.le_of_ble_eq_true rfl) ⟨Nat.le_of_ble_eq_true rfl, Nat.le_of_ble_eq_true rfl⟩ rfl ⟨Nat.le_of_ble_eq_true rfl, Nat.le_of_ble_eq_true rfl⟩ dL_change_248 (fun q9 hq9 => ?_)
  exact k_finUi (pc := 251) hret ⟨q9, hq9⟩ rfl rfl rfl (Nat.le_of_ble_eq_true rfl) (Nat.le_of_ble_eq_true rfl) dL_change_251
set_option maxRecDepth 100000 in
theorem cg_8 (l : Launch) (hl0 : l.stackTraces = false) (D : va_G) (cI cJ cO : ClassId) (z : zT) {T : Int} {V : pV} (hI : pInv T V) (hT : 0 ≤ T ∧ T < 19000) (p0 p1 : Int32) (hx : (pLow p0 22) = 8) : ∃ (r : Int32) (V2 : pV), pInv (T + 9) V2 ∧ pMeth l D cI cJ cO z yL_change cL_change 5 .int 9 200 26 331 [.int p0, .int p1] V r V2 := by
  obtain ⟨r, V2, hI2, hc⟩ := pw_removeSegment l hl0 D cI cJ cO z hI (pLow p1 4)
  refine ⟨r, V2, hI2.up (by omega), fun b u q hq => ?_⟩
  refine kUi_of (own := RL) (lv := [(0, .ref b), (1, .int p0), (2, .int p1)]) rfl rfl (by decide) (Nat.le_of_ble_eq_true rfl) ?_
  intro p e s m args below meth c Q A C hZ hret
  refine k_iload_n (pc := 0) C rfl 2 rfl dL_change_0 ?_
  refine k_bipush (pc := 1) C bipush_13 dL_change_1 ?_
  refine k_callS0 (pc := 3) (As := [.int p1, .int 13]) (rest := []) C (c_L_low l D cI cJ cO p1 13 (by decide)) cws_L_low q_670 rfl (Nat.le_of_ble_eq_true rfl) ⟨Nat.le_of_ble_eq_true rfl, Nat.le_of_ble_eq_true rfl⟩ rfl ⟨Nat.le_of_ble_eq_true rfl, Nat.le_of_ble_eq_true rfl⟩ dL_change_3 ?_
  refine k_istore_n (pc := 6) (lv2 := [(3, .int (pLow p1 13)), (0, .ref b), (1, .int p0), (2, .int p1)]) C rfl (by decide) rfl dL_change_6 ?_
  refine k_iload_n (pc := 7) C rfl 3 rfl dL_change_7 ?_
  refine k_bipush (pc := 8) C bipush_13 dL_change_8 ?_
  refine k_idiv (pc := 10) C (by decide) dL_change_10 ?_
  refine k_bipush (pc := 11) C bipush_60 dL_change_11 ?_
  refine k_callS0 (pc := 13) (As := [.int (p1 / 13), .int 60]) (rest := []) C (c_L_low l D cI cJ cO (p1 / 13) 60 (by decide)) cws_L_low q_670 rfl (Nat.le_of_ble_eq_true rfl) ⟨Nat.le_of_ble_eq_true rfl, Nat.le_of_ble_eq_true rfl⟩ rfl ⟨Nat.le_of_ble_eq_true rfl, Nat.le_of_ble_eq_true rfl⟩ dL_change_13 ?_
  refine k_istore (pc := 16) (lv2 := [(4, .int (pLow (p1 / 13) 60)), (3, .int (pLow p1 13)), (0, .ref b), (1, .int p0), (2, .int p1)]) C (by decide) rfl dL_change_16 ?_
  refine k_iload_n (pc := 18) C rfl 3 rfl dL_change_18 ?_
  refine k_bipush (pc := 19) C bipush_22 dL_change_19 ?_
  refine k_callS0 (pc := 21) (As := [.int p0, .int 22]) (rest := []) C (c_L_low l D cI cJ cO p0 22 (by decide)) cws_L_low q_670 rfl (Nat.le_of_ble_eq_true rfl) ⟨Nat.le_of_ble_eq_true rfl, Nat.le_of_ble_eq_true rfl⟩ rfl ⟨Nat.le_of_ble_eq_true rfl, Nat.le_of_ble_eq_true rfl⟩ dL_change_21 ?_
  refine k_tsIn (pc := 24) (tgt := 252) C 8 hx (by decide) (by decide) rfl (by decide) dL_change_24 ?_
  refine k_aload_n (pc := 252) C rfl 2 rfl dL_change_252 ?_
  refine k_iload_n (pc := 253) C rfl 4 rfl dL_change_253 ?_
  refine k_iconst (pc := 254) C iconst_4 dL_change_254 ?_
  refine k_callS0 (pc := 255) (As := [.int p1, .int 4]) (rest := [.ref b]) C (c_L_low l D cI cJ cO p1 4 (by decide)) cws_L_low q_670 rfl (Nat.le_of_ble_eq_true rfl) ⟨Nat.le_of_ble_eq_true rfl, Nat.le_of_ble_eq_true rfl⟩ rfl ⟨Nat.le_of_ble_eq_true rfl, Nat.le_of_ble_eq_true rfl⟩ dL_change_255 ?_
  refine k_pcall (pc := 258) (As := [.int (pLow p1 4)]) (rest := []) C hZ (hc b u q hq) cw_removeSegment q_760 rfl (Nat.le_of_ble_eq_true rfl) ⟨Nat.le_of_ble_eq_true rfl, Nat.le_of_ble_eq_true rfl⟩ rfl ⟨Nat.le_of_ble_eq_true rfl, Nat.le_of_ble_eq_true rfl⟩ dL_change_258 (fun q10 hq10 => ?_)
  exact k_finUi (pc := 261) hret ⟨q10, hq10⟩ rfl rfl rfl (Nat.le_of_ble_eq_true rfl) (Nat.le_of_ble_eq_true rfl) dL_change_261
set_option maxRecDepth 100000 in
theorem cg_9 (l : Launch) (hl0 : l.stackTraces = false) (D : va_G) (cI cJ cO : ClassId) (z : zT) {T : Int} {V : pV} (hI : pInv T V) (hT : 0 ≤ T ∧ T < 19000) (p0 p1 : Int32) (hx : (pLow p0 22) = 9) : ∃ (r : Int32) (V2 : pV), pInv (T + 9) V2 ∧ pMeth l D cI cJ cO z yL_change cL_change 5 .int 9 200 26 331 [.int p0, .int p1] V r V2 := by
  obtain ⟨r, V2, hI2, hc⟩ := pw_setCycles l hl0 D cI cJ cO z hI (pLow p1 22)
  refine ⟨r, V2, hI2.up (by omega), fun b u q hq => ?_⟩
  refine kUi_of (own := RL) (lv := [(0, .ref b), (1, .int p0), (2, .int p1)]) rfl rfl (by decide) (Nat.le_of_ble_eq_true rfl) ?_
  intro p e s m args below meth c Q A C hZ hret
  refine k_iload_n (pc := 0) C rfl 2 rfl dL_change_0 ?_
  refine k_bipush (pc := 1) C bipush_13 dL_change_1 ?_
  refine k_callS0 (pc := 3) (As := [.int p1, .int 13]) (rest := []) C (c_L_low l D cI cJ cO p1 13 (by decide)) cws_L_low q_670 rfl (Nat.le_of_ble_eq_true rfl) ⟨Nat.le_of_ble_eq_true rfl, Nat.le_of_ble_eq_true rfl⟩ rfl ⟨Nat.le_of_ble_eq_true rfl, Nat.le_of_ble_eq_true rfl⟩ dL_change_3 ?_
  refine k_istore_n (pc := 6) (lv2 := [(3, .int (pLow p1 13)), (0, .ref b), (1, .int p0), (2, .int p1)]) C rfl (by decide) rfl dL_change_6 ?_
  refine k_iload_n (pc := 7) C rfl 3 rfl dL_change_7 ?_
  refine k_bipush (pc := 8) C bipush_13 dL_change_8 ?_
  refine k_idiv (pc := 10) C (by decide) dL_change_10 ?_
  refine k_bipush (pc := 11) C bipush_60 dL_change_11 ?_
  refine k_callS0 (pc := 13) (As := [.int (p1 / 13), .int 60]) (rest := []) C (c_L_low l D cI cJ cO (p1 / 13) 60 (by decide)) cws_L_low q_670 rfl (Nat.le_of_ble_eq_true rfl) ⟨Nat.le_of_ble_eq_true rfl, Nat.le_of_ble_eq_true rfl⟩ rfl ⟨Nat.le_of_ble_eq_true rfl, Nat.le_of_ble_eq_true rfl⟩ dL_change_13 ?_
  refine k_istore (pc := 16) (lv2 := [(4, .int (pLow (p1 / 13) 60)), (3, .int (pLow p1 13)), (0, .ref b), (1, .int p0), (2, .int p1)]) C (by decide) rfl dL_change_16 ?_
  refine k_iload_n (pc := 18) C rfl 3 rfl dL_change_18 ?_
  refine k_bipush (pc := 19) C bipush_22 dL_change_19 ?_
  refine k_callS0 (pc := 21) (As := [.int p0, .int 22]) (rest := []) C (c_L_low l D cI cJ cO p0 22 (by decide)) cws_L_low q_670 rfl (Nat.le_of_ble_eq_true rfl) ⟨Nat.le_of_ble_eq_true rfl, Nat.le_of_ble_eq_true rfl⟩ rfl ⟨Nat.le_of_ble_eq_true rfl, Nat.le_of_ble_eq_true rfl⟩ dL_change_21 ?_
  refine k_tsIn (pc := 24) (tgt := 262) C 9 hx (by decide) (by decide) rfl (by decide) dL_change_24 ?_
  refine k_aload_n (pc := 262) C rfl 2 rfl dL_change_262 ?_
  refine k_iload_n (pc := 263) C rfl 4 rfl dL_change_263 ?_
  refine k_bipush (pc := 264) C bipush_22 dL_change_264 ?_
  refine k_callS0 (pc := 266) (As := [.int p1, .int 22]) (rest := [.ref b]) C (c_L_low l D cI cJ cO p1 22 (by decide)) cws_L_low q_670 rfl (Nat.le_of_ble_eq_true rfl) ⟨Nat.le_of_ble_eq_true rfl, Nat.le_of_ble_eq_true rfl⟩ rfl ⟨Nat.le_of_ble_eq_true rfl, Nat.le_of_ble_eq_true rfl⟩ dL_change_266 ?_
  refine k_pcall (pc := 269) (As := [.int (pLow p1 22)]) (rest := []) C hZ (hc b u q hq) cw_setCycles q_771 rfl (Nat.le_of_ble_eq_true rfl) ⟨Nat.le_of_ble_eq_true rfl, Nat.le_of_ble_eq_true rfl⟩ rfl ⟨Nat.le_of_ble_eq_true rfl, Nat.le_of_ble_eq_true rfl⟩ dL_change_269 (fun q11 hq11 => ?_)
  exact k_finUi (pc := 272) hret ⟨q11, hq11⟩ rfl rfl rfl (Nat.le_of_ble_eq_true rfl) (Nat.le_of_ble_eq_true rfl) dL_change_272
set_option maxRecDepth 100000 in
theorem cg_10 (l : Launch) (hl0 : l.stackTraces = false) (D : va_G) (cI cJ cO : ClassId) (z : zT) {T : Int} {V : pV} (hI : pInv T V) (hT : 0 ≤ T ∧ T < 19000) (p0 p1 : Int32) (hx : (pLow p0 22) = 10) : ∃ (r : Int32) (V2 : pV), pInv (T + 9) V2 ∧ pMeth l D cI cJ cO z yL_change cL_change 5 .int 9 200 26 331 [.int p0, .int p1] V r V2 := by
  obtain ⟨r, V2, hI2, hc⟩ := pw_start l hl0 D cI cJ cO z hI
  refine ⟨r, V2, hI2.up (by omega), fun b u q hq => ?_⟩
  refine kUi_of (own := RL) (lv := [(0, .ref b), (1, .int p0), (2, .int p1)]) rfl rfl (by decide) (Nat.le_of_ble_eq_true rfl) ?_
  intro p e s m args below meth c Q A C hZ hret
  refine k_iload_n (pc := 0) C rfl 2 rfl dL_change_0 ?_
  refine k_bipush (pc := 1) C bipush_13 dL_change_1 ?_
  refine k_callS0 (pc := 3) (As := [.int p1, .int 13]) (rest := []) C (c_L_low l D cI cJ cO p1 13 (by decide)) cws_L_low q_670 rfl (Nat.le_of_ble_eq_true rfl) ⟨Nat.le_of_ble_eq_true rfl, Nat.le_of_ble_eq_true rfl⟩ rfl ⟨Nat.le_of_ble_eq_true rfl, Nat.le_of_ble_eq_true rfl⟩ dL_change_3 ?_
  refine k_istore_n (pc := 6) (lv2 := [(3, .int (pLow p1 13)), (0, .ref b), (1, .int p0), (2, .int p1)]) C rfl (by decide) rfl dL_change_6 ?_
  refine k_iload_n (pc := 7) C rfl 3 rfl dL_change_7 ?_
  refine k_bipush (pc := 8) C bipush_13 dL_change_8 ?_
  refine k_idiv (pc := 10) C (by decide) dL_change_10 ?_
  refine k_bipush (pc := 11) C bipush_60 dL_change_11 ?_
  refine k_callS0 (pc := 13) (As := [.int (p1 / 13), .int 60]) (rest := []) C (c_L_low l D cI cJ cO (p1 / 13) 60 (by decide)) cws_L_low q_670 rfl (Nat.le_of_ble_eq_true rfl) ⟨Nat.le_of_ble_eq_true rfl, Nat.le_of_ble_eq_true rfl⟩ rfl ⟨Nat.le_of_ble_eq_true rfl, Nat.le_of_ble_eq_true rfl⟩ dL_change_13 ?_
  refine k_istore (pc := 16) (lv2 := [(4, .int (pLow (p1 / 13) 60)), (3, .int (pLow p1 13)), (0, .ref b), (1, .int p0), (2, .int p1)]) C (by decide) rfl dL_change_16 ?_
  refine k_iload_n (pc := 18) C rfl 3 rfl dL_change_18 ?_
  refine k_bipush (pc := 19) C bipush_22 dL_change_19 ?_
  refine k_callS0 (pc := 21) (As := [.int p0, .int 22]) (rest := []) C (c_L_low l D cI cJ cO p0 22 (by decide)) cws_L_low q_670 rfl (Nat.le_of_ble_eq_true rfl) ⟨Nat.le_of_ble_eq_true rfl, Nat.le_of_ble_eq_true rfl⟩ rfl ⟨Nat.le_of_ble_eq_true rfl, Nat.le_of_ble_eq_true rfl⟩ dL_change_21 ?_
  refine k_tsIn (pc := 24) (tgt := 273) C 10 hx (by decide) (by decide) rfl (by decide) dL_change_24 ?_
  refine k_aload_n (pc := 273) C rfl 2 rfl dL_change_273 ?_
  refine k_pcall (pc := 274) (As := []) (rest := []) C hZ (hc b u q hq) cw_start q_778 rfl (Nat.le_of_ble_eq_true rfl) ⟨Nat.le_of_ble_eq_true rfl, Nat.le_of_ble_eq_true rfl⟩ rfl ⟨Nat.le_of_ble_eq_true rfl, Nat.le_of_ble_eq_true rfl⟩ dL_change_274 (fun q12 hq12 => ?_)
  exact k_finUi (pc := 277) hret ⟨q12, hq12⟩ rfl rfl rfl (Nat.le_of_ble_eq_true rfl) (Nat.le_of_ble_eq_true rfl) dL_change_277
set_option maxRecDepth 100000 in
theorem cg_11 (l : Launch) (hl0 : l.stackTraces = false) (D : va_G) (cI cJ cO : ClassId) (z : zT) {T : Int} {V : pV} (hI : pInv T V) (hT : 0 ≤ T ∧ T < 19000) (p0 p1 : Int32) (hx : (pLow p0 22) = 11) : ∃ (r : Int32) (V2 : pV), pInv (T + 9) V2 ∧ pMeth l D cI cJ cO z yL_change cL_change 5 .int 9 200 26 331 [.int p0, .int p1] V r V2 := by
  obtain ⟨r, V2, hI2, hc⟩ := pw_start l hl0 D cI cJ cO z hI
  refine ⟨r, V2, hI2.up (by omega), fun b u q hq => ?_⟩
  refine kUi_of (own := RL) (lv := [(0, .ref b), (1, .int p0), (2, .int p1)]) rfl rfl (by decide) (Nat.le_of_ble_eq_true rfl) ?_
  intro p e s m args below meth c Q A C hZ hret
  refine k_iload_n (pc := 0) C rfl 2 rfl dL_change_0 ?_
  refine k_bipush (pc := 1) C bipush_13 dL_change_1 ?_
  refine k_callS0 (pc := 3) (As := [.int p1, .int 13]) (rest := []) C (c_L_low l D cI cJ cO p1 13 (by decide)) cws_L_low q_670 rfl (Nat.le_of_ble_eq_true rfl) ⟨Nat.le_of_ble_eq_true rfl, Nat.le_of_ble_eq_true rfl⟩ rfl ⟨Nat.le_of_ble_eq_true rfl, Nat.le_of_ble_eq_true rfl⟩ dL_change_3 ?_
  refine k_istore_n (pc := 6) (lv2 := [(3, .int (pLow p1 13)), (0, .ref b), (1, .int p0), (2, .int p1)]) C rfl (by decide) rfl dL_change_6 ?_
  refine k_iload_n (pc := 7) C rfl 3 rfl dL_change_7 ?_
  refine k_bipush (pc := 8) C bipush_13 dL_change_8 ?_
  refine k_idiv (pc := 10) C (by decide) dL_change_10 ?_
  refine k_bipush (pc := 11) C bipush_60 dL_change_11 ?_
  refine k_callS0 (pc := 13) (As := [.int (p1 / 13), .int 60]) (rest := []) C (c_L_low l D cI cJ cO (p1 / 13) 60 (by decide)) cws_L_low q_670 rfl (Nat.le_of_ble_eq_true rfl) ⟨Nat.le_of_ble_eq_true rfl, Nat.le_of_ble_eq_true rfl⟩ rfl ⟨Nat.le_of_ble_eq_true rfl, Nat.le_of_ble_eq_true rfl⟩ dL_change_13 ?_
  refine k_istore (pc := 16) (lv2 := [(4, .int (pLow (p1 / 13) 60)), (3, .int (pLow p1 13)), (0, .ref b), (1, .int p0), (2, .int p1)]) C (by decide) rfl dL_change_16 ?_
  refine k_iload_n (pc := 18) C rfl 3 rfl dL_change_18 ?_
  refine k_bipush (pc := 19) C bipush_22 dL_change_19 ?_
  refine k_callS0 (pc := 21) (As := [.int p0, .int 22]) (rest := []) C (c_L_low l D cI cJ cO p0 22 (by decide)) cws_L_low q_670 rfl (Nat.le_of_ble_eq_true rfl) ⟨Nat.le_of_ble_eq_true rfl, Nat.le_of_ble_eq_true rfl⟩ rfl ⟨Nat.le_of_ble_eq_true rfl, Nat.le_of_ble_eq_true rfl⟩ dL_change_21 ?_
  refine k_tsIn (pc := 24) (tgt := 273) C 11 hx (by decide) (by decide) rfl (by decide) dL_change_24 ?_
  refine k_aload_n (pc := 273) C rfl 2 rfl dL_change_273 ?_
  refine k_pcall (pc := 274) (As := []) (rest := []) C hZ (hc b u q hq) cw_start q_778 rfl (Nat.le_of_ble_eq_true rfl) ⟨Nat.le_of_ble_eq_true rfl, Nat.le_of_ble_eq_true rfl⟩ rfl ⟨Nat.le_of_ble_eq_true rfl, Nat.le_of_ble_eq_true rfl⟩ dL_change_274 (fun q13 hq13 => ?_)
  exact k_finUi (pc := 277) hret ⟨q13, hq13⟩ rfl rfl rfl (Nat.le_of_ble_eq_true rfl) (Nat.le_of_ble_eq_true rfl) dL_change_277
set_option maxRecDepth 100000 in
theorem cg_12 (l : Launch) (hl0 : l.stackTraces = false) (D : va_G) (cI cJ cO : ClassId) (z : zT) {T : Int} {V : pV} (hI : pInv T V) (hT : 0 ≤ T ∧ T < 19000) (p0 p1 : Int32) (hx : (pLow p0 22) = 12) : ∃ (r : Int32) (V2 : pV), pInv (T + 9) V2 ∧ pMeth l D cI cJ cO z yL_change cL_change 5 .int 9 200 26 331 [.int p0, .int p1] V r V2 := by
  obtain ⟨r, V2, hI2, hc⟩ := pw_start l hl0 D cI cJ cO z hI
  refine ⟨r, V2, hI2.up (by omega), fun b u q hq => ?_⟩
  refine kUi_of (own := RL) (lv := [(0, .ref b), (1, .int p0), (2, .int p1)]) rfl rfl (by decide) (Nat.le_of_ble_eq_true rfl) ?_
  intro p e s m args below meth c Q A C hZ hret
  refine k_iload_n (pc := 0) C rfl 2 rfl dL_change_0 ?_
  refine k_bipush (pc := 1) C bipush_13 dL_change_1 ?_
  refine k_callS0 (pc := 3) (As := [.int p1, .int 13]) (rest := []) C (c_L_low l D cI cJ cO p1 13 (by decide)) cws_L_low q_670 rfl (Nat.le_of_ble_eq_true rfl) ⟨Nat.le_of_ble_eq_true rfl, Nat.le_of_ble_eq_true rfl⟩ rfl ⟨Nat.le_of_ble_eq_true rfl, Nat.le_of_ble_eq_true rfl⟩ dL_change_3 ?_
  refine k_istore_n (pc := 6) (lv2 := [(3, .int (pLow p1 13)), (0, .ref b), (1, .int p0), (2, .int p1)]) C rfl (by decide) rfl dL_change_6 ?_
  refine k_iload_n (pc := 7) C rfl 3 rfl dL_change_7 ?_
  refine k_bipush (pc := 8) C bipush_13 dL_change_8 ?_
  refine k_idiv (pc := 10) C (by decide) dL_change_10 ?_
  refine k_bipush (pc := 11) C bipush_60 dL_change_11 ?_
  refine k_callS0 (pc := 13) (As := [.int (p1 / 13), .int 60]) (rest := []) C (c_L_low l D cI cJ cO (p1 / 13) 60 (by decide)) cws_L_low q_670 rfl (Nat.le_of_ble_eq_true rfl) ⟨Nat.le_of_ble_eq_true rfl, Nat.le_of_ble_eq_true rfl⟩ rfl ⟨Nat.le_of_ble_eq_true rfl, Nat.le_of_ble_eq_true rfl⟩ dL_change_13 ?_
  refine k_istore (pc := 16) (lv2 := [(4, .int (pLow (p1 / 13) 60)), (3, .int (pLow p1 13)), (0, .ref b), (1, .int p0), (2, .int p1)]) C (by decide) rfl dL_change_16 ?_
  refine k_iload_n (pc := 18) C rfl 3 rfl dL_change_18 ?_
  refine k_bipush (pc := 19) C bipush_22 dL_change_19 ?_
  refine k_callS0 (pc := 21) (As := [.int p0, .int 22]) (rest := []) C (c_L_low l D cI cJ cO p0 22 (by decide)) cws_L_low q_670 rfl (Nat.le_of_ble_eq_true rfl) ⟨Nat.le_of_ble_eq_true rfl, Nat.le_of_ble_eq_true rfl⟩ rfl ⟨Nat.le_of_ble_eq_true rfl, Nat.le_of_ble_eq_true rfl⟩ dL_change_21 ?_
  refine k_tsIn (pc := 24) (tgt := 273) C 12 hx (by decide) (by decide) rfl (by decide) dL_change_24 ?_
  refine k_aload_n (pc := 273) C rfl 2 rfl dL_change_273 ?_
  refine k_pcall (pc := 274) (As := []) (rest := []) C hZ (hc b u q hq) cw_start q_778 rfl (Nat.le_of_ble_eq_true rfl) ⟨Nat.le_of_ble_eq_true rfl, Nat.le_of_ble_eq_true rfl⟩ rfl ⟨Nat.le_of_ble_eq_true rfl, Nat.le_of_ble_eq_true rfl⟩ dL_change_274 (fun q14 hq14 => ?_)
  exact k_finUi (pc := 277) hret ⟨q14, hq14⟩ rfl rfl rfl (Nat.le_of_ble_eq_true rfl) (Nat.le_of_ble_eq_true rfl) dL_change_277
set_option maxRecDepth 100000 in
theorem cg_13 (l : Launch) (hl0 : l.stackTraces = false) (D : va_G) (cI cJ cO : ClassId) (z : zT) {T : Int} {V : pV} (hI : pInv T V) (hT : 0 ≤ T ∧ T < 19000) (p0 p1 : Int32) (hx : (pLow p0 22) = 13) : ∃ (r : Int32) (V2 : pV), pInv (T + 9) V2 ∧ pMeth l D cI cJ cO z yL_change cL_change 5 .int 9 200 26 331 [.int p0, .int p1] V r V2 := by
  obtain ⟨r, V2, hI2, hc⟩ := pw_stop l hl0 D cI cJ cO z hI
  refine ⟨r, V2, hI2.up (by omega), fun b u q hq => ?_⟩
  refine kUi_of (own := RL) (lv := [(0, .ref b), (1, .int p0), (2, .int p1)]) rfl rfl (by decide) (Nat.le_of_ble_eq_true rfl) ?_
  intro p e s m args below meth c Q A C hZ hret
  refine k_iload_n (pc := 0) C rfl 2 rfl dL_change_0 ?_
  refine k_bipush (pc := 1) C bipush_13 dL_change_1 ?_
  refine k_callS0 (pc := 3) (As := [.int p1, .int 13]) (rest := []) C (c_L_low l D cI cJ cO p1 13 (by decide)) cws_L_low q_670 rfl (Nat.le_of_ble_eq_true rfl) ⟨Nat.le_of_ble_eq_true rfl, Nat.le_of_ble_eq_true rfl⟩ rfl ⟨Nat.le_of_ble_eq_true rfl, Nat.le_of_ble_eq_true rfl⟩ dL_change_3 ?_
  refine k_istore_n (pc := 6) (lv2 := [(3, .int (pLow p1 13)), (0, .ref b), (1, .int p0), (2, .int p1)]) C rfl (by decide) rfl dL_change_6 ?_
  refine k_iload_n (pc := 7) C rfl 3 rfl dL_change_7 ?_
  refine k_bipush (pc := 8) C bipush_13 dL_change_8 ?_
  refine k_idiv (pc := 10) C (by decide) dL_change_10 ?_
  refine k_bipush (pc := 11) C bipush_60 dL_change_11 ?_
  refine k_callS0 (pc := 13) (As := [.int (p1 / 13), .int 60]) (rest := []) C (c_L_low l D cI cJ cO (p1 / 13) 60 (by decide)) cws_L_low q_670 rfl (Nat.le_of_ble_eq_true rfl) ⟨Nat.le_of_ble_eq_true rfl, Nat.le_of_ble_eq_true rfl⟩ rfl ⟨Nat.le_of_ble_eq_true rfl, Nat.le_of_ble_eq_true rfl⟩ dL_change_13 ?_
  refine k_istore (pc := 16) (lv2 := [(4, .int (pLow (p1 / 13) 60)), (3, .int (pLow p1 13)), (0, .ref b), (1, .int p0), (2, .int p1)]) C (by decide) rfl dL_change_16 ?_
  refine k_iload_n (pc := 18) C rfl 3 rfl dL_change_18 ?_
  refine k_bipush (pc := 19) C bipush_22 dL_change_19 ?_
  refine k_callS0 (pc := 21) (As := [.int p0, .int 22]) (rest := []) C (c_L_low l D cI cJ cO p0 22 (by decide)) cws_L_low q_670 rfl (Nat.le_of_ble_eq_true rfl) ⟨Nat.le_of_ble_eq_true rfl, Nat.le_of_ble_eq_true rfl⟩ rfl ⟨Nat.le_of_ble_eq_true rfl, Nat.le_of_ble_eq_true rfl⟩ dL_change_21 ?_
  refine k_tsIn (pc := 24) (tgt := 278) C 13 hx (by decide) (by decide) rfl (by decide) dL_change_24 ?_
  refine k_aload_n (pc := 278) C rfl 2 rfl dL_change_278 ?_
  refine k_pcall (pc := 279) (As := []) (rest := []) C hZ (hc b u q hq) cw_stop q_789 rfl (Nat.le_of_ble_eq_true rfl) ⟨Nat.le_of_ble_eq_true rfl, Nat.le_of_ble_eq_true rfl⟩ rfl ⟨Nat.le_of_ble_eq_true rfl, Nat.le_of_ble_eq_true rfl⟩ dL_change_279 (fun q15 hq15 => ?_)
  exact k_finUi (pc := 282) hret ⟨q15, hq15⟩ rfl rfl rfl (Nat.le_of_ble_eq_true rfl) (Nat.le_of_ble_eq_true rfl) dL_change_282
set_option maxRecDepth 100000 in
theorem cg_14a (l : Launch) (hl0 : l.stackTraces = false) (D : va_G) (cI cJ cO : ClassId) (z : zT) {T : Int} {V : pV} (hI : pInv T V) (hT : 0 ≤ T ∧ T < 19000) (p0 p1 : Int32) (hx : (pLow p0 22) = 14) (h2 : pLow p1 2 = 0) : ∃ (r : Int32) (V2 : pV), pInv (T + 9) V2 ∧ pMeth l D cI cJ cO z yL_change cL_change 5 .int 9 200 26 331 [.int p0, .int p1] V r V2 := by
  obtain ⟨r, V2, hI2, hc⟩ := pw_hold l hl0 D cI cJ cO z hI 1 kb1
  refine ⟨r, V2, hI2.up (by omega), fun b u q hq => ?_⟩
  refine kUi_of (own := RL) (lv := [(0, .ref b), (1, .int p0), (2, .int p1)]) rfl rfl (by decide) (Nat.le_of_ble_eq_true rfl) ?_
  intro p e s m args below meth c Q A C hZ hret
  refine k_iload_n (pc := 0) C rfl 2 rfl dL_change_0 ?_
  refine k_bipush (pc := 1) C bipush_13 dL_change_1 ?_
  refine k_callS0 (pc := 3) (As := [.int p1, .int 13]) (rest := []) C (c_L_low l D cI cJ cO p1 13 (by decide)) cws_L_low q_670 rfl (Nat.le_of_ble_eq_true rfl) ⟨Nat.le_of_ble_eq_true rfl, Nat.le_of_ble_eq_true rfl⟩ rfl ⟨Nat.le_of_ble_eq_true rfl, Nat.le_of_ble_eq_true rfl⟩ dL_change_3 ?_
  refine k_istore_n (pc := 6) (lv2 := [(3, .int (pLow p1 13)), (0, .ref b), (1, .int p0), (2, .int p1)]) C rfl (by decide) rfl dL_change_6 ?_
  refine k_iload_n (pc := 7) C rfl 3 rfl dL_change_7 ?_
  refine k_bipush (pc := 8) C bipush_13 dL_change_8 ?_
  refine k_idiv (pc := 10) C (by decide) dL_change_10 ?_
  refine k_bipush (pc := 11) C bipush_60 dL_change_11 ?_
  refine k_callS0 (pc := 13) (As := [.int (p1 / 13), .int 60]) (rest := []) C (c_L_low l D cI cJ cO (p1 / 13) 60 (by decide)) cws_L_low q_670 rfl (Nat.le_of_ble_eq_true rfl) ⟨Nat.le_of_ble_eq_true rfl, Nat.le_of_ble_eq_true rfl⟩ rfl ⟨Nat.le_of_ble_eq_true rfl, Nat.le_of_ble_eq_true rfl⟩ dL_change_13 ?_
  refine k_istore (pc := 16) (lv2 := [(4, .int (pLow (p1 / 13) 60)), (3, .int (pLow p1 13)), (0, .ref b), (1, .int p0), (2, .int p1)]) C (by decide) rfl dL_change_16 ?_
  refine k_iload_n (pc := 18) C rfl 3 rfl dL_change_18 ?_
  refine k_bipush (pc := 19) C bipush_22 dL_change_19 ?_
  refine k_callS0 (pc := 21) (As := [.int p0, .int 22]) (rest := []) C (c_L_low l D cI cJ cO p0 22 (by decide)) cws_L_low q_670 rfl (Nat.le_of_ble_eq_true rfl) ⟨Nat.le_of_ble_eq_true rfl, Nat.le_of_ble_eq_true rfl⟩ rfl ⟨Nat.le_of_ble_eq_true rfl, Nat.le_of_ble_eq_true rfl⟩ dL_change_21 ?_
  refine k_tsIn (pc := 24) (tgt := 283) C 14 hx (by decide) (by decide) rfl (by decide) dL_change_24 ?_
  refine k_aload_n (pc := 283) C rfl 2 rfl dL_change_283 ?_
  refine k_iload_n (pc := 284) C rfl 4 rfl dL_change_284 ?_
  refine k_iconst (pc := 285) C iconst_2 dL_change_285 ?_
  refine k_callS0 (pc := 286) (As := [.int p1, .int 2]) (rest := [.ref b]) C (c_L_low l D cI cJ cO p1 2 (by decide)) cws_L_low q_670 rfl (Nat.le_of_ble_eq_true rfl) ⟨Nat.le_of_ble_eq_true rfl, Nat.le_of_ble_eq_true rfl⟩ rfl ⟨Nat.le_of_ble_eq_true rfl, Nat.le_of_ble_eq_true rfl⟩ dL_change_286 ?_
  refine k_if_ne (pc := 289) (tgt := 296) C dL_change_289 (by decide) (fun z9 => absurd (h2) z9) (fun _ => ?_)
  refine k_iconst (pc := 292) C iconst_1 dL_change_292 ?_
  refine k_goto (pc := 293) (tgt := 297) C (by decide) dL_change_293 ?_
  refine k_pcall (pc := 297) (As := [.int 1]) (rest := []) C hZ (hc b u q hq) cw_hold q_797 rfl (Nat.le_of_ble_eq_true rfl) ⟨Nat.le_of_ble_eq_true rfl, Nat.le_of_ble_eq_true rfl⟩ rfl ⟨Nat.le_of_ble_eq_true rfl, Nat.le_of_ble_eq_true rfl⟩ dL_change_297 (fun q16 hq16 => ?_)
  exact k_finUi (pc := 300) hret ⟨q16, hq16⟩ rfl rfl rfl (Nat.le_of_ble_eq_true rfl) (Nat.le_of_ble_eq_true rfl) dL_change_300
set_option maxRecDepth 100000 in
theorem cg_14b (l : Launch) (hl0 : l.stackTraces = false) (D : va_G) (cI cJ cO : ClassId) (z : zT) {T : Int} {V : pV} (hI : pInv T V) (hT : 0 ≤ T ∧ T < 19000) (p0 p1 : Int32) (hx : (pLow p0 22) = 14) (h2 : ¬ pLow p1 2 = 0) : ∃ (r : Int32) (V2 : pV), pInv (T + 9) V2 ∧ pMeth l D cI cJ cO z yL_change cL_change 5 .int 9 200 26 331 [.int p0, .int p1] V r V2 := by
  obtain ⟨r, V2, hI2, hc⟩ := pw_hold l hl0 D cI cJ cO z hI 0 kb0
  refine ⟨r, V2, hI2.up (by omega), fun b u q hq => ?_⟩
  refine kUi_of (own := RL) (lv := [(0, .ref b), (1, .int p0), (2, .int p1)]) rfl rfl (by decide) (Nat.le_of_ble_eq_true rfl) ?_
  intro p e s m args below meth c Q A C hZ hret
  refine k_iload_n (pc := 0) C rfl 2 rfl dL_change_0 ?_
  refine k_bipush (pc := 1) C bipush_13 dL_change_1 ?_
  refine k_callS0 (pc := 3) (As := [.int p1, .int 13]) (rest := []) C (c_L_low l D cI cJ cO p1 13 (by decide)) cws_L_low q_670 rfl (Nat.le_of_ble_eq_true rfl) ⟨Nat.le_of_ble_eq_true rfl, Nat.le_of_ble_eq_true rfl⟩ rfl ⟨Nat.le_of_ble_eq_true rfl, Nat.le_of_ble_eq_true rfl⟩ dL_change_3 ?_
  refine k_istore_n (pc := 6) (lv2 := [(3, .int (pLow p1 13)), (0, .ref b), (1, .int p0), (2, .int p1)]) C rfl (by decide) rfl dL_change_6 ?_
  refine k_iload_n (pc := 7) C rfl 3 rfl dL_change_7 ?_
  refine k_bipush (pc := 8) C bipush_13 dL_change_8 ?_
  refine k_idiv (pc := 10) C (by decide) dL_change_10 ?_
  refine k_bipush (pc := 11) C bipush_60 dL_change_11 ?_
  refine k_callS0 (pc := 13) (As := [.int (p1 / 13), .int 60]) (rest := []) C (c_L_low l D cI cJ cO (p1 / 13) 60 (by decide)) cws_L_low q_670 rfl (Nat.le_of_ble_eq_true rfl) ⟨Nat.le_of_ble_eq_true rfl, Nat.le_of_ble_eq_true rfl⟩ rfl ⟨Nat.le_of_ble_eq_true rfl, Nat.le_of_ble_eq_true rfl⟩ dL_change_13 ?_
  refine k_istore (pc := 16) (lv2 := [(4, .int (pLow (p1 / 13) 60)), (3, .int (pLow p1 13)), (0, .ref b), (1, .int p0), (2, .int p1)]) C (by decide) rfl dL_change_16 ?_
  refine k_iload_n (pc := 18) C rfl 3 rfl dL_change_18 ?_
  refine k_bipush (pc := 19) C bipush_22 dL_change_19 ?_
  refine k_callS0 (pc := 21) (As := [.int p0, .int 22]) (rest := []) C (c_L_low l D cI cJ cO p0 22 (by decide)) cws_L_low q_670 rfl (Nat.le_of_ble_eq_true rfl) ⟨Nat.le_of_ble_eq_true rfl, Nat.le_of_ble_eq_true rfl⟩ rfl ⟨Nat.le_of_ble_eq_true rfl, Nat.le_of_ble_eq_true rfl⟩ dL_change_21 ?_
  refine k_tsIn (pc := 24) (tgt := 283) C 14 hx (by decide) (by decide) rfl (by decide) dL_change_24 ?_
  refine k_aload_n (pc := 283) C rfl 2 rfl dL_change_283 ?_
  refine k_iload_n (pc := 284) C rfl 4 rfl dL_change_284 ?_
  refine k_iconst (pc := 285) C iconst_2 dL_change_285 ?_
  refine k_callS0 (pc := 286) (As := [.int p1, .int 2]) (rest := [.ref b]) C (c_L_low l D cI cJ cO p1 2 (by decide)) cws_L_low q_670 rfl (Nat.le_of_ble_eq_true rfl) ⟨Nat.le_of_ble_eq_true rfl, Nat.le_of_ble_eq_true rfl⟩ rfl ⟨Nat.le_of_ble_eq_true rfl, Nat.le_of_ble_eq_true rfl⟩ dL_change_286 ?_
  refine k_if_ne (pc := 289) (tgt := 296) C dL_change_289 (by decide) (fun _ => ?_) (fun z9 => absurd z9 (h2))
  refine k_iconst (pc := 296) C iconst_0 dL_change_296 ?_
  refine k_pcall (pc := 297) (As := [.int 0]) (rest := []) C hZ (hc b u q hq) cw_hold q_797 rfl (Nat.le_of_ble_eq_true rfl) ⟨Nat.le_of_ble_eq_true rfl, Nat.le_of_ble_eq_true rfl⟩ rfl ⟨Nat.le_of_ble_eq_true rfl, Nat.le_of_ble_eq_true rfl⟩ dL_change_297 (fun q17 hq17 => ?_)
  exact k_finUi (pc := 300) hret ⟨q17, hq17⟩ rfl rfl rfl (Nat.le_of_ble_eq_true rfl) (Nat.le_of_ble_eq_true rfl) dL_change_300
set_option maxRecDepth 100000 in
theorem cg_15 (l : Launch) (hl0 : l.stackTraces = false) (D : va_G) (cI cJ cO : ClassId) (z : zT) {T : Int} {V : pV} (hI : pInv T V) (hT : 0 ≤ T ∧ T < 19000) (p0 p1 : Int32) (hx : (pLow p0 22) = 15) : ∃ (r : Int32) (V2 : pV), pInv (T + 9) V2 ∧ pMeth l D cI cJ cO z yL_change cL_change 5 .int 9 200 26 331 [.int p0, .int p1] V r V2 := by
  obtain ⟨r, V2, hI2, hc⟩ := pw_undo l hl0 D cI cJ cO z hI
  refine ⟨r, V2, hI2.up (by omega), fun b u q hq => ?_⟩
  refine kUi_of (own := RL) (lv := [(0, .ref b), (1, .int p0), (2, .int p1)]) rfl rfl (by decide) (Nat.le_of_ble_eq_true rfl) ?_
  intro p e s m args below meth c Q A C hZ hret
  refine k_iload_n (pc := 0) C rfl 2 rfl dL_change_0 ?_
  refine k_bipush (pc := 1) C bipush_13 dL_change_1 ?_
  refine k_callS0 (pc := 3) (As := [.int p1, .int 13]) (rest := []) C (c_L_low l D cI cJ cO p1 13 (by decide)) cws_L_low q_670 rfl (Nat.le_of_ble_eq_true rfl) ⟨Nat.le_of_ble_eq_true rfl, Nat.le_of_ble_eq_true rfl⟩ rfl ⟨Nat.le_of_ble_eq_true rfl, Nat.le_of_ble_eq_true rfl⟩ dL_change_3 ?_
  refine k_istore_n (pc := 6) (lv2 := [(3, .int (pLow p1 13)), (0, .ref b), (1, .int p0), (2, .int p1)]) C rfl (by decide) rfl dL_change_6 ?_
  refine k_iload_n (pc := 7) C rfl 3 rfl dL_change_7 ?_
  refine k_bipush (pc := 8) C bipush_13 dL_change_8 ?_
  refine k_idiv (pc := 10) C (by decide) dL_change_10 ?_
  refine k_bipush (pc := 11) C bipush_60 dL_change_11 ?_
  refine k_callS0 (pc := 13) (As := [.int (p1 / 13), .int 60]) (rest := []) C (c_L_low l D cI cJ cO (p1 / 13) 60 (by decide)) cws_L_low q_670 rfl (Nat.le_of_ble_eq_true rfl) ⟨Nat.le_of_ble_eq_true rfl, Nat.le_of_ble_eq_true rfl⟩ rfl ⟨Nat.le_of_ble_eq_true rfl, Nat.le_of_ble_eq_true rfl⟩ dL_change_13 ?_
  refine k_istore (pc := 16) (lv2 := [(4, .int (pLow (p1 / 13) 60)), (3, .int (pLow p1 13)), (0, .ref b), (1, .int p0), (2, .int p1)]) C (by decide) rfl dL_change_16 ?_
  refine k_iload_n (pc := 18) C rfl 3 rfl dL_change_18 ?_
  refine k_bipush (pc := 19) C bipush_22 dL_change_19 ?_
  refine k_callS0 (pc := 21) (As := [.int p0, .int 22]) (rest := []) C (c_L_low l D cI cJ cO p0 22 (by decide)) cws_L_low q_670 rfl (Nat.le_of_ble_eq_true rfl) ⟨Nat.le_of_ble_eq_true rfl, Nat.le_of_ble_eq_true rfl⟩ rfl ⟨Nat.le_of_ble_eq_true rfl, Nat.le_of_ble_eq_true rfl⟩ dL_change_21 ?_
  refine k_tsIn (pc := 24) (tgt := 301) C 15 hx (by decide) (by decide) rfl (by decide) dL_change_24 ?_
  refine k_aload_n (pc := 301) C rfl 2 rfl dL_change_301 ?_
  refine k_pcall (pc := 302) (As := []) (rest := []) C hZ (hc b u q hq) cw_undo q_804 rfl (Nat.le_of_ble_eq_true rfl) ⟨Nat.le_of_ble_eq_true rfl, Nat.le_of_ble_eq_true rfl⟩ rfl ⟨Nat.le_of_ble_eq_true rfl, Nat.le_of_ble_eq_true rfl⟩ dL_change_302 (fun q18 hq18 => ?_)
  exact k_finUi (pc := 305) hret ⟨q18, hq18⟩ rfl rfl rfl (Nat.le_of_ble_eq_true rfl) (Nat.le_of_ble_eq_true rfl) dL_change_305
set_option maxRecDepth 100000 in
theorem cg_16a (l : Launch) (hl0 : l.stackTraces = false) (D : va_G) (cI cJ cO : ClassId) (z : zT) {T : Int} {V : pV} (hI : pInv T V) (hT : 0 ≤ T ∧ T < 19000) (p0 p1 : Int32) (hx : (pLow p0 22) = 16) (h2 : pLow p1 2 = 0) : ∃ (r : Int32) (V2 : pV), pInv (T + 9) V2 ∧ pMeth l D cI cJ cO z yL_change cL_change 5 .int 9 200 26 331 [.int p0, .int p1] V r V2 := by
  obtain ⟨r, V2, hI2, hc⟩ := pw_set l hl0 D cI cJ cO z hI 6 (pLow (p1 / 2) 100)
  refine ⟨r, V2, hI2.up (by omega), fun b u q hq => ?_⟩
  refine kUi_of (own := RL) (lv := [(0, .ref b), (1, .int p0), (2, .int p1)]) rfl rfl (by decide) (Nat.le_of_ble_eq_true rfl) ?_
  intro p e s m args below meth c Q A C hZ hret
  refine k_iload_n (pc := 0) C rfl 2 rfl dL_change_0 ?_
  refine k_bipush (pc := 1) C bipush_13 dL_change_1 ?_
  refine k_callS0 (pc := 3) (As := [.int p1, .int 13]) (rest := []) C (c_L_low l D cI cJ cO p1 13 (by decide)) cws_L_low q_670 rfl (Nat.le_of_ble_eq_true rfl) ⟨Nat.le_of_ble_eq_true rfl, Nat.le_of_ble_eq_true rfl⟩ rfl ⟨Nat.le_of_ble_eq_true rfl, Nat.le_of_ble_eq_true rfl⟩ dL_change_3 ?_
  refine k_istore_n (pc := 6) (lv2 := [(3, .int (pLow p1 13)), (0, .ref b), (1, .int p0), (2, .int p1)]) C rfl (by decide) rfl dL_change_6 ?_
  refine k_iload_n (pc := 7) C rfl 3 rfl dL_change_7 ?_
  refine k_bipush (pc := 8) C bipush_13 dL_change_8 ?_
  refine k_idiv (pc := 10) C (by decide) dL_change_10 ?_
  refine k_bipush (pc := 11) C bipush_60 dL_change_11 ?_
  refine k_callS0 (pc := 13) (As := [.int (p1 / 13), .int 60]) (rest := []) C (c_L_low l D cI cJ cO (p1 / 13) 60 (by decide)) cws_L_low q_670 rfl (Nat.le_of_ble_eq_true rfl) ⟨Nat.le_of_ble_eq_true rfl, Nat.le_of_ble_eq_true rfl⟩ rfl ⟨Nat.le_of_ble_eq_true rfl, Nat.le_of_ble_eq_true rfl⟩ dL_change_13 ?_
  refine k_istore (pc := 16) (lv2 := [(4, .int (pLow (p1 / 13) 60)), (3, .int (pLow p1 13)), (0, .ref b), (1, .int p0), (2, .int p1)]) C (by decide) rfl dL_change_16 ?_
  refine k_iload_n (pc := 18) C rfl 3 rfl dL_change_18 ?_
  refine k_bipush (pc := 19) C bipush_22 dL_change_19 ?_
  refine k_callS0 (pc := 21) (As := [.int p0, .int 22]) (rest := []) C (c_L_low l D cI cJ cO p0 22 (by decide)) cws_L_low q_670 rfl (Nat.le_of_ble_eq_true rfl) ⟨Nat.le_of_ble_eq_true rfl, Nat.le_of_ble_eq_true rfl⟩ rfl ⟨Nat.le_of_ble_eq_true rfl, Nat.le_of_ble_eq_true rfl⟩ dL_change_21 ?_
  refine k_tsIn (pc := 24) (tgt := 306) C 16 hx (by decide) (by decide) rfl (by decide) dL_change_24 ?_
  refine k_aload_n (pc := 306) C rfl 2 rfl dL_change_306 ?_
  refine k_iload_n (pc := 307) C rfl 4 rfl dL_change_307 ?_
  refine k_iconst (pc := 308) C iconst_2 dL_change_308 ?_
  refine k_callS0 (pc := 309) (As := [.int p1, .int 2]) (rest := [.ref b]) C (c_L_low l D cI cJ cO p1 2 (by decide)) cws_L_low q_670 rfl (Nat.le_of_ble_eq_true rfl) ⟨Nat.le_of_ble_eq_true rfl, Nat.le_of_ble_eq_true rfl⟩ rfl ⟨Nat.le_of_ble_eq_true rfl, Nat.le_of_ble_eq_true rfl⟩ dL_change_309 ?_
  refine k_if_ne (pc := 312) (tgt := 320) C dL_change_312 (by decide) (fun z9 => absurd (h2) z9) (fun _ => ?_)
  refine k_bipush (pc := 315) C bipush_6 dL_change_315 ?_
  refine k_goto (pc := 317) (tgt := 322) C (by decide) dL_change_317 ?_
  refine k_iload_n (pc := 322) C rfl 4 rfl dL_change_322 ?_
  refine k_iconst (pc := 323) C iconst_2 dL_change_323 ?_
  refine k_idiv (pc := 324) C (by decide) dL_change_324 ?_
  refine k_bipush (pc := 325) C bipush_100 dL_change_325 ?_
  refine k_callS0 (pc := 327) (As := [.int (p1 / 2), .int 100]) (rest := [.int 6, .ref b]) C (c_L_low l D cI cJ cO (p1 / 2) 100 (by decide)) cws_L_low q_670 rfl (Nat.le_of_ble_eq_true rfl) ⟨Nat.le_of_ble_eq_true rfl, Nat.le_of_ble_eq_true rfl⟩ rfl ⟨Nat.le_of_ble_eq_true rfl, Nat.le_of_ble_eq_true rfl⟩ dL_change_327 ?_
  refine k_pcall (pc := 330) (As := [.int 6, .int (pLow (p1 / 2) 100)]) (rest := []) C hZ (hc b u q hq) cw_set q_674 rfl (Nat.le_of_ble_eq_true rfl) ⟨Nat.le_of_ble_eq_true rfl, Nat.le_of_ble_eq_true rfl⟩ rfl ⟨Nat.le_of_ble_eq_true rfl, Nat.le_of_ble_eq_true rfl⟩ dL_change_330 (fun q19 hq19 => ?_)
  exact k_finUi (pc := 333) hret ⟨q19, hq19⟩ rfl rfl rfl (Nat.le_of_ble_eq_true rfl) (Nat.le_of_ble_eq_true rfl) dL_change_333
set_option maxRecDepth 100000 in
theorem cg_16b (l : Launch) (hl0 : l.stackTraces = false) (D : va_G) (cI cJ cO : ClassId) (z : zT) {T : Int} {V : pV} (hI : pInv T V) (hT : 0 ≤ T ∧ T < 19000) (p0 p1 : Int32) (hx : (pLow p0 22) = 16) (h2 : ¬ pLow p1 2 = 0) : ∃ (r : Int32) (V2 : pV), pInv (T + 9) V2 ∧ pMeth l D cI cJ cO z yL_change cL_change 5 .int 9 200 26 331 [.int p0, .int p1] V r V2 := by
  obtain ⟨r, V2, hI2, hc⟩ := pw_set l hl0 D cI cJ cO z hI 7 (pLow (p1 / 2) 100)
  refine ⟨r, V2, hI2.up (by omega), fun b u q hq => ?_⟩
  refine kUi_of (own := RL) (lv := [(0, .ref b), (1, .int p0), (2, .int p1)]) rfl rfl (by decide) (Nat.le_of_ble_eq_true rfl) ?_
  intro p e s m args below meth c Q A C hZ hret
  refine k_iload_n (pc := 0) C rfl 2 rfl dL_change_0 ?_
  refine k_bipush (pc := 1) C bipush_13 dL_change_1 ?_
  refine k_callS0 (pc := 3) (As := [.int p1, .int 13]) (rest := []) C (c_L_low l D cI cJ cO p1 13 (by decide)) cws_L_low q_670 rfl (Nat.le_of_ble_eq_true rfl) ⟨Nat.le_of_ble_eq_true rfl, Nat.le_of_ble_eq_true rfl⟩ rfl ⟨Nat.le_of_ble_eq_true rfl, Nat.le_of_ble_eq_true rfl⟩ dL_change_3 ?_
  refine k_istore_n (pc := 6) (lv2 := [(3, .int (pLow p1 13)), (0, .ref b), (1, .int p0), (2, .int p1)]) C rfl (by decide) rfl dL_change_6 ?_
  refine k_iload_n (pc := 7) C rfl 3 rfl dL_change_7 ?_
  refine k_bipush (pc := 8) C bipush_13 dL_change_8 ?_
  refine k_idiv (pc := 10) C (by decide) dL_change_10 ?_
  refine k_bipush (pc := 11) C bipush_60 dL_change_11 ?_
  refine k_callS0 (pc := 13) (As := [.int (p1 / 13), .int 60]) (rest := []) C (c_L_low l D cI cJ cO (p1 / 13) 60 (by decide)) cws_L_low q_670 rfl (Nat.le_of_ble_eq_true rfl) ⟨Nat.le_of_ble_eq_true rfl, Nat.le_of_ble_eq_true rfl⟩ rfl ⟨Nat.le_of_ble_eq_true rfl, Nat.le_of_ble_eq_true rfl⟩ dL_change_13 ?_
  refine k_istore (pc := 16) (lv2 := [(4, .int (pLow (p1 / 13) 60)), (3, .int (pLow p1 13)), (0, .ref b), (1, .int p0), (2, .int p1)]) C (by decide) rfl dL_change_16 ?_
  refine k_iload_n (pc := 18) C rfl 3 rfl dL_change_18 ?_
  refine k_bipush (pc := 19) C bipush_22 dL_change_19 ?_
  refine k_callS0 (pc := 21) (As := [.int p0, .int 22]) (rest := []) C (c_L_low l D cI cJ cO p0 22 (by decide)) cws_L_low q_670 rfl (Nat.le_of_ble_eq_true rfl) ⟨Nat.le_of_ble_eq_true rfl, Nat.le_of_ble_eq_true rfl⟩ rfl ⟨Nat.le_of_ble_eq_true rfl, Nat.le_of_ble_eq_true rfl⟩ dL_change_21 ?_
  refine k_tsIn (pc := 24) (tgt := 306) C 16 hx (by decide) (by decide) rfl (by decide) dL_change_24 ?_
  refine k_aload_n (pc := 306) C rfl 2 rfl dL_change_306 ?_
  refine k_iload_n (pc := 307) C rfl 4 rfl dL_change_307 ?_
  refine k_iconst (pc := 308) C iconst_2 dL_change_308 ?_
  refine k_callS0 (pc := 309) (As := [.int p1, .int 2]) (rest := [.ref b]) C (c_L_low l D cI cJ cO p1 2 (by decide)) cws_L_low q_670 rfl (Nat.le_of_ble_eq_true rfl) ⟨Nat.le_of_ble_eq_true rfl, Nat.le_of_ble_eq_true rfl⟩ rfl ⟨Nat.le_of_ble_eq_true rfl, Nat.le_of_ble_eq_true rfl⟩ dL_change_309 ?_
  refine k_if_ne (pc := 312) (tgt := 320) C dL_change_312 (by decide) (fun _ => ?_) (fun z9 => absurd z9 (h2))
  refine k_bipush (pc := 320) C bipush_7 dL_change_320 ?_
  refine k_iload_n (pc := 322) C rfl 4 rfl dL_change_322 ?_
  refine k_iconst (pc := 323) C iconst_2 dL_change_323 ?_
  refine k_idiv (pc := 324) C (by decide) dL_change_324 ?_
  refine k_bipush (pc := 325) C bipush_100 dL_change_325 ?_
  refine k_callS0 (pc := 327) (As := [.int (p1 / 2), .int 100]) (rest := [.int 7, .ref b]) C (c_L_low l D cI cJ cO (p1 / 2) 100 (by decide)) cws_L_low q_670 rfl (Nat.le_of_ble_eq_true rfl) ⟨Nat.le_of_ble_eq_true rfl, Nat.le_of_ble_eq_true rfl⟩ rfl ⟨Nat.le_of_ble_eq_true rfl, Nat.le_of_ble_eq_true rfl⟩ dL_change_327 ?_
  refine k_pcall (pc := 330) (As := [.int 7, .int (pLow (p1 / 2) 100)]) (rest := []) C hZ (hc b u q hq) cw_set q_674 rfl (Nat.le_of_ble_eq_true rfl) ⟨Nat.le_of_ble_eq_true rfl, Nat.le_of_ble_eq_true rfl⟩ rfl ⟨Nat.le_of_ble_eq_true rfl, Nat.le_of_ble_eq_true rfl⟩ dL_change_330 (fun q20 hq20 => ?_)
  exact k_finUi (pc := 333) hret ⟨q20, hq20⟩ rfl rfl rfl (Nat.le_of_ble_eq_true rfl) (Nat.le_of_ble_eq_true rfl) dL_change_333
set_option maxRecDepth 100000 in
theorem cg_d (l : Launch) (hl0 : l.stackTraces = false) (D : va_G) (cI cJ cO : ClassId) (z : zT) {T : Int} {V : pV} (hI : pInv T V) (hT : 0 ≤ T ∧ T < 19000) (p0 p1 : Int32) (hx : (pLow p0 22).toInt < 0 ∨ 16 < (pLow p0 22).toInt) : ∃ (r : Int32) (V2 : pV), pInv (T + 9) V2 ∧ pMeth l D cI cJ cO z yL_change cL_change 5 .int 9 200 26 331 [.int p0, .int p1] V r V2 := by
  have hp : kIn (1 + (pLow p1 9)) 1 9 := by
    have h := low_in p1 (n := 9) (by decide)
    have e : Int32.toInt 9 = 9 := by decide
    have k := kIn.add (kIn.lit (x := 1) (n := 1) (by decide)) (show kIn (pLow p1 9) 0 8 from ⟨h.1, by have := h.2; omega⟩) (by decide) (by decide)
    exact k.wk (by decide) (by decide)
  obtain ⟨r, V2, hI2, hc⟩ := pw_pass l hl0 D cI cJ cO z hI hT hp
  refine ⟨r, V2, hI2, fun b u q hq => ?_⟩
  refine kUi_of (own := RL) (lv := [(0, .ref b), (1, .int p0), (2, .int p1)]) rfl rfl (by decide) (Nat.le_of_ble_eq_true rfl) ?_
  intro p e s m args below meth c Q A C hZ hret
  refine k_iload_n (pc := 0) C rfl 2 rfl dL_change_0 ?_
  refine k_bipush (pc := 1) C bipush_13 dL_change_1 ?_
  refine k_callS0 (pc := 3) (As := [.int p1, .int 13]) (rest := []) C (c_L_low l D cI cJ cO p1 13 (by decide)) cws_L_low q_670 rfl (Nat.le_of_ble_eq_true rfl) ⟨Nat.le_of_ble_eq_true rfl, Nat.le_of_ble_eq_true rfl⟩ rfl ⟨Nat.le_of_ble_eq_true rfl, Nat.le_of_ble_eq_true rfl⟩ dL_change_3 ?_
  refine k_istore_n (pc := 6) (lv2 := [(3, .int (pLow p1 13)), (0, .ref b), (1, .int p0), (2, .int p1)]) C rfl (by decide) rfl dL_change_6 ?_
  refine k_iload_n (pc := 7) C rfl 3 rfl dL_change_7 ?_
  refine k_bipush (pc := 8) C bipush_13 dL_change_8 ?_
  refine k_idiv (pc := 10) C (by decide) dL_change_10 ?_
  refine k_bipush (pc := 11) C bipush_60 dL_change_11 ?_
  refine k_callS0 (pc := 13) (As := [.int (p1 / 13), .int 60]) (rest := []) C (c_L_low l D cI cJ cO (p1 / 13) 60 (by decide)) cws_L_low q_670 rfl (Nat.le_of_ble_eq_true rfl) ⟨Nat.le_of_ble_eq_true rfl, Nat.le_of_ble_eq_true rfl⟩ rfl ⟨Nat.le_of_ble_eq_true rfl, Nat.le_of_ble_eq_true rfl⟩ dL_change_13 ?_
  refine k_istore (pc := 16) (lv2 := [(4, .int (pLow (p1 / 13) 60)), (3, .int (pLow p1 13)), (0, .ref b), (1, .int p0), (2, .int p1)]) C (by decide) rfl dL_change_16 ?_
  refine k_iload_n (pc := 18) C rfl 3 rfl dL_change_18 ?_
  refine k_bipush (pc := 19) C bipush_22 dL_change_19 ?_
  refine k_callS0 (pc := 21) (As := [.int p0, .int 22]) (rest := []) C (c_L_low l D cI cJ cO p0 22 (by decide)) cws_L_low q_670 rfl (Nat.le_of_ble_eq_true rfl) ⟨Nat.le_of_ble_eq_true rfl, Nat.le_of_ble_eq_true rfl⟩ rfl ⟨Nat.le_of_ble_eq_true rfl, Nat.le_of_ble_eq_true rfl⟩ dL_change_21 ?_
  refine k_tsOut (pc := 24) (tgt := 334) C hx (by decide) dL_change_24 ?_
  refine k_aload_n (pc := 334) C rfl 2 rfl dL_change_334 ?_
  refine k_iconst (pc := 335) C iconst_1 dL_change_335 ?_
  refine k_iload_n (pc := 336) C rfl 4 rfl dL_change_336 ?_
  refine k_bipush (pc := 337) C bipush_9 dL_change_337 ?_
  refine k_callS0 (pc := 339) (As := [.int p1, .int 9]) (rest := [.int 1, .ref b]) C (c_L_low l D cI cJ cO p1 9 (by decide)) cws_L_low q_670 rfl (Nat.le_of_ble_eq_true rfl) ⟨Nat.le_of_ble_eq_true rfl, Nat.le_of_ble_eq_true rfl⟩ rfl ⟨Nat.le_of_ble_eq_true rfl, Nat.le_of_ble_eq_true rfl⟩ dL_change_339 ?_
  refine k_iadd (pc := 342) C dL_change_342 ?_
  refine k_pcall (pc := 343) (As := [.int (1 + (pLow p1 9))]) (rest := []) C hZ (hc b u q hq) cw_pass q_384 rfl (Nat.le_of_ble_eq_true rfl) ⟨Nat.le_of_ble_eq_true rfl, Nat.le_of_ble_eq_true rfl⟩ rfl ⟨Nat.le_of_ble_eq_true rfl, Nat.le_of_ble_eq_true rfl⟩ dL_change_343 (fun q21 hq21 => ?_)
  exact k_finUi (pc := 346) hret ⟨q21, hq21⟩ rfl rfl rfl (Nat.le_of_ble_eq_true rfl) (Nat.le_of_ble_eq_true rfl) dL_change_346
theorem pm_change (l : Launch) (hl0 : l.stackTraces = false) (D : va_G) (cI cJ cO : ClassId) (z : zT) {T : Int} {V : pV} (hI : pInv T V) (hT : 0 ≤ T ∧ T < 19000) (p0 p1 : Int32) : ∃ (r : Int32) (V2 : pV), pInv (T + 9) V2 ∧ pMeth l D cI cJ cO z yL_change cL_change 5 .int 9 200 26 331 [.int p0, .int p1] V r V2 := by
  have h := low_in p0 (n := 22) (by decide)
  by_cases hx : 16 < (pLow p0 22).toInt
  · exact cg_d l hl0 D cI cJ cO z hI hT p0 p1 (Or.inr hx)
  · obtain ⟨e1, e2⟩ := nIofI (p := (pLow p0 22)) (N := 16) h.1 (by omega)
    generalize (pLow p0 22).toInt.toNat = k at e1 e2
    have hk : k ≤ 16 := by omega
    clear e2
    exact match k, e1, hk with
    | 0, e1, _ => cg_0 l hl0 D cI cJ cO z hI hT p0 p1 (e1.trans (by decide))
    | 1, e1, _ => cg_1 l hl0 D cI cJ cO z hI hT p0 p1 (e1.trans (by decide))
    | 2, e1, _ => cg_2 l hl0 D cI cJ cO z hI hT p0 p1 (e1.trans (by decide))
    | 3, e1, _ => cg_3 l hl0 D cI cJ cO z hI hT p0 p1 (e1.trans (by decide))
    | 4, e1, _ => cg_4 l hl0 D cI cJ cO z hI hT p0 p1 (e1.trans (by decide))
    | 5, e1, _ => by
      by_cases h2 : pLow p1 2 = 0
      · exact cg_5a l hl0 D cI cJ cO z hI hT p0 p1 (e1.trans (by decide)) h2
      · exact cg_5b l hl0 D cI cJ cO z hI hT p0 p1 (e1.trans (by decide)) h2
    | 6, e1, _ => cg_6 l hl0 D cI cJ cO z hI hT p0 p1 (e1.trans (by decide))
    | 7, e1, _ => cg_7 l hl0 D cI cJ cO z hI hT p0 p1 (e1.trans (by decide))
    | 8, e1, _ => cg_8 l hl0 D cI cJ cO z hI hT p0 p1 (e1.trans (by decide))
    | 9, e1, _ => cg_9 l hl0 D cI cJ cO z hI hT p0 p1 (e1.trans (by decide))
    | 10, e1, _ => cg_10 l hl0 D cI cJ cO z hI hT p0 p1 (e1.trans (by decide))
    | 11, e1, _ => cg_11 l hl0 D cI cJ cO z hI hT p0 p1 (e1.trans (by decide))
    | 12, e1, _ => cg_12 l hl0 D cI cJ cO z hI hT p0 p1 (e1.trans (by decide))
    | 13, e1, _ => cg_13 l hl0 D cI cJ cO z hI hT p0 p1 (e1.trans (by decide))
    | 14, e1, _ => by
      by_cases h2 : pLow p1 2 = 0
      · exact cg_14a l hl0 D cI cJ cO z hI hT p0 p1 (e1.trans (by decide)) h2
      · exact cg_14b l hl0 D cI cJ cO z hI hT p0 p1 (e1.trans (by decide)) h2
    | 15, e1, _ => cg_15 l hl0 D cI cJ cO z hI hT p0 p1 (e1.trans (by decide))
    | 16, e1, _ => by
      by_cases h2 : pLow p1 2 = 0
      · exact cg_16a l hl0 D cI cJ cO z hI hT p0 p1 (e1.trans (by decide)) h2
      · exact cg_16b l hl0 D cI cJ cO z hI hT p0 p1 (e1.trans (by decide)) h2
    | n + 17, _, hk => absurd hk (by omega)
theorem cws_change : kCWs yL_change cL_change 5 (some .int) 3 := ⟨⟨q_669, q_15, by decide +kernel⟩, q_668⟩