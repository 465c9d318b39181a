theorem q_51 : Cond.initialized RX5 ∈ lw_all := kq 51 (by decide +kernel) (by decide +kernel)
theorem q_66 : Cond.methodLink RX10 1 objectInit ∈ lw_all := kq 66 (by decide +kernel) (by decide +kernel)
theorem q_69 : Cond.classLink RX10 7 RX7 ∈ lw_all := kq 69 (by decide +kernel) (by decide +kernel)
theorem q_70 : Cond.instantiable RX7 11 ∈ lw_all := kq 70 (by decide +kernel) (by decide +kernel)
theorem q_71 : Cond.methodLinkNest RX10 9 yX7_init RX10 ∈ lw_nest := kqn 71 (by decide +kernel) (by decide +kernel)
theorem q_72 : Cond.instanceMethod yX7_init ∈ lw_all := kq 72 (by decide +kernel) (by decide +kernel)
theorem q_73 : Cond.code yX7_init cX7_init 1 none ∈ lw_all := kq 73 (by decide +kernel) (by decide +kernel)
theorem q_346 : Cond.classLink RX10 19 RX5 ∈ lw_all := kq 346 (by decide +kernel) (by decide +kernel)
theorem q_347 : Cond.instantiable RX5 3 ∈ lw_all := kq 347 (by decide +kernel) (by decide +kernel)
theorem q_348 : Cond.methodLinkNest RX10 21 yX5_init RX10 ∈ lw_nest := kqn 348 (by decide +kernel) (by decide +kernel)
theorem q_349 : Cond.instanceMethod yX5_init ∈ lw_all := kq 349 (by decide +kernel) (by decide +kernel)
theorem q_350 : Cond.code yX5_init cX5_init 1 none ∈ lw_all := kq 350 (by decide +kernel) (by decide +kernel)
theorem q_365 : Cond.classLink RX10 26 RX8 ∈ lw_all := kq 365 (by decide +kernel) (by decide +kernel)
theorem q_366 : Cond.instantiable RX8 6 ∈ lw_all := kq 366 (by decide +kernel) (by decide +kernel)
theorem q_367 : Cond.methodLinkNest RX10 28 yX8_init RX10 ∈ lw_nest := kqn 367 (by decide +kernel) (by decide +kernel)
theorem q_368 : Cond.instanceMethod yX8_init ∈ lw_all := kq 368 (by decide +kernel) (by decide +kernel)
theorem q_369 : Cond.code yX8_init cX8_init 1 none ∈ lw_all := kq 369 (by decide +kernel) (by decide +kernel)
theorem q_394 : Cond.fieldLink RX10 10 "ClimateChamber" "now" "LClimateChamber$State;" ∈ lw_all := kq 394 (by decide +kernel) (by decide +kernel)
theorem q_395 : Cond.fieldLink RX10 16 "ClimateChamber" "trial" "LClimateChamber$State;" ∈ lw_all := kq 395 (by decide +kernel) (by decide +kernel)
theorem q_396 : Cond.fieldLink RX10 22 "ClimateChamber" "saved" "LClimateChamber$SavedStates;" ∈ lw_all := kq 396 (by decide +kernel) (by decide +kernel)
theorem q_397 : Cond.fieldLink RX10 29 "ClimateChamber" "text" "LClimateChamber$Text;" ∈ lw_all := kq 397 (by decide +kernel) (by decide +kernel)
theorem q_985 : Cond.methodLink RX11 1 objectInit ∈ lw_all := kq 985 (by decide +kernel) (by decide +kernel)
theorem q_987 : Cond.constantLong RX11 28 (15) ∈ lw_all := kq 987 (by decide +kernel) (by decide +kernel)
theorem q_991 : Cond.constantLong RX11 36 (5) ∈ lw_all := kq 991 (by decide +kernel) (by decide +kernel)
theorem q_993 : Cond.constantLong RX11 40 (400) ∈ lw_all := kq 993 (by decide +kernel) (by decide +kernel)
theorem q_997 : Cond.constantLong RX11 48 (17) ∈ lw_all := kq 997 (by decide +kernel) (by decide +kernel)
theorem q_1041 : Cond.arrayClass .long ∈ lw_all := kq 1041 (by decide +kernel) (by decide +kernel)
theorem sipush_1764 : (Int16.ofInt 1764).toInt32 = 1764 := by decide
theorem cwi_X5_init : kCWi yX5_init cX5_init 1 0 := ⟨⟨q_350, q_51, by decide +kernel⟩, rfl, q_349⟩
theorem cwi_X7_init : kCWi yX7_init cX7_init 1 0 := ⟨⟨q_73, q_42, by decide +kernel⟩, rfl, q_72⟩
theorem cwi_X8_init : kCWi yX8_init cX8_init 1 0 := ⟨⟨q_369, q_52, by decide +kernel⟩, rfl, q_368⟩

/-- the reference's row, at first -/
def iW : Nat → Int64 := (vp_updL (vp_updL (vp_updL (vp_updL (vp_updL (vp_updL (vp_updL (vp_updL (vp_updL (vp_updL (vp_updL (vp_updL (vp_updL (vp_updL (vp_updL (vp_updL (vp_updL (vp_updL (vp_updL (vp_updL (vp_updL (vp_updL (vp_updL (vp_updL (fun _ => 0) 0 20) 1 15) 2 10) 3 10) 4 2) 5 3) 6 5) 7 20) 8 3) 9 200) 10 400) 11 60) 12 200) 13 400) 14 200) 15 400) 19 50) 21 2) 20 50) 22 2) 23 1000) 24 1000) 44 1) 47 17)
theorem dX11_init_0 : decode cX11_init 0 = .ok (.aload_n 0, 1) := by decide +kernel
theorem dX11_init_1 : decode cX11_init 1 = .ok (.invokespecial 1, 3) := by decide +kernel
theorem dX11_init_4 : decode cX11_init 4 = .ok (.aload_n 0, 1) := by decide +kernel
theorem dX11_init_5 : decode cX11_init 5 = .ok (.sipush 294, 3) := by decide +kernel
theorem dX11_init_8 : decode cX11_init 8 = .ok (.newarray .long, 2) := by decide +kernel
theorem dX11_init_10 : decode cX11_init 10 = .ok (.putfield 7, 3) := by decide +kernel
theorem dX11_init_13 : decode cX11_init 13 = .ok (.aload_n 0, 1) := by decide +kernel
theorem dX11_init_14 : decode cX11_init 14 = .ok (.sipush 1764, 3) := by decide +kernel
theorem dX11_init_17 : decode cX11_init 17 = .ok (.newarray .long, 2) := by decide +kernel
theorem dX11_init_19 : decode cX11_init 19 = .ok (.putfield 13, 3) := by decide +kernel
theorem dX11_init_22 : decode cX11_init 22 = .ok (.aload_n 0, 1) := by decide +kernel
theorem dX11_init_23 : decode cX11_init 23 = .ok (.sipush 294, 3) := by decide +kernel
theorem dX11_init_26 : decode cX11_init 26 = .ok (.newarray .long, 2) := by decide +kernel
theorem dX11_init_28 : decode cX11_init 28 = .ok (.putfield 16, 3) := by decide +kernel
theorem dX11_init_31 : decode cX11_init 31 = .ok (.aload_n 0, 1) := by decide +kernel
theorem dX11_init_32 : decode cX11_init 32 = .ok (.bipush 90, 2) := by decide +kernel
theorem dX11_init_34 : decode cX11_init 34 = .ok (.newarray .int, 2) := by decide +kernel
theorem dX11_init_36 : decode cX11_init 36 = .ok (.putfield 19, 3) := by decide +kernel
theorem dX11_init_39 : decode cX11_init 39 = .ok (.aload_n 0, 1) := by decide +kernel
theorem dX11_init_40 : decode cX11_init 40 = .ok (.bipush 48, 2) := by decide +kernel
theorem dX11_init_42 : decode cX11_init 42 = .ok (.newarray .int, 2) := by decide +kernel
theorem dX11_init_44 : decode cX11_init 44 = .ok (.putfield 23, 3) := by decide +kernel
theorem dX11_init_47 : decode cX11_init 47 = .ok (.aload_n 0, 1) := by decide +kernel
theorem dX11_init_48 : decode cX11_init 48 = .ok (.getfield 7, 3) := by decide +kernel
theorem dX11_init_51 : decode cX11_init 51 = .ok (.iconst 0, 1) := by decide +kernel
theorem dX11_init_52 : decode cX11_init 52 = .ok (.ldc2_w 26, 3) := by decide +kernel
theorem dX11_init_55 : decode cX11_init 55 = .ok (.lastore, 1) := by decide +kernel
theorem dX11_init_56 : decode cX11_init 56 = .ok (.aload_n 0, 1) := by decide +kernel
theorem dX11_init_57 : decode cX11_init 57 = .ok (.getfield 7, 3) := by decide +kernel
theorem dX11_init_60 : decode cX11_init 60 = .ok (.iconst 1, 1) := by decide +kernel
theorem dX11_init_61 : decode cX11_init 61 = .ok (.ldc2_w 28, 3) := by decide +kernel
theorem dX11_init_64 : decode cX11_init 64 = .ok (.lastore, 1) := by decide +kernel
theorem dX11_init_65 : decode cX11_init 65 = .ok (.aload_n 0, 1) := by decide +kernel
theorem dX11_init_66 : decode cX11_init 66 = .ok (.getfield 7, 3) := by decide +kernel
theorem dX11_init_69 : decode cX11_init 69 = .ok (.iconst 2, 1) := by decide +kernel
theorem dX11_init_70 : decode cX11_init 70 = .ok (.ldc2_w 30, 3) := by decide +kernel
theorem dX11_init_73 : decode cX11_init 73 = .ok (.lastore, 1) := by decide +kernel
theorem dX11_init_74 : decode cX11_init 74 = .ok (.aload_n 0, 1) := by decide +kernel
theorem dX11_init_75 : decode cX11_init 75 = .ok (.getfield 7, 3) := by decide +kernel
theorem dX11_init_78 : decode cX11_init 78 = .ok (.iconst 3, 1) := by decide +kernel
theorem dX11_init_79 : decode cX11_init 79 = .ok (.ldc2_w 30, 3) := by decide +kernel
theorem dX11_init_82 : decode cX11_init 82 = .ok (.lastore, 1) := by decide +kernel
theorem dX11_init_83 : decode cX11_init 83 = .ok (.aload_n 0, 1) := by decide +kernel
theorem dX11_init_84 : decode cX11_init 84 = .ok (.getfield 7, 3) := by decide +kernel
theorem dX11_init_87 : decode cX11_init 87 = .ok (.iconst 4, 1) := by decide +kernel
theorem dX11_init_88 : decode cX11_init 88 = .ok (.ldc2_w 32, 3) := by decide +kernel
theorem dX11_init_91 : decode cX11_init 91 = .ok (.lastore, 1) := by decide +kernel
theorem dX11_init_92 : decode cX11_init 92 = .ok (.aload_n 0, 1) := by decide +kernel
theorem dX11_init_93 : decode cX11_init 93 = .ok (.getfield 7, 3) := by decide +kernel
theorem dX11_init_96 : decode cX11_init 96 = .ok (.iconst 5, 1) := by decide +kernel
theorem dX11_init_97 : decode cX11_init 97 = .ok (.ldc2_w 34, 3) := by decide +kernel
theorem dX11_init_100 : decode cX11_init 100 = .ok (.lastore, 1) := by decide +kernel
theorem dX11_init_101 : decode cX11_init 101 = .ok (.aload_n 0, 1) := by decide +kernel
theorem dX11_init_102 : decode cX11_init 102 = .ok (.getfield 7, 3) := by decide +kernel
theorem dX11_init_105 : decode cX11_init 105 = .ok (.bipush 6, 2) := by decide +kernel
theorem dX11_init_107 : decode cX11_init 107 = .ok (.ldc2_w 36, 3) := by decide +kernel
theorem dX11_init_110 : decode cX11_init 110 = .ok (.lastore, 1) := by decide +kernel
theorem dX11_init_111 : decode cX11_init 111 = .ok (.aload_n 0, 1) := by decide +kernel
theorem dX11_init_112 : decode cX11_init 112 = .ok (.getfield 7, 3) := by decide +kernel
theorem dX11_init_115 : decode cX11_init 115 = .ok (.bipush 7, 2) := by decide +kernel
theorem dX11_init_117 : decode cX11_init 117 = .ok (.ldc2_w 26, 3) := by decide +kernel
theorem dX11_init_120 : decode cX11_init 120 = .ok (.lastore, 1) := by decide +kernel
theorem dX11_init_121 : decode cX11_init 121 = .ok (.aload_n 0, 1) := by decide +kernel
theorem dX11_init_122 : decode cX11_init 122 = .ok (.getfield 7, 3) := by decide +kernel
theorem dX11_init_125 : decode cX11_init 125 = .ok (.bipush 8, 2) := by decide +kernel
theorem dX11_init_127 : decode cX11_init 127 = .ok (.ldc2_w 34, 3) := by decide +kernel
theorem dX11_init_130 : decode cX11_init 130 = .ok (.lastore, 1) := by decide +kernel
theorem dX11_init_131 : decode cX11_init 131 = .ok (.aload_n 0, 1) := by decide +kernel
theorem dX11_init_132 : decode cX11_init 132 = .ok (.getfield 7, 3) := by decide +kernel
theorem dX11_init_135 : decode cX11_init 135 = .ok (.bipush 9, 2) := by decide +kernel
theorem dX11_init_137 : decode cX11_init 137 = .ok (.ldc2_w 38, 3) := by decide +kernel
theorem dX11_init_140 : decode cX11_init 140 = .ok (.lastore, 1) := by decide +kernel
theorem dX11_init_141 : decode cX11_init 141 = .ok (.aload_n 0, 1) := by decide +kernel
theorem dX11_init_142 : decode cX11_init 142 = .ok (.getfield 7, 3) := by decide +kernel
theorem dX11_init_145 : decode cX11_init 145 = .ok (.bipush 10, 2) := by decide +kernel
theorem dX11_init_147 : decode cX11_init 147 = .ok (.ldc2_w 40, 3) := by decide +kernel
theorem dX11_init_150 : decode cX11_init 150 = .ok (.lastore, 1) := by decide +kernel
theorem dX11_init_151 : decode cX11_init 151 = .ok (.aload_n 0, 1) := by decide +kernel
theorem dX11_init_152 : decode cX11_init 152 = .ok (.getfield 7, 3) := by decide +kernel
theorem dX11_init_155 : decode cX11_init 155 = .ok (.bipush 11, 2) := by decide +kernel
theorem dX11_init_157 : decode cX11_init 157 = .ok (.ldc2_w 42, 3) := by decide +kernel
theorem dX11_init_160 : decode cX11_init 160 = .ok (.lastore, 1) := by decide +kernel
theorem dX11_init_161 : decode cX11_init 161 = .ok (.aload_n 0, 1) := by decide +kernel
theorem dX11_init_162 : decode cX11_init 162 = .ok (.getfield 7, 3) := by decide +kernel
theorem dX11_init_165 : decode cX11_init 165 = .ok (.bipush 12, 2) := by decide +kernel
theorem dX11_init_167 : decode cX11_init 167 = .ok (.ldc2_w 38, 3) := by decide +kernel
theorem dX11_init_170 : decode cX11_init 170 = .ok (.lastore, 1) := by decide +kernel
theorem dX11_init_171 : decode cX11_init 171 = .ok (.aload_n 0, 1) := by decide +kernel
theorem dX11_init_172 : decode cX11_init 172 = .ok (.getfield 7, 3) := by decide +kernel
theorem dX11_init_175 : decode cX11_init 175 = .ok (.bipush 13, 2) := by decide +kernel
theorem dX11_init_177 : decode cX11_init 177 = .ok (.ldc2_w 40, 3) := by decide +kernel
theorem dX11_init_180 : decode cX11_init 180 = .ok (.lastore, 1) := by decide +kernel
theorem dX11_init_181 : decode cX11_init 181 = .ok (.aload_n 0, 1) := by decide +kernel
theorem dX11_init_182 : decode cX11_init 182 = .ok (.getfield 7, 3) := by decide +kernel
theorem dX11_init_185 : decode cX11_init 185 = .ok (.bipush 14, 2) := by decide +kernel
theorem dX11_init_187 : decode cX11_init 187 = .ok (.ldc2_w 38, 3) := by decide +kernel
theorem dX11_init_190 : decode cX11_init 190 = .ok (.lastore, 1) := by decide +kernel
theorem dX11_init_191 : decode cX11_init 191 = .ok (.aload_n 0, 1) := by decide +kernel
theorem dX11_init_192 : decode cX11_init 192 = .ok (.getfield 7, 3) := by decide +kernel
theorem dX11_init_195 : decode cX11_init 195 = .ok (.bipush 15, 2) := by decide +kernel
theorem dX11_init_197 : decode cX11_init 197 = .ok (.ldc2_w 40, 3) := by decide +kernel
theorem dX11_init_200 : decode cX11_init 200 = .ok (.lastore, 1) := by decide +kernel
theorem dX11_init_201 : decode cX11_init 201 = .ok (.iconst 0, 1) := by decide +kernel
theorem dX11_init_202 : decode cX11_init 202 = .ok (.istore_n 1, 1) := by decide +kernel
theorem dX11_init_203 : decode cX11_init 203 = .ok (.iload_n 1, 1) := by decide +kernel
theorem dX11_init_204 : decode cX11_init 204 = .ok (.iconst 2, 1) := by decide +kernel
theorem dX11_init_205 : decode cX11_init 205 = .ok (.if_icmp .ge 33, 3) := by decide +kernel
theorem dX11_init_208 : decode cX11_init 208 = .ok (.aload_n 0, 1) := by decide +kernel
theorem dX11_init_209 : decode cX11_init 209 = .ok (.getfield 7, 3) := by decide +kernel
theorem dX11_init_212 : decode cX11_init 212 = .ok (.bipush 19, 2) := by decide +kernel
theorem dX11_init_214 : decode cX11_init 214 = .ok (.iload_n 1, 1) := by decide +kernel
theorem dX11_init_215 : decode cX11_init 215 = .ok (.iadd, 1) := by decide +kernel
theorem dX11_init_216 : decode cX11_init 216 = .ok (.ldc2_w 44, 3) := by decide +kernel
theorem dX11_init_219 : decode cX11_init 219 = .ok (.lastore, 1) := by decide +kernel
theorem dX11_init_220 : decode cX11_init 220 = .ok (.aload_n 0, 1) := by decide +kernel
theorem dX11_init_221 : decode cX11_init 221 = .ok (.getfield 7, 3) := by decide +kernel
theorem dX11_init_224 : decode cX11_init 224 = .ok (.bipush 21, 2) := by decide +kernel
theorem dX11_init_226 : decode cX11_init 226 = .ok (.iload_n 1, 1) := by decide +kernel
theorem dX11_init_227 : decode cX11_init 227 = .ok (.iadd, 1) := by decide +kernel
theorem dX11_init_228 : decode cX11_init 228 = .ok (.ldc2_w 32, 3) := by decide +kernel
theorem dX11_init_231 : decode cX11_init 231 = .ok (.lastore, 1) := by decide +kernel
theorem dX11_init_232 : decode cX11_init 232 = .ok (.iinc 1 1, 3) := by decide +kernel
theorem dX11_init_235 : decode cX11_init 235 = .ok (.goto (-32), 3) := by decide +kernel
theorem dX11_init_238 : decode cX11_init 238 = .ok (.aload_n 0, 1) := by decide +kernel
theorem dX11_init_239 : decode cX11_init 239 = .ok (.getfield 7, 3) := by decide +kernel
theorem dX11_init_242 : decode cX11_init 242 = .ok (.bipush 23, 2) := by decide +kernel
theorem dX11_init_244 : decode cX11_init 244 = .ok (.ldc2_w 46, 3) := by decide +kernel
theorem dX11_init_247 : decode cX11_init 247 = .ok (.lastore, 1) := by decide +kernel
theorem dX11_init_248 : decode cX11_init 248 = .ok (.aload_n 0, 1) := by decide +kernel
theorem dX11_init_249 : decode cX11_init 249 = .ok (.getfield 7, 3) := by decide +kernel
theorem dX11_init_252 : decode cX11_init 252 = .ok (.bipush 24, 2) := by decide +kernel
theorem dX11_init_254 : decode cX11_init 254 = .ok (.ldc2_w 46, 3) := by decide +kernel
theorem dX11_init_257 : decode cX11_init 257 = .ok (.lastore, 1) := by decide +kernel
theorem dX11_init_258 : decode cX11_init 258 = .ok (.aload_n 0, 1) := by decide +kernel
theorem dX11_init_259 : decode cX11_init 259 = .ok (.getfield 7, 3) := by decide +kernel
theorem dX11_init_262 : decode cX11_init 262 = .ok (.bipush 44, 2) := by decide +kernel
theorem dX11_init_264 : decode cX11_init 264 = .ok (.lconst 1, 1) := by decide +kernel
theorem dX11_init_265 : decode cX11_init 265 = .ok (.lastore, 1) := by decide +kernel
theorem dX11_init_266 : decode cX11_init 266 = .ok (.aload_n 0, 1) := by decide +kernel
theorem dX11_init_267 : decode cX11_init 267 = .ok (.getfield 7, 3) := by decide +kernel
theorem dX11_init_270 : decode cX11_init 270 = .ok (.bipush 47, 2) := by decide +kernel
theorem dX11_init_272 : decode cX11_init 272 = .ok (.ldc2_w 48, 3) := by decide +kernel
theorem dX11_init_275 : decode cX11_init 275 = .ok (.lastore, 1) := by decide +kernel
theorem dX11_init_276 : decode cX11_init 276 = .ok (.return_, 1) := by decide +kernel
set_option maxRecDepth 100000 in
set_option maxHeartbeats 4000000 in
theorem c_X11_init (l : Launch) (D : va_G) (cI cJ cO : ClassId) (z : zT) (h_t : Nat) : kUv l yX11_init cX11_init 2 1 16 5 2490 D (kT cI cJ cO) z [.ref h_t] [(h_t, .inr (11, [.null, .null, .null, .null, .null, .int 0, .int 0, .int 0, .int 0, .int 0, .int 0, .int 0, .int 0, .int 0]))] (fun u : Nat → Nat => [(h_t, moE i0 (u 0) (u 1) (u 2) (u 3) (u 4)), (u 0, jA cJ 294 iW), (u 1, jA cJ 1764 (fun _ => 0)), (u 2, jA cJ 294 (fun _ => 0)), (u 3, iA cI 90 i0), (u 4, iA cI 48 i0)]) := by
  refine kUv_ofI (own := RX11) (lv := [(0, .ref h_t)]) rfl rfl rfl (by decide) (Nat.le_of_ble_eq_true rfl) ?_
  intro p e s m args below meth c Q A C hZ hin hret
  refine k_aload_n (pc := 0) C rfl 0 rfl dX11_init_0 ?_
  refine k_objInit (pc := 1) C q_985 q_67 q_68 ⟨Nat.le_of_ble_eq_true rfl, Nat.le_of_ble_eq_true rfl⟩ dX11_init_1 ?_
  refine k_aload_n (pc := 4) C rfl 0 rfl dX11_init_4 ?_
  refine k_sipush (pc := 5) C sipush_294 dX11_init_5 ?_
  refine k_newJ (pc := 8) (N := 294) (t0 := 1) C rfl q_1041 (by decide) (by decide) (by decide) ⟨Nat.le_of_ble_eq_true rfl, Nat.le_of_ble_eq_true rfl⟩ dX11_init_8 (fun q_1 => ?_)
  refine k_putF (pc := 10) (ws2 := [(h_t, .inr (11, [.ref q_1, .null, .null, .null, .null, .int 0, .int 0, .int 0, .int 0, .int 0, .int 0, .int 0, .int 0, .int 0])), (q_1, jA cJ 294 (fun _ => 0))]) C hin vX11 0 (by decide) rfl rfl q_998 rfl rfl 0 rfl (Nat.le_of_ble_eq_true rfl) rfl dX11_init_10 ?_
  refine k_aload_n (pc := 13) C rfl 0 rfl dX11_init_13 ?_
  refine k_sipush (pc := 14) C sipush_1764 dX11_init_14 ?_
  refine k_newJ (pc := 17) (N := 1764) (t0 := 1) C rfl q_1041 (by decide) (by decide) (by decide) ⟨Nat.le_of_ble_eq_true rfl, Nat.le_of_ble_eq_true rfl⟩ dX11_init_17 (fun q_2 => ?_)
  refine k_putF (pc := 19) (ws2 := [(h_t, .inr (11, [.ref q_1, .ref q_2, .null, .null, .null, .int 0, .int 0, .int 0, .int 0, .int 0, .int 0, .int 0, .int 0, .int 0])), (q_1, jA cJ 294 (fun _ => 0)), (q_2, jA cJ 1764 (fun _ => 0))]) C hin vX11 1 (by decide) rfl rfl q_999 rfl rfl 0 rfl (Nat.le_of_ble_eq_true rfl) rfl dX11_init_19 ?_
  refine k_aload_n (pc := 22) C rfl 0 rfl dX11_init_22 ?_
  refine k_sipush (pc := 23) C sipush_294 dX11_init_23 ?_
  refine k_newJ (pc := 26) (N := 294) (t0 := 1) C rfl q_1041 (by decide) (by decide) (by decide) ⟨Nat.le_of_ble_eq_true rfl, Nat.le_of_ble_eq_true rfl⟩ dX11_init_26 (fun q_3 => ?_)
  refine k_putF (pc := 28) (ws2 := [(h_t, .inr (11, [.ref q_1, .ref q_2, .ref q_3, .null, .null, .int 0, .int 0, .int 0, .int 0, .int 0, .int 0, .int 0, .int 0, .int 0])), (q_1, jA cJ 294 (fun _ => 0)), (q_2, jA cJ 1764 (fun _ => 0)), (q_3, jA cJ 294 (fun _ => 0))]) C hin vX11 2 (by decide) rfl rfl q_1000 rfl rfl 0 rfl (Nat.le_of_ble_eq_true rfl) rfl dX11_init_28 ?_
  refine k_aload_n (pc := 31) C rfl 0 rfl dX11_init_31 ?_
  refine k_bipush (pc := 32) C bipush_90 dX11_init_32 ?_
  refine k_newI (pc := 34) (N := 90) (t0 := 0) C rfl q_103 (by decide) (by decide) (by decide) ⟨Nat.le_of_ble_eq_true rfl, Nat.le_of_ble_eq_true rfl⟩ dX11_init_34 (fun q_4 => ?_)
  refine k_putF (pc := 36) (ws2 := [(h_t, .inr (11, [.ref q_1, .ref q_2, .ref q_3, .ref q_4, .null, .int 0, .int 0, .int 0, .int 0, .int 0, .int 0, .int 0, .int 0, .int 0])), (q_1, jA cJ 294 (fun _ => 0)), (q_2, jA cJ 1764 (fun _ => 0)), (q_3, jA cJ 294 (fun _ => 0)), (q_4, iA cI 90 (fun _ => 0))]) C hin vX11 3 (by decide) rfl rfl q_1001 rfl rfl 0 rfl (Nat.le_of_ble_eq_true rfl) rfl dX11_init_36 ?_
  refine k_aload_n (pc := 39) C rfl 0 rfl dX11_init_39 ?_
  refine k_bipush (pc := 40) C bipush_48 dX11_init_40 ?_
  refine k_newI (pc := 42) (N := 48) (t0 := 0) C rfl q_103 (by decide) (by decide) (by decide) ⟨Nat.le_of_ble_eq_true rfl, Nat.le_of_ble_eq_true rfl⟩ dX11_init_42 (fun q_5 => ?_)
  refine k_putF (pc := 44) (ws2 := [(h_t, .inr (11, [.ref q_1, .ref q_2, .ref q_3, .ref q_4, .ref q_5, .int 0, .int 0, .int 0, .int 0, .int 0, .int 0, .int 0, .int 0, .int 0])), (q_1, jA cJ 294 (fun _ => 0)), (q_2, jA cJ 1764 (fun _ => 0)), (q_3, jA cJ 294 (fun _ => 0)), (q_4, iA cI 90 (fun _ => 0)), (q_5, iA cI 48 (fun _ => 0))]) C hin vX11 4 (by decide) rfl rfl q_1002 rfl rfl 0 rfl (Nat.le_of_ble_eq_true rfl) rfl dX11_init_44 ?_
  refine k_aload_n (pc := 47) C rfl 0 rfl dX11_init_47 ?_
  refine k_get (pc := 48) C vX11 0 (by decide) q_998 0 rfl rfl dX11_init_48 ?_
  refine k_iconst (pc := 51) C iconst_0 dX11_init_51 ?_
  refine k_ldc2 (pc := 52) C q_986 dX11_init_52 ?_
  refine k_lastK (pc := 55) (ws2 := [(h_t, .inr (11, [.ref q_1, .ref q_2, .ref q_3, .ref q_4, .ref q_5, .int 0, .int 0, .int 0, .int 0, .int 0, .int 0, .int 0, .int 0, .int 0])), (q_1, jA cJ 294 (vp_updL (fun _ => 0) 0 20)), (q_2, jA cJ 1764 (fun _ => 0)), (q_3, jA cJ 294 (fun _ => 0)), (q_4, iA cI 90 (fun _ => 0)), (q_5, iA cI 48 (fun _ => 0))]) C 1 1 rfl rfl (k_vinc 0 cl_0 (by decide) (by decide)) cl_0 rfl dX11_init_55 ?_
  refine k_aload_n (pc := 56) C rfl 0 rfl dX11_init_56 ?_
  refine k_get (pc := 57) C vX11 0 (by decide) q_998 0 rfl rfl dX11_init_57 ?_
  refine k_iconst (pc := 60) C iconst_1 dX11_init_60 ?_
  refine k_ldc2 (pc := 61) C q_987 dX11_init_61 ?_
  refine k_lastK (pc := 64) (ws2 := [(h_t, .inr (11, [.ref q_1, .ref q_2, .ref q_3, .ref q_4, .ref q_5, .int 0, .int 0, .int 0, .int 0, .int 0, .int 0, .int 0, .int 0, .int 0])), (q_1, jA cJ 294 (vp_updL (vp_updL (fun _ => 0) 0 20) 1 15)), (q_2, jA cJ 1764 (fun _ => 0)), (q_3, jA cJ 294 (fun _ => 0)), (q_4, iA cI 90 (fun _ => 0)), (q_5, iA cI 48 (fun _ => 0))]) C 1 1 rfl rfl (k_vinc 1 cl_1 (by decide) (by decide)) cl_1 rfl dX11_init_64 ?_
  refine k_aload_n (pc := 65) C rfl 0 rfl dX11_init_65 ?_
  refine k_get (pc := 66) C vX11 0 (by decide) q_998 0 rfl rfl dX11_init_66 ?_
  refine k_iconst (pc := 69) C iconst_2 dX11_init_69 ?_
  refine k_ldc2 (pc := 70) C q_988 dX11_init_70 ?_
  refine k_lastK (pc := 73) (ws2 := [(h_t, .inr (11, [.ref q_1, .ref q_2, .ref q_3, .ref q_4, .ref q_5, .int 0, .int 0, .int 0, .int 0, .int 0, .int 0, .int 0, .int 0, .int 0])), (q_1, jA cJ 294 (vp_updL (vp_updL (vp_updL (fun _ => 0) 0 20) 1 15) 2 10)), (q_2, jA cJ 1764 (fun _ => 0)), (q_3, jA cJ 294 (fun _ => 0)), (q_4, iA cI 90 (fun _ => 0)), (q_5, iA cI 48 (fun _ => 0))]) C 1 1 rfl rfl (k_vinc 2 cl_2 (by decide) (by decide)) cl_2 rfl dX11_init_73 ?_
  refine k_aload_n (pc := 74) C rfl 0 rfl dX11_init_74 ?_
  refine k_get (pc := 75) C vX11 0 (by decide) q_998 0 rfl rfl dX11_init_75 ?_
  refine k_iconst (pc := 78) C iconst_3 dX11_init_78 ?_
  refine k_ldc2 (pc := 79) C q_988 dX11_init_79 ?_
  refine k_lastK (pc := 82) (ws2 := [(h_t, .inr (11, [.ref q_1, .ref q_2, .ref q_3, .ref q_4, .ref q_5, .int 0, .int 0, .int 0, .int 0, .int 0, .int 0, .int 0, .int 0, .int 0])), (q_1, jA cJ 294 (vp_updL (vp_updL (vp_updL (vp_updL (fun _ => 0) 0 20) 1 15) 2 10) 3 10)), (q_2, jA cJ 1764 (fun _ => 0)), (q_3, jA cJ 294 (fun _ => 0)), (q_4, iA cI 90 (fun _ => 0)), (q_5, iA cI 48 (fun _ => 0))]) C 1 1 rfl rfl (k_vinc 3 cl_3 (by decide) (by decide)) cl_3 rfl dX11_init_82 ?_
  refine k_aload_n (pc := 83) C rfl 0 rfl dX11_init_83 ?_
  refine k_get (pc := 84) C vX11 0 (by decide) q_998 0 rfl rfl dX11_init_84 ?_
  refine k_iconst (pc := 87) C iconst_4 dX11_init_87 ?_
  refine k_ldc2 (pc := 88) C q_989 dX11_init_88 ?_
  refine k_lastK (pc := 91) (ws2 := [(h_t, .inr (11, [.ref q_1, .ref q_2, .ref q_3, .ref q_4, .ref q_5, .int 0, .int 0, .int 0, .int 0, .int 0, .int 0, .int 0, .int 0, .int 0])), (q_1, jA cJ 294 (vp_updL (vp_updL (vp_updL (vp_updL (vp_updL (fun _ => 0) 0 20) 1 15) 2 10) 3 10) 4 2)), (q_2, jA cJ 1764 (fun _ => 0)), (q_3, jA cJ 294 (fun _ => 0)), (q_4, iA cI 90 (fun _ => 0)), (q_5, iA cI 48 (fun _ => 0))]) C 1 1 rfl rfl (k_vinc 4 cl_4 (by decide) (by decide)) cl_4 rfl dX11_init_91 ?_
  refine k_aload_n (pc := 92) C rfl 0 rfl dX11_init_92 ?_
  refine k_get (pc := 93) C vX11 0 (by decide) q_998 0 rfl rfl dX11_init_93 ?_
  refine k_iconst (pc := 96) C iconst_5 dX11_init_96 ?_
  refine k_ldc2 (pc := 97) C q_990 dX11_init_97 ?_
  refine k_lastK (pc := 100) (ws2 := [(h_t, .inr (11, [.ref q_1, .ref q_2, .ref q_3, .ref q_4, .ref q_5, .int 0, .int 0, .int 0, .int 0, .int 0, .int 0, .int 0, .int 0, .int 0])), (q_1, jA cJ 294 (vp_updL (vp_updL (vp_updL (vp_updL (vp_updL (vp_updL (fun _ => 0) 0 20) 1 15) 2 10) 3 10) 4 2) 5 3)), (q_2, jA cJ 1764 (fun _ => 0)), (q_3, jA cJ 294 (fun _ => 0)), (q_4, iA cI 90 (fun _ => 0)), (q_5, iA cI 48 (fun _ => 0))]) C 1 1 rfl rfl (k_vinc 5 cl_5 (by decide) (by decide)) cl_5 rfl dX11_init_100 ?_
  refine k_aload_n (pc := 101) C rfl 0 rfl dX11_init_101 ?_
  refine k_get (pc := 102) C vX11 0 (by decide) q_998 0 rfl rfl dX11_init_102 ?_
  refine k_bipush (pc := 105) C bipush_6 dX11_init_105 ?_
  refine k_ldc2 (pc := 107) C q_991 dX11_init_107 ?_
  refine k_lastK (pc := 110) (ws2 := [(h_t, .inr (11, [.ref q_1, .ref q_2, .ref q_3, .ref q_4, .ref q_5, .int 0, .int 0, .int 0, .int 0, .int 0, .int 0, .int 0, .int 0, .int 0])), (q_1, jA cJ 294 (vp_updL (vp_updL (vp_updL (vp_updL (vp_updL (vp_updL (vp_updL (fun _ => 0) 0 20) 1 15) 2 10) 3 10) 4 2) 5 3) 6 5)), (q_2, jA cJ 1764 (fun _ => 0)), (q_3, jA cJ 294 (fun _ => 0)), (q_4, iA cI 90 (fun _ => 0)), (q_5, iA cI 48 (fun _ => 0))]) C 1 1 rfl rfl (k_vinc 6 cl_6 (by decide) (by decide)) cl_6 rfl dX11_init_110 ?_
  refine k_aload_n (pc := 111) C rfl 0 rfl dX11_init_111 ?_
  refine k_get (pc := 112) C vX11 0 (by decide) q_998 0 rfl rfl dX11_init_112 ?_
  refine k_bipush (pc := 115) C bipush_7 dX11_init_115 ?_
  refine k_ldc2 (pc := 117) C q_986 dX11_init_117 ?_
  refine k_lastK (pc := 120) (ws2 := [(h_t, .inr (11, [.ref q_1, .ref q_2, .ref q_3, .ref q_4, .ref q_5, .int 0, .int 0, .int 0, .int 0, .int 0, .int 0, .int 0, .int 0, .int 0])), (q_1, jA cJ 294 (vp_updL (vp_updL (vp_updL (vp_updL (vp_updL (vp_updL (vp_updL (vp_updL (fun _ => 0) 0 20) 1 15) 2 10) 3 10) 4 2) 5 3) 6 5) 7 20)), (q_2, jA cJ 1764 (fun _ => 0)), (q_3, jA cJ 294 (fun _ => 0)), (q_4, iA cI 90 (fun _ => 0)), (q_5, iA cI 48 (fun _ => 0))]) C 1 1 rfl rfl (k_vinc 7 cl_7 (by decide) (by decide)) cl_7 rfl dX11_init_120 ?_
  refine k_aload_n (pc := 121) C rfl 0 rfl dX11_init_121 ?_
  refine k_get (pc := 122) C vX11 0 (by decide) q_998 0 rfl rfl dX11_init_122 ?_
  refine k_bipush (pc := 125) C bipush_8 dX11_init_125 ?_
  refine k_ldc2 (pc := 127) C q_990 dX11_init_127 ?_
  refine k_lastK (pc := 130) (ws2 := [(h_t, .inr (11, [.ref q_1, .ref q_2, .ref q_3, .ref q_4, .ref q_5, .int 0, .int 0, .int 0, .int 0, .int 0, .int 0, .int 0, .int 0, .int 0])), (q_1, jA cJ 294 (vp_updL (vp_updL (vp_updL (vp_updL (vp_updL (vp_updL (vp_updL (vp_updL (vp_updL (fun _ => 0) 0 20) 1 15) 2 10) 3 10) 4 2) 5 3) 6 5) 7 20) 8 3)), (q_2, jA cJ 1764 (fun _ => 0)), (q_3, jA cJ 294 (fun _ => 0)), (q_4, iA cI 90 (fun _ => 0)), (q_5, iA cI 48 (fun _ => 0))]) C 1 1 rfl rfl (k_vinc 8 cl_8 (by decide) (by decide)) cl_8 rfl dX11_init_130 ?_
  refine k_aload_n (pc := 131) C rfl 0 rfl dX11_init_131 ?_
  refine k_get (pc := 132) C vX11 0 (by decide) q_998 0 rfl rfl dX11_init_132 ?_
  refine k_bipush (pc := 135) C bipush_9 dX11_init_135 ?_
  refine k_ldc2 (pc := 137) C q_992 dX11_init_137 ?_
  refine k_lastK (pc := 140) (ws2 := [(h_t, .inr (11, [.ref q_1, .ref q_2, .ref q_3, .ref q_4, .ref q_5, .int 0, .int 0, .int 0, .int 0, .int 0, .int 0, .int 0, .int 0, .int 0])), (q_1, jA cJ 294 (vp_updL (vp_updL (vp_updL (vp_updL (vp_updL (vp_updL (vp_updL (vp_updL (vp_updL (vp_updL (fun _ => 0) 0 20) 1 15) 2 10) 3 10) 4 2) 5 3) 6 5) 7 20) 8 3) 9 200)), (q_2, jA cJ 1764 (fun _ => 0)), (q_3, jA cJ 294 (fun _ => 0)), (q_4, iA cI 90 (fun _ => 0)), (q_5, iA cI 48 (fun _ => 0))]) C 1 1 rfl rfl (k_vinc 9 cl_9 (by decide) (by decide)) cl_9 rfl dX11_init_140 ?_
  refine k_aload_n (pc := 141) C rfl 0 rfl dX11_init_141 ?_
  refine k_get (pc := 142) C vX11 0 (by decide) q_998 0 rfl rfl dX11_init_142 ?_
  refine k_bipush (pc := 145) C bipush_10 dX11_init_145 ?_
  refine k_ldc2 (pc := 147) C q_993 dX11_init_147 ?_
  refine k_lastK (pc := 150) (ws2 := [(h_t, .inr (11, [.ref q_1, .ref q_2, .ref q_3, .ref q_4, .ref q_5, .int 0, .int 0, .int 0, .int 0, .int 0, .int 0, .int 0, .int 0, .int 0])), (q_1, jA cJ 294 (vp_updL (vp_updL (vp_updL (vp_updL (vp_updL (vp_updL (vp_updL (vp_updL (vp_updL (vp_updL (vp_updL (fun _ => 0) 0 20) 1 15) 2 10) 3 10) 4 2) 5 3) 6 5) 7 20) 8 3) 9 200) 10 400)), (q_2, jA cJ 1764 (fun _ => 0)), (q_3, jA cJ 294 (fun _ => 0)), (q_4, iA cI 90 (fun _ => 0)), (q_5, iA cI 48 (fun _ => 0))]) C 1 1 rfl rfl (k_vinc 10 cl_10 (by decide) (by decide)) cl_10 rfl dX11_init_150 ?_
  refine k_aload_n (pc := 151) C rfl 0 rfl dX11_init_151 ?_
  refine k_get (pc := 152) C vX11 0 (by decide) q_998 0 rfl rfl dX11_init_152 ?_
  refine k_bipush (pc := 155) C bipush_11 dX11_init_155 ?_
  refine k_ldc2 (pc := 157) C q_994 dX11_init_157 ?_
  refine k_lastK (pc := 160) (ws2 := [(h_t, .inr (11, [.ref q_1, .ref q_2, .ref q_3, .ref q_4, .ref q_5, .int 0, .int 0, .int 0, .int 0, .int 0, .int 0, .int 0, .int 0, .int 0])), (q_1, jA cJ 294 (vp_updL (vp_updL (vp_updL (vp_updL (vp_updL (vp_updL (vp_updL (vp_updL (vp_updL (vp_updL (vp_updL (vp_updL (fun _ => 0) 0 20) 1 15) 2 10) 3 10) 4 2) 5 3) 6 5) 7 20) 8 3) 9 200) 10 400) 11 60)), (q_2, jA cJ 1764 (fun _ => 0)), (q_3, jA cJ 294 (fun _ => 0)), (q_4, iA cI 90 (fun _ => 0)), (q_5, iA cI 48 (fun _ => 0))]) C 1 1 rfl rfl (k_vinc 11 cl_11 (by decide) (by decide)) cl_11 rfl dX11_init_160 ?_
  refine k_aload_n (pc := 161) C rfl 0 rfl dX11_init_161 ?_
  refine k_get (pc := 162) C vX11 0 (by decide) q_998 0 rfl rfl dX11_init_162 ?_
  refine k_bipush (pc := 165) C bipush_12 dX11_init_165 ?_
  refine k_ldc2 (pc := 167) C q_992 dX11_init_167 ?_
  refine k_lastK (pc := 170) (ws2 := [(h_t, .inr (11, [.ref q_1, .ref q_2, .ref q_3, .ref q_4, .ref q_5, .int 0, .int 0, .int 0, .int 0, .int 0, .int 0, .int 0, .int 0, .int 0])), (q_1, jA cJ 294 (vp_updL (vp_updL (vp_updL (vp_updL (vp_updL (vp_updL (vp_updL (vp_updL (vp_updL (vp_updL (vp_updL (vp_updL (vp_updL (fun _ => 0) 0 20) 1 15) 2 10) 3 10) 4 2) 5 3) 6 5) 7 20) 8 3) 9 200) 10 400) 11 60) 12 200)), (q_2, jA cJ 1764 (fun _ => 0)), (q_3, jA cJ 294 (fun _ => 0)), (q_4, iA cI 90 (fun _ => 0)), (q_5, iA cI 48 (fun _ => 0))]) C 1 1 rfl rfl (k_vinc 12 cl_12 (by decide) (by decide)) cl_12 rfl dX11_init_170 ?_
  refine k_aload_n (pc := 171) C rfl 0 rfl dX11_init_171 ?_
  refine k_get (pc := 172) C vX11 0 (by decide) q_998 0 rfl rfl dX11_init_172 ?_
  refine k_bipush (pc := 175) C bipush_13 dX11_init_175 ?_
  refine k_ldc2 (pc := 177) C q_993 dX11_init_177 ?_
  refine k_lastK (pc := 180) (ws2 := [(h_t, .inr (11, [.ref q_1, .ref q_2, .ref q_3, .ref q_4, .ref q_5, .int 0, .int 0, .int 0, .int 0, .int 0, .int 0, .int 0, .int 0, .int 0])), (q_1, jA cJ 294 (vp_updL (vp_updL (vp_updL (vp_updL (vp_updL (vp_updL (vp_updL (vp_updL (vp_updL (vp_updL (vp_updL (vp_updL (vp_updL (vp_updL (fun _ => 0) 0 20) 1 15) 2 10) 3 10) 4 2) 5 3) 6 5) 7 20) 8 3) 9 200) 10 400) 11 60) 12 200) 13 400)), (q_2, jA cJ 1764 (fun _ => 0)), (q_3, jA cJ 294 (fun _ => 0)), (q_4, iA cI 90 (fun _ => 0)), (q_5, iA cI 48 (fun _ => 0))]) C 1 1 rfl rfl (k_vinc 13 cl_13 (by decide) (by decide)) cl_13 rfl dX11_init_180 ?_
  refine k_aload_n (pc := 181) C rfl 0 rfl dX11_init_181 ?_
  refine k_get (pc := 182) C vX11 0 (by decide) q_998 0 rfl rfl dX11_init_182 ?_
  refine k_bipush (pc := 185) C bipush_14 dX11_init_185 ?_
  refine k_ldc2 (pc := 187) C q_992 dX11_init_187 ?_
  refine k_lastK (pc := 190) (ws2 := [(h_t, .inr (11, [.ref q_1, .ref q_2, .ref q_3, .ref q_4, .ref q_5, .int 0, .int 0, .int 0, .int 0, .int 0, .int 0, .int 0, .int 0, .int 0])), (q_1, jA cJ 294 (vp_updL (vp_updL (vp_updL (vp_updL (vp_updL (vp_updL (vp_updL (vp_updL (vp_updL (vp_updL (vp_updL (vp_updL (vp_updL (vp_updL (vp_updL (fun _ => 0) 0 20) 1 15) 2 10) 3 10) 4 2) 5 3) 6 5) 7 20) 8 3) 9 200) 10 400) 11 60) 12 200) 13 400) 14 200)), (q_2, jA cJ 1764 (fun _ => 0)), (q_3, jA cJ 294 (fun _ => 0)), (q_4, iA cI 90 (fun _ => 0)), (q_5, iA cI 48 (fun _ => 0))]) C 1 1 rfl rfl (k_vinc 14 cl_14 (by decide) (by decide)) cl_14 rfl dX11_init_190 ?_
  refine k_aload_n (pc := 191) C rfl 0 rfl dX11_init_191 ?_
  refine k_get (pc := 192) C vX11 0 (by decide) q_998 0 rfl rfl dX11_init_192 ?_
  refine k_bipush (pc := 195) C bipush_15 dX11_init_195 ?_
  refine k_ldc2 (pc := 197) C q_993 dX11_init_197 ?_
  refine k_lastK (pc := 200) (ws2 := [(h_t, .inr (11, [.ref q_1, .ref q_2, .ref q_3, .ref q_4, .ref q_5, .int 0, .int 0, .int 0, .int 0, .int 0, .int 0, .int 0, .int 0, .int 0])), (q_1, jA cJ 294 (vp_updL (vp_updL (vp_updL (vp_updL (vp_updL (vp_updL (vp_updL (vp_updL (vp_updL (vp_updL (vp_updL (vp_updL (vp_updL (vp_updL (vp_updL (vp_updL (fun _ => 0) 0 20) 1 15) 2 10) 3 10) 4 2) 5 3) 6 5) 7 20) 8 3) 9 200) 10 400) 11 60) 12 200) 13 400) 14 200) 15 400)), (q_2, jA cJ 1764 (fun _ => 0)), (q_3, jA cJ 294 (fun _ => 0)), (q_4, iA cI 90 (fun _ => 0)), (q_5, iA cI 48 (fun _ => 0))]) C 1 1 rfl rfl (k_vinc 15 cl_15 (by decide) (by decide)) cl_15 rfl dX11_init_200 ?_
  refine k_iconst (pc := 201) C iconst_0 dX11_init_201 ?_
  refine k_istore_n (pc := 202) (lv2 := [(1, .int 0), (0, .ref h_t)]) C rfl (by decide) rfl dX11_init_202 ?_
  refine k_iload_n (pc := 203) C rfl 0 rfl dX11_init_203 ?_
  refine k_iconst (pc := 204) C iconst_2 dX11_init_204 ?_
  refine k_icmp_ge (pc := 205) (tgt := 238) C dX11_init_205 (by decide) (fun z => absurd z (by decide)) (fun _ => ?_)
  refine k_aload_n (pc := 208) C rfl 1 rfl dX11_init_208 ?_
  refine k_get (pc := 209) C vX11 0 (by decide) q_998 0 rfl rfl dX11_init_209 ?_
  refine k_bipush (pc := 212) C bipush_19 dX11_init_212 ?_
  refine k_iload_n (pc := 214) C rfl 0 rfl dX11_init_214 ?_
  refine k_iadd (pc := 215) C dX11_init_215 ?_
  refine k_topI (pc := 216) (v := 19) (by decide) ?_
  refine k_ldc2 (pc := 216) C q_995 dX11_init_216 ?_
  refine k_lastK (pc := 219) (ws2 := [(h_t, .inr (11, [.ref q_1, .ref q_2, .ref q_3, .ref q_4, .ref q_5, .int 0, .int 0, .int 0, .int 0, .int 0, .int 0, .int 0, .int 0, .int 0])), (q_1, jA cJ 294 (vp_updL (vp_updL (vp_updL (vp_updL (vp_updL (vp_updL (vp_updL (vp_updL (vp_updL (vp_updL (vp_updL (vp_updL (vp_updL (vp_updL (vp_updL (vp_updL (vp_updL (fun _ => 0) 0 20) 1 15) 2 10) 3 10) 4 2) 5 3) 6 5) 7 20) 8 3) 9 200) 10 400) 11 60) 12 200) 13 400) 14 200) 15 400) 19 50)), (q_2, jA cJ 1764 (fun _ => 0)), (q_3, jA cJ 294 (fun _ => 0)), (q_4, iA cI 90 (fun _ => 0)), (q_5, iA cI 48 (fun _ => 0))]) C 1 1 rfl rfl (k_vinc 19 cl_19 (by decide) (by decide)) cl_19 rfl dX11_init_219 ?_
  refine k_aload_n (pc := 220) C rfl 1 rfl dX11_init_220 ?_
  refine k_get (pc := 221) C vX11 0 (by decide) q_998 0 rfl rfl dX11_init_221 ?_
  refine k_bipush (pc := 224) C bipush_21 dX11_init_224 ?_
  refine k_iload_n (pc := 226) C rfl 0 rfl dX11_init_226 ?_
  refine k_iadd (pc := 227) C dX11_init_227 ?_
  refine k_topI (pc := 228) (v := 21) (by decide) ?_
  refine k_ldc2 (pc := 228) C q_989 dX11_init_228 ?_
  refine k_lastK (pc := 231) (ws2 := [(h_t, .inr (11, [.ref q_1, .ref q_2, .ref q_3, .ref q_4, .ref q_5, .int 0, .int 0, .int 0, .int 0, .int 0, .int 0, .int 0, .int 0, .int 0])), (q_1, jA cJ 294 (vp_updL (vp_updL (vp_updL (vp_updL (vp_updL (vp_updL (vp_updL (vp_updL (vp_updL (vp_updL (vp_updL (vp_updL (vp_updL (vp_updL (vp_updL (vp_updL (vp_updL (vp_updL (fun _ => 0) 0 20) 1 15) 2 10) 3 10) 4 2) 5 3) 6 5) 7 20) 8 3) 9 200) 10 400) 11 60) 12 200) 13 400) 14 200) 15 400) 19 50) 21 2)), (q_2, jA cJ 1764 (fun _ => 0)), (q_3, jA cJ 294 (fun _ => 0)), (q_4, iA cI 90 (fun _ => 0)), (q_5, iA cI 48 (fun _ => 0))]) C 1 1 rfl rfl (k_vinc 21 cl_21 (by decide) (by decide)) cl_21 rfl dX11_init_231 ?_
  refine k_iinc (pc := 232) (v := 1) (lv2 := [(1, .int 1), (0, .ref h_t)]) C 0 rfl (by decide) (by decide) rfl dX11_init_232 ?_
  refine k_goto (pc := 235) (tgt := 203) C (by decide) dX11_init_235 ?_
  refine k_iload_n (pc := 203) C rfl 0 rfl dX11_init_203 ?_
  refine k_iconst (pc := 204) C iconst_2 dX11_init_204 ?_
  refine k_icmp_ge (pc := 205) (tgt := 238) C dX11_init_205 (by decide) (fun z => absurd z (by decide)) (fun _ => ?_)
  refine k_aload_n (pc := 208) C rfl 1 rfl dX11_init_208 ?_
  refine k_get (pc := 209) C vX11 0 (by decide) q_998 0 rfl rfl dX11_init_209 ?_
  refine k_bipush (pc := 212) C bipush_19 dX11_init_212 ?_
  refine k_iload_n (pc := 214) C rfl 0 rfl dX11_init_214 ?_
  refine k_iadd (pc := 215) C dX11_init_215 ?_
  refine k_topI (pc := 216) (v := 20) (by decide) ?_
  refine k_ldc2 (pc := 216) C q_995 dX11_init_216 ?_
  refine k_lastK (pc := 219) (ws2 := [(h_t, .inr (11, [.ref q_1, .ref q_2, .ref q_3, .ref q_4, .ref q_5, .int 0, .int 0, .int 0, .int 0, .int 0, .int 0, .int 0, .int 0, .int 0])), (q_1, jA cJ 294 (vp_updL (vp_updL (vp_updL (vp_updL (vp_updL (vp_updL (vp_updL (vp_updL (vp_updL (vp_updL (vp_updL (vp_updL (vp_updL (vp_updL (vp_updL (vp_updL (vp_updL (vp_updL (vp_updL (fun _ => 0) 0 20) 1 15) 2 10) 3 10) 4 2) 5 3) 6 5) 7 20) 8 3) 9 200) 10 400) 11 60) 12 200) 13 400) 14 200) 15 400) 19 50) 21 2) 20 50)), (q_2, jA cJ 1764 (fun _ => 0)), (q_3, jA cJ 294 (fun _ => 0)), (q_4, iA cI 90 (fun _ => 0)), (q_5, iA cI 48 (fun _ => 0))]) C 1 1 rfl rfl (k_vinc 20 cl_20 (by decide) (by decide)) cl_20 rfl dX11_init_219 ?_
  refine k_aload_n (pc := 220) C rfl 1 rfl dX11_init_220 ?_
  refine k_get (pc := 221) C vX11 0 (by decide) q_998 0 rfl rfl dX11_init_221 ?_
  refine k_bipush (pc := 224) C bipush_21 dX11_init_224 ?_
  refine k_iload_n (pc := 226) C rfl 0 rfl dX11_init_226 ?_
  refine k_iadd (pc := 227) C dX11_init_227 ?_
  refine k_topI (pc := 228) (v := 22) (by decide) ?_
  refine k_ldc2 (pc := 228) C q_989 dX11_init_228 ?_
  refine k_lastK (pc := 231) (ws2 := [(h_t, .inr (11, [.ref q_1, .ref q_2, .ref q_3, .ref q_4, .ref q_5, .int 0, .int 0, .int 0, .int 0, .int 0, .int 0, .int 0, .int 0, .int 0])), (q_1, jA cJ 294 (vp_updL (vp_updL (vp_updL (vp_updL (vp_updL (vp_updL (vp_updL (vp_updL (vp_updL (vp_updL (vp_updL (vp_updL (vp_updL (vp_updL (vp_updL (vp_updL (vp_updL (vp_updL (vp_updL (vp_updL (fun _ => 0) 0 20) 1 15) 2 10) 3 10) 4 2) 5 3) 6 5) 7 20) 8 3) 9 200) 10 400) 11 60) 12 200) 13 400) 14 200) 15 400) 19 50) 21 2) 20 50) 22 2)), (q_2, jA cJ 1764 (fun _ => 0)), (q_3, jA cJ 294 (fun _ => 0)), (q_4, iA cI 90 (fun _ => 0)), (q_5, iA cI 48 (fun _ => 0))]) C 1 1 rfl rfl (k_vinc 22 cl_22 (by decide) (by decide)) cl_22 rfl dX11_init_231 ?_
  refine k_iinc (pc := 232) (v := 2) (lv2 := [(1, .int 2), (0, .ref h_t)]) C 0 rfl (by decide) (by decide) rfl dX11_init_232 ?_
  refine k_goto (pc := 235) (tgt := 203) C (by decide) dX11_init_235 ?_
  refine k_iload_n (pc := 203) C rfl 0 rfl dX11_init_203 ?_
  refine k_iconst (pc := 204) C iconst_2 dX11_init_204 ?_
  refine k_icmp_ge (pc := 205) (tgt := 238) C dX11_init_205 (by decide) (fun _ => ?_) (fun z => absurd z (by decide))
  refine k_aload_n (pc := 238) C rfl 1 rfl dX11_init_238 ?_
  refine k_get (pc := 239) C vX11 0 (by decide) q_998 0 rfl rfl dX11_init_239 ?_
  refine k_bipush (pc := 242) C bipush_23 dX11_init_242 ?_
  refine k_ldc2 (pc := 244) C q_996 dX11_init_244 ?_
  refine k_lastK (pc := 247) (ws2 := [(h_t, .inr (11, [.ref q_1, .ref q_2, .ref q_3, .ref q_4, .ref q_5, .int 0, .int 0, .int 0, .int 0, .int 0, .int 0, .int 0, .int 0, .int 0])), (q_1, jA cJ 294 (vp_updL (vp_updL (vp_updL (vp_updL (vp_updL (vp_updL (vp_updL (vp_updL (vp_updL (vp_updL (vp_updL (vp_updL (vp_updL (vp_updL (vp_updL (vp_updL (vp_updL (vp_updL (vp_updL (vp_updL (vp_updL (fun _ => 0) 0 20) 1 15) 2 10) 3 10) 4 2) 5 3) 6 5) 7 20) 8 3) 9 200) 10 400) 11 60) 12 200) 13 400) 14 200) 15 400) 19 50) 21 2) 20 50) 22 2) 23 1000)), (q_2, jA cJ 1764 (fun _ => 0)), (q_3, jA cJ 294 (fun _ => 0)), (q_4, iA cI 90 (fun _ => 0)), (q_5, iA cI 48 (fun _ => 0))]) C 1 1 rfl rfl (k_vinc 23 cl_23 (by decide) (by decide)) cl_23 rfl dX11_init_247 ?_
  refine k_aload_n (pc := 248) C rfl 1 rfl dX11_init_248 ?_
  refine k_get (pc := 249) C vX11 0 (by decide) q_998 0 rfl rfl dX11_init_249 ?_
  refine k_bipush (pc := 252) C bipush_24 dX11_init_252 ?_
  refine k_ldc2 (pc := 254) C q_996 dX11_init_254 ?_
  refine k_lastK (pc := 257) (ws2 := [(h_t, .inr (11, [.ref q_1, .ref q_2, .ref q_3, .ref q_4, .ref q_5, .int 0, .int 0, .int 0, .int 0, .int 0, .int 0, .int 0, .int 0, .int 0])), (q_1, jA cJ 294 (vp_updL (vp_updL (vp_updL (vp_updL (vp_updL (vp_updL (vp_updL (vp_updL (vp_updL (vp_updL (vp_updL (vp_updL (vp_updL (vp_updL (vp_updL (vp_updL (vp_updL (vp_updL (vp_updL (vp_updL (vp_updL (vp_updL (fun _ => 0) 0 20) 1 15) 2 10) 3 10) 4 2) 5 3) 6 5) 7 20) 8 3) 9 200) 10 400) 11 60) 12 200) 13 400) 14 200) 15 400) 19 50) 21 2) 20 50) 22 2) 23 1000) 24 1000)), (q_2, jA cJ 1764 (fun _ => 0)), (q_3, jA cJ 294 (fun _ => 0)), (q_4, iA cI 90 (fun _ => 0)), (q_5, iA cI 48 (fun _ => 0))]) C 1 1 rfl rfl (k_vinc 24 cl_24 (by decide) (by decide)) cl_24 rfl dX11_init_257 ?_
  refine k_aload_n (pc := 258) C rfl 1 rfl dX11_init_258 ?_
  refine k_get (pc := 259) C vX11 0 (by decide) q_998 0 rfl rfl dX11_init_259 ?_
  refine k_bipush (pc := 262) C bipush_44 dX11_init_262 ?_
  refine k_lconst (pc := 264) C lconst_1 dX11_init_264 ?_
  refine k_lastK (pc := 265) (ws2 := [(h_t, .inr (11, [.ref q_1, .ref q_2, .ref q_3, .ref q_4, .ref q_5, .int 0, .int 0, .int 0, .int 0, .int 0, .int 0, .int 0, .int 0, .int 0])), (q_1, jA cJ 294 (vp_updL (vp_updL (vp_updL (vp_updL (vp_updL (vp_updL (vp_updL (vp_updL (vp_updL (vp_updL (vp_updL (vp_updL (vp_updL (vp_updL (vp_updL (vp_updL (vp_updL (vp_updL (vp_updL (vp_updL (vp_updL (vp_updL (vp_updL (fun _ => 0) 0 20) 1 15) 2 10) 3 10) 4 2) 5 3) 6 5) 7 20) 8 3) 9 200) 10 400) 11 60) 12 200) 13 400) 14 200) 15 400) 19 50) 21 2) 20 50) 22 2) 23 1000) 24 1000) 44 1)), (q_2, jA cJ 1764 (fun _ => 0)), (q_3, jA cJ 294 (fun _ => 0)), (q_4, iA cI 90 (fun _ => 0)), (q_5, iA cI 48 (fun _ => 0))]) C 1 1 rfl rfl (k_vinc 44 cl_44 (by decide) (by decide)) cl_44 rfl dX11_init_265 ?_
  refine k_aload_n (pc := 266) C rfl 1 rfl dX11_init_266 ?_
  refine k_get (pc := 267) C vX11 0 (by decide) q_998 0 rfl rfl dX11_init_267 ?_
  refine k_bipush (pc := 270) C bipush_47 dX11_init_270 ?_
  refine k_ldc2 (pc := 272) C q_997 dX11_init_272 ?_
  refine k_lastK (pc := 275) (ws2 := [(h_t, .inr (11, [.ref q_1, .ref q_2, .ref q_3, .ref q_4, .ref q_5, .int 0, .int 0, .int 0, .int 0, .int 0, .int 0, .int 0, .int 0, .int 0])), (q_1, jA cJ 294 (vp_updL (vp_updL (vp_updL (vp_updL (vp_updL (vp_updL (vp_updL (vp_updL (vp_updL (vp_updL (vp_updL (vp_updL (vp_updL (vp_updL (vp_updL (vp_updL (vp_updL (vp_updL (vp_updL (vp_updL (vp_updL (vp_updL (vp_updL (vp_updL (fun _ => 0) 0 20) 1 15) 2 10) 3 10) 4 2) 5 3) 6 5) 7 20) 8 3) 9 200) 10 400) 11 60) 12 200) 13 400) 14 200) 15 400) 19 50) 21 2) 20 50) 22 2) 23 1000) 24 1000) 44 1) 47 17)), (q_2, jA cJ 1764 (fun _ => 0)), (q_3, jA cJ 294 (fun _ => 0)), (q_4, iA cI 90 (fun _ => 0)), (q_5, iA cI 48 (fun _ => 0))]) C 1 1 rfl rfl (k_vinc 47 cl_47 (by decide) (by decide)) cl_47 rfl dX11_init_275 ?_
  exact k_finUv (pc := 276) hret (fun k => [q_1, q_2, q_3, q_4, q_5].getD k 0) rfl (Nat.le_of_ble_eq_true rfl) (Nat.le_of_ble_eq_true rfl) dX11_init_276

/-- the object, its two States, the saved States' own cells, the text; the saved States themselves stand behind -/
def xoW (cI cO : ClassId) (b : Nat) (u : Nat → Nat) (S : Nat → Nat → Int32) (j : Int64) (S2 : Nat → Nat → Int32) (j2 : Int64) (fs : Nat → Int32) (fr : Nat → Option Nat) (ft fc fg fl : Nat → Int32) : va_W :=
  (b, ccE (u 0) (u 26) (u 52) (u 54)) :: (stW cI (fun k => u k) S j ++ (stW cI (fun k => u (26 + k)) S2 j2 ++ [(u 52, svE fs (u 53)), (u 53, qA cO 6 fr), (u 54, txE ft (u 55) (u 56)), (u 55, iA cI 90 fc), (u 56, sgE fg (u 57)), (u 57, iA cI 48 fl)]))
theorem dX10_init_0 : decode cX10_init 0 = .ok (.aload_n 0, 1) := by decide +kernel
theorem dX10_init_1 : decode cX10_init 1 = .ok (.invokespecial 1, 3) := by decide +kernel
theorem dX10_init_4 : decode cX10_init 4 = .ok (.aload_n 0, 1) := by decide +kernel
theorem dX10_init_5 : decode cX10_init 5 = .ok (.new 7, 3) := by decide +kernel
theorem dX10_init_8 : decode cX10_init 8 = .ok (.dup, 1) := by decide +kernel
theorem dX10_init_9 : decode cX10_init 9 = .ok (.invokespecial 9, 3) := by decide +kernel
theorem dX10_init_12 : decode cX10_init 12 = .ok (.putfield 10, 3) := by decide +kernel
theorem dX10_init_15 : decode cX10_init 15 = .ok (.aload_n 0, 1) := by decide +kernel
theorem dX10_init_16 : decode cX10_init 16 = .ok (.new 7, 3) := by decide +kernel
theorem dX10_init_19 : decode cX10_init 19 = .ok (.dup, 1) := by decide +kernel
theorem dX10_init_20 : decode cX10_init 20 = .ok (.invokespecial 9, 3) := by decide +kernel
theorem dX10_init_23 : decode cX10_init 23 = .ok (.putfield 16, 3) := by decide +kernel
theorem dX10_init_26 : decode cX10_init 26 = .ok (.aload_n 0, 1) := by decide +kernel
theorem dX10_init_27 : decode cX10_init 27 = .ok (.new 19, 3) := by decide +kernel
theorem dX10_init_30 : decode cX10_init 30 = .ok (.dup, 1) := by decide +kernel
theorem dX10_init_31 : decode cX10_init 31 = .ok (.invokespecial 21, 3) := by decide +kernel
theorem dX10_init_34 : decode cX10_init 34 = .ok (.putfield 22, 3) := by decide +kernel
theorem dX10_init_37 : decode cX10_init 37 = .ok (.aload_n 0, 1) := by decide +kernel
theorem dX10_init_38 : decode cX10_init 38 = .ok (.new 26, 3) := by decide +kernel
theorem dX10_init_41 : decode cX10_init 41 = .ok (.dup, 1) := by decide +kernel
theorem dX10_init_42 : decode cX10_init 42 = .ok (.invokespecial 28, 3) := by decide +kernel
theorem dX10_init_45 : decode cX10_init 45 = .ok (.putfield 29, 3) := by decide +kernel
theorem dX10_init_48 : decode cX10_init 48 = .ok (.return_, 1) := by decide +kernel
set_option maxRecDepth 100000 in
set_option maxHeartbeats 4000000 in
theorem c_X10_init (l : Launch) (D : va_G) (cI cJ cO : ClassId) (z : zT) (h_t : Nat) : kUv l yX10_init cX10_init 1 4 77 58 817 D (kT cI cJ cO) z [.ref h_t] [(h_t, .inr (10, [.null, .null, .null, .null]))] (fun u : Nat → Nat => xoW cI cO h_t u iS 17 iS 17 i0 (fun _ => none) i0 i0 i0 i0) := by
  refine kUv_ofI (own := RX10) (lv := [(0, .ref h_t)]) rfl rfl rfl (by decide) (Nat.le_of_ble_eq_true rfl) ?_
  intro p e s m args below meth c Q A C hZ hin hret
  refine k_aload_n (pc := 0) C rfl 0 rfl dX10_init_0 ?_
  refine k_objInit (pc := 1) C q_66 q_67 q_68 ⟨Nat.le_of_ble_eq_true rfl, Nat.le_of_ble_eq_true rfl⟩ dX10_init_1 ?_
  refine k_aload_n (pc := 4) C rfl 0 rfl dX10_init_4 ?_
  refine k_new (pc := 5) (fs := [.int 0, .int 0, .null, .null, .null, .null, .null, .null, .null, .null, .null]) C vX7 q_69 q_70 q_42 (by decide) ⟨Nat.le_of_ble_eq_true rfl, Nat.le_of_ble_eq_true rfl⟩ dX10_init_5 (fun q_1 => ?_)
  refine k_dup (pc := 8) C rfl dX10_init_8 ?_
  refine k_callUNv (pc := 9) (As := []) (rest := [.ref q_1, .ref h_t]) (hd := [(h_t, .inr (10, [.null, .null, .null, .null])), (q_1, .inr (7, [.int 0, .int 0, .null, .null, .null, .null, .null, .null, .null, .null, .null]))]) (hc := [(q_1, .inr (7, [.int 0, .int 0, .null, .null, .null, .null, .null, .null, .null, .null, .null]))]) (wr := [(h_t, .inr (10, [.null, .null, .null, .null]))]) (T := []) C hZ (c_X7_init l D cI cJ cO z q_1) cwi_X7_init q_71 [1] [0] rfl rfl (kprm (n := 2) (by decide +kernel) rfl) rfl (Nat.le_of_ble_eq_true rfl) ⟨Nat.le_of_ble_eq_true rfl, Nat.le_of_ble_eq_true rfl⟩ rfl ⟨Nat.le_of_ble_eq_true rfl, Nat.le_of_ble_eq_true rfl⟩ dX10_init_9 (fun u_2 => ?_)
  refine k_show (ws2 := [(h_t, .inr (10, [.null, .null, .null, .null])), (q_1, stE (iS 0) (u_2 0) (u_2 1) (u_2 2) (u_2 3) (u_2 4) (u_2 5) (u_2 6) (u_2 7) (u_2 8)), ((u_2 0), iA cI 12 (iS 1)), ((u_2 1), chE (iS 2)), ((u_2 2), chE (iS 3)), ((u_2 3), sgE (iS 4) (u_2 9)), ((u_2 4), ruE (iS 5)), ((u_2 5), clE (iS 6)), ((u_2 6), rsE (u_2 10) (u_2 11) (u_2 12) (u_2 13)), ((u_2 7), trE (u_2 18) (u_2 19) (u_2 20) 17), ((u_2 8), rgE (iS 9) (u_2 24)), ((u_2 9), iA cI 48 (iS 10)), ((u_2 10), rgE (iS 11) (u_2 14)), ((u_2 11), rgE (iS 12) (u_2 15)), ((u_2 12), rgE (iS 13) (u_2 16)), ((u_2 13), rgE (iS 14) (u_2 17)), ((u_2 14), iA cI 16 (iS 15)), ((u_2 15), iA cI 16 (iS 16)), ((u_2 16), iA cI 16 (iS 17)), ((u_2 17), iA cI 16 (iS 18)), ((u_2 18), rgE (iS 19) (u_2 21)), ((u_2 19), rgE (iS 20) (u_2 22)), ((u_2 20), rgE (iS 21) (u_2 23)), ((u_2 21), iA cI 24 (iS 22)), ((u_2 22), iA cI 24 (iS 23)), ((u_2 23), iA cI 24 (iS 24)), ((u_2 24), iA cI 60 (iS 25))]) rfl ?_
  refine k_putF (pc := 12) (ws2 := [(h_t, .inr (10, [.ref q_1, .null, .null, .null])), (q_1, stE (iS 0) (u_2 0) (u_2 1) (u_2 2) (u_2 3) (u_2 4) (u_2 5) (u_2 6) (u_2 7) (u_2 8)), ((u_2 0), iA cI 12 (iS 1)), ((u_2 1), chE (iS 2)), ((u_2 2), chE (iS 3)), ((u_2 3), sgE (iS 4) (u_2 9)), ((u_2 4), ruE (iS 5)), ((u_2 5), clE (iS 6)), ((u_2 6), rsE (u_2 10) (u_2 11) (u_2 12) (u_2 13)), ((u_2 7), trE (u_2 18) (u_2 19) (u_2 20) 17), ((u_2 8), rgE (iS 9) (u_2 24)), ((u_2 9), iA cI 48 (iS 10)), ((u_2 10), rgE (iS 11) (u_2 14)), ((u_2 11), rgE (iS 12) (u_2 15)), ((u_2 12), rgE (iS 13) (u_2 16)), ((u_2 13), rgE (iS 14) (u_2 17)), ((u_2 14), iA cI 16 (iS 15)), ((u_2 15), iA cI 16 (iS 16)), ((u_2 16), iA cI 16 (iS 17)), ((u_2 17), iA cI 16 (iS 18)), ((u_2 18), rgE (iS 19) (u_2 21)), ((u_2 19), rgE (iS 20) (u_2 22)), ((u_2 20), rgE (iS 21) (u_2 23)), ((u_2 21), iA cI 24 (iS 22)), ((u_2 22), iA cI 24 (iS 23)), ((u_2 23), iA cI 24 (iS 24)), ((u_2 24), iA cI 60 (iS 25))]) C hin vX10 0 (by decide) rfl rfl q_394 rfl rfl 0 rfl (Nat.le_of_ble_eq_true rfl) rfl dX10_init_12 ?_
  refine k_aload_n (pc := 15) C rfl 0 rfl dX10_init_15 ?_
  refine k_new (pc := 16) (fs := [.int 0, .int 0, .null, .null, .null, .null, .null, .null, .null, .null, .null]) C vX7 q_69 q_70 q_42 (by decide) ⟨Nat.le_of_ble_eq_true rfl, Nat.le_of_ble_eq_true rfl⟩ dX10_init_16 (fun q_3 => ?_)
  refine k_dup (pc := 19) C rfl dX10_init_19 ?_
  refine k_callUNv (pc := 20) (As := []) (rest := [.ref q_3, .ref h_t]) (hd := [(h_t, .inr (10, [.ref q_1, .null, .null, .null])), (q_1, stE (iS 0) (u_2 0) (u_2 1) (u_2 2) (u_2 3) (u_2 4) (u_2 5) (u_2 6) (u_2 7) (u_2 8)), ((u_2 0), iA cI 12 (iS 1)), ((u_2 1), chE (iS 2)), ((u_2 2), chE (iS 3)), ((u_2 3), sgE (iS 4) (u_2 9)), ((u_2 4), ruE (iS 5)), ((u_2 5), clE (iS 6)), ((u_2 6), rsE (u_2 10) (u_2 11) (u_2 12) (u_2 13)), ((u_2 7), trE (u_2 18) (u_2 19) (u_2 20) 17), ((u_2 8), rgE (iS 9) (u_2 24)), ((u_2 9), iA cI 48 (iS 10)), ((u_2 10), rgE (iS 11) (u_2 14)), ((u_2 11), rgE (iS 12) (u_2 15)), ((u_2 12), rgE (iS 13) (u_2 16)), ((u_2 13), rgE (iS 14) (u_2 17)), ((u_2 14), iA cI 16 (iS 15)), ((u_2 15), iA cI 16 (iS 16)), ((u_2 16), iA cI 16 (iS 17)), ((u_2 17), iA cI 16 (iS 18)), ((u_2 18), rgE (iS 19) (u_2 21)), ((u_2 19), rgE (iS 20) (u_2 22)), ((u_2 20), rgE (iS 21) (u_2 23)), ((u_2 21), iA cI 24 (iS 22)), ((u_2 22), iA cI 24 (iS 23)), ((u_2 23), iA cI 24 (iS 24)), ((u_2 24), iA cI 60 (iS 25)), (q_3, .inr (7, [.int 0, .int 0, .null, .null, .null, .null, .null, .null, .null, .null, .null]))]) (hc := [(q_3, .inr (7, [.int 0, .int 0, .null, .null, .null, .null, .null, .null, .null, .null, .null]))]) (wr := [(h_t, .inr (10, [.ref q_1, .null, .null, .null])), (q_1, stE (iS 0) (u_2 0) (u_2 1) (u_2 2) (u_2 3) (u_2 4) (u_2 5) (u_2 6) (u_2 7) (u_2 8)), ((u_2 0), iA cI 12 (iS 1)), ((u_2 1), chE (iS 2)), ((u_2 2), chE (iS 3)), ((u_2 3), sgE (iS 4) (u_2 9)), ((u_2 4), ruE (iS 5)), ((u_2 5), clE (iS 6)), ((u_2 6), rsE (u_2 10) (u_2 11) (u_2 12) (u_2 13)), ((u_2 7), trE (u_2 18) (u_2 19) (u_2 20) 17), ((u_2 8), rgE (iS 9) (u_2 24)), ((u_2 9), iA cI 48 (iS 10)), ((u_2 10), rgE (iS 11) (u_2 14)), ((u_2 11), rgE (iS 12) (u_2 15)), ((u_2 12), rgE (iS 13) (u_2 16)), ((u_2 13), rgE (iS 14) (u_2 17)), ((u_2 14), iA cI 16 (iS 15)), ((u_2 15), iA cI 16 (iS 16)), ((u_2 16), iA cI 16 (iS 17)), ((u_2 17), iA cI 16 (iS 18)), ((u_2 18), rgE (iS 19) (u_2 21)), ((u_2 19), rgE (iS 20) (u_2 22)), ((u_2 20), rgE (iS 21) (u_2 23)), ((u_2 21), iA cI 24 (iS 22)), ((u_2 22), iA cI 24 (iS 23)), ((u_2 23), iA cI 24 (iS 24)), ((u_2 24), iA cI 60 (iS 25))]) (T := []) C hZ (c_X7_init l D cI cJ cO z q_3) cwi_X7_init q_71 [27] [0, 1, 2, 3, 4, 5, 6, 7, 8, 9, 10, 11, 12, 13, 14, 15, 16, 17, 18, 19, 20, 21, 22, 23, 24, 25, 26] rfl rfl (kprm (n := 28) (by decide +kernel) rfl) rfl (Nat.le_of_ble_eq_true rfl) ⟨Nat.le_of_ble_eq_true rfl, Nat.le_of_ble_eq_true rfl⟩ rfl ⟨Nat.le_of_ble_eq_true rfl, Nat.le_of_ble_eq_true rfl⟩ dX10_init_20 (fun u_4 => ?_)
  refine k_show (ws2 := [(h_t, .inr (10, [.ref q_1, .null, .null, .null])), (q_1, stE (iS 0) (u_2 0) (u_2 1) (u_2 2) (u_2 3) (u_2 4) (u_2 5) (u_2 6) (u_2 7) (u_2 8)), ((u_2 0), iA cI 12 (iS 1)), ((u_2 1), chE (iS 2)), ((u_2 2), chE (iS 3)), ((u_2 3), sgE (iS 4) (u_2 9)), ((u_2 4), ruE (iS 5)), ((u_2 5), clE (iS 6)), ((u_2 6), rsE (u_2 10) (u_2 11) (u_2 12) (u_2 13)), ((u_2 7), trE (u_2 18) (u_2 19) (u_2 20) 17), ((u_2 8), rgE (iS 9) (u_2 24)), ((u_2 9), iA cI 48 (iS 10)), ((u_2 10), rgE (iS 11) (u_2 14)), ((u_2 11), rgE (iS 12) (u_2 15)), ((u_2 12), rgE (iS 13) (u_2 16)), ((u_2 13), rgE (iS 14) (u_2 17)), ((u_2 14), iA cI 16 (iS 15)), ((u_2 15), iA cI 16 (iS 16)), ((u_2 16), iA cI 16 (iS 17)), ((u_2 17), iA cI 16 (iS 18)), ((u_2 18), rgE (iS 19) (u_2 21)), ((u_2 19), rgE (iS 20) (u_2 22)), ((u_2 20), rgE (iS 21) (u_2 23)), ((u_2 21), iA cI 24 (iS 22)), ((u_2 22), iA cI 24 (iS 23)), ((u_2 23), iA cI 24 (iS 24)), ((u_2 24), iA cI 60 (iS 25)), (q_3, stE (iS 0) (u_4 0) (u_4 1) (u_4 2) (u_4 3) (u_4 4) (u_4 5) (u_4 6) (u_4 7) (u_4 8)), ((u_4 0), iA cI 12 (iS 1)), ((u_4 1), chE (iS 2)), ((u_4 2), chE (iS 3)), ((u_4 3), sgE (iS 4) (u_4 9)), ((u_4 4), ruE (iS 5)), ((u_4 5), clE (iS 6)), ((u_4 6), rsE (u_4 10) (u_4 11) (u_4 12) (u_4 13)), ((u_4 7), trE (u_4 18) (u_4 19) (u_4 20) 17), ((u_4 8), rgE (iS 9) (u_4 24)), ((u_4 9), iA cI 48 (iS 10)), ((u_4 10), rgE (iS 11) (u_4 14)), ((u_4 11), rgE (iS 12) (u_4 15)), ((u_4 12), rgE (iS 13) (u_4 16)), ((u_4 13), rgE (iS 14) (u_4 17)), ((u_4 14), iA cI 16 (iS 15)), ((u_4 15), iA cI 16 (iS 16)), ((u_4 16), iA cI 16 (iS 17)), ((u_4 17), iA cI 16 (iS 18)), ((u_4 18), rgE (iS 19) (u_4 21)), ((u_4 19), rgE (iS 20) (u_4 22)), ((u_4 20), rgE (iS 21) (u_4 23)), ((u_4 21), iA cI 24 (iS 22)), ((u_4 22), iA cI 24 (iS 23)), ((u_4 23), iA cI 24 (iS 24)), ((u_4 24), iA cI 60 (iS 25))]) rfl ?_
  refine k_putF (pc := 23) (ws2 := [(h_t, .inr (10, [.ref q_1, .ref q_3, .null, .null])), (q_1, stE (iS 0) (u_2 0) (u_2 1) (u_2 2) (u_2 3) (u_2 4) (u_2 5) (u_2 6) (u_2 7) (u_2 8)), ((u_2 0), iA cI 12 (iS 1)), ((u_2 1), chE (iS 2)), ((u_2 2), chE (iS 3)), ((u_2 3), sgE (iS 4) (u_2 9)), ((u_2 4), ruE (iS 5)), ((u_2 5), clE (iS 6)), ((u_2 6), rsE (u_2 10) (u_2 11) (u_2 12) (u_2 13)), ((u_2 7), trE (u_2 18) (u_2 19) (u_2 20) 17), ((u_2 8), rgE (iS 9) (u_2 24)), ((u_2 9), iA cI 48 (iS 10)), ((u_2 10), rgE (iS 11) (u_2 14)), ((u_2 11), rgE (iS 12) (u_2 15)), ((u_2 12), rgE (iS 13) (u_2 16)), ((u_2 13), rgE (iS 14) (u_2 17)), ((u_2 14), iA cI 16 (iS 15)), ((u_2 15), iA cI 16 (iS 16)), ((u_2 16), iA cI 16 (iS 17)), ((u_2 17), iA cI 16 (iS 18)), ((u_2 18), rgE (iS 19) (u_2 21)), ((u_2 19), rgE (iS 20) (u_2 22)), ((u_2 20), rgE (iS 21) (u_2 23)), ((u_2 21), iA cI 24 (iS 22)), ((u_2 22), iA cI 24 (iS 23)), ((u_2 23), iA cI 24 (iS 24)), ((u_2 24), iA cI 60 (iS 25)), (q_3, stE (iS 0) (u_4 0) (u_4 1) (u_4 2) (u_4 3) (u_4 4) (u_4 5) (u_4 6) (u_4 7) (u_4 8)), ((u_4 0), iA cI 12 (iS 1)), ((u_4 1), chE (iS 2)), ((u_4 2), chE (iS 3)), ((u_4 3), sgE (iS 4) (u_4 9)), ((u_4 4), ruE (iS 5)), ((u_4 5), clE (iS 6)), ((u_4 6), rsE (u_4 10) (u_4 11) (u_4 12) (u_4 13)), ((u_4 7), trE (u_4 18) (u_4 19) (u_4 20) 17), ((u_4 8), rgE (iS 9) (u_4 24)), ((u_4 9), iA cI 48 (iS 10)), ((u_4 10), rgE (iS 11) (u_4 14)), ((u_4 11), rgE (iS 12) (u_4 15)), ((u_4 12), rgE (iS 13) (u_4 16)), ((u_4 13), rgE (iS 14) (u_4 17)), ((u_4 14), iA cI 16 (iS 15)), ((u_4 15), iA cI 16 (iS 16)), ((u_4 16), iA cI 16 (iS 17)), ((u_4 17), iA cI 16 (iS 18)), ((u_4 18), rgE (iS 19) (u_4 21)), ((u_4 19), rgE (iS 20) (u_4 22)), ((u_4 20), rgE (iS 21) (u_4 23)), ((u_4 21), iA cI 24 (iS 22)), ((u_4 22), iA cI 24 (iS 23)), ((u_4 23), iA cI 24 (iS 24)), ((u_4 24), iA cI 60 (iS 25))]) C hin vX10 1 (by decide) rfl rfl q_395 rfl rfl 0 rfl (Nat.le_of_ble_eq_true rfl) rfl dX10_init_23 ?_
  refine k_aload_n (pc := 26) C rfl 0 rfl dX10_init_26 ?_
  refine k_new (pc := 27) (fs := [.null, .int 0, .int 0]) C vX5 q_346 q_347 q_51 (by decide) ⟨Nat.le_of_ble_eq_true rfl, Nat.le_of_ble_eq_true rfl⟩ dX10_init_27 (fun q_5 => ?_)
  refine k_dup (pc := 30) C rfl dX10_init_30 ?_
  refine k_callUNv (pc := 31) (As := []) (rest := [.ref q_5, .ref h_t]) (hd := [(h_t, .inr (10, [.ref q_1, .ref q_3, .null, .null])), (q_1, stE (iS 0) (u_2 0) (u_2 1) (u_2 2) (u_2 3) (u_2 4) (u_2 5) (u_2 6) (u_2 7) (u_2 8)), ((u_2 0), iA cI 12 (iS 1)), ((u_2 1), chE (iS 2)), ((u_2 2), chE (iS 3)), ((u_2 3), sgE (iS 4) (u_2 9)), ((u_2 4), ruE (iS 5)), ((u_2 5), clE (iS 6)), ((u_2 6), rsE (u_2 10) (u_2 11) (u_2 12) (u_2 13)), ((u_2 7), trE (u_2 18) (u_2 19) (u_2 20) 17), ((u_2 8), rgE (iS 9) (u_2 24)), ((u_2 9), iA cI 48 (iS 10)), ((u_2 10), rgE (iS 11) (u_2 14)), ((u_2 11), rgE (iS 12) (u_2 15)), ((u_2 12), rgE (iS 13) (u_2 16)), ((u_2 13), rgE (iS 14) (u_2 17)), ((u_2 14), iA cI 16 (iS 15)), ((u_2 15), iA cI 16 (iS 16)), ((u_2 16), iA cI 16 (iS 17)), ((u_2 17), iA cI 16 (iS 18)), ((u_2 18), rgE (iS 19) (u_2 21)), ((u_2 19), rgE (iS 20) (u_2 22)), ((u_2 20), rgE (iS 21) (u_2 23)), ((u_2 21), iA cI 24 (iS 22)), ((u_2 22), iA cI 24 (iS 23)), ((u_2 23), iA cI 24 (iS 24)), ((u_2 24), iA cI 60 (iS 25)), (q_3, stE (iS 0) (u_4 0) (u_4 1) (u_4 2) (u_4 3) (u_4 4) (u_4 5) (u_4 6) (u_4 7) (u_4 8)), ((u_4 0), iA cI 12 (iS 1)), ((u_4 1), chE (iS 2)), ((u_4 2), chE (iS 3)), ((u_4 3), sgE (iS 4) (u_4 9)), ((u_4 4), ruE (iS 5)), ((u_4 5), clE (iS 6)), ((u_4 6), rsE (u_4 10) (u_4 11) (u_4 12) (u_4 13)), ((u_4 7), trE (u_4 18) (u_4 19) (u_4 20) 17), ((u_4 8), rgE (iS 9) (u_4 24)), ((u_4 9), iA cI 48 (iS 10)), ((u_4 10), rgE (iS 11) (u_4 14)), ((u_4 11), rgE (iS 12) (u_4 15)), ((u_4 12), rgE (iS 13) (u_4 16)), ((u_4 13), rgE (iS 14) (u_4 17)), ((u_4 14), iA cI 16 (iS 15)), ((u_4 15), iA cI 16 (iS 16)), ((u_4 16), iA cI 16 (iS 17)), ((u_4 17), iA cI 16 (iS 18)), ((u_4 18), rgE (iS 19) (u_4 21)), ((u_4 19), rgE (iS 20) (u_4 22)), ((u_4 20), rgE (iS 21) (u_4 23)), ((u_4 21), iA cI 24 (iS 22)), ((u_4 22), iA cI 24 (iS 23)), ((u_4 23), iA cI 24 (iS 24)), ((u_4 24), iA cI 60 (iS 25)), (q_5, .inr (5, [.null, .int 0, .int 0]))]) (hc := [(q_5, .inr (5, [.null, .int 0, .int 0]))]) (wr := [(h_t, .inr (10, [.ref q_1, .ref q_3, .null, .null])), (q_1, stE (iS 0) (u_2 0) (u_2 1) (u_2 2) (u_2 3) (u_2 4) (u_2 5) (u_2 6) (u_2 7) (u_2 8)), ((u_2 0), iA cI 12 (iS 1)), ((u_2 1), chE (iS 2)), ((u_2 2), chE (iS 3)), ((u_2 3), sgE (iS 4) (u_2 9)), ((u_2 4), ruE (iS 5)), ((u_2 5), clE (iS 6)), ((u_2 6), rsE (u_2 10) (u_2 11) (u_2 12) (u_2 13)), ((u_2 7), trE (u_2 18) (u_2 19) (u_2 20) 17), ((u_2 8), rgE (iS 9) (u_2 24)), ((u_2 9), iA cI 48 (iS 10)), ((u_2 10), rgE (iS 11) (u_2 14)), ((u_2 11), rgE (iS 12) (u_2 15)), ((u_2 12), rgE (iS 13) (u_2 16)), ((u_2 13), rgE (iS 14) (u_2 17)), ((u_2 14), iA cI 16 (iS 15)), ((u_2 15), iA cI 16 (iS 16)), ((u_2 16), iA cI 16 (iS 17)), ((u_2 17), iA cI 16 (iS 18)), ((u_2 18), rgE (iS 19) (u_2 21)), ((u_2 19), rgE (iS 20) (u_2 22)), ((u_2 20), rgE (iS 21) (u_2 23)), ((u_2 21), iA cI 24 (iS 22)), ((u_2 22), iA cI 24 (iS 23)), ((u_2 23), iA cI 24 (iS 24)), ((u_2 24), iA cI 60 (iS 25)), (q_3, stE (iS 0) (u_4 0) (u_4 1) (u_4 2) (u_4 3) (u_4 4) (u_4 5) (u_4 6) (u_4 7) (u_4 8)), ((u_4 0), iA cI 12 (iS 1)), ((u_4 1), chE (iS 2)), ((u_4 2), chE (iS 3)), ((u_4 3), sgE (iS 4) (u_4 9)), ((u_4 4), ruE (iS 5)), ((u_4 5), clE (iS 6)), ((u_4 6), rsE (u_4 10) (u_4 11) (u_4 12) (u_4 13)), ((u_4 7), trE (u_4 18) (u_4 19) (u_4 20) 17), ((u_4 8), rgE (iS 9) (u_4 24)), ((u_4 9), iA cI 48 (iS 10)), ((u_4 10), rgE (iS 11) (u_4 14)), ((u_4 11), rgE (iS 12) (u_4 15)), ((u_4 12), rgE (iS 13) (u_4 16)), ((u_4 13), rgE (iS 14) (u_4 17)), ((u_4 14), iA cI 16 (iS 15)), ((u_4 15), iA cI 16 (iS 16)), ((u_4 16), iA cI 16 (iS 17)), ((u_4 17), iA cI 16 (iS 18)), ((u_4 18), rgE (iS 19) (u_4 21)), ((u_4 19), rgE (iS 20) (u_4 22)), ((u_4 20), rgE (iS 21) (u_4 23)), ((u_4 21), iA cI 24 (iS 22)), ((u_4 22), iA cI 24 (iS 23)), ((u_4 23), iA cI 24 (iS 24)), ((u_4 24), iA cI 60 (iS 25))]) (T := []) C hZ (c_X5_init l D cI cJ cO z q_5) cwi_X5_init q_348 [53] [0, 1, 2, 3, 4, 5, 6, 7, 8, 9, 10, 11, 12, 13, 14, 15, 16, 17, 18, 19, 20, 21, 22, 23, 24, 25, 26, 27, 28, 29, 30, 31, 32, 33, 34, 35, 36, 37, 38, 39, 40, 41, 42, 43, 44, 45, 46, 47, 48, 49, 50, 51, 52] rfl rfl (kprm (n := 54) (by decide +kernel) rfl) rfl (Nat.le_of_ble_eq_true rfl) ⟨Nat.le_of_ble_eq_true rfl, Nat.le_of_ble_eq_true rfl⟩ rfl ⟨Nat.le_of_ble_eq_true rfl, Nat.le_of_ble_eq_true rfl⟩ dX10_init_31 (fun u_6 => ?_)
  refine k_show (ws2 := [(h_t, .inr (10, [.ref q_1, .ref q_3, .null, .null])), (q_1, stE (iS 0) (u_2 0) (u_2 1) (u_2 2) (u_2 3) (u_2 4) (u_2 5) (u_2 6) (u_2 7) (u_2 8)), ((u_2 0), iA cI 12 (iS 1)), ((u_2 1), chE (iS 2)), ((u_2 2), chE (iS 3)), ((u_2 3), sgE (iS 4) (u_2 9)), ((u_2 4), ruE (iS 5)), ((u_2 5), clE (iS 6)), ((u_2 6), rsE (u_2 10) (u_2 11) (u_2 12) (u_2 13)), ((u_2 7), trE (u_2 18) (u_2 19) (u_2 20) 17), ((u_2 8), rgE (iS 9) (u_2 24)), ((u_2 9), iA cI 48 (iS 10)), ((u_2 10), rgE (iS 11) (u_2 14)), ((u_2 11), rgE (iS 12) (u_2 15)), ((u_2 12), rgE (iS 13) (u_2 16)), ((u_2 13), rgE (iS 14) (u_2 17)), ((u_2 14), iA cI 16 (iS 15)), ((u_2 15), iA cI 16 (iS 16)), ((u_2 16), iA cI 16 (iS 17)), ((u_2 17), iA cI 16 (iS 18)), ((u_2 18), rgE (iS 19) (u_2 21)), ((u_2 19), rgE (iS 20) (u_2 22)), ((u_2 20), rgE (iS 21) (u_2 23)), ((u_2 21), iA cI 24 (iS 22)), ((u_2 22), iA cI 24 (iS 23)), ((u_2 23), iA cI 24 (iS 24)), ((u_2 24), iA cI 60 (iS 25)), (q_3, stE (iS 0) (u_4 0) (u_4 1) (u_4 2) (u_4 3) (u_4 4) (u_4 5) (u_4 6) (u_4 7) (u_4 8)), ((u_4 0), iA cI 12 (iS 1)), ((u_4 1), chE (iS 2)), ((u_4 2), chE (iS 3)), ((u_4 3), sgE (iS 4) (u_4 9)), ((u_4 4), ruE (iS 5)), ((u_4 5), clE (iS 6)), ((u_4 6), rsE (u_4 10) (u_4 11) (u_4 12) (u_4 13)), ((u_4 7), trE (u_4 18) (u_4 19) (u_4 20) 17), ((u_4 8), rgE (iS 9) (u_4 24)), ((u_4 9), iA cI 48 (iS 10)), ((u_4 10), rgE (iS 11) (u_4 14)), ((u_4 11), rgE (iS 12) (u_4 15)), ((u_4 12), rgE (iS 13) (u_4 16)), ((u_4 13), rgE (iS 14) (u_4 17)), ((u_4 14), iA cI 16 (iS 15)), ((u_4 15), iA cI 16 (iS 16)), ((u_4 16), iA cI 16 (iS 17)), ((u_4 17), iA cI 16 (iS 18)), ((u_4 18), rgE (iS 19) (u_4 21)), ((u_4 19), rgE (iS 20) (u_4 22)), ((u_4 20), rgE (iS 21) (u_4 23)), ((u_4 21), iA cI 24 (iS 22)), ((u_4 22), iA cI 24 (iS 23)), ((u_4 23), iA cI 24 (iS 24)), ((u_4 24), iA cI 60 (iS 25)), (q_5, svE i0 (u_6 0)), ((u_6 0), qA cO 6 (fun _ => none))]) rfl ?_
  refine k_putF (pc := 34) (ws2 := [(h_t, .inr (10, [.ref q_1, .ref q_3, .ref q_5, .null])), (q_1, stE (iS 0) (u_2 0) (u_2 1) (u_2 2) (u_2 3) (u_2 4) (u_2 5) (u_2 6) (u_2 7) (u_2 8)), ((u_2 0), iA cI 12 (iS 1)), ((u_2 1), chE (iS 2)), ((u_2 2), chE (iS 3)), ((u_2 3), sgE (iS 4) (u_2 9)), ((u_2 4), ruE (iS 5)), ((u_2 5), clE (iS 6)), ((u_2 6), rsE (u_2 10) (u_2 11) (u_2 12) (u_2 13)), ((u_2 7), trE (u_2 18) (u_2 19) (u_2 20) 17), ((u_2 8), rgE (iS 9) (u_2 24)), ((u_2 9), iA cI 48 (iS 10)), ((u_2 10), rgE (iS 11) (u_2 14)), ((u_2 11), rgE (iS 12) (u_2 15)), ((u_2 12), rgE (iS 13) (u_2 16)), ((u_2 13), rgE (iS 14) (u_2 17)), ((u_2 14), iA cI 16 (iS 15)), ((u_2 15), iA cI 16 (iS 16)), ((u_2 16), iA cI 16 (iS 17)), ((u_2 17), iA cI 16 (iS 18)), ((u_2 18), rgE (iS 19) (u_2 21)), ((u_2 19), rgE (iS 20) (u_2 22)), ((u_2 20), rgE (iS 21) (u_2 23)), ((u_2 21), iA cI 24 (iS 22)), ((u_2 22), iA cI 24 (iS 23)), ((u_2 23), iA cI 24 (iS 24)), ((u_2 24), iA cI 60 (iS 25)), (q_3, stE (iS 0) (u_4 0) (u_4 1) (u_4 2) (u_4 3) (u_4 4) (u_4 5) (u_4 6) (u_4 7) (u_4 8)), ((u_4 0), iA cI 12 (iS 1)), ((u_4 1), chE (iS 2)), ((u_4 2), chE (iS 3)), ((u_4 3), sgE (iS 4) (u_4 9)), ((u_4 4), ruE (iS 5)), ((u_4 5), clE (iS 6)), ((u_4 6), rsE (u_4 10) (u_4 11) (u_4 12) (u_4 13)), ((u_4 7), trE (u_4 18) (u_4 19) (u_4 20) 17), ((u_4 8), rgE (iS 9) (u_4 24)), ((u_4 9), iA cI 48 (iS 10)), ((u_4 10), rgE (iS 11) (u_4 14)), ((u_4 11), rgE (iS 12) (u_4 15)), ((u_4 12), rgE (iS 13) (u_4 16)), ((u_4 13), rgE (iS 14) (u_4 17)), ((u_4 14), iA cI 16 (iS 15)), ((u_4 15), iA cI 16 (iS 16)), ((u_4 16), iA cI 16 (iS 17)), ((u_4 17), iA cI 16 (iS 18)), ((u_4 18), rgE (iS 19) (u_4 21)), ((u_4 19), rgE (iS 20) (u_4 22)), ((u_4 20), rgE (iS 21) (u_4 23)), ((u_4 21), iA cI 24 (iS 22)), ((u_4 22), iA cI 24 (iS 23)), ((u_4 23), iA cI 24 (iS 24)), ((u_4 24), iA cI 60 (iS 25)), (q_5, svE i0 (u_6 0)), ((u_6 0), qA cO 6 (fun _ => none))]) C hin vX10 2 (by decide) rfl rfl q_396 rfl rfl 0 rfl (Nat.le_of_ble_eq_true rfl) rfl dX10_init_34 ?_
  refine k_aload_n (pc := 37) C rfl 0 rfl dX10_init_37 ?_
  refine k_new (pc := 38) (fs := [.null, .int 0, .null, .int 0, .int 0, .int 0]) C vX8 q_365 q_366 q_52 (by decide) ⟨Nat.le_of_ble_eq_true rfl, Nat.le_of_ble_eq_true rfl⟩ dX10_init_38 (fun q_7 => ?_)
  refine k_dup (pc := 41) C rfl dX10_init_41 ?_
  refine k_callUNv (pc := 42) (As := []) (rest := [.ref q_7, .ref h_t]) (hd := [(h_t, .inr (10, [.ref q_1, .ref q_3, .ref q_5, .null])), (q_1, stE (iS 0) (u_2 0) (u_2 1) (u_2 2) (u_2 3) (u_2 4) (u_2 5) (u_2 6) (u_2 7) (u_2 8)), ((u_2 0), iA cI 12 (iS 1)), ((u_2 1), chE (iS 2)), ((u_2 2), chE (iS 3)), ((u_2 3), sgE (iS 4) (u_2 9)), ((u_2 4), ruE (iS 5)), ((u_2 5), clE (iS 6)), ((u_2 6), rsE (u_2 10) (u_2 11) (u_2 12) (u_2 13)), ((u_2 7), trE (u_2 18) (u_2 19) (u_2 20) 17), ((u_2 8), rgE (iS 9) (u_2 24)), ((u_2 9), iA cI 48 (iS 10)), ((u_2 10), rgE (iS 11) (u_2 14)), ((u_2 11), rgE (iS 12) (u_2 15)), ((u_2 12), rgE (iS 13) (u_2 16)), ((u_2 13), rgE (iS 14) (u_2 17)), ((u_2 14), iA cI 16 (iS 15)), ((u_2 15), iA cI 16 (iS 16)), ((u_2 16), iA cI 16 (iS 17)), ((u_2 17), iA cI 16 (iS 18)), ((u_2 18), rgE (iS 19) (u_2 21)), ((u_2 19), rgE (iS 20) (u_2 22)), ((u_2 20), rgE (iS 21) (u_2 23)), ((u_2 21), iA cI 24 (iS 22)), ((u_2 22), iA cI 24 (iS 23)), ((u_2 23), iA cI 24 (iS 24)), ((u_2 24), iA cI 60 (iS 25)), (q_3, stE (iS 0) (u_4 0) (u_4 1) (u_4 2) (u_4 3) (u_4 4) (u_4 5) (u_4 6) (u_4 7) (u_4 8)), ((u_4 0), iA cI 12 (iS 1)), ((u_4 1), chE (iS 2)), ((u_4 2), chE (iS 3)), ((u_4 3), sgE (iS 4) (u_4 9)), ((u_4 4), ruE (iS 5)), ((u_4 5), clE (iS 6)), ((u_4 6), rsE (u_4 10) (u_4 11) (u_4 12) (u_4 13)), ((u_4 7), trE (u_4 18) (u_4 19) (u_4 20) 17), ((u_4 8), rgE (iS 9) (u_4 24)), ((u_4 9), iA cI 48 (iS 10)), ((u_4 10), rgE (iS 11) (u_4 14)), ((u_4 11), rgE (iS 12) (u_4 15)), ((u_4 12), rgE (iS 13) (u_4 16)), ((u_4 13), rgE (iS 14) (u_4 17)), ((u_4 14), iA cI 16 (iS 15)), ((u_4 15), iA cI 16 (iS 16)), ((u_4 16), iA cI 16 (iS 17)), ((u_4 17), iA cI 16 (iS 18)), ((u_4 18), rgE (iS 19) (u_4 21)), ((u_4 19), rgE (iS 20) (u_4 22)), ((u_4 20), rgE (iS 21) (u_4 23)), ((u_4 21), iA cI 24 (iS 22)), ((u_4 22), iA cI 24 (iS 23)), ((u_4 23), iA cI 24 (iS 24)), ((u_4 24), iA cI 60 (iS 25)), (q_5, svE i0 (u_6 0)), ((u_6 0), qA cO 6 (fun _ => none)), (q_7, .inr (8, [.null, .int 0, .null, .int 0, .int 0, .int 0]))]) (hc := [(q_7, .inr (8, [.null, .int 0, .null, .int 0, .int 0, .int 0]))]) (wr := [(h_t, .inr (10, [.ref q_1, .ref q_3, .ref q_5, .null])), (q_1, stE (iS 0) (u_2 0) (u_2 1) (u_2 2) (u_2 3) (u_2 4) (u_2 5) (u_2 6) (u_2 7) (u_2 8)), ((u_2 0), iA cI 12 (iS 1)), ((u_2 1), chE (iS 2)), ((u_2 2), chE (iS 3)), ((u_2 3), sgE (iS 4) (u_2 9)), ((u_2 4), ruE (iS 5)), ((u_2 5), clE (iS 6)), ((u_2 6), rsE (u_2 10) (u_2 11) (u_2 12) (u_2 13)), ((u_2 7), trE (u_2 18) (u_2 19) (u_2 20) 17), ((u_2 8), rgE (iS 9) (u_2 24)), ((u_2 9), iA cI 48 (iS 10)), ((u_2 10), rgE (iS 11) (u_2 14)), ((u_2 11), rgE (iS 12) (u_2 15)), ((u_2 12), rgE (iS 13) (u_2 16)), ((u_2 13), rgE (iS 14) (u_2 17)), ((u_2 14), iA cI 16 (iS 15)), ((u_2 15), iA cI 16 (iS 16)), ((u_2 16), iA cI 16 (iS 17)), ((u_2 17), iA cI 16 (iS 18)), ((u_2 18), rgE (iS 19) (u_2 21)), ((u_2 19), rgE (iS 20) (u_2 22)), ((u_2 20), rgE (iS 21) (u_2 23)), ((u_2 21), iA cI 24 (iS 22)), ((u_2 22), iA cI 24 (iS 23)), ((u_2 23), iA cI 24 (iS 24)), ((u_2 24), iA cI 60 (iS 25)), (q_3, stE (iS 0) (u_4 0) (u_4 1) (u_4 2) (u_4 3) (u_4 4) (u_4 5) (u_4 6) (u_4 7) (u_4 8)), ((u_4 0), iA cI 12 (iS 1)), ((u_4 1), chE (iS 2)), ((u_4 2), chE (iS 3)), ((u_4 3), sgE (iS 4) (u_4 9)), ((u_4 4), ruE (iS 5)), ((u_4 5), clE (iS 6)), ((u_4 6), rsE (u_4 10) (u_4 11) (u_4 12) (u_4 13)), ((u_4 7), trE (u_4 18) (u_4 19) (u_4 20) 17), ((u_4 8), rgE (iS 9) (u_4 24)), ((u_4 9), iA cI 48 (iS 10)), ((u_4 10), rgE (iS 11) (u_4 14)), ((u_4 11), rgE (iS 12) (u_4 15)), ((u_4 12), rgE (iS 13) (u_4 16)), ((u_4 13), rgE (iS 14) (u_4 17)), ((u_4 14), iA cI 16 (iS 15)), ((u_4 15), iA cI 16 (iS 16)), ((u_4 16), iA cI 16 (iS 17)), ((u_4 17), iA cI 16 (iS 18)), ((u_4 18), rgE (iS 19) (u_4 21)), ((u_4 19), rgE (iS 20) (u_4 22)), ((u_4 20), rgE (iS 21) (u_4 23)), ((u_4 21), iA cI 24 (iS 22)), ((u_4 22), iA cI 24 (iS 23)), ((u_4 23), iA cI 24 (iS 24)), ((u_4 24), iA cI 60 (iS 25)), (q_5, svE i0 (u_6 0)), ((u_6 0), qA cO 6 (fun _ => none))]) (T := []) C hZ (c_X8_init l D cI cJ cO z q_7) cwi_X8_init q_367 [55] [0, 1, 2, 3, 4, 5, 6, 7, 8, 9, 10, 11, 12, 13, 14, 15, 16, 17, 18, 19, 20, 21, 22, 23, 24, 25, 26, 27, 28, 29, 30, 31, 32, 33, 34, 35, 36, 37, 38, 39, 40, 41, 42, 43, 44, 45, 46, 47, 48, 49, 50, 51, 52, 53, 54] rfl rfl (kprm (n := 56) (by decide +kernel) rfl) rfl (Nat.le_of_ble_eq_true rfl) ⟨Nat.le_of_ble_eq_true rfl, Nat.le_of_ble_eq_true rfl⟩ rfl ⟨Nat.le_of_ble_eq_true rfl, Nat.le_of_ble_eq_true rfl⟩ dX10_init_42 (fun u_8 => ?_)
  refine k_show (ws2 := [(h_t, .inr (10, [.ref q_1, .ref q_3, .ref q_5, .null])), (q_1, stE (iS 0) (u_2 0) (u_2 1) (u_2 2) (u_2 3) (u_2 4) (u_2 5) (u_2 6) (u_2 7) (u_2 8)), ((u_2 0), iA cI 12 (iS 1)), ((u_2 1), chE (iS 2)), ((u_2 2), chE (iS 3)), ((u_2 3), sgE (iS 4) (u_2 9)), ((u_2 4), ruE (iS 5)), ((u_2 5), clE (iS 6)), ((u_2 6), rsE (u_2 10) (u_2 11) (u_2 12) (u_2 13)), ((u_2 7), trE (u_2 18) (u_2 19) (u_2 20) 17), ((u_2 8), rgE (iS 9) (u_2 24)), ((u_2 9), iA cI 48 (iS 10)), ((u_2 10), rgE (iS 11) (u_2 14)), ((u_2 11), rgE (iS 12) (u_2 15)), ((u_2 12), rgE (iS 13) (u_2 16)), ((u_2 13), rgE (iS 14) (u_2 17)), ((u_2 14), iA cI 16 (iS 15)), ((u_2 15), iA cI 16 (iS 16)), ((u_2 16), iA cI 16 (iS 17)), ((u_2 17), iA cI 16 (iS 18)), ((u_2 18), rgE (iS 19) (u_2 21)), ((u_2 19), rgE (iS 20) (u_2 22)), ((u_2 20), rgE (iS 21) (u_2 23)), ((u_2 21), iA cI 24 (iS 22)), ((u_2 22), iA cI 24 (iS 23)), ((u_2 23), iA cI 24 (iS 24)), ((u_2 24), iA cI 60 (iS 25)), (q_3, stE (iS 0) (u_4 0) (u_4 1) (u_4 2) (u_4 3) (u_4 4) (u_4 5) (u_4 6) (u_4 7) (u_4 8)), ((u_4 0), iA cI 12 (iS 1)), ((u_4 1), chE (iS 2)), ((u_4 2), chE (iS 3)), ((u_4 3), sgE (iS 4) (u_4 9)), ((u_4 4), ruE (iS 5)), ((u_4 5), clE (iS 6)), ((u_4 6), rsE (u_4 10) (u_4 11) (u_4 12) (u_4 13)), ((u_4 7), trE (u_4 18) (u_4 19) (u_4 20) 17), ((u_4 8), rgE (iS 9) (u_4 24)), ((u_4 9), iA cI 48 (iS 10)), ((u_4 10), rgE (iS 11) (u_4 14)), ((u_4 11), rgE (iS 12) (u_4 15)), ((u_4 12), rgE (iS 13) (u_4 16)), ((u_4 13), rgE (iS 14) (u_4 17)), ((u_4 14), iA cI 16 (iS 15)), ((u_4 15), iA cI 16 (iS 16)), ((u_4 16), iA cI 16 (iS 17)), ((u_4 17), iA cI 16 (iS 18)), ((u_4 18), rgE (iS 19) (u_4 21)), ((u_4 19), rgE (iS 20) (u_4 22)), ((u_4 20), rgE (iS 21) (u_4 23)), ((u_4 21), iA cI 24 (iS 22)), ((u_4 22), iA cI 24 (iS 23)), ((u_4 23), iA cI 24 (iS 24)), ((u_4 24), iA cI 60 (iS 25)), (q_5, svE i0 (u_6 0)), ((u_6 0), qA cO 6 (fun _ => none)), (q_7, txE i0 (u_8 0) (u_8 1)), ((u_8 0), iA cI 90 i0), ((u_8 1), sgE i0 (u_8 2)), ((u_8 2), iA cI 48 i0)]) rfl ?_
  refine k_putF (pc := 45) (ws2 := [(h_t, .inr (10, [.ref q_1, .ref q_3, .ref q_5, .ref q_7])), (q_1, stE (iS 0) (u_2 0) (u_2 1) (u_2 2) (u_2 3) (u_2 4) (u_2 5) (u_2 6) (u_2 7) (u_2 8)), ((u_2 0), iA cI 12 (iS 1)), ((u_2 1), chE (iS 2)), ((u_2 2), chE (iS 3)), ((u_2 3), sgE (iS 4) (u_2 9)), ((u_2 4), ruE (iS 5)), ((u_2 5), clE (iS 6)), ((u_2 6), rsE (u_2 10) (u_2 11) (u_2 12) (u_2 13)), ((u_2 7), trE (u_2 18) (u_2 19) (u_2 20) 17), ((u_2 8), rgE (iS 9) (u_2 24)), ((u_2 9), iA cI 48 (iS 10)), ((u_2 10), rgE (iS 11) (u_2 14)), ((u_2 11), rgE (iS 12) (u_2 15)), ((u_2 12), rgE (iS 13) (u_2 16)), ((u_2 13), rgE (iS 14) (u_2 17)), ((u_2 14), iA cI 16 (iS 15)), ((u_2 15), iA cI 16 (iS 16)), ((u_2 16), iA cI 16 (iS 17)), ((u_2 17), iA cI 16 (iS 18)), ((u_2 18), rgE (iS 19) (u_2 21)), ((u_2 19), rgE (iS 20) (u_2 22)), ((u_2 20), rgE (iS 21) (u_2 23)), ((u_2 21), iA cI 24 (iS 22)), ((u_2 22), iA cI 24 (iS 23)), ((u_2 23), iA cI 24 (iS 24)), ((u_2 24), iA cI 60 (iS 25)), (q_3, stE (iS 0) (u_4 0) (u_4 1) (u_4 2) (u_4 3) (u_4 4) (u_4 5) (u_4 6) (u_4 7) (u_4 8)), ((u_4 0), iA cI 12 (iS 1)), ((u_4 1), chE (iS 2)), ((u_4 2), chE (iS 3)), ((u_4 3), sgE (iS 4) (u_4 9)), ((u_4 4), ruE (iS 5)), ((u_4 5), clE (iS 6)), ((u_4 6), rsE (u_4 10) (u_4 11) (u_4 12) (u_4 13)), ((u_4 7), trE (u_4 18) (u_4 19) (u_4 20) 17), ((u_4 8), rgE (iS 9) (u_4 24)), ((u_4 9), iA cI 48 (iS 10)), ((u_4 10), rgE (iS 11) (u_4 14)), ((u_4 11), rgE (iS 12) (u_4 15)), ((u_4 12), rgE (iS 13) (u_4 16)), ((u_4 13), rgE (iS 14) (u_4 17)), ((u_4 14), iA cI 16 (iS 15)), ((u_4 15), iA cI 16 (iS 16)), ((u_4 16), iA cI 16 (iS 17)), ((u_4 17), iA cI 16 (iS 18)), ((u_4 18), rgE (iS 19) (u_4 21)), ((u_4 19), rgE (iS 20) (u_4 22)), ((u_4 20), rgE (iS 21) (u_4 23)), ((u_4 21), iA cI 24 (iS 22)), ((u_4 22), iA cI 24 (iS 23)), ((u_4 23), iA cI 24 (iS 24)), ((u_4 24), iA cI 60 (iS 25)), (q_5, svE i0 (u_6 0)), ((u_6 0), qA cO 6 (fun _ => none)), (q_7, txE i0 (u_8 0) (u_8 1)), ((u_8 0), iA cI 90 i0), ((u_8 1), sgE i0 (u_8 2)), ((u_8 2), iA cI 48 i0)]) C hin vX10 3 (by decide) rfl rfl q_397 rfl rfl 0 rfl (Nat.le_of_ble_eq_true rfl) rfl dX10_init_45 ?_
  exact k_finUv (pc := 48) hret (fun k => [q_1, (u_2 0), (u_2 1), (u_2 2), (u_2 3), (u_2 4), (u_2 5), (u_2 6), (u_2 7), (u_2 8), (u_2 9), (u_2 10), (u_2 11), (u_2 12), (u_2 13), (u_2 14), (u_2 15), (u_2 16), (u_2 17), (u_2 18), (u_2 19), (u_2 20), (u_2 21), (u_2 22), (u_2 23), (u_2 24), q_3, (u_4 0), (u_4 1), (u_4 2), (u_4 3), (u_4 4), (u_4 5), (u_4 6), (u_4 7), (u_4 8), (u_4 9), (u_4 10), (u_4 11), (u_4 12), (u_4 13), (u_4 14), (u_4 15), (u_4 16), (u_4 17), (u_4 18), (u_4 19), (u_4 20), (u_4 21), (u_4 22), (u_4 23), (u_4 24), q_5, (u_6 0), q_7, (u_8 0), (u_8 1), (u_8 2)].getD k 0) rfl (Nat.le_of_ble_eq_true rfl) (Nat.le_of_ble_eq_true rfl) dX10_init_48
