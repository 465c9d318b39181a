theorem q_41 : Cond.instanceMethod objectInit ∈ lw_all := kq 41 (by decide +kernel) (by decide +kernel)
theorem q_42 : Cond.code objectInit ⟨#[0xb1]⟩ 1 none ∈ lw_all := kq 42 (by decide +kernel) (by decide +kernel)
theorem q_48 : Cond.methodLink RX7 3 objectInit ∈ lw_all := kq 48 (by decide +kernel) (by decide +kernel)
theorem q_49 : Cond.fieldLinkNest RX7 15 RX10 "INITIAL_SETTINGS" "[I" RX10 ∈ lw_nest := kqn 49 (by decide +kernel) (by decide +kernel)
theorem q_51 : Cond.methodLink RX7 19 (⟨"[I", "clone", "()Ljava/lang/Object;"⟩ : MethodName) ∈ lw_all := kq 51 (by decide +kernel) (by decide +kernel)
theorem q_52 : Cond.sameMethod "[I" "java/lang/Object" "clone" "()Ljava/lang/Object;" ∈ lw_all := kq 52 (by decide +kernel) (by decide +kernel)
theorem q_53 : Cond.native (⟨"java/lang/Object", "clone", "()Ljava/lang/Object;"⟩ : MethodName) ∈ lw_all := kq 53 (by decide +kernel) (by decide +kernel)
theorem q_54 : Cond.instanceMethod (⟨"java/lang/Object", "clone", "()Ljava/lang/Object;"⟩ : MethodName) ∈ lw_all := kq 54 (by decide +kernel) (by decide +kernel)
theorem q_55 : Cond.selects "[I" (⟨"[I", "clone", "()Ljava/lang/Object;"⟩ : MethodName) (⟨"java/lang/Object", "clone", "()Ljava/lang/Object;"⟩ : MethodName) ∈ lw_all := kq 55 (by decide +kernel) (by decide +kernel)
theorem q_57 : Cond.classLink RX7 20 "[I" ∈ lw_all := kq 57 (by decide +kernel) (by decide +kernel)
theorem q_58 : Cond.classLink RX7 27 RX0 ∈ lw_all := kq 58 (by decide +kernel) (by decide +kernel)
theorem q_59 : Cond.instantiable RX0 3 ∈ lw_all := kq 59 (by decide +kernel) (by decide +kernel)
theorem q_60 : Cond.methodLinkNest RX7 29 yX0_init RX10 ∈ lw_nest := kqn 60 (by decide +kernel) (by decide +kernel)
theorem q_61 : Cond.instanceMethod yX0_init ∈ lw_all := kq 61 (by decide +kernel) (by decide +kernel)
theorem q_62 : Cond.code yX0_init cX0_init 1 none ∈ lw_all := kq 62 (by decide +kernel) (by decide +kernel)
theorem q_63 : Cond.methodLink RX0 1 objectInit ∈ lw_all := kq 63 (by decide +kernel) (by decide +kernel)
theorem q_77 : Cond.arrayClass .int ∈ lw_all := kq 77 (by decide +kernel) (by decide +kernel)
theorem q_78 : Cond.classLink RX7 37 RX6 ∈ lw_all := kq 78 (by decide +kernel) (by decide +kernel)
theorem q_79 : Cond.instantiable RX6 2 ∈ lw_all := kq 79 (by decide +kernel) (by decide +kernel)
theorem q_80 : Cond.methodLinkNest RX7 39 yX6_init RX10 ∈ lw_nest := kqn 80 (by decide +kernel) (by decide +kernel)
theorem q_81 : Cond.instanceMethod yX6_init ∈ lw_all := kq 81 (by decide +kernel) (by decide +kernel)
theorem q_82 : Cond.code yX6_init cX6_init 1 none ∈ lw_all := kq 82 (by decide +kernel) (by decide +kernel)
theorem q_83 : Cond.methodLink RX6 3 objectInit ∈ lw_all := kq 83 (by decide +kernel) (by decide +kernel)
theorem q_94 : Cond.classLink RX7 44 RX4 ∈ lw_all := kq 94 (by decide +kernel) (by decide +kernel)
theorem q_95 : Cond.instantiable RX4 10 ∈ lw_all := kq 95 (by decide +kernel) (by decide +kernel)
theorem q_96 : Cond.methodLinkNest RX7 46 yX4_init RX10 ∈ lw_nest := kqn 96 (by decide +kernel) (by decide +kernel)
theorem q_97 : Cond.instanceMethod yX4_init ∈ lw_all := kq 97 (by decide +kernel) (by decide +kernel)
theorem q_98 : Cond.code yX4_init cX4_init 1 none ∈ lw_all := kq 98 (by decide +kernel) (by decide +kernel)
theorem q_99 : Cond.methodLink RX4 3 objectInit ∈ lw_all := kq 99 (by decide +kernel) (by decide +kernel)
theorem q_148 : Cond.classLink RX7 51 RX1 ∈ lw_all := kq 148 (by decide +kernel) (by decide +kernel)
theorem q_149 : Cond.instantiable RX1 14 ∈ lw_all := kq 149 (by decide +kernel) (by decide +kernel)
theorem q_150 : Cond.methodLinkNest RX7 53 yX1_init RX10 ∈ lw_nest := kqn 150 (by decide +kernel) (by decide +kernel)
theorem q_151 : Cond.instanceMethod yX1_init ∈ lw_all := kq 151 (by decide +kernel) (by decide +kernel)
theorem q_152 : Cond.code yX1_init cX1_init 1 none ∈ lw_all := kq 152 (by decide +kernel) (by decide +kernel)
theorem q_153 : Cond.methodLink RX1 3 objectInit ∈ lw_all := kq 153 (by decide +kernel) (by decide +kernel)
theorem q_211 : Cond.classLink RX7 58 RX2 ∈ lw_all := kq 211 (by decide +kernel) (by decide +kernel)
theorem q_212 : Cond.instantiable RX2 4 ∈ lw_all := kq 212 (by decide +kernel) (by decide +kernel)
theorem q_213 : Cond.methodLinkNest RX7 60 yX2_init RX10 ∈ lw_nest := kqn 213 (by decide +kernel) (by decide +kernel)
theorem q_214 : Cond.instanceMethod yX2_init ∈ lw_all := kq 214 (by decide +kernel) (by decide +kernel)
theorem q_215 : Cond.code yX2_init cX2_init 1 none ∈ lw_all := kq 215 (by decide +kernel) (by decide +kernel)
theorem q_216 : Cond.methodLink RX2 1 objectInit ∈ lw_all := kq 216 (by decide +kernel) (by decide +kernel)
theorem q_217 : Cond.classLink RX2 7 RX3 ∈ lw_all := kq 217 (by decide +kernel) (by decide +kernel)
theorem q_218 : Cond.instantiable RX3 3 ∈ lw_all := kq 218 (by decide +kernel) (by decide +kernel)
theorem q_219 : Cond.methodLink RX2 9 yX3_init ∈ lw_all := kq 219 (by decide +kernel) (by decide +kernel)
theorem q_220 : Cond.instanceMethod yX3_init ∈ lw_all := kq 220 (by decide +kernel) (by decide +kernel)
theorem q_221 : Cond.code yX3_init cX3_init 2 none ∈ lw_all := kq 221 (by decide +kernel) (by decide +kernel)
theorem q_222 : Cond.methodLink RX3 3 objectInit ∈ lw_all := kq 222 (by decide +kernel) (by decide +kernel)
theorem q_223 : Cond.methodLink RX3 9 Lib.Math.max.name ∈ lw_all := kq 223 (by decide +kernel) (by decide +kernel)
theorem q_250 : Cond.classLink RX7 65 RX9 ∈ lw_all := kq 250 (by decide +kernel) (by decide +kernel)
theorem q_251 : Cond.instantiable RX9 4 ∈ lw_all := kq 251 (by decide +kernel) (by decide +kernel)
theorem q_252 : Cond.methodLinkNest RX7 67 yX9_init RX10 ∈ lw_nest := kqn 252 (by decide +kernel) (by decide +kernel)
theorem q_253 : Cond.instanceMethod yX9_init ∈ lw_all := kq 253 (by decide +kernel) (by decide +kernel)
theorem q_254 : Cond.code yX9_init cX9_init 1 none ∈ lw_all := kq 254 (by decide +kernel) (by decide +kernel)
theorem q_255 : Cond.methodLink RX9 1 objectInit ∈ lw_all := kq 255 (by decide +kernel) (by decide +kernel)
theorem q_256 : Cond.classLink RX9 7 RX3 ∈ lw_all := kq 256 (by decide +kernel) (by decide +kernel)
theorem q_257 : Cond.methodLink RX9 9 yX3_init ∈ lw_all := kq 257 (by decide +kernel) (by decide +kernel)
theorem q_258 : Cond.constantLong RX9 24 (17) ∈ lw_all := kq 258 (by decide +kernel) (by decide +kernel)
theorem q_273 : Cond.classLink RX7 72 RX3 ∈ lw_all := kq 273 (by decide +kernel) (by decide +kernel)
theorem q_274 : Cond.methodLink RX7 74 yX3_init ∈ lw_all := kq 274 (by decide +kernel) (by decide +kernel)
theorem q_325 : Cond.methodLink RX5 1 objectInit ∈ lw_all := kq 325 (by decide +kernel) (by decide +kernel)
theorem q_326 : Cond.classLink RX5 7 RX7 ∈ lw_all := kq 326 (by decide +kernel) (by decide +kernel)
theorem q_328 : Cond.fieldLink RX5 9 "ClimateChamber$SavedStates" "states" "[LClimateChamber$State;" ∈ lw_all := kq 328 (by decide +kernel) (by decide +kernel)
theorem q_344 : Cond.methodLink RX8 3 objectInit ∈ lw_all := kq 344 (by decide +kernel) (by decide +kernel)
theorem q_345 : Cond.classLink RX8 15 RX6 ∈ lw_all := kq 345 (by decide +kernel) (by decide +kernel)
theorem q_346 : Cond.methodLinkNest RX8 17 yX6_init RX10 ∈ lw_nest := kqn 346 (by decide +kernel) (by decide +kernel)
theorem bipush_16 : (Int8.ofInt 16).toInt32 = 16 := by decide
theorem bipush_24 : (Int8.ofInt 24).toInt32 = 24 := by decide
theorem bipush_50 : (Int8.ofInt 50).toInt32 = 50 := by decide
theorem bipush_60 : (Int8.ofInt 60).toInt32 = 60 := by decide
theorem bipush_90 : (Int8.ofInt 90).toInt32 = 90 := by decide
theorem sipush_200 : (Int16.ofInt 200).toInt32 = 200 := by decide
theorem sipush_400 : (Int16.ofInt 400).toInt32 = 400 := by decide
theorem kprm {is : List Nat} {n m : Nat} (h : is.Perm (List.range n)) (e : n = m) : is.Perm (List.range m) := by subst e; exact h
theorem k_show {p : Program} {l : Launch} {e : Env} {R : Room} {s : State} {m : MethodId} {args : Array Value} {below : List Frame} {meth : Method} {c : Code} {cells slots : Nat} {Q : State → Prop} {D : va_G} {A : Nat → Prop} {nL : Nat} {ws ws2 : va_W} {lv : List (Nat × Value)} {st : List Value} {pc : Nat} (h : ws = ws2) (k : KJ p l e R s m args below meth c cells slots Q D A nL ws2 lv st pc) : KJ p l e R s m args below meth c cells slots Q D A nL ws lv st pc := by subst h; exact k
theorem k_permL {p : Program} {l : Launch} {e : Env} {R : Room} {s : State} {m : MethodId} {args : Array Value} {below : List Frame} {meth : Method} {c : Code} {cells slots : Nat} {Q : State → Prop} {D : va_G} {A : Nat → Prop} {nL : Nat} {ws ws2 : va_W} {lv : List (Nat × Value)} {st : List Value} {pc : Nat} (is : List Nat) (hm : is.map (fun i => ws[i]?) = ws2.map some) (hp : is.Perm (List.range ws.length)) (k : KJ p l e R s m args below meth c cells slots Q D A nL ws2 lv st pc) : KJ p l e R s m args below meth c cells slots Q D A nL ws lv st pc := by
  refine k_perm ?_ k
  have h := k_pick (hd := ws) (wc := ws2) (wr := []) (isC := is) (isR := []) hm rfl (by rw [List.append_nil]; exact hp)
  rw [List.append_nil] at h
  exact h
/-- the first ints -/
def iCh : Nat → Int32
  | 0 => 0 | 1 => 50 | _ => 2
def iCl : Nat → Int32
  | 0 => 200 | 1 => 400 | 2 => 200 | 3 => 400 | 7 => 1000 | 8 => 1000 | _ => 0
def iSt : Nat → Int32
  | 0 => 0 | _ => 1
def i0 : Nat → Int32 := fun _ => 0
/-- a State's ints, at first -/
def iS : Nat → Nat → Int32
  | 0 => iSt | 1 => zI | 2 => iCh | 3 => iCh | 6 => iCl | _ => i0
theorem cwi_X0_init : kCWi yX0_init cX0_init 1 0 := ⟨⟨q_62, q_18, by decide +kernel⟩, rfl, q_61⟩
theorem cwi_X1_init : kCWi yX1_init cX1_init 1 0 := ⟨⟨q_152, q_21, by decide +kernel⟩, rfl, q_151⟩
theorem cwi_X2_init : kCWi yX2_init cX2_init 1 0 := ⟨⟨q_215, q_22, by decide +kernel⟩, rfl, q_214⟩
theorem cwi_X3_init : kCWi yX3_init cX3_init 2 1 := ⟨⟨q_221, q_23, by decide +kernel⟩, rfl, q_220⟩
theorem cwi_X4_init : kCWi yX4_init cX4_init 1 0 := ⟨⟨q_98, q_20, by decide +kernel⟩, rfl, q_97⟩
theorem cwi_X6_init : kCWi yX6_init cX6_init 1 0 := ⟨⟨q_82, q_19, by decide +kernel⟩, rfl, q_81⟩
theorem cwi_X9_init : kCWi yX9_init cX9_init 1 0 := ⟨⟨q_254, q_25, by decide +kernel⟩, rfl, q_253⟩

theorem dX0_init_0 : decode cX0_init 0 = .ok (.aload_n 0, 1) := by decide +kernel
theorem dX0_init_1 : decode cX0_init 1 = .ok (.invokespecial 1, 3) := by decide +kernel
theorem dX0_init_4 : decode cX0_init 4 = .ok (.aload_n 0, 1) := by decide +kernel
theorem dX0_init_5 : decode cX0_init 5 = .ok (.iconst 0, 1) := by decide +kernel
theorem dX0_init_6 : decode cX0_init 6 = .ok (.putfield 7, 3) := by decide +kernel
theorem dX0_init_9 : decode cX0_init 9 = .ok (.aload_n 0, 1) := by decide +kernel
theorem dX0_init_10 : decode cX0_init 10 = .ok (.bipush 50, 2) := by decide +kernel
theorem dX0_init_12 : decode cX0_init 12 = .ok (.putfield 13, 3) := by decide +kernel
theorem dX0_init_15 : decode cX0_init 15 = .ok (.aload_n 0, 1) := by decide +kernel
theorem dX0_init_16 : decode cX0_init 16 = .ok (.iconst 2, 1) := by decide +kernel
theorem dX0_init_17 : decode cX0_init 17 = .ok (.putfield 16, 3) := by decide +kernel
theorem dX0_init_20 : decode cX0_init 20 = .ok (.return_, 1) := by decide +kernel
set_option maxRecDepth 100000 in
set_option maxHeartbeats 4000000 in
theorem c_X0_init (l : Launch) (D : va_G) (cI cJ cO : ClassId) (z : zT) (h_t : Nat) : kUv l yX0_init cX0_init 1 1 16 0 0 D (kT cI cJ cO) z [.ref h_t] [(h_t, .inr (0, [.int 0, .int 0, .int 0]))] (fun u : Nat → Nat => [(h_t, chE iCh)]) := by
  refine kUv_ofI (own := RX0) (lv := [(0, .ref h_t)]) rfl rfl rfl (by decide) (Nat.le_of_ble_eq_true rfl) ?_
  intro p e s m args below meth c Q A C hZ hin hret
  refine k_aload_n (pc := 0) C rfl 0 rfl dX0_init_0 ?_
  refine k_objInit (pc := 1) C q_63 q_41 q_42 ⟨Nat.le_of_ble_eq_true rfl, Nat.le_of_ble_eq_true rfl⟩ dX0_init_1 ?_
  refine k_aload_n (pc := 4) C rfl 0 rfl dX0_init_4 ?_
  refine k_iconst (pc := 5) C iconst_0 dX0_init_5 ?_
  refine k_put (pc := 6) (ws2 := [(h_t, .inr (0, [.int 0, .int 0, .int 0]))]) C vX0 0 (by decide) rfl q_64 rfl rfl 0 rfl (Nat.le_of_ble_eq_true rfl) rfl dX0_init_6 ?_
  refine k_aload_n (pc := 9) C rfl 0 rfl dX0_init_9 ?_
  refine k_bipush (pc := 10) C bipush_50 dX0_init_10 ?_
  refine k_put (pc := 12) (ws2 := [(h_t, .inr (0, [.int 0, .int 50, .int 0]))]) C vX0 1 (by decide) rfl q_66 rfl rfl 0 rfl (Nat.le_of_ble_eq_true rfl) rfl dX0_init_12 ?_
  refine k_aload_n (pc := 15) C rfl 0 rfl dX0_init_15 ?_
  refine k_iconst (pc := 16) C iconst_2 dX0_init_16 ?_
  refine k_put (pc := 17) (ws2 := [(h_t, .inr (0, [.int 0, .int 50, .int 2]))]) C vX0 2 (by decide) rfl q_68 rfl rfl 0 rfl (Nat.le_of_ble_eq_true rfl) rfl dX0_init_17 ?_
  exact k_finUv (pc := 20) hret (fun k => [].getD k 0) rfl (Nat.le_of_ble_eq_true rfl) (Nat.le_of_ble_eq_true rfl) dX0_init_20

theorem dX1_init_0 : decode cX1_init 0 = .ok (.aload_n 0, 1) := by decide +kernel
theorem dX1_init_1 : decode cX1_init 1 = .ok (.invokespecial 3, 3) := by decide +kernel
theorem dX1_init_4 : decode cX1_init 4 = .ok (.aload_n 0, 1) := by decide +kernel
theorem dX1_init_5 : decode cX1_init 5 = .ok (.sipush 200, 3) := by decide +kernel
theorem dX1_init_8 : decode cX1_init 8 = .ok (.putfield 9, 3) := by decide +kernel
theorem dX1_init_11 : decode cX1_init 11 = .ok (.aload_n 0, 1) := by decide +kernel
theorem dX1_init_12 : decode cX1_init 12 = .ok (.sipush 400, 3) := by decide +kernel
theorem dX1_init_15 : decode cX1_init 15 = .ok (.putfield 15, 3) := by decide +kernel
theorem dX1_init_18 : decode cX1_init 18 = .ok (.aload_n 0, 1) := by decide +kernel
theorem dX1_init_19 : decode cX1_init 19 = .ok (.sipush 200, 3) := by decide +kernel
theorem dX1_init_22 : decode cX1_init 22 = .ok (.putfield 18, 3) := by decide +kernel
theorem dX1_init_25 : decode cX1_init 25 = .ok (.aload_n 0, 1) := by decide +kernel
theorem dX1_init_26 : decode cX1_init 26 = .ok (.sipush 400, 3) := by decide +kernel
theorem dX1_init_29 : decode cX1_init 29 = .ok (.putfield 21, 3) := by decide +kernel
theorem dX1_init_32 : decode cX1_init 32 = .ok (.aload_n 0, 1) := by decide +kernel
theorem dX1_init_33 : decode cX1_init 33 = .ok (.sipush 1000, 3) := by decide +kernel
theorem dX1_init_36 : decode cX1_init 36 = .ok (.putfield 24, 3) := by decide +kernel
theorem dX1_init_39 : decode cX1_init 39 = .ok (.aload_n 0, 1) := by decide +kernel
theorem dX1_init_40 : decode cX1_init 40 = .ok (.sipush 1000, 3) := by decide +kernel
theorem dX1_init_43 : decode cX1_init 43 = .ok (.putfield 27, 3) := by decide +kernel
theorem dX1_init_46 : decode cX1_init 46 = .ok (.return_, 1) := by decide +kernel
set_option maxRecDepth 100000 in
set_option maxHeartbeats 4000000 in
theorem c_X1_init (l : Launch) (D : va_G) (cI cJ cO : ClassId) (z : zT) (h_t : Nat) : kUv l yX1_init cX1_init 1 1 16 0 0 D (kT cI cJ cO) z [.ref h_t] [(h_t, .inr (1, [.int 0, .int 0, .int 0, .int 0, .int 0, .int 0, .int 0, .int 0, .int 0, .int 0, .int 0, .int 0, .int 0, .int 0]))] (fun u : Nat → Nat => [(h_t, clE iCl)]) := by
  refine kUv_ofI (own := RX1) (lv := [(0, .ref h_t)]) rfl rfl rfl (by decide) (Nat.le_of_ble_eq_true rfl) ?_
  intro p e s m args below meth c Q A C hZ hin hret
  refine k_aload_n (pc := 0) C rfl 0 rfl dX1_init_0 ?_
  refine k_objInit (pc := 1) C q_153 q_41 q_42 ⟨Nat.le_of_ble_eq_true rfl, Nat.le_of_ble_eq_true rfl⟩ dX1_init_1 ?_
  refine k_aload_n (pc := 4) C rfl 0 rfl dX1_init_4 ?_
  refine k_sipush (pc := 5) C sipush_200 dX1_init_5 ?_
  refine k_put (pc := 8) (ws2 := [(h_t, .inr (1, [.int 200, .int 0, .int 0, .int 0, .int 0, .int 0, .int 0, .int 0, .int 0, .int 0, .int 0, .int 0, .int 0, .int 0]))]) C vX1 0 (by decide) rfl q_154 rfl rfl 0 rfl (Nat.le_of_ble_eq_true rfl) rfl dX1_init_8 ?_
  refine k_aload_n (pc := 11) C rfl 0 rfl dX1_init_11 ?_
  refine k_sipush (pc := 12) C sipush_400 dX1_init_12 ?_
  refine k_put (pc := 15) (ws2 := [(h_t, .inr (1, [.int 200, .int 400, .int 0, .int 0, .int 0, .int 0, .int 0, .int 0, .int 0, .int 0, .int 0, .int 0, .int 0, .int 0]))]) C vX1 1 (by decide) rfl q_157 rfl rfl 0 rfl (Nat.le_of_ble_eq_true rfl) rfl dX1_init_15 ?_
  refine k_aload_n (pc := 18) C rfl 0 rfl dX1_init_18 ?_
  refine k_sipush (pc := 19) C sipush_200 dX1_init_19 ?_
  refine k_put (pc := 22) (ws2 := [(h_t, .inr (1, [.int 200, .int 400, .int 200, .int 0, .int 0, .int 0, .int 0, .int 0, .int 0, .int 0, .int 0, .int 0, .int 0, .int 0]))]) C vX1 2 (by decide) rfl q_160 rfl rfl 0 rfl (Nat.le_of_ble_eq_true rfl) rfl dX1_init_22 ?_
  refine k_aload_n (pc := 25) C rfl 0 rfl dX1_init_25 ?_
  refine k_sipush (pc := 26) C sipush_400 dX1_init_26 ?_
  refine k_put (pc := 29) (ws2 := [(h_t, .inr (1, [.int 200, .int 400, .int 200, .int 400, .int 0, .int 0, .int 0, .int 0, .int 0, .int 0, .int 0, .int 0, .int 0, .int 0]))]) C vX1 3 (by decide) rfl q_163 rfl rfl 0 rfl (Nat.le_of_ble_eq_true rfl) rfl dX1_init_29 ?_
  refine k_aload_n (pc := 32) C rfl 0 rfl dX1_init_32 ?_
  refine k_sipush (pc := 33) C sipush_1000 dX1_init_33 ?_
  refine k_put (pc := 36) (ws2 := [(h_t, .inr (1, [.int 200, .int 400, .int 200, .int 400, .int 0, .int 0, .int 0, .int 1000, .int 0, .int 0, .int 0, .int 0, .int 0, .int 0]))]) C vX1 7 (by decide) rfl q_173 rfl rfl 0 rfl (Nat.le_of_ble_eq_true rfl) rfl dX1_init_36 ?_
  refine k_aload_n (pc := 39) C rfl 0 rfl dX1_init_39 ?_
  refine k_sipush (pc := 40) C sipush_1000 dX1_init_40 ?_
  refine k_put (pc := 43) (ws2 := [(h_t, .inr (1, [.int 200, .int 400, .int 200, .int 400, .int 0, .int 0, .int 0, .int 1000, .int 1000, .int 0, .int 0, .int 0, .int 0, .int 0]))]) C vX1 8 (by decide) rfl q_175 rfl rfl 0 rfl (Nat.le_of_ble_eq_true rfl) rfl dX1_init_43 ?_
  exact k_finUv (pc := 46) hret (fun k => [].getD k 0) rfl (Nat.le_of_ble_eq_true rfl) (Nat.le_of_ble_eq_true rfl) dX1_init_46

theorem dX4_init_0 : decode cX4_init 0 = .ok (.aload_n 0, 1) := by decide +kernel
theorem dX4_init_1 : decode cX4_init 1 = .ok (.invokespecial 3, 3) := by decide +kernel
theorem dX4_init_4 : decode cX4_init 4 = .ok (.aload_n 0, 1) := by decide +kernel
theorem dX4_init_5 : decode cX4_init 5 = .ok (.iconst 0, 1) := by decide +kernel
theorem dX4_init_6 : decode cX4_init 6 = .ok (.putfield 9, 3) := by decide +kernel
theorem dX4_init_9 : decode cX4_init 9 = .ok (.return_, 1) := by decide +kernel
set_option maxRecDepth 100000 in
set_option maxHeartbeats 4000000 in
theorem c_X4_init (l : Launch) (D : va_G) (cI cJ cO : ClassId) (z : zT) (h_t : Nat) : kUv l yX4_init cX4_init 1 1 16 0 0 D (kT cI cJ cO) z [.ref h_t] [(h_t, .inr (4, [.int 0, .int 0, .int 0, .int 0, .int 0, .int 0, .int 0, .int 0, .int 0, .int 0]))] (fun u : Nat → Nat => [(h_t, ruE i0)]) := by
  refine kUv_ofI (own := RX4) (lv := [(0, .ref h_t)]) rfl rfl rfl (by decide) (Nat.le_of_ble_eq_true rfl) ?_
  intro p e s m args below meth c Q A C hZ hin hret
  refine k_aload_n (pc := 0) C rfl 0 rfl dX4_init_0 ?_
  refine k_objInit (pc := 1) C q_99 q_41 q_42 ⟨Nat.le_of_ble_eq_true rfl, Nat.le_of_ble_eq_true rfl⟩ dX4_init_1 ?_
  refine k_aload_n (pc := 4) C rfl 0 rfl dX4_init_4 ?_
  refine k_iconst (pc := 5) C iconst_0 dX4_init_5 ?_
  refine k_put (pc := 6) (ws2 := [(h_t, .inr (4, [.int 0, .int 0, .int 0, .int 0, .int 0, .int 0, .int 0, .int 0, .int 0, .int 0]))]) C vX4 0 (by decide) rfl q_100 rfl rfl 0 rfl (Nat.le_of_ble_eq_true rfl) rfl dX4_init_6 ?_
  exact k_finUv (pc := 9) hret (fun k => [].getD k 0) rfl (Nat.le_of_ble_eq_true rfl) (Nat.le_of_ble_eq_true rfl) dX4_init_9

theorem dX3_init_0 : decode cX3_init 0 = .ok (.aload_n 0, 1) := by decide +kernel
theorem dX3_init_1 : decode cX3_init 1 = .ok (.invokespecial 3, 3) := by decide +kernel
theorem dX3_init_4 : decode cX3_init 4 = .ok (.aload_n 0, 1) := by decide +kernel
theorem dX3_init_5 : decode cX3_init 5 = .ok (.iconst 0, 1) := by decide +kernel
theorem dX3_init_6 : decode cX3_init 6 = .ok (.iload_n 1, 1) := by decide +kernel
theorem dX3_init_7 : decode cX3_init 7 = .ok (.invokestatic 9, 3) := by decide +kernel
theorem dX3_init_10 : decode cX3_init 10 = .ok (.newarray .int, 2) := by decide +kernel
theorem dX3_init_12 : decode cX3_init 12 = .ok (.putfield 15, 3) := by decide +kernel
theorem dX3_init_15 : decode cX3_init 15 = .ok (.return_, 1) := by decide +kernel
set_option maxRecDepth 100000 in
set_option maxHeartbeats 4000000 in
theorem c_X3_init_16 (l : Launch) (D : va_G) (cI cJ cO : ClassId) (z : zT) (h_t : Nat) : kUv l yX3_init cX3_init 2 1 16 1 16 D (kT cI cJ cO) z [.ref h_t, .int 16] [(h_t, .inr (3, [.null, .int 0, .int 0]))] (fun u : Nat → Nat => [(h_t, rgE i0 (u 0)), ((u 0), iA cI 16 i0)]) := by
  refine kUv_ofI (own := RX3) (lv := [(0, .ref h_t), (1, .int 16)]) rfl rfl rfl (by decide) (Nat.le_of_ble_eq_true rfl) ?_
  intro p e s m args below meth c Q A C hZ hin hret
  refine k_aload_n (pc := 0) C rfl 0 rfl dX3_init_0 ?_
  refine k_objInit (pc := 1) C q_222 q_41 q_42 ⟨Nat.le_of_ble_eq_true rfl, Nat.le_of_ble_eq_true rfl⟩ dX3_init_1 ?_
  refine k_aload_n (pc := 4) C rfl 0 rfl dX3_init_4 ?_
  refine k_iconst (pc := 5) C iconst_0 dX3_init_5 ?_
  refine k_iload_n (pc := 6) C rfl 1 rfl dX3_init_6 ?_
  refine k_mmax (pc := 7) C q_223 q_224 q_24 q_225 ⟨Nat.le_of_ble_eq_true rfl, Nat.le_of_ble_eq_true rfl, Nat.le_of_ble_eq_true rfl, Nat.le_of_ble_eq_true rfl⟩ dX3_init_7 ?_
  refine k_topI (pc := 10) (v := 16) (by decide) ?_
  refine k_newI (pc := 10) (N := 16) (t0 := 0) C rfl q_77 (by decide) (by decide) (by decide) ⟨Nat.le_of_ble_eq_true rfl, Nat.le_of_ble_eq_true rfl⟩ dX3_init_10 (fun q_1 => ?_)
  refine k_putF (pc := 12) (ws2 := [(h_t, .inr (3, [.ref q_1, .int 0, .int 0])), (q_1, iA cI 16 (fun _ => 0))]) C hin vX3 0 (by decide) rfl rfl q_226 rfl rfl 0 rfl (Nat.le_of_ble_eq_true rfl) rfl dX3_init_12 ?_
  exact k_finUv (pc := 15) hret (fun k => [q_1].getD k 0) rfl (Nat.le_of_ble_eq_true rfl) (Nat.le_of_ble_eq_true rfl) dX3_init_15

set_option maxRecDepth 100000 in
set_option maxHeartbeats 4000000 in
theorem c_X3_init_24 (l : Launch) (D : va_G) (cI cJ cO : ClassId) (z : zT) (h_t : Nat) : kUv l yX3_init cX3_init 2 1 16 1 24 D (kT cI cJ cO) z [.ref h_t, .int 24] [(h_t, .inr (3, [.null, .int 0, .int 0]))] (fun u : Nat → Nat => [(h_t, rgE i0 (u 0)), ((u 0), iA cI 24 i0)]) := by
  refine kUv_ofI (own := RX3) (lv := [(0, .ref h_t), (1, .int 24)]) rfl rfl rfl (by decide) (Nat.le_of_ble_eq_true rfl) ?_
  intro p e s m args below meth c Q A C hZ hin hret
  refine k_aload_n (pc := 0) C rfl 0 rfl dX3_init_0 ?_
  refine k_objInit (pc := 1) C q_222 q_41 q_42 ⟨Nat.le_of_ble_eq_true rfl, Nat.le_of_ble_eq_true rfl⟩ dX3_init_1 ?_
  refine k_aload_n (pc := 4) C rfl 0 rfl dX3_init_4 ?_
  refine k_iconst (pc := 5) C iconst_0 dX3_init_5 ?_
  refine k_iload_n (pc := 6) C rfl 1 rfl dX3_init_6 ?_
  refine k_mmax (pc := 7) C q_223 q_224 q_24 q_225 ⟨Nat.le_of_ble_eq_true rfl, Nat.le_of_ble_eq_true rfl, Nat.le_of_ble_eq_true rfl, Nat.le_of_ble_eq_true rfl⟩ dX3_init_7 ?_
  refine k_topI (pc := 10) (v := 24) (by decide) ?_
  refine k_newI (pc := 10) (N := 24) (t0 := 0) C rfl q_77 (by decide) (by decide) (by decide) ⟨Nat.le_of_ble_eq_true rfl, Nat.le_of_ble_eq_true rfl⟩ dX3_init_10 (fun q_1 => ?_)
  refine k_putF (pc := 12) (ws2 := [(h_t, .inr (3, [.ref q_1, .int 0, .int 0])), (q_1, iA cI 24 (fun _ => 0))]) C hin vX3 0 (by decide) rfl rfl q_226 rfl rfl 0 rfl (Nat.le_of_ble_eq_true rfl) rfl dX3_init_12 ?_
  exact k_finUv (pc := 15) hret (fun k => [q_1].getD k 0) rfl (Nat.le_of_ble_eq_true rfl) (Nat.le_of_ble_eq_true rfl) dX3_init_15

set_option maxRecDepth 100000 in
set_option maxHeartbeats 4000000 in
theorem c_X3_init_60 (l : Launch) (D : va_G) (cI cJ cO : ClassId) (z : zT) (h_t : Nat) : kUv l yX3_init cX3_init 2 1 16 1 60 D (kT cI cJ cO) z [.ref h_t, .int 60] [(h_t, .inr (3, [.null, .int 0, .int 0]))] (fun u : Nat → Nat => [(h_t, rgE i0 (u 0)), ((u 0), iA cI 60 i0)]) := by
  refine kUv_ofI (own := RX3) (lv := [(0, .ref h_t), (1, .int 60)]) rfl rfl rfl (by decide) (Nat.le_of_ble_eq_true rfl) ?_
  intro p e s m args below meth c Q A C hZ hin hret
  refine k_aload_n (pc := 0) C rfl 0 rfl dX3_init_0 ?_
  refine k_objInit (pc := 1) C q_222 q_41 q_42 ⟨Nat.le_of_ble_eq_true rfl, Nat.le_of_ble_eq_true rfl⟩ dX3_init_1 ?_
  refine k_aload_n (pc := 4) C rfl 0 rfl dX3_init_4 ?_
  refine k_iconst (pc := 5) C iconst_0 dX3_init_5 ?_
  refine k_iload_n (pc := 6) C rfl 1 rfl dX3_init_6 ?_
  refine k_mmax (pc := 7) C q_223 q_224 q_24 q_225 ⟨Nat.le_of_ble_eq_true rfl, Nat.le_of_ble_eq_true rfl, Nat.le_of_ble_eq_true rfl, Nat.le_of_ble_eq_true rfl⟩ dX3_init_7 ?_
  refine k_topI (pc := 10) (v := 60) (by decide) ?_
  refine k_newI (pc := 10) (N := 60) (t0 := 0) C rfl q_77 (by decide) (by decide) (by decide) ⟨Nat.le_of_ble_eq_true rfl, Nat.le_of_ble_eq_true rfl⟩ dX3_init_10 (fun q_1 => ?_)
  refine k_putF (pc := 12) (ws2 := [(h_t, .inr (3, [.ref q_1, .int 0, .int 0])), (q_1, iA cI 60 (fun _ => 0))]) C hin vX3 0 (by decide) rfl rfl q_226 rfl rfl 0 rfl (Nat.le_of_ble_eq_true rfl) rfl dX3_init_12 ?_
  exact k_finUv (pc := 15) hret (fun k => [q_1].getD k 0) rfl (Nat.le_of_ble_eq_true rfl) (Nat.le_of_ble_eq_true rfl) dX3_init_15

theorem dX6_init_0 : decode cX6_init 0 = .ok (.aload_n 0, 1) := by decide +kernel
theorem dX6_init_1 : decode cX6_init 1 = .ok (.invokespecial 3, 3) := by decide +kernel
theorem dX6_init_4 : decode cX6_init 4 = .ok (.aload_n 0, 1) := by decide +kernel
theorem dX6_init_5 : decode cX6_init 5 = .ok (.bipush 48, 2) := by decide +kernel
theorem dX6_init_7 : decode cX6_init 7 = .ok (.newarray .int, 2) := by decide +kernel
theorem dX6_init_9 : decode cX6_init 9 = .ok (.putfield 11, 3) := by decide +kernel
theorem dX6_init_12 : decode cX6_init 12 = .ok (.return_, 1) := by decide +kernel
set_option maxRecDepth 100000 in
set_option maxHeartbeats 4000000 in
theorem c_X6_init (l : Launch) (D : va_G) (cI cJ cO : ClassId) (z : zT) (h_t : Nat) : kUv l yX6_init cX6_init 1 1 16 1 48 D (kT cI cJ cO) z [.ref h_t] [(h_t, .inr (6, [.null, .int 0]))] (fun u : Nat → Nat => [(h_t, sgE i0 (u 0)), ((u 0), iA cI 48 i0)]) := by
  refine kUv_ofI (own := RX6) (lv := [(0, .ref h_t)]) rfl rfl rfl (by decide) (Nat.le_of_ble_eq_true rfl) ?_
  intro p e s m args below meth c Q A C hZ hin hret
  refine k_aload_n (pc := 0) C rfl 0 rfl dX6_init_0 ?_
  refine k_objInit (pc := 1) C q_83 q_41 q_42 ⟨Nat.le_of_ble_eq_true rfl, Nat.le_of_ble_eq_true rfl⟩ dX6_init_1 ?_
  refine k_aload_n (pc := 4) C rfl 0 rfl dX6_init_4 ?_
  refine k_bipush (pc := 5) C bipush_48 dX6_init_5 ?_
  refine k_newI (pc := 7) (N := 48) (t0 := 0) C rfl q_77 (by decide) (by decide) (by decide) ⟨Nat.le_of_ble_eq_true rfl, Nat.le_of_ble_eq_true rfl⟩ dX6_init_7 (fun q_1 => ?_)
  refine k_putF (pc := 9) (ws2 := [(h_t, .inr (6, [.ref q_1, .int 0])), (q_1, iA cI 48 (fun _ => 0))]) C hin vX6 0 (by decide) rfl rfl q_84 rfl rfl 0 rfl (Nat.le_of_ble_eq_true rfl) rfl dX6_init_9 ?_
  exact k_finUv (pc := 12) hret (fun k => [q_1].getD k 0) rfl (Nat.le_of_ble_eq_true rfl) (Nat.le_of_ble_eq_true rfl) dX6_init_12

theorem dX2_init_0 : decode cX2_init 0 = .ok (.aload_n 0, 1) := by decide +kernel
theorem dX2_init_1 : decode cX2_init 1 = .ok (.invokespecial 1, 3) := by decide +kernel
theorem dX2_init_4 : decode cX2_init 4 = .ok (.aload_n 0, 1) := by decide +kernel
theorem dX2_init_5 : decode cX2_init 5 = .ok (.new 7, 3) := by decide +kernel
theorem dX2_init_8 : decode cX2_init 8 = .ok (.dup, 1) := by decide +kernel
theorem dX2_init_9 : decode cX2_init 9 = .ok (.bipush 16, 2) := by decide +kernel
theorem dX2_init_11 : decode cX2_init 11 = .ok (.invokespecial 9, 3) := by decide +kernel
theorem dX2_init_14 : decode cX2_init 14 = .ok (.putfield 12, 3) := by decide +kernel
theorem dX2_init_17 : decode cX2_init 17 = .ok (.aload_n 0, 1) := by decide +kernel
theorem dX2_init_18 : decode cX2_init 18 = .ok (.new 7, 3) := by decide +kernel
theorem dX2_init_21 : decode cX2_init 21 = .ok (.dup, 1) := by decide +kernel
theorem dX2_init_22 : decode cX2_init 22 = .ok (.bipush 16, 2) := by decide +kernel
theorem dX2_init_24 : decode cX2_init 24 = .ok (.invokespecial 9, 3) := by decide +kernel
theorem dX2_init_27 : decode cX2_init 27 = .ok (.putfield 18, 3) := by decide +kernel
theorem dX2_init_30 : decode cX2_init 30 = .ok (.aload_n 0, 1) := by decide +kernel
theorem dX2_init_31 : decode cX2_init 31 = .ok (.new 7, 3) := by decide +kernel
theorem dX2_init_34 : decode cX2_init 34 = .ok (.dup, 1) := by decide +kernel
theorem dX2_init_35 : decode cX2_init 35 = .ok (.bipush 16, 2) := by decide +kernel
theorem dX2_init_37 : decode cX2_init 37 = .ok (.invokespecial 9, 3) := by decide +kernel
theorem dX2_init_40 : decode cX2_init 40 = .ok (.putfield 21, 3) := by decide +kernel
theorem dX2_init_43 : decode cX2_init 43 = .ok (.aload_n 0, 1) := by decide +kernel
theorem dX2_init_44 : decode cX2_init 44 = .ok (.new 7, 3) := by decide +kernel
theorem dX2_init_47 : decode cX2_init 47 = .ok (.dup, 1) := by decide +kernel
theorem dX2_init_48 : decode cX2_init 48 = .ok (.bipush 16, 2) := by decide +kernel
theorem dX2_init_50 : decode cX2_init 50 = .ok (.invokespecial 9, 3) := by decide +kernel
theorem dX2_init_53 : decode cX2_init 53 = .ok (.putfield 24, 3) := by decide +kernel
theorem dX2_init_56 : decode cX2_init 56 = .ok (.return_, 1) := by decide +kernel
set_option maxRecDepth 100000 in
set_option maxHeartbeats 4000000 in
theorem c_X2_init (l : Launch) (D : va_G) (cI cJ cO : ClassId) (z : zT) (h_t : Nat) : kUv l yX2_init cX2_init 1 2 37 8 76 D (kT cI cJ cO) z [.ref h_t] [(h_t, .inr (2, [.null, .null, .null, .null]))] (fun u : Nat → Nat => [(h_t, rsE (u 0) (u 1) (u 2) (u 3)), ((u 0), rgE i0 (u 4)), ((u 1), rgE i0 (u 5)), ((u 2), rgE i0 (u 6)), ((u 3), rgE i0 (u 7)), ((u 4), iA cI 16 i0), ((u 5), iA cI 16 i0), ((u 6), iA cI 16 i0), ((u 7), iA cI 16 i0)]) := by
  refine kUv_ofI (own := RX2) (lv := [(0, .ref h_t)]) rfl rfl rfl (by decide) (Nat.le_of_ble_eq_true rfl) ?_
  intro p e s m args below meth c Q A C hZ hin hret
  refine k_aload_n (pc := 0) C rfl 0 rfl dX2_init_0 ?_
  refine k_objInit (pc := 1) C q_216 q_41 q_42 ⟨Nat.le_of_ble_eq_true rfl, Nat.le_of_ble_eq_true rfl⟩ dX2_init_1 ?_
  refine k_aload_n (pc := 4) C rfl 0 rfl dX2_init_4 ?_
  refine k_new (pc := 5) (fs := [.null, .int 0, .int 0]) C vX3 q_217 q_218 q_23 (by decide) ⟨Nat.le_of_ble_eq_true rfl, Nat.le_of_ble_eq_true rfl⟩ dX2_init_5 (fun q_1 => ?_)
  refine k_dup (pc := 8) C rfl dX2_init_8 ?_
  refine k_bipush (pc := 9) C bipush_16 dX2_init_9 ?_
  refine k_callUIv (pc := 11) (As := [.int 16]) (rest := [.ref q_1, .ref h_t]) (hd := [(h_t, .inr (2, [.null, .null, .null, .null])), (q_1, .inr (3, [.null, .int 0, .int 0]))]) (hc := [(q_1, .inr (3, [.null, .int 0, .int 0]))]) (wr := [(h_t, .inr (2, [.null, .null, .null, .null]))]) (T := []) C hZ (c_X3_init_16 l D cI cJ cO z q_1) cwi_X3_init q_219 [1] [0] rfl rfl (kprm (n := 2) (by decide +kernel) rfl) rfl (Nat.le_of_ble_eq_true rfl) ⟨Nat.le_of_ble_eq_true rfl, Nat.le_of_ble_eq_true rfl⟩ rfl ⟨Nat.le_of_ble_eq_true rfl, Nat.le_of_ble_eq_true rfl⟩ dX2_init_11 (fun u_2 => ?_)
  refine k_show (ws2 := [(h_t, .inr (2, [.null, .null, .null, .null])), (q_1, rgE i0 (u_2 0)), ((u_2 0), iA cI 16 i0)]) rfl ?_
  refine k_putF (pc := 14) (ws2 := [(h_t, .inr (2, [.ref q_1, .null, .null, .null])), (q_1, rgE i0 (u_2 0)), ((u_2 0), iA cI 16 i0)]) C hin vX2 0 (by decide) rfl rfl q_237 rfl rfl 0 rfl (Nat.le_of_ble_eq_true rfl) rfl dX2_init_14 ?_
  refine k_aload_n (pc := 17) C rfl 0 rfl dX2_init_17 ?_
  refine k_new (pc := 18) (fs := [.null, .int 0, .int 0]) C vX3 q_217 q_218 q_23 (by decide) ⟨Nat.le_of_ble_eq_true rfl, Nat.le_of_ble_eq_true rfl⟩ dX2_init_18 (fun q_3 => ?_)
  refine k_dup (pc := 21) C rfl dX2_init_21 ?_
  refine k_bipush (pc := 22) C bipush_16 dX2_init_22 ?_
  refine k_callUIv (pc := 24) (As := [.int 16]) (rest := [.ref q_3, .ref h_t]) (hd := [(h_t, .inr (2, [.ref q_1, .null, .null, .null])), (q_1, rgE i0 (u_2 0)), ((u_2 0), iA cI 16 i0), (q_3, .inr (3, [.null, .int 0, .int 0]))]) (hc := [(q_3, .inr (3, [.null, .int 0, .int 0]))]) (wr := [(h_t, .inr (2, [.ref q_1, .null, .null, .null])), (q_1, rgE i0 (u_2 0)), ((u_2 0), iA cI 16 i0)]) (T := []) C hZ (c_X3_init_16 l D cI cJ cO z q_3) cwi_X3_init q_219 [3] [0, 1, 2] rfl rfl (kprm (n := 4) (by decide +kernel) rfl) rfl (Nat.le_of_ble_eq_true rfl) ⟨Nat.le_of_ble_eq_true rfl, Nat.le_of_ble_eq_true rfl⟩ rfl ⟨Nat.le_of_ble_eq_true rfl, Nat.le_of_ble_eq_true rfl⟩ dX2_init_24 (fun u_4 => ?_)
  refine k_show (ws2 := [(h_t, .inr (2, [.ref q_1, .null, .null, .null])), (q_1, rgE i0 (u_2 0)), ((u_2 0), iA cI 16 i0), (q_3, rgE i0 (u_4 0)), ((u_4 0), iA cI 16 i0)]) rfl ?_
  refine k_putF (pc := 27) (ws2 := [(h_t, .inr (2, [.ref q_1, .ref q_3, .null, .null])), (q_1, rgE i0 (u_2 0)), ((u_2 0), iA cI 16 i0), (q_3, rgE i0 (u_4 0)), ((u_4 0), iA cI 16 i0)]) C hin vX2 1 (by decide) rfl rfl q_238 rfl rfl 0 rfl (Nat.le_of_ble_eq_true rfl) rfl dX2_init_27 ?_
  refine k_aload_n (pc := 30) C rfl 0 rfl dX2_init_30 ?_
  refine k_new (pc := 31) (fs := [.null, .int 0, .int 0]) C vX3 q_217 q_218 q_23 (by decide) ⟨Nat.le_of_ble_eq_true rfl, Nat.le_of_ble_eq_true rfl⟩ dX2_init_31 (fun q_5 => ?_)
  refine k_dup (pc := 34) C rfl dX2_init_34 ?_
  refine k_bipush (pc := 35) C bipush_16 dX2_init_35 ?_
  refine k_callUIv (pc := 37) (As := [.int 16]) (rest := [.ref q_5, .ref h_t]) (hd := [(h_t, .inr (2, [.ref q_1, .ref q_3, .null, .null])), (q_1, rgE i0 (u_2 0)), ((u_2 0), iA cI 16 i0), (q_3, rgE i0 (u_4 0)), ((u_4 0), iA cI 16 i0), (q_5, .inr (3, [.null, .int 0, .int 0]))]) (hc := [(q_5, .inr (3, [.null, .int 0, .int 0]))]) (wr := [(h_t, .inr (2, [.ref q_1, .ref q_3, .null, .null])), (q_1, rgE i0 (u_2 0)), ((u_2 0), iA cI 16 i0), (q_3, rgE i0 (u_4 0)), ((u_4 0), iA cI 16 i0)]) (T := []) C hZ (c_X3_init_16 l D cI cJ cO z q_5) cwi_X3_init q_219 [5] [0, 1, 2, 3, 4] rfl rfl (kprm (n := 6) (by decide +kernel) rfl) rfl (Nat.le_of_ble_eq_true rfl) ⟨Nat.le_of_ble_eq_true rfl, Nat.le_of_ble_eq_true rfl⟩ rfl ⟨Nat.le_of_ble_eq_true rfl, Nat.le_of_ble_eq_true rfl⟩ dX2_init_37 (fun u_6 => ?_)
  refine k_show (ws2 := [(h_t, .inr (2, [.ref q_1, .ref q_3, .null, .null])), (q_1, rgE i0 (u_2 0)), ((u_2 0), iA cI 16 i0), (q_3, rgE i0 (u_4 0)), ((u_4 0), iA cI 16 i0), (q_5, rgE i0 (u_6 0)), ((u_6 0), iA cI 16 i0)]) rfl ?_
  refine k_putF (pc := 40) (ws2 := [(h_t, .inr (2, [.ref q_1, .ref q_3, .ref q_5, .null])), (q_1, rgE i0 (u_2 0)), ((u_2 0), iA cI 16 i0), (q_3, rgE i0 (u_4 0)), ((u_4 0), iA cI 16 i0), (q_5, rgE i0 (u_6 0)), ((u_6 0), iA cI 16 i0)]) C hin vX2 2 (by decide) rfl rfl q_239 rfl rfl 0 rfl (Nat.le_of_ble_eq_true rfl) rfl dX2_init_40 ?_
  refine k_aload_n (pc := 43) C rfl 0 rfl dX2_init_43 ?_
  refine k_new (pc := 44) (fs := [.null, .int 0, .int 0]) C vX3 q_217 q_218 q_23 (by decide) ⟨Nat.le_of_ble_eq_true rfl, Nat.le_of_ble_eq_true rfl⟩ dX2_init_44 (fun q_7 => ?_)
  refine k_dup (pc := 47) C rfl dX2_init_47 ?_
  refine k_bipush (pc := 48) C bipush_16 dX2_init_48 ?_
  refine k_callUIv (pc := 50) (As := [.int 16]) (rest := [.ref q_7, .ref h_t]) (hd := [(h_t, .inr (2, [.ref q_1, .ref q_3, .ref q_5, .null])), (q_1, rgE i0 (u_2 0)), ((u_2 0), iA cI 16 i0), (q_3, rgE i0 (u_4 0)), ((u_4 0), iA cI 16 i0), (q_5, rgE i0 (u_6 0)), ((u_6 0), iA cI 16 i0), (q_7, .inr (3, [.null, .int 0, .int 0]))]) (hc := [(q_7, .inr (3, [.null, .int 0, .int 0]))]) (wr := [(h_t, .inr (2, [.ref q_1, .ref q_3, .ref q_5, .null])), (q_1, rgE i0 (u_2 0)), ((u_2 0), iA cI 16 i0), (q_3, rgE i0 (u_4 0)), ((u_4 0), iA cI 16 i0), (q_5, rgE i0 (u_6 0)), ((u_6 0), iA cI 16 i0)]) (T := []) C hZ (c_X3_init_16 l D cI cJ cO z q_7) cwi_X3_init q_219 [7] [0, 1, 2, 3, 4, 5, 6] rfl rfl (kprm (n := 8) (by decide +kernel) rfl) rfl (Nat.le_of_ble_eq_true rfl) ⟨Nat.le_of_ble_eq_true rfl, Nat.le_of_ble_eq_true rfl⟩ rfl ⟨Nat.le_of_ble_eq_true rfl, Nat.le_of_ble_eq_true rfl⟩ dX2_init_50 (fun u_8 => ?_)
  refine k_show (ws2 := [(h_t, .inr (2, [.ref q_1, .ref q_3, .ref q_5, .null])), (q_1, rgE i0 (u_2 0)), ((u_2 0), iA cI 16 i0), (q_3, rgE i0 (u_4 0)), ((u_4 0), iA cI 16 i0), (q_5, rgE i0 (u_6 0)), ((u_6 0), iA cI 16 i0), (q_7, rgE i0 (u_8 0)), ((u_8 0), iA cI 16 i0)]) rfl ?_
  refine k_putF (pc := 53) (ws2 := [(h_t, .inr (2, [.ref q_1, .ref q_3, .ref q_5, .ref q_7])), (q_1, rgE i0 (u_2 0)), ((u_2 0), iA cI 16 i0), (q_3, rgE i0 (u_4 0)), ((u_4 0), iA cI 16 i0), (q_5, rgE i0 (u_6 0)), ((u_6 0), iA cI 16 i0), (q_7, rgE i0 (u_8 0)), ((u_8 0), iA cI 16 i0)]) C hin vX2 3 (by decide) rfl rfl q_240 rfl rfl 0 rfl (Nat.le_of_ble_eq_true rfl) rfl dX2_init_53 ?_
  refine k_permL (ws2 := [(h_t, .inr (2, [.ref q_1, .ref q_3, .ref q_5, .ref q_7])), (q_1, rgE i0 (u_2 0)), (q_3, rgE i0 (u_4 0)), (q_5, rgE i0 (u_6 0)), (q_7, rgE i0 (u_8 0)), ((u_2 0), iA cI 16 i0), ((u_4 0), iA cI 16 i0), ((u_6 0), iA cI 16 i0), ((u_8 0), iA cI 16 i0)]) [0, 1, 3, 5, 7, 2, 4, 6, 8] rfl (kprm (n := 9) (by decide +kernel) rfl) ?_
  exact k_finUv (pc := 56) hret (fun k => [q_1, q_3, q_5, q_7, (u_2 0), (u_4 0), (u_6 0), (u_8 0)].getD k 0) rfl (Nat.le_of_ble_eq_true rfl) (Nat.le_of_ble_eq_true rfl) dX2_init_56

theorem dX9_init_0 : decode cX9_init 0 = .ok (.aload_n 0, 1) := by decide +kernel
theorem dX9_init_1 : decode cX9_init 1 = .ok (.invokespecial 1, 3) := by decide +kernel
theorem dX9_init_4 : decode cX9_init 4 = .ok (.aload_n 0, 1) := by decide +kernel
theorem dX9_init_5 : decode cX9_init 5 = .ok (.new 7, 3) := by decide +kernel
theorem dX9_init_8 : decode cX9_init 8 = .ok (.dup, 1) := by decide +kernel
theorem dX9_init_9 : decode cX9_init 9 = .ok (.bipush 24, 2) := by decide +kernel
theorem dX9_init_11 : decode cX9_init 11 = .ok (.invokespecial 9, 3) := by decide +kernel
theorem dX9_init_14 : decode cX9_init 14 = .ok (.putfield 12, 3) := by decide +kernel
theorem dX9_init_17 : decode cX9_init 17 = .ok (.aload_n 0, 1) := by decide +kernel
theorem dX9_init_18 : decode cX9_init 18 = .ok (.new 7, 3) := by decide +kernel
theorem dX9_init_21 : decode cX9_init 21 = .ok (.dup, 1) := by decide +kernel
theorem dX9_init_22 : decode cX9_init 22 = .ok (.bipush 24, 2) := by decide +kernel
theorem dX9_init_24 : decode cX9_init 24 = .ok (.invokespecial 9, 3) := by decide +kernel
theorem dX9_init_27 : decode cX9_init 27 = .ok (.putfield 18, 3) := by decide +kernel
theorem dX9_init_30 : decode cX9_init 30 = .ok (.aload_n 0, 1) := by decide +kernel
theorem dX9_init_31 : decode cX9_init 31 = .ok (.new 7, 3) := by decide +kernel
theorem dX9_init_34 : decode cX9_init 34 = .ok (.dup, 1) := by decide +kernel
theorem dX9_init_35 : decode cX9_init 35 = .ok (.bipush 24, 2) := by decide +kernel
theorem dX9_init_37 : decode cX9_init 37 = .ok (.invokespecial 9, 3) := by decide +kernel
theorem dX9_init_40 : decode cX9_init 40 = .ok (.putfield 21, 3) := by decide +kernel
theorem dX9_init_43 : decode cX9_init 43 = .ok (.aload_n 0, 1) := by decide +kernel
theorem dX9_init_44 : decode cX9_init 44 = .ok (.ldc2_w 24, 3) := by decide +kernel
theorem dX9_init_47 : decode cX9_init 47 = .ok (.putfield 26, 3) := by decide +kernel
theorem dX9_init_50 : decode cX9_init 50 = .ok (.return_, 1) := by decide +kernel
set_option maxRecDepth 100000 in
set_option maxHeartbeats 4000000 in
theorem c_X9_init (l : Launch) (D : va_G) (cI cJ cO : ClassId) (z : zT) (h_t : Nat) : kUv l yX9_init cX9_init 1 2 37 6 81 D (kT cI cJ cO) z [.ref h_t] [(h_t, .inr (9, [.null, .null, .null, .long 0]))] (fun u : Nat → Nat => [(h_t, trE (u 0) (u 1) (u 2) 17), ((u 0), rgE i0 (u 3)), ((u 1), rgE i0 (u 4)), ((u 2), rgE i0 (u 5)), ((u 3), iA cI 24 i0), ((u 4), iA cI 24 i0), ((u 5), iA cI 24 i0)]) := by
  refine kUv_ofI (own := RX9) (lv := [(0, .ref h_t)]) rfl rfl rfl (by decide) (Nat.le_of_ble_eq_true rfl) ?_
  intro p e s m args below meth c Q A C hZ hin hret
  refine k_aload_n (pc := 0) C rfl 0 rfl dX9_init_0 ?_
  refine k_objInit (pc := 1) C q_255 q_41 q_42 ⟨Nat.le_of_ble_eq_true rfl, Nat.le_of_ble_eq_true rfl⟩ dX9_init_1 ?_
  refine k_aload_n (pc := 4) C rfl 0 rfl dX9_init_4 ?_
  refine k_new (pc := 5) (fs := [.null, .int 0, .int 0]) C vX3 q_256 q_218 q_23 (by decide) ⟨Nat.le_of_ble_eq_true rfl, Nat.le_of_ble_eq_true rfl⟩ dX9_init_5 (fun q_1 => ?_)
  refine k_dup (pc := 8) C rfl dX9_init_8 ?_
  refine k_bipush (pc := 9) C bipush_24 dX9_init_9 ?_
  refine k_callUIv (pc := 11) (As := [.int 24]) (rest := [.ref q_1, .ref h_t]) (hd := [(h_t, .inr (9, [.null, .null, .null, .long 0])), (q_1, .inr (3, [.null, .int 0, .int 0]))]) (hc := [(q_1, .inr (3, [.null, .int 0, .int 0]))]) (wr := [(h_t, .inr (9, [.null, .null, .null, .long 0]))]) (T := []) C hZ (c_X3_init_24 l D cI cJ cO z q_1) cwi_X3_init q_257 [1] [0] rfl rfl (kprm (n := 2) (by decide +kernel) rfl) rfl (Nat.le_of_ble_eq_true rfl) ⟨Nat.le_of_ble_eq_true rfl, Nat.le_of_ble_eq_true rfl⟩ rfl ⟨Nat.le_of_ble_eq_true rfl, Nat.le_of_ble_eq_true rfl⟩ dX9_init_11 (fun u_2 => ?_)
  refine k_show (ws2 := [(h_t, .inr (9, [.null, .null, .null, .long 0])), (q_1, rgE i0 (u_2 0)), ((u_2 0), iA cI 24 i0)]) rfl ?_
  refine k_putF (pc := 14) (ws2 := [(h_t, .inr (9, [.ref q_1, .null, .null, .long 0])), (q_1, rgE i0 (u_2 0)), ((u_2 0), iA cI 24 i0)]) C hin vX9 0 (by decide) rfl rfl q_259 rfl rfl 0 rfl (Nat.le_of_ble_eq_true rfl) rfl dX9_init_14 ?_
  refine k_aload_n (pc := 17) C rfl 0 rfl dX9_init_17 ?_
  refine k_new (pc := 18) (fs := [.null, .int 0, .int 0]) C vX3 q_256 q_218 q_23 (by decide) ⟨Nat.le_of_ble_eq_true rfl, Nat.le_of_ble_eq_true rfl⟩ dX9_init_18 (fun q_3 => ?_)
  refine k_dup (pc := 21) C rfl dX9_init_21 ?_
  refine k_bipush (pc := 22) C bipush_24 dX9_init_22 ?_
  refine k_callUIv (pc := 24) (As := [.int 24]) (rest := [.ref q_3, .ref h_t]) (hd := [(h_t, .inr (9, [.ref q_1, .null, .null, .long 0])), (q_1, rgE i0 (u_2 0)), ((u_2 0), iA cI 24 i0), (q_3, .inr (3, [.null, .int 0, .int 0]))]) (hc := [(q_3, .inr (3, [.null, .int 0, .int 0]))]) (wr := [(h_t, .inr (9, [.ref q_1, .null, .null, .long 0])), (q_1, rgE i0 (u_2 0)), ((u_2 0), iA cI 24 i0)]) (T := []) C hZ (c_X3_init_24 l D cI cJ cO z q_3) cwi_X3_init q_257 [3] [0, 1, 2] rfl rfl (kprm (n := 4) (by decide +kernel) rfl) rfl (Nat.le_of_ble_eq_true rfl) ⟨Nat.le_of_ble_eq_true rfl, Nat.le_of_ble_eq_true rfl⟩ rfl ⟨Nat.le_of_ble_eq_true rfl, Nat.le_of_ble_eq_true rfl⟩ dX9_init_24 (fun u_4 => ?_)
  refine k_show (ws2 := [(h_t, .inr (9, [.ref q_1, .null, .null, .long 0])), (q_1, rgE i0 (u_2 0)), ((u_2 0), iA cI 24 i0), (q_3, rgE i0 (u_4 0)), ((u_4 0), iA cI 24 i0)]) rfl ?_
  refine k_putF (pc := 27) (ws2 := [(h_t, .inr (9, [.ref q_1, .ref q_3, .null, .long 0])), (q_1, rgE i0 (u_2 0)), ((u_2 0), iA cI 24 i0), (q_3, rgE i0 (u_4 0)), ((u_4 0), iA cI 24 i0)]) C hin vX9 1 (by decide) rfl rfl q_260 rfl rfl 0 rfl (Nat.le_of_ble_eq_true rfl) rfl dX9_init_27 ?_
  refine k_aload_n (pc := 30) C rfl 0 rfl dX9_init_30 ?_
  refine k_new (pc := 31) (fs := [.null, .int 0, .int 0]) C vX3 q_256 q_218 q_23 (by decide) ⟨Nat.le_of_ble_eq_true rfl, Nat.le_of_ble_eq_true rfl⟩ dX9_init_31 (fun q_5 => ?_)
  refine k_dup (pc := 34) C rfl dX9_init_34 ?_
  refine k_bipush (pc := 35) C bipush_24 dX9_init_35 ?_
  refine k_callUIv (pc := 37) (As := [.int 24]) (rest := [.ref q_5, .ref h_t]) (hd := [(h_t, .inr (9, [.ref q_1, .ref q_3, .null, .long 0])), (q_1, rgE i0 (u_2 0)), ((u_2 0), iA cI 24 i0), (q_3, rgE i0 (u_4 0)), ((u_4 0), iA cI 24 i0), (q_5, .inr (3, [.null, .int 0, .int 0]))]) (hc := [(q_5, .inr (3, [.null, .int 0, .int 0]))]) (wr := [(h_t, .inr (9, [.ref q_1, .ref q_3, .null, .long 0])), (q_1, rgE i0 (u_2 0)), ((u_2 0), iA cI 24 i0), (q_3, rgE i0 (u_4 0)), ((u_4 0), iA cI 24 i0)]) (T := []) C hZ (c_X3_init_24 l D cI cJ cO z q_5) cwi_X3_init q_257 [5] [0, 1, 2, 3, 4] rfl rfl (kprm (n := 6) (by decide +kernel) rfl) rfl (Nat.le_of_ble_eq_true rfl) ⟨Nat.le_of_ble_eq_true rfl, Nat.le_of_ble_eq_true rfl⟩ rfl ⟨Nat.le_of_ble_eq_true rfl, Nat.le_of_ble_eq_true rfl⟩ dX9_init_37 (fun u_6 => ?_)
  refine k_show (ws2 := [(h_t, .inr (9, [.ref q_1, .ref q_3, .null, .long 0])), (q_1, rgE i0 (u_2 0)), ((u_2 0), iA cI 24 i0), (q_3, rgE i0 (u_4 0)), ((u_4 0), iA cI 24 i0), (q_5, rgE i0 (u_6 0)), ((u_6 0), iA cI 24 i0)]) rfl ?_
  refine k_putF (pc := 40) (ws2 := [(h_t, .inr (9, [.ref q_1, .ref q_3, .ref q_5, .long 0])), (q_1, rgE i0 (u_2 0)), ((u_2 0), iA cI 24 i0), (q_3, rgE i0 (u_4 0)), ((u_4 0), iA cI 24 i0), (q_5, rgE i0 (u_6 0)), ((u_6 0), iA cI 24 i0)]) C hin vX9 2 (by decide) rfl rfl q_261 rfl rfl 0 rfl (Nat.le_of_ble_eq_true rfl) rfl dX9_init_40 ?_
  refine k_aload_n (pc := 43) C rfl 0 rfl dX9_init_43 ?_
  refine k_ldc2 (pc := 44) C q_258 dX9_init_44 ?_
  refine k_put (pc := 47) (ws2 := [(h_t, .inr (9, [.ref q_1, .ref q_3, .ref q_5, .long 17])), (q_1, rgE i0 (u_2 0)), ((u_2 0), iA cI 24 i0), (q_3, rgE i0 (u_4 0)), ((u_4 0), iA cI 24 i0), (q_5, rgE i0 (u_6 0)), ((u_6 0), iA cI 24 i0)]) C vX9 3 (by decide) rfl q_262 rfl rfl 0 rfl (Nat.le_of_ble_eq_true rfl) rfl dX9_init_47 ?_
  refine k_permL (ws2 := [(h_t, .inr (9, [.ref q_1, .ref q_3, .ref q_5, .long 17])), (q_1, rgE i0 (u_2 0)), (q_3, rgE i0 (u_4 0)), (q_5, rgE i0 (u_6 0)), ((u_2 0), iA cI 24 i0), ((u_4 0), iA cI 24 i0), ((u_6 0), iA cI 24 i0)]) [0, 1, 3, 5, 2, 4, 6] rfl (kprm (n := 7) (by decide +kernel) rfl) ?_
  exact k_finUv (pc := 50) hret (fun k => [q_1, q_3, q_5, (u_2 0), (u_4 0), (u_6 0)].getD k 0) rfl (Nat.le_of_ble_eq_true rfl) (Nat.le_of_ble_eq_true rfl) dX9_init_50

def kCons (a : Nat) (u : Nat → Nat) : Nat → Nat
  | 0 => a
  | k + 1 => u k
/-- the cells of a State -/
def stW (cI : ClassId) (h : Nat → Nat) (S : Nat → Nat → Int32) (j : Int64) : va_W := [((h 0), stE (S 0) (h 1) (h 2) (h 3) (h 4) (h 5) (h 6) (h 7) (h 8) (h 9)), ((h 1), iA cI 12 (S 1)), ((h 2), chE (S 2)), ((h 3), chE (S 3)), ((h 4), sgE (S 4) (h 10)), ((h 5), ruE (S 5)), ((h 6), clE (S 6)), ((h 7), rsE (h 11) (h 12) (h 13) (h 14)), ((h 8), trE (h 19) (h 20) (h 21) j), ((h 9), rgE (S 9) (h 25)), ((h 10), iA cI 48 (S 10)), ((h 11), rgE (S 11) (h 15)), ((h 12), rgE (S 12) (h 16)), ((h 13), rgE (S 13) (h 17)), ((h 14), rgE (S 14) (h 18)), ((h 15), iA cI 16 (S 15)), ((h 16), iA cI 16 (S 16)), ((h 17), iA cI 16 (S 17)), ((h 18), iA cI 16 (S 18)), ((h 19), rgE (S 19) (h 22)), ((h 20), rgE (S 20) (h 23)), ((h 21), rgE (S 21) (h 24)), ((h 22), iA cI 24 (S 22)), ((h 23), iA cI 24 (S 23)), ((h 24), iA cI 24 (S 24)), ((h 25), iA cI 60 (S 25))]
theorem dX7_init_0 : decode cX7_init 0 = .ok (.aload_n 0, 1) := by decide +kernel
theorem dX7_init_1 : decode cX7_init 1 = .ok (.invokespecial 3, 3) := by decide +kernel
theorem dX7_init_4 : decode cX7_init 4 = .ok (.aload_n 0, 1) := by decide +kernel
theorem dX7_init_5 : decode cX7_init 5 = .ok (.iconst 1, 1) := by decide +kernel
theorem dX7_init_6 : decode cX7_init 6 = .ok (.putfield 9, 3) := by decide +kernel
theorem dX7_init_9 : decode cX7_init 9 = .ok (.aload_n 0, 1) := by decide +kernel
theorem dX7_init_10 : decode cX7_init 10 = .ok (.getstatic 15, 3) := by decide +kernel
theorem dX7_init_13 : decode cX7_init 13 = .ok (.invokevirtual 19, 3) := by decide +kernel
theorem dX7_init_16 : decode cX7_init 16 = .ok (.checkcast 20, 3) := by decide +kernel
theorem dX7_init_19 : decode cX7_init 19 = .ok (.putfield 24, 3) := by decide +kernel
theorem dX7_init_22 : decode cX7_init 22 = .ok (.aload_n 0, 1) := by decide +kernel
theorem dX7_init_23 : decode cX7_init 23 = .ok (.new 27, 3) := by decide +kernel
theorem dX7_init_26 : decode cX7_init 26 = .ok (.dup, 1) := by decide +kernel
theorem dX7_init_27 : decode cX7_init 27 = .ok (.invokespecial 29, 3) := by decide +kernel
theorem dX7_init_30 : decode cX7_init 30 = .ok (.putfield 30, 3) := by decide +kernel
theorem dX7_init_33 : decode cX7_init 33 = .ok (.aload_n 0, 1) := by decide +kernel
theorem dX7_init_34 : decode cX7_init 34 = .ok (.new 27, 3) := by decide +kernel
theorem dX7_init_37 : decode cX7_init 37 = .ok (.dup, 1) := by decide +kernel
theorem dX7_init_38 : decode cX7_init 38 = .ok (.invokespecial 29, 3) := by decide +kernel
theorem dX7_init_41 : decode cX7_init 41 = .ok (.putfield 34, 3) := by decide +kernel
theorem dX7_init_44 : decode cX7_init 44 = .ok (.aload_n 0, 1) := by decide +kernel
theorem dX7_init_45 : decode cX7_init 45 = .ok (.new 37, 3) := by decide +kernel
theorem dX7_init_48 : decode cX7_init 48 = .ok (.dup, 1) := by decide +kernel
theorem dX7_init_49 : decode cX7_init 49 = .ok (.invokespecial 39, 3) := by decide +kernel
theorem dX7_init_52 : decode cX7_init 52 = .ok (.putfield 40, 3) := by decide +kernel
theorem dX7_init_55 : decode cX7_init 55 = .ok (.aload_n 0, 1) := by decide +kernel
theorem dX7_init_56 : decode cX7_init 56 = .ok (.new 44, 3) := by decide +kernel
theorem dX7_init_59 : decode cX7_init 59 = .ok (.dup, 1) := by decide +kernel
theorem dX7_init_60 : decode cX7_init 60 = .ok (.invokespecial 46, 3) := by decide +kernel
theorem dX7_init_63 : decode cX7_init 63 = .ok (.putfield 47, 3) := by decide +kernel
theorem dX7_init_66 : decode cX7_init 66 = .ok (.aload_n 0, 1) := by decide +kernel
theorem dX7_init_67 : decode cX7_init 67 = .ok (.new 51, 3) := by decide +kernel
theorem dX7_init_70 : decode cX7_init 70 = .ok (.dup, 1) := by decide +kernel
theorem dX7_init_71 : decode cX7_init 71 = .ok (.invokespecial 53, 3) := by decide +kernel
theorem dX7_init_74 : decode cX7_init 74 = .ok (.putfield 54, 3) := by decide +kernel
theorem dX7_init_77 : decode cX7_init 77 = .ok (.aload_n 0, 1) := by decide +kernel
theorem dX7_init_78 : decode cX7_init 78 = .ok (.new 58, 3) := by decide +kernel
theorem dX7_init_81 : decode cX7_init 81 = .ok (.dup, 1) := by decide +kernel
theorem dX7_init_82 : decode cX7_init 82 = .ok (.invokespecial 60, 3) := by decide +kernel
theorem dX7_init_85 : decode cX7_init 85 = .ok (.putfield 61, 3) := by decide +kernel
theorem dX7_init_88 : decode cX7_init 88 = .ok (.aload_n 0, 1) := by decide +kernel
theorem dX7_init_89 : decode cX7_init 89 = .ok (.new 65, 3) := by decide +kernel
theorem dX7_init_92 : decode cX7_init 92 = .ok (.dup, 1) := by decide +kernel
theorem dX7_init_93 : decode cX7_init 93 = .ok (.invokespecial 67, 3) := by decide +kernel
theorem dX7_init_96 : decode cX7_init 96 = .ok (.putfield 68, 3) := by decide +kernel
theorem dX7_init_99 : decode cX7_init 99 = .ok (.aload_n 0, 1) := by decide +kernel
theorem dX7_init_100 : decode cX7_init 100 = .ok (.new 72, 3) := by decide +kernel
theorem dX7_init_103 : decode cX7_init 103 = .ok (.dup, 1) := by decide +kernel
theorem dX7_init_104 : decode cX7_init 104 = .ok (.bipush 60, 2) := by decide +kernel
theorem dX7_init_106 : decode cX7_init 106 = .ok (.invokespecial 74, 3) := by decide +kernel
theorem dX7_init_109 : decode cX7_init 109 = .ok (.putfield 77, 3) := by decide +kernel
theorem dX7_init_112 : decode cX7_init 112 = .ok (.return_, 1) := by decide +kernel
set_option maxRecDepth 100000 in
set_option maxHeartbeats 4000000 in
theorem c_X7_init (l : Launch) (D : va_G) (cI cJ cO : ClassId) (z : zT) (h_t : Nat) : kUv l yX7_init cX7_init 1 3 57 25 320 D (kT cI cJ cO) z [.ref h_t] [(h_t, .inr (7, [.int 0, .int 0, .null, .null, .null, .null, .null, .null, .null, .null, .null]))] (fun u : Nat → Nat => stW cI (kCons h_t u) iS 17) := by
  refine kUv_ofI (own := RX7) (lv := [(0, .ref h_t)]) rfl rfl rfl (by decide) (Nat.le_of_ble_eq_true rfl) ?_
  intro p e s m args below meth c Q A C hZ hin hret
  refine k_aload_n (pc := 0) C rfl 0 rfl dX7_init_0 ?_
  refine k_objInit (pc := 1) C q_48 q_41 q_42 ⟨Nat.le_of_ble_eq_true rfl, Nat.le_of_ble_eq_true rfl⟩ dX7_init_1 ?_
  refine k_aload_n (pc := 4) C rfl 0 rfl dX7_init_4 ?_
  refine k_iconst (pc := 5) C iconst_1 dX7_init_5 ?_
  refine k_put (pc := 6) (ws2 := [(h_t, .inr (7, [.int 0, .int 1, .null, .null, .null, .null, .null, .null, .null, .null, .null]))]) C vX7 1 (by decide) rfl q_277 rfl rfl 0 rfl (Nat.le_of_ble_eq_true rfl) rfl dX7_init_6 ?_
  refine k_aload_n (pc := 9) C rfl 0 rfl dX7_init_9 ?_
  refine k_gets0N (pc := 10) C hZ q_49 dX7_init_10 ?_
  refine k_clone0 (pc := 13) (t0 := 0) C hZ rfl q_51 q_52 q_53 q_54 q_55 (kqc 56 (by decide +kernel) (by decide +kernel)) ⟨Nat.le_of_ble_eq_true rfl, Nat.le_of_ble_eq_true rfl, Nat.le_of_ble_eq_true rfl, Nat.le_of_ble_eq_true rfl⟩ dX7_init_13 (fun q_1 => ?_)
  refine k_castI (pc := 16) (q0 := 1) (t0 := 0) C rfl q_57 rfl dX7_init_16 ?_
  refine k_putF (pc := 19) (ws2 := [(h_t, .inr (7, [.int 0, .int 1, .ref q_1, .null, .null, .null, .null, .null, .null, .null, .null])), (q_1, iA cI 12 zI)]) C hin vX7 2 (by decide) rfl rfl q_279 rfl rfl 0 rfl (Nat.le_of_ble_eq_true rfl) rfl dX7_init_19 ?_
  refine k_aload_n (pc := 22) C rfl 0 rfl dX7_init_22 ?_
  refine k_new (pc := 23) (fs := [.int 0, .int 0, .int 0]) C vX0 q_58 q_59 q_18 (by decide) ⟨Nat.le_of_ble_eq_true rfl, Nat.le_of_ble_eq_true rfl⟩ dX7_init_23 (fun q_2 => ?_)
  refine k_dup (pc := 26) C rfl dX7_init_26 ?_
  refine k_callUNv (pc := 27) (As := []) (rest := [.ref q_2, .ref h_t]) (hd := [(h_t, .inr (7, [.int 0, .int 1, .ref q_1, .null, .null, .null, .null, .null, .null, .null, .null])), (q_1, iA cI 12 zI), (q_2, .inr (0, [.int 0, .int 0, .int 0]))]) (hc := [(q_2, .inr (0, [.int 0, .int 0, .int 0]))]) (wr := [(h_t, .inr (7, [.int 0, .int 1, .ref q_1, .null, .null, .null, .null, .null, .null, .null, .null])), (q_1, iA cI 12 zI)]) (T := []) C hZ (c_X0_init l D cI cJ cO z q_2) cwi_X0_init q_60 [2] [0, 1] rfl rfl (kprm (n := 3) (by decide +kernel) rfl) rfl (Nat.le_of_ble_eq_true rfl) ⟨Nat.le_of_ble_eq_true rfl, Nat.le_of_ble_eq_true rfl⟩ rfl ⟨Nat.le_of_ble_eq_true rfl, Nat.le_of_ble_eq_true rfl⟩ dX7_init_27 (fun u_3 => ?_)
  refine k_show (ws2 := [(h_t, .inr (7, [.int 0, .int 1, .ref q_1, .null, .null, .null, .null, .null, .null, .null, .null])), (q_1, iA cI 12 zI), (q_2, chE iCh)]) rfl ?_
  refine k_putF (pc := 30) (ws2 := [(h_t, .inr (7, [.int 0, .int 1, .ref q_1, .ref q_2, .null, .null, .null, .null, .null, .null, .null])), (q_1, iA cI 12 zI), (q_2, chE iCh)]) C hin vX7 3 (by decide) rfl rfl q_281 rfl rfl 0 rfl (Nat.le_of_ble_eq_true rfl) rfl dX7_init_30 ?_
  refine k_aload_n (pc := 33) C rfl 0 rfl dX7_init_33 ?_
  refine k_new (pc := 34) (fs := [.int 0, .int 0, .int 0]) C vX0 q_58 q_59 q_18 (by decide) ⟨Nat.le_of_ble_eq_true rfl, Nat.le_of_ble_eq_true rfl⟩ dX7_init_34 (fun q_4 => ?_)
  refine k_dup (pc := 37) C rfl dX7_init_37 ?_
  refine k_callUNv (pc := 38) (As := []) (rest := [.ref q_4, .ref h_t]) (hd := [(h_t, .inr (7, [.int 0, .int 1, .ref q_1, .ref q_2, .null, .null, .null, .null, .null, .null, .null])), (q_1, iA cI 12 zI), (q_2, chE iCh), (q_4, .inr (0, [.int 0, .int 0, .int 0]))]) (hc := [(q_4, .inr (0, [.int 0, .int 0, .int 0]))]) (wr := [(h_t, .inr (7, [.int 0, .int 1, .ref q_1, .ref q_2, .null, .null, .null, .null, .null, .null, .null])), (q_1, iA cI 12 zI), (q_2, chE iCh)]) (T := []) C hZ (c_X0_init l D cI cJ cO z q_4) cwi_X0_init q_60 [3] [0, 1, 2] rfl rfl (kprm (n := 4) (by decide +kernel) rfl) rfl (Nat.le_of_ble_eq_true rfl) ⟨Nat.le_of_ble_eq_true rfl, Nat.le_of_ble_eq_true rfl⟩ rfl ⟨Nat.le_of_ble_eq_true rfl, Nat.le_of_ble_eq_true rfl⟩ dX7_init_38 (fun u_5 => ?_)
  refine k_show (ws2 := [(h_t, .inr (7, [.int 0, .int 1, .ref q_1, .ref q_2, .null, .null, .null, .null, .null, .null, .null])), (q_1, iA cI 12 zI), (q_2, chE iCh), (q_4, chE iCh)]) rfl ?_
  refine k_putF (pc := 41) (ws2 := [(h_t, .inr (7, [.int 0, .int 1, .ref q_1, .ref q_2, .ref q_4, .null, .null, .null, .null, .null, .null])), (q_1, iA cI 12 zI), (q_2, chE iCh), (q_4, chE iCh)]) C hin vX7 4 (by decide) rfl rfl q_283 rfl rfl 0 rfl (Nat.le_of_ble_eq_true rfl) rfl dX7_init_41 ?_
  refine k_aload_n (pc := 44) C rfl 0 rfl dX7_init_44 ?_
  refine k_new (pc := 45) (fs := [.null, .int 0]) C vX6 q_78 q_79 q_19 (by decide) ⟨Nat.le_of_ble_eq_true rfl, Nat.le_of_ble_eq_true rfl⟩ dX7_init_45 (fun q_6 => ?_)
  refine k_dup (pc := 48) C rfl dX7_init_48 ?_
  refine k_callUNv (pc := 49) (As := []) (rest := [.ref q_6, .ref h_t]) (hd := [(h_t, .inr (7, [.int 0, .int 1, .ref q_1, .ref q_2, .ref q_4, .null, .null, .null, .null, .null, .null])), (q_1, iA cI 12 zI), (q_2, chE iCh), (q_4, chE iCh), (q_6, .inr (6, [.null, .int 0]))]) (hc := [(q_6, .inr (6, [.null, .int 0]))]) (wr := [(h_t, .inr (7, [.int 0, .int 1, .ref q_1, .ref q_2, .ref q_4, .null, .null, .null, .null, .null, .null])), (q_1, iA cI 12 zI), (q_2, chE iCh), (q_4, chE iCh)]) (T := []) C hZ (c_X6_init l D cI cJ cO z q_6) cwi_X6_init q_80 [4] [0, 1, 2, 3] rfl rfl (kprm (n := 5) (by decide +kernel) rfl) rfl (Nat.le_of_ble_eq_true rfl) ⟨Nat.le_of_ble_eq_true rfl, Nat.le_of_ble_eq_true rfl⟩ rfl ⟨Nat.le_of_ble_eq_true rfl, Nat.le_of_ble_eq_true rfl⟩ dX7_init_49 (fun u_7 => ?_)
  refine k_show (ws2 := [(h_t, .inr (7, [.int 0, .int 1, .ref q_1, .ref q_2, .ref q_4, .null, .null, .null, .null, .null, .null])), (q_1, iA cI 12 zI), (q_2, chE iCh), (q_4, chE iCh), (q_6, sgE i0 (u_7 0)), ((u_7 0), iA cI 48 i0)]) rfl ?_
  refine k_putF (pc := 52) (ws2 := [(h_t, .inr (7, [.int 0, .int 1, .ref q_1, .ref q_2, .ref q_4, .ref q_6, .null, .null, .null, .null, .null])), (q_1, iA cI 12 zI), (q_2, chE iCh), (q_4, chE iCh), (q_6, sgE i0 (u_7 0)), ((u_7 0), iA cI 48 i0)]) C hin vX7 5 (by decide) rfl rfl q_285 rfl rfl 0 rfl (Nat.le_of_ble_eq_true rfl) rfl dX7_init_52 ?_
  refine k_aload_n (pc := 55) C rfl 0 rfl dX7_init_55 ?_
  refine k_new (pc := 56) (fs := [.int 0, .int 0, .int 0, .int 0, .int 0, .int 0, .int 0, .int 0, .int 0, .int 0]) C vX4 q_94 q_95 q_20 (by decide) ⟨Nat.le_of_ble_eq_true rfl, Nat.le_of_ble_eq_true rfl⟩ dX7_init_56 (fun q_8 => ?_)
  refine k_dup (pc := 59) C rfl dX7_init_59 ?_
  refine k_callUNv (pc := 60) (As := []) (rest := [.ref q_8, .ref h_t]) (hd := [(h_t, .inr (7, [.int 0, .int 1, .ref q_1, .ref q_2, .ref q_4, .ref q_6, .null, .null, .null, .null, .null])), (q_1, iA cI 12 zI), (q_2, chE iCh), (q_4, chE iCh), (q_6, sgE i0 (u_7 0)), ((u_7 0), iA cI 48 i0), (q_8, .inr (4, [.int 0, .int 0, .int 0, .int 0, .int 0, .int 0, .int 0, .int 0, .int 0, .int 0]))]) (hc := [(q_8, .inr (4, [.int 0, .int 0, .int 0, .int 0, .int 0, .int 0, .int 0, .int 0, .int 0, .int 0]))]) (wr := [(h_t, .inr (7, [.int 0, .int 1, .ref q_1, .ref q_2, .ref q_4, .ref q_6, .null, .null, .null, .null, .null])), (q_1, iA cI 12 zI), (q_2, chE iCh), (q_4, chE iCh), (q_6, sgE i0 (u_7 0)), ((u_7 0), iA cI 48 i0)]) (T := []) C hZ (c_X4_init l D cI cJ cO z q_8) cwi_X4_init q_96 [6] [0, 1, 2, 3, 4, 5] rfl rfl (kprm (n := 7) (by decide +kernel) rfl) rfl (Nat.le_of_ble_eq_true rfl) ⟨Nat.le_of_ble_eq_true rfl, Nat.le_of_ble_eq_true rfl⟩ rfl ⟨Nat.le_of_ble_eq_true rfl, Nat.le_of_ble_eq_true rfl⟩ dX7_init_60 (fun u_9 => ?_)
  refine k_show (ws2 := [(h_t, .inr (7, [.int 0, .int 1, .ref q_1, .ref q_2, .ref q_4, .ref q_6, .null, .null, .null, .null, .null])), (q_1, iA cI 12 zI), (q_2, chE iCh), (q_4, chE iCh), (q_6, sgE i0 (u_7 0)), ((u_7 0), iA cI 48 i0), (q_8, ruE i0)]) rfl ?_
  refine k_putF (pc := 63) (ws2 := [(h_t, .inr (7, [.int 0, .int 1, .ref q_1, .ref q_2, .ref q_4, .ref q_6, .ref q_8, .null, .null, .null, .null])), (q_1, iA cI 12 zI), (q_2, chE iCh), (q_4, chE iCh), (q_6, sgE i0 (u_7 0)), ((u_7 0), iA cI 48 i0), (q_8, ruE i0)]) C hin vX7 6 (by decide) rfl rfl q_287 rfl rfl 0 rfl (Nat.le_of_ble_eq_true rfl) rfl dX7_init_63 ?_
  refine k_aload_n (pc := 66) C rfl 0 rfl dX7_init_66 ?_
  refine k_new (pc := 67) (fs := [.int 0, .int 0, .int 0, .int 0, .int 0, .int 0, .int 0, .int 0, .int 0, .int 0, .int 0, .int 0, .int 0, .int 0]) C vX1 q_148 q_149 q_21 (by decide) ⟨Nat.le_of_ble_eq_true rfl, Nat.le_of_ble_eq_true rfl⟩ dX7_init_67 (fun q_10 => ?_)
  refine k_dup (pc := 70) C rfl dX7_init_70 ?_
  refine k_callUNv (pc := 71) (As := []) (rest := [.ref q_10, .ref h_t]) (hd := [(h_t, .inr (7, [.int 0, .int 1, .ref q_1, .ref q_2, .ref q_4, .ref q_6, .ref q_8, .null, .null, .null, .null])), (q_1, iA cI 12 zI), (q_2, chE iCh), (q_4, chE iCh), (q_6, sgE i0 (u_7 0)), ((u_7 0), iA cI 48 i0), (q_8, ruE i0), (q_10, .inr (1, [.int 0, .int 0, .int 0, .int 0, .int 0, .int 0, .int 0, .int 0, .int 0, .int 0, .int 0, .int 0, .int 0, .int 0]))]) (hc := [(q_10, .inr (1, [.int 0, .int 0, .int 0, .int 0, .int 0, .int 0, .int 0, .int 0, .int 0, .int 0, .int 0, .int 0, .int 0, .int 0]))]) (wr := [(h_t, .inr (7, [.int 0, .int 1, .ref q_1, .ref q_2, .ref q_4, .ref q_6, .ref q_8, .null, .null, .null, .null])), (q_1, iA cI 12 zI), (q_2, chE iCh), (q_4, chE iCh), (q_6, sgE i0 (u_7 0)), ((u_7 0), iA cI 48 i0), (q_8, ruE i0)]) (T := []) C hZ (c_X1_init l D cI cJ cO z q_10) cwi_X1_init q_150 [7] [0, 1, 2, 3, 4, 5, 6] rfl rfl (kprm (n := 8) (by decide +kernel) rfl) rfl (Nat.le_of_ble_eq_true rfl) ⟨Nat.le_of_ble_eq_true rfl, Nat.le_of_ble_eq_true rfl⟩ rfl ⟨Nat.le_of_ble_eq_true rfl, Nat.le_of_ble_eq_true rfl⟩ dX7_init_71 (fun u_11 => ?_)
  refine k_show (ws2 := [(h_t, .inr (7, [.int 0, .int 1, .ref q_1, .ref q_2, .ref q_4, .ref q_6, .ref q_8, .null, .null, .null, .null])), (q_1, iA cI 12 zI), (q_2, chE iCh), (q_4, chE iCh), (q_6, sgE i0 (u_7 0)), ((u_7 0), iA cI 48 i0), (q_8, ruE i0), (q_10, clE iCl)]) rfl ?_
  refine k_putF (pc := 74) (ws2 := [(h_t, .inr (7, [.int 0, .int 1, .ref q_1, .ref q_2, .ref q_4, .ref q_6, .ref q_8, .ref q_10, .null, .null, .null])), (q_1, iA cI 12 zI), (q_2, chE iCh), (q_4, chE iCh), (q_6, sgE i0 (u_7 0)), ((u_7 0), iA cI 48 i0), (q_8, ruE i0), (q_10, clE iCl)]) C hin vX7 7 (by decide) rfl rfl q_289 rfl rfl 0 rfl (Nat.le_of_ble_eq_true rfl) rfl dX7_init_74 ?_
  refine k_aload_n (pc := 77) C rfl 0 rfl dX7_init_77 ?_
  refine k_new (pc := 78) (fs := [.null, .null, .null, .null]) C vX2 q_211 q_212 q_22 (by decide) ⟨Nat.le_of_ble_eq_true rfl, Nat.le_of_ble_eq_true rfl⟩ dX7_init_78 (fun q_12 => ?_)
  refine k_dup (pc := 81) C rfl dX7_init_81 ?_
  refine k_callUNv (pc := 82) (As := []) (rest := [.ref q_12, .ref h_t]) (hd := [(h_t, .inr (7, [.int 0, .int 1, .ref q_1, .ref q_2, .ref q_4, .ref q_6, .ref q_8, .ref q_10, .null, .null, .null])), (q_1, iA cI 12 zI), (q_2, chE iCh), (q_4, chE iCh), (q_6, sgE i0 (u_7 0)), ((u_7 0), iA cI 48 i0), (q_8, ruE i0), (q_10, clE iCl), (q_12, .inr (2, [.null, .null, .null, .null]))]) (hc := [(q_12, .inr (2, [.null, .null, .null, .null]))]) (wr := [(h_t, .inr (7, [.int 0, .int 1, .ref q_1, .ref q_2, .ref q_4, .ref q_6, .ref q_8, .ref q_10, .null, .null, .null])), (q_1, iA cI 12 zI), (q_2, chE iCh), (q_4, chE iCh), (q_6, sgE i0 (u_7 0)), ((u_7 0), iA cI 48 i0), (q_8, ruE i0), (q_10, clE iCl)]) (T := []) C hZ (c_X2_init l D cI cJ cO z q_12) cwi_X2_init q_213 [8] [0, 1, 2, 3, 4, 5, 6, 7] rfl rfl (kprm (n := 9) (by decide +kernel) rfl) rfl (Nat.le_of_ble_eq_true rfl) ⟨Nat.le_of_ble_eq_true rfl, Nat.le_of_ble_eq_true rfl⟩ rfl ⟨Nat.le_of_ble_eq_true rfl, Nat.le_of_ble_eq_true rfl⟩ dX7_init_82 (fun u_13 => ?_)
  refine k_show (ws2 := [(h_t, .inr (7, [.int 0, .int 1, .ref q_1, .ref q_2, .ref q_4, .ref q_6, .ref q_8, .ref q_10, .null, .null, .null])), (q_1, iA cI 12 zI), (q_2, chE iCh), (q_4, chE iCh), (q_6, sgE i0 (u_7 0)), ((u_7 0), iA cI 48 i0), (q_8, ruE i0), (q_10, clE iCl), (q_12, rsE (u_13 0) (u_13 1) (u_13 2) (u_13 3)), ((u_13 0), rgE i0 (u_13 4)), ((u_13 1), rgE i0 (u_13 5)), ((u_13 2), rgE i0 (u_13 6)), ((u_13 3), rgE i0 (u_13 7)), ((u_13 4), iA cI 16 i0), ((u_13 5), iA cI 16 i0), ((u_13 6), iA cI 16 i0), ((u_13 7), iA cI 16 i0)]) rfl ?_
  refine k_putF (pc := 85) (ws2 := [(h_t, .inr (7, [.int 0, .int 1, .ref q_1, .ref q_2, .ref q_4, .ref q_6, .ref q_8, .ref q_10, .ref q_12, .null, .null])), (q_1, iA cI 12 zI), (q_2, chE iCh), (q_4, chE iCh), (q_6, sgE i0 (u_7 0)), ((u_7 0), iA cI 48 i0), (q_8, ruE i0), (q_10, clE iCl), (q_12, rsE (u_13 0) (u_13 1) (u_13 2) (u_13 3)), ((u_13 0), rgE i0 (u_13 4)), ((u_13 1), rgE i0 (u_13 5)), ((u_13 2), rgE i0 (u_13 6)), ((u_13 3), rgE i0 (u_13 7)), ((u_13 4), iA cI 16 i0), ((u_13 5), iA cI 16 i0), ((u_13 6), iA cI 16 i0), ((u_13 7), iA cI 16 i0)]) C hin vX7 8 (by decide) rfl rfl q_291 rfl rfl 0 rfl (Nat.le_of_ble_eq_true rfl) rfl dX7_init_85 ?_
  refine k_aload_n (pc := 88) C rfl 0 rfl dX7_init_88 ?_
  refine k_new (pc := 89) (fs := [.null, .null, .null, .long 0]) C vX9 q_250 q_251 q_25 (by decide) ⟨Nat.le_of_ble_eq_true rfl, Nat.le_of_ble_eq_true rfl⟩ dX7_init_89 (fun q_14 => ?_)
  refine k_dup (pc := 92) C rfl dX7_init_92 ?_
  refine k_callUNv (pc := 93) (As := []) (rest := [.ref q_14, .ref h_t]) (hd := [(h_t, .inr (7, [.int 0, .int 1, .ref q_1, .ref q_2, .ref q_4, .ref q_6, .ref q_8, .ref q_10, .ref q_12, .null, .null])), (q_1, iA cI 12 zI), (q_2, chE iCh), (q_4, chE iCh), (q_6, sgE i0 (u_7 0)), ((u_7 0), iA cI 48 i0), (q_8, ruE i0), (q_10, clE iCl), (q_12, rsE (u_13 0) (u_13 1) (u_13 2) (u_13 3)), ((u_13 0), rgE i0 (u_13 4)), ((u_13 1), rgE i0 (u_13 5)), ((u_13 2), rgE i0 (u_13 6)), ((u_13 3), rgE i0 (u_13 7)), ((u_13 4), iA cI 16 i0), ((u_13 5), iA cI 16 i0), ((u_13 6), iA cI 16 i0), ((u_13 7), iA cI 16 i0), (q_14, .inr (9, [.null, .null, .null, .long 0]))]) (hc := [(q_14, .inr (9, [.null, .null, .null, .long 0]))]) (wr := [(h_t, .inr (7, [.int 0, .int 1, .ref q_1, .ref q_2, .ref q_4, .ref q_6, .ref q_8, .ref q_10, .ref q_12, .null, .null])), (q_1, iA cI 12 zI), (q_2, chE iCh), (q_4, chE iCh), (q_6, sgE i0 (u_7 0)), ((u_7 0), iA cI 48 i0), (q_8, ruE i0), (q_10, clE iCl), (q_12, rsE (u_13 0) (u_13 1) (u_13 2) (u_13 3)), ((u_13 0), rgE i0 (u_13 4)), ((u_13 1), rgE i0 (u_13 5)), ((u_13 2), rgE i0 (u_13 6)), ((u_13 3), rgE i0 (u_13 7)), ((u_13 4), iA cI 16 i0), ((u_13 5), iA cI 16 i0), ((u_13 6), iA cI 16 i0), ((u_13 7), iA cI 16 i0)]) (T := []) C hZ (c_X9_init l D cI cJ cO z q_14) cwi_X9_init q_252 [17] [0, 1, 2, 3, 4, 5, 6, 7, 8, 9, 10, 11, 12, 13, 14, 15, 16] rfl rfl (kprm (n := 18) (by decide +kernel) rfl) rfl (Nat.le_of_ble_eq_true rfl) ⟨Nat.le_of_ble_eq_true rfl, Nat.le_of_ble_eq_true rfl⟩ rfl ⟨Nat.le_of_ble_eq_true rfl, Nat.le_of_ble_eq_true rfl⟩ dX7_init_93 (fun u_15 => ?_)
  refine k_show (ws2 := [(h_t, .inr (7, [.int 0, .int 1, .ref q_1, .ref q_2, .ref q_4, .ref q_6, .ref q_8, .ref q_10, .ref q_12, .null, .null])), (q_1, iA cI 12 zI), (q_2, chE iCh), (q_4, chE iCh), (q_6, sgE i0 (u_7 0)), ((u_7 0), iA cI 48 i0), (q_8, ruE i0), (q_10, clE iCl), (q_12, rsE (u_13 0) (u_13 1) (u_13 2) (u_13 3)), ((u_13 0), rgE i0 (u_13 4)), ((u_13 1), rgE i0 (u_13 5)), ((u_13 2), rgE i0 (u_13 6)), ((u_13 3), rgE i0 (u_13 7)), ((u_13 4), iA cI 16 i0), ((u_13 5), iA cI 16 i0), ((u_13 6), iA cI 16 i0), ((u_13 7), iA cI 16 i0), (q_14, trE (u_15 0) (u_15 1) (u_15 2) 17), ((u_15 0), rgE i0 (u_15 3)), ((u_15 1), rgE i0 (u_15 4)), ((u_15 2), rgE i0 (u_15 5)), ((u_15 3), iA cI 24 i0), ((u_15 4), iA cI 24 i0), ((u_15 5), iA cI 24 i0)]) rfl ?_
  refine k_putF (pc := 96) (ws2 := [(h_t, .inr (7, [.int 0, .int 1, .ref q_1, .ref q_2, .ref q_4, .ref q_6, .ref q_8, .ref q_10, .ref q_12, .ref q_14, .null])), (q_1, iA cI 12 zI), (q_2, chE iCh), (q_4, chE iCh), (q_6, sgE i0 (u_7 0)), ((u_7 0), iA cI 48 i0), (q_8, ruE i0), (q_10, clE iCl), (q_12, rsE (u_13 0) (u_13 1) (u_13 2) (u_13 3)), ((u_13 0), rgE i0 (u_13 4)), ((u_13 1), rgE i0 (u_13 5)), ((u_13 2), rgE i0 (u_13 6)), ((u_13 3), rgE i0 (u_13 7)), ((u_13 4), iA cI 16 i0), ((u_13 5), iA cI 16 i0), ((u_13 6), iA cI 16 i0), ((u_13 7), iA cI 16 i0), (q_14, trE (u_15 0) (u_15 1) (u_15 2) 17), ((u_15 0), rgE i0 (u_15 3)), ((u_15 1), rgE i0 (u_15 4)), ((u_15 2), rgE i0 (u_15 5)), ((u_15 3), iA cI 24 i0), ((u_15 4), iA cI 24 i0), ((u_15 5), iA cI 24 i0)]) C hin vX7 9 (by decide) rfl rfl q_293 rfl rfl 0 rfl (Nat.le_of_ble_eq_true rfl) rfl dX7_init_96 ?_
  refine k_aload_n (pc := 99) C rfl 0 rfl dX7_init_99 ?_
  refine k_new (pc := 100) (fs := [.null, .int 0, .int 0]) C vX3 q_273 q_218 q_23 (by decide) ⟨Nat.le_of_ble_eq_true rfl, Nat.le_of_ble_eq_true rfl⟩ dX7_init_100 (fun q_16 => ?_)
  refine k_dup (pc := 103) C rfl dX7_init_103 ?_
  refine k_bipush (pc := 104) C bipush_60 dX7_init_104 ?_
  refine k_callUIv (pc := 106) (As := [.int 60]) (rest := [.ref q_16, .ref h_t]) (hd := [(h_t, .inr (7, [.int 0, .int 1, .ref q_1, .ref q_2, .ref q_4, .ref q_6, .ref q_8, .ref q_10, .ref q_12, .ref q_14, .null])), (q_1, iA cI 12 zI), (q_2, chE iCh), (q_4, chE iCh), (q_6, sgE i0 (u_7 0)), ((u_7 0), iA cI 48 i0), (q_8, ruE i0), (q_10, clE iCl), (q_12, rsE (u_13 0) (u_13 1) (u_13 2) (u_13 3)), ((u_13 0), rgE i0 (u_13 4)), ((u_13 1), rgE i0 (u_13 5)), ((u_13 2), rgE i0 (u_13 6)), ((u_13 3), rgE i0 (u_13 7)), ((u_13 4), iA cI 16 i0), ((u_13 5), iA cI 16 i0), ((u_13 6), iA cI 16 i0), ((u_13 7), iA cI 16 i0), (q_14, trE (u_15 0) (u_15 1) (u_15 2) 17), ((u_15 0), rgE i0 (u_15 3)), ((u_15 1), rgE i0 (u_15 4)), ((u_15 2), rgE i0 (u_15 5)), ((u_15 3), iA cI 24 i0), ((u_15 4), iA cI 24 i0), ((u_15 5), iA cI 24 i0), (q_16, .inr (3, [.null, .int 0, .int 0]))]) (hc := [(q_16, .inr (3, [.null, .int 0, .int 0]))]) (wr := [(h_t, .inr (7, [.int 0, .int 1, .ref q_1, .ref q_2, .ref q_4, .ref q_6, .ref q_8, .ref q_10, .ref q_12, .ref q_14, .null])), (q_1, iA cI 12 zI), (q_2, chE iCh), (q_4, chE iCh), (q_6, sgE i0 (u_7 0)), ((u_7 0), iA cI 48 i0), (q_8, ruE i0), (q_10, clE iCl), (q_12, rsE (u_13 0) (u_13 1) (u_13 2) (u_13 3)), ((u_13 0), rgE i0 (u_13 4)), ((u_13 1), rgE i0 (u_13 5)), ((u_13 2), rgE i0 (u_13 6)), ((u_13 3), rgE i0 (u_13 7)), ((u_13 4), iA cI 16 i0), ((u_13 5), iA cI 16 i0), ((u_13 6), iA cI 16 i0), ((u_13 7), iA cI 16 i0), (q_14, trE (u_15 0) (u_15 1) (u_15 2) 17), ((u_15 0), rgE i0 (u_15 3)), ((u_15 1), rgE i0 (u_15 4)), ((u_15 2), rgE i0 (u_15 5)), ((u_15 3), iA cI 24 i0), ((u_15 4), iA cI 24 i0), ((u_15 5), iA cI 24 i0)]) (T := []) C hZ (c_X3_init_60 l D cI cJ cO z q_16) cwi_X3_init q_274 [24] [0, 1, 2, 3, 4, 5, 6, 7, 8, 9, 10, 11, 12, 13, 14, 15, 16, 17, 18, 19, 20, 21, 22, 23] rfl rfl (kprm (n := 25) (by decide +kernel) rfl) rfl (Nat.le_of_ble_eq_true rfl) ⟨Nat.le_of_ble_eq_true rfl, Nat.le_of_ble_eq_true rfl⟩ rfl ⟨Nat.le_of_ble_eq_true rfl, Nat.le_of_ble_eq_true rfl⟩ dX7_init_106 (fun u_17 => ?_)
  refine k_show (ws2 := [(h_t, .inr (7, [.int 0, .int 1, .ref q_1, .ref q_2, .ref q_4, .ref q_6, .ref q_8, .ref q_10, .ref q_12, .ref q_14, .null])), (q_1, iA cI 12 zI), (q_2, chE iCh), (q_4, chE iCh), (q_6, sgE i0 (u_7 0)), ((u_7 0), iA cI 48 i0), (q_8, ruE i0), (q_10, clE iCl), (q_12, rsE (u_13 0) (u_13 1) (u_13 2) (u_13 3)), ((u_13 0), rgE i0 (u_13 4)), ((u_13 1), rgE i0 (u_13 5)), ((u_13 2), rgE i0 (u_13 6)), ((u_13 3), rgE i0 (u_13 7)), ((u_13 4), iA cI 16 i0), ((u_13 5), iA cI 16 i0), ((u_13 6), iA cI 16 i0), ((u_13 7), iA cI 16 i0), (q_14, trE (u_15 0) (u_15 1) (u_15 2) 17), ((u_15 0), rgE i0 (u_15 3)), ((u_15 1), rgE i0 (u_15 4)), ((u_15 2), rgE i0 (u_15 5)), ((u_15 3), iA cI 24 i0), ((u_15 4), iA cI 24 i0), ((u_15 5), iA cI 24 i0), (q_16, rgE i0 (u_17 0)), ((u_17 0), iA cI 60 i0)]) rfl ?_
  refine k_putF (pc := 109) (ws2 := [(h_t, .inr (7, [.int 0, .int 1, .ref q_1, .ref q_2, .ref q_4, .ref q_6, .ref q_8, .ref q_10, .ref q_12, .ref q_14, .ref q_16])), (q_1, iA cI 12 zI), (q_2, chE iCh), (q_4, chE iCh), (q_6, sgE i0 (u_7 0)), ((u_7 0), iA cI 48 i0), (q_8, ruE i0), (q_10, clE iCl), (q_12, rsE (u_13 0) (u_13 1) (u_13 2) (u_13 3)), ((u_13 0), rgE i0 (u_13 4)), ((u_13 1), rgE i0 (u_13 5)), ((u_13 2), rgE i0 (u_13 6)), ((u_13 3), rgE i0 (u_13 7)), ((u_13 4), iA cI 16 i0), ((u_13 5), iA cI 16 i0), ((u_13 6), iA cI 16 i0), ((u_13 7), iA cI 16 i0), (q_14, trE (u_15 0) (u_15 1) (u_15 2) 17), ((u_15 0), rgE i0 (u_15 3)), ((u_15 1), rgE i0 (u_15 4)), ((u_15 2), rgE i0 (u_15 5)), ((u_15 3), iA cI 24 i0), ((u_15 4), iA cI 24 i0), ((u_15 5), iA cI 24 i0), (q_16, rgE i0 (u_17 0)), ((u_17 0), iA cI 60 i0)]) C hin vX7 10 (by decide) rfl rfl q_295 rfl rfl 0 rfl (Nat.le_of_ble_eq_true rfl) rfl dX7_init_109 ?_
  refine k_permL (ws2 := [(h_t, .inr (7, [.int 0, .int 1, .ref q_1, .ref q_2, .ref q_4, .ref q_6, .ref q_8, .ref q_10, .ref q_12, .ref q_14, .ref q_16])), (q_1, iA cI 12 zI), (q_2, chE iCh), (q_4, chE iCh), (q_6, sgE i0 (u_7 0)), (q_8, ruE i0), (q_10, clE iCl), (q_12, rsE (u_13 0) (u_13 1) (u_13 2) (u_13 3)), (q_14, trE (u_15 0) (u_15 1) (u_15 2) 17), (q_16, rgE i0 (u_17 0)), ((u_7 0), iA cI 48 i0), ((u_13 0), rgE i0 (u_13 4)), ((u_13 1), rgE i0 (u_13 5)), ((u_13 2), rgE i0 (u_13 6)), ((u_13 3), rgE i0 (u_13 7)), ((u_13 4), iA cI 16 i0), ((u_13 5), iA cI 16 i0), ((u_13 6), iA cI 16 i0), ((u_13 7), iA cI 16 i0), ((u_15 0), rgE i0 (u_15 3)), ((u_15 1), rgE i0 (u_15 4)), ((u_15 2), rgE i0 (u_15 5)), ((u_15 3), iA cI 24 i0), ((u_15 4), iA cI 24 i0), ((u_15 5), iA cI 24 i0), ((u_17 0), iA cI 60 i0)]) [0, 1, 2, 3, 4, 6, 7, 8, 17, 24, 5, 9, 10, 11, 12, 13, 14, 15, 16, 18, 19, 20, 21, 22, 23, 25] rfl (kprm (n := 26) (by decide +kernel) rfl) ?_
  exact k_finUv (pc := 112) hret (fun k => [q_1, q_2, q_4, q_6, q_8, q_10, q_12, q_14, q_16, (u_7 0), (u_13 0), (u_13 1), (u_13 2), (u_13 3), (u_13 4), (u_13 5), (u_13 6), (u_13 7), (u_15 0), (u_15 1), (u_15 2), (u_15 3), (u_15 4), (u_15 5), (u_17 0)].getD k 0) rfl (Nat.le_of_ble_eq_true rfl) (Nat.le_of_ble_eq_true rfl) dX7_init_112

theorem dX5_init_0 : decode cX5_init 0 = .ok (.aload_n 0, 1) := by decide +kernel
theorem dX5_init_1 : decode cX5_init 1 = .ok (.invokespecial 1, 3) := by decide +kernel
theorem dX5_init_4 : decode cX5_init 4 = .ok (.aload_n 0, 1) := by decide +kernel
theorem dX5_init_5 : decode cX5_init 5 = .ok (.bipush 6, 2) := by decide +kernel
theorem dX5_init_7 : decode cX5_init 7 = .ok (.anewarray 7, 3) := by decide +kernel
theorem dX5_init_10 : decode cX5_init 10 = .ok (.putfield 9, 3) := by decide +kernel
theorem dX5_init_13 : decode cX5_init 13 = .ok (.return_, 1) := by decide +kernel
set_option maxRecDepth 100000 in
set_option maxHeartbeats 4000000 in
theorem c_X5_init (l : Launch) (D : va_G) (cI cJ cO : ClassId) (z : zT) (h_t : Nat) : kUv l yX5_init cX5_init 1 1 16 1 6 D (kT cI cJ cO) z [.ref h_t] [(h_t, .inr (5, [.null, .int 0, .int 0]))] (fun u : Nat → Nat => [(h_t, svE i0 (u 0)), ((u 0), qA cO 6 (fun _ => none))]) := by
  refine kUv_ofI (own := RX5) (lv := [(0, .ref h_t)]) rfl rfl rfl (by decide) (Nat.le_of_ble_eq_true rfl) ?_
  intro p e s m args below meth c Q A C hZ hin hret
  refine k_aload_n (pc := 0) C rfl 0 rfl dX5_init_0 ?_
  refine k_objInit (pc := 1) C q_325 q_41 q_42 ⟨Nat.le_of_ble_eq_true rfl, Nat.le_of_ble_eq_true rfl⟩ dX5_init_1 ?_
  refine k_aload_n (pc := 4) C rfl 0 rfl dX5_init_4 ?_
  refine k_bipush (pc := 5) C bipush_6 dX5_init_5 ?_
  refine k_newQ (pc := 7) (N := 6) (t0 := 2) C hZ rfl q_326 (by decide) (by decide) (by decide) ⟨Nat.le_of_ble_eq_true rfl, Nat.le_of_ble_eq_true rfl⟩ dX5_init_7 (fun q_1 => ?_)
  refine k_putF (pc := 10) (ws2 := [(h_t, .inr (5, [.ref q_1, .int 0, .int 0])), (q_1, qA cO 6 (fun _ => none))]) C hin vX5 0 (by decide) rfl rfl q_328 rfl rfl 0 rfl (Nat.le_of_ble_eq_true rfl) rfl dX5_init_10 ?_
  exact k_finUv (pc := 13) hret (fun k => [q_1].getD k 0) rfl (Nat.le_of_ble_eq_true rfl) (Nat.le_of_ble_eq_true rfl) dX5_init_13

theorem dX8_init_0 : decode cX8_init 0 = .ok (.aload_n 0, 1) := by decide +kernel
theorem dX8_init_1 : decode cX8_init 1 = .ok (.invokespecial 3, 3) := by decide +kernel
theorem dX8_init_4 : decode cX8_init 4 = .ok (.aload_n 0, 1) := by decide +kernel
theorem dX8_init_5 : decode cX8_init 5 = .ok (.bipush 90, 2) := by decide +kernel
theorem dX8_init_7 : decode cX8_init 7 = .ok (.newarray .int, 2) := by decide +kernel
theorem dX8_init_9 : decode cX8_init 9 = .ok (.putfield 11, 3) := by decide +kernel
theorem dX8_init_12 : decode cX8_init 12 = .ok (.aload_n 0, 1) := by decide +kernel
theorem dX8_init_13 : decode cX8_init 13 = .ok (.new 15, 3) := by decide +kernel
theorem dX8_init_16 : decode cX8_init 16 = .ok (.dup, 1) := by decide +kernel
theorem dX8_init_17 : decode cX8_init 17 = .ok (.invokespecial 17, 3) := by decide +kernel
theorem dX8_init_20 : decode cX8_init 20 = .ok (.putfield 18, 3) := by decide +kernel
theorem dX8_init_23 : decode cX8_init 23 = .ok (.return_, 1) := by decide +kernel
set_option maxRecDepth 100000 in
set_option maxHeartbeats 4000000 in
theorem c_X8_init (l : Launch) (D : va_G) (cI cJ cO : ClassId) (z : zT) (h_t : Nat) : kUv l yX8_init cX8_init 1 2 36 3 140 D (kT cI cJ cO) z [.ref h_t] [(h_t, .inr (8, [.null, .int 0, .null, .int 0, .int 0, .int 0]))] (fun u : Nat → Nat => [(h_t, txE i0 (u 0) (u 1)), ((u 0), iA cI 90 i0), ((u 1), sgE i0 (u 2)), ((u 2), iA cI 48 i0)]) := by
  refine kUv_ofI (own := RX8) (lv := [(0, .ref h_t)]) rfl rfl rfl (by decide) (Nat.le_of_ble_eq_true rfl) ?_
  intro p e s m args below meth c Q A C hZ hin hret
  refine k_aload_n (pc := 0) C rfl 0 rfl dX8_init_0 ?_
  refine k_objInit (pc := 1) C q_344 q_41 q_42 ⟨Nat.le_of_ble_eq_true rfl, Nat.le_of_ble_eq_true rfl⟩ dX8_init_1 ?_
  refine k_aload_n (pc := 4) C rfl 0 rfl dX8_init_4 ?_
  refine k_bipush (pc := 5) C bipush_90 dX8_init_5 ?_
  refine k_newI (pc := 7) (N := 90) (t0 := 0) C rfl q_77 (by decide) (by decide) (by decide) ⟨Nat.le_of_ble_eq_true rfl, Nat.le_of_ble_eq_true rfl⟩ dX8_init_7 (fun q_1 => ?_)
  refine k_putF (pc := 9) (ws2 := [(h_t, .inr (8, [.ref q_1, .int 0, .null, .int 0, .int 0, .int 0])), (q_1, iA cI 90 (fun _ => 0))]) C hin vX8 0 (by decide) rfl rfl q_347 rfl rfl 0 rfl (Nat.le_of_ble_eq_true rfl) rfl dX8_init_9 ?_
  refine k_aload_n (pc := 12) C rfl 0 rfl dX8_init_12 ?_
  refine k_new (pc := 13) (fs := [.null, .int 0]) C vX6 q_345 q_79 q_19 (by decide) ⟨Nat.le_of_ble_eq_true rfl, Nat.le_of_ble_eq_true rfl⟩ dX8_init_13 (fun q_2 => ?_)
  refine k_dup (pc := 16) C rfl dX8_init_16 ?_
  refine k_callUNv (pc := 17) (As := []) (rest := [.ref q_2, .ref h_t]) (hd := [(h_t, .inr (8, [.ref q_1, .int 0, .null, .int 0, .int 0, .int 0])), (q_1, iA cI 90 (fun _ => 0)), (q_2, .inr (6, [.null, .int 0]))]) (hc := [(q_2, .inr (6, [.null, .int 0]))]) (wr := [(h_t, .inr (8, [.ref q_1, .int 0, .null, .int 0, .int 0, .int 0])), (q_1, iA cI 90 (fun _ => 0))]) (T := []) C hZ (c_X6_init l D cI cJ cO z q_2) cwi_X6_init q_346 [2] [0, 1] rfl rfl (kprm (n := 3) (by decide +kernel) rfl) rfl (Nat.le_of_ble_eq_true rfl) ⟨Nat.le_of_ble_eq_true rfl, Nat.le_of_ble_eq_true rfl⟩ rfl ⟨Nat.le_of_ble_eq_true rfl, Nat.le_of_ble_eq_true rfl⟩ dX8_init_17 (fun u_3 => ?_)
  refine k_show (ws2 := [(h_t, .inr (8, [.ref q_1, .int 0, .null, .int 0, .int 0, .int 0])), (q_1, iA cI 90 (fun _ => 0)), (q_2, sgE i0 (u_3 0)), ((u_3 0), iA cI 48 i0)]) rfl ?_
  refine k_putF (pc := 20) (ws2 := [(h_t, .inr (8, [.ref q_1, .int 0, .ref q_2, .int 0, .int 0, .int 0])), (q_1, iA cI 90 (fun _ => 0)), (q_2, sgE i0 (u_3 0)), ((u_3 0), iA cI 48 i0)]) C hin vX8 2 (by decide) rfl rfl q_350 rfl rfl 0 rfl (Nat.le_of_ble_eq_true rfl) rfl dX8_init_20 ?_
  exact k_finUv (pc := 23) hret (fun k => [q_1, q_2, (u_3 0)].getD k 0) rfl (Nat.le_of_ble_eq_true rfl) (Nat.le_of_ble_eq_true rfl) dX8_init_23
