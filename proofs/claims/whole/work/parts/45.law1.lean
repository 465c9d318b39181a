theorem q_40 : Cond.initialized RL ∈ lw_all := kq 40 (by decide +kernel) (by decide +kernel)
theorem q_462 : Cond.methodLink RL 103 yL_set ∈ lw_all := kq 462 (by decide +kernel) (by decide +kernel)
theorem q_463 : Cond.static yL_set ∈ lw_all := kq 463 (by decide +kernel) (by decide +kernel)
theorem q_464 : Cond.codeWith yL_set cL_set 5 (some .int) [(0, 10, 13, 13), (0, 10, 17, 15)] ∈ lw_all := kq 464 (by decide +kernel) (by decide +kernel)
theorem q_619 : Cond.methodLink RL 112 yL_setMode ∈ lw_all := kq 619 (by decide +kernel) (by decide +kernel)
theorem q_620 : Cond.static yL_setMode ∈ lw_all := kq 620 (by decide +kernel) (by decide +kernel)
theorem q_621 : Cond.codeWith yL_setMode cL_setMode 7 (some .int) [(0, 14, 17, 13), (0, 14, 21, 15)] ∈ lw_all := kq 621 (by decide +kernel) (by decide +kernel)
theorem q_626 : Cond.methodLink RL 116 yL_setPoints ∈ lw_all := kq 626 (by decide +kernel) (by decide +kernel)
theorem q_627 : Cond.static yL_setPoints ∈ lw_all := kq 627 (by decide +kernel) (by decide +kernel)
theorem q_628 : Cond.codeWith yL_setPoints cL_setPoints 5 (some .int) [(0, 10, 13, 15), (0, 10, 17, 24)] ∈ lw_all := kq 628 (by decide +kernel) (by decide +kernel)
theorem q_657 : Cond.methodLink RL 119 yL_door ∈ lw_all := kq 657 (by decide +kernel) (by decide +kernel)
theorem q_658 : Cond.static yL_door ∈ lw_all := kq 658 (by decide +kernel) (by decide +kernel)
theorem q_659 : Cond.codeWith yL_door cL_door 4 (some .int) [(0, 9, 12, 24)] ∈ lw_all := kq 659 (by decide +kernel) (by decide +kernel)
theorem q_673 : Cond.methodLink RL 123 yL_pass ∈ lw_all := kq 673 (by decide +kernel) (by decide +kernel)
theorem q_674 : Cond.static yL_pass ∈ lw_all := kq 674 (by decide +kernel) (by decide +kernel)
theorem q_675 : Cond.codeWith yL_pass cL_pass 4 (some .int) [(0, 9, 12, 15), (0, 9, 15, 24)] ∈ lw_all := kq 675 (by decide +kernel) (by decide +kernel)
theorem q_1042 : Cond.methodLink RL 109 yX11_thrown ∈ lw_all := kq 1042 (by decide +kernel) (by decide +kernel)
theorem q_1043 : Cond.instanceMethod yX11_thrown ∈ lw_all := kq 1043 (by decide +kernel) (by decide +kernel)
theorem q_1044 : Cond.selects RX11 yX11_thrown yX11_thrown ∈ lw_all := kq 1044 (by decide +kernel) (by decide +kernel)
theorem q_1045 : Cond.code yX11_thrown cX11_thrown 1 (some .int) ∈ lw_all := kq 1045 (by decide +kernel) (by decide +kernel)
theorem q_1046 : Cond.methodLink RL 108 yX11_set ∈ lw_all := kq 1046 (by decide +kernel) (by decide +kernel)
theorem q_1047 : Cond.instanceMethod yX11_set ∈ lw_all := kq 1047 (by decide +kernel) (by decide +kernel)
theorem q_1048 : Cond.selects RX11 yX11_set yX11_set ∈ lw_all := kq 1048 (by decide +kernel) (by decide +kernel)
theorem q_1049 : Cond.code yX11_set cX11_set 4 (some .int) ∈ lw_all := kq 1049 (by decide +kernel) (by decide +kernel)
theorem q_1068 : Cond.methodLink RL 115 yX11_setMode ∈ lw_all := kq 1068 (by decide +kernel) (by decide +kernel)
theorem q_1069 : Cond.instanceMethod yX11_setMode ∈ lw_all := kq 1069 (by decide +kernel) (by decide +kernel)
theorem q_1070 : Cond.selects RX11 yX11_setMode yX11_setMode ∈ lw_all := kq 1070 (by decide +kernel) (by decide +kernel)
theorem q_1071 : Cond.code yX11_setMode cX11_setMode 6 (some .int) ∈ lw_all := kq 1071 (by decide +kernel) (by decide +kernel)
theorem q_1073 : Cond.methodLink RL 118 yX11_setPoints ∈ lw_all := kq 1073 (by decide +kernel) (by decide +kernel)
theorem q_1074 : Cond.instanceMethod yX11_setPoints ∈ lw_all := kq 1074 (by decide +kernel) (by decide +kernel)
theorem q_1075 : Cond.selects RX11 yX11_setPoints yX11_setPoints ∈ lw_all := kq 1075 (by decide +kernel) (by decide +kernel)
theorem q_1076 : Cond.code yX11_setPoints cX11_setPoints 4 (some .int) ∈ lw_all := kq 1076 (by decide +kernel) (by decide +kernel)
theorem q_1089 : Cond.methodLink RL 122 yX11_door ∈ lw_all := kq 1089 (by decide +kernel) (by decide +kernel)
theorem q_1090 : Cond.instanceMethod yX11_door ∈ lw_all := kq 1090 (by decide +kernel) (by decide +kernel)
theorem q_1091 : Cond.selects RX11 yX11_door yX11_door ∈ lw_all := kq 1091 (by decide +kernel) (by decide +kernel)
theorem q_1092 : Cond.code yX11_door cX11_door 2 (some .int) ∈ lw_all := kq 1092 (by decide +kernel) (by decide +kernel)
theorem q_1099 : Cond.methodLink RL 126 yX11_pass ∈ lw_all := kq 1099 (by decide +kernel) (by decide +kernel)
theorem q_1100 : Cond.instanceMethod yX11_pass ∈ lw_all := kq 1100 (by decide +kernel) (by decide +kernel)
theorem q_1101 : Cond.selects RX11 yX11_pass yX11_pass ∈ lw_all := kq 1101 (by decide +kernel) (by decide +kernel)
theorem q_1102 : Cond.code yX11_pass cX11_pass 3 (some .int) ∈ lw_all := kq 1102 (by decide +kernel) (by decide +kernel)
theorem cwv_X11_door : kCWv yX11_door cX11_door 2 (some .int) 1 := ⟨⟨q_1092, q_53, by decide +kernel⟩, q_1090, q_1091⟩
theorem cwv_X11_pass : kCWv yX11_pass cX11_pass 3 (some .int) 1 := ⟨⟨q_1102, q_53, by decide +kernel⟩, q_1100, q_1101⟩
theorem cwv_X11_set : kCWv yX11_set cX11_set 4 (some .int) 2 := ⟨⟨q_1049, q_53, by decide +kernel⟩, q_1047, q_1048⟩
theorem cwv_X11_setMode : kCWv yX11_setMode cX11_setMode 6 (some .int) 4 := ⟨⟨q_1071, q_53, by decide +kernel⟩, q_1069, q_1070⟩
theorem cwv_X11_setPoints : kCWv yX11_setPoints cX11_setPoints 4 (some .int) 2 := ⟨⟨q_1076, q_53, by decide +kernel⟩, q_1074, q_1075⟩
theorem cwv_X11_thrown : kCWv yX11_thrown cX11_thrown 1 (some .int) 0 := ⟨⟨q_1045, q_53, by decide +kernel⟩, q_1043, q_1044⟩
def q_set (M : kMS) (p0 : Int32) (p1 : Int32) : kMS := ((s_X11_set M.1 M.2.2.1 M.2.1 p0 p1).2.1, (s_X11_set M.1 M.2.2.1 M.2.1 p0 p1).2.2.2, (s_X11_set M.1 M.2.2.1 M.2.1 p0 p1).2.2.1, M.2.2.2.1, M.2.2.2.2.1, M.2.2.2.2.2)
def a_set (M : kMS) (p0 : Int32) (p1 : Int32) : Int32 := (s_X11_set M.1 M.2.2.1 M.2.1 p0 p1).1
theorem cwW_L_set : Cond.codeWith yL_set cL_set 5 (some .int) [(0, 10, 13, 13), (0, 10, 17, 15)] ∈ lw_all ∧ Cond.initialized yL_set.cls ∈ lw_all ∧ Cond.static yL_set ∈ lw_all ∧ (yL_set.cls ≠ "java/lang/invoke/MethodHandle" ∧ yL_set.cls ≠ "java/lang/invoke/VarHandle" ∧ (parseMethodDescriptor yL_set.desc).map (fun d => d.parameters.length) = some 4) := ⟨q_464, q_40, q_463, by decide +kernel⟩
set_option maxRecDepth 100000 in
set_option maxHeartbeats 8000000 in
theorem law_0 {p : Program} {l : Launch} {e : Env} {s : State} {m : MethodId} {args : Array Value} {below : List Frame} {meth : Method} {c : Code} {cells slots : Nat} {Q : State → Prop} {D : va_G} {A : Nat → Prop} {ret : Option FieldType} {cI cJ cO cD : ClassId} {z : zT} {sb L b o oD n : Nat} {u v : Nat → Nat} {xs : Nat → Int32} (C4 : KC p s m args meth c cL_law 9 RL ret D (kT4 cI cJ cO cD) A) (hZ : kZ z A s s.heap) (hX : va_X sb L xs s s.heap) (hbl : sb < s.heap.size) (hbA : ¬ A sb) (hL : L ≤ 2560) (hn : n + 5 ≤ L) (hc : cells + 26 ≤ room_1.cells ∧ slots + 331 ≤ room_1.slots) {X : kXS} {Y : kTS} {M : kMS} {fo : Nat → Int64} {fd : Nat → UInt64} {R : kXS → kTS → kMS → Prop} (hs : lStep l D cI cJ cO z yL_set cL_set 5 [(0, 10, 13, 13), (0, 10, 17, 15)] [.ref b, .int (xs (n + 1)), .int (xs (n + 2)), .ref o] b o u X Y fo (a_set M (xs (n + 1)) (xs (n + 2))) ((q_set M (xs (n + 1)) (xs (n + 2))).1 7) (fun X2 Y2 => R X2 Y2 (q_set M (xs (n + 1)) (xs (n + 2))))) (hf_t_5 : kIn (M.1 5) 0 6) (hk : ∀ (X2 : kXS) (Y2 : kTS) (fo2 : Nat → Int64), R X2 Y2 (q_set M (xs (n + 1)) (xs (n + 2))) → KJ p l e room_1 s m args below meth c (cells + 26) (slots + 331) Q D A 9 (lawW cI cJ cO cD b o oD u v X2 Y2 (q_set M (xs (n + 1)) (xs (n + 2))) fo2 fd) [(5, .int (nI n)), (4, .ref oD), (3, .ref o), (2, .ref (v 0)), (1, .ref b), (0, .ref sb)] [] 1809) : KJ p l e room_1 s m args below meth c cells slots Q D A 9 (lawW cI cJ cO cD b o oD u v X Y M fo fd) [(5, .int (nI n)), (4, .ref oD), (3, .ref o), (2, .ref (v 0)), (1, .ref b), (0, .ref sb)] [] 176 := by
  have C := KC.t4 C4
  refine k_aload_n (pc := 176) C rfl 4 rfl dL_law_176 ?_
  refine k_aload_n (pc := 177) C rfl 5 rfl dL_law_177 ?_
  refine k_iload (pc := 178) C 0 rfl dL_law_178 ?_
  refine k_iconst (pc := 180) C iconst_1 dL_law_180 ?_
  refine k_iadd (pc := 181) C dL_law_181 ?_
  refine k_sld (pc := 182) (k := n + 1) C hX hbl hbA ((nI_succ n).symm) (by omega) hL dL_law_182 ?_
  refine k_aload_n (pc := 183) C rfl 5 rfl dL_law_183 ?_
  refine k_iload (pc := 184) C 0 rfl dL_law_184 ?_
  refine k_iconst (pc := 186) C iconst_2 dL_law_186 ?_
  refine k_iadd (pc := 187) C dL_law_187 ?_
  refine k_sld (pc := 188) (k := n + 2) C hX hbl hbA ((nI_2 n)) (by omega) hL dL_law_188 ?_
  refine k_aload_n (pc := 189) C rfl 2 rfl dL_law_189 ?_
  refine k_lstep (pc := 190) (As := [.ref b, .int (xs (n + 1)), .int (xs (n + 2)), .ref o]) (rest := []) C hZ hs cwW_L_set q_462 rfl (Nat.le_of_ble_eq_true rfl) ⟨Nat.le_of_ble_eq_true rfl, Nat.le_of_ble_eq_true rfl⟩ rfl hc dL_law_190 (fun rt X2 Y2 fo2 hth hout hR2 => ?_)
  refine k_istore (pc := 193) (lv2 := [(6, .int rt), (5, .int (nI n)), (4, .ref oD), (3, .ref o), (2, .ref (v 0)), (1, .ref b), (0, .ref sb)]) C (by decide) rfl dL_law_193 ?_
  refine k_aload_n (pc := 195) C rfl 4 rfl dL_law_195 ?_
  refine k_aload_n (pc := 196) C rfl 6 rfl dL_law_196 ?_
  refine k_iload (pc := 197) C 1 rfl dL_law_197 ?_
  refine k_iconst (pc := 199) C iconst_1 dL_law_199 ?_
  refine k_iadd (pc := 200) C dL_law_200 ?_
  refine k_sld (pc := 201) (k := n + 1) C hX hbl hbA ((nI_succ n).symm) (by omega) hL dL_law_201 ?_
  refine k_aload_n (pc := 202) C rfl 6 rfl dL_law_202 ?_
  refine k_iload (pc := 203) C 1 rfl dL_law_203 ?_
  refine k_iconst (pc := 205) C iconst_2 dL_law_205 ?_
  refine k_iadd (pc := 206) C dL_law_206 ?_
  refine k_sld (pc := 207) (k := n + 2) C hX hbl hbA ((nI_2 n)) (by omega) hL dL_law_207 ?_
  refine k_show (ws2 := [(v 0, moE M.1 (v 1) (v 2) (v 3) (v 4) (v 5)), (v 1, jA cJ 294 M.2.1), (v 2, jA cJ 1764 M.2.2.1), (v 3, jA cJ 294 M.2.2.2.1), (v 4, iA cI 90 M.2.2.2.2.1), (v 5, iA cI 48 M.2.2.2.2.2), (oD, dA cD 1 fd)] ++ (xwW cI cJ cO b o u X2 Y2 fo2 ++ kTl cI Y2)) rfl ?_
  refine k_callVi (pc := 208) (As := [.int (xs (n + 1)), .int (xs (n + 2))]) (rest := []) (r := a_set M (xs (n + 1)) (xs (n + 2))) (wc := [(v 0, moE M.1 (v 1) (v 2) (v 3) (v 4) (v 5)), (v 2, jA cJ 1764 M.2.2.1), (v 1, jA cJ 294 M.2.1)]) (wc2 := [(v 0, moE (q_set M (xs (n + 1)) (xs (n + 2))).1 (v 1) (v 2) (v 3) (v 4) (v 5)), (v 2, jA cJ 1764 (q_set M (xs (n + 1)) (xs (n + 2))).2.2.1), (v 1, jA cJ 294 (q_set M (xs (n + 1)) (xs (n + 2))).2.1)]) (ws2 := [(v 0, moE (q_set M (xs (n + 1)) (xs (n + 2))).1 (v 1) (v 2) (v 3) (v 4) (v 5)), (v 1, jA cJ 294 (q_set M (xs (n + 1)) (xs (n + 2))).2.1), (v 2, jA cJ 1764 (q_set M (xs (n + 1)) (xs (n + 2))).2.2.1), (v 3, jA cJ 294 M.2.2.2.1), (v 4, iA cI 90 M.2.2.2.2.1), (v 5, iA cI 48 M.2.2.2.2.2), (oD, dA cD 1 fd)] ++ (xwW cI cJ cO b o u X2 Y2 fo2 ++ kTl cI Y2)) C (c_X11_set l D cI cJ cO (v 0) (v 1) (v 2) (v 3) (v 4) (v 5) M.1 M.2.2.1 M.2.1 (xs (n + 1)) (xs (n + 2)) hf_t_5) cwv_X11_set q_1046 vX11 0 rfl [0, 2, 1] (kmap_app rfl) rfl (by decide) (kput_app (wc := [(v 0, moE M.1 (v 1) (v 2) (v 3) (v 4) (v 5)), (v 2, jA cJ 1764 M.2.2.1), (v 1, jA cJ 294 M.2.1)]) rfl rfl) rfl (Nat.le_of_ble_eq_true rfl) ⟨Nat.le_of_ble_eq_true rfl, Nat.le_of_ble_eq_true rfl⟩ rfl ⟨hc.1, hc.2⟩ dL_law_208 ?_
  refine k_show (ws2 := lawW cI cJ cO cD b o oD u v X2 Y2 (q_set M (xs (n + 1)) (xs (n + 2))) fo2 fd) rfl ?_
  refine k_istore (pc := 211) (lv2 := [(7, .int (a_set M (xs (n + 1)) (xs (n + 2)))), (6, .int rt), (5, .int (nI n)), (4, .ref oD), (3, .ref o), (2, .ref (v 0)), (1, .ref b), (0, .ref sb)]) C (by decide) rfl dL_law_211 ?_
  refine k_aload_n (pc := 213) C rfl 5 rfl dL_law_213 ?_
  refine k_show (ws2 := [(v 0, moE (q_set M (xs (n + 1)) (xs (n + 2))).1 (v 1) (v 2) (v 3) (v 4) (v 5)), (v 1, jA cJ 294 (q_set M (xs (n + 1)) (xs (n + 2))).2.1), (v 2, jA cJ 1764 (q_set M (xs (n + 1)) (xs (n + 2))).2.2.1), (v 3, jA cJ 294 (q_set M (xs (n + 1)) (xs (n + 2))).2.2.2.1), (v 4, iA cI 90 (q_set M (xs (n + 1)) (xs (n + 2))).2.2.2.2.1), (v 5, iA cI 48 (q_set M (xs (n + 1)) (xs (n + 2))).2.2.2.2.2), (oD, dA cD 1 fd)] ++ (xwW cI cJ cO b o u X2 Y2 fo2 ++ kTl cI Y2)) rfl ?_
  refine k_callVi (pc := 214) (As := []) (rest := []) (r := (q_set M (xs (n + 1)) (xs (n + 2))).1 7) (wc := [(v 0, moE (q_set M (xs (n + 1)) (xs (n + 2))).1 (v 1) (v 2) (v 3) (v 4) (v 5))]) (wc2 := [(v 0, moE (q_set M (xs (n + 1)) (xs (n + 2))).1 (v 1) (v 2) (v 3) (v 4) (v 5))]) (ws2 := [(v 0, moE (q_set M (xs (n + 1)) (xs (n + 2))).1 (v 1) (v 2) (v 3) (v 4) (v 5)), (v 1, jA cJ 294 (q_set M (xs (n + 1)) (xs (n + 2))).2.1), (v 2, jA cJ 1764 (q_set M (xs (n + 1)) (xs (n + 2))).2.2.1), (v 3, jA cJ 294 (q_set M (xs (n + 1)) (xs (n + 2))).2.2.2.1), (v 4, iA cI 90 (q_set M (xs (n + 1)) (xs (n + 2))).2.2.2.2.1), (v 5, iA cI 48 (q_set M (xs (n + 1)) (xs (n + 2))).2.2.2.2.2), (oD, dA cD 1 fd)] ++ (xwW cI cJ cO b o u X2 Y2 fo2 ++ kTl cI Y2)) C (c_X11_thrown l D cI cJ cO (v 0) (v 1) (v 2) (v 3) (v 4) (v 5) (q_set M (xs (n + 1)) (xs (n + 2))).1) cwv_X11_thrown q_1042 vX11 0 rfl [0] (kmap_app rfl) rfl (by decide) (kput_app (wc := [(v 0, moE (q_set M (xs (n + 1)) (xs (n + 2))).1 (v 1) (v 2) (v 3) (v 4) (v 5))]) rfl rfl) rfl (Nat.le_of_ble_eq_true rfl) ⟨Nat.le_of_ble_eq_true rfl, Nat.le_of_ble_eq_true rfl⟩ rfl ⟨hc.1, hc.2⟩ dL_law_214 ?_
  refine k_show (ws2 := lawW cI cJ cO cD b o oD u v X2 Y2 (q_set M (xs (n + 1)) (xs (n + 2))) fo2 fd) rfl ?_
  refine k_iload (pc := 217) C 1 rfl dL_law_217 ?_
  refine k_icmp_eq (pc := 219) (tgt := 224) C dL_law_219 (by decide) (fun _ => ?_) (fun q => absurd hth q)
  refine k_iload (pc := 224) C 1 rfl dL_law_224 ?_
  refine k_if_ne (pc := 226) (tgt := 241) C dL_law_226 (by decide) (fun _ => k_goto (pc := 241) (tgt := 1809) C (by decide) dL_law_241 (k_lpick (lv2 := [(5, .int (nI n)), (4, .ref oD), (3, .ref o), (2, .ref (v 0)), (1, .ref b), (0, .ref sb)]) [2, 3, 4, 5, 6, 7] rfl (hk X2 Y2 fo2 hR2))) (fun h0 => ?_)
  refine k_aload_n (pc := 229) C rfl 4 rfl dL_law_229 ?_
  refine k_iconst (pc := 230) C iconst_0 dL_law_230 ?_
  refine k_laldK (pc := 231) (v := (a_set M (xs (n + 1)) (xs (n + 2))).toInt64) C 7 1 rfl rfl (k_vinc 0 cl_0 (by decide) (by decide)) cl_0 (hout h0) dL_law_231 ?_
  refine k_iload (pc := 232) C 0 rfl dL_law_232 ?_
  refine k_i2l (pc := 234) C dL_law_234 ?_
  exact k_lcmp_eq (pc := 235) (tgt := 241) C dL_law_235 dL_law_236 (by decide) (fun _ => k_goto (pc := 241) (tgt := 1809) C (by decide) dL_law_241 (k_lpick (lv2 := [(5, .int (nI n)), (4, .ref oD), (3, .ref o), (2, .ref (v 0)), (1, .ref b), (0, .ref sb)]) [2, 3, 4, 5, 6, 7] rfl (hk X2 Y2 fo2 hR2))) (fun q => absurd rfl q)
def q_setMode (M : kMS) (p0 : Int32) (p1 : Int32) (p2 : Int32) (p3 : Int32) : kMS := ((s_X11_setMode M.1 M.2.2.1 M.2.1 p0 p1 p2 p3).2.1, (s_X11_setMode M.1 M.2.2.1 M.2.1 p0 p1 p2 p3).2.2.2, (s_X11_setMode M.1 M.2.2.1 M.2.1 p0 p1 p2 p3).2.2.1, M.2.2.2.1, M.2.2.2.2.1, M.2.2.2.2.2)
def a_setMode (M : kMS) (p0 : Int32) (p1 : Int32) (p2 : Int32) (p3 : Int32) : Int32 := (s_X11_setMode M.1 M.2.2.1 M.2.1 p0 p1 p2 p3).1
theorem cwW_L_setMode : Cond.codeWith yL_setMode cL_setMode 7 (some .int) [(0, 14, 17, 13), (0, 14, 21, 15)] ∈ lw_all ∧ Cond.initialized yL_setMode.cls ∈ lw_all ∧ Cond.static yL_setMode ∈ lw_all ∧ (yL_setMode.cls ≠ "java/lang/invoke/MethodHandle" ∧ yL_setMode.cls ≠ "java/lang/invoke/VarHandle" ∧ (parseMethodDescriptor yL_setMode.desc).map (fun d => d.parameters.length) = some 6) := ⟨q_621, q_40, q_620, by decide +kernel⟩
set_option maxRecDepth 100000 in
set_option maxHeartbeats 8000000 in
theorem law_1 {p : Program} {l : Launch} {e : Env} {s : State} {m : MethodId} {args : Array Value} {below : List Frame} {meth : Method} {c : Code} {cells slots : Nat} {Q : State → Prop} {D : va_G} {A : Nat → Prop} {ret : Option FieldType} {cI cJ cO cD : ClassId} {z : zT} {sb L b o oD n : Nat} {u v : Nat → Nat} {xs : Nat → Int32} (C4 : KC p s m args meth c cL_law 9 RL ret D (kT4 cI cJ cO cD) A) (hZ : kZ z A s s.heap) (hX : va_X sb L xs s s.heap) (hbl : sb < s.heap.size) (hbA : ¬ A sb) (hL : L ≤ 2560) (hn : n + 5 ≤ L) (hc : cells + 26 ≤ room_1.cells ∧ slots + 331 ≤ room_1.slots) {X : kXS} {Y : kTS} {M : kMS} {fo : Nat → Int64} {fd : Nat → UInt64} {R : kXS → kTS → kMS → Prop} (hs : lStep l D cI cJ cO z yL_setMode cL_setMode 7 [(0, 14, 17, 13), (0, 14, 21, 15)] [.ref b, .int (xs (n + 1)), .int (xs (n + 2)), .int (xs (n + 3)), .int (xs (n + 4)), .ref o] b o u X Y fo (a_setMode M (xs (n + 1)) (xs (n + 2)) (xs (n + 3)) (xs (n + 4))) ((q_setMode M (xs (n + 1)) (xs (n + 2)) (xs (n + 3)) (xs (n + 4))).1 7) (fun X2 Y2 => R X2 Y2 (q_setMode M (xs (n + 1)) (xs (n + 2)) (xs (n + 3)) (xs (n + 4))))) (hf_t_5 : kIn (M.1 5) 0 6) (hk : ∀ (X2 : kXS) (Y2 : kTS) (fo2 : Nat → Int64), R X2 Y2 (q_setMode M (xs (n + 1)) (xs (n + 2)) (xs (n + 3)) (xs (n + 4))) → KJ p l e room_1 s m args below meth c (cells + 26) (slots + 331) Q D A 9 (lawW cI cJ cO cD b o oD u v X2 Y2 (q_setMode M (xs (n + 1)) (xs (n + 2)) (xs (n + 3)) (xs (n + 4))) fo2 fd) [(5, .int (nI n)), (4, .ref oD), (3, .ref o), (2, .ref (v 0)), (1, .ref b), (0, .ref sb)] [] 1809) : KJ p l e room_1 s m args below meth c cells slots Q D A 9 (lawW cI cJ cO cD b o oD u v X Y M fo fd) [(5, .int (nI n)), (4, .ref oD), (3, .ref o), (2, .ref (v 0)), (1, .ref b), (0, .ref sb)] [] 244 := by
  have C := KC.t4 C4
  refine k_aload_n (pc := 244) C rfl 4 rfl dL_law_244 ?_
  refine k_aload_n (pc := 245) C rfl 5 rfl dL_law_245 ?_
  refine k_iload (pc := 246) C 0 rfl dL_law_246 ?_
  refine k_iconst (pc := 248) C iconst_1 dL_law_248 ?_
  refine k_iadd (pc := 249) C dL_law_249 ?_
  refine k_sld (pc := 250) (k := n + 1) C hX hbl hbA ((nI_succ n).symm) (by omega) hL dL_law_250 ?_
  refine k_aload_n (pc := 251) C rfl 5 rfl dL_law_251 ?_
  refine k_iload (pc := 252) C 0 rfl dL_law_252 ?_
  refine k_iconst (pc := 254) C iconst_2 dL_law_254 ?_
  refine k_iadd (pc := 255) C dL_law_255 ?_
  refine k_sld (pc := 256) (k := n + 2) C hX hbl hbA ((nI_2 n)) (by omega) hL dL_law_256 ?_
  refine k_aload_n (pc := 257) C rfl 5 rfl dL_law_257 ?_
  refine k_iload (pc := 258) C 0 rfl dL_law_258 ?_
  refine k_iconst (pc := 260) C iconst_3 dL_law_260 ?_
  refine k_iadd (pc := 261) C dL_law_261 ?_
  refine k_sld (pc := 262) (k := n + 3) C hX hbl hbA ((nI_3 n)) (by omega) hL dL_law_262 ?_
  refine k_aload_n (pc := 263) C rfl 5 rfl dL_law_263 ?_
  refine k_iload (pc := 264) C 0 rfl dL_law_264 ?_
  refine k_iconst (pc := 266) C iconst_4 dL_law_266 ?_
  refine k_iadd (pc := 267) C dL_law_267 ?_
  refine k_sld (pc := 268) (k := n + 4) C hX hbl hbA ((nI_4 n)) (by omega) hL dL_law_268 ?_
  refine k_aload_n (pc := 269) C rfl 2 rfl dL_law_269 ?_
  refine k_lstep (pc := 270) (As := [.ref b, .int (xs (n + 1)), .int (xs (n + 2)), .int (xs (n + 3)), .int (xs (n + 4)), .ref o]) (rest := []) C hZ hs cwW_L_setMode q_619 rfl (Nat.le_of_ble_eq_true rfl) ⟨Nat.le_of_ble_eq_true rfl, Nat.le_of_ble_eq_true rfl⟩ rfl hc dL_law_270 (fun rt X2 Y2 fo2 hth hout hR2 => ?_)
  refine k_istore (pc := 273) (lv2 := [(6, .int rt), (5, .int (nI n)), (4, .ref oD), (3, .ref o), (2, .ref (v 0)), (1, .ref b), (0, .ref sb)]) C (by decide) rfl dL_law_273 ?_
  refine k_aload_n (pc := 275) C rfl 4 rfl dL_law_275 ?_
  refine k_aload_n (pc := 276) C rfl 6 rfl dL_law_276 ?_
  refine k_iload (pc := 277) C 1 rfl dL_law_277 ?_
  refine k_iconst (pc := 279) C iconst_1 dL_law_279 ?_
  refine k_iadd (pc := 280) C dL_law_280 ?_
  refine k_sld (pc := 281) (k := n + 1) C hX hbl hbA ((nI_succ n).symm) (by omega) hL dL_law_281 ?_
  refine k_aload_n (pc := 282) C rfl 6 rfl dL_law_282 ?_
  refine k_iload (pc := 283) C 1 rfl dL_law_283 ?_
  refine k_iconst (pc := 285) C iconst_2 dL_law_285 ?_
  refine k_iadd (pc := 286) C dL_law_286 ?_
  refine k_sld (pc := 287) (k := n + 2) C hX hbl hbA ((nI_2 n)) (by omega) hL dL_law_287 ?_
  refine k_aload_n (pc := 288) C rfl 6 rfl dL_law_288 ?_
  refine k_iload (pc := 289) C 1 rfl dL_law_289 ?_
  refine k_iconst (pc := 291) C iconst_3 dL_law_291 ?_
  refine k_iadd (pc := 292) C dL_law_292 ?_
  refine k_sld (pc := 293) (k := n + 3) C hX hbl hbA ((nI_3 n)) (by omega) hL dL_law_293 ?_
  refine k_aload_n (pc := 294) C rfl 6 rfl dL_law_294 ?_
  refine k_iload (pc := 295) C 1 rfl dL_law_295 ?_
  refine k_iconst (pc := 297) C iconst_4 dL_law_297 ?_
  refine k_iadd (pc := 298) C dL_law_298 ?_
  refine k_sld (pc := 299) (k := n + 4) C hX hbl hbA ((nI_4 n)) (by omega) hL dL_law_299 ?_
  refine k_show (ws2 := [(v 0, moE M.1 (v 1) (v 2) (v 3) (v 4) (v 5)), (v 1, jA cJ 294 M.2.1), (v 2, jA cJ 1764 M.2.2.1), (v 3, jA cJ 294 M.2.2.2.1), (v 4, iA cI 90 M.2.2.2.2.1), (v 5, iA cI 48 M.2.2.2.2.2), (oD, dA cD 1 fd)] ++ (xwW cI cJ cO b o u X2 Y2 fo2 ++ kTl cI Y2)) rfl ?_
  refine k_callVi (pc := 300) (As := [.int (xs (n + 1)), .int (xs (n + 2)), .int (xs (n + 3)), .int (xs (n + 4))]) (rest := []) (r := a_setMode M (xs (n + 1)) (xs (n + 2)) (xs (n + 3)) (xs (n + 4))) (wc := [(v 0, moE M.1 (v 1) (v 2) (v 3) (v 4) (v 5)), (v 2, jA cJ 1764 M.2.2.1), (v 1, jA cJ 294 M.2.1)]) (wc2 := [(v 0, moE (q_setMode M (xs (n + 1)) (xs (n + 2)) (xs (n + 3)) (xs (n + 4))).1 (v 1) (v 2) (v 3) (v 4) (v 5)), (v 2, jA cJ 1764 (q_setMode M (xs (n + 1)) (xs (n + 2)) (xs (n + 3)) (xs (n + 4))).2.2.1), (v 1, jA cJ 294 (q_setMode M (xs (n + 1)) (xs (n + 2)) (xs (n + 3)) (xs (n + 4))).2.1)]) (ws2 := [(v 0, moE (q_setMode M (xs (n + 1)) (xs (n + 2)) (xs (n + 3)) (xs (n + 4))).1 (v 1) (v 2) (v 3) (v 4) (v 5)), (v 1, jA cJ 294 (q_setMode M (xs (n + 1)) (xs (n + 2)) (xs (n + 3)) (xs (n + 4))).2.1), (v 2, jA cJ 1764 (q_setMode M (xs (n + 1)) (xs (n + 2)) (xs (n + 3)) (xs (n + 4))).2.2.1), (v 3, jA cJ 294 M.2.2.2.1), (v 4, iA cI 90 M.2.2.2.2.1), (v 5, iA cI 48 M.2.2.2.2.2), (oD, dA cD 1 fd)] ++ (xwW cI cJ cO b o u X2 Y2 fo2 ++ kTl cI Y2)) C (c_X11_setMode l D cI cJ cO (v 0) (v 1) (v 2) (v 3) (v 4) (v 5) M.1 M.2.2.1 M.2.1 (xs (n + 1)) (xs (n + 2)) (xs (n + 3)) (xs (n + 4)) hf_t_5) cwv_X11_setMode q_1068 vX11 0 rfl [0, 2, 1] (kmap_app rfl) rfl (by decide) (kput_app (wc := [(v 0, moE M.1 (v 1) (v 2) (v 3) (v 4) (v 5)), (v 2, jA cJ 1764 M.2.2.1), (v 1, jA cJ 294 M.2.1)]) rfl rfl) rfl (Nat.le_of_ble_eq_true rfl) ⟨Nat.le_of_ble_eq_true rfl, Nat.le_of_ble_eq_true rfl⟩ rfl ⟨hc.1, hc.2⟩ dL_law_300 ?_
  refine k_show (ws2 := lawW cI cJ cO cD b o oD u v X2 Y2 (q_setMode M (xs (n + 1)) (xs (n + 2)) (xs (n + 3)) (xs (n + 4))) fo2 fd) rfl ?_
  refine k_istore (pc := 303) (lv2 := [(7, .int (a_setMode M (xs (n + 1)) (xs (n + 2)) (xs (n + 3)) (xs (n + 4)))), (6, .int rt), (5, .int (nI n)), (4, .ref oD), (3, .ref o), (2, .ref (v 0)), (1, .ref b), (0, .ref sb)]) C (by decide) rfl dL_law_303 ?_
  refine k_aload_n (pc := 305) C rfl 5 rfl dL_law_305 ?_
  refine k_show (ws2 := [(v 0, moE (q_setMode M (xs (n + 1)) (xs (n + 2)) (xs (n + 3)) (xs (n + 4))).1 (v 1) (v 2) (v 3) (v 4) (v 5)), (v 1, jA cJ 294 (q_setMode M (xs (n + 1)) (xs (n + 2)) (xs (n + 3)) (xs (n + 4))).2.1), (v 2, jA cJ 1764 (q_setMode M (xs (n + 1)) (xs (n + 2)) (xs (n + 3)) (xs (n + 4))).2.2.1), (v 3, jA cJ 294 (q_setMode M (xs (n + 1)) (xs (n + 2)) (xs (n + 3)) (xs (n + 4))).2.2.2.1), (v 4, iA cI 90 (q_setMode M (xs (n + 1)) (xs (n + 2)) (xs (n + 3)) (xs (n + 4))).2.2.2.2.1), (v 5, iA cI 48 (q_setMode M (xs (n + 1)) (xs (n + 2)) (xs (n + 3)) (xs (n + 4))).2.2.2.2.2), (oD, dA cD 1 fd)] ++ (xwW cI cJ cO b o u X2 Y2 fo2 ++ kTl cI Y2)) rfl ?_
  refine k_callVi (pc := 306) (As := []) (rest := []) (r := (q_setMode M (xs (n + 1)) (xs (n + 2)) (xs (n + 3)) (xs (n + 4))).1 7) (wc := [(v 0, moE (q_setMode M (xs (n + 1)) (xs (n + 2)) (xs (n + 3)) (xs (n + 4))).1 (v 1) (v 2) (v 3) (v 4) (v 5))]) (wc2 := [(v 0, moE (q_setMode M (xs (n + 1)) (xs (n + 2)) (xs (n + 3)) (xs (n + 4))).1 (v 1) (v 2) (v 3) (v 4) (v 5))]) (ws2 := [(v 0, moE (q_setMode M (xs (n + 1)) (xs (n + 2)) (xs (n + 3)) (xs (n + 4))).1 (v 1) (v 2) (v 3) (v 4) (v 5)), (v 1, jA cJ 294 (q_setMode M (xs (n + 1)) (xs (n + 2)) (xs (n + 3)) (xs (n + 4))).2.1), (v 2, jA cJ 1764 (q_setMode M (xs (n + 1)) (xs (n + 2)) (xs (n + 3)) (xs (n + 4))).2.2.1), (v 3, jA cJ 294 (q_setMode M (xs (n + 1)) (xs (n + 2)) (xs (n + 3)) (xs (n + 4))).2.2.2.1), (v 4, iA cI 90 (q_setMode M (xs (n + 1)) (xs (n + 2)) (xs (n + 3)) (xs (n + 4))).2.2.2.2.1), (v 5, iA cI 48 (q_setMode M (xs (n + 1)) (xs (n + 2)) (xs (n + 3)) (xs (n + 4))).2.2.2.2.2), (oD, dA cD 1 fd)] ++ (xwW cI cJ cO b o u X2 Y2 fo2 ++ kTl cI Y2)) C (c_X11_thrown l D cI cJ cO (v 0) (v 1) (v 2) (v 3) (v 4) (v 5) (q_setMode M (xs (n + 1)) (xs (n + 2)) (xs (n + 3)) (xs (n + 4))).1) cwv_X11_thrown q_1042 vX11 0 rfl [0] (kmap_app rfl) rfl (by decide) (kput_app (wc := [(v 0, moE (q_setMode M (xs (n + 1)) (xs (n + 2)) (xs (n + 3)) (xs (n + 4))).1 (v 1) (v 2) (v 3) (v 4) (v 5))]) rfl rfl) rfl (Nat.le_of_ble_eq_true rfl) ⟨Nat.le_of_ble_eq_true rfl, Nat.le_of_ble_eq_true rfl⟩ rfl ⟨hc.1, hc.2⟩ dL_law_306 ?_
  refine k_show (ws2 := lawW cI cJ cO cD b o oD u v X2 Y2 (q_setMode M (xs (n + 1)) (xs (n + 2)) (xs (n + 3)) (xs (n + 4))) fo2 fd) rfl ?_
  refine k_iload (pc := 309) C 1 rfl dL_law_309 ?_
  refine k_icmp_eq (pc := 311) (tgt := 316) C dL_law_311 (by decide) (fun _ => ?_) (fun q => absurd hth q)
  refine k_iload (pc := 316) C 1 rfl dL_law_316 ?_
  refine k_if_ne (pc := 318) (tgt := 333) C dL_law_318 (by decide) (fun _ => k_goto (pc := 333) (tgt := 1809) C (by decide) dL_law_333 (k_lpick (lv2 := [(5, .int (nI n)), (4, .ref oD), (3, .ref o), (2, .ref (v 0)), (1, .ref b), (0, .ref sb)]) [2, 3, 4, 5, 6, 7] rfl (hk X2 Y2 fo2 hR2))) (fun h0 => ?_)
  refine k_aload_n (pc := 321) C rfl 4 rfl dL_law_321 ?_
  refine k_iconst (pc := 322) C iconst_0 dL_law_322 ?_
  refine k_laldK (pc := 323) (v := (a_setMode M (xs (n + 1)) (xs (n + 2)) (xs (n + 3)) (xs (n + 4))).toInt64) C 7 1 rfl rfl (k_vinc 0 cl_0 (by decide) (by decide)) cl_0 (hout h0) dL_law_323 ?_
  refine k_iload (pc := 324) C 0 rfl dL_law_324 ?_
  refine k_i2l (pc := 326) C dL_law_326 ?_
  exact k_lcmp_eq (pc := 327) (tgt := 333) C dL_law_327 dL_law_328 (by decide) (fun _ => k_goto (pc := 333) (tgt := 1809) C (by decide) dL_law_333 (k_lpick (lv2 := [(5, .int (nI n)), (4, .ref oD), (3, .ref o), (2, .ref (v 0)), (1, .ref b), (0, .ref sb)]) [2, 3, 4, 5, 6, 7] rfl (hk X2 Y2 fo2 hR2))) (fun q => absurd rfl q)
def q_setPoints (M : kMS) (p0 : Int32) (p1 : Int32) : kMS := ((s_X11_setPoints M.1 M.2.1 M.2.2.1 p0 p1).2.1, (s_X11_setPoints M.1 M.2.1 M.2.2.1 p0 p1).2.2.1, (s_X11_setPoints M.1 M.2.1 M.2.2.1 p0 p1).2.2.2, M.2.2.2.1, M.2.2.2.2.1, M.2.2.2.2.2)
def a_setPoints (M : kMS) (p0 : Int32) (p1 : Int32) : Int32 := (s_X11_setPoints M.1 M.2.1 M.2.2.1 p0 p1).1
theorem cwW_L_setPoints : Cond.codeWith yL_setPoints cL_setPoints 5 (some .int) [(0, 10, 13, 15), (0, 10, 17, 24)] ∈ lw_all ∧ Cond.initialized yL_setPoints.cls ∈ lw_all ∧ Cond.static yL_setPoints ∈ lw_all ∧ (yL_setPoints.cls ≠ "java/lang/invoke/MethodHandle" ∧ yL_setPoints.cls ≠ "java/lang/invoke/VarHandle" ∧ (parseMethodDescriptor yL_setPoints.desc).map (fun d => d.parameters.length) = some 4) := ⟨q_628, q_40, q_627, by decide +kernel⟩
set_option maxRecDepth 100000 in
set_option maxHeartbeats 8000000 in
theorem law_2 {p : Program} {l : Launch} {e : Env} {s : State} {m : MethodId} {args : Array Value} {below : List Frame} {meth : Method} {c : Code} {cells slots : Nat} {Q : State → Prop} {D : va_G} {A : Nat → Prop} {ret : Option FieldType} {cI cJ cO cD : ClassId} {z : zT} {sb L b o oD n : Nat} {u v : Nat → Nat} {xs : Nat → Int32} (C4 : KC p s m args meth c cL_law 9 RL ret D (kT4 cI cJ cO cD) A) (hZ : kZ z A s s.heap) (hX : va_X sb L xs s s.heap) (hbl : sb < s.heap.size) (hbA : ¬ A sb) (hL : L ≤ 2560) (hn : n + 5 ≤ L) (hc : cells + 26 ≤ room_1.cells ∧ slots + 331 ≤ room_1.slots) {X : kXS} {Y : kTS} {M : kMS} {fo : Nat → Int64} {fd : Nat → UInt64} {R : kXS → kTS → kMS → Prop} (hs : lStep l D cI cJ cO z yL_setPoints cL_setPoints 5 [(0, 10, 13, 15), (0, 10, 17, 24)] [.ref b, .int (xs (n + 1)), .int (xs (n + 2)), .ref o] b o u X Y fo (a_setPoints M (xs (n + 1)) (xs (n + 2))) ((q_setPoints M (xs (n + 1)) (xs (n + 2))).1 7) (fun X2 Y2 => R X2 Y2 (q_setPoints M (xs (n + 1)) (xs (n + 2))))) (hf_t_5 : kIn (M.1 5) 0 6) (hk : ∀ (X2 : kXS) (Y2 : kTS) (fo2 : Nat → Int64), R X2 Y2 (q_setPoints M (xs (n + 1)) (xs (n + 2))) → KJ p l e room_1 s m args below meth c (cells + 26) (slots + 331) Q D A 9 (lawW cI cJ cO cD b o oD u v X2 Y2 (q_setPoints M (xs (n + 1)) (xs (n + 2))) fo2 fd) [(5, .int (nI n)), (4, .ref oD), (3, .ref o), (2, .ref (v 0)), (1, .ref b), (0, .ref sb)] [] 1809) : KJ p l e room_1 s m args below meth c cells slots Q D A 9 (lawW cI cJ cO cD b o oD u v X Y M fo fd) [(5, .int (nI n)), (4, .ref oD), (3, .ref o), (2, .ref (v 0)), (1, .ref b), (0, .ref sb)] [] 336 := by
  have C := KC.t4 C4
  refine k_aload_n (pc := 336) C rfl 4 rfl dL_law_336 ?_
  refine k_aload_n (pc := 337) C rfl 5 rfl dL_law_337 ?_
  refine k_iload (pc := 338) C 0 rfl dL_law_338 ?_
  refine k_iconst (pc := 340) C iconst_1 dL_law_340 ?_
  refine k_iadd (pc := 341) C dL_law_341 ?_
  refine k_sld (pc := 342) (k := n + 1) C hX hbl hbA ((nI_succ n).symm) (by omega) hL dL_law_342 ?_
  refine k_aload_n (pc := 343) C rfl 5 rfl dL_law_343 ?_
  refine k_iload (pc := 344) C 0 rfl dL_law_344 ?_
  refine k_iconst (pc := 346) C iconst_2 dL_law_346 ?_
  refine k_iadd (pc := 347) C dL_law_347 ?_
  refine k_sld (pc := 348) (k := n + 2) C hX hbl hbA ((nI_2 n)) (by omega) hL dL_law_348 ?_
  refine k_aload_n (pc := 349) C rfl 2 rfl dL_law_349 ?_
  refine k_lstep (pc := 350) (As := [.ref b, .int (xs (n + 1)), .int (xs (n + 2)), .ref o]) (rest := []) C hZ hs cwW_L_setPoints q_626 rfl (Nat.le_of_ble_eq_true rfl) ⟨Nat.le_of_ble_eq_true rfl, Nat.le_of_ble_eq_true rfl⟩ rfl hc dL_law_350 (fun rt X2 Y2 fo2 hth hout hR2 => ?_)
  refine k_istore (pc := 353) (lv2 := [(6, .int rt), (5, .int (nI n)), (4, .ref oD), (3, .ref o), (2, .ref (v 0)), (1, .ref b), (0, .ref sb)]) C (by decide) rfl dL_law_353 ?_
  refine k_aload_n (pc := 355) C rfl 4 rfl dL_law_355 ?_
  refine k_aload_n (pc := 356) C rfl 6 rfl dL_law_356 ?_
  refine k_iload (pc := 357) C 1 rfl dL_law_357 ?_
  refine k_iconst (pc := 359) C iconst_1 dL_law_359 ?_
  refine k_iadd (pc := 360) C dL_law_360 ?_
  refine k_sld (pc := 361) (k := n + 1) C hX hbl hbA ((nI_succ n).symm) (by omega) hL dL_law_361 ?_
  refine k_aload_n (pc := 362) C rfl 6 rfl dL_law_362 ?_
  refine k_iload (pc := 363) C 1 rfl dL_law_363 ?_
  refine k_iconst (pc := 365) C iconst_2 dL_law_365 ?_
  refine k_iadd (pc := 366) C dL_law_366 ?_
  refine k_sld (pc := 367) (k := n + 2) C hX hbl hbA ((nI_2 n)) (by omega) hL dL_law_367 ?_
  refine k_show (ws2 := [(v 0, moE M.1 (v 1) (v 2) (v 3) (v 4) (v 5)), (v 1, jA cJ 294 M.2.1), (v 2, jA cJ 1764 M.2.2.1), (v 3, jA cJ 294 M.2.2.2.1), (v 4, iA cI 90 M.2.2.2.2.1), (v 5, iA cI 48 M.2.2.2.2.2), (oD, dA cD 1 fd)] ++ (xwW cI cJ cO b o u X2 Y2 fo2 ++ kTl cI Y2)) rfl ?_
  refine k_callVi (pc := 368) (As := [.int (xs (n + 1)), .int (xs (n + 2))]) (rest := []) (r := a_setPoints M (xs (n + 1)) (xs (n + 2))) (wc := [(v 0, moE M.1 (v 1) (v 2) (v 3) (v 4) (v 5)), (v 1, jA cJ 294 M.2.1), (v 2, jA cJ 1764 M.2.2.1)]) (wc2 := [(v 0, moE (q_setPoints M (xs (n + 1)) (xs (n + 2))).1 (v 1) (v 2) (v 3) (v 4) (v 5)), (v 1, jA cJ 294 (q_setPoints M (xs (n + 1)) (xs (n + 2))).2.1), (v 2, jA cJ 1764 (q_setPoints M (xs (n + 1)) (xs (n + 2))).2.2.1)]) (ws2 := [(v 0, moE (q_setPoints M (xs (n + 1)) (xs (n + 2))).1 (v 1) (v 2) (v 3) (v 4) (v 5)), (v 1, jA cJ 294 (q_setPoints M (xs (n + 1)) (xs (n + 2))).2.1), (v 2, jA cJ 1764 (q_setPoints M (xs (n + 1)) (xs (n + 2))).2.2.1), (v 3, jA cJ 294 M.2.2.2.1), (v 4, iA cI 90 M.2.2.2.2.1), (v 5, iA cI 48 M.2.2.2.2.2), (oD, dA cD 1 fd)] ++ (xwW cI cJ cO b o u X2 Y2 fo2 ++ kTl cI Y2)) C (c_X11_setPoints l D cI cJ cO (v 0) (v 1) (v 2) (v 3) (v 4) (v 5) M.1 M.2.1 M.2.2.1 (xs (n + 1)) (xs (n + 2)) hf_t_5) cwv_X11_setPoints q_1073 vX11 0 rfl [0, 1, 2] (kmap_app rfl) rfl (by decide) (kput_app (wc := [(v 0, moE M.1 (v 1) (v 2) (v 3) (v 4) (v 5)), (v 1, jA cJ 294 M.2.1), (v 2, jA cJ 1764 M.2.2.1)]) rfl rfl) rfl (Nat.le_of_ble_eq_true rfl) ⟨Nat.le_of_ble_eq_true rfl, Nat.le_of_ble_eq_true rfl⟩ rfl ⟨hc.1, hc.2⟩ dL_law_368 ?_
  refine k_show (ws2 := lawW cI cJ cO cD b o oD u v X2 Y2 (q_setPoints M (xs (n + 1)) (xs (n + 2))) fo2 fd) rfl ?_
  refine k_istore (pc := 371) (lv2 := [(7, .int (a_setPoints M (xs (n + 1)) (xs (n + 2)))), (6, .int rt), (5, .int (nI n)), (4, .ref oD), (3, .ref o), (2, .ref (v 0)), (1, .ref b), (0, .ref sb)]) C (by decide) rfl dL_law_371 ?_
  refine k_aload_n (pc := 373) C rfl 5 rfl dL_law_373 ?_
  refine k_show (ws2 := [(v 0, moE (q_setPoints M (xs (n + 1)) (xs (n + 2))).1 (v 1) (v 2) (v 3) (v 4) (v 5)), (v 1, jA cJ 294 (q_setPoints M (xs (n + 1)) (xs (n + 2))).2.1), (v 2, jA cJ 1764 (q_setPoints M (xs (n + 1)) (xs (n + 2))).2.2.1), (v 3, jA cJ 294 (q_setPoints M (xs (n + 1)) (xs (n + 2))).2.2.2.1), (v 4, iA cI 90 (q_setPoints M (xs (n + 1)) (xs (n + 2))).2.2.2.2.1), (v 5, iA cI 48 (q_setPoints M (xs (n + 1)) (xs (n + 2))).2.2.2.2.2), (oD, dA cD 1 fd)] ++ (xwW cI cJ cO b o u X2 Y2 fo2 ++ kTl cI Y2)) rfl ?_
  refine k_callVi (pc := 374) (As := []) (rest := []) (r := (q_setPoints M (xs (n + 1)) (xs (n + 2))).1 7) (wc := [(v 0, moE (q_setPoints M (xs (n + 1)) (xs (n + 2))).1 (v 1) (v 2) (v 3) (v 4) (v 5))]) (wc2 := [(v 0, moE (q_setPoints M (xs (n + 1)) (xs (n + 2))).1 (v 1) (v 2) (v 3) (v 4) (v 5))]) (ws2 := [(v 0, moE (q_setPoints M (xs (n + 1)) (xs (n + 2))).1 (v 1) (v 2) (v 3) (v 4) (v 5)), (v 1, jA cJ 294 (q_setPoints M (xs (n + 1)) (xs (n + 2))).2.1), (v 2, jA cJ 1764 (q_setPoints M (xs (n + 1)) (xs (n + 2))).2.2.1), (v 3, jA cJ 294 (q_setPoints M (xs (n + 1)) (xs (n + 2))).2.2.2.1), (v 4, iA cI 90 (q_setPoints M (xs (n + 1)) (xs (n + 2))).2.2.2.2.1), (v 5, iA cI 48 (q_setPoints M (xs (n + 1)) (xs (n + 2))).2.2.2.2.2), (oD, dA cD 1 fd)] ++ (xwW cI cJ cO b o u X2 Y2 fo2 ++ kTl cI Y2)) C (c_X11_thrown l D cI cJ cO (v 0) (v 1) (v 2) (v 3) (v 4) (v 5) (q_setPoints M (xs (n + 1)) (xs (n + 2))).1) cwv_X11_thrown q_1042 vX11 0 rfl [0] (kmap_app rfl) rfl (by decide) (kput_app (wc := [(v 0, moE (q_setPoints M (xs (n + 1)) (xs (n + 2))).1 (v 1) (v 2) (v 3) (v 4) (v 5))]) rfl rfl) rfl (Nat.le_of_ble_eq_true rfl) ⟨Nat.le_of_ble_eq_true rfl, Nat.le_of_ble_eq_true rfl⟩ rfl ⟨hc.1, hc.2⟩ dL_law_374 ?_
  refine k_show (ws2 := lawW cI cJ cO cD b o oD u v X2 Y2 (q_setPoints M (xs (n + 1)) (xs (n + 2))) fo2 fd) rfl ?_
  refine k_iload (pc := 377) C 1 rfl dL_law_377 ?_
  refine k_icmp_eq (pc := 379) (tgt := 384) C dL_law_379 (by decide) (fun _ => ?_) (fun q => absurd hth q)
  refine k_iload (pc := 384) C 1 rfl dL_law_384 ?_
  refine k_if_ne (pc := 386) (tgt := 401) C dL_law_386 (by decide) (fun _ => k_goto (pc := 401) (tgt := 1809) C (by decide) dL_law_401 (k_lpick (lv2 := [(5, .int (nI n)), (4, .ref oD), (3, .ref o), (2, .ref (v 0)), (1, .ref b), (0, .ref sb)]) [2, 3, 4, 5, 6, 7] rfl (hk X2 Y2 fo2 hR2))) (fun h0 => ?_)
  refine k_aload_n (pc := 389) C rfl 4 rfl dL_law_389 ?_
  refine k_iconst (pc := 390) C iconst_0 dL_law_390 ?_
  refine k_laldK (pc := 391) (v := (a_setPoints M (xs (n + 1)) (xs (n + 2))).toInt64) C 7 1 rfl rfl (k_vinc 0 cl_0 (by decide) (by decide)) cl_0 (hout h0) dL_law_391 ?_
  refine k_iload (pc := 392) C 0 rfl dL_law_392 ?_
  refine k_i2l (pc := 394) C dL_law_394 ?_
  exact k_lcmp_eq (pc := 395) (tgt := 401) C dL_law_395 dL_law_396 (by decide) (fun _ => k_goto (pc := 401) (tgt := 1809) C (by decide) dL_law_401 (k_lpick (lv2 := [(5, .int (nI n)), (4, .ref oD), (3, .ref o), (2, .ref (v 0)), (1, .ref b), (0, .ref sb)]) [2, 3, 4, 5, 6, 7] rfl (hk X2 Y2 fo2 hR2))) (fun q => absurd rfl q)
def q_door (M : kMS) (p0 : Int32) : kMS := ((s_X11_door M.1 M.2.1 M.2.2.1 p0).2.1, (s_X11_door M.1 M.2.1 M.2.2.1 p0).2.2.1, (s_X11_door M.1 M.2.1 M.2.2.1 p0).2.2.2, M.2.2.2.1, M.2.2.2.2.1, M.2.2.2.2.2)
def a_door (M : kMS) (p0 : Int32) : Int32 := (s_X11_door M.1 M.2.1 M.2.2.1 p0).1
theorem cwW_L_door : Cond.codeWith yL_door cL_door 4 (some .int) [(0, 9, 12, 24)] ∈ lw_all ∧ Cond.initialized yL_door.cls ∈ lw_all ∧ Cond.static yL_door ∈ lw_all ∧ (yL_door.cls ≠ "java/lang/invoke/MethodHandle" ∧ yL_door.cls ≠ "java/lang/invoke/VarHandle" ∧ (parseMethodDescriptor yL_door.desc).map (fun d => d.parameters.length) = some 3) := ⟨q_659, q_40, q_658, by decide +kernel⟩
set_option maxRecDepth 100000 in
set_option maxHeartbeats 8000000 in
theorem law_3 {p : Program} {l : Launch} {e : Env} {s : State} {m : MethodId} {args : Array Value} {below : List Frame} {meth : Method} {c : Code} {cells slots : Nat} {Q : State → Prop} {D : va_G} {A : Nat → Prop} {ret : Option FieldType} {cI cJ cO cD : ClassId} {z : zT} {sb L b o oD n : Nat} {u v : Nat → Nat} {xs : Nat → Int32} (C4 : KC p s m args meth c cL_law 9 RL ret D (kT4 cI cJ cO cD) A) (hZ : kZ z A s s.heap) (hX : va_X sb L xs s s.heap) (hbl : sb < s.heap.size) (hbA : ¬ A sb) (hL : L ≤ 2560) (hn : n + 5 ≤ L) (hc : cells + 26 ≤ room_1.cells ∧ slots + 331 ≤ room_1.slots) {X : kXS} {Y : kTS} {M : kMS} {fo : Nat → Int64} {fd : Nat → UInt64} {R : kXS → kTS → kMS → Prop} (hs : lStep l D cI cJ cO z yL_door cL_door 4 [(0, 9, 12, 24)] [.ref b, .int (bz (xs (n + 1))), .ref o] b o u X Y fo (a_door M (bz (xs (n + 1)))) ((q_door M (bz (xs (n + 1)))).1 7) (fun X2 Y2 => R X2 Y2 (q_door M (bz (xs (n + 1)))))) (hf_t_5 : kIn (M.1 5) 0 6) (hf_t_w_46 : kInL (M.2.1 46) 0 24) (hk : ∀ (X2 : kXS) (Y2 : kTS) (fo2 : Nat → Int64), R X2 Y2 (q_door M (bz (xs (n + 1)))) → KJ p l e room_1 s m args below meth c (cells + 26) (slots + 331) Q D A 9 (lawW cI cJ cO cD b o oD u v X2 Y2 (q_door M (bz (xs (n + 1)))) fo2 fd) [(5, .int (nI n)), (4, .ref oD), (3, .ref o), (2, .ref (v 0)), (1, .ref b), (0, .ref sb)] [] 1809) : KJ p l e room_1 s m args below meth c cells slots Q D A 9 (lawW cI cJ cO cD b o oD u v X Y M fo fd) [(5, .int (nI n)), (4, .ref oD), (3, .ref o), (2, .ref (v 0)), (1, .ref b), (0, .ref sb)] [] 404 := by
  have C := KC.t4 C4
  refine k_aload_n (pc := 404) C rfl 4 rfl dL_law_404 ?_
  refine k_aload_n (pc := 405) C rfl 5 rfl dL_law_405 ?_
  refine k_iload (pc := 406) C 0 rfl dL_law_406 ?_
  refine k_iconst (pc := 408) C iconst_1 dL_law_408 ?_
  refine k_iadd (pc := 409) C dL_law_409 ?_
  refine k_sld (pc := 410) (k := n + 1) C hX hbl hbA ((nI_succ n).symm) (by omega) hL dL_law_410 ?_
  refine k_bz (pc := 411) C dL_law_411 dL_law_414 dL_law_415 dL_law_418 ?_
  refine k_aload_n (pc := 419) C rfl 2 rfl dL_law_419 ?_
  refine k_lstep (pc := 420) (As := [.ref b, .int (bz (xs (n + 1))), .ref o]) (rest := []) C hZ hs cwW_L_door q_657 rfl (Nat.le_of_ble_eq_true rfl) ⟨Nat.le_of_ble_eq_true rfl, Nat.le_of_ble_eq_true rfl⟩ rfl hc dL_law_420 (fun rt X2 Y2 fo2 hth hout hR2 => ?_)
  refine k_istore (pc := 423) (lv2 := [(6, .int rt), (5, .int (nI n)), (4, .ref oD), (3, .ref o), (2, .ref (v 0)), (1, .ref b), (0, .ref sb)]) C (by decide) rfl dL_law_423 ?_
  refine k_aload_n (pc := 425) C rfl 4 rfl dL_law_425 ?_
  refine k_aload_n (pc := 426) C rfl 6 rfl dL_law_426 ?_
  refine k_iload (pc := 427) C 1 rfl dL_law_427 ?_
  refine k_iconst (pc := 429) C iconst_1 dL_law_429 ?_
  refine k_iadd (pc := 430) C dL_law_430 ?_
  refine k_sld (pc := 431) (k := n + 1) C hX hbl hbA ((nI_succ n).symm) (by omega) hL dL_law_431 ?_
  refine k_bz (pc := 432) C dL_law_432 dL_law_435 dL_law_436 dL_law_439 ?_
  refine k_show (ws2 := [(v 0, moE M.1 (v 1) (v 2) (v 3) (v 4) (v 5)), (v 1, jA cJ 294 M.2.1), (v 2, jA cJ 1764 M.2.2.1), (v 3, jA cJ 294 M.2.2.2.1), (v 4, iA cI 90 M.2.2.2.2.1), (v 5, iA cI 48 M.2.2.2.2.2), (oD, dA cD 1 fd)] ++ (xwW cI cJ cO b o u X2 Y2 fo2 ++ kTl cI Y2)) rfl ?_
  refine k_callVi (pc := 440) (As := [.int (bz (xs (n + 1)))]) (rest := []) (r := a_door M (bz (xs (n + 1)))) (wc := [(v 0, moE M.1 (v 1) (v 2) (v 3) (v 4) (v 5)), (v 1, jA cJ 294 M.2.1), (v 2, jA cJ 1764 M.2.2.1)]) (wc2 := [(v 0, moE (q_door M (bz (xs (n + 1)))).1 (v 1) (v 2) (v 3) (v 4) (v 5)), (v 1, jA cJ 294 (q_door M (bz (xs (n + 1)))).2.1), (v 2, jA cJ 1764 (q_door M (bz (xs (n + 1)))).2.2.1)]) (ws2 := [(v 0, moE (q_door M (bz (xs (n + 1)))).1 (v 1) (v 2) (v 3) (v 4) (v 5)), (v 1, jA cJ 294 (q_door M (bz (xs (n + 1)))).2.1), (v 2, jA cJ 1764 (q_door M (bz (xs (n + 1)))).2.2.1), (v 3, jA cJ 294 M.2.2.2.1), (v 4, iA cI 90 M.2.2.2.2.1), (v 5, iA cI 48 M.2.2.2.2.2), (oD, dA cD 1 fd)] ++ (xwW cI cJ cO b o u X2 Y2 fo2 ++ kTl cI Y2)) C (c_X11_door l D cI cJ cO (v 0) (v 1) (v 2) (v 3) (v 4) (v 5) M.1 M.2.1 M.2.2.1 (bz (xs (n + 1))) hf_t_5 hf_t_w_46) cwv_X11_door q_1089 vX11 0 rfl [0, 1, 2] (kmap_app rfl) rfl (by decide) (kput_app (wc := [(v 0, moE M.1 (v 1) (v 2) (v 3) (v 4) (v 5)), (v 1, jA cJ 294 M.2.1), (v 2, jA cJ 1764 M.2.2.1)]) rfl rfl) rfl (Nat.le_of_ble_eq_true rfl) ⟨Nat.le_of_ble_eq_true rfl, Nat.le_of_ble_eq_true rfl⟩ rfl ⟨hc.1, hc.2⟩ dL_law_440 ?_
  refine k_show (ws2 := lawW cI cJ cO cD b o oD u v X2 Y2 (q_door M (bz (xs (n + 1)))) fo2 fd) rfl ?_
  refine k_istore (pc := 443) (lv2 := [(7, .int (a_door M (bz (xs (n + 1))))), (6, .int rt), (5, .int (nI n)), (4, .ref oD), (3, .ref o), (2, .ref (v 0)), (1, .ref b), (0, .ref sb)]) C (by decide) rfl dL_law_443 ?_
  refine k_aload_n (pc := 445) C rfl 5 rfl dL_law_445 ?_
  refine k_show (ws2 := [(v 0, moE (q_door M (bz (xs (n + 1)))).1 (v 1) (v 2) (v 3) (v 4) (v 5)), (v 1, jA cJ 294 (q_door M (bz (xs (n + 1)))).2.1), (v 2, jA cJ 1764 (q_door M (bz (xs (n + 1)))).2.2.1), (v 3, jA cJ 294 (q_door M (bz (xs (n + 1)))).2.2.2.1), (v 4, iA cI 90 (q_door M (bz (xs (n + 1)))).2.2.2.2.1), (v 5, iA cI 48 (q_door M (bz (xs (n + 1)))).2.2.2.2.2), (oD, dA cD 1 fd)] ++ (xwW cI cJ cO b o u X2 Y2 fo2 ++ kTl cI Y2)) rfl ?_
  refine k_callVi (pc := 446) (As := []) (rest := []) (r := (q_door M (bz (xs (n + 1)))).1 7) (wc := [(v 0, moE (q_door M (bz (xs (n + 1)))).1 (v 1) (v 2) (v 3) (v 4) (v 5))]) (wc2 := [(v 0, moE (q_door M (bz (xs (n + 1)))).1 (v 1) (v 2) (v 3) (v 4) (v 5))]) (ws2 := [(v 0, moE (q_door M (bz (xs (n + 1)))).1 (v 1) (v 2) (v 3) (v 4) (v 5)), (v 1, jA cJ 294 (q_door M (bz (xs (n + 1)))).2.1), (v 2, jA cJ 1764 (q_door M (bz (xs (n + 1)))).2.2.1), (v 3, jA cJ 294 (q_door M (bz (xs (n + 1)))).2.2.2.1), (v 4, iA cI 90 (q_door M (bz (xs (n + 1)))).2.2.2.2.1), (v 5, iA cI 48 (q_door M (bz (xs (n + 1)))).2.2.2.2.2), (oD, dA cD 1 fd)] ++ (xwW cI cJ cO b o u X2 Y2 fo2 ++ kTl cI Y2)) C (c_X11_thrown l D cI cJ cO (v 0) (v 1) (v 2) (v 3) (v 4) (v 5) (q_door M (bz (xs (n + 1)))).1) cwv_X11_thrown q_1042 vX11 0 rfl [0] (kmap_app rfl) rfl (by decide) (kput_app (wc := [(v 0, moE (q_door M (bz (xs (n + 1)))).1 (v 1) (v 2) (v 3) (v 4) (v 5))]) rfl rfl) rfl (Nat.le_of_ble_eq_true rfl) ⟨Nat.le_of_ble_eq_true rfl, Nat.le_of_ble_eq_true rfl⟩ rfl ⟨hc.1, hc.2⟩ dL_law_446 ?_
  refine k_show (ws2 := lawW cI cJ cO cD b o oD u v X2 Y2 (q_door M (bz (xs (n + 1)))) fo2 fd) rfl ?_
  refine k_iload (pc := 449) C 1 rfl dL_law_449 ?_
  refine k_icmp_eq (pc := 451) (tgt := 456) C dL_law_451 (by decide) (fun _ => ?_) (fun q => absurd hth q)
  refine k_iload (pc := 456) C 1 rfl dL_law_456 ?_
  refine k_if_ne (pc := 458) (tgt := 473) C dL_law_458 (by decide) (fun _ => k_goto (pc := 473) (tgt := 1809) C (by decide) dL_law_473 (k_lpick (lv2 := [(5, .int (nI n)), (4, .ref oD), (3, .ref o), (2, .ref (v 0)), (1, .ref b), (0, .ref sb)]) [2, 3, 4, 5, 6, 7] rfl (hk X2 Y2 fo2 hR2))) (fun h0 => ?_)
  refine k_aload_n (pc := 461) C rfl 4 rfl dL_law_461 ?_
  refine k_iconst (pc := 462) C iconst_0 dL_law_462 ?_
  refine k_laldK (pc := 463) (v := (a_door M (bz (xs (n + 1)))).toInt64) C 7 1 rfl rfl (k_vinc 0 cl_0 (by decide) (by decide)) cl_0 (hout h0) dL_law_463 ?_
  refine k_iload (pc := 464) C 0 rfl dL_law_464 ?_
  refine k_i2l (pc := 466) C dL_law_466 ?_
  exact k_lcmp_eq (pc := 467) (tgt := 473) C dL_law_467 dL_law_468 (by decide) (fun _ => k_goto (pc := 473) (tgt := 1809) C (by decide) dL_law_473 (k_lpick (lv2 := [(5, .int (nI n)), (4, .ref oD), (3, .ref o), (2, .ref (v 0)), (1, .ref b), (0, .ref sb)]) [2, 3, 4, 5, 6, 7] rfl (hk X2 Y2 fo2 hR2))) (fun q => absurd rfl q)
def q_pass (M : kMS) (p0 : Int32) : kMS := ((s_X11_pass M.1 M.2.1 M.2.2.1 p0).2.1, (s_X11_pass M.1 M.2.1 M.2.2.1 p0).2.2.1, (s_X11_pass M.1 M.2.1 M.2.2.1 p0).2.2.2, M.2.2.2.1, M.2.2.2.2.1, M.2.2.2.2.2)
def a_pass (M : kMS) (p0 : Int32) : Int32 := (s_X11_pass M.1 M.2.1 M.2.2.1 p0).1
theorem cwW_L_pass : Cond.codeWith yL_pass cL_pass 4 (some .int) [(0, 9, 12, 15), (0, 9, 15, 24)] ∈ lw_all ∧ Cond.initialized yL_pass.cls ∈ lw_all ∧ Cond.static yL_pass ∈ lw_all ∧ (yL_pass.cls ≠ "java/lang/invoke/MethodHandle" ∧ yL_pass.cls ≠ "java/lang/invoke/VarHandle" ∧ (parseMethodDescriptor yL_pass.desc).map (fun d => d.parameters.length) = some 3) := ⟨q_675, q_40, q_674, by decide +kernel⟩
set_option maxRecDepth 100000 in
set_option maxHeartbeats 8000000 in
theorem law_4 {p : Program} {l : Launch} {e : Env} {s : State} {m : MethodId} {args : Array Value} {below : List Frame} {meth : Method} {c : Code} {cells slots : Nat} {Q : State → Prop} {D : va_G} {A : Nat → Prop} {ret : Option FieldType} {cI cJ cO cD : ClassId} {z : zT} {sb L b o oD n : Nat} {u v : Nat → Nat} {xs : Nat → Int32} (C4 : KC p s m args meth c cL_law 9 RL ret D (kT4 cI cJ cO cD) A) (hZ : kZ z A s s.heap) (hX : va_X sb L xs s s.heap) (hbl : sb < s.heap.size) (hbA : ¬ A sb) (hL : L ≤ 2560) (hn : n + 5 ≤ L) (hc : cells + 26 ≤ room_1.cells ∧ slots + 331 ≤ room_1.slots) {X : kXS} {Y : kTS} {M : kMS} {fo : Nat → Int64} {fd : Nat → UInt64} {R : kXS → kTS → kMS → Prop} (hs : lStep l D cI cJ cO z yL_pass cL_pass 4 [(0, 9, 12, 15), (0, 9, 15, 24)] [.ref b, .int (xs (n + 1)), .ref o] b o u X Y fo (a_pass M (xs (n + 1))) ((q_pass M (xs (n + 1))).1 7) (fun X2 Y2 => R X2 Y2 (q_pass M (xs (n + 1))))) (hf_t_5 : kIn (M.1 5) 0 6) (P : (Nat → Int64) → Prop) (hPM : ∀ (f : Nat → Int32) (w : Nat → Int64), P w → kMI f w) (hPs : ∀ (f : Nat → Int32) (w : Nat → Int64), P w → P (s_X11_minute f w)) (hP0 : P M.2.1) (hk : ∀ (X2 : kXS) (Y2 : kTS) (fo2 : Nat → Int64), R X2 Y2 (q_pass M (xs (n + 1))) → KJ p l e room_1 s m args below meth c (cells + 26) (slots + 331) Q D A 9 (lawW cI cJ cO cD b o oD u v X2 Y2 (q_pass M (xs (n + 1))) fo2 fd) [(5, .int (nI n)), (4, .ref oD), (3, .ref o), (2, .ref (v 0)), (1, .ref b), (0, .ref sb)] [] 1809) : KJ p l e room_1 s m args below meth c cells slots Q D A 9 (lawW cI cJ cO cD b o oD u v X Y M fo fd) [(5, .int (nI n)), (4, .ref oD), (3, .ref o), (2, .ref (v 0)), (1, .ref b), (0, .ref sb)] [] 476 := by
  have C := KC.t4 C4
  refine k_aload_n (pc := 476) C rfl 4 rfl dL_law_476 ?_
  refine k_aload_n (pc := 477) C rfl 5 rfl dL_law_477 ?_
  refine k_iload (pc := 478) C 0 rfl dL_law_478 ?_
  refine k_iconst (pc := 480) C iconst_1 dL_law_480 ?_
  refine k_iadd (pc := 481) C dL_law_481 ?_
  refine k_sld (pc := 482) (k := n + 1) C hX hbl hbA ((nI_succ n).symm) (by omega) hL dL_law_482 ?_
  refine k_aload_n (pc := 483) C rfl 2 rfl dL_law_483 ?_
  refine k_lstep (pc := 484) (As := [.ref b, .int (xs (n + 1)), .ref o]) (rest := []) C hZ hs cwW_L_pass q_673 rfl (Nat.le_of_ble_eq_true rfl) ⟨Nat.le_of_ble_eq_true rfl, Nat.le_of_ble_eq_true rfl⟩ rfl hc dL_law_484 (fun rt X2 Y2 fo2 hth hout hR2 => ?_)
  refine k_istore (pc := 487) (lv2 := [(6, .int rt), (5, .int (nI n)), (4, .ref oD), (3, .ref o), (2, .ref (v 0)), (1, .ref b), (0, .ref sb)]) C (by decide) rfl dL_law_487 ?_
  refine k_aload_n (pc := 489) C rfl 4 rfl dL_law_489 ?_
  refine k_aload_n (pc := 490) C rfl 6 rfl dL_law_490 ?_
  refine k_iload (pc := 491) C 1 rfl dL_law_491 ?_
  refine k_iconst (pc := 493) C iconst_1 dL_law_493 ?_
  refine k_iadd (pc := 494) C dL_law_494 ?_
  refine k_sld (pc := 495) (k := n + 1) C hX hbl hbA ((nI_succ n).symm) (by omega) hL dL_law_495 ?_
  refine k_show (ws2 := [(v 0, moE M.1 (v 1) (v 2) (v 3) (v 4) (v 5)), (v 1, jA cJ 294 M.2.1), (v 2, jA cJ 1764 M.2.2.1), (v 3, jA cJ 294 M.2.2.2.1), (v 4, iA cI 90 M.2.2.2.2.1), (v 5, iA cI 48 M.2.2.2.2.2), (oD, dA cD 1 fd)] ++ (xwW cI cJ cO b o u X2 Y2 fo2 ++ kTl cI Y2)) rfl ?_
  refine k_callVi (pc := 496) (As := [.int (xs (n + 1))]) (rest := []) (r := a_pass M (xs (n + 1))) (wc := [(v 0, moE M.1 (v 1) (v 2) (v 3) (v 4) (v 5)), (v 1, jA cJ 294 M.2.1), (v 2, jA cJ 1764 M.2.2.1)]) (wc2 := [(v 0, moE (q_pass M (xs (n + 1))).1 (v 1) (v 2) (v 3) (v 4) (v 5)), (v 1, jA cJ 294 (q_pass M (xs (n + 1))).2.1), (v 2, jA cJ 1764 (q_pass M (xs (n + 1))).2.2.1)]) (ws2 := [(v 0, moE (q_pass M (xs (n + 1))).1 (v 1) (v 2) (v 3) (v 4) (v 5)), (v 1, jA cJ 294 (q_pass M (xs (n + 1))).2.1), (v 2, jA cJ 1764 (q_pass M (xs (n + 1))).2.2.1), (v 3, jA cJ 294 M.2.2.2.1), (v 4, iA cI 90 M.2.2.2.2.1), (v 5, iA cI 48 M.2.2.2.2.2), (oD, dA cD 1 fd)] ++ (xwW cI cJ cO b o u X2 Y2 fo2 ++ kTl cI Y2)) C (c_X11_pass l D cI cJ cO (v 0) (v 1) (v 2) (v 3) (v 4) (v 5) M.1 M.2.1 M.2.2.1 (xs (n + 1)) hf_t_5 P hPM hPs hP0) cwv_X11_pass q_1099 vX11 0 rfl [0, 1, 2] (kmap_app rfl) rfl (by decide) (kput_app (wc := [(v 0, moE M.1 (v 1) (v 2) (v 3) (v 4) (v 5)), (v 1, jA cJ 294 M.2.1), (v 2, jA cJ 1764 M.2.2.1)]) rfl rfl) rfl (Nat.le_of_ble_eq_true rfl) ⟨Nat.le_of_ble_eq_true rfl, Nat.le_of_ble_eq_true rfl⟩ rfl ⟨hc.1, hc.2⟩ dL_law_496 ?_
  refine k_show (ws2 := lawW cI cJ cO cD b o oD u v X2 Y2 (q_pass M (xs (n + 1))) fo2 fd) rfl ?_
  refine k_istore (pc := 499) (lv2 := [(7, .int (a_pass M (xs (n + 1)))), (6, .int rt), (5, .int (nI n)), (4, .ref oD), (3, .ref o), (2, .ref (v 0)), (1, .ref b), (0, .ref sb)]) C (by decide) rfl dL_law_499 ?_
  refine k_aload_n (pc := 501) C rfl 5 rfl dL_law_501 ?_
  refine k_show (ws2 := [(v 0, moE (q_pass M (xs (n + 1))).1 (v 1) (v 2) (v 3) (v 4) (v 5)), (v 1, jA cJ 294 (q_pass M (xs (n + 1))).2.1), (v 2, jA cJ 1764 (q_pass M (xs (n + 1))).2.2.1), (v 3, jA cJ 294 (q_pass M (xs (n + 1))).2.2.2.1), (v 4, iA cI 90 (q_pass M (xs (n + 1))).2.2.2.2.1), (v 5, iA cI 48 (q_pass M (xs (n + 1))).2.2.2.2.2), (oD, dA cD 1 fd)] ++ (xwW cI cJ cO b o u X2 Y2 fo2 ++ kTl cI Y2)) rfl ?_
  refine k_callVi (pc := 502) (As := []) (rest := []) (r := (q_pass M (xs (n + 1))).1 7) (wc := [(v 0, moE (q_pass M (xs (n + 1))).1 (v 1) (v 2) (v 3) (v 4) (v 5))]) (wc2 := [(v 0, moE (q_pass M (xs (n + 1))).1 (v 1) (v 2) (v 3) (v 4) (v 5))]) (ws2 := [(v 0, moE (q_pass M (xs (n + 1))).1 (v 1) (v 2) (v 3) (v 4) (v 5)), (v 1, jA cJ 294 (q_pass M (xs (n + 1))).2.1), (v 2, jA cJ 1764 (q_pass M (xs (n + 1))).2.2.1), (v 3, jA cJ 294 (q_pass M (xs (n + 1))).2.2.2.1), (v 4, iA cI 90 (q_pass M (xs (n + 1))).2.2.2.2.1), (v 5, iA cI 48 (q_pass M (xs (n + 1))).2.2.2.2.2), (oD, dA cD 1 fd)] ++ (xwW cI cJ cO b o u X2 Y2 fo2 ++ kTl cI Y2)) C (c_X11_thrown l D cI cJ cO (v 0) (v 1) (v 2) (v 3) (v 4) (v 5) (q_pass M (xs (n + 1))).1) cwv_X11_thrown q_1042 vX11 0 rfl [0] (kmap_app rfl) rfl (by decide) (kput_app (wc := [(v 0, moE (q_pass M (xs (n + 1))).1 (v 1) (v 2) (v 3) (v 4) (v 5))]) rfl rfl) rfl (Nat.le_of_ble_eq_true rfl) ⟨Nat.le_of_ble_eq_true rfl, Nat.le_of_ble_eq_true rfl⟩ rfl ⟨hc.1, hc.2⟩ dL_law_502 ?_
  refine k_show (ws2 := lawW cI cJ cO cD b o oD u v X2 Y2 (q_pass M (xs (n + 1))) fo2 fd) rfl ?_
  refine k_iload (pc := 505) C 1 rfl dL_law_505 ?_
  refine k_icmp_eq (pc := 507) (tgt := 512) C dL_law_507 (by decide) (fun _ => ?_) (fun q => absurd hth q)
  refine k_iload (pc := 512) C 1 rfl dL_law_512 ?_
  refine k_if_ne (pc := 514) (tgt := 529) C dL_law_514 (by decide) (fun _ => k_goto (pc := 529) (tgt := 1809) C (by decide) dL_law_529 (k_lpick (lv2 := [(5, .int (nI n)), (4, .ref oD), (3, .ref o), (2, .ref (v 0)), (1, .ref b), (0, .ref sb)]) [2, 3, 4, 5, 6, 7] rfl (hk X2 Y2 fo2 hR2))) (fun h0 => ?_)
  refine k_aload_n (pc := 517) C rfl 4 rfl dL_law_517 ?_
  refine k_iconst (pc := 518) C iconst_0 dL_law_518 ?_
  refine k_laldK (pc := 519) (v := (a_pass M (xs (n + 1))).toInt64) C 7 1 rfl rfl (k_vinc 0 cl_0 (by decide) (by decide)) cl_0 (hout h0) dL_law_519 ?_
  refine k_iload (pc := 520) C 0 rfl dL_law_520 ?_
  refine k_i2l (pc := 522) C dL_law_522 ?_
  exact k_lcmp_eq (pc := 523) (tgt := 529) C dL_law_523 dL_law_524 (by decide) (fun _ => k_goto (pc := 529) (tgt := 1809) C (by decide) dL_law_529 (k_lpick (lv2 := [(5, .int (nI n)), (4, .ref oD), (3, .ref o), (2, .ref (v 0)), (1, .ref b), (0, .ref sb)]) [2, 3, 4, 5, 6, 7] rfl (hk X2 Y2 fo2 hR2))) (fun q => absurd rfl q)