theorem q_407 : Cond.methodLink RL 164 yX10_auditCode ∈ lw_all := kq 407 (by decide +kernel) (by decide +kernel)
theorem q_408 : Cond.instanceMethod yX10_auditCode ∈ lw_all := kq 408 (by decide +kernel) (by decide +kernel)
theorem q_409 : Cond.selects RX10 yX10_auditCode yX10_auditCode ∈ lw_all := kq 409 (by decide +kernel) (by decide +kernel)
theorem q_410 : Cond.code yX10_auditCode cX10_auditCode 1 (some .long) ∈ lw_all := kq 410 (by decide +kernel) (by decide +kernel)
theorem q_875 : Cond.methodLink RL 158 yL_result ∈ lw_all := kq 875 (by decide +kernel) (by decide +kernel)
theorem q_876 : Cond.static yL_result ∈ lw_all := kq 876 (by decide +kernel) (by decide +kernel)
theorem q_877 : Cond.codeWith yL_result cL_result 5 (some .int) [(0, 10, 13, 15)] ∈ lw_all := kq 877 (by decide +kernel) (by decide +kernel)
theorem q_891 : Cond.methodLink RL 161 yL_audit ∈ lw_all := kq 891 (by decide +kernel) (by decide +kernel)
theorem q_892 : Cond.static yL_audit ∈ lw_all := kq 892 (by decide +kernel) (by decide +kernel)
theorem q_893 : Cond.codeWith yL_audit cL_audit 5 (some .int) [(0, 10, 13, 15)] ∈ lw_all := kq 893 (by decide +kernel) (by decide +kernel)
theorem q_903 : Cond.methodLink RL 169 yL_history ∈ lw_all := kq 903 (by decide +kernel) (by decide +kernel)
theorem q_904 : Cond.static yL_history ∈ lw_all := kq 904 (by decide +kernel) (by decide +kernel)
theorem q_905 : Cond.codeWith yL_history cL_history 4 (some .int) [(0, 9, 12, 15)] ∈ lw_all := kq 905 (by decide +kernel) (by decide +kernel)
theorem q_911 : Cond.methodLink RL 172 yL_spread ∈ lw_all := kq 911 (by decide +kernel) (by decide +kernel)
theorem q_912 : Cond.static yL_spread ∈ lw_all := kq 912 (by decide +kernel) (by decide +kernel)
theorem q_913 : Cond.codeWith yL_spread cL_spread 4 (some .int) [(0, 9, 12, 15)] ∈ lw_all := kq 913 (by decide +kernel) (by decide +kernel)
theorem q_1217 : Cond.methodLink RL 160 yX11_result ∈ lw_all := kq 1217 (by decide +kernel) (by decide +kernel)
theorem q_1218 : Cond.instanceMethod yX11_result ∈ lw_all := kq 1218 (by decide +kernel) (by decide +kernel)
theorem q_1219 : Cond.selects RX11 yX11_result yX11_result ∈ lw_all := kq 1219 (by decide +kernel) (by decide +kernel)
theorem q_1220 : Cond.code yX11_result cX11_result 3 (some .int) ∈ lw_all := kq 1220 (by decide +kernel) (by decide +kernel)
theorem q_1221 : Cond.methodLink RL 163 yX11_audit ∈ lw_all := kq 1221 (by decide +kernel) (by decide +kernel)
theorem q_1222 : Cond.instanceMethod yX11_audit ∈ lw_all := kq 1222 (by decide +kernel) (by decide +kernel)
theorem q_1223 : Cond.selects RX11 yX11_audit yX11_audit ∈ lw_all := kq 1223 (by decide +kernel) (by decide +kernel)
theorem q_1224 : Cond.code yX11_audit cX11_audit 3 (some .int) ∈ lw_all := kq 1224 (by decide +kernel) (by decide +kernel)
theorem q_1225 : Cond.methodLink RL 168 yX11_auditCode ∈ lw_all := kq 1225 (by decide +kernel) (by decide +kernel)
theorem q_1226 : Cond.instanceMethod yX11_auditCode ∈ lw_all := kq 1226 (by decide +kernel) (by decide +kernel)
theorem q_1227 : Cond.selects RX11 yX11_auditCode yX11_auditCode ∈ lw_all := kq 1227 (by decide +kernel) (by decide +kernel)
theorem q_1228 : Cond.code yX11_auditCode cX11_auditCode 1 (some .long) ∈ lw_all := kq 1228 (by decide +kernel) (by decide +kernel)
theorem q_1229 : Cond.methodLink RL 171 yX11_history ∈ lw_all := kq 1229 (by decide +kernel) (by decide +kernel)
theorem q_1230 : Cond.instanceMethod yX11_history ∈ lw_all := kq 1230 (by decide +kernel) (by decide +kernel)
theorem q_1231 : Cond.selects RX11 yX11_history yX11_history ∈ lw_all := kq 1231 (by decide +kernel) (by decide +kernel)
theorem q_1232 : Cond.code yX11_history cX11_history 2 (some .int) ∈ lw_all := kq 1232 (by decide +kernel) (by decide +kernel)
theorem q_1233 : Cond.methodLink RL 174 yX11_spread ∈ lw_all := kq 1233 (by decide +kernel) (by decide +kernel)
theorem q_1234 : Cond.instanceMethod yX11_spread ∈ lw_all := kq 1234 (by decide +kernel) (by decide +kernel)
theorem q_1235 : Cond.selects RX11 yX11_spread yX11_spread ∈ lw_all := kq 1235 (by decide +kernel) (by decide +kernel)
theorem q_1236 : Cond.code yX11_spread cX11_spread 9 (some .int) ∈ lw_all := kq 1236 (by decide +kernel) (by decide +kernel)
theorem cwv_X10_auditCode : kCWv yX10_auditCode cX10_auditCode 1 (some .long) 0 := ⟨⟨q_410, q_41, by decide +kernel⟩, q_408, q_409⟩
theorem cwv_X11_audit : kCWv yX11_audit cX11_audit 3 (some .int) 2 := ⟨⟨q_1224, q_53, by decide +kernel⟩, q_1222, q_1223⟩
theorem cwv_X11_auditCode : kCWv yX11_auditCode cX11_auditCode 1 (some .long) 0 := ⟨⟨q_1228, q_53, by decide +kernel⟩, q_1226, q_1227⟩
theorem cwv_X11_history : kCWv yX11_history cX11_history 2 (some .int) 1 := ⟨⟨q_1232, q_53, by decide +kernel⟩, q_1230, q_1231⟩
theorem cwv_X11_result : kCWv yX11_result cX11_result 3 (some .int) 2 := ⟨⟨q_1220, q_53, by decide +kernel⟩, q_1218, q_1219⟩
theorem cwv_X11_spread : kCWv yX11_spread cX11_spread 9 (some .int) 1 := ⟨⟨q_1236, q_53, by decide +kernel⟩, q_1234, q_1235⟩
def q_result (M : kMS) (p0 : Int32) (p1 : Int32) : kMS := ((s_X11_result M.1 M.2.1 p0 p1).2, M.2.1, M.2.2.1, M.2.2.2.1, M.2.2.2.2.1, M.2.2.2.2.2)
def a_result (M : kMS) (p0 : Int32) (p1 : Int32) : Int32 := (s_X11_result M.1 M.2.1 p0 p1).1
theorem cwW_L_result : Cond.codeWith yL_result cL_result 5 (some .int) [(0, 10, 13, 15)] ∈ lw_all ∧ Cond.initialized yL_result.cls ∈ lw_all ∧ Cond.static yL_result ∈ lw_all ∧ (yL_result.cls ≠ "java/lang/invoke/MethodHandle" ∧ yL_result.cls ≠ "java/lang/invoke/VarHandle" ∧ (parseMethodDescriptor yL_result.desc).map (fun d => d.parameters.length) = some 4) := ⟨q_877, q_40, q_876, by decide +kernel⟩
set_option maxRecDepth 100000 in
set_option maxHeartbeats 8000000 in
theorem law_15 {p : Program} {l : Launch} {e : Env} {s : State} {m : MethodId} {args : Array Value} {below : List Frame} {meth : Method} {c : Code} {cells slots : Nat} {Q : State → Prop} {D : va_G} {A : Nat → Prop} {ret : Option FieldType} {cI cJ cO cD : ClassId} {z : zT} {sb L b o oD n : Nat} {u v : Nat → Nat} {xs : Nat → Int32} (C4 : KC p s m args meth c cL_law 9 RL ret D (kT4 cI cJ cO cD) A) (hZ : kZ z A s s.heap) (hX : va_X sb L xs s s.heap) (hbl : sb < s.heap.size) (hbA : ¬ A sb) (hL : L ≤ 2560) (hn : n + 5 ≤ L) (hc : cells + 26 ≤ room_1.cells ∧ slots + 331 ≤ room_1.slots) {X : kXS} {Y : kTS} {M : kMS} {fo : Nat → Int64} {fd : Nat → UInt64} {R : kXS → kTS → kMS → Prop} (hs : lStep l D cI cJ cO z yL_result cL_result 5 [(0, 10, 13, 15)] [.ref b, .int (xs (n + 1)), .int (xs (n + 2)), .ref o] b o u X Y fo (a_result M (xs (n + 1)) (xs (n + 2))) ((q_result M (xs (n + 1)) (xs (n + 2))).1 7) (fun X2 Y2 => R X2 Y2 (q_result M (xs (n + 1)) (xs (n + 2))))) (hf_t_w_45 : kInL (M.2.1 45) 0 16) (hk : ∀ (X2 : kXS) (Y2 : kTS) (fo2 : Nat → Int64), R X2 Y2 (q_result M (xs (n + 1)) (xs (n + 2))) → KJ p l e room_1 s m args below meth c (cells + 26) (slots + 331) Q D A 9 (lawW cI cJ cO cD b o oD u v X2 Y2 (q_result M (xs (n + 1)) (xs (n + 2))) fo2 fd) [(5, .int (nI n)), (4, .ref oD), (3, .ref o), (2, .ref (v 0)), (1, .ref b), (0, .ref sb)] [] 1809) : KJ p l e room_1 s m args below meth c cells slots Q D A 9 (lawW cI cJ cO cD b o oD u v X Y M fo fd) [(5, .int (nI n)), (4, .ref oD), (3, .ref o), (2, .ref (v 0)), (1, .ref b), (0, .ref sb)] [] 1120 := by
  have C := KC.t4 C4
  refine k_aload_n (pc := 1120) C rfl 4 rfl dL_law_1120 ?_
  refine k_aload_n (pc := 1121) C rfl 5 rfl dL_law_1121 ?_
  refine k_iload (pc := 1122) C 0 rfl dL_law_1122 ?_
  refine k_iconst (pc := 1124) C iconst_1 dL_law_1124 ?_
  refine k_iadd (pc := 1125) C dL_law_1125 ?_
  refine k_sld (pc := 1126) (k := n + 1) C hX hbl hbA ((nI_succ n).symm) (by omega) hL dL_law_1126 ?_
  refine k_aload_n (pc := 1127) C rfl 5 rfl dL_law_1127 ?_
  refine k_iload (pc := 1128) C 0 rfl dL_law_1128 ?_
  refine k_iconst (pc := 1130) C iconst_2 dL_law_1130 ?_
  refine k_iadd (pc := 1131) C dL_law_1131 ?_
  refine k_sld (pc := 1132) (k := n + 2) C hX hbl hbA ((nI_2 n)) (by omega) hL dL_law_1132 ?_
  refine k_aload_n (pc := 1133) C rfl 2 rfl dL_law_1133 ?_
  refine k_lstep (pc := 1134) (As := [.ref b, .int (xs (n + 1)), .int (xs (n + 2)), .ref o]) (rest := []) C hZ hs cwW_L_result q_875 rfl (Nat.le_of_ble_eq_true rfl) ⟨Nat.le_of_ble_eq_true rfl, Nat.le_of_ble_eq_true rfl⟩ rfl hc dL_law_1134 (fun rt X2 Y2 fo2 hth hout hR2 => ?_)
  refine k_istore (pc := 1137) (lv2 := [(6, .int rt), (5, .int (nI n)), (4, .ref oD), (3, .ref o), (2, .ref (v 0)), (1, .ref b), (0, .ref sb)]) C (by decide) rfl dL_law_1137 ?_
  refine k_aload_n (pc := 1139) C rfl 4 rfl dL_law_1139 ?_
  refine k_aload_n (pc := 1140) C rfl 6 rfl dL_law_1140 ?_
  refine k_iload (pc := 1141) C 1 rfl dL_law_1141 ?_
  refine k_iconst (pc := 1143) C iconst_1 dL_law_1143 ?_
  refine k_iadd (pc := 1144) C dL_law_1144 ?_
  refine k_sld (pc := 1145) (k := n + 1) C hX hbl hbA ((nI_succ n).symm) (by omega) hL dL_law_1145 ?_
  refine k_aload_n (pc := 1146) C rfl 6 rfl dL_law_1146 ?_
  refine k_iload (pc := 1147) C 1 rfl dL_law_1147 ?_
  refine k_iconst (pc := 1149) C iconst_2 dL_law_1149 ?_
  refine k_iadd (pc := 1150) C dL_law_1150 ?_
  refine k_sld (pc := 1151) (k := n + 2) C hX hbl hbA ((nI_2 n)) (by omega) hL dL_law_1151 ?_
  refine k_show (ws2 := [(v 0, moE M.1 (v 1) (v 2) (v 3) (v 4) (v 5)), (v 1, jA cJ 294 M.2.1), (v 2, jA cJ 1764 M.2.2.1), (v 3, jA cJ 294 M.2.2.2.1), (v 4, iA cI 90 M.2.2.2.2.1), (v 5, iA cI 48 M.2.2.2.2.2), (oD, dA cD 1 fd)] ++ (xwW cI cJ cO b o u X2 Y2 fo2 ++ kTl cI Y2)) rfl ?_
  refine k_callVi (pc := 1152) (As := [.int (xs (n + 1)), .int (xs (n + 2))]) (rest := []) (r := a_result M (xs (n + 1)) (xs (n + 2))) (wc := [(v 0, moE M.1 (v 1) (v 2) (v 3) (v 4) (v 5)), (v 1, jA cJ 294 M.2.1)]) (wc2 := [(v 0, moE (q_result M (xs (n + 1)) (xs (n + 2))).1 (v 1) (v 2) (v 3) (v 4) (v 5)), (v 1, jA cJ 294 (q_result M (xs (n + 1)) (xs (n + 2))).2.1)]) (ws2 := [(v 0, moE (q_result M (xs (n + 1)) (xs (n + 2))).1 (v 1) (v 2) (v 3) (v 4) (v 5)), (v 1, jA cJ 294 (q_result M (xs (n + 1)) (xs (n + 2))).2.1), (v 2, jA cJ 1764 M.2.2.1), (v 3, jA cJ 294 M.2.2.2.1), (v 4, iA cI 90 M.2.2.2.2.1), (v 5, iA cI 48 M.2.2.2.2.2), (oD, dA cD 1 fd)] ++ (xwW cI cJ cO b o u X2 Y2 fo2 ++ kTl cI Y2)) C (c_X11_result l D cI cJ cO (v 0) (v 1) (v 2) (v 3) (v 4) (v 5) M.1 M.2.1 (xs (n + 1)) (xs (n + 2)) hf_t_w_45) cwv_X11_result q_1217 vX11 0 rfl [0, 1] (kmap_app rfl) rfl (by decide) (kput_app (wc := [(v 0, moE M.1 (v 1) (v 2) (v 3) (v 4) (v 5)), (v 1, jA cJ 294 M.2.1)]) rfl rfl) rfl (Nat.le_of_ble_eq_true rfl) ⟨Nat.le_of_ble_eq_true rfl, Nat.le_of_ble_eq_true rfl⟩ rfl ⟨hc.1, hc.2⟩ dL_law_1152 ?_
  refine k_show (ws2 := lawW cI cJ cO cD b o oD u v X2 Y2 (q_result M (xs (n + 1)) (xs (n + 2))) fo2 fd) rfl ?_
  refine k_istore (pc := 1155) (lv2 := [(7, .int (a_result M (xs (n + 1)) (xs (n + 2)))), (6, .int rt), (5, .int (nI n)), (4, .ref oD), (3, .ref o), (2, .ref (v 0)), (1, .ref b), (0, .ref sb)]) C (by decide) rfl dL_law_1155 ?_
  refine k_aload_n (pc := 1157) C rfl 5 rfl dL_law_1157 ?_
  refine k_show (ws2 := [(v 0, moE (q_result M (xs (n + 1)) (xs (n + 2))).1 (v 1) (v 2) (v 3) (v 4) (v 5)), (v 1, jA cJ 294 (q_result M (xs (n + 1)) (xs (n + 2))).2.1), (v 2, jA cJ 1764 (q_result M (xs (n + 1)) (xs (n + 2))).2.2.1), (v 3, jA cJ 294 (q_result M (xs (n + 1)) (xs (n + 2))).2.2.2.1), (v 4, iA cI 90 (q_result M (xs (n + 1)) (xs (n + 2))).2.2.2.2.1), (v 5, iA cI 48 (q_result M (xs (n + 1)) (xs (n + 2))).2.2.2.2.2), (oD, dA cD 1 fd)] ++ (xwW cI cJ cO b o u X2 Y2 fo2 ++ kTl cI Y2)) rfl ?_
  refine k_callVi (pc := 1158) (As := []) (rest := []) (r := (q_result M (xs (n + 1)) (xs (n + 2))).1 7) (wc := [(v 0, moE (q_result M (xs (n + 1)) (xs (n + 2))).1 (v 1) (v 2) (v 3) (v 4) (v 5))]) (wc2 := [(v 0, moE (q_result M (xs (n + 1)) (xs (n + 2))).1 (v 1) (v 2) (v 3) (v 4) (v 5))]) (ws2 := [(v 0, moE (q_result M (xs (n + 1)) (xs (n + 2))).1 (v 1) (v 2) (v 3) (v 4) (v 5)), (v 1, jA cJ 294 (q_result M (xs (n + 1)) (xs (n + 2))).2.1), (v 2, jA cJ 1764 (q_result M (xs (n + 1)) (xs (n + 2))).2.2.1), (v 3, jA cJ 294 (q_result M (xs (n + 1)) (xs (n + 2))).2.2.2.1), (v 4, iA cI 90 (q_result M (xs (n + 1)) (xs (n + 2))).2.2.2.2.1), (v 5, iA cI 48 (q_result M (xs (n + 1)) (xs (n + 2))).2.2.2.2.2), (oD, dA cD 1 fd)] ++ (xwW cI cJ cO b o u X2 Y2 fo2 ++ kTl cI Y2)) C (c_X11_thrown l D cI cJ cO (v 0) (v 1) (v 2) (v 3) (v 4) (v 5) (q_result M (xs (n + 1)) (xs (n + 2))).1) cwv_X11_thrown q_1042 vX11 0 rfl [0] (kmap_app rfl) rfl (by decide) (kput_app (wc := [(v 0, moE (q_result M (xs (n + 1)) (xs (n + 2))).1 (v 1) (v 2) (v 3) (v 4) (v 5))]) rfl rfl) rfl (Nat.le_of_ble_eq_true rfl) ⟨Nat.le_of_ble_eq_true rfl, Nat.le_of_ble_eq_true rfl⟩ rfl ⟨hc.1, hc.2⟩ dL_law_1158 ?_
  refine k_show (ws2 := lawW cI cJ cO cD b o oD u v X2 Y2 (q_result M (xs (n + 1)) (xs (n + 2))) fo2 fd) rfl ?_
  refine k_iload (pc := 1161) C 1 rfl dL_law_1161 ?_
  refine k_icmp_eq (pc := 1163) (tgt := 1168) C dL_law_1163 (by decide) (fun _ => ?_) (fun q => absurd hth q)
  refine k_iload (pc := 1168) C 1 rfl dL_law_1168 ?_
  refine k_if_ne (pc := 1170) (tgt := 1185) C dL_law_1170 (by decide) (fun _ => k_goto (pc := 1185) (tgt := 1809) C (by decide) dL_law_1185 (k_lpick (lv2 := [(5, .int (nI n)), (4, .ref oD), (3, .ref o), (2, .ref (v 0)), (1, .ref b), (0, .ref sb)]) [2, 3, 4, 5, 6, 7] rfl (hk X2 Y2 fo2 hR2))) (fun h0 => ?_)
  refine k_aload_n (pc := 1173) C rfl 4 rfl dL_law_1173 ?_
  refine k_iconst (pc := 1174) C iconst_0 dL_law_1174 ?_
  refine k_laldK (pc := 1175) (v := (a_result M (xs (n + 1)) (xs (n + 2))).toInt64) C 7 1 rfl rfl (k_vinc 0 cl_0 (by decide) (by decide)) cl_0 (hout h0) dL_law_1175 ?_
  refine k_iload (pc := 1176) C 0 rfl dL_law_1176 ?_
  refine k_i2l (pc := 1178) C dL_law_1178 ?_
  exact k_lcmp_eq (pc := 1179) (tgt := 1185) C dL_law_1179 dL_law_1180 (by decide) (fun _ => k_goto (pc := 1185) (tgt := 1809) C (by decide) dL_law_1185 (k_lpick (lv2 := [(5, .int (nI n)), (4, .ref oD), (3, .ref o), (2, .ref (v 0)), (1, .ref b), (0, .ref sb)]) [2, 3, 4, 5, 6, 7] rfl (hk X2 Y2 fo2 hR2))) (fun q => absurd rfl q)
def q_audit (M : kMS) (p0 : Int32) (p1 : Int32) : kMS := ((s_X11_audit M.1 M.2.1 p0 p1).2, M.2.1, M.2.2.1, M.2.2.2.1, M.2.2.2.2.1, M.2.2.2.2.2)
def a_audit (M : kMS) (p0 : Int32) (p1 : Int32) : Int32 := (s_X11_audit M.1 M.2.1 p0 p1).1
theorem cwW_L_audit : Cond.codeWith yL_audit cL_audit 5 (some .int) [(0, 10, 13, 15)] ∈ lw_all ∧ Cond.initialized yL_audit.cls ∈ lw_all ∧ Cond.static yL_audit ∈ lw_all ∧ (yL_audit.cls ≠ "java/lang/invoke/MethodHandle" ∧ yL_audit.cls ≠ "java/lang/invoke/VarHandle" ∧ (parseMethodDescriptor yL_audit.desc).map (fun d => d.parameters.length) = some 4) := ⟨q_893, q_40, q_892, by decide +kernel⟩
set_option maxRecDepth 100000 in
set_option maxHeartbeats 8000000 in
theorem law_16 {p : Program} {l : Launch} {e : Env} {s : State} {m : MethodId} {args : Array Value} {below : List Frame} {meth : Method} {c : Code} {cells slots : Nat} {Q : State → Prop} {D : va_G} {A : Nat → Prop} {ret : Option FieldType} {cI cJ cO cD : ClassId} {z : zT} {sb L b o oD n : Nat} {u v : Nat → Nat} {xs : Nat → Int32} (C4 : KC p s m args meth c cL_law 9 RL ret D (kT4 cI cJ cO cD) A) (hZ : kZ z A s s.heap) (hX : va_X sb L xs s s.heap) (hbl : sb < s.heap.size) (hbA : ¬ A sb) (hL : L ≤ 2560) (hn : n + 5 ≤ L) (hc : cells + 26 ≤ room_1.cells ∧ slots + 331 ≤ room_1.slots) {X : kXS} {Y : kTS} {M : kMS} {fo : Nat → Int64} {fd : Nat → UInt64} {R : kXS → kTS → kMS → Prop} (hs : lStep l D cI cJ cO z yL_audit cL_audit 5 [(0, 10, 13, 15)] [.ref b, .int (xs (n + 1)), .int (xs (n + 2)), .ref o] b o u X Y fo (a_audit M (xs (n + 1)) (xs (n + 2))) ((q_audit M (xs (n + 1)) (xs (n + 2))).1 7) (fun X2 Y2 => R X2 Y2 (q_audit M (xs (n + 1)) (xs (n + 2))))) (hf_t_w_46 : kInL (M.2.1 46) 0 24) (hk : ∀ (X2 : kXS) (Y2 : kTS) (fo2 : Nat → Int64), R X2 Y2 (q_audit M (xs (n + 1)) (xs (n + 2))) → KJ p l e room_1 s m args below meth c (cells + 26) (slots + 331) Q D A 9 (lawW cI cJ cO cD b o oD u v X2 Y2 (q_audit M (xs (n + 1)) (xs (n + 2))) fo2 fd) [(5, .int (nI n)), (4, .ref oD), (3, .ref o), (2, .ref (v 0)), (1, .ref b), (0, .ref sb)] [] 1809) : KJ p l e room_1 s m args below meth c cells slots Q D A 9 (lawW cI cJ cO cD b o oD u v X Y M fo fd) [(5, .int (nI n)), (4, .ref oD), (3, .ref o), (2, .ref (v 0)), (1, .ref b), (0, .ref sb)] [] 1188 := by
  have C := KC.t4 C4
  refine k_aload_n (pc := 1188) C rfl 4 rfl dL_law_1188 ?_
  refine k_aload_n (pc := 1189) C rfl 5 rfl dL_law_1189 ?_
  refine k_iload (pc := 1190) C 0 rfl dL_law_1190 ?_
  refine k_iconst (pc := 1192) C iconst_1 dL_law_1192 ?_
  refine k_iadd (pc := 1193) C dL_law_1193 ?_
  refine k_sld (pc := 1194) (k := n + 1) C hX hbl hbA ((nI_succ n).symm) (by omega) hL dL_law_1194 ?_
  refine k_aload_n (pc := 1195) C rfl 5 rfl dL_law_1195 ?_
  refine k_iload (pc := 1196) C 0 rfl dL_law_1196 ?_
  refine k_iconst (pc := 1198) C iconst_2 dL_law_1198 ?_
  refine k_iadd (pc := 1199) C dL_law_1199 ?_
  refine k_sld (pc := 1200) (k := n + 2) C hX hbl hbA ((nI_2 n)) (by omega) hL dL_law_1200 ?_
  refine k_aload_n (pc := 1201) C rfl 2 rfl dL_law_1201 ?_
  refine k_lstep (pc := 1202) (As := [.ref b, .int (xs (n + 1)), .int (xs (n + 2)), .ref o]) (rest := []) C hZ hs cwW_L_audit q_891 rfl (Nat.le_of_ble_eq_true rfl) ⟨Nat.le_of_ble_eq_true rfl, Nat.le_of_ble_eq_true rfl⟩ rfl hc dL_law_1202 (fun rt X2 Y2 fo2 hth hout hR2 => ?_)
  refine k_istore (pc := 1205) (lv2 := [(6, .int rt), (5, .int (nI n)), (4, .ref oD), (3, .ref o), (2, .ref (v 0)), (1, .ref b), (0, .ref sb)]) C (by decide) rfl dL_law_1205 ?_
  refine k_aload_n (pc := 1207) C rfl 4 rfl dL_law_1207 ?_
  refine k_aload_n (pc := 1208) C rfl 6 rfl dL_law_1208 ?_
  refine k_iload (pc := 1209) C 1 rfl dL_law_1209 ?_
  refine k_iconst (pc := 1211) C iconst_1 dL_law_1211 ?_
  refine k_iadd (pc := 1212) C dL_law_1212 ?_
  refine k_sld (pc := 1213) (k := n + 1) C hX hbl hbA ((nI_succ n).symm) (by omega) hL dL_law_1213 ?_
  refine k_aload_n (pc := 1214) C rfl 6 rfl dL_law_1214 ?_
  refine k_iload (pc := 1215) C 1 rfl dL_law_1215 ?_
  refine k_iconst (pc := 1217) C iconst_2 dL_law_1217 ?_
  refine k_iadd (pc := 1218) C dL_law_1218 ?_
  refine k_sld (pc := 1219) (k := n + 2) C hX hbl hbA ((nI_2 n)) (by omega) hL dL_law_1219 ?_
  refine k_show (ws2 := [(v 0, moE M.1 (v 1) (v 2) (v 3) (v 4) (v 5)), (v 1, jA cJ 294 M.2.1), (v 2, jA cJ 1764 M.2.2.1), (v 3, jA cJ 294 M.2.2.2.1), (v 4, iA cI 90 M.2.2.2.2.1), (v 5, iA cI 48 M.2.2.2.2.2), (oD, dA cD 1 fd)] ++ (xwW cI cJ cO b o u X2 Y2 fo2 ++ kTl cI Y2)) rfl ?_
  refine k_callVi (pc := 1220) (As := [.int (xs (n + 1)), .int (xs (n + 2))]) (rest := []) (r := a_audit M (xs (n + 1)) (xs (n + 2))) (wc := [(v 0, moE M.1 (v 1) (v 2) (v 3) (v 4) (v 5)), (v 1, jA cJ 294 M.2.1)]) (wc2 := [(v 0, moE (q_audit M (xs (n + 1)) (xs (n + 2))).1 (v 1) (v 2) (v 3) (v 4) (v 5)), (v 1, jA cJ 294 (q_audit M (xs (n + 1)) (xs (n + 2))).2.1)]) (ws2 := [(v 0, moE (q_audit M (xs (n + 1)) (xs (n + 2))).1 (v 1) (v 2) (v 3) (v 4) (v 5)), (v 1, jA cJ 294 (q_audit M (xs (n + 1)) (xs (n + 2))).2.1), (v 2, jA cJ 1764 M.2.2.1), (v 3, jA cJ 294 M.2.2.2.1), (v 4, iA cI 90 M.2.2.2.2.1), (v 5, iA cI 48 M.2.2.2.2.2), (oD, dA cD 1 fd)] ++ (xwW cI cJ cO b o u X2 Y2 fo2 ++ kTl cI Y2)) C (c_X11_audit l D cI cJ cO (v 0) (v 1) (v 2) (v 3) (v 4) (v 5) M.1 M.2.1 (xs (n + 1)) (xs (n + 2)) hf_t_w_46) cwv_X11_audit q_1221 vX11 0 rfl [0, 1] (kmap_app rfl) rfl (by decide) (kput_app (wc := [(v 0, moE M.1 (v 1) (v 2) (v 3) (v 4) (v 5)), (v 1, jA cJ 294 M.2.1)]) rfl rfl) rfl (Nat.le_of_ble_eq_true rfl) ⟨Nat.le_of_ble_eq_true rfl, Nat.le_of_ble_eq_true rfl⟩ rfl ⟨hc.1, hc.2⟩ dL_law_1220 ?_
  refine k_show (ws2 := lawW cI cJ cO cD b o oD u v X2 Y2 (q_audit M (xs (n + 1)) (xs (n + 2))) fo2 fd) rfl ?_
  refine k_istore (pc := 1223) (lv2 := [(7, .int (a_audit M (xs (n + 1)) (xs (n + 2)))), (6, .int rt), (5, .int (nI n)), (4, .ref oD), (3, .ref o), (2, .ref (v 0)), (1, .ref b), (0, .ref sb)]) C (by decide) rfl dL_law_1223 ?_
  refine k_aload_n (pc := 1225) C rfl 5 rfl dL_law_1225 ?_
  refine k_show (ws2 := [(v 0, moE (q_audit M (xs (n + 1)) (xs (n + 2))).1 (v 1) (v 2) (v 3) (v 4) (v 5)), (v 1, jA cJ 294 (q_audit M (xs (n + 1)) (xs (n + 2))).2.1), (v 2, jA cJ 1764 (q_audit M (xs (n + 1)) (xs (n + 2))).2.2.1), (v 3, jA cJ 294 (q_audit M (xs (n + 1)) (xs (n + 2))).2.2.2.1), (v 4, iA cI 90 (q_audit M (xs (n + 1)) (xs (n + 2))).2.2.2.2.1), (v 5, iA cI 48 (q_audit M (xs (n + 1)) (xs (n + 2))).2.2.2.2.2), (oD, dA cD 1 fd)] ++ (xwW cI cJ cO b o u X2 Y2 fo2 ++ kTl cI Y2)) rfl ?_
  refine k_callVi (pc := 1226) (As := []) (rest := []) (r := (q_audit M (xs (n + 1)) (xs (n + 2))).1 7) (wc := [(v 0, moE (q_audit M (xs (n + 1)) (xs (n + 2))).1 (v 1) (v 2) (v 3) (v 4) (v 5))]) (wc2 := [(v 0, moE (q_audit M (xs (n + 1)) (xs (n + 2))).1 (v 1) (v 2) (v 3) (v 4) (v 5))]) (ws2 := [(v 0, moE (q_audit M (xs (n + 1)) (xs (n + 2))).1 (v 1) (v 2) (v 3) (v 4) (v 5)), (v 1, jA cJ 294 (q_audit M (xs (n + 1)) (xs (n + 2))).2.1), (v 2, jA cJ 1764 (q_audit M (xs (n + 1)) (xs (n + 2))).2.2.1), (v 3, jA cJ 294 (q_audit M (xs (n + 1)) (xs (n + 2))).2.2.2.1), (v 4, iA cI 90 (q_audit M (xs (n + 1)) (xs (n + 2))).2.2.2.2.1), (v 5, iA cI 48 (q_audit M (xs (n + 1)) (xs (n + 2))).2.2.2.2.2), (oD, dA cD 1 fd)] ++ (xwW cI cJ cO b o u X2 Y2 fo2 ++ kTl cI Y2)) C (c_X11_thrown l D cI cJ cO (v 0) (v 1) (v 2) (v 3) (v 4) (v 5) (q_audit M (xs (n + 1)) (xs (n + 2))).1) cwv_X11_thrown q_1042 vX11 0 rfl [0] (kmap_app rfl) rfl (by decide) (kput_app (wc := [(v 0, moE (q_audit M (xs (n + 1)) (xs (n + 2))).1 (v 1) (v 2) (v 3) (v 4) (v 5))]) rfl rfl) rfl (Nat.le_of_ble_eq_true rfl) ⟨Nat.le_of_ble_eq_true rfl, Nat.le_of_ble_eq_true rfl⟩ rfl ⟨hc.1, hc.2⟩ dL_law_1226 ?_
  refine k_show (ws2 := lawW cI cJ cO cD b o oD u v X2 Y2 (q_audit M (xs (n + 1)) (xs (n + 2))) fo2 fd) rfl ?_
  refine k_iload (pc := 1229) C 1 rfl dL_law_1229 ?_
  refine k_icmp_eq (pc := 1231) (tgt := 1236) C dL_law_1231 (by decide) (fun _ => ?_) (fun q => absurd hth q)
  refine k_iload (pc := 1236) C 1 rfl dL_law_1236 ?_
  refine k_if_ne (pc := 1238) (tgt := 1253) C dL_law_1238 (by decide) (fun _ => k_goto (pc := 1253) (tgt := 1809) C (by decide) dL_law_1253 (k_lpick (lv2 := [(5, .int (nI n)), (4, .ref oD), (3, .ref o), (2, .ref (v 0)), (1, .ref b), (0, .ref sb)]) [2, 3, 4, 5, 6, 7] rfl (hk X2 Y2 fo2 hR2))) (fun h0 => ?_)
  refine k_aload_n (pc := 1241) C rfl 4 rfl dL_law_1241 ?_
  refine k_iconst (pc := 1242) C iconst_0 dL_law_1242 ?_
  refine k_laldK (pc := 1243) (v := (a_audit M (xs (n + 1)) (xs (n + 2))).toInt64) C 7 1 rfl rfl (k_vinc 0 cl_0 (by decide) (by decide)) cl_0 (hout h0) dL_law_1243 ?_
  refine k_iload (pc := 1244) C 0 rfl dL_law_1244 ?_
  refine k_i2l (pc := 1246) C dL_law_1246 ?_
  exact k_lcmp_eq (pc := 1247) (tgt := 1253) C dL_law_1247 dL_law_1248 (by decide) (fun _ => k_goto (pc := 1253) (tgt := 1809) C (by decide) dL_law_1253 (k_lpick (lv2 := [(5, .int (nI n)), (4, .ref oD), (3, .ref o), (2, .ref (v 0)), (1, .ref b), (0, .ref sb)]) [2, 3, 4, 5, 6, 7] rfl (hk X2 Y2 fo2 hR2))) (fun q => absurd rfl q)
def q_auditCode (M : kMS) : kMS := ((s_X11_auditCode M.1 M.2.1).2, M.2.1, M.2.2.1, M.2.2.2.1, M.2.2.2.2.1, M.2.2.2.2.2)
def a_auditCode (M : kMS) : Int64 := (s_X11_auditCode M.1 M.2.1).1
def n_auditCode (X : kXS) : kXS := (X.1, X.2.1, X.2.2.1, X.2.2.2.1, X.2.2.2.2.1, X.2.2.2.2.2.1, X.2.2.2.2.2.2.1, X.2.2.2.2.2.2.2.1, X.2.2.2.2.2.2.2.2)
def r_auditCode (X : kXS) : Int64 := (s_X10_auditCode (X.1 0) X.2.1)
set_option maxRecDepth 100000 in
set_option maxHeartbeats 8000000 in
theorem law_17 {p : Program} {l : Launch} {e : Env} {s : State} {m : MethodId} {args : Array Value} {below : List Frame} {meth : Method} {c : Code} {cells slots : Nat} {Q : State → Prop} {D : va_G} {A : Nat → Prop} {ret : Option FieldType} {cI cJ cO cD : ClassId} {z : zT} {sb L b o oD n : Nat} {u v : Nat → Nat} {xs : Nat → Int32} (C4 : KC p s m args meth c cL_law 9 RL ret D (kT4 cI cJ cO cD) A) (hZ : kZ z A s s.heap) (hX : va_X sb L xs s s.heap) (hbl : sb < s.heap.size) (hbA : ¬ A sb) (hL : L ≤ 2560) (hn : n + 5 ≤ L) (hc : cells + 26 ≤ room_1.cells ∧ slots + 331 ≤ room_1.slots) {X : kXS} {Y : kTS} {M : kMS} {fo : Nat → Int64} {fd : Nat → UInt64} (he : r_auditCode X = (a_auditCode M)) (hk : KJ p l e room_1 s m args below meth c cells slots Q D A 9 (lawW cI cJ cO cD b o oD u v (n_auditCode X) Y (q_auditCode M) fo fd) [(5, .int (nI n)), (4, .ref oD), (3, .ref o), (2, .ref (v 0)), (1, .ref b), (0, .ref sb)] [] 1809) : KJ p l e room_1 s m args below meth c cells slots Q D A 9 (lawW cI cJ cO cD b o oD u v X Y M fo fd) [(5, .int (nI n)), (4, .ref oD), (3, .ref o), (2, .ref (v 0)), (1, .ref b), (0, .ref sb)] [] 1256 := by
  have C := KC.t4 C4
  refine k_aload_n (pc := 1256) C rfl 4 rfl dL_law_1256 ?_
  refine k_show (ws2 := [(v 0, moE M.1 (v 1) (v 2) (v 3) (v 4) (v 5)), (v 1, jA cJ 294 M.2.1), (v 2, jA cJ 1764 M.2.2.1), (v 3, jA cJ 294 M.2.2.2.1), (v 4, iA cI 90 M.2.2.2.2.1), (v 5, iA cI 48 M.2.2.2.2.2), (oD, dA cD 1 fd), (o, jA cJ 1 fo), (b, ccE (u 0) (u 26) (u 52) (u 54)), ((u 0), stE (X.1 0) (u 1) (u 2) (u 3) (u 4) (u 5) (u 6) (u 7) (u 8) (u 9)), ((u 1), iA cI 12 (X.1 1)), ((u 2), chE (X.1 2)), ((u 3), chE (X.1 3)), ((u 4), sgE (X.1 4) (u 10)), ((u 5), ruE (X.1 5)), ((u 6), clE (X.1 6)), ((u 7), rsE (u 11) (u 12) (u 13) (u 14)), ((u 8), trE (u 19) (u 20) (u 21) X.2.1), ((u 9), rgE (X.1 9) (u 25)), ((u 10), iA cI 48 (X.1 10)), ((u 11), rgE (X.1 11) (u 15)), ((u 12), rgE (X.1 12) (u 16)), ((u 13), rgE (X.1 13) (u 17)), ((u 14), rgE (X.1 14) (u 18)), ((u 15), iA cI 16 (X.1 15)), ((u 16), iA cI 16 (X.1 16)), ((u 17), iA cI 16 (X.1 17)), ((u 18), iA cI 16 (X.1 18)), ((u 19), rgE (X.1 19) (u 22)), ((u 20), rgE (X.1 20) (u 23)), ((u 21), rgE (X.1 21) (u 24)), ((u 22), iA cI 24 (X.1 22)), ((u 23), iA cI 24 (X.1 23)), ((u 24), iA cI 24 (X.1 24)), ((u 25), iA cI 60 (X.1 25)), ((u 26), stE (X.2.2.1 0) (u 27) (u 28) (u 29) (u 30) (u 31) (u 32) (u 33) (u 34) (u 35)), ((u 27), iA cI 12 (X.2.2.1 1)), ((u 28), chE (X.2.2.1 2)), ((u 29), chE (X.2.2.1 3)), ((u 30), sgE (X.2.2.1 4) (u 36)), ((u 31), ruE (X.2.2.1 5)), ((u 32), clE (X.2.2.1 6)), ((u 33), rsE (u 37) (u 38) (u 39) (u 40)), ((u 34), trE (u 45) (u 46) (u 47) X.2.2.2.1), ((u 35), rgE (X.2.2.1 9) (u 51)), ((u 36), iA cI 48 (X.2.2.1 10)), ((u 37), rgE (X.2.2.1 11) (u 41)), ((u 38), rgE (X.2.2.1 12) (u 42)), ((u 39), rgE (X.2.2.1 13) (u 43)), ((u 40), rgE (X.2.2.1 14) (u 44)), ((u 41), iA cI 16 (X.2.2.1 15)), ((u 42), iA cI 16 (X.2.2.1 16)), ((u 43), iA cI 16 (X.2.2.1 17)), ((u 44), iA cI 16 (X.2.2.1 18)), ((u 45), rgE (X.2.2.1 19) (u 48)), ((u 46), rgE (X.2.2.1 20) (u 49)), ((u 47), rgE (X.2.2.1 21) (u 50)), ((u 48), iA cI 24 (X.2.2.1 22)), ((u 49), iA cI 24 (X.2.2.1 23)), ((u 50), iA cI 24 (X.2.2.1 24)), ((u 51), iA cI 60 (X.2.2.1 25)), ((u 52), svE X.2.2.2.2.1 (u 53)), ((u 53), qA cO 6 (kF Y.1 Y.2.1)), ((u 54), txE X.2.2.2.2.2.1 (u 55) (u 56)), ((u 55), iA cI 90 X.2.2.2.2.2.2.1), ((u 56), sgE X.2.2.2.2.2.2.2.1 (u 57)), ((u 57), iA cI 48 X.2.2.2.2.2.2.2.2)] ++ kTail cI Y.1 Y.2.1 Y.2.2.1 Y.2.2.2) rfl ?_
  refine k_callVl (pc := 1257) (As := []) (rest := []) (r := r_auditCode X) (wc := [(b, ccE (u 0) (u 26) (u 52) (u 54)), ((u 0), stE (X.1 0) (u 1) (u 2) (u 3) (u 4) (u 5) (u 6) (u 7) (u 8) (u 9)), ((u 8), trE (u 19) (u 20) (u 21) X.2.1)]) (wc2 := [(b, ccE (u 0) (u 26) (u 52) (u 54)), ((u 0), stE (X.1 0) (u 1) (u 2) (u 3) (u 4) (u 5) (u 6) (u 7) (u 8) (u 9)), ((u 8), trE (u 19) (u 20) (u 21) X.2.1)]) (ws2 := [(v 0, moE M.1 (v 1) (v 2) (v 3) (v 4) (v 5)), (v 1, jA cJ 294 M.2.1), (v 2, jA cJ 1764 M.2.2.1), (v 3, jA cJ 294 M.2.2.2.1), (v 4, iA cI 90 M.2.2.2.2.1), (v 5, iA cI 48 M.2.2.2.2.2), (oD, dA cD 1 fd), (o, jA cJ 1 fo), (b, ccE (u 0) (u 26) (u 52) (u 54)), ((u 0), stE (X.1 0) (u 1) (u 2) (u 3) (u 4) (u 5) (u 6) (u 7) (u 8) (u 9)), ((u 1), iA cI 12 (X.1 1)), ((u 2), chE (X.1 2)), ((u 3), chE (X.1 3)), ((u 4), sgE (X.1 4) (u 10)), ((u 5), ruE (X.1 5)), ((u 6), clE (X.1 6)), ((u 7), rsE (u 11) (u 12) (u 13) (u 14)), ((u 8), trE (u 19) (u 20) (u 21) X.2.1), ((u 9), rgE (X.1 9) (u 25)), ((u 10), iA cI 48 (X.1 10)), ((u 11), rgE (X.1 11) (u 15)), ((u 12), rgE (X.1 12) (u 16)), ((u 13), rgE (X.1 13) (u 17)), ((u 14), rgE (X.1 14) (u 18)), ((u 15), iA cI 16 (X.1 15)), ((u 16), iA cI 16 (X.1 16)), ((u 17), iA cI 16 (X.1 17)), ((u 18), iA cI 16 (X.1 18)), ((u 19), rgE (X.1 19) (u 22)), ((u 20), rgE (X.1 20) (u 23)), ((u 21), rgE (X.1 21) (u 24)), ((u 22), iA cI 24 (X.1 22)), ((u 23), iA cI 24 (X.1 23)), ((u 24), iA cI 24 (X.1 24)), ((u 25), iA cI 60 (X.1 25)), ((u 26), stE (X.2.2.1 0) (u 27) (u 28) (u 29) (u 30) (u 31) (u 32) (u 33) (u 34) (u 35)), ((u 27), iA cI 12 (X.2.2.1 1)), ((u 28), chE (X.2.2.1 2)), ((u 29), chE (X.2.2.1 3)), ((u 30), sgE (X.2.2.1 4) (u 36)), ((u 31), ruE (X.2.2.1 5)), ((u 32), clE (X.2.2.1 6)), ((u 33), rsE (u 37) (u 38) (u 39) (u 40)), ((u 34), trE (u 45) (u 46) (u 47) X.2.2.2.1), ((u 35), rgE (X.2.2.1 9) (u 51)), ((u 36), iA cI 48 (X.2.2.1 10)), ((u 37), rgE (X.2.2.1 11) (u 41)), ((u 38), rgE (X.2.2.1 12) (u 42)), ((u 39), rgE (X.2.2.1 13) (u 43)), ((u 40), rgE (X.2.2.1 14) (u 44)), ((u 41), iA cI 16 (X.2.2.1 15)), ((u 42), iA cI 16 (X.2.2.1 16)), ((u 43), iA cI 16 (X.2.2.1 17)), ((u 44), iA cI 16 (X.2.2.1 18)), ((u 45), rgE (X.2.2.1 19) (u 48)), ((u 46), rgE (X.2.2.1 20) (u 49)), ((u 47), rgE (X.2.2.1 21) (u 50)), ((u 48), iA cI 24 (X.2.2.1 22)), ((u 49), iA cI 24 (X.2.2.1 23)), ((u 50), iA cI 24 (X.2.2.1 24)), ((u 51), iA cI 60 (X.2.2.1 25)), ((u 52), svE X.2.2.2.2.1 (u 53)), ((u 53), qA cO 6 (kF Y.1 Y.2.1)), ((u 54), txE X.2.2.2.2.2.1 (u 55) (u 56)), ((u 55), iA cI 90 X.2.2.2.2.2.2.1), ((u 56), sgE X.2.2.2.2.2.2.2.1 (u 57)), ((u 57), iA cI 48 X.2.2.2.2.2.2.2.2)] ++ kTail cI Y.1 Y.2.1 Y.2.2.1 Y.2.2.2) C (c_X10_auditCode l D cI cJ cO (fun k => u k) X.1 X.2.1 (fun k => u (26 + k)) X.2.2.1 X.2.2.2.1 b (u 52) (u 54)) cwv_X10_auditCode q_407 vX10 8 rfl [8, 9, 17] (kmap_app rfl) rfl (by decide) (kput_app (wc := [(b, ccE (u 0) (u 26) (u 52) (u 54)), ((u 0), stE (X.1 0) (u 1) (u 2) (u 3) (u 4) (u 5) (u 6) (u 7) (u 8) (u 9)), ((u 8), trE (u 19) (u 20) (u 21) X.2.1)]) rfl rfl) rfl (Nat.le_of_ble_eq_true rfl) ⟨Nat.le_of_ble_eq_true rfl, Nat.le_of_ble_eq_true rfl⟩ rfl ⟨by omega, by omega⟩ dL_law_1257 ?_
  refine k_show (ws2 := lawW cI cJ cO cD b o oD u v (n_auditCode X) Y M fo fd) rfl ?_
  refine k_aload_n (pc := 1260) C rfl 3 rfl dL_law_1260 ?_
  refine k_show (ws2 := [(v 0, moE M.1 (v 1) (v 2) (v 3) (v 4) (v 5)), (v 1, jA cJ 294 M.2.1), (v 2, jA cJ 1764 M.2.2.1), (v 3, jA cJ 294 M.2.2.2.1), (v 4, iA cI 90 M.2.2.2.2.1), (v 5, iA cI 48 M.2.2.2.2.2), (oD, dA cD 1 fd)] ++ (xwW cI cJ cO b o u (n_auditCode X) Y fo ++ kTl cI Y)) rfl ?_
  refine k_callVl (pc := 1261) (As := []) (rest := [.long (r_auditCode X)]) (r := a_auditCode M) (wc := [(v 0, moE M.1 (v 1) (v 2) (v 3) (v 4) (v 5)), (v 1, jA cJ 294 M.2.1)]) (wc2 := [(v 0, moE (q_auditCode M).1 (v 1) (v 2) (v 3) (v 4) (v 5)), (v 1, jA cJ 294 (q_auditCode M).2.1)]) (ws2 := [(v 0, moE (q_auditCode M).1 (v 1) (v 2) (v 3) (v 4) (v 5)), (v 1, jA cJ 294 (q_auditCode M).2.1), (v 2, jA cJ 1764 M.2.2.1), (v 3, jA cJ 294 M.2.2.2.1), (v 4, iA cI 90 M.2.2.2.2.1), (v 5, iA cI 48 M.2.2.2.2.2), (oD, dA cD 1 fd)] ++ (xwW cI cJ cO b o u (n_auditCode X) Y fo ++ kTl cI Y)) C (c_X11_auditCode l D cI cJ cO (v 0) (v 1) (v 2) (v 3) (v 4) (v 5) M.1 M.2.1) cwv_X11_auditCode q_1225 vX11 0 rfl [0, 1] (kmap_app rfl) rfl (by decide) (kput_app (wc := [(v 0, moE M.1 (v 1) (v 2) (v 3) (v 4) (v 5)), (v 1, jA cJ 294 M.2.1)]) rfl rfl) rfl (Nat.le_of_ble_eq_true rfl) ⟨Nat.le_of_ble_eq_true rfl, Nat.le_of_ble_eq_true rfl⟩ rfl ⟨by omega, by omega⟩ dL_law_1261 ?_
  refine k_show (ws2 := lawW cI cJ cO cD b o oD u v (n_auditCode X) Y (q_auditCode M) fo fd) rfl ?_
  exact k_lcmp_eq (pc := 1264) (tgt := 1809) C dL_law_1264 dL_law_1265 (by decide) (fun _ => hk) (fun q => absurd he q)
def q_history (M : kMS) (p0 : Int32) : kMS := ((s_X11_history M.1 M.2.1 p0).2, M.2.1, M.2.2.1, M.2.2.2.1, M.2.2.2.2.1, M.2.2.2.2.2)
def a_history (M : kMS) (p0 : Int32) : Int32 := (s_X11_history M.1 M.2.1 p0).1
theorem cwW_L_history : Cond.codeWith yL_history cL_history 4 (some .int) [(0, 9, 12, 15)] ∈ lw_all ∧ Cond.initialized yL_history.cls ∈ lw_all ∧ Cond.static yL_history ∈ lw_all ∧ (yL_history.cls ≠ "java/lang/invoke/MethodHandle" ∧ yL_history.cls ≠ "java/lang/invoke/VarHandle" ∧ (parseMethodDescriptor yL_history.desc).map (fun d => d.parameters.length) = some 3) := ⟨q_905, q_40, q_904, by decide +kernel⟩
set_option maxRecDepth 100000 in
set_option maxHeartbeats 8000000 in
theorem law_18 {p : Program} {l : Launch} {e : Env} {s : State} {m : MethodId} {args : Array Value} {below : List Frame} {meth : Method} {c : Code} {cells slots : Nat} {Q : State → Prop} {D : va_G} {A : Nat → Prop} {ret : Option FieldType} {cI cJ cO cD : ClassId} {z : zT} {sb L b o oD n : Nat} {u v : Nat → Nat} {xs : Nat → Int32} (C4 : KC p s m args meth c cL_law 9 RL ret D (kT4 cI cJ cO cD) A) (hZ : kZ z A s s.heap) (hX : va_X sb L xs s s.heap) (hbl : sb < s.heap.size) (hbA : ¬ A sb) (hL : L ≤ 2560) (hn : n + 5 ≤ L) (hc : cells + 26 ≤ room_1.cells ∧ slots + 331 ≤ room_1.slots) {X : kXS} {Y : kTS} {M : kMS} {fo : Nat → Int64} {fd : Nat → UInt64} {R : kXS → kTS → kMS → Prop} (hs : lStep l D cI cJ cO z yL_history cL_history 4 [(0, 9, 12, 15)] [.ref b, .int (xs (n + 1)), .ref o] b o u X Y fo (a_history M (xs (n + 1))) ((q_history M (xs (n + 1))).1 7) (fun X2 Y2 => R X2 Y2 (q_history M (xs (n + 1))))) (hf_t_w_48 : kInL (M.2.1 48) 0 60) (hk : ∀ (X2 : kXS) (Y2 : kTS) (fo2 : Nat → Int64), R X2 Y2 (q_history M (xs (n + 1))) → KJ p l e room_1 s m args below meth c (cells + 26) (slots + 331) Q D A 9 (lawW cI cJ cO cD b o oD u v X2 Y2 (q_history M (xs (n + 1))) fo2 fd) [(5, .int (nI n)), (4, .ref oD), (3, .ref o), (2, .ref (v 0)), (1, .ref b), (0, .ref sb)] [] 1809) : KJ p l e room_1 s m args below meth c cells slots Q D A 9 (lawW cI cJ cO cD b o oD u v X Y M fo fd) [(5, .int (nI n)), (4, .ref oD), (3, .ref o), (2, .ref (v 0)), (1, .ref b), (0, .ref sb)] [] 1270 := by
  have C := KC.t4 C4
  refine k_aload_n (pc := 1270) C rfl 4 rfl dL_law_1270 ?_
  refine k_aload_n (pc := 1271) C rfl 5 rfl dL_law_1271 ?_
  refine k_iload (pc := 1272) C 0 rfl dL_law_1272 ?_
  refine k_iconst (pc := 1274) C iconst_1 dL_law_1274 ?_
  refine k_iadd (pc := 1275) C dL_law_1275 ?_
  refine k_sld (pc := 1276) (k := n + 1) C hX hbl hbA ((nI_succ n).symm) (by omega) hL dL_law_1276 ?_
  refine k_aload_n (pc := 1277) C rfl 2 rfl dL_law_1277 ?_
  refine k_lstep (pc := 1278) (As := [.ref b, .int (xs (n + 1)), .ref o]) (rest := []) C hZ hs cwW_L_history q_903 rfl (Nat.le_of_ble_eq_true rfl) ⟨Nat.le_of_ble_eq_true rfl, Nat.le_of_ble_eq_true rfl⟩ rfl hc dL_law_1278 (fun rt X2 Y2 fo2 hth hout hR2 => ?_)
  refine k_istore (pc := 1281) (lv2 := [(6, .int rt), (5, .int (nI n)), (4, .ref oD), (3, .ref o), (2, .ref (v 0)), (1, .ref b), (0, .ref sb)]) C (by decide) rfl dL_law_1281 ?_
  refine k_aload_n (pc := 1283) C rfl 4 rfl dL_law_1283 ?_
  refine k_aload_n (pc := 1284) C rfl 6 rfl dL_law_1284 ?_
  refine k_iload (pc := 1285) C 1 rfl dL_law_1285 ?_
  refine k_iconst (pc := 1287) C iconst_1 dL_law_1287 ?_
  refine k_iadd (pc := 1288) C dL_law_1288 ?_
  refine k_sld (pc := 1289) (k := n + 1) C hX hbl hbA ((nI_succ n).symm) (by omega) hL dL_law_1289 ?_
  refine k_show (ws2 := [(v 0, moE M.1 (v 1) (v 2) (v 3) (v 4) (v 5)), (v 1, jA cJ 294 M.2.1), (v 2, jA cJ 1764 M.2.2.1), (v 3, jA cJ 294 M.2.2.2.1), (v 4, iA cI 90 M.2.2.2.2.1), (v 5, iA cI 48 M.2.2.2.2.2), (oD, dA cD 1 fd)] ++ (xwW cI cJ cO b o u X2 Y2 fo2 ++ kTl cI Y2)) rfl ?_
  refine k_callVi (pc := 1290) (As := [.int (xs (n + 1))]) (rest := []) (r := a_history M (xs (n + 1))) (wc := [(v 0, moE M.1 (v 1) (v 2) (v 3) (v 4) (v 5)), (v 1, jA cJ 294 M.2.1)]) (wc2 := [(v 0, moE (q_history M (xs (n + 1))).1 (v 1) (v 2) (v 3) (v 4) (v 5)), (v 1, jA cJ 294 (q_history M (xs (n + 1))).2.1)]) (ws2 := [(v 0, moE (q_history M (xs (n + 1))).1 (v 1) (v 2) (v 3) (v 4) (v 5)), (v 1, jA cJ 294 (q_history M (xs (n + 1))).2.1), (v 2, jA cJ 1764 M.2.2.1), (v 3, jA cJ 294 M.2.2.2.1), (v 4, iA cI 90 M.2.2.2.2.1), (v 5, iA cI 48 M.2.2.2.2.2), (oD, dA cD 1 fd)] ++ (xwW cI cJ cO b o u X2 Y2 fo2 ++ kTl cI Y2)) C (c_X11_history l D cI cJ cO (v 0) (v 1) (v 2) (v 3) (v 4) (v 5) M.1 M.2.1 (xs (n + 1)) hf_t_w_48) cwv_X11_history q_1229 vX11 0 rfl [0, 1] (kmap_app rfl) rfl (by decide) (kput_app (wc := [(v 0, moE M.1 (v 1) (v 2) (v 3) (v 4) (v 5)), (v 1, jA cJ 294 M.2.1)]) rfl rfl) rfl (Nat.le_of_ble_eq_true rfl) ⟨Nat.le_of_ble_eq_true rfl, Nat.le_of_ble_eq_true rfl⟩ rfl ⟨hc.1, hc.2⟩ dL_law_1290 ?_
  refine k_show (ws2 := lawW cI cJ cO cD b o oD u v X2 Y2 (q_history M (xs (n + 1))) fo2 fd) rfl ?_
  refine k_istore (pc := 1293) (lv2 := [(7, .int (a_history M (xs (n + 1)))), (6, .int rt), (5, .int (nI n)), (4, .ref oD), (3, .ref o), (2, .ref (v 0)), (1, .ref b), (0, .ref sb)]) C (by decide) rfl dL_law_1293 ?_
  refine k_aload_n (pc := 1295) C rfl 5 rfl dL_law_1295 ?_
  refine k_show (ws2 := [(v 0, moE (q_history M (xs (n + 1))).1 (v 1) (v 2) (v 3) (v 4) (v 5)), (v 1, jA cJ 294 (q_history M (xs (n + 1))).2.1), (v 2, jA cJ 1764 (q_history M (xs (n + 1))).2.2.1), (v 3, jA cJ 294 (q_history M (xs (n + 1))).2.2.2.1), (v 4, iA cI 90 (q_history M (xs (n + 1))).2.2.2.2.1), (v 5, iA cI 48 (q_history M (xs (n + 1))).2.2.2.2.2), (oD, dA cD 1 fd)] ++ (xwW cI cJ cO b o u X2 Y2 fo2 ++ kTl cI Y2)) rfl ?_
  refine k_callVi (pc := 1296) (As := []) (rest := []) (r := (q_history M (xs (n + 1))).1 7) (wc := [(v 0, moE (q_history M (xs (n + 1))).1 (v 1) (v 2) (v 3) (v 4) (v 5))]) (wc2 := [(v 0, moE (q_history M (xs (n + 1))).1 (v 1) (v 2) (v 3) (v 4) (v 5))]) (ws2 := [(v 0, moE (q_history M (xs (n + 1))).1 (v 1) (v 2) (v 3) (v 4) (v 5)), (v 1, jA cJ 294 (q_history M (xs (n + 1))).2.1), (v 2, jA cJ 1764 (q_history M (xs (n + 1))).2.2.1), (v 3, jA cJ 294 (q_history M (xs (n + 1))).2.2.2.1), (v 4, iA cI 90 (q_history M (xs (n + 1))).2.2.2.2.1), (v 5, iA cI 48 (q_history M (xs (n + 1))).2.2.2.2.2), (oD, dA cD 1 fd)] ++ (xwW cI cJ cO b o u X2 Y2 fo2 ++ kTl cI Y2)) C (c_X11_thrown l D cI cJ cO (v 0) (v 1) (v 2) (v 3) (v 4) (v 5) (q_history M (xs (n + 1))).1) cwv_X11_thrown q_1042 vX11 0 rfl [0] (kmap_app rfl) rfl (by decide) (kput_app (wc := [(v 0, moE (q_history M (xs (n + 1))).1 (v 1) (v 2) (v 3) (v 4) (v 5))]) rfl rfl) rfl (Nat.le_of_ble_eq_true rfl) ⟨Nat.le_of_ble_eq_true rfl, Nat.le_of_ble_eq_true rfl⟩ rfl ⟨hc.1, hc.2⟩ dL_law_1296 ?_
  refine k_show (ws2 := lawW cI cJ cO cD b o oD u v X2 Y2 (q_history M (xs (n + 1))) fo2 fd) rfl ?_
  refine k_iload (pc := 1299) C 1 rfl dL_law_1299 ?_
  refine k_icmp_eq (pc := 1301) (tgt := 1306) C dL_law_1301 (by decide) (fun _ => ?_) (fun q => absurd hth q)
  refine k_iload (pc := 1306) C 1 rfl dL_law_1306 ?_
  refine k_if_ne (pc := 1308) (tgt := 1323) C dL_law_1308 (by decide) (fun _ => k_goto (pc := 1323) (tgt := 1809) C (by decide) dL_law_1323 (k_lpick (lv2 := [(5, .int (nI n)), (4, .ref oD), (3, .ref o), (2, .ref (v 0)), (1, .ref b), (0, .ref sb)]) [2, 3, 4, 5, 6, 7] rfl (hk X2 Y2 fo2 hR2))) (fun h0 => ?_)
  refine k_aload_n (pc := 1311) C rfl 4 rfl dL_law_1311 ?_
  refine k_iconst (pc := 1312) C iconst_0 dL_law_1312 ?_
  refine k_laldK (pc := 1313) (v := (a_history M (xs (n + 1))).toInt64) C 7 1 rfl rfl (k_vinc 0 cl_0 (by decide) (by decide)) cl_0 (hout h0) dL_law_1313 ?_
  refine k_iload (pc := 1314) C 0 rfl dL_law_1314 ?_
  refine k_i2l (pc := 1316) C dL_law_1316 ?_
  exact k_lcmp_eq (pc := 1317) (tgt := 1323) C dL_law_1317 dL_law_1318 (by decide) (fun _ => k_goto (pc := 1323) (tgt := 1809) C (by decide) dL_law_1323 (k_lpick (lv2 := [(5, .int (nI n)), (4, .ref oD), (3, .ref o), (2, .ref (v 0)), (1, .ref b), (0, .ref sb)]) [2, 3, 4, 5, 6, 7] rfl (hk X2 Y2 fo2 hR2))) (fun q => absurd rfl q)
def q_spread (M : kMS) (p0 : Int32) : kMS := ((s_X11_spread M.1 M.2.1 p0).2, M.2.1, M.2.2.1, M.2.2.2.1, M.2.2.2.2.1, M.2.2.2.2.2)
def a_spread (M : kMS) (p0 : Int32) : Int32 := (s_X11_spread M.1 M.2.1 p0).1
theorem cwW_L_spread : Cond.codeWith yL_spread cL_spread 4 (some .int) [(0, 9, 12, 15)] ∈ lw_all ∧ Cond.initialized yL_spread.cls ∈ lw_all ∧ Cond.static yL_spread ∈ lw_all ∧ (yL_spread.cls ≠ "java/lang/invoke/MethodHandle" ∧ yL_spread.cls ≠ "java/lang/invoke/VarHandle" ∧ (parseMethodDescriptor yL_spread.desc).map (fun d => d.parameters.length) = some 3) := ⟨q_913, q_40, q_912, by decide +kernel⟩
set_option maxRecDepth 100000 in
set_option maxHeartbeats 8000000 in
theorem law_19 {p : Program} {l : Launch} {e : Env} {s : State} {m : MethodId} {args : Array Value} {below : List Frame} {meth : Method} {c : Code} {cells slots : Nat} {Q : State → Prop} {D : va_G} {A : Nat → Prop} {ret : Option FieldType} {cI cJ cO cD : ClassId} {z : zT} {sb L b o oD n : Nat} {u v : Nat → Nat} {xs : Nat → Int32} (C4 : KC p s m args meth c cL_law 9 RL ret D (kT4 cI cJ cO cD) A) (hZ : kZ z A s s.heap) (hX : va_X sb L xs s s.heap) (hbl : sb < s.heap.size) (hbA : ¬ A sb) (hL : L ≤ 2560) (hn : n + 5 ≤ L) (hc : cells + 26 ≤ room_1.cells ∧ slots + 331 ≤ room_1.slots) {X : kXS} {Y : kTS} {M : kMS} {fo : Nat → Int64} {fd : Nat → UInt64} {R : kXS → kTS → kMS → Prop} (hs : lStep l D cI cJ cO z yL_spread cL_spread 4 [(0, 9, 12, 15)] [.ref b, .int (xs (n + 1)), .ref o] b o u X Y fo (a_spread M (xs (n + 1))) ((q_spread M (xs (n + 1))).1 7) (fun X2 Y2 => R X2 Y2 (q_spread M (xs (n + 1))))) (hf_t_w_48 : kInL (M.2.1 48) 0 60) (hk : ∀ (X2 : kXS) (Y2 : kTS) (fo2 : Nat → Int64), R X2 Y2 (q_spread M (xs (n + 1))) → KJ p l e room_1 s m args below meth c (cells + 26) (slots + 331) Q D A 9 (lawW cI cJ cO cD b o oD u v X2 Y2 (q_spread M (xs (n + 1))) fo2 fd) [(5, .int (nI n)), (4, .ref oD), (3, .ref o), (2, .ref (v 0)), (1, .ref b), (0, .ref sb)] [] 1809) : KJ p l e room_1 s m args below meth c cells slots Q D A 9 (lawW cI cJ cO cD b o oD u v X Y M fo fd) [(5, .int (nI n)), (4, .ref oD), (3, .ref o), (2, .ref (v 0)), (1, .ref b), (0, .ref sb)] [] 1326 := by
  have C := KC.t4 C4
  refine k_aload_n (pc := 1326) C rfl 4 rfl dL_law_1326 ?_
  refine k_aload_n (pc := 1327) C rfl 5 rfl dL_law_1327 ?_
  refine k_iload (pc := 1328) C 0 rfl dL_law_1328 ?_
  refine k_iconst (pc := 1330) C iconst_1 dL_law_1330 ?_
  refine k_iadd (pc := 1331) C dL_law_1331 ?_
  refine k_sld (pc := 1332) (k := n + 1) C hX hbl hbA ((nI_succ n).symm) (by omega) hL dL_law_1332 ?_
  refine k_aload_n (pc := 1333) C rfl 2 rfl dL_law_1333 ?_
  refine k_lstep (pc := 1334) (As := [.ref b, .int (xs (n + 1)), .ref o]) (rest := []) C hZ hs cwW_L_spread q_911 rfl (Nat.le_of_ble_eq_true rfl) ⟨Nat.le_of_ble_eq_true rfl, Nat.le_of_ble_eq_true rfl⟩ rfl hc dL_law_1334 (fun rt X2 Y2 fo2 hth hout hR2 => ?_)
  refine k_istore (pc := 1337) (lv2 := [(6, .int rt), (5, .int (nI n)), (4, .ref oD), (3, .ref o), (2, .ref (v 0)), (1, .ref b), (0, .ref sb)]) C (by decide) rfl dL_law_1337 ?_
  refine k_aload_n (pc := 1339) C rfl 4 rfl dL_law_1339 ?_
  refine k_aload_n (pc := 1340) C rfl 6 rfl dL_law_1340 ?_
  refine k_iload (pc := 1341) C 1 rfl dL_law_1341 ?_
  refine k_iconst (pc := 1343) C iconst_1 dL_law_1343 ?_
  refine k_iadd (pc := 1344) C dL_law_1344 ?_
  refine k_sld (pc := 1345) (k := n + 1) C hX hbl hbA ((nI_succ n).symm) (by omega) hL dL_law_1345 ?_
  refine k_show (ws2 := [(v 0, moE M.1 (v 1) (v 2) (v 3) (v 4) (v 5)), (v 1, jA cJ 294 M.2.1), (v 2, jA cJ 1764 M.2.2.1), (v 3, jA cJ 294 M.2.2.2.1), (v 4, iA cI 90 M.2.2.2.2.1), (v 5, iA cI 48 M.2.2.2.2.2), (oD, dA cD 1 fd)] ++ (xwW cI cJ cO b o u X2 Y2 fo2 ++ kTl cI Y2)) rfl ?_
  refine k_callVi (pc := 1346) (As := [.int (xs (n + 1))]) (rest := []) (r := a_spread M (xs (n + 1))) (wc := [(v 0, moE M.1 (v 1) (v 2) (v 3) (v 4) (v 5)), (v 1, jA cJ 294 M.2.1)]) (wc2 := [(v 0, moE (q_spread M (xs (n + 1))).1 (v 1) (v 2) (v 3) (v 4) (v 5)), (v 1, jA cJ 294 (q_spread M (xs (n + 1))).2.1)]) (ws2 := [(v 0, moE (q_spread M (xs (n + 1))).1 (v 1) (v 2) (v 3) (v 4) (v 5)), (v 1, jA cJ 294 (q_spread M (xs (n + 1))).2.1), (v 2, jA cJ 1764 M.2.2.1), (v 3, jA cJ 294 M.2.2.2.1), (v 4, iA cI 90 M.2.2.2.2.1), (v 5, iA cI 48 M.2.2.2.2.2), (oD, dA cD 1 fd)] ++ (xwW cI cJ cO b o u X2 Y2 fo2 ++ kTl cI Y2)) C (c_X11_spread l D cI cJ cO (v 0) (v 1) (v 2) (v 3) (v 4) (v 5) M.1 M.2.1 (xs (n + 1)) hf_t_w_48) cwv_X11_spread q_1233 vX11 0 rfl [0, 1] (kmap_app rfl) rfl (by decide) (kput_app (wc := [(v 0, moE M.1 (v 1) (v 2) (v 3) (v 4) (v 5)), (v 1, jA cJ 294 M.2.1)]) rfl rfl) rfl (Nat.le_of_ble_eq_true rfl) ⟨Nat.le_of_ble_eq_true rfl, Nat.le_of_ble_eq_true rfl⟩ rfl ⟨hc.1, hc.2⟩ dL_law_1346 ?_
  refine k_show (ws2 := lawW cI cJ cO cD b o oD u v X2 Y2 (q_spread M (xs (n + 1))) fo2 fd) rfl ?_
  refine k_istore (pc := 1349) (lv2 := [(7, .int (a_spread M (xs (n + 1)))), (6, .int rt), (5, .int (nI n)), (4, .ref oD), (3, .ref o), (2, .ref (v 0)), (1, .ref b), (0, .ref sb)]) C (by decide) rfl dL_law_1349 ?_
  refine k_aload_n (pc := 1351) C rfl 5 rfl dL_law_1351 ?_
  refine k_show (ws2 := [(v 0, moE (q_spread M (xs (n + 1))).1 (v 1) (v 2) (v 3) (v 4) (v 5)), (v 1, jA cJ 294 (q_spread M (xs (n + 1))).2.1), (v 2, jA cJ 1764 (q_spread M (xs (n + 1))).2.2.1), (v 3, jA cJ 294 (q_spread M (xs (n + 1))).2.2.2.1), (v 4, iA cI 90 (q_spread M (xs (n + 1))).2.2.2.2.1), (v 5, iA cI 48 (q_spread M (xs (n + 1))).2.2.2.2.2), (oD, dA cD 1 fd)] ++ (xwW cI cJ cO b o u X2 Y2 fo2 ++ kTl cI Y2)) rfl ?_
  refine k_callVi (pc := 1352) (As := []) (rest := []) (r := (q_spread M (xs (n + 1))).1 7) (wc := [(v 0, moE (q_spread M (xs (n + 1))).1 (v 1) (v 2) (v 3) (v 4) (v 5))]) (wc2 := [(v 0, moE (q_spread M (xs (n + 1))).1 (v 1) (v 2) (v 3) (v 4) (v 5))]) (ws2 := [(v 0, moE (q_spread M (xs (n + 1))).1 (v 1) (v 2) (v 3) (v 4) (v 5)), (v 1, jA cJ 294 (q_spread M (xs (n + 1))).2.1), (v 2, jA cJ 1764 (q_spread M (xs (n + 1))).2.2.1), (v 3, jA cJ 294 (q_spread M (xs (n + 1))).2.2.2.1), (v 4, iA cI 90 (q_spread M (xs (n + 1))).2.2.2.2.1), (v 5, iA cI 48 (q_spread M (xs (n + 1))).2.2.2.2.2), (oD, dA cD 1 fd)] ++ (xwW cI cJ cO b o u X2 Y2 fo2 ++ kTl cI Y2)) C (c_X11_thrown l D cI cJ cO (v 0) (v 1) (v 2) (v 3) (v 4) (v 5) (q_spread M (xs (n + 1))).1) cwv_X11_thrown q_1042 vX11 0 rfl [0] (kmap_app rfl) rfl (by decide) (kput_app (wc := [(v 0, moE (q_spread M (xs (n + 1))).1 (v 1) (v 2) (v 3) (v 4) (v 5))]) rfl rfl) rfl (Nat.le_of_ble_eq_true rfl) ⟨Nat.le_of_ble_eq_true rfl, Nat.le_of_ble_eq_true rfl⟩ rfl ⟨hc.1, hc.2⟩ dL_law_1352 ?_
  refine k_show (ws2 := lawW cI cJ cO cD b o oD u v X2 Y2 (q_spread M (xs (n + 1))) fo2 fd) rfl ?_
  refine k_iload (pc := 1355) C 1 rfl dL_law_1355 ?_
  refine k_icmp_eq (pc := 1357) (tgt := 1362) C dL_law_1357 (by decide) (fun _ => ?_) (fun q => absurd hth q)
  refine k_iload (pc := 1362) C 1 rfl dL_law_1362 ?_
  refine k_if_ne (pc := 1364) (tgt := 1379) C dL_law_1364 (by decide) (fun _ => k_goto (pc := 1379) (tgt := 1809) C (by decide) dL_law_1379 (k_lpick (lv2 := [(5, .int (nI n)), (4, .ref oD), (3, .ref o), (2, .ref (v 0)), (1, .ref b), (0, .ref sb)]) [2, 3, 4, 5, 6, 7] rfl (hk X2 Y2 fo2 hR2))) (fun h0 => ?_)
  refine k_aload_n (pc := 1367) C rfl 4 rfl dL_law_1367 ?_
  refine k_iconst (pc := 1368) C iconst_0 dL_law_1368 ?_
  refine k_laldK (pc := 1369) (v := (a_spread M (xs (n + 1))).toInt64) C 7 1 rfl rfl (k_vinc 0 cl_0 (by decide) (by decide)) cl_0 (hout h0) dL_law_1369 ?_
  refine k_iload (pc := 1370) C 0 rfl dL_law_1370 ?_
  refine k_i2l (pc := 1372) C dL_law_1372 ?_
  exact k_lcmp_eq (pc := 1373) (tgt := 1379) C dL_law_1373 dL_law_1374 (by decide) (fun _ => k_goto (pc := 1379) (tgt := 1809) C (by decide) dL_law_1379 (k_lpick (lv2 := [(5, .int (nI n)), (4, .ref oD), (3, .ref o), (2, .ref (v 0)), (1, .ref b), (0, .ref sb)]) [2, 3, 4, 5, 6, 7] rfl (hk X2 Y2 fo2 hR2))) (fun q => absurd rfl q)