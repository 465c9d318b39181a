theorem q_918 : Cond.methodLink RL 175 yL_mean ∈ lw_all := kq 918 (by decide +kernel) (by decide +kernel)
theorem q_919 : Cond.static yL_mean ∈ lw_all := kq 919 (by decide +kernel) (by decide +kernel)
theorem q_920 : Cond.codeWith yL_mean cL_mean 4 (some .int) [(0, 8, 11, 15)] ∈ lw_all := kq 920 (by decide +kernel) (by decide +kernel)
theorem q_925 : Cond.methodLink RL 179 yL_valueIn ∈ lw_all := kq 925 (by decide +kernel) (by decide +kernel)
theorem q_926 : Cond.static yL_valueIn ∈ lw_all := kq 926 (by decide +kernel) (by decide +kernel)
theorem q_927 : Cond.codeWith yL_valueIn cL_valueIn 5 (some .int) [(0, 10, 13, 13), (0, 10, 17, 15)] ∈ lw_all := kq 927 (by decide +kernel) (by decide +kernel)
theorem q_933 : Cond.methodLink RL 182 yL_doneIn ∈ lw_all := kq 933 (by decide +kernel) (by decide +kernel)
theorem q_934 : Cond.static yL_doneIn ∈ lw_all := kq 934 (by decide +kernel) (by decide +kernel)
theorem q_935 : Cond.codeWith yL_doneIn cL_doneIn 3 (some .int) [(0, 8, 11, 24)] ∈ lw_all := kq 935 (by decide +kernel) (by decide +kernel)
theorem q_941 : Cond.methodLink RL 185 yL_reachIn ∈ lw_all := kq 941 (by decide +kernel) (by decide +kernel)
theorem q_942 : Cond.static yL_reachIn ∈ lw_all := kq 942 (by decide +kernel) (by decide +kernel)
theorem q_943 : Cond.codeWith yL_reachIn cL_reachIn 4 (some .int) [(0, 9, 12, 15)] ∈ lw_all := kq 943 (by decide +kernel) (by decide +kernel)
theorem q_949 : Cond.methodLink RL 188 yL_bestMode ∈ lw_all := kq 949 (by decide +kernel) (by decide +kernel)
theorem q_950 : Cond.static yL_bestMode ∈ lw_all := kq 950 (by decide +kernel) (by decide +kernel)
theorem q_951 : Cond.codeWith yL_bestMode cL_bestMode 4 (some .int) [(0, 9, 12, 15)] ∈ lw_all := kq 951 (by decide +kernel) (by decide +kernel)
theorem q_1241 : Cond.methodLink RL 178 yX11_mean ∈ lw_all := kq 1241 (by decide +kernel) (by decide +kernel)
theorem q_1242 : Cond.instanceMethod yX11_mean ∈ lw_all := kq 1242 (by decide +kernel) (by decide +kernel)
theorem q_1243 : Cond.selects RX11 yX11_mean yX11_mean ∈ lw_all := kq 1243 (by decide +kernel) (by decide +kernel)
theorem q_1244 : Cond.code yX11_mean cX11_mean 5 (some .double) ∈ lw_all := kq 1244 (by decide +kernel) (by decide +kernel)
theorem q_1245 : Cond.methodLink RL 181 yX11_valueIn ∈ lw_all := kq 1245 (by decide +kernel) (by decide +kernel)
theorem q_1246 : Cond.instanceMethod yX11_valueIn ∈ lw_all := kq 1246 (by decide +kernel) (by decide +kernel)
theorem q_1247 : Cond.selects RX11 yX11_valueIn yX11_valueIn ∈ lw_all := kq 1247 (by decide +kernel) (by decide +kernel)
theorem q_1248 : Cond.code yX11_valueIn cX11_valueIn 4 (some .int) ∈ lw_all := kq 1248 (by decide +kernel) (by decide +kernel)
theorem q_1258 : Cond.methodLink RL 184 yX11_doneIn ∈ lw_all := kq 1258 (by decide +kernel) (by decide +kernel)
theorem q_1259 : Cond.instanceMethod yX11_doneIn ∈ lw_all := kq 1259 (by decide +kernel) (by decide +kernel)
theorem q_1260 : Cond.selects RX11 yX11_doneIn yX11_doneIn ∈ lw_all := kq 1260 (by decide +kernel) (by decide +kernel)
theorem q_1261 : Cond.code yX11_doneIn cX11_doneIn 3 (some .int) ∈ lw_all := kq 1261 (by decide +kernel) (by decide +kernel)
theorem q_1262 : Cond.methodLink RL 187 yX11_reachIn ∈ lw_all := kq 1262 (by decide +kernel) (by decide +kernel)
theorem q_1263 : Cond.instanceMethod yX11_reachIn ∈ lw_all := kq 1263 (by decide +kernel) (by decide +kernel)
theorem q_1264 : Cond.selects RX11 yX11_reachIn yX11_reachIn ∈ lw_all := kq 1264 (by decide +kernel) (by decide +kernel)
theorem q_1265 : Cond.code yX11_reachIn cX11_reachIn 4 (some .int) ∈ lw_all := kq 1265 (by decide +kernel) (by decide +kernel)
theorem q_1266 : Cond.methodLink RL 190 yX11_bestMode ∈ lw_all := kq 1266 (by decide +kernel) (by decide +kernel)
theorem q_1267 : Cond.instanceMethod yX11_bestMode ∈ lw_all := kq 1267 (by decide +kernel) (by decide +kernel)
theorem q_1268 : Cond.selects RX11 yX11_bestMode yX11_bestMode ∈ lw_all := kq 1268 (by decide +kernel) (by decide +kernel)
theorem q_1269 : Cond.code yX11_bestMode cX11_bestMode 9 (some .int) ∈ lw_all := kq 1269 (by decide +kernel) (by decide +kernel)
theorem cwv_X11_bestMode : kCWv yX11_bestMode cX11_bestMode 9 (some .int) 1 := ⟨⟨q_1269, q_53, by decide +kernel⟩, q_1267, q_1268⟩
theorem cwv_X11_doneIn : kCWv yX11_doneIn cX11_doneIn 3 (some .int) 0 := ⟨⟨q_1261, q_53, by decide +kernel⟩, q_1259, q_1260⟩
theorem cwv_X11_mean : kCWv yX11_mean cX11_mean 5 (some .double) 1 := ⟨⟨q_1244, q_53, by decide +kernel⟩, q_1242, q_1243⟩
theorem cwv_X11_reachIn : kCWv yX11_reachIn cX11_reachIn 4 (some .int) 1 := ⟨⟨q_1265, q_53, by decide +kernel⟩, q_1263, q_1264⟩
theorem cwv_X11_valueIn : kCWv yX11_valueIn cX11_valueIn 4 (some .int) 2 := ⟨⟨q_1248, q_53, by decide +kernel⟩, q_1246, q_1247⟩
def q_mean (M : kMS) (p0 : Int32) : kMS := ((s_X11_mean M.1 M.2.1 p0).2, M.2.1, M.2.2.1, M.2.2.2.1, M.2.2.2.2.1, M.2.2.2.2.2)
def a_mean (M : kMS) (p0 : Int32) : UInt64 := (s_X11_mean M.1 M.2.1 p0).1
theorem cwW_L_mean : Cond.codeWith yL_mean cL_mean 4 (some .int) [(0, 8, 11, 15)] ∈ lw_all ∧ Cond.initialized yL_mean.cls ∈ lw_all ∧ Cond.static yL_mean ∈ lw_all ∧ (yL_mean.cls ≠ "java/lang/invoke/MethodHandle" ∧ yL_mean.cls ≠ "java/lang/invoke/VarHandle" ∧ (parseMethodDescriptor yL_mean.desc).map (fun d => d.parameters.length) = some 3) := ⟨q_920, q_40, q_919, by decide +kernel⟩
set_option maxRecDepth 100000 in
set_option maxHeartbeats 8000000 in
theorem law_20 {p : Program} {l : Launch} {e : Env} {s : State} {m : MethodId} {args : Array Value} {below : List Frame} {meth : Method} {c : Code} {cells slots : Nat} {Q : State → Prop} {D : va_G} {A : Nat → Prop} {ret : Option FieldType} {cI cJ cO cD : ClassId} {z : zT} {sb L b o oD n : Nat} {u v : Nat → Nat} {xs : Nat → Int32} (C4 : KC p s m args meth c cL_law 9 RL ret D (kT4 cI cJ cO cD) A) (hZ : kZ z A s s.heap) (hX : va_X sb L xs s s.heap) (hbl : sb < s.heap.size) (hbA : ¬ A sb) (hL : L ≤ 2560) (hn : n + 5 ≤ L) (hc : cells + 26 ≤ room_1.cells ∧ slots + 331 ≤ room_1.slots) {X : kXS} {Y : kTS} {M : kMS} {fo : Nat → Int64} {fd : Nat → UInt64} (hs : lStepD l D cI cJ cO cD z yL_mean cL_mean 4 [(0, 8, 11, 15)] [.ref b, .int (xs (n + 1)), .ref oD] b o oD u X Y fo fd (a_mean M (xs (n + 1))) ((q_mean M (xs (n + 1))).1 7)) (hf_t_w_48 : kInL (M.2.1 48) 0 60) (hk : ∀ fd2 : Nat → UInt64, KJ p l e room_1 s m args below meth c (cells + 26) (slots + 331) Q D A 9 (lawW cI cJ cO cD b o oD u v X Y (q_mean M (xs (n + 1))) fo fd2) [(5, .int (nI n)), (4, .ref oD), (3, .ref o), (2, .ref (v 0)), (1, .ref b), (0, .ref sb)] [] 1809) : KJ p l e room_1 s m args below meth c cells slots Q D A 9 (lawW cI cJ cO cD b o oD u v X Y M fo fd) [(5, .int (nI n)), (4, .ref oD), (3, .ref o), (2, .ref (v 0)), (1, .ref b), (0, .ref sb)] [] 1382 := by
  have C := KC.t4 C4
  refine k_aload_n (pc := 1382) C rfl 4 rfl dL_law_1382 ?_
  refine k_aload_n (pc := 1383) C rfl 5 rfl dL_law_1383 ?_
  refine k_iload (pc := 1384) C 0 rfl dL_law_1384 ?_
  refine k_iconst (pc := 1386) C iconst_1 dL_law_1386 ?_
  refine k_iadd (pc := 1387) C dL_law_1387 ?_
  refine k_sld (pc := 1388) (k := n + 1) C hX hbl hbA ((nI_succ n).symm) (by omega) hL dL_law_1388 ?_
  refine k_aload (pc := 1389) C 1 rfl dL_law_1389 ?_
  refine k_lstepD (pc := 1391) (As := [.ref b, .int (xs (n + 1)), .ref oD]) (rest := []) C4 hZ hs cwW_L_mean q_918 rfl (Nat.le_of_ble_eq_true rfl) ⟨Nat.le_of_ble_eq_true rfl, Nat.le_of_ble_eq_true rfl⟩ rfl hc dL_law_1391 (fun rt fd2 hth hout => ?_)
  refine k_istore (pc := 1394) (lv2 := [(6, .int rt), (5, .int (nI n)), (4, .ref oD), (3, .ref o), (2, .ref (v 0)), (1, .ref b), (0, .ref sb)]) C (by decide) rfl dL_law_1394 ?_
  refine k_aload_n (pc := 1396) C rfl 4 rfl dL_law_1396 ?_
  refine k_aload_n (pc := 1397) C rfl 6 rfl dL_law_1397 ?_
  refine k_iload (pc := 1398) C 1 rfl dL_law_1398 ?_
  refine k_iconst (pc := 1400) C iconst_1 dL_law_1400 ?_
  refine k_iadd (pc := 1401) C dL_law_1401 ?_
  refine k_sld (pc := 1402) (k := n + 1) C hX hbl hbA ((nI_succ n).symm) (by omega) hL dL_law_1402 ?_
  refine k_show (ws2 := [(v 0, moE M.1 (v 1) (v 2) (v 3) (v 4) (v 5)), (v 1, jA cJ 294 M.2.1), (v 2, jA cJ 1764 M.2.2.1), (v 3, jA cJ 294 M.2.2.2.1), (v 4, iA cI 90 M.2.2.2.2.1), (v 5, iA cI 48 M.2.2.2.2.2), (oD, dA cD 1 fd2)] ++ (xwW cI cJ cO b o u X Y fo ++ kTl cI Y)) rfl ?_
  refine k_callVd (pc := 1403) (As := [.int (xs (n + 1))]) (rest := []) (r := a_mean M (xs (n + 1))) (wc := [(v 0, moE M.1 (v 1) (v 2) (v 3) (v 4) (v 5)), (v 1, jA cJ 294 M.2.1)]) (wc2 := [(v 0, moE (q_mean M (xs (n + 1))).1 (v 1) (v 2) (v 3) (v 4) (v 5)), (v 1, jA cJ 294 (q_mean M (xs (n + 1))).2.1)]) (ws2 := [(v 0, moE (q_mean M (xs (n + 1))).1 (v 1) (v 2) (v 3) (v 4) (v 5)), (v 1, jA cJ 294 (q_mean M (xs (n + 1))).2.1), (v 2, jA cJ 1764 M.2.2.1), (v 3, jA cJ 294 M.2.2.2.1), (v 4, iA cI 90 M.2.2.2.2.1), (v 5, iA cI 48 M.2.2.2.2.2), (oD, dA cD 1 fd2)] ++ (xwW cI cJ cO b o u X Y fo ++ kTl cI Y)) C (c_X11_mean l D cI cJ cO (v 0) (v 1) (v 2) (v 3) (v 4) (v 5) M.1 M.2.1 (xs (n + 1)) hf_t_w_48) cwv_X11_mean q_1241 vX11 0 rfl [0, 1] (kmap_app rfl) rfl (by decide) (kput_app (wc := [(v 0, moE M.1 (v 1) (v 2) (v 3) (v 4) (v 5)), (v 1, jA cJ 294 M.2.1)]) rfl rfl) rfl (Nat.le_of_ble_eq_true rfl) ⟨Nat.le_of_ble_eq_true rfl, Nat.le_of_ble_eq_true rfl⟩ rfl ⟨hc.1, hc.2⟩ dL_law_1403 ?_
  refine k_show (ws2 := lawW cI cJ cO cD b o oD u v X Y (q_mean M (xs (n + 1))) fo fd2) rfl ?_
  refine k_dstore (pc := 1406) (lv2 := [(7, .double (a_mean M (xs (n + 1)))), (6, .int rt), (5, .int (nI n)), (4, .ref oD), (3, .ref o), (2, .ref (v 0)), (1, .ref b), (0, .ref sb)]) C (by decide) rfl dL_law_1406 ?_
  refine k_aload_n (pc := 1408) C rfl 5 rfl dL_law_1408 ?_
  refine k_show (ws2 := [(v 0, moE (q_mean M (xs (n + 1))).1 (v 1) (v 2) (v 3) (v 4) (v 5)), (v 1, jA cJ 294 (q_mean M (xs (n + 1))).2.1), (v 2, jA cJ 1764 (q_mean M (xs (n + 1))).2.2.1), (v 3, jA cJ 294 (q_mean M (xs (n + 1))).2.2.2.1), (v 4, iA cI 90 (q_mean M (xs (n + 1))).2.2.2.2.1), (v 5, iA cI 48 (q_mean M (xs (n + 1))).2.2.2.2.2), (oD, dA cD 1 fd2)] ++ (xwW cI cJ cO b o u X Y fo ++ kTl cI Y)) rfl ?_
  refine k_callVi (pc := 1409) (As := []) (rest := []) (r := (q_mean M (xs (n + 1))).1 7) (wc := [(v 0, moE (q_mean M (xs (n + 1))).1 (v 1) (v 2) (v 3) (v 4) (v 5))]) (wc2 := [(v 0, moE (q_mean M (xs (n + 1))).1 (v 1) (v 2) (v 3) (v 4) (v 5))]) (ws2 := [(v 0, moE (q_mean M (xs (n + 1))).1 (v 1) (v 2) (v 3) (v 4) (v 5)), (v 1, jA cJ 294 (q_mean M (xs (n + 1))).2.1), (v 2, jA cJ 1764 (q_mean M (xs (n + 1))).2.2.1), (v 3, jA cJ 294 (q_mean M (xs (n + 1))).2.2.2.1), (v 4, iA cI 90 (q_mean M (xs (n + 1))).2.2.2.2.1), (v 5, iA cI 48 (q_mean M (xs (n + 1))).2.2.2.2.2), (oD, dA cD 1 fd2)] ++ (xwW cI cJ cO b o u X Y fo ++ kTl cI Y)) C (c_X11_thrown l D cI cJ cO (v 0) (v 1) (v 2) (v 3) (v 4) (v 5) (q_mean M (xs (n + 1))).1) cwv_X11_thrown q_1042 vX11 0 rfl [0] (kmap_app rfl) rfl (by decide) (kput_app (wc := [(v 0, moE (q_mean M (xs (n + 1))).1 (v 1) (v 2) (v 3) (v 4) (v 5))]) rfl rfl) rfl (Nat.le_of_ble_eq_true rfl) ⟨Nat.le_of_ble_eq_true rfl, Nat.le_of_ble_eq_true rfl⟩ rfl ⟨hc.1, hc.2⟩ dL_law_1409 ?_
  refine k_show (ws2 := lawW cI cJ cO cD b o oD u v X Y (q_mean M (xs (n + 1))) fo fd2) rfl ?_
  refine k_iload (pc := 1412) C 1 rfl dL_law_1412 ?_
  refine k_icmp_eq (pc := 1414) (tgt := 1419) C dL_law_1414 (by decide) (fun _ => ?_) (fun q => absurd hth q)
  refine k_iload (pc := 1419) C 1 rfl dL_law_1419 ?_
  refine k_if_ne (pc := 1421) (tgt := 1456) C dL_law_1421 (by decide) (fun _ => k_goto (pc := 1456) (tgt := 1809) C (by decide) dL_law_1456 (k_lpick (lv2 := [(5, .int (nI n)), (4, .ref oD), (3, .ref o), (2, .ref (v 0)), (1, .ref b), (0, .ref sb)]) [2, 3, 4, 5, 6, 7] rfl (hk fd2))) (fun h0 => ?_)
  refine k_aload (pc := 1424) C 3 rfl dL_law_1424 ?_
  refine k_iconst (pc := 1426) C iconst_0 dL_law_1426 ?_
  refine k_daldK (pc := 1427) (v := (a_mean M (xs (n + 1)))) C4 6 3 rfl rfl (k_vinc 0 cl_0 (by decide) (by decide)) cl_0 (hout h0).1 dL_law_1427 ?_
  refine k_dload (pc := 1428) C 0 rfl dL_law_1428 ?_
  refine k_dcmp (pc := 1430) C dL_law_1430 ?_
  exact k_if_eq (pc := 1431) (tgt := 1456) C dL_law_1431 (by decide) (fun _ => k_goto (pc := 1456) (tgt := 1809) C (by decide) dL_law_1456 (k_lpick (lv2 := [(5, .int (nI n)), (4, .ref oD), (3, .ref o), (2, .ref (v 0)), (1, .ref b), (0, .ref sb)]) [2, 3, 4, 5, 6, 7] rfl (hk fd2))) (fun q => absurd (fp_self (hout h0).2) q)
def q_valueIn (M : kMS) (p0 : Int32) (p1 : Int32) : kMS := ((s_X11_valueIn M.1 M.2.1 M.2.2.2.1 p0 p1).2.1, (s_X11_valueIn M.1 M.2.1 M.2.2.2.1 p0 p1).2.2.1, M.2.2.1, (s_X11_valueIn M.1 M.2.1 M.2.2.2.1 p0 p1).2.2.2, M.2.2.2.2.1, M.2.2.2.2.2)
def a_valueIn (M : kMS) (p0 : Int32) (p1 : Int32) : Int32 := (s_X11_valueIn M.1 M.2.1 M.2.2.2.1 p0 p1).1
theorem cwW_L_valueIn : Cond.codeWith yL_valueIn cL_valueIn 5 (some .int) [(0, 10, 13, 13), (0, 10, 17, 15)] ∈ lw_all ∧ Cond.initialized yL_valueIn.cls ∈ lw_all ∧ Cond.static yL_valueIn ∈ lw_all ∧ (yL_valueIn.cls ≠ "java/lang/invoke/MethodHandle" ∧ yL_valueIn.cls ≠ "java/lang/invoke/VarHandle" ∧ (parseMethodDescriptor yL_valueIn.desc).map (fun d => d.parameters.length) = some 4) := ⟨q_927, q_40, q_926, by decide +kernel⟩
set_option maxRecDepth 100000 in
set_option maxHeartbeats 8000000 in
theorem law_21 {p : Program} {l : Launch} {e : Env} {s : State} {m : MethodId} {args : Array Value} {below : List Frame} {meth : Method} {c : Code} {cells slots : Nat} {Q : State → Prop} {D : va_G} {A : Nat → Prop} {ret : Option FieldType} {cI cJ cO cD : ClassId} {z : zT} {sb L b o oD n : Nat} {u v : Nat → Nat} {xs : Nat → Int32} (C4 : KC p s m args meth c cL_law 9 RL ret D (kT4 cI cJ cO cD) A) (hZ : kZ z A s s.heap) (hX : va_X sb L xs s s.heap) (hbl : sb < s.heap.size) (hbA : ¬ A sb) (hL : L ≤ 2560) (hn : n + 5 ≤ L) (hc : cells + 26 ≤ room_1.cells ∧ slots + 331 ≤ room_1.slots) {X : kXS} {Y : kTS} {M : kMS} {fo : Nat → Int64} {fd : Nat → UInt64} {R : kXS → kTS → kMS → Prop} (hs : lStep l D cI cJ cO z yL_valueIn cL_valueIn 5 [(0, 10, 13, 13), (0, 10, 17, 15)] [.ref b, .int (xs (n + 1)), .int (xs (n + 2)), .ref o] b o u X Y fo (a_valueIn M (xs (n + 1)) (xs (n + 2))) ((q_valueIn M (xs (n + 1)) (xs (n + 2))).1 7) (fun X2 Y2 => R X2 Y2 (q_valueIn M (xs (n + 1)) (xs (n + 2))))) (P : (Nat → Int64) → Prop) (hPM : ∀ (f : Nat → Int32) (w : Nat → Int64), P w → kMI f w) (hPs : ∀ (f : Nat → Int32) (w : Nat → Int64), P w → P (s_X11_minute f w)) (hP0 : P M.2.1) (hk : ∀ (X2 : kXS) (Y2 : kTS) (fo2 : Nat → Int64), R X2 Y2 (q_valueIn M (xs (n + 1)) (xs (n + 2))) → KJ p l e room_1 s m args below meth c (cells + 26) (slots + 331) Q D A 9 (lawW cI cJ cO cD b o oD u v X2 Y2 (q_valueIn M (xs (n + 1)) (xs (n + 2))) fo2 fd) [(5, .int (nI n)), (4, .ref oD), (3, .ref o), (2, .ref (v 0)), (1, .ref b), (0, .ref sb)] [] 1809) : KJ p l e room_1 s m args below meth c cells slots Q D A 9 (lawW cI cJ cO cD b o oD u v X Y M fo fd) [(5, .int (nI n)), (4, .ref oD), (3, .ref o), (2, .ref (v 0)), (1, .ref b), (0, .ref sb)] [] 1459 := by
  have C := KC.t4 C4
  refine k_aload_n (pc := 1459) C rfl 4 rfl dL_law_1459 ?_
  refine k_aload_n (pc := 1460) C rfl 5 rfl dL_law_1460 ?_
  refine k_iload (pc := 1461) C 0 rfl dL_law_1461 ?_
  refine k_iconst (pc := 1463) C iconst_1 dL_law_1463 ?_
  refine k_iadd (pc := 1464) C dL_law_1464 ?_
  refine k_sld (pc := 1465) (k := n + 1) C hX hbl hbA ((nI_succ n).symm) (by omega) hL dL_law_1465 ?_
  refine k_aload_n (pc := 1466) C rfl 5 rfl dL_law_1466 ?_
  refine k_iload (pc := 1467) C 0 rfl dL_law_1467 ?_
  refine k_iconst (pc := 1469) C iconst_2 dL_law_1469 ?_
  refine k_iadd (pc := 1470) C dL_law_1470 ?_
  refine k_sld (pc := 1471) (k := n + 2) C hX hbl hbA ((nI_2 n)) (by omega) hL dL_law_1471 ?_
  refine k_aload_n (pc := 1472) C rfl 2 rfl dL_law_1472 ?_
  refine k_lstep (pc := 1473) (As := [.ref b, .int (xs (n + 1)), .int (xs (n + 2)), .ref o]) (rest := []) C hZ hs cwW_L_valueIn q_925 rfl (Nat.le_of_ble_eq_true rfl) ⟨Nat.le_of_ble_eq_true rfl, Nat.le_of_ble_eq_true rfl⟩ rfl hc dL_law_1473 (fun rt X2 Y2 fo2 hth hout hR2 => ?_)
  refine k_istore (pc := 1476) (lv2 := [(6, .int rt), (5, .int (nI n)), (4, .ref oD), (3, .ref o), (2, .ref (v 0)), (1, .ref b), (0, .ref sb)]) C (by decide) rfl dL_law_1476 ?_
  refine k_aload_n (pc := 1478) C rfl 4 rfl dL_law_1478 ?_
  refine k_aload_n (pc := 1479) C rfl 6 rfl dL_law_1479 ?_
  refine k_iload (pc := 1480) C 1 rfl dL_law_1480 ?_
  refine k_iconst (pc := 1482) C iconst_1 dL_law_1482 ?_
  refine k_iadd (pc := 1483) C dL_law_1483 ?_
  refine k_sld (pc := 1484) (k := n + 1) C hX hbl hbA ((nI_succ n).symm) (by omega) hL dL_law_1484 ?_
  refine k_aload_n (pc := 1485) C rfl 6 rfl dL_law_1485 ?_
  refine k_iload (pc := 1486) C 1 rfl dL_law_1486 ?_
  refine k_iconst (pc := 1488) C iconst_2 dL_law_1488 ?_
  refine k_iadd (pc := 1489) C dL_law_1489 ?_
  refine k_sld (pc := 1490) (k := n + 2) C hX hbl hbA ((nI_2 n)) (by omega) hL dL_law_1490 ?_
  refine k_show (ws2 := [(v 0, moE M.1 (v 1) (v 2) (v 3) (v 4) (v 5)), (v 1, jA cJ 294 M.2.1), (v 2, jA cJ 1764 M.2.2.1), (v 3, jA cJ 294 M.2.2.2.1), (v 4, iA cI 90 M.2.2.2.2.1), (v 5, iA cI 48 M.2.2.2.2.2), (oD, dA cD 1 fd)] ++ (xwW cI cJ cO b o u X2 Y2 fo2 ++ kTl cI Y2)) rfl ?_
  refine k_callVi (pc := 1491) (As := [.int (xs (n + 1)), .int (xs (n + 2))]) (rest := []) (r := a_valueIn M (xs (n + 1)) (xs (n + 2))) (wc := [(v 0, moE M.1 (v 1) (v 2) (v 3) (v 4) (v 5)), (v 1, jA cJ 294 M.2.1), (v 3, jA cJ 294 M.2.2.2.1)]) (wc2 := [(v 0, moE (q_valueIn M (xs (n + 1)) (xs (n + 2))).1 (v 1) (v 2) (v 3) (v 4) (v 5)), (v 1, jA cJ 294 (q_valueIn M (xs (n + 1)) (xs (n + 2))).2.1), (v 3, jA cJ 294 (q_valueIn M (xs (n + 1)) (xs (n + 2))).2.2.2.1)]) (ws2 := [(v 0, moE (q_valueIn M (xs (n + 1)) (xs (n + 2))).1 (v 1) (v 2) (v 3) (v 4) (v 5)), (v 1, jA cJ 294 (q_valueIn M (xs (n + 1)) (xs (n + 2))).2.1), (v 2, jA cJ 1764 M.2.2.1), (v 3, jA cJ 294 (q_valueIn M (xs (n + 1)) (xs (n + 2))).2.2.2.1), (v 4, iA cI 90 M.2.2.2.2.1), (v 5, iA cI 48 M.2.2.2.2.2), (oD, dA cD 1 fd)] ++ (xwW cI cJ cO b o u X2 Y2 fo2 ++ kTl cI Y2)) C (c_X11_valueIn l D cI cJ cO (v 0) (v 1) (v 2) (v 3) (v 4) (v 5) M.1 M.2.1 M.2.2.2.1 (xs (n + 1)) (xs (n + 2)) P hPM hPs hP0) cwv_X11_valueIn q_1245 vX11 0 rfl [0, 1, 3] (kmap_app rfl) rfl (by decide) (kput_app (wc := [(v 0, moE M.1 (v 1) (v 2) (v 3) (v 4) (v 5)), (v 1, jA cJ 294 M.2.1), (v 3, jA cJ 294 M.2.2.2.1)]) rfl rfl) rfl (Nat.le_of_ble_eq_true rfl) ⟨Nat.le_of_ble_eq_true rfl, Nat.le_of_ble_eq_true rfl⟩ rfl ⟨hc.1, hc.2⟩ dL_law_1491 ?_
  refine k_show (ws2 := lawW cI cJ cO cD b o oD u v X2 Y2 (q_valueIn M (xs (n + 1)) (xs (n + 2))) fo2 fd) rfl ?_
  refine k_istore (pc := 1494) (lv2 := [(7, .int (a_valueIn M (xs (n + 1)) (xs (n + 2)))), (6, .int rt), (5, .int (nI n)), (4, .ref oD), (3, .ref o), (2, .ref (v 0)), (1, .ref b), (0, .ref sb)]) C (by decide) rfl dL_law_1494 ?_
  refine k_aload_n (pc := 1496) C rfl 5 rfl dL_law_1496 ?_
  refine k_show (ws2 := [(v 0, moE (q_valueIn M (xs (n + 1)) (xs (n + 2))).1 (v 1) (v 2) (v 3) (v 4) (v 5)), (v 1, jA cJ 294 (q_valueIn M (xs (n + 1)) (xs (n + 2))).2.1), (v 2, jA cJ 1764 (q_valueIn M (xs (n + 1)) (xs (n + 2))).2.2.1), (v 3, jA cJ 294 (q_valueIn M (xs (n + 1)) (xs (n + 2))).2.2.2.1), (v 4, iA cI 90 (q_valueIn M (xs (n + 1)) (xs (n + 2))).2.2.2.2.1), (v 5, iA cI 48 (q_valueIn M (xs (n + 1)) (xs (n + 2))).2.2.2.2.2), (oD, dA cD 1 fd)] ++ (xwW cI cJ cO b o u X2 Y2 fo2 ++ kTl cI Y2)) rfl ?_
  refine k_callVi (pc := 1497) (As := []) (rest := []) (r := (q_valueIn M (xs (n + 1)) (xs (n + 2))).1 7) (wc := [(v 0, moE (q_valueIn M (xs (n + 1)) (xs (n + 2))).1 (v 1) (v 2) (v 3) (v 4) (v 5))]) (wc2 := [(v 0, moE (q_valueIn M (xs (n + 1)) (xs (n + 2))).1 (v 1) (v 2) (v 3) (v 4) (v 5))]) (ws2 := [(v 0, moE (q_valueIn M (xs (n + 1)) (xs (n + 2))).1 (v 1) (v 2) (v 3) (v 4) (v 5)), (v 1, jA cJ 294 (q_valueIn M (xs (n + 1)) (xs (n + 2))).2.1), (v 2, jA cJ 1764 (q_valueIn M (xs (n + 1)) (xs (n + 2))).2.2.1), (v 3, jA cJ 294 (q_valueIn M (xs (n + 1)) (xs (n + 2))).2.2.2.1), (v 4, iA cI 90 (q_valueIn M (xs (n + 1)) (xs (n + 2))).2.2.2.2.1), (v 5, iA cI 48 (q_valueIn M (xs (n + 1)) (xs (n + 2))).2.2.2.2.2), (oD, dA cD 1 fd)] ++ (xwW cI cJ cO b o u X2 Y2 fo2 ++ kTl cI Y2)) C (c_X11_thrown l D cI cJ cO (v 0) (v 1) (v 2) (v 3) (v 4) (v 5) (q_valueIn M (xs (n + 1)) (xs (n + 2))).1) cwv_X11_thrown q_1042 vX11 0 rfl [0] (kmap_app rfl) rfl (by decide) (kput_app (wc := [(v 0, moE (q_valueIn M (xs (n + 1)) (xs (n + 2))).1 (v 1) (v 2) (v 3) (v 4) (v 5))]) rfl rfl) rfl (Nat.le_of_ble_eq_true rfl) ⟨Nat.le_of_ble_eq_true rfl, Nat.le_of_ble_eq_true rfl⟩ rfl ⟨hc.1, hc.2⟩ dL_law_1497 ?_
  refine k_show (ws2 := lawW cI cJ cO cD b o oD u v X2 Y2 (q_valueIn M (xs (n + 1)) (xs (n + 2))) fo2 fd) rfl ?_
  refine k_iload (pc := 1500) C 1 rfl dL_law_1500 ?_
  refine k_icmp_eq (pc := 1502) (tgt := 1507) C dL_law_1502 (by decide) (fun _ => ?_) (fun q => absurd hth q)
  refine k_iload (pc := 1507) C 1 rfl dL_law_1507 ?_
  refine k_if_ne (pc := 1509) (tgt := 1524) C dL_law_1509 (by decide) (fun _ => k_goto (pc := 1524) (tgt := 1809) C (by decide) dL_law_1524 (k_lpick (lv2 := [(5, .int (nI n)), (4, .ref oD), (3, .ref o), (2, .ref (v 0)), (1, .ref b), (0, .ref sb)]) [2, 3, 4, 5, 6, 7] rfl (hk X2 Y2 fo2 hR2))) (fun h0 => ?_)
  refine k_aload_n (pc := 1512) C rfl 4 rfl dL_law_1512 ?_
  refine k_iconst (pc := 1513) C iconst_0 dL_law_1513 ?_
  refine k_laldK (pc := 1514) (v := (a_valueIn M (xs (n + 1)) (xs (n + 2))).toInt64) C 7 1 rfl rfl (k_vinc 0 cl_0 (by decide) (by decide)) cl_0 (hout h0) dL_law_1514 ?_
  refine k_iload (pc := 1515) C 0 rfl dL_law_1515 ?_
  refine k_i2l (pc := 1517) C dL_law_1517 ?_
  exact k_lcmp_eq (pc := 1518) (tgt := 1524) C dL_law_1518 dL_law_1519 (by decide) (fun _ => k_goto (pc := 1524) (tgt := 1809) C (by decide) dL_law_1524 (k_lpick (lv2 := [(5, .int (nI n)), (4, .ref oD), (3, .ref o), (2, .ref (v 0)), (1, .ref b), (0, .ref sb)]) [2, 3, 4, 5, 6, 7] rfl (hk X2 Y2 fo2 hR2))) (fun q => absurd rfl q)
def q_doneIn (M : kMS) : kMS := ((s_X11_doneIn M.1 M.2.1 M.2.2.2.1).2.1, (s_X11_doneIn M.1 M.2.1 M.2.2.2.1).2.2.1, M.2.2.1, (s_X11_doneIn M.1 M.2.1 M.2.2.2.1).2.2.2, M.2.2.2.2.1, M.2.2.2.2.2)
def a_doneIn (M : kMS) : Int32 := (s_X11_doneIn M.1 M.2.1 M.2.2.2.1).1
theorem cwW_L_doneIn : Cond.codeWith yL_doneIn cL_doneIn 3 (some .int) [(0, 8, 11, 24)] ∈ lw_all ∧ Cond.initialized yL_doneIn.cls ∈ lw_all ∧ Cond.static yL_doneIn ∈ lw_all ∧ (yL_doneIn.cls ≠ "java/lang/invoke/MethodHandle" ∧ yL_doneIn.cls ≠ "java/lang/invoke/VarHandle" ∧ (parseMethodDescriptor yL_doneIn.desc).map (fun d => d.parameters.length) = some 2) := ⟨q_935, q_40, q_934, by decide +kernel⟩
set_option maxRecDepth 100000 in
set_option maxHeartbeats 8000000 in
theorem law_22 {p : Program} {l : Launch} {e : Env} {s : State} {m : MethodId} {args : Array Value} {below : List Frame} {meth : Method} {c : Code} {cells slots : Nat} {Q : State → Prop} {D : va_G} {A : Nat → Prop} {ret : Option FieldType} {cI cJ cO cD : ClassId} {z : zT} {sb L b o oD n : Nat} {u v : Nat → Nat} {xs : Nat → Int32} (C4 : KC p s m args meth c cL_law 9 RL ret D (kT4 cI cJ cO cD) A) (hZ : kZ z A s s.heap) (hX : va_X sb L xs s s.heap) (hbl : sb < s.heap.size) (hbA : ¬ A sb) (hL : L ≤ 2560) (hn : n + 5 ≤ L) (hc : cells + 26 ≤ room_1.cells ∧ slots + 331 ≤ room_1.slots) {X : kXS} {Y : kTS} {M : kMS} {fo : Nat → Int64} {fd : Nat → UInt64} {R : kXS → kTS → kMS → Prop} (hs : lStep l D cI cJ cO z yL_doneIn cL_doneIn 3 [(0, 8, 11, 24)] [.ref b, .ref o] b o u X Y fo (a_doneIn M) ((q_doneIn M).1 7) (fun X2 Y2 => R X2 Y2 (q_doneIn M))) (P : (Nat → Int64) → Prop) (hPM : ∀ (f : Nat → Int32) (w : Nat → Int64), P w → kMI f w) (hPs : ∀ (f : Nat → Int32) (w : Nat → Int64), P w → P (s_X11_minute f w)) (hP0 : P M.2.1) (hk : ∀ (X2 : kXS) (Y2 : kTS) (fo2 : Nat → Int64), R X2 Y2 (q_doneIn M) → KJ p l e room_1 s m args below meth c (cells + 26) (slots + 331) Q D A 9 (lawW cI cJ cO cD b o oD u v X2 Y2 (q_doneIn M) fo2 fd) [(5, .int (nI n)), (4, .ref oD), (3, .ref o), (2, .ref (v 0)), (1, .ref b), (0, .ref sb)] [] 1809) : KJ p l e room_1 s m args below meth c cells slots Q D A 9 (lawW cI cJ cO cD b o oD u v X Y M fo fd) [(5, .int (nI n)), (4, .ref oD), (3, .ref o), (2, .ref (v 0)), (1, .ref b), (0, .ref sb)] [] 1527 := by
  have C := KC.t4 C4
  refine k_aload_n (pc := 1527) C rfl 4 rfl dL_law_1527 ?_
  refine k_aload_n (pc := 1528) C rfl 2 rfl dL_law_1528 ?_
  refine k_lstep (pc := 1529) (As := [.ref b, .ref o]) (rest := []) C hZ hs cwW_L_doneIn q_933 rfl (Nat.le_of_ble_eq_true rfl) ⟨Nat.le_of_ble_eq_true rfl, Nat.le_of_ble_eq_true rfl⟩ rfl hc dL_law_1529 (fun rt X2 Y2 fo2 hth hout hR2 => ?_)
  refine k_istore (pc := 1532) (lv2 := [(6, .int rt), (5, .int (nI n)), (4, .ref oD), (3, .ref o), (2, .ref (v 0)), (1, .ref b), (0, .ref sb)]) C (by decide) rfl dL_law_1532 ?_
  refine k_aload_n (pc := 1534) C rfl 4 rfl dL_law_1534 ?_
  refine k_show (ws2 := [(v 0, moE M.1 (v 1) (v 2) (v 3) (v 4) (v 5)), (v 1, jA cJ 294 M.2.1), (v 2, jA cJ 1764 M.2.2.1), (v 3, jA cJ 294 M.2.2.2.1), (v 4, iA cI 90 M.2.2.2.2.1), (v 5, iA cI 48 M.2.2.2.2.2), (oD, dA cD 1 fd)] ++ (xwW cI cJ cO b o u X2 Y2 fo2 ++ kTl cI Y2)) rfl ?_
  refine k_callVi (pc := 1535) (As := []) (rest := []) (r := a_doneIn M) (wc := [(v 0, moE M.1 (v 1) (v 2) (v 3) (v 4) (v 5)), (v 1, jA cJ 294 M.2.1), (v 3, jA cJ 294 M.2.2.2.1)]) (wc2 := [(v 0, moE (q_doneIn M).1 (v 1) (v 2) (v 3) (v 4) (v 5)), (v 1, jA cJ 294 (q_doneIn M).2.1), (v 3, jA cJ 294 (q_doneIn M).2.2.2.1)]) (ws2 := [(v 0, moE (q_doneIn M).1 (v 1) (v 2) (v 3) (v 4) (v 5)), (v 1, jA cJ 294 (q_doneIn M).2.1), (v 2, jA cJ 1764 M.2.2.1), (v 3, jA cJ 294 (q_doneIn M).2.2.2.1), (v 4, iA cI 90 M.2.2.2.2.1), (v 5, iA cI 48 M.2.2.2.2.2), (oD, dA cD 1 fd)] ++ (xwW cI cJ cO b o u X2 Y2 fo2 ++ kTl cI Y2)) C (c_X11_doneIn l D cI cJ cO (v 0) (v 1) (v 2) (v 3) (v 4) (v 5) M.1 M.2.1 M.2.2.2.1 P hPM hPs hP0) cwv_X11_doneIn q_1258 vX11 0 rfl [0, 1, 3] (kmap_app rfl) rfl (by decide) (kput_app (wc := [(v 0, moE M.1 (v 1) (v 2) (v 3) (v 4) (v 5)), (v 1, jA cJ 294 M.2.1), (v 3, jA cJ 294 M.2.2.2.1)]) rfl rfl) rfl (Nat.le_of_ble_eq_true rfl) ⟨Nat.le_of_ble_eq_true rfl, Nat.le_of_ble_eq_true rfl⟩ rfl ⟨hc.1, hc.2⟩ dL_law_1535 ?_
  refine k_show (ws2 := lawW cI cJ cO cD b o oD u v X2 Y2 (q_doneIn M) fo2 fd) rfl ?_
  refine k_istore (pc := 1538) (lv2 := [(7, .int (a_doneIn M)), (6, .int rt), (5, .int (nI n)), (4, .ref oD), (3, .ref o), (2, .ref (v 0)), (1, .ref b), (0, .ref sb)]) C (by decide) rfl dL_law_1538 ?_
  refine k_aload_n (pc := 1540) C rfl 5 rfl dL_law_1540 ?_
  refine k_show (ws2 := [(v 0, moE (q_doneIn M).1 (v 1) (v 2) (v 3) (v 4) (v 5)), (v 1, jA cJ 294 (q_doneIn M).2.1), (v 2, jA cJ 1764 (q_doneIn M).2.2.1), (v 3, jA cJ 294 (q_doneIn M).2.2.2.1), (v 4, iA cI 90 (q_doneIn M).2.2.2.2.1), (v 5, iA cI 48 (q_doneIn M).2.2.2.2.2), (oD, dA cD 1 fd)] ++ (xwW cI cJ cO b o u X2 Y2 fo2 ++ kTl cI Y2)) rfl ?_
  refine k_callVi (pc := 1541) (As := []) (rest := []) (r := (q_doneIn M).1 7) (wc := [(v 0, moE (q_doneIn M).1 (v 1) (v 2) (v 3) (v 4) (v 5))]) (wc2 := [(v 0, moE (q_doneIn M).1 (v 1) (v 2) (v 3) (v 4) (v 5))]) (ws2 := [(v 0, moE (q_doneIn M).1 (v 1) (v 2) (v 3) (v 4) (v 5)), (v 1, jA cJ 294 (q_doneIn M).2.1), (v 2, jA cJ 1764 (q_doneIn M).2.2.1), (v 3, jA cJ 294 (q_doneIn M).2.2.2.1), (v 4, iA cI 90 (q_doneIn M).2.2.2.2.1), (v 5, iA cI 48 (q_doneIn M).2.2.2.2.2), (oD, dA cD 1 fd)] ++ (xwW cI cJ cO b o u X2 Y2 fo2 ++ kTl cI Y2)) C (c_X11_thrown l D cI cJ cO (v 0) (v 1) (v 2) (v 3) (v 4) (v 5) (q_doneIn M).1) cwv_X11_thrown q_1042 vX11 0 rfl [0] (kmap_app rfl) rfl (by decide) (kput_app (wc := [(v 0, moE (q_doneIn M).1 (v 1) (v 2) (v 3) (v 4) (v 5))]) rfl rfl) rfl (Nat.le_of_ble_eq_true rfl) ⟨Nat.le_of_ble_eq_true rfl, Nat.le_of_ble_eq_true rfl⟩ rfl ⟨hc.1, hc.2⟩ dL_law_1541 ?_
  refine k_show (ws2 := lawW cI cJ cO cD b o oD u v X2 Y2 (q_doneIn M) fo2 fd) rfl ?_
  refine k_iload (pc := 1544) C 1 rfl dL_law_1544 ?_
  refine k_icmp_eq (pc := 1546) (tgt := 1551) C dL_law_1546 (by decide) (fun _ => ?_) (fun q => absurd hth q)
  refine k_iload (pc := 1551) C 1 rfl dL_law_1551 ?_
  refine k_if_ne (pc := 1553) (tgt := 1568) C dL_law_1553 (by decide) (fun _ => k_goto (pc := 1568) (tgt := 1809) C (by decide) dL_law_1568 (k_lpick (lv2 := [(5, .int (nI n)), (4, .ref oD), (3, .ref o), (2, .ref (v 0)), (1, .ref b), (0, .ref sb)]) [2, 3, 4, 5, 6, 7] rfl (hk X2 Y2 fo2 hR2))) (fun h0 => ?_)
  refine k_aload_n (pc := 1556) C rfl 4 rfl dL_law_1556 ?_
  refine k_iconst (pc := 1557) C iconst_0 dL_law_1557 ?_
  refine k_laldK (pc := 1558) (v := (a_doneIn M).toInt64) C 7 1 rfl rfl (k_vinc 0 cl_0 (by decide) (by decide)) cl_0 (hout h0) dL_law_1558 ?_
  refine k_iload (pc := 1559) C 0 rfl dL_law_1559 ?_
  refine k_i2l (pc := 1561) C dL_law_1561 ?_
  exact k_lcmp_eq (pc := 1562) (tgt := 1568) C dL_law_1562 dL_law_1563 (by decide) (fun _ => k_goto (pc := 1568) (tgt := 1809) C (by decide) dL_law_1568 (k_lpick (lv2 := [(5, .int (nI n)), (4, .ref oD), (3, .ref o), (2, .ref (v 0)), (1, .ref b), (0, .ref sb)]) [2, 3, 4, 5, 6, 7] rfl (hk X2 Y2 fo2 hR2))) (fun q => absurd rfl q)
def q_reachIn (M : kMS) (p0 : Int32) : kMS := ((s_X11_reachIn M.1 M.2.1 M.2.2.2.1 p0).2.1, (s_X11_reachIn M.1 M.2.1 M.2.2.2.1 p0).2.2.1, M.2.2.1, (s_X11_reachIn M.1 M.2.1 M.2.2.2.1 p0).2.2.2, M.2.2.2.2.1, M.2.2.2.2.2)
def a_reachIn (M : kMS) (p0 : Int32) : Int32 := (s_X11_reachIn M.1 M.2.1 M.2.2.2.1 p0).1
theorem cwW_L_reachIn : Cond.codeWith yL_reachIn cL_reachIn 4 (some .int) [(0, 9, 12, 15)] ∈ lw_all ∧ Cond.initialized yL_reachIn.cls ∈ lw_all ∧ Cond.static yL_reachIn ∈ lw_all ∧ (yL_reachIn.cls ≠ "java/lang/invoke/MethodHandle" ∧ yL_reachIn.cls ≠ "java/lang/invoke/VarHandle" ∧ (parseMethodDescriptor yL_reachIn.desc).map (fun d => d.parameters.length) = some 3) := ⟨q_943, q_40, q_942, by decide +kernel⟩
set_option maxRecDepth 100000 in
set_option maxHeartbeats 8000000 in
theorem law_23 {p : Program} {l : Launch} {e : Env} {s : State} {m : MethodId} {args : Array Value} {below : List Frame} {meth : Method} {c : Code} {cells slots : Nat} {Q : State → Prop} {D : va_G} {A : Nat → Prop} {ret : Option FieldType} {cI cJ cO cD : ClassId} {z : zT} {sb L b o oD n : Nat} {u v : Nat → Nat} {xs : Nat → Int32} (C4 : KC p s m args meth c cL_law 9 RL ret D (kT4 cI cJ cO cD) A) (hZ : kZ z A s s.heap) (hX : va_X sb L xs s s.heap) (hbl : sb < s.heap.size) (hbA : ¬ A sb) (hL : L ≤ 2560) (hn : n + 5 ≤ L) (hc : cells + 26 ≤ room_1.cells ∧ slots + 331 ≤ room_1.slots) {X : kXS} {Y : kTS} {M : kMS} {fo : Nat → Int64} {fd : Nat → UInt64} {R : kXS → kTS → kMS → Prop} (hs : lStep l D cI cJ cO z yL_reachIn cL_reachIn 4 [(0, 9, 12, 15)] [.ref b, .int (xs (n + 1)), .ref o] b o u X Y fo (a_reachIn M (xs (n + 1))) ((q_reachIn M (xs (n + 1))).1 7) (fun X2 Y2 => R X2 Y2 (q_reachIn M (xs (n + 1))))) (P : (Nat → Int64) → Prop) (hPM : ∀ (f : Nat → Int32) (w : Nat → Int64), P w → kMI f w) (hPs : ∀ (f : Nat → Int32) (w : Nat → Int64), P w → P (s_X11_minute f w)) (hP0 : P (vp_updL (vp_updL (vp_updL M.2.1 33 0) 16 0) 14 (Int32.toInt64 (xs (n + 1))))) (hk : ∀ (X2 : kXS) (Y2 : kTS) (fo2 : Nat → Int64), R X2 Y2 (q_reachIn M (xs (n + 1))) → KJ p l e room_1 s m args below meth c (cells + 26) (slots + 331) Q D A 9 (lawW cI cJ cO cD b o oD u v X2 Y2 (q_reachIn M (xs (n + 1))) fo2 fd) [(5, .int (nI n)), (4, .ref oD), (3, .ref o), (2, .ref (v 0)), (1, .ref b), (0, .ref sb)] [] 1809) : KJ p l e room_1 s m args below meth c cells slots Q D A 9 (lawW cI cJ cO cD b o oD u v X Y M fo fd) [(5, .int (nI n)), (4, .ref oD), (3, .ref o), (2, .ref (v 0)), (1, .ref b), (0, .ref sb)] [] 1571 := by
  have C := KC.t4 C4
  refine k_aload_n (pc := 1571) C rfl 4 rfl dL_law_1571 ?_
  refine k_aload_n (pc := 1572) C rfl 5 rfl dL_law_1572 ?_
  refine k_iload (pc := 1573) C 0 rfl dL_law_1573 ?_
  refine k_iconst (pc := 1575) C iconst_1 dL_law_1575 ?_
  refine k_iadd (pc := 1576) C dL_law_1576 ?_
  refine k_sld (pc := 1577) (k := n + 1) C hX hbl hbA ((nI_succ n).symm) (by omega) hL dL_law_1577 ?_
  refine k_aload_n (pc := 1578) C rfl 2 rfl dL_law_1578 ?_
  refine k_lstep (pc := 1579) (As := [.ref b, .int (xs (n + 1)), .ref o]) (rest := []) C hZ hs cwW_L_reachIn q_941 rfl (Nat.le_of_ble_eq_true rfl) ⟨Nat.le_of_ble_eq_true rfl, Nat.le_of_ble_eq_true rfl⟩ rfl hc dL_law_1579 (fun rt X2 Y2 fo2 hth hout hR2 => ?_)
  refine k_istore (pc := 1582) (lv2 := [(6, .int rt), (5, .int (nI n)), (4, .ref oD), (3, .ref o), (2, .ref (v 0)), (1, .ref b), (0, .ref sb)]) C (by decide) rfl dL_law_1582 ?_
  refine k_aload_n (pc := 1584) C rfl 4 rfl dL_law_1584 ?_
  refine k_aload_n (pc := 1585) C rfl 6 rfl dL_law_1585 ?_
  refine k_iload (pc := 1586) C 1 rfl dL_law_1586 ?_
  refine k_iconst (pc := 1588) C iconst_1 dL_law_1588 ?_
  refine k_iadd (pc := 1589) C dL_law_1589 ?_
  refine k_sld (pc := 1590) (k := n + 1) C hX hbl hbA ((nI_succ n).symm) (by omega) hL dL_law_1590 ?_
  refine k_show (ws2 := [(v 0, moE M.1 (v 1) (v 2) (v 3) (v 4) (v 5)), (v 1, jA cJ 294 M.2.1), (v 2, jA cJ 1764 M.2.2.1), (v 3, jA cJ 294 M.2.2.2.1), (v 4, iA cI 90 M.2.2.2.2.1), (v 5, iA cI 48 M.2.2.2.2.2), (oD, dA cD 1 fd)] ++ (xwW cI cJ cO b o u X2 Y2 fo2 ++ kTl cI Y2)) rfl ?_
  refine k_callVi (pc := 1591) (As := [.int (xs (n + 1))]) (rest := []) (r := a_reachIn M (xs (n + 1))) (wc := [(v 0, moE M.1 (v 1) (v 2) (v 3) (v 4) (v 5)), (v 1, jA cJ 294 M.2.1), (v 3, jA cJ 294 M.2.2.2.1)]) (wc2 := [(v 0, moE (q_reachIn M (xs (n + 1))).1 (v 1) (v 2) (v 3) (v 4) (v 5)), (v 1, jA cJ 294 (q_reachIn M (xs (n + 1))).2.1), (v 3, jA cJ 294 (q_reachIn M (xs (n + 1))).2.2.2.1)]) (ws2 := [(v 0, moE (q_reachIn M (xs (n + 1))).1 (v 1) (v 2) (v 3) (v 4) (v 5)), (v 1, jA cJ 294 (q_reachIn M (xs (n + 1))).2.1), (v 2, jA cJ 1764 M.2.2.1), (v 3, jA cJ 294 (q_reachIn M (xs (n + 1))).2.2.2.1), (v 4, iA cI 90 M.2.2.2.2.1), (v 5, iA cI 48 M.2.2.2.2.2), (oD, dA cD 1 fd)] ++ (xwW cI cJ cO b o u X2 Y2 fo2 ++ kTl cI Y2)) C (c_X11_reachIn l D cI cJ cO (v 0) (v 1) (v 2) (v 3) (v 4) (v 5) M.1 M.2.1 M.2.2.2.1 (xs (n + 1)) P hPM hPs hP0) cwv_X11_reachIn q_1262 vX11 0 rfl [0, 1, 3] (kmap_app rfl) rfl (by decide) (kput_app (wc := [(v 0, moE M.1 (v 1) (v 2) (v 3) (v 4) (v 5)), (v 1, jA cJ 294 M.2.1), (v 3, jA cJ 294 M.2.2.2.1)]) rfl rfl) rfl (Nat.le_of_ble_eq_true rfl) ⟨Nat.le_of_ble_eq_true rfl, Nat.le_of_ble_eq_true rfl⟩ rfl ⟨hc.1, hc.2⟩ dL_law_1591 ?_
  refine k_show (ws2 := lawW cI cJ cO cD b o oD u v X2 Y2 (q_reachIn M (xs (n + 1))) fo2 fd) rfl ?_
  refine k_istore (pc := 1594) (lv2 := [(7, .int (a_reachIn M (xs (n + 1)))), (6, .int rt), (5, .int (nI n)), (4, .ref oD), (3, .ref o), (2, .ref (v 0)), (1, .ref b), (0, .ref sb)]) C (by decide) rfl dL_law_1594 ?_
  refine k_aload_n (pc := 1596) C rfl 5 rfl dL_law_1596 ?_
  refine k_show (ws2 := [(v 0, moE (q_reachIn M (xs (n + 1))).1 (v 1) (v 2) (v 3) (v 4) (v 5)), (v 1, jA cJ 294 (q_reachIn M (xs (n + 1))).2.1), (v 2, jA cJ 1764 (q_reachIn M (xs (n + 1))).2.2.1), (v 3, jA cJ 294 (q_reachIn M (xs (n + 1))).2.2.2.1), (v 4, iA cI 90 (q_reachIn M (xs (n + 1))).2.2.2.2.1), (v 5, iA cI 48 (q_reachIn M (xs (n + 1))).2.2.2.2.2), (oD, dA cD 1 fd)] ++ (xwW cI cJ cO b o u X2 Y2 fo2 ++ kTl cI Y2)) rfl ?_
  refine k_callVi (pc := 1597) (As := []) (rest := []) (r := (q_reachIn M (xs (n + 1))).1 7) (wc := [(v 0, moE (q_reachIn M (xs (n + 1))).1 (v 1) (v 2) (v 3) (v 4) (v 5))]) (wc2 := [(v 0, moE (q_reachIn M (xs (n + 1))).1 (v 1) (v 2) (v 3) (v 4) (v 5))]) (ws2 := [(v 0, moE (q_reachIn M (xs (n + 1))).1 (v 1) (v 2) (v 3) (v 4) (v 5)), (v 1, jA cJ 294 (q_reachIn M (xs (n + 1))).2.1), (v 2, jA cJ 1764 (q_reachIn M (xs (n + 1))).2.2.1), (v 3, jA cJ 294 (q_reachIn M (xs (n + 1))).2.2.2.1), (v 4, iA cI 90 (q_reachIn M (xs (n + 1))).2.2.2.2.1), (v 5, iA cI 48 (q_reachIn M (xs (n + 1))).2.2.2.2.2), (oD, dA cD 1 fd)] ++ (xwW cI cJ cO b o u X2 Y2 fo2 ++ kTl cI Y2)) C (c_X11_thrown l D cI cJ cO (v 0) (v 1) (v 2) (v 3) (v 4) (v 5) (q_reachIn M (xs (n + 1))).1) cwv_X11_thrown q_1042 vX11 0 rfl [0] (kmap_app rfl) rfl (by decide) (kput_app (wc := [(v 0, moE (q_reachIn M (xs (n + 1))).1 (v 1) (v 2) (v 3) (v 4) (v 5))]) rfl rfl) rfl (Nat.le_of_ble_eq_true rfl) ⟨Nat.le_of_ble_eq_true rfl, Nat.le_of_ble_eq_true rfl⟩ rfl ⟨hc.1, hc.2⟩ dL_law_1597 ?_
  refine k_show (ws2 := lawW cI cJ cO cD b o oD u v X2 Y2 (q_reachIn M (xs (n + 1))) fo2 fd) rfl ?_
  refine k_iload (pc := 1600) C 1 rfl dL_law_1600 ?_
  refine k_icmp_eq (pc := 1602) (tgt := 1607) C dL_law_1602 (by decide) (fun _ => ?_) (fun q => absurd hth q)
  refine k_iload (pc := 1607) C 1 rfl dL_law_1607 ?_
  refine k_if_ne (pc := 1609) (tgt := 1624) C dL_law_1609 (by decide) (fun _ => k_goto (pc := 1624) (tgt := 1809) C (by decide) dL_law_1624 (k_lpick (lv2 := [(5, .int (nI n)), (4, .ref oD), (3, .ref o), (2, .ref (v 0)), (1, .ref b), (0, .ref sb)]) [2, 3, 4, 5, 6, 7] rfl (hk X2 Y2 fo2 hR2))) (fun h0 => ?_)
  refine k_aload_n (pc := 1612) C rfl 4 rfl dL_law_1612 ?_
  refine k_iconst (pc := 1613) C iconst_0 dL_law_1613 ?_
  refine k_laldK (pc := 1614) (v := (a_reachIn M (xs (n + 1))).toInt64) C 7 1 rfl rfl (k_vinc 0 cl_0 (by decide) (by decide)) cl_0 (hout h0) dL_law_1614 ?_
  refine k_iload (pc := 1615) C 0 rfl dL_law_1615 ?_
  refine k_i2l (pc := 1617) C dL_law_1617 ?_
  exact k_lcmp_eq (pc := 1618) (tgt := 1624) C dL_law_1618 dL_law_1619 (by decide) (fun _ => k_goto (pc := 1624) (tgt := 1809) C (by decide) dL_law_1624 (k_lpick (lv2 := [(5, .int (nI n)), (4, .ref oD), (3, .ref o), (2, .ref (v 0)), (1, .ref b), (0, .ref sb)]) [2, 3, 4, 5, 6, 7] rfl (hk X2 Y2 fo2 hR2))) (fun q => absurd rfl q)
def q_bestMode (M : kMS) (p0 : Int32) : kMS := ((s_X11_bestMode M.1 M.2.1 M.2.2.2.1 p0).2.1, (s_X11_bestMode M.1 M.2.1 M.2.2.2.1 p0).2.2.1, M.2.2.1, (s_X11_bestMode M.1 M.2.1 M.2.2.2.1 p0).2.2.2, M.2.2.2.2.1, M.2.2.2.2.2)
def a_bestMode (M : kMS) (p0 : Int32) : Int32 := (s_X11_bestMode M.1 M.2.1 M.2.2.2.1 p0).1
theorem cwW_L_bestMode : Cond.codeWith yL_bestMode cL_bestMode 4 (some .int) [(0, 9, 12, 15)] ∈ lw_all ∧ Cond.initialized yL_bestMode.cls ∈ lw_all ∧ Cond.static yL_bestMode ∈ lw_all ∧ (yL_bestMode.cls ≠ "java/lang/invoke/MethodHandle" ∧ yL_bestMode.cls ≠ "java/lang/invoke/VarHandle" ∧ (parseMethodDescriptor yL_bestMode.desc).map (fun d => d.parameters.length) = some 3) := ⟨q_951, q_40, q_950, by decide +kernel⟩
set_option maxRecDepth 100000 in
set_option maxHeartbeats 8000000 in
theorem law_24 {p : Program} {l : Launch} {e : Env} {s : State} {m : MethodId} {args : Array Value} {below : List Frame} {meth : Method} {c : Code} {cells slots : Nat} {Q : State → Prop} {D : va_G} {A : Nat → Prop} {ret : Option FieldType} {cI cJ cO cD : ClassId} {z : zT} {sb L b o oD n : Nat} {u v : Nat → Nat} {xs : Nat → Int32} (C4 : KC p s m args meth c cL_law 9 RL ret D (kT4 cI cJ cO cD) A) (hZ : kZ z A s s.heap) (hX : va_X sb L xs s s.heap) (hbl : sb < s.heap.size) (hbA : ¬ A sb) (hL : L ≤ 2560) (hn : n + 5 ≤ L) (hc : cells + 26 ≤ room_1.cells ∧ slots + 331 ≤ room_1.slots) {X : kXS} {Y : kTS} {M : kMS} {fo : Nat → Int64} {fd : Nat → UInt64} {R : kXS → kTS → kMS → Prop} (hs : lStep l D cI cJ cO z yL_bestMode cL_bestMode 4 [(0, 9, 12, 15)] [.ref b, .int (xs (n + 1)), .ref o] b o u X Y fo (a_bestMode M (xs (n + 1))) ((q_bestMode M (xs (n + 1))).1 7) (fun X2 Y2 => R X2 Y2 (q_bestMode M (xs (n + 1))))) (P : (Nat → Int64) → Prop) (hPM : ∀ (f : Nat → Int32) (w : Nat → Int64), P w → kMI f w) (hPs : ∀ (f : Nat → Int32) (w : Nat → Int64), P w → P (s_X11_minute f w)) (hPm : ∀ (v : Nat → Int64) (m : Int32), (∀ k : Nat, k < 294 → v k = M.2.1 k) → kIn m 0 2 → P (vp_updL v 17 (Int32.toInt64 m))) (hk : ∀ (X2 : kXS) (Y2 : kTS) (fo2 : Nat → Int64), R X2 Y2 (q_bestMode M (xs (n + 1))) → KJ p l e room_1 s m args below meth c (cells + 26) (slots + 331) Q D A 9 (lawW cI cJ cO cD b o oD u v X2 Y2 (q_bestMode M (xs (n + 1))) fo2 fd) [(5, .int (nI n)), (4, .ref oD), (3, .ref o), (2, .ref (v 0)), (1, .ref b), (0, .ref sb)] [] 1809) : KJ p l e room_1 s m args below meth c cells slots Q D A 9 (lawW cI cJ cO cD b o oD u v X Y M fo fd) [(5, .int (nI n)), (4, .ref oD), (3, .ref o), (2, .ref (v 0)), (1, .ref b), (0, .ref sb)] [] 1627 := by
  have C := KC.t4 C4
  refine k_aload_n (pc := 1627) C rfl 4 rfl dL_law_1627 ?_
  refine k_aload_n (pc := 1628) C rfl 5 rfl dL_law_1628 ?_
  refine k_iload (pc := 1629) C 0 rfl dL_law_1629 ?_
  refine k_iconst (pc := 1631) C iconst_1 dL_law_1631 ?_
  refine k_iadd (pc := 1632) C dL_law_1632 ?_
  refine k_sld (pc := 1633) (k := n + 1) C hX hbl hbA ((nI_succ n).symm) (by omega) hL dL_law_1633 ?_
  refine k_aload_n (pc := 1634) C rfl 2 rfl dL_law_1634 ?_
  refine k_lstep (pc := 1635) (As := [.ref b, .int (xs (n + 1)), .ref o]) (rest := []) C hZ hs cwW_L_bestMode q_949 rfl (Nat.le_of_ble_eq_true rfl) ⟨Nat.le_of_ble_eq_true rfl, Nat.le_of_ble_eq_true rfl⟩ rfl hc dL_law_1635 (fun rt X2 Y2 fo2 hth hout hR2 => ?_)
  refine k_istore (pc := 1638) (lv2 := [(6, .int rt), (5, .int (nI n)), (4, .ref oD), (3, .ref o), (2, .ref (v 0)), (1, .ref b), (0, .ref sb)]) C (by decide) rfl dL_law_1638 ?_
  refine k_aload_n (pc := 1640) C rfl 4 rfl dL_law_1640 ?_
  refine k_aload_n (pc := 1641) C rfl 6 rfl dL_law_1641 ?_
  refine k_iload (pc := 1642) C 1 rfl dL_law_1642 ?_
  refine k_iconst (pc := 1644) C iconst_1 dL_law_1644 ?_
  refine k_iadd (pc := 1645) C dL_law_1645 ?_
  refine k_sld (pc := 1646) (k := n + 1) C hX hbl hbA ((nI_succ n).symm) (by omega) hL dL_law_1646 ?_
  refine k_show (ws2 := [(v 0, moE M.1 (v 1) (v 2) (v 3) (v 4) (v 5)), (v 1, jA cJ 294 M.2.1), (v 2, jA cJ 1764 M.2.2.1), (v 3, jA cJ 294 M.2.2.2.1), (v 4, iA cI 90 M.2.2.2.2.1), (v 5, iA cI 48 M.2.2.2.2.2), (oD, dA cD 1 fd)] ++ (xwW cI cJ cO b o u X2 Y2 fo2 ++ kTl cI Y2)) rfl ?_
  refine k_callVi (pc := 1647) (As := [.int (xs (n + 1))]) (rest := []) (r := a_bestMode M (xs (n + 1))) (wc := [(v 0, moE M.1 (v 1) (v 2) (v 3) (v 4) (v 5)), (v 1, jA cJ 294 M.2.1), (v 3, jA cJ 294 M.2.2.2.1)]) (wc2 := [(v 0, moE (q_bestMode M (xs (n + 1))).1 (v 1) (v 2) (v 3) (v 4) (v 5)), (v 1, jA cJ 294 (q_bestMode M (xs (n + 1))).2.1), (v 3, jA cJ 294 (q_bestMode M (xs (n + 1))).2.2.2.1)]) (ws2 := [(v 0, moE (q_bestMode M (xs (n + 1))).1 (v 1) (v 2) (v 3) (v 4) (v 5)), (v 1, jA cJ 294 (q_bestMode M (xs (n + 1))).2.1), (v 2, jA cJ 1764 M.2.2.1), (v 3, jA cJ 294 (q_bestMode M (xs (n + 1))).2.2.2.1), (v 4, iA cI 90 M.2.2.2.2.1), (v 5, iA cI 48 M.2.2.2.2.2), (oD, dA cD 1 fd)] ++ (xwW cI cJ cO b o u X2 Y2 fo2 ++ kTl cI Y2)) C (c_X11_bestMode l D cI cJ cO (v 0) (v 1) (v 2) (v 3) (v 4) (v 5) M.1 M.2.1 M.2.2.2.1 (xs (n + 1)) P hPM hPs hPm) cwv_X11_bestMode q_1266 vX11 0 rfl [0, 1, 3] (kmap_app rfl) rfl (by decide) (kput_app (wc := [(v 0, moE M.1 (v 1) (v 2) (v 3) (v 4) (v 5)), (v 1, jA cJ 294 M.2.1), (v 3, jA cJ 294 M.2.2.2.1)]) rfl rfl) rfl (Nat.le_of_ble_eq_true rfl) ⟨Nat.le_of_ble_eq_true rfl, Nat.le_of_ble_eq_true rfl⟩ rfl ⟨hc.1, hc.2⟩ dL_law_1647 ?_
  refine k_show (ws2 := lawW cI cJ cO cD b o oD u v X2 Y2 (q_bestMode M (xs (n + 1))) fo2 fd) rfl ?_
  refine k_istore (pc := 1650) (lv2 := [(7, .int (a_bestMode M (xs (n + 1)))), (6, .int rt), (5, .int (nI n)), (4, .ref oD), (3, .ref o), (2, .ref (v 0)), (1, .ref b), (0, .ref sb)]) C (by decide) rfl dL_law_1650 ?_
  refine k_aload_n (pc := 1652) C rfl 5 rfl dL_law_1652 ?_
  refine k_show (ws2 := [(v 0, moE (q_bestMode M (xs (n + 1))).1 (v 1) (v 2) (v 3) (v 4) (v 5)), (v 1, jA cJ 294 (q_bestMode M (xs (n + 1))).2.1), (v 2, jA cJ 1764 (q_bestMode M (xs (n + 1))).2.2.1), (v 3, jA cJ 294 (q_bestMode M (xs (n + 1))).2.2.2.1), (v 4, iA cI 90 (q_bestMode M (xs (n + 1))).2.2.2.2.1), (v 5, iA cI 48 (q_bestMode M (xs (n + 1))).2.2.2.2.2), (oD, dA cD 1 fd)] ++ (xwW cI cJ cO b o u X2 Y2 fo2 ++ kTl cI Y2)) rfl ?_
  refine k_callVi (pc := 1653) (As := []) (rest := []) (r := (q_bestMode M (xs (n + 1))).1 7) (wc := [(v 0, moE (q_bestMode M (xs (n + 1))).1 (v 1) (v 2) (v 3) (v 4) (v 5))]) (wc2 := [(v 0, moE (q_bestMode M (xs (n + 1))).1 (v 1) (v 2) (v 3) (v 4) (v 5))]) (ws2 := [(v 0, moE (q_bestMode M (xs (n + 1))).1 (v 1) (v 2) (v 3) (v 4) (v 5)), (v 1, jA cJ 294 (q_bestMode M (xs (n + 1))).2.1), (v 2, jA cJ 1764 (q_bestMode M (xs (n + 1))).2.2.1), (v 3, jA cJ 294 (q_bestMode M (xs (n + 1))).2.2.2.1), (v 4, iA cI 90 (q_bestMode M (xs (n + 1))).2.2.2.2.1), (v 5, iA cI 48 (q_bestMode M (xs (n + 1))).2.2.2.2.2), (oD, dA cD 1 fd)] ++ (xwW cI cJ cO b o u X2 Y2 fo2 ++ kTl cI Y2)) C (c_X11_thrown l D cI cJ cO (v 0) (v 1) (v 2) (v 3) (v 4) (v 5) (q_bestMode M (xs (n + 1))).1) cwv_X11_thrown q_1042 vX11 0 rfl [0] (kmap_app rfl) rfl (by decide) (kput_app (wc := [(v 0, moE (q_bestMode M (xs (n + 1))).1 (v 1) (v 2) (v 3) (v 4) (v 5))]) rfl rfl) rfl (Nat.le_of_ble_eq_true rfl) ⟨Nat.le_of_ble_eq_true rfl, Nat.le_of_ble_eq_true rfl⟩ rfl ⟨hc.1, hc.2⟩ dL_law_1653 ?_
  refine k_show (ws2 := lawW cI cJ cO cD b o oD u v X2 Y2 (q_bestMode M (xs (n + 1))) fo2 fd) rfl ?_
  refine k_iload (pc := 1656) C 1 rfl dL_law_1656 ?_
  refine k_icmp_eq (pc := 1658) (tgt := 1663) C dL_law_1658 (by decide) (fun _ => ?_) (fun q => absurd hth q)
  refine k_iload (pc := 1663) C 1 rfl dL_law_1663 ?_
  refine k_if_ne (pc := 1665) (tgt := 1680) C dL_law_1665 (by decide) (fun _ => k_goto (pc := 1680) (tgt := 1809) C (by decide) dL_law_1680 (k_lpick (lv2 := [(5, .int (nI n)), (4, .ref oD), (3, .ref o), (2, .ref (v 0)), (1, .ref b), (0, .ref sb)]) [2, 3, 4, 5, 6, 7] rfl (hk X2 Y2 fo2 hR2))) (fun h0 => ?_)
  refine k_aload_n (pc := 1668) C rfl 4 rfl dL_law_1668 ?_
  refine k_iconst (pc := 1669) C iconst_0 dL_law_1669 ?_
  refine k_laldK (pc := 1670) (v := (a_bestMode M (xs (n + 1))).toInt64) C 7 1 rfl rfl (k_vinc 0 cl_0 (by decide) (by decide)) cl_0 (hout h0) dL_law_1670 ?_
  refine k_iload (pc := 1671) C 0 rfl dL_law_1671 ?_
  refine k_i2l (pc := 1673) C dL_law_1673 ?_
  exact k_lcmp_eq (pc := 1674) (tgt := 1680) C dL_law_1674 dL_law_1675 (by decide) (fun _ => k_goto (pc := 1680) (tgt := 1809) C (by decide) dL_law_1680 (k_lpick (lv2 := [(5, .int (nI n)), (4, .ref oD), (3, .ref o), (2, .ref (v 0)), (1, .ref b), (0, .ref sb)]) [2, 3, 4, 5, 6, 7] rfl (hk X2 Y2 fo2 hR2))) (fun q => absurd rfl q)