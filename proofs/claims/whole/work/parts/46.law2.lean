theorem q_779 : Cond.methodLink RL 127 yL_addSegment ∈ lw_all := kq 779 (by decide +kernel) (by decide +kernel)
theorem q_780 : Cond.static yL_addSegment ∈ lw_all := kq 780 (by decide +kernel) (by decide +kernel)
theorem q_781 : Cond.codeWith yL_addSegment cL_addSegment 7 (some .int) [(0, 14, 17, 15), (0, 14, 21, 24)] ∈ lw_all := kq 781 (by decide +kernel) (by decide +kernel)
theorem q_789 : Cond.methodLink RL 130 yL_removeSegment ∈ lw_all := kq 789 (by decide +kernel) (by decide +kernel)
theorem q_790 : Cond.static yL_removeSegment ∈ lw_all := kq 790 (by decide +kernel) (by decide +kernel)
theorem q_791 : Cond.codeWith yL_removeSegment cL_removeSegment 4 (some .int) [(0, 9, 12, 13), (0, 9, 15, 24)] ∈ lw_all := kq 791 (by decide +kernel) (by decide +kernel)
theorem q_800 : Cond.methodLink RL 133 yL_setCycles ∈ lw_all := kq 800 (by decide +kernel) (by decide +kernel)
theorem q_801 : Cond.static yL_setCycles ∈ lw_all := kq 801 (by decide +kernel) (by decide +kernel)
theorem q_802 : Cond.codeWith yL_setCycles cL_setCycles 4 (some .int) [(0, 9, 12, 15), (0, 9, 15, 24)] ∈ lw_all := kq 802 (by decide +kernel) (by decide +kernel)
theorem q_807 : Cond.methodLink RL 136 yL_start ∈ lw_all := kq 807 (by decide +kernel) (by decide +kernel)
theorem q_808 : Cond.static yL_start ∈ lw_all := kq 808 (by decide +kernel) (by decide +kernel)
theorem q_809 : Cond.codeWith yL_start cL_start 3 (some .int) [(0, 8, 11, 24)] ∈ lw_all := kq 809 (by decide +kernel) (by decide +kernel)
theorem q_818 : Cond.methodLink RL 140 yL_stop ∈ lw_all := kq 818 (by decide +kernel) (by decide +kernel)
theorem q_819 : Cond.static yL_stop ∈ lw_all := kq 819 (by decide +kernel) (by decide +kernel)
theorem q_820 : Cond.codeWith yL_stop cL_stop 3 (some .int) [(0, 8, 11, 24)] ∈ lw_all := kq 820 (by decide +kernel) (by decide +kernel)
theorem q_1165 : Cond.methodLink RL 129 yX11_addSegment ∈ lw_all := kq 1165 (by decide +kernel) (by decide +kernel)
theorem q_1166 : Cond.instanceMethod yX11_addSegment ∈ lw_all := kq 1166 (by decide +kernel) (by decide +kernel)
theorem q_1167 : Cond.selects RX11 yX11_addSegment yX11_addSegment ∈ lw_all := kq 1167 (by decide +kernel) (by decide +kernel)
theorem q_1168 : Cond.code yX11_addSegment cX11_addSegment 5 (some .int) ∈ lw_all := kq 1168 (by decide +kernel) (by decide +kernel)
theorem q_1177 : Cond.methodLink RL 132 yX11_removeSegment ∈ lw_all := kq 1177 (by decide +kernel) (by decide +kernel)
theorem q_1178 : Cond.instanceMethod yX11_removeSegment ∈ lw_all := kq 1178 (by decide +kernel) (by decide +kernel)
theorem q_1179 : Cond.selects RX11 yX11_removeSegment yX11_removeSegment ∈ lw_all := kq 1179 (by decide +kernel) (by decide +kernel)
theorem q_1180 : Cond.code yX11_removeSegment cX11_removeSegment 3 (some .int) ∈ lw_all := kq 1180 (by decide +kernel) (by decide +kernel)
theorem q_1185 : Cond.methodLink RL 135 yX11_setCycles ∈ lw_all := kq 1185 (by decide +kernel) (by decide +kernel)
theorem q_1186 : Cond.instanceMethod yX11_setCycles ∈ lw_all := kq 1186 (by decide +kernel) (by decide +kernel)
theorem q_1187 : Cond.selects RX11 yX11_setCycles yX11_setCycles ∈ lw_all := kq 1187 (by decide +kernel) (by decide +kernel)
theorem q_1188 : Cond.code yX11_setCycles cX11_setCycles 3 (some .int) ∈ lw_all := kq 1188 (by decide +kernel) (by decide +kernel)
theorem q_1189 : Cond.methodLink RL 139 yX11_start ∈ lw_all := kq 1189 (by decide +kernel) (by decide +kernel)
theorem q_1190 : Cond.instanceMethod yX11_start ∈ lw_all := kq 1190 (by decide +kernel) (by decide +kernel)
theorem q_1191 : Cond.selects RX11 yX11_start yX11_start ∈ lw_all := kq 1191 (by decide +kernel) (by decide +kernel)
theorem q_1192 : Cond.code yX11_start cX11_start 1 (some .int) ∈ lw_all := kq 1192 (by decide +kernel) (by decide +kernel)
theorem q_1193 : Cond.methodLink RL 142 yX11_stop ∈ lw_all := kq 1193 (by decide +kernel) (by decide +kernel)
theorem q_1194 : Cond.instanceMethod yX11_stop ∈ lw_all := kq 1194 (by decide +kernel) (by decide +kernel)
theorem q_1195 : Cond.selects RX11 yX11_stop yX11_stop ∈ lw_all := kq 1195 (by decide +kernel) (by decide +kernel)
theorem q_1196 : Cond.code yX11_stop cX11_stop 1 (some .int) ∈ lw_all := kq 1196 (by decide +kernel) (by decide +kernel)
theorem cwv_X11_addSegment : kCWv yX11_addSegment cX11_addSegment 5 (some .int) 4 := ⟨⟨q_1168, q_53, by decide +kernel⟩, q_1166, q_1167⟩
theorem cwv_X11_removeSegment : kCWv yX11_removeSegment cX11_removeSegment 3 (some .int) 1 := ⟨⟨q_1180, q_53, by decide +kernel⟩, q_1178, q_1179⟩
theorem cwv_X11_setCycles : kCWv yX11_setCycles cX11_setCycles 3 (some .int) 1 := ⟨⟨q_1188, q_53, by decide +kernel⟩, q_1186, q_1187⟩
theorem cwv_X11_start : kCWv yX11_start cX11_start 1 (some .int) 0 := ⟨⟨q_1192, q_53, by decide +kernel⟩, q_1190, q_1191⟩
theorem cwv_X11_stop : kCWv yX11_stop cX11_stop 1 (some .int) 0 := ⟨⟨q_1196, q_53, by decide +kernel⟩, q_1194, q_1195⟩
def q_addSegment (M : kMS) (p0 : Int32) (p1 : Int32) (p2 : Int32) (p3 : Int32) : kMS := ((s_X11_addSegment M.1 M.2.1 M.2.2.1 p0 p1 p2 p3).2.1, (s_X11_addSegment M.1 M.2.1 M.2.2.1 p0 p1 p2 p3).2.2.1, (s_X11_addSegment M.1 M.2.1 M.2.2.1 p0 p1 p2 p3).2.2.2, M.2.2.2.1, M.2.2.2.2.1, M.2.2.2.2.2)
def a_addSegment (M : kMS) (p0 : Int32) (p1 : Int32) (p2 : Int32) (p3 : Int32) : Int32 := (s_X11_addSegment M.1 M.2.1 M.2.2.1 p0 p1 p2 p3).1
theorem cwW_L_addSegment : Cond.codeWith yL_addSegment cL_addSegment 7 (some .int) [(0, 14, 17, 15), (0, 14, 21, 24)] ∈ lw_all ∧ Cond.initialized yL_addSegment.cls ∈ lw_all ∧ Cond.static yL_addSegment ∈ lw_all ∧ (yL_addSegment.cls ≠ "java/lang/invoke/MethodHandle" ∧ yL_addSegment.cls ≠ "java/lang/invoke/VarHandle" ∧ (parseMethodDescriptor yL_addSegment.desc).map (fun d => d.parameters.length) = some 6) := ⟨q_781, q_40, q_780, by decide +kernel⟩
set_option maxRecDepth 100000 in
set_option maxHeartbeats 8000000 in
theorem law_5 {p : Program} {l : Launch} {e : Env} {s : State} {m : MethodId} {args : Array Value} {below : List Frame} {meth : Method} {c : Code} {cells slots : Nat} {Q : State → Prop} {D : va_G} {A : Nat → Prop} {ret : Option FieldType} {cI cJ cO cD : ClassId} {z : zT} {sb L b o oD n : Nat} {u v : Nat → Nat} {xs : Nat → Int32} (C4 : KC p s m args meth c cL_law 9 RL ret D (kT4 cI cJ cO cD) A) (hZ : kZ z A s s.heap) (hX : va_X sb L xs s s.heap) (hbl : sb < s.heap.size) (hbA : ¬ A sb) (hL : L ≤ 2560) (hn : n + 5 ≤ L) (hc : cells + 26 ≤ room_1.cells ∧ slots + 331 ≤ room_1.slots) {X : kXS} {Y : kTS} {M : kMS} {fo : Nat → Int64} {fd : Nat → UInt64} {R : kXS → kTS → kMS → Prop} (hs : lStep l D cI cJ cO z yL_addSegment cL_addSegment 7 [(0, 14, 17, 15), (0, 14, 21, 24)] [.ref b, .int (xs (n + 1)), .int (xs (n + 2)), .int (xs (n + 3)), .int (xs (n + 4)), .ref o] b o u X Y fo (a_addSegment M (xs (n + 1)) (xs (n + 2)) (xs (n + 3)) (xs (n + 4))) ((q_addSegment M (xs (n + 1)) (xs (n + 2)) (xs (n + 3)) (xs (n + 4))).1 7) (fun X2 Y2 => R X2 Y2 (q_addSegment M (xs (n + 1)) (xs (n + 2)) (xs (n + 3)) (xs (n + 4))))) (hf_t_5 : kIn (M.1 5) 0 6) (hf_t_w_43 : kInL (M.2.1 43) 0 12) (hk : ∀ (X2 : kXS) (Y2 : kTS) (fo2 : Nat → Int64), R X2 Y2 (q_addSegment M (xs (n + 1)) (xs (n + 2)) (xs (n + 3)) (xs (n + 4))) → KJ p l e room_1 s m args below meth c (cells + 26) (slots + 331) Q D A 9 (lawW cI cJ cO cD b o oD u v X2 Y2 (q_addSegment M (xs (n + 1)) (xs (n + 2)) (xs (n + 3)) (xs (n + 4))) fo2 fd) [(5, .int (nI n)), (4, .ref oD), (3, .ref o), (2, .ref (v 0)), (1, .ref b), (0, .ref sb)] [] 1809) : KJ p l e room_1 s m args below meth c cells slots Q D A 9 (lawW cI cJ cO cD b o oD u v X Y M fo fd) [(5, .int (nI n)), (4, .ref oD), (3, .ref o), (2, .ref (v 0)), (1, .ref b), (0, .ref sb)] [] 532 := by
  have C := KC.t4 C4
  refine k_aload_n (pc := 532) C rfl 4 rfl dL_law_532 ?_
  refine k_aload_n (pc := 533) C rfl 5 rfl dL_law_533 ?_
  refine k_iload (pc := 534) C 0 rfl dL_law_534 ?_
  refine k_iconst (pc := 536) C iconst_1 dL_law_536 ?_
  refine k_iadd (pc := 537) C dL_law_537 ?_
  refine k_sld (pc := 538) (k := n + 1) C hX hbl hbA ((nI_succ n).symm) (by omega) hL dL_law_538 ?_
  refine k_aload_n (pc := 539) C rfl 5 rfl dL_law_539 ?_
  refine k_iload (pc := 540) C 0 rfl dL_law_540 ?_
  refine k_iconst (pc := 542) C iconst_2 dL_law_542 ?_
  refine k_iadd (pc := 543) C dL_law_543 ?_
  refine k_sld (pc := 544) (k := n + 2) C hX hbl hbA ((nI_2 n)) (by omega) hL dL_law_544 ?_
  refine k_aload_n (pc := 545) C rfl 5 rfl dL_law_545 ?_
  refine k_iload (pc := 546) C 0 rfl dL_law_546 ?_
  refine k_iconst (pc := 548) C iconst_3 dL_law_548 ?_
  refine k_iadd (pc := 549) C dL_law_549 ?_
  refine k_sld (pc := 550) (k := n + 3) C hX hbl hbA ((nI_3 n)) (by omega) hL dL_law_550 ?_
  refine k_aload_n (pc := 551) C rfl 5 rfl dL_law_551 ?_
  refine k_iload (pc := 552) C 0 rfl dL_law_552 ?_
  refine k_iconst (pc := 554) C iconst_4 dL_law_554 ?_
  refine k_iadd (pc := 555) C dL_law_555 ?_
  refine k_sld (pc := 556) (k := n + 4) C hX hbl hbA ((nI_4 n)) (by omega) hL dL_law_556 ?_
  refine k_aload_n (pc := 557) C rfl 2 rfl dL_law_557 ?_
  refine k_lstep (pc := 558) (As := [.ref b, .int (xs (n + 1)), .int (xs (n + 2)), .int (xs (n + 3)), .int (xs (n + 4)), .ref o]) (rest := []) C hZ hs cwW_L_addSegment q_779 rfl (Nat.le_of_ble_eq_true rfl) ⟨Nat.le_of_ble_eq_true rfl, Nat.le_of_ble_eq_true rfl⟩ rfl hc dL_law_558 (fun rt X2 Y2 fo2 hth hout hR2 => ?_)
  refine k_istore (pc := 561) (lv2 := [(6, .int rt), (5, .int (nI n)), (4, .ref oD), (3, .ref o), (2, .ref (v 0)), (1, .ref b), (0, .ref sb)]) C (by decide) rfl dL_law_561 ?_
  refine k_aload_n (pc := 563) C rfl 4 rfl dL_law_563 ?_
  refine k_aload_n (pc := 564) C rfl 6 rfl dL_law_564 ?_
  refine k_iload (pc := 565) C 1 rfl dL_law_565 ?_
  refine k_iconst (pc := 567) C iconst_1 dL_law_567 ?_
  refine k_iadd (pc := 568) C dL_law_568 ?_
  refine k_sld (pc := 569) (k := n + 1) C hX hbl hbA ((nI_succ n).symm) (by omega) hL dL_law_569 ?_
  refine k_aload_n (pc := 570) C rfl 6 rfl dL_law_570 ?_
  refine k_iload (pc := 571) C 1 rfl dL_law_571 ?_
  refine k_iconst (pc := 573) C iconst_2 dL_law_573 ?_
  refine k_iadd (pc := 574) C dL_law_574 ?_
  refine k_sld (pc := 575) (k := n + 2) C hX hbl hbA ((nI_2 n)) (by omega) hL dL_law_575 ?_
  refine k_aload_n (pc := 576) C rfl 6 rfl dL_law_576 ?_
  refine k_iload (pc := 577) C 1 rfl dL_law_577 ?_
  refine k_iconst (pc := 579) C iconst_3 dL_law_579 ?_
  refine k_iadd (pc := 580) C dL_law_580 ?_
  refine k_sld (pc := 581) (k := n + 3) C hX hbl hbA ((nI_3 n)) (by omega) hL dL_law_581 ?_
  refine k_aload_n (pc := 582) C rfl 6 rfl dL_law_582 ?_
  refine k_iload (pc := 583) C 1 rfl dL_law_583 ?_
  refine k_iconst (pc := 585) C iconst_4 dL_law_585 ?_
  refine k_iadd (pc := 586) C dL_law_586 ?_
  refine k_sld (pc := 587) (k := n + 4) C hX hbl hbA ((nI_4 n)) (by omega) hL dL_law_587 ?_
  refine k_show (ws2 := [(v 0, moE M.1 (v 1) (v 2) (v 3) (v 4) (v 5)), (v 1, jA cJ 294 M.2.1), (v 2, jA cJ 1764 M.2.2.1), (v 3, jA cJ 294 M.2.2.2.1), (v 4, iA cI 90 M.2.2.2.2.1), (v 5, iA cI 48 M.2.2.2.2.2), (oD, dA cD 1 fd)] ++ (xwW cI cJ cO b o u X2 Y2 fo2 ++ kTl cI Y2)) rfl ?_
  refine k_callVi (pc := 588) (As := [.int (xs (n + 1)), .int (xs (n + 2)), .int (xs (n + 3)), .int (xs (n + 4))]) (rest := []) (r := a_addSegment M (xs (n + 1)) (xs (n + 2)) (xs (n + 3)) (xs (n + 4))) (wc := [(v 0, moE M.1 (v 1) (v 2) (v 3) (v 4) (v 5)), (v 1, jA cJ 294 M.2.1), (v 2, jA cJ 1764 M.2.2.1)]) (wc2 := [(v 0, moE (q_addSegment M (xs (n + 1)) (xs (n + 2)) (xs (n + 3)) (xs (n + 4))).1 (v 1) (v 2) (v 3) (v 4) (v 5)), (v 1, jA cJ 294 (q_addSegment M (xs (n + 1)) (xs (n + 2)) (xs (n + 3)) (xs (n + 4))).2.1), (v 2, jA cJ 1764 (q_addSegment M (xs (n + 1)) (xs (n + 2)) (xs (n + 3)) (xs (n + 4))).2.2.1)]) (ws2 := [(v 0, moE (q_addSegment M (xs (n + 1)) (xs (n + 2)) (xs (n + 3)) (xs (n + 4))).1 (v 1) (v 2) (v 3) (v 4) (v 5)), (v 1, jA cJ 294 (q_addSegment M (xs (n + 1)) (xs (n + 2)) (xs (n + 3)) (xs (n + 4))).2.1), (v 2, jA cJ 1764 (q_addSegment M (xs (n + 1)) (xs (n + 2)) (xs (n + 3)) (xs (n + 4))).2.2.1), (v 3, jA cJ 294 M.2.2.2.1), (v 4, iA cI 90 M.2.2.2.2.1), (v 5, iA cI 48 M.2.2.2.2.2), (oD, dA cD 1 fd)] ++ (xwW cI cJ cO b o u X2 Y2 fo2 ++ kTl cI Y2)) C (c_X11_addSegment l D cI cJ cO (v 0) (v 1) (v 2) (v 3) (v 4) (v 5) M.1 M.2.1 M.2.2.1 (xs (n + 1)) (xs (n + 2)) (xs (n + 3)) (xs (n + 4)) hf_t_5 hf_t_w_43) cwv_X11_addSegment q_1165 vX11 0 rfl [0, 1, 2] (kmap_app rfl) rfl (by decide) (kput_app (wc := [(v 0, moE M.1 (v 1) (v 2) (v 3) (v 4) (v 5)), (v 1, jA cJ 294 M.2.1), (v 2, jA cJ 1764 M.2.2.1)]) rfl rfl) rfl (Nat.le_of_ble_eq_true rfl) ⟨Nat.le_of_ble_eq_true rfl, Nat.le_of_ble_eq_true rfl⟩ rfl ⟨hc.1, hc.2⟩ dL_law_588 ?_
  refine k_show (ws2 := lawW cI cJ cO cD b o oD u v X2 Y2 (q_addSegment M (xs (n + 1)) (xs (n + 2)) (xs (n + 3)) (xs (n + 4))) fo2 fd) rfl ?_
  refine k_istore (pc := 591) (lv2 := [(7, .int (a_addSegment M (xs (n + 1)) (xs (n + 2)) (xs (n + 3)) (xs (n + 4)))), (6, .int rt), (5, .int (nI n)), (4, .ref oD), (3, .ref o), (2, .ref (v 0)), (1, .ref b), (0, .ref sb)]) C (by decide) rfl dL_law_591 ?_
  refine k_aload_n (pc := 593) C rfl 5 rfl dL_law_593 ?_
  refine k_show (ws2 := [(v 0, moE (q_addSegment M (xs (n + 1)) (xs (n + 2)) (xs (n + 3)) (xs (n + 4))).1 (v 1) (v 2) (v 3) (v 4) (v 5)), (v 1, jA cJ 294 (q_addSegment M (xs (n + 1)) (xs (n + 2)) (xs (n + 3)) (xs (n + 4))).2.1), (v 2, jA cJ 1764 (q_addSegment M (xs (n + 1)) (xs (n + 2)) (xs (n + 3)) (xs (n + 4))).2.2.1), (v 3, jA cJ 294 (q_addSegment M (xs (n + 1)) (xs (n + 2)) (xs (n + 3)) (xs (n + 4))).2.2.2.1), (v 4, iA cI 90 (q_addSegment M (xs (n + 1)) (xs (n + 2)) (xs (n + 3)) (xs (n + 4))).2.2.2.2.1), (v 5, iA cI 48 (q_addSegment M (xs (n + 1)) (xs (n + 2)) (xs (n + 3)) (xs (n + 4))).2.2.2.2.2), (oD, dA cD 1 fd)] ++ (xwW cI cJ cO b o u X2 Y2 fo2 ++ kTl cI Y2)) rfl ?_
  refine k_callVi (pc := 594) (As := []) (rest := []) (r := (q_addSegment M (xs (n + 1)) (xs (n + 2)) (xs (n + 3)) (xs (n + 4))).1 7) (wc := [(v 0, moE (q_addSegment M (xs (n + 1)) (xs (n + 2)) (xs (n + 3)) (xs (n + 4))).1 (v 1) (v 2) (v 3) (v 4) (v 5))]) (wc2 := [(v 0, moE (q_addSegment M (xs (n + 1)) (xs (n + 2)) (xs (n + 3)) (xs (n + 4))).1 (v 1) (v 2) (v 3) (v 4) (v 5))]) (ws2 := [(v 0, moE (q_addSegment M (xs (n + 1)) (xs (n + 2)) (xs (n + 3)) (xs (n + 4))).1 (v 1) (v 2) (v 3) (v 4) (v 5)), (v 1, jA cJ 294 (q_addSegment M (xs (n + 1)) (xs (n + 2)) (xs (n + 3)) (xs (n + 4))).2.1), (v 2, jA cJ 1764 (q_addSegment M (xs (n + 1)) (xs (n + 2)) (xs (n + 3)) (xs (n + 4))).2.2.1), (v 3, jA cJ 294 (q_addSegment M (xs (n + 1)) (xs (n + 2)) (xs (n + 3)) (xs (n + 4))).2.2.2.1), (v 4, iA cI 90 (q_addSegment M (xs (n + 1)) (xs (n + 2)) (xs (n + 3)) (xs (n + 4))).2.2.2.2.1), (v 5, iA cI 48 (q_addSegment M (xs (n + 1)) (xs (n + 2)) (xs (n + 3)) (xs (n + 4))).2.2.2.2.2), (oD, dA cD 1 fd)] ++ (xwW cI cJ cO b o u X2 Y2 fo2 ++ kTl cI Y2)) C (c_X11_thrown l D cI cJ cO (v 0) (v 1) (v 2) (v 3) (v 4) (v 5) (q_addSegment M (xs (n + 1)) (xs (n + 2)) (xs (n + 3)) (xs (n + 4))).1) cwv_X11_thrown q_1042 vX11 0 rfl [0] (kmap_app rfl) rfl (by decide) (kput_app (wc := [(v 0, moE (q_addSegment M (xs (n + 1)) (xs (n + 2)) (xs (n + 3)) (xs (n + 4))).1 (v 1) (v 2) (v 3) (v 4) (v 5))]) rfl rfl) rfl (Nat.le_of_ble_eq_true rfl) ⟨Nat.le_of_ble_eq_true rfl, Nat.le_of_ble_eq_true rfl⟩ rfl ⟨hc.1, hc.2⟩ dL_law_594 ?_
  refine k_show (ws2 := lawW cI cJ cO cD b o oD u v X2 Y2 (q_addSegment M (xs (n + 1)) (xs (n + 2)) (xs (n + 3)) (xs (n + 4))) fo2 fd) rfl ?_
  refine k_iload (pc := 597) C 1 rfl dL_law_597 ?_
  refine k_icmp_eq (pc := 599) (tgt := 604) C dL_law_599 (by decide) (fun _ => ?_) (fun q => absurd hth q)
  refine k_iload (pc := 604) C 1 rfl dL_law_604 ?_
  refine k_if_ne (pc := 606) (tgt := 621) C dL_law_606 (by decide) (fun _ => k_goto (pc := 621) (tgt := 1809) C (by decide) dL_law_621 (k_lpick (lv2 := [(5, .int (nI n)), (4, .ref oD), (3, .ref o), (2, .ref (v 0)), (1, .ref b), (0, .ref sb)]) [2, 3, 4, 5, 6, 7] rfl (hk X2 Y2 fo2 hR2))) (fun h0 => ?_)
  refine k_aload_n (pc := 609) C rfl 4 rfl dL_law_609 ?_
  refine k_iconst (pc := 610) C iconst_0 dL_law_610 ?_
  refine k_laldK (pc := 611) (v := (a_addSegment M (xs (n + 1)) (xs (n + 2)) (xs (n + 3)) (xs (n + 4))).toInt64) C 7 1 rfl rfl (k_vinc 0 cl_0 (by decide) (by decide)) cl_0 (hout h0) dL_law_611 ?_
  refine k_iload (pc := 612) C 0 rfl dL_law_612 ?_
  refine k_i2l (pc := 614) C dL_law_614 ?_
  exact k_lcmp_eq (pc := 615) (tgt := 621) C dL_law_615 dL_law_616 (by decide) (fun _ => k_goto (pc := 621) (tgt := 1809) C (by decide) dL_law_621 (k_lpick (lv2 := [(5, .int (nI n)), (4, .ref oD), (3, .ref o), (2, .ref (v 0)), (1, .ref b), (0, .ref sb)]) [2, 3, 4, 5, 6, 7] rfl (hk X2 Y2 fo2 hR2))) (fun q => absurd rfl q)
def q_removeSegment (M : kMS) (p0 : Int32) : kMS := ((s_X11_removeSegment M.1 M.2.1 M.2.2.1 p0).2.1, (s_X11_removeSegment M.1 M.2.1 M.2.2.1 p0).2.2.1, (s_X11_removeSegment M.1 M.2.1 M.2.2.1 p0).2.2.2, M.2.2.2.1, M.2.2.2.2.1, M.2.2.2.2.2)
def a_removeSegment (M : kMS) (p0 : Int32) : Int32 := (s_X11_removeSegment M.1 M.2.1 M.2.2.1 p0).1
theorem cwW_L_removeSegment : Cond.codeWith yL_removeSegment cL_removeSegment 4 (some .int) [(0, 9, 12, 13), (0, 9, 15, 24)] ∈ lw_all ∧ Cond.initialized yL_removeSegment.cls ∈ lw_all ∧ Cond.static yL_removeSegment ∈ lw_all ∧ (yL_removeSegment.cls ≠ "java/lang/invoke/MethodHandle" ∧ yL_removeSegment.cls ≠ "java/lang/invoke/VarHandle" ∧ (parseMethodDescriptor yL_removeSegment.desc).map (fun d => d.parameters.length) = some 3) := ⟨q_791, q_40, q_790, by decide +kernel⟩
set_option maxRecDepth 100000 in
set_option maxHeartbeats 8000000 in
theorem law_6 {p : Program} {l : Launch} {e : Env} {s : State} {m : MethodId} {args : Array Value} {below : List Frame} {meth : Method} {c : Code} {cells slots : Nat} {Q : State → Prop} {D : va_G} {A : Nat → Prop} {ret : Option FieldType} {cI cJ cO cD : ClassId} {z : zT} {sb L b o oD n : Nat} {u v : Nat → Nat} {xs : Nat → Int32} (C4 : KC p s m args meth c cL_law 9 RL ret D (kT4 cI cJ cO cD) A) (hZ : kZ z A s s.heap) (hX : va_X sb L xs s s.heap) (hbl : sb < s.heap.size) (hbA : ¬ A sb) (hL : L ≤ 2560) (hn : n + 5 ≤ L) (hc : cells + 26 ≤ room_1.cells ∧ slots + 331 ≤ room_1.slots) {X : kXS} {Y : kTS} {M : kMS} {fo : Nat → Int64} {fd : Nat → UInt64} {R : kXS → kTS → kMS → Prop} (hs : lStep l D cI cJ cO z yL_removeSegment cL_removeSegment 4 [(0, 9, 12, 13), (0, 9, 15, 24)] [.ref b, .int (xs (n + 1)), .ref o] b o u X Y fo (a_removeSegment M (xs (n + 1))) ((q_removeSegment M (xs (n + 1))).1 7) (fun X2 Y2 => R X2 Y2 (q_removeSegment M (xs (n + 1))))) (hf_t_5 : kIn (M.1 5) 0 6) (hf_t_w_43 : kInL (M.2.1 43) 0 12) (hk : ∀ (X2 : kXS) (Y2 : kTS) (fo2 : Nat → Int64), R X2 Y2 (q_removeSegment M (xs (n + 1))) → KJ p l e room_1 s m args below meth c (cells + 26) (slots + 331) Q D A 9 (lawW cI cJ cO cD b o oD u v X2 Y2 (q_removeSegment M (xs (n + 1))) fo2 fd) [(5, .int (nI n)), (4, .ref oD), (3, .ref o), (2, .ref (v 0)), (1, .ref b), (0, .ref sb)] [] 1809) : KJ p l e room_1 s m args below meth c cells slots Q D A 9 (lawW cI cJ cO cD b o oD u v X Y M fo fd) [(5, .int (nI n)), (4, .ref oD), (3, .ref o), (2, .ref (v 0)), (1, .ref b), (0, .ref sb)] [] 624 := by
  have C := KC.t4 C4
  refine k_aload_n (pc := 624) C rfl 4 rfl dL_law_624 ?_
  refine k_aload_n (pc := 625) C rfl 5 rfl dL_law_625 ?_
  refine k_iload (pc := 626) C 0 rfl dL_law_626 ?_
  refine k_iconst (pc := 628) C iconst_1 dL_law_628 ?_
  refine k_iadd (pc := 629) C dL_law_629 ?_
  refine k_sld (pc := 630) (k := n + 1) C hX hbl hbA ((nI_succ n).symm) (by omega) hL dL_law_630 ?_
  refine k_aload_n (pc := 631) C rfl 2 rfl dL_law_631 ?_
  refine k_lstep (pc := 632) (As := [.ref b, .int (xs (n + 1)), .ref o]) (rest := []) C hZ hs cwW_L_removeSegment q_789 rfl (Nat.le_of_ble_eq_true rfl) ⟨Nat.le_of_ble_eq_true rfl, Nat.le_of_ble_eq_true rfl⟩ rfl hc dL_law_632 (fun rt X2 Y2 fo2 hth hout hR2 => ?_)
  refine k_istore (pc := 635) (lv2 := [(6, .int rt), (5, .int (nI n)), (4, .ref oD), (3, .ref o), (2, .ref (v 0)), (1, .ref b), (0, .ref sb)]) C (by decide) rfl dL_law_635 ?_
  refine k_aload_n (pc := 637) C rfl 4 rfl dL_law_637 ?_
  refine k_aload_n (pc := 638) C rfl 6 rfl dL_law_638 ?_
  refine k_iload (pc := 639) C 1 rfl dL_law_639 ?_
  refine k_iconst (pc := 641) C iconst_1 dL_law_641 ?_
  refine k_iadd (pc := 642) C dL_law_642 ?_
  refine k_sld (pc := 643) (k := n + 1) C hX hbl hbA ((nI_succ n).symm) (by omega) hL dL_law_643 ?_
  refine k_show (ws2 := [(v 0, moE M.1 (v 1) (v 2) (v 3) (v 4) (v 5)), (v 1, jA cJ 294 M.2.1), (v 2, jA cJ 1764 M.2.2.1), (v 3, jA cJ 294 M.2.2.2.1), (v 4, iA cI 90 M.2.2.2.2.1), (v 5, iA cI 48 M.2.2.2.2.2), (oD, dA cD 1 fd)] ++ (xwW cI cJ cO b o u X2 Y2 fo2 ++ kTl cI Y2)) rfl ?_
  refine k_callVi (pc := 644) (As := [.int (xs (n + 1))]) (rest := []) (r := a_removeSegment M (xs (n + 1))) (wc := [(v 0, moE M.1 (v 1) (v 2) (v 3) (v 4) (v 5)), (v 1, jA cJ 294 M.2.1), (v 2, jA cJ 1764 M.2.2.1)]) (wc2 := [(v 0, moE (q_removeSegment M (xs (n + 1))).1 (v 1) (v 2) (v 3) (v 4) (v 5)), (v 1, jA cJ 294 (q_removeSegment M (xs (n + 1))).2.1), (v 2, jA cJ 1764 (q_removeSegment M (xs (n + 1))).2.2.1)]) (ws2 := [(v 0, moE (q_removeSegment M (xs (n + 1))).1 (v 1) (v 2) (v 3) (v 4) (v 5)), (v 1, jA cJ 294 (q_removeSegment M (xs (n + 1))).2.1), (v 2, jA cJ 1764 (q_removeSegment M (xs (n + 1))).2.2.1), (v 3, jA cJ 294 M.2.2.2.1), (v 4, iA cI 90 M.2.2.2.2.1), (v 5, iA cI 48 M.2.2.2.2.2), (oD, dA cD 1 fd)] ++ (xwW cI cJ cO b o u X2 Y2 fo2 ++ kTl cI Y2)) C (c_X11_removeSegment l D cI cJ cO (v 0) (v 1) (v 2) (v 3) (v 4) (v 5) M.1 M.2.1 M.2.2.1 (xs (n + 1)) hf_t_5 hf_t_w_43) cwv_X11_removeSegment q_1177 vX11 0 rfl [0, 1, 2] (kmap_app rfl) rfl (by decide) (kput_app (wc := [(v 0, moE M.1 (v 1) (v 2) (v 3) (v 4) (v 5)), (v 1, jA cJ 294 M.2.1), (v 2, jA cJ 1764 M.2.2.1)]) rfl rfl) rfl (Nat.le_of_ble_eq_true rfl) ⟨Nat.le_of_ble_eq_true rfl, Nat.le_of_ble_eq_true rfl⟩ rfl ⟨hc.1, hc.2⟩ dL_law_644 ?_
  refine k_show (ws2 := lawW cI cJ cO cD b o oD u v X2 Y2 (q_removeSegment M (xs (n + 1))) fo2 fd) rfl ?_
  refine k_istore (pc := 647) (lv2 := [(7, .int (a_removeSegment M (xs (n + 1)))), (6, .int rt), (5, .int (nI n)), (4, .ref oD), (3, .ref o), (2, .ref (v 0)), (1, .ref b), (0, .ref sb)]) C (by decide) rfl dL_law_647 ?_
  refine k_aload_n (pc := 649) C rfl 5 rfl dL_law_649 ?_
  refine k_show (ws2 := [(v 0, moE (q_removeSegment M (xs (n + 1))).1 (v 1) (v 2) (v 3) (v 4) (v 5)), (v 1, jA cJ 294 (q_removeSegment M (xs (n + 1))).2.1), (v 2, jA cJ 1764 (q_removeSegment M (xs (n + 1))).2.2.1), (v 3, jA cJ 294 (q_removeSegment M (xs (n + 1))).2.2.2.1), (v 4, iA cI 90 (q_removeSegment M (xs (n + 1))).2.2.2.2.1), (v 5, iA cI 48 (q_removeSegment M (xs (n + 1))).2.2.2.2.2), (oD, dA cD 1 fd)] ++ (xwW cI cJ cO b o u X2 Y2 fo2 ++ kTl cI Y2)) rfl ?_
  refine k_callVi (pc := 650) (As := []) (rest := []) (r := (q_removeSegment M (xs (n + 1))).1 7) (wc := [(v 0, moE (q_removeSegment M (xs (n + 1))).1 (v 1) (v 2) (v 3) (v 4) (v 5))]) (wc2 := [(v 0, moE (q_removeSegment M (xs (n + 1))).1 (v 1) (v 2) (v 3) (v 4) (v 5))]) (ws2 := [(v 0, moE (q_removeSegment M (xs (n + 1))).1 (v 1) (v 2) (v 3) (v 4) (v 5)), (v 1, jA cJ 294 (q_removeSegment M (xs (n + 1))).2.1), (v 2, jA cJ 1764 (q_removeSegment M (xs (n + 1))).2.2.1), (v 3, jA cJ 294 (q_removeSegment M (xs (n + 1))).2.2.2.1), (v 4, iA cI 90 (q_removeSegment M (xs (n + 1))).2.2.2.2.1), (v 5, iA cI 48 (q_removeSegment M (xs (n + 1))).2.2.2.2.2), (oD, dA cD 1 fd)] ++ (xwW cI cJ cO b o u X2 Y2 fo2 ++ kTl cI Y2)) C (c_X11_thrown l D cI cJ cO (v 0) (v 1) (v 2) (v 3) (v 4) (v 5) (q_removeSegment M (xs (n + 1))).1) cwv_X11_thrown q_1042 vX11 0 rfl [0] (kmap_app rfl) rfl (by decide) (kput_app (wc := [(v 0, moE (q_removeSegment M (xs (n + 1))).1 (v 1) (v 2) (v 3) (v 4) (v 5))]) rfl rfl) rfl (Nat.le_of_ble_eq_true rfl) ⟨Nat.le_of_ble_eq_true rfl, Nat.le_of_ble_eq_true rfl⟩ rfl ⟨hc.1, hc.2⟩ dL_law_650 ?_
  refine k_show (ws2 := lawW cI cJ cO cD b o oD u v X2 Y2 (q_removeSegment M (xs (n + 1))) fo2 fd) rfl ?_
  refine k_iload (pc := 653) C 1 rfl dL_law_653 ?_
  refine k_icmp_eq (pc := 655) (tgt := 660) C dL_law_655 (by decide) (fun _ => ?_) (fun q => absurd hth q)
  refine k_iload (pc := 660) C 1 rfl dL_law_660 ?_
  refine k_if_ne (pc := 662) (tgt := 677) C dL_law_662 (by decide) (fun _ => k_goto (pc := 677) (tgt := 1809) C (by decide) dL_law_677 (k_lpick (lv2 := [(5, .int (nI n)), (4, .ref oD), (3, .ref o), (2, .ref (v 0)), (1, .ref b), (0, .ref sb)]) [2, 3, 4, 5, 6, 7] rfl (hk X2 Y2 fo2 hR2))) (fun h0 => ?_)
  refine k_aload_n (pc := 665) C rfl 4 rfl dL_law_665 ?_
  refine k_iconst (pc := 666) C iconst_0 dL_law_666 ?_
  refine k_laldK (pc := 667) (v := (a_removeSegment M (xs (n + 1))).toInt64) C 7 1 rfl rfl (k_vinc 0 cl_0 (by decide) (by decide)) cl_0 (hout h0) dL_law_667 ?_
  refine k_iload (pc := 668) C 0 rfl dL_law_668 ?_
  refine k_i2l (pc := 670) C dL_law_670 ?_
  exact k_lcmp_eq (pc := 671) (tgt := 677) C dL_law_671 dL_law_672 (by decide) (fun _ => k_goto (pc := 677) (tgt := 1809) C (by decide) dL_law_677 (k_lpick (lv2 := [(5, .int (nI n)), (4, .ref oD), (3, .ref o), (2, .ref (v 0)), (1, .ref b), (0, .ref sb)]) [2, 3, 4, 5, 6, 7] rfl (hk X2 Y2 fo2 hR2))) (fun q => absurd rfl q)
def q_setCycles (M : kMS) (p0 : Int32) : kMS := ((s_X11_setCycles M.1 M.2.1 M.2.2.1 p0).2.1, (s_X11_setCycles M.1 M.2.1 M.2.2.1 p0).2.2.1, (s_X11_setCycles M.1 M.2.1 M.2.2.1 p0).2.2.2, M.2.2.2.1, M.2.2.2.2.1, M.2.2.2.2.2)
def a_setCycles (M : kMS) (p0 : Int32) : Int32 := (s_X11_setCycles M.1 M.2.1 M.2.2.1 p0).1
theorem cwW_L_setCycles : Cond.codeWith yL_setCycles cL_setCycles 4 (some .int) [(0, 9, 12, 15), (0, 9, 15, 24)] ∈ lw_all ∧ Cond.initialized yL_setCycles.cls ∈ lw_all ∧ Cond.static yL_setCycles ∈ lw_all ∧ (yL_setCycles.cls ≠ "java/lang/invoke/MethodHandle" ∧ yL_setCycles.cls ≠ "java/lang/invoke/VarHandle" ∧ (parseMethodDescriptor yL_setCycles.desc).map (fun d => d.parameters.length) = some 3) := ⟨q_802, q_40, q_801, by decide +kernel⟩
set_option maxRecDepth 100000 in
set_option maxHeartbeats 8000000 in
theorem law_7 {p : Program} {l : Launch} {e : Env} {s : State} {m : MethodId} {args : Array Value} {below : List Frame} {meth : Method} {c : Code} {cells slots : Nat} {Q : State → Prop} {D : va_G} {A : Nat → Prop} {ret : Option FieldType} {cI cJ cO cD : ClassId} {z : zT} {sb L b o oD n : Nat} {u v : Nat → Nat} {xs : Nat → Int32} (C4 : KC p s m args meth c cL_law 9 RL ret D (kT4 cI cJ cO cD) A) (hZ : kZ z A s s.heap) (hX : va_X sb L xs s s.heap) (hbl : sb < s.heap.size) (hbA : ¬ A sb) (hL : L ≤ 2560) (hn : n + 5 ≤ L) (hc : cells + 26 ≤ room_1.cells ∧ slots + 331 ≤ room_1.slots) {X : kXS} {Y : kTS} {M : kMS} {fo : Nat → Int64} {fd : Nat → UInt64} {R : kXS → kTS → kMS → Prop} (hs : lStep l D cI cJ cO z yL_setCycles cL_setCycles 4 [(0, 9, 12, 15), (0, 9, 15, 24)] [.ref b, .int (xs (n + 1)), .ref o] b o u X Y fo (a_setCycles M (xs (n + 1))) ((q_setCycles M (xs (n + 1))).1 7) (fun X2 Y2 => R X2 Y2 (q_setCycles M (xs (n + 1))))) (hf_t_5 : kIn (M.1 5) 0 6) (hk : ∀ (X2 : kXS) (Y2 : kTS) (fo2 : Nat → Int64), R X2 Y2 (q_setCycles M (xs (n + 1))) → KJ p l e room_1 s m args below meth c (cells + 26) (slots + 331) Q D A 9 (lawW cI cJ cO cD b o oD u v X2 Y2 (q_setCycles M (xs (n + 1))) fo2 fd) [(5, .int (nI n)), (4, .ref oD), (3, .ref o), (2, .ref (v 0)), (1, .ref b), (0, .ref sb)] [] 1809) : KJ p l e room_1 s m args below meth c cells slots Q D A 9 (lawW cI cJ cO cD b o oD u v X Y M fo fd) [(5, .int (nI n)), (4, .ref oD), (3, .ref o), (2, .ref (v 0)), (1, .ref b), (0, .ref sb)] [] 680 := by
  have C := KC.t4 C4
  refine k_aload_n (pc := 680) C rfl 4 rfl dL_law_680 ?_
  refine k_aload_n (pc := 681) C rfl 5 rfl dL_law_681 ?_
  refine k_iload (pc := 682) C 0 rfl dL_law_682 ?_
  refine k_iconst (pc := 684) C iconst_1 dL_law_684 ?_
  refine k_iadd (pc := 685) C dL_law_685 ?_
  refine k_sld (pc := 686) (k := n + 1) C hX hbl hbA ((nI_succ n).symm) (by omega) hL dL_law_686 ?_
  refine k_aload_n (pc := 687) C rfl 2 rfl dL_law_687 ?_
  refine k_lstep (pc := 688) (As := [.ref b, .int (xs (n + 1)), .ref o]) (rest := []) C hZ hs cwW_L_setCycles q_800 rfl (Nat.le_of_ble_eq_true rfl) ⟨Nat.le_of_ble_eq_true rfl, Nat.le_of_ble_eq_true rfl⟩ rfl hc dL_law_688 (fun rt X2 Y2 fo2 hth hout hR2 => ?_)
  refine k_istore (pc := 691) (lv2 := [(6, .int rt), (5, .int (nI n)), (4, .ref oD), (3, .ref o), (2, .ref (v 0)), (1, .ref b), (0, .ref sb)]) C (by decide) rfl dL_law_691 ?_
  refine k_aload_n (pc := 693) C rfl 4 rfl dL_law_693 ?_
  refine k_aload_n (pc := 694) C rfl 6 rfl dL_law_694 ?_
  refine k_iload (pc := 695) C 1 rfl dL_law_695 ?_
  refine k_iconst (pc := 697) C iconst_1 dL_law_697 ?_
  refine k_iadd (pc := 698) C dL_law_698 ?_
  refine k_sld (pc := 699) (k := n + 1) C hX hbl hbA ((nI_succ n).symm) (by omega) hL dL_law_699 ?_
  refine k_show (ws2 := [(v 0, moE M.1 (v 1) (v 2) (v 3) (v 4) (v 5)), (v 1, jA cJ 294 M.2.1), (v 2, jA cJ 1764 M.2.2.1), (v 3, jA cJ 294 M.2.2.2.1), (v 4, iA cI 90 M.2.2.2.2.1), (v 5, iA cI 48 M.2.2.2.2.2), (oD, dA cD 1 fd)] ++ (xwW cI cJ cO b o u X2 Y2 fo2 ++ kTl cI Y2)) rfl ?_
  refine k_callVi (pc := 700) (As := [.int (xs (n + 1))]) (rest := []) (r := a_setCycles M (xs (n + 1))) (wc := [(v 0, moE M.1 (v 1) (v 2) (v 3) (v 4) (v 5)), (v 1, jA cJ 294 M.2.1), (v 2, jA cJ 1764 M.2.2.1)]) (wc2 := [(v 0, moE (q_setCycles M (xs (n + 1))).1 (v 1) (v 2) (v 3) (v 4) (v 5)), (v 1, jA cJ 294 (q_setCycles M (xs (n + 1))).2.1), (v 2, jA cJ 1764 (q_setCycles M (xs (n + 1))).2.2.1)]) (ws2 := [(v 0, moE (q_setCycles M (xs (n + 1))).1 (v 1) (v 2) (v 3) (v 4) (v 5)), (v 1, jA cJ 294 (q_setCycles M (xs (n + 1))).2.1), (v 2, jA cJ 1764 (q_setCycles M (xs (n + 1))).2.2.1), (v 3, jA cJ 294 M.2.2.2.1), (v 4, iA cI 90 M.2.2.2.2.1), (v 5, iA cI 48 M.2.2.2.2.2), (oD, dA cD 1 fd)] ++ (xwW cI cJ cO b o u X2 Y2 fo2 ++ kTl cI Y2)) C (c_X11_setCycles l D cI cJ cO (v 0) (v 1) (v 2) (v 3) (v 4) (v 5) M.1 M.2.1 M.2.2.1 (xs (n + 1)) hf_t_5) cwv_X11_setCycles q_1185 vX11 0 rfl [0, 1, 2] (kmap_app rfl) rfl (by decide) (kput_app (wc := [(v 0, moE M.1 (v 1) (v 2) (v 3) (v 4) (v 5)), (v 1, jA cJ 294 M.2.1), (v 2, jA cJ 1764 M.2.2.1)]) rfl rfl) rfl (Nat.le_of_ble_eq_true rfl) ⟨Nat.le_of_ble_eq_true rfl, Nat.le_of_ble_eq_true rfl⟩ rfl ⟨hc.1, hc.2⟩ dL_law_700 ?_
  refine k_show (ws2 := lawW cI cJ cO cD b o oD u v X2 Y2 (q_setCycles M (xs (n + 1))) fo2 fd) rfl ?_
  refine k_istore (pc := 703) (lv2 := [(7, .int (a_setCycles M (xs (n + 1)))), (6, .int rt), (5, .int (nI n)), (4, .ref oD), (3, .ref o), (2, .ref (v 0)), (1, .ref b), (0, .ref sb)]) C (by decide) rfl dL_law_703 ?_
  refine k_aload_n (pc := 705) C rfl 5 rfl dL_law_705 ?_
  refine k_show (ws2 := [(v 0, moE (q_setCycles M (xs (n + 1))).1 (v 1) (v 2) (v 3) (v 4) (v 5)), (v 1, jA cJ 294 (q_setCycles M (xs (n + 1))).2.1), (v 2, jA cJ 1764 (q_setCycles M (xs (n + 1))).2.2.1), (v 3, jA cJ 294 (q_setCycles M (xs (n + 1))).2.2.2.1), (v 4, iA cI 90 (q_setCycles M (xs (n + 1))).2.2.2.2.1), (v 5, iA cI 48 (q_setCycles M (xs (n + 1))).2.2.2.2.2), (oD, dA cD 1 fd)] ++ (xwW cI cJ cO b o u X2 Y2 fo2 ++ kTl cI Y2)) rfl ?_
  refine k_callVi (pc := 706) (As := []) (rest := []) (r := (q_setCycles M (xs (n + 1))).1 7) (wc := [(v 0, moE (q_setCycles M (xs (n + 1))).1 (v 1) (v 2) (v 3) (v 4) (v 5))]) (wc2 := [(v 0, moE (q_setCycles M (xs (n + 1))).1 (v 1) (v 2) (v 3) (v 4) (v 5))]) (ws2 := [(v 0, moE (q_setCycles M (xs (n + 1))).1 (v 1) (v 2) (v 3) (v 4) (v 5)), (v 1, jA cJ 294 (q_setCycles M (xs (n + 1))).2.1), (v 2, jA cJ 1764 (q_setCycles M (xs (n + 1))).2.2.1), (v 3, jA cJ 294 (q_setCycles M (xs (n + 1))).2.2.2.1), (v 4, iA cI 90 (q_setCycles M (xs (n + 1))).2.2.2.2.1), (v 5, iA cI 48 (q_setCycles M (xs (n + 1))).2.2.2.2.2), (oD, dA cD 1 fd)] ++ (xwW cI cJ cO b o u X2 Y2 fo2 ++ kTl cI Y2)) C (c_X11_thrown l D cI cJ cO (v 0) (v 1) (v 2) (v 3) (v 4) (v 5) (q_setCycles M (xs (n + 1))).1) cwv_X11_thrown q_1042 vX11 0 rfl [0] (kmap_app rfl) rfl (by decide) (kput_app (wc := [(v 0, moE (q_setCycles M (xs (n + 1))).1 (v 1) (v 2) (v 3) (v 4) (v 5))]) rfl rfl) rfl (Nat.le_of_ble_eq_true rfl) ⟨Nat.le_of_ble_eq_true rfl, Nat.le_of_ble_eq_true rfl⟩ rfl ⟨hc.1, hc.2⟩ dL_law_706 ?_
  refine k_show (ws2 := lawW cI cJ cO cD b o oD u v X2 Y2 (q_setCycles M (xs (n + 1))) fo2 fd) rfl ?_
  refine k_iload (pc := 709) C 1 rfl dL_law_709 ?_
  refine k_icmp_eq (pc := 711) (tgt := 716) C dL_law_711 (by decide) (fun _ => ?_) (fun q => absurd hth q)
  refine k_iload (pc := 716) C 1 rfl dL_law_716 ?_
  refine k_if_ne (pc := 718) (tgt := 733) C dL_law_718 (by decide) (fun _ => k_goto (pc := 733) (tgt := 1809) C (by decide) dL_law_733 (k_lpick (lv2 := [(5, .int (nI n)), (4, .ref oD), (3, .ref o), (2, .ref (v 0)), (1, .ref b), (0, .ref sb)]) [2, 3, 4, 5, 6, 7] rfl (hk X2 Y2 fo2 hR2))) (fun h0 => ?_)
  refine k_aload_n (pc := 721) C rfl 4 rfl dL_law_721 ?_
  refine k_iconst (pc := 722) C iconst_0 dL_law_722 ?_
  refine k_laldK (pc := 723) (v := (a_setCycles M (xs (n + 1))).toInt64) C 7 1 rfl rfl (k_vinc 0 cl_0 (by decide) (by decide)) cl_0 (hout h0) dL_law_723 ?_
  refine k_iload (pc := 724) C 0 rfl dL_law_724 ?_
  refine k_i2l (pc := 726) C dL_law_726 ?_
  exact k_lcmp_eq (pc := 727) (tgt := 733) C dL_law_727 dL_law_728 (by decide) (fun _ => k_goto (pc := 733) (tgt := 1809) C (by decide) dL_law_733 (k_lpick (lv2 := [(5, .int (nI n)), (4, .ref oD), (3, .ref o), (2, .ref (v 0)), (1, .ref b), (0, .ref sb)]) [2, 3, 4, 5, 6, 7] rfl (hk X2 Y2 fo2 hR2))) (fun q => absurd rfl q)
def q_start (M : kMS) : kMS := ((s_X11_start M.1 M.2.1 M.2.2.1).2.1, (s_X11_start M.1 M.2.1 M.2.2.1).2.2.1, (s_X11_start M.1 M.2.1 M.2.2.1).2.2.2, M.2.2.2.1, M.2.2.2.2.1, M.2.2.2.2.2)
def a_start (M : kMS) : Int32 := (s_X11_start M.1 M.2.1 M.2.2.1).1
theorem cwW_L_start : Cond.codeWith yL_start cL_start 3 (some .int) [(0, 8, 11, 24)] ∈ lw_all ∧ Cond.initialized yL_start.cls ∈ lw_all ∧ Cond.static yL_start ∈ lw_all ∧ (yL_start.cls ≠ "java/lang/invoke/MethodHandle" ∧ yL_start.cls ≠ "java/lang/invoke/VarHandle" ∧ (parseMethodDescriptor yL_start.desc).map (fun d => d.parameters.length) = some 2) := ⟨q_809, q_40, q_808, by decide +kernel⟩
set_option maxRecDepth 100000 in
set_option maxHeartbeats 8000000 in
theorem law_8 {p : Program} {l : Launch} {e : Env} {s : State} {m : MethodId} {args : Array Value} {below : List Frame} {meth : Method} {c : Code} {cells slots : Nat} {Q : State → Prop} {D : va_G} {A : Nat → Prop} {ret : Option FieldType} {cI cJ cO cD : ClassId} {z : zT} {sb L b o oD n : Nat} {u v : Nat → Nat} {xs : Nat → Int32} (C4 : KC p s m args meth c cL_law 9 RL ret D (kT4 cI cJ cO cD) A) (hZ : kZ z A s s.heap) (hX : va_X sb L xs s s.heap) (hbl : sb < s.heap.size) (hbA : ¬ A sb) (hL : L ≤ 2560) (hn : n + 5 ≤ L) (hc : cells + 26 ≤ room_1.cells ∧ slots + 331 ≤ room_1.slots) {X : kXS} {Y : kTS} {M : kMS} {fo : Nat → Int64} {fd : Nat → UInt64} {R : kXS → kTS → kMS → Prop} (hs : lStep l D cI cJ cO z yL_start cL_start 3 [(0, 8, 11, 24)] [.ref b, .ref o] b o u X Y fo (a_start M) ((q_start M).1 7) (fun X2 Y2 => R X2 Y2 (q_start M))) (hf_t_5 : kIn (M.1 5) 0 6) (hf_t_w_46 : kInL (M.2.1 46) 0 24) (hk : ∀ (X2 : kXS) (Y2 : kTS) (fo2 : Nat → Int64), R X2 Y2 (q_start M) → KJ p l e room_1 s m args below meth c (cells + 26) (slots + 331) Q D A 9 (lawW cI cJ cO cD b o oD u v X2 Y2 (q_start M) fo2 fd) [(5, .int (nI n)), (4, .ref oD), (3, .ref o), (2, .ref (v 0)), (1, .ref b), (0, .ref sb)] [] 1809) : KJ p l e room_1 s m args below meth c cells slots Q D A 9 (lawW cI cJ cO cD b o oD u v X Y M fo fd) [(5, .int (nI n)), (4, .ref oD), (3, .ref o), (2, .ref (v 0)), (1, .ref b), (0, .ref sb)] [] 736 := by
  have C := KC.t4 C4
  refine k_aload_n (pc := 736) C rfl 4 rfl dL_law_736 ?_
  refine k_aload_n (pc := 737) C rfl 2 rfl dL_law_737 ?_
  refine k_lstep (pc := 738) (As := [.ref b, .ref o]) (rest := []) C hZ hs cwW_L_start q_807 rfl (Nat.le_of_ble_eq_true rfl) ⟨Nat.le_of_ble_eq_true rfl, Nat.le_of_ble_eq_true rfl⟩ rfl hc dL_law_738 (fun rt X2 Y2 fo2 hth hout hR2 => ?_)
  refine k_istore (pc := 741) (lv2 := [(6, .int rt), (5, .int (nI n)), (4, .ref oD), (3, .ref o), (2, .ref (v 0)), (1, .ref b), (0, .ref sb)]) C (by decide) rfl dL_law_741 ?_
  refine k_aload_n (pc := 743) C rfl 4 rfl dL_law_743 ?_
  refine k_show (ws2 := [(v 0, moE M.1 (v 1) (v 2) (v 3) (v 4) (v 5)), (v 1, jA cJ 294 M.2.1), (v 2, jA cJ 1764 M.2.2.1), (v 3, jA cJ 294 M.2.2.2.1), (v 4, iA cI 90 M.2.2.2.2.1), (v 5, iA cI 48 M.2.2.2.2.2), (oD, dA cD 1 fd)] ++ (xwW cI cJ cO b o u X2 Y2 fo2 ++ kTl cI Y2)) rfl ?_
  refine k_callVi (pc := 744) (As := []) (rest := []) (r := a_start M) (wc := [(v 0, moE M.1 (v 1) (v 2) (v 3) (v 4) (v 5)), (v 1, jA cJ 294 M.2.1), (v 2, jA cJ 1764 M.2.2.1)]) (wc2 := [(v 0, moE (q_start M).1 (v 1) (v 2) (v 3) (v 4) (v 5)), (v 1, jA cJ 294 (q_start M).2.1), (v 2, jA cJ 1764 (q_start M).2.2.1)]) (ws2 := [(v 0, moE (q_start M).1 (v 1) (v 2) (v 3) (v 4) (v 5)), (v 1, jA cJ 294 (q_start M).2.1), (v 2, jA cJ 1764 (q_start M).2.2.1), (v 3, jA cJ 294 M.2.2.2.1), (v 4, iA cI 90 M.2.2.2.2.1), (v 5, iA cI 48 M.2.2.2.2.2), (oD, dA cD 1 fd)] ++ (xwW cI cJ cO b o u X2 Y2 fo2 ++ kTl cI Y2)) C (c_X11_start l D cI cJ cO (v 0) (v 1) (v 2) (v 3) (v 4) (v 5) M.1 M.2.1 M.2.2.1 hf_t_5 hf_t_w_46) cwv_X11_start q_1189 vX11 0 rfl [0, 1, 2] (kmap_app rfl) rfl (by decide) (kput_app (wc := [(v 0, moE M.1 (v 1) (v 2) (v 3) (v 4) (v 5)), (v 1, jA cJ 294 M.2.1), (v 2, jA cJ 1764 M.2.2.1)]) rfl rfl) rfl (Nat.le_of_ble_eq_true rfl) ⟨Nat.le_of_ble_eq_true rfl, Nat.le_of_ble_eq_true rfl⟩ rfl ⟨hc.1, hc.2⟩ dL_law_744 ?_
  refine k_show (ws2 := lawW cI cJ cO cD b o oD u v X2 Y2 (q_start M) fo2 fd) rfl ?_
  refine k_istore (pc := 747) (lv2 := [(7, .int (a_start M)), (6, .int rt), (5, .int (nI n)), (4, .ref oD), (3, .ref o), (2, .ref (v 0)), (1, .ref b), (0, .ref sb)]) C (by decide) rfl dL_law_747 ?_
  refine k_aload_n (pc := 749) C rfl 5 rfl dL_law_749 ?_
  refine k_show (ws2 := [(v 0, moE (q_start M).1 (v 1) (v 2) (v 3) (v 4) (v 5)), (v 1, jA cJ 294 (q_start M).2.1), (v 2, jA cJ 1764 (q_start M).2.2.1), (v 3, jA cJ 294 (q_start M).2.2.2.1), (v 4, iA cI 90 (q_start M).2.2.2.2.1), (v 5, iA cI 48 (q_start M).2.2.2.2.2), (oD, dA cD 1 fd)] ++ (xwW cI cJ cO b o u X2 Y2 fo2 ++ kTl cI Y2)) rfl ?_
  refine k_callVi (pc := 750) (As := []) (rest := []) (r := (q_start M).1 7) (wc := [(v 0, moE (q_start M).1 (v 1) (v 2) (v 3) (v 4) (v 5))]) (wc2 := [(v 0, moE (q_start M).1 (v 1) (v 2) (v 3) (v 4) (v 5))]) (ws2 := [(v 0, moE (q_start M).1 (v 1) (v 2) (v 3) (v 4) (v 5)), (v 1, jA cJ 294 (q_start M).2.1), (v 2, jA cJ 1764 (q_start M).2.2.1), (v 3, jA cJ 294 (q_start M).2.2.2.1), (v 4, iA cI 90 (q_start M).2.2.2.2.1), (v 5, iA cI 48 (q_start M).2.2.2.2.2), (oD, dA cD 1 fd)] ++ (xwW cI cJ cO b o u X2 Y2 fo2 ++ kTl cI Y2)) C (c_X11_thrown l D cI cJ cO (v 0) (v 1) (v 2) (v 3) (v 4) (v 5) (q_start M).1) cwv_X11_thrown q_1042 vX11 0 rfl [0] (kmap_app rfl) rfl (by decide) (kput_app (wc := [(v 0, moE (q_start M).1 (v 1) (v 2) (v 3) (v 4) (v 5))]) rfl rfl) rfl (Nat.le_of_ble_eq_true rfl) ⟨Nat.le_of_ble_eq_true rfl, Nat.le_of_ble_eq_true rfl⟩ rfl ⟨hc.1, hc.2⟩ dL_law_750 ?_
  refine k_show (ws2 := lawW cI cJ cO cD b o oD u v X2 Y2 (q_start M) fo2 fd) rfl ?_
  refine k_iload (pc := 753) C 1 rfl dL_law_753 ?_
  refine k_icmp_eq (pc := 755) (tgt := 760) C dL_law_755 (by decide) (fun _ => ?_) (fun q => absurd hth q)
  refine k_iload (pc := 760) C 1 rfl dL_law_760 ?_
  refine k_if_ne (pc := 762) (tgt := 777) C dL_law_762 (by decide) (fun _ => k_goto (pc := 777) (tgt := 1809) C (by decide) dL_law_777 (k_lpick (lv2 := [(5, .int (nI n)), (4, .ref oD), (3, .ref o), (2, .ref (v 0)), (1, .ref b), (0, .ref sb)]) [2, 3, 4, 5, 6, 7] rfl (hk X2 Y2 fo2 hR2))) (fun h0 => ?_)
  refine k_aload_n (pc := 765) C rfl 4 rfl dL_law_765 ?_
  refine k_iconst (pc := 766) C iconst_0 dL_law_766 ?_
  refine k_laldK (pc := 767) (v := (a_start M).toInt64) C 7 1 rfl rfl (k_vinc 0 cl_0 (by decide) (by decide)) cl_0 (hout h0) dL_law_767 ?_
  refine k_iload (pc := 768) C 0 rfl dL_law_768 ?_
  refine k_i2l (pc := 770) C dL_law_770 ?_
  exact k_lcmp_eq (pc := 771) (tgt := 777) C dL_law_771 dL_law_772 (by decide) (fun _ => k_goto (pc := 777) (tgt := 1809) C (by decide) dL_law_777 (k_lpick (lv2 := [(5, .int (nI n)), (4, .ref oD), (3, .ref o), (2, .ref (v 0)), (1, .ref b), (0, .ref sb)]) [2, 3, 4, 5, 6, 7] rfl (hk X2 Y2 fo2 hR2))) (fun q => absurd rfl q)
def q_stop (M : kMS) : kMS := ((s_X11_stop M.1 M.2.1 M.2.2.1).2.1, (s_X11_stop M.1 M.2.1 M.2.2.1).2.2.1, (s_X11_stop M.1 M.2.1 M.2.2.1).2.2.2, M.2.2.2.1, M.2.2.2.2.1, M.2.2.2.2.2)
def a_stop (M : kMS) : Int32 := (s_X11_stop M.1 M.2.1 M.2.2.1).1
theorem cwW_L_stop : Cond.codeWith yL_stop cL_stop 3 (some .int) [(0, 8, 11, 24)] ∈ lw_all ∧ Cond.initialized yL_stop.cls ∈ lw_all ∧ Cond.static yL_stop ∈ lw_all ∧ (yL_stop.cls ≠ "java/lang/invoke/MethodHandle" ∧ yL_stop.cls ≠ "java/lang/invoke/VarHandle" ∧ (parseMethodDescriptor yL_stop.desc).map (fun d => d.parameters.length) = some 2) := ⟨q_820, q_40, q_819, by decide +kernel⟩
set_option maxRecDepth 100000 in
set_option maxHeartbeats 8000000 in
theorem law_9 {p : Program} {l : Launch} {e : Env} {s : State} {m : MethodId} {args : Array Value} {below : List Frame} {meth : Method} {c : Code} {cells slots : Nat} {Q : State → Prop} {D : va_G} {A : Nat → Prop} {ret : Option FieldType} {cI cJ cO cD : ClassId} {z : zT} {sb L b o oD n : Nat} {u v : Nat → Nat} {xs : Nat → Int32} (C4 : KC p s m args meth c cL_law 9 RL ret D (kT4 cI cJ cO cD) A) (hZ : kZ z A s s.heap) (hX : va_X sb L xs s s.heap) (hbl : sb < s.heap.size) (hbA : ¬ A sb) (hL : L ≤ 2560) (hn : n + 5 ≤ L) (hc : cells + 26 ≤ room_1.cells ∧ slots + 331 ≤ room_1.slots) {X : kXS} {Y : kTS} {M : kMS} {fo : Nat → Int64} {fd : Nat → UInt64} {R : kXS → kTS → kMS → Prop} (hs : lStep l D cI cJ cO z yL_stop cL_stop 3 [(0, 8, 11, 24)] [.ref b, .ref o] b o u X Y fo (a_stop M) ((q_stop M).1 7) (fun X2 Y2 => R X2 Y2 (q_stop M))) (hf_t_5 : kIn (M.1 5) 0 6) (hf_t_w_46 : kInL (M.2.1 46) 0 24) (hk : ∀ (X2 : kXS) (Y2 : kTS) (fo2 : Nat → Int64), R X2 Y2 (q_stop M) → KJ p l e room_1 s m args below meth c (cells + 26) (slots + 331) Q D A 9 (lawW cI cJ cO cD b o oD u v X2 Y2 (q_stop M) fo2 fd) [(5, .int (nI n)), (4, .ref oD), (3, .ref o), (2, .ref (v 0)), (1, .ref b), (0, .ref sb)] [] 1809) : KJ p l e room_1 s m args below meth c cells slots Q D A 9 (lawW cI cJ cO cD b o oD u v X Y M fo fd) [(5, .int (nI n)), (4, .ref oD), (3, .ref o), (2, .ref (v 0)), (1, .ref b), (0, .ref sb)] [] 780 := by
  have C := KC.t4 C4
  refine k_aload_n (pc := 780) C rfl 4 rfl dL_law_780 ?_
  refine k_aload_n (pc := 781) C rfl 2 rfl dL_law_781 ?_
  refine k_lstep (pc := 782) (As := [.ref b, .ref o]) (rest := []) C hZ hs cwW_L_stop q_818 rfl (Nat.le_of_ble_eq_true rfl) ⟨Nat.le_of_ble_eq_true rfl, Nat.le_of_ble_eq_true rfl⟩ rfl hc dL_law_782 (fun rt X2 Y2 fo2 hth hout hR2 => ?_)
  refine k_istore (pc := 785) (lv2 := [(6, .int rt), (5, .int (nI n)), (4, .ref oD), (3, .ref o), (2, .ref (v 0)), (1, .ref b), (0, .ref sb)]) C (by decide) rfl dL_law_785 ?_
  refine k_aload_n (pc := 787) C rfl 4 rfl dL_law_787 ?_
  refine k_show (ws2 := [(v 0, moE M.1 (v 1) (v 2) (v 3) (v 4) (v 5)), (v 1, jA cJ 294 M.2.1), (v 2, jA cJ 1764 M.2.2.1), (v 3, jA cJ 294 M.2.2.2.1), (v 4, iA cI 90 M.2.2.2.2.1), (v 5, iA cI 48 M.2.2.2.2.2), (oD, dA cD 1 fd)] ++ (xwW cI cJ cO b o u X2 Y2 fo2 ++ kTl cI Y2)) rfl ?_
  refine k_callVi (pc := 788) (As := []) (rest := []) (r := a_stop M) (wc := [(v 0, moE M.1 (v 1) (v 2) (v 3) (v 4) (v 5)), (v 1, jA cJ 294 M.2.1), (v 2, jA cJ 1764 M.2.2.1)]) (wc2 := [(v 0, moE (q_stop M).1 (v 1) (v 2) (v 3) (v 4) (v 5)), (v 1, jA cJ 294 (q_stop M).2.1), (v 2, jA cJ 1764 (q_stop M).2.2.1)]) (ws2 := [(v 0, moE (q_stop M).1 (v 1) (v 2) (v 3) (v 4) (v 5)), (v 1, jA cJ 294 (q_stop M).2.1), (v 2, jA cJ 1764 (q_stop M).2.2.1), (v 3, jA cJ 294 M.2.2.2.1), (v 4, iA cI 90 M.2.2.2.2.1), (v 5, iA cI 48 M.2.2.2.2.2), (oD, dA cD 1 fd)] ++ (xwW cI cJ cO b o u X2 Y2 fo2 ++ kTl cI Y2)) C (c_X11_stop l D cI cJ cO (v 0) (v 1) (v 2) (v 3) (v 4) (v 5) M.1 M.2.1 M.2.2.1 hf_t_5 hf_t_w_46) cwv_X11_stop q_1193 vX11 0 rfl [0, 1, 2] (kmap_app rfl) rfl (by decide) (kput_app (wc := [(v 0, moE M.1 (v 1) (v 2) (v 3) (v 4) (v 5)), (v 1, jA cJ 294 M.2.1), (v 2, jA cJ 1764 M.2.2.1)]) rfl rfl) rfl (Nat.le_of_ble_eq_true rfl) ⟨Nat.le_of_ble_eq_true rfl, Nat.le_of_ble_eq_true rfl⟩ rfl ⟨hc.1, hc.2⟩ dL_law_788 ?_
  refine k_show (ws2 := lawW cI cJ cO cD b o oD u v X2 Y2 (q_stop M) fo2 fd) rfl ?_
  refine k_istore (pc := 791) (lv2 := [(7, .int (a_stop M)), (6, .int rt), (5, .int (nI n)), (4, .ref oD), (3, .ref o), (2, .ref (v 0)), (1, .ref b), (0, .ref sb)]) C (by decide) rfl dL_law_791 ?_
  refine k_aload_n (pc := 793) C rfl 5 rfl dL_law_793 ?_
  refine k_show (ws2 := [(v 0, moE (q_stop M).1 (v 1) (v 2) (v 3) (v 4) (v 5)), (v 1, jA cJ 294 (q_stop M).2.1), (v 2, jA cJ 1764 (q_stop M).2.2.1), (v 3, jA cJ 294 (q_stop M).2.2.2.1), (v 4, iA cI 90 (q_stop M).2.2.2.2.1), (v 5, iA cI 48 (q_stop M).2.2.2.2.2), (oD, dA cD 1 fd)] ++ (xwW cI cJ cO b o u X2 Y2 fo2 ++ kTl cI Y2)) rfl ?_
  refine k_callVi (pc := 794) (As := []) (rest := []) (r := (q_stop M).1 7) (wc := [(v 0, moE (q_stop M).1 (v 1) (v 2) (v 3) (v 4) (v 5))]) (wc2 := [(v 0, moE (q_stop M).1 (v 1) (v 2) (v 3) (v 4) (v 5))]) (ws2 := [(v 0, moE (q_stop M).1 (v 1) (v 2) (v 3) (v 4) (v 5)), (v 1, jA cJ 294 (q_stop M).2.1), (v 2, jA cJ 1764 (q_stop M).2.2.1), (v 3, jA cJ 294 (q_stop M).2.2.2.1), (v 4, iA cI 90 (q_stop M).2.2.2.2.1), (v 5, iA cI 48 (q_stop M).2.2.2.2.2), (oD, dA cD 1 fd)] ++ (xwW cI cJ cO b o u X2 Y2 fo2 ++ kTl cI Y2)) C (c_X11_thrown l D cI cJ cO (v 0) (v 1) (v 2) (v 3) (v 4) (v 5) (q_stop M).1) cwv_X11_thrown q_1042 vX11 0 rfl [0] (kmap_app rfl) rfl (by decide) (kput_app (wc := [(v 0, moE (q_stop M).1 (v 1) (v 2) (v 3) (v 4) (v 5))]) rfl rfl) rfl (Nat.le_of_ble_eq_true rfl) ⟨Nat.le_of_ble_eq_true rfl, Nat.le_of_ble_eq_true rfl⟩ rfl ⟨hc.1, hc.2⟩ dL_law_794 ?_
  refine k_show (ws2 := lawW cI cJ cO cD b o oD u v X2 Y2 (q_stop M) fo2 fd) rfl ?_
  refine k_iload (pc := 797) C 1 rfl dL_law_797 ?_
  refine k_icmp_eq (pc := 799) (tgt := 804) C dL_law_799 (by decide) (fun _ => ?_) (fun q => absurd hth q)
  refine k_iload (pc := 804) C 1 rfl dL_law_804 ?_
  refine k_if_ne (pc := 806) (tgt := 821) C dL_law_806 (by decide) (fun _ => k_goto (pc := 821) (tgt := 1809) C (by decide) dL_law_821 (k_lpick (lv2 := [(5, .int (nI n)), (4, .ref oD), (3, .ref o), (2, .ref (v 0)), (1, .ref b), (0, .ref sb)]) [2, 3, 4, 5, 6, 7] rfl (hk X2 Y2 fo2 hR2))) (fun h0 => ?_)
  refine k_aload_n (pc := 809) C rfl 4 rfl dL_law_809 ?_
  refine k_iconst (pc := 810) C iconst_0 dL_law_810 ?_
  refine k_laldK (pc := 811) (v := (a_stop M).toInt64) C 7 1 rfl rfl (k_vinc 0 cl_0 (by decide) (by decide)) cl_0 (hout h0) dL_law_811 ?_
  refine k_iload (pc := 812) C 0 rfl dL_law_812 ?_
  refine k_i2l (pc := 814) C dL_law_814 ?_
  exact k_lcmp_eq (pc := 815) (tgt := 821) C dL_law_815 dL_law_816 (by decide) (fun _ => k_goto (pc := 821) (tgt := 1809) C (by decide) dL_law_821 (k_lpick (lv2 := [(5, .int (nI n)), (4, .ref oD), (3, .ref o), (2, .ref (v 0)), (1, .ref b), (0, .ref sb)]) [2, 3, 4, 5, 6, 7] rfl (hk X2 Y2 fo2 hR2))) (fun q => absurd rfl q)