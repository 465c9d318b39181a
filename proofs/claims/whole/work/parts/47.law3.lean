theorem q_826 : Cond.methodLink RL 143 yL_hold ∈ lw_all := kq 826 (by decide +kernel) (by decide +kernel)
theorem q_827 : Cond.static yL_hold ∈ lw_all := kq 827 (by decide +kernel) (by decide +kernel)
theorem q_828 : Cond.codeWith yL_hold cL_hold 4 (some .int) [(0, 9, 12, 24)] ∈ lw_all := kq 828 (by decide +kernel) (by decide +kernel)
theorem q_833 : Cond.methodLink RL 146 yL_undo ∈ lw_all := kq 833 (by decide +kernel) (by decide +kernel)
theorem q_834 : Cond.static yL_undo ∈ lw_all := kq 834 (by decide +kernel) (by decide +kernel)
theorem q_835 : Cond.codeWith yL_undo cL_undo 3 (some .int) [(0, 8, 11, 24)] ∈ lw_all := kq 835 (by decide +kernel) (by decide +kernel)
theorem q_844 : Cond.methodLink RL 149 yL_value ∈ lw_all := kq 844 (by decide +kernel) (by decide +kernel)
theorem q_845 : Cond.static yL_value ∈ lw_all := kq 845 (by decide +kernel) (by decide +kernel)
theorem q_846 : Cond.codeWith yL_value cL_value 4 (some .int) [(0, 9, 12, 15)] ∈ lw_all := kq 846 (by decide +kernel) (by decide +kernel)
theorem q_860 : Cond.methodLink RL 152 yL_setting ∈ lw_all := kq 860 (by decide +kernel) (by decide +kernel)
theorem q_861 : Cond.static yL_setting ∈ lw_all := kq 861 (by decide +kernel) (by decide +kernel)
theorem q_862 : Cond.codeWith yL_setting cL_setting 4 (some .int) [(0, 9, 12, 13)] ∈ lw_all := kq 862 (by decide +kernel) (by decide +kernel)
theorem q_867 : Cond.methodLink RL 155 yL_segment ∈ lw_all := kq 867 (by decide +kernel) (by decide +kernel)
theorem q_868 : Cond.static yL_segment ∈ lw_all := kq 868 (by decide +kernel) (by decide +kernel)
theorem q_869 : Cond.codeWith yL_segment cL_segment 5 (some .int) [(0, 10, 13, 13), (0, 10, 17, 15)] ∈ lw_all := kq 869 (by decide +kernel) (by decide +kernel)
theorem q_1197 : Cond.methodLink RL 145 yX11_hold ∈ lw_all := kq 1197 (by decide +kernel) (by decide +kernel)
theorem q_1198 : Cond.instanceMethod yX11_hold ∈ lw_all := kq 1198 (by decide +kernel) (by decide +kernel)
theorem q_1199 : Cond.selects RX11 yX11_hold yX11_hold ∈ lw_all := kq 1199 (by decide +kernel) (by decide +kernel)
theorem q_1200 : Cond.code yX11_hold cX11_hold 2 (some .int) ∈ lw_all := kq 1200 (by decide +kernel) (by decide +kernel)
theorem q_1201 : Cond.methodLink RL 148 yX11_undo ∈ lw_all := kq 1201 (by decide +kernel) (by decide +kernel)
theorem q_1202 : Cond.instanceMethod yX11_undo ∈ lw_all := kq 1202 (by decide +kernel) (by decide +kernel)
theorem q_1203 : Cond.selects RX11 yX11_undo yX11_undo ∈ lw_all := kq 1203 (by decide +kernel) (by decide +kernel)
theorem q_1204 : Cond.code yX11_undo cX11_undo 2 (some .int) ∈ lw_all := kq 1204 (by decide +kernel) (by decide +kernel)
theorem q_1205 : Cond.methodLink RL 151 yX11_value ∈ lw_all := kq 1205 (by decide +kernel) (by decide +kernel)
theorem q_1206 : Cond.instanceMethod yX11_value ∈ lw_all := kq 1206 (by decide +kernel) (by decide +kernel)
theorem q_1207 : Cond.selects RX11 yX11_value yX11_value ∈ lw_all := kq 1207 (by decide +kernel) (by decide +kernel)
theorem q_1208 : Cond.code yX11_value cX11_value 2 (some .int) ∈ lw_all := kq 1208 (by decide +kernel) (by decide +kernel)
theorem q_1209 : Cond.methodLink RL 154 yX11_setting ∈ lw_all := kq 1209 (by decide +kernel) (by decide +kernel)
theorem q_1210 : Cond.instanceMethod yX11_setting ∈ lw_all := kq 1210 (by decide +kernel) (by decide +kernel)
theorem q_1211 : Cond.selects RX11 yX11_setting yX11_setting ∈ lw_all := kq 1211 (by decide +kernel) (by decide +kernel)
theorem q_1212 : Cond.code yX11_setting cX11_setting 2 (some .int) ∈ lw_all := kq 1212 (by decide +kernel) (by decide +kernel)
theorem q_1213 : Cond.methodLink RL 157 yX11_segment ∈ lw_all := kq 1213 (by decide +kernel) (by decide +kernel)
theorem q_1214 : Cond.instanceMethod yX11_segment ∈ lw_all := kq 1214 (by decide +kernel) (by decide +kernel)
theorem q_1215 : Cond.selects RX11 yX11_segment yX11_segment ∈ lw_all := kq 1215 (by decide +kernel) (by decide +kernel)
theorem q_1216 : Cond.code yX11_segment cX11_segment 3 (some .int) ∈ lw_all := kq 1216 (by decide +kernel) (by decide +kernel)
theorem cwv_X11_hold : kCWv yX11_hold cX11_hold 2 (some .int) 1 := ⟨⟨q_1200, q_53, by decide +kernel⟩, q_1198, q_1199⟩
theorem cwv_X11_segment : kCWv yX11_segment cX11_segment 3 (some .int) 2 := ⟨⟨q_1216, q_53, by decide +kernel⟩, q_1214, q_1215⟩
theorem cwv_X11_setting : kCWv yX11_setting cX11_setting 2 (some .int) 1 := ⟨⟨q_1212, q_53, by decide +kernel⟩, q_1210, q_1211⟩
theorem cwv_X11_undo : kCWv yX11_undo cX11_undo 2 (some .int) 0 := ⟨⟨q_1204, q_53, by decide +kernel⟩, q_1202, q_1203⟩
theorem cwv_X11_value : kCWv yX11_value cX11_value 2 (some .int) 1 := ⟨⟨q_1208, q_53, by decide +kernel⟩, q_1206, q_1207⟩
def q_hold (M : kMS) (p0 : Int32) : kMS := ((s_X11_hold M.1 M.2.1 M.2.2.1 p0).2.1, (s_X11_hold M.1 M.2.1 M.2.2.1 p0).2.2.1, (s_X11_hold M.1 M.2.1 M.2.2.1 p0).2.2.2, M.2.2.2.1, M.2.2.2.2.1, M.2.2.2.2.2)
def a_hold (M : kMS) (p0 : Int32) : Int32 := (s_X11_hold M.1 M.2.1 M.2.2.1 p0).1
theorem cwW_L_hold : Cond.codeWith yL_hold cL_hold 4 (some .int) [(0, 9, 12, 24)] ∈ lw_all ∧ Cond.initialized yL_hold.cls ∈ lw_all ∧ Cond.static yL_hold ∈ lw_all ∧ (yL_hold.cls ≠ "java/lang/invoke/MethodHandle" ∧ yL_hold.cls ≠ "java/lang/invoke/VarHandle" ∧ (parseMethodDescriptor yL_hold.desc).map (fun d => d.parameters.length) = some 3) := ⟨q_828, q_40, q_827, by decide +kernel⟩
set_option maxRecDepth 100000 in
set_option maxHeartbeats 8000000 in
theorem law_10 {p : Program} {l : Launch} {e : Env} {s : State} {m : MethodId} {args : Array Value} {below : List Frame} {meth : Method} {c : Code} {cells slots : Nat} {Q : State → Prop} {D : va_G} {A : Nat → Prop} {ret : Option FieldType} {cI cJ cO cD : ClassId} {z : zT} {sb L b o oD n : Nat} {u v : Nat → Nat} {xs : Nat → Int32} (C4 : KC p s m args meth c cL_law 9 RL ret D (kT4 cI cJ cO cD) A) (hZ : kZ z A s s.heap) (hX : va_X sb L xs s s.heap) (hbl : sb < s.heap.size) (hbA : ¬ A sb) (hL : L ≤ 2560) (hn : n + 5 ≤ L) (hc : cells + 26 ≤ room_1.cells ∧ slots + 331 ≤ room_1.slots) {X : kXS} {Y : kTS} {M : kMS} {fo : Nat → Int64} {fd : Nat → UInt64} {R : kXS → kTS → kMS → Prop} (hs : lStep l D cI cJ cO z yL_hold cL_hold 4 [(0, 9, 12, 24)] [.ref b, .int (bz (xs (n + 1))), .ref o] b o u X Y fo (a_hold M (bz (xs (n + 1)))) ((q_hold M (bz (xs (n + 1)))).1 7) (fun X2 Y2 => R X2 Y2 (q_hold M (bz (xs (n + 1)))))) (hf_t_5 : kIn (M.1 5) 0 6) (hk : ∀ (X2 : kXS) (Y2 : kTS) (fo2 : Nat → Int64), R X2 Y2 (q_hold M (bz (xs (n + 1)))) → KJ p l e room_1 s m args below meth c (cells + 26) (slots + 331) Q D A 9 (lawW cI cJ cO cD b o oD u v X2 Y2 (q_hold M (bz (xs (n + 1)))) fo2 fd) [(5, .int (nI n)), (4, .ref oD), (3, .ref o), (2, .ref (v 0)), (1, .ref b), (0, .ref sb)] [] 1809) : KJ p l e room_1 s m args below meth c cells slots Q D A 9 (lawW cI cJ cO cD b o oD u v X Y M fo fd) [(5, .int (nI n)), (4, .ref oD), (3, .ref o), (2, .ref (v 0)), (1, .ref b), (0, .ref sb)] [] 824 := by
  have C := KC.t4 C4
  refine k_aload_n (pc := 824) C rfl 4 rfl dL_law_824 ?_
  refine k_aload_n (pc := 825) C rfl 5 rfl dL_law_825 ?_
  refine k_iload (pc := 826) C 0 rfl dL_law_826 ?_
  refine k_iconst (pc := 828) C iconst_1 dL_law_828 ?_
  refine k_iadd (pc := 829) C dL_law_829 ?_
  refine k_sld (pc := 830) (k := n + 1) C hX hbl hbA ((nI_succ n).symm) (by omega) hL dL_law_830 ?_
  refine k_bz (pc := 831) C dL_law_831 dL_law_834 dL_law_835 dL_law_838 ?_
  refine k_aload_n (pc := 839) C rfl 2 rfl dL_law_839 ?_
  refine k_lstep (pc := 840) (As := [.ref b, .int (bz (xs (n + 1))), .ref o]) (rest := []) C hZ hs cwW_L_hold q_826 rfl (Nat.le_of_ble_eq_true rfl) ⟨Nat.le_of_ble_eq_true rfl, Nat.le_of_ble_eq_true rfl⟩ rfl hc dL_law_840 (fun rt X2 Y2 fo2 hth hout hR2 => ?_)
  refine k_istore (pc := 843) (lv2 := [(6, .int rt), (5, .int (nI n)), (4, .ref oD), (3, .ref o), (2, .ref (v 0)), (1, .ref b), (0, .ref sb)]) C (by decide) rfl dL_law_843 ?_
  refine k_aload_n (pc := 845) C rfl 4 rfl dL_law_845 ?_
  refine k_aload_n (pc := 846) C rfl 6 rfl dL_law_846 ?_
  refine k_iload (pc := 847) C 1 rfl dL_law_847 ?_
  refine k_iconst (pc := 849) C iconst_1 dL_law_849 ?_
  refine k_iadd (pc := 850) C dL_law_850 ?_
  refine k_sld (pc := 851) (k := n + 1) C hX hbl hbA ((nI_succ n).symm) (by omega) hL dL_law_851 ?_
  refine k_bz (pc := 852) C dL_law_852 dL_law_855 dL_law_856 dL_law_859 ?_
  refine k_show (ws2 := [(v 0, moE M.1 (v 1) (v 2) (v 3) (v 4) (v 5)), (v 1, jA cJ 294 M.2.1), (v 2, jA cJ 1764 M.2.2.1), (v 3, jA cJ 294 M.2.2.2.1), (v 4, iA cI 90 M.2.2.2.2.1), (v 5, iA cI 48 M.2.2.2.2.2), (oD, dA cD 1 fd)] ++ (xwW cI cJ cO b o u X2 Y2 fo2 ++ kTl cI Y2)) rfl ?_
  refine k_callVi (pc := 860) (As := [.int (bz (xs (n + 1)))]) (rest := []) (r := a_hold M (bz (xs (n + 1)))) (wc := [(v 0, moE M.1 (v 1) (v 2) (v 3) (v 4) (v 5)), (v 1, jA cJ 294 M.2.1), (v 2, jA cJ 1764 M.2.2.1)]) (wc2 := [(v 0, moE (q_hold M (bz (xs (n + 1)))).1 (v 1) (v 2) (v 3) (v 4) (v 5)), (v 1, jA cJ 294 (q_hold M (bz (xs (n + 1)))).2.1), (v 2, jA cJ 1764 (q_hold M (bz (xs (n + 1)))).2.2.1)]) (ws2 := [(v 0, moE (q_hold M (bz (xs (n + 1)))).1 (v 1) (v 2) (v 3) (v 4) (v 5)), (v 1, jA cJ 294 (q_hold M (bz (xs (n + 1)))).2.1), (v 2, jA cJ 1764 (q_hold M (bz (xs (n + 1)))).2.2.1), (v 3, jA cJ 294 M.2.2.2.1), (v 4, iA cI 90 M.2.2.2.2.1), (v 5, iA cI 48 M.2.2.2.2.2), (oD, dA cD 1 fd)] ++ (xwW cI cJ cO b o u X2 Y2 fo2 ++ kTl cI Y2)) C (c_X11_hold l D cI cJ cO (v 0) (v 1) (v 2) (v 3) (v 4) (v 5) M.1 M.2.1 M.2.2.1 (bz (xs (n + 1))) hf_t_5) cwv_X11_hold q_1197 vX11 0 rfl [0, 1, 2] (kmap_app rfl) rfl (by decide) (kput_app (wc := [(v 0, moE M.1 (v 1) (v 2) (v 3) (v 4) (v 5)), (v 1, jA cJ 294 M.2.1), (v 2, jA cJ 1764 M.2.2.1)]) rfl rfl) rfl (Nat.le_of_ble_eq_true rfl) ⟨Nat.le_of_ble_eq_true rfl, Nat.le_of_ble_eq_true rfl⟩ rfl ⟨hc.1, hc.2⟩ dL_law_860 ?_
  refine k_show (ws2 := lawW cI cJ cO cD b o oD u v X2 Y2 (q_hold M (bz (xs (n + 1)))) fo2 fd) rfl ?_
  refine k_istore (pc := 863) (lv2 := [(7, .int (a_hold M (bz (xs (n + 1))))), (6, .int rt), (5, .int (nI n)), (4, .ref oD), (3, .ref o), (2, .ref (v 0)), (1, .ref b), (0, .ref sb)]) C (by decide) rfl dL_law_863 ?_
  refine k_aload_n (pc := 865) C rfl 5 rfl dL_law_865 ?_
  refine k_show (ws2 := [(v 0, moE (q_hold M (bz (xs (n + 1)))).1 (v 1) (v 2) (v 3) (v 4) (v 5)), (v 1, jA cJ 294 (q_hold M (bz (xs (n + 1)))).2.1), (v 2, jA cJ 1764 (q_hold M (bz (xs (n + 1)))).2.2.1), (v 3, jA cJ 294 (q_hold M (bz (xs (n + 1)))).2.2.2.1), (v 4, iA cI 90 (q_hold M (bz (xs (n + 1)))).2.2.2.2.1), (v 5, iA cI 48 (q_hold M (bz (xs (n + 1)))).2.2.2.2.2), (oD, dA cD 1 fd)] ++ (xwW cI cJ cO b o u X2 Y2 fo2 ++ kTl cI Y2)) rfl ?_
  refine k_callVi (pc := 866) (As := []) (rest := []) (r := (q_hold M (bz (xs (n + 1)))).1 7) (wc := [(v 0, moE (q_hold M (bz (xs (n + 1)))).1 (v 1) (v 2) (v 3) (v 4) (v 5))]) (wc2 := [(v 0, moE (q_hold M (bz (xs (n + 1)))).1 (v 1) (v 2) (v 3) (v 4) (v 5))]) (ws2 := [(v 0, moE (q_hold M (bz (xs (n + 1)))).1 (v 1) (v 2) (v 3) (v 4) (v 5)), (v 1, jA cJ 294 (q_hold M (bz (xs (n + 1)))).2.1), (v 2, jA cJ 1764 (q_hold M (bz (xs (n + 1)))).2.2.1), (v 3, jA cJ 294 (q_hold M (bz (xs (n + 1)))).2.2.2.1), (v 4, iA cI 90 (q_hold M (bz (xs (n + 1)))).2.2.2.2.1), (v 5, iA cI 48 (q_hold M (bz (xs (n + 1)))).2.2.2.2.2), (oD, dA cD 1 fd)] ++ (xwW cI cJ cO b o u X2 Y2 fo2 ++ kTl cI Y2)) C (c_X11_thrown l D cI cJ cO (v 0) (v 1) (v 2) (v 3) (v 4) (v 5) (q_hold M (bz (xs (n + 1)))).1) cwv_X11_thrown q_1042 vX11 0 rfl [0] (kmap_app rfl) rfl (by decide) (kput_app (wc := [(v 0, moE (q_hold M (bz (xs (n + 1)))).1 (v 1) (v 2) (v 3) (v 4) (v 5))]) rfl rfl) rfl (Nat.le_of_ble_eq_true rfl) ⟨Nat.le_of_ble_eq_true rfl, Nat.le_of_ble_eq_true rfl⟩ rfl ⟨hc.1, hc.2⟩ dL_law_866 ?_
  refine k_show (ws2 := lawW cI cJ cO cD b o oD u v X2 Y2 (q_hold M (bz (xs (n + 1)))) fo2 fd) rfl ?_
  refine k_iload (pc := 869) C 1 rfl dL_law_869 ?_
  refine k_icmp_eq (pc := 871) (tgt := 876) C dL_law_871 (by decide) (fun _ => ?_) (fun q => absurd hth q)
  refine k_iload (pc := 876) C 1 rfl dL_law_876 ?_
  refine k_if_ne (pc := 878) (tgt := 893) C dL_law_878 (by decide) (fun _ => k_goto (pc := 893) (tgt := 1809) C (by decide) dL_law_893 (k_lpick (lv2 := [(5, .int (nI n)), (4, .ref oD), (3, .ref o), (2, .ref (v 0)), (1, .ref b), (0, .ref sb)]) [2, 3, 4, 5, 6, 7] rfl (hk X2 Y2 fo2 hR2))) (fun h0 => ?_)
  refine k_aload_n (pc := 881) C rfl 4 rfl dL_law_881 ?_
  refine k_iconst (pc := 882) C iconst_0 dL_law_882 ?_
  refine k_laldK (pc := 883) (v := (a_hold M (bz (xs (n + 1)))).toInt64) C 7 1 rfl rfl (k_vinc 0 cl_0 (by decide) (by decide)) cl_0 (hout h0) dL_law_883 ?_
  refine k_iload (pc := 884) C 0 rfl dL_law_884 ?_
  refine k_i2l (pc := 886) C dL_law_886 ?_
  exact k_lcmp_eq (pc := 887) (tgt := 893) C dL_law_887 dL_law_888 (by decide) (fun _ => k_goto (pc := 893) (tgt := 1809) C (by decide) dL_law_893 (k_lpick (lv2 := [(5, .int (nI n)), (4, .ref oD), (3, .ref o), (2, .ref (v 0)), (1, .ref b), (0, .ref sb)]) [2, 3, 4, 5, 6, 7] rfl (hk X2 Y2 fo2 hR2))) (fun q => absurd rfl q)
def q_undo (M : kMS) : kMS := ((s_X11_undo M.1 M.2.2.1 M.2.1).2.1, (s_X11_undo M.1 M.2.2.1 M.2.1).2.2, M.2.2.1, M.2.2.2.1, M.2.2.2.2.1, M.2.2.2.2.2)
def a_undo (M : kMS) : Int32 := (s_X11_undo M.1 M.2.2.1 M.2.1).1
theorem cwW_L_undo : Cond.codeWith yL_undo cL_undo 3 (some .int) [(0, 8, 11, 24)] ∈ lw_all ∧ Cond.initialized yL_undo.cls ∈ lw_all ∧ Cond.static yL_undo ∈ lw_all ∧ (yL_undo.cls ≠ "java/lang/invoke/MethodHandle" ∧ yL_undo.cls ≠ "java/lang/invoke/VarHandle" ∧ (parseMethodDescriptor yL_undo.desc).map (fun d => d.parameters.length) = some 2) := ⟨q_835, q_40, q_834, by decide +kernel⟩
set_option maxRecDepth 100000 in
set_option maxHeartbeats 8000000 in
theorem law_11 {p : Program} {l : Launch} {e : Env} {s : State} {m : MethodId} {args : Array Value} {below : List Frame} {meth : Method} {c : Code} {cells slots : Nat} {Q : State → Prop} {D : va_G} {A : Nat → Prop} {ret : Option FieldType} {cI cJ cO cD : ClassId} {z : zT} {sb L b o oD n : Nat} {u v : Nat → Nat} {xs : Nat → Int32} (C4 : KC p s m args meth c cL_law 9 RL ret D (kT4 cI cJ cO cD) A) (hZ : kZ z A s s.heap) (hX : va_X sb L xs s s.heap) (hbl : sb < s.heap.size) (hbA : ¬ A sb) (hL : L ≤ 2560) (hn : n + 5 ≤ L) (hc : cells + 26 ≤ room_1.cells ∧ slots + 331 ≤ room_1.slots) {X : kXS} {Y : kTS} {M : kMS} {fo : Nat → Int64} {fd : Nat → UInt64} {R : kXS → kTS → kMS → Prop} (hs : lStep l D cI cJ cO z yL_undo cL_undo 3 [(0, 8, 11, 24)] [.ref b, .ref o] b o u X Y fo (a_undo M) ((q_undo M).1 7) (fun X2 Y2 => R X2 Y2 (q_undo M))) (hf_t_5 : kIn (M.1 5) 0 6) (hk : ∀ (X2 : kXS) (Y2 : kTS) (fo2 : Nat → Int64), R X2 Y2 (q_undo M) → KJ p l e room_1 s m args below meth c (cells + 26) (slots + 331) Q D A 9 (lawW cI cJ cO cD b o oD u v X2 Y2 (q_undo M) fo2 fd) [(5, .int (nI n)), (4, .ref oD), (3, .ref o), (2, .ref (v 0)), (1, .ref b), (0, .ref sb)] [] 1809) : KJ p l e room_1 s m args below meth c cells slots Q D A 9 (lawW cI cJ cO cD b o oD u v X Y M fo fd) [(5, .int (nI n)), (4, .ref oD), (3, .ref o), (2, .ref (v 0)), (1, .ref b), (0, .ref sb)] [] 896 := by
  have C := KC.t4 C4
  refine k_aload_n (pc := 896) C rfl 4 rfl dL_law_896 ?_
  refine k_aload_n (pc := 897) C rfl 2 rfl dL_law_897 ?_
  refine k_lstep (pc := 898) (As := [.ref b, .ref o]) (rest := []) C hZ hs cwW_L_undo q_833 rfl (Nat.le_of_ble_eq_true rfl) ⟨Nat.le_of_ble_eq_true rfl, Nat.le_of_ble_eq_true rfl⟩ rfl hc dL_law_898 (fun rt X2 Y2 fo2 hth hout hR2 => ?_)
  refine k_istore (pc := 901) (lv2 := [(6, .int rt), (5, .int (nI n)), (4, .ref oD), (3, .ref o), (2, .ref (v 0)), (1, .ref b), (0, .ref sb)]) C (by decide) rfl dL_law_901 ?_
  refine k_aload_n (pc := 903) C rfl 4 rfl dL_law_903 ?_
  refine k_show (ws2 := [(v 0, moE M.1 (v 1) (v 2) (v 3) (v 4) (v 5)), (v 1, jA cJ 294 M.2.1), (v 2, jA cJ 1764 M.2.2.1), (v 3, jA cJ 294 M.2.2.2.1), (v 4, iA cI 90 M.2.2.2.2.1), (v 5, iA cI 48 M.2.2.2.2.2), (oD, dA cD 1 fd)] ++ (xwW cI cJ cO b o u X2 Y2 fo2 ++ kTl cI Y2)) rfl ?_
  refine k_callVi (pc := 904) (As := []) (rest := []) (r := a_undo M) (wc := [(v 0, moE M.1 (v 1) (v 2) (v 3) (v 4) (v 5)), (v 2, jA cJ 1764 M.2.2.1), (v 1, jA cJ 294 M.2.1)]) (wc2 := [(v 0, moE (q_undo M).1 (v 1) (v 2) (v 3) (v 4) (v 5)), (v 2, jA cJ 1764 (q_undo M).2.2.1), (v 1, jA cJ 294 (q_undo M).2.1)]) (ws2 := [(v 0, moE (q_undo M).1 (v 1) (v 2) (v 3) (v 4) (v 5)), (v 1, jA cJ 294 (q_undo M).2.1), (v 2, jA cJ 1764 (q_undo M).2.2.1), (v 3, jA cJ 294 M.2.2.2.1), (v 4, iA cI 90 M.2.2.2.2.1), (v 5, iA cI 48 M.2.2.2.2.2), (oD, dA cD 1 fd)] ++ (xwW cI cJ cO b o u X2 Y2 fo2 ++ kTl cI Y2)) C (c_X11_undo l D cI cJ cO (v 0) (v 1) (v 2) (v 3) (v 4) (v 5) M.1 M.2.2.1 M.2.1 hf_t_5) cwv_X11_undo q_1201 vX11 0 rfl [0, 2, 1] (kmap_app rfl) rfl (by decide) (kput_app (wc := [(v 0, moE M.1 (v 1) (v 2) (v 3) (v 4) (v 5)), (v 2, jA cJ 1764 M.2.2.1), (v 1, jA cJ 294 M.2.1)]) rfl rfl) rfl (Nat.le_of_ble_eq_true rfl) ⟨Nat.le_of_ble_eq_true rfl, Nat.le_of_ble_eq_true rfl⟩ rfl ⟨hc.1, hc.2⟩ dL_law_904 ?_
  refine k_show (ws2 := lawW cI cJ cO cD b o oD u v X2 Y2 (q_undo M) fo2 fd) rfl ?_
  refine k_istore (pc := 907) (lv2 := [(7, .int (a_undo M)), (6, .int rt), (5, .int (nI n)), (4, .ref oD), (3, .ref o), (2, .ref (v 0)), (1, .ref b), (0, .ref sb)]) C (by decide) rfl dL_law_907 ?_
  refine k_aload_n (pc := 909) C rfl 5 rfl dL_law_909 ?_
  refine k_show (ws2 := [(v 0, moE (q_undo M).1 (v 1) (v 2) (v 3) (v 4) (v 5)), (v 1, jA cJ 294 (q_undo M).2.1), (v 2, jA cJ 1764 (q_undo M).2.2.1), (v 3, jA cJ 294 (q_undo M).2.2.2.1), (v 4, iA cI 90 (q_undo M).2.2.2.2.1), (v 5, iA cI 48 (q_undo M).2.2.2.2.2), (oD, dA cD 1 fd)] ++ (xwW cI cJ cO b o u X2 Y2 fo2 ++ kTl cI Y2)) rfl ?_
  refine k_callVi (pc := 910) (As := []) (rest := []) (r := (q_undo M).1 7) (wc := [(v 0, moE (q_undo M).1 (v 1) (v 2) (v 3) (v 4) (v 5))]) (wc2 := [(v 0, moE (q_undo M).1 (v 1) (v 2) (v 3) (v 4) (v 5))]) (ws2 := [(v 0, moE (q_undo M).1 (v 1) (v 2) (v 3) (v 4) (v 5)), (v 1, jA cJ 294 (q_undo M).2.1), (v 2, jA cJ 1764 (q_undo M).2.2.1), (v 3, jA cJ 294 (q_undo M).2.2.2.1), (v 4, iA cI 90 (q_undo M).2.2.2.2.1), (v 5, iA cI 48 (q_undo M).2.2.2.2.2), (oD, dA cD 1 fd)] ++ (xwW cI cJ cO b o u X2 Y2 fo2 ++ kTl cI Y2)) C (c_X11_thrown l D cI cJ cO (v 0) (v 1) (v 2) (v 3) (v 4) (v 5) (q_undo M).1) cwv_X11_thrown q_1042 vX11 0 rfl [0] (kmap_app rfl) rfl (by decide) (kput_app (wc := [(v 0, moE (q_undo M).1 (v 1) (v 2) (v 3) (v 4) (v 5))]) rfl rfl) rfl (Nat.le_of_ble_eq_true rfl) ⟨Nat.le_of_ble_eq_true rfl, Nat.le_of_ble_eq_true rfl⟩ rfl ⟨hc.1, hc.2⟩ dL_law_910 ?_
  refine k_show (ws2 := lawW cI cJ cO cD b o oD u v X2 Y2 (q_undo M) fo2 fd) rfl ?_
  refine k_iload (pc := 913) C 1 rfl dL_law_913 ?_
  refine k_icmp_eq (pc := 915) (tgt := 920) C dL_law_915 (by decide) (fun _ => ?_) (fun q => absurd hth q)
  refine k_iload (pc := 920) C 1 rfl dL_law_920 ?_
  refine k_if_ne (pc := 922) (tgt := 937) C dL_law_922 (by decide) (fun _ => k_goto (pc := 937) (tgt := 1809) C (by decide) dL_law_937 (k_lpick (lv2 := [(5, .int (nI n)), (4, .ref oD), (3, .ref o), (2, .ref (v 0)), (1, .ref b), (0, .ref sb)]) [2, 3, 4, 5, 6, 7] rfl (hk X2 Y2 fo2 hR2))) (fun h0 => ?_)
  refine k_aload_n (pc := 925) C rfl 4 rfl dL_law_925 ?_
  refine k_iconst (pc := 926) C iconst_0 dL_law_926 ?_
  refine k_laldK (pc := 927) (v := (a_undo M).toInt64) C 7 1 rfl rfl (k_vinc 0 cl_0 (by decide) (by decide)) cl_0 (hout h0) dL_law_927 ?_
  refine k_iload (pc := 928) C 0 rfl dL_law_928 ?_
  refine k_i2l (pc := 930) C dL_law_930 ?_
  exact k_lcmp_eq (pc := 931) (tgt := 937) C dL_law_931 dL_law_932 (by decide) (fun _ => k_goto (pc := 937) (tgt := 1809) C (by decide) dL_law_937 (k_lpick (lv2 := [(5, .int (nI n)), (4, .ref oD), (3, .ref o), (2, .ref (v 0)), (1, .ref b), (0, .ref sb)]) [2, 3, 4, 5, 6, 7] rfl (hk X2 Y2 fo2 hR2))) (fun q => absurd rfl q)
def q_value (M : kMS) (p0 : Int32) : kMS := ((s_X11_value M.1 M.2.1 p0).2, M.2.1, M.2.2.1, M.2.2.2.1, M.2.2.2.2.1, M.2.2.2.2.2)
def a_value (M : kMS) (p0 : Int32) : Int32 := (s_X11_value M.1 M.2.1 p0).1
theorem cwW_L_value : Cond.codeWith yL_value cL_value 4 (some .int) [(0, 9, 12, 15)] ∈ lw_all ∧ Cond.initialized yL_value.cls ∈ lw_all ∧ Cond.static yL_value ∈ lw_all ∧ (yL_value.cls ≠ "java/lang/invoke/MethodHandle" ∧ yL_value.cls ≠ "java/lang/invoke/VarHandle" ∧ (parseMethodDescriptor yL_value.desc).map (fun d => d.parameters.length) = some 3) := ⟨q_846, q_40, q_845, by decide +kernel⟩
set_option maxRecDepth 100000 in
set_option maxHeartbeats 8000000 in
theorem law_12 {p : Program} {l : Launch} {e : Env} {s : State} {m : MethodId} {args : Array Value} {below : List Frame} {meth : Method} {c : Code} {cells slots : Nat} {Q : State → Prop} {D : va_G} {A : Nat → Prop} {ret : Option FieldType} {cI cJ cO cD : ClassId} {z : zT} {sb L b o oD n : Nat} {u v : Nat → Nat} {xs : Nat → Int32} (C4 : KC p s m args meth c cL_law 9 RL ret D (kT4 cI cJ cO cD) A) (hZ : kZ z A s s.heap) (hX : va_X sb L xs s s.heap) (hbl : sb < s.heap.size) (hbA : ¬ A sb) (hL : L ≤ 2560) (hn : n + 5 ≤ L) (hc : cells + 26 ≤ room_1.cells ∧ slots + 331 ≤ room_1.slots) {X : kXS} {Y : kTS} {M : kMS} {fo : Nat → Int64} {fd : Nat → UInt64} {R : kXS → kTS → kMS → Prop} (hs : lStep l D cI cJ cO z yL_value cL_value 4 [(0, 9, 12, 15)] [.ref b, .int (xs (n + 1)), .ref o] b o u X Y fo (a_value M (xs (n + 1))) ((q_value M (xs (n + 1))).1 7) (fun X2 Y2 => R X2 Y2 (q_value M (xs (n + 1))))) (hk : ∀ (X2 : kXS) (Y2 : kTS) (fo2 : Nat → Int64), R X2 Y2 (q_value M (xs (n + 1))) → KJ p l e room_1 s m args below meth c (cells + 26) (slots + 331) Q D A 9 (lawW cI cJ cO cD b o oD u v X2 Y2 (q_value M (xs (n + 1))) fo2 fd) [(5, .int (nI n)), (4, .ref oD), (3, .ref o), (2, .ref (v 0)), (1, .ref b), (0, .ref sb)] [] 1809) : KJ p l e room_1 s m args below meth c cells slots Q D A 9 (lawW cI cJ cO cD b o oD u v X Y M fo fd) [(5, .int (nI n)), (4, .ref oD), (3, .ref o), (2, .ref (v 0)), (1, .ref b), (0, .ref sb)] [] 940 := by
  have C := KC.t4 C4
  refine k_aload_n (pc := 940) C rfl 4 rfl dL_law_940 ?_
  refine k_aload_n (pc := 941) C rfl 5 rfl dL_law_941 ?_
  refine k_iload (pc := 942) C 0 rfl dL_law_942 ?_
  refine k_iconst (pc := 944) C iconst_1 dL_law_944 ?_
  refine k_iadd (pc := 945) C dL_law_945 ?_
  refine k_sld (pc := 946) (k := n + 1) C hX hbl hbA ((nI_succ n).symm) (by omega) hL dL_law_946 ?_
  refine k_aload_n (pc := 947) C rfl 2 rfl dL_law_947 ?_
  refine k_lstep (pc := 948) (As := [.ref b, .int (xs (n + 1)), .ref o]) (rest := []) C hZ hs cwW_L_value q_844 rfl (Nat.le_of_ble_eq_true rfl) ⟨Nat.le_of_ble_eq_true rfl, Nat.le_of_ble_eq_true rfl⟩ rfl hc dL_law_948 (fun rt X2 Y2 fo2 hth hout hR2 => ?_)
  refine k_istore (pc := 951) (lv2 := [(6, .int rt), (5, .int (nI n)), (4, .ref oD), (3, .ref o), (2, .ref (v 0)), (1, .ref b), (0, .ref sb)]) C (by decide) rfl dL_law_951 ?_
  refine k_aload_n (pc := 953) C rfl 4 rfl dL_law_953 ?_
  refine k_aload_n (pc := 954) C rfl 6 rfl dL_law_954 ?_
  refine k_iload (pc := 955) C 1 rfl dL_law_955 ?_
  refine k_iconst (pc := 957) C iconst_1 dL_law_957 ?_
  refine k_iadd (pc := 958) C dL_law_958 ?_
  refine k_sld (pc := 959) (k := n + 1) C hX hbl hbA ((nI_succ n).symm) (by omega) hL dL_law_959 ?_
  refine k_show (ws2 := [(v 0, moE M.1 (v 1) (v 2) (v 3) (v 4) (v 5)), (v 1, jA cJ 294 M.2.1), (v 2, jA cJ 1764 M.2.2.1), (v 3, jA cJ 294 M.2.2.2.1), (v 4, iA cI 90 M.2.2.2.2.1), (v 5, iA cI 48 M.2.2.2.2.2), (oD, dA cD 1 fd)] ++ (xwW cI cJ cO b o u X2 Y2 fo2 ++ kTl cI Y2)) rfl ?_
  refine k_callVi (pc := 960) (As := [.int (xs (n + 1))]) (rest := []) (r := a_value M (xs (n + 1))) (wc := [(v 0, moE M.1 (v 1) (v 2) (v 3) (v 4) (v 5)), (v 1, jA cJ 294 M.2.1)]) (wc2 := [(v 0, moE (q_value M (xs (n + 1))).1 (v 1) (v 2) (v 3) (v 4) (v 5)), (v 1, jA cJ 294 (q_value M (xs (n + 1))).2.1)]) (ws2 := [(v 0, moE (q_value M (xs (n + 1))).1 (v 1) (v 2) (v 3) (v 4) (v 5)), (v 1, jA cJ 294 (q_value M (xs (n + 1))).2.1), (v 2, jA cJ 1764 M.2.2.1), (v 3, jA cJ 294 M.2.2.2.1), (v 4, iA cI 90 M.2.2.2.2.1), (v 5, iA cI 48 M.2.2.2.2.2), (oD, dA cD 1 fd)] ++ (xwW cI cJ cO b o u X2 Y2 fo2 ++ kTl cI Y2)) C (c_X11_value l D cI cJ cO (v 0) (v 1) (v 2) (v 3) (v 4) (v 5) M.1 M.2.1 (xs (n + 1))) cwv_X11_value q_1205 vX11 0 rfl [0, 1] (kmap_app rfl) rfl (by decide) (kput_app (wc := [(v 0, moE M.1 (v 1) (v 2) (v 3) (v 4) (v 5)), (v 1, jA cJ 294 M.2.1)]) rfl rfl) rfl (Nat.le_of_ble_eq_true rfl) ⟨Nat.le_of_ble_eq_true rfl, Nat.le_of_ble_eq_true rfl⟩ rfl ⟨hc.1, hc.2⟩ dL_law_960 ?_
  refine k_show (ws2 := lawW cI cJ cO cD b o oD u v X2 Y2 (q_value M (xs (n + 1))) fo2 fd) rfl ?_
  refine k_istore (pc := 963) (lv2 := [(7, .int (a_value M (xs (n + 1)))), (6, .int rt), (5, .int (nI n)), (4, .ref oD), (3, .ref o), (2, .ref (v 0)), (1, .ref b), (0, .ref sb)]) C (by decide) rfl dL_law_963 ?_
  refine k_aload_n (pc := 965) C rfl 5 rfl dL_law_965 ?_
  refine k_show (ws2 := [(v 0, moE (q_value M (xs (n + 1))).1 (v 1) (v 2) (v 3) (v 4) (v 5)), (v 1, jA cJ 294 (q_value M (xs (n + 1))).2.1), (v 2, jA cJ 1764 (q_value M (xs (n + 1))).2.2.1), (v 3, jA cJ 294 (q_value M (xs (n + 1))).2.2.2.1), (v 4, iA cI 90 (q_value M (xs (n + 1))).2.2.2.2.1), (v 5, iA cI 48 (q_value M (xs (n + 1))).2.2.2.2.2), (oD, dA cD 1 fd)] ++ (xwW cI cJ cO b o u X2 Y2 fo2 ++ kTl cI Y2)) rfl ?_
  refine k_callVi (pc := 966) (As := []) (rest := []) (r := (q_value M (xs (n + 1))).1 7) (wc := [(v 0, moE (q_value M (xs (n + 1))).1 (v 1) (v 2) (v 3) (v 4) (v 5))]) (wc2 := [(v 0, moE (q_value M (xs (n + 1))).1 (v 1) (v 2) (v 3) (v 4) (v 5))]) (ws2 := [(v 0, moE (q_value M (xs (n + 1))).1 (v 1) (v 2) (v 3) (v 4) (v 5)), (v 1, jA cJ 294 (q_value M (xs (n + 1))).2.1), (v 2, jA cJ 1764 (q_value M (xs (n + 1))).2.2.1), (v 3, jA cJ 294 (q_value M (xs (n + 1))).2.2.2.1), (v 4, iA cI 90 (q_value M (xs (n + 1))).2.2.2.2.1), (v 5, iA cI 48 (q_value M (xs (n + 1))).2.2.2.2.2), (oD, dA cD 1 fd)] ++ (xwW cI cJ cO b o u X2 Y2 fo2 ++ kTl cI Y2)) C (c_X11_thrown l D cI cJ cO (v 0) (v 1) (v 2) (v 3) (v 4) (v 5) (q_value M (xs (n + 1))).1) cwv_X11_thrown q_1042 vX11 0 rfl [0] (kmap_app rfl) rfl (by decide) (kput_app (wc := [(v 0, moE (q_value M (xs (n + 1))).1 (v 1) (v 2) (v 3) (v 4) (v 5))]) rfl rfl) rfl (Nat.le_of_ble_eq_true rfl) ⟨Nat.le_of_ble_eq_true rfl, Nat.le_of_ble_eq_true rfl⟩ rfl ⟨hc.1, hc.2⟩ dL_law_966 ?_
  refine k_show (ws2 := lawW cI cJ cO cD b o oD u v X2 Y2 (q_value M (xs (n + 1))) fo2 fd) rfl ?_
  refine k_iload (pc := 969) C 1 rfl dL_law_969 ?_
  refine k_icmp_eq (pc := 971) (tgt := 976) C dL_law_971 (by decide) (fun _ => ?_) (fun q => absurd hth q)
  refine k_iload (pc := 976) C 1 rfl dL_law_976 ?_
  refine k_if_ne (pc := 978) (tgt := 993) C dL_law_978 (by decide) (fun _ => k_goto (pc := 993) (tgt := 1809) C (by decide) dL_law_993 (k_lpick (lv2 := [(5, .int (nI n)), (4, .ref oD), (3, .ref o), (2, .ref (v 0)), (1, .ref b), (0, .ref sb)]) [2, 3, 4, 5, 6, 7] rfl (hk X2 Y2 fo2 hR2))) (fun h0 => ?_)
  refine k_aload_n (pc := 981) C rfl 4 rfl dL_law_981 ?_
  refine k_iconst (pc := 982) C iconst_0 dL_law_982 ?_
  refine k_laldK (pc := 983) (v := (a_value M (xs (n + 1))).toInt64) C 7 1 rfl rfl (k_vinc 0 cl_0 (by decide) (by decide)) cl_0 (hout h0) dL_law_983 ?_
  refine k_iload (pc := 984) C 0 rfl dL_law_984 ?_
  refine k_i2l (pc := 986) C dL_law_986 ?_
  exact k_lcmp_eq (pc := 987) (tgt := 993) C dL_law_987 dL_law_988 (by decide) (fun _ => k_goto (pc := 993) (tgt := 1809) C (by decide) dL_law_993 (k_lpick (lv2 := [(5, .int (nI n)), (4, .ref oD), (3, .ref o), (2, .ref (v 0)), (1, .ref b), (0, .ref sb)]) [2, 3, 4, 5, 6, 7] rfl (hk X2 Y2 fo2 hR2))) (fun q => absurd rfl q)
def q_setting (M : kMS) (p0 : Int32) : kMS := ((s_X11_setting M.1 M.2.1 p0).2, M.2.1, M.2.2.1, M.2.2.2.1, M.2.2.2.2.1, M.2.2.2.2.2)
def a_setting (M : kMS) (p0 : Int32) : Int32 := (s_X11_setting M.1 M.2.1 p0).1
theorem cwW_L_setting : Cond.codeWith yL_setting cL_setting 4 (some .int) [(0, 9, 12, 13)] ∈ lw_all ∧ Cond.initialized yL_setting.cls ∈ lw_all ∧ Cond.static yL_setting ∈ lw_all ∧ (yL_setting.cls ≠ "java/lang/invoke/MethodHandle" ∧ yL_setting.cls ≠ "java/lang/invoke/VarHandle" ∧ (parseMethodDescriptor yL_setting.desc).map (fun d => d.parameters.length) = some 3) := ⟨q_862, q_40, q_861, by decide +kernel⟩
set_option maxRecDepth 100000 in
set_option maxHeartbeats 8000000 in
theorem law_13 {p : Program} {l : Launch} {e : Env} {s : State} {m : MethodId} {args : Array Value} {below : List Frame} {meth : Method} {c : Code} {cells slots : Nat} {Q : State → Prop} {D : va_G} {A : Nat → Prop} {ret : Option FieldType} {cI cJ cO cD : ClassId} {z : zT} {sb L b o oD n : Nat} {u v : Nat → Nat} {xs : Nat → Int32} (C4 : KC p s m args meth c cL_law 9 RL ret D (kT4 cI cJ cO cD) A) (hZ : kZ z A s s.heap) (hX : va_X sb L xs s s.heap) (hbl : sb < s.heap.size) (hbA : ¬ A sb) (hL : L ≤ 2560) (hn : n + 5 ≤ L) (hc : cells + 26 ≤ room_1.cells ∧ slots + 331 ≤ room_1.slots) {X : kXS} {Y : kTS} {M : kMS} {fo : Nat → Int64} {fd : Nat → UInt64} {R : kXS → kTS → kMS → Prop} (hs : lStep l D cI cJ cO z yL_setting cL_setting 4 [(0, 9, 12, 13)] [.ref b, .int (xs (n + 1)), .ref o] b o u X Y fo (a_setting M (xs (n + 1))) ((q_setting M (xs (n + 1))).1 7) (fun X2 Y2 => R X2 Y2 (q_setting M (xs (n + 1))))) (hk : ∀ (X2 : kXS) (Y2 : kTS) (fo2 : Nat → Int64), R X2 Y2 (q_setting M (xs (n + 1))) → KJ p l e room_1 s m args below meth c (cells + 26) (slots + 331) Q D A 9 (lawW cI cJ cO cD b o oD u v X2 Y2 (q_setting M (xs (n + 1))) fo2 fd) [(5, .int (nI n)), (4, .ref oD), (3, .ref o), (2, .ref (v 0)), (1, .ref b), (0, .ref sb)] [] 1809) : KJ p l e room_1 s m args below meth c cells slots Q D A 9 (lawW cI cJ cO cD b o oD u v X Y M fo fd) [(5, .int (nI n)), (4, .ref oD), (3, .ref o), (2, .ref (v 0)), (1, .ref b), (0, .ref sb)] [] 996 := by
  have C := KC.t4 C4
  refine k_aload_n (pc := 996) C rfl 4 rfl dL_law_996 ?_
  refine k_aload_n (pc := 997) C rfl 5 rfl dL_law_997 ?_
  refine k_iload (pc := 998) C 0 rfl dL_law_998 ?_
  refine k_iconst (pc := 1000) C iconst_1 dL_law_1000 ?_
  refine k_iadd (pc := 1001) C dL_law_1001 ?_
  refine k_sld (pc := 1002) (k := n + 1) C hX hbl hbA ((nI_succ n).symm) (by omega) hL dL_law_1002 ?_
  refine k_aload_n (pc := 1003) C rfl 2 rfl dL_law_1003 ?_
  refine k_lstep (pc := 1004) (As := [.ref b, .int (xs (n + 1)), .ref o]) (rest := []) C hZ hs cwW_L_setting q_860 rfl (Nat.le_of_ble_eq_true rfl) ⟨Nat.le_of_ble_eq_true rfl, Nat.le_of_ble_eq_true rfl⟩ rfl hc dL_law_1004 (fun rt X2 Y2 fo2 hth hout hR2 => ?_)
  refine k_istore (pc := 1007) (lv2 := [(6, .int rt), (5, .int (nI n)), (4, .ref oD), (3, .ref o), (2, .ref (v 0)), (1, .ref b), (0, .ref sb)]) C (by decide) rfl dL_law_1007 ?_
  refine k_aload_n (pc := 1009) C rfl 4 rfl dL_law_1009 ?_
  refine k_aload_n (pc := 1010) C rfl 6 rfl dL_law_1010 ?_
  refine k_iload (pc := 1011) C 1 rfl dL_law_1011 ?_
  refine k_iconst (pc := 1013) C iconst_1 dL_law_1013 ?_
  refine k_iadd (pc := 1014) C dL_law_1014 ?_
  refine k_sld (pc := 1015) (k := n + 1) C hX hbl hbA ((nI_succ n).symm) (by omega) hL dL_law_1015 ?_
  refine k_show (ws2 := [(v 0, moE M.1 (v 1) (v 2) (v 3) (v 4) (v 5)), (v 1, jA cJ 294 M.2.1), (v 2, jA cJ 1764 M.2.2.1), (v 3, jA cJ 294 M.2.2.2.1), (v 4, iA cI 90 M.2.2.2.2.1), (v 5, iA cI 48 M.2.2.2.2.2), (oD, dA cD 1 fd)] ++ (xwW cI cJ cO b o u X2 Y2 fo2 ++ kTl cI Y2)) rfl ?_
  refine k_callVi (pc := 1016) (As := [.int (xs (n + 1))]) (rest := []) (r := a_setting M (xs (n + 1))) (wc := [(v 0, moE M.1 (v 1) (v 2) (v 3) (v 4) (v 5)), (v 1, jA cJ 294 M.2.1)]) (wc2 := [(v 0, moE (q_setting M (xs (n + 1))).1 (v 1) (v 2) (v 3) (v 4) (v 5)), (v 1, jA cJ 294 (q_setting M (xs (n + 1))).2.1)]) (ws2 := [(v 0, moE (q_setting M (xs (n + 1))).1 (v 1) (v 2) (v 3) (v 4) (v 5)), (v 1, jA cJ 294 (q_setting M (xs (n + 1))).2.1), (v 2, jA cJ 1764 M.2.2.1), (v 3, jA cJ 294 M.2.2.2.1), (v 4, iA cI 90 M.2.2.2.2.1), (v 5, iA cI 48 M.2.2.2.2.2), (oD, dA cD 1 fd)] ++ (xwW cI cJ cO b o u X2 Y2 fo2 ++ kTl cI Y2)) C (c_X11_setting l D cI cJ cO (v 0) (v 1) (v 2) (v 3) (v 4) (v 5) M.1 M.2.1 (xs (n + 1))) cwv_X11_setting q_1209 vX11 0 rfl [0, 1] (kmap_app rfl) rfl (by decide) (kput_app (wc := [(v 0, moE M.1 (v 1) (v 2) (v 3) (v 4) (v 5)), (v 1, jA cJ 294 M.2.1)]) rfl rfl) rfl (Nat.le_of_ble_eq_true rfl) ⟨Nat.le_of_ble_eq_true rfl, Nat.le_of_ble_eq_true rfl⟩ rfl ⟨hc.1, hc.2⟩ dL_law_1016 ?_
  refine k_show (ws2 := lawW cI cJ cO cD b o oD u v X2 Y2 (q_setting M (xs (n + 1))) fo2 fd) rfl ?_
  refine k_istore (pc := 1019) (lv2 := [(7, .int (a_setting M (xs (n + 1)))), (6, .int rt), (5, .int (nI n)), (4, .ref oD), (3, .ref o), (2, .ref (v 0)), (1, .ref b), (0, .ref sb)]) C (by decide) rfl dL_law_1019 ?_
  refine k_aload_n (pc := 1021) C rfl 5 rfl dL_law_1021 ?_
  refine k_show (ws2 := [(v 0, moE (q_setting M (xs (n + 1))).1 (v 1) (v 2) (v 3) (v 4) (v 5)), (v 1, jA cJ 294 (q_setting M (xs (n + 1))).2.1), (v 2, jA cJ 1764 (q_setting M (xs (n + 1))).2.2.1), (v 3, jA cJ 294 (q_setting M (xs (n + 1))).2.2.2.1), (v 4, iA cI 90 (q_setting M (xs (n + 1))).2.2.2.2.1), (v 5, iA cI 48 (q_setting M (xs (n + 1))).2.2.2.2.2), (oD, dA cD 1 fd)] ++ (xwW cI cJ cO b o u X2 Y2 fo2 ++ kTl cI Y2)) rfl ?_
  refine k_callVi (pc := 1022) (As := []) (rest := []) (r := (q_setting M (xs (n + 1))).1 7) (wc := [(v 0, moE (q_setting M (xs (n + 1))).1 (v 1) (v 2) (v 3) (v 4) (v 5))]) (wc2 := [(v 0, moE (q_setting M (xs (n + 1))).1 (v 1) (v 2) (v 3) (v 4) (v 5))]) (ws2 := [(v 0, moE (q_setting M (xs (n + 1))).1 (v 1) (v 2) (v 3) (v 4) (v 5)), (v 1, jA cJ 294 (q_setting M (xs (n + 1))).2.1), (v 2, jA cJ 1764 (q_setting M (xs (n + 1))).2.2.1), (v 3, jA cJ 294 (q_setting M (xs (n + 1))).2.2.2.1), (v 4, iA cI 90 (q_setting M (xs (n + 1))).2.2.2.2.1), (v 5, iA cI 48 (q_setting M (xs (n + 1))).2.2.2.2.2), (oD, dA cD 1 fd)] ++ (xwW cI cJ cO b o u X2 Y2 fo2 ++ kTl cI Y2)) C (c_X11_thrown l D cI cJ cO (v 0) (v 1) (v 2) (v 3) (v 4) (v 5) (q_setting M (xs (n + 1))).1) cwv_X11_thrown q_1042 vX11 0 rfl [0] (kmap_app rfl) rfl (by decide) (kput_app (wc := [(v 0, moE (q_setting M (xs (n + 1))).1 (v 1) (v 2) (v 3) (v 4) (v 5))]) rfl rfl) rfl (Nat.le_of_ble_eq_true rfl) ⟨Nat.le_of_ble_eq_true rfl, Nat.le_of_ble_eq_true rfl⟩ rfl ⟨hc.1, hc.2⟩ dL_law_1022 ?_
  refine k_show (ws2 := lawW cI cJ cO cD b o oD u v X2 Y2 (q_setting M (xs (n + 1))) fo2 fd) rfl ?_
  refine k_iload (pc := 1025) C 1 rfl dL_law_1025 ?_
  refine k_icmp_eq (pc := 1027) (tgt := 1032) C dL_law_1027 (by decide) (fun _ => ?_) (fun q => absurd hth q)
  refine k_iload (pc := 1032) C 1 rfl dL_law_1032 ?_
  refine k_if_ne (pc := 1034) (tgt := 1049) C dL_law_1034 (by decide) (fun _ => k_goto (pc := 1049) (tgt := 1809) C (by decide) dL_law_1049 (k_lpick (lv2 := [(5, .int (nI n)), (4, .ref oD), (3, .ref o), (2, .ref (v 0)), (1, .ref b), (0, .ref sb)]) [2, 3, 4, 5, 6, 7] rfl (hk X2 Y2 fo2 hR2))) (fun h0 => ?_)
  refine k_aload_n (pc := 1037) C rfl 4 rfl dL_law_1037 ?_
  refine k_iconst (pc := 1038) C iconst_0 dL_law_1038 ?_
  refine k_laldK (pc := 1039) (v := (a_setting M (xs (n + 1))).toInt64) C 7 1 rfl rfl (k_vinc 0 cl_0 (by decide) (by decide)) cl_0 (hout h0) dL_law_1039 ?_
  refine k_iload (pc := 1040) C 0 rfl dL_law_1040 ?_
  refine k_i2l (pc := 1042) C dL_law_1042 ?_
  exact k_lcmp_eq (pc := 1043) (tgt := 1049) C dL_law_1043 dL_law_1044 (by decide) (fun _ => k_goto (pc := 1049) (tgt := 1809) C (by decide) dL_law_1049 (k_lpick (lv2 := [(5, .int (nI n)), (4, .ref oD), (3, .ref o), (2, .ref (v 0)), (1, .ref b), (0, .ref sb)]) [2, 3, 4, 5, 6, 7] rfl (hk X2 Y2 fo2 hR2))) (fun q => absurd rfl q)
def q_segment (M : kMS) (p0 : Int32) (p1 : Int32) : kMS := ((s_X11_segment M.1 M.2.1 p0 p1).2, M.2.1, M.2.2.1, M.2.2.2.1, M.2.2.2.2.1, M.2.2.2.2.2)
def a_segment (M : kMS) (p0 : Int32) (p1 : Int32) : Int32 := (s_X11_segment M.1 M.2.1 p0 p1).1
theorem cwW_L_segment : Cond.codeWith yL_segment cL_segment 5 (some .int) [(0, 10, 13, 13), (0, 10, 17, 15)] ∈ lw_all ∧ Cond.initialized yL_segment.cls ∈ lw_all ∧ Cond.static yL_segment ∈ lw_all ∧ (yL_segment.cls ≠ "java/lang/invoke/MethodHandle" ∧ yL_segment.cls ≠ "java/lang/invoke/VarHandle" ∧ (parseMethodDescriptor yL_segment.desc).map (fun d => d.parameters.length) = some 4) := ⟨q_869, q_40, q_868, by decide +kernel⟩
set_option maxRecDepth 100000 in
set_option maxHeartbeats 8000000 in
theorem law_14 {p : Program} {l : Launch} {e : Env} {s : State} {m : MethodId} {args : Array Value} {below : List Frame} {meth : Method} {c : Code} {cells slots : Nat} {Q : State → Prop} {D : va_G} {A : Nat → Prop} {ret : Option FieldType} {cI cJ cO cD : ClassId} {z : zT} {sb L b o oD n : Nat} {u v : Nat → Nat} {xs : Nat → Int32} (C4 : KC p s m args meth c cL_law 9 RL ret D (kT4 cI cJ cO cD) A) (hZ : kZ z A s s.heap) (hX : va_X sb L xs s s.heap) (hbl : sb < s.heap.size) (hbA : ¬ A sb) (hL : L ≤ 2560) (hn : n + 5 ≤ L) (hc : cells + 26 ≤ room_1.cells ∧ slots + 331 ≤ room_1.slots) {X : kXS} {Y : kTS} {M : kMS} {fo : Nat → Int64} {fd : Nat → UInt64} {R : kXS → kTS → kMS → Prop} (hs : lStep l D cI cJ cO z yL_segment cL_segment 5 [(0, 10, 13, 13), (0, 10, 17, 15)] [.ref b, .int (xs (n + 1)), .int (xs (n + 2)), .ref o] b o u X Y fo (a_segment M (xs (n + 1)) (xs (n + 2))) ((q_segment M (xs (n + 1)) (xs (n + 2))).1 7) (fun X2 Y2 => R X2 Y2 (q_segment M (xs (n + 1)) (xs (n + 2))))) (hf_t_w_43 : kInL (M.2.1 43) 0 12) (hk : ∀ (X2 : kXS) (Y2 : kTS) (fo2 : Nat → Int64), R X2 Y2 (q_segment M (xs (n + 1)) (xs (n + 2))) → KJ p l e room_1 s m args below meth c (cells + 26) (slots + 331) Q D A 9 (lawW cI cJ cO cD b o oD u v X2 Y2 (q_segment M (xs (n + 1)) (xs (n + 2))) fo2 fd) [(5, .int (nI n)), (4, .ref oD), (3, .ref o), (2, .ref (v 0)), (1, .ref b), (0, .ref sb)] [] 1809) : KJ p l e room_1 s m args below meth c cells slots Q D A 9 (lawW cI cJ cO cD b o oD u v X Y M fo fd) [(5, .int (nI n)), (4, .ref oD), (3, .ref o), (2, .ref (v 0)), (1, .ref b), (0, .ref sb)] [] 1052 := by
  have C := KC.t4 C4
  refine k_aload_n (pc := 1052) C rfl 4 rfl dL_law_1052 ?_
  refine k_aload_n (pc := 1053) C rfl 5 rfl dL_law_1053 ?_
  refine k_iload (pc := 1054) C 0 rfl dL_law_1054 ?_
  refine k_iconst (pc := 1056) C iconst_1 dL_law_1056 ?_
  refine k_iadd (pc := 1057) C dL_law_1057 ?_
  refine k_sld (pc := 1058) (k := n + 1) C hX hbl hbA ((nI_succ n).symm) (by omega) hL dL_law_1058 ?_
  refine k_aload_n (pc := 1059) C rfl 5 rfl dL_law_1059 ?_
  refine k_iload (pc := 1060) C 0 rfl dL_law_1060 ?_
  refine k_iconst (pc := 1062) C iconst_2 dL_law_1062 ?_
  refine k_iadd (pc := 1063) C dL_law_1063 ?_
  refine k_sld (pc := 1064) (k := n + 2) C hX hbl hbA ((nI_2 n)) (by omega) hL dL_law_1064 ?_
  refine k_aload_n (pc := 1065) C rfl 2 rfl dL_law_1065 ?_
  refine k_lstep (pc := 1066) (As := [.ref b, .int (xs (n + 1)), .int (xs (n + 2)), .ref o]) (rest := []) C hZ hs cwW_L_segment q_867 rfl (Nat.le_of_ble_eq_true rfl) ⟨Nat.le_of_ble_eq_true rfl, Nat.le_of_ble_eq_true rfl⟩ rfl hc dL_law_1066 (fun rt X2 Y2 fo2 hth hout hR2 => ?_)
  refine k_istore (pc := 1069) (lv2 := [(6, .int rt), (5, .int (nI n)), (4, .ref oD), (3, .ref o), (2, .ref (v 0)), (1, .ref b), (0, .ref sb)]) C (by decide) rfl dL_law_1069 ?_
  refine k_aload_n (pc := 1071) C rfl 4 rfl dL_law_1071 ?_
  refine k_aload_n (pc := 1072) C rfl 6 rfl dL_law_1072 ?_
  refine k_iload (pc := 1073) C 1 rfl dL_law_1073 ?_
  refine k_iconst (pc := 1075) C iconst_1 dL_law_1075 ?_
  refine k_iadd (pc := 1076) C dL_law_1076 ?_
  refine k_sld (pc := 1077) (k := n + 1) C hX hbl hbA ((nI_succ n).symm) (by omega) hL dL_law_1077 ?_
  refine k_aload_n (pc := 1078) C rfl 6 rfl dL_law_1078 ?_
  refine k_iload (pc := 1079) C 1 rfl dL_law_1079 ?_
  refine k_iconst (pc := 1081) C iconst_2 dL_law_1081 ?_
  refine k_iadd (pc := 1082) C dL_law_1082 ?_
  refine k_sld (pc := 1083) (k := n + 2) C hX hbl hbA ((nI_2 n)) (by omega) hL dL_law_1083 ?_
  refine k_show (ws2 := [(v 0, moE M.1 (v 1) (v 2) (v 3) (v 4) (v 5)), (v 1, jA cJ 294 M.2.1), (v 2, jA cJ 1764 M.2.2.1), (v 3, jA cJ 294 M.2.2.2.1), (v 4, iA cI 90 M.2.2.2.2.1), (v 5, iA cI 48 M.2.2.2.2.2), (oD, dA cD 1 fd)] ++ (xwW cI cJ cO b o u X2 Y2 fo2 ++ kTl cI Y2)) rfl ?_
  refine k_callVi (pc := 1084) (As := [.int (xs (n + 1)), .int (xs (n + 2))]) (rest := []) (r := a_segment M (xs (n + 1)) (xs (n + 2))) (wc := [(v 0, moE M.1 (v 1) (v 2) (v 3) (v 4) (v 5)), (v 1, jA cJ 294 M.2.1)]) (wc2 := [(v 0, moE (q_segment M (xs (n + 1)) (xs (n + 2))).1 (v 1) (v 2) (v 3) (v 4) (v 5)), (v 1, jA cJ 294 (q_segment M (xs (n + 1)) (xs (n + 2))).2.1)]) (ws2 := [(v 0, moE (q_segment M (xs (n + 1)) (xs (n + 2))).1 (v 1) (v 2) (v 3) (v 4) (v 5)), (v 1, jA cJ 294 (q_segment M (xs (n + 1)) (xs (n + 2))).2.1), (v 2, jA cJ 1764 M.2.2.1), (v 3, jA cJ 294 M.2.2.2.1), (v 4, iA cI 90 M.2.2.2.2.1), (v 5, iA cI 48 M.2.2.2.2.2), (oD, dA cD 1 fd)] ++ (xwW cI cJ cO b o u X2 Y2 fo2 ++ kTl cI Y2)) C (c_X11_segment l D cI cJ cO (v 0) (v 1) (v 2) (v 3) (v 4) (v 5) M.1 M.2.1 (xs (n + 1)) (xs (n + 2)) hf_t_w_43) cwv_X11_segment q_1213 vX11 0 rfl [0, 1] (kmap_app rfl) rfl (by decide) (kput_app (wc := [(v 0, moE M.1 (v 1) (v 2) (v 3) (v 4) (v 5)), (v 1, jA cJ 294 M.2.1)]) rfl rfl) rfl (Nat.le_of_ble_eq_true rfl) ⟨Nat.le_of_ble_eq_true rfl, Nat.le_of_ble_eq_true rfl⟩ rfl ⟨hc.1, hc.2⟩ dL_law_1084 ?_
  refine k_show (ws2 := lawW cI cJ cO cD b o oD u v X2 Y2 (q_segment M (xs (n + 1)) (xs (n + 2))) fo2 fd) rfl ?_
  refine k_istore (pc := 1087) (lv2 := [(7, .int (a_segment M (xs (n + 1)) (xs (n + 2)))), (6, .int rt), (5, .int (nI n)), (4, .ref oD), (3, .ref o), (2, .ref (v 0)), (1, .ref b), (0, .ref sb)]) C (by decide) rfl dL_law_1087 ?_
  refine k_aload_n (pc := 1089) C rfl 5 rfl dL_law_1089 ?_
  refine k_show (ws2 := [(v 0, moE (q_segment M (xs (n + 1)) (xs (n + 2))).1 (v 1) (v 2) (v 3) (v 4) (v 5)), (v 1, jA cJ 294 (q_segment M (xs (n + 1)) (xs (n + 2))).2.1), (v 2, jA cJ 1764 (q_segment M (xs (n + 1)) (xs (n + 2))).2.2.1), (v 3, jA cJ 294 (q_segment M (xs (n + 1)) (xs (n + 2))).2.2.2.1), (v 4, iA cI 90 (q_segment M (xs (n + 1)) (xs (n + 2))).2.2.2.2.1), (v 5, iA cI 48 (q_segment M (xs (n + 1)) (xs (n + 2))).2.2.2.2.2), (oD, dA cD 1 fd)] ++ (xwW cI cJ cO b o u X2 Y2 fo2 ++ kTl cI Y2)) rfl ?_
  refine k_callVi (pc := 1090) (As := []) (rest := []) (r := (q_segment M (xs (n + 1)) (xs (n + 2))).1 7) (wc := [(v 0, moE (q_segment M (xs (n + 1)) (xs (n + 2))).1 (v 1) (v 2) (v 3) (v 4) (v 5))]) (wc2 := [(v 0, moE (q_segment M (xs (n + 1)) (xs (n + 2))).1 (v 1) (v 2) (v 3) (v 4) (v 5))]) (ws2 := [(v 0, moE (q_segment M (xs (n + 1)) (xs (n + 2))).1 (v 1) (v 2) (v 3) (v 4) (v 5)), (v 1, jA cJ 294 (q_segment M (xs (n + 1)) (xs (n + 2))).2.1), (v 2, jA cJ 1764 (q_segment M (xs (n + 1)) (xs (n + 2))).2.2.1), (v 3, jA cJ 294 (q_segment M (xs (n + 1)) (xs (n + 2))).2.2.2.1), (v 4, iA cI 90 (q_segment M (xs (n + 1)) (xs (n + 2))).2.2.2.2.1), (v 5, iA cI 48 (q_segment M (xs (n + 1)) (xs (n + 2))).2.2.2.2.2), (oD, dA cD 1 fd)] ++ (xwW cI cJ cO b o u X2 Y2 fo2 ++ kTl cI Y2)) C (c_X11_thrown l D cI cJ cO (v 0) (v 1) (v 2) (v 3) (v 4) (v 5) (q_segment M (xs (n + 1)) (xs (n + 2))).1) cwv_X11_thrown q_1042 vX11 0 rfl [0] (kmap_app rfl) rfl (by decide) (kput_app (wc := [(v 0, moE (q_segment M (xs (n + 1)) (xs (n + 2))).1 (v 1) (v 2) (v 3) (v 4) (v 5))]) rfl rfl) rfl (Nat.le_of_ble_eq_true rfl) ⟨Nat.le_of_ble_eq_true rfl, Nat.le_of_ble_eq_true rfl⟩ rfl ⟨hc.1, hc.2⟩ dL_law_1090 ?_
  refine k_show (ws2 := lawW cI cJ cO cD b o oD u v X2 Y2 (q_segment M (xs (n + 1)) (xs (n + 2))) fo2 fd) rfl ?_
  refine k_iload (pc := 1093) C 1 rfl dL_law_1093 ?_
  refine k_icmp_eq (pc := 1095) (tgt := 1100) C dL_law_1095 (by decide) (fun _ => ?_) (fun q => absurd hth q)
  refine k_iload (pc := 1100) C 1 rfl dL_law_1100 ?_
  refine k_if_ne (pc := 1102) (tgt := 1117) C dL_law_1102 (by decide) (fun _ => k_goto (pc := 1117) (tgt := 1809) C (by decide) dL_law_1117 (k_lpick (lv2 := [(5, .int (nI n)), (4, .ref oD), (3, .ref o), (2, .ref (v 0)), (1, .ref b), (0, .ref sb)]) [2, 3, 4, 5, 6, 7] rfl (hk X2 Y2 fo2 hR2))) (fun h0 => ?_)
  refine k_aload_n (pc := 1105) C rfl 4 rfl dL_law_1105 ?_
  refine k_iconst (pc := 1106) C iconst_0 dL_law_1106 ?_
  refine k_laldK (pc := 1107) (v := (a_segment M (xs (n + 1)) (xs (n + 2))).toInt64) C 7 1 rfl rfl (k_vinc 0 cl_0 (by decide) (by decide)) cl_0 (hout h0) dL_law_1107 ?_
  refine k_iload (pc := 1108) C 0 rfl dL_law_1108 ?_
  refine k_i2l (pc := 1110) C dL_law_1110 ?_
  exact k_lcmp_eq (pc := 1111) (tgt := 1117) C dL_law_1111 dL_law_1112 (by decide) (fun _ => k_goto (pc := 1117) (tgt := 1809) C (by decide) dL_law_1117 (k_lpick (lv2 := [(5, .int (nI n)), (4, .ref oD), (3, .ref o), (2, .ref (v 0)), (1, .ref b), (0, .ref sb)]) [2, 3, 4, 5, 6, 7] rfl (hk X2 Y2 fo2 hR2))) (fun q => absurd rfl q)