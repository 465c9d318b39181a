theorem q_816 : Cond.static yL_ask ∈ lw_all := kq 816 (by decide +kernel) (by decide +kernel)
theorem q_817 : Cond.code yL_ask cL_ask 3 (some .int) ∈ lw_all := kq 817 (by decide +kernel) (by decide +kernel)
theorem q_818 : Cond.methodLink RL 125 yL_valueIn ∈ lw_all := kq 818 (by decide +kernel) (by decide +kernel)
theorem q_826 : Cond.methodLink RL 127 yL_doneIn ∈ lw_all := kq 826 (by decide +kernel) (by decide +kernel)
theorem q_834 : Cond.methodLink RL 129 yL_reachIn ∈ lw_all := kq 834 (by decide +kernel) (by decide +kernel)
theorem q_842 : Cond.methodLink RL 131 yL_bestMode ∈ lw_all := kq 842 (by decide +kernel) (by decide +kernel)
theorem q_849 : Cond.methodLink RL 133 yL_result ∈ lw_all := kq 849 (by decide +kernel) (by decide +kernel)
theorem q_865 : Cond.methodLink RL 135 yL_history ∈ lw_all := kq 865 (by decide +kernel) (by decide +kernel)
theorem q_873 : Cond.methodLink RL 137 yL_spread ∈ lw_all := kq 873 (by decide +kernel) (by decide +kernel)
theorem q_880 : Cond.methodLink RL 139 yX10_errorPosition ∈ lw_all := kq 880 (by decide +kernel) (by decide +kernel)
theorem q_881 : Cond.instanceMethod yX10_errorPosition ∈ lw_all := kq 881 (by decide +kernel) (by decide +kernel)
theorem q_882 : Cond.selects RX10 yX10_errorPosition yX10_errorPosition ∈ lw_all := kq 882 (by decide +kernel) (by decide +kernel)
theorem q_883 : Cond.code yX10_errorPosition cX10_errorPosition 1 (some .int) ∈ lw_all := kq 883 (by decide +kernel) (by decide +kernel)
theorem bipush_62 : (Int8.ofInt 62).toInt32 = 62 := by decide
theorem cwv_X10_errorPosition : kCWv yX10_errorPosition cX10_errorPosition 1 (some .int) 0 := ⟨⟨q_883, q_16, by decide +kernel⟩, q_881, q_882⟩
theorem dL_ask_0 : decode cL_ask 0 = .ok (.iload_n 1, 1) := by decide +kernel
theorem dL_ask_1 : decode cL_ask 1 = .ok (.bipush 8, 2) := by decide +kernel
theorem dL_ask_3 : decode cL_ask 3 = .ok (.invokestatic 91, 3) := by decide +kernel
theorem dL_ask_6 : decode cL_ask 6 = .ok (.tableswitch 135 0 6 #[42, 60, 65, 81, 92, 111, 124], 42) := by decide +kernel
theorem dL_ask_48 : decode cL_ask 48 = .ok (.aload_n 0, 1) := by decide +kernel
theorem dL_ask_49 : decode cL_ask 49 = .ok (.iload_n 2, 1) := by decide +kernel
theorem dL_ask_50 : decode cL_ask 50 = .ok (.iconst 3, 1) := by decide +kernel
theorem dL_ask_51 : decode cL_ask 51 = .ok (.invokestatic 91, 3) := by decide +kernel
theorem dL_ask_54 : decode cL_ask 54 = .ok (.iload_n 2, 1) := by decide +kernel
theorem dL_ask_55 : decode cL_ask 55 = .ok (.iconst 3, 1) := by decide +kernel
theorem dL_ask_56 : decode cL_ask 56 = .ok (.idiv, 1) := by decide +kernel
theorem dL_ask_57 : decode cL_ask 57 = .ok (.bipush 60, 2) := by decide +kernel
theorem dL_ask_59 : decode cL_ask 59 = .ok (.invokestatic 91, 3) := by decide +kernel
theorem dL_ask_62 : decode cL_ask 62 = .ok (.invokestatic 125, 3) := by decide +kernel
theorem dL_ask_65 : decode cL_ask 65 = .ok (.ireturn, 1) := by decide +kernel
theorem dL_ask_66 : decode cL_ask 66 = .ok (.aload_n 0, 1) := by decide +kernel
theorem dL_ask_67 : decode cL_ask 67 = .ok (.invokestatic 127, 3) := by decide +kernel
theorem dL_ask_70 : decode cL_ask 70 = .ok (.ireturn, 1) := by decide +kernel
theorem dL_ask_71 : decode cL_ask 71 = .ok (.aload_n 0, 1) := by decide +kernel
theorem dL_ask_72 : decode cL_ask 72 = .ok (.iload_n 2, 1) := by decide +kernel
theorem dL_ask_73 : decode cL_ask 73 = .ok (.sipush 900, 3) := by decide +kernel
theorem dL_ask_76 : decode cL_ask 76 = .ok (.invokestatic 91, 3) := by decide +kernel
theorem dL_ask_79 : decode cL_ask 79 = .ok (.sipush 200, 3) := by decide +kernel
theorem dL_ask_82 : decode cL_ask 82 = .ok (.isub, 1) := by decide +kernel
theorem dL_ask_83 : decode cL_ask 83 = .ok (.invokestatic 129, 3) := by decide +kernel
theorem dL_ask_86 : decode cL_ask 86 = .ok (.ireturn, 1) := by decide +kernel
theorem dL_ask_87 : decode cL_ask 87 = .ok (.aload_n 0, 1) := by decide +kernel
theorem dL_ask_88 : decode cL_ask 88 = .ok (.iload_n 2, 1) := by decide +kernel
theorem dL_ask_89 : decode cL_ask 89 = .ok (.bipush 60, 2) := by decide +kernel
theorem dL_ask_91 : decode cL_ask 91 = .ok (.invokestatic 91, 3) := by decide +kernel
theorem dL_ask_94 : decode cL_ask 94 = .ok (.invokestatic 131, 3) := by decide +kernel
theorem dL_ask_97 : decode cL_ask 97 = .ok (.ireturn, 1) := by decide +kernel
theorem dL_ask_98 : decode cL_ask 98 = .ok (.aload_n 0, 1) := by decide +kernel
theorem dL_ask_99 : decode cL_ask 99 = .ok (.iload_n 2, 1) := by decide +kernel
theorem dL_ask_100 : decode cL_ask 100 = .ok (.iconst 5, 1) := by decide +kernel
theorem dL_ask_101 : decode cL_ask 101 = .ok (.invokestatic 91, 3) := by decide +kernel
theorem dL_ask_104 : decode cL_ask 104 = .ok (.iconst 1, 1) := by decide +kernel
theorem dL_ask_105 : decode cL_ask 105 = .ok (.isub, 1) := by decide +kernel
theorem dL_ask_106 : decode cL_ask 106 = .ok (.iload_n 2, 1) := by decide +kernel
theorem dL_ask_107 : decode cL_ask 107 = .ok (.iconst 5, 1) := by decide +kernel
theorem dL_ask_108 : decode cL_ask 108 = .ok (.idiv, 1) := by decide +kernel
theorem dL_ask_109 : decode cL_ask 109 = .ok (.iconst 5, 1) := by decide +kernel
theorem dL_ask_110 : decode cL_ask 110 = .ok (.invokestatic 91, 3) := by decide +kernel
theorem dL_ask_113 : decode cL_ask 113 = .ok (.invokestatic 133, 3) := by decide +kernel
theorem dL_ask_116 : decode cL_ask 116 = .ok (.ireturn, 1) := by decide +kernel
theorem dL_ask_117 : decode cL_ask 117 = .ok (.aload_n 0, 1) := by decide +kernel
theorem dL_ask_118 : decode cL_ask 118 = .ok (.iload_n 2, 1) := by decide +kernel
theorem dL_ask_119 : decode cL_ask 119 = .ok (.bipush 62, 2) := by decide +kernel
theorem dL_ask_121 : decode cL_ask 121 = .ok (.invokestatic 91, 3) := by decide +kernel
theorem dL_ask_124 : decode cL_ask 124 = .ok (.iconst 1, 1) := by decide +kernel
theorem dL_ask_125 : decode cL_ask 125 = .ok (.isub, 1) := by decide +kernel
theorem dL_ask_126 : decode cL_ask 126 = .ok (.invokestatic 135, 3) := by decide +kernel
theorem dL_ask_129 : decode cL_ask 129 = .ok (.ireturn, 1) := by decide +kernel
theorem dL_ask_130 : decode cL_ask 130 = .ok (.aload_n 0, 1) := by decide +kernel
theorem dL_ask_131 : decode cL_ask 131 = .ok (.iload_n 2, 1) := by decide +kernel
theorem dL_ask_132 : decode cL_ask 132 = .ok (.bipush 62, 2) := by decide +kernel
theorem dL_ask_134 : decode cL_ask 134 = .ok (.invokestatic 91, 3) := by decide +kernel
theorem dL_ask_137 : decode cL_ask 137 = .ok (.invokestatic 137, 3) := by decide +kernel
theorem dL_ask_140 : decode cL_ask 140 = .ok (.ireturn, 1) := by decide +kernel
theorem dL_ask_141 : decode cL_ask 141 = .ok (.aload_n 0, 1) := by decide +kernel
theorem dL_ask_142 : decode cL_ask 142 = .ok (.invokevirtual 139, 3) := by decide +kernel
theorem dL_ask_145 : decode cL_ask 145 = .ok (.ireturn, 1) := by decide +kernel
set_option maxRecDepth 100000 in
theorem as_0 (l : Launch) (hl0 : l.stackTraces = false) (D : va_G) (cI cJ cO : ClassId) (z : zT) {V : pV} (hsb : kSb V.1) (p0 p1 : Int32) (hx : (pLow p0 8) = 0) (b : Nat) (u : Nat → Nat) (q : kXS × kTS) (hq : pvis q.1 q.2 = V) : ∃ r : Int32, kUi l yL_ask cL_ask 3 .int 9 200 26 331 D (kT cI cJ cO) z (.ref b :: [.int p0, .int p1]) (pW cI cO b u q) r (fun w : pSt V => pW cI cO b u w.1) := by
  obtain ⟨r, hc⟩ := pa_valueIn l hl0 D cI cJ cO z V hsb (pLow p1 3) (pLow (p1 / 3) 60) b u q hq
  refine ⟨r, ?_⟩
  refine kUi_of (own := RL) (lv := [(0, .ref b), (1, .int p0), (2, .int p1)]) rfl rfl (by decide) (Nat.le_of_ble_eq_true rfl) ?_
  intro p e s m args below meth c Q A C hZ hret
  refine k_iload_n (pc := 0) C rfl 1 rfl dL_ask_0 ?_
  refine k_bipush (pc := 1) C bipush_8 dL_ask_1 ?_
  refine k_callS0 (pc := 3) (As := [.int p0, .int 8]) (rest := []) C (c_L_low l D cI cJ cO p0 8 (by decide)) cws_L_low q_670 rfl (Nat.le_of_ble_eq_true rfl) ⟨Nat.le_of_ble_eq_true rfl, Nat.le_of_ble_eq_true rfl⟩ rfl ⟨Nat.le_of_ble_eq_true rfl, Nat.le_of_ble_eq_true rfl⟩ dL_ask_3 ?_
  refine k_tsIn (pc := 6) (tgt := 48) C 0 hx (by decide) (by decide) rfl (by decide) dL_ask_6 ?_
  refine k_aload_n (pc := 48) C rfl 0 rfl dL_ask_48 ?_
  refine k_iload_n (pc := 49) C rfl 2 rfl dL_ask_49 ?_
  refine k_iconst (pc := 50) C iconst_3 dL_ask_50 ?_
  refine k_callS0 (pc := 51) (As := [.int p1, .int 3]) (rest := [.ref b]) C (c_L_low l D cI cJ cO p1 3 (by decide)) cws_L_low q_670 rfl (Nat.le_of_ble_eq_true rfl) ⟨Nat.le_of_ble_eq_true rfl, Nat.le_of_ble_eq_true rfl⟩ rfl ⟨Nat.le_of_ble_eq_true rfl, Nat.le_of_ble_eq_true rfl⟩ dL_ask_51 ?_
  refine k_iload_n (pc := 54) C rfl 2 rfl dL_ask_54 ?_
  refine k_iconst (pc := 55) C iconst_3 dL_ask_55 ?_
  refine k_idiv (pc := 56) C (by decide) dL_ask_56 ?_
  refine k_bipush (pc := 57) C bipush_60 dL_ask_57 ?_
  refine k_callS0 (pc := 59) (As := [.int (p1 / 3), .int 60]) (rest := [.int (pLow p1 3), .ref b]) C (c_L_low l D cI cJ cO (p1 / 3) 60 (by decide)) cws_L_low q_670 rfl (Nat.le_of_ble_eq_true rfl) ⟨Nat.le_of_ble_eq_true rfl, Nat.le_of_ble_eq_true rfl⟩ rfl ⟨Nat.le_of_ble_eq_true rfl, Nat.le_of_ble_eq_true rfl⟩ dL_ask_59 ?_
  refine k_pcall (pc := 62) (As := [.int (pLow p1 3), .int (pLow (p1 / 3) 60)]) (rest := []) C hZ (hc) cw_valueIn q_818 rfl (Nat.le_of_ble_eq_true rfl) ⟨Nat.le_of_ble_eq_true rfl, Nat.le_of_ble_eq_true rfl⟩ rfl ⟨Nat.le_of_ble_eq_true rfl, Nat.le_of_ble_eq_true rfl⟩ dL_ask_62 (fun q22 hq22 => ?_)
  exact k_finUi (pc := 65) hret ⟨q22, hq22⟩ rfl rfl rfl (Nat.le_of_ble_eq_true rfl) (Nat.le_of_ble_eq_true rfl) dL_ask_65
set_option maxRecDepth 100000 in
theorem as_1 (l : Launch) (hl0 : l.stackTraces = false) (D : va_G) (cI cJ cO : ClassId) (z : zT) {V : pV} (hsb : kSb V.1) (p0 p1 : Int32) (hx : (pLow p0 8) = 1) (b : Nat) (u : Nat → Nat) (q : kXS × kTS) (hq : pvis q.1 q.2 = V) : ∃ r : Int32, kUi l yL_ask cL_ask 3 .int 9 200 26 331 D (kT cI cJ cO) z (.ref b :: [.int p0, .int p1]) (pW cI cO b u q) r (fun w : pSt V => pW cI cO b u w.1) := by
  obtain ⟨r, hc⟩ := pa_doneIn l hl0 D cI cJ cO z V hsb b u q hq
  refine ⟨r, ?_⟩
  refine kUi_of (own := RL) (lv := [(0, .ref b), (1, .int p0), (2, .int p1)]) rfl rfl (by decide) (Nat.le_of_ble_eq_true rfl) ?_
  intro p e s m args below meth c Q A C hZ hret
  refine k_iload_n (pc := 0) C rfl 1 rfl dL_ask_0 ?_
  refine k_bipush (pc := 1) C bipush_8 dL_ask_1 ?_
  refine k_callS0 (pc := 3) (As := [.int p0, .int 8]) (rest := []) C (c_L_low l D cI cJ cO p0 8 (by decide)) cws_L_low q_670 rfl (Nat.le_of_ble_eq_true rfl) ⟨Nat.le_of_ble_eq_true rfl, Nat.le_of_ble_eq_true rfl⟩ rfl ⟨Nat.le_of_ble_eq_true rfl, Nat.le_of_ble_eq_true rfl⟩ dL_ask_3 ?_
  refine k_tsIn (pc := 6) (tgt := 66) C 1 hx (by decide) (by decide) rfl (by decide) dL_ask_6 ?_
  refine k_aload_n (pc := 66) C rfl 0 rfl dL_ask_66 ?_
  refine k_pcall (pc := 67) (As := []) (rest := []) C hZ (hc) cw_doneIn q_826 rfl (Nat.le_of_ble_eq_true rfl) ⟨Nat.le_of_ble_eq_true rfl, Nat.le_of_ble_eq_true rfl⟩ rfl ⟨Nat.le_of_ble_eq_true rfl, Nat.le_of_ble_eq_true rfl⟩ dL_ask_67 (fun q23 hq23 => ?_)
  exact k_finUi (pc := 70) hret ⟨q23, hq23⟩ rfl rfl rfl (Nat.le_of_ble_eq_true rfl) (Nat.le_of_ble_eq_true rfl) dL_ask_70
set_option maxRecDepth 100000 in
theorem as_2 (l : Launch) (hl0 : l.stackTraces = false) (D : va_G) (cI cJ cO : ClassId) (z : zT) {V : pV} (hsb : kSb V.1) (p0 p1 : Int32) (hx : (pLow p0 8) = 2) (b : Nat) (u : Nat → Nat) (q : kXS × kTS) (hq : pvis q.1 q.2 = V) : ∃ r : Int32, kUi l yL_ask cL_ask 3 .int 9 200 26 331 D (kT cI cJ cO) z (.ref b :: [.int p0, .int p1]) (pW cI cO b u q) r (fun w : pSt V => pW cI cO b u w.1) := by
  obtain ⟨r, hc⟩ := pa_reachIn l hl0 D cI cJ cO z V hsb ((pLow p1 900) - 200) b u q hq
  refine ⟨r, ?_⟩
  refine kUi_of (own := RL) (lv := [(0, .ref b), (1, .int p0), (2, .int p1)]) rfl rfl (by decide) (Nat.le_of_ble_eq_true rfl) ?_
  intro p e s m args below meth c Q A C hZ hret
  refine k_iload_n (pc := 0) C rfl 1 rfl dL_ask_0 ?_
  refine k_bipush (pc := 1) C bipush_8 dL_ask_1 ?_
  refine k_callS0 (pc := 3) (As := [.int p0, .int 8]) (rest := []) C (c_L_low l D cI cJ cO p0 8 (by decide)) cws_L_low q_670 rfl (Nat.le_of_ble_eq_true rfl) ⟨Nat.le_of_ble_eq_true rfl, Nat.le_of_ble_eq_true rfl⟩ rfl ⟨Nat.le_of_ble_eq_true rfl, Nat.le_of_ble_eq_true rfl⟩ dL_ask_3 ?_
  refine k_tsIn (pc := 6) (tgt := 71) C 2 hx (by decide) (by decide) rfl (by decide) dL_ask_6 ?_
  refine k_aload_n (pc := 71) C rfl 0 rfl dL_ask_71 ?_
  refine k_iload_n (pc := 72) C rfl 2 rfl dL_ask_72 ?_
  refine k_sipush (pc := 73) C sipush_900 dL_ask_73 ?_
  refine k_callS0 (pc := 76) (As := [.int p1, .int 900]) (rest := [.ref b]) C (c_L_low l D cI cJ cO p1 900 (by decide)) cws_L_low q_670 rfl (Nat.le_of_ble_eq_true rfl) ⟨Nat.le_of_ble_eq_true rfl, Nat.le_of_ble_eq_true rfl⟩ rfl ⟨Nat.le_of_ble_eq_true rfl, Nat.le_of_ble_eq_true rfl⟩ dL_ask_76 ?_
  refine k_sipush (pc := 79) C sipush_200 dL_ask_79 ?_
  refine k_isub (pc := 82) C dL_ask_82 ?_
  refine k_pcall (pc := 83) (As := [.int ((pLow p1 900) - 200)]) (rest := []) C hZ (hc) cw_reachIn q_834 rfl (Nat.le_of_ble_eq_true rfl) ⟨Nat.le_of_ble_eq_true rfl, Nat.le_of_ble_eq_true rfl⟩ rfl ⟨Nat.le_of_ble_eq_true rfl, Nat.le_of_ble_eq_true rfl⟩ dL_ask_83 (fun q24 hq24 => ?_)
  exact k_finUi (pc := 86) hret ⟨q24, hq24⟩ rfl rfl rfl (Nat.le_of_ble_eq_true rfl) (Nat.le_of_ble_eq_true rfl) dL_ask_86
set_option maxRecDepth 100000 in
theorem as_3 (l : Launch) (hl0 : l.stackTraces = false) (D : va_G) (cI cJ cO : ClassId) (z : zT) {V : pV} (hsb : kSb V.1) (p0 p1 : Int32) (hx : (pLow p0 8) = 3) (b : Nat) (u : Nat → Nat) (q : kXS × kTS) (hq : pvis q.1 q.2 = V) : ∃ r : Int32, kUi l yL_ask cL_ask 3 .int 9 200 26 331 D (kT cI cJ cO) z (.ref b :: [.int p0, .int p1]) (pW cI cO b u q) r (fun w : pSt V => pW cI cO b u w.1) := by
  obtain ⟨r, hc⟩ := pa_bestMode l hl0 D cI cJ cO z V hsb (pLow p1 60) b u q hq
  refine ⟨r, ?_⟩
  refine kUi_of (own := RL) (lv := [(0, .ref b), (1, .int p0), (2, .int p1)]) rfl rfl (by decide) (Nat.le_of_ble_eq_true rfl) ?_
  intro p e s m args below meth c Q A C hZ hret
  refine k_iload_n (pc := 0) C rfl 1 rfl dL_ask_0 ?_
  refine k_bipush (pc := 1) C bipush_8 dL_ask_1 ?_
  refine k_callS0 (pc := 3) (As := [.int p0, .int 8]) (rest := []) C (c_L_low l D cI cJ cO p0 8 (by decide)) cws_L_low q_670 rfl (Nat.le_of_ble_eq_true rfl) ⟨Nat.le_of_ble_eq_true rfl, Nat.le_of_ble_eq_true rfl⟩ rfl ⟨Nat.le_of_ble_eq_true rfl, Nat.le_of_ble_eq_true rfl⟩ dL_ask_3 ?_
  refine k_tsIn (pc := 6) (tgt := 87) C 3 hx (by decide) (by decide) rfl (by decide) dL_ask_6 ?_
  refine k_aload_n (pc := 87) C rfl 0 rfl dL_ask_87 ?_
  refine k_iload_n (pc := 88) C rfl 2 rfl dL_ask_88 ?_
  refine k_bipush (pc := 89) C bipush_60 dL_ask_89 ?_
  refine k_callS0 (pc := 91) (As := [.int p1, .int 60]) (rest := [.ref b]) C (c_L_low l D cI cJ cO p1 60 (by decide)) cws_L_low q_670 rfl (Nat.le_of_ble_eq_true rfl) ⟨Nat.le_of_ble_eq_true rfl, Nat.le_of_ble_eq_true rfl⟩ rfl ⟨Nat.le_of_ble_eq_true rfl, Nat.le_of_ble_eq_true rfl⟩ dL_ask_91 ?_
  refine k_pcall (pc := 94) (As := [.int (pLow p1 60)]) (rest := []) C hZ (hc) cw_bestMode q_842 rfl (Nat.le_of_ble_eq_true rfl) ⟨Nat.le_of_ble_eq_true rfl, Nat.le_of_ble_eq_true rfl⟩ rfl ⟨Nat.le_of_ble_eq_true rfl, Nat.le_of_ble_eq_true rfl⟩ dL_ask_94 (fun q25 hq25 => ?_)
  exact k_finUi (pc := 97) hret ⟨q25, hq25⟩ rfl rfl rfl (Nat.le_of_ble_eq_true rfl) (Nat.le_of_ble_eq_true rfl) dL_ask_97
set_option maxRecDepth 100000 in
theorem as_4 (l : Launch) (hl0 : l.stackTraces = false) (D : va_G) (cI cJ cO : ClassId) (z : zT) {V : pV} (hsb : kSb V.1) (p0 p1 : Int32) (hx : (pLow p0 8) = 4) (b : Nat) (u : Nat → Nat) (q : kXS × kTS) (hq : pvis q.1 q.2 = V) : ∃ r : Int32, kUi l yL_ask cL_ask 3 .int 9 200 26 331 D (kT cI cJ cO) z (.ref b :: [.int p0, .int p1]) (pW cI cO b u q) r (fun w : pSt V => pW cI cO b u w.1) := by
  have hc := pw_result l hl0 D cI cJ cO z V ((pLow p1 5) - 1) (pLow (p1 / 5) 5) b u q hq
  generalize rv_result V ((pLow p1 5) - 1) (pLow (p1 / 5) 5) = r at hc
  refine ⟨r, ?_⟩
  refine kUi_of (own := RL) (lv := [(0, .ref b), (1, .int p0), (2, .int p1)]) rfl rfl (by decide) (Nat.le_of_ble_eq_true rfl) ?_
  intro p e s m args below meth c Q A C hZ hret
  refine k_iload_n (pc := 0) C rfl 1 rfl dL_ask_0 ?_
  refine k_bipush (pc := 1) C bipush_8 dL_ask_1 ?_
  refine k_callS0 (pc := 3) (As := [.int p0, .int 8]) (rest := []) C (c_L_low l D cI cJ cO p0 8 (by decide)) cws_L_low q_670 rfl (Nat.le_of_ble_eq_true rfl) ⟨Nat.le_of_ble_eq_true rfl, Nat.le_of_ble_eq_true rfl⟩ rfl ⟨Nat.le_of_ble_eq_true rfl, Nat.le_of_ble_eq_true rfl⟩ dL_ask_3 ?_
  refine k_tsIn (pc := 6) (tgt := 98) C 4 hx (by decide) (by decide) rfl (by decide) dL_ask_6 ?_
  refine k_aload_n (pc := 98) C rfl 0 rfl dL_ask_98 ?_
  refine k_iload_n (pc := 99) C rfl 2 rfl dL_ask_99 ?_
  refine k_iconst (pc := 100) C iconst_5 dL_ask_100 ?_
  refine k_callS0 (pc := 101) (As := [.int p1, .int 5]) (rest := [.ref b]) C (c_L_low l D cI cJ cO p1 5 (by decide)) cws_L_low q_670 rfl (Nat.le_of_ble_eq_true rfl) ⟨Nat.le_of_ble_eq_true rfl, Nat.le_of_ble_eq_true rfl⟩ rfl ⟨Nat.le_of_ble_eq_true rfl, Nat.le_of_ble_eq_true rfl⟩ dL_ask_101 ?_
  refine k_iconst (pc := 104) C iconst_1 dL_ask_104 ?_
  refine k_isub (pc := 105) C dL_ask_105 ?_
  refine k_iload_n (pc := 106) C rfl 2 rfl dL_ask_106 ?_
  refine k_iconst (pc := 107) C iconst_5 dL_ask_107 ?_
  refine k_idiv (pc := 108) C (by decide) dL_ask_108 ?_
  refine k_iconst (pc := 109) C iconst_5 dL_ask_109 ?_
  refine k_callS0 (pc := 110) (As := [.int (p1 / 5), .int 5]) (rest := [.int ((pLow p1 5) - 1), .ref b]) C (c_L_low l D cI cJ cO (p1 / 5) 5 (by decide)) cws_L_low q_670 rfl (Nat.le_of_ble_eq_true rfl) ⟨Nat.le_of_ble_eq_true rfl, Nat.le_of_ble_eq_true rfl⟩ rfl ⟨Nat.le_of_ble_eq_true rfl, Nat.le_of_ble_eq_true rfl⟩ dL_ask_110 ?_
  refine k_pcall (pc := 113) (As := [.int ((pLow p1 5) - 1), .int (pLow (p1 / 5) 5)]) (rest := []) C hZ (hc) cw_result q_849 rfl (Nat.le_of_ble_eq_true rfl) ⟨Nat.le_of_ble_eq_true rfl, Nat.le_of_ble_eq_true rfl⟩ rfl ⟨Nat.le_of_ble_eq_true rfl, Nat.le_of_ble_eq_true rfl⟩ dL_ask_113 (fun q26 hq26 => ?_)
  exact k_finUi (pc := 116) hret ⟨q26, hq26⟩ rfl rfl rfl (Nat.le_of_ble_eq_true rfl) (Nat.le_of_ble_eq_true rfl) dL_ask_116
set_option maxRecDepth 100000 in
theorem as_5 (l : Launch) (hl0 : l.stackTraces = false) (D : va_G) (cI cJ cO : ClassId) (z : zT) {V : pV} (hsb : kSb V.1) (p0 p1 : Int32) (hx : (pLow p0 8) = 5) (b : Nat) (u : Nat → Nat) (q : kXS × kTS) (hq : pvis q.1 q.2 = V) : ∃ r : Int32, kUi l yL_ask cL_ask 3 .int 9 200 26 331 D (kT cI cJ cO) z (.ref b :: [.int p0, .int p1]) (pW cI cO b u q) r (fun w : pSt V => pW cI cO b u w.1) := by
  have hc := pw_history l hl0 D cI cJ cO z V ((pLow p1 62) - 1) b u q hq
  generalize rv_history V ((pLow p1 62) - 1) = r at hc
  refine ⟨r, ?_⟩
  refine kUi_of (own := RL) (lv := [(0, .ref b), (1, .int p0), (2, .int p1)]) rfl rfl (by decide) (Nat.le_of_ble_eq_true rfl) ?_
  intro p e s m args below meth c Q A C hZ hret
  refine k_iload_n (pc := 0) C rfl 1 rfl dL_ask_0 ?_
  refine k_bipush (pc := 1) C bipush_8 dL_ask_1 ?_
  refine k_callS0 (pc := 3) (As := [.int p0, .int 8]) (rest := []) C (c_L_low l D cI cJ cO p0 8 (by decide)) cws_L_low q_670 rfl (Nat.le_of_ble_eq_true rfl) ⟨Nat.le_of_ble_eq_true rfl, Nat.le_of_ble_eq_true rfl⟩ rfl ⟨Nat.le_of_ble_eq_true rfl, Nat.le_of_ble_eq_true rfl⟩ dL_ask_3 ?_
  refine k_tsIn (pc := 6) (tgt := 117) C 5 hx (by decide) (by decide) rfl (by decide) dL_ask_6 ?_
  refine k_aload_n (pc := 117) C rfl 0 rfl dL_ask_117 ?_
  refine k_iload_n (pc := 118) C rfl 2 rfl dL_ask_118 ?_
  refine k_bipush (pc := 119) C bipush_62 dL_ask_119 ?_
  refine k_callS0 (pc := 121) (As := [.int p1, .int 62]) (rest := [.ref b]) C (c_L_low l D cI cJ cO p1 62 (by decide)) cws_L_low q_670 rfl (Nat.le_of_ble_eq_true rfl) ⟨Nat.le_of_ble_eq_true rfl, Nat.le_of_ble_eq_true rfl⟩ rfl ⟨Nat.le_of_ble_eq_true rfl, Nat.le_of_ble_eq_true rfl⟩ dL_ask_121 ?_
  refine k_iconst (pc := 124) C iconst_1 dL_ask_124 ?_
  refine k_isub (pc := 125) C dL_ask_125 ?_
  refine k_pcall (pc := 126) (As := [.int ((pLow p1 62) - 1)]) (rest := []) C hZ (hc) cw_history q_865 rfl (Nat.le_of_ble_eq_true rfl) ⟨Nat.le_of_ble_eq_true rfl, Nat.le_of_ble_eq_true rfl⟩ rfl ⟨Nat.le_of_ble_eq_true rfl, Nat.le_of_ble_eq_true rfl⟩ dL_ask_126 (fun q27 hq27 => ?_)
  exact k_finUi (pc := 129) hret ⟨q27, hq27⟩ rfl rfl rfl (Nat.le_of_ble_eq_true rfl) (Nat.le_of_ble_eq_true rfl) dL_ask_129
set_option maxRecDepth 100000 in
theorem as_6 (l : Launch) (hl0 : l.stackTraces = false) (D : va_G) (cI cJ cO : ClassId) (z : zT) {V : pV} (hsb : kSb V.1) (p0 p1 : Int32) (hx : (pLow p0 8) = 6) (b : Nat) (u : Nat → Nat) (q : kXS × kTS) (hq : pvis q.1 q.2 = V) : ∃ r : Int32, kUi l yL_ask cL_ask 3 .int 9 200 26 331 D (kT cI cJ cO) z (.ref b :: [.int p0, .int p1]) (pW cI cO b u q) r (fun w : pSt V => pW cI cO b u w.1) := by
  have hc := pw_spread l hl0 D cI cJ cO z V (pLow p1 62) b u q hq
  generalize rv_spread V (pLow p1 62) = r at hc
  refine ⟨r, ?_⟩
  refine kUi_of (own := RL) (lv := [(0, .ref b), (1, .int p0), (2, .int p1)]) rfl rfl (by decide) (Nat.le_of_ble_eq_true rfl) ?_
  intro p e s m args below meth c Q A C hZ hret
  refine k_iload_n (pc := 0) C rfl 1 rfl dL_ask_0 ?_
  refine k_bipush (pc := 1) C bipush_8 dL_ask_1 ?_
  refine k_callS0 (pc := 3) (As := [.int p0, .int 8]) (rest := []) C (c_L_low l D cI cJ cO p0 8 (by decide)) cws_L_low q_670 rfl (Nat.le_of_ble_eq_true rfl) ⟨Nat.le_of_ble_eq_true rfl, Nat.le_of_ble_eq_true rfl⟩ rfl ⟨Nat.le_of_ble_eq_true rfl, Nat.le_of_ble_eq_true rfl⟩ dL_ask_3 ?_
  refine k_tsIn (pc := 6) (tgt := 130) C 6 hx (by decide) (by decide) rfl (by decide) dL_ask_6 ?_
  refine k_aload_n (pc := 130) C rfl 0 rfl dL_ask_130 ?_
  refine k_iload_n (pc := 131) C rfl 2 rfl dL_ask_131 ?_
  refine k_bipush (pc := 132) C bipush_62 dL_ask_132 ?_
  refine k_callS0 (pc := 134) (As := [.int p1, .int 62]) (rest := [.ref b]) C (c_L_low l D cI cJ cO p1 62 (by decide)) cws_L_low q_670 rfl (Nat.le_of_ble_eq_true rfl) ⟨Nat.le_of_ble_eq_true rfl, Nat.le_of_ble_eq_true rfl⟩ rfl ⟨Nat.le_of_ble_eq_true rfl, Nat.le_of_ble_eq_true rfl⟩ dL_ask_134 ?_
  refine k_pcall (pc := 137) (As := [.int (pLow p1 62)]) (rest := []) C hZ (hc) cw_spread q_873 rfl (Nat.le_of_ble_eq_true rfl) ⟨Nat.le_of_ble_eq_true rfl, Nat.le_of_ble_eq_true rfl⟩ rfl ⟨Nat.le_of_ble_eq_true rfl, Nat.le_of_ble_eq_true rfl⟩ dL_ask_137 (fun q28 hq28 => ?_)
  exact k_finUi (pc := 140) hret ⟨q28, hq28⟩ rfl rfl rfl (Nat.le_of_ble_eq_true rfl) (Nat.le_of_ble_eq_true rfl) dL_ask_140
theorem ep_len (t sg cd sc : Nat → Int32) (h : t 1 = 0) : (s_X10_errorPosition t sg cd sc).2.1 1 = 0 := by
  unfold s_X10_errorPosition s_X10_errorPosition_1 s_X8_findError
  have e : (Int32.toInt 12 - Int32.toInt 0).toNat + 1 = 12 + 1 := by decide
  have t1 : upd (upd t 3 0) 5 (-10000) 1 = 0 := upn (by decide) (upn (by decide) h)
  have t3 : upd (upd t 3 0) 5 (-10000) 3 = 0 := upn (by decide) ups
  generalize upd (upd t 3 0) 5 (-10000) = w at t1 t3 ⊢
  have r : s_X8_readSign w cd 116 = (0, w) := by
    unfold s_X8_readSign
    rw [t1, t3, if_pos (by decide)]
  have g : s_X8_readSegment w cd (upd sg 1 0) sc = (0, w, upd sg 1 0, sc) := by
    unfold s_X8_readSegment
    rw [r]
    unfold s_X8_readSegment_13
    rw [if_pos rfl]
  have b : b_X8_findError_L22 cd (0, w, upd sg 1 0, sc) = .inr (w 3, w, upd sg 1 0, sc) := by
    unfold b_X8_findError_L22
    refine (if_neg (show ¬ (12 : Int32) ≤ 0 by decide)).trans ?_
    show b_X8_findError_t_1 (0, w, upd sg 1 0, sc) (s_X8_readSegment w cd (upd sg 1 0) sc) = _
    rw [g]
    rfl
  rw [e, kLoop_out b]
  exact t1
def n_errPos (X : kXS) : kXS := (X.1, X.2.1, X.2.2.1, X.2.2.2.1, X.2.2.2.2.1, (s_X10_errorPosition X.2.2.2.2.2.1 X.2.2.2.2.2.2.2.1 X.2.2.2.2.2.2.1 X.2.2.2.2.2.2.2.2).2.1, X.2.2.2.2.2.2.1, (s_X10_errorPosition X.2.2.2.2.2.1 X.2.2.2.2.2.2.2.1 X.2.2.2.2.2.2.1 X.2.2.2.2.2.2.2.2).2.2.1, (s_X10_errorPosition X.2.2.2.2.2.1 X.2.2.2.2.2.2.2.1 X.2.2.2.2.2.2.1 X.2.2.2.2.2.2.2.2).2.2.2)
def r_errPos (X : kXS) : Int32 := (s_X10_errorPosition X.2.2.2.2.2.1 X.2.2.2.2.2.2.2.1 X.2.2.2.2.2.2.1 X.2.2.2.2.2.2.2.2).1
set_option maxRecDepth 100000 in
set_option maxHeartbeats 8000000 in
theorem as_7 (l : Launch) (hl0 : l.stackTraces = false) (D : va_G) (cI cJ cO : ClassId) (z : zT) {V : pV} (hl : V.2.2.2.2.2.2 = 0) (p0 p1 : Int32) (hx : (pLow p0 8).toInt < 0 ∨ 6 < (pLow p0 8).toInt) (b : Nat) (u : Nat → Nat) (q : kXS × kTS) (hq : pvis q.1 q.2 = V) : ∃ r : Int32, kUi l yL_ask cL_ask 3 .int 9 200 26 331 D (kT cI cJ cO) z (.ref b :: [.int p0, .int p1]) (pW cI cO b u q) r (fun w : pSt V => pW cI cO b u w.1) := by
  obtain ⟨X, Y⟩ := q
  subst hq
  have hv : pvis (n_errPos X) Y = pvis X Y := by
    have e : (n_errPos X).2.2.2.2.2.1 1 = X.2.2.2.2.2.1 1 := (ep_len _ _ _ _ hl).trans hl.symm
    unfold pvis
    rw [e]
    rfl
  refine ⟨r_errPos X, ?_⟩
  refine kUi_of (own := RL) (lv := [(0, .ref b), (1, .int p0), (2, .int p1)]) rfl rfl (by decide) (Nat.le_of_ble_eq_true rfl) ?_
  intro p e s m args below meth c Q A C hZ hret
  refine k_iload_n (pc := 0) C rfl 1 rfl dL_ask_0 ?_
  refine k_bipush (pc := 1) C bipush_8 dL_ask_1 ?_
  refine k_callS0 (pc := 3) (As := [.int p0, .int 8]) (rest := []) C (c_L_low l D cI cJ cO p0 8 (by decide)) cws_L_low q_670 rfl (Nat.le_of_ble_eq_true rfl) ⟨Nat.le_of_ble_eq_true rfl, Nat.le_of_ble_eq_true rfl⟩ rfl ⟨Nat.le_of_ble_eq_true rfl, Nat.le_of_ble_eq_true rfl⟩ dL_ask_3 ?_
  refine k_tsOut (pc := 6) (tgt := 141) C hx (by decide) dL_ask_6 ?_
  refine k_aload_n (pc := 141) C rfl 0 rfl dL_ask_141 ?_
  refine k_show (ws2 := [(b, ccE (u 0) (u 26) (u 52) (u 54)), ((u 0), stE (X.1 0) (u 1) (u 2) (u 3) (u 4) (u 5) (u 6) (u 7) (u 8) (u 9)), ((u 1), iA cI 12 (X.1 1)), ((u 2), chE (X.1 2)), ((u 3), chE (X.1 3)), ((u 4), sgE (X.1 4) (u 10)), ((u 5), ruE (X.1 5)), ((u 6), clE (X.1 6)), ((u 7), rsE (u 11) (u 12) (u 13) (u 14)), ((u 8), trE (u 19) (u 20) (u 21) X.2.1), ((u 9), rgE (X.1 9) (u 25)), ((u 10), iA cI 48 (X.1 10)), ((u 11), rgE (X.1 11) (u 15)), ((u 12), rgE (X.1 12) (u 16)), ((u 13), rgE (X.1 13) (u 17)), ((u 14), rgE (X.1 14) (u 18)), ((u 15), iA cI 16 (X.1 15)), ((u 16), iA cI 16 (X.1 16)), ((u 17), iA cI 16 (X.1 17)), ((u 18), iA cI 16 (X.1 18)), ((u 19), rgE (X.1 19) (u 22)), ((u 20), rgE (X.1 20) (u 23)), ((u 21), rgE (X.1 21) (u 24)), ((u 22), iA cI 24 (X.1 22)), ((u 23), iA cI 24 (X.1 23)), ((u 24), iA cI 24 (X.1 24)), ((u 25), iA cI 60 (X.1 25)), ((u 26), stE (X.2.2.1 0) (u 27) (u 28) (u 29) (u 30) (u 31) (u 32) (u 33) (u 34) (u 35)), ((u 27), iA cI 12 (X.2.2.1 1)), ((u 28), chE (X.2.2.1 2)), ((u 29), chE (X.2.2.1 3)), ((u 30), sgE (X.2.2.1 4) (u 36)), ((u 31), ruE (X.2.2.1 5)), ((u 32), clE (X.2.2.1 6)), ((u 33), rsE (u 37) (u 38) (u 39) (u 40)), ((u 34), trE (u 45) (u 46) (u 47) X.2.2.2.1), ((u 35), rgE (X.2.2.1 9) (u 51)), ((u 36), iA cI 48 (X.2.2.1 10)), ((u 37), rgE (X.2.2.1 11) (u 41)), ((u 38), rgE (X.2.2.1 12) (u 42)), ((u 39), rgE (X.2.2.1 13) (u 43)), ((u 40), rgE (X.2.2.1 14) (u 44)), ((u 41), iA cI 16 (X.2.2.1 15)), ((u 42), iA cI 16 (X.2.2.1 16)), ((u 43), iA cI 16 (X.2.2.1 17)), ((u 44), iA cI 16 (X.2.2.1 18)), ((u 45), rgE (X.2.2.1 19) (u 48)), ((u 46), rgE (X.2.2.1 20) (u 49)), ((u 47), rgE (X.2.2.1 21) (u 50)), ((u 48), iA cI 24 (X.2.2.1 22)), ((u 49), iA cI 24 (X.2.2.1 23)), ((u 50), iA cI 24 (X.2.2.1 24)), ((u 51), iA cI 60 (X.2.2.1 25)), ((u 52), svE X.2.2.2.2.1 (u 53)), ((u 53), qA cO 6 (kF Y.1 Y.2.1)), ((u 54), txE X.2.2.2.2.2.1 (u 55) (u 56)), ((u 55), iA cI 90 X.2.2.2.2.2.2.1), ((u 56), sgE X.2.2.2.2.2.2.2.1 (u 57)), ((u 57), iA cI 48 X.2.2.2.2.2.2.2.2)] ++ kTail cI Y.1 Y.2.1 Y.2.2.1 Y.2.2.2) rfl ?_
  refine k_callVi (pc := 142) (As := []) (rest := []) (r := r_errPos X) (wc := [(b, ccE (u 0) (u 26) (u 52) (u 54)), ((u 54), txE X.2.2.2.2.2.1 (u 55) (u 56)), ((u 56), sgE X.2.2.2.2.2.2.2.1 (u 57)), ((u 55), iA cI 90 X.2.2.2.2.2.2.1), ((u 57), iA cI 48 X.2.2.2.2.2.2.2.2)]) (wc2 := [(b, ccE (u 0) (u 26) (u 52) (u 54)), ((u 54), txE (s_X10_errorPosition X.2.2.2.2.2.1 X.2.2.2.2.2.2.2.1 X.2.2.2.2.2.2.1 X.2.2.2.2.2.2.2.2).2.1 (u 55) (u 56)), ((u 56), sgE (s_X10_errorPosition X.2.2.2.2.2.1 X.2.2.2.2.2.2.2.1 X.2.2.2.2.2.2.1 X.2.2.2.2.2.2.2.2).2.2.1 (u 57)), ((u 55), iA cI 90 X.2.2.2.2.2.2.1), ((u 57), iA cI 48 (s_X10_errorPosition X.2.2.2.2.2.1 X.2.2.2.2.2.2.2.1 X.2.2.2.2.2.2.1 X.2.2.2.2.2.2.2.2).2.2.2)]) (ws2 := [(b, ccE (u 0) (u 26) (u 52) (u 54)), ((u 0), stE (X.1 0) (u 1) (u 2) (u 3) (u 4) (u 5) (u 6) (u 7) (u 8) (u 9)), ((u 1), iA cI 12 (X.1 1)), ((u 2), chE (X.1 2)), ((u 3), chE (X.1 3)), ((u 4), sgE (X.1 4) (u 10)), ((u 5), ruE (X.1 5)), ((u 6), clE (X.1 6)), ((u 7), rsE (u 11) (u 12) (u 13) (u 14)), ((u 8), trE (u 19) (u 20) (u 21) X.2.1), ((u 9), rgE (X.1 9) (u 25)), ((u 10), iA cI 48 (X.1 10)), ((u 11), rgE (X.1 11) (u 15)), ((u 12), rgE (X.1 12) (u 16)), ((u 13), rgE (X.1 13) (u 17)), ((u 14), rgE (X.1 14) (u 18)), ((u 15), iA cI 16 (X.1 15)), ((u 16), iA cI 16 (X.1 16)), ((u 17), iA cI 16 (X.1 17)), ((u 18), iA cI 16 (X.1 18)), ((u 19), rgE (X.1 19) (u 22)), ((u 20), rgE (X.1 20) (u 23)), ((u 21), rgE (X.1 21) (u 24)), ((u 22), iA cI 24 (X.1 22)), ((u 23), iA cI 24 (X.1 23)), ((u 24), iA cI 24 (X.1 24)), ((u 25), iA cI 60 (X.1 25)), ((u 26), stE (X.2.2.1 0) (u 27) (u 28) (u 29) (u 30) (u 31) (u 32) (u 33) (u 34) (u 35)), ((u 27), iA cI 12 (X.2.2.1 1)), ((u 28), chE (X.2.2.1 2)), ((u 29), chE (X.2.2.1 3)), ((u 30), sgE (X.2.2.1 4) (u 36)), ((u 31), ruE (X.2.2.1 5)), ((u 32), clE (X.2.2.1 6)), ((u 33), rsE (u 37) (u 38) (u 39) (u 40)), ((u 34), trE (u 45) (u 46) (u 47) X.2.2.2.1), ((u 35), rgE (X.2.2.1 9) (u 51)), ((u 36), iA cI 48 (X.2.2.1 10)), ((u 37), rgE (X.2.2.1 11) (u 41)), ((u 38), rgE (X.2.2.1 12) (u 42)), ((u 39), rgE (X.2.2.1 13) (u 43)), ((u 40), rgE (X.2.2.1 14) (u 44)), ((u 41), iA cI 16 (X.2.2.1 15)), ((u 42), iA cI 16 (X.2.2.1 16)), ((u 43), iA cI 16 (X.2.2.1 17)), ((u 44), iA cI 16 (X.2.2.1 18)), ((u 45), rgE (X.2.2.1 19) (u 48)), ((u 46), rgE (X.2.2.1 20) (u 49)), ((u 47), rgE (X.2.2.1 21) (u 50)), ((u 48), iA cI 24 (X.2.2.1 22)), ((u 49), iA cI 24 (X.2.2.1 23)), ((u 50), iA cI 24 (X.2.2.1 24)), ((u 51), iA cI 60 (X.2.2.1 25)), ((u 52), svE X.2.2.2.2.1 (u 53)), ((u 53), qA cO 6 (kF Y.1 Y.2.1)), ((u 54), txE (s_X10_errorPosition X.2.2.2.2.2.1 X.2.2.2.2.2.2.2.1 X.2.2.2.2.2.2.1 X.2.2.2.2.2.2.2.2).2.1 (u 55) (u 56)), ((u 55), iA cI 90 X.2.2.2.2.2.2.1), ((u 56), sgE (s_X10_errorPosition X.2.2.2.2.2.1 X.2.2.2.2.2.2.2.1 X.2.2.2.2.2.2.1 X.2.2.2.2.2.2.2.2).2.2.1 (u 57)), ((u 57), iA cI 48 (s_X10_errorPosition X.2.2.2.2.2.1 X.2.2.2.2.2.2.2.1 X.2.2.2.2.2.2.1 X.2.2.2.2.2.2.2.2).2.2.2)] ++ kTail cI Y.1 Y.2.1 Y.2.2.1 Y.2.2.2) C (c_X10_errorPosition l D cI cJ cO (fun k => u k) X.1 X.2.1 (fun k => u (26 + k)) X.2.2.1 X.2.2.2.1 b (u 52) (u 54) (u 55) (u 56) (u 57) X.2.2.2.2.2.1 X.2.2.2.2.2.2.2.1 X.2.2.2.2.2.2.1 X.2.2.2.2.2.2.2.2) cwv_X10_errorPosition q_880 vX10 0 rfl [0, 55, 57, 56, 58] (kmap_app rfl) rfl (by decide) (kput_app (wc := [(b, ccE (u 0) (u 26) (u 52) (u 54)), ((u 54), txE X.2.2.2.2.2.1 (u 55) (u 56)), ((u 56), sgE X.2.2.2.2.2.2.2.1 (u 57)), ((u 55), iA cI 90 X.2.2.2.2.2.2.1), ((u 57), iA cI 48 X.2.2.2.2.2.2.2.2)]) rfl rfl) rfl (Nat.le_of_ble_eq_true rfl) ⟨Nat.le_of_ble_eq_true rfl, Nat.le_of_ble_eq_true rfl⟩ rfl ⟨Nat.le_of_ble_eq_true rfl, Nat.le_of_ble_eq_true rfl⟩ dL_ask_142 ?_
  refine k_show (ws2 := pW cI cO b u (n_errPos X, Y)) rfl ?_
  exact k_finUi (pc := 145) hret ⟨(n_errPos X, Y), hv⟩ rfl rfl rfl (Nat.le_of_ble_eq_true rfl) (Nat.le_of_ble_eq_true rfl) dL_ask_145
theorem pm_ask (l : Launch) (hl0 : l.stackTraces = false) (D : va_G) (cI cJ cO : ClassId) (z : zT) {V : pV} (hsb : kSb V.1) (hl : V.2.2.2.2.2.2 = 0) (p0 p1 : Int32) (b : Nat) (u : Nat → Nat) (q : kXS × kTS) (hq : pvis q.1 q.2 = V) : ∃ r : Int32, kUi l yL_ask cL_ask 3 .int 9 200 26 331 D (kT cI cJ cO) z (.ref b :: [.int p0, .int p1]) (pW cI cO b u q) r (fun w : pSt V => pW cI cO b u w.1) := by
  have h := low_in p0 (n := 8) (by decide)
  by_cases hx : 6 < (pLow p0 8).toInt
  · exact as_7 l hl0 D cI cJ cO z hl p0 p1 (Or.inr hx) b u q hq
  · obtain ⟨e1, e2⟩ := nIofI (p := (pLow p0 8)) (N := 6) h.1 (by omega)
    generalize (pLow p0 8).toInt.toNat = k at e1 e2
    have hk : k ≤ 6 := by omega
    clear e2
    exact match k, e1, hk with
    | 0, e1, _ => as_0 l hl0 D cI cJ cO z hsb p0 p1 (e1.trans (by decide)) b u q hq
    | 1, e1, _ => as_1 l hl0 D cI cJ cO z hsb p0 p1 (e1.trans (by decide)) b u q hq
    | 2, e1, _ => as_2 l hl0 D cI cJ cO z hsb p0 p1 (e1.trans (by decide)) b u q hq
    | 3, e1, _ => as_3 l hl0 D cI cJ cO z hsb p0 p1 (e1.trans (by decide)) b u q hq
    | 4, e1, _ => as_4 l hl0 D cI cJ cO z hsb p0 p1 (e1.trans (by decide)) b u q hq
    | 5, e1, _ => as_5 l hl0 D cI cJ cO z hsb p0 p1 (e1.trans (by decide)) b u q hq
    | 6, e1, _ => as_6 l hl0 D cI cJ cO z hsb p0 p1 (e1.trans (by decide)) b u q hq
    | n + 7, _, hk => absurd hk (by omega)
theorem cws_ask : kCWs yL_ask cL_ask 3 (some .int) 3 := ⟨⟨q_817, q_15, by decide +kernel⟩, q_816⟩