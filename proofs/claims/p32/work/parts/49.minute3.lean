theorem q_905 : Cond.static yL_isMinute ∈ lw_all := kq 905 (by decide +kernel) (by decide +kernel)
theorem q_906 : Cond.code yL_isMinute cL_isMinute 14 (some .boolean) ∈ lw_all := kq 906 (by decide +kernel) (by decide +kernel)
theorem q_907 : Cond.methodLink RL 144 yL_setting ∈ lw_all := kq 907 (by decide +kernel) (by decide +kernel)
set_option maxRecDepth 100000 in
theorem im_0 (l : Launch) (hl0 : l.stackTraces = false) (D : va_G) (cI cJ cO : ClassId) (z : zT) {V V2 : pV} {b : Nat} {u : Nat → Nat} {Q : State → Prop} {A : Nat → Prop} {p : Program} {e : Env} {s : State} {m : MethodId} {args : Array Value} {below : List Frame} {meth : Method} {c : Code} (C : KC p s m args meth c cL_isMinute 14 RL (some .boolean) D (kT cI cJ cO) A) (hZ : kZ z A s s.heap) (hret : ∀ (w : pSt V2) (lv2 : List (Nat × Value)) (pc k n : Nat), k ≤ 780 → n ≤ 9930 → decode cL_isMinute pc = .ok (.ireturn, 1) → narrow .boolean (.int 1) = .int 1 → KJ p l e (kRc 9 200 780 9930) s m args below meth c k n Q D A 14 (pW cI cO b u w.1) lv2 [.int 1] pc) (hg1 : kIn (V2.1 6 0) (-700) 2000) (hg2 : kIn (V2.1 6 1) 0 1000) (hg3 : s_X3_latest 60 (V2.1 9) (V2.1 25) 0 = V2.1 6 0) (hfp : (if s_X4_isRunning (V.1 5) = 0 then (-10000) else V.1 5 2) < 0 → V2.1 6 2 = V.1 6 2 ∧ V2.1 6 3 = V.1 6 3) (hcase : (V2.1 6 9 - V.1 6 9 = 0 ∧ V2.1 6 10 - V.1 6 10 = 0) ∨ (V2.1 6 9 - V.1 6 9 = 1 ∧ V2.1 6 10 - V.1 6 10 = 0 ∧ V.1 6 4 = 0 ∧ (s_X10_at 12 (V.1 1) 8) ≤ V.1 6 8 ∧ V2.1 6 7 = 0) ∨ (V2.1 6 9 - V.1 6 9 = 0 ∧ V2.1 6 10 - V.1 6 10 = 1 ∧ V.1 6 4 = 0 ∧ (s_X10_at 12 (V.1 1) 8) ≤ V.1 6 7 ∧ V2.1 6 8 = 0)) (f13 : ¬ V.1 6 4 = 0 → V2.1 6 13 = V.1 6 13) (h0 : ¬ V.1 0 0 = 20000) (hvi : pCall l D cI cJ cO z yL_valueIn cL_valueIn 4 [(0, 6, 7, 15), (0, 6, 11, 18)] [.int 0, .int 1] V ((mnR V.1 V.2.1).2.2.1 0) V) (hps : pCall l D cI cJ cO z yL_pass cL_pass 3 [(0, 5, 6, 18), (0, 5, 10, 28)] [.int 1] V ((mnR V.1 V.2.1).2.2.1 0) V2) (q9 : kXS × kTS) (hq9 : pvis q9.1 q9.2 = V) : KJ p l e (kRc 9 200 780 9930) s m args below meth c 0 0 Q D A 14 (pW cI cO b u q9) [(0, .ref b)] [] 0 := by
  have K143 : ∀ (q9 : kXS × kTS) (hq9 : pvis q9.1 q9.2 = V2) (x3 x4 x5 x8 : Int32) (h3 : (s_X10_at 12 (V.1 1) 8) ≤ V.1 6 8 → ¬ x3 = 0) (h4 : (s_X10_at 12 (V.1 1) 8) ≤ V.1 6 7 → ¬ x4 = 0) (h5 : x5 = 0 → (if s_X4_isRunning (V.1 5) = 0 then (-10000) else V.1 5 2) < 0) (h8 : V.1 6 4 = 0 → x8 = 0) (h8b : ¬ x8 = 0 → ¬ V.1 6 4 = 0), KJ p l e (kRc 9 200 780 9930) s m args below meth c 364 4634 Q D A 14 (pW cI cO b u q9) [(10, .int ((mnR V.1 V.2.1).2.2.1 0)), (9, .int (V.1 6 13)), (8, .int x8), (7, .int (V.1 6 3)), (6, .int (V.1 6 2)), (5, .int x5), (4, .int x4), (3, .int x3), (2, .int (V.1 6 10)), (1, .int (V.1 6 9)), (0, .ref b)] [] 143 := by
    intro q9 hq9 x3 x4 x5 x8 h3 h4 h5 h8 h8b
    rcases hcase with ⟨f9, f10⟩ | ⟨f9, f10, f4, f8r, f7⟩ | ⟨f9, f10, f4, f7r, f8⟩
    · exact im_143a l hl0 D cI cJ cO z C hZ hret hg1 hg2 hg3 hfp x3 x4 x5 x8 h3 h4 h5 h8 h8b f9 f10 f13 q9 hq9
    · exact im_143b l hl0 D cI cJ cO z C hZ hret hg1 hg2 hg3 hfp x3 x4 x5 x8 h3 h4 h5 h8 h8b f9 f10 f4 f8r f7 q9 hq9
    · exact im_143c l hl0 D cI cJ cO z C hZ hret hg1 hg2 hg3 hfp x3 x4 x5 x8 h3 h4 h5 h8 h8b f9 f10 f4 f7r f8 q9 hq9
  have K102 : ∀ (q9 : kXS × kTS) (hq9 : pvis q9.1 q9.2 = V) (x3 x4 x5 x8 : Int32) (h3 : (s_X10_at 12 (V.1 1) 8) ≤ V.1 6 8 → ¬ x3 = 0) (h4 : (s_X10_at 12 (V.1 1) 8) ≤ V.1 6 7 → ¬ x4 = 0) (h5 : x5 = 0 → (if s_X4_isRunning (V.1 5) = 0 then (-10000) else V.1 5 2) < 0) (h8 : V.1 6 4 = 0 → x8 = 0) (h8b : ¬ x8 = 0 → ¬ V.1 6 4 = 0), KJ p l e (kRc 9 200 780 9930) s m args below meth c 260 3310 Q D A 14 (pW cI cO b u q9) [(7, .int (V.1 6 3)), (6, .int (V.1 6 2)), (5, .int x5), (4, .int x4), (3, .int x3), (2, .int (V.1 6 10)), (1, .int (V.1 6 9)), (0, .ref b)] [.int x8] 102 := by
    intro q9 hq9 x3 x4 x5 x8 h3 h4 h5 h8 h8b
    refine k_istore (pc := 102) (lv2 := [(8, .int x8), (7, .int (V.1 6 3)), (6, .int (V.1 6 2)), (5, .int x5), (4, .int x4), (3, .int x3), (2, .int (V.1 6 10)), (1, .int (V.1 6 9)), (0, .ref b)]) C (by decide) rfl dL_isMinute_102 ?_
    refine k_aload_n (pc := 104) C rfl 8 rfl dL_isMinute_104 ?_
    refine k_bipush (pc := 105) C bipush_20 dL_isMinute_105 ?_
    refine k_pcall (pc := 107) (As := [.int 20]) (rest := []) C hZ (pwv_20 l hl0 D cI cJ cO z V b u q9 hq9) cw_value q_651 rfl (Nat.le_of_ble_eq_true rfl) ⟨Nat.le_of_ble_eq_true rfl, Nat.le_of_ble_eq_true rfl⟩ rfl ⟨Nat.le_of_ble_eq_true rfl, Nat.le_of_ble_eq_true rfl⟩ dL_isMinute_107 (fun q54 hq54 => ?_)
    refine k_istore (pc := 110) (lv2 := [(9, .int (V.1 6 13)), (8, .int x8), (7, .int (V.1 6 3)), (6, .int (V.1 6 2)), (5, .int x5), (4, .int x4), (3, .int x3), (2, .int (V.1 6 10)), (1, .int (V.1 6 9)), (0, .ref b)]) C (by decide) rfl dL_isMinute_110 ?_
    refine k_aload_n (pc := 112) C rfl 9 rfl dL_isMinute_112 ?_
    refine k_iconst (pc := 113) C iconst_0 dL_isMinute_113 ?_
    refine k_iconst (pc := 114) C iconst_1 dL_isMinute_114 ?_
    refine k_pcall (pc := 115) (As := [.int 0, .int 1]) (rest := []) C hZ (hvi b u q54 hq54) cw_valueIn q_818 rfl (Nat.le_of_ble_eq_true rfl) ⟨Nat.le_of_ble_eq_true rfl, Nat.le_of_ble_eq_true rfl⟩ rfl ⟨Nat.le_of_ble_eq_true rfl, Nat.le_of_ble_eq_true rfl⟩ dL_isMinute_115 (fun q55 hq55 => ?_)
    refine k_istore (pc := 118) (lv2 := [(10, .int ((mnR V.1 V.2.1).2.2.1 0)), (9, .int (V.1 6 13)), (8, .int x8), (7, .int (V.1 6 3)), (6, .int (V.1 6 2)), (5, .int x5), (4, .int x4), (3, .int x3), (2, .int (V.1 6 10)), (1, .int (V.1 6 9)), (0, .ref b)]) C (by decide) rfl dL_isMinute_118 ?_
    refine k_aload_n (pc := 120) C rfl 10 rfl dL_isMinute_120 ?_
    refine k_iconst (pc := 121) C iconst_0 dL_isMinute_121 ?_
    refine k_pcall (pc := 122) (As := [.int 0]) (rest := []) C hZ (pwv_0 l hl0 D cI cJ cO z V b u q55 hq55) cw_value q_651 rfl (Nat.le_of_ble_eq_true rfl) ⟨Nat.le_of_ble_eq_true rfl, Nat.le_of_ble_eq_true rfl⟩ rfl ⟨Nat.le_of_ble_eq_true rfl, Nat.le_of_ble_eq_true rfl⟩ dL_isMinute_122 (fun q56 hq56 => ?_)
    refine k_sipush (pc := 125) C sipush_20000 dL_isMinute_125 ?_
    refine k_icmp_eq (pc := 128) (tgt := 141) C dL_isMinute_128 (by decide) (fun z9 => absurd z9 (h0)) (fun _ => ?_)
    refine k_aload_n (pc := 131) C rfl 10 rfl dL_isMinute_131 ?_
    refine k_iconst (pc := 132) C iconst_1 dL_isMinute_132 ?_
    refine k_pcall (pc := 133) (As := [.int 1]) (rest := []) C hZ (hps b u q56 hq56) cw_pass q_384 rfl (Nat.le_of_ble_eq_true rfl) ⟨Nat.le_of_ble_eq_true rfl, Nat.le_of_ble_eq_true rfl⟩ rfl ⟨Nat.le_of_ble_eq_true rfl, Nat.le_of_ble_eq_true rfl⟩ dL_isMinute_133 (fun q57 hq57 => ?_)
    refine k_iload (pc := 136) C 0 rfl dL_isMinute_136 ?_
    refine k_icmp_eq (pc := 138) (tgt := 143) C dL_isMinute_138 (by decide) (fun _ => ?_) (fun z9 => absurd (rfl) z9)
    exact k_widen (Nat.le_of_ble_eq_true rfl) (Nat.le_of_ble_eq_true rfl) (K143 q57 hq57 x3 x4 x5 x8 h3 h4 h5 h8 h8b)
  have K71 : ∀ (q9 : kXS × kTS) (hq9 : pvis q9.1 q9.2 = V) (x3 x4 x5 : Int32) (h3 : (s_X10_at 12 (V.1 1) 8) ≤ V.1 6 8 → ¬ x3 = 0) (h4 : (s_X10_at 12 (V.1 1) 8) ≤ V.1 6 7 → ¬ x4 = 0) (h5 : x5 = 0 → (if s_X4_isRunning (V.1 5) = 0 then (-10000) else V.1 5 2) < 0), KJ p l e (kRc 9 200 780 9930) s m args below meth c 182 2317 Q D A 14 (pW cI cO b u q9) [(4, .int x4), (3, .int x3), (2, .int (V.1 6 10)), (1, .int (V.1 6 9)), (0, .ref b)] [.int x5] 71 := by
    intro q9 hq9 x3 x4 x5 h3 h4 h5
    refine k_istore (pc := 71) (lv2 := [(5, .int x5), (4, .int x4), (3, .int x3), (2, .int (V.1 6 10)), (1, .int (V.1 6 9)), (0, .ref b)]) C (by decide) rfl dL_isMinute_71 ?_
    refine k_aload_n (pc := 73) C rfl 5 rfl dL_isMinute_73 ?_
    refine k_iconst (pc := 74) C iconst_3 dL_isMinute_74 ?_
    refine k_pcall (pc := 75) (As := [.int 3]) (rest := []) C hZ (pwv_3 l hl0 D cI cJ cO z V b u q9 hq9) cw_value q_651 rfl (Nat.le_of_ble_eq_true rfl) ⟨Nat.le_of_ble_eq_true rfl, Nat.le_of_ble_eq_true rfl⟩ rfl ⟨Nat.le_of_ble_eq_true rfl, Nat.le_of_ble_eq_true rfl⟩ dL_isMinute_75 (fun q58 hq58 => ?_)
    refine k_istore (pc := 78) (lv2 := [(6, .int (V.1 6 2)), (5, .int x5), (4, .int x4), (3, .int x3), (2, .int (V.1 6 10)), (1, .int (V.1 6 9)), (0, .ref b)]) C (by decide) rfl dL_isMinute_78 ?_
    refine k_aload_n (pc := 80) C rfl 6 rfl dL_isMinute_80 ?_
    refine k_iconst (pc := 81) C iconst_4 dL_isMinute_81 ?_
    refine k_pcall (pc := 82) (As := [.int 4]) (rest := []) C hZ (pwv_4 l hl0 D cI cJ cO z V b u q58 hq58) cw_value q_651 rfl (Nat.le_of_ble_eq_true rfl) ⟨Nat.le_of_ble_eq_true rfl, Nat.le_of_ble_eq_true rfl⟩ rfl ⟨Nat.le_of_ble_eq_true rfl, Nat.le_of_ble_eq_true rfl⟩ dL_isMinute_82 (fun q59 hq59 => ?_)
    refine k_istore (pc := 85) (lv2 := [(7, .int (V.1 6 3)), (6, .int (V.1 6 2)), (5, .int x5), (4, .int x4), (3, .int x3), (2, .int (V.1 6 10)), (1, .int (V.1 6 9)), (0, .ref b)]) C (by decide) rfl dL_isMinute_85 ?_
    refine k_aload_n (pc := 87) C rfl 7 rfl dL_isMinute_87 ?_
    refine k_bipush (pc := 88) C bipush_7 dL_isMinute_88 ?_
    refine k_pcall (pc := 90) (As := [.int 7]) (rest := []) C hZ (pwv_7 l hl0 D cI cJ cO z V b u q59 hq59) cw_value q_651 rfl (Nat.le_of_ble_eq_true rfl) ⟨Nat.le_of_ble_eq_true rfl, Nat.le_of_ble_eq_true rfl⟩ rfl ⟨Nat.le_of_ble_eq_true rfl, Nat.le_of_ble_eq_true rfl⟩ dL_isMinute_90 (fun q60 hq60 => ?_)
    refine k_iconst (pc := 93) C iconst_1 dL_isMinute_93 ?_
    refine k_icmp_ne (pc := 94) (tgt := 101) C dL_isMinute_94 (by decide) (fun h9 => ?_) (fun h9 => ?_)
    · refine k_iconst (pc := 101) C iconst_0 dL_isMinute_101 ?_
      exact k_widen (Nat.le_of_ble_eq_true rfl) (Nat.le_of_ble_eq_true rfl) (K102 q60 hq60 x3 x4 x5 0 h3 h4 h5 (fun _ => rfl) (fun z => absurd rfl z))
    · refine k_iconst (pc := 97) C iconst_1 dL_isMinute_97 ?_
      refine k_goto (pc := 98) (tgt := 102) C (by decide) dL_isMinute_98 ?_
      exact k_widen (Nat.le_of_ble_eq_true rfl) (Nat.le_of_ble_eq_true rfl) (K102 q60 hq60 x3 x4 x5 1 h3 h4 h5 (fun z => absurd (h9.symm.trans (if_pos z)) (by decide)) (fun _ z => absurd (h9.symm.trans (if_pos z)) (by decide)))
  have K55 : ∀ (q9 : kXS × kTS) (hq9 : pvis q9.1 q9.2 = V) (x3 x4 : Int32) (h3 : (s_X10_at 12 (V.1 1) 8) ≤ V.1 6 8 → ¬ x3 = 0) (h4 : (s_X10_at 12 (V.1 1) 8) ≤ V.1 6 7 → ¬ x4 = 0), KJ p l e (kRc 9 200 780 9930) s m args below meth c 156 1986 Q D A 14 (pW cI cO b u q9) [(3, .int x3), (2, .int (V.1 6 10)), (1, .int (V.1 6 9)), (0, .ref b)] [.int x4] 55 := by
    intro q9 hq9 x3 x4 h3 h4
    refine k_istore (pc := 55) (lv2 := [(4, .int x4), (3, .int x3), (2, .int (V.1 6 10)), (1, .int (V.1 6 9)), (0, .ref b)]) C (by decide) rfl dL_isMinute_55 ?_
    refine k_aload_n (pc := 57) C rfl 4 rfl dL_isMinute_57 ?_
    refine k_bipush (pc := 58) C bipush_8 dL_isMinute_58 ?_
    refine k_pcall (pc := 60) (As := [.int 8]) (rest := []) C hZ (pwv_8 l hl0 D cI cJ cO z V b u q9 hq9) cw_value q_651 rfl (Nat.le_of_ble_eq_true rfl) ⟨Nat.le_of_ble_eq_true rfl, Nat.le_of_ble_eq_true rfl⟩ rfl ⟨Nat.le_of_ble_eq_true rfl, Nat.le_of_ble_eq_true rfl⟩ dL_isMinute_60 (fun q61 hq61 => ?_)
    refine k_if_lt (pc := 63) (tgt := 70) C dL_isMinute_63 (by decide) (fun h9 => ?_) (fun h9 => ?_)
    · refine k_iconst (pc := 70) C iconst_0 dL_isMinute_70 ?_
      exact k_widen (Nat.le_of_ble_eq_true rfl) (Nat.le_of_ble_eq_true rfl) (K71 q61 hq61 x3 x4 0 h3 h4 (fun _ => h9))
    · refine k_iconst (pc := 66) C iconst_1 dL_isMinute_66 ?_
      refine k_goto (pc := 67) (tgt := 71) C (by decide) dL_isMinute_67 ?_
      exact k_widen (Nat.le_of_ble_eq_true rfl) (Nat.le_of_ble_eq_true rfl) (K71 q61 hq61 x3 x4 1 h3 h4 (fun z => absurd z (by decide)))
  have K34 : ∀ (q9 : kXS × kTS) (hq9 : pvis q9.1 q9.2 = V) (x3 : Int32) (h3 : (s_X10_at 12 (V.1 1) 8) ≤ V.1 6 8 → ¬ x3 = 0), KJ p l e (kRc 9 200 780 9930) s m args below meth c 104 1324 Q D A 14 (pW cI cO b u q9) [(2, .int (V.1 6 10)), (1, .int (V.1 6 9)), (0, .ref b)] [.int x3] 34 := by
    intro q9 hq9 x3 h3
    refine k_istore_n (pc := 34) (lv2 := [(3, .int x3), (2, .int (V.1 6 10)), (1, .int (V.1 6 9)), (0, .ref b)]) C rfl (by decide) rfl dL_isMinute_34 ?_
    refine k_aload_n (pc := 35) C rfl 3 rfl dL_isMinute_35 ?_
    refine k_bipush (pc := 36) C bipush_18 dL_isMinute_36 ?_
    refine k_pcall (pc := 38) (As := [.int 18]) (rest := []) C hZ (pwv_18 l hl0 D cI cJ cO z V b u q9 hq9) cw_value q_651 rfl (Nat.le_of_ble_eq_true rfl) ⟨Nat.le_of_ble_eq_true rfl, Nat.le_of_ble_eq_true rfl⟩ rfl ⟨Nat.le_of_ble_eq_true rfl, Nat.le_of_ble_eq_true rfl⟩ dL_isMinute_38 (fun q62 hq62 => ?_)
    refine k_aload_n (pc := 41) C rfl 3 rfl dL_isMinute_41 ?_
    refine k_bipush (pc := 42) C bipush_8 dL_isMinute_42 ?_
    refine k_pcall (pc := 44) (As := [.int 8]) (rest := [.int (V.1 6 7)]) C hZ (pws_8 l hl0 D cI cJ cO z V b u q62 hq62) cw_setting q_907 rfl (Nat.le_of_ble_eq_true rfl) ⟨Nat.le_of_ble_eq_true rfl, Nat.le_of_ble_eq_true rfl⟩ rfl ⟨Nat.le_of_ble_eq_true rfl, Nat.le_of_ble_eq_true rfl⟩ dL_isMinute_44 (fun q63 hq63 => ?_)
    refine k_icmp_lt (pc := 47) (tgt := 54) C dL_isMinute_47 (by decide) (fun h9 => ?_) (fun h9 => ?_)
    · refine k_iconst (pc := 54) C iconst_0 dL_isMinute_54 ?_
      exact k_widen (Nat.le_of_ble_eq_true rfl) (Nat.le_of_ble_eq_true rfl) (K55 q63 hq63 x3 0 h3 (fun z => absurd h9 (Int32.not_lt.mpr z)))
    · refine k_iconst (pc := 50) C iconst_1 dL_isMinute_50 ?_
      refine k_goto (pc := 51) (tgt := 55) C (by decide) dL_isMinute_51 ?_
      exact k_widen (Nat.le_of_ble_eq_true rfl) (Nat.le_of_ble_eq_true rfl) (K55 q63 hq63 x3 1 h3 (fun _ => by decide))
  refine k_aload_n (pc := 0) C rfl 0 rfl dL_isMinute_0 ?_
  refine k_bipush (pc := 1) C bipush_13 dL_isMinute_1 ?_
  refine k_pcall (pc := 3) (As := [.int 13]) (rest := []) C hZ (pwv_13 l hl0 D cI cJ cO z V b u q9 hq9) cw_value q_651 rfl (Nat.le_of_ble_eq_true rfl) ⟨Nat.le_of_ble_eq_true rfl, Nat.le_of_ble_eq_true rfl⟩ rfl ⟨Nat.le_of_ble_eq_true rfl, Nat.le_of_ble_eq_true rfl⟩ dL_isMinute_3 (fun q64 hq64 => ?_)
  refine k_istore_n (pc := 6) (lv2 := [(1, .int (V.1 6 9)), (0, .ref b)]) C rfl (by decide) rfl dL_isMinute_6 ?_
  refine k_aload_n (pc := 7) C rfl 1 rfl dL_isMinute_7 ?_
  refine k_bipush (pc := 8) C bipush_14 dL_isMinute_8 ?_
  refine k_pcall (pc := 10) (As := [.int 14]) (rest := []) C hZ (pwv_14 l hl0 D cI cJ cO z V b u q64 hq64) cw_value q_651 rfl (Nat.le_of_ble_eq_true rfl) ⟨Nat.le_of_ble_eq_true rfl, Nat.le_of_ble_eq_true rfl⟩ rfl ⟨Nat.le_of_ble_eq_true rfl, Nat.le_of_ble_eq_true rfl⟩ dL_isMinute_10 (fun q65 hq65 => ?_)
  refine k_istore_n (pc := 13) (lv2 := [(2, .int (V.1 6 10)), (1, .int (V.1 6 9)), (0, .ref b)]) C rfl (by decide) rfl dL_isMinute_13 ?_
  refine k_aload_n (pc := 14) C rfl 2 rfl dL_isMinute_14 ?_
  refine k_bipush (pc := 15) C bipush_19 dL_isMinute_15 ?_
  refine k_pcall (pc := 17) (As := [.int 19]) (rest := []) C hZ (pwv_19 l hl0 D cI cJ cO z V b u q65 hq65) cw_value q_651 rfl (Nat.le_of_ble_eq_true rfl) ⟨Nat.le_of_ble_eq_true rfl, Nat.le_of_ble_eq_true rfl⟩ rfl ⟨Nat.le_of_ble_eq_true rfl, Nat.le_of_ble_eq_true rfl⟩ dL_isMinute_17 (fun q66 hq66 => ?_)
  refine k_aload_n (pc := 20) C rfl 2 rfl dL_isMinute_20 ?_
  refine k_bipush (pc := 21) C bipush_8 dL_isMinute_21 ?_
  refine k_pcall (pc := 23) (As := [.int 8]) (rest := [.int (V.1 6 8)]) C hZ (pws_8 l hl0 D cI cJ cO z V b u q66 hq66) cw_setting q_907 rfl (Nat.le_of_ble_eq_true rfl) ⟨Nat.le_of_ble_eq_true rfl, Nat.le_of_ble_eq_true rfl⟩ rfl ⟨Nat.le_of_ble_eq_true rfl, Nat.le_of_ble_eq_true rfl⟩ dL_isMinute_23 (fun q67 hq67 => ?_)
  refine k_icmp_lt (pc := 26) (tgt := 33) C dL_isMinute_26 (by decide) (fun h9 => ?_) (fun h9 => ?_)
  · refine k_iconst (pc := 33) C iconst_0 dL_isMinute_33 ?_
    exact k_widen (Nat.le_of_ble_eq_true rfl) (Nat.le_of_ble_eq_true rfl) (K34 q67 hq67 0 (fun z => absurd h9 (Int32.not_lt.mpr z)))
  · refine k_iconst (pc := 29) C iconst_1 dL_isMinute_29 ?_
    refine k_goto (pc := 30) (tgt := 34) C (by decide) dL_isMinute_30 ?_
    exact k_widen (Nat.le_of_ble_eq_true rfl) (Nat.le_of_ble_eq_true rfl) (K34 q67 hq67 1 (fun _ => by decide))
theorem pm_isMinute (l : Launch) (hl0 : l.stackTraces = false) (D : va_G) (cI cJ cO : ClassId) (z : zT) {T : Int} {V : pV} (hI : pInv T V) (hT : 0 ≤ T ∧ T < 19000) : ∃ V2 : pV, pInv (T + 1) V2 ∧ V2.1 6 0 = ((mnR V.1 V.2.1).2.2.1 0) ∧ pCall l D cI cJ cO z yL_pass cL_pass 3 [(0, 5, 6, 18), (0, 5, 10, 28)] [.int 1] V ((mnR V.1 V.2.1).2.2.1 0) V2 ∧ pMeth l D cI cJ cO z yL_isMinute cL_isMinute 14 .boolean 9 200 780 9930 [] V 1 V2 := by
  obtain ⟨V2, hI2, e6, e5, e9, e25, hps⟩ := pw_pass1 l hl0 D cI cJ cO z hI hT
  obtain ⟨-, ⟨o, f9, f10, fo, fc, f13⟩, fp, g1, g2, g3⟩ := mn_all V.2.1 hI.1 (by omega)
  have hvi := pw_v01 l hl0 D cI cJ cO z V hI.1.sb
  rw [← e6] at f9 f10 fo fc f13 fp g1 g2 g3
  rw [← e9, ← e25] at g3
  have h0 : ¬ V.1 0 0 = 20000 := by
    intro y
    have a := hI.1.1.2
    rw [y] at a
    have e : Int32.toInt 20000 = 20000 := by decide
    omega
  have hfp : (if s_X4_isRunning (V.1 5) = 0 then (-10000) else V.1 5 2) < 0 → V2.1 6 2 = V.1 6 2 ∧ V2.1 6 3 = V.1 6 3 := by
    intro y
    refine fp ?_
    unfold s_X4_goesOn
    by_cases c : s_X4_isRunning (V.1 5) = 0
    · rw [if_pos c]
    · rw [if_neg c] at y
      have a := Int32.lt_iff_toInt_lt.mp y
      have b := hI.1.2.2.1.2.1
      rw [Int32.toInt_zero] at a
      omega
  have sub_ : ∀ a x y : Int32, a = x + y → a - x = y := by
    intro a x y e
    rw [e, Int32.add_comm]
    exact Int32.add_sub_cancel _ _
  have hcase : (V2.1 6 9 - V.1 6 9 = 0 ∧ V2.1 6 10 - V.1 6 10 = 0) ∨ (V2.1 6 9 - V.1 6 9 = 1 ∧ V2.1 6 10 - V.1 6 10 = 0 ∧ V.1 6 4 = 0 ∧ (s_X10_at 12 (V.1 1) 8) ≤ V.1 6 8 ∧ V2.1 6 7 = 0) ∨ (V2.1 6 9 - V.1 6 9 = 0 ∧ V2.1 6 10 - V.1 6 10 = 1 ∧ V.1 6 4 = 0 ∧ (s_X10_at 12 (V.1 1) 8) ≤ V.1 6 7 ∧ V2.1 6 8 = 0) := by
    by_cases c1 : o ≤ 0
    · rw [if_pos c1] at f9
      by_cases c2 : 0 ≤ o
      · rw [if_pos c2] at f10
        exact Or.inl ⟨sub_ _ _ _ f9, sub_ _ _ _ f10⟩
      · rw [if_neg c2] at f10
        exact Or.inr (Or.inr ⟨sub_ _ _ _ f9, sub_ _ _ _ f10, (fc c2).1, (fc c2).2.1, (fc c2).2.2⟩)
    · have c2 : 0 ≤ o := by
        rcases Int.le_total (Int32.toInt 0) o.toInt with y | y
        · exact Int32.le_iff_toInt_le.mpr y
        · exact absurd (Int32.le_iff_toInt_le.mpr y) c1
      rw [if_neg c1] at f9
      rw [if_pos c2] at f10
      exact Or.inr (Or.inl ⟨sub_ _ _ _ f9, sub_ _ _ _ f10, (fo c1).1, (fo c1).2.1, (fo c1).2.2⟩)
  refine ⟨V2, hI2, by rw [e6], hps, fun b u q hq => ?_⟩
  refine kUi_of (own := RL) (lv := [(0, .ref b)]) rfl rfl (by decide) (Nat.le_of_ble_eq_true rfl) ?_
  intro p e s m args below meth c Q A C hZ hret
  exact im_0 l hl0 D cI cJ cO z C hZ hret g1 g2 g3 hfp hcase f13 h0 hvi hps q hq
theorem cws_isMinute : kCWs yL_isMinute cL_isMinute 14 (some .boolean) 1 := ⟨⟨q_906, q_15, by decide +kernel⟩, q_905⟩