theorem q_915 : Cond.static yL_areAlike ∈ lw_all := kq 915 (by decide +kernel) (by decide +kernel)
theorem q_916 : Cond.code yL_areAlike cL_areAlike 4 (some .boolean) ∈ lw_all := kq 916 (by decide +kernel) (by decide +kernel)
theorem q_917 : Cond.methodLink RL 146 yX10_auditCode ∈ lw_all := kq 917 (by decide +kernel) (by decide +kernel)
theorem q_918 : Cond.instanceMethod yX10_auditCode ∈ lw_all := kq 918 (by decide +kernel) (by decide +kernel)
theorem q_919 : Cond.selects RX10 yX10_auditCode yX10_auditCode ∈ lw_all := kq 919 (by decide +kernel) (by decide +kernel)
theorem q_920 : Cond.code yX10_auditCode cX10_auditCode 1 (some .long) ∈ lw_all := kq 920 (by decide +kernel) (by decide +kernel)
theorem q_921 : Cond.methodLink RL 150 yL_audit ∈ lw_all := kq 921 (by decide +kernel) (by decide +kernel)
theorem cwv_X10_auditCode : kCWv yX10_auditCode cX10_auditCode 1 (some .long) 0 := ⟨⟨q_920, q_16, by decide +kernel⟩, q_918, q_919⟩
theorem dL_areAlike_0 : decode cL_areAlike 0 = .ok (.aload_n 0, 1) := by decide +kernel
theorem dL_areAlike_1 : decode cL_areAlike 1 = .ok (.invokevirtual 146, 3) := by decide +kernel
theorem dL_areAlike_4 : decode cL_areAlike 4 = .ok (.aload_n 1, 1) := by decide +kernel
theorem dL_areAlike_5 : decode cL_areAlike 5 = .ok (.invokevirtual 146, 3) := by decide +kernel
theorem dL_areAlike_8 : decode cL_areAlike 8 = .ok (.lcmp, 1) := by decide +kernel
theorem dL_areAlike_9 : decode cL_areAlike 9 = .ok (.ifCond .ne 22, 3) := by decide +kernel
theorem dL_areAlike_12 : decode cL_areAlike 12 = .ok (.aload_n 0, 1) := by decide +kernel
theorem dL_areAlike_13 : decode cL_areAlike 13 = .ok (.bipush 9, 2) := by decide +kernel
theorem dL_areAlike_15 : decode cL_areAlike 15 = .ok (.invokestatic 137, 3) := by decide +kernel
theorem dL_areAlike_18 : decode cL_areAlike 18 = .ok (.aload_n 1, 1) := by decide +kernel
theorem dL_areAlike_19 : decode cL_areAlike 19 = .ok (.bipush 9, 2) := by decide +kernel
theorem dL_areAlike_21 : decode cL_areAlike 21 = .ok (.invokestatic 137, 3) := by decide +kernel
theorem dL_areAlike_24 : decode cL_areAlike 24 = .ok (.if_icmp .ne 7, 3) := by decide +kernel
theorem dL_areAlike_27 : decode cL_areAlike 27 = .ok (.iconst 1, 1) := by decide +kernel
theorem dL_areAlike_28 : decode cL_areAlike 28 = .ok (.goto 4, 3) := by decide +kernel
theorem dL_areAlike_31 : decode cL_areAlike 31 = .ok (.iconst 0, 1) := by decide +kernel
theorem dL_areAlike_32 : decode cL_areAlike 32 = .ok (.istore_n 2, 1) := by decide +kernel
theorem dL_areAlike_33 : decode cL_areAlike 33 = .ok (.iconst 0, 1) := by decide +kernel
theorem dL_areAlike_34 : decode cL_areAlike 34 = .ok (.istore_n 3, 1) := by decide +kernel
theorem dL_areAlike_35 : decode cL_areAlike 35 = .ok (.iload_n 3, 1) := by decide +kernel
theorem dL_areAlike_36 : decode cL_areAlike 36 = .ok (.bipush 25, 2) := by decide +kernel
theorem dL_areAlike_38 : decode cL_areAlike 38 = .ok (.if_icmp .ge 32, 3) := by decide +kernel
theorem dL_areAlike_41 : decode cL_areAlike 41 = .ok (.iload_n 2, 1) := by decide +kernel
theorem dL_areAlike_42 : decode cL_areAlike 42 = .ok (.ifCond .eq 20, 3) := by decide +kernel
theorem dL_areAlike_45 : decode cL_areAlike 45 = .ok (.aload_n 0, 1) := by decide +kernel
theorem dL_areAlike_46 : decode cL_areAlike 46 = .ok (.iload_n 3, 1) := by decide +kernel
theorem dL_areAlike_47 : decode cL_areAlike 47 = .ok (.invokestatic 142, 3) := by decide +kernel
theorem dL_areAlike_50 : decode cL_areAlike 50 = .ok (.aload_n 1, 1) := by decide +kernel
theorem dL_areAlike_51 : decode cL_areAlike 51 = .ok (.iload_n 3, 1) := by decide +kernel
theorem dL_areAlike_52 : decode cL_areAlike 52 = .ok (.invokestatic 142, 3) := by decide +kernel
theorem dL_areAlike_55 : decode cL_areAlike 55 = .ok (.if_icmp .ne 7, 3) := by decide +kernel
theorem dL_areAlike_58 : decode cL_areAlike 58 = .ok (.iconst 1, 1) := by decide +kernel
theorem dL_areAlike_59 : decode cL_areAlike 59 = .ok (.goto 4, 3) := by decide +kernel
theorem dL_areAlike_62 : decode cL_areAlike 62 = .ok (.iconst 0, 1) := by decide +kernel
theorem dL_areAlike_63 : decode cL_areAlike 63 = .ok (.istore_n 2, 1) := by decide +kernel
theorem dL_areAlike_64 : decode cL_areAlike 64 = .ok (.iinc 3 1, 3) := by decide +kernel
theorem dL_areAlike_67 : decode cL_areAlike 67 = .ok (.goto (-32), 3) := by decide +kernel
theorem dL_areAlike_70 : decode cL_areAlike 70 = .ok (.iconst 0, 1) := by decide +kernel
theorem dL_areAlike_71 : decode cL_areAlike 71 = .ok (.istore_n 3, 1) := by decide +kernel
theorem dL_areAlike_72 : decode cL_areAlike 72 = .ok (.iload_n 3, 1) := by decide +kernel
theorem dL_areAlike_73 : decode cL_areAlike 73 = .ok (.iconst 4, 1) := by decide +kernel
theorem dL_areAlike_74 : decode cL_areAlike 74 = .ok (.if_icmp .ge 64, 3) := by decide +kernel
theorem dL_areAlike_77 : decode cL_areAlike 77 = .ok (.iload_n 2, 1) := by decide +kernel
theorem dL_areAlike_78 : decode cL_areAlike 78 = .ok (.ifCond .eq 52, 3) := by decide +kernel
theorem dL_areAlike_81 : decode cL_areAlike 81 = .ok (.aload_n 0, 1) := by decide +kernel
theorem dL_areAlike_82 : decode cL_areAlike 82 = .ok (.iload_n 3, 1) := by decide +kernel
theorem dL_areAlike_83 : decode cL_areAlike 83 = .ok (.iconst 2, 1) := by decide +kernel
theorem dL_areAlike_84 : decode cL_areAlike 84 = .ok (.invokestatic 133, 3) := by decide +kernel
theorem dL_areAlike_87 : decode cL_areAlike 87 = .ok (.aload_n 1, 1) := by decide +kernel
theorem dL_areAlike_88 : decode cL_areAlike 88 = .ok (.iload_n 3, 1) := by decide +kernel
theorem dL_areAlike_89 : decode cL_areAlike 89 = .ok (.iconst 2, 1) := by decide +kernel
theorem dL_areAlike_90 : decode cL_areAlike 90 = .ok (.invokestatic 133, 3) := by decide +kernel
theorem dL_areAlike_93 : decode cL_areAlike 93 = .ok (.if_icmp .ne 37, 3) := by decide +kernel
theorem dL_areAlike_96 : decode cL_areAlike 96 = .ok (.aload_n 0, 1) := by decide +kernel
theorem dL_areAlike_97 : decode cL_areAlike 97 = .ok (.iload_n 3, 1) := by decide +kernel
theorem dL_areAlike_98 : decode cL_areAlike 98 = .ok (.iconst 0, 1) := by decide +kernel
theorem dL_areAlike_99 : decode cL_areAlike 99 = .ok (.invokestatic 150, 3) := by decide +kernel
theorem dL_areAlike_102 : decode cL_areAlike 102 = .ok (.aload_n 1, 1) := by decide +kernel
theorem dL_areAlike_103 : decode cL_areAlike 103 = .ok (.iload_n 3, 1) := by decide +kernel
theorem dL_areAlike_104 : decode cL_areAlike 104 = .ok (.iconst 0, 1) := by decide +kernel
theorem dL_areAlike_105 : decode cL_areAlike 105 = .ok (.invokestatic 150, 3) := by decide +kernel
theorem dL_areAlike_108 : decode cL_areAlike 108 = .ok (.if_icmp .ne 22, 3) := by decide +kernel
theorem dL_areAlike_111 : decode cL_areAlike 111 = .ok (.aload_n 0, 1) := by decide +kernel
theorem dL_areAlike_112 : decode cL_areAlike 112 = .ok (.iload_n 3, 1) := by decide +kernel
theorem dL_areAlike_113 : decode cL_areAlike 113 = .ok (.iconst 2, 1) := by decide +kernel
theorem dL_areAlike_114 : decode cL_areAlike 114 = .ok (.invokestatic 150, 3) := by decide +kernel
theorem dL_areAlike_117 : decode cL_areAlike 117 = .ok (.aload_n 1, 1) := by decide +kernel
theorem dL_areAlike_118 : decode cL_areAlike 118 = .ok (.iload_n 3, 1) := by decide +kernel
theorem dL_areAlike_119 : decode cL_areAlike 119 = .ok (.iconst 2, 1) := by decide +kernel
theorem dL_areAlike_120 : decode cL_areAlike 120 = .ok (.invokestatic 150, 3) := by decide +kernel
theorem dL_areAlike_123 : decode cL_areAlike 123 = .ok (.if_icmp .ne 7, 3) := by decide +kernel
theorem dL_areAlike_126 : decode cL_areAlike 126 = .ok (.iconst 1, 1) := by decide +kernel
theorem dL_areAlike_127 : decode cL_areAlike 127 = .ok (.goto 4, 3) := by decide +kernel
theorem dL_areAlike_130 : decode cL_areAlike 130 = .ok (.iconst 0, 1) := by decide +kernel
theorem dL_areAlike_131 : decode cL_areAlike 131 = .ok (.istore_n 2, 1) := by decide +kernel
theorem dL_areAlike_132 : decode cL_areAlike 132 = .ok (.iinc 3 1, 3) := by decide +kernel
theorem dL_areAlike_135 : decode cL_areAlike 135 = .ok (.goto (-63), 3) := by decide +kernel
theorem dL_areAlike_138 : decode cL_areAlike 138 = .ok (.iload_n 2, 1) := by decide +kernel
theorem dL_areAlike_139 : decode cL_areAlike 139 = .ok (.ireturn, 1) := by decide +kernel
set_option maxRecDepth 100000 in
/-- the audit code of an object among other cells -/
theorem k_audit {p : Program} {l : Launch} {e : Env} {R : Room} {s : State} {m : MethodId} {args : Array Value} {below : List Frame} {meth : Method} {c : Code} {cells slots : Nat} {Q : State → Prop} {D : va_G} {A : Nat → Prop} {nL : Nat} {cc : ByteArray} {own : String} {ret : Option FieldType} {cI cJ cO : ClassId} {lv : List (Nat × Value)} {pc : Nat} (C : KC p s m args meth c cc nL own ret D (kT cI cJ cO) A) {b : Nat} {u : Nat → Nat} {q : kXS × kTS} {wr : va_W} {rest : List Value} {index : Nat} (hlk : Cond.methodLink own index yX10_auditCode ∈ lw_all) (hcat : (rest.map fun v => v.category).sum ≤ 8) (hR : 1 ≤ R.frames ∧ 20 ≤ R.locals) (hcs : cells ≤ R.cells ∧ slots ≤ R.slots) (hd : decode cc pc = .ok (.invokevirtual index, 3)) (h : KJ p l e R s m args below meth c cells slots Q D A nL (pW cI cO b u q ++ wr) lv (.long q.1.2.1 :: rest) (pc + 3)) : KJ p l e R s m args below meth c cells slots Q D A nL (pW cI cO b u q ++ wr) lv (.ref b :: rest) pc := by
  obtain ⟨X, Y⟩ := q
  refine k_show (ws2 := [(b, ccE (u 0) (u 26) (u 52) (u 54)), ((u 0), stE (X.1 0) (u 1) (u 2) (u 3) (u 4) (u 5) (u 6) (u 7) (u 8) (u 9)), ((u 1), iA cI 12 (X.1 1)), ((u 2), chE (X.1 2)), ((u 3), chE (X.1 3)), ((u 4), sgE (X.1 4) (u 10)), ((u 5), ruE (X.1 5)), ((u 6), clE (X.1 6)), ((u 7), rsE (u 11) (u 12) (u 13) (u 14)), ((u 8), trE (u 19) (u 20) (u 21) X.2.1), ((u 9), rgE (X.1 9) (u 25)), ((u 10), iA cI 48 (X.1 10)), ((u 11), rgE (X.1 11) (u 15)), ((u 12), rgE (X.1 12) (u 16)), ((u 13), rgE (X.1 13) (u 17)), ((u 14), rgE (X.1 14) (u 18)), ((u 15), iA cI 16 (X.1 15)), ((u 16), iA cI 16 (X.1 16)), ((u 17), iA cI 16 (X.1 17)), ((u 18), iA cI 16 (X.1 18)), ((u 19), rgE (X.1 19) (u 22)), ((u 20), rgE (X.1 20) (u 23)), ((u 21), rgE (X.1 21) (u 24)), ((u 22), iA cI 24 (X.1 22)), ((u 23), iA cI 24 (X.1 23)), ((u 24), iA cI 24 (X.1 24)), ((u 25), iA cI 60 (X.1 25)), ((u 26), stE (X.2.2.1 0) (u 27) (u 28) (u 29) (u 30) (u 31) (u 32) (u 33) (u 34) (u 35)), ((u 27), iA cI 12 (X.2.2.1 1)), ((u 28), chE (X.2.2.1 2)), ((u 29), chE (X.2.2.1 3)), ((u 30), sgE (X.2.2.1 4) (u 36)), ((u 31), ruE (X.2.2.1 5)), ((u 32), clE (X.2.2.1 6)), ((u 33), rsE (u 37) (u 38) (u 39) (u 40)), ((u 34), trE (u 45) (u 46) (u 47) X.2.2.2.1), ((u 35), rgE (X.2.2.1 9) (u 51)), ((u 36), iA cI 48 (X.2.2.1 10)), ((u 37), rgE (X.2.2.1 11) (u 41)), ((u 38), rgE (X.2.2.1 12) (u 42)), ((u 39), rgE (X.2.2.1 13) (u 43)), ((u 40), rgE (X.2.2.1 14) (u 44)), ((u 41), iA cI 16 (X.2.2.1 15)), ((u 42), iA cI 16 (X.2.2.1 16)), ((u 43), iA cI 16 (X.2.2.1 17)), ((u 44), iA cI 16 (X.2.2.1 18)), ((u 45), rgE (X.2.2.1 19) (u 48)), ((u 46), rgE (X.2.2.1 20) (u 49)), ((u 47), rgE (X.2.2.1 21) (u 50)), ((u 48), iA cI 24 (X.2.2.1 22)), ((u 49), iA cI 24 (X.2.2.1 23)), ((u 50), iA cI 24 (X.2.2.1 24)), ((u 51), iA cI 60 (X.2.2.1 25)), ((u 52), svE X.2.2.2.2.1 (u 53)), ((u 53), qA cO 6 (kF Y.1 Y.2.1)), ((u 54), txE X.2.2.2.2.2.1 (u 55) (u 56)), ((u 55), iA cI 90 X.2.2.2.2.2.2.1), ((u 56), sgE X.2.2.2.2.2.2.2.1 (u 57)), ((u 57), iA cI 48 X.2.2.2.2.2.2.2.2)] ++ (kTail cI Y.1 Y.2.1 Y.2.2.1 Y.2.2.2 ++ wr)) (List.append_assoc _ _ _) ?_
  refine k_callVl (As := []) (rest := rest) (r := (s_X10_auditCode (X.1 0) X.2.1)) (wc := [(b, ccE (u 0) (u 26) (u 52) (u 54)), ((u 0), stE (X.1 0) (u 1) (u 2) (u 3) (u 4) (u 5) (u 6) (u 7) (u 8) (u 9)), ((u 8), trE (u 19) (u 20) (u 21) X.2.1)]) (wc2 := [(b, ccE (u 0) (u 26) (u 52) (u 54)), ((u 0), stE (X.1 0) (u 1) (u 2) (u 3) (u 4) (u 5) (u 6) (u 7) (u 8) (u 9)), ((u 8), trE (u 19) (u 20) (u 21) X.2.1)]) (ws2 := [(b, ccE (u 0) (u 26) (u 52) (u 54)), ((u 0), stE (X.1 0) (u 1) (u 2) (u 3) (u 4) (u 5) (u 6) (u 7) (u 8) (u 9)), ((u 1), iA cI 12 (X.1 1)), ((u 2), chE (X.1 2)), ((u 3), chE (X.1 3)), ((u 4), sgE (X.1 4) (u 10)), ((u 5), ruE (X.1 5)), ((u 6), clE (X.1 6)), ((u 7), rsE (u 11) (u 12) (u 13) (u 14)), ((u 8), trE (u 19) (u 20) (u 21) X.2.1), ((u 9), rgE (X.1 9) (u 25)), ((u 10), iA cI 48 (X.1 10)), ((u 11), rgE (X.1 11) (u 15)), ((u 12), rgE (X.1 12) (u 16)), ((u 13), rgE (X.1 13) (u 17)), ((u 14), rgE (X.1 14) (u 18)), ((u 15), iA cI 16 (X.1 15)), ((u 16), iA cI 16 (X.1 16)), ((u 17), iA cI 16 (X.1 17)), ((u 18), iA cI 16 (X.1 18)), ((u 19), rgE (X.1 19) (u 22)), ((u 20), rgE (X.1 20) (u 23)), ((u 21), rgE (X.1 21) (u 24)), ((u 22), iA cI 24 (X.1 22)), ((u 23), iA cI 24 (X.1 23)), ((u 24), iA cI 24 (X.1 24)), ((u 25), iA cI 60 (X.1 25)), ((u 26), stE (X.2.2.1 0) (u 27) (u 28) (u 29) (u 30) (u 31) (u 32) (u 33) (u 34) (u 35)), ((u 27), iA cI 12 (X.2.2.1 1)), ((u 28), chE (X.2.2.1 2)), ((u 29), chE (X.2.2.1 3)), ((u 30), sgE (X.2.2.1 4) (u 36)), ((u 31), ruE (X.2.2.1 5)), ((u 32), clE (X.2.2.1 6)), ((u 33), rsE (u 37) (u 38) (u 39) (u 40)), ((u 34), trE (u 45) (u 46) (u 47) X.2.2.2.1), ((u 35), rgE (X.2.2.1 9) (u 51)), ((u 36), iA cI 48 (X.2.2.1 10)), ((u 37), rgE (X.2.2.1 11) (u 41)), ((u 38), rgE (X.2.2.1 12) (u 42)), ((u 39), rgE (X.2.2.1 13) (u 43)), ((u 40), rgE (X.2.2.1 14) (u 44)), ((u 41), iA cI 16 (X.2.2.1 15)), ((u 42), iA cI 16 (X.2.2.1 16)), ((u 43), iA cI 16 (X.2.2.1 17)), ((u 44), iA cI 16 (X.2.2.1 18)), ((u 45), rgE (X.2.2.1 19) (u 48)), ((u 46), rgE (X.2.2.1 20) (u 49)), ((u 47), rgE (X.2.2.1 21) (u 50)), ((u 48), iA cI 24 (X.2.2.1 22)), ((u 49), iA cI 24 (X.2.2.1 23)), ((u 50), iA cI 24 (X.2.2.1 24)), ((u 51), iA cI 60 (X.2.2.1 25)), ((u 52), svE X.2.2.2.2.1 (u 53)), ((u 53), qA cO 6 (kF Y.1 Y.2.1)), ((u 54), txE X.2.2.2.2.2.1 (u 55) (u 56)), ((u 55), iA cI 90 X.2.2.2.2.2.2.1), ((u 56), sgE X.2.2.2.2.2.2.2.1 (u 57)), ((u 57), iA cI 48 X.2.2.2.2.2.2.2.2)] ++ (kTail cI Y.1 Y.2.1 Y.2.2.1 Y.2.2.2 ++ wr)) C (c_X10_auditCode l D cI cJ cO (fun k => u k) X.1 X.2.1 (fun k => u (26 + k)) X.2.2.1 X.2.2.2.1 b (u 52) (u 54)) cwv_X10_auditCode hlk vX10 0 rfl [0, 1, 9] (kmap_app rfl) rfl (by decide) (kput_app (wc := [(b, ccE (u 0) (u 26) (u 52) (u 54)), ((u 0), stE (X.1 0) (u 1) (u 2) (u 3) (u 4) (u 5) (u 6) (u 7) (u 8) (u 9)), ((u 8), trE (u 19) (u 20) (u 21) X.2.1)]) rfl rfl) rfl hcat ⟨hR.1, hR.2⟩ rfl hcs hd ?_
  refine k_show (ws2 := pW cI cO b u (X, Y) ++ wr) (List.append_assoc _ _ _).symm ?_
  exact h
set_option maxRecDepth 100000 in
theorem aa_72 (l : Launch) (hl0 : l.stackTraces = false) (D : va_G) (cI cJ cO : ClassId) (z : zT) {V : pV} {b b2 : Nat} {u u2 : Nat → Nat} {Q : State → Prop} {A : Nat → Prop} {p : Program} {e : Env} {s : State} {m : MethodId} {args : Array Value} {below : List Frame} {meth : Method} {c : Code} (C : KC p s m args meth c cL_areAlike 4 RL (some .boolean) D (kT cI cJ cO) A) (hZ : kZ z A s s.heap) (hret : ∀ (w : pSt V × pSt V) (lv2 : List (Nat × Value)) (pc k n : Nat), k ≤ 2600 → n ≤ 33100 → decode cL_areAlike pc = .ok (.ireturn, 1) → narrow .boolean (.int 1) = .int 1 → KJ p l e (kRc 9 200 2600 33100) s m args below meth c k n Q D A 4 (pW cI cO b u w.1.1 ++ pW cI cO b2 u2 w.2.1) lv2 [.int 1] pc) : ∀ (d k : Nat) (q1_ q2_ : kXS × kTS) (hq1_ : pvis q1_.1 q1_.2 = V) (hq2_ : pvis q2_.1 q2_.2 = V), k + d = 4 → KJ p l e (kRc 9 200 2600 33100) s m args below meth c (1500 + 156 * k) (19000 + 1986 * k) Q D A 4 (pW cI cO b u q1_ ++ pW cI cO b2 u2 q2_) [(3, .int (nI k)), (2, .int 1), (0, .ref b), (1, .ref b2)] [] 72 := by
  intro d
  induction d with
  | zero =>
    intro k q1_ q2_ hq1_ hq2_ hk
    have hk : k = 4 := by omega
    subst hk
    refine k_iload_n (pc := 72) C rfl 0 rfl dL_areAlike_72 ?_
    refine k_iconst (pc := 73) C iconst_4 dL_areAlike_73 ?_
    refine k_icmp_ge (pc := 74) (tgt := 138) C dL_areAlike_74 (by decide) (fun _ => ?_) (fun z9 => absurd (by decide) z9)
    refine k_iload_n (pc := 138) C rfl 1 rfl dL_areAlike_138 ?_
    exact k_finUi (pc := 139) hret (⟨q1_, hq1_⟩, ⟨q2_, hq2_⟩) rfl rfl rfl (Nat.le_of_ble_eq_true rfl) (Nat.le_of_ble_eq_true rfl) dL_areAlike_139
  | succ d ih =>
    intro k q1_ q2_ hq1_ hq2_ hk
    have hlt : ¬ (4 : Int32) ≤ nI k := nI_ge (a := k) (b := 4) (by omega) (by decide)
    refine k_iload_n (pc := 72) C rfl 0 rfl dL_areAlike_72 ?_
    refine k_iconst (pc := 73) C iconst_4 dL_areAlike_73 ?_
    refine k_icmp_ge (pc := 74) (tgt := 138) C dL_areAlike_74 (by decide) (fun z9 => absurd z9 (hlt)) (fun _ => ?_)
    refine k_iload_n (pc := 77) C rfl 1 rfl dL_areAlike_77 ?_
    refine k_if_eq (pc := 78) (tgt := 130) C dL_areAlike_78 (by decide) (fun z9 => absurd z9 ((by decide : ¬ (1 : Int32) = 0))) (fun _ => ?_)
    refine k_aload_n (pc := 81) C rfl 2 rfl dL_areAlike_81 ?_
    refine k_iload_n (pc := 82) C rfl 0 rfl dL_areAlike_82 ?_
    refine k_iconst (pc := 83) C iconst_2 dL_areAlike_83 ?_
    refine k_pcall1 (pc := 84) (As := [.int (nI k), .int 2]) (rest := []) C hZ (pw_result l hl0 D cI cJ cO z V (nI k) 2 b u q1_ hq1_) cw_result q_849 rfl (Nat.le_of_ble_eq_true rfl) ⟨Nat.le_of_ble_eq_true rfl, Nat.le_of_ble_eq_true rfl⟩ rfl ⟨show _ ≤ 2600 by omega, show _ ≤ 33100 by omega⟩ dL_areAlike_84 (fun q68 hq68 => ?_)
    refine k_aload_n (pc := 87) C rfl 3 rfl dL_areAlike_87 ?_
    refine k_iload_n (pc := 88) C rfl 0 rfl dL_areAlike_88 ?_
    refine k_iconst (pc := 89) C iconst_2 dL_areAlike_89 ?_
    refine k_pcall2 (pc := 90) (As := [.int (nI k), .int 2]) (rest := [.int (rv_result V (nI k) 2)]) C hZ (pw_result l hl0 D cI cJ cO z V (nI k) 2 b2 u2 q2_ hq2_) cw_result q_849 rfl (Nat.le_of_ble_eq_true rfl) ⟨Nat.le_of_ble_eq_true rfl, Nat.le_of_ble_eq_true rfl⟩ rfl ⟨show _ ≤ 2600 by omega, show _ ≤ 33100 by omega⟩ dL_areAlike_90 (fun q69 hq69 => ?_)
    refine k_icmp_ne (pc := 93) (tgt := 130) C dL_areAlike_93 (by decide) (fun z9 => absurd (rfl) z9) (fun _ => ?_)
    refine k_aload_n (pc := 96) C rfl 2 rfl dL_areAlike_96 ?_
    refine k_iload_n (pc := 97) C rfl 0 rfl dL_areAlike_97 ?_
    refine k_iconst (pc := 98) C iconst_0 dL_areAlike_98 ?_
    refine k_pcall1 (pc := 99) (As := [.int (nI k), .int 0]) (rest := []) C hZ (pw_audit l hl0 D cI cJ cO z V (nI k) 0 b u q68 hq68) cw_audit q_921 rfl (Nat.le_of_ble_eq_true rfl) ⟨Nat.le_of_ble_eq_true rfl, Nat.le_of_ble_eq_true rfl⟩ rfl ⟨show _ ≤ 2600 by omega, show _ ≤ 33100 by omega⟩ dL_areAlike_99 (fun q70 hq70 => ?_)
    refine k_aload_n (pc := 102) C rfl 3 rfl dL_areAlike_102 ?_
    refine k_iload_n (pc := 103) C rfl 0 rfl dL_areAlike_103 ?_
    refine k_iconst (pc := 104) C iconst_0 dL_areAlike_104 ?_
    refine k_pcall2 (pc := 105) (As := [.int (nI k), .int 0]) (rest := [.int (rv_audit V (nI k) 0)]) C hZ (pw_audit l hl0 D cI cJ cO z V (nI k) 0 b2 u2 q69 hq69) cw_audit q_921 rfl (Nat.le_of_ble_eq_true rfl) ⟨Nat.le_of_ble_eq_true rfl, Nat.le_of_ble_eq_true rfl⟩ rfl ⟨show _ ≤ 2600 by omega, show _ ≤ 33100 by omega⟩ dL_areAlike_105 (fun q71 hq71 => ?_)
    refine k_icmp_ne (pc := 108) (tgt := 130) C dL_areAlike_108 (by decide) (fun z9 => absurd (rfl) z9) (fun _ => ?_)
    refine k_aload_n (pc := 111) C rfl 2 rfl dL_areAlike_111 ?_
    refine k_iload_n (pc := 112) C rfl 0 rfl dL_areAlike_112 ?_
    refine k_iconst (pc := 113) C iconst_2 dL_areAlike_113 ?_
    refine k_pcall1 (pc := 114) (As := [.int (nI k), .int 2]) (rest := []) C hZ (pw_audit l hl0 D cI cJ cO z V (nI k) 2 b u q70 hq70) cw_audit q_921 rfl (Nat.le_of_ble_eq_true rfl) ⟨Nat.le_of_ble_eq_true rfl, Nat.le_of_ble_eq_true rfl⟩ rfl ⟨show _ ≤ 2600 by omega, show _ ≤ 33100 by omega⟩ dL_areAlike_114 (fun q72 hq72 => ?_)
    refine k_aload_n (pc := 117) C rfl 3 rfl dL_areAlike_117 ?_
    refine k_iload_n (pc := 118) C rfl 0 rfl dL_areAlike_118 ?_
    refine k_iconst (pc := 119) C iconst_2 dL_areAlike_119 ?_
    refine k_pcall2 (pc := 120) (As := [.int (nI k), .int 2]) (rest := [.int (rv_audit V (nI k) 2)]) C hZ (pw_audit l hl0 D cI cJ cO z V (nI k) 2 b2 u2 q71 hq71) cw_audit q_921 rfl (Nat.le_of_ble_eq_true rfl) ⟨Nat.le_of_ble_eq_true rfl, Nat.le_of_ble_eq_true rfl⟩ rfl ⟨show _ ≤ 2600 by omega, show _ ≤ 33100 by omega⟩ dL_areAlike_120 (fun q73 hq73 => ?_)
    refine k_icmp_ne (pc := 123) (tgt := 130) C dL_areAlike_123 (by decide) (fun z9 => absurd (rfl) z9) (fun _ => ?_)
    refine k_iconst (pc := 126) C iconst_1 dL_areAlike_126 ?_
    refine k_goto (pc := 127) (tgt := 131) C (by decide) dL_areAlike_127 ?_
    refine k_istore_n (pc := 131) (lv2 := [(2, .int 1), (3, .int (nI k)), (0, .ref b), (1, .ref b2)]) C rfl (by decide) rfl dL_areAlike_131 ?_
    refine k_iinc (pc := 132) (v := nI (k + 1)) (lv2 := [(3, .int (nI (k + 1))), (2, .int 1), (0, .ref b), (1, .ref b2)]) C 1 rfl (by rw [show Int32.ofInt 1 = 1 from by decide]; exact (nI_succ k).symm) (by decide) rfl dL_areAlike_132 ?_
    refine k_goto (pc := 135) (tgt := 72) C (by decide) dL_areAlike_135 ?_
    exact k_widen (show _ ≤ 1500 + 156 * (k + 1) by omega) (show _ ≤ 19000 + 1986 * (k + 1) by omega) (ih (k + 1) q72 q73 hq72 hq73 (by omega))
set_option maxRecDepth 100000 in
theorem aa_35 (l : Launch) (hl0 : l.stackTraces = false) (D : va_G) (cI cJ cO : ClassId) (z : zT) {V : pV} {b b2 : Nat} {u u2 : Nat → Nat} {Q : State → Prop} {A : Nat → Prop} {p : Program} {e : Env} {s : State} {m : MethodId} {args : Array Value} {below : List Frame} {meth : Method} {c : Code} (C : KC p s m args meth c cL_areAlike 4 RL (some .boolean) D (kT cI cJ cO) A) (hZ : kZ z A s s.heap) (hret : ∀ (w : pSt V × pSt V) (lv2 : List (Nat × Value)) (pc k n : Nat), k ≤ 2600 → n ≤ 33100 → decode cL_areAlike pc = .ok (.ireturn, 1) → narrow .boolean (.int 1) = .int 1 → KJ p l e (kRc 9 200 2600 33100) s m args below meth c k n Q D A 4 (pW cI cO b u w.1.1 ++ pW cI cO b2 u2 w.2.1) lv2 [.int 1] pc) : ∀ (d k : Nat) (q1_ q2_ : kXS × kTS) (hq1_ : pvis q1_.1 q1_.2 = V) (hq2_ : pvis q2_.1 q2_.2 = V), k + d = 25 → KJ p l e (kRc 9 200 2600 33100) s m args below meth c (60 + 52 * k) (700 + 662 * k) Q D A 4 (pW cI cO b u q1_ ++ pW cI cO b2 u2 q2_) [(3, .int (nI k)), (2, .int 1), (0, .ref b), (1, .ref b2)] [] 35 := by
  intro d
  induction d with
  | zero =>
    intro k q1_ q2_ hq1_ hq2_ hk
    have hk : k = 25 := by omega
    subst hk
    refine k_iload_n (pc := 35) C rfl 0 rfl dL_areAlike_35 ?_
    refine k_bipush (pc := 36) C bipush_25 dL_areAlike_36 ?_
    refine k_icmp_ge (pc := 38) (tgt := 70) C dL_areAlike_38 (by decide) (fun _ => ?_) (fun z9 => absurd (by decide) z9)
    refine k_iconst (pc := 70) C iconst_0 dL_areAlike_70 ?_
    refine k_istore_n (pc := 71) (lv2 := [(3, .int 0), (2, .int 1), (0, .ref b), (1, .ref b2)]) C rfl (by decide) rfl dL_areAlike_71 ?_
    exact k_widen (show _ ≤ 1500 + 156 * 0 by omega) (show _ ≤ 19000 + 1986 * 0 by omega) (aa_72 l hl0 D cI cJ cO z C hZ hret 4 0 q1_ q2_ hq1_ hq2_ rfl)
  | succ d ih =>
    intro k q1_ q2_ hq1_ hq2_ hk
    have hlt : ¬ (25 : Int32) ≤ nI k := nI_ge (a := k) (b := 25) (by omega) (by decide)
    refine k_iload_n (pc := 35) C rfl 0 rfl dL_areAlike_35 ?_
    refine k_bipush (pc := 36) C bipush_25 dL_areAlike_36 ?_
    refine k_icmp_ge (pc := 38) (tgt := 70) C dL_areAlike_38 (by decide) (fun z9 => absurd z9 (hlt)) (fun _ => ?_)
    refine k_iload_n (pc := 41) C rfl 1 rfl dL_areAlike_41 ?_
    refine k_if_eq (pc := 42) (tgt := 62) C dL_areAlike_42 (by decide) (fun z9 => absurd z9 ((by decide : ¬ (1 : Int32) = 0))) (fun _ => ?_)
    refine k_aload_n (pc := 45) C rfl 2 rfl dL_areAlike_45 ?_
    refine k_iload_n (pc := 46) C rfl 0 rfl dL_areAlike_46 ?_
    refine k_pcall1 (pc := 47) (As := [.int (nI k)]) (rest := []) C hZ (pw_value l hl0 D cI cJ cO z V (nI k) b u q1_ hq1_) cw_value q_651 rfl (Nat.le_of_ble_eq_true rfl) ⟨Nat.le_of_ble_eq_true rfl, Nat.le_of_ble_eq_true rfl⟩ rfl ⟨show _ ≤ 2600 by omega, show _ ≤ 33100 by omega⟩ dL_areAlike_47 (fun q74 hq74 => ?_)
    refine k_aload_n (pc := 50) C rfl 3 rfl dL_areAlike_50 ?_
    refine k_iload_n (pc := 51) C rfl 0 rfl dL_areAlike_51 ?_
    refine k_pcall2 (pc := 52) (As := [.int (nI k)]) (rest := [.int (rv_value V (nI k))]) C hZ (pw_value l hl0 D cI cJ cO z V (nI k) b2 u2 q2_ hq2_) cw_value q_651 rfl (Nat.le_of_ble_eq_true rfl) ⟨Nat.le_of_ble_eq_true rfl, Nat.le_of_ble_eq_true rfl⟩ rfl ⟨show _ ≤ 2600 by omega, show _ ≤ 33100 by omega⟩ dL_areAlike_52 (fun q75 hq75 => ?_)
    refine k_icmp_ne (pc := 55) (tgt := 62) C dL_areAlike_55 (by decide) (fun z9 => absurd (rfl) z9) (fun _ => ?_)
    refine k_iconst (pc := 58) C iconst_1 dL_areAlike_58 ?_
    refine k_goto (pc := 59) (tgt := 63) C (by decide) dL_areAlike_59 ?_
    refine k_istore_n (pc := 63) (lv2 := [(2, .int 1), (3, .int (nI k)), (0, .ref b), (1, .ref b2)]) C rfl (by decide) rfl dL_areAlike_63 ?_
    refine k_iinc (pc := 64) (v := nI (k + 1)) (lv2 := [(3, .int (nI (k + 1))), (2, .int 1), (0, .ref b), (1, .ref b2)]) C 1 rfl (by rw [show Int32.ofInt 1 = 1 from by decide]; exact (nI_succ k).symm) (by decide) rfl dL_areAlike_64 ?_
    refine k_goto (pc := 67) (tgt := 35) C (by decide) dL_areAlike_67 ?_
    exact k_widen (show _ ≤ 60 + 52 * (k + 1) by omega) (show _ ≤ 700 + 662 * (k + 1) by omega) (ih (k + 1) q74 q75 hq74 hq75 (by omega))
set_option maxRecDepth 100000 in
theorem pm_areAlike (l : Launch) (hl0 : l.stackTraces = false) (D : va_G) (cI cJ cO : ClassId) (z : zT) (V : pV) (b b2 : Nat) (u u2 : Nat → Nat) (q1 q2 : kXS × kTS) (h1 : pvis q1.1 q1.2 = V) (h2 : pvis q2.1 q2.2 = V) : kUi l yL_areAlike cL_areAlike 4 .boolean 9 200 2600 33100 D (kT cI cJ cO) z [.ref b, .ref b2] (pW cI cO b u q1 ++ pW cI cO b2 u2 q2) 1 (fun w : pSt V × pSt V => pW cI cO b u w.1.1 ++ pW cI cO b2 u2 w.2.1) := by
  have e1 : q1.1.2.1 = V.2.1 := congrArg (fun V : pV => V.2.1) h1
  have e2 : q2.1.2.1 = V.2.1 := congrArg (fun V : pV => V.2.1) h2
  refine kUi_of (own := RL) (lv := [(0, .ref b), (1, .ref b2)]) rfl rfl (by decide) (Nat.le_of_ble_eq_true rfl) ?_
  intro p e s m args below meth c Q A C hZ hret
  refine k_aload_n (pc := 0) C rfl 0 rfl dL_areAlike_0 ?_
  refine k_audit (pc := 1) C q_917 (Nat.le_of_ble_eq_true rfl) ⟨Nat.le_of_ble_eq_true rfl, Nat.le_of_ble_eq_true rfl⟩ ⟨Nat.le_of_ble_eq_true rfl, Nat.le_of_ble_eq_true rfl⟩ dL_areAlike_1 ?_
  refine k_aload_n (pc := 4) C rfl 1 rfl dL_areAlike_4 ?_
  refine k_perm List.perm_append_comm ?_
  refine k_audit (pc := 5) C q_917 (Nat.le_of_ble_eq_true rfl) ⟨Nat.le_of_ble_eq_true rfl, Nat.le_of_ble_eq_true rfl⟩ ⟨Nat.le_of_ble_eq_true rfl, Nat.le_of_ble_eq_true rfl⟩ dL_areAlike_5 ?_
  refine k_perm List.perm_append_comm ?_
  refine k_lcmp_ne (pc := 8) (tgt := 31) C dL_areAlike_8 dL_areAlike_9 (by decide) (fun z9 => absurd (e1.trans e2.symm) z9) (fun _ => ?_)
  refine k_aload_n (pc := 12) C rfl 0 rfl dL_areAlike_12 ?_
  refine k_bipush (pc := 13) C bipush_9 dL_areAlike_13 ?_
  refine k_pcall1 (pc := 15) (As := [.int 9]) (rest := []) C hZ (pw_spread l hl0 D cI cJ cO z V 9 b u q1 h1) cw_spread q_873 rfl (Nat.le_of_ble_eq_true rfl) ⟨Nat.le_of_ble_eq_true rfl, Nat.le_of_ble_eq_true rfl⟩ rfl ⟨show _ ≤ 2600 by omega, show _ ≤ 33100 by omega⟩ dL_areAlike_15 (fun q76 hq76 => ?_)
  refine k_aload_n (pc := 18) C rfl 1 rfl dL_areAlike_18 ?_
  refine k_bipush (pc := 19) C bipush_9 dL_areAlike_19 ?_
  refine k_pcall2 (pc := 21) (As := [.int 9]) (rest := [.int (rv_spread V 9)]) C hZ (pw_spread l hl0 D cI cJ cO z V 9 b2 u2 q2 h2) cw_spread q_873 rfl (Nat.le_of_ble_eq_true rfl) ⟨Nat.le_of_ble_eq_true rfl, Nat.le_of_ble_eq_true rfl⟩ rfl ⟨show _ ≤ 2600 by omega, show _ ≤ 33100 by omega⟩ dL_areAlike_21 (fun q77 hq77 => ?_)
  refine k_icmp_ne (pc := 24) (tgt := 31) C dL_areAlike_24 (by decide) (fun z9 => absurd (rfl) z9) (fun _ => ?_)
  refine k_iconst (pc := 27) C iconst_1 dL_areAlike_27 ?_
  refine k_goto (pc := 28) (tgt := 32) C (by decide) dL_areAlike_28 ?_
  refine k_istore_n (pc := 32) (lv2 := [(2, .int 1), (0, .ref b), (1, .ref b2)]) C rfl (by decide) rfl dL_areAlike_32 ?_
  refine k_iconst (pc := 33) C iconst_0 dL_areAlike_33 ?_
  refine k_istore_n (pc := 34) (lv2 := [(3, .int 0), (2, .int 1), (0, .ref b), (1, .ref b2)]) C rfl (by decide) rfl dL_areAlike_34 ?_
  exact k_widen (Nat.le_of_ble_eq_true rfl) (Nat.le_of_ble_eq_true rfl) (aa_35 l hl0 D cI cJ cO z C hZ hret 25 0 q76 q77 hq76 hq77 rfl)
theorem cws_areAlike : kCWs yL_areAlike cL_areAlike 4 (some .boolean) 2 := ⟨⟨q_916, q_15, by decide +kernel⟩, q_915⟩