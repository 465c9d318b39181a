theorem q_21 : Cond.selects RX11 yX11_goesOn yX11_goesOn ∈ lw_all := kq 21 (by decide +kernel) (by decide +kernel)
theorem q_27 : Cond.selects RX11 yX11_complete yX11_complete ∈ lw_all := kq 27 (by decide +kernel) (by decide +kernel)
theorem q_28 : Cond.selects RX11 yX11_keepResult yX11_keepResult ∈ lw_all := kq 28 (by decide +kernel) (by decide +kernel)
theorem q_29 : Cond.selects RX11 yX11_begin yX11_begin ∈ lw_all := kq 29 (by decide +kernel) (by decide +kernel)
theorem q_30 : Cond.selects RX11 yX11_isWithin yX11_isWithin ∈ lw_all := kq 30 (by decide +kernel) (by decide +kernel)
theorem q_990 : Cond.constantLong RX11 34 (3) ∈ lw_all := kq 990 (by decide +kernel) (by decide +kernel)
theorem q_994 : Cond.constantLong RX11 42 (60) ∈ lw_all := kq 994 (by decide +kernel) (by decide +kernel)
theorem q_1113 : Cond.methodLink RX11 111 yX11_goesOn ∈ lw_all := kq 1113 (by decide +kernel) (by decide +kernel)
theorem q_1115 : Cond.instanceMethod yX11_goesOn ∈ lw_all := kq 1115 (by decide +kernel) (by decide +kernel)
theorem q_1116 : Cond.code yX11_goesOn cX11_goesOn 1 (some .boolean) ∈ lw_all := kq 1116 (by decide +kernel) (by decide +kernel)
theorem q_1147 : Cond.methodLink RX11 131 yX11_complete ∈ lw_all := kq 1147 (by decide +kernel) (by decide +kernel)
theorem q_1149 : Cond.instanceMethod yX11_complete ∈ lw_all := kq 1149 (by decide +kernel) (by decide +kernel)
theorem q_1150 : Cond.code yX11_complete cX11_complete 1 none ∈ lw_all := kq 1150 (by decide +kernel) (by decide +kernel)
theorem q_1151 : Cond.methodLink RX11 124 yX11_keepResult ∈ lw_all := kq 1151 (by decide +kernel) (by decide +kernel)
theorem q_1153 : Cond.instanceMethod yX11_keepResult ∈ lw_all := kq 1153 (by decide +kernel) (by decide +kernel)
theorem q_1154 : Cond.code yX11_keepResult cX11_keepResult 2 none ∈ lw_all := kq 1154 (by decide +kernel) (by decide +kernel)
theorem q_1156 : Cond.methodLink RX11 127 yX11_begin ∈ lw_all := kq 1156 (by decide +kernel) (by decide +kernel)
theorem q_1158 : Cond.instanceMethod yX11_begin ∈ lw_all := kq 1158 (by decide +kernel) (by decide +kernel)
theorem q_1159 : Cond.code yX11_begin cX11_begin 5 none ∈ lw_all := kq 1159 (by decide +kernel) (by decide +kernel)
theorem q_1160 : Cond.methodLink RX11 134 yX11_isWithin ∈ lw_all := kq 1160 (by decide +kernel) (by decide +kernel)
theorem q_1162 : Cond.instanceMethod yX11_isWithin ∈ lw_all := kq 1162 (by decide +kernel) (by decide +kernel)
theorem q_1163 : Cond.code yX11_isWithin cX11_isWithin 1 (some .boolean) ∈ lw_all := kq 1163 (by decide +kernel) (by decide +kernel)
theorem q_1164 : Cond.constantLong RX11 137 (4) ∈ lw_all := kq 1164 (by decide +kernel) (by decide +kernel)
theorem bipush_26 : (Int8.ofInt 26).toInt32 = 26 := by decide
theorem bipush_27 : (Int8.ofInt 27).toInt32 = 27 := by decide
theorem bipush_28 : (Int8.ofInt 28).toInt32 = 28 := by decide
theorem bipush_31 : (Int8.ofInt 31).toInt32 = 31 := by decide
theorem bipush_43 : (Int8.ofInt 43).toInt32 = 43 := by decide
theorem bipush_44 : (Int8.ofInt 44).toInt32 = 44 := by decide
theorem cl_11 : Int32.toNatClampNeg 11 = 11 := by decide
theorem cl_234 : Int32.toNatClampNeg 234 = 234 := by decide
theorem cl_235 : Int32.toNatClampNeg 235 = 235 := by decide
theorem cl_25 : Int32.toNatClampNeg 25 = 25 := by decide
theorem cl_26 : Int32.toNatClampNeg 26 = 26 := by decide
theorem cl_27 : Int32.toNatClampNeg 27 = 27 := by decide
theorem cl_28 : Int32.toNatClampNeg 28 = 28 := by decide
theorem cl_31 : Int32.toNatClampNeg 31 = 31 := by decide
theorem cl_43 : Int32.toNatClampNeg 43 = 43 := by decide
theorem cl_44 : Int32.toNatClampNeg 44 = 44 := by decide
theorem cl_48 : Int32.toNatClampNeg 48 = 48 := by decide
theorem sipush_234 : (Int16.ofInt 234).toInt32 = 234 := by decide
theorem cwv_X11_begin : kCWv yX11_begin cX11_begin 5 none 2 := ⟨⟨q_1159, q_53, by decide +kernel⟩, q_1158, q_29⟩
theorem cwv_X11_complete : kCWv yX11_complete cX11_complete 1 none 0 := ⟨⟨q_1150, q_53, by decide +kernel⟩, q_1149, q_27⟩
theorem cwv_X11_goesOn : kCWv yX11_goesOn cX11_goesOn 1 (some .boolean) 0 := ⟨⟨q_1116, q_53, by decide +kernel⟩, q_1115, q_21⟩
theorem cwv_X11_isWithin : kCWv yX11_isWithin cX11_isWithin 1 (some .boolean) 0 := ⟨⟨q_1163, q_53, by decide +kernel⟩, q_1162, q_30⟩
theorem cwv_X11_keepResult : kCWv yX11_keepResult cX11_keepResult 2 none 0 := ⟨⟨q_1154, q_53, by decide +kernel⟩, q_1153, q_28⟩
theorem dX11_movePoints_0 : decode cX11_movePoints 0 = .ok (.aload_n 0, 1) := by decide +kernel
theorem dX11_movePoints_1 : decode cX11_movePoints 1 = .ok (.invokevirtual 111, 3) := by decide +kernel
theorem dX11_movePoints_4 : decode cX11_movePoints 4 = .ok (.ifCond .ne 4, 3) := by decide +kernel
theorem dX11_movePoints_7 : decode cX11_movePoints 7 = .ok (.return_, 1) := by decide +kernel
theorem dX11_movePoints_8 : decode cX11_movePoints 8 = .ok (.aload_n 0, 1) := by decide +kernel
theorem dX11_movePoints_9 : decode cX11_movePoints 9 = .ok (.getfield 7, 3) := by decide +kernel
theorem dX11_movePoints_12 : decode cX11_movePoints 12 = .ok (.bipush 33, 2) := by decide +kernel
theorem dX11_movePoints_14 : decode cX11_movePoints 14 = .ok (.laload, 1) := by decide +kernel
theorem dX11_movePoints_15 : decode cX11_movePoints 15 = .ok (.lconst 1, 1) := by decide +kernel
theorem dX11_movePoints_16 : decode cX11_movePoints 16 = .ok (.lcmp, 1) := by decide +kernel
theorem dX11_movePoints_17 : decode cX11_movePoints 17 = .ok (.ifCond .ne 7, 3) := by decide +kernel
theorem dX11_movePoints_20 : decode cX11_movePoints 20 = .ok (.iconst 1, 1) := by decide +kernel
theorem dX11_movePoints_21 : decode cX11_movePoints 21 = .ok (.goto 4, 3) := by decide +kernel
theorem dX11_movePoints_24 : decode cX11_movePoints 24 = .ok (.iconst 0, 1) := by decide +kernel
theorem dX11_movePoints_25 : decode cX11_movePoints 25 = .ok (.istore_n 1, 1) := by decide +kernel
theorem dX11_movePoints_26 : decode cX11_movePoints 26 = .ok (.aload_n 0, 1) := by decide +kernel
theorem dX11_movePoints_27 : decode cX11_movePoints 27 = .ok (.getfield 7, 3) := by decide +kernel
theorem dX11_movePoints_30 : decode cX11_movePoints 30 = .ok (.bipush 39, 2) := by decide +kernel
theorem dX11_movePoints_32 : decode cX11_movePoints 32 = .ok (.dup2, 1) := by decide +kernel
theorem dX11_movePoints_33 : decode cX11_movePoints 33 = .ok (.laload, 1) := by decide +kernel
theorem dX11_movePoints_34 : decode cX11_movePoints 34 = .ok (.iload_n 1, 1) := by decide +kernel
theorem dX11_movePoints_35 : decode cX11_movePoints 35 = .ok (.ifCond .eq 7, 3) := by decide +kernel
theorem dX11_movePoints_38 : decode cX11_movePoints 38 = .ok (.lconst 1, 1) := by decide +kernel
theorem dX11_movePoints_39 : decode cX11_movePoints 39 = .ok (.goto 4, 3) := by decide +kernel
theorem dX11_movePoints_42 : decode cX11_movePoints 42 = .ok (.lconst 0, 1) := by decide +kernel
theorem dX11_movePoints_43 : decode cX11_movePoints 43 = .ok (.ladd, 1) := by decide +kernel
theorem dX11_movePoints_44 : decode cX11_movePoints 44 = .ok (.lastore, 1) := by decide +kernel
theorem dX11_movePoints_45 : decode cX11_movePoints 45 = .ok (.iconst 0, 1) := by decide +kernel
theorem dX11_movePoints_46 : decode cX11_movePoints 46 = .ok (.istore_n 2, 1) := by decide +kernel
theorem dX11_movePoints_47 : decode cX11_movePoints 47 = .ok (.iload_n 2, 1) := by decide +kernel
theorem dX11_movePoints_48 : decode cX11_movePoints 48 = .ok (.iconst 2, 1) := by decide +kernel
theorem dX11_movePoints_49 : decode cX11_movePoints 49 = .ok (.if_icmp .ge 69, 3) := by decide +kernel
theorem dX11_movePoints_52 : decode cX11_movePoints 52 = .ok (.aload_n 0, 1) := by decide +kernel
theorem dX11_movePoints_53 : decode cX11_movePoints 53 = .ok (.getfield 7, 3) := by decide +kernel
theorem dX11_movePoints_56 : decode cX11_movePoints 56 = .ok (.bipush 14, 2) := by decide +kernel
theorem dX11_movePoints_58 : decode cX11_movePoints 58 = .ok (.iload_n 2, 1) := by decide +kernel
theorem dX11_movePoints_59 : decode cX11_movePoints 59 = .ok (.iadd, 1) := by decide +kernel
theorem dX11_movePoints_60 : decode cX11_movePoints 60 = .ok (.iload_n 1, 1) := by decide +kernel
theorem dX11_movePoints_61 : decode cX11_movePoints 61 = .ok (.ifCond .eq 45, 3) := by decide +kernel
theorem dX11_movePoints_64 : decode cX11_movePoints 64 = .ok (.aload_n 0, 1) := by decide +kernel
theorem dX11_movePoints_65 : decode cX11_movePoints 65 = .ok (.getfield 7, 3) := by decide +kernel
theorem dX11_movePoints_68 : decode cX11_movePoints 68 = .ok (.bipush 37, 2) := by decide +kernel
theorem dX11_movePoints_70 : decode cX11_movePoints 70 = .ok (.iload_n 2, 1) := by decide +kernel
theorem dX11_movePoints_71 : decode cX11_movePoints 71 = .ok (.iadd, 1) := by decide +kernel
theorem dX11_movePoints_72 : decode cX11_movePoints 72 = .ok (.laload, 1) := by decide +kernel
theorem dX11_movePoints_73 : decode cX11_movePoints 73 = .ok (.aload_n 0, 1) := by decide +kernel
theorem dX11_movePoints_74 : decode cX11_movePoints 74 = .ok (.iload_n 2, 1) := by decide +kernel
theorem dX11_movePoints_75 : decode cX11_movePoints 75 = .ok (.invokevirtual 114, 3) := by decide +kernel
theorem dX11_movePoints_78 : decode cX11_movePoints 78 = .ok (.aload_n 0, 1) := by decide +kernel
theorem dX11_movePoints_79 : decode cX11_movePoints 79 = .ok (.getfield 7, 3) := by decide +kernel
theorem dX11_movePoints_82 : decode cX11_movePoints 82 = .ok (.bipush 37, 2) := by decide +kernel
theorem dX11_movePoints_84 : decode cX11_movePoints 84 = .ok (.iload_n 2, 1) := by decide +kernel
theorem dX11_movePoints_85 : decode cX11_movePoints 85 = .ok (.iadd, 1) := by decide +kernel
theorem dX11_movePoints_86 : decode cX11_movePoints 86 = .ok (.laload, 1) := by decide +kernel
theorem dX11_movePoints_87 : decode cX11_movePoints 87 = .ok (.lsub, 1) := by decide +kernel
theorem dX11_movePoints_88 : decode cX11_movePoints 88 = .ok (.aload_n 0, 1) := by decide +kernel
theorem dX11_movePoints_89 : decode cX11_movePoints 89 = .ok (.getfield 7, 3) := by decide +kernel
theorem dX11_movePoints_92 : decode cX11_movePoints 92 = .ok (.bipush 39, 2) := by decide +kernel
theorem dX11_movePoints_94 : decode cX11_movePoints 94 = .ok (.laload, 1) := by decide +kernel
theorem dX11_movePoints_95 : decode cX11_movePoints 95 = .ok (.lmul, 1) := by decide +kernel
theorem dX11_movePoints_96 : decode cX11_movePoints 96 = .ok (.aload_n 0, 1) := by decide +kernel
theorem dX11_movePoints_97 : decode cX11_movePoints 97 = .ok (.iconst 2, 1) := by decide +kernel
theorem dX11_movePoints_98 : decode cX11_movePoints 98 = .ok (.invokevirtual 114, 3) := by decide +kernel
theorem dX11_movePoints_101 : decode cX11_movePoints 101 = .ok (.ldiv, 1) := by decide +kernel
theorem dX11_movePoints_102 : decode cX11_movePoints 102 = .ok (.ladd, 1) := by decide +kernel
theorem dX11_movePoints_103 : decode cX11_movePoints 103 = .ok (.goto 8, 3) := by decide +kernel
theorem dX11_movePoints_106 : decode cX11_movePoints 106 = .ok (.aload_n 0, 1) := by decide +kernel
theorem dX11_movePoints_107 : decode cX11_movePoints 107 = .ok (.iload_n 2, 1) := by decide +kernel
theorem dX11_movePoints_108 : decode cX11_movePoints 108 = .ok (.invokevirtual 114, 3) := by decide +kernel
theorem dX11_movePoints_111 : decode cX11_movePoints 111 = .ok (.lastore, 1) := by decide +kernel
theorem dX11_movePoints_112 : decode cX11_movePoints 112 = .ok (.iinc 2 1, 3) := by decide +kernel
theorem dX11_movePoints_115 : decode cX11_movePoints 115 = .ok (.goto (-68), 3) := by decide +kernel
theorem dX11_movePoints_118 : decode cX11_movePoints 118 = .ok (.return_, 1) := by decide +kernel
def j_X11_movePoints_1 (x_3 : Int32) (f_t : Nat → Int32) (f_t_w : Nat → Int64) (x_5 : Int64) : Int64 :=
  (if x_3 = 0 then (s_X11_of_p0_0 f_t (vp_updL f_t_w 39 ((f_t_w 39) + x_5))) else ((f_t_w 37) + ((((s_X11_of_p0_0 f_t (vp_updL f_t_w 39 ((f_t_w 39) + x_5))) - (f_t_w 37)) * ((f_t_w 39) + x_5)) / (s_X11_of_p0_2 f_t (vp_updL f_t_w 39 ((f_t_w 39) + x_5))))))
def j_X11_movePoints_2 (u_9 : Int64) : Int64 :=
  u_9
def j_X11_movePoints_3 (f_t_w : Nat → Int64) (u_10 : Int64) (x_5 : Int64) (u_11 : Int64) : Int64 :=
  ((f_t_w 38) + (((u_10 - (f_t_w 38)) * ((f_t_w 39) + x_5)) / u_11))
def j_X11_movePoints_4 (f_t_w : Nat → Int64) (x_5 : Int64) (f_t : Nat → Int32) (x_7 : Int64) (u_10 : Int64) : Int64 :=
  (j_X11_movePoints_3 f_t_w u_10 x_5 (s_X11_of_p0_2 f_t (vp_updL (vp_updL f_t_w 39 ((f_t_w 39) + x_5)) 14 x_7)))
def j_X11_movePoints_5 (x_3 : Int32) (f_t : Nat → Int32) (f_t_w : Nat → Int64) (x_5 : Int64) (x_7 : Int64) : Int64 :=
  (if x_3 = 0 then (j_X11_movePoints_2 (s_X11_of_p0_1 f_t (vp_updL (vp_updL f_t_w 39 ((f_t_w 39) + x_5)) 14 x_7))) else (j_X11_movePoints_4 f_t_w x_5 f_t x_7 (s_X11_of_p0_1 f_t (vp_updL (vp_updL f_t_w 39 ((f_t_w 39) + x_5)) 14 x_7))))
def s_X11_movePoints_6 (f_t_w : Nat → Int64) (x_5 : Int64) (x_7 : Int64) (x_12 : Int64) : (Nat → Int64) :=
  (vp_updL (vp_updL (vp_updL f_t_w 39 ((f_t_w 39) + x_5)) 14 x_7) 15 x_12)
def s_X11_movePoints_7 (f_t_w : Nat → Int64) (x_5 : Int64) (x_3 : Int32) (f_t : Nat → Int32) (x_7 : Int64) : (Nat → Int64) :=
  (s_X11_movePoints_6 f_t_w x_5 x_7 (j_X11_movePoints_5 x_3 f_t f_t_w x_5 x_7))
def s_X11_movePoints_8 (f_t_w : Nat → Int64) (x_3 : Int32) (f_t : Nat → Int32) (x_5 : Int64) : (Nat → Int64) :=
  (s_X11_movePoints_7 f_t_w x_5 x_3 f_t (j_X11_movePoints_1 x_3 f_t f_t_w x_5))
def s_X11_movePoints_9 (f_t_w : Nat → Int64) (f_t : Nat → Int32) (x_3 : Int32) : (Nat → Int64) :=
  (s_X11_movePoints_8 f_t_w x_3 f_t (if x_3 = 0 then 0 else 1))
def s_X11_movePoints (f_t : Nat → Int32) (f_t_w : Nat → Int64) : (Nat → Int64) :=
  (if (s_X11_goesOn f_t f_t_w) = 0 then f_t_w else (s_X11_movePoints_9 f_t_w f_t (if (f_t_w 33) = 1 then 1 else 0)))
set_option maxRecDepth 100000 in
set_option maxHeartbeats 4000000 in
theorem c_X11_movePoints (l : Launch) (D : va_G) (cI cJ cO : ClassId) (h_t : Nat) (h_t_w : Nat) (h_t_saved : Nat) (h_t_trial : Nat) (h_t_text : Nat) (h_t_told : Nat) (f_t : Nat → Int32) (f_t_w : Nat → Int64) (hf_t_w_35 : kInL (f_t_w 35) 0 11) (hz : f_t_w 33 = 1 → ¬ s_X11_of_p0_2 f_t f_t_w = 0) : kV l yX11_movePoints cX11_movePoints 3 2 40 D (kT cI cJ cO) [.ref h_t] [(h_t, moE f_t h_t_w h_t_saved h_t_trial h_t_text h_t_told), (h_t_w, jA cJ 294 f_t_w)] [(h_t, moE f_t h_t_w h_t_saved h_t_trial h_t_text h_t_told), (h_t_w, jA cJ 294 (s_X11_movePoints f_t f_t_w))] := by
  refine kV_of (own := RX11) (lv := [(0, .ref h_t)]) rfl rfl (by decide) (Nat.le_of_ble_eq_true rfl) ?_
  intro p e s m args below meth c Q A C hret
  refine k_aload_n (pc := 0) C rfl 0 rfl dX11_movePoints_0 ?_
  refine k_callVi (pc := 1) (As := []) (rest := []) (r := (s_X11_goesOn f_t f_t_w)) (wc := [(h_t, moE f_t h_t_w h_t_saved h_t_trial h_t_text h_t_told), (h_t_w, jA cJ 294 f_t_w)]) (wc2 := [(h_t, moE f_t h_t_w h_t_saved h_t_trial h_t_text h_t_told), (h_t_w, jA cJ 294 f_t_w)]) (ws2 := [(h_t, moE f_t h_t_w h_t_saved h_t_trial h_t_text h_t_told), (h_t_w, jA cJ 294 f_t_w)]) C (c_X11_goesOn l D cI cJ cO h_t h_t_w h_t_saved h_t_trial h_t_text h_t_told f_t f_t_w) cwv_X11_goesOn q_1113 vX11 0 rfl [0, 1] rfl rfl (by decide) rfl rfl (Nat.le_of_ble_eq_true rfl) ⟨Nat.le_of_ble_eq_true rfl, Nat.le_of_ble_eq_true rfl⟩ rfl ⟨Nat.le_refl _, Nat.le_refl _⟩ dX11_movePoints_1 ?_
  refine k_if_ne (pc := 4) (tgt := 8) C dX11_movePoints_4 (by decide) (fun c_1 => ?_) (fun c_1 => ?_)
  · refine k_aload_n (pc := 8) C rfl 0 rfl dX11_movePoints_8 ?_
    refine g_X11_0 (pc := 9) C q_998 0 rfl dX11_movePoints_9 ?_
    refine k_bipush (pc := 12) C bipush_33 dX11_movePoints_12 ?_
    refine k_laldK (pc := 14) (v := (f_t_w 33)) C 1 1 rfl rfl (k_vinc 33 cl_33 (by decide) (by decide)) cl_33 rfl dX11_movePoints_14 ?_
    refine k_lconst (pc := 15) C lconst_1 dX11_movePoints_15 ?_
    have K_13 : ∀ (x_3 : Int32), x_3 = (if (f_t_w 33) = 1 then 1 else 0) → KJ p l e (kR 2 40) s m args below meth c 0 0 Q D A 3 [(h_t, moE f_t h_t_w h_t_saved h_t_trial h_t_text h_t_told), (h_t_w, jA cJ 294 f_t_w)] [(0, .ref h_t)] [.int x_3] 25 := by
      intro x_3 ex_3
      refine k_istore_n (pc := 25) (lv2 := [(1, .int x_3), (0, .ref h_t)]) C rfl (by decide) rfl dX11_movePoints_25 ?_
      refine k_aload_n (pc := 26) C rfl 1 rfl dX11_movePoints_26 ?_
      refine g_X11_0 (pc := 27) C q_998 0 rfl dX11_movePoints_27 ?_
      refine k_bipush (pc := 30) C bipush_39 dX11_movePoints_30 ?_
      refine k_dup2 (pc := 32) C rfl rfl dX11_movePoints_32 ?_
      refine k_laldK (pc := 33) (v := (f_t_w 39)) C 1 1 rfl rfl (k_vinc 39 cl_39 (by decide) (by decide)) cl_39 rfl dX11_movePoints_33 ?_
      refine k_iload_n (pc := 34) C rfl 0 rfl dX11_movePoints_34 ?_
      have K_14 : ∀ (x_5 : Int64), x_5 = (if x_3 = 0 then 0 else 1) → KJ p l e (kR 2 40) s m args below meth c 0 0 Q D A 3 [(h_t, moE f_t h_t_w h_t_saved h_t_trial h_t_text h_t_told), (h_t_w, jA cJ 294 f_t_w)] [(1, .int x_3), (0, .ref h_t)] [.long x_5, .long (f_t_w 39), .int 39, .ref h_t_w] 43 := by
        intro x_5 ex_5
        refine k_ladd (pc := 43) C dX11_movePoints_43 ?_
        refine k_lastK (pc := 44) (ws2 := [(h_t, moE f_t h_t_w h_t_saved h_t_trial h_t_text h_t_told), (h_t_w, jA cJ 294 (vp_updL f_t_w 39 ((f_t_w 39) + x_5)))]) C 1 1 rfl rfl (k_vinc 39 cl_39 (by decide) (by decide)) cl_39 rfl dX11_movePoints_44 ?_
        refine k_iconst (pc := 45) C iconst_0 dX11_movePoints_45 ?_
        refine k_istore_n (pc := 46) (lv2 := [(2, .int 0), (1, .int x_3), (0, .ref h_t)]) C rfl (by decide) rfl dX11_movePoints_46 ?_
        refine k_iload_n (pc := 47) C rfl 0 rfl dX11_movePoints_47 ?_
        refine k_iconst (pc := 48) C iconst_2 dX11_movePoints_48 ?_
        refine k_icmp_ge (pc := 49) (tgt := 118) C dX11_movePoints_49 (by decide) (fun z => absurd z (by decide)) (fun _ => ?_)
        refine k_aload_n (pc := 52) C rfl 2 rfl dX11_movePoints_52 ?_
        refine g_X11_0 (pc := 53) C q_998 0 rfl dX11_movePoints_53 ?_
        refine k_bipush (pc := 56) C bipush_14 dX11_movePoints_56 ?_
        refine k_iload_n (pc := 58) C rfl 0 rfl dX11_movePoints_58 ?_
        refine k_iadd (pc := 59) C dX11_movePoints_59 ?_
        refine k_topI (pc := 60) (v := 14) (by decide) ?_
        refine k_iload_n (pc := 60) C rfl 1 rfl dX11_movePoints_60 ?_
        have K_15 : ∀ (x_7 : Int64), x_7 = (j_X11_movePoints_1 x_3 f_t f_t_w x_5) → KJ p l e (kR 2 40) s m args below meth c 0 0 Q D A 3 [(h_t, moE f_t h_t_w h_t_saved h_t_trial h_t_text h_t_told), (h_t_w, jA cJ 294 (vp_updL f_t_w 39 ((f_t_w 39) + x_5)))] [(2, .int 0), (1, .int x_3), (0, .ref h_t)] [.long x_7, .int 14, .ref h_t_w] 111 := by
          intro x_7 ex_7
          refine k_lastK (pc := 111) (ws2 := [(h_t, moE f_t h_t_w h_t_saved h_t_trial h_t_text h_t_told), (h_t_w, jA cJ 294 (vp_updL (vp_updL f_t_w 39 ((f_t_w 39) + x_5)) 14 x_7))]) C 1 1 rfl rfl (k_vinc 14 cl_14 (by decide) (by decide)) cl_14 rfl dX11_movePoints_111 ?_
          refine k_iinc (pc := 112) (v := 1) (lv2 := [(2, .int 1), (1, .int x_3), (0, .ref h_t)]) C 0 rfl (by decide) (by decide) rfl dX11_movePoints_112 ?_
          refine k_goto (pc := 115) (tgt := 47) C (by decide) dX11_movePoints_115 ?_
          refine k_iload_n (pc := 47) C rfl 0 rfl dX11_movePoints_47 ?_
          refine k_iconst (pc := 48) C iconst_2 dX11_movePoints_48 ?_
          refine k_icmp_ge (pc := 49) (tgt := 118) C dX11_movePoints_49 (by decide) (fun z => absurd z (by decide)) (fun _ => ?_)
          refine k_aload_n (pc := 52) C rfl 2 rfl dX11_movePoints_52 ?_
          refine g_X11_0 (pc := 53) C q_998 0 rfl dX11_movePoints_53 ?_
          refine k_bipush (pc := 56) C bipush_14 dX11_movePoints_56 ?_
          refine k_iload_n (pc := 58) C rfl 0 rfl dX11_movePoints_58 ?_
          refine k_iadd (pc := 59) C dX11_movePoints_59 ?_
          refine k_topI (pc := 60) (v := 15) (by decide) ?_
          refine k_iload_n (pc := 60) C rfl 1 rfl dX11_movePoints_60 ?_
          have K_16 : ∀ (x_12 : Int64), x_12 = (j_X11_movePoints_5 x_3 f_t f_t_w x_5 x_7) → KJ p l e (kR 2 40) s m args below meth c 0 0 Q D A 3 [(h_t, moE f_t h_t_w h_t_saved h_t_trial h_t_text h_t_told), (h_t_w, jA cJ 294 (vp_updL (vp_updL f_t_w 39 ((f_t_w 39) + x_5)) 14 x_7))] [(2, .int 1), (1, .int x_3), (0, .ref h_t)] [.long x_12, .int 15, .ref h_t_w] 111 := by
            intro x_12 ex_12
            refine k_lastK (pc := 111) (ws2 := [(h_t, moE f_t h_t_w h_t_saved h_t_trial h_t_text h_t_told), (h_t_w, jA cJ 294 (vp_updL (vp_updL (vp_updL f_t_w 39 ((f_t_w 39) + x_5)) 14 x_7) 15 x_12))]) C 1 1 rfl rfl (k_vinc 15 cl_15 (by decide) (by decide)) cl_15 rfl dX11_movePoints_111 ?_
            refine k_iinc (pc := 112) (v := 2) (lv2 := [(2, .int 2), (1, .int x_3), (0, .ref h_t)]) C 0 rfl (by decide) (by decide) rfl dX11_movePoints_112 ?_
            refine k_goto (pc := 115) (tgt := 47) C (by decide) dX11_movePoints_115 ?_
            refine k_iload_n (pc := 47) C rfl 0 rfl dX11_movePoints_47 ?_
            refine k_iconst (pc := 48) C iconst_2 dX11_movePoints_48 ?_
            refine k_icmp_ge (pc := 49) (tgt := 118) C dX11_movePoints_49 (by decide) (fun _ => ?_) (fun z => absurd z (by decide))
            have hs : (s_X11_movePoints f_t f_t_w) = (vp_updL (vp_updL (vp_updL f_t_w 39 ((f_t_w 39) + x_5)) 14 x_7) 15 x_12) := (k_st (g := s_X11_movePoints_9 f_t_w f_t) ex_3 (if_neg c_1) (k_st (g := s_X11_movePoints_8 f_t_w x_3 f_t) ex_5 rfl (k_st (g := s_X11_movePoints_7 f_t_w x_5 x_3 f_t) ex_7 rfl (k_st (g := s_X11_movePoints_6 f_t_w x_5 x_7) ex_12 rfl rfl))))
            exact k_finV (pc := 118) hret (by rw [hs]) dX11_movePoints_118
          refine k_if_eq (pc := 61) (tgt := 106) C dX11_movePoints_61 (by decide) (fun c_8 => ?_) (fun c_8 => ?_)
          · refine k_aload_n (pc := 106) C rfl 2 rfl dX11_movePoints_106 ?_
            refine k_iload_n (pc := 107) C rfl 0 rfl dX11_movePoints_107 ?_
            obtain ⟨u_9, eu_9⟩ : ∃ z : Int64, z = (s_X11_of_p0_1 f_t (vp_updL (vp_updL f_t_w 39 ((f_t_w 39) + x_5)) 14 x_7)) := ⟨_, rfl⟩
            refine k_callVl (pc := 108) (As := [.int 1]) (rest := [.int 15, .ref h_t_w]) (r := u_9) (wc := [(h_t, moE f_t h_t_w h_t_saved h_t_trial h_t_text h_t_told), (h_t_w, jA cJ 294 (vp_updL (vp_updL f_t_w 39 ((f_t_w 39) + x_5)) 14 x_7))]) (wc2 := [(h_t, moE f_t h_t_w h_t_saved h_t_trial h_t_text h_t_told), (h_t_w, jA cJ 294 (vp_updL (vp_updL f_t_w 39 ((f_t_w 39) + x_5)) 14 x_7))]) (ws2 := [(h_t, moE f_t h_t_w h_t_saved h_t_trial h_t_text h_t_told), (h_t_w, jA cJ 294 (vp_updL (vp_updL f_t_w 39 ((f_t_w 39) + x_5)) 14 x_7))]) C (by rw [eu_9]; exact c_X11_of_p0_1 l D cI cJ cO h_t h_t_w h_t_saved h_t_trial h_t_text h_t_told f_t (vp_updL (vp_updL f_t_w 39 ((f_t_w 39) + x_5)) 14 x_7) (kInL.rw (F := (vp_updL (vp_updL f_t_w 39 ((f_t_w 39) + x_5)) 14 x_7)) (k := 35) (upnL (by decide) (upnL (by decide) rfl)) hf_t_w_35 (by decide) (by decide))) cwv_X11_of q_1117 vX11 0 rfl [0, 1] rfl rfl (by decide) rfl rfl (Nat.le_of_ble_eq_true rfl) ⟨Nat.le_of_ble_eq_true rfl, Nat.le_of_ble_eq_true rfl⟩ rfl ⟨Nat.le_refl _, Nat.le_refl _⟩ dX11_movePoints_108 ?_
            exact K_16 u_9 (Eq.symm (k_st (g := j_X11_movePoints_2) eu_9 (if_pos c_8) rfl))
          · refine k_aload_n (pc := 64) C rfl 2 rfl dX11_movePoints_64 ?_
            refine g_X11_0 (pc := 65) C q_998 0 rfl dX11_movePoints_65 ?_
            refine k_bipush (pc := 68) C bipush_37 dX11_movePoints_68 ?_
            refine k_iload_n (pc := 70) C rfl 0 rfl dX11_movePoints_70 ?_
            refine k_iadd (pc := 71) C dX11_movePoints_71 ?_
            refine k_topI (pc := 72) (v := 38) (by decide) ?_
            refine k_laldK (pc := 72) (v := (f_t_w 38)) C 1 1 rfl rfl (k_vinc 38 cl_38 (by decide) (by decide)) cl_38 (upnL (by decide) (upnL (by decide) rfl)) dX11_movePoints_72 ?_
            refine k_aload_n (pc := 73) C rfl 2 rfl dX11_movePoints_73 ?_
            refine k_iload_n (pc := 74) C rfl 0 rfl dX11_movePoints_74 ?_
            obtain ⟨u_10, eu_10⟩ : ∃ z : Int64, z = (s_X11_of_p0_1 f_t (vp_updL (vp_updL f_t_w 39 ((f_t_w 39) + x_5)) 14 x_7)) := ⟨_, rfl⟩
            refine k_callVl (pc := 75) (As := [.int 1]) (rest := [.long (f_t_w 38), .int 15, .ref h_t_w]) (r := u_10) (wc := [(h_t, moE f_t h_t_w h_t_saved h_t_trial h_t_text h_t_told), (h_t_w, jA cJ 294 (vp_updL (vp_updL f_t_w 39 ((f_t_w 39) + x_5)) 14 x_7))]) (wc2 := [(h_t, moE f_t h_t_w h_t_saved h_t_trial h_t_text h_t_told), (h_t_w, jA cJ 294 (vp_updL (vp_updL f_t_w 39 ((f_t_w 39) + x_5)) 14 x_7))]) (ws2 := [(h_t, moE f_t h_t_w h_t_saved h_t_trial h_t_text h_t_told), (h_t_w, jA cJ 294 (vp_updL (vp_updL f_t_w 39 ((f_t_w 39) + x_5)) 14 x_7))]) C (by rw [eu_10]; exact c_X11_of_p0_1 l D cI cJ cO h_t h_t_w h_t_saved h_t_trial h_t_text h_t_told f_t (vp_updL (vp_updL f_t_w 39 ((f_t_w 39) + x_5)) 14 x_7) (kInL.rw (F := (vp_updL (vp_updL f_t_w 39 ((f_t_w 39) + x_5)) 14 x_7)) (k := 35) (upnL (by decide) (upnL (by decide) rfl)) hf_t_w_35 (by decide) (by decide))) cwv_X11_of q_1117 vX11 0 rfl [0, 1] rfl rfl (by decide) rfl rfl (Nat.le_of_ble_eq_true rfl) ⟨Nat.le_of_ble_eq_true rfl, Nat.le_of_ble_eq_true rfl⟩ rfl ⟨Nat.le_refl _, Nat.le_refl _⟩ dX11_movePoints_75 ?_
            refine k_aload_n (pc := 78) C rfl 2 rfl dX11_movePoints_78 ?_
            refine g_X11_0 (pc := 79) C q_998 0 rfl dX11_movePoints_79 ?_
            refine k_bipush (pc := 82) C bipush_37 dX11_movePoints_82 ?_
            refine k_iload_n (pc := 84) C rfl 0 rfl dX11_movePoints_84 ?_
            refine k_iadd (pc := 85) C dX11_movePoints_85 ?_
            refine k_topI (pc := 86) (v := 38) (by decide) ?_
            refine k_laldK (pc := 86) (v := (f_t_w 38)) C 1 1 rfl rfl (k_vinc 38 cl_38 (by decide) (by decide)) cl_38 (upnL (by decide) (upnL (by decide) rfl)) dX11_movePoints_86 ?_
            refine k_lsub (pc := 87) C dX11_movePoints_87 ?_
            refine k_aload_n (pc := 88) C rfl 2 rfl dX11_movePoints_88 ?_
            refine g_X11_0 (pc := 89) C q_998 0 rfl dX11_movePoints_89 ?_
            refine k_bipush (pc := 92) C bipush_39 dX11_movePoints_92 ?_
            refine k_laldK (pc := 94) (v := ((f_t_w 39) + x_5)) C 1 1 rfl rfl (k_vinc 39 cl_39 (by decide) (by decide)) cl_39 (upnL (by decide) upsL) dX11_movePoints_94 ?_
            refine k_lmul (pc := 95) C dX11_movePoints_95 ?_
            refine k_aload_n (pc := 96) C rfl 2 rfl dX11_movePoints_96 ?_
            refine k_iconst (pc := 97) C iconst_2 dX11_movePoints_97 ?_
            obtain ⟨u_11, eu_11⟩ : ∃ z : Int64, z = (s_X11_of_p0_2 f_t (vp_updL (vp_updL f_t_w 39 ((f_t_w 39) + x_5)) 14 x_7)) := ⟨_, rfl⟩
            refine k_callVl (pc := 98) (As := [.int 2]) (rest := [.long ((u_10 - (f_t_w 38)) * ((f_t_w 39) + x_5)), .long (f_t_w 38), .int 15, .ref h_t_w]) (r := u_11) (wc := [(h_t, moE f_t h_t_w h_t_saved h_t_trial h_t_text h_t_told), (h_t_w, jA cJ 294 (vp_updL (vp_updL f_t_w 39 ((f_t_w 39) + x_5)) 14 x_7))]) (wc2 := [(h_t, moE f_t h_t_w h_t_saved h_t_trial h_t_text h_t_told), (h_t_w, jA cJ 294 (vp_updL (vp_updL f_t_w 39 ((f_t_w 39) + x_5)) 14 x_7))]) (ws2 := [(h_t, moE f_t h_t_w h_t_saved h_t_trial h_t_text h_t_told), (h_t_w, jA cJ 294 (vp_updL (vp_updL f_t_w 39 ((f_t_w 39) + x_5)) 14 x_7))]) C (by rw [eu_11]; exact c_X11_of_p0_2 l D cI cJ cO h_t h_t_w h_t_saved h_t_trial h_t_text h_t_told f_t (vp_updL (vp_updL f_t_w 39 ((f_t_w 39) + x_5)) 14 x_7) (kInL.rw (F := (vp_updL (vp_updL f_t_w 39 ((f_t_w 39) + x_5)) 14 x_7)) (k := 35) (upnL (by decide) (upnL (by decide) rfl)) hf_t_w_35 (by decide) (by decide))) cwv_X11_of q_1117 vX11 0 rfl [0, 1] rfl rfl (by decide) rfl rfl (Nat.le_of_ble_eq_true rfl) ⟨Nat.le_of_ble_eq_true rfl, Nat.le_of_ble_eq_true rfl⟩ rfl ⟨Nat.le_refl _, Nat.le_refl _⟩ dX11_movePoints_98 ?_
            refine k_ldiv (pc := 101) C (by rw [eu_11, of2_fr (f := f_t) hf_t_w_35 (fun k hk => by rw [pk_uLn (by omega), pk_uLn (by omega)])]; exact hz (nz_mp ex_3 c_8)) dX11_movePoints_101 ?_
            refine k_ladd (pc := 102) C dX11_movePoints_102 ?_
            refine k_goto (pc := 103) (tgt := 111) C (by decide) dX11_movePoints_103 ?_
            exact K_16 ((f_t_w 38) + (((u_10 - (f_t_w 38)) * ((f_t_w 39) + x_5)) / u_11)) (Eq.symm (k_st (g := j_X11_movePoints_4 f_t_w x_5 f_t x_7) eu_10 (if_neg c_8) (k_st (g := j_X11_movePoints_3 f_t_w u_10 x_5) eu_11 rfl rfl)))
        refine k_if_eq (pc := 61) (tgt := 106) C dX11_movePoints_61 (by decide) (fun c_6 => ?_) (fun c_6 => ?_)
        · refine k_aload_n (pc := 106) C rfl 2 rfl dX11_movePoints_106 ?_
          refine k_iload_n (pc := 107) C rfl 0 rfl dX11_movePoints_107 ?_
          refine k_callVl (pc := 108) (As := [.int 0]) (rest := [.int 14, .ref h_t_w]) (r := (s_X11_of_p0_0 f_t (vp_updL f_t_w 39 ((f_t_w 39) + x_5)))) (wc := [(h_t, moE f_t h_t_w h_t_saved h_t_trial h_t_text h_t_told), (h_t_w, jA cJ 294 (vp_updL f_t_w 39 ((f_t_w 39) + x_5)))]) (wc2 := [(h_t, moE f_t h_t_w h_t_saved h_t_trial h_t_text h_t_told), (h_t_w, jA cJ 294 (vp_updL f_t_w 39 ((f_t_w 39) + x_5)))]) (ws2 := [(h_t, moE f_t h_t_w h_t_saved h_t_trial h_t_text h_t_told), (h_t_w, jA cJ 294 (vp_updL f_t_w 39 ((f_t_w 39) + x_5)))]) C (c_X11_of_p0_0 l D cI cJ cO h_t h_t_w h_t_saved h_t_trial h_t_text h_t_told f_t (vp_updL f_t_w 39 ((f_t_w 39) + x_5)) (kInL.rw (F := (vp_updL f_t_w 39 ((f_t_w 39) + x_5))) (k := 35) (upnL (by decide) rfl) hf_t_w_35 (by decide) (by decide))) cwv_X11_of q_1117 vX11 0 rfl [0, 1] rfl rfl (by decide) rfl rfl (Nat.le_of_ble_eq_true rfl) ⟨Nat.le_of_ble_eq_true rfl, Nat.le_of_ble_eq_true rfl⟩ rfl ⟨Nat.le_refl _, Nat.le_refl _⟩ dX11_movePoints_108 ?_
          exact K_15 (s_X11_of_p0_0 f_t (vp_updL f_t_w 39 ((f_t_w 39) + x_5))) (Eq.symm (if_pos c_6))
        · refine k_aload_n (pc := 64) C rfl 2 rfl dX11_movePoints_64 ?_
          refine g_X11_0 (pc := 65) C q_998 0 rfl dX11_movePoints_65 ?_
          refine k_bipush (pc := 68) C bipush_37 dX11_movePoints_68 ?_
          refine k_iload_n (pc := 70) C rfl 0 rfl dX11_movePoints_70 ?_
          refine k_iadd (pc := 71) C dX11_movePoints_71 ?_
          refine k_topI (pc := 72) (v := 37) (by decide) ?_
          refine k_laldK (pc := 72) (v := (f_t_w 37)) C 1 1 rfl rfl (k_vinc 37 cl_37 (by decide) (by decide)) cl_37 (upnL (by decide) rfl) dX11_movePoints_72 ?_
          refine k_aload_n (pc := 73) C rfl 2 rfl dX11_movePoints_73 ?_
          refine k_iload_n (pc := 74) C rfl 0 rfl dX11_movePoints_74 ?_
          refine k_callVl (pc := 75) (As := [.int 0]) (rest := [.long (f_t_w 37), .int 14, .ref h_t_w]) (r := (s_X11_of_p0_0 f_t (vp_updL f_t_w 39 ((f_t_w 39) + x_5)))) (wc := [(h_t, moE f_t h_t_w h_t_saved h_t_trial h_t_text h_t_told), (h_t_w, jA cJ 294 (vp_updL f_t_w 39 ((f_t_w 39) + x_5)))]) (wc2 := [(h_t, moE f_t h_t_w h_t_saved h_t_trial h_t_text h_t_told), (h_t_w, jA cJ 294 (vp_updL f_t_w 39 ((f_t_w 39) + x_5)))]) (ws2 := [(h_t, moE f_t h_t_w h_t_saved h_t_trial h_t_text h_t_told), (h_t_w, jA cJ 294 (vp_updL f_t_w 39 ((f_t_w 39) + x_5)))]) C (c_X11_of_p0_0 l D cI cJ cO h_t h_t_w h_t_saved h_t_trial h_t_text h_t_told f_t (vp_updL f_t_w 39 ((f_t_w 39) + x_5)) (kInL.rw (F := (vp_updL f_t_w 39 ((f_t_w 39) + x_5))) (k := 35) (upnL (by decide) rfl) hf_t_w_35 (by decide) (by decide))) cwv_X11_of q_1117 vX11 0 rfl [0, 1] rfl rfl (by decide) rfl rfl (Nat.le_of_ble_eq_true rfl) ⟨Nat.le_of_ble_eq_true rfl, Nat.le_of_ble_eq_true rfl⟩ rfl ⟨Nat.le_refl _, Nat.le_refl _⟩ dX11_movePoints_75 ?_
          refine k_aload_n (pc := 78) C rfl 2 rfl dX11_movePoints_78 ?_
          refine g_X11_0 (pc := 79) C q_998 0 rfl dX11_movePoints_79 ?_
          refine k_bipush (pc := 82) C bipush_37 dX11_movePoints_82 ?_
          refine k_iload_n (pc := 84) C rfl 0 rfl dX11_movePoints_84 ?_
          refine k_iadd (pc := 85) C dX11_movePoints_85 ?_
          refine k_topI (pc := 86) (v := 37) (by decide) ?_
          refine k_laldK (pc := 86) (v := (f_t_w 37)) C 1 1 rfl rfl (k_vinc 37 cl_37 (by decide) (by decide)) cl_37 (upnL (by decide) rfl) dX11_movePoints_86 ?_
          refine k_lsub (pc := 87) C dX11_movePoints_87 ?_
          refine k_aload_n (pc := 88) C rfl 2 rfl dX11_movePoints_88 ?_
          refine g_X11_0 (pc := 89) C q_998 0 rfl dX11_movePoints_89 ?_
          refine k_bipush (pc := 92) C bipush_39 dX11_movePoints_92 ?_
          refine k_laldK (pc := 94) (v := ((f_t_w 39) + x_5)) C 1 1 rfl rfl (k_vinc 39 cl_39 (by decide) (by decide)) cl_39 upsL dX11_movePoints_94 ?_
          refine k_lmul (pc := 95) C dX11_movePoints_95 ?_
          refine k_aload_n (pc := 96) C rfl 2 rfl dX11_movePoints_96 ?_
          refine k_iconst (pc := 97) C iconst_2 dX11_movePoints_97 ?_
          refine k_callVl (pc := 98) (As := [.int 2]) (rest := [.long (((s_X11_of_p0_0 f_t (vp_updL f_t_w 39 ((f_t_w 39) + x_5))) - (f_t_w 37)) * ((f_t_w 39) + x_5)), .long (f_t_w 37), .int 14, .ref h_t_w]) (r := (s_X11_of_p0_2 f_t (vp_updL f_t_w 39 ((f_t_w 39) + x_5)))) (wc := [(h_t, moE f_t h_t_w h_t_saved h_t_trial h_t_text h_t_told), (h_t_w, jA cJ 294 (vp_updL f_t_w 39 ((f_t_w 39) + x_5)))]) (wc2 := [(h_t, moE f_t h_t_w h_t_saved h_t_trial h_t_text h_t_told), (h_t_w, jA cJ 294 (vp_updL f_t_w 39 ((f_t_w 39) + x_5)))]) (ws2 := [(h_t, moE f_t h_t_w h_t_saved h_t_trial h_t_text h_t_told), (h_t_w, jA cJ 294 (vp_updL f_t_w 39 ((f_t_w 39) + x_5)))]) C (c_X11_of_p0_2 l D cI cJ cO h_t h_t_w h_t_saved h_t_trial h_t_text h_t_told f_t (vp_updL f_t_w 39 ((f_t_w 39) + x_5)) (kInL.rw (F := (vp_updL f_t_w 39 ((f_t_w 39) + x_5))) (k := 35) (upnL (by decide) rfl) hf_t_w_35 (by decide) (by decide))) cwv_X11_of q_1117 vX11 0 rfl [0, 1] rfl rfl (by decide) rfl rfl (Nat.le_of_ble_eq_true rfl) ⟨Nat.le_of_ble_eq_true rfl, Nat.le_of_ble_eq_true rfl⟩ rfl ⟨Nat.le_refl _, Nat.le_refl _⟩ dX11_movePoints_98 ?_
          refine k_ldiv (pc := 101) C (by rw [of2_fr (f := f_t) hf_t_w_35 (fun k hk => by rw [pk_uLn (by omega)])]; exact hz (nz_mp ex_3 c_6)) dX11_movePoints_101 ?_
          refine k_ladd (pc := 102) C dX11_movePoints_102 ?_
          refine k_goto (pc := 103) (tgt := 111) C (by decide) dX11_movePoints_103 ?_
          exact K_15 ((f_t_w 37) + ((((s_X11_of_p0_0 f_t (vp_updL f_t_w 39 ((f_t_w 39) + x_5))) - (f_t_w 37)) * ((f_t_w 39) + x_5)) / (s_X11_of_p0_2 f_t (vp_updL f_t_w 39 ((f_t_w 39) + x_5))))) (Eq.symm (if_neg c_6))
      refine k_if_eq (pc := 35) (tgt := 42) C dX11_movePoints_35 (by decide) (fun c_4 => ?_) (fun c_4 => ?_)
      · refine k_lconst (pc := 42) C lconst_0 dX11_movePoints_42 ?_
        exact K_14 0 (Eq.symm (if_pos c_4))
      · refine k_lconst (pc := 38) C lconst_1 dX11_movePoints_38 ?_
        refine k_goto (pc := 39) (tgt := 43) C (by decide) dX11_movePoints_39 ?_
        exact K_14 1 (Eq.symm (if_neg c_4))
    refine k_lcmp_ne (pc := 16) (tgt := 24) C dX11_movePoints_16 dX11_movePoints_17 (by decide) (fun c_2 => ?_) (fun c_2 => ?_)
    · refine k_iconst (pc := 24) C iconst_0 dX11_movePoints_24 ?_
      exact K_13 0 (Eq.symm (if_neg c_2))
    · refine k_iconst (pc := 20) C iconst_1 dX11_movePoints_20 ?_
      refine k_goto (pc := 21) (tgt := 25) C (by decide) dX11_movePoints_21 ?_
      exact K_13 1 (Eq.symm (if_pos c_2))
  · have hs : (s_X11_movePoints f_t f_t_w) = f_t_w := (if_pos c_1)
    exact k_finV (pc := 7) hret (by rw [hs]) dX11_movePoints_7

theorem dX11_complete_0 : decode cX11_complete 0 = .ok (.aload_n 0, 1) := by decide +kernel
theorem dX11_complete_1 : decode cX11_complete 1 = .ok (.invokevirtual 124, 3) := by decide +kernel
theorem dX11_complete_4 : decode cX11_complete 4 = .ok (.aload_n 0, 1) := by decide +kernel
theorem dX11_complete_5 : decode cX11_complete 5 = .ok (.iconst 3, 1) := by decide +kernel
theorem dX11_complete_6 : decode cX11_complete 6 = .ok (.aload_n 0, 1) := by decide +kernel
theorem dX11_complete_7 : decode cX11_complete 7 = .ok (.getfield 7, 3) := by decide +kernel
theorem dX11_complete_10 : decode cX11_complete 10 = .ok (.bipush 41, 2) := by decide +kernel
theorem dX11_complete_12 : decode cX11_complete 12 = .ok (.laload, 1) := by decide +kernel
theorem dX11_complete_13 : decode cX11_complete 13 = .ok (.invokevirtual 97, 3) := by decide +kernel
theorem dX11_complete_16 : decode cX11_complete 16 = .ok (.aload_n 0, 1) := by decide +kernel
theorem dX11_complete_17 : decode cX11_complete 17 = .ok (.getfield 7, 3) := by decide +kernel
theorem dX11_complete_20 : decode cX11_complete 20 = .ok (.bipush 35, 2) := by decide +kernel
theorem dX11_complete_22 : decode cX11_complete 22 = .ok (.laload, 1) := by decide +kernel
theorem dX11_complete_23 : decode cX11_complete 23 = .ok (.lconst 1, 1) := by decide +kernel
theorem dX11_complete_24 : decode cX11_complete 24 = .ok (.ladd, 1) := by decide +kernel
theorem dX11_complete_25 : decode cX11_complete 25 = .ok (.aload_n 0, 1) := by decide +kernel
theorem dX11_complete_26 : decode cX11_complete 26 = .ok (.getfield 7, 3) := by decide +kernel
theorem dX11_complete_29 : decode cX11_complete 29 = .ok (.bipush 43, 2) := by decide +kernel
theorem dX11_complete_31 : decode cX11_complete 31 = .ok (.laload, 1) := by decide +kernel
theorem dX11_complete_32 : decode cX11_complete 32 = .ok (.lcmp, 1) := by decide +kernel
theorem dX11_complete_33 : decode cX11_complete 33 = .ok (.ifCond .ge 28, 3) := by decide +kernel
theorem dX11_complete_36 : decode cX11_complete 36 = .ok (.aload_n 0, 1) := by decide +kernel
theorem dX11_complete_37 : decode cX11_complete 37 = .ok (.aload_n 0, 1) := by decide +kernel
theorem dX11_complete_38 : decode cX11_complete 38 = .ok (.getfield 7, 3) := by decide +kernel
theorem dX11_complete_41 : decode cX11_complete 41 = .ok (.bipush 35, 2) := by decide +kernel
theorem dX11_complete_43 : decode cX11_complete 43 = .ok (.laload, 1) := by decide +kernel
theorem dX11_complete_44 : decode cX11_complete 44 = .ok (.lconst 1, 1) := by decide +kernel
theorem dX11_complete_45 : decode cX11_complete 45 = .ok (.ladd, 1) := by decide +kernel
theorem dX11_complete_46 : decode cX11_complete 46 = .ok (.aload_n 0, 1) := by decide +kernel
theorem dX11_complete_47 : decode cX11_complete 47 = .ok (.getfield 7, 3) := by decide +kernel
theorem dX11_complete_50 : decode cX11_complete 50 = .ok (.bipush 32, 2) := by decide +kernel
theorem dX11_complete_52 : decode cX11_complete 52 = .ok (.laload, 1) := by decide +kernel
theorem dX11_complete_53 : decode cX11_complete 53 = .ok (.lconst 1, 1) := by decide +kernel
theorem dX11_complete_54 : decode cX11_complete 54 = .ok (.ladd, 1) := by decide +kernel
theorem dX11_complete_55 : decode cX11_complete 55 = .ok (.invokevirtual 127, 3) := by decide +kernel
theorem dX11_complete_58 : decode cX11_complete 58 = .ok (.goto 79, 3) := by decide +kernel
theorem dX11_complete_61 : decode cX11_complete 61 = .ok (.aload_n 0, 1) := by decide +kernel
theorem dX11_complete_62 : decode cX11_complete 62 = .ok (.getfield 7, 3) := by decide +kernel
theorem dX11_complete_65 : decode cX11_complete 65 = .ok (.bipush 36, 2) := by decide +kernel
theorem dX11_complete_67 : decode cX11_complete 67 = .ok (.laload, 1) := by decide +kernel
theorem dX11_complete_68 : decode cX11_complete 68 = .ok (.aload_n 0, 1) := by decide +kernel
theorem dX11_complete_69 : decode cX11_complete 69 = .ok (.getfield 7, 3) := by decide +kernel
theorem dX11_complete_72 : decode cX11_complete 72 = .ok (.bipush 44, 2) := by decide +kernel
theorem dX11_complete_74 : decode cX11_complete 74 = .ok (.laload, 1) := by decide +kernel
theorem dX11_complete_75 : decode cX11_complete 75 = .ok (.lcmp, 1) := by decide +kernel
theorem dX11_complete_76 : decode cX11_complete 76 = .ok (.ifCond .ge 31, 3) := by decide +kernel
theorem dX11_complete_79 : decode cX11_complete 79 = .ok (.aload_n 0, 1) := by decide +kernel
theorem dX11_complete_80 : decode cX11_complete 80 = .ok (.getfield 7, 3) := by decide +kernel
theorem dX11_complete_83 : decode cX11_complete 83 = .ok (.bipush 36, 2) := by decide +kernel
theorem dX11_complete_85 : decode cX11_complete 85 = .ok (.dup2, 1) := by decide +kernel
theorem dX11_complete_86 : decode cX11_complete 86 = .ok (.laload, 1) := by decide +kernel
theorem dX11_complete_87 : decode cX11_complete 87 = .ok (.lconst 1, 1) := by decide +kernel
theorem dX11_complete_88 : decode cX11_complete 88 = .ok (.ladd, 1) := by decide +kernel
theorem dX11_complete_89 : decode cX11_complete 89 = .ok (.lastore, 1) := by decide +kernel
theorem dX11_complete_90 : decode cX11_complete 90 = .ok (.aload_n 0, 1) := by decide +kernel
theorem dX11_complete_91 : decode cX11_complete 91 = .ok (.lconst 0, 1) := by decide +kernel
theorem dX11_complete_92 : decode cX11_complete 92 = .ok (.aload_n 0, 1) := by decide +kernel
theorem dX11_complete_93 : decode cX11_complete 93 = .ok (.getfield 7, 3) := by decide +kernel
theorem dX11_complete_96 : decode cX11_complete 96 = .ok (.bipush 32, 2) := by decide +kernel
theorem dX11_complete_98 : decode cX11_complete 98 = .ok (.laload, 1) := by decide +kernel
theorem dX11_complete_99 : decode cX11_complete 99 = .ok (.lconst 1, 1) := by decide +kernel
theorem dX11_complete_100 : decode cX11_complete 100 = .ok (.ladd, 1) := by decide +kernel
theorem dX11_complete_101 : decode cX11_complete 101 = .ok (.invokevirtual 127, 3) := by decide +kernel
theorem dX11_complete_104 : decode cX11_complete 104 = .ok (.goto 33, 3) := by decide +kernel
theorem dX11_complete_107 : decode cX11_complete 107 = .ok (.aload_n 0, 1) := by decide +kernel
theorem dX11_complete_108 : decode cX11_complete 108 = .ok (.getfield 7, 3) := by decide +kernel
theorem dX11_complete_111 : decode cX11_complete 111 = .ok (.bipush 33, 2) := by decide +kernel
theorem dX11_complete_113 : decode cX11_complete 113 = .ok (.ldc2_w 34, 3) := by decide +kernel
theorem dX11_complete_116 : decode cX11_complete 116 = .ok (.lastore, 1) := by decide +kernel
theorem dX11_complete_117 : decode cX11_complete 117 = .ok (.aload_n 0, 1) := by decide +kernel
theorem dX11_complete_118 : decode cX11_complete 118 = .ok (.getfield 7, 3) := by decide +kernel
theorem dX11_complete_121 : decode cX11_complete 121 = .ok (.bipush 34, 2) := by decide +kernel
theorem dX11_complete_123 : decode cX11_complete 123 = .ok (.lconst 0, 1) := by decide +kernel
theorem dX11_complete_124 : decode cX11_complete 124 = .ok (.lastore, 1) := by decide +kernel
theorem dX11_complete_125 : decode cX11_complete 125 = .ok (.aload_n 0, 1) := by decide +kernel
theorem dX11_complete_126 : decode cX11_complete 126 = .ok (.iconst 4, 1) := by decide +kernel
theorem dX11_complete_127 : decode cX11_complete 127 = .ok (.aload_n 0, 1) := by decide +kernel
theorem dX11_complete_128 : decode cX11_complete 128 = .ok (.getfield 7, 3) := by decide +kernel
theorem dX11_complete_131 : decode cX11_complete 131 = .ok (.bipush 44, 2) := by decide +kernel
theorem dX11_complete_133 : decode cX11_complete 133 = .ok (.laload, 1) := by decide +kernel
theorem dX11_complete_134 : decode cX11_complete 134 = .ok (.invokevirtual 97, 3) := by decide +kernel
theorem dX11_complete_137 : decode cX11_complete 137 = .ok (.return_, 1) := by decide +kernel
def s_X11_complete_1 (u_5 : (Nat → Int64)) : (Nat → Int64) :=
  u_5
def s_X11_complete_2 (u_6 : (Nat → Int64)) : (Nat → Int64) :=
  u_6
def s_X11_complete_3 (u_7 : (Nat → Int64)) : (Nat → Int64) :=
  u_7
def s_X11_complete_4 (f_t_w : Nat → Int64) (f_t : Nat → Int32) (u_2 : (Nat → Int64)) : (Nat → Int64) :=
  (if (f_t_w 43) ≤ ((f_t_w 35) + 1) then (if (f_t_w 44) ≤ (f_t_w 36) then (s_X11_complete_1 (s_X11_enter f_t (vp_updL (vp_updL u_2 33 3) 34 0) 4 (f_t_w 44))) else (s_X11_complete_2 (s_X11_begin f_t (vp_updL u_2 36 ((f_t_w 36) + 1)) 0 ((f_t_w 32) + 1)))) else (s_X11_complete_3 (s_X11_begin f_t u_2 ((f_t_w 35) + 1) ((f_t_w 32) + 1))))
def s_X11_complete_5 (f_t_w : Nat → Int64) (f_t : Nat → Int32) (u_1 : (Nat → Int64)) : (Nat → Int64) :=
  (s_X11_complete_4 f_t_w f_t (s_X11_enter f_t u_1 3 (f_t_w 41)))
def s_X11_complete (f_t : Nat → Int32) (f_t_w : Nat → Int64) : (Nat → Int64) :=
  (s_X11_complete_5 f_t_w f_t (s_X11_keepResult f_t f_t_w))
set_option maxRecDepth 100000 in
set_option maxHeartbeats 4000000 in
theorem c_X11_complete (l : Launch) (D : va_G) (cI cJ cO : ClassId) (h_t : Nat) (h_t_w : Nat) (h_t_saved : Nat) (h_t_trial : Nat) (h_t_text : Nat) (h_t_told : Nat) (f_t : Nat → Int32) (f_t_w : Nat → Int64) (hf_t_w_35 : kInL (f_t_w 35) 0 11) (hf_t_w_43 : kInL (f_t_w 43) 0 12) (hf_t_w_45 : kInL (f_t_w 45) 0 16) (hf_t_w_46 : kInL (f_t_w 46) 0 24) : kV l yX11_complete cX11_complete 1 2 48 D (kT cI cJ cO) [.ref h_t] [(h_t, moE f_t h_t_w h_t_saved h_t_trial h_t_text h_t_told), (h_t_w, jA cJ 294 f_t_w)] [(h_t, moE f_t h_t_w h_t_saved h_t_trial h_t_text h_t_told), (h_t_w, jA cJ 294 (s_X11_complete f_t f_t_w))] := by
  refine kV_of (own := RX11) (lv := [(0, .ref h_t)]) rfl rfl (by decide) (Nat.le_of_ble_eq_true rfl) ?_
  intro p e s m args below meth c Q A C hret
  refine k_aload_n (pc := 0) C rfl 0 rfl dX11_complete_0 ?_
  obtain ⟨u_1, eu_1⟩ : ∃ z : (Nat → Int64), z = (s_X11_keepResult f_t f_t_w) := ⟨_, rfl⟩
  refine k_callVv (pc := 1) (As := []) (rest := []) (wc := [(h_t, moE f_t h_t_w h_t_saved h_t_trial h_t_text h_t_told), (h_t_w, jA cJ 294 f_t_w)]) (wc2 := [(h_t, moE f_t h_t_w h_t_saved h_t_trial h_t_text h_t_told), (h_t_w, jA cJ 294 u_1)]) (ws2 := [(h_t, moE f_t h_t_w h_t_saved h_t_trial h_t_text h_t_told), (h_t_w, jA cJ 294 u_1)]) C (by rw [eu_1]; exact c_X11_keepResult l D cI cJ cO h_t h_t_w h_t_saved h_t_trial h_t_text h_t_told f_t f_t_w (kInL.rw (F := f_t_w) (k := 45) rfl hf_t_w_45 (by decide) (by decide))) cwv_X11_keepResult q_1151 vX11 0 rfl [0, 1] rfl rfl (by decide) rfl rfl (Nat.le_of_ble_eq_true rfl) ⟨Nat.le_of_ble_eq_true rfl, Nat.le_of_ble_eq_true rfl⟩ rfl ⟨Nat.le_refl _, Nat.le_refl _⟩ dX11_complete_1 ?_
  refine k_aload_n (pc := 4) C rfl 0 rfl dX11_complete_4 ?_
  refine k_iconst (pc := 5) C iconst_3 dX11_complete_5 ?_
  refine k_aload_n (pc := 6) C rfl 0 rfl dX11_complete_6 ?_
  refine g_X11_0 (pc := 7) C q_998 0 rfl dX11_complete_7 ?_
  refine k_bipush (pc := 10) C bipush_41 dX11_complete_10 ?_
  refine k_laldK (pc := 12) (v := (f_t_w 41)) C 1 1 rfl rfl (k_vinc 41 cl_41 (by decide) (by decide)) cl_41 (((fr_of eu_1 (fr_X11_keepResult f_t f_t_w (kInL.rw (F := f_t_w) (k := 45) rfl hf_t_w_45 (by decide) (by decide)))) 41 (by decide)).trans rfl) dX11_complete_12 ?_
  obtain ⟨u_2, eu_2⟩ : ∃ z : (Nat → Int64), z = (s_X11_enter f_t u_1 3 (f_t_w 41)) := ⟨_, rfl⟩
  refine k_callVv (pc := 13) (As := [.int 3, .long (f_t_w 41)]) (rest := []) (wc := [(h_t, moE f_t h_t_w h_t_saved h_t_trial h_t_text h_t_told), (h_t_w, jA cJ 294 u_1)]) (wc2 := [(h_t, moE f_t h_t_w h_t_saved h_t_trial h_t_text h_t_told), (h_t_w, jA cJ 294 u_2)]) (ws2 := [(h_t, moE f_t h_t_w h_t_saved h_t_trial h_t_text h_t_told), (h_t_w, jA cJ 294 u_2)]) C (by rw [eu_2]; exact c_X11_enter l D cI cJ cO h_t h_t_w h_t_saved h_t_trial h_t_text h_t_told f_t u_1 3 (f_t_w 41) (kInL.rw (F := u_1) (k := 46) (((fr_of eu_1 (fr_X11_keepResult f_t f_t_w (kInL.rw (F := f_t_w) (k := 45) rfl hf_t_w_45 (by decide) (by decide)))) 46 (by decide)).trans rfl) hf_t_w_46 (by decide) (by decide))) cwv_X11_enter q_1093 vX11 0 rfl [0, 1] rfl rfl (by decide) rfl rfl (Nat.le_of_ble_eq_true rfl) ⟨Nat.le_of_ble_eq_true rfl, Nat.le_of_ble_eq_true rfl⟩ rfl ⟨Nat.le_refl _, Nat.le_refl _⟩ dX11_complete_13 ?_
  refine k_aload_n (pc := 16) C rfl 0 rfl dX11_complete_16 ?_
  refine g_X11_0 (pc := 17) C q_998 0 rfl dX11_complete_17 ?_
  refine k_bipush (pc := 20) C bipush_35 dX11_complete_20 ?_
  refine k_laldK (pc := 22) (v := (f_t_w 35)) C 1 1 rfl rfl (k_vinc 35 cl_35 (by decide) (by decide)) cl_35 (((fr_of eu_2 (fr_X11_enter f_t u_1 3 (f_t_w 41) (kInL.rw (F := u_1) (k := 46) (((fr_of eu_1 (fr_X11_keepResult f_t f_t_w (kInL.rw (F := f_t_w) (k := 45) rfl hf_t_w_45 (by decide) (by decide)))) 46 (by decide)).trans rfl) hf_t_w_46 (by decide) (by decide)))) 35 (by decide)).trans (((fr_of eu_1 (fr_X11_keepResult f_t f_t_w (kInL.rw (F := f_t_w) (k := 45) rfl hf_t_w_45 (by decide) (by decide)))) 35 (by decide)).trans rfl)) dX11_complete_22 ?_
  refine k_lconst (pc := 23) C lconst_1 dX11_complete_23 ?_
  refine k_ladd (pc := 24) C dX11_complete_24 ?_
  refine k_aload_n (pc := 25) C rfl 0 rfl dX11_complete_25 ?_
  refine g_X11_0 (pc := 26) C q_998 0 rfl dX11_complete_26 ?_
  refine k_bipush (pc := 29) C bipush_43 dX11_complete_29 ?_
  refine k_laldK (pc := 31) (v := (f_t_w 43)) C 1 1 rfl rfl (k_vinc 43 cl_43 (by decide) (by decide)) cl_43 (((fr_of eu_2 (fr_X11_enter f_t u_1 3 (f_t_w 41) (kInL.rw (F := u_1) (k := 46) (((fr_of eu_1 (fr_X11_keepResult f_t f_t_w (kInL.rw (F := f_t_w) (k := 45) rfl hf_t_w_45 (by decide) (by decide)))) 46 (by decide)).trans rfl) hf_t_w_46 (by decide) (by decide)))) 43 (by decide)).trans (((fr_of eu_1 (fr_X11_keepResult f_t f_t_w (kInL.rw (F := f_t_w) (k := 45) rfl hf_t_w_45 (by decide) (by decide)))) 43 (by decide)).trans rfl)) dX11_complete_31 ?_
  refine k_lcmp_ge (pc := 32) (tgt := 61) C dX11_complete_32 dX11_complete_33 (by decide) (fun c_3 => ?_) (fun c_3 => ?_)
  · refine k_aload_n (pc := 61) C rfl 0 rfl dX11_complete_61 ?_
    refine g_X11_0 (pc := 62) C q_998 0 rfl dX11_complete_62 ?_
    refine k_bipush (pc := 65) C bipush_36 dX11_complete_65 ?_
    refine k_laldK (pc := 67) (v := (f_t_w 36)) C 1 1 rfl rfl (k_vinc 36 cl_36 (by decide) (by decide)) cl_36 (((fr_of eu_2 (fr_X11_enter f_t u_1 3 (f_t_w 41) (kInL.rw (F := u_1) (k := 46) (((fr_of eu_1 (fr_X11_keepResult f_t f_t_w (kInL.rw (F := f_t_w) (k := 45) rfl hf_t_w_45 (by decide) (by decide)))) 46 (by decide)).trans rfl) hf_t_w_46 (by decide) (by decide)))) 36 (by decide)).trans (((fr_of eu_1 (fr_X11_keepResult f_t f_t_w (kInL.rw (F := f_t_w) (k := 45) rfl hf_t_w_45 (by decide) (by decide)))) 36 (by decide)).trans rfl)) dX11_complete_67 ?_
    refine k_aload_n (pc := 68) C rfl 0 rfl dX11_complete_68 ?_
    refine g_X11_0 (pc := 69) C q_998 0 rfl dX11_complete_69 ?_
    refine k_bipush (pc := 72) C bipush_44 dX11_complete_72 ?_
    refine k_laldK (pc := 74) (v := (f_t_w 44)) C 1 1 rfl rfl (k_vinc 44 cl_44 (by decide) (by decide)) cl_44 (((fr_of eu_2 (fr_X11_enter f_t u_1 3 (f_t_w 41) (kInL.rw (F := u_1) (k := 46) (((fr_of eu_1 (fr_X11_keepResult f_t f_t_w (kInL.rw (F := f_t_w) (k := 45) rfl hf_t_w_45 (by decide) (by decide)))) 46 (by decide)).trans rfl) hf_t_w_46 (by decide) (by decide)))) 44 (by decide)).trans (((fr_of eu_1 (fr_X11_keepResult f_t f_t_w (kInL.rw (F := f_t_w) (k := 45) rfl hf_t_w_45 (by decide) (by decide)))) 44 (by decide)).trans rfl)) dX11_complete_74 ?_
    refine k_lcmp_ge (pc := 75) (tgt := 107) C dX11_complete_75 dX11_complete_76 (by decide) (fun c_4 => ?_) (fun c_4 => ?_)
    · refine k_aload_n (pc := 107) C rfl 0 rfl dX11_complete_107 ?_
      refine g_X11_0 (pc := 108) C q_998 0 rfl dX11_complete_108 ?_
      refine k_bipush (pc := 111) C bipush_33 dX11_complete_111 ?_
      refine k_ldc2 (pc := 113) C q_990 dX11_complete_113 ?_
      refine k_lastK (pc := 116) (ws2 := [(h_t, moE f_t h_t_w h_t_saved h_t_trial h_t_text h_t_told), (h_t_w, jA cJ 294 (vp_updL u_2 33 3))]) C 1 1 rfl rfl (k_vinc 33 cl_33 (by decide) (by decide)) cl_33 rfl dX11_complete_116 ?_
      refine k_aload_n (pc := 117) C rfl 0 rfl dX11_complete_117 ?_
      refine g_X11_0 (pc := 118) C q_998 0 rfl dX11_complete_118 ?_
      refine k_bipush (pc := 121) C bipush_34 dX11_complete_121 ?_
      refine k_lconst (pc := 123) C lconst_0 dX11_complete_123 ?_
      refine k_lastK (pc := 124) (ws2 := [(h_t, moE f_t h_t_w h_t_saved h_t_trial h_t_text h_t_told), (h_t_w, jA cJ 294 (vp_updL (vp_updL u_2 33 3) 34 0))]) C 1 1 rfl rfl (k_vinc 34 cl_34 (by decide) (by decide)) cl_34 rfl dX11_complete_124 ?_
      refine k_aload_n (pc := 125) C rfl 0 rfl dX11_complete_125 ?_
      refine k_iconst (pc := 126) C iconst_4 dX11_complete_126 ?_
      refine k_aload_n (pc := 127) C rfl 0 rfl dX11_complete_127 ?_
      refine g_X11_0 (pc := 128) C q_998 0 rfl dX11_complete_128 ?_
      refine k_bipush (pc := 131) C bipush_44 dX11_complete_131 ?_
      refine k_laldK (pc := 133) (v := (f_t_w 44)) C 1 1 rfl rfl (k_vinc 44 cl_44 (by decide) (by decide)) cl_44 (upnL (by decide) (upnL (by decide) (((fr_of eu_2 (fr_X11_enter f_t u_1 3 (f_t_w 41) (kInL.rw (F := u_1) (k := 46) (((fr_of eu_1 (fr_X11_keepResult f_t f_t_w (kInL.rw (F := f_t_w) (k := 45) rfl hf_t_w_45 (by decide) (by decide)))) 46 (by decide)).trans rfl) hf_t_w_46 (by decide) (by decide)))) 44 (by decide)).trans (((fr_of eu_1 (fr_X11_keepResult f_t f_t_w (kInL.rw (F := f_t_w) (k := 45) rfl hf_t_w_45 (by decide) (by decide)))) 44 (by decide)).trans rfl)))) dX11_complete_133 ?_
      obtain ⟨u_5, eu_5⟩ : ∃ z : (Nat → Int64), z = (s_X11_enter f_t (vp_updL (vp_updL u_2 33 3) 34 0) 4 (f_t_w 44)) := ⟨_, rfl⟩
      refine k_callVv (pc := 134) (As := [.int 4, .long (f_t_w 44)]) (rest := []) (wc := [(h_t, moE f_t h_t_w h_t_saved h_t_trial h_t_text h_t_told), (h_t_w, jA cJ 294 (vp_updL (vp_updL u_2 33 3) 34 0))]) (wc2 := [(h_t, moE f_t h_t_w h_t_saved h_t_trial h_t_text h_t_told), (h_t_w, jA cJ 294 u_5)]) (ws2 := [(h_t, moE f_t h_t_w h_t_saved h_t_trial h_t_text h_t_told), (h_t_w, jA cJ 294 u_5)]) C (by rw [eu_5]; exact c_X11_enter l D cI cJ cO h_t h_t_w h_t_saved h_t_trial h_t_text h_t_told f_t (vp_updL (vp_updL u_2 33 3) 34 0) 4 (f_t_w 44) (kInL.rw (F := (vp_updL (vp_updL u_2 33 3) 34 0)) (k := 46) (upnL (by decide) (upnL (by decide) rfl)) (by rw [eu_2]; exact po_X11_enter f_t u_1 3 (f_t_w 41) (kInL.rw (F := u_1) (k := 46) (((fr_of eu_1 (fr_X11_keepResult f_t f_t_w (kInL.rw (F := f_t_w) (k := 45) rfl hf_t_w_45 (by decide) (by decide)))) 46 (by decide)).trans rfl) hf_t_w_46 (by decide) (by decide))) (by decide) (by decide))) cwv_X11_enter q_1093 vX11 0 rfl [0, 1] rfl rfl (by decide) rfl rfl (Nat.le_of_ble_eq_true rfl) ⟨Nat.le_of_ble_eq_true rfl, Nat.le_of_ble_eq_true rfl⟩ rfl ⟨Nat.le_refl _, Nat.le_refl _⟩ dX11_complete_134 ?_
      have hs : (s_X11_complete f_t f_t_w) = u_5 := (k_st (g := s_X11_complete_5 f_t_w f_t) eu_1 rfl (k_st (g := s_X11_complete_4 f_t_w f_t) eu_2 rfl (k_st (g := s_X11_complete_1) eu_5 ((if_pos c_3).trans (if_pos c_4)) rfl)))
      exact k_finV (pc := 137) hret (by rw [hs]) dX11_complete_137
    · refine k_aload_n (pc := 79) C rfl 0 rfl dX11_complete_79 ?_
      refine g_X11_0 (pc := 80) C q_998 0 rfl dX11_complete_80 ?_
      refine k_bipush (pc := 83) C bipush_36 dX11_complete_83 ?_
      refine k_dup2 (pc := 85) C rfl rfl dX11_complete_85 ?_
      refine k_laldK (pc := 86) (v := (f_t_w 36)) C 1 1 rfl rfl (k_vinc 36 cl_36 (by decide) (by decide)) cl_36 (((fr_of eu_2 (fr_X11_enter f_t u_1 3 (f_t_w 41) (kInL.rw (F := u_1) (k := 46) (((fr_of eu_1 (fr_X11_keepResult f_t f_t_w (kInL.rw (F := f_t_w) (k := 45) rfl hf_t_w_45 (by decide) (by decide)))) 46 (by decide)).trans rfl) hf_t_w_46 (by decide) (by decide)))) 36 (by decide)).trans (((fr_of eu_1 (fr_X11_keepResult f_t f_t_w (kInL.rw (F := f_t_w) (k := 45) rfl hf_t_w_45 (by decide) (by decide)))) 36 (by decide)).trans rfl)) dX11_complete_86 ?_
      refine k_lconst (pc := 87) C lconst_1 dX11_complete_87 ?_
      refine k_ladd (pc := 88) C dX11_complete_88 ?_
      refine k_lastK (pc := 89) (ws2 := [(h_t, moE f_t h_t_w h_t_saved h_t_trial h_t_text h_t_told), (h_t_w, jA cJ 294 (vp_updL u_2 36 ((f_t_w 36) + 1)))]) C 1 1 rfl rfl (k_vinc 36 cl_36 (by decide) (by decide)) cl_36 rfl dX11_complete_89 ?_
      refine k_aload_n (pc := 90) C rfl 0 rfl dX11_complete_90 ?_
      refine k_lconst (pc := 91) C lconst_0 dX11_complete_91 ?_
      refine k_aload_n (pc := 92) C rfl 0 rfl dX11_complete_92 ?_
      refine g_X11_0 (pc := 93) C q_998 0 rfl dX11_complete_93 ?_
      refine k_bipush (pc := 96) C bipush_32 dX11_complete_96 ?_
      refine k_laldK (pc := 98) (v := (f_t_w 32)) C 1 1 rfl rfl (k_vinc 32 cl_32 (by decide) (by decide)) cl_32 (upnL (by decide) (((fr_of eu_2 (fr_X11_enter f_t u_1 3 (f_t_w 41) (kInL.rw (F := u_1) (k := 46) (((fr_of eu_1 (fr_X11_keepResult f_t f_t_w (kInL.rw (F := f_t_w) (k := 45) rfl hf_t_w_45 (by decide) (by decide)))) 46 (by decide)).trans rfl) hf_t_w_46 (by decide) (by decide)))) 32 (by decide)).trans (((fr_of eu_1 (fr_X11_keepResult f_t f_t_w (kInL.rw (F := f_t_w) (k := 45) rfl hf_t_w_45 (by decide) (by decide)))) 32 (by decide)).trans rfl))) dX11_complete_98 ?_
      refine k_lconst (pc := 99) C lconst_1 dX11_complete_99 ?_
      refine k_ladd (pc := 100) C dX11_complete_100 ?_
      obtain ⟨u_6, eu_6⟩ : ∃ z : (Nat → Int64), z = (s_X11_begin f_t (vp_updL u_2 36 ((f_t_w 36) + 1)) 0 ((f_t_w 32) + 1)) := ⟨_, rfl⟩
      refine k_callVv (pc := 101) (As := [.long 0, .long ((f_t_w 32) + 1)]) (rest := []) (wc := [(h_t, moE f_t h_t_w h_t_saved h_t_trial h_t_text h_t_told), (h_t_w, jA cJ 294 (vp_updL u_2 36 ((f_t_w 36) + 1)))]) (wc2 := [(h_t, moE f_t h_t_w h_t_saved h_t_trial h_t_text h_t_told), (h_t_w, jA cJ 294 u_6)]) (ws2 := [(h_t, moE f_t h_t_w h_t_saved h_t_trial h_t_text h_t_told), (h_t_w, jA cJ 294 u_6)]) C (by rw [eu_6]; exact c_X11_begin l D cI cJ cO h_t h_t_w h_t_saved h_t_trial h_t_text h_t_told f_t (vp_updL u_2 36 ((f_t_w 36) + 1)) 0 ((f_t_w 32) + 1) (kInL.rw (F := (vp_updL u_2 36 ((f_t_w 36) + 1))) (k := 46) (upnL (by decide) rfl) (by rw [eu_2]; exact po_X11_enter f_t u_1 3 (f_t_w 41) (kInL.rw (F := u_1) (k := 46) (((fr_of eu_1 (fr_X11_keepResult f_t f_t_w (kInL.rw (F := f_t_w) (k := 45) rfl hf_t_w_45 (by decide) (by decide)))) 46 (by decide)).trans rfl) hf_t_w_46 (by decide) (by decide))) (by decide) (by decide)) (kInL.wk (kInL.lit (x := 0) (n := 0) (by decide)) (by decide) (by decide))) cwv_X11_begin q_1156 vX11 0 rfl [0, 1] rfl rfl (by decide) rfl rfl (Nat.le_of_ble_eq_true rfl) ⟨Nat.le_of_ble_eq_true rfl, Nat.le_of_ble_eq_true rfl⟩ rfl ⟨Nat.le_refl _, Nat.le_refl _⟩ dX11_complete_101 ?_
      refine k_goto (pc := 104) (tgt := 137) C (by decide) dX11_complete_104 ?_
      have hs : (s_X11_complete f_t f_t_w) = u_6 := (k_st (g := s_X11_complete_5 f_t_w f_t) eu_1 rfl (k_st (g := s_X11_complete_4 f_t_w f_t) eu_2 rfl (k_st (g := s_X11_complete_2) eu_6 ((if_pos c_3).trans (if_neg c_4)) rfl)))
      exact k_finV (pc := 137) hret (by rw [hs]) dX11_complete_137
  · refine k_aload_n (pc := 36) C rfl 0 rfl dX11_complete_36 ?_
    refine k_aload_n (pc := 37) C rfl 0 rfl dX11_complete_37 ?_
    refine g_X11_0 (pc := 38) C q_998 0 rfl dX11_complete_38 ?_
    refine k_bipush (pc := 41) C bipush_35 dX11_complete_41 ?_
    refine k_laldK (pc := 43) (v := (f_t_w 35)) C 1 1 rfl rfl (k_vinc 35 cl_35 (by decide) (by decide)) cl_35 (((fr_of eu_2 (fr_X11_enter f_t u_1 3 (f_t_w 41) (kInL.rw (F := u_1) (k := 46) (((fr_of eu_1 (fr_X11_keepResult f_t f_t_w (kInL.rw (F := f_t_w) (k := 45) rfl hf_t_w_45 (by decide) (by decide)))) 46 (by decide)).trans rfl) hf_t_w_46 (by decide) (by decide)))) 35 (by decide)).trans (((fr_of eu_1 (fr_X11_keepResult f_t f_t_w (kInL.rw (F := f_t_w) (k := 45) rfl hf_t_w_45 (by decide) (by decide)))) 35 (by decide)).trans rfl)) dX11_complete_43 ?_
    refine k_lconst (pc := 44) C lconst_1 dX11_complete_44 ?_
    refine k_ladd (pc := 45) C dX11_complete_45 ?_
    refine k_aload_n (pc := 46) C rfl 0 rfl dX11_complete_46 ?_
    refine g_X11_0 (pc := 47) C q_998 0 rfl dX11_complete_47 ?_
    refine k_bipush (pc := 50) C bipush_32 dX11_complete_50 ?_
    refine k_laldK (pc := 52) (v := (f_t_w 32)) C 1 1 rfl rfl (k_vinc 32 cl_32 (by decide) (by decide)) cl_32 (((fr_of eu_2 (fr_X11_enter f_t u_1 3 (f_t_w 41) (kInL.rw (F := u_1) (k := 46) (((fr_of eu_1 (fr_X11_keepResult f_t f_t_w (kInL.rw (F := f_t_w) (k := 45) rfl hf_t_w_45 (by decide) (by decide)))) 46 (by decide)).trans rfl) hf_t_w_46 (by decide) (by decide)))) 32 (by decide)).trans (((fr_of eu_1 (fr_X11_keepResult f_t f_t_w (kInL.rw (F := f_t_w) (k := 45) rfl hf_t_w_45 (by decide) (by decide)))) 32 (by decide)).trans rfl)) dX11_complete_52 ?_
    refine k_lconst (pc := 53) C lconst_1 dX11_complete_53 ?_
    refine k_ladd (pc := 54) C dX11_complete_54 ?_
    obtain ⟨u_7, eu_7⟩ : ∃ z : (Nat → Int64), z = (s_X11_begin f_t u_2 ((f_t_w 35) + 1) ((f_t_w 32) + 1)) := ⟨_, rfl⟩
    refine k_callVv (pc := 55) (As := [.long ((f_t_w 35) + 1), .long ((f_t_w 32) + 1)]) (rest := []) (wc := [(h_t, moE f_t h_t_w h_t_saved h_t_trial h_t_text h_t_told), (h_t_w, jA cJ 294 u_2)]) (wc2 := [(h_t, moE f_t h_t_w h_t_saved h_t_trial h_t_text h_t_told), (h_t_w, jA cJ 294 u_7)]) (ws2 := [(h_t, moE f_t h_t_w h_t_saved h_t_trial h_t_text h_t_told), (h_t_w, jA cJ 294 u_7)]) C (by rw [eu_7]; exact c_X11_begin l D cI cJ cO h_t h_t_w h_t_saved h_t_trial h_t_text h_t_told f_t u_2 ((f_t_w 35) + 1) ((f_t_w 32) + 1) (kInL.rw (F := u_2) (k := 46) rfl (by rw [eu_2]; exact po_X11_enter f_t u_1 3 (f_t_w 41) (kInL.rw (F := u_1) (k := 46) (((fr_of eu_1 (fr_X11_keepResult f_t f_t_w (kInL.rw (F := f_t_w) (k := 45) rfl hf_t_w_45 (by decide) (by decide)))) 46 (by decide)).trans rfl) hf_t_w_46 (by decide) (by decide))) (by decide) (by decide)) (kInL.wk (kInL.nleB (kInL.add hf_t_w_35 (kInL.lit (x := 1) (n := 1) (by decide)) (by decide) (by decide)) hf_t_w_43 c_3 : kInL ((f_t_w 35) + 1) 1 11) (by decide) (by decide))) cwv_X11_begin q_1156 vX11 0 rfl [0, 1] rfl rfl (by decide) rfl rfl (Nat.le_of_ble_eq_true rfl) ⟨Nat.le_of_ble_eq_true rfl, Nat.le_of_ble_eq_true rfl⟩ rfl ⟨Nat.le_refl _, Nat.le_refl _⟩ dX11_complete_55 ?_
    refine k_goto (pc := 58) (tgt := 137) C (by decide) dX11_complete_58 ?_
    have hs : (s_X11_complete f_t f_t_w) = u_7 := (k_st (g := s_X11_complete_5 f_t_w f_t) eu_1 rfl (k_st (g := s_X11_complete_4 f_t_w f_t) eu_2 rfl (k_st (g := s_X11_complete_3) eu_7 (if_neg c_3) rfl)))
    exact k_finV (pc := 137) hret (by rw [hs]) dX11_complete_137

theorem dX11_goOn_0 : decode cX11_goOn 0 = .ok (.aload_n 0, 1) := by decide +kernel
theorem dX11_goOn_1 : decode cX11_goOn 1 = .ok (.getfield 7, 3) := by decide +kernel
theorem dX11_goOn_4 : decode cX11_goOn 4 = .ok (.bipush 33, 2) := by decide +kernel
theorem dX11_goOn_6 : decode cX11_goOn 6 = .ok (.laload, 1) := by decide +kernel
theorem dX11_goOn_7 : decode cX11_goOn 7 = .ok (.lconst 1, 1) := by decide +kernel
theorem dX11_goOn_8 : decode cX11_goOn 8 = .ok (.lcmp, 1) := by decide +kernel
theorem dX11_goOn_9 : decode cX11_goOn 9 = .ok (.ifCond .ne 44, 3) := by decide +kernel
theorem dX11_goOn_12 : decode cX11_goOn 12 = .ok (.aload_n 0, 1) := by decide +kernel
theorem dX11_goOn_13 : decode cX11_goOn 13 = .ok (.getfield 7, 3) := by decide +kernel
theorem dX11_goOn_16 : decode cX11_goOn 16 = .ok (.bipush 39, 2) := by decide +kernel
theorem dX11_goOn_18 : decode cX11_goOn 18 = .ok (.laload, 1) := by decide +kernel
theorem dX11_goOn_19 : decode cX11_goOn 19 = .ok (.aload_n 0, 1) := by decide +kernel
theorem dX11_goOn_20 : decode cX11_goOn 20 = .ok (.iconst 2, 1) := by decide +kernel
theorem dX11_goOn_21 : decode cX11_goOn 21 = .ok (.invokevirtual 114, 3) := by decide +kernel
theorem dX11_goOn_24 : decode cX11_goOn 24 = .ok (.lcmp, 1) := by decide +kernel
theorem dX11_goOn_25 : decode cX11_goOn 25 = .ok (.ifCond .ne 27, 3) := by decide +kernel
theorem dX11_goOn_28 : decode cX11_goOn 28 = .ok (.aload_n 0, 1) := by decide +kernel
theorem dX11_goOn_29 : decode cX11_goOn 29 = .ok (.getfield 7, 3) := by decide +kernel
theorem dX11_goOn_32 : decode cX11_goOn 32 = .ok (.bipush 33, 2) := by decide +kernel
theorem dX11_goOn_34 : decode cX11_goOn 34 = .ok (.ldc2_w 32, 3) := by decide +kernel
theorem dX11_goOn_37 : decode cX11_goOn 37 = .ok (.lastore, 1) := by decide +kernel
theorem dX11_goOn_38 : decode cX11_goOn 38 = .ok (.aload_n 0, 1) := by decide +kernel
theorem dX11_goOn_39 : decode cX11_goOn 39 = .ok (.iconst 3, 1) := by decide +kernel
theorem dX11_goOn_40 : decode cX11_goOn 40 = .ok (.invokevirtual 114, 3) := by decide +kernel
theorem dX11_goOn_43 : decode cX11_goOn 43 = .ok (.lconst 0, 1) := by decide +kernel
theorem dX11_goOn_44 : decode cX11_goOn 44 = .ok (.lcmp, 1) := by decide +kernel
theorem dX11_goOn_45 : decode cX11_goOn 45 = .ok (.ifCond .ne 7, 3) := by decide +kernel
theorem dX11_goOn_48 : decode cX11_goOn 48 = .ok (.aload_n 0, 1) := by decide +kernel
theorem dX11_goOn_49 : decode cX11_goOn 49 = .ok (.invokevirtual 131, 3) := by decide +kernel
theorem dX11_goOn_52 : decode cX11_goOn 52 = .ok (.return_, 1) := by decide +kernel
theorem dX11_goOn_53 : decode cX11_goOn 53 = .ok (.aload_n 0, 1) := by decide +kernel
theorem dX11_goOn_54 : decode cX11_goOn 54 = .ok (.invokevirtual 134, 3) := by decide +kernel
theorem dX11_goOn_57 : decode cX11_goOn 57 = .ok (.ifCond .eq 17, 3) := by decide +kernel
theorem dX11_goOn_60 : decode cX11_goOn 60 = .ok (.aload_n 0, 1) := by decide +kernel
theorem dX11_goOn_61 : decode cX11_goOn 61 = .ok (.getfield 7, 3) := by decide +kernel
theorem dX11_goOn_64 : decode cX11_goOn 64 = .ok (.bipush 40, 2) := by decide +kernel
theorem dX11_goOn_66 : decode cX11_goOn 66 = .ok (.dup2, 1) := by decide +kernel
theorem dX11_goOn_67 : decode cX11_goOn 67 = .ok (.laload, 1) := by decide +kernel
theorem dX11_goOn_68 : decode cX11_goOn 68 = .ok (.lconst 1, 1) := by decide +kernel
theorem dX11_goOn_69 : decode cX11_goOn 69 = .ok (.ladd, 1) := by decide +kernel
theorem dX11_goOn_70 : decode cX11_goOn 70 = .ok (.lastore, 1) := by decide +kernel
theorem dX11_goOn_71 : decode cX11_goOn 71 = .ok (.goto 14, 3) := by decide +kernel
theorem dX11_goOn_74 : decode cX11_goOn 74 = .ok (.aload_n 0, 1) := by decide +kernel
theorem dX11_goOn_75 : decode cX11_goOn 75 = .ok (.getfield 7, 3) := by decide +kernel
theorem dX11_goOn_78 : decode cX11_goOn 78 = .ok (.bipush 41, 2) := by decide +kernel
theorem dX11_goOn_80 : decode cX11_goOn 80 = .ok (.dup2, 1) := by decide +kernel
theorem dX11_goOn_81 : decode cX11_goOn 81 = .ok (.laload, 1) := by decide +kernel
theorem dX11_goOn_82 : decode cX11_goOn 82 = .ok (.lconst 1, 1) := by decide +kernel
theorem dX11_goOn_83 : decode cX11_goOn 83 = .ok (.ladd, 1) := by decide +kernel
theorem dX11_goOn_84 : decode cX11_goOn 84 = .ok (.lastore, 1) := by decide +kernel
theorem dX11_goOn_85 : decode cX11_goOn 85 = .ok (.aload_n 0, 1) := by decide +kernel
theorem dX11_goOn_86 : decode cX11_goOn 86 = .ok (.getfield 7, 3) := by decide +kernel
theorem dX11_goOn_89 : decode cX11_goOn 89 = .ok (.bipush 40, 2) := by decide +kernel
theorem dX11_goOn_91 : decode cX11_goOn 91 = .ok (.laload, 1) := by decide +kernel
theorem dX11_goOn_92 : decode cX11_goOn 92 = .ok (.aload_n 0, 1) := by decide +kernel
theorem dX11_goOn_93 : decode cX11_goOn 93 = .ok (.iconst 3, 1) := by decide +kernel
theorem dX11_goOn_94 : decode cX11_goOn 94 = .ok (.invokevirtual 114, 3) := by decide +kernel
theorem dX11_goOn_97 : decode cX11_goOn 97 = .ok (.lcmp, 1) := by decide +kernel
theorem dX11_goOn_98 : decode cX11_goOn 98 = .ok (.ifCond .ne 10, 3) := by decide +kernel
theorem dX11_goOn_101 : decode cX11_goOn 101 = .ok (.aload_n 0, 1) := by decide +kernel
theorem dX11_goOn_102 : decode cX11_goOn 102 = .ok (.invokevirtual 131, 3) := by decide +kernel
theorem dX11_goOn_105 : decode cX11_goOn 105 = .ok (.goto 51, 3) := by decide +kernel
theorem dX11_goOn_108 : decode cX11_goOn 108 = .ok (.aload_n 0, 1) := by decide +kernel
theorem dX11_goOn_109 : decode cX11_goOn 109 = .ok (.getfield 7, 3) := by decide +kernel
theorem dX11_goOn_112 : decode cX11_goOn 112 = .ok (.bipush 41, 2) := by decide +kernel
theorem dX11_goOn_114 : decode cX11_goOn 114 = .ok (.laload, 1) := by decide +kernel
theorem dX11_goOn_115 : decode cX11_goOn 115 = .ok (.aload_n 0, 1) := by decide +kernel
theorem dX11_goOn_116 : decode cX11_goOn 116 = .ok (.getfield 7, 3) := by decide +kernel
theorem dX11_goOn_119 : decode cX11_goOn 119 = .ok (.bipush 11, 2) := by decide +kernel
theorem dX11_goOn_121 : decode cX11_goOn 121 = .ok (.laload, 1) := by decide +kernel
theorem dX11_goOn_122 : decode cX11_goOn 122 = .ok (.lcmp, 1) := by decide +kernel
theorem dX11_goOn_123 : decode cX11_goOn 123 = .ok (.ifCond .le 33, 3) := by decide +kernel
theorem dX11_goOn_126 : decode cX11_goOn 126 = .ok (.aload_n 0, 1) := by decide +kernel
theorem dX11_goOn_127 : decode cX11_goOn 127 = .ok (.getfield 7, 3) := by decide +kernel
theorem dX11_goOn_130 : decode cX11_goOn 130 = .ok (.bipush 33, 2) := by decide +kernel
theorem dX11_goOn_132 : decode cX11_goOn 132 = .ok (.ldc2_w 137, 3) := by decide +kernel
theorem dX11_goOn_135 : decode cX11_goOn 135 = .ok (.lastore, 1) := by decide +kernel
theorem dX11_goOn_136 : decode cX11_goOn 136 = .ok (.aload_n 0, 1) := by decide +kernel
theorem dX11_goOn_137 : decode cX11_goOn 137 = .ok (.getfield 7, 3) := by decide +kernel
theorem dX11_goOn_140 : decode cX11_goOn 140 = .ok (.bipush 34, 2) := by decide +kernel
theorem dX11_goOn_142 : decode cX11_goOn 142 = .ok (.lconst 0, 1) := by decide +kernel
theorem dX11_goOn_143 : decode cX11_goOn 143 = .ok (.lastore, 1) := by decide +kernel
theorem dX11_goOn_144 : decode cX11_goOn 144 = .ok (.aload_n 0, 1) := by decide +kernel
theorem dX11_goOn_145 : decode cX11_goOn 145 = .ok (.iconst 5, 1) := by decide +kernel
theorem dX11_goOn_146 : decode cX11_goOn 146 = .ok (.aload_n 0, 1) := by decide +kernel
theorem dX11_goOn_147 : decode cX11_goOn 147 = .ok (.getfield 7, 3) := by decide +kernel
theorem dX11_goOn_150 : decode cX11_goOn 150 = .ok (.bipush 35, 2) := by decide +kernel
theorem dX11_goOn_152 : decode cX11_goOn 152 = .ok (.laload, 1) := by decide +kernel
theorem dX11_goOn_153 : decode cX11_goOn 153 = .ok (.invokevirtual 97, 3) := by decide +kernel
theorem dX11_goOn_156 : decode cX11_goOn 156 = .ok (.return_, 1) := by decide +kernel
def s_X11_goOn_1 (u_14 : (Nat → Int64)) : (Nat → Int64) :=
  u_14
def s_X11_goOn_2 (u_11 : (Nat → Int64)) : (Nat → Int64) :=
  u_11
def s_X11_goOn_3 (u_10 : (Nat → Int64)) : (Nat → Int64) :=
  u_10
def s_X11_goOn_4 (f_t : Nat → Int32) (x_3 : (Nat → Int64)) : (Nat → Int64) :=
  (if (x_3 40) = (s_X11_of_p0_3 f_t x_3) then (s_X11_goOn_2 (s_X11_complete f_t x_3)) else (if (x_3 41) ≤ (x_3 11) then x_3 else (s_X11_goOn_3 (s_X11_enter f_t (vp_updL (vp_updL x_3 33 4) 34 0) 5 (x_3 35)))))
def s_X11_goOn (f_t : Nat → Int32) (f_t_w : Nat → Int64) : (Nat → Int64) :=
  (if (f_t_w 33) = 1 then (if (f_t_w 39) = (s_X11_of_p0_2 f_t f_t_w) then (if (s_X11_of_p0_3 f_t (vp_updL f_t_w 33 2)) = 0 then (s_X11_goOn_1 (s_X11_complete f_t (vp_updL f_t_w 33 2))) else (vp_updL f_t_w 33 2)) else f_t_w) else (s_X11_goOn_4 f_t (if (s_X11_isWithin f_t f_t_w) = 0 then (vp_updL f_t_w 41 ((f_t_w 41) + 1)) else (vp_updL f_t_w 40 ((f_t_w 40) + 1)))))
set_option maxRecDepth 100000 in
set_option maxHeartbeats 4000000 in
theorem c_X11_goOn (l : Launch) (D : va_G) (cI cJ cO : ClassId) (h_t : Nat) (h_t_w : Nat) (h_t_saved : Nat) (h_t_trial : Nat) (h_t_text : Nat) (h_t_told : Nat) (f_t : Nat → Int32) (f_t_w : Nat → Int64) (hf_t_w_35 : kInL (f_t_w 35) 0 11) (hf_t_w_43 : kInL (f_t_w 43) 0 12) (hf_t_w_45 : kInL (f_t_w 45) 0 16) (hf_t_w_46 : kInL (f_t_w 46) 0 24) : kV l yX11_goOn cX11_goOn 1 3 68 D (kT cI cJ cO) [.ref h_t] [(h_t, moE f_t h_t_w h_t_saved h_t_trial h_t_text h_t_told), (h_t_w, jA cJ 294 f_t_w)] [(h_t, moE f_t h_t_w h_t_saved h_t_trial h_t_text h_t_told), (h_t_w, jA cJ 294 (s_X11_goOn f_t f_t_w))] := by
  refine kV_of (own := RX11) (lv := [(0, .ref h_t)]) rfl rfl (by decide) (Nat.le_of_ble_eq_true rfl) ?_
  intro p e s m args below meth c Q A C hret
  refine k_aload_n (pc := 0) C rfl 0 rfl dX11_goOn_0 ?_
  refine g_X11_0 (pc := 1) C q_998 0 rfl dX11_goOn_1 ?_
  refine k_bipush (pc := 4) C bipush_33 dX11_goOn_4 ?_
  refine k_laldK (pc := 6) (v := (f_t_w 33)) C 1 1 rfl rfl (k_vinc 33 cl_33 (by decide) (by decide)) cl_33 rfl dX11_goOn_6 ?_
  refine k_lconst (pc := 7) C lconst_1 dX11_goOn_7 ?_
  refine k_lcmp_ne (pc := 8) (tgt := 53) C dX11_goOn_8 dX11_goOn_9 (by decide) (fun c_1 => ?_) (fun c_1 => ?_)
  · refine k_aload_n (pc := 53) C rfl 0 rfl dX11_goOn_53 ?_
    refine k_callVi (pc := 54) (As := []) (rest := []) (r := (s_X11_isWithin f_t f_t_w)) (wc := [(h_t, moE f_t h_t_w h_t_saved h_t_trial h_t_text h_t_told), (h_t_w, jA cJ 294 f_t_w)]) (wc2 := [(h_t, moE f_t h_t_w h_t_saved h_t_trial h_t_text h_t_told), (h_t_w, jA cJ 294 f_t_w)]) (ws2 := [(h_t, moE f_t h_t_w h_t_saved h_t_trial h_t_text h_t_told), (h_t_w, jA cJ 294 f_t_w)]) C (c_X11_isWithin l D cI cJ cO h_t h_t_w h_t_saved h_t_trial h_t_text h_t_told f_t f_t_w) cwv_X11_isWithin q_1160 vX11 0 rfl [0, 1] rfl rfl (by decide) rfl rfl (Nat.le_of_ble_eq_true rfl) ⟨Nat.le_of_ble_eq_true rfl, Nat.le_of_ble_eq_true rfl⟩ rfl ⟨Nat.le_refl _, Nat.le_refl _⟩ dX11_goOn_54 ?_
    have K_15 : ∀ (x_3 : (Nat → Int64)), x_3 = (if (s_X11_isWithin f_t f_t_w) = 0 then (vp_updL f_t_w 41 ((f_t_w 41) + 1)) else (vp_updL f_t_w 40 ((f_t_w 40) + 1))) → kInL (x_3 35) 0 11 → kInL (x_3 43) 0 12 → kInL (x_3 45) 0 16 → kInL (x_3 46) 0 24 → KJ p l e (kR 3 68) s m args below meth c 0 0 Q D A 1 [(h_t, moE f_t h_t_w h_t_saved h_t_trial h_t_text h_t_told), (h_t_w, jA cJ 294 x_3)] [(0, .ref h_t)] [] 85 := by
      intro x_3 ex_3 hj_4 hj_5 hj_6 hj_7
      refine k_aload_n (pc := 85) C rfl 0 rfl dX11_goOn_85 ?_
      refine g_X11_0 (pc := 86) C q_998 0 rfl dX11_goOn_86 ?_
      refine k_bipush (pc := 89) C bipush_40 dX11_goOn_89 ?_
      refine k_laldK (pc := 91) (v := (x_3 40)) C 1 1 rfl rfl (k_vinc 40 cl_40 (by decide) (by decide)) cl_40 rfl dX11_goOn_91 ?_
      refine k_aload_n (pc := 92) C rfl 0 rfl dX11_goOn_92 ?_
      refine k_iconst (pc := 93) C iconst_3 dX11_goOn_93 ?_
      refine k_callVl (pc := 94) (As := [.int 3]) (rest := [.long (x_3 40)]) (r := (s_X11_of_p0_3 f_t x_3)) (wc := [(h_t, moE f_t h_t_w h_t_saved h_t_trial h_t_text h_t_told), (h_t_w, jA cJ 294 x_3)]) (wc2 := [(h_t, moE f_t h_t_w h_t_saved h_t_trial h_t_text h_t_told), (h_t_w, jA cJ 294 x_3)]) (ws2 := [(h_t, moE f_t h_t_w h_t_saved h_t_trial h_t_text h_t_told), (h_t_w, jA cJ 294 x_3)]) C (c_X11_of_p0_3 l D cI cJ cO h_t h_t_w h_t_saved h_t_trial h_t_text h_t_told f_t x_3 (kInL.rw (F := x_3) (k := 35) rfl hj_4 (by decide) (by decide))) cwv_X11_of q_1117 vX11 0 rfl [0, 1] rfl rfl (by decide) rfl rfl (Nat.le_of_ble_eq_true rfl) ⟨Nat.le_of_ble_eq_true rfl, Nat.le_of_ble_eq_true rfl⟩ rfl ⟨Nat.le_refl _, Nat.le_refl _⟩ dX11_goOn_94 ?_
      refine k_lcmp_ne (pc := 97) (tgt := 108) C dX11_goOn_97 dX11_goOn_98 (by decide) (fun c_8 => ?_) (fun c_8 => ?_)
      · refine k_aload_n (pc := 108) C rfl 0 rfl dX11_goOn_108 ?_
        refine g_X11_0 (pc := 109) C q_998 0 rfl dX11_goOn_109 ?_
        refine k_bipush (pc := 112) C bipush_41 dX11_goOn_112 ?_
        refine k_laldK (pc := 114) (v := (x_3 41)) C 1 1 rfl rfl (k_vinc 41 cl_41 (by decide) (by decide)) cl_41 rfl dX11_goOn_114 ?_
        refine k_aload_n (pc := 115) C rfl 0 rfl dX11_goOn_115 ?_
        refine g_X11_0 (pc := 116) C q_998 0 rfl dX11_goOn_116 ?_
        refine k_bipush (pc := 119) C bipush_11 dX11_goOn_119 ?_
        refine k_laldK (pc := 121) (v := (x_3 11)) C 1 1 rfl rfl (k_vinc 11 cl_11 (by decide) (by decide)) cl_11 rfl dX11_goOn_121 ?_
        refine k_lcmp_le (pc := 122) (tgt := 156) C dX11_goOn_122 dX11_goOn_123 (by decide) (fun c_9 => ?_) (fun c_9 => ?_)
        · have hs : (s_X11_goOn f_t f_t_w) = x_3 := (k_st (g := s_X11_goOn_4 f_t) ex_3 (if_neg c_1) ((if_neg c_8).trans (if_pos c_9)))
          exact k_finV (pc := 156) hret (by rw [hs]) dX11_goOn_156
        · refine k_aload_n (pc := 126) C rfl 0 rfl dX11_goOn_126 ?_
          refine g_X11_0 (pc := 127) C q_998 0 rfl dX11_goOn_127 ?_
          refine k_bipush (pc := 130) C bipush_33 dX11_goOn_130 ?_
          refine k_ldc2 (pc := 132) C q_1164 dX11_goOn_132 ?_
          refine k_lastK (pc := 135) (ws2 := [(h_t, moE f_t h_t_w h_t_saved h_t_trial h_t_text h_t_told), (h_t_w, jA cJ 294 (vp_updL x_3 33 4))]) C 1 1 rfl rfl (k_vinc 33 cl_33 (by decide) (by decide)) cl_33 rfl dX11_goOn_135 ?_
          refine k_aload_n (pc := 136) C rfl 0 rfl dX11_goOn_136 ?_
          refine g_X11_0 (pc := 137) C q_998 0 rfl dX11_goOn_137 ?_
          refine k_bipush (pc := 140) C bipush_34 dX11_goOn_140 ?_
          refine k_lconst (pc := 142) C lconst_0 dX11_goOn_142 ?_
          refine k_lastK (pc := 143) (ws2 := [(h_t, moE f_t h_t_w h_t_saved h_t_trial h_t_text h_t_told), (h_t_w, jA cJ 294 (vp_updL (vp_updL x_3 33 4) 34 0))]) C 1 1 rfl rfl (k_vinc 34 cl_34 (by decide) (by decide)) cl_34 rfl dX11_goOn_143 ?_
          refine k_aload_n (pc := 144) C rfl 0 rfl dX11_goOn_144 ?_
          refine k_iconst (pc := 145) C iconst_5 dX11_goOn_145 ?_
          refine k_aload_n (pc := 146) C rfl 0 rfl dX11_goOn_146 ?_
          refine g_X11_0 (pc := 147) C q_998 0 rfl dX11_goOn_147 ?_
          refine k_bipush (pc := 150) C bipush_35 dX11_goOn_150 ?_
          refine k_laldK (pc := 152) (v := (x_3 35)) C 1 1 rfl rfl (k_vinc 35 cl_35 (by decide) (by decide)) cl_35 (upnL (by decide) (upnL (by decide) rfl)) dX11_goOn_152 ?_
          obtain ⟨u_10, eu_10⟩ : ∃ z : (Nat → Int64), z = (s_X11_enter f_t (vp_updL (vp_updL x_3 33 4) 34 0) 5 (x_3 35)) := ⟨_, rfl⟩
          refine k_callVv (pc := 153) (As := [.int 5, .long (x_3 35)]) (rest := []) (wc := [(h_t, moE f_t h_t_w h_t_saved h_t_trial h_t_text h_t_told), (h_t_w, jA cJ 294 (vp_updL (vp_updL x_3 33 4) 34 0))]) (wc2 := [(h_t, moE f_t h_t_w h_t_saved h_t_trial h_t_text h_t_told), (h_t_w, jA cJ 294 u_10)]) (ws2 := [(h_t, moE f_t h_t_w h_t_saved h_t_trial h_t_text h_t_told), (h_t_w, jA cJ 294 u_10)]) C (by rw [eu_10]; exact c_X11_enter l D cI cJ cO h_t h_t_w h_t_saved h_t_trial h_t_text h_t_told f_t (vp_updL (vp_updL x_3 33 4) 34 0) 5 (x_3 35) (kInL.rw (F := (vp_updL (vp_updL x_3 33 4) 34 0)) (k := 46) (upnL (by decide) (upnL (by decide) rfl)) hj_7 (by decide) (by decide))) cwv_X11_enter q_1093 vX11 0 rfl [0, 1] rfl rfl (by decide) rfl rfl (Nat.le_of_ble_eq_true rfl) ⟨Nat.le_of_ble_eq_true rfl, Nat.le_of_ble_eq_true rfl⟩ rfl ⟨Nat.le_refl _, Nat.le_refl _⟩ dX11_goOn_153 ?_
          have hs : (s_X11_goOn f_t f_t_w) = u_10 := (k_st (g := s_X11_goOn_4 f_t) ex_3 (if_neg c_1) (k_st (g := s_X11_goOn_3) eu_10 ((if_neg c_8).trans (if_neg c_9)) rfl))
          exact k_finV (pc := 156) hret (by rw [hs]) dX11_goOn_156
      · refine k_aload_n (pc := 101) C rfl 0 rfl dX11_goOn_101 ?_
        obtain ⟨u_11, eu_11⟩ : ∃ z : (Nat → Int64), z = (s_X11_complete f_t x_3) := ⟨_, rfl⟩
        refine k_callVv (pc := 102) (As := []) (rest := []) (wc := [(h_t, moE f_t h_t_w h_t_saved h_t_trial h_t_text h_t_told), (h_t_w, jA cJ 294 x_3)]) (wc2 := [(h_t, moE f_t h_t_w h_t_saved h_t_trial h_t_text h_t_told), (h_t_w, jA cJ 294 u_11)]) (ws2 := [(h_t, moE f_t h_t_w h_t_saved h_t_trial h_t_text h_t_told), (h_t_w, jA cJ 294 u_11)]) C (by rw [eu_11]; exact c_X11_complete l D cI cJ cO h_t h_t_w h_t_saved h_t_trial h_t_text h_t_told f_t x_3 (kInL.rw (F := x_3) (k := 35) rfl hj_4 (by decide) (by decide)) (kInL.rw (F := x_3) (k := 43) rfl hj_5 (by decide) (by decide)) (kInL.rw (F := x_3) (k := 45) rfl hj_6 (by decide) (by decide)) (kInL.rw (F := x_3) (k := 46) rfl hj_7 (by decide) (by decide))) cwv_X11_complete q_1147 vX11 0 rfl [0, 1] rfl rfl (by decide) rfl rfl (Nat.le_of_ble_eq_true rfl) ⟨Nat.le_of_ble_eq_true rfl, Nat.le_of_ble_eq_true rfl⟩ rfl ⟨Nat.le_refl _, Nat.le_refl _⟩ dX11_goOn_102 ?_
        refine k_goto (pc := 105) (tgt := 156) C (by decide) dX11_goOn_105 ?_
        have hs : (s_X11_goOn f_t f_t_w) = u_11 := (k_st (g := s_X11_goOn_4 f_t) ex_3 (if_neg c_1) (k_st (g := s_X11_goOn_2) eu_11 (if_pos c_8) rfl))
        exact k_finV (pc := 156) hret (by rw [hs]) dX11_goOn_156
    refine k_if_eq (pc := 57) (tgt := 74) C dX11_goOn_57 (by decide) (fun c_2 => ?_) (fun c_2 => ?_)
    · refine k_aload_n (pc := 74) C rfl 0 rfl dX11_goOn_74 ?_
      refine g_X11_0 (pc := 75) C q_998 0 rfl dX11_goOn_75 ?_
      refine k_bipush (pc := 78) C bipush_41 dX11_goOn_78 ?_
      refine k_dup2 (pc := 80) C rfl rfl dX11_goOn_80 ?_
      refine k_laldK (pc := 81) (v := (f_t_w 41)) C 1 1 rfl rfl (k_vinc 41 cl_41 (by decide) (by decide)) cl_41 rfl dX11_goOn_81 ?_
      refine k_lconst (pc := 82) C lconst_1 dX11_goOn_82 ?_
      refine k_ladd (pc := 83) C dX11_goOn_83 ?_
      refine k_lastK (pc := 84) (ws2 := [(h_t, moE f_t h_t_w h_t_saved h_t_trial h_t_text h_t_told), (h_t_w, jA cJ 294 (vp_updL f_t_w 41 ((f_t_w 41) + 1)))]) C 1 1 rfl rfl (k_vinc 41 cl_41 (by decide) (by decide)) cl_41 rfl dX11_goOn_84 ?_
      exact K_15 (vp_updL f_t_w 41 ((f_t_w 41) + 1)) (Eq.symm (if_pos c_2)) (kInL.rw (F := (vp_updL f_t_w 41 ((f_t_w 41) + 1))) (k := 35) (upnL (by decide) rfl) hf_t_w_35 (by decide) (by decide)) (kInL.rw (F := (vp_updL f_t_w 41 ((f_t_w 41) + 1))) (k := 43) (upnL (by decide) rfl) hf_t_w_43 (by decide) (by decide)) (kInL.rw (F := (vp_updL f_t_w 41 ((f_t_w 41) + 1))) (k := 45) (upnL (by decide) rfl) hf_t_w_45 (by decide) (by decide)) (kInL.rw (F := (vp_updL f_t_w 41 ((f_t_w 41) + 1))) (k := 46) (upnL (by decide) rfl) hf_t_w_46 (by decide) (by decide))
    · refine k_aload_n (pc := 60) C rfl 0 rfl dX11_goOn_60 ?_
      refine g_X11_0 (pc := 61) C q_998 0 rfl dX11_goOn_61 ?_
      refine k_bipush (pc := 64) C bipush_40 dX11_goOn_64 ?_
      refine k_dup2 (pc := 66) C rfl rfl dX11_goOn_66 ?_
      refine k_laldK (pc := 67) (v := (f_t_w 40)) C 1 1 rfl rfl (k_vinc 40 cl_40 (by decide) (by decide)) cl_40 rfl dX11_goOn_67 ?_
      refine k_lconst (pc := 68) C lconst_1 dX11_goOn_68 ?_
      refine k_ladd (pc := 69) C dX11_goOn_69 ?_
      refine k_lastK (pc := 70) (ws2 := [(h_t, moE f_t h_t_w h_t_saved h_t_trial h_t_text h_t_told), (h_t_w, jA cJ 294 (vp_updL f_t_w 40 ((f_t_w 40) + 1)))]) C 1 1 rfl rfl (k_vinc 40 cl_40 (by decide) (by decide)) cl_40 rfl dX11_goOn_70 ?_
      refine k_goto (pc := 71) (tgt := 85) C (by decide) dX11_goOn_71 ?_
      exact K_15 (vp_updL f_t_w 40 ((f_t_w 40) + 1)) (Eq.symm (if_neg c_2)) (kInL.rw (F := (vp_updL f_t_w 40 ((f_t_w 40) + 1))) (k := 35) (upnL (by decide) rfl) hf_t_w_35 (by decide) (by decide)) (kInL.rw (F := (vp_updL f_t_w 40 ((f_t_w 40) + 1))) (k := 43) (upnL (by decide) rfl) hf_t_w_43 (by decide) (by decide)) (kInL.rw (F := (vp_updL f_t_w 40 ((f_t_w 40) + 1))) (k := 45) (upnL (by decide) rfl) hf_t_w_45 (by decide) (by decide)) (kInL.rw (F := (vp_updL f_t_w 40 ((f_t_w 40) + 1))) (k := 46) (upnL (by decide) rfl) hf_t_w_46 (by decide) (by decide))
  · refine k_aload_n (pc := 12) C rfl 0 rfl dX11_goOn_12 ?_
    refine g_X11_0 (pc := 13) C q_998 0 rfl dX11_goOn_13 ?_
    refine k_bipush (pc := 16) C bipush_39 dX11_goOn_16 ?_
    refine k_laldK (pc := 18) (v := (f_t_w 39)) C 1 1 rfl rfl (k_vinc 39 cl_39 (by decide) (by decide)) cl_39 rfl dX11_goOn_18 ?_
    refine k_aload_n (pc := 19) C rfl 0 rfl dX11_goOn_19 ?_
    refine k_iconst (pc := 20) C iconst_2 dX11_goOn_20 ?_
    refine k_callVl (pc := 21) (As := [.int 2]) (rest := [.long (f_t_w 39)]) (r := (s_X11_of_p0_2 f_t f_t_w)) (wc := [(h_t, moE f_t h_t_w h_t_saved h_t_trial h_t_text h_t_told), (h_t_w, jA cJ 294 f_t_w)]) (wc2 := [(h_t, moE f_t h_t_w h_t_saved h_t_trial h_t_text h_t_told), (h_t_w, jA cJ 294 f_t_w)]) (ws2 := [(h_t, moE f_t h_t_w h_t_saved h_t_trial h_t_text h_t_told), (h_t_w, jA cJ 294 f_t_w)]) C (c_X11_of_p0_2 l D cI cJ cO h_t h_t_w h_t_saved h_t_trial h_t_text h_t_told f_t f_t_w (kInL.rw (F := f_t_w) (k := 35) rfl hf_t_w_35 (by decide) (by decide))) cwv_X11_of q_1117 vX11 0 rfl [0, 1] rfl rfl (by decide) rfl rfl (Nat.le_of_ble_eq_true rfl) ⟨Nat.le_of_ble_eq_true rfl, Nat.le_of_ble_eq_true rfl⟩ rfl ⟨Nat.le_refl _, Nat.le_refl _⟩ dX11_goOn_21 ?_
    refine k_lcmp_ne (pc := 24) (tgt := 52) C dX11_goOn_24 dX11_goOn_25 (by decide) (fun c_12 => ?_) (fun c_12 => ?_)
    · have hs : (s_X11_goOn f_t f_t_w) = f_t_w := ((if_pos c_1).trans (if_neg c_12))
      exact k_finV (pc := 52) hret (by rw [hs]) dX11_goOn_52
    · refine k_aload_n (pc := 28) C rfl 0 rfl dX11_goOn_28 ?_
      refine g_X11_0 (pc := 29) C q_998 0 rfl dX11_goOn_29 ?_
      refine k_bipush (pc := 32) C bipush_33 dX11_goOn_32 ?_
      refine k_ldc2 (pc := 34) C q_989 dX11_goOn_34 ?_
      refine k_lastK (pc := 37) (ws2 := [(h_t, moE f_t h_t_w h_t_saved h_t_trial h_t_text h_t_told), (h_t_w, jA cJ 294 (vp_updL f_t_w 33 2))]) C 1 1 rfl rfl (k_vinc 33 cl_33 (by decide) (by decide)) cl_33 rfl dX11_goOn_37 ?_
      refine k_aload_n (pc := 38) C rfl 0 rfl dX11_goOn_38 ?_
      refine k_iconst (pc := 39) C iconst_3 dX11_goOn_39 ?_
      refine k_callVl (pc := 40) (As := [.int 3]) (rest := []) (r := (s_X11_of_p0_3 f_t (vp_updL f_t_w 33 2))) (wc := [(h_t, moE f_t h_t_w h_t_saved h_t_trial h_t_text h_t_told), (h_t_w, jA cJ 294 (vp_updL f_t_w 33 2))]) (wc2 := [(h_t, moE f_t h_t_w h_t_saved h_t_trial h_t_text h_t_told), (h_t_w, jA cJ 294 (vp_updL f_t_w 33 2))]) (ws2 := [(h_t, moE f_t h_t_w h_t_saved h_t_trial h_t_text h_t_told), (h_t_w, jA cJ 294 (vp_updL f_t_w 33 2))]) C (c_X11_of_p0_3 l D cI cJ cO h_t h_t_w h_t_saved h_t_trial h_t_text h_t_told f_t (vp_updL f_t_w 33 2) (kInL.rw (F := (vp_updL f_t_w 33 2)) (k := 35) (upnL (by decide) rfl) hf_t_w_35 (by decide) (by decide))) cwv_X11_of q_1117 vX11 0 rfl [0, 1] rfl rfl (by decide) rfl rfl (Nat.le_of_ble_eq_true rfl) ⟨Nat.le_of_ble_eq_true rfl, Nat.le_of_ble_eq_true rfl⟩ rfl ⟨Nat.le_refl _, Nat.le_refl _⟩ dX11_goOn_40 ?_
      refine k_lconst (pc := 43) C lconst_0 dX11_goOn_43 ?_
      refine k_lcmp_ne (pc := 44) (tgt := 52) C dX11_goOn_44 dX11_goOn_45 (by decide) (fun c_13 => ?_) (fun c_13 => ?_)
      · have hs : (s_X11_goOn f_t f_t_w) = (vp_updL f_t_w 33 2) := ((if_pos c_1).trans ((if_pos c_12).trans (if_neg c_13)))
        exact k_finV (pc := 52) hret (by rw [hs]) dX11_goOn_52
      · refine k_aload_n (pc := 48) C rfl 0 rfl dX11_goOn_48 ?_
        obtain ⟨u_14, eu_14⟩ : ∃ z : (Nat → Int64), z = (s_X11_complete f_t (vp_updL f_t_w 33 2)) := ⟨_, rfl⟩
        refine k_callVv (pc := 49) (As := []) (rest := []) (wc := [(h_t, moE f_t h_t_w h_t_saved h_t_trial h_t_text h_t_told), (h_t_w, jA cJ 294 (vp_updL f_t_w 33 2))]) (wc2 := [(h_t, moE f_t h_t_w h_t_saved h_t_trial h_t_text h_t_told), (h_t_w, jA cJ 294 u_14)]) (ws2 := [(h_t, moE f_t h_t_w h_t_saved h_t_trial h_t_text h_t_told), (h_t_w, jA cJ 294 u_14)]) C (by rw [eu_14]; exact c_X11_complete l D cI cJ cO h_t h_t_w h_t_saved h_t_trial h_t_text h_t_told f_t (vp_updL f_t_w 33 2) (kInL.rw (F := (vp_updL f_t_w 33 2)) (k := 35) (upnL (by decide) rfl) hf_t_w_35 (by decide) (by decide)) (kInL.rw (F := (vp_updL f_t_w 33 2)) (k := 43) (upnL (by decide) rfl) hf_t_w_43 (by decide) (by decide)) (kInL.rw (F := (vp_updL f_t_w 33 2)) (k := 45) (upnL (by decide) rfl) hf_t_w_45 (by decide) (by decide)) (kInL.rw (F := (vp_updL f_t_w 33 2)) (k := 46) (upnL (by decide) rfl) hf_t_w_46 (by decide) (by decide))) cwv_X11_complete q_1147 vX11 0 rfl [0, 1] rfl rfl (by decide) rfl rfl (Nat.le_of_ble_eq_true rfl) ⟨Nat.le_of_ble_eq_true rfl, Nat.le_of_ble_eq_true rfl⟩ rfl ⟨Nat.le_refl _, Nat.le_refl _⟩ dX11_goOn_49 ?_
        have hs : (s_X11_goOn f_t f_t_w) = u_14 := (k_st (g := s_X11_goOn_1) eu_14 ((if_pos c_1).trans ((if_pos c_12).trans (if_pos c_13))) rfl)
        exact k_finV (pc := 52) hret (by rw [hs]) dX11_goOn_52

theorem dX11_count_0 : decode cX11_count 0 = .ok (.aload_n 0, 1) := by decide +kernel
theorem dX11_count_1 : decode cX11_count 1 = .ok (.getfield 7, 3) := by decide +kernel
theorem dX11_count_4 : decode cX11_count 4 = .ok (.bipush 23, 2) := by decide +kernel
theorem dX11_count_6 : decode cX11_count 6 = .ok (.lload_n 1, 1) := by decide +kernel
theorem dX11_count_7 : decode cX11_count 7 = .ok (.lconst 0, 1) := by decide +kernel
theorem dX11_count_8 : decode cX11_count 8 = .ok (.lcmp, 1) := by decide +kernel
theorem dX11_count_9 : decode cX11_count 9 = .ok (.ifCond .le 7, 3) := by decide +kernel
theorem dX11_count_12 : decode cX11_count 12 = .ok (.lconst 0, 1) := by decide +kernel
theorem dX11_count_13 : decode cX11_count 13 = .ok (.goto 19, 3) := by decide +kernel
theorem dX11_count_16 : decode cX11_count 16 = .ok (.aload_n 0, 1) := by decide +kernel
theorem dX11_count_17 : decode cX11_count 17 = .ok (.getfield 7, 3) := by decide +kernel
theorem dX11_count_20 : decode cX11_count 20 = .ok (.bipush 23, 2) := by decide +kernel
theorem dX11_count_22 : decode cX11_count 22 = .ok (.laload, 1) := by decide +kernel
theorem dX11_count_23 : decode cX11_count 23 = .ok (.lconst 1, 1) := by decide +kernel
theorem dX11_count_24 : decode cX11_count 24 = .ok (.ladd, 1) := by decide +kernel
theorem dX11_count_25 : decode cX11_count 25 = .ok (.lconst 0, 1) := by decide +kernel
theorem dX11_count_26 : decode cX11_count 26 = .ok (.ldc2_w 46, 3) := by decide +kernel
theorem dX11_count_29 : decode cX11_count 29 = .ok (.invokestatic 107, 3) := by decide +kernel
theorem dX11_count_32 : decode cX11_count 32 = .ok (.lastore, 1) := by decide +kernel
theorem dX11_count_33 : decode cX11_count 33 = .ok (.aload_n 0, 1) := by decide +kernel
theorem dX11_count_34 : decode cX11_count 34 = .ok (.getfield 7, 3) := by decide +kernel
theorem dX11_count_37 : decode cX11_count 37 = .ok (.bipush 24, 2) := by decide +kernel
theorem dX11_count_39 : decode cX11_count 39 = .ok (.lload_n 1, 1) := by decide +kernel
theorem dX11_count_40 : decode cX11_count 40 = .ok (.lconst 0, 1) := by decide +kernel
theorem dX11_count_41 : decode cX11_count 41 = .ok (.lcmp, 1) := by decide +kernel
theorem dX11_count_42 : decode cX11_count 42 = .ok (.ifCond .ge 7, 3) := by decide +kernel
theorem dX11_count_45 : decode cX11_count 45 = .ok (.lconst 0, 1) := by decide +kernel
theorem dX11_count_46 : decode cX11_count 46 = .ok (.goto 19, 3) := by decide +kernel
theorem dX11_count_49 : decode cX11_count 49 = .ok (.aload_n 0, 1) := by decide +kernel
theorem dX11_count_50 : decode cX11_count 50 = .ok (.getfield 7, 3) := by decide +kernel
theorem dX11_count_53 : decode cX11_count 53 = .ok (.bipush 24, 2) := by decide +kernel
theorem dX11_count_55 : decode cX11_count 55 = .ok (.laload, 1) := by decide +kernel
theorem dX11_count_56 : decode cX11_count 56 = .ok (.lconst 1, 1) := by decide +kernel
theorem dX11_count_57 : decode cX11_count 57 = .ok (.ladd, 1) := by decide +kernel
theorem dX11_count_58 : decode cX11_count 58 = .ok (.lconst 0, 1) := by decide +kernel
theorem dX11_count_59 : decode cX11_count 59 = .ok (.ldc2_w 46, 3) := by decide +kernel
theorem dX11_count_62 : decode cX11_count 62 = .ok (.invokestatic 107, 3) := by decide +kernel
theorem dX11_count_65 : decode cX11_count 65 = .ok (.lastore, 1) := by decide +kernel
theorem dX11_count_66 : decode cX11_count 66 = .ok (.aload_n 0, 1) := by decide +kernel
theorem dX11_count_67 : decode cX11_count 67 = .ok (.getfield 7, 3) := by decide +kernel
theorem dX11_count_70 : decode cX11_count 70 = .ok (.bipush 25, 2) := by decide +kernel
theorem dX11_count_72 : decode cX11_count 72 = .ok (.dup2, 1) := by decide +kernel
theorem dX11_count_73 : decode cX11_count 73 = .ok (.laload, 1) := by decide +kernel
theorem dX11_count_74 : decode cX11_count 74 = .ok (.lload_n 1, 1) := by decide +kernel
theorem dX11_count_75 : decode cX11_count 75 = .ok (.lconst 0, 1) := by decide +kernel
theorem dX11_count_76 : decode cX11_count 76 = .ok (.lcmp, 1) := by decide +kernel
theorem dX11_count_77 : decode cX11_count 77 = .ok (.ifCond .le 7, 3) := by decide +kernel
theorem dX11_count_80 : decode cX11_count 80 = .ok (.lconst 1, 1) := by decide +kernel
theorem dX11_count_81 : decode cX11_count 81 = .ok (.goto 4, 3) := by decide +kernel
theorem dX11_count_84 : decode cX11_count 84 = .ok (.lconst 0, 1) := by decide +kernel
theorem dX11_count_85 : decode cX11_count 85 = .ok (.ladd, 1) := by decide +kernel
theorem dX11_count_86 : decode cX11_count 86 = .ok (.lastore, 1) := by decide +kernel
theorem dX11_count_87 : decode cX11_count 87 = .ok (.aload_n 0, 1) := by decide +kernel
theorem dX11_count_88 : decode cX11_count 88 = .ok (.getfield 7, 3) := by decide +kernel
theorem dX11_count_91 : decode cX11_count 91 = .ok (.bipush 26, 2) := by decide +kernel
theorem dX11_count_93 : decode cX11_count 93 = .ok (.dup2, 1) := by decide +kernel
theorem dX11_count_94 : decode cX11_count 94 = .ok (.laload, 1) := by decide +kernel
theorem dX11_count_95 : decode cX11_count 95 = .ok (.lload_n 1, 1) := by decide +kernel
theorem dX11_count_96 : decode cX11_count 96 = .ok (.lconst 0, 1) := by decide +kernel
theorem dX11_count_97 : decode cX11_count 97 = .ok (.lcmp, 1) := by decide +kernel
theorem dX11_count_98 : decode cX11_count 98 = .ok (.ifCond .ge 7, 3) := by decide +kernel
theorem dX11_count_101 : decode cX11_count 101 = .ok (.lconst 1, 1) := by decide +kernel
theorem dX11_count_102 : decode cX11_count 102 = .ok (.goto 4, 3) := by decide +kernel
theorem dX11_count_105 : decode cX11_count 105 = .ok (.lconst 0, 1) := by decide +kernel
theorem dX11_count_106 : decode cX11_count 106 = .ok (.ladd, 1) := by decide +kernel
theorem dX11_count_107 : decode cX11_count 107 = .ok (.lastore, 1) := by decide +kernel
theorem dX11_count_108 : decode cX11_count 108 = .ok (.aload_n 0, 1) := by decide +kernel
theorem dX11_count_109 : decode cX11_count 109 = .ok (.getfield 7, 3) := by decide +kernel
theorem dX11_count_112 : decode cX11_count 112 = .ok (.bipush 27, 2) := by decide +kernel
theorem dX11_count_114 : decode cX11_count 114 = .ok (.dup2, 1) := by decide +kernel
theorem dX11_count_115 : decode cX11_count 115 = .ok (.laload, 1) := by decide +kernel
theorem dX11_count_116 : decode cX11_count 116 = .ok (.lload_n 3, 1) := by decide +kernel
theorem dX11_count_117 : decode cX11_count 117 = .ok (.lconst 0, 1) := by decide +kernel
theorem dX11_count_118 : decode cX11_count 118 = .ok (.lcmp, 1) := by decide +kernel
theorem dX11_count_119 : decode cX11_count 119 = .ok (.ifCond .le 7, 3) := by decide +kernel
theorem dX11_count_122 : decode cX11_count 122 = .ok (.lconst 1, 1) := by decide +kernel
theorem dX11_count_123 : decode cX11_count 123 = .ok (.goto 4, 3) := by decide +kernel
theorem dX11_count_126 : decode cX11_count 126 = .ok (.lconst 0, 1) := by decide +kernel
theorem dX11_count_127 : decode cX11_count 127 = .ok (.ladd, 1) := by decide +kernel
theorem dX11_count_128 : decode cX11_count 128 = .ok (.lastore, 1) := by decide +kernel
theorem dX11_count_129 : decode cX11_count 129 = .ok (.aload_n 0, 1) := by decide +kernel
theorem dX11_count_130 : decode cX11_count 130 = .ok (.getfield 7, 3) := by decide +kernel
theorem dX11_count_133 : decode cX11_count 133 = .ok (.bipush 28, 2) := by decide +kernel
theorem dX11_count_135 : decode cX11_count 135 = .ok (.dup2, 1) := by decide +kernel
theorem dX11_count_136 : decode cX11_count 136 = .ok (.laload, 1) := by decide +kernel
theorem dX11_count_137 : decode cX11_count 137 = .ok (.lload_n 3, 1) := by decide +kernel
theorem dX11_count_138 : decode cX11_count 138 = .ok (.lconst 0, 1) := by decide +kernel
theorem dX11_count_139 : decode cX11_count 139 = .ok (.lcmp, 1) := by decide +kernel
theorem dX11_count_140 : decode cX11_count 140 = .ok (.ifCond .ge 7, 3) := by decide +kernel
theorem dX11_count_143 : decode cX11_count 143 = .ok (.lconst 1, 1) := by decide +kernel
theorem dX11_count_144 : decode cX11_count 144 = .ok (.goto 4, 3) := by decide +kernel
theorem dX11_count_147 : decode cX11_count 147 = .ok (.lconst 0, 1) := by decide +kernel
theorem dX11_count_148 : decode cX11_count 148 = .ok (.ladd, 1) := by decide +kernel
theorem dX11_count_149 : decode cX11_count 149 = .ok (.lastore, 1) := by decide +kernel
theorem dX11_count_150 : decode cX11_count 150 = .ok (.aload_n 0, 1) := by decide +kernel
theorem dX11_count_151 : decode cX11_count 151 = .ok (.getfield 7, 3) := by decide +kernel
theorem dX11_count_154 : decode cX11_count 154 = .ok (.bipush 31, 2) := by decide +kernel
theorem dX11_count_156 : decode cX11_count 156 = .ok (.dup2, 1) := by decide +kernel
theorem dX11_count_157 : decode cX11_count 157 = .ok (.laload, 1) := by decide +kernel
theorem dX11_count_158 : decode cX11_count 158 = .ok (.lload_n 1, 1) := by decide +kernel
theorem dX11_count_159 : decode cX11_count 159 = .ok (.invokestatic 101, 3) := by decide +kernel
theorem dX11_count_162 : decode cX11_count 162 = .ok (.lload_n 3, 1) := by decide +kernel
theorem dX11_count_163 : decode cX11_count 163 = .ok (.invokestatic 101, 3) := by decide +kernel
theorem dX11_count_166 : decode cX11_count 166 = .ok (.ladd, 1) := by decide +kernel
theorem dX11_count_167 : decode cX11_count 167 = .ok (.ladd, 1) := by decide +kernel
theorem dX11_count_168 : decode cX11_count 168 = .ok (.lastore, 1) := by decide +kernel
theorem dX11_count_169 : decode cX11_count 169 = .ok (.aload_n 0, 1) := by decide +kernel
theorem dX11_count_170 : decode cX11_count 170 = .ok (.getfield 7, 3) := by decide +kernel
theorem dX11_count_173 : decode cX11_count 173 = .ok (.bipush 48, 2) := by decide +kernel
theorem dX11_count_175 : decode cX11_count 175 = .ok (.laload, 1) := by decide +kernel
theorem dX11_count_176 : decode cX11_count 176 = .ok (.ldc2_w 42, 3) := by decide +kernel
theorem dX11_count_179 : decode cX11_count 179 = .ok (.lcmp, 1) := by decide +kernel
theorem dX11_count_180 : decode cX11_count 180 = .ok (.ifCond .ne 54, 3) := by decide +kernel
theorem dX11_count_183 : decode cX11_count 183 = .ok (.iconst 0, 1) := by decide +kernel
theorem dX11_count_184 : decode cX11_count 184 = .ok (.istore 5, 2) := by decide +kernel
theorem dX11_count_186 : decode cX11_count 186 = .ok (.iload 5, 2) := by decide +kernel
theorem dX11_count_188 : decode cX11_count 188 = .ok (.bipush 59, 2) := by decide +kernel
theorem dX11_count_190 : decode cX11_count 190 = .ok (.if_icmp .ge 33, 3) := by decide +kernel
theorem dX11_count_193 : decode cX11_count 193 = .ok (.aload_n 0, 1) := by decide +kernel
theorem dX11_count_194 : decode cX11_count 194 = .ok (.getfield 7, 3) := by decide +kernel
theorem dX11_count_197 : decode cX11_count 197 = .ok (.sipush 234, 3) := by decide +kernel
theorem dX11_count_200 : decode cX11_count 200 = .ok (.iload 5, 2) := by decide +kernel
theorem dX11_count_202 : decode cX11_count 202 = .ok (.iadd, 1) := by decide +kernel
theorem dX11_count_203 : decode cX11_count 203 = .ok (.aload_n 0, 1) := by decide +kernel
theorem dX11_count_204 : decode cX11_count 204 = .ok (.getfield 7, 3) := by decide +kernel
theorem dX11_count_207 : decode cX11_count 207 = .ok (.sipush 234, 3) := by decide +kernel
theorem dX11_count_210 : decode cX11_count 210 = .ok (.iload 5, 2) := by decide +kernel
theorem dX11_count_212 : decode cX11_count 212 = .ok (.iadd, 1) := by decide +kernel
theorem dX11_count_213 : decode cX11_count 213 = .ok (.iconst 1, 1) := by decide +kernel
theorem dX11_count_214 : decode cX11_count 214 = .ok (.iadd, 1) := by decide +kernel
theorem dX11_count_215 : decode cX11_count 215 = .ok (.laload, 1) := by decide +kernel
theorem dX11_count_216 : decode cX11_count 216 = .ok (.lastore, 1) := by decide +kernel
theorem dX11_count_217 : decode cX11_count 217 = .ok (.iinc 5 1, 3) := by decide +kernel
theorem dX11_count_220 : decode cX11_count 220 = .ok (.goto (-34), 3) := by decide +kernel
theorem dX11_count_223 : decode cX11_count 223 = .ok (.aload_n 0, 1) := by decide +kernel
theorem dX11_count_224 : decode cX11_count 224 = .ok (.getfield 7, 3) := by decide +kernel
theorem dX11_count_227 : decode cX11_count 227 = .ok (.bipush 48, 2) := by decide +kernel
theorem dX11_count_229 : decode cX11_count 229 = .ok (.dup2, 1) := by decide +kernel
theorem dX11_count_230 : decode cX11_count 230 = .ok (.laload, 1) := by decide +kernel
theorem dX11_count_231 : decode cX11_count 231 = .ok (.lconst 1, 1) := by decide +kernel
theorem dX11_count_232 : decode cX11_count 232 = .ok (.lsub, 1) := by decide +kernel
theorem dX11_count_233 : decode cX11_count 233 = .ok (.lastore, 1) := by decide +kernel
theorem dX11_count_234 : decode cX11_count 234 = .ok (.aload_n 0, 1) := by decide +kernel
theorem dX11_count_235 : decode cX11_count 235 = .ok (.getfield 7, 3) := by decide +kernel
theorem dX11_count_238 : decode cX11_count 238 = .ok (.sipush 234, 3) := by decide +kernel
theorem dX11_count_241 : decode cX11_count 241 = .ok (.aload_n 0, 1) := by decide +kernel
theorem dX11_count_242 : decode cX11_count 242 = .ok (.getfield 7, 3) := by decide +kernel
theorem dX11_count_245 : decode cX11_count 245 = .ok (.bipush 48, 2) := by decide +kernel
theorem dX11_count_247 : decode cX11_count 247 = .ok (.laload, 1) := by decide +kernel
theorem dX11_count_248 : decode cX11_count 248 = .ok (.l2i, 1) := by decide +kernel
theorem dX11_count_249 : decode cX11_count 249 = .ok (.iadd, 1) := by decide +kernel
theorem dX11_count_250 : decode cX11_count 250 = .ok (.aload_n 0, 1) := by decide +kernel
theorem dX11_count_251 : decode cX11_count 251 = .ok (.getfield 7, 3) := by decide +kernel
theorem dX11_count_254 : decode cX11_count 254 = .ok (.bipush 12, 2) := by decide +kernel
theorem dX11_count_256 : decode cX11_count 256 = .ok (.laload, 1) := by decide +kernel
theorem dX11_count_257 : decode cX11_count 257 = .ok (.lastore, 1) := by decide +kernel
theorem dX11_count_258 : decode cX11_count 258 = .ok (.aload_n 0, 1) := by decide +kernel
theorem dX11_count_259 : decode cX11_count 259 = .ok (.getfield 7, 3) := by decide +kernel
theorem dX11_count_262 : decode cX11_count 262 = .ok (.bipush 48, 2) := by decide +kernel
theorem dX11_count_264 : decode cX11_count 264 = .ok (.dup2, 1) := by decide +kernel
theorem dX11_count_265 : decode cX11_count 265 = .ok (.laload, 1) := by decide +kernel
theorem dX11_count_266 : decode cX11_count 266 = .ok (.lconst 1, 1) := by decide +kernel
theorem dX11_count_267 : decode cX11_count 267 = .ok (.ladd, 1) := by decide +kernel
theorem dX11_count_268 : decode cX11_count 268 = .ok (.lastore, 1) := by decide +kernel
theorem dX11_count_269 : decode cX11_count 269 = .ok (.return_, 1) := by decide +kernel
def b_X11_count_L186 (z_17 : Int32 × (Nat → Int64)) : (Int32 × (Nat → Int64)) ⊕ (Int32 × (Nat → Int64)) :=
  (if 59 ≤ z_17.1 then (Sum.inr (z_17.1, z_17.2)) else (Sum.inl ((z_17.1 + 1), (vp_updL z_17.2 (Int32.toNatClampNeg (234 + z_17.1)) (z_17.2 (Int32.toNatClampNeg ((234 + z_17.1) + 1)))))))
def j_X11_count_1 (m_21 : Int32 × (Nat → Int64)) : (Nat → Int64) :=
  (vp_updL m_21.2 48 ((m_21.2 48) - 1))
def j_X11_count_2 (f_t_w : Nat → Int64) (x_2 : Int64) (x_4 : Int64) (x_6 : Int64) (x_8 : Int64) (x_10 : Int64) (x_12 : Int64) (p0 : Int64) (p1 : Int64) : (Nat → Int64) :=
  (if (f_t_w 48) = 60 then (j_X11_count_1 (kLoop default (b_X11_count_L186) ((Int32.toInt 59 - Int32.toInt 0).toNat + 1) (0, (vp_updL (vp_updL (vp_updL (vp_updL (vp_updL (vp_updL (vp_updL f_t_w 23 x_2) 24 x_4) 25 ((f_t_w 25) + x_6)) 26 ((f_t_w 26) + x_8)) 27 ((f_t_w 27) + x_10)) 28 ((f_t_w 28) + x_12)) 31 ((f_t_w 31) + ((s_X11_size p0) + (s_X11_size p1))))))) else (vp_updL (vp_updL (vp_updL (vp_updL (vp_updL (vp_updL (vp_updL f_t_w 23 x_2) 24 x_4) 25 ((f_t_w 25) + x_6)) 26 ((f_t_w 26) + x_8)) 27 ((f_t_w 27) + x_10)) 28 ((f_t_w 28) + x_12)) 31 ((f_t_w 31) + ((s_X11_size p0) + (s_X11_size p1)))))
def s_X11_count_3 (x_23 : (Nat → Int64)) : (Nat → Int64) :=
  (vp_updL (vp_updL x_23 (Int32.toNatClampNeg (234 + (Int64.toInt32 (x_23 48)))) (x_23 12)) 48 ((x_23 48) + 1))
def s_X11_count_4 (f_t_w : Nat → Int64) (x_2 : Int64) (x_4 : Int64) (x_6 : Int64) (x_8 : Int64) (x_10 : Int64) (p0 : Int64) (p1 : Int64) (x_12 : Int64) : (Nat → Int64) :=
  (s_X11_count_3 (j_X11_count_2 f_t_w x_2 x_4 x_6 x_8 x_10 x_12 p0 p1))
def s_X11_count_5 (f_t_w : Nat → Int64) (x_2 : Int64) (x_4 : Int64) (x_6 : Int64) (x_8 : Int64) (p0 : Int64) (p1 : Int64) (x_10 : Int64) : (Nat → Int64) :=
  (s_X11_count_4 f_t_w x_2 x_4 x_6 x_8 x_10 p0 p1 (if 0 ≤ p1 then 0 else 1))
def s_X11_count_6 (f_t_w : Nat → Int64) (x_2 : Int64) (x_4 : Int64) (x_6 : Int64) (p0 : Int64) (p1 : Int64) (x_8 : Int64) : (Nat → Int64) :=
  (s_X11_count_5 f_t_w x_2 x_4 x_6 x_8 p0 p1 (if p1 ≤ 0 then 0 else 1))
def s_X11_count_7 (f_t_w : Nat → Int64) (x_2 : Int64) (x_4 : Int64) (p0 : Int64) (p1 : Int64) (x_6 : Int64) : (Nat → Int64) :=
  (s_X11_count_6 f_t_w x_2 x_4 x_6 p0 p1 (if 0 ≤ p0 then 0 else 1))
def s_X11_count_8 (f_t_w : Nat → Int64) (x_2 : Int64) (p0 : Int64) (p1 : Int64) (x_4 : Int64) : (Nat → Int64) :=
  (s_X11_count_7 f_t_w x_2 x_4 p0 p1 (if p0 ≤ 0 then 0 else 1))
def s_X11_count_9 (f_t_w : Nat → Int64) (p0 : Int64) (p1 : Int64) (x_2 : Int64) : (Nat → Int64) :=
  (s_X11_count_8 f_t_w x_2 p0 p1 (if 0 ≤ p0 then (s_X11_within ((f_t_w 24) + 1) 0 1000) else 0))
def s_X11_count (f_t : Nat → Int32) (f_t_w : Nat → Int64) (p0 : Int64) (p1 : Int64) : (Nat → Int64) :=
  (s_X11_count_9 f_t_w p0 p1 (if p0 ≤ 0 then (s_X11_within ((f_t_w 23) + 1) 0 1000) else 0))
set_option maxRecDepth 100000 in
set_option maxHeartbeats 4000000 in
theorem c_X11_count (l : Launch) (D : va_G) (cI cJ cO : ClassId) (h_t : Nat) (h_t_w : Nat) (h_t_saved : Nat) (h_t_trial : Nat) (h_t_text : Nat) (h_t_told : Nat) (f_t : Nat → Int32) (f_t_w : Nat → Int64) (p0 : Int64) (p1 : Int64) (hf_t_w_48 : kInL (f_t_w 48) 0 60) : kV l yX11_count cX11_count 6 1 25 D (kT cI cJ cO) [.ref h_t, .long p0, .long p1] [(h_t, moE f_t h_t_w h_t_saved h_t_trial h_t_text h_t_told), (h_t_w, jA cJ 294 f_t_w)] [(h_t, moE f_t h_t_w h_t_saved h_t_trial h_t_text h_t_told), (h_t_w, jA cJ 294 (s_X11_count f_t f_t_w p0 p1))] := by
  refine kV_of (own := RX11) (lv := [(0, .ref h_t), (1, .long p0), (3, .long p1)]) rfl rfl (by decide) (Nat.le_of_ble_eq_true rfl) ?_
  intro p e s m args below meth c Q A C hret
  refine k_aload_n (pc := 0) C rfl 0 rfl dX11_count_0 ?_
  refine g_X11_0 (pc := 1) C q_998 0 rfl dX11_count_1 ?_
  refine k_bipush (pc := 4) C bipush_23 dX11_count_4 ?_
  refine k_lload_n (pc := 6) C rfl 1 rfl dX11_count_6 ?_
  refine k_lconst (pc := 7) C lconst_0 dX11_count_7 ?_
  have K_25 : ∀ (x_2 : Int64), x_2 = (if p0 ≤ 0 then (s_X11_within ((f_t_w 23) + 1) 0 1000) else 0) → KJ p l e (kR 1 25) s m args below meth c 0 0 Q D A 6 [(h_t, moE f_t h_t_w h_t_saved h_t_trial h_t_text h_t_told), (h_t_w, jA cJ 294 f_t_w)] [(0, .ref h_t), (1, .long p0), (3, .long p1)] [.long x_2, .int 23, .ref h_t_w] 32 := by
    intro x_2 ex_2
    refine k_lastK (pc := 32) (ws2 := [(h_t, moE f_t h_t_w h_t_saved h_t_trial h_t_text h_t_told), (h_t_w, jA cJ 294 (vp_updL f_t_w 23 x_2))]) C 1 1 rfl rfl (k_vinc 23 cl_23 (by decide) (by decide)) cl_23 rfl dX11_count_32 ?_
    refine k_aload_n (pc := 33) C rfl 0 rfl dX11_count_33 ?_
    refine g_X11_0 (pc := 34) C q_998 0 rfl dX11_count_34 ?_
    refine k_bipush (pc := 37) C bipush_24 dX11_count_37 ?_
    refine k_lload_n (pc := 39) C rfl 1 rfl dX11_count_39 ?_
    refine k_lconst (pc := 40) C lconst_0 dX11_count_40 ?_
    have K_26 : ∀ (x_4 : Int64), x_4 = (if 0 ≤ p0 then (s_X11_within ((f_t_w 24) + 1) 0 1000) else 0) → KJ p l e (kR 1 25) s m args below meth c 0 0 Q D A 6 [(h_t, moE f_t h_t_w h_t_saved h_t_trial h_t_text h_t_told), (h_t_w, jA cJ 294 (vp_updL f_t_w 23 x_2))] [(0, .ref h_t), (1, .long p0), (3, .long p1)] [.long x_4, .int 24, .ref h_t_w] 65 := by
      intro x_4 ex_4
      refine k_lastK (pc := 65) (ws2 := [(h_t, moE f_t h_t_w h_t_saved h_t_trial h_t_text h_t_told), (h_t_w, jA cJ 294 (vp_updL (vp_updL f_t_w 23 x_2) 24 x_4))]) C 1 1 rfl rfl (k_vinc 24 cl_24 (by decide) (by decide)) cl_24 rfl dX11_count_65 ?_
      refine k_aload_n (pc := 66) C rfl 0 rfl dX11_count_66 ?_
      refine g_X11_0 (pc := 67) C q_998 0 rfl dX11_count_67 ?_
      refine k_bipush (pc := 70) C bipush_25 dX11_count_70 ?_
      refine k_dup2 (pc := 72) C rfl rfl dX11_count_72 ?_
      refine k_laldK (pc := 73) (v := (f_t_w 25)) C 1 1 rfl rfl (k_vinc 25 cl_25 (by decide) (by decide)) cl_25 (upnL (by decide) (upnL (by decide) rfl)) dX11_count_73 ?_
      refine k_lload_n (pc := 74) C rfl 1 rfl dX11_count_74 ?_
      refine k_lconst (pc := 75) C lconst_0 dX11_count_75 ?_
      have K_27 : ∀ (x_6 : Int64), x_6 = (if p0 ≤ 0 then 0 else 1) → KJ p l e (kR 1 25) s m args below meth c 0 0 Q D A 6 [(h_t, moE f_t h_t_w h_t_saved h_t_trial h_t_text h_t_told), (h_t_w, jA cJ 294 (vp_updL (vp_updL f_t_w 23 x_2) 24 x_4))] [(0, .ref h_t), (1, .long p0), (3, .long p1)] [.long x_6, .long (f_t_w 25), .int 25, .ref h_t_w] 85 := by
        intro x_6 ex_6
        refine k_ladd (pc := 85) C dX11_count_85 ?_
        refine k_lastK (pc := 86) (ws2 := [(h_t, moE f_t h_t_w h_t_saved h_t_trial h_t_text h_t_told), (h_t_w, jA cJ 294 (vp_updL (vp_updL (vp_updL f_t_w 23 x_2) 24 x_4) 25 ((f_t_w 25) + x_6)))]) C 1 1 rfl rfl (k_vinc 25 cl_25 (by decide) (by decide)) cl_25 rfl dX11_count_86 ?_
        refine k_aload_n (pc := 87) C rfl 0 rfl dX11_count_87 ?_
        refine g_X11_0 (pc := 88) C q_998 0 rfl dX11_count_88 ?_
        refine k_bipush (pc := 91) C bipush_26 dX11_count_91 ?_
        refine k_dup2 (pc := 93) C rfl rfl dX11_count_93 ?_
        refine k_laldK (pc := 94) (v := (f_t_w 26)) C 1 1 rfl rfl (k_vinc 26 cl_26 (by decide) (by decide)) cl_26 (upnL (by decide) (upnL (by decide) (upnL (by decide) rfl))) dX11_count_94 ?_
        refine k_lload_n (pc := 95) C rfl 1 rfl dX11_count_95 ?_
        refine k_lconst (pc := 96) C lconst_0 dX11_count_96 ?_
        have K_28 : ∀ (x_8 : Int64), x_8 = (if 0 ≤ p0 then 0 else 1) → KJ p l e (kR 1 25) s m args below meth c 0 0 Q D A 6 [(h_t, moE f_t h_t_w h_t_saved h_t_trial h_t_text h_t_told), (h_t_w, jA cJ 294 (vp_updL (vp_updL (vp_updL f_t_w 23 x_2) 24 x_4) 25 ((f_t_w 25) + x_6)))] [(0, .ref h_t), (1, .long p0), (3, .long p1)] [.long x_8, .long (f_t_w 26), .int 26, .ref h_t_w] 106 := by
          intro x_8 ex_8
          refine k_ladd (pc := 106) C dX11_count_106 ?_
          refine k_lastK (pc := 107) (ws2 := [(h_t, moE f_t h_t_w h_t_saved h_t_trial h_t_text h_t_told), (h_t_w, jA cJ 294 (vp_updL (vp_updL (vp_updL (vp_updL f_t_w 23 x_2) 24 x_4) 25 ((f_t_w 25) + x_6)) 26 ((f_t_w 26) + x_8)))]) C 1 1 rfl rfl (k_vinc 26 cl_26 (by decide) (by decide)) cl_26 rfl dX11_count_107 ?_
          refine k_aload_n (pc := 108) C rfl 0 rfl dX11_count_108 ?_
          refine g_X11_0 (pc := 109) C q_998 0 rfl dX11_count_109 ?_
          refine k_bipush (pc := 112) C bipush_27 dX11_count_112 ?_
          refine k_dup2 (pc := 114) C rfl rfl dX11_count_114 ?_
          refine k_laldK (pc := 115) (v := (f_t_w 27)) C 1 1 rfl rfl (k_vinc 27 cl_27 (by decide) (by decide)) cl_27 (upnL (by decide) (upnL (by decide) (upnL (by decide) (upnL (by decide) rfl)))) dX11_count_115 ?_
          refine k_lload_n (pc := 116) C rfl 2 rfl dX11_count_116 ?_
          refine k_lconst (pc := 117) C lconst_0 dX11_count_117 ?_
          have K_29 : ∀ (x_10 : Int64), x_10 = (if p1 ≤ 0 then 0 else 1) → KJ p l e (kR 1 25) s m args below meth c 0 0 Q D A 6 [(h_t, moE f_t h_t_w h_t_saved h_t_trial h_t_text h_t_told), (h_t_w, jA cJ 294 (vp_updL (vp_updL (vp_updL (vp_updL f_t_w 23 x_2) 24 x_4) 25 ((f_t_w 25) + x_6)) 26 ((f_t_w 26) + x_8)))] [(0, .ref h_t), (1, .long p0), (3, .long p1)] [.long x_10, .long (f_t_w 27), .int 27, .ref h_t_w] 127 := by
            intro x_10 ex_10
            refine k_ladd (pc := 127) C dX11_count_127 ?_
            refine k_lastK (pc := 128) (ws2 := [(h_t, moE f_t h_t_w h_t_saved h_t_trial h_t_text h_t_told), (h_t_w, jA cJ 294 (vp_updL (vp_updL (vp_updL (vp_updL (vp_updL f_t_w 23 x_2) 24 x_4) 25 ((f_t_w 25) + x_6)) 26 ((f_t_w 26) + x_8)) 27 ((f_t_w 27) + x_10)))]) C 1 1 rfl rfl (k_vinc 27 cl_27 (by decide) (by decide)) cl_27 rfl dX11_count_128 ?_
            refine k_aload_n (pc := 129) C rfl 0 rfl dX11_count_129 ?_
            refine g_X11_0 (pc := 130) C q_998 0 rfl dX11_count_130 ?_
            refine k_bipush (pc := 133) C bipush_28 dX11_count_133 ?_
            refine k_dup2 (pc := 135) C rfl rfl dX11_count_135 ?_
            refine k_laldK (pc := 136) (v := (f_t_w 28)) C 1 1 rfl rfl (k_vinc 28 cl_28 (by decide) (by decide)) cl_28 (upnL (by decide) (upnL (by decide) (upnL (by decide) (upnL (by decide) (upnL (by decide) rfl))))) dX11_count_136 ?_
            refine k_lload_n (pc := 137) C rfl 2 rfl dX11_count_137 ?_
            refine k_lconst (pc := 138) C lconst_0 dX11_count_138 ?_
            have K_30 : ∀ (x_12 : Int64), x_12 = (if 0 ≤ p1 then 0 else 1) → KJ p l e (kR 1 25) s m args below meth c 0 0 Q D A 6 [(h_t, moE f_t h_t_w h_t_saved h_t_trial h_t_text h_t_told), (h_t_w, jA cJ 294 (vp_updL (vp_updL (vp_updL (vp_updL (vp_updL f_t_w 23 x_2) 24 x_4) 25 ((f_t_w 25) + x_6)) 26 ((f_t_w 26) + x_8)) 27 ((f_t_w 27) + x_10)))] [(0, .ref h_t), (1, .long p0), (3, .long p1)] [.long x_12, .long (f_t_w 28), .int 28, .ref h_t_w] 148 := by
              intro x_12 ex_12
              refine k_ladd (pc := 148) C dX11_count_148 ?_
              refine k_lastK (pc := 149) (ws2 := [(h_t, moE f_t h_t_w h_t_saved h_t_trial h_t_text h_t_told), (h_t_w, jA cJ 294 (vp_updL (vp_updL (vp_updL (vp_updL (vp_updL (vp_updL f_t_w 23 x_2) 24 x_4) 25 ((f_t_w 25) + x_6)) 26 ((f_t_w 26) + x_8)) 27 ((f_t_w 27) + x_10)) 28 ((f_t_w 28) + x_12)))]) C 1 1 rfl rfl (k_vinc 28 cl_28 (by decide) (by decide)) cl_28 rfl dX11_count_149 ?_
              refine k_aload_n (pc := 150) C rfl 0 rfl dX11_count_150 ?_
              refine g_X11_0 (pc := 151) C q_998 0 rfl dX11_count_151 ?_
              refine k_bipush (pc := 154) C bipush_31 dX11_count_154 ?_
              refine k_dup2 (pc := 156) C rfl rfl dX11_count_156 ?_
              refine k_laldK (pc := 157) (v := (f_t_w 31)) C 1 1 rfl rfl (k_vinc 31 cl_31 (by decide) (by decide)) cl_31 (upnL (by decide) (upnL (by decide) (upnL (by decide) (upnL (by decide) (upnL (by decide) (upnL (by decide) rfl)))))) dX11_count_157 ?_
              refine k_lload_n (pc := 158) C rfl 1 rfl dX11_count_158 ?_
              refine k_callSl (pc := 159) (As := [.long p0]) (rest := [.long (f_t_w 31), .int 31, .ref h_t_w]) (r := (s_X11_size p0)) (wc := []) (wc2 := []) (ws2 := [(h_t, moE f_t h_t_w h_t_saved h_t_trial h_t_text h_t_told), (h_t_w, jA cJ 294 (vp_updL (vp_updL (vp_updL (vp_updL (vp_updL (vp_updL f_t_w 23 x_2) 24 x_4) 25 ((f_t_w 25) + x_6)) 26 ((f_t_w 26) + x_8)) 27 ((f_t_w 27) + x_10)) 28 ((f_t_w 28) + x_12)))]) C (c_X11_size l D cI cJ cO p0) cws_X11_size q_1129 [] rfl rfl (by decide) rfl rfl (Nat.le_of_ble_eq_true rfl) ⟨Nat.le_of_ble_eq_true rfl, Nat.le_of_ble_eq_true rfl⟩ rfl ⟨Nat.le_refl _, Nat.le_refl _⟩ dX11_count_159 ?_
              refine k_lload_n (pc := 162) C rfl 2 rfl dX11_count_162 ?_
              refine k_callSl (pc := 163) (As := [.long p1]) (rest := [.long (s_X11_size p0), .long (f_t_w 31), .int 31, .ref h_t_w]) (r := (s_X11_size p1)) (wc := []) (wc2 := []) (ws2 := [(h_t, moE f_t h_t_w h_t_saved h_t_trial h_t_text h_t_told), (h_t_w, jA cJ 294 (vp_updL (vp_updL (vp_updL (vp_updL (vp_updL (vp_updL f_t_w 23 x_2) 24 x_4) 25 ((f_t_w 25) + x_6)) 26 ((f_t_w 26) + x_8)) 27 ((f_t_w 27) + x_10)) 28 ((f_t_w 28) + x_12)))]) C (c_X11_size l D cI cJ cO p1) cws_X11_size q_1129 [] rfl rfl (by decide) rfl rfl (Nat.le_of_ble_eq_true rfl) ⟨Nat.le_of_ble_eq_true rfl, Nat.le_of_ble_eq_true rfl⟩ rfl ⟨Nat.le_refl _, Nat.le_refl _⟩ dX11_count_163 ?_
              refine k_ladd (pc := 166) C dX11_count_166 ?_
              refine k_ladd (pc := 167) C dX11_count_167 ?_
              refine k_lastK (pc := 168) (ws2 := [(h_t, moE f_t h_t_w h_t_saved h_t_trial h_t_text h_t_told), (h_t_w, jA cJ 294 (vp_updL (vp_updL (vp_updL (vp_updL (vp_updL (vp_updL (vp_updL f_t_w 23 x_2) 24 x_4) 25 ((f_t_w 25) + x_6)) 26 ((f_t_w 26) + x_8)) 27 ((f_t_w 27) + x_10)) 28 ((f_t_w 28) + x_12)) 31 ((f_t_w 31) + ((s_X11_size p0) + (s_X11_size p1)))))]) C 1 1 rfl rfl (k_vinc 31 cl_31 (by decide) (by decide)) cl_31 rfl dX11_count_168 ?_
              refine k_aload_n (pc := 169) C rfl 0 rfl dX11_count_169 ?_
              refine g_X11_0 (pc := 170) C q_998 0 rfl dX11_count_170 ?_
              refine k_bipush (pc := 173) C bipush_48 dX11_count_173 ?_
              refine k_laldK (pc := 175) (v := (f_t_w 48)) C 1 1 rfl rfl (k_vinc 48 cl_48 (by decide) (by decide)) cl_48 (upnL (by decide) (upnL (by decide) (upnL (by decide) (upnL (by decide) (upnL (by decide) (upnL (by decide) (upnL (by decide) rfl))))))) dX11_count_175 ?_
              refine k_ldc2 (pc := 176) C q_994 dX11_count_176 ?_
              have K_31 : ∀ (x_23 : (Nat → Int64)), x_23 = (j_X11_count_2 f_t_w x_2 x_4 x_6 x_8 x_10 x_12 p0 p1) → kInL (x_23 48) 0 59 → KJ p l e (kR 1 25) s m args below meth c 0 0 Q D A 6 [(h_t, moE f_t h_t_w h_t_saved h_t_trial h_t_text h_t_told), (h_t_w, jA cJ 294 x_23)] [(0, .ref h_t)] [] 234 := by
                intro x_23 ex_23 hj_24
                refine k_aload_n (pc := 234) C rfl 0 rfl dX11_count_234 ?_
                refine g_X11_0 (pc := 235) C q_998 0 rfl dX11_count_235 ?_
                refine k_sipush (pc := 238) C sipush_234 dX11_count_238 ?_
                refine k_aload_n (pc := 241) C rfl 0 rfl dX11_count_241 ?_
                refine g_X11_0 (pc := 242) C q_998 0 rfl dX11_count_242 ?_
                refine k_bipush (pc := 245) C bipush_48 dX11_count_245 ?_
                refine k_laldK (pc := 247) (v := (x_23 48)) C 1 1 rfl rfl (k_vinc 48 cl_48 (by decide) (by decide)) cl_48 rfl dX11_count_247 ?_
                refine k_l2i (pc := 248) C dX11_count_248 ?_
                refine k_iadd (pc := 249) C dX11_count_249 ?_
                refine k_aload_n (pc := 250) C rfl 0 rfl dX11_count_250 ?_
                refine g_X11_0 (pc := 251) C q_998 0 rfl dX11_count_251 ?_
                refine k_bipush (pc := 254) C bipush_12 dX11_count_254 ?_
                refine k_laldK (pc := 256) (v := (x_23 12)) C 1 1 rfl rfl (k_vinc 12 cl_12 (by decide) (by decide)) cl_12 rfl dX11_count_256 ?_
                refine k_lastK (pc := 257) (ws2 := [(h_t, moE f_t h_t_w h_t_saved h_t_trial h_t_text h_t_told), (h_t_w, jA cJ 294 (vp_updL x_23 (Int32.toNatClampNeg (234 + (Int64.toInt32 (x_23 48)))) (x_23 12)))]) C 1 1 rfl rfl (kIn.vp (kIn.add (kIn.lit (x := 234) (n := 234) (by decide)) (kIn.l2i hj_24 (by decide) (by decide)) (by decide) (by decide)) (by decide) (by decide)) rfl rfl dX11_count_257 ?_
                refine k_aload_n (pc := 258) C rfl 0 rfl dX11_count_258 ?_
                refine g_X11_0 (pc := 259) C q_998 0 rfl dX11_count_259 ?_
                refine k_bipush (pc := 262) C bipush_48 dX11_count_262 ?_
                refine k_dup2 (pc := 264) C rfl rfl dX11_count_264 ?_
                refine k_laldK (pc := 265) (v := (x_23 48)) C 1 1 rfl rfl (k_vinc 48 cl_48 (by decide) (by decide)) cl_48 (upnL (kIn.ne (kIn.add (kIn.lit (x := 234) (n := 234) (by decide)) (kIn.l2i hj_24 (by decide) (by decide)) (by decide) (by decide)) (by decide) (by decide)) rfl) dX11_count_265 ?_
                refine k_lconst (pc := 266) C lconst_1 dX11_count_266 ?_
                refine k_ladd (pc := 267) C dX11_count_267 ?_
                refine k_lastK (pc := 268) (ws2 := [(h_t, moE f_t h_t_w h_t_saved h_t_trial h_t_text h_t_told), (h_t_w, jA cJ 294 (vp_updL (vp_updL x_23 (Int32.toNatClampNeg (234 + (Int64.toInt32 (x_23 48)))) (x_23 12)) 48 ((x_23 48) + 1)))]) C 1 1 rfl rfl (k_vinc 48 cl_48 (by decide) (by decide)) cl_48 rfl dX11_count_268 ?_
                have hs : (s_X11_count f_t f_t_w p0 p1) = (vp_updL (vp_updL x_23 (Int32.toNatClampNeg (234 + (Int64.toInt32 (x_23 48)))) (x_23 12)) 48 ((x_23 48) + 1)) := (k_st (g := s_X11_count_9 f_t_w p0 p1) ex_2 rfl (k_st (g := s_X11_count_8 f_t_w x_2 p0 p1) ex_4 rfl (k_st (g := s_X11_count_7 f_t_w x_2 x_4 p0 p1) ex_6 rfl (k_st (g := s_X11_count_6 f_t_w x_2 x_4 x_6 p0 p1) ex_8 rfl (k_st (g := s_X11_count_5 f_t_w x_2 x_4 x_6 x_8 p0 p1) ex_10 rfl (k_st (g := s_X11_count_4 f_t_w x_2 x_4 x_6 x_8 x_10 p0 p1) ex_12 rfl (k_st (g := s_X11_count_3) ex_23 rfl rfl)))))))
                exact k_finV (pc := 269) hret (by rw [hs]) dX11_count_269
              refine k_lcmp_ne (pc := 179) (tgt := 234) C dX11_count_179 dX11_count_180 (by decide) (fun c_13 => ?_) (fun c_13 => ?_)
              · refine k_lpick (lv2 := [(0, .ref h_t)]) [0] rfl ?_
                exact K_31 (vp_updL (vp_updL (vp_updL (vp_updL (vp_updL (vp_updL (vp_updL f_t_w 23 x_2) 24 x_4) 25 ((f_t_w 25) + x_6)) 26 ((f_t_w 26) + x_8)) 27 ((f_t_w 27) + x_10)) 28 ((f_t_w 28) + x_12)) 31 ((f_t_w 31) + ((s_X11_size p0) + (s_X11_size p1)))) (Eq.symm (if_neg c_13)) (kInL.rw (F := (vp_updL (vp_updL (vp_updL (vp_updL (vp_updL (vp_updL (vp_updL f_t_w 23 x_2) 24 x_4) 25 ((f_t_w 25) + x_6)) 26 ((f_t_w 26) + x_8)) 27 ((f_t_w 27) + x_10)) 28 ((f_t_w 28) + x_12)) 31 ((f_t_w 31) + ((s_X11_size p0) + (s_X11_size p1))))) (k := 48) (upnL (by decide) (upnL (by decide) (upnL (by decide) (upnL (by decide) (upnL (by decide) (upnL (by decide) (upnL (by decide) rfl))))))) (kInL.neHi hf_t_w_48 c_13 (by decide)) (by decide) (by decide))
              · refine k_iconst (pc := 183) C iconst_0 dX11_count_183 ?_
                refine k_istore (pc := 184) (lv2 := [(5, .int 0), (0, .ref h_t), (1, .long p0), (3, .long p1)]) C (by decide) rfl dX11_count_184 ?_
                have K_32 : ∀ (m_21 : Int32 × (Nat → Int64)), m_21 = (kLoop default (b_X11_count_L186) ((Int32.toInt 59 - Int32.toInt 0).toNat + 1) (0, (vp_updL (vp_updL (vp_updL (vp_updL (vp_updL (vp_updL (vp_updL f_t_w 23 x_2) 24 x_4) 25 ((f_t_w 25) + x_6)) 26 ((f_t_w 26) + x_8)) 27 ((f_t_w 27) + x_10)) 28 ((f_t_w 28) + x_12)) 31 ((f_t_w 31) + ((s_X11_size p0) + (s_X11_size p1)))))) → kInL (m_21.2 48) 60 60 → KJ p l e (kR 1 25) s m args below meth c 0 0 Q D A 6 [(h_t, moE f_t h_t_w h_t_saved h_t_trial h_t_text h_t_told), (h_t_w, jA cJ 294 m_21.2)] [(0, .ref h_t)] [] 223 := by
                  intro m_21 em_21 hx_22
                  refine k_aload_n (pc := 223) C rfl 0 rfl dX11_count_223 ?_
                  refine g_X11_0 (pc := 224) C q_998 0 rfl dX11_count_224 ?_
                  refine k_bipush (pc := 227) C bipush_48 dX11_count_227 ?_
                  refine k_dup2 (pc := 229) C rfl rfl dX11_count_229 ?_
                  refine k_laldK (pc := 230) (v := (m_21.2 48)) C 1 1 rfl rfl (k_vinc 48 cl_48 (by decide) (by decide)) cl_48 rfl dX11_count_230 ?_
                  refine k_lconst (pc := 231) C lconst_1 dX11_count_231 ?_
                  refine k_lsub (pc := 232) C dX11_count_232 ?_
                  refine k_lastK (pc := 233) (ws2 := [(h_t, moE f_t h_t_w h_t_saved h_t_trial h_t_text h_t_told), (h_t_w, jA cJ 294 (vp_updL m_21.2 48 ((m_21.2 48) - 1)))]) C 1 1 rfl rfl (k_vinc 48 cl_48 (by decide) (by decide)) cl_48 rfl dX11_count_233 ?_
                  exact K_31 (vp_updL m_21.2 48 ((m_21.2 48) - 1)) (Eq.symm (k_st (g := j_X11_count_1) em_21 (if_pos c_13) rfl)) (kInL.rw (F := (vp_updL m_21.2 48 ((m_21.2 48) - 1))) (k := 48) upsL (kInL.sub hx_22 (kInL.lit (x := 1) (n := 1) (by decide)) (by decide) (by decide)) (by decide) (by decide))
                have L_33 : ∀ (n : Nat) (z_17 : Int32 × (Nat → Int64)), (Int32.toInt 59 - Int32.toInt z_17.1).toNat < n → (kIn z_17.1 0 59) → (kInL (z_17.2 48) 60 60) → kLoop default (b_X11_count_L186) n z_17 = (kLoop default (b_X11_count_L186) ((Int32.toInt 59 - Int32.toInt 0).toNat + 1) (0, (vp_updL (vp_updL (vp_updL (vp_updL (vp_updL (vp_updL (vp_updL f_t_w 23 x_2) 24 x_4) 25 ((f_t_w 25) + x_6)) 26 ((f_t_w 26) + x_8)) 27 ((f_t_w 27) + x_10)) 28 ((f_t_w 28) + x_12)) 31 ((f_t_w 31) + ((s_X11_size p0) + (s_X11_size p1)))))) → KJ p l e (kR 1 25) s m args below meth c 0 0 Q D A 6 [(h_t, moE f_t h_t_w h_t_saved h_t_trial h_t_text h_t_told), (h_t_w, jA cJ 294 z_17.2)] [(5, .int z_17.1), (0, .ref h_t)] [] 186 := by
                  intro n
                  induction n with
                  | zero => intro z_17 hmu; exact absurd hmu (Nat.not_lt_zero _)
                  | succ n ih =>
                    intro z_17 hmu hl_18 hl_19 hR
                    refine k_iload (pc := 186) C 0 rfl dX11_count_186 ?_
                    refine k_bipush (pc := 188) C bipush_59 dX11_count_188 ?_
                    refine k_icmp_ge (pc := 190) (tgt := 223) C dX11_count_190 (by decide) (fun c_20 => ?_) (fun c_20 => ?_)
                    · refine k_lpick (lv2 := [(0, .ref h_t)]) [1] rfl ?_
                      exact K_32 (z_17.1, z_17.2) (k_lout hR (if_pos c_20)) (kInL.rw (F := z_17.2) (k := 48) rfl hl_19 (by decide) (by decide))
                    · refine k_aload_n (pc := 193) C rfl 1 rfl dX11_count_193 ?_
                      refine g_X11_0 (pc := 194) C q_998 0 rfl dX11_count_194 ?_
                      refine k_sipush (pc := 197) C sipush_234 dX11_count_197 ?_
                      refine k_iload (pc := 200) C 0 rfl dX11_count_200 ?_
                      refine k_iadd (pc := 202) C dX11_count_202 ?_
                      refine k_aload_n (pc := 203) C rfl 1 rfl dX11_count_203 ?_
                      refine g_X11_0 (pc := 204) C q_998 0 rfl dX11_count_204 ?_
                      refine k_sipush (pc := 207) C sipush_234 dX11_count_207 ?_
                      refine k_iload (pc := 210) C 0 rfl dX11_count_210 ?_
                      refine k_iadd (pc := 212) C dX11_count_212 ?_
                      refine k_iconst (pc := 213) C iconst_1 dX11_count_213 ?_
                      refine k_iadd (pc := 214) C dX11_count_214 ?_
                      refine k_laldK (pc := 215) (v := (z_17.2 (Int32.toNatClampNeg ((234 + z_17.1) + 1)))) C 1 1 rfl rfl (kIn.vp (kIn.add (kIn.add (kIn.lit (x := 234) (n := 234) (by decide)) (kIn.nle (n := 59) hl_18 c_20 (by decide)) (by decide) (by decide)) (kIn.lit (x := 1) (n := 1) (by decide)) (by decide) (by decide)) (by decide) (by decide)) rfl rfl dX11_count_215 ?_
                      refine k_lastK (pc := 216) (ws2 := [(h_t, moE f_t h_t_w h_t_saved h_t_trial h_t_text h_t_told), (h_t_w, jA cJ 294 (vp_updL z_17.2 (Int32.toNatClampNeg (234 + z_17.1)) (z_17.2 (Int32.toNatClampNeg ((234 + z_17.1) + 1)))))]) C 1 1 rfl rfl (kIn.vp (kIn.add (kIn.lit (x := 234) (n := 234) (by decide)) (kIn.nle (n := 59) hl_18 c_20 (by decide)) (by decide) (by decide)) (by decide) (by decide)) rfl rfl dX11_count_216 ?_
                      refine k_iinc (pc := 217) (v := (z_17.1 + 1)) (lv2 := [(5, .int (z_17.1 + 1)), (0, .ref h_t)]) C 0 rfl rfl (by decide) rfl dX11_count_217 ?_
                      refine k_goto (pc := 220) (tgt := 186) C (by decide) dX11_count_220 ?_
                      exact ih ((z_17.1 + 1), (vp_updL z_17.2 (Int32.toNatClampNeg (234 + z_17.1)) (z_17.2 (Int32.toNatClampNeg ((234 + z_17.1) + 1))))) (k_dec (k_nle c_20) hmu) (kIn.wk (kIn.add (kIn.nle (n := 59) hl_18 c_20 (by decide)) (kIn.lit (x := 1) (n := 1) (by decide)) (by decide) (by decide)) (by decide) (by decide)) (kInL.rw (F := (vp_updL z_17.2 (Int32.toNatClampNeg (234 + z_17.1)) (z_17.2 (Int32.toNatClampNeg ((234 + z_17.1) + 1))))) (k := 48) (upnL (kIn.ne (kIn.add (kIn.lit (x := 234) (n := 234) (by decide)) (kIn.nle (n := 59) hl_18 c_20 (by decide)) (by decide) (by decide)) (by decide) (by decide)) rfl) hl_19 (by decide) (by decide)) (k_lin hR (if_neg c_20))
                refine k_lpick (lv2 := [(5, .int 0), (0, .ref h_t)]) [0, 1] rfl ?_
                exact L_33 ((Int32.toInt 59 - Int32.toInt 0).toNat + 1) (0, (vp_updL (vp_updL (vp_updL (vp_updL (vp_updL (vp_updL (vp_updL f_t_w 23 x_2) 24 x_4) 25 ((f_t_w 25) + x_6)) 26 ((f_t_w 26) + x_8)) 27 ((f_t_w 27) + x_10)) 28 ((f_t_w 28) + x_12)) 31 ((f_t_w 31) + ((s_X11_size p0) + (s_X11_size p1))))) (Nat.lt_succ_self _) (kIn.wk (kIn.lit (x := 0) (n := 0) (by decide)) (by decide) (by decide)) (kInL.rw (F := (vp_updL (vp_updL (vp_updL (vp_updL (vp_updL (vp_updL (vp_updL f_t_w 23 x_2) 24 x_4) 25 ((f_t_w 25) + x_6)) 26 ((f_t_w 26) + x_8)) 27 ((f_t_w 27) + x_10)) 28 ((f_t_w 28) + x_12)) 31 ((f_t_w 31) + ((s_X11_size p0) + (s_X11_size p1))))) (k := 48) (upnL (by decide) (upnL (by decide) (upnL (by decide) (upnL (by decide) (upnL (by decide) (upnL (by decide) (upnL (by decide) rfl))))))) (kInL.eq (n := 60) c_13 (by decide)) (by decide) (by decide)) rfl
            refine k_lcmp_ge (pc := 139) (tgt := 147) C dX11_count_139 dX11_count_140 (by decide) (fun c_11 => ?_) (fun c_11 => ?_)
            · refine k_lconst (pc := 147) C lconst_0 dX11_count_147 ?_
              exact K_30 0 (Eq.symm (if_pos c_11))
            · refine k_lconst (pc := 143) C lconst_1 dX11_count_143 ?_
              refine k_goto (pc := 144) (tgt := 148) C (by decide) dX11_count_144 ?_
              exact K_30 1 (Eq.symm (if_neg c_11))
          refine k_lcmp_le (pc := 118) (tgt := 126) C dX11_count_118 dX11_count_119 (by decide) (fun c_9 => ?_) (fun c_9 => ?_)
          · refine k_lconst (pc := 126) C lconst_0 dX11_count_126 ?_
            exact K_29 0 (Eq.symm (if_pos c_9))
          · refine k_lconst (pc := 122) C lconst_1 dX11_count_122 ?_
            refine k_goto (pc := 123) (tgt := 127) C (by decide) dX11_count_123 ?_
            exact K_29 1 (Eq.symm (if_neg c_9))
        refine k_lcmp_ge (pc := 97) (tgt := 105) C dX11_count_97 dX11_count_98 (by decide) (fun c_7 => ?_) (fun c_7 => ?_)
        · refine k_lconst (pc := 105) C lconst_0 dX11_count_105 ?_
          exact K_28 0 (Eq.symm (if_pos c_7))
        · refine k_lconst (pc := 101) C lconst_1 dX11_count_101 ?_
          refine k_goto (pc := 102) (tgt := 106) C (by decide) dX11_count_102 ?_
          exact K_28 1 (Eq.symm (if_neg c_7))
      refine k_lcmp_le (pc := 76) (tgt := 84) C dX11_count_76 dX11_count_77 (by decide) (fun c_5 => ?_) (fun c_5 => ?_)
      · refine k_lconst (pc := 84) C lconst_0 dX11_count_84 ?_
        exact K_27 0 (Eq.symm (if_pos c_5))
      · refine k_lconst (pc := 80) C lconst_1 dX11_count_80 ?_
        refine k_goto (pc := 81) (tgt := 85) C (by decide) dX11_count_81 ?_
        exact K_27 1 (Eq.symm (if_neg c_5))
    refine k_lcmp_ge (pc := 41) (tgt := 49) C dX11_count_41 dX11_count_42 (by decide) (fun c_3 => ?_) (fun c_3 => ?_)
    · refine k_aload_n (pc := 49) C rfl 0 rfl dX11_count_49 ?_
      refine g_X11_0 (pc := 50) C q_998 0 rfl dX11_count_50 ?_
      refine k_bipush (pc := 53) C bipush_24 dX11_count_53 ?_
      refine k_laldK (pc := 55) (v := (f_t_w 24)) C 1 1 rfl rfl (k_vinc 24 cl_24 (by decide) (by decide)) cl_24 (upnL (by decide) rfl) dX11_count_55 ?_
      refine k_lconst (pc := 56) C lconst_1 dX11_count_56 ?_
      refine k_ladd (pc := 57) C dX11_count_57 ?_
      refine k_lconst (pc := 58) C lconst_0 dX11_count_58 ?_
      refine k_ldc2 (pc := 59) C q_996 dX11_count_59 ?_
      refine k_callSl (pc := 62) (As := [.long ((f_t_w 24) + 1), .long 0, .long 1000]) (rest := [.int 24, .ref h_t_w]) (r := (s_X11_within ((f_t_w 24) + 1) 0 1000)) (wc := []) (wc2 := []) (ws2 := [(h_t, moE f_t h_t_w h_t_saved h_t_trial h_t_text h_t_told), (h_t_w, jA cJ 294 (vp_updL f_t_w 23 x_2))]) C (c_X11_within l D cI cJ cO ((f_t_w 24) + 1) 0 1000) cws_X11_within q_1133 [] rfl rfl (by decide) rfl rfl (Nat.le_of_ble_eq_true rfl) ⟨Nat.le_of_ble_eq_true rfl, Nat.le_of_ble_eq_true rfl⟩ rfl ⟨Nat.le_refl _, Nat.le_refl _⟩ dX11_count_62 ?_
      exact K_26 (s_X11_within ((f_t_w 24) + 1) 0 1000) (Eq.symm (if_pos c_3))
    · refine k_lconst (pc := 45) C lconst_0 dX11_count_45 ?_
      refine k_goto (pc := 46) (tgt := 65) C (by decide) dX11_count_46 ?_
      exact K_26 0 (Eq.symm (if_neg c_3))
  refine k_lcmp_le (pc := 8) (tgt := 16) C dX11_count_8 dX11_count_9 (by decide) (fun c_1 => ?_) (fun c_1 => ?_)
  · refine k_aload_n (pc := 16) C rfl 0 rfl dX11_count_16 ?_
    refine g_X11_0 (pc := 17) C q_998 0 rfl dX11_count_17 ?_
    refine k_bipush (pc := 20) C bipush_23 dX11_count_20 ?_
    refine k_laldK (pc := 22) (v := (f_t_w 23)) C 1 1 rfl rfl (k_vinc 23 cl_23 (by decide) (by decide)) cl_23 rfl dX11_count_22 ?_
    refine k_lconst (pc := 23) C lconst_1 dX11_count_23 ?_
    refine k_ladd (pc := 24) C dX11_count_24 ?_
    refine k_lconst (pc := 25) C lconst_0 dX11_count_25 ?_
    refine k_ldc2 (pc := 26) C q_996 dX11_count_26 ?_
    refine k_callSl (pc := 29) (As := [.long ((f_t_w 23) + 1), .long 0, .long 1000]) (rest := [.int 23, .ref h_t_w]) (r := (s_X11_within ((f_t_w 23) + 1) 0 1000)) (wc := []) (wc2 := []) (ws2 := [(h_t, moE f_t h_t_w h_t_saved h_t_trial h_t_text h_t_told), (h_t_w, jA cJ 294 f_t_w)]) C (c_X11_within l D cI cJ cO ((f_t_w 23) + 1) 0 1000) cws_X11_within q_1133 [] rfl rfl (by decide) rfl rfl (Nat.le_of_ble_eq_true rfl) ⟨Nat.le_of_ble_eq_true rfl, Nat.le_of_ble_eq_true rfl⟩ rfl ⟨Nat.le_refl _, Nat.le_refl _⟩ dX11_count_29 ?_
    exact K_25 (s_X11_within ((f_t_w 23) + 1) 0 1000) (Eq.symm (if_pos c_1))
  · refine k_lconst (pc := 12) C lconst_0 dX11_count_12 ?_
    refine k_goto (pc := 13) (tgt := 32) C (by decide) dX11_count_13 ?_
    exact K_25 0 (Eq.symm (if_neg c_1))
