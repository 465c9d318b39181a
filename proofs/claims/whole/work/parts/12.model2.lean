theorem q_18 : Cond.selects RX11 yX11_enter yX11_enter ∈ lw_all := kq 18 (by decide +kernel) (by decide +kernel)
theorem q_22 : Cond.selects RX11 yX11_of yX11_of ∈ lw_all := kq 22 (by decide +kernel) (by decide +kernel)
theorem q_24 : Cond.selects RX11 yX11_demand yX11_demand ∈ lw_all := kq 24 (by decide +kernel) (by decide +kernel)
theorem q_999 : Cond.fieldLink RX11 13 "ClimateChamberModel" "saved" "[J" ∈ lw_all := kq 999 (by decide +kernel) (by decide +kernel)
theorem q_1003 : Cond.fieldLink RX11 54 "ClimateChamberModel" "savedMany" "I" ∈ lw_all := kq 1003 (by decide +kernel) (by decide +kernel)
theorem q_1093 : Cond.methodLink RX11 97 yX11_enter ∈ lw_all := kq 1093 (by decide +kernel) (by decide +kernel)
theorem q_1095 : Cond.instanceMethod yX11_enter ∈ lw_all := kq 1095 (by decide +kernel) (by decide +kernel)
theorem q_1096 : Cond.code yX11_enter cX11_enter 5 none ∈ lw_all := kq 1096 (by decide +kernel) (by decide +kernel)
theorem q_1117 : Cond.methodLink RX11 114 yX11_of ∈ lw_all := kq 1117 (by decide +kernel) (by decide +kernel)
theorem q_1119 : Cond.instanceMethod yX11_of ∈ lw_all := kq 1119 (by decide +kernel) (by decide +kernel)
theorem q_1120 : Cond.code yX11_of cX11_of 2 (some .long) ∈ lw_all := kq 1120 (by decide +kernel) (by decide +kernel)
theorem q_1125 : Cond.methodLink RX11 118 yX11_demand ∈ lw_all := kq 1125 (by decide +kernel) (by decide +kernel)
theorem q_1127 : Cond.instanceMethod yX11_demand ∈ lw_all := kq 1127 (by decide +kernel) (by decide +kernel)
theorem q_1128 : Cond.code yX11_demand cX11_demand 6 (some .long) ∈ lw_all := kq 1128 (by decide +kernel) (by decide +kernel)
theorem q_1155 : Cond.constantLong RX11 122 (16) ∈ lw_all := kq 1155 (by decide +kernel) (by decide +kernel)
theorem bipush_16 : (Int8.ofInt 16).toInt32 = 16 := by decide
theorem bipush_23 : (Int8.ofInt 23).toInt32 = 23 := by decide
theorem bipush_24 : (Int8.ofInt 24).toInt32 = 24 := by decide
theorem bipush_29 : (Int8.ofInt 29).toInt32 = 29 := by decide
theorem bipush_36 : (Int8.ofInt 36).toInt32 = 36 := by decide
theorem bipush_37 : (Int8.ofInt 37).toInt32 = 37 := by decide
theorem bipush_38 : (Int8.ofInt 38).toInt32 = 38 := by decide
theorem bipush_39 : (Int8.ofInt 39).toInt32 = 39 := by decide
theorem bipush_40 : (Int8.ofInt 40).toInt32 = 40 := by decide
theorem bipush_41 : (Int8.ofInt 41).toInt32 = 41 := by decide
theorem bipush_42 : (Int8.ofInt 42).toInt32 = 42 := by decide
theorem bipush_60 : (Int8.ofInt 60).toInt32 = 60 := by decide
theorem bipush_98 : (Int8.ofInt 98).toInt32 = 98 := by decide
theorem cl_102 : Int32.toNatClampNeg 102 = 102 := by decide
theorem cl_16 : Int32.toNatClampNeg 16 = 16 := by decide
theorem cl_23 : Int32.toNatClampNeg 23 = 23 := by decide
theorem cl_24 : Int32.toNatClampNeg 24 = 24 := by decide
theorem cl_29 : Int32.toNatClampNeg 29 = 29 := by decide
theorem cl_294 : Int32.toNatClampNeg 294 = 294 := by decide
theorem cl_30 : Int32.toNatClampNeg 30 = 30 := by decide
theorem cl_36 : Int32.toNatClampNeg 36 = 36 := by decide
theorem cl_37 : Int32.toNatClampNeg 37 = 37 := by decide
theorem cl_38 : Int32.toNatClampNeg 38 = 38 := by decide
theorem cl_39 : Int32.toNatClampNeg 39 = 39 := by decide
theorem cl_40 : Int32.toNatClampNeg 40 = 40 := by decide
theorem cl_41 : Int32.toNatClampNeg 41 = 41 := by decide
theorem cl_42 : Int32.toNatClampNeg 42 = 42 := by decide
theorem cl_45 : Int32.toNatClampNeg 45 = 45 := by decide
theorem cl_8 : Int32.toNatClampNeg 8 = 8 := by decide
theorem cl_98 : Int32.toNatClampNeg 98 = 98 := by decide
theorem sipush_1470 : (Int16.ofInt 1470).toInt32 = 1470 := by decide
theorem sipush_294 : (Int16.ofInt 294).toInt32 = 294 := by decide
theorem cwv_X11_demand : kCWv yX11_demand cX11_demand 6 (some .long) 2 := ⟨⟨q_1128, q_53, by decide +kernel⟩, q_1127, q_24⟩
theorem cwv_X11_enter : kCWv yX11_enter cX11_enter 5 none 2 := ⟨⟨q_1096, q_53, by decide +kernel⟩, q_1095, q_18⟩
theorem cwv_X11_of : kCWv yX11_of cX11_of 2 (some .long) 1 := ⟨⟨q_1120, q_53, by decide +kernel⟩, q_1119, q_22⟩
theorem dX11_output_0 : decode cX11_output 0 = .ok (.aload_n 0, 1) := by decide +kernel
theorem dX11_output_1 : decode cX11_output 1 = .ok (.getfield 7, 3) := by decide +kernel
theorem dX11_output_4 : decode cX11_output 4 = .ok (.bipush 16, 2) := by decide +kernel
theorem dX11_output_6 : decode cX11_output 6 = .ok (.laload, 1) := by decide +kernel
theorem dX11_output_7 : decode cX11_output 7 = .ok (.lconst 1, 1) := by decide +kernel
theorem dX11_output_8 : decode cX11_output 8 = .ok (.lcmp, 1) := by decide +kernel
theorem dX11_output_9 : decode cX11_output 9 = .ok (.ifCond .ne 13, 3) := by decide +kernel
theorem dX11_output_12 : decode cX11_output 12 = .ok (.aload_n 0, 1) := by decide +kernel
theorem dX11_output_13 : decode cX11_output 13 = .ok (.getfield 7, 3) := by decide +kernel
theorem dX11_output_16 : decode cX11_output 16 = .ok (.bipush 30, 2) := by decide +kernel
theorem dX11_output_18 : decode cX11_output 18 = .ok (.lconst 0, 1) := by decide +kernel
theorem dX11_output_19 : decode cX11_output 19 = .ok (.lastore, 1) := by decide +kernel
theorem dX11_output_20 : decode cX11_output 20 = .ok (.lconst 0, 1) := by decide +kernel
theorem dX11_output_21 : decode cX11_output 21 = .ok (.lreturn, 1) := by decide +kernel
theorem dX11_output_22 : decode cX11_output 22 = .ok (.aload_n 0, 1) := by decide +kernel
theorem dX11_output_23 : decode cX11_output 23 = .ok (.iconst 0, 1) := by decide +kernel
theorem dX11_output_24 : decode cX11_output 24 = .ok (.aload_n 0, 1) := by decide +kernel
theorem dX11_output_25 : decode cX11_output 25 = .ok (.getfield 7, 3) := by decide +kernel
theorem dX11_output_28 : decode cX11_output 28 = .ok (.bipush 14, 2) := by decide +kernel
theorem dX11_output_30 : decode cX11_output 30 = .ok (.laload, 1) := by decide +kernel
theorem dX11_output_31 : decode cX11_output 31 = .ok (.aload_n 0, 1) := by decide +kernel
theorem dX11_output_32 : decode cX11_output 32 = .ok (.getfield 7, 3) := by decide +kernel
theorem dX11_output_35 : decode cX11_output 35 = .ok (.bipush 12, 2) := by decide +kernel
theorem dX11_output_37 : decode cX11_output 37 = .ok (.laload, 1) := by decide +kernel
theorem dX11_output_38 : decode cX11_output 38 = .ok (.lsub, 1) := by decide +kernel
theorem dX11_output_39 : decode cX11_output 39 = .ok (.invokevirtual 118, 3) := by decide +kernel
theorem dX11_output_42 : decode cX11_output 42 = .ok (.lstore_n 1, 1) := by decide +kernel
theorem dX11_output_43 : decode cX11_output 43 = .ok (.lload_n 1, 1) := by decide +kernel
theorem dX11_output_44 : decode cX11_output 44 = .ok (.lconst 0, 1) := by decide +kernel
theorem dX11_output_45 : decode cX11_output 45 = .ok (.lcmp, 1) := by decide +kernel
theorem dX11_output_46 : decode cX11_output 46 = .ok (.ifCond .le 21, 3) := by decide +kernel
theorem dX11_output_49 : decode cX11_output 49 = .ok (.aload_n 0, 1) := by decide +kernel
theorem dX11_output_50 : decode cX11_output 50 = .ok (.getfield 7, 3) := by decide +kernel
theorem dX11_output_53 : decode cX11_output 53 = .ok (.bipush 24, 2) := by decide +kernel
theorem dX11_output_55 : decode cX11_output 55 = .ok (.laload, 1) := by decide +kernel
theorem dX11_output_56 : decode cX11_output 56 = .ok (.aload_n 0, 1) := by decide +kernel
theorem dX11_output_57 : decode cX11_output 57 = .ok (.getfield 7, 3) := by decide +kernel
theorem dX11_output_60 : decode cX11_output 60 = .ok (.bipush 8, 2) := by decide +kernel
theorem dX11_output_62 : decode cX11_output 62 = .ok (.laload, 1) := by decide +kernel
theorem dX11_output_63 : decode cX11_output 63 = .ok (.lcmp, 1) := by decide +kernel
theorem dX11_output_64 : decode cX11_output 64 = .ok (.ifCond .lt 27, 3) := by decide +kernel
theorem dX11_output_67 : decode cX11_output 67 = .ok (.lload_n 1, 1) := by decide +kernel
theorem dX11_output_68 : decode cX11_output 68 = .ok (.lconst 0, 1) := by decide +kernel
theorem dX11_output_69 : decode cX11_output 69 = .ok (.lcmp, 1) := by decide +kernel
theorem dX11_output_70 : decode cX11_output 70 = .ok (.ifCond .ge 25, 3) := by decide +kernel
theorem dX11_output_73 : decode cX11_output 73 = .ok (.aload_n 0, 1) := by decide +kernel
theorem dX11_output_74 : decode cX11_output 74 = .ok (.getfield 7, 3) := by decide +kernel
theorem dX11_output_77 : decode cX11_output 77 = .ok (.bipush 23, 2) := by decide +kernel
theorem dX11_output_79 : decode cX11_output 79 = .ok (.laload, 1) := by decide +kernel
theorem dX11_output_80 : decode cX11_output 80 = .ok (.aload_n 0, 1) := by decide +kernel
theorem dX11_output_81 : decode cX11_output 81 = .ok (.getfield 7, 3) := by decide +kernel
theorem dX11_output_84 : decode cX11_output 84 = .ok (.bipush 8, 2) := by decide +kernel
theorem dX11_output_86 : decode cX11_output 86 = .ok (.laload, 1) := by decide +kernel
theorem dX11_output_87 : decode cX11_output 87 = .ok (.lcmp, 1) := by decide +kernel
theorem dX11_output_88 : decode cX11_output 88 = .ok (.ifCond .ge 7, 3) := by decide +kernel
theorem dX11_output_91 : decode cX11_output 91 = .ok (.iconst 1, 1) := by decide +kernel
theorem dX11_output_92 : decode cX11_output 92 = .ok (.goto 4, 3) := by decide +kernel
theorem dX11_output_95 : decode cX11_output 95 = .ok (.iconst 0, 1) := by decide +kernel
theorem dX11_output_96 : decode cX11_output 96 = .ok (.istore_n 3, 1) := by decide +kernel
theorem dX11_output_97 : decode cX11_output 97 = .ok (.iload_n 3, 1) := by decide +kernel
theorem dX11_output_98 : decode cX11_output 98 = .ok (.ifCond .eq 45, 3) := by decide +kernel
theorem dX11_output_101 : decode cX11_output 101 = .ok (.aload_n 0, 1) := by decide +kernel
theorem dX11_output_102 : decode cX11_output 102 = .ok (.getfield 7, 3) := by decide +kernel
theorem dX11_output_105 : decode cX11_output 105 = .ok (.bipush 29, 2) := by decide +kernel
theorem dX11_output_107 : decode cX11_output 107 = .ok (.dup2, 1) := by decide +kernel
theorem dX11_output_108 : decode cX11_output 108 = .ok (.laload, 1) := by decide +kernel
theorem dX11_output_109 : decode cX11_output 109 = .ok (.lconst 1, 1) := by decide +kernel
theorem dX11_output_110 : decode cX11_output 110 = .ok (.ladd, 1) := by decide +kernel
theorem dX11_output_111 : decode cX11_output 111 = .ok (.lastore, 1) := by decide +kernel
theorem dX11_output_112 : decode cX11_output 112 = .ok (.aload_n 0, 1) := by decide +kernel
theorem dX11_output_113 : decode cX11_output 113 = .ok (.getfield 7, 3) := by decide +kernel
theorem dX11_output_116 : decode cX11_output 116 = .ok (.bipush 30, 2) := by decide +kernel
theorem dX11_output_118 : decode cX11_output 118 = .ok (.laload, 1) := by decide +kernel
theorem dX11_output_119 : decode cX11_output 119 = .ok (.lconst 0, 1) := by decide +kernel
theorem dX11_output_120 : decode cX11_output 120 = .ok (.lcmp, 1) := by decide +kernel
theorem dX11_output_121 : decode cX11_output 121 = .ok (.ifCond .ne 22, 3) := by decide +kernel
theorem dX11_output_124 : decode cX11_output 124 = .ok (.aload_n 0, 1) := by decide +kernel
theorem dX11_output_125 : decode cX11_output 125 = .ok (.bipush 9, 2) := by decide +kernel
theorem dX11_output_127 : decode cX11_output 127 = .ok (.lload_n 1, 1) := by decide +kernel
theorem dX11_output_128 : decode cX11_output 128 = .ok (.lconst 0, 1) := by decide +kernel
theorem dX11_output_129 : decode cX11_output 129 = .ok (.lcmp, 1) := by decide +kernel
theorem dX11_output_130 : decode cX11_output 130 = .ok (.ifCond .le 7, 3) := by decide +kernel
theorem dX11_output_133 : decode cX11_output 133 = .ok (.lconst 1, 1) := by decide +kernel
theorem dX11_output_134 : decode cX11_output 134 = .ok (.goto 6, 3) := by decide +kernel
theorem dX11_output_137 : decode cX11_output 137 = .ok (.ldc2_w 32, 3) := by decide +kernel
theorem dX11_output_140 : decode cX11_output 140 = .ok (.invokevirtual 97, 3) := by decide +kernel
theorem dX11_output_143 : decode cX11_output 143 = .ok (.aload_n 0, 1) := by decide +kernel
theorem dX11_output_144 : decode cX11_output 144 = .ok (.getfield 7, 3) := by decide +kernel
theorem dX11_output_147 : decode cX11_output 147 = .ok (.bipush 30, 2) := by decide +kernel
theorem dX11_output_149 : decode cX11_output 149 = .ok (.iload_n 3, 1) := by decide +kernel
theorem dX11_output_150 : decode cX11_output 150 = .ok (.ifCond .eq 7, 3) := by decide +kernel
theorem dX11_output_153 : decode cX11_output 153 = .ok (.lconst 1, 1) := by decide +kernel
theorem dX11_output_154 : decode cX11_output 154 = .ok (.goto 4, 3) := by decide +kernel
theorem dX11_output_157 : decode cX11_output 157 = .ok (.lconst 0, 1) := by decide +kernel
theorem dX11_output_158 : decode cX11_output 158 = .ok (.lastore, 1) := by decide +kernel
theorem dX11_output_159 : decode cX11_output 159 = .ok (.iload_n 3, 1) := by decide +kernel
theorem dX11_output_160 : decode cX11_output 160 = .ok (.ifCond .eq 7, 3) := by decide +kernel
theorem dX11_output_163 : decode cX11_output 163 = .ok (.lconst 0, 1) := by decide +kernel
theorem dX11_output_164 : decode cX11_output 164 = .ok (.goto 4, 3) := by decide +kernel
theorem dX11_output_167 : decode cX11_output 167 = .ok (.lload_n 1, 1) := by decide +kernel
theorem dX11_output_168 : decode cX11_output 168 = .ok (.lreturn, 1) := by decide +kernel
def j_X11_output_1 (f_t : Nat → Int32) (f_t_w : Nat → Int64) : Int32 :=
  (if (s_X11_demand_p0_0 f_t f_t_w ((f_t_w 14) - (f_t_w 12))) ≤ 0 then (if 0 ≤ (s_X11_demand_p0_0 f_t f_t_w ((f_t_w 14) - (f_t_w 12))) then 0 else (if (f_t_w 8) ≤ (f_t_w 23) then 0 else 1)) else (if (f_t_w 24) < (f_t_w 8) then 1 else (if 0 ≤ (s_X11_demand_p0_0 f_t f_t_w ((f_t_w 14) - (f_t_w 12))) then 0 else (if (f_t_w 8) ≤ (f_t_w 23) then 0 else 1))))
def j_X11_output_2 (u_13 : (Nat → Int64)) : (Nat → Int64) :=
  u_13
def j_X11_output_3 (f_t : Nat → Int32) (f_t_w : Nat → Int64) (x_12 : Int64) : (Nat → Int64) :=
  (j_X11_output_2 (s_X11_enter f_t (vp_updL f_t_w 29 ((f_t_w 29) + 1)) 9 x_12))
def j_X11_output_4 (x_8 : Int32) (f_t_w : Nat → Int64) (f_t : Nat → Int32) : (Nat → Int64) :=
  (if x_8 = 0 then f_t_w else (if (f_t_w 30) = 0 then (j_X11_output_3 f_t f_t_w (if (s_X11_demand_p0_0 f_t f_t_w ((f_t_w 14) - (f_t_w 12))) ≤ 0 then 2 else 1)) else (vp_updL f_t_w 29 ((f_t_w 29) + 1))))
def s_X11_output_5 (x_14 : (Nat → Int64)) (x_16 : Int64) (x_18 : Int64) : Int64 × (Nat → Int64) :=
  (x_18, (vp_updL x_14 30 x_16))
def s_X11_output_6 (x_14 : (Nat → Int64)) (x_8 : Int32) (f_t : Nat → Int32) (f_t_w : Nat → Int64) (x_16 : Int64) : Int64 × (Nat → Int64) :=
  (s_X11_output_5 x_14 x_16 (if x_8 = 0 then (s_X11_demand_p0_0 f_t f_t_w ((f_t_w 14) - (f_t_w 12))) else 0))
def s_X11_output_7 (x_8 : Int32) (f_t : Nat → Int32) (f_t_w : Nat → Int64) (x_14 : (Nat → Int64)) : Int64 × (Nat → Int64) :=
  (s_X11_output_6 x_14 x_8 f_t f_t_w (if x_8 = 0 then 0 else 1))
def s_X11_output_8 (f_t : Nat → Int32) (f_t_w : Nat → Int64) (x_8 : Int32) : Int64 × (Nat → Int64) :=
  (s_X11_output_7 x_8 f_t f_t_w (j_X11_output_4 x_8 f_t_w f_t))
def s_X11_output (f_t : Nat → Int32) (f_t_w : Nat → Int64) : Int64 × (Nat → Int64) :=
  (if (f_t_w 16) = 1 then (0, (vp_updL f_t_w 30 0)) else (s_X11_output_8 f_t f_t_w (j_X11_output_1 f_t f_t_w)))
set_option maxRecDepth 100000 in
set_option maxHeartbeats 4000000 in
theorem c_X11_output (l : Launch) (D : va_G) (cI cJ cO : ClassId) (h_t : Nat) (h_t_w : Nat) (h_t_saved : Nat) (h_t_trial : Nat) (h_t_text : Nat) (h_t_told : Nat) (f_t : Nat → Int32) (f_t_w : Nat → Int64) (hf_t_w_46 : kInL (f_t_w 46) 0 24) : kL l yX11_output cX11_output 4 .long 2 50 D (kT cI cJ cO) [.ref h_t] [(h_t, moE f_t h_t_w h_t_saved h_t_trial h_t_text h_t_told), (h_t_w, jA cJ 294 f_t_w)] ((s_X11_output f_t f_t_w).1) [(h_t, moE f_t h_t_w h_t_saved h_t_trial h_t_text h_t_told), (h_t_w, jA cJ 294 (s_X11_output f_t f_t_w).2)] := by
  refine kL_of (own := RX11) (lv := [(0, .ref h_t)]) rfl rfl (by decide) (Nat.le_of_ble_eq_true rfl) ?_
  intro p e s m args below meth c Q A C hret
  refine k_aload_n (pc := 0) C rfl 0 rfl dX11_output_0 ?_
  refine g_X11_0 (pc := 1) C q_998 0 rfl dX11_output_1 ?_
  refine k_bipush (pc := 4) C bipush_16 dX11_output_4 ?_
  refine k_laldK (pc := 6) (v := (f_t_w 16)) C 1 1 rfl rfl (k_vinc 16 cl_16 (by decide) (by decide)) cl_16 rfl dX11_output_6 ?_
  refine k_lconst (pc := 7) C lconst_1 dX11_output_7 ?_
  refine k_lcmp_ne (pc := 8) (tgt := 22) C dX11_output_8 dX11_output_9 (by decide) (fun c_1 => ?_) (fun c_1 => ?_)
  · refine k_aload_n (pc := 22) C rfl 0 rfl dX11_output_22 ?_
    refine k_iconst (pc := 23) C iconst_0 dX11_output_23 ?_
    refine k_aload_n (pc := 24) C rfl 0 rfl dX11_output_24 ?_
    refine g_X11_0 (pc := 25) C q_998 0 rfl dX11_output_25 ?_
    refine k_bipush (pc := 28) C bipush_14 dX11_output_28 ?_
    refine k_laldK (pc := 30) (v := (f_t_w 14)) C 1 1 rfl rfl (k_vinc 14 cl_14 (by decide) (by decide)) cl_14 rfl dX11_output_30 ?_
    refine k_aload_n (pc := 31) C rfl 0 rfl dX11_output_31 ?_
    refine g_X11_0 (pc := 32) C q_998 0 rfl dX11_output_32 ?_
    refine k_bipush (pc := 35) C bipush_12 dX11_output_35 ?_
    refine k_laldK (pc := 37) (v := (f_t_w 12)) C 1 1 rfl rfl (k_vinc 12 cl_12 (by decide) (by decide)) cl_12 rfl dX11_output_37 ?_
    refine k_lsub (pc := 38) C dX11_output_38 ?_
    refine k_callVl (pc := 39) (As := [.int 0, .long ((f_t_w 14) - (f_t_w 12))]) (rest := []) (r := (s_X11_demand_p0_0 f_t f_t_w ((f_t_w 14) - (f_t_w 12)))) (wc := [(h_t, moE f_t h_t_w h_t_saved h_t_trial h_t_text h_t_told), (h_t_w, jA cJ 294 f_t_w)]) (wc2 := [(h_t, moE f_t h_t_w h_t_saved h_t_trial h_t_text h_t_told), (h_t_w, jA cJ 294 f_t_w)]) (ws2 := [(h_t, moE f_t h_t_w h_t_saved h_t_trial h_t_text h_t_told), (h_t_w, jA cJ 294 f_t_w)]) C (c_X11_demand_p0_0 l D cI cJ cO h_t h_t_w h_t_saved h_t_trial h_t_text h_t_told f_t f_t_w ((f_t_w 14) - (f_t_w 12))) cwv_X11_demand q_1125 vX11 0 rfl [0, 1] rfl rfl (by decide) rfl rfl (Nat.le_of_ble_eq_true rfl) ⟨Nat.le_of_ble_eq_true rfl, Nat.le_of_ble_eq_true rfl⟩ rfl ⟨Nat.le_refl _, Nat.le_refl _⟩ dX11_output_39 ?_
    refine k_lstore_n (pc := 42) (lv2 := [(1, .long (s_X11_demand_p0_0 f_t f_t_w ((f_t_w 14) - (f_t_w 12)))), (0, .ref h_t)]) C rfl (by decide) rfl dX11_output_42 ?_
    refine k_lload_n (pc := 43) C rfl 0 rfl dX11_output_43 ?_
    refine k_lconst (pc := 44) C lconst_0 dX11_output_44 ?_
    have K_19 : ∀ (x_8 : Int32), x_8 = (j_X11_output_1 f_t f_t_w) → KJ p l e (kR 2 50) s m args below meth c 0 0 Q D A 4 [(h_t, moE f_t h_t_w h_t_saved h_t_trial h_t_text h_t_told), (h_t_w, jA cJ 294 f_t_w)] [(1, .long (s_X11_demand_p0_0 f_t f_t_w ((f_t_w 14) - (f_t_w 12)))), (0, .ref h_t)] [.int x_8] 96 := by
      intro x_8 ex_8
      refine k_istore_n (pc := 96) (lv2 := [(3, .int x_8), (1, .long (s_X11_demand_p0_0 f_t f_t_w ((f_t_w 14) - (f_t_w 12)))), (0, .ref h_t)]) C rfl (by decide) rfl dX11_output_96 ?_
      refine k_iload_n (pc := 97) C rfl 0 rfl dX11_output_97 ?_
      have K_20 : ∀ (x_14 : (Nat → Int64)), x_14 = (j_X11_output_4 x_8 f_t_w f_t) → KJ p l e (kR 2 50) s m args below meth c 0 0 Q D A 4 [(h_t, moE f_t h_t_w h_t_saved h_t_trial h_t_text h_t_told), (h_t_w, jA cJ 294 x_14)] [(3, .int x_8), (1, .long (s_X11_demand_p0_0 f_t f_t_w ((f_t_w 14) - (f_t_w 12)))), (0, .ref h_t)] [] 143 := by
        intro x_14 ex_14
        refine k_aload_n (pc := 143) C rfl 2 rfl dX11_output_143 ?_
        refine g_X11_0 (pc := 144) C q_998 0 rfl dX11_output_144 ?_
        refine k_bipush (pc := 147) C bipush_30 dX11_output_147 ?_
        refine k_iload_n (pc := 149) C rfl 0 rfl dX11_output_149 ?_
        have K_21 : ∀ (x_16 : Int64), x_16 = (if x_8 = 0 then 0 else 1) → KJ p l e (kR 2 50) s m args below meth c 0 0 Q D A 4 [(h_t, moE f_t h_t_w h_t_saved h_t_trial h_t_text h_t_told), (h_t_w, jA cJ 294 x_14)] [(3, .int x_8), (1, .long (s_X11_demand_p0_0 f_t f_t_w ((f_t_w 14) - (f_t_w 12))))] [.long x_16, .int 30, .ref h_t_w] 158 := by
          intro x_16 ex_16
          refine k_lastK (pc := 158) (ws2 := [(h_t, moE f_t h_t_w h_t_saved h_t_trial h_t_text h_t_told), (h_t_w, jA cJ 294 (vp_updL x_14 30 x_16))]) C 1 1 rfl rfl (k_vinc 30 cl_30 (by decide) (by decide)) cl_30 rfl dX11_output_158 ?_
          refine k_iload_n (pc := 159) C rfl 0 rfl dX11_output_159 ?_
          have K_22 : ∀ (x_18 : Int64), x_18 = (if x_8 = 0 then (s_X11_demand_p0_0 f_t f_t_w ((f_t_w 14) - (f_t_w 12))) else 0) → KJ p l e (kR 2 50) s m args below meth c 0 0 Q D A 4 [(h_t, moE f_t h_t_w h_t_saved h_t_trial h_t_text h_t_told), (h_t_w, jA cJ 294 (vp_updL x_14 30 x_16))] [] [.long x_18] 168 := by
            intro x_18 ex_18
            have hs : (s_X11_output f_t f_t_w) = (x_18, (vp_updL x_14 30 x_16)) := (k_st (g := s_X11_output_8 f_t f_t_w) ex_8 (if_neg c_1) (k_st (g := s_X11_output_7 x_8 f_t f_t_w) ex_14 rfl (k_st (g := s_X11_output_6 x_14 x_8 f_t f_t_w) ex_16 rfl (k_st (g := s_X11_output_5 x_14 x_16) ex_18 rfl rfl))))
            exact k_finL (pc := 168) hret (by rw [hs]) (by rw [hs]) dX11_output_168
          refine k_if_eq (pc := 160) (tgt := 167) C dX11_output_160 (by decide) (fun c_17 => ?_) (fun c_17 => ?_)
          · refine k_lload_n (pc := 167) C rfl 1 rfl dX11_output_167 ?_
            refine k_lpick (lv2 := []) [] rfl ?_
            exact K_22 (s_X11_demand_p0_0 f_t f_t_w ((f_t_w 14) - (f_t_w 12))) (Eq.symm (if_pos c_17))
          · refine k_lconst (pc := 163) C lconst_0 dX11_output_163 ?_
            refine k_goto (pc := 164) (tgt := 168) C (by decide) dX11_output_164 ?_
            refine k_lpick (lv2 := []) [] rfl ?_
            exact K_22 0 (Eq.symm (if_neg c_17))
        refine k_if_eq (pc := 150) (tgt := 157) C dX11_output_150 (by decide) (fun c_15 => ?_) (fun c_15 => ?_)
        · refine k_lconst (pc := 157) C lconst_0 dX11_output_157 ?_
          refine k_lpick (lv2 := [(3, .int x_8), (1, .long (s_X11_demand_p0_0 f_t f_t_w ((f_t_w 14) - (f_t_w 12))))]) [0, 1] rfl ?_
          exact K_21 0 (Eq.symm (if_pos c_15))
        · refine k_lconst (pc := 153) C lconst_1 dX11_output_153 ?_
          refine k_goto (pc := 154) (tgt := 158) C (by decide) dX11_output_154 ?_
          refine k_lpick (lv2 := [(3, .int x_8), (1, .long (s_X11_demand_p0_0 f_t f_t_w ((f_t_w 14) - (f_t_w 12))))]) [0, 1] rfl ?_
          exact K_21 1 (Eq.symm (if_neg c_15))
      refine k_if_eq (pc := 98) (tgt := 143) C dX11_output_98 (by decide) (fun c_9 => ?_) (fun c_9 => ?_)
      · exact K_20 f_t_w (Eq.symm (if_pos c_9))
      · refine k_aload_n (pc := 101) C rfl 2 rfl dX11_output_101 ?_
        refine g_X11_0 (pc := 102) C q_998 0 rfl dX11_output_102 ?_
        refine k_bipush (pc := 105) C bipush_29 dX11_output_105 ?_
        refine k_dup2 (pc := 107) C rfl rfl dX11_output_107 ?_
        refine k_laldK (pc := 108) (v := (f_t_w 29)) C 1 1 rfl rfl (k_vinc 29 cl_29 (by decide) (by decide)) cl_29 rfl dX11_output_108 ?_
        refine k_lconst (pc := 109) C lconst_1 dX11_output_109 ?_
        refine k_ladd (pc := 110) C dX11_output_110 ?_
        refine k_lastK (pc := 111) (ws2 := [(h_t, moE f_t h_t_w h_t_saved h_t_trial h_t_text h_t_told), (h_t_w, jA cJ 294 (vp_updL f_t_w 29 ((f_t_w 29) + 1)))]) C 1 1 rfl rfl (k_vinc 29 cl_29 (by decide) (by decide)) cl_29 rfl dX11_output_111 ?_
        refine k_aload_n (pc := 112) C rfl 2 rfl dX11_output_112 ?_
        refine g_X11_0 (pc := 113) C q_998 0 rfl dX11_output_113 ?_
        refine k_bipush (pc := 116) C bipush_30 dX11_output_116 ?_
        refine k_laldK (pc := 118) (v := (f_t_w 30)) C 1 1 rfl rfl (k_vinc 30 cl_30 (by decide) (by decide)) cl_30 (upnL (by decide) rfl) dX11_output_118 ?_
        refine k_lconst (pc := 119) C lconst_0 dX11_output_119 ?_
        refine k_lcmp_ne (pc := 120) (tgt := 143) C dX11_output_120 dX11_output_121 (by decide) (fun c_10 => ?_) (fun c_10 => ?_)
        · exact K_20 (vp_updL f_t_w 29 ((f_t_w 29) + 1)) (Eq.symm ((if_neg c_9).trans (if_neg c_10)))
        · refine k_aload_n (pc := 124) C rfl 2 rfl dX11_output_124 ?_
          refine k_bipush (pc := 125) C bipush_9 dX11_output_125 ?_
          refine k_lload_n (pc := 127) C rfl 1 rfl dX11_output_127 ?_
          refine k_lconst (pc := 128) C lconst_0 dX11_output_128 ?_
          have K_23 : ∀ (x_12 : Int64), x_12 = (if (s_X11_demand_p0_0 f_t f_t_w ((f_t_w 14) - (f_t_w 12))) ≤ 0 then 2 else 1) → KJ p l e (kR 2 50) s m args below meth c 0 0 Q D A 4 [(h_t, moE f_t h_t_w h_t_saved h_t_trial h_t_text h_t_told), (h_t_w, jA cJ 294 (vp_updL f_t_w 29 ((f_t_w 29) + 1)))] [(3, .int x_8), (1, .long (s_X11_demand_p0_0 f_t f_t_w ((f_t_w 14) - (f_t_w 12)))), (0, .ref h_t)] [.long x_12, .int 9, .ref h_t] 140 := by
            intro x_12 ex_12
            obtain ⟨u_13, eu_13⟩ : ∃ z : (Nat → Int64), z = (s_X11_enter f_t (vp_updL f_t_w 29 ((f_t_w 29) + 1)) 9 x_12) := ⟨_, rfl⟩
            refine k_callVv (pc := 140) (As := [.int 9, .long x_12]) (rest := []) (wc := [(h_t, moE f_t h_t_w h_t_saved h_t_trial h_t_text h_t_told), (h_t_w, jA cJ 294 (vp_updL f_t_w 29 ((f_t_w 29) + 1)))]) (wc2 := [(h_t, moE f_t h_t_w h_t_saved h_t_trial h_t_text h_t_told), (h_t_w, jA cJ 294 u_13)]) (ws2 := [(h_t, moE f_t h_t_w h_t_saved h_t_trial h_t_text h_t_told), (h_t_w, jA cJ 294 u_13)]) C (by rw [eu_13]; exact c_X11_enter l D cI cJ cO h_t h_t_w h_t_saved h_t_trial h_t_text h_t_told f_t (vp_updL f_t_w 29 ((f_t_w 29) + 1)) 9 x_12 (kInL.rw (F := (vp_updL f_t_w 29 ((f_t_w 29) + 1))) (k := 46) (upnL (by decide) rfl) hf_t_w_46 (by decide) (by decide))) cwv_X11_enter q_1093 vX11 0 rfl [0, 1] rfl rfl (by decide) rfl rfl (Nat.le_of_ble_eq_true rfl) ⟨Nat.le_of_ble_eq_true rfl, Nat.le_of_ble_eq_true rfl⟩ rfl ⟨Nat.le_refl _, Nat.le_refl _⟩ dX11_output_140 ?_
            exact K_20 u_13 (Eq.symm (k_st (g := j_X11_output_3 f_t f_t_w) ex_12 ((if_neg c_9).trans (if_pos c_10)) (k_st (g := j_X11_output_2) eu_13 rfl rfl)))
          refine k_lcmp_le (pc := 129) (tgt := 137) C dX11_output_129 dX11_output_130 (by decide) (fun c_11 => ?_) (fun c_11 => ?_)
          · refine k_ldc2 (pc := 137) C q_989 dX11_output_137 ?_
            exact K_23 2 (Eq.symm (if_pos c_11))
          · refine k_lconst (pc := 133) C lconst_1 dX11_output_133 ?_
            refine k_goto (pc := 134) (tgt := 140) C (by decide) dX11_output_134 ?_
            exact K_23 1 (Eq.symm (if_neg c_11))
    refine k_lcmp_le (pc := 45) (tgt := 67) C dX11_output_45 dX11_output_46 (by decide) (fun c_2 => ?_) (fun c_2 => ?_)
    · refine k_lload_n (pc := 67) C rfl 0 rfl dX11_output_67 ?_
      refine k_lconst (pc := 68) C lconst_0 dX11_output_68 ?_
      refine k_lcmp_ge (pc := 69) (tgt := 95) C dX11_output_69 dX11_output_70 (by decide) (fun c_3 => ?_) (fun c_3 => ?_)
      · refine k_iconst (pc := 95) C iconst_0 dX11_output_95 ?_
        exact K_19 0 (Eq.symm ((if_pos c_2).trans (if_pos c_3)))
      · refine k_aload_n (pc := 73) C rfl 1 rfl dX11_output_73 ?_
        refine g_X11_0 (pc := 74) C q_998 0 rfl dX11_output_74 ?_
        refine k_bipush (pc := 77) C bipush_23 dX11_output_77 ?_
        refine k_laldK (pc := 79) (v := (f_t_w 23)) C 1 1 rfl rfl (k_vinc 23 cl_23 (by decide) (by decide)) cl_23 rfl dX11_output_79 ?_
        refine k_aload_n (pc := 80) C rfl 1 rfl dX11_output_80 ?_
        refine g_X11_0 (pc := 81) C q_998 0 rfl dX11_output_81 ?_
        refine k_bipush (pc := 84) C bipush_8 dX11_output_84 ?_
        refine k_laldK (pc := 86) (v := (f_t_w 8)) C 1 1 rfl rfl (k_vinc 8 cl_8 (by decide) (by decide)) cl_8 rfl dX11_output_86 ?_
        refine k_lcmp_ge (pc := 87) (tgt := 95) C dX11_output_87 dX11_output_88 (by decide) (fun c_4 => ?_) (fun c_4 => ?_)
        · refine k_iconst (pc := 95) C iconst_0 dX11_output_95 ?_
          exact K_19 0 (Eq.symm ((if_pos c_2).trans ((if_neg c_3).trans (if_pos c_4))))
        · refine k_iconst (pc := 91) C iconst_1 dX11_output_91 ?_
          refine k_goto (pc := 92) (tgt := 96) C (by decide) dX11_output_92 ?_
          exact K_19 1 (Eq.symm ((if_pos c_2).trans ((if_neg c_3).trans (if_neg c_4))))
    · refine k_aload_n (pc := 49) C rfl 1 rfl dX11_output_49 ?_
      refine g_X11_0 (pc := 50) C q_998 0 rfl dX11_output_50 ?_
      refine k_bipush (pc := 53) C bipush_24 dX11_output_53 ?_
      refine k_laldK (pc := 55) (v := (f_t_w 24)) C 1 1 rfl rfl (k_vinc 24 cl_24 (by decide) (by decide)) cl_24 rfl dX11_output_55 ?_
      refine k_aload_n (pc := 56) C rfl 1 rfl dX11_output_56 ?_
      refine g_X11_0 (pc := 57) C q_998 0 rfl dX11_output_57 ?_
      refine k_bipush (pc := 60) C bipush_8 dX11_output_60 ?_
      refine k_laldK (pc := 62) (v := (f_t_w 8)) C 1 1 rfl rfl (k_vinc 8 cl_8 (by decide) (by decide)) cl_8 rfl dX11_output_62 ?_
      refine k_lcmp_lt (pc := 63) (tgt := 91) C dX11_output_63 dX11_output_64 (by decide) (fun c_5 => ?_) (fun c_5 => ?_)
      · refine k_iconst (pc := 91) C iconst_1 dX11_output_91 ?_
        refine k_goto (pc := 92) (tgt := 96) C (by decide) dX11_output_92 ?_
        exact K_19 1 (Eq.symm ((if_neg c_2).trans (if_pos c_5)))
      · refine k_lload_n (pc := 67) C rfl 0 rfl dX11_output_67 ?_
        refine k_lconst (pc := 68) C lconst_0 dX11_output_68 ?_
        refine k_lcmp_ge (pc := 69) (tgt := 95) C dX11_output_69 dX11_output_70 (by decide) (fun c_6 => ?_) (fun c_6 => ?_)
        · refine k_iconst (pc := 95) C iconst_0 dX11_output_95 ?_
          exact K_19 0 (Eq.symm ((if_neg c_2).trans ((if_neg c_5).trans (if_pos c_6))))
        · refine k_aload_n (pc := 73) C rfl 1 rfl dX11_output_73 ?_
          refine g_X11_0 (pc := 74) C q_998 0 rfl dX11_output_74 ?_
          refine k_bipush (pc := 77) C bipush_23 dX11_output_77 ?_
          refine k_laldK (pc := 79) (v := (f_t_w 23)) C 1 1 rfl rfl (k_vinc 23 cl_23 (by decide) (by decide)) cl_23 rfl dX11_output_79 ?_
          refine k_aload_n (pc := 80) C rfl 1 rfl dX11_output_80 ?_
          refine g_X11_0 (pc := 81) C q_998 0 rfl dX11_output_81 ?_
          refine k_bipush (pc := 84) C bipush_8 dX11_output_84 ?_
          refine k_laldK (pc := 86) (v := (f_t_w 8)) C 1 1 rfl rfl (k_vinc 8 cl_8 (by decide) (by decide)) cl_8 rfl dX11_output_86 ?_
          refine k_lcmp_ge (pc := 87) (tgt := 95) C dX11_output_87 dX11_output_88 (by decide) (fun c_7 => ?_) (fun c_7 => ?_)
          · refine k_iconst (pc := 95) C iconst_0 dX11_output_95 ?_
            exact K_19 0 (Eq.symm ((if_neg c_2).trans ((if_neg c_5).trans ((if_neg c_6).trans (if_pos c_7)))))
          · refine k_iconst (pc := 91) C iconst_1 dX11_output_91 ?_
            refine k_goto (pc := 92) (tgt := 96) C (by decide) dX11_output_92 ?_
            exact K_19 1 (Eq.symm ((if_neg c_2).trans ((if_neg c_5).trans ((if_neg c_6).trans (if_neg c_7)))))
  · refine k_aload_n (pc := 12) C rfl 0 rfl dX11_output_12 ?_
    refine g_X11_0 (pc := 13) C q_998 0 rfl dX11_output_13 ?_
    refine k_bipush (pc := 16) C bipush_30 dX11_output_16 ?_
    refine k_lconst (pc := 18) C lconst_0 dX11_output_18 ?_
    refine k_lastK (pc := 19) (ws2 := [(h_t, moE f_t h_t_w h_t_saved h_t_trial h_t_text h_t_told), (h_t_w, jA cJ 294 (vp_updL f_t_w 30 0))]) C 1 1 rfl rfl (k_vinc 30 cl_30 (by decide) (by decide)) cl_30 rfl dX11_output_19 ?_
    refine k_lconst (pc := 20) C lconst_0 dX11_output_20 ?_
    have hs : (s_X11_output f_t f_t_w) = (0, (vp_updL f_t_w 30 0)) := (if_pos c_1)
    exact k_finL (pc := 21) hret (by rw [hs]) (by rw [hs]) dX11_output_21

theorem dX11_keepResult_0 : decode cX11_keepResult 0 = .ok (.aload_n 0, 1) := by decide +kernel
theorem dX11_keepResult_1 : decode cX11_keepResult 1 = .ok (.getfield 7, 3) := by decide +kernel
theorem dX11_keepResult_4 : decode cX11_keepResult 4 = .ok (.bipush 45, 2) := by decide +kernel
theorem dX11_keepResult_6 : decode cX11_keepResult 6 = .ok (.laload, 1) := by decide +kernel
theorem dX11_keepResult_7 : decode cX11_keepResult 7 = .ok (.ldc2_w 122, 3) := by decide +kernel
theorem dX11_keepResult_10 : decode cX11_keepResult 10 = .ok (.lcmp, 1) := by decide +kernel
theorem dX11_keepResult_11 : decode cX11_keepResult 11 = .ok (.ifCond .ne 48, 3) := by decide +kernel
theorem dX11_keepResult_14 : decode cX11_keepResult 14 = .ok (.iconst 0, 1) := by decide +kernel
theorem dX11_keepResult_15 : decode cX11_keepResult 15 = .ok (.istore_n 1, 1) := by decide +kernel
theorem dX11_keepResult_16 : decode cX11_keepResult 16 = .ok (.iload_n 1, 1) := by decide +kernel
theorem dX11_keepResult_17 : decode cX11_keepResult 17 = .ok (.bipush 60, 2) := by decide +kernel
theorem dX11_keepResult_19 : decode cX11_keepResult 19 = .ok (.if_icmp .ge 29, 3) := by decide +kernel
theorem dX11_keepResult_22 : decode cX11_keepResult 22 = .ok (.aload_n 0, 1) := by decide +kernel
theorem dX11_keepResult_23 : decode cX11_keepResult 23 = .ok (.getfield 7, 3) := by decide +kernel
theorem dX11_keepResult_26 : decode cX11_keepResult 26 = .ok (.bipush 98, 2) := by decide +kernel
theorem dX11_keepResult_28 : decode cX11_keepResult 28 = .ok (.iload_n 1, 1) := by decide +kernel
theorem dX11_keepResult_29 : decode cX11_keepResult 29 = .ok (.iadd, 1) := by decide +kernel
theorem dX11_keepResult_30 : decode cX11_keepResult 30 = .ok (.aload_n 0, 1) := by decide +kernel
theorem dX11_keepResult_31 : decode cX11_keepResult 31 = .ok (.getfield 7, 3) := by decide +kernel
theorem dX11_keepResult_34 : decode cX11_keepResult 34 = .ok (.bipush 98, 2) := by decide +kernel
theorem dX11_keepResult_36 : decode cX11_keepResult 36 = .ok (.iload_n 1, 1) := by decide +kernel
theorem dX11_keepResult_37 : decode cX11_keepResult 37 = .ok (.iadd, 1) := by decide +kernel
theorem dX11_keepResult_38 : decode cX11_keepResult 38 = .ok (.iconst 4, 1) := by decide +kernel
theorem dX11_keepResult_39 : decode cX11_keepResult 39 = .ok (.iadd, 1) := by decide +kernel
theorem dX11_keepResult_40 : decode cX11_keepResult 40 = .ok (.laload, 1) := by decide +kernel
theorem dX11_keepResult_41 : decode cX11_keepResult 41 = .ok (.lastore, 1) := by decide +kernel
theorem dX11_keepResult_42 : decode cX11_keepResult 42 = .ok (.iinc 1 1, 3) := by decide +kernel
theorem dX11_keepResult_45 : decode cX11_keepResult 45 = .ok (.goto (-29), 3) := by decide +kernel
theorem dX11_keepResult_48 : decode cX11_keepResult 48 = .ok (.aload_n 0, 1) := by decide +kernel
theorem dX11_keepResult_49 : decode cX11_keepResult 49 = .ok (.getfield 7, 3) := by decide +kernel
theorem dX11_keepResult_52 : decode cX11_keepResult 52 = .ok (.bipush 45, 2) := by decide +kernel
theorem dX11_keepResult_54 : decode cX11_keepResult 54 = .ok (.dup2, 1) := by decide +kernel
theorem dX11_keepResult_55 : decode cX11_keepResult 55 = .ok (.laload, 1) := by decide +kernel
theorem dX11_keepResult_56 : decode cX11_keepResult 56 = .ok (.lconst 1, 1) := by decide +kernel
theorem dX11_keepResult_57 : decode cX11_keepResult 57 = .ok (.lsub, 1) := by decide +kernel
theorem dX11_keepResult_58 : decode cX11_keepResult 58 = .ok (.lastore, 1) := by decide +kernel
theorem dX11_keepResult_59 : decode cX11_keepResult 59 = .ok (.bipush 98, 2) := by decide +kernel
theorem dX11_keepResult_61 : decode cX11_keepResult 61 = .ok (.iconst 4, 1) := by decide +kernel
theorem dX11_keepResult_62 : decode cX11_keepResult 62 = .ok (.aload_n 0, 1) := by decide +kernel
theorem dX11_keepResult_63 : decode cX11_keepResult 63 = .ok (.getfield 7, 3) := by decide +kernel
theorem dX11_keepResult_66 : decode cX11_keepResult 66 = .ok (.bipush 45, 2) := by decide +kernel
theorem dX11_keepResult_68 : decode cX11_keepResult 68 = .ok (.laload, 1) := by decide +kernel
theorem dX11_keepResult_69 : decode cX11_keepResult 69 = .ok (.l2i, 1) := by decide +kernel
theorem dX11_keepResult_70 : decode cX11_keepResult 70 = .ok (.imul, 1) := by decide +kernel
theorem dX11_keepResult_71 : decode cX11_keepResult 71 = .ok (.iadd, 1) := by decide +kernel
theorem dX11_keepResult_72 : decode cX11_keepResult 72 = .ok (.istore_n 1, 1) := by decide +kernel
theorem dX11_keepResult_73 : decode cX11_keepResult 73 = .ok (.aload_n 0, 1) := by decide +kernel
theorem dX11_keepResult_74 : decode cX11_keepResult 74 = .ok (.getfield 7, 3) := by decide +kernel
theorem dX11_keepResult_77 : decode cX11_keepResult 77 = .ok (.iload_n 1, 1) := by decide +kernel
theorem dX11_keepResult_78 : decode cX11_keepResult 78 = .ok (.aload_n 0, 1) := by decide +kernel
theorem dX11_keepResult_79 : decode cX11_keepResult 79 = .ok (.getfield 7, 3) := by decide +kernel
theorem dX11_keepResult_82 : decode cX11_keepResult 82 = .ok (.bipush 35, 2) := by decide +kernel
theorem dX11_keepResult_84 : decode cX11_keepResult 84 = .ok (.laload, 1) := by decide +kernel
theorem dX11_keepResult_85 : decode cX11_keepResult 85 = .ok (.lastore, 1) := by decide +kernel
theorem dX11_keepResult_86 : decode cX11_keepResult 86 = .ok (.aload_n 0, 1) := by decide +kernel
theorem dX11_keepResult_87 : decode cX11_keepResult 87 = .ok (.getfield 7, 3) := by decide +kernel
theorem dX11_keepResult_90 : decode cX11_keepResult 90 = .ok (.iload_n 1, 1) := by decide +kernel
theorem dX11_keepResult_91 : decode cX11_keepResult 91 = .ok (.iconst 1, 1) := by decide +kernel
theorem dX11_keepResult_92 : decode cX11_keepResult 92 = .ok (.iadd, 1) := by decide +kernel
theorem dX11_keepResult_93 : decode cX11_keepResult 93 = .ok (.aload_n 0, 1) := by decide +kernel
theorem dX11_keepResult_94 : decode cX11_keepResult 94 = .ok (.getfield 7, 3) := by decide +kernel
theorem dX11_keepResult_97 : decode cX11_keepResult 97 = .ok (.bipush 36, 2) := by decide +kernel
theorem dX11_keepResult_99 : decode cX11_keepResult 99 = .ok (.laload, 1) := by decide +kernel
theorem dX11_keepResult_100 : decode cX11_keepResult 100 = .ok (.lastore, 1) := by decide +kernel
theorem dX11_keepResult_101 : decode cX11_keepResult 101 = .ok (.aload_n 0, 1) := by decide +kernel
theorem dX11_keepResult_102 : decode cX11_keepResult 102 = .ok (.getfield 7, 3) := by decide +kernel
theorem dX11_keepResult_105 : decode cX11_keepResult 105 = .ok (.iload_n 1, 1) := by decide +kernel
theorem dX11_keepResult_106 : decode cX11_keepResult 106 = .ok (.iconst 2, 1) := by decide +kernel
theorem dX11_keepResult_107 : decode cX11_keepResult 107 = .ok (.iadd, 1) := by decide +kernel
theorem dX11_keepResult_108 : decode cX11_keepResult 108 = .ok (.aload_n 0, 1) := by decide +kernel
theorem dX11_keepResult_109 : decode cX11_keepResult 109 = .ok (.getfield 7, 3) := by decide +kernel
theorem dX11_keepResult_112 : decode cX11_keepResult 112 = .ok (.bipush 32, 2) := by decide +kernel
theorem dX11_keepResult_114 : decode cX11_keepResult 114 = .ok (.laload, 1) := by decide +kernel
theorem dX11_keepResult_115 : decode cX11_keepResult 115 = .ok (.lconst 1, 1) := by decide +kernel
theorem dX11_keepResult_116 : decode cX11_keepResult 116 = .ok (.ladd, 1) := by decide +kernel
theorem dX11_keepResult_117 : decode cX11_keepResult 117 = .ok (.aload_n 0, 1) := by decide +kernel
theorem dX11_keepResult_118 : decode cX11_keepResult 118 = .ok (.getfield 7, 3) := by decide +kernel
theorem dX11_keepResult_121 : decode cX11_keepResult 121 = .ok (.bipush 42, 2) := by decide +kernel
theorem dX11_keepResult_123 : decode cX11_keepResult 123 = .ok (.laload, 1) := by decide +kernel
theorem dX11_keepResult_124 : decode cX11_keepResult 124 = .ok (.lsub, 1) := by decide +kernel
theorem dX11_keepResult_125 : decode cX11_keepResult 125 = .ok (.lastore, 1) := by decide +kernel
theorem dX11_keepResult_126 : decode cX11_keepResult 126 = .ok (.aload_n 0, 1) := by decide +kernel
theorem dX11_keepResult_127 : decode cX11_keepResult 127 = .ok (.getfield 7, 3) := by decide +kernel
theorem dX11_keepResult_130 : decode cX11_keepResult 130 = .ok (.iload_n 1, 1) := by decide +kernel
theorem dX11_keepResult_131 : decode cX11_keepResult 131 = .ok (.iconst 3, 1) := by decide +kernel
theorem dX11_keepResult_132 : decode cX11_keepResult 132 = .ok (.iadd, 1) := by decide +kernel
theorem dX11_keepResult_133 : decode cX11_keepResult 133 = .ok (.aload_n 0, 1) := by decide +kernel
theorem dX11_keepResult_134 : decode cX11_keepResult 134 = .ok (.getfield 7, 3) := by decide +kernel
theorem dX11_keepResult_137 : decode cX11_keepResult 137 = .ok (.bipush 41, 2) := by decide +kernel
theorem dX11_keepResult_139 : decode cX11_keepResult 139 = .ok (.laload, 1) := by decide +kernel
theorem dX11_keepResult_140 : decode cX11_keepResult 140 = .ok (.lastore, 1) := by decide +kernel
theorem dX11_keepResult_141 : decode cX11_keepResult 141 = .ok (.aload_n 0, 1) := by decide +kernel
theorem dX11_keepResult_142 : decode cX11_keepResult 142 = .ok (.getfield 7, 3) := by decide +kernel
theorem dX11_keepResult_145 : decode cX11_keepResult 145 = .ok (.bipush 45, 2) := by decide +kernel
theorem dX11_keepResult_147 : decode cX11_keepResult 147 = .ok (.dup2, 1) := by decide +kernel
theorem dX11_keepResult_148 : decode cX11_keepResult 148 = .ok (.laload, 1) := by decide +kernel
theorem dX11_keepResult_149 : decode cX11_keepResult 149 = .ok (.lconst 1, 1) := by decide +kernel
theorem dX11_keepResult_150 : decode cX11_keepResult 150 = .ok (.ladd, 1) := by decide +kernel
theorem dX11_keepResult_151 : decode cX11_keepResult 151 = .ok (.lastore, 1) := by decide +kernel
theorem dX11_keepResult_152 : decode cX11_keepResult 152 = .ok (.return_, 1) := by decide +kernel
def b_X11_keepResult_L16 (z_5 : Int32 × (Nat → Int64)) : (Int32 × (Nat → Int64)) ⊕ (Int32 × (Nat → Int64)) :=
  (if 60 ≤ z_5.1 then (Sum.inr (z_5.1, z_5.2)) else (Sum.inl ((z_5.1 + 1), (vp_updL z_5.2 (Int32.toNatClampNeg (98 + z_5.1)) (z_5.2 (Int32.toNatClampNeg ((98 + z_5.1) + 4)))))))
def j_X11_keepResult_1 (m_9 : Int32 × (Nat → Int64)) : (Nat → Int64) :=
  (vp_updL m_9.2 45 ((m_9.2 45) - 1))
def j_X11_keepResult_2 (f_t_w : Nat → Int64) : (Nat → Int64) :=
  (if (f_t_w 45) = 16 then (j_X11_keepResult_1 (kLoop default (b_X11_keepResult_L16) ((Int32.toInt 60 - Int32.toInt 0).toNat + 1) (0, f_t_w))) else f_t_w)
def s_X11_keepResult_3 (x_11 : (Nat → Int64)) : (Nat → Int64) :=
  (vp_updL (vp_updL (vp_updL (vp_updL (vp_updL x_11 (Int32.toNatClampNeg (98 + (4 * (Int64.toInt32 (x_11 45))))) (x_11 35)) (Int32.toNatClampNeg ((98 + (4 * (Int64.toInt32 (x_11 45)))) + 1)) (x_11 36)) (Int32.toNatClampNeg ((98 + (4 * (Int64.toInt32 (x_11 45)))) + 2)) (((x_11 32) + 1) - (x_11 42))) (Int32.toNatClampNeg ((98 + (4 * (Int64.toInt32 (x_11 45)))) + 3)) (x_11 41)) 45 ((x_11 45) + 1))
def s_X11_keepResult (f_t : Nat → Int32) (f_t_w : Nat → Int64) : (Nat → Int64) :=
  (s_X11_keepResult_3 (j_X11_keepResult_2 f_t_w))
set_option maxRecDepth 100000 in
set_option maxHeartbeats 4000000 in
theorem c_X11_keepResult (l : Launch) (D : va_G) (cI cJ cO : ClassId) (h_t : Nat) (h_t_w : Nat) (h_t_saved : Nat) (h_t_trial : Nat) (h_t_text : Nat) (h_t_told : Nat) (f_t : Nat → Int32) (f_t_w : Nat → Int64) (hf_t_w_45 : kInL (f_t_w 45) 0 16) : kV l yX11_keepResult cX11_keepResult 2 0 0 D (kT cI cJ cO) [.ref h_t] [(h_t, moE f_t h_t_w h_t_saved h_t_trial h_t_text h_t_told), (h_t_w, jA cJ 294 f_t_w)] [(h_t, moE f_t h_t_w h_t_saved h_t_trial h_t_text h_t_told), (h_t_w, jA cJ 294 (s_X11_keepResult f_t f_t_w))] := by
  refine kV_of (own := RX11) (lv := [(0, .ref h_t)]) rfl rfl (by decide) (Nat.le_of_ble_eq_true rfl) ?_
  intro p e s m args below meth c Q A C hret
  refine k_aload_n (pc := 0) C rfl 0 rfl dX11_keepResult_0 ?_
  refine g_X11_0 (pc := 1) C q_998 0 rfl dX11_keepResult_1 ?_
  refine k_bipush (pc := 4) C bipush_45 dX11_keepResult_4 ?_
  refine k_laldK (pc := 6) (v := (f_t_w 45)) C 1 1 rfl rfl (k_vinc 45 cl_45 (by decide) (by decide)) cl_45 rfl dX11_keepResult_6 ?_
  refine k_ldc2 (pc := 7) C q_1155 dX11_keepResult_7 ?_
  have K_13 : ∀ (x_11 : (Nat → Int64)), x_11 = (j_X11_keepResult_2 f_t_w) → kInL (x_11 45) 0 15 → KJ p l e (kR 0 0) s m args below meth c 0 0 Q D A 2 [(h_t, moE f_t h_t_w h_t_saved h_t_trial h_t_text h_t_told), (h_t_w, jA cJ 294 x_11)] [(0, .ref h_t)] [] 59 := by
    intro x_11 ex_11 hj_12
    refine k_bipush (pc := 59) C bipush_98 dX11_keepResult_59 ?_
    refine k_iconst (pc := 61) C iconst_4 dX11_keepResult_61 ?_
    refine k_aload_n (pc := 62) C rfl 0 rfl dX11_keepResult_62 ?_
    refine g_X11_0 (pc := 63) C q_998 0 rfl dX11_keepResult_63 ?_
    refine k_bipush (pc := 66) C bipush_45 dX11_keepResult_66 ?_
    refine k_laldK (pc := 68) (v := (x_11 45)) C 1 1 rfl rfl (k_vinc 45 cl_45 (by decide) (by decide)) cl_45 rfl dX11_keepResult_68 ?_
    refine k_l2i (pc := 69) C dX11_keepResult_69 ?_
    refine k_imul (pc := 70) C dX11_keepResult_70 ?_
    refine k_iadd (pc := 71) C dX11_keepResult_71 ?_
    refine k_istore_n (pc := 72) (lv2 := [(1, .int (98 + (4 * (Int64.toInt32 (x_11 45))))), (0, .ref h_t)]) C rfl (by decide) rfl dX11_keepResult_72 ?_
    refine k_aload_n (pc := 73) C rfl 1 rfl dX11_keepResult_73 ?_
    refine g_X11_0 (pc := 74) C q_998 0 rfl dX11_keepResult_74 ?_
    refine k_iload_n (pc := 77) C rfl 0 rfl dX11_keepResult_77 ?_
    refine k_aload_n (pc := 78) C rfl 1 rfl dX11_keepResult_78 ?_
    refine g_X11_0 (pc := 79) C q_998 0 rfl dX11_keepResult_79 ?_
    refine k_bipush (pc := 82) C bipush_35 dX11_keepResult_82 ?_
    refine k_laldK (pc := 84) (v := (x_11 35)) C 1 1 rfl rfl (k_vinc 35 cl_35 (by decide) (by decide)) cl_35 rfl dX11_keepResult_84 ?_
    refine k_lastK (pc := 85) (ws2 := [(h_t, moE f_t h_t_w h_t_saved h_t_trial h_t_text h_t_told), (h_t_w, jA cJ 294 (vp_updL x_11 (Int32.toNatClampNeg (98 + (4 * (Int64.toInt32 (x_11 45))))) (x_11 35)))]) C 1 1 rfl rfl (kIn.vp (kIn.add (kIn.lit (x := 98) (n := 98) (by decide)) (kIn.mul (n := 4) (by decide) (by decide) (kIn.l2i hj_12 (by decide) (by decide)) (by decide) (by decide)) (by decide) (by decide)) (by decide) (by decide)) rfl rfl dX11_keepResult_85 ?_
    refine k_aload_n (pc := 86) C rfl 1 rfl dX11_keepResult_86 ?_
    refine g_X11_0 (pc := 87) C q_998 0 rfl dX11_keepResult_87 ?_
    refine k_iload_n (pc := 90) C rfl 0 rfl dX11_keepResult_90 ?_
    refine k_iconst (pc := 91) C iconst_1 dX11_keepResult_91 ?_
    refine k_iadd (pc := 92) C dX11_keepResult_92 ?_
    refine k_aload_n (pc := 93) C rfl 1 rfl dX11_keepResult_93 ?_
    refine g_X11_0 (pc := 94) C q_998 0 rfl dX11_keepResult_94 ?_
    refine k_bipush (pc := 97) C bipush_36 dX11_keepResult_97 ?_
    refine k_laldK (pc := 99) (v := (x_11 36)) C 1 1 rfl rfl (k_vinc 36 cl_36 (by decide) (by decide)) cl_36 (upnL (kIn.ne (kIn.add (kIn.lit (x := 98) (n := 98) (by decide)) (kIn.mul (n := 4) (by decide) (by decide) (kIn.l2i hj_12 (by decide) (by decide)) (by decide) (by decide)) (by decide) (by decide)) (by decide) (by decide)) rfl) dX11_keepResult_99 ?_
    refine k_lastK (pc := 100) (ws2 := [(h_t, moE f_t h_t_w h_t_saved h_t_trial h_t_text h_t_told), (h_t_w, jA cJ 294 (vp_updL (vp_updL x_11 (Int32.toNatClampNeg (98 + (4 * (Int64.toInt32 (x_11 45))))) (x_11 35)) (Int32.toNatClampNeg ((98 + (4 * (Int64.toInt32 (x_11 45)))) + 1)) (x_11 36)))]) C 1 1 rfl rfl (kIn.vp (kIn.add (kIn.add (kIn.lit (x := 98) (n := 98) (by decide)) (kIn.mul (n := 4) (by decide) (by decide) (kIn.l2i hj_12 (by decide) (by decide)) (by decide) (by decide)) (by decide) (by decide)) (kIn.lit (x := 1) (n := 1) (by decide)) (by decide) (by decide)) (by decide) (by decide)) rfl rfl dX11_keepResult_100 ?_
    refine k_aload_n (pc := 101) C rfl 1 rfl dX11_keepResult_101 ?_
    refine g_X11_0 (pc := 102) C q_998 0 rfl dX11_keepResult_102 ?_
    refine k_iload_n (pc := 105) C rfl 0 rfl dX11_keepResult_105 ?_
    refine k_iconst (pc := 106) C iconst_2 dX11_keepResult_106 ?_
    refine k_iadd (pc := 107) C dX11_keepResult_107 ?_
    refine k_aload_n (pc := 108) C rfl 1 rfl dX11_keepResult_108 ?_
    refine g_X11_0 (pc := 109) C q_998 0 rfl dX11_keepResult_109 ?_
    refine k_bipush (pc := 112) C bipush_32 dX11_keepResult_112 ?_
    refine k_laldK (pc := 114) (v := (x_11 32)) C 1 1 rfl rfl (k_vinc 32 cl_32 (by decide) (by decide)) cl_32 (upnL (kIn.ne (kIn.add (kIn.add (kIn.lit (x := 98) (n := 98) (by decide)) (kIn.mul (n := 4) (by decide) (by decide) (kIn.l2i hj_12 (by decide) (by decide)) (by decide) (by decide)) (by decide) (by decide)) (kIn.lit (x := 1) (n := 1) (by decide)) (by decide) (by decide)) (by decide) (by decide)) (upnL (kIn.ne (kIn.add (kIn.lit (x := 98) (n := 98) (by decide)) (kIn.mul (n := 4) (by decide) (by decide) (kIn.l2i hj_12 (by decide) (by decide)) (by decide) (by decide)) (by decide) (by decide)) (by decide) (by decide)) rfl)) dX11_keepResult_114 ?_
    refine k_lconst (pc := 115) C lconst_1 dX11_keepResult_115 ?_
    refine k_ladd (pc := 116) C dX11_keepResult_116 ?_
    refine k_aload_n (pc := 117) C rfl 1 rfl dX11_keepResult_117 ?_
    refine g_X11_0 (pc := 118) C q_998 0 rfl dX11_keepResult_118 ?_
    refine k_bipush (pc := 121) C bipush_42 dX11_keepResult_121 ?_
    refine k_laldK (pc := 123) (v := (x_11 42)) C 1 1 rfl rfl (k_vinc 42 cl_42 (by decide) (by decide)) cl_42 (upnL (kIn.ne (kIn.add (kIn.add (kIn.lit (x := 98) (n := 98) (by decide)) (kIn.mul (n := 4) (by decide) (by decide) (kIn.l2i hj_12 (by decide) (by decide)) (by decide) (by decide)) (by decide) (by decide)) (kIn.lit (x := 1) (n := 1) (by decide)) (by decide) (by decide)) (by decide) (by decide)) (upnL (kIn.ne (kIn.add (kIn.lit (x := 98) (n := 98) (by decide)) (kIn.mul (n := 4) (by decide) (by decide) (kIn.l2i hj_12 (by decide) (by decide)) (by decide) (by decide)) (by decide) (by decide)) (by decide) (by decide)) rfl)) dX11_keepResult_123 ?_
    refine k_lsub (pc := 124) C dX11_keepResult_124 ?_
    refine k_lastK (pc := 125) (ws2 := [(h_t, moE f_t h_t_w h_t_saved h_t_trial h_t_text h_t_told), (h_t_w, jA cJ 294 (vp_updL (vp_updL (vp_updL x_11 (Int32.toNatClampNeg (98 + (4 * (Int64.toInt32 (x_11 45))))) (x_11 35)) (Int32.toNatClampNeg ((98 + (4 * (Int64.toInt32 (x_11 45)))) + 1)) (x_11 36)) (Int32.toNatClampNeg ((98 + (4 * (Int64.toInt32 (x_11 45)))) + 2)) (((x_11 32) + 1) - (x_11 42))))]) C 1 1 rfl rfl (kIn.vp (kIn.add (kIn.add (kIn.lit (x := 98) (n := 98) (by decide)) (kIn.mul (n := 4) (by decide) (by decide) (kIn.l2i hj_12 (by decide) (by decide)) (by decide) (by decide)) (by decide) (by decide)) (kIn.lit (x := 2) (n := 2) (by decide)) (by decide) (by decide)) (by decide) (by decide)) rfl rfl dX11_keepResult_125 ?_
    refine k_aload_n (pc := 126) C rfl 1 rfl dX11_keepResult_126 ?_
    refine g_X11_0 (pc := 127) C q_998 0 rfl dX11_keepResult_127 ?_
    refine k_iload_n (pc := 130) C rfl 0 rfl dX11_keepResult_130 ?_
    refine k_iconst (pc := 131) C iconst_3 dX11_keepResult_131 ?_
    refine k_iadd (pc := 132) C dX11_keepResult_132 ?_
    refine k_aload_n (pc := 133) C rfl 1 rfl dX11_keepResult_133 ?_
    refine g_X11_0 (pc := 134) C q_998 0 rfl dX11_keepResult_134 ?_
    refine k_bipush (pc := 137) C bipush_41 dX11_keepResult_137 ?_
    refine k_laldK (pc := 139) (v := (x_11 41)) C 1 1 rfl rfl (k_vinc 41 cl_41 (by decide) (by decide)) cl_41 (upnL (kIn.ne (kIn.add (kIn.add (kIn.lit (x := 98) (n := 98) (by decide)) (kIn.mul (n := 4) (by decide) (by decide) (kIn.l2i hj_12 (by decide) (by decide)) (by decide) (by decide)) (by decide) (by decide)) (kIn.lit (x := 2) (n := 2) (by decide)) (by decide) (by decide)) (by decide) (by decide)) (upnL (kIn.ne (kIn.add (kIn.add (kIn.lit (x := 98) (n := 98) (by decide)) (kIn.mul (n := 4) (by decide) (by decide) (kIn.l2i hj_12 (by decide) (by decide)) (by decide) (by decide)) (by decide) (by decide)) (kIn.lit (x := 1) (n := 1) (by decide)) (by decide) (by decide)) (by decide) (by decide)) (upnL (kIn.ne (kIn.add (kIn.lit (x := 98) (n := 98) (by decide)) (kIn.mul (n := 4) (by decide) (by decide) (kIn.l2i hj_12 (by decide) (by decide)) (by decide) (by decide)) (by decide) (by decide)) (by decide) (by decide)) rfl))) dX11_keepResult_139 ?_
    refine k_lastK (pc := 140) (ws2 := [(h_t, moE f_t h_t_w h_t_saved h_t_trial h_t_text h_t_told), (h_t_w, jA cJ 294 (vp_updL (vp_updL (vp_updL (vp_updL x_11 (Int32.toNatClampNeg (98 + (4 * (Int64.toInt32 (x_11 45))))) (x_11 35)) (Int32.toNatClampNeg ((98 + (4 * (Int64.toInt32 (x_11 45)))) + 1)) (x_11 36)) (Int32.toNatClampNeg ((98 + (4 * (Int64.toInt32 (x_11 45)))) + 2)) (((x_11 32) + 1) - (x_11 42))) (Int32.toNatClampNeg ((98 + (4 * (Int64.toInt32 (x_11 45)))) + 3)) (x_11 41)))]) C 1 1 rfl rfl (kIn.vp (kIn.add (kIn.add (kIn.lit (x := 98) (n := 98) (by decide)) (kIn.mul (n := 4) (by decide) (by decide) (kIn.l2i hj_12 (by decide) (by decide)) (by decide) (by decide)) (by decide) (by decide)) (kIn.lit (x := 3) (n := 3) (by decide)) (by decide) (by decide)) (by decide) (by decide)) rfl rfl dX11_keepResult_140 ?_
    refine k_aload_n (pc := 141) C rfl 1 rfl dX11_keepResult_141 ?_
    refine g_X11_0 (pc := 142) C q_998 0 rfl dX11_keepResult_142 ?_
    refine k_bipush (pc := 145) C bipush_45 dX11_keepResult_145 ?_
    refine k_dup2 (pc := 147) C rfl rfl dX11_keepResult_147 ?_
    refine k_laldK (pc := 148) (v := (x_11 45)) C 1 1 rfl rfl (k_vinc 45 cl_45 (by decide) (by decide)) cl_45 (upnL (kIn.ne (kIn.add (kIn.add (kIn.lit (x := 98) (n := 98) (by decide)) (kIn.mul (n := 4) (by decide) (by decide) (kIn.l2i hj_12 (by decide) (by decide)) (by decide) (by decide)) (by decide) (by decide)) (kIn.lit (x := 3) (n := 3) (by decide)) (by decide) (by decide)) (by decide) (by decide)) (upnL (kIn.ne (kIn.add (kIn.add (kIn.lit (x := 98) (n := 98) (by decide)) (kIn.mul (n := 4) (by decide) (by decide) (kIn.l2i hj_12 (by decide) (by decide)) (by decide) (by decide)) (by decide) (by decide)) (kIn.lit (x := 2) (n := 2) (by decide)) (by decide) (by decide)) (by decide) (by decide)) (upnL (kIn.ne (kIn.add (kIn.add (kIn.lit (x := 98) (n := 98) (by decide)) (kIn.mul (n := 4) (by decide) (by decide) (kIn.l2i hj_12 (by decide) (by decide)) (by decide) (by decide)) (by decide) (by decide)) (kIn.lit (x := 1) (n := 1) (by decide)) (by decide) (by decide)) (by decide) (by decide)) (upnL (kIn.ne (kIn.add (kIn.lit (x := 98) (n := 98) (by decide)) (kIn.mul (n := 4) (by decide) (by decide) (kIn.l2i hj_12 (by decide) (by decide)) (by decide) (by decide)) (by decide) (by decide)) (by decide) (by decide)) rfl)))) dX11_keepResult_148 ?_
    refine k_lconst (pc := 149) C lconst_1 dX11_keepResult_149 ?_
    refine k_ladd (pc := 150) C dX11_keepResult_150 ?_
    refine k_lastK (pc := 151) (ws2 := [(h_t, moE f_t h_t_w h_t_saved h_t_trial h_t_text h_t_told), (h_t_w, jA cJ 294 (vp_updL (vp_updL (vp_updL (vp_updL (vp_updL x_11 (Int32.toNatClampNeg (98 + (4 * (Int64.toInt32 (x_11 45))))) (x_11 35)) (Int32.toNatClampNeg ((98 + (4 * (Int64.toInt32 (x_11 45)))) + 1)) (x_11 36)) (Int32.toNatClampNeg ((98 + (4 * (Int64.toInt32 (x_11 45)))) + 2)) (((x_11 32) + 1) - (x_11 42))) (Int32.toNatClampNeg ((98 + (4 * (Int64.toInt32 (x_11 45)))) + 3)) (x_11 41)) 45 ((x_11 45) + 1)))]) C 1 1 rfl rfl (k_vinc 45 cl_45 (by decide) (by decide)) cl_45 rfl dX11_keepResult_151 ?_
    have hs : (s_X11_keepResult f_t f_t_w) = (vp_updL (vp_updL (vp_updL (vp_updL (vp_updL x_11 (Int32.toNatClampNeg (98 + (4 * (Int64.toInt32 (x_11 45))))) (x_11 35)) (Int32.toNatClampNeg ((98 + (4 * (Int64.toInt32 (x_11 45)))) + 1)) (x_11 36)) (Int32.toNatClampNeg ((98 + (4 * (Int64.toInt32 (x_11 45)))) + 2)) (((x_11 32) + 1) - (x_11 42))) (Int32.toNatClampNeg ((98 + (4 * (Int64.toInt32 (x_11 45)))) + 3)) (x_11 41)) 45 ((x_11 45) + 1)) := (k_st (g := s_X11_keepResult_3) ex_11 rfl rfl)
    exact k_finV (pc := 152) hret (by rw [hs]) dX11_keepResult_152
  refine k_lcmp_ne (pc := 10) (tgt := 59) C dX11_keepResult_10 dX11_keepResult_11 (by decide) (fun c_1 => ?_) (fun c_1 => ?_)
  · exact K_13 f_t_w (Eq.symm (if_neg c_1)) (kInL.rw (F := f_t_w) (k := 45) rfl (kInL.neHi hf_t_w_45 c_1 (by decide)) (by decide) (by decide))
  · refine k_iconst (pc := 14) C iconst_0 dX11_keepResult_14 ?_
    refine k_istore_n (pc := 15) (lv2 := [(1, .int 0), (0, .ref h_t)]) C rfl (by decide) rfl dX11_keepResult_15 ?_
    have K_14 : ∀ (m_9 : Int32 × (Nat → Int64)), m_9 = (kLoop default (b_X11_keepResult_L16) ((Int32.toInt 60 - Int32.toInt 0).toNat + 1) (0, f_t_w)) → kInL (m_9.2 45) 16 16 → KJ p l e (kR 0 0) s m args below meth c 0 0 Q D A 2 [(h_t, moE f_t h_t_w h_t_saved h_t_trial h_t_text h_t_told), (h_t_w, jA cJ 294 m_9.2)] [(0, .ref h_t)] [] 48 := by
      intro m_9 em_9 hx_10
      refine k_aload_n (pc := 48) C rfl 0 rfl dX11_keepResult_48 ?_
      refine g_X11_0 (pc := 49) C q_998 0 rfl dX11_keepResult_49 ?_
      refine k_bipush (pc := 52) C bipush_45 dX11_keepResult_52 ?_
      refine k_dup2 (pc := 54) C rfl rfl dX11_keepResult_54 ?_
      refine k_laldK (pc := 55) (v := (m_9.2 45)) C 1 1 rfl rfl (k_vinc 45 cl_45 (by decide) (by decide)) cl_45 rfl dX11_keepResult_55 ?_
      refine k_lconst (pc := 56) C lconst_1 dX11_keepResult_56 ?_
      refine k_lsub (pc := 57) C dX11_keepResult_57 ?_
      refine k_lastK (pc := 58) (ws2 := [(h_t, moE f_t h_t_w h_t_saved h_t_trial h_t_text h_t_told), (h_t_w, jA cJ 294 (vp_updL m_9.2 45 ((m_9.2 45) - 1)))]) C 1 1 rfl rfl (k_vinc 45 cl_45 (by decide) (by decide)) cl_45 rfl dX11_keepResult_58 ?_
      exact K_13 (vp_updL m_9.2 45 ((m_9.2 45) - 1)) (Eq.symm (k_st (g := j_X11_keepResult_1) em_9 (if_pos c_1) rfl)) (kInL.rw (F := (vp_updL m_9.2 45 ((m_9.2 45) - 1))) (k := 45) upsL (kInL.sub hx_10 (kInL.lit (x := 1) (n := 1) (by decide)) (by decide) (by decide)) (by decide) (by decide))
    have L_15 : ∀ (n : Nat) (z_5 : Int32 × (Nat → Int64)), (Int32.toInt 60 - Int32.toInt z_5.1).toNat < n → (kIn z_5.1 0 60) → (kInL (z_5.2 45) 16 16) → kLoop default (b_X11_keepResult_L16) n z_5 = (kLoop default (b_X11_keepResult_L16) ((Int32.toInt 60 - Int32.toInt 0).toNat + 1) (0, f_t_w)) → KJ p l e (kR 0 0) s m args below meth c 0 0 Q D A 2 [(h_t, moE f_t h_t_w h_t_saved h_t_trial h_t_text h_t_told), (h_t_w, jA cJ 294 z_5.2)] [(1, .int z_5.1), (0, .ref h_t)] [] 16 := by
      intro n
      induction n with
      | zero => intro z_5 hmu; exact absurd hmu (Nat.not_lt_zero _)
      | succ n ih =>
        intro z_5 hmu hl_6 hl_7 hR
        refine k_iload_n (pc := 16) C rfl 0 rfl dX11_keepResult_16 ?_
        refine k_bipush (pc := 17) C bipush_60 dX11_keepResult_17 ?_
        refine k_icmp_ge (pc := 19) (tgt := 48) C dX11_keepResult_19 (by decide) (fun c_8 => ?_) (fun c_8 => ?_)
        · refine k_lpick (lv2 := [(0, .ref h_t)]) [1] rfl ?_
          exact K_14 (z_5.1, z_5.2) (k_lout hR (if_pos c_8)) (kInL.rw (F := z_5.2) (k := 45) rfl hl_7 (by decide) (by decide))
        · refine k_aload_n (pc := 22) C rfl 1 rfl dX11_keepResult_22 ?_
          refine g_X11_0 (pc := 23) C q_998 0 rfl dX11_keepResult_23 ?_
          refine k_bipush (pc := 26) C bipush_98 dX11_keepResult_26 ?_
          refine k_iload_n (pc := 28) C rfl 0 rfl dX11_keepResult_28 ?_
          refine k_iadd (pc := 29) C dX11_keepResult_29 ?_
          refine k_aload_n (pc := 30) C rfl 1 rfl dX11_keepResult_30 ?_
          refine g_X11_0 (pc := 31) C q_998 0 rfl dX11_keepResult_31 ?_
          refine k_bipush (pc := 34) C bipush_98 dX11_keepResult_34 ?_
          refine k_iload_n (pc := 36) C rfl 0 rfl dX11_keepResult_36 ?_
          refine k_iadd (pc := 37) C dX11_keepResult_37 ?_
          refine k_iconst (pc := 38) C iconst_4 dX11_keepResult_38 ?_
          refine k_iadd (pc := 39) C dX11_keepResult_39 ?_
          refine k_laldK (pc := 40) (v := (z_5.2 (Int32.toNatClampNeg ((98 + z_5.1) + 4)))) C 1 1 rfl rfl (kIn.vp (kIn.add (kIn.add (kIn.lit (x := 98) (n := 98) (by decide)) (kIn.nle (n := 60) hl_6 c_8 (by decide)) (by decide) (by decide)) (kIn.lit (x := 4) (n := 4) (by decide)) (by decide) (by decide)) (by decide) (by decide)) rfl rfl dX11_keepResult_40 ?_
          refine k_lastK (pc := 41) (ws2 := [(h_t, moE f_t h_t_w h_t_saved h_t_trial h_t_text h_t_told), (h_t_w, jA cJ 294 (vp_updL z_5.2 (Int32.toNatClampNeg (98 + z_5.1)) (z_5.2 (Int32.toNatClampNeg ((98 + z_5.1) + 4)))))]) C 1 1 rfl rfl (kIn.vp (kIn.add (kIn.lit (x := 98) (n := 98) (by decide)) (kIn.nle (n := 60) hl_6 c_8 (by decide)) (by decide) (by decide)) (by decide) (by decide)) rfl rfl dX11_keepResult_41 ?_
          refine k_iinc (pc := 42) (v := (z_5.1 + 1)) (lv2 := [(1, .int (z_5.1 + 1)), (0, .ref h_t)]) C 0 rfl rfl (by decide) rfl dX11_keepResult_42 ?_
          refine k_goto (pc := 45) (tgt := 16) C (by decide) dX11_keepResult_45 ?_
          exact ih ((z_5.1 + 1), (vp_updL z_5.2 (Int32.toNatClampNeg (98 + z_5.1)) (z_5.2 (Int32.toNatClampNeg ((98 + z_5.1) + 4))))) (k_dec (k_nle c_8) hmu) (kIn.wk (kIn.add (kIn.nle (n := 60) hl_6 c_8 (by decide)) (kIn.lit (x := 1) (n := 1) (by decide)) (by decide) (by decide)) (by decide) (by decide)) (kInL.rw (F := (vp_updL z_5.2 (Int32.toNatClampNeg (98 + z_5.1)) (z_5.2 (Int32.toNatClampNeg ((98 + z_5.1) + 4))))) (k := 45) (upnL (kIn.ne (kIn.add (kIn.lit (x := 98) (n := 98) (by decide)) (kIn.nle (n := 60) hl_6 c_8 (by decide)) (by decide) (by decide)) (by decide) (by decide)) rfl) hl_7 (by decide) (by decide)) (k_lin hR (if_neg c_8))
    exact L_15 ((Int32.toInt 60 - Int32.toInt 0).toNat + 1) (0, f_t_w) (Nat.lt_succ_self _) (kIn.wk (kIn.lit (x := 0) (n := 0) (by decide)) (by decide) (by decide)) (kInL.rw (F := f_t_w) (k := 45) rfl (kInL.eq (n := 16) c_1 (by decide)) (by decide) (by decide)) rfl

theorem dX11_begin_0 : decode cX11_begin 0 = .ok (.aload_n 0, 1) := by decide +kernel
theorem dX11_begin_1 : decode cX11_begin 1 = .ok (.getfield 7, 3) := by decide +kernel
theorem dX11_begin_4 : decode cX11_begin 4 = .ok (.bipush 35, 2) := by decide +kernel
theorem dX11_begin_6 : decode cX11_begin 6 = .ok (.lload_n 1, 1) := by decide +kernel
theorem dX11_begin_7 : decode cX11_begin 7 = .ok (.lastore, 1) := by decide +kernel
theorem dX11_begin_8 : decode cX11_begin 8 = .ok (.aload_n 0, 1) := by decide +kernel
theorem dX11_begin_9 : decode cX11_begin 9 = .ok (.getfield 7, 3) := by decide +kernel
theorem dX11_begin_12 : decode cX11_begin 12 = .ok (.bipush 37, 2) := by decide +kernel
theorem dX11_begin_14 : decode cX11_begin 14 = .ok (.aload_n 0, 1) := by decide +kernel
theorem dX11_begin_15 : decode cX11_begin 15 = .ok (.getfield 7, 3) := by decide +kernel
theorem dX11_begin_18 : decode cX11_begin 18 = .ok (.bipush 12, 2) := by decide +kernel
theorem dX11_begin_20 : decode cX11_begin 20 = .ok (.laload, 1) := by decide +kernel
theorem dX11_begin_21 : decode cX11_begin 21 = .ok (.lastore, 1) := by decide +kernel
theorem dX11_begin_22 : decode cX11_begin 22 = .ok (.aload_n 0, 1) := by decide +kernel
theorem dX11_begin_23 : decode cX11_begin 23 = .ok (.getfield 7, 3) := by decide +kernel
theorem dX11_begin_26 : decode cX11_begin 26 = .ok (.bipush 38, 2) := by decide +kernel
theorem dX11_begin_28 : decode cX11_begin 28 = .ok (.aload_n 0, 1) := by decide +kernel
theorem dX11_begin_29 : decode cX11_begin 29 = .ok (.getfield 7, 3) := by decide +kernel
theorem dX11_begin_32 : decode cX11_begin 32 = .ok (.bipush 13, 2) := by decide +kernel
theorem dX11_begin_34 : decode cX11_begin 34 = .ok (.laload, 1) := by decide +kernel
theorem dX11_begin_35 : decode cX11_begin 35 = .ok (.lastore, 1) := by decide +kernel
theorem dX11_begin_36 : decode cX11_begin 36 = .ok (.aload_n 0, 1) := by decide +kernel
theorem dX11_begin_37 : decode cX11_begin 37 = .ok (.getfield 7, 3) := by decide +kernel
theorem dX11_begin_40 : decode cX11_begin 40 = .ok (.bipush 39, 2) := by decide +kernel
theorem dX11_begin_42 : decode cX11_begin 42 = .ok (.lconst 0, 1) := by decide +kernel
theorem dX11_begin_43 : decode cX11_begin 43 = .ok (.lastore, 1) := by decide +kernel
theorem dX11_begin_44 : decode cX11_begin 44 = .ok (.aload_n 0, 1) := by decide +kernel
theorem dX11_begin_45 : decode cX11_begin 45 = .ok (.getfield 7, 3) := by decide +kernel
theorem dX11_begin_48 : decode cX11_begin 48 = .ok (.bipush 40, 2) := by decide +kernel
theorem dX11_begin_50 : decode cX11_begin 50 = .ok (.lconst 0, 1) := by decide +kernel
theorem dX11_begin_51 : decode cX11_begin 51 = .ok (.lastore, 1) := by decide +kernel
theorem dX11_begin_52 : decode cX11_begin 52 = .ok (.aload_n 0, 1) := by decide +kernel
theorem dX11_begin_53 : decode cX11_begin 53 = .ok (.getfield 7, 3) := by decide +kernel
theorem dX11_begin_56 : decode cX11_begin 56 = .ok (.bipush 41, 2) := by decide +kernel
theorem dX11_begin_58 : decode cX11_begin 58 = .ok (.lconst 0, 1) := by decide +kernel
theorem dX11_begin_59 : decode cX11_begin 59 = .ok (.lastore, 1) := by decide +kernel
theorem dX11_begin_60 : decode cX11_begin 60 = .ok (.aload_n 0, 1) := by decide +kernel
theorem dX11_begin_61 : decode cX11_begin 61 = .ok (.getfield 7, 3) := by decide +kernel
theorem dX11_begin_64 : decode cX11_begin 64 = .ok (.bipush 42, 2) := by decide +kernel
theorem dX11_begin_66 : decode cX11_begin 66 = .ok (.lload_n 3, 1) := by decide +kernel
theorem dX11_begin_67 : decode cX11_begin 67 = .ok (.lastore, 1) := by decide +kernel
theorem dX11_begin_68 : decode cX11_begin 68 = .ok (.aload_n 0, 1) := by decide +kernel
theorem dX11_begin_69 : decode cX11_begin 69 = .ok (.getfield 7, 3) := by decide +kernel
theorem dX11_begin_72 : decode cX11_begin 72 = .ok (.bipush 33, 2) := by decide +kernel
theorem dX11_begin_74 : decode cX11_begin 74 = .ok (.aload_n 0, 1) := by decide +kernel
theorem dX11_begin_75 : decode cX11_begin 75 = .ok (.iconst 2, 1) := by decide +kernel
theorem dX11_begin_76 : decode cX11_begin 76 = .ok (.invokevirtual 114, 3) := by decide +kernel
theorem dX11_begin_79 : decode cX11_begin 79 = .ok (.lconst 0, 1) := by decide +kernel
theorem dX11_begin_80 : decode cX11_begin 80 = .ok (.lcmp, 1) := by decide +kernel
theorem dX11_begin_81 : decode cX11_begin 81 = .ok (.ifCond .le 7, 3) := by decide +kernel
theorem dX11_begin_84 : decode cX11_begin 84 = .ok (.lconst 1, 1) := by decide +kernel
theorem dX11_begin_85 : decode cX11_begin 85 = .ok (.goto 6, 3) := by decide +kernel
theorem dX11_begin_88 : decode cX11_begin 88 = .ok (.ldc2_w 32, 3) := by decide +kernel
theorem dX11_begin_91 : decode cX11_begin 91 = .ok (.lastore, 1) := by decide +kernel
theorem dX11_begin_92 : decode cX11_begin 92 = .ok (.aload_n 0, 1) := by decide +kernel
theorem dX11_begin_93 : decode cX11_begin 93 = .ok (.iconst 2, 1) := by decide +kernel
theorem dX11_begin_94 : decode cX11_begin 94 = .ok (.lload_n 1, 1) := by decide +kernel
theorem dX11_begin_95 : decode cX11_begin 95 = .ok (.invokevirtual 97, 3) := by decide +kernel
theorem dX11_begin_98 : decode cX11_begin 98 = .ok (.return_, 1) := by decide +kernel
def s_X11_begin_1 (u_4 : (Nat → Int64)) : (Nat → Int64) :=
  u_4
def s_X11_begin_2 (f_t : Nat → Int32) (f_t_w : Nat → Int64) (p0 : Int64) (p1 : Int64) (x_3 : Int64) : (Nat → Int64) :=
  (s_X11_begin_1 (s_X11_enter f_t (vp_updL (vp_updL (vp_updL (vp_updL (vp_updL (vp_updL (vp_updL (vp_updL f_t_w 35 p0) 37 (f_t_w 12)) 38 (f_t_w 13)) 39 0) 40 0) 41 0) 42 p1) 33 x_3) 2 p0))
def s_X11_begin_3 (f_t : Nat → Int32) (f_t_w : Nat → Int64) (p0 : Int64) (p1 : Int64) (u_1 : Int64) : (Nat → Int64) :=
  (s_X11_begin_2 f_t f_t_w p0 p1 (if u_1 ≤ 0 then 2 else 1))
def s_X11_begin (f_t : Nat → Int32) (f_t_w : Nat → Int64) (p0 : Int64) (p1 : Int64) : (Nat → Int64) :=
  (s_X11_begin_3 f_t f_t_w p0 p1 (s_X11_of_p0_2 f_t (vp_updL (vp_updL (vp_updL (vp_updL (vp_updL (vp_updL (vp_updL f_t_w 35 p0) 37 (f_t_w 12)) 38 (f_t_w 13)) 39 0) 40 0) 41 0) 42 p1)))
set_option maxRecDepth 100000 in
set_option maxHeartbeats 4000000 in
theorem c_X11_begin (l : Launch) (D : va_G) (cI cJ cO : ClassId) (h_t : Nat) (h_t_w : Nat) (h_t_saved : Nat) (h_t_trial : Nat) (h_t_text : Nat) (h_t_told : Nat) (f_t : Nat → Int32) (f_t_w : Nat → Int64) (p0 : Int64) (p1 : Int64) (hf_t_w_46 : kInL (f_t_w 46) 0 24) (hp_p0 : kInL p0 0 11) : kV l yX11_begin cX11_begin 5 1 24 D (kT cI cJ cO) [.ref h_t, .long p0, .long p1] [(h_t, moE f_t h_t_w h_t_saved h_t_trial h_t_text h_t_told), (h_t_w, jA cJ 294 f_t_w)] [(h_t, moE f_t h_t_w h_t_saved h_t_trial h_t_text h_t_told), (h_t_w, jA cJ 294 (s_X11_begin f_t f_t_w p0 p1))] := by
  refine kV_of (own := RX11) (lv := [(0, .ref h_t), (1, .long p0), (3, .long p1)]) rfl rfl (by decide) (Nat.le_of_ble_eq_true rfl) ?_
  intro p e s m args below meth c Q A C hret
  refine k_aload_n (pc := 0) C rfl 0 rfl dX11_begin_0 ?_
  refine g_X11_0 (pc := 1) C q_998 0 rfl dX11_begin_1 ?_
  refine k_bipush (pc := 4) C bipush_35 dX11_begin_4 ?_
  refine k_lload_n (pc := 6) C rfl 1 rfl dX11_begin_6 ?_
  refine k_lastK (pc := 7) (ws2 := [(h_t, moE f_t h_t_w h_t_saved h_t_trial h_t_text h_t_told), (h_t_w, jA cJ 294 (vp_updL f_t_w 35 p0))]) C 1 1 rfl rfl (k_vinc 35 cl_35 (by decide) (by decide)) cl_35 rfl dX11_begin_7 ?_
  refine k_aload_n (pc := 8) C rfl 0 rfl dX11_begin_8 ?_
  refine g_X11_0 (pc := 9) C q_998 0 rfl dX11_begin_9 ?_
  refine k_bipush (pc := 12) C bipush_37 dX11_begin_12 ?_
  refine k_aload_n (pc := 14) C rfl 0 rfl dX11_begin_14 ?_
  refine g_X11_0 (pc := 15) C q_998 0 rfl dX11_begin_15 ?_
  refine k_bipush (pc := 18) C bipush_12 dX11_begin_18 ?_
  refine k_laldK (pc := 20) (v := (f_t_w 12)) C 1 1 rfl rfl (k_vinc 12 cl_12 (by decide) (by decide)) cl_12 (upnL (by decide) rfl) dX11_begin_20 ?_
  refine k_lastK (pc := 21) (ws2 := [(h_t, moE f_t h_t_w h_t_saved h_t_trial h_t_text h_t_told), (h_t_w, jA cJ 294 (vp_updL (vp_updL f_t_w 35 p0) 37 (f_t_w 12)))]) C 1 1 rfl rfl (k_vinc 37 cl_37 (by decide) (by decide)) cl_37 rfl dX11_begin_21 ?_
  refine k_aload_n (pc := 22) C rfl 0 rfl dX11_begin_22 ?_
  refine g_X11_0 (pc := 23) C q_998 0 rfl dX11_begin_23 ?_
  refine k_bipush (pc := 26) C bipush_38 dX11_begin_26 ?_
  refine k_aload_n (pc := 28) C rfl 0 rfl dX11_begin_28 ?_
  refine g_X11_0 (pc := 29) C q_998 0 rfl dX11_begin_29 ?_
  refine k_bipush (pc := 32) C bipush_13 dX11_begin_32 ?_
  refine k_laldK (pc := 34) (v := (f_t_w 13)) C 1 1 rfl rfl (k_vinc 13 cl_13 (by decide) (by decide)) cl_13 (upnL (by decide) (upnL (by decide) rfl)) dX11_begin_34 ?_
  refine k_lastK (pc := 35) (ws2 := [(h_t, moE f_t h_t_w h_t_saved h_t_trial h_t_text h_t_told), (h_t_w, jA cJ 294 (vp_updL (vp_updL (vp_updL f_t_w 35 p0) 37 (f_t_w 12)) 38 (f_t_w 13)))]) C 1 1 rfl rfl (k_vinc 38 cl_38 (by decide) (by decide)) cl_38 rfl dX11_begin_35 ?_
  refine k_aload_n (pc := 36) C rfl 0 rfl dX11_begin_36 ?_
  refine g_X11_0 (pc := 37) C q_998 0 rfl dX11_begin_37 ?_
  refine k_bipush (pc := 40) C bipush_39 dX11_begin_40 ?_
  refine k_lconst (pc := 42) C lconst_0 dX11_begin_42 ?_
  refine k_lastK (pc := 43) (ws2 := [(h_t, moE f_t h_t_w h_t_saved h_t_trial h_t_text h_t_told), (h_t_w, jA cJ 294 (vp_updL (vp_updL (vp_updL (vp_updL f_t_w 35 p0) 37 (f_t_w 12)) 38 (f_t_w 13)) 39 0))]) C 1 1 rfl rfl (k_vinc 39 cl_39 (by decide) (by decide)) cl_39 rfl dX11_begin_43 ?_
  refine k_aload_n (pc := 44) C rfl 0 rfl dX11_begin_44 ?_
  refine g_X11_0 (pc := 45) C q_998 0 rfl dX11_begin_45 ?_
  refine k_bipush (pc := 48) C bipush_40 dX11_begin_48 ?_
  refine k_lconst (pc := 50) C lconst_0 dX11_begin_50 ?_
  refine k_lastK (pc := 51) (ws2 := [(h_t, moE f_t h_t_w h_t_saved h_t_trial h_t_text h_t_told), (h_t_w, jA cJ 294 (vp_updL (vp_updL (vp_updL (vp_updL (vp_updL f_t_w 35 p0) 37 (f_t_w 12)) 38 (f_t_w 13)) 39 0) 40 0))]) C 1 1 rfl rfl (k_vinc 40 cl_40 (by decide) (by decide)) cl_40 rfl dX11_begin_51 ?_
  refine k_aload_n (pc := 52) C rfl 0 rfl dX11_begin_52 ?_
  refine g_X11_0 (pc := 53) C q_998 0 rfl dX11_begin_53 ?_
  refine k_bipush (pc := 56) C bipush_41 dX11_begin_56 ?_
  refine k_lconst (pc := 58) C lconst_0 dX11_begin_58 ?_
  refine k_lastK (pc := 59) (ws2 := [(h_t, moE f_t h_t_w h_t_saved h_t_trial h_t_text h_t_told), (h_t_w, jA cJ 294 (vp_updL (vp_updL (vp_updL (vp_updL (vp_updL (vp_updL f_t_w 35 p0) 37 (f_t_w 12)) 38 (f_t_w 13)) 39 0) 40 0) 41 0))]) C 1 1 rfl rfl (k_vinc 41 cl_41 (by decide) (by decide)) cl_41 rfl dX11_begin_59 ?_
  refine k_aload_n (pc := 60) C rfl 0 rfl dX11_begin_60 ?_
  refine g_X11_0 (pc := 61) C q_998 0 rfl dX11_begin_61 ?_
  refine k_bipush (pc := 64) C bipush_42 dX11_begin_64 ?_
  refine k_lload_n (pc := 66) C rfl 2 rfl dX11_begin_66 ?_
  refine k_lastK (pc := 67) (ws2 := [(h_t, moE f_t h_t_w h_t_saved h_t_trial h_t_text h_t_told), (h_t_w, jA cJ 294 (vp_updL (vp_updL (vp_updL (vp_updL (vp_updL (vp_updL (vp_updL f_t_w 35 p0) 37 (f_t_w 12)) 38 (f_t_w 13)) 39 0) 40 0) 41 0) 42 p1))]) C 1 1 rfl rfl (k_vinc 42 cl_42 (by decide) (by decide)) cl_42 rfl dX11_begin_67 ?_
  refine k_aload_n (pc := 68) C rfl 0 rfl dX11_begin_68 ?_
  refine g_X11_0 (pc := 69) C q_998 0 rfl dX11_begin_69 ?_
  refine k_bipush (pc := 72) C bipush_33 dX11_begin_72 ?_
  refine k_aload_n (pc := 74) C rfl 0 rfl dX11_begin_74 ?_
  refine k_iconst (pc := 75) C iconst_2 dX11_begin_75 ?_
  obtain ⟨u_1, eu_1⟩ : ∃ z : Int64, z = (s_X11_of_p0_2 f_t (vp_updL (vp_updL (vp_updL (vp_updL (vp_updL (vp_updL (vp_updL f_t_w 35 p0) 37 (f_t_w 12)) 38 (f_t_w 13)) 39 0) 40 0) 41 0) 42 p1)) := ⟨_, rfl⟩
  refine k_callVl (pc := 76) (As := [.int 2]) (rest := [.int 33, .ref h_t_w]) (r := u_1) (wc := [(h_t, moE f_t h_t_w h_t_saved h_t_trial h_t_text h_t_told), (h_t_w, jA cJ 294 (vp_updL (vp_updL (vp_updL (vp_updL (vp_updL (vp_updL (vp_updL f_t_w 35 p0) 37 (f_t_w 12)) 38 (f_t_w 13)) 39 0) 40 0) 41 0) 42 p1))]) (wc2 := [(h_t, moE f_t h_t_w h_t_saved h_t_trial h_t_text h_t_told), (h_t_w, jA cJ 294 (vp_updL (vp_updL (vp_updL (vp_updL (vp_updL (vp_updL (vp_updL f_t_w 35 p0) 37 (f_t_w 12)) 38 (f_t_w 13)) 39 0) 40 0) 41 0) 42 p1))]) (ws2 := [(h_t, moE f_t h_t_w h_t_saved h_t_trial h_t_text h_t_told), (h_t_w, jA cJ 294 (vp_updL (vp_updL (vp_updL (vp_updL (vp_updL (vp_updL (vp_updL f_t_w 35 p0) 37 (f_t_w 12)) 38 (f_t_w 13)) 39 0) 40 0) 41 0) 42 p1))]) C (by rw [eu_1]; exact c_X11_of_p0_2 l D cI cJ cO h_t h_t_w h_t_saved h_t_trial h_t_text h_t_told f_t (vp_updL (vp_updL (vp_updL (vp_updL (vp_updL (vp_updL (vp_updL f_t_w 35 p0) 37 (f_t_w 12)) 38 (f_t_w 13)) 39 0) 40 0) 41 0) 42 p1) (kInL.rw (F := (vp_updL (vp_updL (vp_updL (vp_updL (vp_updL (vp_updL (vp_updL f_t_w 35 p0) 37 (f_t_w 12)) 38 (f_t_w 13)) 39 0) 40 0) 41 0) 42 p1)) (k := 35) (upnL (by decide) (upnL (by decide) (upnL (by decide) (upnL (by decide) (upnL (by decide) (upnL (by decide) upsL)))))) hp_p0 (by decide) (by decide))) cwv_X11_of q_1117 vX11 0 rfl [0, 1] rfl rfl (by decide) rfl rfl (Nat.le_of_ble_eq_true rfl) ⟨Nat.le_of_ble_eq_true rfl, Nat.le_of_ble_eq_true rfl⟩ rfl ⟨Nat.le_refl _, Nat.le_refl _⟩ dX11_begin_76 ?_
  refine k_lconst (pc := 79) C lconst_0 dX11_begin_79 ?_
  have K_5 : ∀ (x_3 : Int64), x_3 = (if u_1 ≤ 0 then 2 else 1) → KJ p l e (kR 1 24) s m args below meth c 0 0 Q D A 5 [(h_t, moE f_t h_t_w h_t_saved h_t_trial h_t_text h_t_told), (h_t_w, jA cJ 294 (vp_updL (vp_updL (vp_updL (vp_updL (vp_updL (vp_updL (vp_updL f_t_w 35 p0) 37 (f_t_w 12)) 38 (f_t_w 13)) 39 0) 40 0) 41 0) 42 p1))] [(0, .ref h_t), (1, .long p0)] [.long x_3, .int 33, .ref h_t_w] 91 := by
    intro x_3 ex_3
    refine k_lastK (pc := 91) (ws2 := [(h_t, moE f_t h_t_w h_t_saved h_t_trial h_t_text h_t_told), (h_t_w, jA cJ 294 (vp_updL (vp_updL (vp_updL (vp_updL (vp_updL (vp_updL (vp_updL (vp_updL f_t_w 35 p0) 37 (f_t_w 12)) 38 (f_t_w 13)) 39 0) 40 0) 41 0) 42 p1) 33 x_3))]) C 1 1 rfl rfl (k_vinc 33 cl_33 (by decide) (by decide)) cl_33 rfl dX11_begin_91 ?_
    refine k_aload_n (pc := 92) C rfl 0 rfl dX11_begin_92 ?_
    refine k_iconst (pc := 93) C iconst_2 dX11_begin_93 ?_
    refine k_lload_n (pc := 94) C rfl 1 rfl dX11_begin_94 ?_
    obtain ⟨u_4, eu_4⟩ : ∃ z : (Nat → Int64), z = (s_X11_enter f_t (vp_updL (vp_updL (vp_updL (vp_updL (vp_updL (vp_updL (vp_updL (vp_updL f_t_w 35 p0) 37 (f_t_w 12)) 38 (f_t_w 13)) 39 0) 40 0) 41 0) 42 p1) 33 x_3) 2 p0) := ⟨_, rfl⟩
    refine k_callVv (pc := 95) (As := [.int 2, .long p0]) (rest := []) (wc := [(h_t, moE f_t h_t_w h_t_saved h_t_trial h_t_text h_t_told), (h_t_w, jA cJ 294 (vp_updL (vp_updL (vp_updL (vp_updL (vp_updL (vp_updL (vp_updL (vp_updL f_t_w 35 p0) 37 (f_t_w 12)) 38 (f_t_w 13)) 39 0) 40 0) 41 0) 42 p1) 33 x_3))]) (wc2 := [(h_t, moE f_t h_t_w h_t_saved h_t_trial h_t_text h_t_told), (h_t_w, jA cJ 294 u_4)]) (ws2 := [(h_t, moE f_t h_t_w h_t_saved h_t_trial h_t_text h_t_told), (h_t_w, jA cJ 294 u_4)]) C (by rw [eu_4]; exact c_X11_enter l D cI cJ cO h_t h_t_w h_t_saved h_t_trial h_t_text h_t_told f_t (vp_updL (vp_updL (vp_updL (vp_updL (vp_updL (vp_updL (vp_updL (vp_updL f_t_w 35 p0) 37 (f_t_w 12)) 38 (f_t_w 13)) 39 0) 40 0) 41 0) 42 p1) 33 x_3) 2 p0 (kInL.rw (F := (vp_updL (vp_updL (vp_updL (vp_updL (vp_updL (vp_updL (vp_updL (vp_updL f_t_w 35 p0) 37 (f_t_w 12)) 38 (f_t_w 13)) 39 0) 40 0) 41 0) 42 p1) 33 x_3)) (k := 46) (upnL (by decide) (upnL (by decide) (upnL (by decide) (upnL (by decide) (upnL (by decide) (upnL (by decide) (upnL (by decide) (upnL (by decide) rfl)))))))) hf_t_w_46 (by decide) (by decide))) cwv_X11_enter q_1093 vX11 0 rfl [0, 1] rfl rfl (by decide) rfl rfl (Nat.le_of_ble_eq_true rfl) ⟨Nat.le_of_ble_eq_true rfl, Nat.le_of_ble_eq_true rfl⟩ rfl ⟨Nat.le_refl _, Nat.le_refl _⟩ dX11_begin_95 ?_
    have hs : (s_X11_begin f_t f_t_w p0 p1) = u_4 := (k_st (g := s_X11_begin_3 f_t f_t_w p0 p1) eu_1 rfl (k_st (g := s_X11_begin_2 f_t f_t_w p0 p1) ex_3 rfl (k_st (g := s_X11_begin_1) eu_4 rfl rfl)))
    exact k_finV (pc := 98) hret (by rw [hs]) dX11_begin_98
  refine k_lcmp_le (pc := 80) (tgt := 88) C dX11_begin_80 dX11_begin_81 (by decide) (fun c_2 => ?_) (fun c_2 => ?_)
  · refine k_ldc2 (pc := 88) C q_989 dX11_begin_88 ?_
    refine k_lpick (lv2 := [(0, .ref h_t), (1, .long p0)]) [0, 1] rfl ?_
    exact K_5 2 (Eq.symm (if_pos c_2))
  · refine k_lconst (pc := 84) C lconst_1 dX11_begin_84 ?_
    refine k_goto (pc := 85) (tgt := 91) C (by decide) dX11_begin_85 ?_
    refine k_lpick (lv2 := [(0, .ref h_t), (1, .long p0)]) [0, 1] rfl ?_
    exact K_5 1 (Eq.symm (if_neg c_2))

theorem dX11_save_0 : decode cX11_save 0 = .ok (.aload_n 0, 1) := by decide +kernel
theorem dX11_save_1 : decode cX11_save 1 = .ok (.getfield 54, 3) := by decide +kernel
theorem dX11_save_4 : decode cX11_save 4 = .ok (.bipush 6, 2) := by decide +kernel
theorem dX11_save_6 : decode cX11_save 6 = .ok (.if_icmp .ne 44, 3) := by decide +kernel
theorem dX11_save_9 : decode cX11_save 9 = .ok (.iconst 0, 1) := by decide +kernel
theorem dX11_save_10 : decode cX11_save 10 = .ok (.istore_n 1, 1) := by decide +kernel
theorem dX11_save_11 : decode cX11_save 11 = .ok (.iload_n 1, 1) := by decide +kernel
theorem dX11_save_12 : decode cX11_save 12 = .ok (.sipush 1470, 3) := by decide +kernel
theorem dX11_save_15 : decode cX11_save 15 = .ok (.if_icmp .ge 25, 3) := by decide +kernel
theorem dX11_save_18 : decode cX11_save 18 = .ok (.aload_n 0, 1) := by decide +kernel
theorem dX11_save_19 : decode cX11_save 19 = .ok (.getfield 13, 3) := by decide +kernel
theorem dX11_save_22 : decode cX11_save 22 = .ok (.iload_n 1, 1) := by decide +kernel
theorem dX11_save_23 : decode cX11_save 23 = .ok (.aload_n 0, 1) := by decide +kernel
theorem dX11_save_24 : decode cX11_save 24 = .ok (.getfield 13, 3) := by decide +kernel
theorem dX11_save_27 : decode cX11_save 27 = .ok (.iload_n 1, 1) := by decide +kernel
theorem dX11_save_28 : decode cX11_save 28 = .ok (.sipush 294, 3) := by decide +kernel
theorem dX11_save_31 : decode cX11_save 31 = .ok (.iadd, 1) := by decide +kernel
theorem dX11_save_32 : decode cX11_save 32 = .ok (.laload, 1) := by decide +kernel
theorem dX11_save_33 : decode cX11_save 33 = .ok (.lastore, 1) := by decide +kernel
theorem dX11_save_34 : decode cX11_save 34 = .ok (.iinc 1 1, 3) := by decide +kernel
theorem dX11_save_37 : decode cX11_save 37 = .ok (.goto (-26), 3) := by decide +kernel
theorem dX11_save_40 : decode cX11_save 40 = .ok (.aload_n 0, 1) := by decide +kernel
theorem dX11_save_41 : decode cX11_save 41 = .ok (.dup, 1) := by decide +kernel
theorem dX11_save_42 : decode cX11_save 42 = .ok (.getfield 54, 3) := by decide +kernel
theorem dX11_save_45 : decode cX11_save 45 = .ok (.iconst 1, 1) := by decide +kernel
theorem dX11_save_46 : decode cX11_save 46 = .ok (.isub, 1) := by decide +kernel
theorem dX11_save_47 : decode cX11_save 47 = .ok (.putfield 54, 3) := by decide +kernel
theorem dX11_save_50 : decode cX11_save 50 = .ok (.iconst 0, 1) := by decide +kernel
theorem dX11_save_51 : decode cX11_save 51 = .ok (.istore_n 1, 1) := by decide +kernel
theorem dX11_save_52 : decode cX11_save 52 = .ok (.iload_n 1, 1) := by decide +kernel
theorem dX11_save_53 : decode cX11_save 53 = .ok (.sipush 294, 3) := by decide +kernel
theorem dX11_save_56 : decode cX11_save 56 = .ok (.if_icmp .ge 30, 3) := by decide +kernel
theorem dX11_save_59 : decode cX11_save 59 = .ok (.aload_n 0, 1) := by decide +kernel
theorem dX11_save_60 : decode cX11_save 60 = .ok (.getfield 13, 3) := by decide +kernel
theorem dX11_save_63 : decode cX11_save 63 = .ok (.aload_n 0, 1) := by decide +kernel
theorem dX11_save_64 : decode cX11_save 64 = .ok (.getfield 54, 3) := by decide +kernel
theorem dX11_save_67 : decode cX11_save 67 = .ok (.sipush 294, 3) := by decide +kernel
theorem dX11_save_70 : decode cX11_save 70 = .ok (.imul, 1) := by decide +kernel
theorem dX11_save_71 : decode cX11_save 71 = .ok (.iload_n 1, 1) := by decide +kernel
theorem dX11_save_72 : decode cX11_save 72 = .ok (.iadd, 1) := by decide +kernel
theorem dX11_save_73 : decode cX11_save 73 = .ok (.aload_n 0, 1) := by decide +kernel
theorem dX11_save_74 : decode cX11_save 74 = .ok (.getfield 7, 3) := by decide +kernel
theorem dX11_save_77 : decode cX11_save 77 = .ok (.iload_n 1, 1) := by decide +kernel
theorem dX11_save_78 : decode cX11_save 78 = .ok (.laload, 1) := by decide +kernel
theorem dX11_save_79 : decode cX11_save 79 = .ok (.lastore, 1) := by decide +kernel
theorem dX11_save_80 : decode cX11_save 80 = .ok (.iinc 1 1, 3) := by decide +kernel
theorem dX11_save_83 : decode cX11_save 83 = .ok (.goto (-31), 3) := by decide +kernel
theorem dX11_save_86 : decode cX11_save 86 = .ok (.aload_n 0, 1) := by decide +kernel
theorem dX11_save_87 : decode cX11_save 87 = .ok (.dup, 1) := by decide +kernel
theorem dX11_save_88 : decode cX11_save 88 = .ok (.getfield 54, 3) := by decide +kernel
theorem dX11_save_91 : decode cX11_save 91 = .ok (.iconst 1, 1) := by decide +kernel
theorem dX11_save_92 : decode cX11_save 92 = .ok (.iadd, 1) := by decide +kernel
theorem dX11_save_93 : decode cX11_save 93 = .ok (.putfield 54, 3) := by decide +kernel
theorem dX11_save_96 : decode cX11_save 96 = .ok (.return_, 1) := by decide +kernel
def b_X11_save_L11 (z_4 : Int32 × (Nat → Int64)) : (Int32 × (Nat → Int64)) ⊕ (Int32 × (Nat → Int64)) :=
  (if 1470 ≤ z_4.1 then (Sum.inr (z_4.1, z_4.2)) else (Sum.inl ((z_4.1 + 1), (vp_updL z_4.2 (Int32.toNatClampNeg z_4.1) (z_4.2 (Int32.toNatClampNeg (z_4.1 + 294)))))))
def j_X11_save_1 (f_t : Nat → Int32) (m_7 : Int32 × (Nat → Int64)) : (Nat → Int32) × (Nat → Int64) :=
  ((upd f_t 5 ((f_t 5) - 1)), m_7.2)
def j_X11_save_2 (f_t : Nat → Int32) (f_t_saved : Nat → Int64) : (Nat → Int32) × (Nat → Int64) :=
  (if (f_t 5) = 6 then (j_X11_save_1 f_t (kLoop default (b_X11_save_L11) ((Int32.toInt 1470 - Int32.toInt 0).toNat + 1) (0, f_t_saved))) else (f_t, f_t_saved))
def b_X11_save_L52 (m_8 : (Nat → Int32) × (Nat → Int64)) (f_t_w : Nat → Int64) (z_12 : Int32 × (Nat → Int64)) : (Int32 × (Nat → Int64)) ⊕ (Int32 × (Nat → Int64)) :=
  (if 294 ≤ z_12.1 then (Sum.inr (z_12.1, z_12.2)) else (Sum.inl ((z_12.1 + 1), (vp_updL z_12.2 (Int32.toNatClampNeg (((m_8.1 5) * 294) + z_12.1)) (f_t_w (Int32.toNatClampNeg z_12.1))))))
def s_X11_save_3 (m_8 : (Nat → Int32) × (Nat → Int64)) (m_15 : Int32 × (Nat → Int64)) : (Nat → Int32) × (Nat → Int64) :=
  ((upd m_8.1 5 ((m_8.1 5) + 1)), m_15.2)
def s_X11_save_4 (f_t_w : Nat → Int64) (m_8 : (Nat → Int32) × (Nat → Int64)) : (Nat → Int32) × (Nat → Int64) :=
  (s_X11_save_3 m_8 (kLoop default (b_X11_save_L52 m_8 f_t_w) ((Int32.toInt 294 - Int32.toInt 0).toNat + 1) (0, m_8.2)))
def s_X11_save (f_t : Nat → Int32) (f_t_saved : Nat → Int64) (f_t_w : Nat → Int64) : (Nat → Int32) × (Nat → Int64) :=
  (s_X11_save_4 f_t_w (j_X11_save_2 f_t f_t_saved))
set_option maxRecDepth 100000 in
set_option maxHeartbeats 4000000 in
theorem c_X11_save (l : Launch) (D : va_G) (cI cJ cO : ClassId) (h_t : Nat) (h_t_w : Nat) (h_t_saved : Nat) (h_t_trial : Nat) (h_t_text : Nat) (h_t_told : Nat) (f_t : Nat → Int32) (f_t_saved : Nat → Int64) (f_t_w : Nat → Int64) (hf_t_5 : kIn (f_t 5) 0 6) : kV l yX11_save cX11_save 2 0 0 D (kT cI cJ cO) [.ref h_t] [(h_t, moE f_t h_t_w h_t_saved h_t_trial h_t_text h_t_told), (h_t_saved, jA cJ 1764 f_t_saved), (h_t_w, jA cJ 294 f_t_w)] [(h_t, moE (s_X11_save f_t f_t_saved f_t_w).1 h_t_w h_t_saved h_t_trial h_t_text h_t_told), (h_t_saved, jA cJ 1764 (s_X11_save f_t f_t_saved f_t_w).2), (h_t_w, jA cJ 294 f_t_w)] := by
  refine kV_of (own := RX11) (lv := [(0, .ref h_t)]) rfl rfl (by decide) (Nat.le_of_ble_eq_true rfl) ?_
  intro p e s m args below meth c Q A C hret
  refine k_aload_n (pc := 0) C rfl 0 rfl dX11_save_0 ?_
  refine g_X11_5 (pc := 1) (x := (f_t 5)) C q_1003 0 rfl rfl dX11_save_1 ?_
  refine k_bipush (pc := 4) C bipush_6 dX11_save_4 ?_
  have K_16 : ∀ (m_8 : (Nat → Int32) × (Nat → Int64)), m_8 = (j_X11_save_2 f_t f_t_saved) → kIn (m_8.1 5) 0 5 → KJ p l e (kR 0 0) s m args below meth c 0 0 Q D A 2 [(h_t, moE m_8.1 h_t_w h_t_saved h_t_trial h_t_text h_t_told), (h_t_saved, jA cJ 1764 m_8.2), (h_t_w, jA cJ 294 f_t_w)] [(0, .ref h_t)] [] 50 := by
    intro m_8 em_8 hj_9
    refine k_iconst (pc := 50) C iconst_0 dX11_save_50 ?_
    refine k_istore_n (pc := 51) (lv2 := [(1, .int 0), (0, .ref h_t)]) C rfl (by decide) rfl dX11_save_51 ?_
    have K_17 : ∀ (m_15 : Int32 × (Nat → Int64)), m_15 = (kLoop default (b_X11_save_L52 m_8 f_t_w) ((Int32.toInt 294 - Int32.toInt 0).toNat + 1) (0, m_8.2)) → KJ p l e (kR 0 0) s m args below meth c 0 0 Q D A 2 [(h_t, moE m_8.1 h_t_w h_t_saved h_t_trial h_t_text h_t_told), (h_t_saved, jA cJ 1764 m_15.2), (h_t_w, jA cJ 294 f_t_w)] [(0, .ref h_t)] [] 86 := by
      intro m_15 em_15
      refine k_aload_n (pc := 86) C rfl 0 rfl dX11_save_86 ?_
      refine k_dup (pc := 87) C rfl dX11_save_87 ?_
      refine g_X11_5 (pc := 88) (x := (m_8.1 5)) C q_1003 0 rfl rfl dX11_save_88 ?_
      refine k_iconst (pc := 91) C iconst_1 dX11_save_91 ?_
      refine k_iadd (pc := 92) C dX11_save_92 ?_
      refine p_X11_5 (pc := 93) (ws2 := [(h_t, moE (upd m_8.1 5 ((m_8.1 5) + 1)) h_t_w h_t_saved h_t_trial h_t_text h_t_told), (h_t_saved, jA cJ 1764 m_15.2), (h_t_w, jA cJ 294 f_t_w)]) C q_1003 0 rfl rfl dX11_save_93 ?_
      have hs : (s_X11_save f_t f_t_saved f_t_w) = ((upd m_8.1 5 ((m_8.1 5) + 1)), m_15.2) := (k_st (g := s_X11_save_4 f_t_w) em_8 rfl (k_st (g := s_X11_save_3 m_8) em_15 rfl rfl))
      exact k_finV (pc := 96) hret (by rw [hs]) dX11_save_96
    have L_18 : ∀ (n : Nat) (z_12 : Int32 × (Nat → Int64)), (Int32.toInt 294 - Int32.toInt z_12.1).toNat < n → (kIn z_12.1 0 294) → kLoop default (b_X11_save_L52 m_8 f_t_w) n z_12 = (kLoop default (b_X11_save_L52 m_8 f_t_w) ((Int32.toInt 294 - Int32.toInt 0).toNat + 1) (0, m_8.2)) → KJ p l e (kR 0 0) s m args below meth c 0 0 Q D A 2 [(h_t, moE m_8.1 h_t_w h_t_saved h_t_trial h_t_text h_t_told), (h_t_saved, jA cJ 1764 z_12.2), (h_t_w, jA cJ 294 f_t_w)] [(1, .int z_12.1), (0, .ref h_t)] [] 52 := by
      intro n
      induction n with
      | zero => intro z_12 hmu; exact absurd hmu (Nat.not_lt_zero _)
      | succ n ih =>
        intro z_12 hmu hl_13 hR
        refine k_iload_n (pc := 52) C rfl 0 rfl dX11_save_52 ?_
        refine k_sipush (pc := 53) C sipush_294 dX11_save_53 ?_
        refine k_icmp_ge (pc := 56) (tgt := 86) C dX11_save_56 (by decide) (fun c_14 => ?_) (fun c_14 => ?_)
        · refine k_lpick (lv2 := [(0, .ref h_t)]) [1] rfl ?_
          exact K_17 (z_12.1, z_12.2) (k_lout hR (if_pos c_14))
        · refine k_aload_n (pc := 59) C rfl 1 rfl dX11_save_59 ?_
          refine g_X11_1 (pc := 60) C q_999 0 rfl dX11_save_60 ?_
          refine k_aload_n (pc := 63) C rfl 1 rfl dX11_save_63 ?_
          refine g_X11_5 (pc := 64) (x := (m_8.1 5)) C q_1003 0 rfl rfl dX11_save_64 ?_
          refine k_sipush (pc := 67) C sipush_294 dX11_save_67 ?_
          refine k_imul (pc := 70) C dX11_save_70 ?_
          refine k_iload_n (pc := 71) C rfl 0 rfl dX11_save_71 ?_
          refine k_iadd (pc := 72) C dX11_save_72 ?_
          refine k_aload_n (pc := 73) C rfl 1 rfl dX11_save_73 ?_
          refine g_X11_0 (pc := 74) C q_998 0 rfl dX11_save_74 ?_
          refine k_iload_n (pc := 77) C rfl 0 rfl dX11_save_77 ?_
          refine k_laldK (pc := 78) (v := (f_t_w (Int32.toNatClampNeg z_12.1))) C 2 1 rfl rfl (kIn.vp (kIn.nle (n := 294) hl_13 c_14 (by decide)) (by decide) (by decide)) rfl rfl dX11_save_78 ?_
          refine k_lastK (pc := 79) (ws2 := [(h_t, moE m_8.1 h_t_w h_t_saved h_t_trial h_t_text h_t_told), (h_t_saved, jA cJ 1764 (vp_updL z_12.2 (Int32.toNatClampNeg (((m_8.1 5) * 294) + z_12.1)) (f_t_w (Int32.toNatClampNeg z_12.1)))), (h_t_w, jA cJ 294 f_t_w)]) C 1 1 rfl rfl (kIn.vp (kIn.add (kIn.mulR (n := 294) (by decide) (by decide) hj_9 (by decide) (by decide)) (kIn.nle (n := 294) hl_13 c_14 (by decide)) (by decide) (by decide)) (by decide) (by decide)) rfl rfl dX11_save_79 ?_
          refine k_iinc (pc := 80) (v := (z_12.1 + 1)) (lv2 := [(1, .int (z_12.1 + 1)), (0, .ref h_t)]) C 0 rfl rfl (by decide) rfl dX11_save_80 ?_
          refine k_goto (pc := 83) (tgt := 52) C (by decide) dX11_save_83 ?_
          exact ih ((z_12.1 + 1), (vp_updL z_12.2 (Int32.toNatClampNeg (((m_8.1 5) * 294) + z_12.1)) (f_t_w (Int32.toNatClampNeg z_12.1)))) (k_dec (k_nle c_14) hmu) (kIn.wk (kIn.add (kIn.nle (n := 294) hl_13 c_14 (by decide)) (kIn.lit (x := 1) (n := 1) (by decide)) (by decide) (by decide)) (by decide) (by decide)) (k_lin hR (if_neg c_14))
    exact L_18 ((Int32.toInt 294 - Int32.toInt 0).toNat + 1) (0, m_8.2) (Nat.lt_succ_self _) (kIn.wk (kIn.lit (x := 0) (n := 0) (by decide)) (by decide) (by decide)) rfl
  refine k_icmp_ne (pc := 6) (tgt := 50) C dX11_save_6 (by decide) (fun c_1 => ?_) (fun c_1 => ?_)
  · exact K_16 (f_t, f_t_saved) (Eq.symm (if_neg c_1)) (kIn.rw (F := f_t) (k := 5) rfl (kIn.neHi hf_t_5 c_1 (by decide)) (by decide) (by decide))
  · refine k_iconst (pc := 9) C iconst_0 dX11_save_9 ?_
    refine k_istore_n (pc := 10) (lv2 := [(1, .int 0), (0, .ref h_t)]) C rfl (by decide) rfl dX11_save_10 ?_
    have K_19 : ∀ (m_7 : Int32 × (Nat → Int64)), m_7 = (kLoop default (b_X11_save_L11) ((Int32.toInt 1470 - Int32.toInt 0).toNat + 1) (0, f_t_saved)) → KJ p l e (kR 0 0) s m args below meth c 0 0 Q D A 2 [(h_t, moE f_t h_t_w h_t_saved h_t_trial h_t_text h_t_told), (h_t_saved, jA cJ 1764 m_7.2), (h_t_w, jA cJ 294 f_t_w)] [(0, .ref h_t)] [] 40 := by
      intro m_7 em_7
      refine k_aload_n (pc := 40) C rfl 0 rfl dX11_save_40 ?_
      refine k_dup (pc := 41) C rfl dX11_save_41 ?_
      refine g_X11_5 (pc := 42) (x := (f_t 5)) C q_1003 0 rfl rfl dX11_save_42 ?_
      refine k_iconst (pc := 45) C iconst_1 dX11_save_45 ?_
      refine k_isub (pc := 46) C dX11_save_46 ?_
      refine p_X11_5 (pc := 47) (ws2 := [(h_t, moE (upd f_t 5 ((f_t 5) - 1)) h_t_w h_t_saved h_t_trial h_t_text h_t_told), (h_t_saved, jA cJ 1764 m_7.2), (h_t_w, jA cJ 294 f_t_w)]) C q_1003 0 rfl rfl dX11_save_47 ?_
      exact K_16 ((upd f_t 5 ((f_t 5) - 1)), m_7.2) (Eq.symm (k_st (g := j_X11_save_1 f_t) em_7 (if_pos c_1) rfl)) (kIn.rw (F := (upd f_t 5 ((f_t 5) - 1))) (k := 5) ups (kIn.sub (kIn.eq (n := 6) c_1 (by decide)) (kIn.lit (x := 1) (n := 1) (by decide)) (by decide) (by decide)) (by decide) (by decide))
    have L_20 : ∀ (n : Nat) (z_4 : Int32 × (Nat → Int64)), (Int32.toInt 1470 - Int32.toInt z_4.1).toNat < n → (kIn z_4.1 0 1470) → kLoop default (b_X11_save_L11) n z_4 = (kLoop default (b_X11_save_L11) ((Int32.toInt 1470 - Int32.toInt 0).toNat + 1) (0, f_t_saved)) → KJ p l e (kR 0 0) s m args below meth c 0 0 Q D A 2 [(h_t, moE f_t h_t_w h_t_saved h_t_trial h_t_text h_t_told), (h_t_saved, jA cJ 1764 z_4.2), (h_t_w, jA cJ 294 f_t_w)] [(1, .int z_4.1), (0, .ref h_t)] [] 11 := by
      intro n
      induction n with
      | zero => intro z_4 hmu; exact absurd hmu (Nat.not_lt_zero _)
      | succ n ih =>
        intro z_4 hmu hl_5 hR
        refine k_iload_n (pc := 11) C rfl 0 rfl dX11_save_11 ?_
        refine k_sipush (pc := 12) C sipush_1470 dX11_save_12 ?_
        refine k_icmp_ge (pc := 15) (tgt := 40) C dX11_save_15 (by decide) (fun c_6 => ?_) (fun c_6 => ?_)
        · refine k_lpick (lv2 := [(0, .ref h_t)]) [1] rfl ?_
          exact K_19 (z_4.1, z_4.2) (k_lout hR (if_pos c_6))
        · refine k_aload_n (pc := 18) C rfl 1 rfl dX11_save_18 ?_
          refine g_X11_1 (pc := 19) C q_999 0 rfl dX11_save_19 ?_
          refine k_iload_n (pc := 22) C rfl 0 rfl dX11_save_22 ?_
          refine k_aload_n (pc := 23) C rfl 1 rfl dX11_save_23 ?_
          refine g_X11_1 (pc := 24) C q_999 0 rfl dX11_save_24 ?_
          refine k_iload_n (pc := 27) C rfl 0 rfl dX11_save_27 ?_
          refine k_sipush (pc := 28) C sipush_294 dX11_save_28 ?_
          refine k_iadd (pc := 31) C dX11_save_31 ?_
          refine k_laldK (pc := 32) (v := (z_4.2 (Int32.toNatClampNeg (z_4.1 + 294)))) C 1 1 rfl rfl (kIn.vp (kIn.add (kIn.nle (n := 1470) hl_5 c_6 (by decide)) (kIn.lit (x := 294) (n := 294) (by decide)) (by decide) (by decide)) (by decide) (by decide)) rfl rfl dX11_save_32 ?_
          refine k_lastK (pc := 33) (ws2 := [(h_t, moE f_t h_t_w h_t_saved h_t_trial h_t_text h_t_told), (h_t_saved, jA cJ 1764 (vp_updL z_4.2 (Int32.toNatClampNeg z_4.1) (z_4.2 (Int32.toNatClampNeg (z_4.1 + 294))))), (h_t_w, jA cJ 294 f_t_w)]) C 1 1 rfl rfl (kIn.vp (kIn.nle (n := 1470) hl_5 c_6 (by decide)) (by decide) (by decide)) rfl rfl dX11_save_33 ?_
          refine k_iinc (pc := 34) (v := (z_4.1 + 1)) (lv2 := [(1, .int (z_4.1 + 1)), (0, .ref h_t)]) C 0 rfl rfl (by decide) rfl dX11_save_34 ?_
          refine k_goto (pc := 37) (tgt := 11) C (by decide) dX11_save_37 ?_
          exact ih ((z_4.1 + 1), (vp_updL z_4.2 (Int32.toNatClampNeg z_4.1) (z_4.2 (Int32.toNatClampNeg (z_4.1 + 294))))) (k_dec (k_nle c_6) hmu) (kIn.wk (kIn.add (kIn.nle (n := 1470) hl_5 c_6 (by decide)) (kIn.lit (x := 1) (n := 1) (by decide)) (by decide) (by decide)) (by decide) (by decide)) (k_lin hR (if_neg c_6))
    exact L_20 ((Int32.toInt 1470 - Int32.toInt 0).toNat + 1) (0, f_t_saved) (Nat.lt_succ_self _) (kIn.wk (kIn.lit (x := 0) (n := 0) (by decide)) (by decide) (by decide)) rfl

theorem dX11_lay_0 : decode cX11_lay 0 = .ok (.bipush 50, 2) := by decide +kernel
theorem dX11_lay_2 : decode cX11_lay 2 = .ok (.iconst 4, 1) := by decide +kernel
theorem dX11_lay_3 : decode cX11_lay 3 = .ok (.iload_n 1, 1) := by decide +kernel
theorem dX11_lay_4 : decode cX11_lay 4 = .ok (.imul, 1) := by decide +kernel
theorem dX11_lay_5 : decode cX11_lay 5 = .ok (.iadd, 1) := by decide +kernel
theorem dX11_lay_6 : decode cX11_lay 6 = .ok (.istore 6, 2) := by decide +kernel
theorem dX11_lay_8 : decode cX11_lay 8 = .ok (.aload_n 0, 1) := by decide +kernel
theorem dX11_lay_9 : decode cX11_lay 9 = .ok (.getfield 7, 3) := by decide +kernel
theorem dX11_lay_12 : decode cX11_lay 12 = .ok (.iload 6, 2) := by decide +kernel
theorem dX11_lay_14 : decode cX11_lay 14 = .ok (.iload_n 2, 1) := by decide +kernel
theorem dX11_lay_15 : decode cX11_lay 15 = .ok (.i2l, 1) := by decide +kernel
theorem dX11_lay_16 : decode cX11_lay 16 = .ok (.lastore, 1) := by decide +kernel
theorem dX11_lay_17 : decode cX11_lay 17 = .ok (.aload_n 0, 1) := by decide +kernel
theorem dX11_lay_18 : decode cX11_lay 18 = .ok (.getfield 7, 3) := by decide +kernel
theorem dX11_lay_21 : decode cX11_lay 21 = .ok (.iload 6, 2) := by decide +kernel
theorem dX11_lay_23 : decode cX11_lay 23 = .ok (.iconst 1, 1) := by decide +kernel
theorem dX11_lay_24 : decode cX11_lay 24 = .ok (.iadd, 1) := by decide +kernel
theorem dX11_lay_25 : decode cX11_lay 25 = .ok (.iload_n 3, 1) := by decide +kernel
theorem dX11_lay_26 : decode cX11_lay 26 = .ok (.i2l, 1) := by decide +kernel
theorem dX11_lay_27 : decode cX11_lay 27 = .ok (.lastore, 1) := by decide +kernel
theorem dX11_lay_28 : decode cX11_lay 28 = .ok (.aload_n 0, 1) := by decide +kernel
theorem dX11_lay_29 : decode cX11_lay 29 = .ok (.getfield 7, 3) := by decide +kernel
theorem dX11_lay_32 : decode cX11_lay 32 = .ok (.iload 6, 2) := by decide +kernel
theorem dX11_lay_34 : decode cX11_lay 34 = .ok (.iconst 2, 1) := by decide +kernel
theorem dX11_lay_35 : decode cX11_lay 35 = .ok (.iadd, 1) := by decide +kernel
theorem dX11_lay_36 : decode cX11_lay 36 = .ok (.iload 4, 2) := by decide +kernel
theorem dX11_lay_38 : decode cX11_lay 38 = .ok (.i2l, 1) := by decide +kernel
theorem dX11_lay_39 : decode cX11_lay 39 = .ok (.lastore, 1) := by decide +kernel
theorem dX11_lay_40 : decode cX11_lay 40 = .ok (.aload_n 0, 1) := by decide +kernel
theorem dX11_lay_41 : decode cX11_lay 41 = .ok (.getfield 7, 3) := by decide +kernel
theorem dX11_lay_44 : decode cX11_lay 44 = .ok (.iload 6, 2) := by decide +kernel
theorem dX11_lay_46 : decode cX11_lay 46 = .ok (.iconst 3, 1) := by decide +kernel
theorem dX11_lay_47 : decode cX11_lay 47 = .ok (.iadd, 1) := by decide +kernel
theorem dX11_lay_48 : decode cX11_lay 48 = .ok (.iload 5, 2) := by decide +kernel
theorem dX11_lay_50 : decode cX11_lay 50 = .ok (.i2l, 1) := by decide +kernel
theorem dX11_lay_51 : decode cX11_lay 51 = .ok (.lastore, 1) := by decide +kernel
theorem dX11_lay_52 : decode cX11_lay 52 = .ok (.return_, 1) := by decide +kernel
def s_X11_lay (f_t : Nat → Int32) (f_t_w : Nat → Int64) (p0 : Int32) (p1 : Int32) (p2 : Int32) (p3 : Int32) (p4 : Int32) : (Nat → Int64) :=
  (vp_updL (vp_updL (vp_updL (vp_updL f_t_w (Int32.toNatClampNeg (50 + (4 * p0))) (Int32.toInt64 p1)) (Int32.toNatClampNeg ((50 + (4 * p0)) + 1)) (Int32.toInt64 p2)) (Int32.toNatClampNeg ((50 + (4 * p0)) + 2)) (Int32.toInt64 p3)) (Int32.toNatClampNeg ((50 + (4 * p0)) + 3)) (Int32.toInt64 p4))
set_option maxRecDepth 100000 in
set_option maxHeartbeats 4000000 in
theorem c_X11_lay (l : Launch) (D : va_G) (cI cJ cO : ClassId) (h_t : Nat) (h_t_w : Nat) (h_t_saved : Nat) (h_t_trial : Nat) (h_t_text : Nat) (h_t_told : Nat) (f_t : Nat → Int32) (f_t_w : Nat → Int64) (p0 : Int32) (p1 : Int32) (p2 : Int32) (p3 : Int32) (p4 : Int32) (hp_p0 : kIn p0 0 11) : kV l yX11_lay cX11_lay 7 0 0 D (kT cI cJ cO) [.ref h_t, .int p0, .int p1, .int p2, .int p3, .int p4] [(h_t, moE f_t h_t_w h_t_saved h_t_trial h_t_text h_t_told), (h_t_w, jA cJ 294 f_t_w)] [(h_t, moE f_t h_t_w h_t_saved h_t_trial h_t_text h_t_told), (h_t_w, jA cJ 294 (s_X11_lay f_t f_t_w p0 p1 p2 p3 p4))] := by
  refine kV_of (own := RX11) (lv := [(0, .ref h_t), (1, .int p0), (2, .int p1), (3, .int p2), (4, .int p3), (5, .int p4)]) rfl rfl (by decide) (Nat.le_of_ble_eq_true rfl) ?_
  intro p e s m args below meth c Q A C hret
  refine k_bipush (pc := 0) C bipush_50 dX11_lay_0 ?_
  refine k_iconst (pc := 2) C iconst_4 dX11_lay_2 ?_
  refine k_iload_n (pc := 3) C rfl 1 rfl dX11_lay_3 ?_
  refine k_imul (pc := 4) C dX11_lay_4 ?_
  refine k_iadd (pc := 5) C dX11_lay_5 ?_
  refine k_istore (pc := 6) (lv2 := [(6, .int (50 + (4 * p0))), (0, .ref h_t), (1, .int p0), (2, .int p1), (3, .int p2), (4, .int p3), (5, .int p4)]) C (by decide) rfl dX11_lay_6 ?_
  refine k_aload_n (pc := 8) C rfl 1 rfl dX11_lay_8 ?_
  refine g_X11_0 (pc := 9) C q_998 0 rfl dX11_lay_9 ?_
  refine k_iload (pc := 12) C 0 rfl dX11_lay_12 ?_
  refine k_iload_n (pc := 14) C rfl 3 rfl dX11_lay_14 ?_
  refine k_i2l (pc := 15) C dX11_lay_15 ?_
  refine k_lastK (pc := 16) (ws2 := [(h_t, moE f_t h_t_w h_t_saved h_t_trial h_t_text h_t_told), (h_t_w, jA cJ 294 (vp_updL f_t_w (Int32.toNatClampNeg (50 + (4 * p0))) (Int32.toInt64 p1)))]) C 1 1 rfl rfl (kIn.vp (kIn.add (kIn.lit (x := 50) (n := 50) (by decide)) (kIn.mul (n := 4) (by decide) (by decide) hp_p0 (by decide) (by decide)) (by decide) (by decide)) (by decide) (by decide)) rfl rfl dX11_lay_16 ?_
  refine k_aload_n (pc := 17) C rfl 1 rfl dX11_lay_17 ?_
  refine g_X11_0 (pc := 18) C q_998 0 rfl dX11_lay_18 ?_
  refine k_iload (pc := 21) C 0 rfl dX11_lay_21 ?_
  refine k_iconst (pc := 23) C iconst_1 dX11_lay_23 ?_
  refine k_iadd (pc := 24) C dX11_lay_24 ?_
  refine k_iload_n (pc := 25) C rfl 4 rfl dX11_lay_25 ?_
  refine k_i2l (pc := 26) C dX11_lay_26 ?_
  refine k_lastK (pc := 27) (ws2 := [(h_t, moE f_t h_t_w h_t_saved h_t_trial h_t_text h_t_told), (h_t_w, jA cJ 294 (vp_updL (vp_updL f_t_w (Int32.toNatClampNeg (50 + (4 * p0))) (Int32.toInt64 p1)) (Int32.toNatClampNeg ((50 + (4 * p0)) + 1)) (Int32.toInt64 p2)))]) C 1 1 rfl rfl (kIn.vp (kIn.add (kIn.add (kIn.lit (x := 50) (n := 50) (by decide)) (kIn.mul (n := 4) (by decide) (by decide) hp_p0 (by decide) (by decide)) (by decide) (by decide)) (kIn.lit (x := 1) (n := 1) (by decide)) (by decide) (by decide)) (by decide) (by decide)) rfl rfl dX11_lay_27 ?_
  refine k_aload_n (pc := 28) C rfl 1 rfl dX11_lay_28 ?_
  refine g_X11_0 (pc := 29) C q_998 0 rfl dX11_lay_29 ?_
  refine k_iload (pc := 32) C 0 rfl dX11_lay_32 ?_
  refine k_iconst (pc := 34) C iconst_2 dX11_lay_34 ?_
  refine k_iadd (pc := 35) C dX11_lay_35 ?_
  refine k_iload (pc := 36) C 5 rfl dX11_lay_36 ?_
  refine k_i2l (pc := 38) C dX11_lay_38 ?_
  refine k_lastK (pc := 39) (ws2 := [(h_t, moE f_t h_t_w h_t_saved h_t_trial h_t_text h_t_told), (h_t_w, jA cJ 294 (vp_updL (vp_updL (vp_updL f_t_w (Int32.toNatClampNeg (50 + (4 * p0))) (Int32.toInt64 p1)) (Int32.toNatClampNeg ((50 + (4 * p0)) + 1)) (Int32.toInt64 p2)) (Int32.toNatClampNeg ((50 + (4 * p0)) + 2)) (Int32.toInt64 p3)))]) C 1 1 rfl rfl (kIn.vp (kIn.add (kIn.add (kIn.lit (x := 50) (n := 50) (by decide)) (kIn.mul (n := 4) (by decide) (by decide) hp_p0 (by decide) (by decide)) (by decide) (by decide)) (kIn.lit (x := 2) (n := 2) (by decide)) (by decide) (by decide)) (by decide) (by decide)) rfl rfl dX11_lay_39 ?_
  refine k_aload_n (pc := 40) C rfl 1 rfl dX11_lay_40 ?_
  refine g_X11_0 (pc := 41) C q_998 0 rfl dX11_lay_41 ?_
  refine k_iload (pc := 44) C 0 rfl dX11_lay_44 ?_
  refine k_iconst (pc := 46) C iconst_3 dX11_lay_46 ?_
  refine k_iadd (pc := 47) C dX11_lay_47 ?_
  refine k_iload (pc := 48) C 6 rfl dX11_lay_48 ?_
  refine k_i2l (pc := 50) C dX11_lay_50 ?_
  refine k_lastK (pc := 51) (ws2 := [(h_t, moE f_t h_t_w h_t_saved h_t_trial h_t_text h_t_told), (h_t_w, jA cJ 294 (vp_updL (vp_updL (vp_updL (vp_updL f_t_w (Int32.toNatClampNeg (50 + (4 * p0))) (Int32.toInt64 p1)) (Int32.toNatClampNeg ((50 + (4 * p0)) + 1)) (Int32.toInt64 p2)) (Int32.toNatClampNeg ((50 + (4 * p0)) + 2)) (Int32.toInt64 p3)) (Int32.toNatClampNeg ((50 + (4 * p0)) + 3)) (Int32.toInt64 p4)))]) C 1 1 rfl rfl (kIn.vp (kIn.add (kIn.add (kIn.lit (x := 50) (n := 50) (by decide)) (kIn.mul (n := 4) (by decide) (by decide) hp_p0 (by decide) (by decide)) (by decide) (by decide)) (kIn.lit (x := 3) (n := 3) (by decide)) (by decide) (by decide)) (by decide) (by decide)) rfl rfl dX11_lay_51 ?_
  have hs : (s_X11_lay f_t f_t_w p0 p1 p2 p3 p4) = (vp_updL (vp_updL (vp_updL (vp_updL f_t_w (Int32.toNatClampNeg (50 + (4 * p0))) (Int32.toInt64 p1)) (Int32.toNatClampNeg ((50 + (4 * p0)) + 1)) (Int32.toInt64 p2)) (Int32.toNatClampNeg ((50 + (4 * p0)) + 2)) (Int32.toInt64 p3)) (Int32.toNatClampNeg ((50 + (4 * p0)) + 3)) (Int32.toInt64 p4)) := rfl
  exact k_finV (pc := 52) hret (by rw [hs]) dX11_lay_52
