theorem q_20 : Cond.selects RX11 yX11_movePoints yX11_movePoints ∈ lw_all := kq 20 (by decide +kernel) (by decide +kernel)
theorem q_23 : Cond.selects RX11 yX11_output yX11_output ∈ lw_all := kq 23 (by decide +kernel) (by decide +kernel)
theorem q_25 : Cond.selects RX11 yX11_count yX11_count ∈ lw_all := kq 25 (by decide +kernel) (by decide +kernel)
theorem q_26 : Cond.selects RX11 yX11_goOn yX11_goOn ∈ lw_all := kq 26 (by decide +kernel) (by decide +kernel)
theorem q_988 : Cond.constantLong RX11 30 (10) ∈ lw_all := kq 988 (by decide +kernel) (by decide +kernel)
theorem q_1109 : Cond.methodLink RX11 139 yX11_movePoints ∈ lw_all := kq 1109 (by decide +kernel) (by decide +kernel)
theorem q_1111 : Cond.instanceMethod yX11_movePoints ∈ lw_all := kq 1111 (by decide +kernel) (by decide +kernel)
theorem q_1112 : Cond.code yX11_movePoints cX11_movePoints 3 none ∈ lw_all := kq 1112 (by decide +kernel) (by decide +kernel)
theorem q_1121 : Cond.methodLink RX11 142 yX11_output ∈ lw_all := kq 1121 (by decide +kernel) (by decide +kernel)
theorem q_1123 : Cond.instanceMethod yX11_output ∈ lw_all := kq 1123 (by decide +kernel) (by decide +kernel)
theorem q_1124 : Cond.code yX11_output cX11_output 4 (some .long) ∈ lw_all := kq 1124 (by decide +kernel) (by decide +kernel)
theorem q_1136 : Cond.constantLong RX11 146 (25) ∈ lw_all := kq 1136 (by decide +kernel) (by decide +kernel)
theorem q_1137 : Cond.constantLong RX11 148 (-700) ∈ lw_all := kq 1137 (by decide +kernel) (by decide +kernel)
theorem q_1138 : Cond.constantLong RX11 150 (2000) ∈ lw_all := kq 1138 (by decide +kernel) (by decide +kernel)
theorem q_1139 : Cond.methodLink RX11 152 yX11_count ∈ lw_all := kq 1139 (by decide +kernel) (by decide +kernel)
theorem q_1141 : Cond.instanceMethod yX11_count ∈ lw_all := kq 1141 (by decide +kernel) (by decide +kernel)
theorem q_1142 : Cond.code yX11_count cX11_count 6 none ∈ lw_all := kq 1142 (by decide +kernel) (by decide +kernel)
theorem q_1143 : Cond.methodLink RX11 155 yX11_goOn ∈ lw_all := kq 1143 (by decide +kernel) (by decide +kernel)
theorem q_1145 : Cond.instanceMethod yX11_goOn ∈ lw_all := kq 1145 (by decide +kernel) (by decide +kernel)
theorem q_1146 : Cond.code yX11_goOn cX11_goOn 1 none ∈ lw_all := kq 1146 (by decide +kernel) (by decide +kernel)
theorem cl_10 : Int32.toNatClampNeg 10 = 10 := by decide
theorem cl_4 : Int32.toNatClampNeg 4 = 4 := by decide
theorem cl_5 : Int32.toNatClampNeg 5 = 5 := by decide
theorem cl_9 : Int32.toNatClampNeg 9 = 9 := by decide
theorem cwv_X11_count : kCWv yX11_count cX11_count 6 none 2 := ⟨⟨q_1142, q_53, by decide +kernel⟩, q_1141, q_25⟩
theorem cwv_X11_goOn : kCWv yX11_goOn cX11_goOn 1 none 0 := ⟨⟨q_1146, q_53, by decide +kernel⟩, q_1145, q_26⟩
theorem cwv_X11_movePoints : kCWv yX11_movePoints cX11_movePoints 3 none 0 := ⟨⟨q_1112, q_53, by decide +kernel⟩, q_1111, q_20⟩
theorem cwv_X11_output : kCWv yX11_output cX11_output 4 (some .long) 0 := ⟨⟨q_1124, q_53, by decide +kernel⟩, q_1123, q_23⟩
theorem dX11_minute_0 : decode cX11_minute 0 = .ok (.aload_n 0, 1) := by decide +kernel
theorem dX11_minute_1 : decode cX11_minute 1 = .ok (.invokevirtual 139, 3) := by decide +kernel
theorem dX11_minute_4 : decode cX11_minute 4 = .ok (.aload_n 0, 1) := by decide +kernel
theorem dX11_minute_5 : decode cX11_minute 5 = .ok (.invokevirtual 142, 3) := by decide +kernel
theorem dX11_minute_8 : decode cX11_minute 8 = .ok (.lstore_n 1, 1) := by decide +kernel
theorem dX11_minute_9 : decode cX11_minute 9 = .ok (.lload_n 1, 1) := by decide +kernel
theorem dX11_minute_10 : decode cX11_minute 10 = .ok (.lneg, 1) := by decide +kernel
theorem dX11_minute_11 : decode cX11_minute 11 = .ok (.aload_n 0, 1) := by decide +kernel
theorem dX11_minute_12 : decode cX11_minute 12 = .ok (.getfield 7, 3) := by decide +kernel
theorem dX11_minute_15 : decode cX11_minute 15 = .ok (.iconst 5, 1) := by decide +kernel
theorem dX11_minute_16 : decode cX11_minute 16 = .ok (.laload, 1) := by decide +kernel
theorem dX11_minute_17 : decode cX11_minute 17 = .ok (.lmul, 1) := by decide +kernel
theorem dX11_minute_18 : decode cX11_minute 18 = .ok (.ldc2_w 30, 3) := by decide +kernel
theorem dX11_minute_21 : decode cX11_minute 21 = .ok (.ldiv, 1) := by decide +kernel
theorem dX11_minute_22 : decode cX11_minute 22 = .ok (.lstore_n 3, 1) := by decide +kernel
theorem dX11_minute_23 : decode cX11_minute 23 = .ok (.aload_n 0, 1) := by decide +kernel
theorem dX11_minute_24 : decode cX11_minute 24 = .ok (.getfield 7, 3) := by decide +kernel
theorem dX11_minute_27 : decode cX11_minute 27 = .ok (.bipush 16, 2) := by decide +kernel
theorem dX11_minute_29 : decode cX11_minute 29 = .ok (.laload, 1) := by decide +kernel
theorem dX11_minute_30 : decode cX11_minute 30 = .ok (.lconst 1, 1) := by decide +kernel
theorem dX11_minute_31 : decode cX11_minute 31 = .ok (.lcmp, 1) := by decide +kernel
theorem dX11_minute_32 : decode cX11_minute 32 = .ok (.ifCond .ne 7, 3) := by decide +kernel
theorem dX11_minute_35 : decode cX11_minute 35 = .ok (.lconst 0, 1) := by decide +kernel
theorem dX11_minute_36 : decode cX11_minute 36 = .ok (.goto 25, 3) := by decide +kernel
theorem dX11_minute_39 : decode cX11_minute 39 = .ok (.aload_n 0, 1) := by decide +kernel
theorem dX11_minute_40 : decode cX11_minute 40 = .ok (.iconst 1, 1) := by decide +kernel
theorem dX11_minute_41 : decode cX11_minute 41 = .ok (.aload_n 0, 1) := by decide +kernel
theorem dX11_minute_42 : decode cX11_minute 42 = .ok (.getfield 7, 3) := by decide +kernel
theorem dX11_minute_45 : decode cX11_minute 45 = .ok (.bipush 15, 2) := by decide +kernel
theorem dX11_minute_47 : decode cX11_minute 47 = .ok (.laload, 1) := by decide +kernel
theorem dX11_minute_48 : decode cX11_minute 48 = .ok (.aload_n 0, 1) := by decide +kernel
theorem dX11_minute_49 : decode cX11_minute 49 = .ok (.getfield 7, 3) := by decide +kernel
theorem dX11_minute_52 : decode cX11_minute 52 = .ok (.bipush 13, 2) := by decide +kernel
theorem dX11_minute_54 : decode cX11_minute 54 = .ok (.laload, 1) := by decide +kernel
theorem dX11_minute_55 : decode cX11_minute 55 = .ok (.lsub, 1) := by decide +kernel
theorem dX11_minute_56 : decode cX11_minute 56 = .ok (.lload_n 3, 1) := by decide +kernel
theorem dX11_minute_57 : decode cX11_minute 57 = .ok (.lsub, 1) := by decide +kernel
theorem dX11_minute_58 : decode cX11_minute 58 = .ok (.invokevirtual 118, 3) := by decide +kernel
theorem dX11_minute_61 : decode cX11_minute 61 = .ok (.lstore 5, 2) := by decide +kernel
theorem dX11_minute_63 : decode cX11_minute 63 = .ok (.aload_n 0, 1) := by decide +kernel
theorem dX11_minute_64 : decode cX11_minute 64 = .ok (.getfield 7, 3) := by decide +kernel
theorem dX11_minute_67 : decode cX11_minute 67 = .ok (.iconst 4, 1) := by decide +kernel
theorem dX11_minute_68 : decode cX11_minute 68 = .ok (.laload, 1) := by decide +kernel
theorem dX11_minute_69 : decode cX11_minute 69 = .ok (.ldc2_w 146, 3) := by decide +kernel
theorem dX11_minute_72 : decode cX11_minute 72 = .ok (.aload_n 0, 1) := by decide +kernel
theorem dX11_minute_73 : decode cX11_minute 73 = .ok (.getfield 7, 3) := by decide +kernel
theorem dX11_minute_76 : decode cX11_minute 76 = .ok (.bipush 16, 2) := by decide +kernel
theorem dX11_minute_78 : decode cX11_minute 78 = .ok (.laload, 1) := by decide +kernel
theorem dX11_minute_79 : decode cX11_minute 79 = .ok (.lmul, 1) := by decide +kernel
theorem dX11_minute_80 : decode cX11_minute 80 = .ok (.ladd, 1) := by decide +kernel
theorem dX11_minute_81 : decode cX11_minute 81 = .ok (.lstore 7, 2) := by decide +kernel
theorem dX11_minute_83 : decode cX11_minute 83 = .ok (.aload_n 0, 1) := by decide +kernel
theorem dX11_minute_84 : decode cX11_minute 84 = .ok (.getfield 7, 3) := by decide +kernel
theorem dX11_minute_87 : decode cX11_minute 87 = .ok (.bipush 9, 2) := by decide +kernel
theorem dX11_minute_89 : decode cX11_minute 89 = .ok (.laload, 1) := by decide +kernel
theorem dX11_minute_90 : decode cX11_minute 90 = .ok (.aload_n 0, 1) := by decide +kernel
theorem dX11_minute_91 : decode cX11_minute 91 = .ok (.getfield 7, 3) := by decide +kernel
theorem dX11_minute_94 : decode cX11_minute 94 = .ok (.bipush 12, 2) := by decide +kernel
theorem dX11_minute_96 : decode cX11_minute 96 = .ok (.laload, 1) := by decide +kernel
theorem dX11_minute_97 : decode cX11_minute 97 = .ok (.lsub, 1) := by decide +kernel
theorem dX11_minute_98 : decode cX11_minute 98 = .ok (.lload 7, 2) := by decide +kernel
theorem dX11_minute_100 : decode cX11_minute 100 = .ok (.lmul, 1) := by decide +kernel
theorem dX11_minute_101 : decode cX11_minute 101 = .ok (.ldc2_w 80, 3) := by decide +kernel
theorem dX11_minute_104 : decode cX11_minute 104 = .ok (.ldiv, 1) := by decide +kernel
theorem dX11_minute_105 : decode cX11_minute 105 = .ok (.lstore 9, 2) := by decide +kernel
theorem dX11_minute_107 : decode cX11_minute 107 = .ok (.aload_n 0, 1) := by decide +kernel
theorem dX11_minute_108 : decode cX11_minute 108 = .ok (.getfield 7, 3) := by decide +kernel
theorem dX11_minute_111 : decode cX11_minute 111 = .ok (.bipush 10, 2) := by decide +kernel
theorem dX11_minute_113 : decode cX11_minute 113 = .ok (.laload, 1) := by decide +kernel
theorem dX11_minute_114 : decode cX11_minute 114 = .ok (.aload_n 0, 1) := by decide +kernel
theorem dX11_minute_115 : decode cX11_minute 115 = .ok (.getfield 7, 3) := by decide +kernel
theorem dX11_minute_118 : decode cX11_minute 118 = .ok (.bipush 13, 2) := by decide +kernel
theorem dX11_minute_120 : decode cX11_minute 120 = .ok (.laload, 1) := by decide +kernel
theorem dX11_minute_121 : decode cX11_minute 121 = .ok (.lsub, 1) := by decide +kernel
theorem dX11_minute_122 : decode cX11_minute 122 = .ok (.lload 7, 2) := by decide +kernel
theorem dX11_minute_124 : decode cX11_minute 124 = .ok (.lmul, 1) := by decide +kernel
theorem dX11_minute_125 : decode cX11_minute 125 = .ok (.ldc2_w 80, 3) := by decide +kernel
theorem dX11_minute_128 : decode cX11_minute 128 = .ok (.ldiv, 1) := by decide +kernel
theorem dX11_minute_129 : decode cX11_minute 129 = .ok (.lstore 11, 2) := by decide +kernel
theorem dX11_minute_131 : decode cX11_minute 131 = .ok (.aload_n 0, 1) := by decide +kernel
theorem dX11_minute_132 : decode cX11_minute 132 = .ok (.getfield 7, 3) := by decide +kernel
theorem dX11_minute_135 : decode cX11_minute 135 = .ok (.bipush 12, 2) := by decide +kernel
theorem dX11_minute_137 : decode cX11_minute 137 = .ok (.aload_n 0, 1) := by decide +kernel
theorem dX11_minute_138 : decode cX11_minute 138 = .ok (.getfield 7, 3) := by decide +kernel
theorem dX11_minute_141 : decode cX11_minute 141 = .ok (.bipush 12, 2) := by decide +kernel
theorem dX11_minute_143 : decode cX11_minute 143 = .ok (.laload, 1) := by decide +kernel
theorem dX11_minute_144 : decode cX11_minute 144 = .ok (.lload_n 1, 1) := by decide +kernel
theorem dX11_minute_145 : decode cX11_minute 145 = .ok (.ladd, 1) := by decide +kernel
theorem dX11_minute_146 : decode cX11_minute 146 = .ok (.lload 9, 2) := by decide +kernel
theorem dX11_minute_148 : decode cX11_minute 148 = .ok (.ladd, 1) := by decide +kernel
theorem dX11_minute_149 : decode cX11_minute 149 = .ok (.ldc2_w 148, 3) := by decide +kernel
theorem dX11_minute_152 : decode cX11_minute 152 = .ok (.ldc2_w 150, 3) := by decide +kernel
theorem dX11_minute_155 : decode cX11_minute 155 = .ok (.invokestatic 107, 3) := by decide +kernel
theorem dX11_minute_158 : decode cX11_minute 158 = .ok (.lastore, 1) := by decide +kernel
theorem dX11_minute_159 : decode cX11_minute 159 = .ok (.aload_n 0, 1) := by decide +kernel
theorem dX11_minute_160 : decode cX11_minute 160 = .ok (.getfield 7, 3) := by decide +kernel
theorem dX11_minute_163 : decode cX11_minute 163 = .ok (.bipush 13, 2) := by decide +kernel
theorem dX11_minute_165 : decode cX11_minute 165 = .ok (.aload_n 0, 1) := by decide +kernel
theorem dX11_minute_166 : decode cX11_minute 166 = .ok (.getfield 7, 3) := by decide +kernel
theorem dX11_minute_169 : decode cX11_minute 169 = .ok (.bipush 13, 2) := by decide +kernel
theorem dX11_minute_171 : decode cX11_minute 171 = .ok (.laload, 1) := by decide +kernel
theorem dX11_minute_172 : decode cX11_minute 172 = .ok (.lload_n 3, 1) := by decide +kernel
theorem dX11_minute_173 : decode cX11_minute 173 = .ok (.ladd, 1) := by decide +kernel
theorem dX11_minute_174 : decode cX11_minute 174 = .ok (.lload 5, 2) := by decide +kernel
theorem dX11_minute_176 : decode cX11_minute 176 = .ok (.ladd, 1) := by decide +kernel
theorem dX11_minute_177 : decode cX11_minute 177 = .ok (.lload 11, 2) := by decide +kernel
theorem dX11_minute_179 : decode cX11_minute 179 = .ok (.ladd, 1) := by decide +kernel
theorem dX11_minute_180 : decode cX11_minute 180 = .ok (.lconst 0, 1) := by decide +kernel
theorem dX11_minute_181 : decode cX11_minute 181 = .ok (.ldc2_w 46, 3) := by decide +kernel
theorem dX11_minute_184 : decode cX11_minute 184 = .ok (.invokestatic 107, 3) := by decide +kernel
theorem dX11_minute_187 : decode cX11_minute 187 = .ok (.lastore, 1) := by decide +kernel
theorem dX11_minute_188 : decode cX11_minute 188 = .ok (.aload_n 0, 1) := by decide +kernel
theorem dX11_minute_189 : decode cX11_minute 189 = .ok (.lload_n 1, 1) := by decide +kernel
theorem dX11_minute_190 : decode cX11_minute 190 = .ok (.lload 5, 2) := by decide +kernel
theorem dX11_minute_192 : decode cX11_minute 192 = .ok (.invokevirtual 152, 3) := by decide +kernel
theorem dX11_minute_195 : decode cX11_minute 195 = .ok (.aload_n 0, 1) := by decide +kernel
theorem dX11_minute_196 : decode cX11_minute 196 = .ok (.invokevirtual 111, 3) := by decide +kernel
theorem dX11_minute_199 : decode cX11_minute 199 = .ok (.ifCond .eq 7, 3) := by decide +kernel
theorem dX11_minute_202 : decode cX11_minute 202 = .ok (.aload_n 0, 1) := by decide +kernel
theorem dX11_minute_203 : decode cX11_minute 203 = .ok (.invokevirtual 155, 3) := by decide +kernel
theorem dX11_minute_206 : decode cX11_minute 206 = .ok (.aload_n 0, 1) := by decide +kernel
theorem dX11_minute_207 : decode cX11_minute 207 = .ok (.getfield 7, 3) := by decide +kernel
theorem dX11_minute_210 : decode cX11_minute 210 = .ok (.bipush 32, 2) := by decide +kernel
theorem dX11_minute_212 : decode cX11_minute 212 = .ok (.dup2, 1) := by decide +kernel
theorem dX11_minute_213 : decode cX11_minute 213 = .ok (.laload, 1) := by decide +kernel
theorem dX11_minute_214 : decode cX11_minute 214 = .ok (.lconst 1, 1) := by decide +kernel
theorem dX11_minute_215 : decode cX11_minute 215 = .ok (.ladd, 1) := by decide +kernel
theorem dX11_minute_216 : decode cX11_minute 216 = .ok (.lastore, 1) := by decide +kernel
theorem dX11_minute_217 : decode cX11_minute 217 = .ok (.return_, 1) := by decide +kernel
def j_X11_minute_1 (u_4 : Int64) : Int64 :=
  u_4
def j_X11_minute_2 (f_t_w : Nat → Int64) (f_t : Nat → Int32) (u_2 : Int64 × (Nat → Int64)) (u_1 : (Nat → Int64)) : Int64 :=
  (if (f_t_w 16) = 1 then 0 else (j_X11_minute_1 (s_X11_demand_p0_1 f_t u_2.2 (((u_1 15) - (f_t_w 13)) - (((-u_2.1) * (f_t_w 5)) / 10)))))
def j_X11_minute_3 (u_10 : (Nat → Int64)) : (Nat → Int64) :=
  u_10
def j_X11_minute_4 (f_t : Nat → Int32) (u_8 : (Nat → Int64)) : (Nat → Int64) :=
  (if (s_X11_goesOn f_t u_8) = 0 then u_8 else (j_X11_minute_3 (s_X11_goOn f_t u_8)))
def s_X11_minute_5 (x_11 : (Nat → Int64)) : (Nat → Int64) :=
  (vp_updL x_11 32 ((x_11 32) + 1))
def s_X11_minute_6 (f_t : Nat → Int32) (u_8 : (Nat → Int64)) : (Nat → Int64) :=
  (s_X11_minute_5 (j_X11_minute_4 f_t u_8))
def s_X11_minute_7 (f_t : Nat → Int32) (u_2 : Int64 × (Nat → Int64)) (u_6 : Int64) (x_5 : Int64) (u_7 : Int64) : (Nat → Int64) :=
  (s_X11_minute_6 f_t (s_X11_count f_t (vp_updL (vp_updL u_2.2 12 u_6) 13 u_7) u_2.1 x_5))
def s_X11_minute_8 (f_t : Nat → Int32) (u_2 : Int64 × (Nat → Int64)) (x_5 : Int64) (f_t_w : Nat → Int64) (u_6 : Int64) : (Nat → Int64) :=
  (s_X11_minute_7 f_t u_2 u_6 x_5 (s_X11_within ((((f_t_w 13) + (((-u_2.1) * (f_t_w 5)) / 10)) + x_5) + ((((f_t_w 10) - (f_t_w 13)) * ((f_t_w 4) + (25 * (f_t_w 16)))) / 100)) 0 1000))
def s_X11_minute_9 (f_t : Nat → Int32) (u_2 : Int64 × (Nat → Int64)) (f_t_w : Nat → Int64) (x_5 : Int64) : (Nat → Int64) :=
  (s_X11_minute_8 f_t u_2 x_5 f_t_w (s_X11_within (((f_t_w 12) + u_2.1) + ((((f_t_w 9) - (f_t_w 12)) * ((f_t_w 4) + (25 * (f_t_w 16)))) / 100)) (-700) 2000))
def s_X11_minute_10 (f_t : Nat → Int32) (f_t_w : Nat → Int64) (u_1 : (Nat → Int64)) (u_2 : Int64 × (Nat → Int64)) : (Nat → Int64) :=
  (s_X11_minute_9 f_t u_2 f_t_w (j_X11_minute_2 f_t_w f_t u_2 u_1))
def s_X11_minute_11 (f_t : Nat → Int32) (f_t_w : Nat → Int64) (u_1 : (Nat → Int64)) : (Nat → Int64) :=
  (s_X11_minute_10 f_t f_t_w u_1 (s_X11_output f_t u_1))
def s_X11_minute (f_t : Nat → Int32) (f_t_w : Nat → Int64) : (Nat → Int64) :=
  (s_X11_minute_11 f_t f_t_w (s_X11_movePoints f_t f_t_w))
set_option maxRecDepth 100000 in
set_option maxHeartbeats 4000000 in
theorem c_X11_minute (l : Launch) (D : va_G) (cI cJ cO : ClassId) (h_t : Nat) (h_t_w : Nat) (h_t_saved : Nat) (h_t_trial : Nat) (h_t_text : Nat) (h_t_told : Nat) (f_t : Nat → Int32) (f_t_w : Nat → Int64) (hf_t_w_35 : kInL (f_t_w 35) 0 11) (hf_t_w_43 : kInL (f_t_w 43) 0 12) (hf_t_w_45 : kInL (f_t_w 45) 0 16) (hf_t_w_46 : kInL (f_t_w 46) 0 24) (hf_t_w_48 : kInL (f_t_w 48) 0 60) (hz : f_t_w 33 = 1 → ¬ s_X11_of_p0_2 f_t f_t_w = 0) : kV l yX11_minute cX11_minute 13 4 88 D (kT cI cJ cO) [.ref h_t] [(h_t, moE f_t h_t_w h_t_saved h_t_trial h_t_text h_t_told), (h_t_w, jA cJ 294 f_t_w)] [(h_t, moE f_t h_t_w h_t_saved h_t_trial h_t_text h_t_told), (h_t_w, jA cJ 294 (s_X11_minute f_t f_t_w))] := by
  refine kV_of (own := RX11) (lv := [(0, .ref h_t)]) rfl rfl (by decide) (Nat.le_of_ble_eq_true rfl) ?_
  intro p e s m args below meth c Q A C hret
  refine k_aload_n (pc := 0) C rfl 0 rfl dX11_minute_0 ?_
  obtain ⟨u_1, eu_1⟩ : ∃ z : (Nat → Int64), z = (s_X11_movePoints f_t f_t_w) := ⟨_, rfl⟩
  refine k_callVv (pc := 1) (As := []) (rest := []) (wc := [(h_t, moE f_t h_t_w h_t_saved h_t_trial h_t_text h_t_told), (h_t_w, jA cJ 294 f_t_w)]) (wc2 := [(h_t, moE f_t h_t_w h_t_saved h_t_trial h_t_text h_t_told), (h_t_w, jA cJ 294 u_1)]) (ws2 := [(h_t, moE f_t h_t_w h_t_saved h_t_trial h_t_text h_t_told), (h_t_w, jA cJ 294 u_1)]) C (by rw [eu_1]; exact c_X11_movePoints l D cI cJ cO h_t h_t_w h_t_saved h_t_trial h_t_text h_t_told f_t f_t_w (kInL.rw (F := f_t_w) (k := 35) rfl hf_t_w_35 (by decide) (by decide)) hz) cwv_X11_movePoints q_1109 vX11 0 rfl [0, 1] rfl rfl (by decide) rfl rfl (Nat.le_of_ble_eq_true rfl) ⟨Nat.le_of_ble_eq_true rfl, Nat.le_of_ble_eq_true rfl⟩ rfl ⟨Nat.le_refl _, Nat.le_refl _⟩ dX11_minute_1 ?_
  refine k_aload_n (pc := 4) C rfl 0 rfl dX11_minute_4 ?_
  obtain ⟨u_2, eu_2⟩ : ∃ z : Int64 × (Nat → Int64), z = (s_X11_output f_t u_1) := ⟨_, rfl⟩
  refine k_callVl (pc := 5) (As := []) (rest := []) (r := u_2.1) (wc := [(h_t, moE f_t h_t_w h_t_saved h_t_trial h_t_text h_t_told), (h_t_w, jA cJ 294 u_1)]) (wc2 := [(h_t, moE f_t h_t_w h_t_saved h_t_trial h_t_text h_t_told), (h_t_w, jA cJ 294 u_2.2)]) (ws2 := [(h_t, moE f_t h_t_w h_t_saved h_t_trial h_t_text h_t_told), (h_t_w, jA cJ 294 u_2.2)]) C (by rw [eu_2]; exact c_X11_output l D cI cJ cO h_t h_t_w h_t_saved h_t_trial h_t_text h_t_told f_t u_1 (kInL.rw (F := u_1) (k := 46) (((fr_of eu_1 (fr_X11_movePoints f_t f_t_w (kInL.rw (F := f_t_w) (k := 35) rfl hf_t_w_35 (by decide) (by decide)) hz)) 46 (by decide)).trans rfl) hf_t_w_46 (by decide) (by decide))) cwv_X11_output q_1121 vX11 0 rfl [0, 1] rfl rfl (by decide) rfl rfl (Nat.le_of_ble_eq_true rfl) ⟨Nat.le_of_ble_eq_true rfl, Nat.le_of_ble_eq_true rfl⟩ rfl ⟨Nat.le_refl _, Nat.le_refl _⟩ dX11_minute_5 ?_
  refine k_lstore_n (pc := 8) (lv2 := [(1, .long u_2.1), (0, .ref h_t)]) C rfl (by decide) rfl dX11_minute_8 ?_
  refine k_lload_n (pc := 9) C rfl 0 rfl dX11_minute_9 ?_
  refine k_lneg (pc := 10) C dX11_minute_10 ?_
  refine k_aload_n (pc := 11) C rfl 1 rfl dX11_minute_11 ?_
  refine g_X11_0 (pc := 12) C q_998 0 rfl dX11_minute_12 ?_
  refine k_iconst (pc := 15) C iconst_5 dX11_minute_15 ?_
  refine k_laldK (pc := 16) (v := (f_t_w 5)) C 1 1 rfl rfl (k_vinc 5 cl_5 (by decide) (by decide)) cl_5 (((fr_of2 eu_2 (fr_X11_output f_t u_1 (kInL.rw (F := u_1) (k := 46) (((fr_of eu_1 (fr_X11_movePoints f_t f_t_w (kInL.rw (F := f_t_w) (k := 35) rfl hf_t_w_35 (by decide) (by decide)) hz)) 46 (by decide)).trans rfl) hf_t_w_46 (by decide) (by decide)))) 5 (by decide)).trans (((fr_of eu_1 (fr_X11_movePoints f_t f_t_w (kInL.rw (F := f_t_w) (k := 35) rfl hf_t_w_35 (by decide) (by decide)) hz)) 5 (by decide)).trans rfl)) dX11_minute_16 ?_
  refine k_lmul (pc := 17) C dX11_minute_17 ?_
  refine k_ldc2 (pc := 18) C q_988 dX11_minute_18 ?_
  refine k_ldiv (pc := 21) C (by decide) dX11_minute_21 ?_
  refine k_lstore_n (pc := 22) (lv2 := [(3, .long (((-u_2.1) * (f_t_w 5)) / 10)), (1, .long u_2.1), (0, .ref h_t)]) C rfl (by decide) rfl dX11_minute_22 ?_
  refine k_aload_n (pc := 23) C rfl 2 rfl dX11_minute_23 ?_
  refine g_X11_0 (pc := 24) C q_998 0 rfl dX11_minute_24 ?_
  refine k_bipush (pc := 27) C bipush_16 dX11_minute_27 ?_
  refine k_laldK (pc := 29) (v := (f_t_w 16)) C 1 1 rfl rfl (k_vinc 16 cl_16 (by decide) (by decide)) cl_16 (((fr_of2 eu_2 (fr_X11_output f_t u_1 (kInL.rw (F := u_1) (k := 46) (((fr_of eu_1 (fr_X11_movePoints f_t f_t_w (kInL.rw (F := f_t_w) (k := 35) rfl hf_t_w_35 (by decide) (by decide)) hz)) 46 (by decide)).trans rfl) hf_t_w_46 (by decide) (by decide)))) 16 (by decide)).trans (((fr_of eu_1 (fr_X11_movePoints f_t f_t_w (kInL.rw (F := f_t_w) (k := 35) rfl hf_t_w_35 (by decide) (by decide)) hz)) 16 (by decide)).trans rfl)) dX11_minute_29 ?_
  refine k_lconst (pc := 30) C lconst_1 dX11_minute_30 ?_
  have K_12 : ∀ (x_5 : Int64), x_5 = (j_X11_minute_2 f_t_w f_t u_2 u_1) → KJ p l e (kR 4 88) s m args below meth c 0 0 Q D A 13 [(h_t, moE f_t h_t_w h_t_saved h_t_trial h_t_text h_t_told), (h_t_w, jA cJ 294 u_2.2)] [(3, .long (((-u_2.1) * (f_t_w 5)) / 10)), (1, .long u_2.1), (0, .ref h_t)] [.long x_5] 61 := by
    intro x_5 ex_5
    refine k_lstore (pc := 61) (lv2 := [(5, .long x_5), (3, .long (((-u_2.1) * (f_t_w 5)) / 10)), (1, .long u_2.1), (0, .ref h_t)]) C (by decide) rfl dX11_minute_61 ?_
    refine k_aload_n (pc := 63) C rfl 3 rfl dX11_minute_63 ?_
    refine g_X11_0 (pc := 64) C q_998 0 rfl dX11_minute_64 ?_
    refine k_iconst (pc := 67) C iconst_4 dX11_minute_67 ?_
    refine k_laldK (pc := 68) (v := (f_t_w 4)) C 1 1 rfl rfl (k_vinc 4 cl_4 (by decide) (by decide)) cl_4 (((fr_of2 eu_2 (fr_X11_output f_t u_1 (kInL.rw (F := u_1) (k := 46) (((fr_of eu_1 (fr_X11_movePoints f_t f_t_w (kInL.rw (F := f_t_w) (k := 35) rfl hf_t_w_35 (by decide) (by decide)) hz)) 46 (by decide)).trans rfl) hf_t_w_46 (by decide) (by decide)))) 4 (by decide)).trans (((fr_of eu_1 (fr_X11_movePoints f_t f_t_w (kInL.rw (F := f_t_w) (k := 35) rfl hf_t_w_35 (by decide) (by decide)) hz)) 4 (by decide)).trans rfl)) dX11_minute_68 ?_
    refine k_ldc2 (pc := 69) C q_1136 dX11_minute_69 ?_
    refine k_aload_n (pc := 72) C rfl 3 rfl dX11_minute_72 ?_
    refine g_X11_0 (pc := 73) C q_998 0 rfl dX11_minute_73 ?_
    refine k_bipush (pc := 76) C bipush_16 dX11_minute_76 ?_
    refine k_laldK (pc := 78) (v := (f_t_w 16)) C 1 1 rfl rfl (k_vinc 16 cl_16 (by decide) (by decide)) cl_16 (((fr_of2 eu_2 (fr_X11_output f_t u_1 (kInL.rw (F := u_1) (k := 46) (((fr_of eu_1 (fr_X11_movePoints f_t f_t_w (kInL.rw (F := f_t_w) (k := 35) rfl hf_t_w_35 (by decide) (by decide)) hz)) 46 (by decide)).trans rfl) hf_t_w_46 (by decide) (by decide)))) 16 (by decide)).trans (((fr_of eu_1 (fr_X11_movePoints f_t f_t_w (kInL.rw (F := f_t_w) (k := 35) rfl hf_t_w_35 (by decide) (by decide)) hz)) 16 (by decide)).trans rfl)) dX11_minute_78 ?_
    refine k_lmul (pc := 79) C dX11_minute_79 ?_
    refine k_ladd (pc := 80) C dX11_minute_80 ?_
    refine k_lstore (pc := 81) (lv2 := [(7, .long ((f_t_w 4) + (25 * (f_t_w 16)))), (5, .long x_5), (3, .long (((-u_2.1) * (f_t_w 5)) / 10)), (1, .long u_2.1), (0, .ref h_t)]) C (by decide) rfl dX11_minute_81 ?_
    refine k_aload_n (pc := 83) C rfl 4 rfl dX11_minute_83 ?_
    refine g_X11_0 (pc := 84) C q_998 0 rfl dX11_minute_84 ?_
    refine k_bipush (pc := 87) C bipush_9 dX11_minute_87 ?_
    refine k_laldK (pc := 89) (v := (f_t_w 9)) C 1 1 rfl rfl (k_vinc 9 cl_9 (by decide) (by decide)) cl_9 (((fr_of2 eu_2 (fr_X11_output f_t u_1 (kInL.rw (F := u_1) (k := 46) (((fr_of eu_1 (fr_X11_movePoints f_t f_t_w (kInL.rw (F := f_t_w) (k := 35) rfl hf_t_w_35 (by decide) (by decide)) hz)) 46 (by decide)).trans rfl) hf_t_w_46 (by decide) (by decide)))) 9 (by decide)).trans (((fr_of eu_1 (fr_X11_movePoints f_t f_t_w (kInL.rw (F := f_t_w) (k := 35) rfl hf_t_w_35 (by decide) (by decide)) hz)) 9 (by decide)).trans rfl)) dX11_minute_89 ?_
    refine k_aload_n (pc := 90) C rfl 4 rfl dX11_minute_90 ?_
    refine g_X11_0 (pc := 91) C q_998 0 rfl dX11_minute_91 ?_
    refine k_bipush (pc := 94) C bipush_12 dX11_minute_94 ?_
    refine k_laldK (pc := 96) (v := (f_t_w 12)) C 1 1 rfl rfl (k_vinc 12 cl_12 (by decide) (by decide)) cl_12 (((fr_of2 eu_2 (fr_X11_output f_t u_1 (kInL.rw (F := u_1) (k := 46) (((fr_of eu_1 (fr_X11_movePoints f_t f_t_w (kInL.rw (F := f_t_w) (k := 35) rfl hf_t_w_35 (by decide) (by decide)) hz)) 46 (by decide)).trans rfl) hf_t_w_46 (by decide) (by decide)))) 12 (by decide)).trans (((fr_of eu_1 (fr_X11_movePoints f_t f_t_w (kInL.rw (F := f_t_w) (k := 35) rfl hf_t_w_35 (by decide) (by decide)) hz)) 12 (by decide)).trans rfl)) dX11_minute_96 ?_
    refine k_lsub (pc := 97) C dX11_minute_97 ?_
    refine k_lload (pc := 98) C 0 rfl dX11_minute_98 ?_
    refine k_lmul (pc := 100) C dX11_minute_100 ?_
    refine k_ldc2 (pc := 101) C q_1072 dX11_minute_101 ?_
    refine k_ldiv (pc := 104) C (by decide) dX11_minute_104 ?_
    refine k_lstore (pc := 105) (lv2 := [(9, .long ((((f_t_w 9) - (f_t_w 12)) * ((f_t_w 4) + (25 * (f_t_w 16)))) / 100)), (7, .long ((f_t_w 4) + (25 * (f_t_w 16)))), (5, .long x_5), (3, .long (((-u_2.1) * (f_t_w 5)) / 10)), (1, .long u_2.1), (0, .ref h_t)]) C (by decide) rfl dX11_minute_105 ?_
    refine k_aload_n (pc := 107) C rfl 5 rfl dX11_minute_107 ?_
    refine g_X11_0 (pc := 108) C q_998 0 rfl dX11_minute_108 ?_
    refine k_bipush (pc := 111) C bipush_10 dX11_minute_111 ?_
    refine k_laldK (pc := 113) (v := (f_t_w 10)) C 1 1 rfl rfl (k_vinc 10 cl_10 (by decide) (by decide)) cl_10 (((fr_of2 eu_2 (fr_X11_output f_t u_1 (kInL.rw (F := u_1) (k := 46) (((fr_of eu_1 (fr_X11_movePoints f_t f_t_w (kInL.rw (F := f_t_w) (k := 35) rfl hf_t_w_35 (by decide) (by decide)) hz)) 46 (by decide)).trans rfl) hf_t_w_46 (by decide) (by decide)))) 10 (by decide)).trans (((fr_of eu_1 (fr_X11_movePoints f_t f_t_w (kInL.rw (F := f_t_w) (k := 35) rfl hf_t_w_35 (by decide) (by decide)) hz)) 10 (by decide)).trans rfl)) dX11_minute_113 ?_
    refine k_aload_n (pc := 114) C rfl 5 rfl dX11_minute_114 ?_
    refine g_X11_0 (pc := 115) C q_998 0 rfl dX11_minute_115 ?_
    refine k_bipush (pc := 118) C bipush_13 dX11_minute_118 ?_
    refine k_laldK (pc := 120) (v := (f_t_w 13)) C 1 1 rfl rfl (k_vinc 13 cl_13 (by decide) (by decide)) cl_13 (((fr_of2 eu_2 (fr_X11_output f_t u_1 (kInL.rw (F := u_1) (k := 46) (((fr_of eu_1 (fr_X11_movePoints f_t f_t_w (kInL.rw (F := f_t_w) (k := 35) rfl hf_t_w_35 (by decide) (by decide)) hz)) 46 (by decide)).trans rfl) hf_t_w_46 (by decide) (by decide)))) 13 (by decide)).trans (((fr_of eu_1 (fr_X11_movePoints f_t f_t_w (kInL.rw (F := f_t_w) (k := 35) rfl hf_t_w_35 (by decide) (by decide)) hz)) 13 (by decide)).trans rfl)) dX11_minute_120 ?_
    refine k_lsub (pc := 121) C dX11_minute_121 ?_
    refine k_lload (pc := 122) C 1 rfl dX11_minute_122 ?_
    refine k_lmul (pc := 124) C dX11_minute_124 ?_
    refine k_ldc2 (pc := 125) C q_1072 dX11_minute_125 ?_
    refine k_ldiv (pc := 128) C (by decide) dX11_minute_128 ?_
    refine k_lstore (pc := 129) (lv2 := [(11, .long ((((f_t_w 10) - (f_t_w 13)) * ((f_t_w 4) + (25 * (f_t_w 16)))) / 100)), (9, .long ((((f_t_w 9) - (f_t_w 12)) * ((f_t_w 4) + (25 * (f_t_w 16)))) / 100)), (7, .long ((f_t_w 4) + (25 * (f_t_w 16)))), (5, .long x_5), (3, .long (((-u_2.1) * (f_t_w 5)) / 10)), (1, .long u_2.1), (0, .ref h_t)]) C (by decide) rfl dX11_minute_129 ?_
    refine k_aload_n (pc := 131) C rfl 6 rfl dX11_minute_131 ?_
    refine g_X11_0 (pc := 132) C q_998 0 rfl dX11_minute_132 ?_
    refine k_bipush (pc := 135) C bipush_12 dX11_minute_135 ?_
    refine k_aload_n (pc := 137) C rfl 6 rfl dX11_minute_137 ?_
    refine g_X11_0 (pc := 138) C q_998 0 rfl dX11_minute_138 ?_
    refine k_bipush (pc := 141) C bipush_12 dX11_minute_141 ?_
    refine k_laldK (pc := 143) (v := (f_t_w 12)) C 1 1 rfl rfl (k_vinc 12 cl_12 (by decide) (by decide)) cl_12 (((fr_of2 eu_2 (fr_X11_output f_t u_1 (kInL.rw (F := u_1) (k := 46) (((fr_of eu_1 (fr_X11_movePoints f_t f_t_w (kInL.rw (F := f_t_w) (k := 35) rfl hf_t_w_35 (by decide) (by decide)) hz)) 46 (by decide)).trans rfl) hf_t_w_46 (by decide) (by decide)))) 12 (by decide)).trans (((fr_of eu_1 (fr_X11_movePoints f_t f_t_w (kInL.rw (F := f_t_w) (k := 35) rfl hf_t_w_35 (by decide) (by decide)) hz)) 12 (by decide)).trans rfl)) dX11_minute_143 ?_
    refine k_lload_n (pc := 144) C rfl 5 rfl dX11_minute_144 ?_
    refine k_ladd (pc := 145) C dX11_minute_145 ?_
    refine k_lload (pc := 146) C 1 rfl dX11_minute_146 ?_
    refine k_ladd (pc := 148) C dX11_minute_148 ?_
    refine k_ldc2 (pc := 149) C q_1137 dX11_minute_149 ?_
    refine k_ldc2 (pc := 152) C q_1138 dX11_minute_152 ?_
    obtain ⟨u_6, eu_6⟩ : ∃ z : Int64, z = (s_X11_within (((f_t_w 12) + u_2.1) + ((((f_t_w 9) - (f_t_w 12)) * ((f_t_w 4) + (25 * (f_t_w 16)))) / 100)) (-700) 2000) := ⟨_, rfl⟩
    refine k_callSl (pc := 155) (As := [.long (((f_t_w 12) + u_2.1) + ((((f_t_w 9) - (f_t_w 12)) * ((f_t_w 4) + (25 * (f_t_w 16)))) / 100)), .long (-700), .long 2000]) (rest := [.int 12, .ref h_t_w]) (r := u_6) (wc := []) (wc2 := []) (ws2 := [(h_t, moE f_t h_t_w h_t_saved h_t_trial h_t_text h_t_told), (h_t_w, jA cJ 294 u_2.2)]) C (by rw [eu_6]; exact c_X11_within l D cI cJ cO (((f_t_w 12) + u_2.1) + ((((f_t_w 9) - (f_t_w 12)) * ((f_t_w 4) + (25 * (f_t_w 16)))) / 100)) (-700) 2000) cws_X11_within q_1133 [] rfl rfl (by decide) rfl rfl (Nat.le_of_ble_eq_true rfl) ⟨Nat.le_of_ble_eq_true rfl, Nat.le_of_ble_eq_true rfl⟩ rfl ⟨Nat.le_refl _, Nat.le_refl _⟩ dX11_minute_155 ?_
    refine k_lastK (pc := 158) (ws2 := [(h_t, moE f_t h_t_w h_t_saved h_t_trial h_t_text h_t_told), (h_t_w, jA cJ 294 (vp_updL u_2.2 12 u_6))]) C 1 1 rfl rfl (k_vinc 12 cl_12 (by decide) (by decide)) cl_12 rfl dX11_minute_158 ?_
    refine k_aload_n (pc := 159) C rfl 6 rfl dX11_minute_159 ?_
    refine g_X11_0 (pc := 160) C q_998 0 rfl dX11_minute_160 ?_
    refine k_bipush (pc := 163) C bipush_13 dX11_minute_163 ?_
    refine k_aload_n (pc := 165) C rfl 6 rfl dX11_minute_165 ?_
    refine g_X11_0 (pc := 166) C q_998 0 rfl dX11_minute_166 ?_
    refine k_bipush (pc := 169) C bipush_13 dX11_minute_169 ?_
    refine k_laldK (pc := 171) (v := (f_t_w 13)) C 1 1 rfl rfl (k_vinc 13 cl_13 (by decide) (by decide)) cl_13 (upnL (by decide) (((fr_of2 eu_2 (fr_X11_output f_t u_1 (kInL.rw (F := u_1) (k := 46) (((fr_of eu_1 (fr_X11_movePoints f_t f_t_w (kInL.rw (F := f_t_w) (k := 35) rfl hf_t_w_35 (by decide) (by decide)) hz)) 46 (by decide)).trans rfl) hf_t_w_46 (by decide) (by decide)))) 13 (by decide)).trans (((fr_of eu_1 (fr_X11_movePoints f_t f_t_w (kInL.rw (F := f_t_w) (k := 35) rfl hf_t_w_35 (by decide) (by decide)) hz)) 13 (by decide)).trans rfl))) dX11_minute_171 ?_
    refine k_lload_n (pc := 172) C rfl 4 rfl dX11_minute_172 ?_
    refine k_ladd (pc := 173) C dX11_minute_173 ?_
    refine k_lload (pc := 174) C 3 rfl dX11_minute_174 ?_
    refine k_ladd (pc := 176) C dX11_minute_176 ?_
    refine k_lload (pc := 177) C 0 rfl dX11_minute_177 ?_
    refine k_ladd (pc := 179) C dX11_minute_179 ?_
    refine k_lconst (pc := 180) C lconst_0 dX11_minute_180 ?_
    refine k_ldc2 (pc := 181) C q_996 dX11_minute_181 ?_
    obtain ⟨u_7, eu_7⟩ : ∃ z : Int64, z = (s_X11_within ((((f_t_w 13) + (((-u_2.1) * (f_t_w 5)) / 10)) + x_5) + ((((f_t_w 10) - (f_t_w 13)) * ((f_t_w 4) + (25 * (f_t_w 16)))) / 100)) 0 1000) := ⟨_, rfl⟩
    refine k_callSl (pc := 184) (As := [.long ((((f_t_w 13) + (((-u_2.1) * (f_t_w 5)) / 10)) + x_5) + ((((f_t_w 10) - (f_t_w 13)) * ((f_t_w 4) + (25 * (f_t_w 16)))) / 100)), .long 0, .long 1000]) (rest := [.int 13, .ref h_t_w]) (r := u_7) (wc := []) (wc2 := []) (ws2 := [(h_t, moE f_t h_t_w h_t_saved h_t_trial h_t_text h_t_told), (h_t_w, jA cJ 294 (vp_updL u_2.2 12 u_6))]) C (by rw [eu_7]; exact c_X11_within l D cI cJ cO ((((f_t_w 13) + (((-u_2.1) * (f_t_w 5)) / 10)) + x_5) + ((((f_t_w 10) - (f_t_w 13)) * ((f_t_w 4) + (25 * (f_t_w 16)))) / 100)) 0 1000) cws_X11_within q_1133 [] rfl rfl (by decide) rfl rfl (Nat.le_of_ble_eq_true rfl) ⟨Nat.le_of_ble_eq_true rfl, Nat.le_of_ble_eq_true rfl⟩ rfl ⟨Nat.le_refl _, Nat.le_refl _⟩ dX11_minute_184 ?_
    refine k_lastK (pc := 187) (ws2 := [(h_t, moE f_t h_t_w h_t_saved h_t_trial h_t_text h_t_told), (h_t_w, jA cJ 294 (vp_updL (vp_updL u_2.2 12 u_6) 13 u_7))]) C 1 1 rfl rfl (k_vinc 13 cl_13 (by decide) (by decide)) cl_13 rfl dX11_minute_187 ?_
    refine k_aload_n (pc := 188) C rfl 6 rfl dX11_minute_188 ?_
    refine k_lload_n (pc := 189) C rfl 5 rfl dX11_minute_189 ?_
    refine k_lload (pc := 190) C 3 rfl dX11_minute_190 ?_
    obtain ⟨u_8, eu_8⟩ : ∃ z : (Nat → Int64), z = (s_X11_count f_t (vp_updL (vp_updL u_2.2 12 u_6) 13 u_7) u_2.1 x_5) := ⟨_, rfl⟩
    refine k_callVv (pc := 192) (As := [.long u_2.1, .long x_5]) (rest := []) (wc := [(h_t, moE f_t h_t_w h_t_saved h_t_trial h_t_text h_t_told), (h_t_w, jA cJ 294 (vp_updL (vp_updL u_2.2 12 u_6) 13 u_7))]) (wc2 := [(h_t, moE f_t h_t_w h_t_saved h_t_trial h_t_text h_t_told), (h_t_w, jA cJ 294 u_8)]) (ws2 := [(h_t, moE f_t h_t_w h_t_saved h_t_trial h_t_text h_t_told), (h_t_w, jA cJ 294 u_8)]) C (by rw [eu_8]; exact c_X11_count l D cI cJ cO h_t h_t_w h_t_saved h_t_trial h_t_text h_t_told f_t (vp_updL (vp_updL u_2.2 12 u_6) 13 u_7) u_2.1 x_5 (kInL.rw (F := (vp_updL (vp_updL u_2.2 12 u_6) 13 u_7)) (k := 48) (upnL (by decide) (upnL (by decide) (((fr_of2 eu_2 (fr_X11_output f_t u_1 (kInL.rw (F := u_1) (k := 46) (((fr_of eu_1 (fr_X11_movePoints f_t f_t_w (kInL.rw (F := f_t_w) (k := 35) rfl hf_t_w_35 (by decide) (by decide)) hz)) 46 (by decide)).trans rfl) hf_t_w_46 (by decide) (by decide)))) 48 (by decide)).trans (((fr_of eu_1 (fr_X11_movePoints f_t f_t_w (kInL.rw (F := f_t_w) (k := 35) rfl hf_t_w_35 (by decide) (by decide)) hz)) 48 (by decide)).trans rfl)))) hf_t_w_48 (by decide) (by decide))) cwv_X11_count q_1139 vX11 0 rfl [0, 1] rfl rfl (by decide) rfl rfl (Nat.le_of_ble_eq_true rfl) ⟨Nat.le_of_ble_eq_true rfl, Nat.le_of_ble_eq_true rfl⟩ rfl ⟨Nat.le_refl _, Nat.le_refl _⟩ dX11_minute_192 ?_
    refine k_aload_n (pc := 195) C rfl 6 rfl dX11_minute_195 ?_
    refine k_callVi (pc := 196) (As := []) (rest := []) (r := (s_X11_goesOn f_t u_8)) (wc := [(h_t, moE f_t h_t_w h_t_saved h_t_trial h_t_text h_t_told), (h_t_w, jA cJ 294 u_8)]) (wc2 := [(h_t, moE f_t h_t_w h_t_saved h_t_trial h_t_text h_t_told), (h_t_w, jA cJ 294 u_8)]) (ws2 := [(h_t, moE f_t h_t_w h_t_saved h_t_trial h_t_text h_t_told), (h_t_w, jA cJ 294 u_8)]) C (c_X11_goesOn l D cI cJ cO h_t h_t_w h_t_saved h_t_trial h_t_text h_t_told f_t u_8) cwv_X11_goesOn q_1113 vX11 0 rfl [0, 1] rfl rfl (by decide) rfl rfl (Nat.le_of_ble_eq_true rfl) ⟨Nat.le_of_ble_eq_true rfl, Nat.le_of_ble_eq_true rfl⟩ rfl ⟨Nat.le_refl _, Nat.le_refl _⟩ dX11_minute_196 ?_
    have K_13 : ∀ (x_11 : (Nat → Int64)), x_11 = (j_X11_minute_4 f_t u_8) → KJ p l e (kR 4 88) s m args below meth c 0 0 Q D A 13 [(h_t, moE f_t h_t_w h_t_saved h_t_trial h_t_text h_t_told), (h_t_w, jA cJ 294 x_11)] [(0, .ref h_t)] [] 206 := by
      intro x_11 ex_11
      refine k_aload_n (pc := 206) C rfl 0 rfl dX11_minute_206 ?_
      refine g_X11_0 (pc := 207) C q_998 0 rfl dX11_minute_207 ?_
      refine k_bipush (pc := 210) C bipush_32 dX11_minute_210 ?_
      refine k_dup2 (pc := 212) C rfl rfl dX11_minute_212 ?_
      refine k_laldK (pc := 213) (v := (x_11 32)) C 1 1 rfl rfl (k_vinc 32 cl_32 (by decide) (by decide)) cl_32 rfl dX11_minute_213 ?_
      refine k_lconst (pc := 214) C lconst_1 dX11_minute_214 ?_
      refine k_ladd (pc := 215) C dX11_minute_215 ?_
      refine k_lastK (pc := 216) (ws2 := [(h_t, moE f_t h_t_w h_t_saved h_t_trial h_t_text h_t_told), (h_t_w, jA cJ 294 (vp_updL x_11 32 ((x_11 32) + 1)))]) C 1 1 rfl rfl (k_vinc 32 cl_32 (by decide) (by decide)) cl_32 rfl dX11_minute_216 ?_
      have hs : (s_X11_minute f_t f_t_w) = (vp_updL x_11 32 ((x_11 32) + 1)) := (k_st (g := s_X11_minute_11 f_t f_t_w) eu_1 rfl (k_st (g := s_X11_minute_10 f_t f_t_w u_1) eu_2 rfl (k_st (g := s_X11_minute_9 f_t u_2 f_t_w) ex_5 rfl (k_st (g := s_X11_minute_8 f_t u_2 x_5 f_t_w) eu_6 rfl (k_st (g := s_X11_minute_7 f_t u_2 u_6 x_5) eu_7 rfl (k_st (g := s_X11_minute_6 f_t) eu_8 rfl (k_st (g := s_X11_minute_5) ex_11 rfl rfl)))))))
      exact k_finV (pc := 217) hret (by rw [hs]) dX11_minute_217
    refine k_if_eq (pc := 199) (tgt := 206) C dX11_minute_199 (by decide) (fun c_9 => ?_) (fun c_9 => ?_)
    · refine k_lpick (lv2 := [(0, .ref h_t)]) [6] rfl ?_
      exact K_13 u_8 (Eq.symm (if_pos c_9))
    · refine k_aload_n (pc := 202) C rfl 6 rfl dX11_minute_202 ?_
      obtain ⟨u_10, eu_10⟩ : ∃ z : (Nat → Int64), z = (s_X11_goOn f_t u_8) := ⟨_, rfl⟩
      refine k_callVv (pc := 203) (As := []) (rest := []) (wc := [(h_t, moE f_t h_t_w h_t_saved h_t_trial h_t_text h_t_told), (h_t_w, jA cJ 294 u_8)]) (wc2 := [(h_t, moE f_t h_t_w h_t_saved h_t_trial h_t_text h_t_told), (h_t_w, jA cJ 294 u_10)]) (ws2 := [(h_t, moE f_t h_t_w h_t_saved h_t_trial h_t_text h_t_told), (h_t_w, jA cJ 294 u_10)]) C (by rw [eu_10]; exact c_X11_goOn l D cI cJ cO h_t h_t_w h_t_saved h_t_trial h_t_text h_t_told f_t u_8 (kInL.rw (F := u_8) (k := 35) (((fr_of eu_8 (fr_X11_count f_t (vp_updL (vp_updL u_2.2 12 u_6) 13 u_7) u_2.1 x_5 (kInL.rw (F := (vp_updL (vp_updL u_2.2 12 u_6) 13 u_7)) (k := 48) (upnL (by decide) (upnL (by decide) (((fr_of2 eu_2 (fr_X11_output f_t u_1 (kInL.rw (F := u_1) (k := 46) (((fr_of eu_1 (fr_X11_movePoints f_t f_t_w (kInL.rw (F := f_t_w) (k := 35) rfl hf_t_w_35 (by decide) (by decide)) hz)) 46 (by decide)).trans rfl) hf_t_w_46 (by decide) (by decide)))) 48 (by decide)).trans (((fr_of eu_1 (fr_X11_movePoints f_t f_t_w (kInL.rw (F := f_t_w) (k := 35) rfl hf_t_w_35 (by decide) (by decide)) hz)) 48 (by decide)).trans rfl)))) hf_t_w_48 (by decide) (by decide)))) 35 (by decide)).trans (upnL (by decide) (upnL (by decide) (((fr_of2 eu_2 (fr_X11_output f_t u_1 (kInL.rw (F := u_1) (k := 46) (((fr_of eu_1 (fr_X11_movePoints f_t f_t_w (kInL.rw (F := f_t_w) (k := 35) rfl hf_t_w_35 (by decide) (by decide)) hz)) 46 (by decide)).trans rfl) hf_t_w_46 (by decide) (by decide)))) 35 (by decide)).trans (((fr_of eu_1 (fr_X11_movePoints f_t f_t_w (kInL.rw (F := f_t_w) (k := 35) rfl hf_t_w_35 (by decide) (by decide)) hz)) 35 (by decide)).trans rfl))))) hf_t_w_35 (by decide) (by decide)) (kInL.rw (F := u_8) (k := 43) (((fr_of eu_8 (fr_X11_count f_t (vp_updL (vp_updL u_2.2 12 u_6) 13 u_7) u_2.1 x_5 (kInL.rw (F := (vp_updL (vp_updL u_2.2 12 u_6) 13 u_7)) (k := 48) (upnL (by decide) (upnL (by decide) (((fr_of2 eu_2 (fr_X11_output f_t u_1 (kInL.rw (F := u_1) (k := 46) (((fr_of eu_1 (fr_X11_movePoints f_t f_t_w (kInL.rw (F := f_t_w) (k := 35) rfl hf_t_w_35 (by decide) (by decide)) hz)) 46 (by decide)).trans rfl) hf_t_w_46 (by decide) (by decide)))) 48 (by decide)).trans (((fr_of eu_1 (fr_X11_movePoints f_t f_t_w (kInL.rw (F := f_t_w) (k := 35) rfl hf_t_w_35 (by decide) (by decide)) hz)) 48 (by decide)).trans rfl)))) hf_t_w_48 (by decide) (by decide)))) 43 (by decide)).trans (upnL (by decide) (upnL (by decide) (((fr_of2 eu_2 (fr_X11_output f_t u_1 (kInL.rw (F := u_1) (k := 46) (((fr_of eu_1 (fr_X11_movePoints f_t f_t_w (kInL.rw (F := f_t_w) (k := 35) rfl hf_t_w_35 (by decide) (by decide)) hz)) 46 (by decide)).trans rfl) hf_t_w_46 (by decide) (by decide)))) 43 (by decide)).trans (((fr_of eu_1 (fr_X11_movePoints f_t f_t_w (kInL.rw (F := f_t_w) (k := 35) rfl hf_t_w_35 (by decide) (by decide)) hz)) 43 (by decide)).trans rfl))))) hf_t_w_43 (by decide) (by decide)) (kInL.rw (F := u_8) (k := 45) (((fr_of eu_8 (fr_X11_count f_t (vp_updL (vp_updL u_2.2 12 u_6) 13 u_7) u_2.1 x_5 (kInL.rw (F := (vp_updL (vp_updL u_2.2 12 u_6) 13 u_7)) (k := 48) (upnL (by decide) (upnL (by decide) (((fr_of2 eu_2 (fr_X11_output f_t u_1 (kInL.rw (F := u_1) (k := 46) (((fr_of eu_1 (fr_X11_movePoints f_t f_t_w (kInL.rw (F := f_t_w) (k := 35) rfl hf_t_w_35 (by decide) (by decide)) hz)) 46 (by decide)).trans rfl) hf_t_w_46 (by decide) (by decide)))) 48 (by decide)).trans (((fr_of eu_1 (fr_X11_movePoints f_t f_t_w (kInL.rw (F := f_t_w) (k := 35) rfl hf_t_w_35 (by decide) (by decide)) hz)) 48 (by decide)).trans rfl)))) hf_t_w_48 (by decide) (by decide)))) 45 (by decide)).trans (upnL (by decide) (upnL (by decide) (((fr_of2 eu_2 (fr_X11_output f_t u_1 (kInL.rw (F := u_1) (k := 46) (((fr_of eu_1 (fr_X11_movePoints f_t f_t_w (kInL.rw (F := f_t_w) (k := 35) rfl hf_t_w_35 (by decide) (by decide)) hz)) 46 (by decide)).trans rfl) hf_t_w_46 (by decide) (by decide)))) 45 (by decide)).trans (((fr_of eu_1 (fr_X11_movePoints f_t f_t_w (kInL.rw (F := f_t_w) (k := 35) rfl hf_t_w_35 (by decide) (by decide)) hz)) 45 (by decide)).trans rfl))))) hf_t_w_45 (by decide) (by decide)) (kInL.rw (F := u_8) (k := 46) (((fr_of eu_8 (fr_X11_count f_t (vp_updL (vp_updL u_2.2 12 u_6) 13 u_7) u_2.1 x_5 (kInL.rw (F := (vp_updL (vp_updL u_2.2 12 u_6) 13 u_7)) (k := 48) (upnL (by decide) (upnL (by decide) (((fr_of2 eu_2 (fr_X11_output f_t u_1 (kInL.rw (F := u_1) (k := 46) (((fr_of eu_1 (fr_X11_movePoints f_t f_t_w (kInL.rw (F := f_t_w) (k := 35) rfl hf_t_w_35 (by decide) (by decide)) hz)) 46 (by decide)).trans rfl) hf_t_w_46 (by decide) (by decide)))) 48 (by decide)).trans (((fr_of eu_1 (fr_X11_movePoints f_t f_t_w (kInL.rw (F := f_t_w) (k := 35) rfl hf_t_w_35 (by decide) (by decide)) hz)) 48 (by decide)).trans rfl)))) hf_t_w_48 (by decide) (by decide)))) 46 (by decide)).trans (upnL (by decide) (upnL (by decide) rfl))) (by rw [eu_2]; exact po_X11_output f_t u_1 (kInL.rw (F := u_1) (k := 46) (((fr_of eu_1 (fr_X11_movePoints f_t f_t_w (kInL.rw (F := f_t_w) (k := 35) rfl hf_t_w_35 (by decide) (by decide)) hz)) 46 (by decide)).trans rfl) hf_t_w_46 (by decide) (by decide))) (by decide) (by decide))) cwv_X11_goOn q_1143 vX11 0 rfl [0, 1] rfl rfl (by decide) rfl rfl (Nat.le_of_ble_eq_true rfl) ⟨Nat.le_of_ble_eq_true rfl, Nat.le_of_ble_eq_true rfl⟩ rfl ⟨Nat.le_refl _, Nat.le_refl _⟩ dX11_minute_203 ?_
      refine k_lpick (lv2 := [(0, .ref h_t)]) [6] rfl ?_
      exact K_13 u_10 (Eq.symm (k_st (g := j_X11_minute_3) eu_10 (if_neg c_9) rfl))
  refine k_lcmp_ne (pc := 31) (tgt := 39) C dX11_minute_31 dX11_minute_32 (by decide) (fun c_3 => ?_) (fun c_3 => ?_)
  · refine k_aload_n (pc := 39) C rfl 2 rfl dX11_minute_39 ?_
    refine k_iconst (pc := 40) C iconst_1 dX11_minute_40 ?_
    refine k_aload_n (pc := 41) C rfl 2 rfl dX11_minute_41 ?_
    refine g_X11_0 (pc := 42) C q_998 0 rfl dX11_minute_42 ?_
    refine k_bipush (pc := 45) C bipush_15 dX11_minute_45 ?_
    refine k_laldK (pc := 47) (v := (u_1 15)) C 1 1 rfl rfl (k_vinc 15 cl_15 (by decide) (by decide)) cl_15 (((fr_of2 eu_2 (fr_X11_output f_t u_1 (kInL.rw (F := u_1) (k := 46) (((fr_of eu_1 (fr_X11_movePoints f_t f_t_w (kInL.rw (F := f_t_w) (k := 35) rfl hf_t_w_35 (by decide) (by decide)) hz)) 46 (by decide)).trans rfl) hf_t_w_46 (by decide) (by decide)))) 15 (by decide)).trans rfl) dX11_minute_47 ?_
    refine k_aload_n (pc := 48) C rfl 2 rfl dX11_minute_48 ?_
    refine g_X11_0 (pc := 49) C q_998 0 rfl dX11_minute_49 ?_
    refine k_bipush (pc := 52) C bipush_13 dX11_minute_52 ?_
    refine k_laldK (pc := 54) (v := (f_t_w 13)) C 1 1 rfl rfl (k_vinc 13 cl_13 (by decide) (by decide)) cl_13 (((fr_of2 eu_2 (fr_X11_output f_t u_1 (kInL.rw (F := u_1) (k := 46) (((fr_of eu_1 (fr_X11_movePoints f_t f_t_w (kInL.rw (F := f_t_w) (k := 35) rfl hf_t_w_35 (by decide) (by decide)) hz)) 46 (by decide)).trans rfl) hf_t_w_46 (by decide) (by decide)))) 13 (by decide)).trans (((fr_of eu_1 (fr_X11_movePoints f_t f_t_w (kInL.rw (F := f_t_w) (k := 35) rfl hf_t_w_35 (by decide) (by decide)) hz)) 13 (by decide)).trans rfl)) dX11_minute_54 ?_
    refine k_lsub (pc := 55) C dX11_minute_55 ?_
    refine k_lload_n (pc := 56) C rfl 0 rfl dX11_minute_56 ?_
    refine k_lsub (pc := 57) C dX11_minute_57 ?_
    obtain ⟨u_4, eu_4⟩ : ∃ z : Int64, z = (s_X11_demand_p0_1 f_t u_2.2 (((u_1 15) - (f_t_w 13)) - (((-u_2.1) * (f_t_w 5)) / 10))) := ⟨_, rfl⟩
    refine k_callVl (pc := 58) (As := [.int 1, .long (((u_1 15) - (f_t_w 13)) - (((-u_2.1) * (f_t_w 5)) / 10))]) (rest := []) (r := u_4) (wc := [(h_t, moE f_t h_t_w h_t_saved h_t_trial h_t_text h_t_told), (h_t_w, jA cJ 294 u_2.2)]) (wc2 := [(h_t, moE f_t h_t_w h_t_saved h_t_trial h_t_text h_t_told), (h_t_w, jA cJ 294 u_2.2)]) (ws2 := [(h_t, moE f_t h_t_w h_t_saved h_t_trial h_t_text h_t_told), (h_t_w, jA cJ 294 u_2.2)]) C (by rw [eu_4]; exact c_X11_demand_p0_1 l D cI cJ cO h_t h_t_w h_t_saved h_t_trial h_t_text h_t_told f_t u_2.2 (((u_1 15) - (f_t_w 13)) - (((-u_2.1) * (f_t_w 5)) / 10))) cwv_X11_demand q_1125 vX11 0 rfl [0, 1] rfl rfl (by decide) rfl rfl (Nat.le_of_ble_eq_true rfl) ⟨Nat.le_of_ble_eq_true rfl, Nat.le_of_ble_eq_true rfl⟩ rfl ⟨Nat.le_refl _, Nat.le_refl _⟩ dX11_minute_58 ?_
    exact K_12 u_4 (Eq.symm (k_st (g := j_X11_minute_1) eu_4 (if_neg c_3) rfl))
  · refine k_lconst (pc := 35) C lconst_0 dX11_minute_35 ?_
    refine k_goto (pc := 36) (tgt := 61) C (by decide) dX11_minute_36 ?_
    exact K_12 0 (Eq.symm (if_pos c_3))
