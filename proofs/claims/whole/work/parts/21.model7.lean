theorem q_37 : Cond.selects RX11 yX11_takes yX11_takes ∈ lw_all := kq 37 (by decide +kernel) (by decide +kernel)
theorem q_38 : Cond.selects RX11 yX11_endSegment yX11_endSegment ∈ lw_all := kq 38 (by decide +kernel) (by decide +kernel)
theorem q_39 : Cond.selects RX11 yX11_endNumber yX11_endNumber ∈ lw_all := kq 39 (by decide +kernel) (by decide +kernel)
theorem q_992 : Cond.constantLong RX11 38 (200) ∈ lw_all := kq 992 (by decide +kernel) (by decide +kernel)
theorem q_1002 : Cond.fieldLink RX11 23 "ClimateChamberModel" "told" "[I" ∈ lw_all := kq 1002 (by decide +kernel) (by decide +kernel)
theorem q_1006 : Cond.fieldLink RX11 196 "ClimateChamberModel" "segments" "I" ∈ lw_all := kq 1006 (by decide +kernel) (by decide +kernel)
theorem q_1007 : Cond.fieldLink RX11 199 "ClimateChamberModel" "numbers" "I" ∈ lw_all := kq 1007 (by decide +kernel) (by decide +kernel)
theorem q_1008 : Cond.fieldLink RX11 219 "ClimateChamberModel" "digits" "I" ∈ lw_all := kq 1008 (by decide +kernel) (by decide +kernel)
theorem q_1009 : Cond.fieldLink RX11 202 "ClimateChamberModel" "isNegative" "Z" ∈ lw_all := kq 1009 (by decide +kernel) (by decide +kernel)
theorem q_1010 : Cond.fieldLink RX11 209 "ClimateChamberModel" "wrong" "I" ∈ lw_all := kq 1010 (by decide +kernel) (by decide +kernel)
theorem q_1011 : Cond.fieldLink RX11 212 "ClimateChamberModel" "letterAt" "I" ∈ lw_all := kq 1011 (by decide +kernel) (by decide +kernel)
theorem q_1288 : Cond.methodLink RX11 228 yX11_takes ∈ lw_all := kq 1288 (by decide +kernel) (by decide +kernel)
theorem q_1290 : Cond.instanceMethod yX11_takes ∈ lw_all := kq 1290 (by decide +kernel) (by decide +kernel)
theorem q_1291 : Cond.code yX11_takes cX11_takes 4 (some .boolean) ∈ lw_all := kq 1291 (by decide +kernel) (by decide +kernel)
theorem q_1292 : Cond.constantLong RX11 215 (48) ∈ lw_all := kq 1292 (by decide +kernel) (by decide +kernel)
theorem q_1293 : Cond.constantLong RX11 217 (57) ∈ lw_all := kq 1293 (by decide +kernel) (by decide +kernel)
theorem q_1294 : Cond.methodLink RX11 222 yX11_endSegment ∈ lw_all := kq 1294 (by decide +kernel) (by decide +kernel)
theorem q_1296 : Cond.instanceMethod yX11_endSegment ∈ lw_all := kq 1296 (by decide +kernel) (by decide +kernel)
theorem q_1297 : Cond.code yX11_endSegment cX11_endSegment 2 none ∈ lw_all := kq 1297 (by decide +kernel) (by decide +kernel)
theorem q_1298 : Cond.methodLink RX11 206 yX11_endNumber ∈ lw_all := kq 1298 (by decide +kernel) (by decide +kernel)
theorem q_1300 : Cond.instanceMethod yX11_endNumber ∈ lw_all := kq 1300 (by decide +kernel) (by decide +kernel)
theorem q_1301 : Cond.code yX11_endNumber cX11_endNumber 2 none ∈ lw_all := kq 1301 (by decide +kernel) (by decide +kernel)
theorem q_1302 : Cond.methodLink RX11 225 yX11_letterOf ∈ lw_all := kq 1302 (by decide +kernel) (by decide +kernel)
theorem q_1303 : Cond.static yX11_letterOf ∈ lw_all := kq 1303 (by decide +kernel) (by decide +kernel)
theorem q_1304 : Cond.code yX11_letterOf cX11_letterOf 1 (some .int) ∈ lw_all := kq 1304 (by decide +kernel) (by decide +kernel)
theorem cwv_X11_endNumber : kCWv yX11_endNumber cX11_endNumber 2 none 0 := ⟨⟨q_1301, q_53, by decide +kernel⟩, q_1300, q_39⟩
theorem cwv_X11_endSegment : kCWv yX11_endSegment cX11_endSegment 2 none 0 := ⟨⟨q_1297, q_53, by decide +kernel⟩, q_1296, q_38⟩
theorem cws_X11_letterOf : kCWs yX11_letterOf cX11_letterOf 1 (some .int) 1 := ⟨⟨q_1304, q_53, by decide +kernel⟩, q_1303⟩
theorem cwv_X11_takes : kCWv yX11_takes cX11_takes 4 (some .boolean) 1 := ⟨⟨q_1291, q_53, by decide +kernel⟩, q_1290, q_37⟩
theorem dX11_bestMode_0 : decode cX11_bestMode 0 = .ok (.aload_n 0, 1) := by decide +kernel
theorem dX11_bestMode_1 : decode cX11_bestMode 1 = .ok (.iconst 0, 1) := by decide +kernel
theorem dX11_bestMode_2 : decode cX11_bestMode 2 = .ok (.putfield 50, 3) := by decide +kernel
theorem dX11_bestMode_5 : decode cX11_bestMode 5 = .ok (.iload_n 1, 1) := by decide +kernel
theorem dX11_bestMode_6 : decode cX11_bestMode 6 = .ok (.i2l, 1) := by decide +kernel
theorem dX11_bestMode_7 : decode cX11_bestMode 7 = .ok (.lconst 1, 1) := by decide +kernel
theorem dX11_bestMode_8 : decode cX11_bestMode 8 = .ok (.ldc2_w 38, 3) := by decide +kernel
theorem dX11_bestMode_11 : decode cX11_bestMode 11 = .ok (.invokestatic 63, 3) := by decide +kernel
theorem dX11_bestMode_14 : decode cX11_bestMode 14 = .ok (.ifCond .ne 9, 3) := by decide +kernel
theorem dX11_bestMode_17 : decode cX11_bestMode 17 = .ok (.aload_n 0, 1) := by decide +kernel
theorem dX11_bestMode_18 : decode cX11_bestMode 18 = .ok (.iconst 1, 1) := by decide +kernel
theorem dX11_bestMode_19 : decode cX11_bestMode 19 = .ok (.invokevirtual 67, 3) := by decide +kernel
theorem dX11_bestMode_22 : decode cX11_bestMode 22 = .ok (.ireturn, 1) := by decide +kernel
theorem dX11_bestMode_23 : decode cX11_bestMode 23 = .ok (.iconst 0, 1) := by decide +kernel
theorem dX11_bestMode_24 : decode cX11_bestMode 24 = .ok (.istore_n 2, 1) := by decide +kernel
theorem dX11_bestMode_25 : decode cX11_bestMode 25 = .ok (.lconst 0, 1) := by decide +kernel
theorem dX11_bestMode_26 : decode cX11_bestMode 26 = .ok (.lstore_n 3, 1) := by decide +kernel
theorem dX11_bestMode_27 : decode cX11_bestMode 27 = .ok (.aload_n 0, 1) := by decide +kernel
theorem dX11_bestMode_28 : decode cX11_bestMode 28 = .ok (.invokevirtual 186, 3) := by decide +kernel
theorem dX11_bestMode_31 : decode cX11_bestMode 31 = .ok (.iconst 0, 1) := by decide +kernel
theorem dX11_bestMode_32 : decode cX11_bestMode 32 = .ok (.istore 5, 2) := by decide +kernel
theorem dX11_bestMode_34 : decode cX11_bestMode 34 = .ok (.iload 5, 2) := by decide +kernel
theorem dX11_bestMode_36 : decode cX11_bestMode 36 = .ok (.iconst 3, 1) := by decide +kernel
theorem dX11_bestMode_37 : decode cX11_bestMode 37 = .ok (.if_icmp .ge 86, 3) := by decide +kernel
theorem dX11_bestMode_40 : decode cX11_bestMode 40 = .ok (.aload_n 0, 1) := by decide +kernel
theorem dX11_bestMode_41 : decode cX11_bestMode 41 = .ok (.getfield 7, 3) := by decide +kernel
theorem dX11_bestMode_44 : decode cX11_bestMode 44 = .ok (.bipush 17, 2) := by decide +kernel
theorem dX11_bestMode_46 : decode cX11_bestMode 46 = .ok (.iload 5, 2) := by decide +kernel
theorem dX11_bestMode_48 : decode cX11_bestMode 48 = .ok (.i2l, 1) := by decide +kernel
theorem dX11_bestMode_49 : decode cX11_bestMode 49 = .ok (.lastore, 1) := by decide +kernel
theorem dX11_bestMode_50 : decode cX11_bestMode 50 = .ok (.lconst 0, 1) := by decide +kernel
theorem dX11_bestMode_51 : decode cX11_bestMode 51 = .ok (.lstore 6, 2) := by decide +kernel
theorem dX11_bestMode_53 : decode cX11_bestMode 53 = .ok (.iconst 0, 1) := by decide +kernel
theorem dX11_bestMode_54 : decode cX11_bestMode 54 = .ok (.istore 8, 2) := by decide +kernel
theorem dX11_bestMode_56 : decode cX11_bestMode 56 = .ok (.iload 8, 2) := by decide +kernel
theorem dX11_bestMode_58 : decode cX11_bestMode 58 = .ok (.iload_n 1, 1) := by decide +kernel
theorem dX11_bestMode_59 : decode cX11_bestMode 59 = .ok (.if_icmp .ge 36, 3) := by decide +kernel
theorem dX11_bestMode_62 : decode cX11_bestMode 62 = .ok (.aload_n 0, 1) := by decide +kernel
theorem dX11_bestMode_63 : decode cX11_bestMode 63 = .ok (.invokevirtual 162, 3) := by decide +kernel
theorem dX11_bestMode_66 : decode cX11_bestMode 66 = .ok (.lload 6, 2) := by decide +kernel
theorem dX11_bestMode_68 : decode cX11_bestMode 68 = .ok (.aload_n 0, 1) := by decide +kernel
theorem dX11_bestMode_69 : decode cX11_bestMode 69 = .ok (.getfield 7, 3) := by decide +kernel
theorem dX11_bestMode_72 : decode cX11_bestMode 72 = .ok (.bipush 14, 2) := by decide +kernel
theorem dX11_bestMode_74 : decode cX11_bestMode 74 = .ok (.laload, 1) := by decide +kernel
theorem dX11_bestMode_75 : decode cX11_bestMode 75 = .ok (.aload_n 0, 1) := by decide +kernel
theorem dX11_bestMode_76 : decode cX11_bestMode 76 = .ok (.getfield 7, 3) := by decide +kernel
theorem dX11_bestMode_79 : decode cX11_bestMode 79 = .ok (.bipush 12, 2) := by decide +kernel
theorem dX11_bestMode_81 : decode cX11_bestMode 81 = .ok (.laload, 1) := by decide +kernel
theorem dX11_bestMode_82 : decode cX11_bestMode 82 = .ok (.lsub, 1) := by decide +kernel
theorem dX11_bestMode_83 : decode cX11_bestMode 83 = .ok (.invokestatic 101, 3) := by decide +kernel
theorem dX11_bestMode_86 : decode cX11_bestMode 86 = .ok (.ladd, 1) := by decide +kernel
theorem dX11_bestMode_87 : decode cX11_bestMode 87 = .ok (.lstore 6, 2) := by decide +kernel
theorem dX11_bestMode_89 : decode cX11_bestMode 89 = .ok (.iinc 8 1, 3) := by decide +kernel
theorem dX11_bestMode_92 : decode cX11_bestMode 92 = .ok (.goto (-36), 3) := by decide +kernel
theorem dX11_bestMode_95 : decode cX11_bestMode 95 = .ok (.aload_n 0, 1) := by decide +kernel
theorem dX11_bestMode_96 : decode cX11_bestMode 96 = .ok (.invokevirtual 189, 3) := by decide +kernel
theorem dX11_bestMode_99 : decode cX11_bestMode 99 = .ok (.iload 5, 2) := by decide +kernel
theorem dX11_bestMode_101 : decode cX11_bestMode 101 = .ok (.ifCond .eq 10, 3) := by decide +kernel
theorem dX11_bestMode_104 : decode cX11_bestMode 104 = .ok (.lload 6, 2) := by decide +kernel
theorem dX11_bestMode_106 : decode cX11_bestMode 106 = .ok (.lload_n 3, 1) := by decide +kernel
theorem dX11_bestMode_107 : decode cX11_bestMode 107 = .ok (.lcmp, 1) := by decide +kernel
theorem dX11_bestMode_108 : decode cX11_bestMode 108 = .ok (.ifCond .ge 9, 3) := by decide +kernel
theorem dX11_bestMode_111 : decode cX11_bestMode 111 = .ok (.iload 5, 2) := by decide +kernel
theorem dX11_bestMode_113 : decode cX11_bestMode 113 = .ok (.istore_n 2, 1) := by decide +kernel
theorem dX11_bestMode_114 : decode cX11_bestMode 114 = .ok (.lload 6, 2) := by decide +kernel
theorem dX11_bestMode_116 : decode cX11_bestMode 116 = .ok (.lstore_n 3, 1) := by decide +kernel
theorem dX11_bestMode_117 : decode cX11_bestMode 117 = .ok (.iinc 5 1, 3) := by decide +kernel
theorem dX11_bestMode_120 : decode cX11_bestMode 120 = .ok (.goto (-86), 3) := by decide +kernel
theorem dX11_bestMode_123 : decode cX11_bestMode 123 = .ok (.iload_n 2, 1) := by decide +kernel
theorem dX11_bestMode_124 : decode cX11_bestMode 124 = .ok (.ireturn, 1) := by decide +kernel
def b_X11_bestMode_1 (z_33 : Int32 × Int64 × (Nat → Int64)) (u_35 : (Nat → Int64)) : (Int32 × Int64 × (Nat → Int64)) ⊕ (Int32 × Int64 × (Nat → Int64)) :=
  (Sum.inl ((z_33.1 + 1), (z_33.2.1 + (s_X11_size ((u_35 14) - (u_35 12)))), u_35))
def b_X11_bestMode_L56 (p0 : Int32) (f_t : Nat → Int32) (z_33 : Int32 × Int64 × (Nat → Int64)) : (Int32 × Int64 × (Nat → Int64)) ⊕ (Int32 × Int64 × (Nat → Int64)) :=
  (if p0 ≤ z_33.1 then (Sum.inr (z_33.1, z_33.2.1, z_33.2.2)) else (b_X11_bestMode_1 z_33 (s_X11_minute (upd f_t 7 0) z_33.2.2)))
def b_X11_bestMode_2 (z_27 : Int32 × Int64 × (Nat → Int64) × Int32) (u_37 : (Nat → Int64)) (m_40 : Int64 × Int32) : (Int32 × Int64 × (Nat → Int64) × Int32) ⊕ (Int32 × Int64 × (Nat → Int64) × Int32) :=
  (Sum.inl ((z_27.1 + 1), m_40.1, u_37, m_40.2))
def b_X11_bestMode_3 (z_27 : Int32 × Int64 × (Nat → Int64) × Int32) (m_36 : Int32 × Int64 × (Nat → Int64)) (u_37 : (Nat → Int64)) : (Int32 × Int64 × (Nat → Int64) × Int32) ⊕ (Int32 × Int64 × (Nat → Int64) × Int32) :=
  (b_X11_bestMode_2 z_27 u_37 (if z_27.1 = 0 then (m_36.2.1, z_27.1) else (if z_27.2.1 ≤ m_36.2.1 then (z_27.2.1, z_27.2.2.2) else (m_36.2.1, z_27.1))))
def b_X11_bestMode_4 (z_27 : Int32 × Int64 × (Nat → Int64) × Int32) (f_t : Nat → Int32) (u_2 : (Nat → Int64)) (m_36 : Int32 × Int64 × (Nat → Int64)) : (Int32 × Int64 × (Nat → Int64) × Int32) ⊕ (Int32 × Int64 × (Nat → Int64) × Int32) :=
  (b_X11_bestMode_3 z_27 m_36 (s_X11_endTrial (upd f_t 7 0) u_2 m_36.2.2))
def b_X11_bestMode_L34 (f_t : Nat → Int32) (u_2 : (Nat → Int64)) (p0 : Int32) (z_27 : Int32 × Int64 × (Nat → Int64) × Int32) : (Int32 × Int64 × (Nat → Int64) × Int32) ⊕ (Int32 × Int64 × (Nat → Int64) × Int32) :=
  (if 3 ≤ z_27.1 then (Sum.inr (z_27.1, z_27.2.1, z_27.2.2.1, z_27.2.2.2)) else (b_X11_bestMode_4 z_27 f_t u_2 (kLoop default (b_X11_bestMode_L56 p0 f_t) ((Int32.toInt p0 - Int32.toInt 0).toNat + 1) (0, 0, (vp_updL z_27.2.2.1 17 (Int32.toInt64 z_27.1))))))
def s_X11_bestMode_5 (f_t_w : Nat → Int64) (f_t_trial : Nat → Int64) (u_42 : Int32 × (Nat → Int32)) : Int32 × (Nat → Int32) × (Nat → Int64) × (Nat → Int64) :=
  (u_42.1, u_42.2, f_t_w, f_t_trial)
def s_X11_bestMode_6 (f_t : Nat → Int32) (u_2 : (Nat → Int64)) (m_41 : Int32 × Int64 × (Nat → Int64) × Int32) : Int32 × (Nat → Int32) × (Nat → Int64) × (Nat → Int64) :=
  (m_41.2.2.2, (upd f_t 7 0), m_41.2.2.1, u_2)
def s_X11_bestMode_7 (f_t : Nat → Int32) (p0 : Int32) (f_t_w : Nat → Int64) (u_2 : (Nat → Int64)) : Int32 × (Nat → Int32) × (Nat → Int64) × (Nat → Int64) :=
  (s_X11_bestMode_6 f_t u_2 (kLoop default (b_X11_bestMode_L34 f_t u_2 p0) ((Int32.toInt 3 - Int32.toInt 0).toNat + 1) (0, 0, f_t_w, 0)))
def s_X11_bestMode (f_t : Nat → Int32) (f_t_w : Nat → Int64) (f_t_trial : Nat → Int64) (p0 : Int32) : Int32 × (Nat → Int32) × (Nat → Int64) × (Nat → Int64) :=
  (if (s_X11_in (Int32.toInt64 p0) 1 200) = 0 then (s_X11_bestMode_5 f_t_w f_t_trial (s_X11_refuse (upd f_t 7 0) 1)) else (s_X11_bestMode_7 f_t p0 f_t_w (s_X11_beginTrial (upd f_t 7 0) f_t_w f_t_trial)))
set_option maxRecDepth 100000 in
set_option maxHeartbeats 4000000 in
theorem c_X11_bestMode (l : Launch) (D : va_G) (cI cJ cO : ClassId) (h_t : Nat) (h_t_w : Nat) (h_t_saved : Nat) (h_t_trial : Nat) (h_t_text : Nat) (h_t_told : Nat) (f_t : Nat → Int32) (f_t_w : Nat → Int64) (f_t_trial : Nat → Int64) (p0 : Int32) (P : (Nat → Int64) → Prop) (hPM : ∀ (f : Nat → Int32) (w : Nat → Int64), P w → kMI f w) (hPs : ∀ (f : Nat → Int32) (w : Nat → Int64), P w → P (s_X11_minute f w)) (hPm : ∀ (v : Nat → Int64) (m : Int32), (∀ k : Nat, k < 294 → v k = f_t_w k) → kIn m 0 2 → P (vp_updL v 17 (Int32.toInt64 m))) : kI l yX11_bestMode cX11_bestMode 9 .int 5 120 D (kT cI cJ cO) [.ref h_t, .int p0] [(h_t, moE f_t h_t_w h_t_saved h_t_trial h_t_text h_t_told), (h_t_w, jA cJ 294 f_t_w), (h_t_trial, jA cJ 294 f_t_trial)] ((s_X11_bestMode f_t f_t_w f_t_trial p0).1) [(h_t, moE (s_X11_bestMode f_t f_t_w f_t_trial p0).2.1 h_t_w h_t_saved h_t_trial h_t_text h_t_told), (h_t_w, jA cJ 294 (s_X11_bestMode f_t f_t_w f_t_trial p0).2.2.1), (h_t_trial, jA cJ 294 (s_X11_bestMode f_t f_t_w f_t_trial p0).2.2.2)] := by
  refine kI_of (own := RX11) (lv := [(0, .ref h_t), (1, .int p0)]) rfl rfl (by decide) (Nat.le_of_ble_eq_true rfl) ?_
  intro p e s m args below meth c Q A C hret
  refine k_aload_n (pc := 0) C rfl 0 rfl dX11_bestMode_0 ?_
  refine k_iconst (pc := 1) C iconst_0 dX11_bestMode_1 ?_
  refine p_X11_7 (pc := 2) (ws2 := [(h_t, moE (upd f_t 7 0) h_t_w h_t_saved h_t_trial h_t_text h_t_told), (h_t_w, jA cJ 294 f_t_w), (h_t_trial, jA cJ 294 f_t_trial)]) C q_1005 0 rfl rfl dX11_bestMode_2 ?_
  refine k_iload_n (pc := 5) C rfl 1 rfl dX11_bestMode_5 ?_
  refine k_i2l (pc := 6) C dX11_bestMode_6 ?_
  refine k_lconst (pc := 7) C lconst_1 dX11_bestMode_7 ?_
  refine k_ldc2 (pc := 8) C q_992 dX11_bestMode_8 ?_
  refine k_callSi (pc := 11) (As := [.long (Int32.toInt64 p0), .long 1, .long 200]) (rest := []) (r := (s_X11_in (Int32.toInt64 p0) 1 200)) (wc := []) (wc2 := []) (ws2 := [(h_t, moE (upd f_t 7 0) h_t_w h_t_saved h_t_trial h_t_text h_t_told), (h_t_w, jA cJ 294 f_t_w), (h_t_trial, jA cJ 294 f_t_trial)]) C (c_X11_in l D cI cJ cO (Int32.toInt64 p0) 1 200) cws_X11_in q_1051 [] rfl rfl (by decide) rfl rfl (Nat.le_of_ble_eq_true rfl) ⟨Nat.le_of_ble_eq_true rfl, Nat.le_of_ble_eq_true rfl⟩ rfl ⟨Nat.le_refl _, Nat.le_refl _⟩ dX11_bestMode_11 ?_
  refine k_if_ne (pc := 14) (tgt := 23) C dX11_bestMode_14 (by decide) (fun c_1 => ?_) (fun c_1 => ?_)
  · refine k_iconst (pc := 23) C iconst_0 dX11_bestMode_23 ?_
    refine k_istore_n (pc := 24) (lv2 := [(2, .int 0), (0, .ref h_t), (1, .int p0)]) C rfl (by decide) rfl dX11_bestMode_24 ?_
    refine k_lconst (pc := 25) C lconst_0 dX11_bestMode_25 ?_
    refine k_lstore_n (pc := 26) (lv2 := [(3, .long 0), (2, .int 0), (0, .ref h_t), (1, .int p0)]) C rfl (by decide) rfl dX11_bestMode_26 ?_
    refine k_aload_n (pc := 27) C rfl 2 rfl dX11_bestMode_27 ?_
    obtain ⟨u_2, eu_2⟩ : ∃ z : (Nat → Int64), z = (s_X11_beginTrial (upd f_t 7 0) f_t_w f_t_trial) := ⟨_, rfl⟩
    refine k_callVv (pc := 28) (As := []) (rest := []) (wc := [(h_t, moE (upd f_t 7 0) h_t_w h_t_saved h_t_trial h_t_text h_t_told), (h_t_w, jA cJ 294 f_t_w), (h_t_trial, jA cJ 294 f_t_trial)]) (wc2 := [(h_t, moE (upd f_t 7 0) h_t_w h_t_saved h_t_trial h_t_text h_t_told), (h_t_w, jA cJ 294 f_t_w), (h_t_trial, jA cJ 294 u_2)]) (ws2 := [(h_t, moE (upd f_t 7 0) h_t_w h_t_saved h_t_trial h_t_text h_t_told), (h_t_w, jA cJ 294 f_t_w), (h_t_trial, jA cJ 294 u_2)]) C (by rw [eu_2]; exact c_X11_beginTrial l D cI cJ cO h_t h_t_w h_t_saved h_t_trial h_t_text h_t_told (upd f_t 7 0) f_t_w f_t_trial) cwv_X11_beginTrial q_1250 vX11 0 rfl [0, 1, 2] rfl rfl (by decide) rfl rfl (Nat.le_of_ble_eq_true rfl) ⟨Nat.le_of_ble_eq_true rfl, Nat.le_of_ble_eq_true rfl⟩ rfl ⟨Nat.le_refl _, Nat.le_refl _⟩ dX11_bestMode_28 ?_
    refine k_iconst (pc := 31) C iconst_0 dX11_bestMode_31 ?_
    refine k_istore (pc := 32) (lv2 := [(5, .int 0), (3, .long 0), (2, .int 0), (0, .ref h_t), (1, .int p0)]) C (by decide) rfl dX11_bestMode_32 ?_
    have K_43 : ∀ (m_41 : Int32 × Int64 × (Nat → Int64) × Int32), m_41 = (kLoop default (b_X11_bestMode_L34 f_t u_2 p0) ((Int32.toInt 3 - Int32.toInt 0).toNat + 1) (0, 0, f_t_w, 0)) → KJ p l e (kR 5 120) s m args below meth c 0 0 Q D A 9 [(h_t, moE (upd f_t 7 0) h_t_w h_t_saved h_t_trial h_t_text h_t_told), (h_t_w, jA cJ 294 m_41.2.2.1), (h_t_trial, jA cJ 294 u_2)] [(2, .int m_41.2.2.2)] [] 123 := by
      intro m_41 em_41
      refine k_iload_n (pc := 123) C rfl 0 rfl dX11_bestMode_123 ?_
      have hs : (s_X11_bestMode f_t f_t_w f_t_trial p0) = (m_41.2.2.2, (upd f_t 7 0), m_41.2.2.1, u_2) := (k_st (g := s_X11_bestMode_7 f_t p0 f_t_w) eu_2 (if_neg c_1) (k_st (g := s_X11_bestMode_6 f_t u_2) em_41 rfl rfl))
      exact k_finI (pc := 124) hret rfl (by rw [hs]) (by rw [hs]) dX11_bestMode_124
    have L_44 : ∀ (n : Nat) (z_27 : Int32 × Int64 × (Nat → Int64) × Int32), (Int32.toInt 3 - Int32.toInt z_27.1).toNat < n → (∀ k : Nat, k < 294 → z_27.2.2.1 k = f_t_w k) → (kIn z_27.1 0 3) → kLoop default (b_X11_bestMode_L34 f_t u_2 p0) n z_27 = (kLoop default (b_X11_bestMode_L34 f_t u_2 p0) ((Int32.toInt 3 - Int32.toInt 0).toNat + 1) (0, 0, f_t_w, 0)) → KJ p l e (kR 5 120) s m args below meth c 0 0 Q D A 9 [(h_t, moE (upd f_t 7 0) h_t_w h_t_saved h_t_trial h_t_text h_t_told), (h_t_w, jA cJ 294 z_27.2.2.1), (h_t_trial, jA cJ 294 u_2)] [(5, .int z_27.1), (3, .long z_27.2.1), (2, .int z_27.2.2.2), (0, .ref h_t), (1, .int p0)] [] 34 := by
      intro n
      induction n with
      | zero => intro z_27 hmu; exact absurd hmu (Nat.not_lt_zero _)
      | succ n ih =>
        intro z_27 hmu hO hl_28 hR
        refine k_iload (pc := 34) C 0 rfl dX11_bestMode_34 ?_
        refine k_iconst (pc := 36) C iconst_3 dX11_bestMode_36 ?_
        refine k_icmp_ge (pc := 37) (tgt := 123) C dX11_bestMode_37 (by decide) (fun c_29 => ?_) (fun c_29 => ?_)
        · refine k_lpick (lv2 := [(2, .int z_27.2.2.2)]) [2] rfl ?_
          exact K_43 (z_27.1, z_27.2.1, z_27.2.2.1, z_27.2.2.2) (k_lout hR (if_pos c_29))
        · refine k_aload_n (pc := 40) C rfl 3 rfl dX11_bestMode_40 ?_
          refine g_X11_0 (pc := 41) C q_998 0 rfl dX11_bestMode_41 ?_
          refine k_bipush (pc := 44) C bipush_17 dX11_bestMode_44 ?_
          refine k_iload (pc := 46) C 0 rfl dX11_bestMode_46 ?_
          refine k_i2l (pc := 48) C dX11_bestMode_48 ?_
          refine k_lastK (pc := 49) (ws2 := [(h_t, moE (upd f_t 7 0) h_t_w h_t_saved h_t_trial h_t_text h_t_told), (h_t_w, jA cJ 294 (vp_updL z_27.2.2.1 17 (Int32.toInt64 z_27.1))), (h_t_trial, jA cJ 294 u_2)]) C 1 1 rfl rfl (k_vinc 17 cl_17 (by decide) (by decide)) cl_17 rfl dX11_bestMode_49 ?_
          refine k_lconst (pc := 50) C lconst_0 dX11_bestMode_50 ?_
          refine k_lstore (pc := 51) (lv2 := [(6, .long 0), (5, .int z_27.1), (3, .long z_27.2.1), (2, .int z_27.2.2.2), (0, .ref h_t), (1, .int p0)]) C (by decide) rfl dX11_bestMode_51 ?_
          refine k_iconst (pc := 53) C iconst_0 dX11_bestMode_53 ?_
          refine k_istore (pc := 54) (lv2 := [(8, .int 0), (6, .long 0), (5, .int z_27.1), (3, .long z_27.2.1), (2, .int z_27.2.2.2), (0, .ref h_t), (1, .int p0)]) C (by decide) rfl dX11_bestMode_54 ?_
          have K_45 : ∀ (m_36 : Int32 × Int64 × (Nat → Int64)), m_36 = (kLoop default (b_X11_bestMode_L56 p0 f_t) ((Int32.toInt p0 - Int32.toInt 0).toNat + 1) (0, 0, (vp_updL z_27.2.2.1 17 (Int32.toInt64 z_27.1)))) → KJ p l e (kR 5 120) s m args below meth c 0 0 Q D A 9 [(h_t, moE (upd f_t 7 0) h_t_w h_t_saved h_t_trial h_t_text h_t_told), (h_t_w, jA cJ 294 m_36.2.2), (h_t_trial, jA cJ 294 u_2)] [(6, .long m_36.2.1), (5, .int z_27.1), (3, .long z_27.2.1), (2, .int z_27.2.2.2), (0, .ref h_t), (1, .int p0)] [] 95 := by
            intro m_36 em_36
            refine k_aload_n (pc := 95) C rfl 4 rfl dX11_bestMode_95 ?_
            obtain ⟨u_37, eu_37⟩ : ∃ z : (Nat → Int64), z = (s_X11_endTrial (upd f_t 7 0) u_2 m_36.2.2) := ⟨_, rfl⟩
            refine k_callVv (pc := 96) (As := []) (rest := []) (wc := [(h_t, moE (upd f_t 7 0) h_t_w h_t_saved h_t_trial h_t_text h_t_told), (h_t_trial, jA cJ 294 u_2), (h_t_w, jA cJ 294 m_36.2.2)]) (wc2 := [(h_t, moE (upd f_t 7 0) h_t_w h_t_saved h_t_trial h_t_text h_t_told), (h_t_trial, jA cJ 294 u_2), (h_t_w, jA cJ 294 u_37)]) (ws2 := [(h_t, moE (upd f_t 7 0) h_t_w h_t_saved h_t_trial h_t_text h_t_told), (h_t_w, jA cJ 294 u_37), (h_t_trial, jA cJ 294 u_2)]) C (by rw [eu_37]; exact c_X11_endTrial l D cI cJ cO h_t h_t_w h_t_saved h_t_trial h_t_text h_t_told (upd f_t 7 0) u_2 m_36.2.2) cwv_X11_endTrial q_1254 vX11 0 rfl [0, 2, 1] rfl rfl (by decide) rfl rfl (Nat.le_of_ble_eq_true rfl) ⟨Nat.le_of_ble_eq_true rfl, Nat.le_of_ble_eq_true rfl⟩ rfl ⟨Nat.le_refl _, Nat.le_refl _⟩ dX11_bestMode_96 ?_
            refine k_iload (pc := 99) C 1 rfl dX11_bestMode_99 ?_
            have K_46 : ∀ (m_40 : Int64 × Int32), m_40 = (if z_27.1 = 0 then (m_36.2.1, z_27.1) else (if z_27.2.1 ≤ m_36.2.1 then (z_27.2.1, z_27.2.2.2) else (m_36.2.1, z_27.1))) → KJ p l e (kR 5 120) s m args below meth c 0 0 Q D A 9 [(h_t, moE (upd f_t 7 0) h_t_w h_t_saved h_t_trial h_t_text h_t_told), (h_t_w, jA cJ 294 u_37), (h_t_trial, jA cJ 294 u_2)] [(3, .long m_40.1), (2, .int m_40.2), (5, .int z_27.1), (0, .ref h_t), (1, .int p0)] [] 117 := by
              intro m_40 em_40
              refine k_iinc (pc := 117) (v := (z_27.1 + 1)) (lv2 := [(5, .int (z_27.1 + 1)), (3, .long m_40.1), (2, .int m_40.2), (0, .ref h_t), (1, .int p0)]) C 2 rfl rfl (by decide) rfl dX11_bestMode_117 ?_
              refine k_goto (pc := 120) (tgt := 34) C (by decide) dX11_bestMode_120 ?_
              exact ih ((z_27.1 + 1), m_40.1, u_37, m_40.2) (k_dec (k_nle c_29) hmu) (fun k hk => by dsimp only; rw [eu_37, et_at, if_pos hk, eu_2, bt_at, if_pos hk]) (kIn.wk (kIn.add (kIn.nle (n := 3) hl_28 c_29 (by decide)) (kIn.lit (x := 1) (n := 1) (by decide)) (by decide) (by decide)) (by decide) (by decide)) (k_lin hR (k_st (g := b_X11_bestMode_4 z_27 f_t u_2) em_36 (if_neg c_29) (k_st (g := b_X11_bestMode_3 z_27 m_36) eu_37 rfl (k_st (g := b_X11_bestMode_2 z_27 u_37) em_40 rfl rfl))))
            refine k_if_eq (pc := 101) (tgt := 111) C dX11_bestMode_101 (by decide) (fun c_38 => ?_) (fun c_38 => ?_)
            · refine k_iload (pc := 111) C 1 rfl dX11_bestMode_111 ?_
              refine k_istore_n (pc := 113) (lv2 := [(2, .int z_27.1), (6, .long m_36.2.1), (5, .int z_27.1), (3, .long z_27.2.1), (0, .ref h_t), (1, .int p0)]) C rfl (by decide) rfl dX11_bestMode_113 ?_
              refine k_lload (pc := 114) C 1 rfl dX11_bestMode_114 ?_
              refine k_lstore_n (pc := 116) (lv2 := [(3, .long m_36.2.1), (2, .int z_27.1), (6, .long m_36.2.1), (5, .int z_27.1), (0, .ref h_t), (1, .int p0)]) C rfl (by decide) rfl dX11_bestMode_116 ?_
              refine k_lpick (lv2 := [(3, .long m_36.2.1), (2, .int z_27.1), (5, .int z_27.1), (0, .ref h_t), (1, .int p0)]) [0, 1, 3, 4, 5] rfl ?_
              exact K_46 (m_36.2.1, z_27.1) (Eq.symm (if_pos c_38))
            · refine k_lload (pc := 104) C 0 rfl dX11_bestMode_104 ?_
              refine k_lload_n (pc := 106) C rfl 2 rfl dX11_bestMode_106 ?_
              refine k_lcmp_ge (pc := 107) (tgt := 117) C dX11_bestMode_107 dX11_bestMode_108 (by decide) (fun c_39 => ?_) (fun c_39 => ?_)
              · refine k_lpick (lv2 := [(3, .long z_27.2.1), (2, .int z_27.2.2.2), (5, .int z_27.1), (0, .ref h_t), (1, .int p0)]) [2, 3, 1, 4, 5] rfl ?_
                exact K_46 (z_27.2.1, z_27.2.2.2) (Eq.symm ((if_neg c_38).trans (if_pos c_39)))
              · refine k_iload (pc := 111) C 1 rfl dX11_bestMode_111 ?_
                refine k_istore_n (pc := 113) (lv2 := [(2, .int z_27.1), (6, .long m_36.2.1), (5, .int z_27.1), (3, .long z_27.2.1), (0, .ref h_t), (1, .int p0)]) C rfl (by decide) rfl dX11_bestMode_113 ?_
                refine k_lload (pc := 114) C 1 rfl dX11_bestMode_114 ?_
                refine k_lstore_n (pc := 116) (lv2 := [(3, .long m_36.2.1), (2, .int z_27.1), (6, .long m_36.2.1), (5, .int z_27.1), (0, .ref h_t), (1, .int p0)]) C rfl (by decide) rfl dX11_bestMode_116 ?_
                refine k_lpick (lv2 := [(3, .long m_36.2.1), (2, .int z_27.1), (5, .int z_27.1), (0, .ref h_t), (1, .int p0)]) [0, 1, 3, 4, 5] rfl ?_
                exact K_46 (m_36.2.1, z_27.1) (Eq.symm ((if_neg c_38).trans (if_neg c_39)))
          have L_47 : ∀ (n : Nat) (z_33 : Int32 × Int64 × (Nat → Int64)), (Int32.toInt p0 - Int32.toInt z_33.1).toNat < n → (P z_33.2.2) → kLoop default (b_X11_bestMode_L56 p0 f_t) n z_33 = (kLoop default (b_X11_bestMode_L56 p0 f_t) ((Int32.toInt p0 - Int32.toInt 0).toNat + 1) (0, 0, (vp_updL z_27.2.2.1 17 (Int32.toInt64 z_27.1)))) → KJ p l e (kR 5 120) s m args below meth c 0 0 Q D A 9 [(h_t, moE (upd f_t 7 0) h_t_w h_t_saved h_t_trial h_t_text h_t_told), (h_t_w, jA cJ 294 z_33.2.2), (h_t_trial, jA cJ 294 u_2)] [(8, .int z_33.1), (6, .long z_33.2.1), (5, .int z_27.1), (3, .long z_27.2.1), (2, .int z_27.2.2.2), (0, .ref h_t), (1, .int p0)] [] 56 := by
            intro n
            induction n with
            | zero => intro z_33 hmu; exact absurd hmu (Nat.not_lt_zero _)
            | succ n ih =>
              intro z_33 hmu hI hR
              refine k_iload (pc := 56) C 0 rfl dX11_bestMode_56 ?_
              refine k_iload_n (pc := 58) C rfl 6 rfl dX11_bestMode_58 ?_
              refine k_icmp_ge (pc := 59) (tgt := 95) C dX11_bestMode_59 (by decide) (fun c_34 => ?_) (fun c_34 => ?_)
              · refine k_lpick (lv2 := [(6, .long z_33.2.1), (5, .int z_27.1), (3, .long z_27.2.1), (2, .int z_27.2.2.2), (0, .ref h_t), (1, .int p0)]) [1, 2, 3, 4, 5, 6] rfl ?_
                exact K_45 (z_33.1, z_33.2.1, z_33.2.2) (k_lout hR (if_pos c_34))
              · refine k_aload_n (pc := 62) C rfl 5 rfl dX11_bestMode_62 ?_
                obtain ⟨u_35, eu_35⟩ : ∃ z : (Nat → Int64), z = (s_X11_minute (upd f_t 7 0) z_33.2.2) := ⟨_, rfl⟩
                refine k_callVv (pc := 63) (As := []) (rest := []) (wc := [(h_t, moE (upd f_t 7 0) h_t_w h_t_saved h_t_trial h_t_text h_t_told), (h_t_w, jA cJ 294 z_33.2.2)]) (wc2 := [(h_t, moE (upd f_t 7 0) h_t_w h_t_saved h_t_trial h_t_text h_t_told), (h_t_w, jA cJ 294 u_35)]) (ws2 := [(h_t, moE (upd f_t 7 0) h_t_w h_t_saved h_t_trial h_t_text h_t_told), (h_t_w, jA cJ 294 u_35), (h_t_trial, jA cJ 294 u_2)]) C (by rw [eu_35]; exact c_X11_minute l D cI cJ cO h_t h_t_w h_t_saved h_t_trial h_t_text h_t_told (upd f_t 7 0) z_33.2.2 ((hPM (upd f_t 7 0) _ hI).1) ((hPM (upd f_t 7 0) _ hI).2.1) ((hPM (upd f_t 7 0) _ hI).2.2.1) ((hPM (upd f_t 7 0) _ hI).2.2.2.1) ((hPM (upd f_t 7 0) _ hI).2.2.2.2.1) ((hPM (upd f_t 7 0) _ hI).2.2.2.2.2)) cwv_X11_minute q_1105 vX11 0 rfl [0, 1] rfl rfl (by decide) rfl rfl (Nat.le_of_ble_eq_true rfl) ⟨Nat.le_of_ble_eq_true rfl, Nat.le_of_ble_eq_true rfl⟩ rfl ⟨Nat.le_refl _, Nat.le_refl _⟩ dX11_bestMode_63 ?_
                refine k_lload (pc := 66) C 1 rfl dX11_bestMode_66 ?_
                refine k_aload_n (pc := 68) C rfl 5 rfl dX11_bestMode_68 ?_
                refine g_X11_0 (pc := 69) C q_998 0 rfl dX11_bestMode_69 ?_
                refine k_bipush (pc := 72) C bipush_14 dX11_bestMode_72 ?_
                refine k_laldK (pc := 74) (v := (u_35 14)) C 1 1 rfl rfl (k_vinc 14 cl_14 (by decide) (by decide)) cl_14 rfl dX11_bestMode_74 ?_
                refine k_aload_n (pc := 75) C rfl 5 rfl dX11_bestMode_75 ?_
                refine g_X11_0 (pc := 76) C q_998 0 rfl dX11_bestMode_76 ?_
                refine k_bipush (pc := 79) C bipush_12 dX11_bestMode_79 ?_
                refine k_laldK (pc := 81) (v := (u_35 12)) C 1 1 rfl rfl (k_vinc 12 cl_12 (by decide) (by decide)) cl_12 rfl dX11_bestMode_81 ?_
                refine k_lsub (pc := 82) C dX11_bestMode_82 ?_
                refine k_callSl (pc := 83) (As := [.long ((u_35 14) - (u_35 12))]) (rest := [.long z_33.2.1]) (r := (s_X11_size ((u_35 14) - (u_35 12)))) (wc := []) (wc2 := []) (ws2 := [(h_t, moE (upd f_t 7 0) h_t_w h_t_saved h_t_trial h_t_text h_t_told), (h_t_w, jA cJ 294 u_35), (h_t_trial, jA cJ 294 u_2)]) C (c_X11_size l D cI cJ cO ((u_35 14) - (u_35 12))) cws_X11_size q_1129 [] rfl rfl (by decide) rfl rfl (Nat.le_of_ble_eq_true rfl) ⟨Nat.le_of_ble_eq_true rfl, Nat.le_of_ble_eq_true rfl⟩ rfl ⟨Nat.le_refl _, Nat.le_refl _⟩ dX11_bestMode_83 ?_
                refine k_ladd (pc := 86) C dX11_bestMode_86 ?_
                refine k_lstore (pc := 87) (lv2 := [(6, .long (z_33.2.1 + (s_X11_size ((u_35 14) - (u_35 12))))), (8, .int z_33.1), (5, .int z_27.1), (3, .long z_27.2.1), (2, .int z_27.2.2.2), (0, .ref h_t), (1, .int p0)]) C (by decide) rfl dX11_bestMode_87 ?_
                refine k_iinc (pc := 89) (v := (z_33.1 + 1)) (lv2 := [(8, .int (z_33.1 + 1)), (6, .long (z_33.2.1 + (s_X11_size ((u_35 14) - (u_35 12))))), (5, .int z_27.1), (3, .long z_27.2.1), (2, .int z_27.2.2.2), (0, .ref h_t), (1, .int p0)]) C 1 rfl rfl (by decide) rfl dX11_bestMode_89 ?_
                refine k_goto (pc := 92) (tgt := 56) C (by decide) dX11_bestMode_92 ?_
                exact ih ((z_33.1 + 1), (z_33.2.1 + (s_X11_size ((u_35 14) - (u_35 12)))), u_35) (k_dec (k_nle c_34) hmu) (by rw [eu_35]; exact hPs _ _ hI) (k_lin hR (k_st (g := b_X11_bestMode_1 z_33) eu_35 (if_neg c_34) rfl))
          exact L_47 ((Int32.toInt p0 - Int32.toInt 0).toNat + 1) (0, 0, (vp_updL z_27.2.2.1 17 (Int32.toInt64 z_27.1))) (Nat.lt_succ_self _) (hPm _ z_27.1 hO (kIn.wk (kIn.nle (n := 3) hl_28 c_29 (by decide)) (by decide) (by decide))) rfl
    exact L_44 ((Int32.toInt 3 - Int32.toInt 0).toNat + 1) (0, 0, f_t_w, 0) (Nat.lt_succ_self _) (fun _ _ => rfl) (kIn.wk (kIn.lit (x := 0) (n := 0) (by decide)) (by decide) (by decide)) rfl
  · refine k_aload_n (pc := 17) C rfl 0 rfl dX11_bestMode_17 ?_
    refine k_iconst (pc := 18) C iconst_1 dX11_bestMode_18 ?_
    obtain ⟨u_42, eu_42⟩ : ∃ z : Int32 × (Nat → Int32), z = (s_X11_refuse (upd f_t 7 0) 1) := ⟨_, rfl⟩
    refine k_callVi (pc := 19) (As := [.int 1]) (rest := []) (r := u_42.1) (wc := [(h_t, moE (upd f_t 7 0) h_t_w h_t_saved h_t_trial h_t_text h_t_told)]) (wc2 := [(h_t, moE u_42.2 h_t_w h_t_saved h_t_trial h_t_text h_t_told)]) (ws2 := [(h_t, moE u_42.2 h_t_w h_t_saved h_t_trial h_t_text h_t_told), (h_t_w, jA cJ 294 f_t_w), (h_t_trial, jA cJ 294 f_t_trial)]) C (by rw [eu_42]; exact c_X11_refuse l D cI cJ cO h_t h_t_w h_t_saved h_t_trial h_t_text h_t_told (upd f_t 7 0) 1) cwv_X11_refuse q_1054 vX11 0 rfl [0] rfl rfl (by decide) rfl rfl (Nat.le_of_ble_eq_true rfl) ⟨Nat.le_of_ble_eq_true rfl, Nat.le_of_ble_eq_true rfl⟩ rfl ⟨Nat.le_refl _, Nat.le_refl _⟩ dX11_bestMode_19 ?_
    have hs : (s_X11_bestMode f_t f_t_w f_t_trial p0) = (u_42.1, u_42.2, f_t_w, f_t_trial) := (k_st (g := s_X11_bestMode_5 f_t_w f_t_trial) eu_42 (if_pos c_1) rfl)
    exact k_finI (pc := 22) hret rfl (by rw [hs]) (by rw [hs]) dX11_bestMode_22

theorem dX11_endNumber_0 : decode cX11_endNumber 0 = .ok (.iconst 4, 1) := by decide +kernel
theorem dX11_endNumber_1 : decode cX11_endNumber 1 = .ok (.aload_n 0, 1) := by decide +kernel
theorem dX11_endNumber_2 : decode cX11_endNumber 2 = .ok (.getfield 196, 3) := by decide +kernel
theorem dX11_endNumber_5 : decode cX11_endNumber 5 = .ok (.imul, 1) := by decide +kernel
theorem dX11_endNumber_6 : decode cX11_endNumber 6 = .ok (.aload_n 0, 1) := by decide +kernel
theorem dX11_endNumber_7 : decode cX11_endNumber 7 = .ok (.getfield 199, 3) := by decide +kernel
theorem dX11_endNumber_10 : decode cX11_endNumber 10 = .ok (.iadd, 1) := by decide +kernel
theorem dX11_endNumber_11 : decode cX11_endNumber 11 = .ok (.iconst 1, 1) := by decide +kernel
theorem dX11_endNumber_12 : decode cX11_endNumber 12 = .ok (.isub, 1) := by decide +kernel
theorem dX11_endNumber_13 : decode cX11_endNumber 13 = .ok (.istore_n 1, 1) := by decide +kernel
theorem dX11_endNumber_14 : decode cX11_endNumber 14 = .ok (.aload_n 0, 1) := by decide +kernel
theorem dX11_endNumber_15 : decode cX11_endNumber 15 = .ok (.getfield 23, 3) := by decide +kernel
theorem dX11_endNumber_18 : decode cX11_endNumber 18 = .ok (.iload_n 1, 1) := by decide +kernel
theorem dX11_endNumber_19 : decode cX11_endNumber 19 = .ok (.aload_n 0, 1) := by decide +kernel
theorem dX11_endNumber_20 : decode cX11_endNumber 20 = .ok (.getfield 202, 3) := by decide +kernel
theorem dX11_endNumber_23 : decode cX11_endNumber 23 = .ok (.ifCond .eq 13, 3) := by decide +kernel
theorem dX11_endNumber_26 : decode cX11_endNumber 26 = .ok (.aload_n 0, 1) := by decide +kernel
theorem dX11_endNumber_27 : decode cX11_endNumber 27 = .ok (.getfield 23, 3) := by decide +kernel
theorem dX11_endNumber_30 : decode cX11_endNumber 30 = .ok (.iload_n 1, 1) := by decide +kernel
theorem dX11_endNumber_31 : decode cX11_endNumber 31 = .ok (.iaload, 1) := by decide +kernel
theorem dX11_endNumber_32 : decode cX11_endNumber 32 = .ok (.ineg, 1) := by decide +kernel
theorem dX11_endNumber_33 : decode cX11_endNumber 33 = .ok (.goto 9, 3) := by decide +kernel
theorem dX11_endNumber_36 : decode cX11_endNumber 36 = .ok (.aload_n 0, 1) := by decide +kernel
theorem dX11_endNumber_37 : decode cX11_endNumber 37 = .ok (.getfield 23, 3) := by decide +kernel
theorem dX11_endNumber_40 : decode cX11_endNumber 40 = .ok (.iload_n 1, 1) := by decide +kernel
theorem dX11_endNumber_41 : decode cX11_endNumber 41 = .ok (.iaload, 1) := by decide +kernel
theorem dX11_endNumber_42 : decode cX11_endNumber 42 = .ok (.iastore, 1) := by decide +kernel
theorem dX11_endNumber_43 : decode cX11_endNumber 43 = .ok (.return_, 1) := by decide +kernel
def j_X11_endNumber_1 (f_t : Nat → Int32) (f_t_told : Nat → Int32) : Int32 :=
  (if (f_t 11) = 0 then (f_t_told (Int32.toNatClampNeg (((4 * (f_t 8)) + (f_t 9)) - 1))) else (-(f_t_told (Int32.toNatClampNeg (((4 * (f_t 8)) + (f_t 9)) - 1)))))
def s_X11_endNumber_2 (f_t_told : Nat → Int32) (f_t : Nat → Int32) (x_2 : Int32) : (Nat → Int32) :=
  (upd f_t_told (Int32.toNatClampNeg (((4 * (f_t 8)) + (f_t 9)) - 1)) x_2)
def s_X11_endNumber (f_t : Nat → Int32) (f_t_told : Nat → Int32) : (Nat → Int32) :=
  (s_X11_endNumber_2 f_t_told f_t (j_X11_endNumber_1 f_t f_t_told))
set_option maxRecDepth 100000 in
set_option maxHeartbeats 4000000 in
theorem c_X11_endNumber (l : Launch) (D : va_G) (cI cJ cO : ClassId) (h_t : Nat) (h_t_w : Nat) (h_t_saved : Nat) (h_t_trial : Nat) (h_t_text : Nat) (h_t_told : Nat) (f_t : Nat → Int32) (f_t_told : Nat → Int32) (hf_t_8 : kIn (f_t 8) 0 12) (hf_t_9 : kIn (f_t 9) 1 4) (he : kIn ((4 * (f_t 8)) + (f_t 9)) 0 48) : kV l yX11_endNumber cX11_endNumber 2 0 0 D (kT cI cJ cO) [.ref h_t] [(h_t, moE f_t h_t_w h_t_saved h_t_trial h_t_text h_t_told), (h_t_told, iA cI 48 f_t_told)] [(h_t, moE f_t h_t_w h_t_saved h_t_trial h_t_text h_t_told), (h_t_told, iA cI 48 (s_X11_endNumber f_t f_t_told))] := by
  refine kV_of (own := RX11) (lv := [(0, .ref h_t)]) rfl rfl (by decide) (Nat.le_of_ble_eq_true rfl) ?_
  intro p e s m args below meth c Q A C hret
  refine k_iconst (pc := 0) C iconst_4 dX11_endNumber_0 ?_
  refine k_aload_n (pc := 1) C rfl 0 rfl dX11_endNumber_1 ?_
  refine g_X11_8 (pc := 2) (x := (f_t 8)) C q_1006 0 rfl rfl dX11_endNumber_2 ?_
  refine k_imul (pc := 5) C dX11_endNumber_5 ?_
  refine k_aload_n (pc := 6) C rfl 0 rfl dX11_endNumber_6 ?_
  refine g_X11_9 (pc := 7) (x := (f_t 9)) C q_1007 0 rfl rfl dX11_endNumber_7 ?_
  refine k_iadd (pc := 10) C dX11_endNumber_10 ?_
  refine k_iconst (pc := 11) C iconst_1 dX11_endNumber_11 ?_
  refine k_isub (pc := 12) C dX11_endNumber_12 ?_
  refine k_istore_n (pc := 13) (lv2 := [(1, .int (((4 * (f_t 8)) + (f_t 9)) - 1)), (0, .ref h_t)]) C rfl (by decide) rfl dX11_endNumber_13 ?_
  refine k_aload_n (pc := 14) C rfl 1 rfl dX11_endNumber_14 ?_
  refine g_X11_4 (pc := 15) C q_1002 0 rfl dX11_endNumber_15 ?_
  refine k_iload_n (pc := 18) C rfl 0 rfl dX11_endNumber_18 ?_
  refine k_aload_n (pc := 19) C rfl 1 rfl dX11_endNumber_19 ?_
  refine g_X11_11 (pc := 20) (x := (f_t 11)) C q_1009 0 rfl rfl dX11_endNumber_20 ?_
  have K_3 : ∀ (x_2 : Int32), x_2 = (j_X11_endNumber_1 f_t f_t_told) → KJ p l e (kR 0 0) s m args below meth c 0 0 Q D A 2 [(h_t, moE f_t h_t_w h_t_saved h_t_trial h_t_text h_t_told), (h_t_told, iA cI 48 f_t_told)] [] [.int x_2, .int (((4 * (f_t 8)) + (f_t 9)) - 1), .ref h_t_told] 42 := by
    intro x_2 ex_2
    refine k_iastK (pc := 42) (ws2 := [(h_t, moE f_t h_t_w h_t_saved h_t_trial h_t_text h_t_told), (h_t_told, iA cI 48 (upd f_t_told (Int32.toNatClampNeg (((4 * (f_t 8)) + (f_t 9)) - 1)) x_2))]) C 1 0 rfl rfl (kIn.vp (kIn.sub (kIn.meet (kIn.add (kIn.mul (n := 4) (by decide) (by decide) hf_t_8 (by decide) (by decide)) hf_t_9 (by decide) (by decide)) he) (kIn.lit (x := 1) (n := 1) (by decide)) (by decide) (by decide)) (by decide) (by decide)) rfl rfl dX11_endNumber_42 ?_
    have hs : (s_X11_endNumber f_t f_t_told) = (upd f_t_told (Int32.toNatClampNeg (((4 * (f_t 8)) + (f_t 9)) - 1)) x_2) := (k_st (g := s_X11_endNumber_2 f_t_told f_t) ex_2 rfl rfl)
    exact k_finV (pc := 43) hret (by rw [hs]) dX11_endNumber_43
  refine k_if_eq (pc := 23) (tgt := 36) C dX11_endNumber_23 (by decide) (fun c_1 => ?_) (fun c_1 => ?_)
  · refine k_aload_n (pc := 36) C rfl 1 rfl dX11_endNumber_36 ?_
    refine g_X11_4 (pc := 37) C q_1002 0 rfl dX11_endNumber_37 ?_
    refine k_iload_n (pc := 40) C rfl 0 rfl dX11_endNumber_40 ?_
    refine k_ialdK (pc := 41) (v := (f_t_told (Int32.toNatClampNeg (((4 * (f_t 8)) + (f_t 9)) - 1)))) C 1 0 rfl rfl (kIn.vp (kIn.sub (kIn.meet (kIn.add (kIn.mul (n := 4) (by decide) (by decide) hf_t_8 (by decide) (by decide)) hf_t_9 (by decide) (by decide)) he) (kIn.lit (x := 1) (n := 1) (by decide)) (by decide) (by decide)) (by decide) (by decide)) rfl rfl dX11_endNumber_41 ?_
    refine k_lpick (lv2 := []) [] rfl ?_
    exact K_3 (f_t_told (Int32.toNatClampNeg (((4 * (f_t 8)) + (f_t 9)) - 1))) (Eq.symm (if_pos c_1))
  · refine k_aload_n (pc := 26) C rfl 1 rfl dX11_endNumber_26 ?_
    refine g_X11_4 (pc := 27) C q_1002 0 rfl dX11_endNumber_27 ?_
    refine k_iload_n (pc := 30) C rfl 0 rfl dX11_endNumber_30 ?_
    refine k_ialdK (pc := 31) (v := (f_t_told (Int32.toNatClampNeg (((4 * (f_t 8)) + (f_t 9)) - 1)))) C 1 0 rfl rfl (kIn.vp (kIn.sub (kIn.meet (kIn.add (kIn.mul (n := 4) (by decide) (by decide) hf_t_8 (by decide) (by decide)) hf_t_9 (by decide) (by decide)) he) (kIn.lit (x := 1) (n := 1) (by decide)) (by decide) (by decide)) (by decide) (by decide)) rfl rfl dX11_endNumber_31 ?_
    refine k_ineg (pc := 32) C dX11_endNumber_32 ?_
    refine k_goto (pc := 33) (tgt := 42) C (by decide) dX11_endNumber_33 ?_
    refine k_lpick (lv2 := []) [] rfl ?_
    exact K_3 (-(f_t_told (Int32.toNatClampNeg (((4 * (f_t 8)) + (f_t 9)) - 1)))) (Eq.symm (if_neg c_1))

theorem dX11_endSegment_0 : decode cX11_endSegment 0 = .ok (.aload_n 0, 1) := by decide +kernel
theorem dX11_endSegment_1 : decode cX11_endSegment 1 = .ok (.invokevirtual 206, 3) := by decide +kernel
theorem dX11_endSegment_4 : decode cX11_endSegment 4 = .ok (.iconst 4, 1) := by decide +kernel
theorem dX11_endSegment_5 : decode cX11_endSegment 5 = .ok (.aload_n 0, 1) := by decide +kernel
theorem dX11_endSegment_6 : decode cX11_endSegment 6 = .ok (.getfield 196, 3) := by decide +kernel
theorem dX11_endSegment_9 : decode cX11_endSegment 9 = .ok (.imul, 1) := by decide +kernel
theorem dX11_endSegment_10 : decode cX11_endSegment 10 = .ok (.istore_n 1, 1) := by decide +kernel
theorem dX11_endSegment_11 : decode cX11_endSegment 11 = .ok (.aload_n 0, 1) := by decide +kernel
theorem dX11_endSegment_12 : decode cX11_endSegment 12 = .ok (.getfield 209, 3) := by decide +kernel
theorem dX11_endSegment_15 : decode cX11_endSegment 15 = .ok (.sipush (-10000), 3) := by decide +kernel
theorem dX11_endSegment_18 : decode cX11_endSegment 18 = .ok (.if_icmp .ne 47, 3) := by decide +kernel
theorem dX11_endSegment_21 : decode cX11_endSegment 21 = .ok (.aload_n 0, 1) := by decide +kernel
theorem dX11_endSegment_22 : decode cX11_endSegment 22 = .ok (.getfield 23, 3) := by decide +kernel
theorem dX11_endSegment_25 : decode cX11_endSegment 25 = .ok (.iload_n 1, 1) := by decide +kernel
theorem dX11_endSegment_26 : decode cX11_endSegment 26 = .ok (.iaload, 1) := by decide +kernel
theorem dX11_endSegment_27 : decode cX11_endSegment 27 = .ok (.aload_n 0, 1) := by decide +kernel
theorem dX11_endSegment_28 : decode cX11_endSegment 28 = .ok (.getfield 23, 3) := by decide +kernel
theorem dX11_endSegment_31 : decode cX11_endSegment 31 = .ok (.iload_n 1, 1) := by decide +kernel
theorem dX11_endSegment_32 : decode cX11_endSegment 32 = .ok (.iconst 1, 1) := by decide +kernel
theorem dX11_endSegment_33 : decode cX11_endSegment 33 = .ok (.iadd, 1) := by decide +kernel
theorem dX11_endSegment_34 : decode cX11_endSegment 34 = .ok (.iaload, 1) := by decide +kernel
theorem dX11_endSegment_35 : decode cX11_endSegment 35 = .ok (.aload_n 0, 1) := by decide +kernel
theorem dX11_endSegment_36 : decode cX11_endSegment 36 = .ok (.getfield 23, 3) := by decide +kernel
theorem dX11_endSegment_39 : decode cX11_endSegment 39 = .ok (.iload_n 1, 1) := by decide +kernel
theorem dX11_endSegment_40 : decode cX11_endSegment 40 = .ok (.iconst 2, 1) := by decide +kernel
theorem dX11_endSegment_41 : decode cX11_endSegment 41 = .ok (.iadd, 1) := by decide +kernel
theorem dX11_endSegment_42 : decode cX11_endSegment 42 = .ok (.iaload, 1) := by decide +kernel
theorem dX11_endSegment_43 : decode cX11_endSegment 43 = .ok (.aload_n 0, 1) := by decide +kernel
theorem dX11_endSegment_44 : decode cX11_endSegment 44 = .ok (.getfield 23, 3) := by decide +kernel
theorem dX11_endSegment_47 : decode cX11_endSegment 47 = .ok (.iload_n 1, 1) := by decide +kernel
theorem dX11_endSegment_48 : decode cX11_endSegment 48 = .ok (.iconst 3, 1) := by decide +kernel
theorem dX11_endSegment_49 : decode cX11_endSegment 49 = .ok (.iadd, 1) := by decide +kernel
theorem dX11_endSegment_50 : decode cX11_endSegment 50 = .ok (.iaload, 1) := by decide +kernel
theorem dX11_endSegment_51 : decode cX11_endSegment 51 = .ok (.invokestatic 165, 3) := by decide +kernel
theorem dX11_endSegment_54 : decode cX11_endSegment 54 = .ok (.ifCond .ne 11, 3) := by decide +kernel
theorem dX11_endSegment_57 : decode cX11_endSegment 57 = .ok (.aload_n 0, 1) := by decide +kernel
theorem dX11_endSegment_58 : decode cX11_endSegment 58 = .ok (.aload_n 0, 1) := by decide +kernel
theorem dX11_endSegment_59 : decode cX11_endSegment 59 = .ok (.getfield 212, 3) := by decide +kernel
theorem dX11_endSegment_62 : decode cX11_endSegment 62 = .ok (.putfield 209, 3) := by decide +kernel
theorem dX11_endSegment_65 : decode cX11_endSegment 65 = .ok (.aload_n 0, 1) := by decide +kernel
theorem dX11_endSegment_66 : decode cX11_endSegment 66 = .ok (.dup, 1) := by decide +kernel
theorem dX11_endSegment_67 : decode cX11_endSegment 67 = .ok (.getfield 196, 3) := by decide +kernel
theorem dX11_endSegment_70 : decode cX11_endSegment 70 = .ok (.iconst 1, 1) := by decide +kernel
theorem dX11_endSegment_71 : decode cX11_endSegment 71 = .ok (.iadd, 1) := by decide +kernel
theorem dX11_endSegment_72 : decode cX11_endSegment 72 = .ok (.putfield 196, 3) := by decide +kernel
theorem dX11_endSegment_75 : decode cX11_endSegment 75 = .ok (.aload_n 0, 1) := by decide +kernel
theorem dX11_endSegment_76 : decode cX11_endSegment 76 = .ok (.iconst 0, 1) := by decide +kernel
theorem dX11_endSegment_77 : decode cX11_endSegment 77 = .ok (.putfield 199, 3) := by decide +kernel
theorem dX11_endSegment_80 : decode cX11_endSegment 80 = .ok (.return_, 1) := by decide +kernel
def j_X11_endSegment_1 (f_t : Nat → Int32) (u_3 : Int32) : (Nat → Int32) :=
  (if u_3 = 0 then (upd f_t 12 (f_t 13)) else f_t)
def j_X11_endSegment_2 (f_t : Nat → Int32) (u_1 : (Nat → Int32)) : (Nat → Int32) :=
  (if (f_t 12) = (-10000) then (j_X11_endSegment_1 f_t (s_X11_isSegment (u_1 (Int32.toNatClampNeg (4 * (f_t 8)))) (u_1 (Int32.toNatClampNeg ((4 * (f_t 8)) + 1))) (u_1 (Int32.toNatClampNeg ((4 * (f_t 8)) + 2))) (u_1 (Int32.toNatClampNeg ((4 * (f_t 8)) + 3))))) else f_t)
def s_X11_endSegment_3 (u_1 : (Nat → Int32)) (x_5 : (Nat → Int32)) : (Nat → Int32) × (Nat → Int32) :=
  ((upd (upd x_5 8 ((x_5 8) + 1)) 9 0), u_1)
def s_X11_endSegment_4 (f_t : Nat → Int32) (u_1 : (Nat → Int32)) : (Nat → Int32) × (Nat → Int32) :=
  (s_X11_endSegment_3 u_1 (j_X11_endSegment_2 f_t u_1))
def s_X11_endSegment (f_t : Nat → Int32) (f_t_told : Nat → Int32) : (Nat → Int32) × (Nat → Int32) :=
  (s_X11_endSegment_4 f_t (s_X11_endNumber f_t f_t_told))
set_option maxRecDepth 100000 in
set_option maxHeartbeats 4000000 in
theorem c_X11_endSegment (l : Launch) (D : va_G) (cI cJ cO : ClassId) (h_t : Nat) (h_t_w : Nat) (h_t_saved : Nat) (h_t_trial : Nat) (h_t_text : Nat) (h_t_told : Nat) (f_t : Nat → Int32) (f_t_told : Nat → Int32) (hf_t_8 : kIn (f_t 8) 0 11) (hf_t_9 : kIn (f_t 9) 4 4) : kV l yX11_endSegment cX11_endSegment 2 3 68 D (kT cI cJ cO) [.ref h_t] [(h_t, moE f_t h_t_w h_t_saved h_t_trial h_t_text h_t_told), (h_t_told, iA cI 48 f_t_told)] [(h_t, moE (s_X11_endSegment f_t f_t_told).1 h_t_w h_t_saved h_t_trial h_t_text h_t_told), (h_t_told, iA cI 48 (s_X11_endSegment f_t f_t_told).2)] := by
  refine kV_of (own := RX11) (lv := [(0, .ref h_t)]) rfl rfl (by decide) (Nat.le_of_ble_eq_true rfl) ?_
  intro p e s m args below meth c Q A C hret
  refine k_aload_n (pc := 0) C rfl 0 rfl dX11_endSegment_0 ?_
  obtain ⟨u_1, eu_1⟩ : ∃ z : (Nat → Int32), z = (s_X11_endNumber f_t f_t_told) := ⟨_, rfl⟩
  refine k_callVv (pc := 1) (As := []) (rest := []) (wc := [(h_t, moE f_t h_t_w h_t_saved h_t_trial h_t_text h_t_told), (h_t_told, iA cI 48 f_t_told)]) (wc2 := [(h_t, moE f_t h_t_w h_t_saved h_t_trial h_t_text h_t_told), (h_t_told, iA cI 48 u_1)]) (ws2 := [(h_t, moE f_t h_t_w h_t_saved h_t_trial h_t_text h_t_told), (h_t_told, iA cI 48 u_1)]) C (by rw [eu_1]; exact c_X11_endNumber l D cI cJ cO h_t h_t_w h_t_saved h_t_trial h_t_text h_t_told f_t f_t_told (kIn.rw (F := f_t) (k := 8) rfl hf_t_8 (by decide) (by decide)) (kIn.rw (F := f_t) (k := 9) rfl hf_t_9 (by decide) (by decide)) (kIn.wk (kIn.add (kIn.mul (n := 4) (by decide) (by decide) hf_t_8 (by decide) (by decide)) hf_t_9 (by decide) (by decide)) (by decide) (by decide))) cwv_X11_endNumber q_1298 vX11 0 rfl [0, 1] rfl rfl (by decide) rfl rfl (Nat.le_of_ble_eq_true rfl) ⟨Nat.le_of_ble_eq_true rfl, Nat.le_of_ble_eq_true rfl⟩ rfl ⟨Nat.le_refl _, Nat.le_refl _⟩ dX11_endSegment_1 ?_
  refine k_iconst (pc := 4) C iconst_4 dX11_endSegment_4 ?_
  refine k_aload_n (pc := 5) C rfl 0 rfl dX11_endSegment_5 ?_
  refine g_X11_8 (pc := 6) (x := (f_t 8)) C q_1006 0 rfl rfl dX11_endSegment_6 ?_
  refine k_imul (pc := 9) C dX11_endSegment_9 ?_
  refine k_istore_n (pc := 10) (lv2 := [(1, .int (4 * (f_t 8))), (0, .ref h_t)]) C rfl (by decide) rfl dX11_endSegment_10 ?_
  refine k_aload_n (pc := 11) C rfl 1 rfl dX11_endSegment_11 ?_
  refine g_X11_12 (pc := 12) (x := (f_t 12)) C q_1010 0 rfl rfl dX11_endSegment_12 ?_
  refine k_sipush (pc := 15) C sipush_m10000 dX11_endSegment_15 ?_
  have K_6 : ∀ (x_5 : (Nat → Int32)), x_5 = (j_X11_endSegment_2 f_t u_1) → KJ p l e (kR 3 68) s m args below meth c 0 0 Q D A 2 [(h_t, moE x_5 h_t_w h_t_saved h_t_trial h_t_text h_t_told), (h_t_told, iA cI 48 u_1)] [(0, .ref h_t)] [] 65 := by
    intro x_5 ex_5
    refine k_aload_n (pc := 65) C rfl 0 rfl dX11_endSegment_65 ?_
    refine k_dup (pc := 66) C rfl dX11_endSegment_66 ?_
    refine g_X11_8 (pc := 67) (x := (x_5 8)) C q_1006 0 rfl rfl dX11_endSegment_67 ?_
    refine k_iconst (pc := 70) C iconst_1 dX11_endSegment_70 ?_
    refine k_iadd (pc := 71) C dX11_endSegment_71 ?_
    refine p_X11_8 (pc := 72) (ws2 := [(h_t, moE (upd x_5 8 ((x_5 8) + 1)) h_t_w h_t_saved h_t_trial h_t_text h_t_told), (h_t_told, iA cI 48 u_1)]) C q_1006 0 rfl rfl dX11_endSegment_72 ?_
    refine k_aload_n (pc := 75) C rfl 0 rfl dX11_endSegment_75 ?_
    refine k_iconst (pc := 76) C iconst_0 dX11_endSegment_76 ?_
    refine p_X11_9 (pc := 77) (ws2 := [(h_t, moE (upd (upd x_5 8 ((x_5 8) + 1)) 9 0) h_t_w h_t_saved h_t_trial h_t_text h_t_told), (h_t_told, iA cI 48 u_1)]) C q_1007 0 rfl rfl dX11_endSegment_77 ?_
    have hs : (s_X11_endSegment f_t f_t_told) = ((upd (upd x_5 8 ((x_5 8) + 1)) 9 0), u_1) := (k_st (g := s_X11_endSegment_4 f_t) eu_1 rfl (k_st (g := s_X11_endSegment_3 u_1) ex_5 rfl rfl))
    exact k_finV (pc := 80) hret (by rw [hs]) dX11_endSegment_80
  refine k_icmp_ne (pc := 18) (tgt := 65) C dX11_endSegment_18 (by decide) (fun c_2 => ?_) (fun c_2 => ?_)
  · refine k_lpick (lv2 := [(0, .ref h_t)]) [1] rfl ?_
    exact K_6 f_t (Eq.symm (if_neg c_2))
  · refine k_aload_n (pc := 21) C rfl 1 rfl dX11_endSegment_21 ?_
    refine g_X11_4 (pc := 22) C q_1002 0 rfl dX11_endSegment_22 ?_
    refine k_iload_n (pc := 25) C rfl 0 rfl dX11_endSegment_25 ?_
    refine k_ialdK (pc := 26) (v := (u_1 (Int32.toNatClampNeg (4 * (f_t 8))))) C 1 0 rfl rfl (kIn.vp (kIn.mul (n := 4) (by decide) (by decide) hf_t_8 (by decide) (by decide)) (by decide) (by decide)) rfl rfl dX11_endSegment_26 ?_
    refine k_aload_n (pc := 27) C rfl 1 rfl dX11_endSegment_27 ?_
    refine g_X11_4 (pc := 28) C q_1002 0 rfl dX11_endSegment_28 ?_
    refine k_iload_n (pc := 31) C rfl 0 rfl dX11_endSegment_31 ?_
    refine k_iconst (pc := 32) C iconst_1 dX11_endSegment_32 ?_
    refine k_iadd (pc := 33) C dX11_endSegment_33 ?_
    refine k_ialdK (pc := 34) (v := (u_1 (Int32.toNatClampNeg ((4 * (f_t 8)) + 1)))) C 1 0 rfl rfl (kIn.vp (kIn.add (kIn.mul (n := 4) (by decide) (by decide) hf_t_8 (by decide) (by decide)) (kIn.lit (x := 1) (n := 1) (by decide)) (by decide) (by decide)) (by decide) (by decide)) rfl rfl dX11_endSegment_34 ?_
    refine k_aload_n (pc := 35) C rfl 1 rfl dX11_endSegment_35 ?_
    refine g_X11_4 (pc := 36) C q_1002 0 rfl dX11_endSegment_36 ?_
    refine k_iload_n (pc := 39) C rfl 0 rfl dX11_endSegment_39 ?_
    refine k_iconst (pc := 40) C iconst_2 dX11_endSegment_40 ?_
    refine k_iadd (pc := 41) C dX11_endSegment_41 ?_
    refine k_ialdK (pc := 42) (v := (u_1 (Int32.toNatClampNeg ((4 * (f_t 8)) + 2)))) C 1 0 rfl rfl (kIn.vp (kIn.add (kIn.mul (n := 4) (by decide) (by decide) hf_t_8 (by decide) (by decide)) (kIn.lit (x := 2) (n := 2) (by decide)) (by decide) (by decide)) (by decide) (by decide)) rfl rfl dX11_endSegment_42 ?_
    refine k_aload_n (pc := 43) C rfl 1 rfl dX11_endSegment_43 ?_
    refine g_X11_4 (pc := 44) C q_1002 0 rfl dX11_endSegment_44 ?_
    refine k_iload_n (pc := 47) C rfl 0 rfl dX11_endSegment_47 ?_
    refine k_iconst (pc := 48) C iconst_3 dX11_endSegment_48 ?_
    refine k_iadd (pc := 49) C dX11_endSegment_49 ?_
    refine k_ialdK (pc := 50) (v := (u_1 (Int32.toNatClampNeg ((4 * (f_t 8)) + 3)))) C 1 0 rfl rfl (kIn.vp (kIn.add (kIn.mul (n := 4) (by decide) (by decide) hf_t_8 (by decide) (by decide)) (kIn.lit (x := 3) (n := 3) (by decide)) (by decide) (by decide)) (by decide) (by decide)) rfl rfl dX11_endSegment_50 ?_
    obtain ⟨u_3, eu_3⟩ : ∃ z : Int32, z = (s_X11_isSegment (u_1 (Int32.toNatClampNeg (4 * (f_t 8)))) (u_1 (Int32.toNatClampNeg ((4 * (f_t 8)) + 1))) (u_1 (Int32.toNatClampNeg ((4 * (f_t 8)) + 2))) (u_1 (Int32.toNatClampNeg ((4 * (f_t 8)) + 3)))) := ⟨_, rfl⟩
    refine k_callSi (pc := 51) (As := [.int (u_1 (Int32.toNatClampNeg (4 * (f_t 8)))), .int (u_1 (Int32.toNatClampNeg ((4 * (f_t 8)) + 1))), .int (u_1 (Int32.toNatClampNeg ((4 * (f_t 8)) + 2))), .int (u_1 (Int32.toNatClampNeg ((4 * (f_t 8)) + 3)))]) (rest := []) (r := u_3) (wc := []) (wc2 := []) (ws2 := [(h_t, moE f_t h_t_w h_t_saved h_t_trial h_t_text h_t_told), (h_t_told, iA cI 48 u_1)]) C (by rw [eu_3]; exact c_X11_isSegment l D cI cJ cO (u_1 (Int32.toNatClampNeg (4 * (f_t 8)))) (u_1 (Int32.toNatClampNeg ((4 * (f_t 8)) + 1))) (u_1 (Int32.toNatClampNeg ((4 * (f_t 8)) + 2))) (u_1 (Int32.toNatClampNeg ((4 * (f_t 8)) + 3)))) cws_X11_isSegment q_1169 [] rfl rfl (by decide) rfl rfl (Nat.le_of_ble_eq_true rfl) ⟨Nat.le_of_ble_eq_true rfl, Nat.le_of_ble_eq_true rfl⟩ rfl ⟨Nat.le_refl _, Nat.le_refl _⟩ dX11_endSegment_51 ?_
    refine k_if_ne (pc := 54) (tgt := 65) C dX11_endSegment_54 (by decide) (fun c_4 => ?_) (fun c_4 => ?_)
    · refine k_lpick (lv2 := [(0, .ref h_t)]) [1] rfl ?_
      exact K_6 f_t (Eq.symm (k_st (g := j_X11_endSegment_1 f_t) eu_3 (if_pos c_2) (if_neg c_4)))
    · refine k_aload_n (pc := 57) C rfl 1 rfl dX11_endSegment_57 ?_
      refine k_aload_n (pc := 58) C rfl 1 rfl dX11_endSegment_58 ?_
      refine g_X11_13 (pc := 59) (x := (f_t 13)) C q_1011 0 rfl rfl dX11_endSegment_59 ?_
      refine p_X11_12 (pc := 62) (ws2 := [(h_t, moE (upd f_t 12 (f_t 13)) h_t_w h_t_saved h_t_trial h_t_text h_t_told), (h_t_told, iA cI 48 u_1)]) C q_1010 0 rfl rfl dX11_endSegment_62 ?_
      refine k_lpick (lv2 := [(0, .ref h_t)]) [1] rfl ?_
      exact K_6 (upd f_t 12 (f_t 13)) (Eq.symm (k_st (g := j_X11_endSegment_1 f_t) eu_3 (if_pos c_2) (if_pos c_4)))

theorem dX11_takes_0 : decode cX11_takes 0 = .ok (.aload_n 0, 1) := by decide +kernel
theorem dX11_takes_1 : decode cX11_takes 1 = .ok (.getfield 19, 3) := by decide +kernel
theorem dX11_takes_4 : decode cX11_takes 4 = .ok (.iload_n 1, 1) := by decide +kernel
theorem dX11_takes_5 : decode cX11_takes 5 = .ok (.iaload, 1) := by decide +kernel
theorem dX11_takes_6 : decode cX11_takes 6 = .ok (.istore_n 2, 1) := by decide +kernel
theorem dX11_takes_7 : decode cX11_takes 7 = .ok (.aload_n 0, 1) := by decide +kernel
theorem dX11_takes_8 : decode cX11_takes 8 = .ok (.getfield 199, 3) := by decide +kernel
theorem dX11_takes_11 : decode cX11_takes 11 = .ok (.ifCond .le 89, 3) := by decide +kernel
theorem dX11_takes_14 : decode cX11_takes 14 = .ok (.iload_n 2, 1) := by decide +kernel
theorem dX11_takes_15 : decode cX11_takes 15 = .ok (.i2l, 1) := by decide +kernel
theorem dX11_takes_16 : decode cX11_takes 16 = .ok (.ldc2_w 215, 3) := by decide +kernel
theorem dX11_takes_19 : decode cX11_takes 19 = .ok (.ldc2_w 217, 3) := by decide +kernel
theorem dX11_takes_22 : decode cX11_takes 22 = .ok (.invokestatic 63, 3) := by decide +kernel
theorem dX11_takes_25 : decode cX11_takes 25 = .ok (.ifCond .eq 75, 3) := by decide +kernel
theorem dX11_takes_28 : decode cX11_takes 28 = .ok (.iconst 4, 1) := by decide +kernel
theorem dX11_takes_29 : decode cX11_takes 29 = .ok (.aload_n 0, 1) := by decide +kernel
theorem dX11_takes_30 : decode cX11_takes 30 = .ok (.getfield 196, 3) := by decide +kernel
theorem dX11_takes_33 : decode cX11_takes 33 = .ok (.imul, 1) := by decide +kernel
theorem dX11_takes_34 : decode cX11_takes 34 = .ok (.aload_n 0, 1) := by decide +kernel
theorem dX11_takes_35 : decode cX11_takes 35 = .ok (.getfield 199, 3) := by decide +kernel
theorem dX11_takes_38 : decode cX11_takes 38 = .ok (.iadd, 1) := by decide +kernel
theorem dX11_takes_39 : decode cX11_takes 39 = .ok (.iconst 1, 1) := by decide +kernel
theorem dX11_takes_40 : decode cX11_takes 40 = .ok (.isub, 1) := by decide +kernel
theorem dX11_takes_41 : decode cX11_takes 41 = .ok (.istore_n 3, 1) := by decide +kernel
theorem dX11_takes_42 : decode cX11_takes 42 = .ok (.aload_n 0, 1) := by decide +kernel
theorem dX11_takes_43 : decode cX11_takes 43 = .ok (.getfield 23, 3) := by decide +kernel
theorem dX11_takes_46 : decode cX11_takes 46 = .ok (.iload_n 3, 1) := by decide +kernel
theorem dX11_takes_47 : decode cX11_takes 47 = .ok (.aload_n 0, 1) := by decide +kernel
theorem dX11_takes_48 : decode cX11_takes 48 = .ok (.getfield 219, 3) := by decide +kernel
theorem dX11_takes_51 : decode cX11_takes 51 = .ok (.ifCond .ne 10, 3) := by decide +kernel
theorem dX11_takes_54 : decode cX11_takes 54 = .ok (.iload_n 2, 1) := by decide +kernel
theorem dX11_takes_55 : decode cX11_takes 55 = .ok (.bipush 48, 2) := by decide +kernel
theorem dX11_takes_57 : decode cX11_takes 57 = .ok (.isub, 1) := by decide +kernel
theorem dX11_takes_58 : decode cX11_takes 58 = .ok (.goto 17, 3) := by decide +kernel
theorem dX11_takes_61 : decode cX11_takes 61 = .ok (.bipush 10, 2) := by decide +kernel
theorem dX11_takes_63 : decode cX11_takes 63 = .ok (.aload_n 0, 1) := by decide +kernel
theorem dX11_takes_64 : decode cX11_takes 64 = .ok (.getfield 23, 3) := by decide +kernel
theorem dX11_takes_67 : decode cX11_takes 67 = .ok (.iload_n 3, 1) := by decide +kernel
theorem dX11_takes_68 : decode cX11_takes 68 = .ok (.iaload, 1) := by decide +kernel
theorem dX11_takes_69 : decode cX11_takes 69 = .ok (.imul, 1) := by decide +kernel
theorem dX11_takes_70 : decode cX11_takes 70 = .ok (.iload_n 2, 1) := by decide +kernel
theorem dX11_takes_71 : decode cX11_takes 71 = .ok (.iadd, 1) := by decide +kernel
theorem dX11_takes_72 : decode cX11_takes 72 = .ok (.bipush 48, 2) := by decide +kernel
theorem dX11_takes_74 : decode cX11_takes 74 = .ok (.isub, 1) := by decide +kernel
theorem dX11_takes_75 : decode cX11_takes 75 = .ok (.iastore, 1) := by decide +kernel
theorem dX11_takes_76 : decode cX11_takes 76 = .ok (.aload_n 0, 1) := by decide +kernel
theorem dX11_takes_77 : decode cX11_takes 77 = .ok (.dup, 1) := by decide +kernel
theorem dX11_takes_78 : decode cX11_takes 78 = .ok (.getfield 219, 3) := by decide +kernel
theorem dX11_takes_81 : decode cX11_takes 81 = .ok (.iconst 1, 1) := by decide +kernel
theorem dX11_takes_82 : decode cX11_takes 82 = .ok (.iadd, 1) := by decide +kernel
theorem dX11_takes_83 : decode cX11_takes 83 = .ok (.putfield 219, 3) := by decide +kernel
theorem dX11_takes_86 : decode cX11_takes 86 = .ok (.aload_n 0, 1) := by decide +kernel
theorem dX11_takes_87 : decode cX11_takes 87 = .ok (.getfield 219, 3) := by decide +kernel
theorem dX11_takes_90 : decode cX11_takes 90 = .ok (.iconst 5, 1) := by decide +kernel
theorem dX11_takes_91 : decode cX11_takes 91 = .ok (.if_icmp .ge 7, 3) := by decide +kernel
theorem dX11_takes_94 : decode cX11_takes 94 = .ok (.iconst 1, 1) := by decide +kernel
theorem dX11_takes_95 : decode cX11_takes 95 = .ok (.goto 4, 3) := by decide +kernel
theorem dX11_takes_98 : decode cX11_takes 98 = .ok (.iconst 0, 1) := by decide +kernel
theorem dX11_takes_99 : decode cX11_takes 99 = .ok (.ireturn, 1) := by decide +kernel
theorem dX11_takes_100 : decode cX11_takes 100 = .ok (.iload_n 2, 1) := by decide +kernel
theorem dX11_takes_101 : decode cX11_takes 101 = .ok (.bipush 45, 2) := by decide +kernel
theorem dX11_takes_103 : decode cX11_takes 103 = .ok (.if_icmp .ne 38, 3) := by decide +kernel
theorem dX11_takes_106 : decode cX11_takes 106 = .ok (.aload_n 0, 1) := by decide +kernel
theorem dX11_takes_107 : decode cX11_takes 107 = .ok (.getfield 199, 3) := by decide +kernel
theorem dX11_takes_110 : decode cX11_takes 110 = .ok (.iconst 1, 1) := by decide +kernel
theorem dX11_takes_111 : decode cX11_takes 111 = .ok (.if_icmp .ne 21, 3) := by decide +kernel
theorem dX11_takes_114 : decode cX11_takes 114 = .ok (.aload_n 0, 1) := by decide +kernel
theorem dX11_takes_115 : decode cX11_takes 115 = .ok (.getfield 219, 3) := by decide +kernel
theorem dX11_takes_118 : decode cX11_takes 118 = .ok (.ifCond .ne 14, 3) := by decide +kernel
theorem dX11_takes_121 : decode cX11_takes 121 = .ok (.aload_n 0, 1) := by decide +kernel
theorem dX11_takes_122 : decode cX11_takes 122 = .ok (.getfield 202, 3) := by decide +kernel
theorem dX11_takes_125 : decode cX11_takes 125 = .ok (.ifCond .ne 7, 3) := by decide +kernel
theorem dX11_takes_128 : decode cX11_takes 128 = .ok (.iconst 1, 1) := by decide +kernel
theorem dX11_takes_129 : decode cX11_takes 129 = .ok (.goto 4, 3) := by decide +kernel
theorem dX11_takes_132 : decode cX11_takes 132 = .ok (.iconst 0, 1) := by decide +kernel
theorem dX11_takes_133 : decode cX11_takes 133 = .ok (.istore_n 3, 1) := by decide +kernel
theorem dX11_takes_134 : decode cX11_takes 134 = .ok (.aload_n 0, 1) := by decide +kernel
theorem dX11_takes_135 : decode cX11_takes 135 = .ok (.iconst 1, 1) := by decide +kernel
theorem dX11_takes_136 : decode cX11_takes 136 = .ok (.putfield 202, 3) := by decide +kernel
theorem dX11_takes_139 : decode cX11_takes 139 = .ok (.iload_n 3, 1) := by decide +kernel
theorem dX11_takes_140 : decode cX11_takes 140 = .ok (.ireturn, 1) := by decide +kernel
theorem dX11_takes_141 : decode cX11_takes 141 = .ok (.aload_n 0, 1) := by decide +kernel
theorem dX11_takes_142 : decode cX11_takes 142 = .ok (.getfield 199, 3) := by decide +kernel
theorem dX11_takes_145 : decode cX11_takes 145 = .ok (.ifCond .le 12, 3) := by decide +kernel
theorem dX11_takes_148 : decode cX11_takes 148 = .ok (.aload_n 0, 1) := by decide +kernel
theorem dX11_takes_149 : decode cX11_takes 149 = .ok (.getfield 219, 3) := by decide +kernel
theorem dX11_takes_152 : decode cX11_takes 152 = .ok (.ifCond .ne 5, 3) := by decide +kernel
theorem dX11_takes_155 : decode cX11_takes 155 = .ok (.iconst 0, 1) := by decide +kernel
theorem dX11_takes_156 : decode cX11_takes 156 = .ok (.ireturn, 1) := by decide +kernel
theorem dX11_takes_157 : decode cX11_takes 157 = .ok (.aload_n 0, 1) := by decide +kernel
theorem dX11_takes_158 : decode cX11_takes 158 = .ok (.getfield 199, 3) := by decide +kernel
theorem dX11_takes_161 : decode cX11_takes 161 = .ok (.iconst 4, 1) := by decide +kernel
theorem dX11_takes_162 : decode cX11_takes 162 = .ok (.if_icmp .ne 19, 3) := by decide +kernel
theorem dX11_takes_165 : decode cX11_takes 165 = .ok (.aload_n 0, 1) := by decide +kernel
theorem dX11_takes_166 : decode cX11_takes 166 = .ok (.invokevirtual 222, 3) := by decide +kernel
theorem dX11_takes_169 : decode cX11_takes 169 = .ok (.iload_n 2, 1) := by decide +kernel
theorem dX11_takes_170 : decode cX11_takes 170 = .ok (.bipush 59, 2) := by decide +kernel
theorem dX11_takes_172 : decode cX11_takes 172 = .ok (.if_icmp .ne 7, 3) := by decide +kernel
theorem dX11_takes_175 : decode cX11_takes 175 = .ok (.iconst 1, 1) := by decide +kernel
theorem dX11_takes_176 : decode cX11_takes 176 = .ok (.goto 4, 3) := by decide +kernel
theorem dX11_takes_179 : decode cX11_takes 179 = .ok (.iconst 0, 1) := by decide +kernel
theorem dX11_takes_180 : decode cX11_takes 180 = .ok (.ireturn, 1) := by decide +kernel
theorem dX11_takes_181 : decode cX11_takes 181 = .ok (.aload_n 0, 1) := by decide +kernel
theorem dX11_takes_182 : decode cX11_takes 182 = .ok (.getfield 199, 3) := by decide +kernel
theorem dX11_takes_185 : decode cX11_takes 185 = .ok (.ifCond .le 7, 3) := by decide +kernel
theorem dX11_takes_188 : decode cX11_takes 188 = .ok (.aload_n 0, 1) := by decide +kernel
theorem dX11_takes_189 : decode cX11_takes 189 = .ok (.invokevirtual 206, 3) := by decide +kernel
theorem dX11_takes_192 : decode cX11_takes 192 = .ok (.iload_n 2, 1) := by decide +kernel
theorem dX11_takes_193 : decode cX11_takes 193 = .ok (.aload_n 0, 1) := by decide +kernel
theorem dX11_takes_194 : decode cX11_takes 194 = .ok (.getfield 199, 3) := by decide +kernel
theorem dX11_takes_197 : decode cX11_takes 197 = .ok (.invokestatic 225, 3) := by decide +kernel
theorem dX11_takes_200 : decode cX11_takes 200 = .ok (.if_icmp .ne 12, 3) := by decide +kernel
theorem dX11_takes_203 : decode cX11_takes 203 = .ok (.aload_n 0, 1) := by decide +kernel
theorem dX11_takes_204 : decode cX11_takes 204 = .ok (.getfield 196, 3) := by decide +kernel
theorem dX11_takes_207 : decode cX11_takes 207 = .ok (.bipush 12, 2) := by decide +kernel
theorem dX11_takes_209 : decode cX11_takes 209 = .ok (.if_icmp .ne 5, 3) := by decide +kernel
theorem dX11_takes_212 : decode cX11_takes 212 = .ok (.iconst 0, 1) := by decide +kernel
theorem dX11_takes_213 : decode cX11_takes 213 = .ok (.ireturn, 1) := by decide +kernel
theorem dX11_takes_214 : decode cX11_takes 214 = .ok (.aload_n 0, 1) := by decide +kernel
theorem dX11_takes_215 : decode cX11_takes 215 = .ok (.aload_n 0, 1) := by decide +kernel
theorem dX11_takes_216 : decode cX11_takes 216 = .ok (.getfield 199, 3) := by decide +kernel
theorem dX11_takes_219 : decode cX11_takes 219 = .ok (.ifCond .ne 7, 3) := by decide +kernel
theorem dX11_takes_222 : decode cX11_takes 222 = .ok (.iload_n 1, 1) := by decide +kernel
theorem dX11_takes_223 : decode cX11_takes 223 = .ok (.goto 7, 3) := by decide +kernel
theorem dX11_takes_226 : decode cX11_takes 226 = .ok (.aload_n 0, 1) := by decide +kernel
theorem dX11_takes_227 : decode cX11_takes 227 = .ok (.getfield 212, 3) := by decide +kernel
theorem dX11_takes_230 : decode cX11_takes 230 = .ok (.putfield 212, 3) := by decide +kernel
theorem dX11_takes_233 : decode cX11_takes 233 = .ok (.aload_n 0, 1) := by decide +kernel
theorem dX11_takes_234 : decode cX11_takes 234 = .ok (.dup, 1) := by decide +kernel
theorem dX11_takes_235 : decode cX11_takes 235 = .ok (.getfield 199, 3) := by decide +kernel
theorem dX11_takes_238 : decode cX11_takes 238 = .ok (.iconst 1, 1) := by decide +kernel
theorem dX11_takes_239 : decode cX11_takes 239 = .ok (.iadd, 1) := by decide +kernel
theorem dX11_takes_240 : decode cX11_takes 240 = .ok (.putfield 199, 3) := by decide +kernel
theorem dX11_takes_243 : decode cX11_takes 243 = .ok (.aload_n 0, 1) := by decide +kernel
theorem dX11_takes_244 : decode cX11_takes 244 = .ok (.iconst 0, 1) := by decide +kernel
theorem dX11_takes_245 : decode cX11_takes 245 = .ok (.putfield 219, 3) := by decide +kernel
theorem dX11_takes_248 : decode cX11_takes 248 = .ok (.aload_n 0, 1) := by decide +kernel
theorem dX11_takes_249 : decode cX11_takes 249 = .ok (.iconst 0, 1) := by decide +kernel
theorem dX11_takes_250 : decode cX11_takes 250 = .ok (.putfield 202, 3) := by decide +kernel
theorem dX11_takes_253 : decode cX11_takes 253 = .ok (.iconst 1, 1) := by decide +kernel
theorem dX11_takes_254 : decode cX11_takes 254 = .ok (.ireturn, 1) := by decide +kernel
def j_X11_takes_1 (u_6 : (Nat → Int32)) : (Nat → Int32) :=
  u_6
def j_X11_takes_2 (f_t : Nat → Int32) (f_t_told : Nat → Int32) : (Nat → Int32) :=
  (if (f_t 9) ≤ 0 then f_t_told else (j_X11_takes_1 (s_X11_endNumber f_t f_t_told)))
def j_X11_takes_3 (u_17 : (Nat → Int32)) : (Nat → Int32) :=
  u_17
def j_X11_takes_4 (f_t : Nat → Int32) (f_t_told : Nat → Int32) : (Nat → Int32) :=
  (if (f_t 9) ≤ 0 then f_t_told else (j_X11_takes_3 (s_X11_endNumber f_t f_t_told)))
def j_X11_takes_5 (u_34 : (Nat → Int32)) : (Nat → Int32) :=
  u_34
def j_X11_takes_6 (f_t : Nat → Int32) (f_t_told : Nat → Int32) : (Nat → Int32) :=
  (if (f_t 9) ≤ 0 then f_t_told else (j_X11_takes_5 (s_X11_endNumber f_t f_t_told)))
def j_X11_takes_7 (u_45 : (Nat → Int32)) : (Nat → Int32) :=
  u_45
def j_X11_takes_8 (f_t : Nat → Int32) (f_t_told : Nat → Int32) : (Nat → Int32) :=
  (if (f_t 9) ≤ 0 then f_t_told else (j_X11_takes_7 (s_X11_endNumber f_t f_t_told)))
def j_X11_takes_9 (f_t : Nat → Int32) (f_t_text : Nat → Int32) (p0 : Int32) (f_t_told : Nat → Int32) : Int32 :=
  (if (f_t 10) = 0 then ((f_t_text (Int32.toNatClampNeg p0)) - 48) else (((10 * (f_t_told (Int32.toNatClampNeg (((4 * (f_t 8)) + (f_t 9)) - 1)))) + (f_t_text (Int32.toNatClampNeg p0))) - 48))
def s_X11_takes_10 (f_t : Nat → Int32) (f_t_told : Nat → Int32) (x_28 : Int32) : Int32 × (Nat → Int32) × (Nat → Int32) :=
  (x_28, (upd f_t 11 1), f_t_told)
def s_X11_takes_11 (f_t_text : Nat → Int32) (p0 : Int32) (u_12 : (Nat → Int32) × (Nat → Int32)) : Int32 × (Nat → Int32) × (Nat → Int32) :=
  (if (f_t_text (Int32.toNatClampNeg p0)) = 59 then (1, u_12.1, u_12.2) else (0, u_12.1, u_12.2))
def s_X11_takes_12 (f_t : Nat → Int32) (x_7 : (Nat → Int32)) (x_11 : Int32) : Int32 × (Nat → Int32) × (Nat → Int32) :=
  (1, (upd (upd (upd (upd f_t 13 x_11) 9 ((f_t 9) + 1)) 10 0) 11 0), x_7)
def s_X11_takes_13 (f_t_text : Nat → Int32) (p0 : Int32) (f_t : Nat → Int32) (x_7 : (Nat → Int32)) : Int32 × (Nat → Int32) × (Nat → Int32) :=
  (if (f_t_text (Int32.toNatClampNeg p0)) = (s_X11_letterOf (f_t 9)) then (if (f_t 8) = 12 then (0, f_t, x_7) else (s_X11_takes_12 f_t x_7 (if (f_t 9) = 0 then p0 else (f_t 13)))) else (0, f_t, x_7))
def s_X11_takes_14 (f_t_text : Nat → Int32) (p0 : Int32) (u_23 : (Nat → Int32) × (Nat → Int32)) : Int32 × (Nat → Int32) × (Nat → Int32) :=
  (if (f_t_text (Int32.toNatClampNeg p0)) = 59 then (1, u_23.1, u_23.2) else (0, u_23.1, u_23.2))
def s_X11_takes_15 (f_t : Nat → Int32) (x_18 : (Nat → Int32)) (x_22 : Int32) : Int32 × (Nat → Int32) × (Nat → Int32) :=
  (1, (upd (upd (upd (upd f_t 13 x_22) 9 ((f_t 9) + 1)) 10 0) 11 0), x_18)
def s_X11_takes_16 (f_t_text : Nat → Int32) (p0 : Int32) (f_t : Nat → Int32) (x_18 : (Nat → Int32)) : Int32 × (Nat → Int32) × (Nat → Int32) :=
  (if (f_t_text (Int32.toNatClampNeg p0)) = (s_X11_letterOf (f_t 9)) then (if (f_t 8) = 12 then (0, f_t, x_18) else (s_X11_takes_15 f_t x_18 (if (f_t 9) = 0 then p0 else (f_t 13)))) else (0, f_t, x_18))
def s_X11_takes_17 (f_t : Nat → Int32) (f_t_told : Nat → Int32) (x_56 : Int32) : Int32 × (Nat → Int32) × (Nat → Int32) :=
  (x_56, (upd f_t 11 1), f_t_told)
def s_X11_takes_18 (f_t_text : Nat → Int32) (p0 : Int32) (u_40 : (Nat → Int32) × (Nat → Int32)) : Int32 × (Nat → Int32) × (Nat → Int32) :=
  (if (f_t_text (Int32.toNatClampNeg p0)) = 59 then (1, u_40.1, u_40.2) else (0, u_40.1, u_40.2))
def s_X11_takes_19 (f_t : Nat → Int32) (x_35 : (Nat → Int32)) (x_39 : Int32) : Int32 × (Nat → Int32) × (Nat → Int32) :=
  (1, (upd (upd (upd (upd f_t 13 x_39) 9 ((f_t 9) + 1)) 10 0) 11 0), x_35)
def s_X11_takes_20 (f_t_text : Nat → Int32) (p0 : Int32) (f_t : Nat → Int32) (x_35 : (Nat → Int32)) : Int32 × (Nat → Int32) × (Nat → Int32) :=
  (if (f_t_text (Int32.toNatClampNeg p0)) = (s_X11_letterOf (f_t 9)) then (if (f_t 8) = 12 then (0, f_t, x_35) else (s_X11_takes_19 f_t x_35 (if (f_t 9) = 0 then p0 else (f_t 13)))) else (0, f_t, x_35))
def s_X11_takes_21 (f_t_text : Nat → Int32) (p0 : Int32) (u_51 : (Nat → Int32) × (Nat → Int32)) : Int32 × (Nat → Int32) × (Nat → Int32) :=
  (if (f_t_text (Int32.toNatClampNeg p0)) = 59 then (1, u_51.1, u_51.2) else (0, u_51.1, u_51.2))
def s_X11_takes_22 (f_t : Nat → Int32) (x_46 : (Nat → Int32)) (x_50 : Int32) : Int32 × (Nat → Int32) × (Nat → Int32) :=
  (1, (upd (upd (upd (upd f_t 13 x_50) 9 ((f_t 9) + 1)) 10 0) 11 0), x_46)
def s_X11_takes_23 (f_t_text : Nat → Int32) (p0 : Int32) (f_t : Nat → Int32) (x_46 : (Nat → Int32)) : Int32 × (Nat → Int32) × (Nat → Int32) :=
  (if (f_t_text (Int32.toNatClampNeg p0)) = (s_X11_letterOf (f_t 9)) then (if (f_t 8) = 12 then (0, f_t, x_46) else (s_X11_takes_22 f_t x_46 (if (f_t 9) = 0 then p0 else (f_t 13)))) else (0, f_t, x_46))
def s_X11_takes_24 (f_t : Nat → Int32) (f_t_told : Nat → Int32) (x_58 : Int32) : Int32 × (Nat → Int32) × (Nat → Int32) :=
  (if 5 ≤ ((f_t 10) + 1) then (0, (upd f_t 10 ((f_t 10) + 1)), (upd f_t_told (Int32.toNatClampNeg (((4 * (f_t 8)) + (f_t 9)) - 1)) x_58)) else (1, (upd f_t 10 ((f_t 10) + 1)), (upd f_t_told (Int32.toNatClampNeg (((4 * (f_t 8)) + (f_t 9)) - 1)) x_58)))
def s_X11_takes (f_t : Nat → Int32) (f_t_text : Nat → Int32) (f_t_told : Nat → Int32) (p0 : Int32) : Int32 × (Nat → Int32) × (Nat → Int32) :=
  (if (f_t 9) ≤ 0 then (if (f_t_text (Int32.toNatClampNeg p0)) = 45 then (s_X11_takes_10 f_t f_t_told (if (f_t 9) = 1 then (if (f_t 10) = 0 then (if (f_t 11) = 0 then 1 else 0) else 0) else 0)) else (if (f_t 9) ≤ 0 then (if (f_t 9) = 4 then (s_X11_takes_11 f_t_text p0 (s_X11_endSegment f_t f_t_told)) else (s_X11_takes_13 f_t_text p0 f_t (j_X11_takes_2 f_t f_t_told))) else (if (f_t 10) = 0 then (0, f_t, f_t_told) else (if (f_t 9) = 4 then (s_X11_takes_14 f_t_text p0 (s_X11_endSegment f_t f_t_told)) else (s_X11_takes_16 f_t_text p0 f_t (j_X11_takes_4 f_t f_t_told)))))) else (if (s_X11_in (Int32.toInt64 (f_t_text (Int32.toNatClampNeg p0))) 48 57) = 0 then (if (f_t_text (Int32.toNatClampNeg p0)) = 45 then (s_X11_takes_17 f_t f_t_told (if (f_t 9) = 1 then (if (f_t 10) = 0 then (if (f_t 11) = 0 then 1 else 0) else 0) else 0)) else (if (f_t 9) ≤ 0 then (if (f_t 9) = 4 then (s_X11_takes_18 f_t_text p0 (s_X11_endSegment f_t f_t_told)) else (s_X11_takes_20 f_t_text p0 f_t (j_X11_takes_6 f_t f_t_told))) else (if (f_t 10) = 0 then (0, f_t, f_t_told) else (if (f_t 9) = 4 then (s_X11_takes_21 f_t_text p0 (s_X11_endSegment f_t f_t_told)) else (s_X11_takes_23 f_t_text p0 f_t (j_X11_takes_8 f_t f_t_told)))))) else (s_X11_takes_24 f_t f_t_told (j_X11_takes_9 f_t f_t_text p0 f_t_told))))
set_option maxRecDepth 100000 in
set_option maxHeartbeats 4000000 in
theorem c_X11_takes (l : Launch) (D : va_G) (cI cJ cO : ClassId) (h_t : Nat) (h_t_w : Nat) (h_t_saved : Nat) (h_t_trial : Nat) (h_t_text : Nat) (h_t_told : Nat) (f_t : Nat → Int32) (f_t_text : Nat → Int32) (f_t_told : Nat → Int32) (p0 : Int32) (hf_t_6 : kIn (f_t 6) 0 90) (hf_t_8 : kIn (f_t 8) 0 12) (hf_t_9 : kIn (f_t 9) 0 4) (he : kIn ((4 * (f_t 8)) + (f_t 9)) 0 48) (hp_p0 : kIn p0 0 89) : kI l yX11_takes cX11_takes 4 .boolean 4 89 D (kT cI cJ cO) [.ref h_t, .int p0] [(h_t, moE f_t h_t_w h_t_saved h_t_trial h_t_text h_t_told), (h_t_text, iA cI 90 f_t_text), (h_t_told, iA cI 48 f_t_told)] ((s_X11_takes f_t f_t_text f_t_told p0).1) [(h_t, moE (s_X11_takes f_t f_t_text f_t_told p0).2.1 h_t_w h_t_saved h_t_trial h_t_text h_t_told), (h_t_text, iA cI 90 f_t_text), (h_t_told, iA cI 48 (s_X11_takes f_t f_t_text f_t_told p0).2.2)] := by
  refine kI_of (own := RX11) (lv := [(0, .ref h_t), (1, .int p0)]) rfl rfl (by decide) (Nat.le_of_ble_eq_true rfl) ?_
  intro p e s m args below meth c Q A C hret
  refine k_aload_n (pc := 0) C rfl 0 rfl dX11_takes_0 ?_
  refine g_X11_3 (pc := 1) C q_1001 0 rfl dX11_takes_1 ?_
  refine k_iload_n (pc := 4) C rfl 1 rfl dX11_takes_4 ?_
  refine k_ialdK (pc := 5) (v := (f_t_text (Int32.toNatClampNeg p0))) C 1 0 rfl rfl (kIn.vp hp_p0 (by decide) (by decide)) rfl rfl dX11_takes_5 ?_
  refine k_istore_n (pc := 6) (lv2 := [(2, .int (f_t_text (Int32.toNatClampNeg p0))), (0, .ref h_t), (1, .int p0)]) C rfl (by decide) rfl dX11_takes_6 ?_
  refine k_aload_n (pc := 7) C rfl 1 rfl dX11_takes_7 ?_
  refine g_X11_9 (pc := 8) (x := (f_t 9)) C q_1007 0 rfl rfl dX11_takes_8 ?_
  refine k_if_le (pc := 11) (tgt := 100) C dX11_takes_11 (by decide) (fun c_1 => ?_) (fun c_1 => ?_)
  · refine k_iload_n (pc := 100) C rfl 0 rfl dX11_takes_100 ?_
    refine k_bipush (pc := 101) C bipush_45 dX11_takes_101 ?_
    refine k_icmp_ne (pc := 103) (tgt := 141) C dX11_takes_103 (by decide) (fun c_2 => ?_) (fun c_2 => ?_)
    · refine k_aload_n (pc := 141) C rfl 1 rfl dX11_takes_141 ?_
      refine g_X11_9 (pc := 142) (x := (f_t 9)) C q_1007 0 rfl rfl dX11_takes_142 ?_
      refine k_if_le (pc := 145) (tgt := 157) C dX11_takes_145 (by decide) (fun c_3 => ?_) (fun c_3 => ?_)
      · refine k_aload_n (pc := 157) C rfl 1 rfl dX11_takes_157 ?_
        refine g_X11_9 (pc := 158) (x := (f_t 9)) C q_1007 0 rfl rfl dX11_takes_158 ?_
        refine k_iconst (pc := 161) C iconst_4 dX11_takes_161 ?_
        refine k_icmp_ne (pc := 162) (tgt := 181) C dX11_takes_162 (by decide) (fun c_4 => ?_) (fun c_4 => ?_)
        · refine k_aload_n (pc := 181) C rfl 1 rfl dX11_takes_181 ?_
          refine g_X11_9 (pc := 182) (x := (f_t 9)) C q_1007 0 rfl rfl dX11_takes_182 ?_
          have K_60 : ∀ (x_7 : (Nat → Int32)), x_7 = (j_X11_takes_2 f_t f_t_told) → KJ p l e (kR 4 89) s m args below meth c 0 0 Q D A 4 [(h_t, moE f_t h_t_w h_t_saved h_t_trial h_t_text h_t_told), (h_t_text, iA cI 90 f_t_text), (h_t_told, iA cI 48 x_7)] [(2, .int (f_t_text (Int32.toNatClampNeg p0))), (0, .ref h_t), (1, .int p0)] [] 192 := by
            intro x_7 ex_7
            refine k_iload_n (pc := 192) C rfl 0 rfl dX11_takes_192 ?_
            refine k_aload_n (pc := 193) C rfl 1 rfl dX11_takes_193 ?_
            refine g_X11_9 (pc := 194) (x := (f_t 9)) C q_1007 0 rfl rfl dX11_takes_194 ?_
            refine k_callSi (pc := 197) (As := [.int (f_t 9)]) (rest := [.int (f_t_text (Int32.toNatClampNeg p0))]) (r := (s_X11_letterOf (f_t 9))) (wc := []) (wc2 := []) (ws2 := [(h_t, moE f_t h_t_w h_t_saved h_t_trial h_t_text h_t_told), (h_t_text, iA cI 90 f_t_text), (h_t_told, iA cI 48 x_7)]) C (c_X11_letterOf l D cI cJ cO (f_t 9)) cws_X11_letterOf q_1302 [] rfl rfl (by decide) rfl rfl (Nat.le_of_ble_eq_true rfl) ⟨Nat.le_of_ble_eq_true rfl, Nat.le_of_ble_eq_true rfl⟩ rfl ⟨Nat.le_refl _, Nat.le_refl _⟩ dX11_takes_197 ?_
            refine k_icmp_ne (pc := 200) (tgt := 212) C dX11_takes_200 (by decide) (fun c_8 => ?_) (fun c_8 => ?_)
            · refine k_iconst (pc := 212) C iconst_0 dX11_takes_212 ?_
              have hs : (s_X11_takes f_t f_t_text f_t_told p0) = (0, f_t, x_7) := (k_st (g := s_X11_takes_13 f_t_text p0 f_t) ex_7 ((if_pos c_1).trans ((if_neg c_2).trans ((if_pos c_3).trans (if_neg c_4)))) (if_neg c_8))
              exact k_finI (pc := 213) hret rfl (by rw [hs]) (by rw [hs]) dX11_takes_213
            · refine k_aload_n (pc := 203) C rfl 1 rfl dX11_takes_203 ?_
              refine g_X11_8 (pc := 204) (x := (f_t 8)) C q_1006 0 rfl rfl dX11_takes_204 ?_
              refine k_bipush (pc := 207) C bipush_12 dX11_takes_207 ?_
              refine k_icmp_ne (pc := 209) (tgt := 214) C dX11_takes_209 (by decide) (fun c_9 => ?_) (fun c_9 => ?_)
              · refine k_aload_n (pc := 214) C rfl 1 rfl dX11_takes_214 ?_
                refine k_aload_n (pc := 215) C rfl 1 rfl dX11_takes_215 ?_
                refine g_X11_9 (pc := 216) (x := (f_t 9)) C q_1007 0 rfl rfl dX11_takes_216 ?_
                have K_61 : ∀ (x_11 : Int32), x_11 = (if (f_t 9) = 0 then p0 else (f_t 13)) → KJ p l e (kR 4 89) s m args below meth c 0 0 Q D A 4 [(h_t, moE f_t h_t_w h_t_saved h_t_trial h_t_text h_t_told), (h_t_text, iA cI 90 f_t_text), (h_t_told, iA cI 48 x_7)] [(0, .ref h_t)] [.int x_11, .ref h_t] 230 := by
                  intro x_11 ex_11
                  refine p_X11_13 (pc := 230) (ws2 := [(h_t, moE (upd f_t 13 x_11) h_t_w h_t_saved h_t_trial h_t_text h_t_told), (h_t_text, iA cI 90 f_t_text), (h_t_told, iA cI 48 x_7)]) C q_1011 0 rfl rfl dX11_takes_230 ?_
                  refine k_aload_n (pc := 233) C rfl 0 rfl dX11_takes_233 ?_
                  refine k_dup (pc := 234) C rfl dX11_takes_234 ?_
                  refine g_X11_9 (pc := 235) (x := (f_t 9)) C q_1007 0 rfl (upn (by decide) rfl) dX11_takes_235 ?_
                  refine k_iconst (pc := 238) C iconst_1 dX11_takes_238 ?_
                  refine k_iadd (pc := 239) C dX11_takes_239 ?_
                  refine p_X11_9 (pc := 240) (ws2 := [(h_t, moE (upd (upd f_t 13 x_11) 9 ((f_t 9) + 1)) h_t_w h_t_saved h_t_trial h_t_text h_t_told), (h_t_text, iA cI 90 f_t_text), (h_t_told, iA cI 48 x_7)]) C q_1007 0 rfl rfl dX11_takes_240 ?_
                  refine k_aload_n (pc := 243) C rfl 0 rfl dX11_takes_243 ?_
                  refine k_iconst (pc := 244) C iconst_0 dX11_takes_244 ?_
                  refine p_X11_10 (pc := 245) (ws2 := [(h_t, moE (upd (upd (upd f_t 13 x_11) 9 ((f_t 9) + 1)) 10 0) h_t_w h_t_saved h_t_trial h_t_text h_t_told), (h_t_text, iA cI 90 f_t_text), (h_t_told, iA cI 48 x_7)]) C q_1008 0 rfl rfl dX11_takes_245 ?_
                  refine k_aload_n (pc := 248) C rfl 0 rfl dX11_takes_248 ?_
                  refine k_iconst (pc := 249) C iconst_0 dX11_takes_249 ?_
                  refine p_X11_11 (pc := 250) (ws2 := [(h_t, moE (upd (upd (upd (upd f_t 13 x_11) 9 ((f_t 9) + 1)) 10 0) 11 0) h_t_w h_t_saved h_t_trial h_t_text h_t_told), (h_t_text, iA cI 90 f_t_text), (h_t_told, iA cI 48 x_7)]) C q_1009 kb0 0 rfl rfl dX11_takes_250 ?_
                  refine k_iconst (pc := 253) C iconst_1 dX11_takes_253 ?_
                  have hs : (s_X11_takes f_t f_t_text f_t_told p0) = (1, (upd (upd (upd (upd f_t 13 x_11) 9 ((f_t 9) + 1)) 10 0) 11 0), x_7) := (k_st (g := s_X11_takes_13 f_t_text p0 f_t) ex_7 ((if_pos c_1).trans ((if_neg c_2).trans ((if_pos c_3).trans (if_neg c_4)))) (k_st (g := s_X11_takes_12 f_t x_7) ex_11 ((if_pos c_8).trans (if_neg c_9)) rfl))
                  exact k_finI (pc := 254) hret rfl (by rw [hs]) (by rw [hs]) dX11_takes_254
                refine k_if_ne (pc := 219) (tgt := 226) C dX11_takes_219 (by decide) (fun c_10 => ?_) (fun c_10 => ?_)
                · refine k_aload_n (pc := 226) C rfl 1 rfl dX11_takes_226 ?_
                  refine g_X11_13 (pc := 227) (x := (f_t 13)) C q_1011 0 rfl rfl dX11_takes_227 ?_
                  refine k_lpick (lv2 := [(0, .ref h_t)]) [1] rfl ?_
                  exact K_61 (f_t 13) (Eq.symm (if_neg c_10))
                · refine k_iload_n (pc := 222) C rfl 2 rfl dX11_takes_222 ?_
                  refine k_goto (pc := 223) (tgt := 230) C (by decide) dX11_takes_223 ?_
                  refine k_lpick (lv2 := [(0, .ref h_t)]) [1] rfl ?_
                  exact K_61 p0 (Eq.symm (if_pos c_10))
              · refine k_iconst (pc := 212) C iconst_0 dX11_takes_212 ?_
                have hs : (s_X11_takes f_t f_t_text f_t_told p0) = (0, f_t, x_7) := (k_st (g := s_X11_takes_13 f_t_text p0 f_t) ex_7 ((if_pos c_1).trans ((if_neg c_2).trans ((if_pos c_3).trans (if_neg c_4)))) ((if_pos c_8).trans (if_pos c_9)))
                exact k_finI (pc := 213) hret rfl (by rw [hs]) (by rw [hs]) dX11_takes_213
          refine k_if_le (pc := 185) (tgt := 192) C dX11_takes_185 (by decide) (fun c_5 => ?_) (fun c_5 => ?_)
          · exact K_60 f_t_told (Eq.symm (if_pos c_5))
          · refine k_aload_n (pc := 188) C rfl 1 rfl dX11_takes_188 ?_
            obtain ⟨u_6, eu_6⟩ : ∃ z : (Nat → Int32), z = (s_X11_endNumber f_t f_t_told) := ⟨_, rfl⟩
            refine k_callVv (pc := 189) (As := []) (rest := []) (wc := [(h_t, moE f_t h_t_w h_t_saved h_t_trial h_t_text h_t_told), (h_t_told, iA cI 48 f_t_told)]) (wc2 := [(h_t, moE f_t h_t_w h_t_saved h_t_trial h_t_text h_t_told), (h_t_told, iA cI 48 u_6)]) (ws2 := [(h_t, moE f_t h_t_w h_t_saved h_t_trial h_t_text h_t_told), (h_t_text, iA cI 90 f_t_text), (h_t_told, iA cI 48 u_6)]) C (by rw [eu_6]; exact c_X11_endNumber l D cI cJ cO h_t h_t_w h_t_saved h_t_trial h_t_text h_t_told f_t f_t_told (kIn.rw (F := f_t) (k := 8) rfl hf_t_8 (by decide) (by decide)) (kIn.rw (F := f_t) (k := 9) rfl (kIn.nleLo (n := 0) (kIn.le (n := 0) (kIn.le (n := 0) hf_t_9 c_1 (by decide)) c_3 (by decide)) c_5 (by decide)) (by decide) (by decide)) (kIn.wk (kIn.meet (kIn.add (kIn.mul (n := 4) (by decide) (by decide) hf_t_8 (by decide) (by decide)) (kIn.nleLo (n := 0) (kIn.le (n := 0) (kIn.le (n := 0) hf_t_9 c_1 (by decide)) c_3 (by decide)) c_5 (by decide)) (by decide) (by decide)) he) (by decide) (by decide))) cwv_X11_endNumber q_1298 vX11 0 rfl [0, 2] rfl rfl (by decide) rfl rfl (Nat.le_of_ble_eq_true rfl) ⟨Nat.le_of_ble_eq_true rfl, Nat.le_of_ble_eq_true rfl⟩ rfl ⟨Nat.le_refl _, Nat.le_refl _⟩ dX11_takes_189 ?_
            exact K_60 u_6 (Eq.symm (k_st (g := j_X11_takes_1) eu_6 (if_neg c_5) rfl))
        · refine k_aload_n (pc := 165) C rfl 1 rfl dX11_takes_165 ?_
          obtain ⟨u_12, eu_12⟩ : ∃ z : (Nat → Int32) × (Nat → Int32), z = (s_X11_endSegment f_t f_t_told) := ⟨_, rfl⟩
          refine k_callVv (pc := 166) (As := []) (rest := []) (wc := [(h_t, moE f_t h_t_w h_t_saved h_t_trial h_t_text h_t_told), (h_t_told, iA cI 48 f_t_told)]) (wc2 := [(h_t, moE u_12.1 h_t_w h_t_saved h_t_trial h_t_text h_t_told), (h_t_told, iA cI 48 u_12.2)]) (ws2 := [(h_t, moE u_12.1 h_t_w h_t_saved h_t_trial h_t_text h_t_told), (h_t_text, iA cI 90 f_t_text), (h_t_told, iA cI 48 u_12.2)]) C (by rw [eu_12]; exact c_X11_endSegment l D cI cJ cO h_t h_t_w h_t_saved h_t_trial h_t_text h_t_told f_t f_t_told (kIn.seg11 he hf_t_8 c_4) (kIn.rw (F := f_t) (k := 9) rfl (kIn.eq (n := 4) c_4 (by decide)) (by decide) (by decide))) cwv_X11_endSegment q_1294 vX11 0 rfl [0, 2] rfl rfl (by decide) rfl rfl (Nat.le_of_ble_eq_true rfl) ⟨Nat.le_of_ble_eq_true rfl, Nat.le_of_ble_eq_true rfl⟩ rfl ⟨Nat.le_refl _, Nat.le_refl _⟩ dX11_takes_166 ?_
          refine k_iload_n (pc := 169) C rfl 0 rfl dX11_takes_169 ?_
          refine k_bipush (pc := 170) C bipush_59 dX11_takes_170 ?_
          refine k_icmp_ne (pc := 172) (tgt := 179) C dX11_takes_172 (by decide) (fun c_13 => ?_) (fun c_13 => ?_)
          · refine k_iconst (pc := 179) C iconst_0 dX11_takes_179 ?_
            have hs : (s_X11_takes f_t f_t_text f_t_told p0) = (0, u_12.1, u_12.2) := (k_st (g := s_X11_takes_11 f_t_text p0) eu_12 ((if_pos c_1).trans ((if_neg c_2).trans ((if_pos c_3).trans (if_pos c_4)))) (if_neg c_13))
            exact k_finI (pc := 180) hret rfl (by rw [hs]) (by rw [hs]) dX11_takes_180
          · refine k_iconst (pc := 175) C iconst_1 dX11_takes_175 ?_
            refine k_goto (pc := 176) (tgt := 180) C (by decide) dX11_takes_176 ?_
            have hs : (s_X11_takes f_t f_t_text f_t_told p0) = (1, u_12.1, u_12.2) := (k_st (g := s_X11_takes_11 f_t_text p0) eu_12 ((if_pos c_1).trans ((if_neg c_2).trans ((if_pos c_3).trans (if_pos c_4)))) (if_pos c_13))
            exact k_finI (pc := 180) hret rfl (by rw [hs]) (by rw [hs]) dX11_takes_180
      · refine k_aload_n (pc := 148) C rfl 1 rfl dX11_takes_148 ?_
        refine g_X11_10 (pc := 149) (x := (f_t 10)) C q_1008 0 rfl rfl dX11_takes_149 ?_
        refine k_if_ne (pc := 152) (tgt := 157) C dX11_takes_152 (by decide) (fun c_14 => ?_) (fun c_14 => ?_)
        · refine k_aload_n (pc := 157) C rfl 1 rfl dX11_takes_157 ?_
          refine g_X11_9 (pc := 158) (x := (f_t 9)) C q_1007 0 rfl rfl dX11_takes_158 ?_
          refine k_iconst (pc := 161) C iconst_4 dX11_takes_161 ?_
          refine k_icmp_ne (pc := 162) (tgt := 181) C dX11_takes_162 (by decide) (fun c_15 => ?_) (fun c_15 => ?_)
          · refine k_aload_n (pc := 181) C rfl 1 rfl dX11_takes_181 ?_
            refine g_X11_9 (pc := 182) (x := (f_t 9)) C q_1007 0 rfl rfl dX11_takes_182 ?_
            have K_62 : ∀ (x_18 : (Nat → Int32)), x_18 = (j_X11_takes_4 f_t f_t_told) → KJ p l e (kR 4 89) s m args below meth c 0 0 Q D A 4 [(h_t, moE f_t h_t_w h_t_saved h_t_trial h_t_text h_t_told), (h_t_text, iA cI 90 f_t_text), (h_t_told, iA cI 48 x_18)] [(2, .int (f_t_text (Int32.toNatClampNeg p0))), (0, .ref h_t), (1, .int p0)] [] 192 := by
              intro x_18 ex_18
              refine k_iload_n (pc := 192) C rfl 0 rfl dX11_takes_192 ?_
              refine k_aload_n (pc := 193) C rfl 1 rfl dX11_takes_193 ?_
              refine g_X11_9 (pc := 194) (x := (f_t 9)) C q_1007 0 rfl rfl dX11_takes_194 ?_
              refine k_callSi (pc := 197) (As := [.int (f_t 9)]) (rest := [.int (f_t_text (Int32.toNatClampNeg p0))]) (r := (s_X11_letterOf (f_t 9))) (wc := []) (wc2 := []) (ws2 := [(h_t, moE f_t h_t_w h_t_saved h_t_trial h_t_text h_t_told), (h_t_text, iA cI 90 f_t_text), (h_t_told, iA cI 48 x_18)]) C (c_X11_letterOf l D cI cJ cO (f_t 9)) cws_X11_letterOf q_1302 [] rfl rfl (by decide) rfl rfl (Nat.le_of_ble_eq_true rfl) ⟨Nat.le_of_ble_eq_true rfl, Nat.le_of_ble_eq_true rfl⟩ rfl ⟨Nat.le_refl _, Nat.le_refl _⟩ dX11_takes_197 ?_
              refine k_icmp_ne (pc := 200) (tgt := 212) C dX11_takes_200 (by decide) (fun c_19 => ?_) (fun c_19 => ?_)
              · refine k_iconst (pc := 212) C iconst_0 dX11_takes_212 ?_
                have hs : (s_X11_takes f_t f_t_text f_t_told p0) = (0, f_t, x_18) := (k_st (g := s_X11_takes_16 f_t_text p0 f_t) ex_18 ((if_pos c_1).trans ((if_neg c_2).trans ((if_neg c_3).trans ((if_neg c_14).trans (if_neg c_15))))) (if_neg c_19))
                exact k_finI (pc := 213) hret rfl (by rw [hs]) (by rw [hs]) dX11_takes_213
              · refine k_aload_n (pc := 203) C rfl 1 rfl dX11_takes_203 ?_
                refine g_X11_8 (pc := 204) (x := (f_t 8)) C q_1006 0 rfl rfl dX11_takes_204 ?_
                refine k_bipush (pc := 207) C bipush_12 dX11_takes_207 ?_
                refine k_icmp_ne (pc := 209) (tgt := 214) C dX11_takes_209 (by decide) (fun c_20 => ?_) (fun c_20 => ?_)
                · refine k_aload_n (pc := 214) C rfl 1 rfl dX11_takes_214 ?_
                  refine k_aload_n (pc := 215) C rfl 1 rfl dX11_takes_215 ?_
                  refine g_X11_9 (pc := 216) (x := (f_t 9)) C q_1007 0 rfl rfl dX11_takes_216 ?_
                  have K_63 : ∀ (x_22 : Int32), x_22 = (if (f_t 9) = 0 then p0 else (f_t 13)) → KJ p l e (kR 4 89) s m args below meth c 0 0 Q D A 4 [(h_t, moE f_t h_t_w h_t_saved h_t_trial h_t_text h_t_told), (h_t_text, iA cI 90 f_t_text), (h_t_told, iA cI 48 x_18)] [(0, .ref h_t)] [.int x_22, .ref h_t] 230 := by
                    intro x_22 ex_22
                    refine p_X11_13 (pc := 230) (ws2 := [(h_t, moE (upd f_t 13 x_22) h_t_w h_t_saved h_t_trial h_t_text h_t_told), (h_t_text, iA cI 90 f_t_text), (h_t_told, iA cI 48 x_18)]) C q_1011 0 rfl rfl dX11_takes_230 ?_
                    refine k_aload_n (pc := 233) C rfl 0 rfl dX11_takes_233 ?_
                    refine k_dup (pc := 234) C rfl dX11_takes_234 ?_
                    refine g_X11_9 (pc := 235) (x := (f_t 9)) C q_1007 0 rfl (upn (by decide) rfl) dX11_takes_235 ?_
                    refine k_iconst (pc := 238) C iconst_1 dX11_takes_238 ?_
                    refine k_iadd (pc := 239) C dX11_takes_239 ?_
                    refine p_X11_9 (pc := 240) (ws2 := [(h_t, moE (upd (upd f_t 13 x_22) 9 ((f_t 9) + 1)) h_t_w h_t_saved h_t_trial h_t_text h_t_told), (h_t_text, iA cI 90 f_t_text), (h_t_told, iA cI 48 x_18)]) C q_1007 0 rfl rfl dX11_takes_240 ?_
                    refine k_aload_n (pc := 243) C rfl 0 rfl dX11_takes_243 ?_
                    refine k_iconst (pc := 244) C iconst_0 dX11_takes_244 ?_
                    refine p_X11_10 (pc := 245) (ws2 := [(h_t, moE (upd (upd (upd f_t 13 x_22) 9 ((f_t 9) + 1)) 10 0) h_t_w h_t_saved h_t_trial h_t_text h_t_told), (h_t_text, iA cI 90 f_t_text), (h_t_told, iA cI 48 x_18)]) C q_1008 0 rfl rfl dX11_takes_245 ?_
                    refine k_aload_n (pc := 248) C rfl 0 rfl dX11_takes_248 ?_
                    refine k_iconst (pc := 249) C iconst_0 dX11_takes_249 ?_
                    refine p_X11_11 (pc := 250) (ws2 := [(h_t, moE (upd (upd (upd (upd f_t 13 x_22) 9 ((f_t 9) + 1)) 10 0) 11 0) h_t_w h_t_saved h_t_trial h_t_text h_t_told), (h_t_text, iA cI 90 f_t_text), (h_t_told, iA cI 48 x_18)]) C q_1009 kb0 0 rfl rfl dX11_takes_250 ?_
                    refine k_iconst (pc := 253) C iconst_1 dX11_takes_253 ?_
                    have hs : (s_X11_takes f_t f_t_text f_t_told p0) = (1, (upd (upd (upd (upd f_t 13 x_22) 9 ((f_t 9) + 1)) 10 0) 11 0), x_18) := (k_st (g := s_X11_takes_16 f_t_text p0 f_t) ex_18 ((if_pos c_1).trans ((if_neg c_2).trans ((if_neg c_3).trans ((if_neg c_14).trans (if_neg c_15))))) (k_st (g := s_X11_takes_15 f_t x_18) ex_22 ((if_pos c_19).trans (if_neg c_20)) rfl))
                    exact k_finI (pc := 254) hret rfl (by rw [hs]) (by rw [hs]) dX11_takes_254
                  refine k_if_ne (pc := 219) (tgt := 226) C dX11_takes_219 (by decide) (fun c_21 => ?_) (fun c_21 => ?_)
                  · refine k_aload_n (pc := 226) C rfl 1 rfl dX11_takes_226 ?_
                    refine g_X11_13 (pc := 227) (x := (f_t 13)) C q_1011 0 rfl rfl dX11_takes_227 ?_
                    refine k_lpick (lv2 := [(0, .ref h_t)]) [1] rfl ?_
                    exact K_63 (f_t 13) (Eq.symm (if_neg c_21))
                  · refine k_iload_n (pc := 222) C rfl 2 rfl dX11_takes_222 ?_
                    refine k_goto (pc := 223) (tgt := 230) C (by decide) dX11_takes_223 ?_
                    refine k_lpick (lv2 := [(0, .ref h_t)]) [1] rfl ?_
                    exact K_63 p0 (Eq.symm (if_pos c_21))
                · refine k_iconst (pc := 212) C iconst_0 dX11_takes_212 ?_
                  have hs : (s_X11_takes f_t f_t_text f_t_told p0) = (0, f_t, x_18) := (k_st (g := s_X11_takes_16 f_t_text p0 f_t) ex_18 ((if_pos c_1).trans ((if_neg c_2).trans ((if_neg c_3).trans ((if_neg c_14).trans (if_neg c_15))))) ((if_pos c_19).trans (if_pos c_20)))
                  exact k_finI (pc := 213) hret rfl (by rw [hs]) (by rw [hs]) dX11_takes_213
            refine k_if_le (pc := 185) (tgt := 192) C dX11_takes_185 (by decide) (fun c_16 => ?_) (fun c_16 => ?_)
            · exact K_62 f_t_told (Eq.symm (if_pos c_16))
            · refine k_aload_n (pc := 188) C rfl 1 rfl dX11_takes_188 ?_
              obtain ⟨u_17, eu_17⟩ : ∃ z : (Nat → Int32), z = (s_X11_endNumber f_t f_t_told) := ⟨_, rfl⟩
              refine k_callVv (pc := 189) (As := []) (rest := []) (wc := [(h_t, moE f_t h_t_w h_t_saved h_t_trial h_t_text h_t_told), (h_t_told, iA cI 48 f_t_told)]) (wc2 := [(h_t, moE f_t h_t_w h_t_saved h_t_trial h_t_text h_t_told), (h_t_told, iA cI 48 u_17)]) (ws2 := [(h_t, moE f_t h_t_w h_t_saved h_t_trial h_t_text h_t_told), (h_t_text, iA cI 90 f_t_text), (h_t_told, iA cI 48 u_17)]) C (by rw [eu_17]; exact c_X11_endNumber l D cI cJ cO h_t h_t_w h_t_saved h_t_trial h_t_text h_t_told f_t f_t_told (kIn.rw (F := f_t) (k := 8) rfl hf_t_8 (by decide) (by decide)) (kIn.rw (F := f_t) (k := 9) rfl (kIn.nleLo (n := 0) (kIn.nleLo (n := 0) (kIn.le (n := 0) hf_t_9 c_1 (by decide)) c_3 (by decide)) c_16 (by decide)) (by decide) (by decide)) (kIn.wk (kIn.meet (kIn.add (kIn.mul (n := 4) (by decide) (by decide) hf_t_8 (by decide) (by decide)) (kIn.nleLo (n := 0) (kIn.nleLo (n := 0) (kIn.le (n := 0) hf_t_9 c_1 (by decide)) c_3 (by decide)) c_16 (by decide)) (by decide) (by decide)) he) (by decide) (by decide))) cwv_X11_endNumber q_1298 vX11 0 rfl [0, 2] rfl rfl (by decide) rfl rfl (Nat.le_of_ble_eq_true rfl) ⟨Nat.le_of_ble_eq_true rfl, Nat.le_of_ble_eq_true rfl⟩ rfl ⟨Nat.le_refl _, Nat.le_refl _⟩ dX11_takes_189 ?_
              exact K_62 u_17 (Eq.symm (k_st (g := j_X11_takes_3) eu_17 (if_neg c_16) rfl))
          · refine k_aload_n (pc := 165) C rfl 1 rfl dX11_takes_165 ?_
            obtain ⟨u_23, eu_23⟩ : ∃ z : (Nat → Int32) × (Nat → Int32), z = (s_X11_endSegment f_t f_t_told) := ⟨_, rfl⟩
            refine k_callVv (pc := 166) (As := []) (rest := []) (wc := [(h_t, moE f_t h_t_w h_t_saved h_t_trial h_t_text h_t_told), (h_t_told, iA cI 48 f_t_told)]) (wc2 := [(h_t, moE u_23.1 h_t_w h_t_saved h_t_trial h_t_text h_t_told), (h_t_told, iA cI 48 u_23.2)]) (ws2 := [(h_t, moE u_23.1 h_t_w h_t_saved h_t_trial h_t_text h_t_told), (h_t_text, iA cI 90 f_t_text), (h_t_told, iA cI 48 u_23.2)]) C (by rw [eu_23]; exact c_X11_endSegment l D cI cJ cO h_t h_t_w h_t_saved h_t_trial h_t_text h_t_told f_t f_t_told (kIn.seg11 he hf_t_8 c_15) (kIn.rw (F := f_t) (k := 9) rfl (kIn.eq (n := 4) c_15 (by decide)) (by decide) (by decide))) cwv_X11_endSegment q_1294 vX11 0 rfl [0, 2] rfl rfl (by decide) rfl rfl (Nat.le_of_ble_eq_true rfl) ⟨Nat.le_of_ble_eq_true rfl, Nat.le_of_ble_eq_true rfl⟩ rfl ⟨Nat.le_refl _, Nat.le_refl _⟩ dX11_takes_166 ?_
            refine k_iload_n (pc := 169) C rfl 0 rfl dX11_takes_169 ?_
            refine k_bipush (pc := 170) C bipush_59 dX11_takes_170 ?_
            refine k_icmp_ne (pc := 172) (tgt := 179) C dX11_takes_172 (by decide) (fun c_24 => ?_) (fun c_24 => ?_)
            · refine k_iconst (pc := 179) C iconst_0 dX11_takes_179 ?_
              have hs : (s_X11_takes f_t f_t_text f_t_told p0) = (0, u_23.1, u_23.2) := (k_st (g := s_X11_takes_14 f_t_text p0) eu_23 ((if_pos c_1).trans ((if_neg c_2).trans ((if_neg c_3).trans ((if_neg c_14).trans (if_pos c_15))))) (if_neg c_24))
              exact k_finI (pc := 180) hret rfl (by rw [hs]) (by rw [hs]) dX11_takes_180
            · refine k_iconst (pc := 175) C iconst_1 dX11_takes_175 ?_
              refine k_goto (pc := 176) (tgt := 180) C (by decide) dX11_takes_176 ?_
              have hs : (s_X11_takes f_t f_t_text f_t_told p0) = (1, u_23.1, u_23.2) := (k_st (g := s_X11_takes_14 f_t_text p0) eu_23 ((if_pos c_1).trans ((if_neg c_2).trans ((if_neg c_3).trans ((if_neg c_14).trans (if_pos c_15))))) (if_pos c_24))
              exact k_finI (pc := 180) hret rfl (by rw [hs]) (by rw [hs]) dX11_takes_180
        · refine k_iconst (pc := 155) C iconst_0 dX11_takes_155 ?_
          have hs : (s_X11_takes f_t f_t_text f_t_told p0) = (0, f_t, f_t_told) := ((if_pos c_1).trans ((if_neg c_2).trans ((if_neg c_3).trans (if_pos c_14))))
          exact k_finI (pc := 156) hret rfl (by rw [hs]) (by rw [hs]) dX11_takes_156
    · refine k_aload_n (pc := 106) C rfl 1 rfl dX11_takes_106 ?_
      refine g_X11_9 (pc := 107) (x := (f_t 9)) C q_1007 0 rfl rfl dX11_takes_107 ?_
      refine k_iconst (pc := 110) C iconst_1 dX11_takes_110 ?_
      have K_64 : ∀ (x_28 : Int32), x_28 = (if (f_t 9) = 1 then (if (f_t 10) = 0 then (if (f_t 11) = 0 then 1 else 0) else 0) else 0) → KJ p l e (kR 4 89) s m args below meth c 0 0 Q D A 4 [(h_t, moE f_t h_t_w h_t_saved h_t_trial h_t_text h_t_told), (h_t_text, iA cI 90 f_t_text), (h_t_told, iA cI 48 f_t_told)] [(0, .ref h_t)] [.int x_28] 133 := by
        intro x_28 ex_28
        refine k_istore_n (pc := 133) (lv2 := [(3, .int x_28), (0, .ref h_t)]) C rfl (by decide) rfl dX11_takes_133 ?_
        refine k_aload_n (pc := 134) C rfl 1 rfl dX11_takes_134 ?_
        refine k_iconst (pc := 135) C iconst_1 dX11_takes_135 ?_
        refine p_X11_11 (pc := 136) (ws2 := [(h_t, moE (upd f_t 11 1) h_t_w h_t_saved h_t_trial h_t_text h_t_told), (h_t_text, iA cI 90 f_t_text), (h_t_told, iA cI 48 f_t_told)]) C q_1009 kb1 0 rfl rfl dX11_takes_136 ?_
        refine k_iload_n (pc := 139) C rfl 0 rfl dX11_takes_139 ?_
        have hs : (s_X11_takes f_t f_t_text f_t_told p0) = (x_28, (upd f_t 11 1), f_t_told) := (k_st (g := s_X11_takes_10 f_t f_t_told) ex_28 ((if_pos c_1).trans (if_pos c_2)) rfl)
        exact k_finI (pc := 140) hret (kb_n (by rw [ex_28]; repeat' first | with_reducible exact kb0 | with_reducible exact kb1 | with_reducible refine k_bif ?_ ?_ | with_reducible refine k_bif0 ?_ ?_)) (by rw [hs]) (by rw [hs]) dX11_takes_140
      refine k_icmp_ne (pc := 111) (tgt := 132) C dX11_takes_111 (by decide) (fun c_25 => ?_) (fun c_25 => ?_)
      · refine k_iconst (pc := 132) C iconst_0 dX11_takes_132 ?_
        refine k_lpick (lv2 := [(0, .ref h_t)]) [1] rfl ?_
        exact K_64 0 (Eq.symm (if_neg c_25))
      · refine k_aload_n (pc := 114) C rfl 1 rfl dX11_takes_114 ?_
        refine g_X11_10 (pc := 115) (x := (f_t 10)) C q_1008 0 rfl rfl dX11_takes_115 ?_
        refine k_if_ne (pc := 118) (tgt := 132) C dX11_takes_118 (by decide) (fun c_26 => ?_) (fun c_26 => ?_)
        · refine k_iconst (pc := 132) C iconst_0 dX11_takes_132 ?_
          refine k_lpick (lv2 := [(0, .ref h_t)]) [1] rfl ?_
          exact K_64 0 (Eq.symm ((if_pos c_25).trans (if_neg c_26)))
        · refine k_aload_n (pc := 121) C rfl 1 rfl dX11_takes_121 ?_
          refine g_X11_11 (pc := 122) (x := (f_t 11)) C q_1009 0 rfl rfl dX11_takes_122 ?_
          refine k_if_ne (pc := 125) (tgt := 132) C dX11_takes_125 (by decide) (fun c_27 => ?_) (fun c_27 => ?_)
          · refine k_iconst (pc := 132) C iconst_0 dX11_takes_132 ?_
            refine k_lpick (lv2 := [(0, .ref h_t)]) [1] rfl ?_
            exact K_64 0 (Eq.symm ((if_pos c_25).trans ((if_pos c_26).trans (if_neg c_27))))
          · refine k_iconst (pc := 128) C iconst_1 dX11_takes_128 ?_
            refine k_goto (pc := 129) (tgt := 133) C (by decide) dX11_takes_129 ?_
            refine k_lpick (lv2 := [(0, .ref h_t)]) [1] rfl ?_
            exact K_64 1 (Eq.symm ((if_pos c_25).trans ((if_pos c_26).trans (if_pos c_27))))
  · refine k_iload_n (pc := 14) C rfl 0 rfl dX11_takes_14 ?_
    refine k_i2l (pc := 15) C dX11_takes_15 ?_
    refine k_ldc2 (pc := 16) C q_1292 dX11_takes_16 ?_
    refine k_ldc2 (pc := 19) C q_1293 dX11_takes_19 ?_
    refine k_callSi (pc := 22) (As := [.long (Int32.toInt64 (f_t_text (Int32.toNatClampNeg p0))), .long 48, .long 57]) (rest := []) (r := (s_X11_in (Int32.toInt64 (f_t_text (Int32.toNatClampNeg p0))) 48 57)) (wc := []) (wc2 := []) (ws2 := [(h_t, moE f_t h_t_w h_t_saved h_t_trial h_t_text h_t_told), (h_t_text, iA cI 90 f_t_text), (h_t_told, iA cI 48 f_t_told)]) C (c_X11_in l D cI cJ cO (Int32.toInt64 (f_t_text (Int32.toNatClampNeg p0))) 48 57) cws_X11_in q_1051 [] rfl rfl (by decide) rfl rfl (Nat.le_of_ble_eq_true rfl) ⟨Nat.le_of_ble_eq_true rfl, Nat.le_of_ble_eq_true rfl⟩ rfl ⟨Nat.le_refl _, Nat.le_refl _⟩ dX11_takes_22 ?_
    refine k_if_eq (pc := 25) (tgt := 100) C dX11_takes_25 (by decide) (fun c_29 => ?_) (fun c_29 => ?_)
    · refine k_iload_n (pc := 100) C rfl 0 rfl dX11_takes_100 ?_
      refine k_bipush (pc := 101) C bipush_45 dX11_takes_101 ?_
      refine k_icmp_ne (pc := 103) (tgt := 141) C dX11_takes_103 (by decide) (fun c_30 => ?_) (fun c_30 => ?_)
      · refine k_aload_n (pc := 141) C rfl 1 rfl dX11_takes_141 ?_
        refine g_X11_9 (pc := 142) (x := (f_t 9)) C q_1007 0 rfl rfl dX11_takes_142 ?_
        refine k_if_le (pc := 145) (tgt := 157) C dX11_takes_145 (by decide) (fun c_31 => ?_) (fun c_31 => ?_)
        · refine k_aload_n (pc := 157) C rfl 1 rfl dX11_takes_157 ?_
          refine g_X11_9 (pc := 158) (x := (f_t 9)) C q_1007 0 rfl rfl dX11_takes_158 ?_
          refine k_iconst (pc := 161) C iconst_4 dX11_takes_161 ?_
          refine k_icmp_ne (pc := 162) (tgt := 181) C dX11_takes_162 (by decide) (fun c_32 => ?_) (fun c_32 => ?_)
          · refine k_aload_n (pc := 181) C rfl 1 rfl dX11_takes_181 ?_
            refine g_X11_9 (pc := 182) (x := (f_t 9)) C q_1007 0 rfl rfl dX11_takes_182 ?_
            have K_65 : ∀ (x_35 : (Nat → Int32)), x_35 = (j_X11_takes_6 f_t f_t_told) → KJ p l e (kR 4 89) s m args below meth c 0 0 Q D A 4 [(h_t, moE f_t h_t_w h_t_saved h_t_trial h_t_text h_t_told), (h_t_text, iA cI 90 f_t_text), (h_t_told, iA cI 48 x_35)] [(2, .int (f_t_text (Int32.toNatClampNeg p0))), (0, .ref h_t), (1, .int p0)] [] 192 := by
              intro x_35 ex_35
              refine k_iload_n (pc := 192) C rfl 0 rfl dX11_takes_192 ?_
              refine k_aload_n (pc := 193) C rfl 1 rfl dX11_takes_193 ?_
              refine g_X11_9 (pc := 194) (x := (f_t 9)) C q_1007 0 rfl rfl dX11_takes_194 ?_
              refine k_callSi (pc := 197) (As := [.int (f_t 9)]) (rest := [.int (f_t_text (Int32.toNatClampNeg p0))]) (r := (s_X11_letterOf (f_t 9))) (wc := []) (wc2 := []) (ws2 := [(h_t, moE f_t h_t_w h_t_saved h_t_trial h_t_text h_t_told), (h_t_text, iA cI 90 f_t_text), (h_t_told, iA cI 48 x_35)]) C (c_X11_letterOf l D cI cJ cO (f_t 9)) cws_X11_letterOf q_1302 [] rfl rfl (by decide) rfl rfl (Nat.le_of_ble_eq_true rfl) ⟨Nat.le_of_ble_eq_true rfl, Nat.le_of_ble_eq_true rfl⟩ rfl ⟨Nat.le_refl _, Nat.le_refl _⟩ dX11_takes_197 ?_
              refine k_icmp_ne (pc := 200) (tgt := 212) C dX11_takes_200 (by decide) (fun c_36 => ?_) (fun c_36 => ?_)
              · refine k_iconst (pc := 212) C iconst_0 dX11_takes_212 ?_
                have hs : (s_X11_takes f_t f_t_text f_t_told p0) = (0, f_t, x_35) := (k_st (g := s_X11_takes_20 f_t_text p0 f_t) ex_35 ((if_neg c_1).trans ((if_pos c_29).trans ((if_neg c_30).trans ((if_pos c_31).trans (if_neg c_32))))) (if_neg c_36))
                exact k_finI (pc := 213) hret rfl (by rw [hs]) (by rw [hs]) dX11_takes_213
              · refine k_aload_n (pc := 203) C rfl 1 rfl dX11_takes_203 ?_
                refine g_X11_8 (pc := 204) (x := (f_t 8)) C q_1006 0 rfl rfl dX11_takes_204 ?_
                refine k_bipush (pc := 207) C bipush_12 dX11_takes_207 ?_
                refine k_icmp_ne (pc := 209) (tgt := 214) C dX11_takes_209 (by decide) (fun c_37 => ?_) (fun c_37 => ?_)
                · refine k_aload_n (pc := 214) C rfl 1 rfl dX11_takes_214 ?_
                  refine k_aload_n (pc := 215) C rfl 1 rfl dX11_takes_215 ?_
                  refine g_X11_9 (pc := 216) (x := (f_t 9)) C q_1007 0 rfl rfl dX11_takes_216 ?_
                  have K_66 : ∀ (x_39 : Int32), x_39 = (if (f_t 9) = 0 then p0 else (f_t 13)) → KJ p l e (kR 4 89) s m args below meth c 0 0 Q D A 4 [(h_t, moE f_t h_t_w h_t_saved h_t_trial h_t_text h_t_told), (h_t_text, iA cI 90 f_t_text), (h_t_told, iA cI 48 x_35)] [(0, .ref h_t)] [.int x_39, .ref h_t] 230 := by
                    intro x_39 ex_39
                    refine p_X11_13 (pc := 230) (ws2 := [(h_t, moE (upd f_t 13 x_39) h_t_w h_t_saved h_t_trial h_t_text h_t_told), (h_t_text, iA cI 90 f_t_text), (h_t_told, iA cI 48 x_35)]) C q_1011 0 rfl rfl dX11_takes_230 ?_
                    refine k_aload_n (pc := 233) C rfl 0 rfl dX11_takes_233 ?_
                    refine k_dup (pc := 234) C rfl dX11_takes_234 ?_
                    refine g_X11_9 (pc := 235) (x := (f_t 9)) C q_1007 0 rfl (upn (by decide) rfl) dX11_takes_235 ?_
                    refine k_iconst (pc := 238) C iconst_1 dX11_takes_238 ?_
                    refine k_iadd (pc := 239) C dX11_takes_239 ?_
                    refine p_X11_9 (pc := 240) (ws2 := [(h_t, moE (upd (upd f_t 13 x_39) 9 ((f_t 9) + 1)) h_t_w h_t_saved h_t_trial h_t_text h_t_told), (h_t_text, iA cI 90 f_t_text), (h_t_told, iA cI 48 x_35)]) C q_1007 0 rfl rfl dX11_takes_240 ?_
                    refine k_aload_n (pc := 243) C rfl 0 rfl dX11_takes_243 ?_
                    refine k_iconst (pc := 244) C iconst_0 dX11_takes_244 ?_
                    refine p_X11_10 (pc := 245) (ws2 := [(h_t, moE (upd (upd (upd f_t 13 x_39) 9 ((f_t 9) + 1)) 10 0) h_t_w h_t_saved h_t_trial h_t_text h_t_told), (h_t_text, iA cI 90 f_t_text), (h_t_told, iA cI 48 x_35)]) C q_1008 0 rfl rfl dX11_takes_245 ?_
                    refine k_aload_n (pc := 248) C rfl 0 rfl dX11_takes_248 ?_
                    refine k_iconst (pc := 249) C iconst_0 dX11_takes_249 ?_
                    refine p_X11_11 (pc := 250) (ws2 := [(h_t, moE (upd (upd (upd (upd f_t 13 x_39) 9 ((f_t 9) + 1)) 10 0) 11 0) h_t_w h_t_saved h_t_trial h_t_text h_t_told), (h_t_text, iA cI 90 f_t_text), (h_t_told, iA cI 48 x_35)]) C q_1009 kb0 0 rfl rfl dX11_takes_250 ?_
                    refine k_iconst (pc := 253) C iconst_1 dX11_takes_253 ?_
                    have hs : (s_X11_takes f_t f_t_text f_t_told p0) = (1, (upd (upd (upd (upd f_t 13 x_39) 9 ((f_t 9) + 1)) 10 0) 11 0), x_35) := (k_st (g := s_X11_takes_20 f_t_text p0 f_t) ex_35 ((if_neg c_1).trans ((if_pos c_29).trans ((if_neg c_30).trans ((if_pos c_31).trans (if_neg c_32))))) (k_st (g := s_X11_takes_19 f_t x_35) ex_39 ((if_pos c_36).trans (if_neg c_37)) rfl))
                    exact k_finI (pc := 254) hret rfl (by rw [hs]) (by rw [hs]) dX11_takes_254
                  refine k_if_ne (pc := 219) (tgt := 226) C dX11_takes_219 (by decide) (fun c_38 => ?_) (fun c_38 => ?_)
                  · refine k_aload_n (pc := 226) C rfl 1 rfl dX11_takes_226 ?_
                    refine g_X11_13 (pc := 227) (x := (f_t 13)) C q_1011 0 rfl rfl dX11_takes_227 ?_
                    refine k_lpick (lv2 := [(0, .ref h_t)]) [1] rfl ?_
                    exact K_66 (f_t 13) (Eq.symm (if_neg c_38))
                  · refine k_iload_n (pc := 222) C rfl 2 rfl dX11_takes_222 ?_
                    refine k_goto (pc := 223) (tgt := 230) C (by decide) dX11_takes_223 ?_
                    refine k_lpick (lv2 := [(0, .ref h_t)]) [1] rfl ?_
                    exact K_66 p0 (Eq.symm (if_pos c_38))
                · refine k_iconst (pc := 212) C iconst_0 dX11_takes_212 ?_
                  have hs : (s_X11_takes f_t f_t_text f_t_told p0) = (0, f_t, x_35) := (k_st (g := s_X11_takes_20 f_t_text p0 f_t) ex_35 ((if_neg c_1).trans ((if_pos c_29).trans ((if_neg c_30).trans ((if_pos c_31).trans (if_neg c_32))))) ((if_pos c_36).trans (if_pos c_37)))
                  exact k_finI (pc := 213) hret rfl (by rw [hs]) (by rw [hs]) dX11_takes_213
            refine k_if_le (pc := 185) (tgt := 192) C dX11_takes_185 (by decide) (fun c_33 => ?_) (fun c_33 => ?_)
            · exact K_65 f_t_told (Eq.symm (if_pos c_33))
            · refine k_aload_n (pc := 188) C rfl 1 rfl dX11_takes_188 ?_
              obtain ⟨u_34, eu_34⟩ : ∃ z : (Nat → Int32), z = (s_X11_endNumber f_t f_t_told) := ⟨_, rfl⟩
              refine k_callVv (pc := 189) (As := []) (rest := []) (wc := [(h_t, moE f_t h_t_w h_t_saved h_t_trial h_t_text h_t_told), (h_t_told, iA cI 48 f_t_told)]) (wc2 := [(h_t, moE f_t h_t_w h_t_saved h_t_trial h_t_text h_t_told), (h_t_told, iA cI 48 u_34)]) (ws2 := [(h_t, moE f_t h_t_w h_t_saved h_t_trial h_t_text h_t_told), (h_t_text, iA cI 90 f_t_text), (h_t_told, iA cI 48 u_34)]) C (by rw [eu_34]; exact c_X11_endNumber l D cI cJ cO h_t h_t_w h_t_saved h_t_trial h_t_text h_t_told f_t f_t_told (kIn.rw (F := f_t) (k := 8) rfl hf_t_8 (by decide) (by decide)) (kIn.rw (F := f_t) (k := 9) rfl (kIn.nleLo (n := 0) (kIn.le (n := 0) (kIn.nleLo (n := 0) hf_t_9 c_1 (by decide)) c_31 (by decide)) c_33 (by decide)) (by decide) (by decide)) (kIn.wk (kIn.meet (kIn.add (kIn.mul (n := 4) (by decide) (by decide) hf_t_8 (by decide) (by decide)) (kIn.nleLo (n := 0) (kIn.le (n := 0) (kIn.nleLo (n := 0) hf_t_9 c_1 (by decide)) c_31 (by decide)) c_33 (by decide)) (by decide) (by decide)) he) (by decide) (by decide))) cwv_X11_endNumber q_1298 vX11 0 rfl [0, 2] rfl rfl (by decide) rfl rfl (Nat.le_of_ble_eq_true rfl) ⟨Nat.le_of_ble_eq_true rfl, Nat.le_of_ble_eq_true rfl⟩ rfl ⟨Nat.le_refl _, Nat.le_refl _⟩ dX11_takes_189 ?_
              exact K_65 u_34 (Eq.symm (k_st (g := j_X11_takes_5) eu_34 (if_neg c_33) rfl))
          · refine k_aload_n (pc := 165) C rfl 1 rfl dX11_takes_165 ?_
            obtain ⟨u_40, eu_40⟩ : ∃ z : (Nat → Int32) × (Nat → Int32), z = (s_X11_endSegment f_t f_t_told) := ⟨_, rfl⟩
            refine k_callVv (pc := 166) (As := []) (rest := []) (wc := [(h_t, moE f_t h_t_w h_t_saved h_t_trial h_t_text h_t_told), (h_t_told, iA cI 48 f_t_told)]) (wc2 := [(h_t, moE u_40.1 h_t_w h_t_saved h_t_trial h_t_text h_t_told), (h_t_told, iA cI 48 u_40.2)]) (ws2 := [(h_t, moE u_40.1 h_t_w h_t_saved h_t_trial h_t_text h_t_told), (h_t_text, iA cI 90 f_t_text), (h_t_told, iA cI 48 u_40.2)]) C (by rw [eu_40]; exact c_X11_endSegment l D cI cJ cO h_t h_t_w h_t_saved h_t_trial h_t_text h_t_told f_t f_t_told (kIn.seg11 he hf_t_8 c_32) (kIn.rw (F := f_t) (k := 9) rfl (kIn.eq (n := 4) c_32 (by decide)) (by decide) (by decide))) cwv_X11_endSegment q_1294 vX11 0 rfl [0, 2] rfl rfl (by decide) rfl rfl (Nat.le_of_ble_eq_true rfl) ⟨Nat.le_of_ble_eq_true rfl, Nat.le_of_ble_eq_true rfl⟩ rfl ⟨Nat.le_refl _, Nat.le_refl _⟩ dX11_takes_166 ?_
            refine k_iload_n (pc := 169) C rfl 0 rfl dX11_takes_169 ?_
            refine k_bipush (pc := 170) C bipush_59 dX11_takes_170 ?_
            refine k_icmp_ne (pc := 172) (tgt := 179) C dX11_takes_172 (by decide) (fun c_41 => ?_) (fun c_41 => ?_)
            · refine k_iconst (pc := 179) C iconst_0 dX11_takes_179 ?_
              have hs : (s_X11_takes f_t f_t_text f_t_told p0) = (0, u_40.1, u_40.2) := (k_st (g := s_X11_takes_18 f_t_text p0) eu_40 ((if_neg c_1).trans ((if_pos c_29).trans ((if_neg c_30).trans ((if_pos c_31).trans (if_pos c_32))))) (if_neg c_41))
              exact k_finI (pc := 180) hret rfl (by rw [hs]) (by rw [hs]) dX11_takes_180
            · refine k_iconst (pc := 175) C iconst_1 dX11_takes_175 ?_
              refine k_goto (pc := 176) (tgt := 180) C (by decide) dX11_takes_176 ?_
              have hs : (s_X11_takes f_t f_t_text f_t_told p0) = (1, u_40.1, u_40.2) := (k_st (g := s_X11_takes_18 f_t_text p0) eu_40 ((if_neg c_1).trans ((if_pos c_29).trans ((if_neg c_30).trans ((if_pos c_31).trans (if_pos c_32))))) (if_pos c_41))
              exact k_finI (pc := 180) hret rfl (by rw [hs]) (by rw [hs]) dX11_takes_180
        · refine k_aload_n (pc := 148) C rfl 1 rfl dX11_takes_148 ?_
          refine g_X11_10 (pc := 149) (x := (f_t 10)) C q_1008 0 rfl rfl dX11_takes_149 ?_
          refine k_if_ne (pc := 152) (tgt := 157) C dX11_takes_152 (by decide) (fun c_42 => ?_) (fun c_42 => ?_)
          · refine k_aload_n (pc := 157) C rfl 1 rfl dX11_takes_157 ?_
            refine g_X11_9 (pc := 158) (x := (f_t 9)) C q_1007 0 rfl rfl dX11_takes_158 ?_
            refine k_iconst (pc := 161) C iconst_4 dX11_takes_161 ?_
            refine k_icmp_ne (pc := 162) (tgt := 181) C dX11_takes_162 (by decide) (fun c_43 => ?_) (fun c_43 => ?_)
            · refine k_aload_n (pc := 181) C rfl 1 rfl dX11_takes_181 ?_
              refine g_X11_9 (pc := 182) (x := (f_t 9)) C q_1007 0 rfl rfl dX11_takes_182 ?_
              have K_67 : ∀ (x_46 : (Nat → Int32)), x_46 = (j_X11_takes_8 f_t f_t_told) → KJ p l e (kR 4 89) s m args below meth c 0 0 Q D A 4 [(h_t, moE f_t h_t_w h_t_saved h_t_trial h_t_text h_t_told), (h_t_text, iA cI 90 f_t_text), (h_t_told, iA cI 48 x_46)] [(2, .int (f_t_text (Int32.toNatClampNeg p0))), (0, .ref h_t), (1, .int p0)] [] 192 := by
                intro x_46 ex_46
                refine k_iload_n (pc := 192) C rfl 0 rfl dX11_takes_192 ?_
                refine k_aload_n (pc := 193) C rfl 1 rfl dX11_takes_193 ?_
                refine g_X11_9 (pc := 194) (x := (f_t 9)) C q_1007 0 rfl rfl dX11_takes_194 ?_
                refine k_callSi (pc := 197) (As := [.int (f_t 9)]) (rest := [.int (f_t_text (Int32.toNatClampNeg p0))]) (r := (s_X11_letterOf (f_t 9))) (wc := []) (wc2 := []) (ws2 := [(h_t, moE f_t h_t_w h_t_saved h_t_trial h_t_text h_t_told), (h_t_text, iA cI 90 f_t_text), (h_t_told, iA cI 48 x_46)]) C (c_X11_letterOf l D cI cJ cO (f_t 9)) cws_X11_letterOf q_1302 [] rfl rfl (by decide) rfl rfl (Nat.le_of_ble_eq_true rfl) ⟨Nat.le_of_ble_eq_true rfl, Nat.le_of_ble_eq_true rfl⟩ rfl ⟨Nat.le_refl _, Nat.le_refl _⟩ dX11_takes_197 ?_
                refine k_icmp_ne (pc := 200) (tgt := 212) C dX11_takes_200 (by decide) (fun c_47 => ?_) (fun c_47 => ?_)
                · refine k_iconst (pc := 212) C iconst_0 dX11_takes_212 ?_
                  have hs : (s_X11_takes f_t f_t_text f_t_told p0) = (0, f_t, x_46) := (k_st (g := s_X11_takes_23 f_t_text p0 f_t) ex_46 ((if_neg c_1).trans ((if_pos c_29).trans ((if_neg c_30).trans ((if_neg c_31).trans ((if_neg c_42).trans (if_neg c_43)))))) (if_neg c_47))
                  exact k_finI (pc := 213) hret rfl (by rw [hs]) (by rw [hs]) dX11_takes_213
                · refine k_aload_n (pc := 203) C rfl 1 rfl dX11_takes_203 ?_
                  refine g_X11_8 (pc := 204) (x := (f_t 8)) C q_1006 0 rfl rfl dX11_takes_204 ?_
                  refine k_bipush (pc := 207) C bipush_12 dX11_takes_207 ?_
                  refine k_icmp_ne (pc := 209) (tgt := 214) C dX11_takes_209 (by decide) (fun c_48 => ?_) (fun c_48 => ?_)
                  · refine k_aload_n (pc := 214) C rfl 1 rfl dX11_takes_214 ?_
                    refine k_aload_n (pc := 215) C rfl 1 rfl dX11_takes_215 ?_
                    refine g_X11_9 (pc := 216) (x := (f_t 9)) C q_1007 0 rfl rfl dX11_takes_216 ?_
                    have K_68 : ∀ (x_50 : Int32), x_50 = (if (f_t 9) = 0 then p0 else (f_t 13)) → KJ p l e (kR 4 89) s m args below meth c 0 0 Q D A 4 [(h_t, moE f_t h_t_w h_t_saved h_t_trial h_t_text h_t_told), (h_t_text, iA cI 90 f_t_text), (h_t_told, iA cI 48 x_46)] [(0, .ref h_t)] [.int x_50, .ref h_t] 230 := by
                      intro x_50 ex_50
                      refine p_X11_13 (pc := 230) (ws2 := [(h_t, moE (upd f_t 13 x_50) h_t_w h_t_saved h_t_trial h_t_text h_t_told), (h_t_text, iA cI 90 f_t_text), (h_t_told, iA cI 48 x_46)]) C q_1011 0 rfl rfl dX11_takes_230 ?_
                      refine k_aload_n (pc := 233) C rfl 0 rfl dX11_takes_233 ?_
                      refine k_dup (pc := 234) C rfl dX11_takes_234 ?_
                      refine g_X11_9 (pc := 235) (x := (f_t 9)) C q_1007 0 rfl (upn (by decide) rfl) dX11_takes_235 ?_
                      refine k_iconst (pc := 238) C iconst_1 dX11_takes_238 ?_
                      refine k_iadd (pc := 239) C dX11_takes_239 ?_
                      refine p_X11_9 (pc := 240) (ws2 := [(h_t, moE (upd (upd f_t 13 x_50) 9 ((f_t 9) + 1)) h_t_w h_t_saved h_t_trial h_t_text h_t_told), (h_t_text, iA cI 90 f_t_text), (h_t_told, iA cI 48 x_46)]) C q_1007 0 rfl rfl dX11_takes_240 ?_
                      refine k_aload_n (pc := 243) C rfl 0 rfl dX11_takes_243 ?_
                      refine k_iconst (pc := 244) C iconst_0 dX11_takes_244 ?_
                      refine p_X11_10 (pc := 245) (ws2 := [(h_t, moE (upd (upd (upd f_t 13 x_50) 9 ((f_t 9) + 1)) 10 0) h_t_w h_t_saved h_t_trial h_t_text h_t_told), (h_t_text, iA cI 90 f_t_text), (h_t_told, iA cI 48 x_46)]) C q_1008 0 rfl rfl dX11_takes_245 ?_
                      refine k_aload_n (pc := 248) C rfl 0 rfl dX11_takes_248 ?_
                      refine k_iconst (pc := 249) C iconst_0 dX11_takes_249 ?_
                      refine p_X11_11 (pc := 250) (ws2 := [(h_t, moE (upd (upd (upd (upd f_t 13 x_50) 9 ((f_t 9) + 1)) 10 0) 11 0) h_t_w h_t_saved h_t_trial h_t_text h_t_told), (h_t_text, iA cI 90 f_t_text), (h_t_told, iA cI 48 x_46)]) C q_1009 kb0 0 rfl rfl dX11_takes_250 ?_
                      refine k_iconst (pc := 253) C iconst_1 dX11_takes_253 ?_
                      have hs : (s_X11_takes f_t f_t_text f_t_told p0) = (1, (upd (upd (upd (upd f_t 13 x_50) 9 ((f_t 9) + 1)) 10 0) 11 0), x_46) := (k_st (g := s_X11_takes_23 f_t_text p0 f_t) ex_46 ((if_neg c_1).trans ((if_pos c_29).trans ((if_neg c_30).trans ((if_neg c_31).trans ((if_neg c_42).trans (if_neg c_43)))))) (k_st (g := s_X11_takes_22 f_t x_46) ex_50 ((if_pos c_47).trans (if_neg c_48)) rfl))
                      exact k_finI (pc := 254) hret rfl (by rw [hs]) (by rw [hs]) dX11_takes_254
                    refine k_if_ne (pc := 219) (tgt := 226) C dX11_takes_219 (by decide) (fun c_49 => ?_) (fun c_49 => ?_)
                    · refine k_aload_n (pc := 226) C rfl 1 rfl dX11_takes_226 ?_
                      refine g_X11_13 (pc := 227) (x := (f_t 13)) C q_1011 0 rfl rfl dX11_takes_227 ?_
                      refine k_lpick (lv2 := [(0, .ref h_t)]) [1] rfl ?_
                      exact K_68 (f_t 13) (Eq.symm (if_neg c_49))
                    · refine k_iload_n (pc := 222) C rfl 2 rfl dX11_takes_222 ?_
                      refine k_goto (pc := 223) (tgt := 230) C (by decide) dX11_takes_223 ?_
                      refine k_lpick (lv2 := [(0, .ref h_t)]) [1] rfl ?_
                      exact K_68 p0 (Eq.symm (if_pos c_49))
                  · refine k_iconst (pc := 212) C iconst_0 dX11_takes_212 ?_
                    have hs : (s_X11_takes f_t f_t_text f_t_told p0) = (0, f_t, x_46) := (k_st (g := s_X11_takes_23 f_t_text p0 f_t) ex_46 ((if_neg c_1).trans ((if_pos c_29).trans ((if_neg c_30).trans ((if_neg c_31).trans ((if_neg c_42).trans (if_neg c_43)))))) ((if_pos c_47).trans (if_pos c_48)))
                    exact k_finI (pc := 213) hret rfl (by rw [hs]) (by rw [hs]) dX11_takes_213
              refine k_if_le (pc := 185) (tgt := 192) C dX11_takes_185 (by decide) (fun c_44 => ?_) (fun c_44 => ?_)
              · exact K_67 f_t_told (Eq.symm (if_pos c_44))
              · refine k_aload_n (pc := 188) C rfl 1 rfl dX11_takes_188 ?_
                obtain ⟨u_45, eu_45⟩ : ∃ z : (Nat → Int32), z = (s_X11_endNumber f_t f_t_told) := ⟨_, rfl⟩
                refine k_callVv (pc := 189) (As := []) (rest := []) (wc := [(h_t, moE f_t h_t_w h_t_saved h_t_trial h_t_text h_t_told), (h_t_told, iA cI 48 f_t_told)]) (wc2 := [(h_t, moE f_t h_t_w h_t_saved h_t_trial h_t_text h_t_told), (h_t_told, iA cI 48 u_45)]) (ws2 := [(h_t, moE f_t h_t_w h_t_saved h_t_trial h_t_text h_t_told), (h_t_text, iA cI 90 f_t_text), (h_t_told, iA cI 48 u_45)]) C (by rw [eu_45]; exact c_X11_endNumber l D cI cJ cO h_t h_t_w h_t_saved h_t_trial h_t_text h_t_told f_t f_t_told (kIn.rw (F := f_t) (k := 8) rfl hf_t_8 (by decide) (by decide)) (kIn.rw (F := f_t) (k := 9) rfl (kIn.nleLo (n := 0) (kIn.neHi (kIn.nleLo (n := 0) (kIn.nleLo (n := 0) hf_t_9 c_1 (by decide)) c_31 (by decide)) c_43 (by decide)) c_44 (by decide)) (by decide) (by decide)) (kIn.wk (kIn.meet (kIn.add (kIn.mul (n := 4) (by decide) (by decide) hf_t_8 (by decide) (by decide)) (kIn.nleLo (n := 0) (kIn.neHi (kIn.nleLo (n := 0) (kIn.nleLo (n := 0) hf_t_9 c_1 (by decide)) c_31 (by decide)) c_43 (by decide)) c_44 (by decide)) (by decide) (by decide)) he) (by decide) (by decide))) cwv_X11_endNumber q_1298 vX11 0 rfl [0, 2] rfl rfl (by decide) rfl rfl (Nat.le_of_ble_eq_true rfl) ⟨Nat.le_of_ble_eq_true rfl, Nat.le_of_ble_eq_true rfl⟩ rfl ⟨Nat.le_refl _, Nat.le_refl _⟩ dX11_takes_189 ?_
                exact K_67 u_45 (Eq.symm (k_st (g := j_X11_takes_7) eu_45 (if_neg c_44) rfl))
            · refine k_aload_n (pc := 165) C rfl 1 rfl dX11_takes_165 ?_
              obtain ⟨u_51, eu_51⟩ : ∃ z : (Nat → Int32) × (Nat → Int32), z = (s_X11_endSegment f_t f_t_told) := ⟨_, rfl⟩
              refine k_callVv (pc := 166) (As := []) (rest := []) (wc := [(h_t, moE f_t h_t_w h_t_saved h_t_trial h_t_text h_t_told), (h_t_told, iA cI 48 f_t_told)]) (wc2 := [(h_t, moE u_51.1 h_t_w h_t_saved h_t_trial h_t_text h_t_told), (h_t_told, iA cI 48 u_51.2)]) (ws2 := [(h_t, moE u_51.1 h_t_w h_t_saved h_t_trial h_t_text h_t_told), (h_t_text, iA cI 90 f_t_text), (h_t_told, iA cI 48 u_51.2)]) C (by rw [eu_51]; exact c_X11_endSegment l D cI cJ cO h_t h_t_w h_t_saved h_t_trial h_t_text h_t_told f_t f_t_told (kIn.seg11 he hf_t_8 c_43) (kIn.rw (F := f_t) (k := 9) rfl (kIn.eq (n := 4) c_43 (by decide)) (by decide) (by decide))) cwv_X11_endSegment q_1294 vX11 0 rfl [0, 2] rfl rfl (by decide) rfl rfl (Nat.le_of_ble_eq_true rfl) ⟨Nat.le_of_ble_eq_true rfl, Nat.le_of_ble_eq_true rfl⟩ rfl ⟨Nat.le_refl _, Nat.le_refl _⟩ dX11_takes_166 ?_
              refine k_iload_n (pc := 169) C rfl 0 rfl dX11_takes_169 ?_
              refine k_bipush (pc := 170) C bipush_59 dX11_takes_170 ?_
              refine k_icmp_ne (pc := 172) (tgt := 179) C dX11_takes_172 (by decide) (fun c_52 => ?_) (fun c_52 => ?_)
              · refine k_iconst (pc := 179) C iconst_0 dX11_takes_179 ?_
                have hs : (s_X11_takes f_t f_t_text f_t_told p0) = (0, u_51.1, u_51.2) := (k_st (g := s_X11_takes_21 f_t_text p0) eu_51 ((if_neg c_1).trans ((if_pos c_29).trans ((if_neg c_30).trans ((if_neg c_31).trans ((if_neg c_42).trans (if_pos c_43)))))) (if_neg c_52))
                exact k_finI (pc := 180) hret rfl (by rw [hs]) (by rw [hs]) dX11_takes_180
              · refine k_iconst (pc := 175) C iconst_1 dX11_takes_175 ?_
                refine k_goto (pc := 176) (tgt := 180) C (by decide) dX11_takes_176 ?_
                have hs : (s_X11_takes f_t f_t_text f_t_told p0) = (1, u_51.1, u_51.2) := (k_st (g := s_X11_takes_21 f_t_text p0) eu_51 ((if_neg c_1).trans ((if_pos c_29).trans ((if_neg c_30).trans ((if_neg c_31).trans ((if_neg c_42).trans (if_pos c_43)))))) (if_pos c_52))
                exact k_finI (pc := 180) hret rfl (by rw [hs]) (by rw [hs]) dX11_takes_180
          · refine k_iconst (pc := 155) C iconst_0 dX11_takes_155 ?_
            have hs : (s_X11_takes f_t f_t_text f_t_told p0) = (0, f_t, f_t_told) := ((if_neg c_1).trans ((if_pos c_29).trans ((if_neg c_30).trans ((if_neg c_31).trans (if_pos c_42)))))
            exact k_finI (pc := 156) hret rfl (by rw [hs]) (by rw [hs]) dX11_takes_156
      · refine k_aload_n (pc := 106) C rfl 1 rfl dX11_takes_106 ?_
        refine g_X11_9 (pc := 107) (x := (f_t 9)) C q_1007 0 rfl rfl dX11_takes_107 ?_
        refine k_iconst (pc := 110) C iconst_1 dX11_takes_110 ?_
        have K_69 : ∀ (x_56 : Int32), x_56 = (if (f_t 9) = 1 then (if (f_t 10) = 0 then (if (f_t 11) = 0 then 1 else 0) else 0) else 0) → KJ p l e (kR 4 89) s m args below meth c 0 0 Q D A 4 [(h_t, moE f_t h_t_w h_t_saved h_t_trial h_t_text h_t_told), (h_t_text, iA cI 90 f_t_text), (h_t_told, iA cI 48 f_t_told)] [(0, .ref h_t)] [.int x_56] 133 := by
          intro x_56 ex_56
          refine k_istore_n (pc := 133) (lv2 := [(3, .int x_56), (0, .ref h_t)]) C rfl (by decide) rfl dX11_takes_133 ?_
          refine k_aload_n (pc := 134) C rfl 1 rfl dX11_takes_134 ?_
          refine k_iconst (pc := 135) C iconst_1 dX11_takes_135 ?_
          refine p_X11_11 (pc := 136) (ws2 := [(h_t, moE (upd f_t 11 1) h_t_w h_t_saved h_t_trial h_t_text h_t_told), (h_t_text, iA cI 90 f_t_text), (h_t_told, iA cI 48 f_t_told)]) C q_1009 kb1 0 rfl rfl dX11_takes_136 ?_
          refine k_iload_n (pc := 139) C rfl 0 rfl dX11_takes_139 ?_
          have hs : (s_X11_takes f_t f_t_text f_t_told p0) = (x_56, (upd f_t 11 1), f_t_told) := (k_st (g := s_X11_takes_17 f_t f_t_told) ex_56 ((if_neg c_1).trans ((if_pos c_29).trans (if_pos c_30))) rfl)
          exact k_finI (pc := 140) hret (kb_n (by rw [ex_56]; repeat' first | with_reducible exact kb0 | with_reducible exact kb1 | with_reducible refine k_bif ?_ ?_ | with_reducible refine k_bif0 ?_ ?_)) (by rw [hs]) (by rw [hs]) dX11_takes_140
        refine k_icmp_ne (pc := 111) (tgt := 132) C dX11_takes_111 (by decide) (fun c_53 => ?_) (fun c_53 => ?_)
        · refine k_iconst (pc := 132) C iconst_0 dX11_takes_132 ?_
          refine k_lpick (lv2 := [(0, .ref h_t)]) [1] rfl ?_
          exact K_69 0 (Eq.symm (if_neg c_53))
        · refine k_aload_n (pc := 114) C rfl 1 rfl dX11_takes_114 ?_
          refine g_X11_10 (pc := 115) (x := (f_t 10)) C q_1008 0 rfl rfl dX11_takes_115 ?_
          refine k_if_ne (pc := 118) (tgt := 132) C dX11_takes_118 (by decide) (fun c_54 => ?_) (fun c_54 => ?_)
          · refine k_iconst (pc := 132) C iconst_0 dX11_takes_132 ?_
            refine k_lpick (lv2 := [(0, .ref h_t)]) [1] rfl ?_
            exact K_69 0 (Eq.symm ((if_pos c_53).trans (if_neg c_54)))
          · refine k_aload_n (pc := 121) C rfl 1 rfl dX11_takes_121 ?_
            refine g_X11_11 (pc := 122) (x := (f_t 11)) C q_1009 0 rfl rfl dX11_takes_122 ?_
            refine k_if_ne (pc := 125) (tgt := 132) C dX11_takes_125 (by decide) (fun c_55 => ?_) (fun c_55 => ?_)
            · refine k_iconst (pc := 132) C iconst_0 dX11_takes_132 ?_
              refine k_lpick (lv2 := [(0, .ref h_t)]) [1] rfl ?_
              exact K_69 0 (Eq.symm ((if_pos c_53).trans ((if_pos c_54).trans (if_neg c_55))))
            · refine k_iconst (pc := 128) C iconst_1 dX11_takes_128 ?_
              refine k_goto (pc := 129) (tgt := 133) C (by decide) dX11_takes_129 ?_
              refine k_lpick (lv2 := [(0, .ref h_t)]) [1] rfl ?_
              exact K_69 1 (Eq.symm ((if_pos c_53).trans ((if_pos c_54).trans (if_pos c_55))))
    · refine k_iconst (pc := 28) C iconst_4 dX11_takes_28 ?_
      refine k_aload_n (pc := 29) C rfl 1 rfl dX11_takes_29 ?_
      refine g_X11_8 (pc := 30) (x := (f_t 8)) C q_1006 0 rfl rfl dX11_takes_30 ?_
      refine k_imul (pc := 33) C dX11_takes_33 ?_
      refine k_aload_n (pc := 34) C rfl 1 rfl dX11_takes_34 ?_
      refine g_X11_9 (pc := 35) (x := (f_t 9)) C q_1007 0 rfl rfl dX11_takes_35 ?_
      refine k_iadd (pc := 38) C dX11_takes_38 ?_
      refine k_iconst (pc := 39) C iconst_1 dX11_takes_39 ?_
      refine k_isub (pc := 40) C dX11_takes_40 ?_
      refine k_istore_n (pc := 41) (lv2 := [(3, .int (((4 * (f_t 8)) + (f_t 9)) - 1)), (2, .int (f_t_text (Int32.toNatClampNeg p0))), (0, .ref h_t), (1, .int p0)]) C rfl (by decide) rfl dX11_takes_41 ?_
      refine k_aload_n (pc := 42) C rfl 2 rfl dX11_takes_42 ?_
      refine g_X11_4 (pc := 43) C q_1002 0 rfl dX11_takes_43 ?_
      refine k_iload_n (pc := 46) C rfl 0 rfl dX11_takes_46 ?_
      refine k_aload_n (pc := 47) C rfl 2 rfl dX11_takes_47 ?_
      refine g_X11_10 (pc := 48) (x := (f_t 10)) C q_1008 0 rfl rfl dX11_takes_48 ?_
      have K_70 : ∀ (x_58 : Int32), x_58 = (j_X11_takes_9 f_t f_t_text p0 f_t_told) → KJ p l e (kR 4 89) s m args below meth c 0 0 Q D A 4 [(h_t, moE f_t h_t_w h_t_saved h_t_trial h_t_text h_t_told), (h_t_text, iA cI 90 f_t_text), (h_t_told, iA cI 48 f_t_told)] [(0, .ref h_t)] [.int x_58, .int (((4 * (f_t 8)) + (f_t 9)) - 1), .ref h_t_told] 75 := by
        intro x_58 ex_58
        refine k_iastK (pc := 75) (ws2 := [(h_t, moE f_t h_t_w h_t_saved h_t_trial h_t_text h_t_told), (h_t_text, iA cI 90 f_t_text), (h_t_told, iA cI 48 (upd f_t_told (Int32.toNatClampNeg (((4 * (f_t 8)) + (f_t 9)) - 1)) x_58))]) C 2 0 rfl rfl (kIn.vp (kIn.sub (kIn.meet (kIn.add (kIn.mul (n := 4) (by decide) (by decide) hf_t_8 (by decide) (by decide)) (kIn.nleLo (n := 0) hf_t_9 c_1 (by decide)) (by decide) (by decide)) he) (kIn.lit (x := 1) (n := 1) (by decide)) (by decide) (by decide)) (by decide) (by decide)) rfl rfl dX11_takes_75 ?_
        refine k_aload_n (pc := 76) C rfl 0 rfl dX11_takes_76 ?_
        refine k_dup (pc := 77) C rfl dX11_takes_77 ?_
        refine g_X11_10 (pc := 78) (x := (f_t 10)) C q_1008 0 rfl rfl dX11_takes_78 ?_
        refine k_iconst (pc := 81) C iconst_1 dX11_takes_81 ?_
        refine k_iadd (pc := 82) C dX11_takes_82 ?_
        refine p_X11_10 (pc := 83) (ws2 := [(h_t, moE (upd f_t 10 ((f_t 10) + 1)) h_t_w h_t_saved h_t_trial h_t_text h_t_told), (h_t_text, iA cI 90 f_t_text), (h_t_told, iA cI 48 (upd f_t_told (Int32.toNatClampNeg (((4 * (f_t 8)) + (f_t 9)) - 1)) x_58))]) C q_1008 0 rfl rfl dX11_takes_83 ?_
        refine k_aload_n (pc := 86) C rfl 0 rfl dX11_takes_86 ?_
        refine g_X11_10 (pc := 87) (x := ((f_t 10) + 1)) C q_1008 0 rfl ups dX11_takes_87 ?_
        refine k_iconst (pc := 90) C iconst_5 dX11_takes_90 ?_
        refine k_icmp_ge (pc := 91) (tgt := 98) C dX11_takes_91 (by decide) (fun c_59 => ?_) (fun c_59 => ?_)
        · refine k_iconst (pc := 98) C iconst_0 dX11_takes_98 ?_
          have hs : (s_X11_takes f_t f_t_text f_t_told p0) = (0, (upd f_t 10 ((f_t 10) + 1)), (upd f_t_told (Int32.toNatClampNeg (((4 * (f_t 8)) + (f_t 9)) - 1)) x_58)) := (k_st (g := s_X11_takes_24 f_t f_t_told) ex_58 ((if_neg c_1).trans (if_neg c_29)) (if_pos c_59))
          exact k_finI (pc := 99) hret rfl (by rw [hs]) (by rw [hs]) dX11_takes_99
        · refine k_iconst (pc := 94) C iconst_1 dX11_takes_94 ?_
          refine k_goto (pc := 95) (tgt := 99) C (by decide) dX11_takes_95 ?_
          have hs : (s_X11_takes f_t f_t_text f_t_told p0) = (1, (upd f_t 10 ((f_t 10) + 1)), (upd f_t_told (Int32.toNatClampNeg (((4 * (f_t 8)) + (f_t 9)) - 1)) x_58)) := (k_st (g := s_X11_takes_24 f_t f_t_told) ex_58 ((if_neg c_1).trans (if_neg c_29)) (if_neg c_59))
          exact k_finI (pc := 99) hret rfl (by rw [hs]) (by rw [hs]) dX11_takes_99
      refine k_if_ne (pc := 51) (tgt := 61) C dX11_takes_51 (by decide) (fun c_57 => ?_) (fun c_57 => ?_)
      · refine k_bipush (pc := 61) C bipush_10 dX11_takes_61 ?_
        refine k_aload_n (pc := 63) C rfl 2 rfl dX11_takes_63 ?_
        refine g_X11_4 (pc := 64) C q_1002 0 rfl dX11_takes_64 ?_
        refine k_iload_n (pc := 67) C rfl 0 rfl dX11_takes_67 ?_
        refine k_ialdK (pc := 68) (v := (f_t_told (Int32.toNatClampNeg (((4 * (f_t 8)) + (f_t 9)) - 1)))) C 2 0 rfl rfl (kIn.vp (kIn.sub (kIn.meet (kIn.add (kIn.mul (n := 4) (by decide) (by decide) hf_t_8 (by decide) (by decide)) (kIn.nleLo (n := 0) hf_t_9 c_1 (by decide)) (by decide) (by decide)) he) (kIn.lit (x := 1) (n := 1) (by decide)) (by decide) (by decide)) (by decide) (by decide)) rfl rfl dX11_takes_68 ?_
        refine k_imul (pc := 69) C dX11_takes_69 ?_
        refine k_iload_n (pc := 70) C rfl 1 rfl dX11_takes_70 ?_
        refine k_iadd (pc := 71) C dX11_takes_71 ?_
        refine k_bipush (pc := 72) C bipush_48 dX11_takes_72 ?_
        refine k_isub (pc := 74) C dX11_takes_74 ?_
        refine k_lpick (lv2 := [(0, .ref h_t)]) [2] rfl ?_
        exact K_70 (((10 * (f_t_told (Int32.toNatClampNeg (((4 * (f_t 8)) + (f_t 9)) - 1)))) + (f_t_text (Int32.toNatClampNeg p0))) - 48) (Eq.symm (if_neg c_57))
      · refine k_iload_n (pc := 54) C rfl 1 rfl dX11_takes_54 ?_
        refine k_bipush (pc := 55) C bipush_48 dX11_takes_55 ?_
        refine k_isub (pc := 57) C dX11_takes_57 ?_
        refine k_goto (pc := 58) (tgt := 75) C (by decide) dX11_takes_58 ?_
        refine k_lpick (lv2 := [(0, .ref h_t)]) [2] rfl ?_
        exact K_70 ((f_t_text (Int32.toNatClampNeg p0)) - 48) (Eq.symm (if_pos c_57))
theorem b_X11_takes (f_t : Nat → Int32) (f_t_text : Nat → Int32) (f_t_told : Nat → Int32) (p0 : Int32) : kb (s_X11_takes f_t f_t_text f_t_told p0).1 := by
  unfold s_X11_takes
  repeat' first | with_reducible exact kb0 | with_reducible exact kb1 | with_reducible exact b_X11_in .. | with_reducible refine k_bif ?_ ?_ | with_reducible refine k_bif0 ?_ ?_ | unfold j_X11_takes_1 | unfold j_X11_takes_2 | unfold j_X11_takes_3 | unfold j_X11_takes_4 | unfold j_X11_takes_5 | unfold j_X11_takes_6 | unfold j_X11_takes_7 | unfold j_X11_takes_8 | unfold j_X11_takes_9 | unfold s_X11_takes_10 | unfold s_X11_takes_11 | unfold s_X11_takes_12 | unfold s_X11_takes_13 | unfold s_X11_takes_14 | unfold s_X11_takes_15 | unfold s_X11_takes_16 | unfold s_X11_takes_17 | unfold s_X11_takes_18 | unfold s_X11_takes_19 | unfold s_X11_takes_20 | unfold s_X11_takes_21 | unfold s_X11_takes_22 | unfold s_X11_takes_23 | unfold s_X11_takes_24

theorem kLoop_all {σ τ : Type} {d : τ} {b : σ → σ ⊕ τ} (P : σ → Prop) (R : τ → Prop) (hd : R d) (hin : ∀ x y, P x → b x = .inl y → P y) (hout : ∀ x r, P x → b x = .inr r → R r) : ∀ (n : Nat) (x : σ), P x → R (kLoop d b n x) := by
  intro n
  induction n with
  | zero => intro x _; exact hd
  | succ n ih =>
    intro x hP
    cases hb : b x with
    | inl y => rw [kLoop_in hb]; exact ih y (hin x y hP hb)
    | inr r => rw [kLoop_out hb]; exact hout x r hP hb
theorem kTI.of {f g : Nat → Int32} (h : kTI f) (h6 : g 6 = f 6) (h8 : g 8 = f 8) (h9 : g 9 = f 9) : kTI g := by
  unfold kTI
  rw [h6, h8, h9]
  exact h
theorem tk_init {f : Nat → Int32} (h : kIn (f 6) 0 90) (v : Int32) : kTI (upd (upd (upd f 8 0) 9 0) 12 v) := by
  have e6 : (upd (upd (upd f 8 0) 9 0) 12 v) 6 = f 6 := upn (by decide) (upn (by decide) (upn (by decide) rfl))
  have e8 : (upd (upd (upd f 8 0) 9 0) 12 v) 8 = 0 := upn (by decide) (upn (by decide) ups)
  have e9 : (upd (upd (upd f 8 0) 9 0) 12 v) 9 = 0 := upn (by decide) ups
  unfold kTI
  rw [e6, e8, e9]
  exact ⟨h, ⟨by decide, by decide⟩, ⟨by decide, by decide⟩, ⟨by decide, by decide⟩⟩
theorem tk_next {f : Nat → Int32} (h : kTI f) (h4 : ¬ f 9 = 4) (h12 : ¬ f 8 = 12) (x : Int32) : kTI (upd (upd (upd (upd f 13 x) 9 ((f 9) + 1)) 10 0) 11 0) := by
  obtain ⟨q6, q8, q9, -⟩ := h
  have e6 : (upd (upd (upd (upd f 13 x) 9 ((f 9) + 1)) 10 0) 11 0) 6 = f 6 := upn (by decide) (upn (by decide) (upn (by decide) (upn (by decide) rfl)))
  have e8 : (upd (upd (upd (upd f 13 x) 9 ((f 9) + 1)) 10 0) 11 0) 8 = f 8 := upn (by decide) (upn (by decide) (upn (by decide) (upn (by decide) rfl)))
  have e9 : (upd (upd (upd (upd f 13 x) 9 ((f 9) + 1)) 10 0) 11 0) 9 = (f 9) + 1 := upn (by decide) (upn (by decide) ups)
  have r8 : kIn (f 8) 0 11 := kIn.neHi q8 h12 (by decide)
  have r9 : kIn ((f 9) + 1) 1 4 := (kIn.add (kIn.neHi q9 h4 (by decide)) (kIn.lit (x := 1) (n := 1) (by decide)) (by decide) (by decide)).wk (by decide) (by decide)
  unfold kTI
  rw [e6, e8, e9]
  exact ⟨q6, q8, r9.wk (by decide) (by decide), (kIn.add (kIn.mul (x := 4) (n := 4) (by decide) (by decide) r8 (by decide) (by decide)) r9 (by decide) (by decide)).wk (by decide) (by decide)⟩
theorem tk_end {f : Nat → Int32} (h : kTI f) (h4 : f 9 = 4) (told : Nat → Int32) : kTI (s_X11_endSegment f told).1 := by
  obtain ⟨q6, q8, q9, qe⟩ := h
  have r8 : kIn (f 8) 0 11 := kIn.seg11 qe q8 h4
  unfold s_X11_endSegment s_X11_endSegment_4 s_X11_endSegment_3
  have key : ∀ k : Nat, k ≠ 12 → j_X11_endSegment_2 f (s_X11_endNumber f told) k = f k := by
    intro k hk
    unfold j_X11_endSegment_2 j_X11_endSegment_1
    split
    · split
      · exact upn hk rfl
      · rfl
    · rfl
  generalize j_X11_endSegment_2 f (s_X11_endNumber f told) = x at key
  have e6 : (upd (upd x 8 ((x 8) + 1)) 9 0) 6 = f 6 := upn (by decide) (upn (by decide) (key 6 (by decide)))
  have e8 : (upd (upd x 8 ((x 8) + 1)) 9 0) 8 = f 8 + 1 := upn (by decide) (by rw [key 8 (by decide)]; exact ups)
  have e9 : (upd (upd x 8 ((x 8) + 1)) 9 0) 9 = 0 := ups
  have s8 : kIn ((f 8) + 1) 1 12 := (kIn.add r8 (kIn.lit (x := 1) (n := 1) (by decide)) (by decide) (by decide)).wk (by decide) (by decide)
  unfold kTI
  dsimp only
  rw [e6, e8, e9]
  exact ⟨q6, s8.wk (by decide) (by decide), ⟨by decide, by decide⟩, (kIn.add (kIn.mul (x := 4) (n := 4) (by decide) (by decide) s8 (by decide) (by decide)) (kIn.lit (x := 0) (n := 0) (by decide)) (by decide) (by decide)).wk (by decide) (by decide)⟩
/-- 'takes', put short -/
def tkA (f text told : Nat → Int32) (p0 : Int32) : Int32 × (Nat → Int32) × (Nat → Int32) :=
  if text (Int32.toNatClampNeg p0) = 45 then s_X11_takes_10 f told (if f 9 = 1 then (if f 10 = 0 then (if f 11 = 0 then 1 else 0) else 0) else 0)
  else if f 9 ≤ 0 then s_X11_takes_13 text p0 f told
  else if f 10 = 0 then (0, f, told)
  else if f 9 = 4 then s_X11_takes_11 text p0 (s_X11_endSegment f told)
  else s_X11_takes_13 text p0 f (s_X11_endNumber f told)
def tkT (f text told : Nat → Int32) (p0 : Int32) : Int32 × (Nat → Int32) × (Nat → Int32) :=
  if f 9 ≤ 0 then tkA f text told p0
  else if s_X11_in (Int32.toInt64 (text (Int32.toNatClampNeg p0))) 48 57 = 0 then tkA f text told p0
  else s_X11_takes_24 f told (j_X11_takes_9 f text p0 told)
theorem tk_eq (f text told : Nat → Int32) (p0 : Int32) : s_X11_takes f text told p0 = tkT f text told p0 := by
  unfold s_X11_takes tkT tkA
  by_cases h9 : f 9 ≤ 0
  · have h4 : ¬ f 9 = 4 := fun z => by rw [z] at h9; exact absurd h9 (by decide)
    have e2 : j_X11_takes_2 f told = told := by unfold j_X11_takes_2; rw [if_pos h9]
    simp only [if_pos h9, if_neg h4, e2]
  · have e6 : j_X11_takes_6 f told = s_X11_endNumber f told := by unfold j_X11_takes_6 j_X11_takes_5; rw [if_neg h9]
    have e8 : j_X11_takes_8 f told = s_X11_endNumber f told := by unfold j_X11_takes_8 j_X11_takes_7; rw [if_neg h9]
    simp only [if_neg h9, e6, e8]
    rfl
theorem tkA_2 (f text told : Nat → Int32) (p0 : Int32) (P : (Nat → Int32) → Prop) (h0 : P f) (h1 : ∀ v, P (upd f 11 v)) (h2 : ¬ f 9 = 4 → ¬ f 8 = 12 → ∀ x, P (upd (upd (upd (upd f 13 x) 9 ((f 9) + 1)) 10 0) 11 0)) (h3 : f 9 = 4 → P (s_X11_endSegment f told).1) : P (tkA f text told p0).2.1 := by
  have key : ∀ t : Nat → Int32, ¬ f 9 = 4 → P (s_X11_takes_13 text p0 f t).2.1 := by
    intro t h4
    unfold s_X11_takes_13 s_X11_takes_12
    by_cases a : text (Int32.toNatClampNeg p0) = s_X11_letterOf (f 9)
    · rw [if_pos a]
      by_cases b : f 8 = 12
      · rw [if_pos b]; exact h0
      · rw [if_neg b]; exact h2 h4 b _
    · rw [if_neg a]; exact h0
  unfold tkA
  by_cases a : text (Int32.toNatClampNeg p0) = 45
  · rw [if_pos a]; exact h1 _
  · rw [if_neg a]
    by_cases h9 : f 9 ≤ 0
    · rw [if_pos h9]
      exact key _ (fun z => by rw [z] at h9; exact absurd h9 (by decide))
    · rw [if_neg h9]
      by_cases b : f 10 = 0
      · rw [if_pos b]; exact h0
      · rw [if_neg b]
        by_cases h4 : f 9 = 4
        · rw [if_pos h4]
          unfold s_X11_takes_11
          by_cases d : text (Int32.toNatClampNeg p0) = 59
          · rw [if_pos d]; exact h3 h4
          · rw [if_neg d]; exact h3 h4
        · rw [if_neg h4]; exact key _ h4
theorem tk_2 (f text told : Nat → Int32) (p0 : Int32) (P : (Nat → Int32) → Prop) (h0 : P f) (h1 : ∀ v, P (upd f 11 v)) (h10 : ∀ v, P (upd f 10 v)) (h2 : ¬ f 9 = 4 → ¬ f 8 = 12 → ∀ x, P (upd (upd (upd (upd f 13 x) 9 ((f 9) + 1)) 10 0) 11 0)) (h3 : f 9 = 4 → P (s_X11_endSegment f told).1) : P (s_X11_takes f text told p0).2.1 := by
  have hA := tkA_2 f text told p0 P h0 h1 h2 h3
  rw [tk_eq]
  unfold tkT
  by_cases h9 : f 9 ≤ 0
  · rw [if_pos h9]; exact hA
  · rw [if_neg h9]
    by_cases a : s_X11_in (Int32.toInt64 (text (Int32.toNatClampNeg p0))) 48 57 = 0
    · rw [if_pos a]; exact hA
    · rw [if_neg a]
      unfold s_X11_takes_24
      by_cases d : (5 : Int32) ≤ (f 10) + 1
      · rw [if_pos d]; exact h10 _
      · rw [if_neg d]; exact h10 _
theorem tk_inv (f text told : Nat → Int32) (p0 : Int32) (h : kTI f) : kTI (s_X11_takes f text told p0).2.1 :=
  tk_2 f text told p0 kTI h (fun _ => h.of (upn (by decide) rfl) (upn (by decide) rfl) (upn (by decide) rfl)) (fun _ => h.of (upn (by decide) rfl) (upn (by decide) rfl) (upn (by decide) rfl)) (fun a b x => tk_next h a b x) (fun a => tk_end h a _)

theorem dX11_error_0 : decode cX11_error 0 = .ok (.aload_n 0, 1) := by decide +kernel
theorem dX11_error_1 : decode cX11_error 1 = .ok (.iconst 0, 1) := by decide +kernel
theorem dX11_error_2 : decode cX11_error 2 = .ok (.putfield 196, 3) := by decide +kernel
theorem dX11_error_5 : decode cX11_error 5 = .ok (.aload_n 0, 1) := by decide +kernel
theorem dX11_error_6 : decode cX11_error 6 = .ok (.iconst 0, 1) := by decide +kernel
theorem dX11_error_7 : decode cX11_error 7 = .ok (.putfield 199, 3) := by decide +kernel
theorem dX11_error_10 : decode cX11_error 10 = .ok (.aload_n 0, 1) := by decide +kernel
theorem dX11_error_11 : decode cX11_error 11 = .ok (.sipush (-10000), 3) := by decide +kernel
theorem dX11_error_14 : decode cX11_error 14 = .ok (.putfield 209, 3) := by decide +kernel
theorem dX11_error_17 : decode cX11_error 17 = .ok (.iconst 0, 1) := by decide +kernel
theorem dX11_error_18 : decode cX11_error 18 = .ok (.istore_n 1, 1) := by decide +kernel
theorem dX11_error_19 : decode cX11_error 19 = .ok (.iload_n 1, 1) := by decide +kernel
theorem dX11_error_20 : decode cX11_error 20 = .ok (.aload_n 0, 1) := by decide +kernel
theorem dX11_error_21 : decode cX11_error 21 = .ok (.getfield 178, 3) := by decide +kernel
theorem dX11_error_24 : decode cX11_error 24 = .ok (.if_icmp .ge 19, 3) := by decide +kernel
theorem dX11_error_27 : decode cX11_error 27 = .ok (.aload_n 0, 1) := by decide +kernel
theorem dX11_error_28 : decode cX11_error 28 = .ok (.iload_n 1, 1) := by decide +kernel
theorem dX11_error_29 : decode cX11_error 29 = .ok (.invokevirtual 228, 3) := by decide +kernel
theorem dX11_error_32 : decode cX11_error 32 = .ok (.ifCond .ne 5, 3) := by decide +kernel
theorem dX11_error_35 : decode cX11_error 35 = .ok (.iload_n 1, 1) := by decide +kernel
theorem dX11_error_36 : decode cX11_error 36 = .ok (.ireturn, 1) := by decide +kernel
theorem dX11_error_37 : decode cX11_error 37 = .ok (.iinc 1 1, 3) := by decide +kernel
theorem dX11_error_40 : decode cX11_error 40 = .ok (.goto (-21), 3) := by decide +kernel
theorem dX11_error_43 : decode cX11_error 43 = .ok (.aload_n 0, 1) := by decide +kernel
theorem dX11_error_44 : decode cX11_error 44 = .ok (.getfield 178, 3) := by decide +kernel
theorem dX11_error_47 : decode cX11_error 47 = .ok (.ifCond .eq 10, 3) := by decide +kernel
theorem dX11_error_50 : decode cX11_error 50 = .ok (.aload_n 0, 1) := by decide +kernel
theorem dX11_error_51 : decode cX11_error 51 = .ok (.getfield 199, 3) := by decide +kernel
theorem dX11_error_54 : decode cX11_error 54 = .ok (.ifCond .le 10, 3) := by decide +kernel
theorem dX11_error_57 : decode cX11_error 57 = .ok (.aload_n 0, 1) := by decide +kernel
theorem dX11_error_58 : decode cX11_error 58 = .ok (.getfield 178, 3) := by decide +kernel
theorem dX11_error_61 : decode cX11_error 61 = .ok (.goto 7, 3) := by decide +kernel
theorem dX11_error_64 : decode cX11_error 64 = .ok (.aload_n 0, 1) := by decide +kernel
theorem dX11_error_65 : decode cX11_error 65 = .ok (.getfield 209, 3) := by decide +kernel
theorem dX11_error_68 : decode cX11_error 68 = .ok (.ireturn, 1) := by decide +kernel
def b_X11_error_t_1 (z_9 : Int32 × (Nat → Int32) × (Nat → Int32)) (x_14 : Int32) : (Int32 × (Nat → Int32) × (Nat → Int32)) ⊕ (Int32 × (Nat → Int32) × (Nat → Int32)) :=
  (Sum.inr (x_14, z_9.2.1, z_9.2.2))
def b_X11_error_t_2 (z_9 : Int32 × (Nat → Int32) × (Nat → Int32)) (u_15 : Int32 × (Nat → Int32) × (Nat → Int32)) : (Int32 × (Nat → Int32) × (Nat → Int32)) ⊕ (Int32 × (Nat → Int32) × (Nat → Int32)) :=
  (if u_15.1 = 0 then (Sum.inr (z_9.1, u_15.2.1, u_15.2.2)) else (Sum.inl ((z_9.1 + 1), u_15.2.1, u_15.2.2)))
def b_X11_error_L19 (f_t_text : Nat → Int32) (z_9 : Int32 × (Nat → Int32) × (Nat → Int32)) : (Int32 × (Nat → Int32) × (Nat → Int32)) ⊕ (Int32 × (Nat → Int32) × (Nat → Int32)) :=
  (if (z_9.2.1 6) ≤ z_9.1 then (b_X11_error_t_1 z_9 (if (z_9.2.1 6) = 0 then (z_9.2.1 6) else (if (z_9.2.1 9) ≤ 0 then (z_9.2.1 12) else (z_9.2.1 6)))) else (b_X11_error_t_2 z_9 (s_X11_takes z_9.2.1 f_t_text z_9.2.2 z_9.1)))
def s_X11_error (f_t : Nat → Int32) (f_t_text : Nat → Int32) (f_t_told : Nat → Int32) : Int32 × (Nat → Int32) × (Nat → Int32) :=
  (kLoop default (b_X11_error_L19 f_t_text) (((90 : Int) - Int32.toInt 0).toNat + 1) (0, (upd (upd (upd f_t 8 0) 9 0) 12 (-10000)), f_t_told))
set_option maxRecDepth 100000 in
set_option maxHeartbeats 4000000 in
theorem c_X11_error (l : Launch) (D : va_G) (cI cJ cO : ClassId) (h_t : Nat) (h_t_w : Nat) (h_t_saved : Nat) (h_t_trial : Nat) (h_t_text : Nat) (h_t_told : Nat) (f_t : Nat → Int32) (f_t_text : Nat → Int32) (f_t_told : Nat → Int32) (hf_t_6 : kIn (f_t 6) 0 90) : kI l yX11_error cX11_error 2 .int 5 112 D (kT cI cJ cO) [.ref h_t] [(h_t, moE f_t h_t_w h_t_saved h_t_trial h_t_text h_t_told), (h_t_text, iA cI 90 f_t_text), (h_t_told, iA cI 48 f_t_told)] ((s_X11_error f_t f_t_text f_t_told).1) [(h_t, moE (s_X11_error f_t f_t_text f_t_told).2.1 h_t_w h_t_saved h_t_trial h_t_text h_t_told), (h_t_text, iA cI 90 f_t_text), (h_t_told, iA cI 48 (s_X11_error f_t f_t_text f_t_told).2.2)] := by
  refine kI_of (own := RX11) (lv := [(0, .ref h_t)]) rfl rfl (by decide) (Nat.le_of_ble_eq_true rfl) ?_
  intro p e s m args below meth c Q A C hret
  refine k_aload_n (pc := 0) C rfl 0 rfl dX11_error_0 ?_
  refine k_iconst (pc := 1) C iconst_0 dX11_error_1 ?_
  refine p_X11_8 (pc := 2) (ws2 := [(h_t, moE (upd f_t 8 0) h_t_w h_t_saved h_t_trial h_t_text h_t_told), (h_t_text, iA cI 90 f_t_text), (h_t_told, iA cI 48 f_t_told)]) C q_1006 0 rfl rfl dX11_error_2 ?_
  refine k_aload_n (pc := 5) C rfl 0 rfl dX11_error_5 ?_
  refine k_iconst (pc := 6) C iconst_0 dX11_error_6 ?_
  refine p_X11_9 (pc := 7) (ws2 := [(h_t, moE (upd (upd f_t 8 0) 9 0) h_t_w h_t_saved h_t_trial h_t_text h_t_told), (h_t_text, iA cI 90 f_t_text), (h_t_told, iA cI 48 f_t_told)]) C q_1007 0 rfl rfl dX11_error_7 ?_
  refine k_aload_n (pc := 10) C rfl 0 rfl dX11_error_10 ?_
  refine k_sipush (pc := 11) C sipush_m10000 dX11_error_11 ?_
  refine p_X11_12 (pc := 14) (ws2 := [(h_t, moE (upd (upd (upd f_t 8 0) 9 0) 12 (-10000)) h_t_w h_t_saved h_t_trial h_t_text h_t_told), (h_t_text, iA cI 90 f_t_text), (h_t_told, iA cI 48 f_t_told)]) C q_1010 0 rfl rfl dX11_error_14 ?_
  refine k_iconst (pc := 17) C iconst_0 dX11_error_17 ?_
  refine k_istore_n (pc := 18) (lv2 := [(1, .int 0), (0, .ref h_t)]) C rfl (by decide) rfl dX11_error_18 ?_
  have L_17 : ∀ (n : Nat) (z_9 : Int32 × (Nat → Int32) × (Nat → Int32)), ((90 : Int) - Int32.toInt z_9.1).toNat < n → (kTI z_9.2.1) → (kIn z_9.1 0 90) → kLoop default (b_X11_error_L19 f_t_text) n z_9 = (s_X11_error f_t f_t_text f_t_told) → KJ p l e (kR 5 112) s m args below meth c 0 0 Q D A 2 [(h_t, moE z_9.2.1 h_t_w h_t_saved h_t_trial h_t_text h_t_told), (h_t_text, iA cI 90 f_t_text), (h_t_told, iA cI 48 z_9.2.2)] [(1, .int z_9.1), (0, .ref h_t)] [] 19 := by
    intro n
    induction n with
    | zero => intro z_9 hmu; exact absurd hmu (Nat.not_lt_zero _)
    | succ n ih =>
      intro z_9 hmu hT hl_10 hR
      refine k_iload_n (pc := 19) C rfl 0 rfl dX11_error_19 ?_
      refine k_aload_n (pc := 20) C rfl 1 rfl dX11_error_20 ?_
      refine g_X11_6 (pc := 21) (x := (z_9.2.1 6)) C q_1004 0 rfl rfl dX11_error_21 ?_
      refine k_icmp_ge (pc := 24) (tgt := 43) C dX11_error_24 (by decide) (fun c_11 => ?_) (fun c_11 => ?_)
      · refine k_aload_n (pc := 43) C rfl 1 rfl dX11_error_43 ?_
        refine g_X11_6 (pc := 44) (x := (z_9.2.1 6)) C q_1004 0 rfl rfl dX11_error_44 ?_
        have K_18 : ∀ (x_14 : Int32), x_14 = (if (z_9.2.1 6) = 0 then (z_9.2.1 6) else (if (z_9.2.1 9) ≤ 0 then (z_9.2.1 12) else (z_9.2.1 6))) → KJ p l e (kR 5 112) s m args below meth c 0 0 Q D A 2 [(h_t, moE z_9.2.1 h_t_w h_t_saved h_t_trial h_t_text h_t_told), (h_t_text, iA cI 90 f_t_text), (h_t_told, iA cI 48 z_9.2.2)] [] [.int x_14] 68 := by
          intro x_14 ex_14
          have hs : (s_X11_error f_t f_t_text f_t_told) = (x_14, z_9.2.1, z_9.2.2) := (k_lout hR (k_st (g := b_X11_error_t_1 z_9) ex_14 (if_pos c_11) rfl)).symm
          exact k_finI (pc := 68) hret rfl (by rw [hs]) (by rw [hs]) dX11_error_68
        refine k_if_eq (pc := 47) (tgt := 57) C dX11_error_47 (by decide) (fun c_12 => ?_) (fun c_12 => ?_)
        · refine k_aload_n (pc := 57) C rfl 1 rfl dX11_error_57 ?_
          refine g_X11_6 (pc := 58) (x := (z_9.2.1 6)) C q_1004 0 rfl rfl dX11_error_58 ?_
          refine k_goto (pc := 61) (tgt := 68) C (by decide) dX11_error_61 ?_
          refine k_lpick (lv2 := []) [] rfl ?_
          exact K_18 (z_9.2.1 6) (Eq.symm (if_pos c_12))
        · refine k_aload_n (pc := 50) C rfl 1 rfl dX11_error_50 ?_
          refine g_X11_9 (pc := 51) (x := (z_9.2.1 9)) C q_1007 0 rfl rfl dX11_error_51 ?_
          refine k_if_le (pc := 54) (tgt := 64) C dX11_error_54 (by decide) (fun c_13 => ?_) (fun c_13 => ?_)
          · refine k_aload_n (pc := 64) C rfl 1 rfl dX11_error_64 ?_
            refine g_X11_12 (pc := 65) (x := (z_9.2.1 12)) C q_1010 0 rfl rfl dX11_error_65 ?_
            refine k_lpick (lv2 := []) [] rfl ?_
            exact K_18 (z_9.2.1 12) (Eq.symm ((if_neg c_12).trans (if_pos c_13)))
          · refine k_aload_n (pc := 57) C rfl 1 rfl dX11_error_57 ?_
            refine g_X11_6 (pc := 58) (x := (z_9.2.1 6)) C q_1004 0 rfl rfl dX11_error_58 ?_
            refine k_goto (pc := 61) (tgt := 68) C (by decide) dX11_error_61 ?_
            refine k_lpick (lv2 := []) [] rfl ?_
            exact K_18 (z_9.2.1 6) (Eq.symm ((if_neg c_12).trans (if_neg c_13)))
      · refine k_aload_n (pc := 27) C rfl 1 rfl dX11_error_27 ?_
        refine k_iload_n (pc := 28) C rfl 0 rfl dX11_error_28 ?_
        obtain ⟨u_15, eu_15⟩ : ∃ z : Int32 × (Nat → Int32) × (Nat → Int32), z = (s_X11_takes z_9.2.1 f_t_text z_9.2.2 z_9.1) := ⟨_, rfl⟩
        refine k_callVi (pc := 29) (As := [.int z_9.1]) (rest := []) (r := u_15.1) (wc := [(h_t, moE z_9.2.1 h_t_w h_t_saved h_t_trial h_t_text h_t_told), (h_t_text, iA cI 90 f_t_text), (h_t_told, iA cI 48 z_9.2.2)]) (wc2 := [(h_t, moE u_15.2.1 h_t_w h_t_saved h_t_trial h_t_text h_t_told), (h_t_text, iA cI 90 f_t_text), (h_t_told, iA cI 48 u_15.2.2)]) (ws2 := [(h_t, moE u_15.2.1 h_t_w h_t_saved h_t_trial h_t_text h_t_told), (h_t_text, iA cI 90 f_t_text), (h_t_told, iA cI 48 u_15.2.2)]) C (by rw [eu_15]; exact c_X11_takes l D cI cJ cO h_t h_t_w h_t_saved h_t_trial h_t_text h_t_told z_9.2.1 f_t_text z_9.2.2 z_9.1 (kIn.rw (F := z_9.2.1) (k := 6) rfl hT.1 (by decide) (by decide)) (kIn.rw (F := z_9.2.1) (k := 8) rfl hT.2.1 (by decide) (by decide)) (kIn.rw (F := z_9.2.1) (k := 9) rfl hT.2.2.1 (by decide) (by decide)) hT.2.2.2 (kIn.wk (kIn.nleB hl_10 hT.1 c_11 : kIn z_9.1 0 89) (by decide) (by decide))) cwv_X11_takes q_1288 vX11 0 rfl [0, 1, 2] rfl rfl (by decide) rfl rfl (Nat.le_of_ble_eq_true rfl) ⟨Nat.le_of_ble_eq_true rfl, Nat.le_of_ble_eq_true rfl⟩ rfl ⟨Nat.le_refl _, Nat.le_refl _⟩ dX11_error_29 ?_
        refine k_if_ne (pc := 32) (tgt := 37) C dX11_error_32 (by decide) (fun c_16 => ?_) (fun c_16 => ?_)
        · refine k_iinc (pc := 37) (v := (z_9.1 + 1)) (lv2 := [(1, .int (z_9.1 + 1)), (0, .ref h_t)]) C 0 rfl rfl (by decide) rfl dX11_error_37 ?_
          refine k_goto (pc := 40) (tgt := 19) C (by decide) dX11_error_40 ?_
          exact ih ((z_9.1 + 1), u_15.2.1, u_15.2.2) (kIn.dec (kIn.nleB hl_10 hT.1 c_11 : kIn z_9.1 0 89) (by decide) (by decide) hmu) (by rw [eu_15]; exact tk_inv _ _ _ _ hT) (kIn.wk (kIn.add (kIn.nleB hl_10 hT.1 c_11 : kIn z_9.1 0 89) (kIn.lit (x := 1) (n := 1) (by decide)) (by decide) (by decide)) (by decide) (by decide)) (k_lin hR (k_st (g := b_X11_error_t_2 z_9) eu_15 (if_neg c_11) (if_neg c_16)))
        · refine k_iload_n (pc := 35) C rfl 0 rfl dX11_error_35 ?_
          have hs : (s_X11_error f_t f_t_text f_t_told) = (z_9.1, u_15.2.1, u_15.2.2) := (k_lout hR (k_st (g := b_X11_error_t_2 z_9) eu_15 (if_neg c_11) (if_pos c_16))).symm
          exact k_finI (pc := 36) hret rfl (by rw [hs]) (by rw [hs]) dX11_error_36
  exact L_17 (((90 : Int) - Int32.toInt 0).toNat + 1) (0, (upd (upd (upd f_t 8 0) 9 0) 12 (-10000)), f_t_told) (Nat.lt_succ_self _) (tk_init hf_t_6 _) (kIn.wk (kIn.lit (x := 0) (n := 0) (by decide)) (by decide) (by decide)) (Eq.symm rfl)
