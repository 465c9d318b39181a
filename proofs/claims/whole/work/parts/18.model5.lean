theorem q_15 : Cond.selects RX11 yX11_refuse yX11_refuse ∈ lw_all := kq 15 (by decide +kernel) (by decide +kernel)
theorem q_16 : Cond.selects RX11 yX11_save yX11_save ∈ lw_all := kq 16 (by decide +kernel) (by decide +kernel)
theorem q_31 : Cond.selects RX11 yX11_lay yX11_lay ∈ lw_all := kq 31 (by decide +kernel) (by decide +kernel)
theorem q_32 : Cond.selects RX11 yX11_hasSegment yX11_hasSegment ∈ lw_all := kq 32 (by decide +kernel) (by decide +kernel)
theorem q_986 : Cond.constantLong RX11 26 (20) ∈ lw_all := kq 986 (by decide +kernel) (by decide +kernel)
theorem q_995 : Cond.constantLong RX11 44 (50) ∈ lw_all := kq 995 (by decide +kernel) (by decide +kernel)
theorem q_1001 : Cond.fieldLink RX11 19 "ClimateChamberModel" "text" "[I" ∈ lw_all := kq 1001 (by decide +kernel) (by decide +kernel)
theorem q_1004 : Cond.fieldLink RX11 178 "ClimateChamberModel" "length" "I" ∈ lw_all := kq 1004 (by decide +kernel) (by decide +kernel)
theorem q_1050 : Cond.constantLong RX11 61 (11) ∈ lw_all := kq 1050 (by decide +kernel) (by decide +kernel)
theorem q_1054 : Cond.methodLink RX11 67 yX11_refuse ∈ lw_all := kq 1054 (by decide +kernel) (by decide +kernel)
theorem q_1056 : Cond.instanceMethod yX11_refuse ∈ lw_all := kq 1056 (by decide +kernel) (by decide +kernel)
theorem q_1057 : Cond.code yX11_refuse cX11_refuse 2 (some .int) ∈ lw_all := kq 1057 (by decide +kernel) (by decide +kernel)
theorem q_1058 : Cond.methodLink RX11 71 yX11_least ∈ lw_all := kq 1058 (by decide +kernel) (by decide +kernel)
theorem q_1059 : Cond.static yX11_least ∈ lw_all := kq 1059 (by decide +kernel) (by decide +kernel)
theorem q_1060 : Cond.code yX11_least cX11_least 1 (some .int) ∈ lw_all := kq 1060 (by decide +kernel) (by decide +kernel)
theorem q_1061 : Cond.methodLink RX11 74 yX11_most ∈ lw_all := kq 1061 (by decide +kernel) (by decide +kernel)
theorem q_1062 : Cond.static yX11_most ∈ lw_all := kq 1062 (by decide +kernel) (by decide +kernel)
theorem q_1063 : Cond.code yX11_most cX11_most 1 (some .int) ∈ lw_all := kq 1063 (by decide +kernel) (by decide +kernel)
theorem q_1064 : Cond.methodLink RX11 77 yX11_save ∈ lw_all := kq 1064 (by decide +kernel) (by decide +kernel)
theorem q_1066 : Cond.instanceMethod yX11_save ∈ lw_all := kq 1066 (by decide +kernel) (by decide +kernel)
theorem q_1067 : Cond.code yX11_save cX11_save 2 none ∈ lw_all := kq 1067 (by decide +kernel) (by decide +kernel)
theorem q_1169 : Cond.methodLink RX11 165 yX11_isSegment ∈ lw_all := kq 1169 (by decide +kernel) (by decide +kernel)
theorem q_1170 : Cond.static yX11_isSegment ∈ lw_all := kq 1170 (by decide +kernel) (by decide +kernel)
theorem q_1171 : Cond.code yX11_isSegment cX11_isSegment 4 (some .boolean) ∈ lw_all := kq 1171 (by decide +kernel) (by decide +kernel)
theorem q_1172 : Cond.constantLong RX11 169 (12) ∈ lw_all := kq 1172 (by decide +kernel) (by decide +kernel)
theorem q_1173 : Cond.methodLink RX11 171 yX11_lay ∈ lw_all := kq 1173 (by decide +kernel) (by decide +kernel)
theorem q_1175 : Cond.instanceMethod yX11_lay ∈ lw_all := kq 1175 (by decide +kernel) (by decide +kernel)
theorem q_1176 : Cond.code yX11_lay cX11_lay 7 none ∈ lw_all := kq 1176 (by decide +kernel) (by decide +kernel)
theorem q_1181 : Cond.methodLink RX11 175 yX11_hasSegment ∈ lw_all := kq 1181 (by decide +kernel) (by decide +kernel)
theorem q_1183 : Cond.instanceMethod yX11_hasSegment ∈ lw_all := kq 1183 (by decide +kernel) (by decide +kernel)
theorem q_1184 : Cond.code yX11_hasSegment cX11_hasSegment 2 (some .boolean) ∈ lw_all := kq 1184 (by decide +kernel) (by decide +kernel)
theorem q_1274 : Cond.constantLong RX11 192 (32) ∈ lw_all := kq 1274 (by decide +kernel) (by decide +kernel)
theorem q_1275 : Cond.constantLong RX11 194 (126) ∈ lw_all := kq 1275 (by decide +kernel) (by decide +kernel)
theorem cwv_X11_hasSegment : kCWv yX11_hasSegment cX11_hasSegment 2 (some .boolean) 1 := ⟨⟨q_1184, q_53, by decide +kernel⟩, q_1183, q_32⟩
theorem cws_X11_isSegment : kCWs yX11_isSegment cX11_isSegment 4 (some .boolean) 4 := ⟨⟨q_1171, q_53, by decide +kernel⟩, q_1170⟩
theorem cwv_X11_lay : kCWv yX11_lay cX11_lay 7 none 5 := ⟨⟨q_1176, q_53, by decide +kernel⟩, q_1175, q_31⟩
theorem cws_X11_least : kCWs yX11_least cX11_least 1 (some .int) 1 := ⟨⟨q_1060, q_53, by decide +kernel⟩, q_1059⟩
theorem cws_X11_most : kCWs yX11_most cX11_most 1 (some .int) 1 := ⟨⟨q_1063, q_53, by decide +kernel⟩, q_1062⟩
theorem cwv_X11_refuse : kCWv yX11_refuse cX11_refuse 2 (some .int) 1 := ⟨⟨q_1057, q_53, by decide +kernel⟩, q_1056, q_15⟩
theorem cwv_X11_save : kCWv yX11_save cX11_save 2 none 0 := ⟨⟨q_1067, q_53, by decide +kernel⟩, q_1066, q_16⟩
theorem dX11_hasSegment_0 : decode cX11_hasSegment 0 = .ok (.iload_n 1, 1) := by decide +kernel
theorem dX11_hasSegment_1 : decode cX11_hasSegment 1 = .ok (.i2l, 1) := by decide +kernel
theorem dX11_hasSegment_2 : decode cX11_hasSegment 2 = .ok (.lconst 0, 1) := by decide +kernel
theorem dX11_hasSegment_3 : decode cX11_hasSegment 3 = .ok (.aload_n 0, 1) := by decide +kernel
theorem dX11_hasSegment_4 : decode cX11_hasSegment 4 = .ok (.getfield 7, 3) := by decide +kernel
theorem dX11_hasSegment_7 : decode cX11_hasSegment 7 = .ok (.bipush 43, 2) := by decide +kernel
theorem dX11_hasSegment_9 : decode cX11_hasSegment 9 = .ok (.laload, 1) := by decide +kernel
theorem dX11_hasSegment_10 : decode cX11_hasSegment 10 = .ok (.lconst 1, 1) := by decide +kernel
theorem dX11_hasSegment_11 : decode cX11_hasSegment 11 = .ok (.lsub, 1) := by decide +kernel
theorem dX11_hasSegment_12 : decode cX11_hasSegment 12 = .ok (.invokestatic 63, 3) := by decide +kernel
theorem dX11_hasSegment_15 : decode cX11_hasSegment 15 = .ok (.ireturn, 1) := by decide +kernel
def s_X11_hasSegment (f_t : Nat → Int32) (f_t_w : Nat → Int64) (p0 : Int32) : Int32 :=
  (s_X11_in (Int32.toInt64 p0) 0 ((f_t_w 43) - 1))
set_option maxRecDepth 100000 in
set_option maxHeartbeats 4000000 in
theorem c_X11_hasSegment (l : Launch) (D : va_G) (cI cJ cO : ClassId) (h_t : Nat) (h_t_w : Nat) (h_t_saved : Nat) (h_t_trial : Nat) (h_t_text : Nat) (h_t_told : Nat) (f_t : Nat → Int32) (f_t_w : Nat → Int64) (p0 : Int32) : kI l yX11_hasSegment cX11_hasSegment 2 .boolean 1 25 D (kT cI cJ cO) [.ref h_t, .int p0] [(h_t, moE f_t h_t_w h_t_saved h_t_trial h_t_text h_t_told), (h_t_w, jA cJ 294 f_t_w)] (s_X11_hasSegment f_t f_t_w p0) [(h_t, moE f_t h_t_w h_t_saved h_t_trial h_t_text h_t_told), (h_t_w, jA cJ 294 f_t_w)] := by
  refine kI_of (own := RX11) (lv := [(0, .ref h_t), (1, .int p0)]) rfl rfl (by decide) (Nat.le_of_ble_eq_true rfl) ?_
  intro p e s m args below meth c Q A C hret
  refine k_iload_n (pc := 0) C rfl 1 rfl dX11_hasSegment_0 ?_
  refine k_i2l (pc := 1) C dX11_hasSegment_1 ?_
  refine k_lconst (pc := 2) C lconst_0 dX11_hasSegment_2 ?_
  refine k_aload_n (pc := 3) C rfl 0 rfl dX11_hasSegment_3 ?_
  refine g_X11_0 (pc := 4) C q_998 0 rfl dX11_hasSegment_4 ?_
  refine k_bipush (pc := 7) C bipush_43 dX11_hasSegment_7 ?_
  refine k_laldK (pc := 9) (v := (f_t_w 43)) C 1 1 rfl rfl (k_vinc 43 cl_43 (by decide) (by decide)) cl_43 rfl dX11_hasSegment_9 ?_
  refine k_lconst (pc := 10) C lconst_1 dX11_hasSegment_10 ?_
  refine k_lsub (pc := 11) C dX11_hasSegment_11 ?_
  refine k_callSi (pc := 12) (As := [.long (Int32.toInt64 p0), .long 0, .long ((f_t_w 43) - 1)]) (rest := []) (r := (s_X11_in (Int32.toInt64 p0) 0 ((f_t_w 43) - 1))) (wc := []) (wc2 := []) (ws2 := [(h_t, moE f_t h_t_w h_t_saved h_t_trial h_t_text h_t_told), (h_t_w, jA cJ 294 f_t_w)]) C (c_X11_in l D cI cJ cO (Int32.toInt64 p0) 0 ((f_t_w 43) - 1)) cws_X11_in q_1051 [] rfl rfl (by decide) rfl rfl (Nat.le_of_ble_eq_true rfl) ⟨Nat.le_of_ble_eq_true rfl, Nat.le_of_ble_eq_true rfl⟩ rfl ⟨Nat.le_refl _, Nat.le_refl _⟩ dX11_hasSegment_12 ?_
  have hs : (s_X11_hasSegment f_t f_t_w p0) = (s_X11_in (Int32.toInt64 p0) 0 ((f_t_w 43) - 1)) := rfl
  exact k_finI (pc := 15) hret (kb_n (b_X11_in _ _ _)) (by rw [hs]) rfl dX11_hasSegment_15
theorem b_X11_hasSegment (f_t : Nat → Int32) (f_t_w : Nat → Int64) (p0 : Int32) : kb (s_X11_hasSegment f_t f_t_w p0) := by
  unfold s_X11_hasSegment
  repeat' first | with_reducible exact kb0 | with_reducible exact kb1 | with_reducible exact b_X11_in .. | with_reducible refine k_bif ?_ ?_ | with_reducible refine k_bif0 ?_ ?_

theorem kIn.hasb {f : Nat → Int32} {w : Nat → Int64} {x : Int32} (h : ¬ s_X11_hasSegment f w x = 0) (hw : kInL (w 43) 0 12) : kIn x 0 11 := by
  unfold s_X11_hasSegment at h
  exact (kIn.inb h (kInL.lit (x := 0) (n := 0) (by decide)) (kInL.sub hw (kInL.lit (x := 1) (n := 1) (by decide)) (by decide) (by decide))).wk (by decide) (by decide)
theorem dX11_set_0 : decode cX11_set 0 = .ok (.aload_n 0, 1) := by decide +kernel
theorem dX11_set_1 : decode cX11_set 1 = .ok (.iconst 0, 1) := by decide +kernel
theorem dX11_set_2 : decode cX11_set 2 = .ok (.putfield 50, 3) := by decide +kernel
theorem dX11_set_5 : decode cX11_set 5 = .ok (.iload_n 1, 1) := by decide +kernel
theorem dX11_set_6 : decode cX11_set 6 = .ok (.i2l, 1) := by decide +kernel
theorem dX11_set_7 : decode cX11_set 7 = .ok (.lconst 0, 1) := by decide +kernel
theorem dX11_set_8 : decode cX11_set 8 = .ok (.ldc2_w 61, 3) := by decide +kernel
theorem dX11_set_11 : decode cX11_set 11 = .ok (.invokestatic 63, 3) := by decide +kernel
theorem dX11_set_14 : decode cX11_set 14 = .ok (.ifCond .ne 9, 3) := by decide +kernel
theorem dX11_set_17 : decode cX11_set 17 = .ok (.aload_n 0, 1) := by decide +kernel
theorem dX11_set_18 : decode cX11_set 18 = .ok (.iconst 1, 1) := by decide +kernel
theorem dX11_set_19 : decode cX11_set 19 = .ok (.invokevirtual 67, 3) := by decide +kernel
theorem dX11_set_22 : decode cX11_set 22 = .ok (.ireturn, 1) := by decide +kernel
theorem dX11_set_23 : decode cX11_set 23 = .ok (.iload_n 2, 1) := by decide +kernel
theorem dX11_set_24 : decode cX11_set 24 = .ok (.i2l, 1) := by decide +kernel
theorem dX11_set_25 : decode cX11_set 25 = .ok (.iload_n 1, 1) := by decide +kernel
theorem dX11_set_26 : decode cX11_set 26 = .ok (.invokestatic 71, 3) := by decide +kernel
theorem dX11_set_29 : decode cX11_set 29 = .ok (.i2l, 1) := by decide +kernel
theorem dX11_set_30 : decode cX11_set 30 = .ok (.iload_n 1, 1) := by decide +kernel
theorem dX11_set_31 : decode cX11_set 31 = .ok (.invokestatic 74, 3) := by decide +kernel
theorem dX11_set_34 : decode cX11_set 34 = .ok (.i2l, 1) := by decide +kernel
theorem dX11_set_35 : decode cX11_set 35 = .ok (.invokestatic 63, 3) := by decide +kernel
theorem dX11_set_38 : decode cX11_set 38 = .ok (.ifCond .ne 9, 3) := by decide +kernel
theorem dX11_set_41 : decode cX11_set 41 = .ok (.aload_n 0, 1) := by decide +kernel
theorem dX11_set_42 : decode cX11_set 42 = .ok (.iconst 2, 1) := by decide +kernel
theorem dX11_set_43 : decode cX11_set 43 = .ok (.invokevirtual 67, 3) := by decide +kernel
theorem dX11_set_46 : decode cX11_set 46 = .ok (.ireturn, 1) := by decide +kernel
theorem dX11_set_47 : decode cX11_set 47 = .ok (.aload_n 0, 1) := by decide +kernel
theorem dX11_set_48 : decode cX11_set 48 = .ok (.invokevirtual 77, 3) := by decide +kernel
theorem dX11_set_51 : decode cX11_set 51 = .ok (.aload_n 0, 1) := by decide +kernel
theorem dX11_set_52 : decode cX11_set 52 = .ok (.getfield 7, 3) := by decide +kernel
theorem dX11_set_55 : decode cX11_set 55 = .ok (.iconst 0, 1) := by decide +kernel
theorem dX11_set_56 : decode cX11_set 56 = .ok (.iload_n 1, 1) := by decide +kernel
theorem dX11_set_57 : decode cX11_set 57 = .ok (.iadd, 1) := by decide +kernel
theorem dX11_set_58 : decode cX11_set 58 = .ok (.laload, 1) := by decide +kernel
theorem dX11_set_59 : decode cX11_set 59 = .ok (.l2i, 1) := by decide +kernel
theorem dX11_set_60 : decode cX11_set 60 = .ok (.istore_n 3, 1) := by decide +kernel
theorem dX11_set_61 : decode cX11_set 61 = .ok (.aload_n 0, 1) := by decide +kernel
theorem dX11_set_62 : decode cX11_set 62 = .ok (.getfield 7, 3) := by decide +kernel
theorem dX11_set_65 : decode cX11_set 65 = .ok (.iconst 0, 1) := by decide +kernel
theorem dX11_set_66 : decode cX11_set 66 = .ok (.iload_n 1, 1) := by decide +kernel
theorem dX11_set_67 : decode cX11_set 67 = .ok (.iadd, 1) := by decide +kernel
theorem dX11_set_68 : decode cX11_set 68 = .ok (.iload_n 2, 1) := by decide +kernel
theorem dX11_set_69 : decode cX11_set 69 = .ok (.i2l, 1) := by decide +kernel
theorem dX11_set_70 : decode cX11_set 70 = .ok (.lastore, 1) := by decide +kernel
theorem dX11_set_71 : decode cX11_set 71 = .ok (.iload_n 3, 1) := by decide +kernel
theorem dX11_set_72 : decode cX11_set 72 = .ok (.ireturn, 1) := by decide +kernel
def s_X11_set_1 (f_t_saved : Nat → Int64) (f_t_w : Nat → Int64) (u_6 : Int32 × (Nat → Int32)) : Int32 × (Nat → Int32) × (Nat → Int64) × (Nat → Int64) :=
  (u_6.1, u_6.2, f_t_saved, f_t_w)
def s_X11_set_2 (f_t_saved : Nat → Int64) (f_t_w : Nat → Int64) (u_5 : Int32 × (Nat → Int32)) : Int32 × (Nat → Int32) × (Nat → Int64) × (Nat → Int64) :=
  (u_5.1, u_5.2, f_t_saved, f_t_w)
def s_X11_set_3 (f_t_w : Nat → Int64) (p0 : Int32) (p1 : Int32) (u_4 : (Nat → Int32) × (Nat → Int64)) : Int32 × (Nat → Int32) × (Nat → Int64) × (Nat → Int64) :=
  ((Int64.toInt32 (f_t_w (Int32.toNatClampNeg (0 + p0)))), u_4.1, u_4.2, (vp_updL f_t_w (Int32.toNatClampNeg (0 + p0)) (Int32.toInt64 p1)))
def s_X11_set_4 (f_t_saved : Nat → Int64) (f_t_w : Nat → Int64) (f_t : Nat → Int32) (p0 : Int32) (p1 : Int32) (u_2 : Int32) : Int32 × (Nat → Int32) × (Nat → Int64) × (Nat → Int64) :=
  (if u_2 = 0 then (s_X11_set_2 f_t_saved f_t_w (s_X11_refuse (upd f_t 7 0) 2)) else (s_X11_set_3 f_t_w p0 p1 (s_X11_save (upd f_t 7 0) f_t_saved f_t_w)))
def s_X11_set (f_t : Nat → Int32) (f_t_saved : Nat → Int64) (f_t_w : Nat → Int64) (p0 : Int32) (p1 : Int32) : Int32 × (Nat → Int32) × (Nat → Int64) × (Nat → Int64) :=
  (if (s_X11_in (Int32.toInt64 p0) 0 11) = 0 then (s_X11_set_1 f_t_saved f_t_w (s_X11_refuse (upd f_t 7 0) 1)) else (s_X11_set_4 f_t_saved f_t_w f_t p0 p1 (s_X11_in (Int32.toInt64 p1) (Int32.toInt64 (s_X11_least p0)) (Int32.toInt64 (s_X11_most p0)))))
set_option maxRecDepth 100000 in
set_option maxHeartbeats 4000000 in
theorem c_X11_set (l : Launch) (D : va_G) (cI cJ cO : ClassId) (h_t : Nat) (h_t_w : Nat) (h_t_saved : Nat) (h_t_trial : Nat) (h_t_text : Nat) (h_t_told : Nat) (f_t : Nat → Int32) (f_t_saved : Nat → Int64) (f_t_w : Nat → Int64) (p0 : Int32) (p1 : Int32) (hf_t_5 : kIn (f_t 5) 0 6) : kI l yX11_set cX11_set 4 .int 1 25 D (kT cI cJ cO) [.ref h_t, .int p0, .int p1] [(h_t, moE f_t h_t_w h_t_saved h_t_trial h_t_text h_t_told), (h_t_saved, jA cJ 1764 f_t_saved), (h_t_w, jA cJ 294 f_t_w)] ((s_X11_set f_t f_t_saved f_t_w p0 p1).1) [(h_t, moE (s_X11_set f_t f_t_saved f_t_w p0 p1).2.1 h_t_w h_t_saved h_t_trial h_t_text h_t_told), (h_t_saved, jA cJ 1764 (s_X11_set f_t f_t_saved f_t_w p0 p1).2.2.1), (h_t_w, jA cJ 294 (s_X11_set f_t f_t_saved f_t_w p0 p1).2.2.2)] := by
  refine kI_of (own := RX11) (lv := [(0, .ref h_t), (1, .int p0), (2, .int p1)]) rfl rfl (by decide) (Nat.le_of_ble_eq_true rfl) ?_
  intro p e s m args below meth c Q A C hret
  refine k_aload_n (pc := 0) C rfl 0 rfl dX11_set_0 ?_
  refine k_iconst (pc := 1) C iconst_0 dX11_set_1 ?_
  refine p_X11_7 (pc := 2) (ws2 := [(h_t, moE (upd f_t 7 0) h_t_w h_t_saved h_t_trial h_t_text h_t_told), (h_t_saved, jA cJ 1764 f_t_saved), (h_t_w, jA cJ 294 f_t_w)]) C q_1005 0 rfl rfl dX11_set_2 ?_
  refine k_iload_n (pc := 5) C rfl 1 rfl dX11_set_5 ?_
  refine k_i2l (pc := 6) C dX11_set_6 ?_
  refine k_lconst (pc := 7) C lconst_0 dX11_set_7 ?_
  refine k_ldc2 (pc := 8) C q_1050 dX11_set_8 ?_
  refine k_callSi (pc := 11) (As := [.long (Int32.toInt64 p0), .long 0, .long 11]) (rest := []) (r := (s_X11_in (Int32.toInt64 p0) 0 11)) (wc := []) (wc2 := []) (ws2 := [(h_t, moE (upd f_t 7 0) h_t_w h_t_saved h_t_trial h_t_text h_t_told), (h_t_saved, jA cJ 1764 f_t_saved), (h_t_w, jA cJ 294 f_t_w)]) C (c_X11_in l D cI cJ cO (Int32.toInt64 p0) 0 11) cws_X11_in q_1051 [] rfl rfl (by decide) rfl rfl (Nat.le_of_ble_eq_true rfl) ⟨Nat.le_of_ble_eq_true rfl, Nat.le_of_ble_eq_true rfl⟩ rfl ⟨Nat.le_refl _, Nat.le_refl _⟩ dX11_set_11 ?_
  refine k_if_ne (pc := 14) (tgt := 23) C dX11_set_14 (by decide) (fun c_1 => ?_) (fun c_1 => ?_)
  · refine k_iload_n (pc := 23) C rfl 2 rfl dX11_set_23 ?_
    refine k_i2l (pc := 24) C dX11_set_24 ?_
    refine k_iload_n (pc := 25) C rfl 1 rfl dX11_set_25 ?_
    refine k_callSi (pc := 26) (As := [.int p0]) (rest := [.long (Int32.toInt64 p1)]) (r := (s_X11_least p0)) (wc := []) (wc2 := []) (ws2 := [(h_t, moE (upd f_t 7 0) h_t_w h_t_saved h_t_trial h_t_text h_t_told), (h_t_saved, jA cJ 1764 f_t_saved), (h_t_w, jA cJ 294 f_t_w)]) C (c_X11_least l D cI cJ cO p0) cws_X11_least q_1058 [] rfl rfl (by decide) rfl rfl (Nat.le_of_ble_eq_true rfl) ⟨Nat.le_of_ble_eq_true rfl, Nat.le_of_ble_eq_true rfl⟩ rfl ⟨Nat.le_refl _, Nat.le_refl _⟩ dX11_set_26 ?_
    refine k_i2l (pc := 29) C dX11_set_29 ?_
    refine k_iload_n (pc := 30) C rfl 1 rfl dX11_set_30 ?_
    refine k_callSi (pc := 31) (As := [.int p0]) (rest := [.long (Int32.toInt64 (s_X11_least p0)), .long (Int32.toInt64 p1)]) (r := (s_X11_most p0)) (wc := []) (wc2 := []) (ws2 := [(h_t, moE (upd f_t 7 0) h_t_w h_t_saved h_t_trial h_t_text h_t_told), (h_t_saved, jA cJ 1764 f_t_saved), (h_t_w, jA cJ 294 f_t_w)]) C (c_X11_most l D cI cJ cO p0) cws_X11_most q_1061 [] rfl rfl (by decide) rfl rfl (Nat.le_of_ble_eq_true rfl) ⟨Nat.le_of_ble_eq_true rfl, Nat.le_of_ble_eq_true rfl⟩ rfl ⟨Nat.le_refl _, Nat.le_refl _⟩ dX11_set_31 ?_
    refine k_i2l (pc := 34) C dX11_set_34 ?_
    obtain ⟨u_2, eu_2⟩ : ∃ z : Int32, z = (s_X11_in (Int32.toInt64 p1) (Int32.toInt64 (s_X11_least p0)) (Int32.toInt64 (s_X11_most p0))) := ⟨_, rfl⟩
    refine k_callSi (pc := 35) (As := [.long (Int32.toInt64 p1), .long (Int32.toInt64 (s_X11_least p0)), .long (Int32.toInt64 (s_X11_most p0))]) (rest := []) (r := u_2) (wc := []) (wc2 := []) (ws2 := [(h_t, moE (upd f_t 7 0) h_t_w h_t_saved h_t_trial h_t_text h_t_told), (h_t_saved, jA cJ 1764 f_t_saved), (h_t_w, jA cJ 294 f_t_w)]) C (by rw [eu_2]; exact c_X11_in l D cI cJ cO (Int32.toInt64 p1) (Int32.toInt64 (s_X11_least p0)) (Int32.toInt64 (s_X11_most p0))) cws_X11_in q_1051 [] rfl rfl (by decide) rfl rfl (Nat.le_of_ble_eq_true rfl) ⟨Nat.le_of_ble_eq_true rfl, Nat.le_of_ble_eq_true rfl⟩ rfl ⟨Nat.le_refl _, Nat.le_refl _⟩ dX11_set_35 ?_
    refine k_if_ne (pc := 38) (tgt := 47) C dX11_set_38 (by decide) (fun c_3 => ?_) (fun c_3 => ?_)
    · refine k_aload_n (pc := 47) C rfl 0 rfl dX11_set_47 ?_
      obtain ⟨u_4, eu_4⟩ : ∃ z : (Nat → Int32) × (Nat → Int64), z = (s_X11_save (upd f_t 7 0) f_t_saved f_t_w) := ⟨_, rfl⟩
      refine k_callVv (pc := 48) (As := []) (rest := []) (wc := [(h_t, moE (upd f_t 7 0) h_t_w h_t_saved h_t_trial h_t_text h_t_told), (h_t_saved, jA cJ 1764 f_t_saved), (h_t_w, jA cJ 294 f_t_w)]) (wc2 := [(h_t, moE u_4.1 h_t_w h_t_saved h_t_trial h_t_text h_t_told), (h_t_saved, jA cJ 1764 u_4.2), (h_t_w, jA cJ 294 f_t_w)]) (ws2 := [(h_t, moE u_4.1 h_t_w h_t_saved h_t_trial h_t_text h_t_told), (h_t_saved, jA cJ 1764 u_4.2), (h_t_w, jA cJ 294 f_t_w)]) C (by rw [eu_4]; exact c_X11_save l D cI cJ cO h_t h_t_w h_t_saved h_t_trial h_t_text h_t_told (upd f_t 7 0) f_t_saved f_t_w (kIn.rw (F := (upd f_t 7 0)) (k := 5) (upn (by decide) rfl) hf_t_5 (by decide) (by decide))) cwv_X11_save q_1064 vX11 0 rfl [0, 1, 2] rfl rfl (by decide) rfl rfl (Nat.le_of_ble_eq_true rfl) ⟨Nat.le_of_ble_eq_true rfl, Nat.le_of_ble_eq_true rfl⟩ rfl ⟨Nat.le_refl _, Nat.le_refl _⟩ dX11_set_48 ?_
      refine k_aload_n (pc := 51) C rfl 0 rfl dX11_set_51 ?_
      refine g_X11_0 (pc := 52) C q_998 0 rfl dX11_set_52 ?_
      refine k_iconst (pc := 55) C iconst_0 dX11_set_55 ?_
      refine k_iload_n (pc := 56) C rfl 1 rfl dX11_set_56 ?_
      refine k_iadd (pc := 57) C dX11_set_57 ?_
      refine k_laldK (pc := 58) (v := (f_t_w (Int32.toNatClampNeg (0 + p0)))) C 2 1 rfl rfl (kIn.vp (kIn.add (kIn.lit (x := 0) (n := 0) (by decide)) (kIn.inb c_1 (kInL.lit (x := 0) (n := 0) (by decide)) (kInL.lit (x := 11) (n := 11) (by decide))) (by decide) (by decide)) (by decide) (by decide)) rfl rfl dX11_set_58 ?_
      refine k_l2i (pc := 59) C dX11_set_59 ?_
      refine k_istore_n (pc := 60) (lv2 := [(3, .int (Int64.toInt32 (f_t_w (Int32.toNatClampNeg (0 + p0))))), (0, .ref h_t), (1, .int p0), (2, .int p1)]) C rfl (by decide) rfl dX11_set_60 ?_
      refine k_aload_n (pc := 61) C rfl 1 rfl dX11_set_61 ?_
      refine g_X11_0 (pc := 62) C q_998 0 rfl dX11_set_62 ?_
      refine k_iconst (pc := 65) C iconst_0 dX11_set_65 ?_
      refine k_iload_n (pc := 66) C rfl 2 rfl dX11_set_66 ?_
      refine k_iadd (pc := 67) C dX11_set_67 ?_
      refine k_iload_n (pc := 68) C rfl 3 rfl dX11_set_68 ?_
      refine k_i2l (pc := 69) C dX11_set_69 ?_
      refine k_lastK (pc := 70) (ws2 := [(h_t, moE u_4.1 h_t_w h_t_saved h_t_trial h_t_text h_t_told), (h_t_saved, jA cJ 1764 u_4.2), (h_t_w, jA cJ 294 (vp_updL f_t_w (Int32.toNatClampNeg (0 + p0)) (Int32.toInt64 p1)))]) C 2 1 rfl rfl (kIn.vp (kIn.add (kIn.lit (x := 0) (n := 0) (by decide)) (kIn.inb c_1 (kInL.lit (x := 0) (n := 0) (by decide)) (kInL.lit (x := 11) (n := 11) (by decide))) (by decide) (by decide)) (by decide) (by decide)) rfl rfl dX11_set_70 ?_
      refine k_iload_n (pc := 71) C rfl 0 rfl dX11_set_71 ?_
      have hs : (s_X11_set f_t f_t_saved f_t_w p0 p1) = ((Int64.toInt32 (f_t_w (Int32.toNatClampNeg (0 + p0)))), u_4.1, u_4.2, (vp_updL f_t_w (Int32.toNatClampNeg (0 + p0)) (Int32.toInt64 p1))) := (k_st (g := s_X11_set_4 f_t_saved f_t_w f_t p0 p1) eu_2 (if_neg c_1) (k_st (g := s_X11_set_3 f_t_w p0 p1) eu_4 (if_neg c_3) rfl))
      exact k_finI (pc := 72) hret rfl (by rw [hs]) (by rw [hs]) dX11_set_72
    · refine k_aload_n (pc := 41) C rfl 0 rfl dX11_set_41 ?_
      refine k_iconst (pc := 42) C iconst_2 dX11_set_42 ?_
      obtain ⟨u_5, eu_5⟩ : ∃ z : Int32 × (Nat → Int32), z = (s_X11_refuse (upd f_t 7 0) 2) := ⟨_, rfl⟩
      refine k_callVi (pc := 43) (As := [.int 2]) (rest := []) (r := u_5.1) (wc := [(h_t, moE (upd f_t 7 0) h_t_w h_t_saved h_t_trial h_t_text h_t_told)]) (wc2 := [(h_t, moE u_5.2 h_t_w h_t_saved h_t_trial h_t_text h_t_told)]) (ws2 := [(h_t, moE u_5.2 h_t_w h_t_saved h_t_trial h_t_text h_t_told), (h_t_saved, jA cJ 1764 f_t_saved), (h_t_w, jA cJ 294 f_t_w)]) C (by rw [eu_5]; exact c_X11_refuse l D cI cJ cO h_t h_t_w h_t_saved h_t_trial h_t_text h_t_told (upd f_t 7 0) 2) cwv_X11_refuse q_1054 vX11 0 rfl [0] rfl rfl (by decide) rfl rfl (Nat.le_of_ble_eq_true rfl) ⟨Nat.le_of_ble_eq_true rfl, Nat.le_of_ble_eq_true rfl⟩ rfl ⟨Nat.le_refl _, Nat.le_refl _⟩ dX11_set_43 ?_
      have hs : (s_X11_set f_t f_t_saved f_t_w p0 p1) = (u_5.1, u_5.2, f_t_saved, f_t_w) := (k_st (g := s_X11_set_4 f_t_saved f_t_w f_t p0 p1) eu_2 (if_neg c_1) (k_st (g := s_X11_set_2 f_t_saved f_t_w) eu_5 (if_pos c_3) rfl))
      exact k_finI (pc := 46) hret rfl (by rw [hs]) (by rw [hs]) dX11_set_46
  · refine k_aload_n (pc := 17) C rfl 0 rfl dX11_set_17 ?_
    refine k_iconst (pc := 18) C iconst_1 dX11_set_18 ?_
    obtain ⟨u_6, eu_6⟩ : ∃ z : Int32 × (Nat → Int32), z = (s_X11_refuse (upd f_t 7 0) 1) := ⟨_, rfl⟩
    refine k_callVi (pc := 19) (As := [.int 1]) (rest := []) (r := u_6.1) (wc := [(h_t, moE (upd f_t 7 0) h_t_w h_t_saved h_t_trial h_t_text h_t_told)]) (wc2 := [(h_t, moE u_6.2 h_t_w h_t_saved h_t_trial h_t_text h_t_told)]) (ws2 := [(h_t, moE u_6.2 h_t_w h_t_saved h_t_trial h_t_text h_t_told), (h_t_saved, jA cJ 1764 f_t_saved), (h_t_w, jA cJ 294 f_t_w)]) C (by rw [eu_6]; exact c_X11_refuse l D cI cJ cO h_t h_t_w h_t_saved h_t_trial h_t_text h_t_told (upd f_t 7 0) 1) cwv_X11_refuse q_1054 vX11 0 rfl [0] rfl rfl (by decide) rfl rfl (Nat.le_of_ble_eq_true rfl) ⟨Nat.le_of_ble_eq_true rfl, Nat.le_of_ble_eq_true rfl⟩ rfl ⟨Nat.le_refl _, Nat.le_refl _⟩ dX11_set_19 ?_
    have hs : (s_X11_set f_t f_t_saved f_t_w p0 p1) = (u_6.1, u_6.2, f_t_saved, f_t_w) := (k_st (g := s_X11_set_1 f_t_saved f_t_w) eu_6 (if_pos c_1) rfl)
    exact k_finI (pc := 22) hret rfl (by rw [hs]) (by rw [hs]) dX11_set_22

theorem dX11_setMode_0 : decode cX11_setMode 0 = .ok (.aload_n 0, 1) := by decide +kernel
theorem dX11_setMode_1 : decode cX11_setMode 1 = .ok (.iconst 0, 1) := by decide +kernel
theorem dX11_setMode_2 : decode cX11_setMode 2 = .ok (.putfield 50, 3) := by decide +kernel
theorem dX11_setMode_5 : decode cX11_setMode 5 = .ok (.iload_n 1, 1) := by decide +kernel
theorem dX11_setMode_6 : decode cX11_setMode 6 = .ok (.i2l, 1) := by decide +kernel
theorem dX11_setMode_7 : decode cX11_setMode 7 = .ok (.lconst 0, 1) := by decide +kernel
theorem dX11_setMode_8 : decode cX11_setMode 8 = .ok (.lconst 1, 1) := by decide +kernel
theorem dX11_setMode_9 : decode cX11_setMode 9 = .ok (.invokestatic 63, 3) := by decide +kernel
theorem dX11_setMode_12 : decode cX11_setMode 12 = .ok (.ifCond .ne 9, 3) := by decide +kernel
theorem dX11_setMode_15 : decode cX11_setMode 15 = .ok (.aload_n 0, 1) := by decide +kernel
theorem dX11_setMode_16 : decode cX11_setMode 16 = .ok (.iconst 1, 1) := by decide +kernel
theorem dX11_setMode_17 : decode cX11_setMode 17 = .ok (.invokevirtual 67, 3) := by decide +kernel
theorem dX11_setMode_20 : decode cX11_setMode 20 = .ok (.ireturn, 1) := by decide +kernel
theorem dX11_setMode_21 : decode cX11_setMode 21 = .ok (.iload_n 2, 1) := by decide +kernel
theorem dX11_setMode_22 : decode cX11_setMode 22 = .ok (.i2l, 1) := by decide +kernel
theorem dX11_setMode_23 : decode cX11_setMode 23 = .ok (.lconst 0, 1) := by decide +kernel
theorem dX11_setMode_24 : decode cX11_setMode 24 = .ok (.ldc2_w 32, 3) := by decide +kernel
theorem dX11_setMode_27 : decode cX11_setMode 27 = .ok (.invokestatic 63, 3) := by decide +kernel
theorem dX11_setMode_30 : decode cX11_setMode 30 = .ok (.ifCond .eq 28, 3) := by decide +kernel
theorem dX11_setMode_33 : decode cX11_setMode 33 = .ok (.iload_n 3, 1) := by decide +kernel
theorem dX11_setMode_34 : decode cX11_setMode 34 = .ok (.i2l, 1) := by decide +kernel
theorem dX11_setMode_35 : decode cX11_setMode 35 = .ok (.lconst 1, 1) := by decide +kernel
theorem dX11_setMode_36 : decode cX11_setMode 36 = .ok (.ldc2_w 80, 3) := by decide +kernel
theorem dX11_setMode_39 : decode cX11_setMode 39 = .ok (.invokestatic 63, 3) := by decide +kernel
theorem dX11_setMode_42 : decode cX11_setMode 42 = .ok (.ifCond .eq 16, 3) := by decide +kernel
theorem dX11_setMode_45 : decode cX11_setMode 45 = .ok (.iload 4, 2) := by decide +kernel
theorem dX11_setMode_47 : decode cX11_setMode 47 = .ok (.i2l, 1) := by decide +kernel
theorem dX11_setMode_48 : decode cX11_setMode 48 = .ok (.lconst 0, 1) := by decide +kernel
theorem dX11_setMode_49 : decode cX11_setMode 49 = .ok (.ldc2_w 44, 3) := by decide +kernel
theorem dX11_setMode_52 : decode cX11_setMode 52 = .ok (.invokestatic 63, 3) := by decide +kernel
theorem dX11_setMode_55 : decode cX11_setMode 55 = .ok (.ifCond .ne 9, 3) := by decide +kernel
theorem dX11_setMode_58 : decode cX11_setMode 58 = .ok (.aload_n 0, 1) := by decide +kernel
theorem dX11_setMode_59 : decode cX11_setMode 59 = .ok (.iconst 2, 1) := by decide +kernel
theorem dX11_setMode_60 : decode cX11_setMode 60 = .ok (.invokevirtual 67, 3) := by decide +kernel
theorem dX11_setMode_63 : decode cX11_setMode 63 = .ok (.ireturn, 1) := by decide +kernel
theorem dX11_setMode_64 : decode cX11_setMode 64 = .ok (.aload_n 0, 1) := by decide +kernel
theorem dX11_setMode_65 : decode cX11_setMode 65 = .ok (.invokevirtual 77, 3) := by decide +kernel
theorem dX11_setMode_68 : decode cX11_setMode 68 = .ok (.aload_n 0, 1) := by decide +kernel
theorem dX11_setMode_69 : decode cX11_setMode 69 = .ok (.getfield 7, 3) := by decide +kernel
theorem dX11_setMode_72 : decode cX11_setMode 72 = .ok (.bipush 17, 2) := by decide +kernel
theorem dX11_setMode_74 : decode cX11_setMode 74 = .ok (.iload_n 1, 1) := by decide +kernel
theorem dX11_setMode_75 : decode cX11_setMode 75 = .ok (.iadd, 1) := by decide +kernel
theorem dX11_setMode_76 : decode cX11_setMode 76 = .ok (.laload, 1) := by decide +kernel
theorem dX11_setMode_77 : decode cX11_setMode 77 = .ok (.l2i, 1) := by decide +kernel
theorem dX11_setMode_78 : decode cX11_setMode 78 = .ok (.istore 5, 2) := by decide +kernel
theorem dX11_setMode_80 : decode cX11_setMode 80 = .ok (.aload_n 0, 1) := by decide +kernel
theorem dX11_setMode_81 : decode cX11_setMode 81 = .ok (.getfield 7, 3) := by decide +kernel
theorem dX11_setMode_84 : decode cX11_setMode 84 = .ok (.bipush 17, 2) := by decide +kernel
theorem dX11_setMode_86 : decode cX11_setMode 86 = .ok (.iload_n 1, 1) := by decide +kernel
theorem dX11_setMode_87 : decode cX11_setMode 87 = .ok (.iadd, 1) := by decide +kernel
theorem dX11_setMode_88 : decode cX11_setMode 88 = .ok (.iload_n 2, 1) := by decide +kernel
theorem dX11_setMode_89 : decode cX11_setMode 89 = .ok (.i2l, 1) := by decide +kernel
theorem dX11_setMode_90 : decode cX11_setMode 90 = .ok (.lastore, 1) := by decide +kernel
theorem dX11_setMode_91 : decode cX11_setMode 91 = .ok (.aload_n 0, 1) := by decide +kernel
theorem dX11_setMode_92 : decode cX11_setMode 92 = .ok (.getfield 7, 3) := by decide +kernel
theorem dX11_setMode_95 : decode cX11_setMode 95 = .ok (.bipush 19, 2) := by decide +kernel
theorem dX11_setMode_97 : decode cX11_setMode 97 = .ok (.iload_n 1, 1) := by decide +kernel
theorem dX11_setMode_98 : decode cX11_setMode 98 = .ok (.iadd, 1) := by decide +kernel
theorem dX11_setMode_99 : decode cX11_setMode 99 = .ok (.iload_n 3, 1) := by decide +kernel
theorem dX11_setMode_100 : decode cX11_setMode 100 = .ok (.i2l, 1) := by decide +kernel
theorem dX11_setMode_101 : decode cX11_setMode 101 = .ok (.lastore, 1) := by decide +kernel
theorem dX11_setMode_102 : decode cX11_setMode 102 = .ok (.aload_n 0, 1) := by decide +kernel
theorem dX11_setMode_103 : decode cX11_setMode 103 = .ok (.getfield 7, 3) := by decide +kernel
theorem dX11_setMode_106 : decode cX11_setMode 106 = .ok (.bipush 21, 2) := by decide +kernel
theorem dX11_setMode_108 : decode cX11_setMode 108 = .ok (.iload_n 1, 1) := by decide +kernel
theorem dX11_setMode_109 : decode cX11_setMode 109 = .ok (.iadd, 1) := by decide +kernel
theorem dX11_setMode_110 : decode cX11_setMode 110 = .ok (.iload 4, 2) := by decide +kernel
theorem dX11_setMode_112 : decode cX11_setMode 112 = .ok (.i2l, 1) := by decide +kernel
theorem dX11_setMode_113 : decode cX11_setMode 113 = .ok (.lastore, 1) := by decide +kernel
theorem dX11_setMode_114 : decode cX11_setMode 114 = .ok (.iload 5, 2) := by decide +kernel
theorem dX11_setMode_116 : decode cX11_setMode 116 = .ok (.ireturn, 1) := by decide +kernel
def s_X11_setMode_1 (f_t_saved : Nat → Int64) (f_t_w : Nat → Int64) (u_9 : Int32 × (Nat → Int32)) : Int32 × (Nat → Int32) × (Nat → Int64) × (Nat → Int64) :=
  (u_9.1, u_9.2, f_t_saved, f_t_w)
def s_X11_setMode_2 (f_t_saved : Nat → Int64) (f_t_w : Nat → Int64) (u_3 : Int32 × (Nat → Int32)) : Int32 × (Nat → Int32) × (Nat → Int64) × (Nat → Int64) :=
  (u_3.1, u_3.2, f_t_saved, f_t_w)
def s_X11_setMode_3 (f_t_saved : Nat → Int64) (f_t_w : Nat → Int64) (u_5 : Int32 × (Nat → Int32)) : Int32 × (Nat → Int32) × (Nat → Int64) × (Nat → Int64) :=
  (u_5.1, u_5.2, f_t_saved, f_t_w)
def s_X11_setMode_4 (f_t_saved : Nat → Int64) (f_t_w : Nat → Int64) (u_8 : Int32 × (Nat → Int32)) : Int32 × (Nat → Int32) × (Nat → Int64) × (Nat → Int64) :=
  (u_8.1, u_8.2, f_t_saved, f_t_w)
def s_X11_setMode_5 (f_t_w : Nat → Int64) (p0 : Int32) (p1 : Int32) (p2 : Int32) (p3 : Int32) (u_7 : (Nat → Int32) × (Nat → Int64)) : Int32 × (Nat → Int32) × (Nat → Int64) × (Nat → Int64) :=
  ((Int64.toInt32 (f_t_w (Int32.toNatClampNeg (17 + p0)))), u_7.1, u_7.2, (vp_updL (vp_updL (vp_updL f_t_w (Int32.toNatClampNeg (17 + p0)) (Int32.toInt64 p1)) (Int32.toNatClampNeg (19 + p0)) (Int32.toInt64 p2)) (Int32.toNatClampNeg (21 + p0)) (Int32.toInt64 p3)))
def s_X11_setMode (f_t : Nat → Int32) (f_t_saved : Nat → Int64) (f_t_w : Nat → Int64) (p0 : Int32) (p1 : Int32) (p2 : Int32) (p3 : Int32) : Int32 × (Nat → Int32) × (Nat → Int64) × (Nat → Int64) :=
  (if (s_X11_in (Int32.toInt64 p0) 0 1) = 0 then (s_X11_setMode_1 f_t_saved f_t_w (s_X11_refuse (upd f_t 7 0) 1)) else (if (s_X11_in (Int32.toInt64 p1) 0 2) = 0 then (s_X11_setMode_2 f_t_saved f_t_w (s_X11_refuse (upd f_t 7 0) 2)) else (if (s_X11_in (Int32.toInt64 p2) 1 100) = 0 then (s_X11_setMode_3 f_t_saved f_t_w (s_X11_refuse (upd f_t 7 0) 2)) else (if (s_X11_in (Int32.toInt64 p3) 0 50) = 0 then (s_X11_setMode_4 f_t_saved f_t_w (s_X11_refuse (upd f_t 7 0) 2)) else (s_X11_setMode_5 f_t_w p0 p1 p2 p3 (s_X11_save (upd f_t 7 0) f_t_saved f_t_w))))))
set_option maxRecDepth 100000 in
set_option maxHeartbeats 4000000 in
theorem c_X11_setMode (l : Launch) (D : va_G) (cI cJ cO : ClassId) (h_t : Nat) (h_t_w : Nat) (h_t_saved : Nat) (h_t_trial : Nat) (h_t_text : Nat) (h_t_told : Nat) (f_t : Nat → Int32) (f_t_saved : Nat → Int64) (f_t_w : Nat → Int64) (p0 : Int32) (p1 : Int32) (p2 : Int32) (p3 : Int32) (hf_t_5 : kIn (f_t 5) 0 6) : kI l yX11_setMode cX11_setMode 6 .int 1 25 D (kT cI cJ cO) [.ref h_t, .int p0, .int p1, .int p2, .int p3] [(h_t, moE f_t h_t_w h_t_saved h_t_trial h_t_text h_t_told), (h_t_saved, jA cJ 1764 f_t_saved), (h_t_w, jA cJ 294 f_t_w)] ((s_X11_setMode f_t f_t_saved f_t_w p0 p1 p2 p3).1) [(h_t, moE (s_X11_setMode f_t f_t_saved f_t_w p0 p1 p2 p3).2.1 h_t_w h_t_saved h_t_trial h_t_text h_t_told), (h_t_saved, jA cJ 1764 (s_X11_setMode f_t f_t_saved f_t_w p0 p1 p2 p3).2.2.1), (h_t_w, jA cJ 294 (s_X11_setMode f_t f_t_saved f_t_w p0 p1 p2 p3).2.2.2)] := by
  refine kI_of (own := RX11) (lv := [(0, .ref h_t), (1, .int p0), (2, .int p1), (3, .int p2), (4, .int p3)]) rfl rfl (by decide) (Nat.le_of_ble_eq_true rfl) ?_
  intro p e s m args below meth c Q A C hret
  refine k_aload_n (pc := 0) C rfl 0 rfl dX11_setMode_0 ?_
  refine k_iconst (pc := 1) C iconst_0 dX11_setMode_1 ?_
  refine p_X11_7 (pc := 2) (ws2 := [(h_t, moE (upd f_t 7 0) h_t_w h_t_saved h_t_trial h_t_text h_t_told), (h_t_saved, jA cJ 1764 f_t_saved), (h_t_w, jA cJ 294 f_t_w)]) C q_1005 0 rfl rfl dX11_setMode_2 ?_
  refine k_iload_n (pc := 5) C rfl 1 rfl dX11_setMode_5 ?_
  refine k_i2l (pc := 6) C dX11_setMode_6 ?_
  refine k_lconst (pc := 7) C lconst_0 dX11_setMode_7 ?_
  refine k_lconst (pc := 8) C lconst_1 dX11_setMode_8 ?_
  refine k_callSi (pc := 9) (As := [.long (Int32.toInt64 p0), .long 0, .long 1]) (rest := []) (r := (s_X11_in (Int32.toInt64 p0) 0 1)) (wc := []) (wc2 := []) (ws2 := [(h_t, moE (upd f_t 7 0) h_t_w h_t_saved h_t_trial h_t_text h_t_told), (h_t_saved, jA cJ 1764 f_t_saved), (h_t_w, jA cJ 294 f_t_w)]) C (c_X11_in l D cI cJ cO (Int32.toInt64 p0) 0 1) cws_X11_in q_1051 [] rfl rfl (by decide) rfl rfl (Nat.le_of_ble_eq_true rfl) ⟨Nat.le_of_ble_eq_true rfl, Nat.le_of_ble_eq_true rfl⟩ rfl ⟨Nat.le_refl _, Nat.le_refl _⟩ dX11_setMode_9 ?_
  refine k_if_ne (pc := 12) (tgt := 21) C dX11_setMode_12 (by decide) (fun c_1 => ?_) (fun c_1 => ?_)
  · refine k_iload_n (pc := 21) C rfl 2 rfl dX11_setMode_21 ?_
    refine k_i2l (pc := 22) C dX11_setMode_22 ?_
    refine k_lconst (pc := 23) C lconst_0 dX11_setMode_23 ?_
    refine k_ldc2 (pc := 24) C q_989 dX11_setMode_24 ?_
    refine k_callSi (pc := 27) (As := [.long (Int32.toInt64 p1), .long 0, .long 2]) (rest := []) (r := (s_X11_in (Int32.toInt64 p1) 0 2)) (wc := []) (wc2 := []) (ws2 := [(h_t, moE (upd f_t 7 0) h_t_w h_t_saved h_t_trial h_t_text h_t_told), (h_t_saved, jA cJ 1764 f_t_saved), (h_t_w, jA cJ 294 f_t_w)]) C (c_X11_in l D cI cJ cO (Int32.toInt64 p1) 0 2) cws_X11_in q_1051 [] rfl rfl (by decide) rfl rfl (Nat.le_of_ble_eq_true rfl) ⟨Nat.le_of_ble_eq_true rfl, Nat.le_of_ble_eq_true rfl⟩ rfl ⟨Nat.le_refl _, Nat.le_refl _⟩ dX11_setMode_27 ?_
    refine k_if_eq (pc := 30) (tgt := 58) C dX11_setMode_30 (by decide) (fun c_2 => ?_) (fun c_2 => ?_)
    · refine k_aload_n (pc := 58) C rfl 0 rfl dX11_setMode_58 ?_
      refine k_iconst (pc := 59) C iconst_2 dX11_setMode_59 ?_
      obtain ⟨u_3, eu_3⟩ : ∃ z : Int32 × (Nat → Int32), z = (s_X11_refuse (upd f_t 7 0) 2) := ⟨_, rfl⟩
      refine k_callVi (pc := 60) (As := [.int 2]) (rest := []) (r := u_3.1) (wc := [(h_t, moE (upd f_t 7 0) h_t_w h_t_saved h_t_trial h_t_text h_t_told)]) (wc2 := [(h_t, moE u_3.2 h_t_w h_t_saved h_t_trial h_t_text h_t_told)]) (ws2 := [(h_t, moE u_3.2 h_t_w h_t_saved h_t_trial h_t_text h_t_told), (h_t_saved, jA cJ 1764 f_t_saved), (h_t_w, jA cJ 294 f_t_w)]) C (by rw [eu_3]; exact c_X11_refuse l D cI cJ cO h_t h_t_w h_t_saved h_t_trial h_t_text h_t_told (upd f_t 7 0) 2) cwv_X11_refuse q_1054 vX11 0 rfl [0] rfl rfl (by decide) rfl rfl (Nat.le_of_ble_eq_true rfl) ⟨Nat.le_of_ble_eq_true rfl, Nat.le_of_ble_eq_true rfl⟩ rfl ⟨Nat.le_refl _, Nat.le_refl _⟩ dX11_setMode_60 ?_
      have hs : (s_X11_setMode f_t f_t_saved f_t_w p0 p1 p2 p3) = (u_3.1, u_3.2, f_t_saved, f_t_w) := (k_st (g := s_X11_setMode_2 f_t_saved f_t_w) eu_3 ((if_neg c_1).trans (if_pos c_2)) rfl)
      exact k_finI (pc := 63) hret rfl (by rw [hs]) (by rw [hs]) dX11_setMode_63
    · refine k_iload_n (pc := 33) C rfl 3 rfl dX11_setMode_33 ?_
      refine k_i2l (pc := 34) C dX11_setMode_34 ?_
      refine k_lconst (pc := 35) C lconst_1 dX11_setMode_35 ?_
      refine k_ldc2 (pc := 36) C q_1072 dX11_setMode_36 ?_
      refine k_callSi (pc := 39) (As := [.long (Int32.toInt64 p2), .long 1, .long 100]) (rest := []) (r := (s_X11_in (Int32.toInt64 p2) 1 100)) (wc := []) (wc2 := []) (ws2 := [(h_t, moE (upd f_t 7 0) h_t_w h_t_saved h_t_trial h_t_text h_t_told), (h_t_saved, jA cJ 1764 f_t_saved), (h_t_w, jA cJ 294 f_t_w)]) C (c_X11_in l D cI cJ cO (Int32.toInt64 p2) 1 100) cws_X11_in q_1051 [] rfl rfl (by decide) rfl rfl (Nat.le_of_ble_eq_true rfl) ⟨Nat.le_of_ble_eq_true rfl, Nat.le_of_ble_eq_true rfl⟩ rfl ⟨Nat.le_refl _, Nat.le_refl _⟩ dX11_setMode_39 ?_
      refine k_if_eq (pc := 42) (tgt := 58) C dX11_setMode_42 (by decide) (fun c_4 => ?_) (fun c_4 => ?_)
      · refine k_aload_n (pc := 58) C rfl 0 rfl dX11_setMode_58 ?_
        refine k_iconst (pc := 59) C iconst_2 dX11_setMode_59 ?_
        obtain ⟨u_5, eu_5⟩ : ∃ z : Int32 × (Nat → Int32), z = (s_X11_refuse (upd f_t 7 0) 2) := ⟨_, rfl⟩
        refine k_callVi (pc := 60) (As := [.int 2]) (rest := []) (r := u_5.1) (wc := [(h_t, moE (upd f_t 7 0) h_t_w h_t_saved h_t_trial h_t_text h_t_told)]) (wc2 := [(h_t, moE u_5.2 h_t_w h_t_saved h_t_trial h_t_text h_t_told)]) (ws2 := [(h_t, moE u_5.2 h_t_w h_t_saved h_t_trial h_t_text h_t_told), (h_t_saved, jA cJ 1764 f_t_saved), (h_t_w, jA cJ 294 f_t_w)]) C (by rw [eu_5]; exact c_X11_refuse l D cI cJ cO h_t h_t_w h_t_saved h_t_trial h_t_text h_t_told (upd f_t 7 0) 2) cwv_X11_refuse q_1054 vX11 0 rfl [0] rfl rfl (by decide) rfl rfl (Nat.le_of_ble_eq_true rfl) ⟨Nat.le_of_ble_eq_true rfl, Nat.le_of_ble_eq_true rfl⟩ rfl ⟨Nat.le_refl _, Nat.le_refl _⟩ dX11_setMode_60 ?_
        have hs : (s_X11_setMode f_t f_t_saved f_t_w p0 p1 p2 p3) = (u_5.1, u_5.2, f_t_saved, f_t_w) := (k_st (g := s_X11_setMode_3 f_t_saved f_t_w) eu_5 ((if_neg c_1).trans ((if_neg c_2).trans (if_pos c_4))) rfl)
        exact k_finI (pc := 63) hret rfl (by rw [hs]) (by rw [hs]) dX11_setMode_63
      · refine k_iload (pc := 45) C 4 rfl dX11_setMode_45 ?_
        refine k_i2l (pc := 47) C dX11_setMode_47 ?_
        refine k_lconst (pc := 48) C lconst_0 dX11_setMode_48 ?_
        refine k_ldc2 (pc := 49) C q_995 dX11_setMode_49 ?_
        refine k_callSi (pc := 52) (As := [.long (Int32.toInt64 p3), .long 0, .long 50]) (rest := []) (r := (s_X11_in (Int32.toInt64 p3) 0 50)) (wc := []) (wc2 := []) (ws2 := [(h_t, moE (upd f_t 7 0) h_t_w h_t_saved h_t_trial h_t_text h_t_told), (h_t_saved, jA cJ 1764 f_t_saved), (h_t_w, jA cJ 294 f_t_w)]) C (c_X11_in l D cI cJ cO (Int32.toInt64 p3) 0 50) cws_X11_in q_1051 [] rfl rfl (by decide) rfl rfl (Nat.le_of_ble_eq_true rfl) ⟨Nat.le_of_ble_eq_true rfl, Nat.le_of_ble_eq_true rfl⟩ rfl ⟨Nat.le_refl _, Nat.le_refl _⟩ dX11_setMode_52 ?_
        refine k_if_ne (pc := 55) (tgt := 64) C dX11_setMode_55 (by decide) (fun c_6 => ?_) (fun c_6 => ?_)
        · refine k_aload_n (pc := 64) C rfl 0 rfl dX11_setMode_64 ?_
          obtain ⟨u_7, eu_7⟩ : ∃ z : (Nat → Int32) × (Nat → Int64), z = (s_X11_save (upd f_t 7 0) f_t_saved f_t_w) := ⟨_, rfl⟩
          refine k_callVv (pc := 65) (As := []) (rest := []) (wc := [(h_t, moE (upd f_t 7 0) h_t_w h_t_saved h_t_trial h_t_text h_t_told), (h_t_saved, jA cJ 1764 f_t_saved), (h_t_w, jA cJ 294 f_t_w)]) (wc2 := [(h_t, moE u_7.1 h_t_w h_t_saved h_t_trial h_t_text h_t_told), (h_t_saved, jA cJ 1764 u_7.2), (h_t_w, jA cJ 294 f_t_w)]) (ws2 := [(h_t, moE u_7.1 h_t_w h_t_saved h_t_trial h_t_text h_t_told), (h_t_saved, jA cJ 1764 u_7.2), (h_t_w, jA cJ 294 f_t_w)]) C (by rw [eu_7]; exact c_X11_save l D cI cJ cO h_t h_t_w h_t_saved h_t_trial h_t_text h_t_told (upd f_t 7 0) f_t_saved f_t_w (kIn.rw (F := (upd f_t 7 0)) (k := 5) (upn (by decide) rfl) hf_t_5 (by decide) (by decide))) cwv_X11_save q_1064 vX11 0 rfl [0, 1, 2] rfl rfl (by decide) rfl rfl (Nat.le_of_ble_eq_true rfl) ⟨Nat.le_of_ble_eq_true rfl, Nat.le_of_ble_eq_true rfl⟩ rfl ⟨Nat.le_refl _, Nat.le_refl _⟩ dX11_setMode_65 ?_
          refine k_aload_n (pc := 68) C rfl 0 rfl dX11_setMode_68 ?_
          refine g_X11_0 (pc := 69) C q_998 0 rfl dX11_setMode_69 ?_
          refine k_bipush (pc := 72) C bipush_17 dX11_setMode_72 ?_
          refine k_iload_n (pc := 74) C rfl 1 rfl dX11_setMode_74 ?_
          refine k_iadd (pc := 75) C dX11_setMode_75 ?_
          refine k_laldK (pc := 76) (v := (f_t_w (Int32.toNatClampNeg (17 + p0)))) C 2 1 rfl rfl (kIn.vp (kIn.add (kIn.lit (x := 17) (n := 17) (by decide)) (kIn.inb c_1 (kInL.lit (x := 0) (n := 0) (by decide)) (kInL.lit (x := 1) (n := 1) (by decide))) (by decide) (by decide)) (by decide) (by decide)) rfl rfl dX11_setMode_76 ?_
          refine k_l2i (pc := 77) C dX11_setMode_77 ?_
          refine k_istore (pc := 78) (lv2 := [(5, .int (Int64.toInt32 (f_t_w (Int32.toNatClampNeg (17 + p0))))), (0, .ref h_t), (1, .int p0), (2, .int p1), (3, .int p2), (4, .int p3)]) C (by decide) rfl dX11_setMode_78 ?_
          refine k_aload_n (pc := 80) C rfl 1 rfl dX11_setMode_80 ?_
          refine g_X11_0 (pc := 81) C q_998 0 rfl dX11_setMode_81 ?_
          refine k_bipush (pc := 84) C bipush_17 dX11_setMode_84 ?_
          refine k_iload_n (pc := 86) C rfl 2 rfl dX11_setMode_86 ?_
          refine k_iadd (pc := 87) C dX11_setMode_87 ?_
          refine k_iload_n (pc := 88) C rfl 3 rfl dX11_setMode_88 ?_
          refine k_i2l (pc := 89) C dX11_setMode_89 ?_
          refine k_lastK (pc := 90) (ws2 := [(h_t, moE u_7.1 h_t_w h_t_saved h_t_trial h_t_text h_t_told), (h_t_saved, jA cJ 1764 u_7.2), (h_t_w, jA cJ 294 (vp_updL f_t_w (Int32.toNatClampNeg (17 + p0)) (Int32.toInt64 p1)))]) C 2 1 rfl rfl (kIn.vp (kIn.add (kIn.lit (x := 17) (n := 17) (by decide)) (kIn.inb c_1 (kInL.lit (x := 0) (n := 0) (by decide)) (kInL.lit (x := 1) (n := 1) (by decide))) (by decide) (by decide)) (by decide) (by decide)) rfl rfl dX11_setMode_90 ?_
          refine k_aload_n (pc := 91) C rfl 1 rfl dX11_setMode_91 ?_
          refine g_X11_0 (pc := 92) C q_998 0 rfl dX11_setMode_92 ?_
          refine k_bipush (pc := 95) C bipush_19 dX11_setMode_95 ?_
          refine k_iload_n (pc := 97) C rfl 2 rfl dX11_setMode_97 ?_
          refine k_iadd (pc := 98) C dX11_setMode_98 ?_
          refine k_iload_n (pc := 99) C rfl 4 rfl dX11_setMode_99 ?_
          refine k_i2l (pc := 100) C dX11_setMode_100 ?_
          refine k_lastK (pc := 101) (ws2 := [(h_t, moE u_7.1 h_t_w h_t_saved h_t_trial h_t_text h_t_told), (h_t_saved, jA cJ 1764 u_7.2), (h_t_w, jA cJ 294 (vp_updL (vp_updL f_t_w (Int32.toNatClampNeg (17 + p0)) (Int32.toInt64 p1)) (Int32.toNatClampNeg (19 + p0)) (Int32.toInt64 p2)))]) C 2 1 rfl rfl (kIn.vp (kIn.add (kIn.lit (x := 19) (n := 19) (by decide)) (kIn.inb c_1 (kInL.lit (x := 0) (n := 0) (by decide)) (kInL.lit (x := 1) (n := 1) (by decide))) (by decide) (by decide)) (by decide) (by decide)) rfl rfl dX11_setMode_101 ?_
          refine k_aload_n (pc := 102) C rfl 1 rfl dX11_setMode_102 ?_
          refine g_X11_0 (pc := 103) C q_998 0 rfl dX11_setMode_103 ?_
          refine k_bipush (pc := 106) C bipush_21 dX11_setMode_106 ?_
          refine k_iload_n (pc := 108) C rfl 2 rfl dX11_setMode_108 ?_
          refine k_iadd (pc := 109) C dX11_setMode_109 ?_
          refine k_iload (pc := 110) C 5 rfl dX11_setMode_110 ?_
          refine k_i2l (pc := 112) C dX11_setMode_112 ?_
          refine k_lastK (pc := 113) (ws2 := [(h_t, moE u_7.1 h_t_w h_t_saved h_t_trial h_t_text h_t_told), (h_t_saved, jA cJ 1764 u_7.2), (h_t_w, jA cJ 294 (vp_updL (vp_updL (vp_updL f_t_w (Int32.toNatClampNeg (17 + p0)) (Int32.toInt64 p1)) (Int32.toNatClampNeg (19 + p0)) (Int32.toInt64 p2)) (Int32.toNatClampNeg (21 + p0)) (Int32.toInt64 p3)))]) C 2 1 rfl rfl (kIn.vp (kIn.add (kIn.lit (x := 21) (n := 21) (by decide)) (kIn.inb c_1 (kInL.lit (x := 0) (n := 0) (by decide)) (kInL.lit (x := 1) (n := 1) (by decide))) (by decide) (by decide)) (by decide) (by decide)) rfl rfl dX11_setMode_113 ?_
          refine k_iload (pc := 114) C 0 rfl dX11_setMode_114 ?_
          have hs : (s_X11_setMode f_t f_t_saved f_t_w p0 p1 p2 p3) = ((Int64.toInt32 (f_t_w (Int32.toNatClampNeg (17 + p0)))), u_7.1, u_7.2, (vp_updL (vp_updL (vp_updL f_t_w (Int32.toNatClampNeg (17 + p0)) (Int32.toInt64 p1)) (Int32.toNatClampNeg (19 + p0)) (Int32.toInt64 p2)) (Int32.toNatClampNeg (21 + p0)) (Int32.toInt64 p3))) := (k_st (g := s_X11_setMode_5 f_t_w p0 p1 p2 p3) eu_7 ((if_neg c_1).trans ((if_neg c_2).trans ((if_neg c_4).trans (if_neg c_6)))) rfl)
          exact k_finI (pc := 116) hret rfl (by rw [hs]) (by rw [hs]) dX11_setMode_116
        · refine k_aload_n (pc := 58) C rfl 0 rfl dX11_setMode_58 ?_
          refine k_iconst (pc := 59) C iconst_2 dX11_setMode_59 ?_
          obtain ⟨u_8, eu_8⟩ : ∃ z : Int32 × (Nat → Int32), z = (s_X11_refuse (upd f_t 7 0) 2) := ⟨_, rfl⟩
          refine k_callVi (pc := 60) (As := [.int 2]) (rest := []) (r := u_8.1) (wc := [(h_t, moE (upd f_t 7 0) h_t_w h_t_saved h_t_trial h_t_text h_t_told)]) (wc2 := [(h_t, moE u_8.2 h_t_w h_t_saved h_t_trial h_t_text h_t_told)]) (ws2 := [(h_t, moE u_8.2 h_t_w h_t_saved h_t_trial h_t_text h_t_told), (h_t_saved, jA cJ 1764 f_t_saved), (h_t_w, jA cJ 294 f_t_w)]) C (by rw [eu_8]; exact c_X11_refuse l D cI cJ cO h_t h_t_w h_t_saved h_t_trial h_t_text h_t_told (upd f_t 7 0) 2) cwv_X11_refuse q_1054 vX11 0 rfl [0] rfl rfl (by decide) rfl rfl (Nat.le_of_ble_eq_true rfl) ⟨Nat.le_of_ble_eq_true rfl, Nat.le_of_ble_eq_true rfl⟩ rfl ⟨Nat.le_refl _, Nat.le_refl _⟩ dX11_setMode_60 ?_
          have hs : (s_X11_setMode f_t f_t_saved f_t_w p0 p1 p2 p3) = (u_8.1, u_8.2, f_t_saved, f_t_w) := (k_st (g := s_X11_setMode_4 f_t_saved f_t_w) eu_8 ((if_neg c_1).trans ((if_neg c_2).trans ((if_neg c_4).trans (if_pos c_6)))) rfl)
          exact k_finI (pc := 63) hret rfl (by rw [hs]) (by rw [hs]) dX11_setMode_63
  · refine k_aload_n (pc := 15) C rfl 0 rfl dX11_setMode_15 ?_
    refine k_iconst (pc := 16) C iconst_1 dX11_setMode_16 ?_
    obtain ⟨u_9, eu_9⟩ : ∃ z : Int32 × (Nat → Int32), z = (s_X11_refuse (upd f_t 7 0) 1) := ⟨_, rfl⟩
    refine k_callVi (pc := 17) (As := [.int 1]) (rest := []) (r := u_9.1) (wc := [(h_t, moE (upd f_t 7 0) h_t_w h_t_saved h_t_trial h_t_text h_t_told)]) (wc2 := [(h_t, moE u_9.2 h_t_w h_t_saved h_t_trial h_t_text h_t_told)]) (ws2 := [(h_t, moE u_9.2 h_t_w h_t_saved h_t_trial h_t_text h_t_told), (h_t_saved, jA cJ 1764 f_t_saved), (h_t_w, jA cJ 294 f_t_w)]) C (by rw [eu_9]; exact c_X11_refuse l D cI cJ cO h_t h_t_w h_t_saved h_t_trial h_t_text h_t_told (upd f_t 7 0) 1) cwv_X11_refuse q_1054 vX11 0 rfl [0] rfl rfl (by decide) rfl rfl (Nat.le_of_ble_eq_true rfl) ⟨Nat.le_of_ble_eq_true rfl, Nat.le_of_ble_eq_true rfl⟩ rfl ⟨Nat.le_refl _, Nat.le_refl _⟩ dX11_setMode_17 ?_
    have hs : (s_X11_setMode f_t f_t_saved f_t_w p0 p1 p2 p3) = (u_9.1, u_9.2, f_t_saved, f_t_w) := (k_st (g := s_X11_setMode_1 f_t_saved f_t_w) eu_9 (if_pos c_1) rfl)
    exact k_finI (pc := 20) hret rfl (by rw [hs]) (by rw [hs]) dX11_setMode_20

theorem dX11_setPoints_0 : decode cX11_setPoints 0 = .ok (.aload_n 0, 1) := by decide +kernel
theorem dX11_setPoints_1 : decode cX11_setPoints 1 = .ok (.iconst 0, 1) := by decide +kernel
theorem dX11_setPoints_2 : decode cX11_setPoints 2 = .ok (.putfield 50, 3) := by decide +kernel
theorem dX11_setPoints_5 : decode cX11_setPoints 5 = .ok (.iload_n 1, 1) := by decide +kernel
theorem dX11_setPoints_6 : decode cX11_setPoints 6 = .ok (.invokestatic 86, 3) := by decide +kernel
theorem dX11_setPoints_9 : decode cX11_setPoints 9 = .ok (.ifCond .eq 10, 3) := by decide +kernel
theorem dX11_setPoints_12 : decode cX11_setPoints 12 = .ok (.iload_n 2, 1) := by decide +kernel
theorem dX11_setPoints_13 : decode cX11_setPoints 13 = .ok (.invokestatic 90, 3) := by decide +kernel
theorem dX11_setPoints_16 : decode cX11_setPoints 16 = .ok (.ifCond .ne 9, 3) := by decide +kernel
theorem dX11_setPoints_19 : decode cX11_setPoints 19 = .ok (.aload_n 0, 1) := by decide +kernel
theorem dX11_setPoints_20 : decode cX11_setPoints 20 = .ok (.iconst 1, 1) := by decide +kernel
theorem dX11_setPoints_21 : decode cX11_setPoints 21 = .ok (.invokevirtual 67, 3) := by decide +kernel
theorem dX11_setPoints_24 : decode cX11_setPoints 24 = .ok (.ireturn, 1) := by decide +kernel
theorem dX11_setPoints_25 : decode cX11_setPoints 25 = .ok (.aload_n 0, 1) := by decide +kernel
theorem dX11_setPoints_26 : decode cX11_setPoints 26 = .ok (.invokevirtual 93, 3) := by decide +kernel
theorem dX11_setPoints_29 : decode cX11_setPoints 29 = .ok (.ifCond .eq 9, 3) := by decide +kernel
theorem dX11_setPoints_32 : decode cX11_setPoints 32 = .ok (.aload_n 0, 1) := by decide +kernel
theorem dX11_setPoints_33 : decode cX11_setPoints 33 = .ok (.iconst 2, 1) := by decide +kernel
theorem dX11_setPoints_34 : decode cX11_setPoints 34 = .ok (.invokevirtual 67, 3) := by decide +kernel
theorem dX11_setPoints_37 : decode cX11_setPoints 37 = .ok (.ireturn, 1) := by decide +kernel
theorem dX11_setPoints_38 : decode cX11_setPoints 38 = .ok (.aload_n 0, 1) := by decide +kernel
theorem dX11_setPoints_39 : decode cX11_setPoints 39 = .ok (.invokevirtual 77, 3) := by decide +kernel
theorem dX11_setPoints_42 : decode cX11_setPoints 42 = .ok (.aload_n 0, 1) := by decide +kernel
theorem dX11_setPoints_43 : decode cX11_setPoints 43 = .ok (.getfield 7, 3) := by decide +kernel
theorem dX11_setPoints_46 : decode cX11_setPoints 46 = .ok (.bipush 14, 2) := by decide +kernel
theorem dX11_setPoints_48 : decode cX11_setPoints 48 = .ok (.laload, 1) := by decide +kernel
theorem dX11_setPoints_49 : decode cX11_setPoints 49 = .ok (.l2i, 1) := by decide +kernel
theorem dX11_setPoints_50 : decode cX11_setPoints 50 = .ok (.istore_n 3, 1) := by decide +kernel
theorem dX11_setPoints_51 : decode cX11_setPoints 51 = .ok (.aload_n 0, 1) := by decide +kernel
theorem dX11_setPoints_52 : decode cX11_setPoints 52 = .ok (.getfield 7, 3) := by decide +kernel
theorem dX11_setPoints_55 : decode cX11_setPoints 55 = .ok (.bipush 14, 2) := by decide +kernel
theorem dX11_setPoints_57 : decode cX11_setPoints 57 = .ok (.iload_n 1, 1) := by decide +kernel
theorem dX11_setPoints_58 : decode cX11_setPoints 58 = .ok (.i2l, 1) := by decide +kernel
theorem dX11_setPoints_59 : decode cX11_setPoints 59 = .ok (.lastore, 1) := by decide +kernel
theorem dX11_setPoints_60 : decode cX11_setPoints 60 = .ok (.aload_n 0, 1) := by decide +kernel
theorem dX11_setPoints_61 : decode cX11_setPoints 61 = .ok (.getfield 7, 3) := by decide +kernel
theorem dX11_setPoints_64 : decode cX11_setPoints 64 = .ok (.bipush 15, 2) := by decide +kernel
theorem dX11_setPoints_66 : decode cX11_setPoints 66 = .ok (.iload_n 2, 1) := by decide +kernel
theorem dX11_setPoints_67 : decode cX11_setPoints 67 = .ok (.i2l, 1) := by decide +kernel
theorem dX11_setPoints_68 : decode cX11_setPoints 68 = .ok (.lastore, 1) := by decide +kernel
theorem dX11_setPoints_69 : decode cX11_setPoints 69 = .ok (.iload_n 3, 1) := by decide +kernel
theorem dX11_setPoints_70 : decode cX11_setPoints 70 = .ok (.ireturn, 1) := by decide +kernel
def s_X11_setPoints_1 (f_t_w : Nat → Int64) (f_t_saved : Nat → Int64) (u_2 : Int32 × (Nat → Int32)) : Int32 × (Nat → Int32) × (Nat → Int64) × (Nat → Int64) :=
  (u_2.1, u_2.2, f_t_w, f_t_saved)
def s_X11_setPoints_2 (f_t_w : Nat → Int64) (f_t_saved : Nat → Int64) (u_7 : Int32 × (Nat → Int32)) : Int32 × (Nat → Int32) × (Nat → Int64) × (Nat → Int64) :=
  (u_7.1, u_7.2, f_t_w, f_t_saved)
def s_X11_setPoints_3 (f_t_w : Nat → Int64) (p0 : Int32) (p1 : Int32) (u_5 : (Nat → Int32) × (Nat → Int64)) : Int32 × (Nat → Int32) × (Nat → Int64) × (Nat → Int64) :=
  ((Int64.toInt32 (f_t_w 14)), u_5.1, (vp_updL (vp_updL f_t_w 14 (Int32.toInt64 p0)) 15 (Int32.toInt64 p1)), u_5.2)
def s_X11_setPoints_4 (f_t_w : Nat → Int64) (f_t_saved : Nat → Int64) (u_6 : Int32 × (Nat → Int32)) : Int32 × (Nat → Int32) × (Nat → Int64) × (Nat → Int64) :=
  (u_6.1, u_6.2, f_t_w, f_t_saved)
def s_X11_setPoints (f_t : Nat → Int32) (f_t_w : Nat → Int64) (f_t_saved : Nat → Int64) (p0 : Int32) (p1 : Int32) : Int32 × (Nat → Int32) × (Nat → Int64) × (Nat → Int64) :=
  (if (s_X11_isTemperature p0) = 0 then (s_X11_setPoints_1 f_t_w f_t_saved (s_X11_refuse (upd f_t 7 0) 1)) else (if (s_X11_isHumidity p1) = 0 then (s_X11_setPoints_2 f_t_w f_t_saved (s_X11_refuse (upd f_t 7 0) 1)) else (if (s_X11_runs (upd f_t 7 0) f_t_w) = 0 then (s_X11_setPoints_3 f_t_w p0 p1 (s_X11_save (upd f_t 7 0) f_t_saved f_t_w)) else (s_X11_setPoints_4 f_t_w f_t_saved (s_X11_refuse (upd f_t 7 0) 2)))))
set_option maxRecDepth 100000 in
set_option maxHeartbeats 4000000 in
theorem c_X11_setPoints (l : Launch) (D : va_G) (cI cJ cO : ClassId) (h_t : Nat) (h_t_w : Nat) (h_t_saved : Nat) (h_t_trial : Nat) (h_t_text : Nat) (h_t_told : Nat) (f_t : Nat → Int32) (f_t_w : Nat → Int64) (f_t_saved : Nat → Int64) (p0 : Int32) (p1 : Int32) (hf_t_5 : kIn (f_t 5) 0 6) : kI l yX11_setPoints cX11_setPoints 4 .int 2 45 D (kT cI cJ cO) [.ref h_t, .int p0, .int p1] [(h_t, moE f_t h_t_w h_t_saved h_t_trial h_t_text h_t_told), (h_t_w, jA cJ 294 f_t_w), (h_t_saved, jA cJ 1764 f_t_saved)] ((s_X11_setPoints f_t f_t_w f_t_saved p0 p1).1) [(h_t, moE (s_X11_setPoints f_t f_t_w f_t_saved p0 p1).2.1 h_t_w h_t_saved h_t_trial h_t_text h_t_told), (h_t_w, jA cJ 294 (s_X11_setPoints f_t f_t_w f_t_saved p0 p1).2.2.1), (h_t_saved, jA cJ 1764 (s_X11_setPoints f_t f_t_w f_t_saved p0 p1).2.2.2)] := by
  refine kI_of (own := RX11) (lv := [(0, .ref h_t), (1, .int p0), (2, .int p1)]) rfl rfl (by decide) (Nat.le_of_ble_eq_true rfl) ?_
  intro p e s m args below meth c Q A C hret
  refine k_aload_n (pc := 0) C rfl 0 rfl dX11_setPoints_0 ?_
  refine k_iconst (pc := 1) C iconst_0 dX11_setPoints_1 ?_
  refine p_X11_7 (pc := 2) (ws2 := [(h_t, moE (upd f_t 7 0) h_t_w h_t_saved h_t_trial h_t_text h_t_told), (h_t_w, jA cJ 294 f_t_w), (h_t_saved, jA cJ 1764 f_t_saved)]) C q_1005 0 rfl rfl dX11_setPoints_2 ?_
  refine k_iload_n (pc := 5) C rfl 1 rfl dX11_setPoints_5 ?_
  refine k_callSi (pc := 6) (As := [.int p0]) (rest := []) (r := (s_X11_isTemperature p0)) (wc := []) (wc2 := []) (ws2 := [(h_t, moE (upd f_t 7 0) h_t_w h_t_saved h_t_trial h_t_text h_t_told), (h_t_w, jA cJ 294 f_t_w), (h_t_saved, jA cJ 1764 f_t_saved)]) C (c_X11_isTemperature l D cI cJ cO p0) cws_X11_isTemperature q_1077 [] rfl rfl (by decide) rfl rfl (Nat.le_of_ble_eq_true rfl) ⟨Nat.le_of_ble_eq_true rfl, Nat.le_of_ble_eq_true rfl⟩ rfl ⟨Nat.le_refl _, Nat.le_refl _⟩ dX11_setPoints_6 ?_
  refine k_if_eq (pc := 9) (tgt := 19) C dX11_setPoints_9 (by decide) (fun c_1 => ?_) (fun c_1 => ?_)
  · refine k_aload_n (pc := 19) C rfl 0 rfl dX11_setPoints_19 ?_
    refine k_iconst (pc := 20) C iconst_1 dX11_setPoints_20 ?_
    obtain ⟨u_2, eu_2⟩ : ∃ z : Int32 × (Nat → Int32), z = (s_X11_refuse (upd f_t 7 0) 1) := ⟨_, rfl⟩
    refine k_callVi (pc := 21) (As := [.int 1]) (rest := []) (r := u_2.1) (wc := [(h_t, moE (upd f_t 7 0) h_t_w h_t_saved h_t_trial h_t_text h_t_told)]) (wc2 := [(h_t, moE u_2.2 h_t_w h_t_saved h_t_trial h_t_text h_t_told)]) (ws2 := [(h_t, moE u_2.2 h_t_w h_t_saved h_t_trial h_t_text h_t_told), (h_t_w, jA cJ 294 f_t_w), (h_t_saved, jA cJ 1764 f_t_saved)]) C (by rw [eu_2]; exact c_X11_refuse l D cI cJ cO h_t h_t_w h_t_saved h_t_trial h_t_text h_t_told (upd f_t 7 0) 1) cwv_X11_refuse q_1054 vX11 0 rfl [0] rfl rfl (by decide) rfl rfl (Nat.le_of_ble_eq_true rfl) ⟨Nat.le_of_ble_eq_true rfl, Nat.le_of_ble_eq_true rfl⟩ rfl ⟨Nat.le_refl _, Nat.le_refl _⟩ dX11_setPoints_21 ?_
    have hs : (s_X11_setPoints f_t f_t_w f_t_saved p0 p1) = (u_2.1, u_2.2, f_t_w, f_t_saved) := (k_st (g := s_X11_setPoints_1 f_t_w f_t_saved) eu_2 (if_pos c_1) rfl)
    exact k_finI (pc := 24) hret rfl (by rw [hs]) (by rw [hs]) dX11_setPoints_24
  · refine k_iload_n (pc := 12) C rfl 2 rfl dX11_setPoints_12 ?_
    refine k_callSi (pc := 13) (As := [.int p1]) (rest := []) (r := (s_X11_isHumidity p1)) (wc := []) (wc2 := []) (ws2 := [(h_t, moE (upd f_t 7 0) h_t_w h_t_saved h_t_trial h_t_text h_t_told), (h_t_w, jA cJ 294 f_t_w), (h_t_saved, jA cJ 1764 f_t_saved)]) C (c_X11_isHumidity l D cI cJ cO p1) cws_X11_isHumidity q_1082 [] rfl rfl (by decide) rfl rfl (Nat.le_of_ble_eq_true rfl) ⟨Nat.le_of_ble_eq_true rfl, Nat.le_of_ble_eq_true rfl⟩ rfl ⟨Nat.le_refl _, Nat.le_refl _⟩ dX11_setPoints_13 ?_
    refine k_if_ne (pc := 16) (tgt := 25) C dX11_setPoints_16 (by decide) (fun c_3 => ?_) (fun c_3 => ?_)
    · refine k_aload_n (pc := 25) C rfl 0 rfl dX11_setPoints_25 ?_
      refine k_callVi (pc := 26) (As := []) (rest := []) (r := (s_X11_runs (upd f_t 7 0) f_t_w)) (wc := [(h_t, moE (upd f_t 7 0) h_t_w h_t_saved h_t_trial h_t_text h_t_told), (h_t_w, jA cJ 294 f_t_w)]) (wc2 := [(h_t, moE (upd f_t 7 0) h_t_w h_t_saved h_t_trial h_t_text h_t_told), (h_t_w, jA cJ 294 f_t_w)]) (ws2 := [(h_t, moE (upd f_t 7 0) h_t_w h_t_saved h_t_trial h_t_text h_t_told), (h_t_w, jA cJ 294 f_t_w), (h_t_saved, jA cJ 1764 f_t_saved)]) C (c_X11_runs l D cI cJ cO h_t h_t_w h_t_saved h_t_trial h_t_text h_t_told (upd f_t 7 0) f_t_w) cwv_X11_runs q_1085 vX11 0 rfl [0, 1] rfl rfl (by decide) rfl rfl (Nat.le_of_ble_eq_true rfl) ⟨Nat.le_of_ble_eq_true rfl, Nat.le_of_ble_eq_true rfl⟩ rfl ⟨Nat.le_refl _, Nat.le_refl _⟩ dX11_setPoints_26 ?_
      refine k_if_eq (pc := 29) (tgt := 38) C dX11_setPoints_29 (by decide) (fun c_4 => ?_) (fun c_4 => ?_)
      · refine k_aload_n (pc := 38) C rfl 0 rfl dX11_setPoints_38 ?_
        obtain ⟨u_5, eu_5⟩ : ∃ z : (Nat → Int32) × (Nat → Int64), z = (s_X11_save (upd f_t 7 0) f_t_saved f_t_w) := ⟨_, rfl⟩
        refine k_callVv (pc := 39) (As := []) (rest := []) (wc := [(h_t, moE (upd f_t 7 0) h_t_w h_t_saved h_t_trial h_t_text h_t_told), (h_t_saved, jA cJ 1764 f_t_saved), (h_t_w, jA cJ 294 f_t_w)]) (wc2 := [(h_t, moE u_5.1 h_t_w h_t_saved h_t_trial h_t_text h_t_told), (h_t_saved, jA cJ 1764 u_5.2), (h_t_w, jA cJ 294 f_t_w)]) (ws2 := [(h_t, moE u_5.1 h_t_w h_t_saved h_t_trial h_t_text h_t_told), (h_t_w, jA cJ 294 f_t_w), (h_t_saved, jA cJ 1764 u_5.2)]) C (by rw [eu_5]; exact c_X11_save l D cI cJ cO h_t h_t_w h_t_saved h_t_trial h_t_text h_t_told (upd f_t 7 0) f_t_saved f_t_w (kIn.rw (F := (upd f_t 7 0)) (k := 5) (upn (by decide) rfl) hf_t_5 (by decide) (by decide))) cwv_X11_save q_1064 vX11 0 rfl [0, 2, 1] rfl rfl (by decide) rfl rfl (Nat.le_of_ble_eq_true rfl) ⟨Nat.le_of_ble_eq_true rfl, Nat.le_of_ble_eq_true rfl⟩ rfl ⟨Nat.le_refl _, Nat.le_refl _⟩ dX11_setPoints_39 ?_
        refine k_aload_n (pc := 42) C rfl 0 rfl dX11_setPoints_42 ?_
        refine g_X11_0 (pc := 43) C q_998 0 rfl dX11_setPoints_43 ?_
        refine k_bipush (pc := 46) C bipush_14 dX11_setPoints_46 ?_
        refine k_laldK (pc := 48) (v := (f_t_w 14)) C 1 1 rfl rfl (k_vinc 14 cl_14 (by decide) (by decide)) cl_14 rfl dX11_setPoints_48 ?_
        refine k_l2i (pc := 49) C dX11_setPoints_49 ?_
        refine k_istore_n (pc := 50) (lv2 := [(3, .int (Int64.toInt32 (f_t_w 14))), (0, .ref h_t), (1, .int p0), (2, .int p1)]) C rfl (by decide) rfl dX11_setPoints_50 ?_
        refine k_aload_n (pc := 51) C rfl 1 rfl dX11_setPoints_51 ?_
        refine g_X11_0 (pc := 52) C q_998 0 rfl dX11_setPoints_52 ?_
        refine k_bipush (pc := 55) C bipush_14 dX11_setPoints_55 ?_
        refine k_iload_n (pc := 57) C rfl 2 rfl dX11_setPoints_57 ?_
        refine k_i2l (pc := 58) C dX11_setPoints_58 ?_
        refine k_lastK (pc := 59) (ws2 := [(h_t, moE u_5.1 h_t_w h_t_saved h_t_trial h_t_text h_t_told), (h_t_w, jA cJ 294 (vp_updL f_t_w 14 (Int32.toInt64 p0))), (h_t_saved, jA cJ 1764 u_5.2)]) C 1 1 rfl rfl (k_vinc 14 cl_14 (by decide) (by decide)) cl_14 rfl dX11_setPoints_59 ?_
        refine k_aload_n (pc := 60) C rfl 1 rfl dX11_setPoints_60 ?_
        refine g_X11_0 (pc := 61) C q_998 0 rfl dX11_setPoints_61 ?_
        refine k_bipush (pc := 64) C bipush_15 dX11_setPoints_64 ?_
        refine k_iload_n (pc := 66) C rfl 3 rfl dX11_setPoints_66 ?_
        refine k_i2l (pc := 67) C dX11_setPoints_67 ?_
        refine k_lastK (pc := 68) (ws2 := [(h_t, moE u_5.1 h_t_w h_t_saved h_t_trial h_t_text h_t_told), (h_t_w, jA cJ 294 (vp_updL (vp_updL f_t_w 14 (Int32.toInt64 p0)) 15 (Int32.toInt64 p1))), (h_t_saved, jA cJ 1764 u_5.2)]) C 1 1 rfl rfl (k_vinc 15 cl_15 (by decide) (by decide)) cl_15 rfl dX11_setPoints_68 ?_
        refine k_iload_n (pc := 69) C rfl 0 rfl dX11_setPoints_69 ?_
        have hs : (s_X11_setPoints f_t f_t_w f_t_saved p0 p1) = ((Int64.toInt32 (f_t_w 14)), u_5.1, (vp_updL (vp_updL f_t_w 14 (Int32.toInt64 p0)) 15 (Int32.toInt64 p1)), u_5.2) := (k_st (g := s_X11_setPoints_3 f_t_w p0 p1) eu_5 ((if_neg c_1).trans ((if_neg c_3).trans (if_pos c_4))) rfl)
        exact k_finI (pc := 70) hret rfl (by rw [hs]) (by rw [hs]) dX11_setPoints_70
      · refine k_aload_n (pc := 32) C rfl 0 rfl dX11_setPoints_32 ?_
        refine k_iconst (pc := 33) C iconst_2 dX11_setPoints_33 ?_
        obtain ⟨u_6, eu_6⟩ : ∃ z : Int32 × (Nat → Int32), z = (s_X11_refuse (upd f_t 7 0) 2) := ⟨_, rfl⟩
        refine k_callVi (pc := 34) (As := [.int 2]) (rest := []) (r := u_6.1) (wc := [(h_t, moE (upd f_t 7 0) h_t_w h_t_saved h_t_trial h_t_text h_t_told)]) (wc2 := [(h_t, moE u_6.2 h_t_w h_t_saved h_t_trial h_t_text h_t_told)]) (ws2 := [(h_t, moE u_6.2 h_t_w h_t_saved h_t_trial h_t_text h_t_told), (h_t_w, jA cJ 294 f_t_w), (h_t_saved, jA cJ 1764 f_t_saved)]) C (by rw [eu_6]; exact c_X11_refuse l D cI cJ cO h_t h_t_w h_t_saved h_t_trial h_t_text h_t_told (upd f_t 7 0) 2) cwv_X11_refuse q_1054 vX11 0 rfl [0] rfl rfl (by decide) rfl rfl (Nat.le_of_ble_eq_true rfl) ⟨Nat.le_of_ble_eq_true rfl, Nat.le_of_ble_eq_true rfl⟩ rfl ⟨Nat.le_refl _, Nat.le_refl _⟩ dX11_setPoints_34 ?_
        have hs : (s_X11_setPoints f_t f_t_w f_t_saved p0 p1) = (u_6.1, u_6.2, f_t_w, f_t_saved) := (k_st (g := s_X11_setPoints_4 f_t_w f_t_saved) eu_6 ((if_neg c_1).trans ((if_neg c_3).trans (if_neg c_4))) rfl)
        exact k_finI (pc := 37) hret rfl (by rw [hs]) (by rw [hs]) dX11_setPoints_37
    · refine k_aload_n (pc := 19) C rfl 0 rfl dX11_setPoints_19 ?_
      refine k_iconst (pc := 20) C iconst_1 dX11_setPoints_20 ?_
      obtain ⟨u_7, eu_7⟩ : ∃ z : Int32 × (Nat → Int32), z = (s_X11_refuse (upd f_t 7 0) 1) := ⟨_, rfl⟩
      refine k_callVi (pc := 21) (As := [.int 1]) (rest := []) (r := u_7.1) (wc := [(h_t, moE (upd f_t 7 0) h_t_w h_t_saved h_t_trial h_t_text h_t_told)]) (wc2 := [(h_t, moE u_7.2 h_t_w h_t_saved h_t_trial h_t_text h_t_told)]) (ws2 := [(h_t, moE u_7.2 h_t_w h_t_saved h_t_trial h_t_text h_t_told), (h_t_w, jA cJ 294 f_t_w), (h_t_saved, jA cJ 1764 f_t_saved)]) C (by rw [eu_7]; exact c_X11_refuse l D cI cJ cO h_t h_t_w h_t_saved h_t_trial h_t_text h_t_told (upd f_t 7 0) 1) cwv_X11_refuse q_1054 vX11 0 rfl [0] rfl rfl (by decide) rfl rfl (Nat.le_of_ble_eq_true rfl) ⟨Nat.le_of_ble_eq_true rfl, Nat.le_of_ble_eq_true rfl⟩ rfl ⟨Nat.le_refl _, Nat.le_refl _⟩ dX11_setPoints_21 ?_
      have hs : (s_X11_setPoints f_t f_t_w f_t_saved p0 p1) = (u_7.1, u_7.2, f_t_w, f_t_saved) := (k_st (g := s_X11_setPoints_2 f_t_w f_t_saved) eu_7 ((if_neg c_1).trans (if_pos c_3)) rfl)
      exact k_finI (pc := 24) hret rfl (by rw [hs]) (by rw [hs]) dX11_setPoints_24

theorem dX11_door_0 : decode cX11_door 0 = .ok (.aload_n 0, 1) := by decide +kernel
theorem dX11_door_1 : decode cX11_door 1 = .ok (.iconst 0, 1) := by decide +kernel
theorem dX11_door_2 : decode cX11_door 2 = .ok (.putfield 50, 3) := by decide +kernel
theorem dX11_door_5 : decode cX11_door 5 = .ok (.aload_n 0, 1) := by decide +kernel
theorem dX11_door_6 : decode cX11_door 6 = .ok (.getfield 7, 3) := by decide +kernel
theorem dX11_door_9 : decode cX11_door 9 = .ok (.bipush 16, 2) := by decide +kernel
theorem dX11_door_11 : decode cX11_door 11 = .ok (.laload, 1) := by decide +kernel
theorem dX11_door_12 : decode cX11_door 12 = .ok (.lconst 1, 1) := by decide +kernel
theorem dX11_door_13 : decode cX11_door 13 = .ok (.lcmp, 1) := by decide +kernel
theorem dX11_door_14 : decode cX11_door 14 = .ok (.ifCond .ne 7, 3) := by decide +kernel
theorem dX11_door_17 : decode cX11_door 17 = .ok (.iconst 1, 1) := by decide +kernel
theorem dX11_door_18 : decode cX11_door 18 = .ok (.goto 4, 3) := by decide +kernel
theorem dX11_door_21 : decode cX11_door 21 = .ok (.iconst 0, 1) := by decide +kernel
theorem dX11_door_22 : decode cX11_door 22 = .ok (.iload_n 1, 1) := by decide +kernel
theorem dX11_door_23 : decode cX11_door 23 = .ok (.if_icmp .ne 9, 3) := by decide +kernel
theorem dX11_door_26 : decode cX11_door 26 = .ok (.aload_n 0, 1) := by decide +kernel
theorem dX11_door_27 : decode cX11_door 27 = .ok (.iconst 1, 1) := by decide +kernel
theorem dX11_door_28 : decode cX11_door 28 = .ok (.invokevirtual 67, 3) := by decide +kernel
theorem dX11_door_31 : decode cX11_door 31 = .ok (.ireturn, 1) := by decide +kernel
theorem dX11_door_32 : decode cX11_door 32 = .ok (.aload_n 0, 1) := by decide +kernel
theorem dX11_door_33 : decode cX11_door 33 = .ok (.invokevirtual 77, 3) := by decide +kernel
theorem dX11_door_36 : decode cX11_door 36 = .ok (.aload_n 0, 1) := by decide +kernel
theorem dX11_door_37 : decode cX11_door 37 = .ok (.getfield 7, 3) := by decide +kernel
theorem dX11_door_40 : decode cX11_door 40 = .ok (.bipush 16, 2) := by decide +kernel
theorem dX11_door_42 : decode cX11_door 42 = .ok (.iload_n 1, 1) := by decide +kernel
theorem dX11_door_43 : decode cX11_door 43 = .ok (.ifCond .eq 7, 3) := by decide +kernel
theorem dX11_door_46 : decode cX11_door 46 = .ok (.lconst 1, 1) := by decide +kernel
theorem dX11_door_47 : decode cX11_door 47 = .ok (.goto 4, 3) := by decide +kernel
theorem dX11_door_50 : decode cX11_door 50 = .ok (.lconst 0, 1) := by decide +kernel
theorem dX11_door_51 : decode cX11_door 51 = .ok (.lastore, 1) := by decide +kernel
theorem dX11_door_52 : decode cX11_door 52 = .ok (.aload_n 0, 1) := by decide +kernel
theorem dX11_door_53 : decode cX11_door 53 = .ok (.iload_n 1, 1) := by decide +kernel
theorem dX11_door_54 : decode cX11_door 54 = .ok (.ifCond .eq 8, 3) := by decide +kernel
theorem dX11_door_57 : decode cX11_door 57 = .ok (.bipush 7, 2) := by decide +kernel
theorem dX11_door_59 : decode cX11_door 59 = .ok (.goto 5, 3) := by decide +kernel
theorem dX11_door_62 : decode cX11_door 62 = .ok (.bipush 8, 2) := by decide +kernel
theorem dX11_door_64 : decode cX11_door 64 = .ok (.lconst 0, 1) := by decide +kernel
theorem dX11_door_65 : decode cX11_door 65 = .ok (.invokevirtual 97, 3) := by decide +kernel
theorem dX11_door_68 : decode cX11_door 68 = .ok (.aload_n 0, 1) := by decide +kernel
theorem dX11_door_69 : decode cX11_door 69 = .ok (.getfield 7, 3) := by decide +kernel
theorem dX11_door_72 : decode cX11_door 72 = .ok (.bipush 32, 2) := by decide +kernel
theorem dX11_door_74 : decode cX11_door 74 = .ok (.laload, 1) := by decide +kernel
theorem dX11_door_75 : decode cX11_door 75 = .ok (.l2i, 1) := by decide +kernel
theorem dX11_door_76 : decode cX11_door 76 = .ok (.ireturn, 1) := by decide +kernel
def s_X11_door_1 (f_t_w : Nat → Int64) (f_t_saved : Nat → Int64) (u_10 : Int32 × (Nat → Int32)) : Int32 × (Nat → Int32) × (Nat → Int64) × (Nat → Int64) :=
  (u_10.1, u_10.2, f_t_w, f_t_saved)
def s_X11_door_2 (f_t_w : Nat → Int64) (u_4 : (Nat → Int32) × (Nat → Int64)) (u_9 : (Nat → Int64)) : Int32 × (Nat → Int32) × (Nat → Int64) × (Nat → Int64) :=
  ((Int64.toInt32 (f_t_w 32)), u_4.1, u_9, u_4.2)
def s_X11_door_3 (f_t_w : Nat → Int64) (u_4 : (Nat → Int32) × (Nat → Int64)) (x_6 : Int64) (x_8 : Int32) : Int32 × (Nat → Int32) × (Nat → Int64) × (Nat → Int64) :=
  (s_X11_door_2 f_t_w u_4 (s_X11_enter u_4.1 (vp_updL f_t_w 16 x_6) x_8 0))
def s_X11_door_4 (f_t_w : Nat → Int64) (u_4 : (Nat → Int32) × (Nat → Int64)) (p0 : Int32) (x_6 : Int64) : Int32 × (Nat → Int32) × (Nat → Int64) × (Nat → Int64) :=
  (s_X11_door_3 f_t_w u_4 x_6 (if p0 = 0 then 8 else 7))
def s_X11_door_5 (f_t_w : Nat → Int64) (p0 : Int32) (u_4 : (Nat → Int32) × (Nat → Int64)) : Int32 × (Nat → Int32) × (Nat → Int64) × (Nat → Int64) :=
  (s_X11_door_4 f_t_w u_4 p0 (if p0 = 0 then 0 else 1))
def s_X11_door_6 (p0 : Int32) (f_t_w : Nat → Int64) (f_t_saved : Nat → Int64) (f_t : Nat → Int32) (x_2 : Int32) : Int32 × (Nat → Int32) × (Nat → Int64) × (Nat → Int64) :=
  (if x_2 = p0 then (s_X11_door_1 f_t_w f_t_saved (s_X11_refuse (upd f_t 7 0) 1)) else (s_X11_door_5 f_t_w p0 (s_X11_save (upd f_t 7 0) f_t_saved f_t_w)))
def s_X11_door (f_t : Nat → Int32) (f_t_w : Nat → Int64) (f_t_saved : Nat → Int64) (p0 : Int32) : Int32 × (Nat → Int32) × (Nat → Int64) × (Nat → Int64) :=
  (s_X11_door_6 p0 f_t_w f_t_saved f_t (if (f_t_w 16) = 1 then 1 else 0))
set_option maxRecDepth 100000 in
set_option maxHeartbeats 4000000 in
theorem c_X11_door (l : Launch) (D : va_G) (cI cJ cO : ClassId) (h_t : Nat) (h_t_w : Nat) (h_t_saved : Nat) (h_t_trial : Nat) (h_t_text : Nat) (h_t_told : Nat) (f_t : Nat → Int32) (f_t_w : Nat → Int64) (f_t_saved : Nat → Int64) (p0 : Int32) (hf_t_5 : kIn (f_t 5) 0 6) (hf_t_w_46 : kInL (f_t_w 46) 0 24) : kI l yX11_door cX11_door 2 .int 1 24 D (kT cI cJ cO) [.ref h_t, .int p0] [(h_t, moE f_t h_t_w h_t_saved h_t_trial h_t_text h_t_told), (h_t_w, jA cJ 294 f_t_w), (h_t_saved, jA cJ 1764 f_t_saved)] ((s_X11_door f_t f_t_w f_t_saved p0).1) [(h_t, moE (s_X11_door f_t f_t_w f_t_saved p0).2.1 h_t_w h_t_saved h_t_trial h_t_text h_t_told), (h_t_w, jA cJ 294 (s_X11_door f_t f_t_w f_t_saved p0).2.2.1), (h_t_saved, jA cJ 1764 (s_X11_door f_t f_t_w f_t_saved p0).2.2.2)] := by
  refine kI_of (own := RX11) (lv := [(0, .ref h_t), (1, .int p0)]) rfl rfl (by decide) (Nat.le_of_ble_eq_true rfl) ?_
  intro p e s m args below meth c Q A C hret
  refine k_aload_n (pc := 0) C rfl 0 rfl dX11_door_0 ?_
  refine k_iconst (pc := 1) C iconst_0 dX11_door_1 ?_
  refine p_X11_7 (pc := 2) (ws2 := [(h_t, moE (upd f_t 7 0) h_t_w h_t_saved h_t_trial h_t_text h_t_told), (h_t_w, jA cJ 294 f_t_w), (h_t_saved, jA cJ 1764 f_t_saved)]) C q_1005 0 rfl rfl dX11_door_2 ?_
  refine k_aload_n (pc := 5) C rfl 0 rfl dX11_door_5 ?_
  refine g_X11_0 (pc := 6) C q_998 0 rfl dX11_door_6 ?_
  refine k_bipush (pc := 9) C bipush_16 dX11_door_9 ?_
  refine k_laldK (pc := 11) (v := (f_t_w 16)) C 1 1 rfl rfl (k_vinc 16 cl_16 (by decide) (by decide)) cl_16 rfl dX11_door_11 ?_
  refine k_lconst (pc := 12) C lconst_1 dX11_door_12 ?_
  have K_11 : ∀ (x_2 : Int32), x_2 = (if (f_t_w 16) = 1 then 1 else 0) → KJ p l e (kR 1 24) s m args below meth c 0 0 Q D A 2 [(h_t, moE (upd f_t 7 0) h_t_w h_t_saved h_t_trial h_t_text h_t_told), (h_t_w, jA cJ 294 f_t_w), (h_t_saved, jA cJ 1764 f_t_saved)] [(0, .ref h_t), (1, .int p0)] [.int x_2] 22 := by
    intro x_2 ex_2
    refine k_iload_n (pc := 22) C rfl 1 rfl dX11_door_22 ?_
    refine k_icmp_ne (pc := 23) (tgt := 32) C dX11_door_23 (by decide) (fun c_3 => ?_) (fun c_3 => ?_)
    · refine k_aload_n (pc := 32) C rfl 0 rfl dX11_door_32 ?_
      obtain ⟨u_4, eu_4⟩ : ∃ z : (Nat → Int32) × (Nat → Int64), z = (s_X11_save (upd f_t 7 0) f_t_saved f_t_w) := ⟨_, rfl⟩
      refine k_callVv (pc := 33) (As := []) (rest := []) (wc := [(h_t, moE (upd f_t 7 0) h_t_w h_t_saved h_t_trial h_t_text h_t_told), (h_t_saved, jA cJ 1764 f_t_saved), (h_t_w, jA cJ 294 f_t_w)]) (wc2 := [(h_t, moE u_4.1 h_t_w h_t_saved h_t_trial h_t_text h_t_told), (h_t_saved, jA cJ 1764 u_4.2), (h_t_w, jA cJ 294 f_t_w)]) (ws2 := [(h_t, moE u_4.1 h_t_w h_t_saved h_t_trial h_t_text h_t_told), (h_t_w, jA cJ 294 f_t_w), (h_t_saved, jA cJ 1764 u_4.2)]) C (by rw [eu_4]; exact c_X11_save l D cI cJ cO h_t h_t_w h_t_saved h_t_trial h_t_text h_t_told (upd f_t 7 0) f_t_saved f_t_w (kIn.rw (F := (upd f_t 7 0)) (k := 5) (upn (by decide) rfl) hf_t_5 (by decide) (by decide))) cwv_X11_save q_1064 vX11 0 rfl [0, 2, 1] rfl rfl (by decide) rfl rfl (Nat.le_of_ble_eq_true rfl) ⟨Nat.le_of_ble_eq_true rfl, Nat.le_of_ble_eq_true rfl⟩ rfl ⟨Nat.le_refl _, Nat.le_refl _⟩ dX11_door_33 ?_
      refine k_aload_n (pc := 36) C rfl 0 rfl dX11_door_36 ?_
      refine g_X11_0 (pc := 37) C q_998 0 rfl dX11_door_37 ?_
      refine k_bipush (pc := 40) C bipush_16 dX11_door_40 ?_
      refine k_iload_n (pc := 42) C rfl 1 rfl dX11_door_42 ?_
      have K_12 : ∀ (x_6 : Int64), x_6 = (if p0 = 0 then 0 else 1) → KJ p l e (kR 1 24) s m args below meth c 0 0 Q D A 2 [(h_t, moE u_4.1 h_t_w h_t_saved h_t_trial h_t_text h_t_told), (h_t_w, jA cJ 294 f_t_w), (h_t_saved, jA cJ 1764 u_4.2)] [(0, .ref h_t), (1, .int p0)] [.long x_6, .int 16, .ref h_t_w] 51 := by
        intro x_6 ex_6
        refine k_lastK (pc := 51) (ws2 := [(h_t, moE u_4.1 h_t_w h_t_saved h_t_trial h_t_text h_t_told), (h_t_w, jA cJ 294 (vp_updL f_t_w 16 x_6)), (h_t_saved, jA cJ 1764 u_4.2)]) C 1 1 rfl rfl (k_vinc 16 cl_16 (by decide) (by decide)) cl_16 rfl dX11_door_51 ?_
        refine k_aload_n (pc := 52) C rfl 0 rfl dX11_door_52 ?_
        refine k_iload_n (pc := 53) C rfl 1 rfl dX11_door_53 ?_
        have K_13 : ∀ (x_8 : Int32), x_8 = (if p0 = 0 then 8 else 7) → KJ p l e (kR 1 24) s m args below meth c 0 0 Q D A 2 [(h_t, moE u_4.1 h_t_w h_t_saved h_t_trial h_t_text h_t_told), (h_t_w, jA cJ 294 (vp_updL f_t_w 16 x_6)), (h_t_saved, jA cJ 1764 u_4.2)] [(0, .ref h_t)] [.int x_8, .ref h_t] 64 := by
          intro x_8 ex_8
          refine k_lconst (pc := 64) C lconst_0 dX11_door_64 ?_
          obtain ⟨u_9, eu_9⟩ : ∃ z : (Nat → Int64), z = (s_X11_enter u_4.1 (vp_updL f_t_w 16 x_6) x_8 0) := ⟨_, rfl⟩
          refine k_callVv (pc := 65) (As := [.int x_8, .long 0]) (rest := []) (wc := [(h_t, moE u_4.1 h_t_w h_t_saved h_t_trial h_t_text h_t_told), (h_t_w, jA cJ 294 (vp_updL f_t_w 16 x_6))]) (wc2 := [(h_t, moE u_4.1 h_t_w h_t_saved h_t_trial h_t_text h_t_told), (h_t_w, jA cJ 294 u_9)]) (ws2 := [(h_t, moE u_4.1 h_t_w h_t_saved h_t_trial h_t_text h_t_told), (h_t_w, jA cJ 294 u_9), (h_t_saved, jA cJ 1764 u_4.2)]) C (by rw [eu_9]; exact c_X11_enter l D cI cJ cO h_t h_t_w h_t_saved h_t_trial h_t_text h_t_told u_4.1 (vp_updL f_t_w 16 x_6) x_8 0 (kInL.rw (F := (vp_updL f_t_w 16 x_6)) (k := 46) (upnL (by decide) rfl) hf_t_w_46 (by decide) (by decide))) cwv_X11_enter q_1093 vX11 0 rfl [0, 1] rfl rfl (by decide) rfl rfl (Nat.le_of_ble_eq_true rfl) ⟨Nat.le_of_ble_eq_true rfl, Nat.le_of_ble_eq_true rfl⟩ rfl ⟨Nat.le_refl _, Nat.le_refl _⟩ dX11_door_65 ?_
          refine k_aload_n (pc := 68) C rfl 0 rfl dX11_door_68 ?_
          refine g_X11_0 (pc := 69) C q_998 0 rfl dX11_door_69 ?_
          refine k_bipush (pc := 72) C bipush_32 dX11_door_72 ?_
          refine k_laldK (pc := 74) (v := (f_t_w 32)) C 1 1 rfl rfl (k_vinc 32 cl_32 (by decide) (by decide)) cl_32 (((fr_of eu_9 (fr_X11_enter u_4.1 (vp_updL f_t_w 16 x_6) x_8 0 (kInL.rw (F := (vp_updL f_t_w 16 x_6)) (k := 46) (upnL (by decide) rfl) hf_t_w_46 (by decide) (by decide)))) 32 (by decide)).trans (upnL (by decide) rfl)) dX11_door_74 ?_
          refine k_l2i (pc := 75) C dX11_door_75 ?_
          have hs : (s_X11_door f_t f_t_w f_t_saved p0) = ((Int64.toInt32 (f_t_w 32)), u_4.1, u_9, u_4.2) := (k_st (g := s_X11_door_6 p0 f_t_w f_t_saved f_t) ex_2 rfl (k_st (g := s_X11_door_5 f_t_w p0) eu_4 (if_neg c_3) (k_st (g := s_X11_door_4 f_t_w u_4 p0) ex_6 rfl (k_st (g := s_X11_door_3 f_t_w u_4 x_6) ex_8 rfl (k_st (g := s_X11_door_2 f_t_w u_4) eu_9 rfl rfl)))))
          exact k_finI (pc := 76) hret rfl (by rw [hs]) (by rw [hs]) dX11_door_76
        refine k_if_eq (pc := 54) (tgt := 62) C dX11_door_54 (by decide) (fun c_7 => ?_) (fun c_7 => ?_)
        · refine k_bipush (pc := 62) C bipush_8 dX11_door_62 ?_
          refine k_lpick (lv2 := [(0, .ref h_t)]) [0] rfl ?_
          exact K_13 8 (Eq.symm (if_pos c_7))
        · refine k_bipush (pc := 57) C bipush_7 dX11_door_57 ?_
          refine k_goto (pc := 59) (tgt := 64) C (by decide) dX11_door_59 ?_
          refine k_lpick (lv2 := [(0, .ref h_t)]) [0] rfl ?_
          exact K_13 7 (Eq.symm (if_neg c_7))
      refine k_if_eq (pc := 43) (tgt := 50) C dX11_door_43 (by decide) (fun c_5 => ?_) (fun c_5 => ?_)
      · refine k_lconst (pc := 50) C lconst_0 dX11_door_50 ?_
        exact K_12 0 (Eq.symm (if_pos c_5))
      · refine k_lconst (pc := 46) C lconst_1 dX11_door_46 ?_
        refine k_goto (pc := 47) (tgt := 51) C (by decide) dX11_door_47 ?_
        exact K_12 1 (Eq.symm (if_neg c_5))
    · refine k_aload_n (pc := 26) C rfl 0 rfl dX11_door_26 ?_
      refine k_iconst (pc := 27) C iconst_1 dX11_door_27 ?_
      obtain ⟨u_10, eu_10⟩ : ∃ z : Int32 × (Nat → Int32), z = (s_X11_refuse (upd f_t 7 0) 1) := ⟨_, rfl⟩
      refine k_callVi (pc := 28) (As := [.int 1]) (rest := []) (r := u_10.1) (wc := [(h_t, moE (upd f_t 7 0) h_t_w h_t_saved h_t_trial h_t_text h_t_told)]) (wc2 := [(h_t, moE u_10.2 h_t_w h_t_saved h_t_trial h_t_text h_t_told)]) (ws2 := [(h_t, moE u_10.2 h_t_w h_t_saved h_t_trial h_t_text h_t_told), (h_t_w, jA cJ 294 f_t_w), (h_t_saved, jA cJ 1764 f_t_saved)]) C (by rw [eu_10]; exact c_X11_refuse l D cI cJ cO h_t h_t_w h_t_saved h_t_trial h_t_text h_t_told (upd f_t 7 0) 1) cwv_X11_refuse q_1054 vX11 0 rfl [0] rfl rfl (by decide) rfl rfl (Nat.le_of_ble_eq_true rfl) ⟨Nat.le_of_ble_eq_true rfl, Nat.le_of_ble_eq_true rfl⟩ rfl ⟨Nat.le_refl _, Nat.le_refl _⟩ dX11_door_28 ?_
      have hs : (s_X11_door f_t f_t_w f_t_saved p0) = (u_10.1, u_10.2, f_t_w, f_t_saved) := (k_st (g := s_X11_door_6 p0 f_t_w f_t_saved f_t) ex_2 rfl (k_st (g := s_X11_door_1 f_t_w f_t_saved) eu_10 (if_pos c_3) rfl))
      exact k_finI (pc := 31) hret rfl (by rw [hs]) (by rw [hs]) dX11_door_31
  refine k_lcmp_ne (pc := 13) (tgt := 21) C dX11_door_13 dX11_door_14 (by decide) (fun c_1 => ?_) (fun c_1 => ?_)
  · refine k_iconst (pc := 21) C iconst_0 dX11_door_21 ?_
    exact K_11 0 (Eq.symm (if_neg c_1))
  · refine k_iconst (pc := 17) C iconst_1 dX11_door_17 ?_
    refine k_goto (pc := 18) (tgt := 22) C (by decide) dX11_door_18 ?_
    exact K_11 1 (Eq.symm (if_pos c_1))

theorem dX11_setCycles_0 : decode cX11_setCycles 0 = .ok (.aload_n 0, 1) := by decide +kernel
theorem dX11_setCycles_1 : decode cX11_setCycles 1 = .ok (.iconst 0, 1) := by decide +kernel
theorem dX11_setCycles_2 : decode cX11_setCycles 2 = .ok (.putfield 50, 3) := by decide +kernel
theorem dX11_setCycles_5 : decode cX11_setCycles 5 = .ok (.iload_n 1, 1) := by decide +kernel
theorem dX11_setCycles_6 : decode cX11_setCycles 6 = .ok (.i2l, 1) := by decide +kernel
theorem dX11_setCycles_7 : decode cX11_setCycles 7 = .ok (.lconst 1, 1) := by decide +kernel
theorem dX11_setCycles_8 : decode cX11_setCycles 8 = .ok (.ldc2_w 26, 3) := by decide +kernel
theorem dX11_setCycles_11 : decode cX11_setCycles 11 = .ok (.invokestatic 63, 3) := by decide +kernel
theorem dX11_setCycles_14 : decode cX11_setCycles 14 = .ok (.ifCond .ne 9, 3) := by decide +kernel
theorem dX11_setCycles_17 : decode cX11_setCycles 17 = .ok (.aload_n 0, 1) := by decide +kernel
theorem dX11_setCycles_18 : decode cX11_setCycles 18 = .ok (.iconst 1, 1) := by decide +kernel
theorem dX11_setCycles_19 : decode cX11_setCycles 19 = .ok (.invokevirtual 67, 3) := by decide +kernel
theorem dX11_setCycles_22 : decode cX11_setCycles 22 = .ok (.ireturn, 1) := by decide +kernel
theorem dX11_setCycles_23 : decode cX11_setCycles 23 = .ok (.aload_n 0, 1) := by decide +kernel
theorem dX11_setCycles_24 : decode cX11_setCycles 24 = .ok (.invokevirtual 93, 3) := by decide +kernel
theorem dX11_setCycles_27 : decode cX11_setCycles 27 = .ok (.ifCond .eq 9, 3) := by decide +kernel
theorem dX11_setCycles_30 : decode cX11_setCycles 30 = .ok (.aload_n 0, 1) := by decide +kernel
theorem dX11_setCycles_31 : decode cX11_setCycles 31 = .ok (.iconst 2, 1) := by decide +kernel
theorem dX11_setCycles_32 : decode cX11_setCycles 32 = .ok (.invokevirtual 67, 3) := by decide +kernel
theorem dX11_setCycles_35 : decode cX11_setCycles 35 = .ok (.ireturn, 1) := by decide +kernel
theorem dX11_setCycles_36 : decode cX11_setCycles 36 = .ok (.aload_n 0, 1) := by decide +kernel
theorem dX11_setCycles_37 : decode cX11_setCycles 37 = .ok (.invokevirtual 77, 3) := by decide +kernel
theorem dX11_setCycles_40 : decode cX11_setCycles 40 = .ok (.aload_n 0, 1) := by decide +kernel
theorem dX11_setCycles_41 : decode cX11_setCycles 41 = .ok (.getfield 7, 3) := by decide +kernel
theorem dX11_setCycles_44 : decode cX11_setCycles 44 = .ok (.bipush 44, 2) := by decide +kernel
theorem dX11_setCycles_46 : decode cX11_setCycles 46 = .ok (.laload, 1) := by decide +kernel
theorem dX11_setCycles_47 : decode cX11_setCycles 47 = .ok (.l2i, 1) := by decide +kernel
theorem dX11_setCycles_48 : decode cX11_setCycles 48 = .ok (.istore_n 2, 1) := by decide +kernel
theorem dX11_setCycles_49 : decode cX11_setCycles 49 = .ok (.aload_n 0, 1) := by decide +kernel
theorem dX11_setCycles_50 : decode cX11_setCycles 50 = .ok (.getfield 7, 3) := by decide +kernel
theorem dX11_setCycles_53 : decode cX11_setCycles 53 = .ok (.bipush 44, 2) := by decide +kernel
theorem dX11_setCycles_55 : decode cX11_setCycles 55 = .ok (.iload_n 1, 1) := by decide +kernel
theorem dX11_setCycles_56 : decode cX11_setCycles 56 = .ok (.i2l, 1) := by decide +kernel
theorem dX11_setCycles_57 : decode cX11_setCycles 57 = .ok (.lastore, 1) := by decide +kernel
theorem dX11_setCycles_58 : decode cX11_setCycles 58 = .ok (.iload_n 2, 1) := by decide +kernel
theorem dX11_setCycles_59 : decode cX11_setCycles 59 = .ok (.ireturn, 1) := by decide +kernel
def s_X11_setCycles_1 (f_t_w : Nat → Int64) (f_t_saved : Nat → Int64) (u_5 : Int32 × (Nat → Int32)) : Int32 × (Nat → Int32) × (Nat → Int64) × (Nat → Int64) :=
  (u_5.1, u_5.2, f_t_w, f_t_saved)
def s_X11_setCycles_2 (f_t_w : Nat → Int64) (p0 : Int32) (u_3 : (Nat → Int32) × (Nat → Int64)) : Int32 × (Nat → Int32) × (Nat → Int64) × (Nat → Int64) :=
  ((Int64.toInt32 (f_t_w 44)), u_3.1, (vp_updL f_t_w 44 (Int32.toInt64 p0)), u_3.2)
def s_X11_setCycles_3 (f_t_w : Nat → Int64) (f_t_saved : Nat → Int64) (u_4 : Int32 × (Nat → Int32)) : Int32 × (Nat → Int32) × (Nat → Int64) × (Nat → Int64) :=
  (u_4.1, u_4.2, f_t_w, f_t_saved)
def s_X11_setCycles (f_t : Nat → Int32) (f_t_w : Nat → Int64) (f_t_saved : Nat → Int64) (p0 : Int32) : Int32 × (Nat → Int32) × (Nat → Int64) × (Nat → Int64) :=
  (if (s_X11_in (Int32.toInt64 p0) 1 20) = 0 then (s_X11_setCycles_1 f_t_w f_t_saved (s_X11_refuse (upd f_t 7 0) 1)) else (if (s_X11_runs (upd f_t 7 0) f_t_w) = 0 then (s_X11_setCycles_2 f_t_w p0 (s_X11_save (upd f_t 7 0) f_t_saved f_t_w)) else (s_X11_setCycles_3 f_t_w f_t_saved (s_X11_refuse (upd f_t 7 0) 2))))
set_option maxRecDepth 100000 in
set_option maxHeartbeats 4000000 in
theorem c_X11_setCycles (l : Launch) (D : va_G) (cI cJ cO : ClassId) (h_t : Nat) (h_t_w : Nat) (h_t_saved : Nat) (h_t_trial : Nat) (h_t_text : Nat) (h_t_told : Nat) (f_t : Nat → Int32) (f_t_w : Nat → Int64) (f_t_saved : Nat → Int64) (p0 : Int32) (hf_t_5 : kIn (f_t 5) 0 6) : kI l yX11_setCycles cX11_setCycles 3 .int 1 25 D (kT cI cJ cO) [.ref h_t, .int p0] [(h_t, moE f_t h_t_w h_t_saved h_t_trial h_t_text h_t_told), (h_t_w, jA cJ 294 f_t_w), (h_t_saved, jA cJ 1764 f_t_saved)] ((s_X11_setCycles f_t f_t_w f_t_saved p0).1) [(h_t, moE (s_X11_setCycles f_t f_t_w f_t_saved p0).2.1 h_t_w h_t_saved h_t_trial h_t_text h_t_told), (h_t_w, jA cJ 294 (s_X11_setCycles f_t f_t_w f_t_saved p0).2.2.1), (h_t_saved, jA cJ 1764 (s_X11_setCycles f_t f_t_w f_t_saved p0).2.2.2)] := by
  refine kI_of (own := RX11) (lv := [(0, .ref h_t), (1, .int p0)]) rfl rfl (by decide) (Nat.le_of_ble_eq_true rfl) ?_
  intro p e s m args below meth c Q A C hret
  refine k_aload_n (pc := 0) C rfl 0 rfl dX11_setCycles_0 ?_
  refine k_iconst (pc := 1) C iconst_0 dX11_setCycles_1 ?_
  refine p_X11_7 (pc := 2) (ws2 := [(h_t, moE (upd f_t 7 0) h_t_w h_t_saved h_t_trial h_t_text h_t_told), (h_t_w, jA cJ 294 f_t_w), (h_t_saved, jA cJ 1764 f_t_saved)]) C q_1005 0 rfl rfl dX11_setCycles_2 ?_
  refine k_iload_n (pc := 5) C rfl 1 rfl dX11_setCycles_5 ?_
  refine k_i2l (pc := 6) C dX11_setCycles_6 ?_
  refine k_lconst (pc := 7) C lconst_1 dX11_setCycles_7 ?_
  refine k_ldc2 (pc := 8) C q_986 dX11_setCycles_8 ?_
  refine k_callSi (pc := 11) (As := [.long (Int32.toInt64 p0), .long 1, .long 20]) (rest := []) (r := (s_X11_in (Int32.toInt64 p0) 1 20)) (wc := []) (wc2 := []) (ws2 := [(h_t, moE (upd f_t 7 0) h_t_w h_t_saved h_t_trial h_t_text h_t_told), (h_t_w, jA cJ 294 f_t_w), (h_t_saved, jA cJ 1764 f_t_saved)]) C (c_X11_in l D cI cJ cO (Int32.toInt64 p0) 1 20) cws_X11_in q_1051 [] rfl rfl (by decide) rfl rfl (Nat.le_of_ble_eq_true rfl) ⟨Nat.le_of_ble_eq_true rfl, Nat.le_of_ble_eq_true rfl⟩ rfl ⟨Nat.le_refl _, Nat.le_refl _⟩ dX11_setCycles_11 ?_
  refine k_if_ne (pc := 14) (tgt := 23) C dX11_setCycles_14 (by decide) (fun c_1 => ?_) (fun c_1 => ?_)
  · refine k_aload_n (pc := 23) C rfl 0 rfl dX11_setCycles_23 ?_
    refine k_callVi (pc := 24) (As := []) (rest := []) (r := (s_X11_runs (upd f_t 7 0) f_t_w)) (wc := [(h_t, moE (upd f_t 7 0) h_t_w h_t_saved h_t_trial h_t_text h_t_told), (h_t_w, jA cJ 294 f_t_w)]) (wc2 := [(h_t, moE (upd f_t 7 0) h_t_w h_t_saved h_t_trial h_t_text h_t_told), (h_t_w, jA cJ 294 f_t_w)]) (ws2 := [(h_t, moE (upd f_t 7 0) h_t_w h_t_saved h_t_trial h_t_text h_t_told), (h_t_w, jA cJ 294 f_t_w), (h_t_saved, jA cJ 1764 f_t_saved)]) C (c_X11_runs l D cI cJ cO h_t h_t_w h_t_saved h_t_trial h_t_text h_t_told (upd f_t 7 0) f_t_w) cwv_X11_runs q_1085 vX11 0 rfl [0, 1] rfl rfl (by decide) rfl rfl (Nat.le_of_ble_eq_true rfl) ⟨Nat.le_of_ble_eq_true rfl, Nat.le_of_ble_eq_true rfl⟩ rfl ⟨Nat.le_refl _, Nat.le_refl _⟩ dX11_setCycles_24 ?_
    refine k_if_eq (pc := 27) (tgt := 36) C dX11_setCycles_27 (by decide) (fun c_2 => ?_) (fun c_2 => ?_)
    · refine k_aload_n (pc := 36) C rfl 0 rfl dX11_setCycles_36 ?_
      obtain ⟨u_3, eu_3⟩ : ∃ z : (Nat → Int32) × (Nat → Int64), z = (s_X11_save (upd f_t 7 0) f_t_saved f_t_w) := ⟨_, rfl⟩
      refine k_callVv (pc := 37) (As := []) (rest := []) (wc := [(h_t, moE (upd f_t 7 0) h_t_w h_t_saved h_t_trial h_t_text h_t_told), (h_t_saved, jA cJ 1764 f_t_saved), (h_t_w, jA cJ 294 f_t_w)]) (wc2 := [(h_t, moE u_3.1 h_t_w h_t_saved h_t_trial h_t_text h_t_told), (h_t_saved, jA cJ 1764 u_3.2), (h_t_w, jA cJ 294 f_t_w)]) (ws2 := [(h_t, moE u_3.1 h_t_w h_t_saved h_t_trial h_t_text h_t_told), (h_t_w, jA cJ 294 f_t_w), (h_t_saved, jA cJ 1764 u_3.2)]) C (by rw [eu_3]; exact c_X11_save l D cI cJ cO h_t h_t_w h_t_saved h_t_trial h_t_text h_t_told (upd f_t 7 0) f_t_saved f_t_w (kIn.rw (F := (upd f_t 7 0)) (k := 5) (upn (by decide) rfl) hf_t_5 (by decide) (by decide))) cwv_X11_save q_1064 vX11 0 rfl [0, 2, 1] rfl rfl (by decide) rfl rfl (Nat.le_of_ble_eq_true rfl) ⟨Nat.le_of_ble_eq_true rfl, Nat.le_of_ble_eq_true rfl⟩ rfl ⟨Nat.le_refl _, Nat.le_refl _⟩ dX11_setCycles_37 ?_
      refine k_aload_n (pc := 40) C rfl 0 rfl dX11_setCycles_40 ?_
      refine g_X11_0 (pc := 41) C q_998 0 rfl dX11_setCycles_41 ?_
      refine k_bipush (pc := 44) C bipush_44 dX11_setCycles_44 ?_
      refine k_laldK (pc := 46) (v := (f_t_w 44)) C 1 1 rfl rfl (k_vinc 44 cl_44 (by decide) (by decide)) cl_44 rfl dX11_setCycles_46 ?_
      refine k_l2i (pc := 47) C dX11_setCycles_47 ?_
      refine k_istore_n (pc := 48) (lv2 := [(2, .int (Int64.toInt32 (f_t_w 44))), (0, .ref h_t), (1, .int p0)]) C rfl (by decide) rfl dX11_setCycles_48 ?_
      refine k_aload_n (pc := 49) C rfl 1 rfl dX11_setCycles_49 ?_
      refine g_X11_0 (pc := 50) C q_998 0 rfl dX11_setCycles_50 ?_
      refine k_bipush (pc := 53) C bipush_44 dX11_setCycles_53 ?_
      refine k_iload_n (pc := 55) C rfl 2 rfl dX11_setCycles_55 ?_
      refine k_i2l (pc := 56) C dX11_setCycles_56 ?_
      refine k_lastK (pc := 57) (ws2 := [(h_t, moE u_3.1 h_t_w h_t_saved h_t_trial h_t_text h_t_told), (h_t_w, jA cJ 294 (vp_updL f_t_w 44 (Int32.toInt64 p0))), (h_t_saved, jA cJ 1764 u_3.2)]) C 1 1 rfl rfl (k_vinc 44 cl_44 (by decide) (by decide)) cl_44 rfl dX11_setCycles_57 ?_
      refine k_iload_n (pc := 58) C rfl 0 rfl dX11_setCycles_58 ?_
      have hs : (s_X11_setCycles f_t f_t_w f_t_saved p0) = ((Int64.toInt32 (f_t_w 44)), u_3.1, (vp_updL f_t_w 44 (Int32.toInt64 p0)), u_3.2) := (k_st (g := s_X11_setCycles_2 f_t_w p0) eu_3 ((if_neg c_1).trans (if_pos c_2)) rfl)
      exact k_finI (pc := 59) hret rfl (by rw [hs]) (by rw [hs]) dX11_setCycles_59
    · refine k_aload_n (pc := 30) C rfl 0 rfl dX11_setCycles_30 ?_
      refine k_iconst (pc := 31) C iconst_2 dX11_setCycles_31 ?_
      obtain ⟨u_4, eu_4⟩ : ∃ z : Int32 × (Nat → Int32), z = (s_X11_refuse (upd f_t 7 0) 2) := ⟨_, rfl⟩
      refine k_callVi (pc := 32) (As := [.int 2]) (rest := []) (r := u_4.1) (wc := [(h_t, moE (upd f_t 7 0) h_t_w h_t_saved h_t_trial h_t_text h_t_told)]) (wc2 := [(h_t, moE u_4.2 h_t_w h_t_saved h_t_trial h_t_text h_t_told)]) (ws2 := [(h_t, moE u_4.2 h_t_w h_t_saved h_t_trial h_t_text h_t_told), (h_t_w, jA cJ 294 f_t_w), (h_t_saved, jA cJ 1764 f_t_saved)]) C (by rw [eu_4]; exact c_X11_refuse l D cI cJ cO h_t h_t_w h_t_saved h_t_trial h_t_text h_t_told (upd f_t 7 0) 2) cwv_X11_refuse q_1054 vX11 0 rfl [0] rfl rfl (by decide) rfl rfl (Nat.le_of_ble_eq_true rfl) ⟨Nat.le_of_ble_eq_true rfl, Nat.le_of_ble_eq_true rfl⟩ rfl ⟨Nat.le_refl _, Nat.le_refl _⟩ dX11_setCycles_32 ?_
      have hs : (s_X11_setCycles f_t f_t_w f_t_saved p0) = (u_4.1, u_4.2, f_t_w, f_t_saved) := (k_st (g := s_X11_setCycles_3 f_t_w f_t_saved) eu_4 ((if_neg c_1).trans (if_neg c_2)) rfl)
      exact k_finI (pc := 35) hret rfl (by rw [hs]) (by rw [hs]) dX11_setCycles_35
  · refine k_aload_n (pc := 17) C rfl 0 rfl dX11_setCycles_17 ?_
    refine k_iconst (pc := 18) C iconst_1 dX11_setCycles_18 ?_
    obtain ⟨u_5, eu_5⟩ : ∃ z : Int32 × (Nat → Int32), z = (s_X11_refuse (upd f_t 7 0) 1) := ⟨_, rfl⟩
    refine k_callVi (pc := 19) (As := [.int 1]) (rest := []) (r := u_5.1) (wc := [(h_t, moE (upd f_t 7 0) h_t_w h_t_saved h_t_trial h_t_text h_t_told)]) (wc2 := [(h_t, moE u_5.2 h_t_w h_t_saved h_t_trial h_t_text h_t_told)]) (ws2 := [(h_t, moE u_5.2 h_t_w h_t_saved h_t_trial h_t_text h_t_told), (h_t_w, jA cJ 294 f_t_w), (h_t_saved, jA cJ 1764 f_t_saved)]) C (by rw [eu_5]; exact c_X11_refuse l D cI cJ cO h_t h_t_w h_t_saved h_t_trial h_t_text h_t_told (upd f_t 7 0) 1) cwv_X11_refuse q_1054 vX11 0 rfl [0] rfl rfl (by decide) rfl rfl (Nat.le_of_ble_eq_true rfl) ⟨Nat.le_of_ble_eq_true rfl, Nat.le_of_ble_eq_true rfl⟩ rfl ⟨Nat.le_refl _, Nat.le_refl _⟩ dX11_setCycles_19 ?_
    have hs : (s_X11_setCycles f_t f_t_w f_t_saved p0) = (u_5.1, u_5.2, f_t_w, f_t_saved) := (k_st (g := s_X11_setCycles_1 f_t_w f_t_saved) eu_5 (if_pos c_1) rfl)
    exact k_finI (pc := 22) hret rfl (by rw [hs]) (by rw [hs]) dX11_setCycles_22

theorem dX11_addSegment_0 : decode cX11_addSegment 0 = .ok (.aload_n 0, 1) := by decide +kernel
theorem dX11_addSegment_1 : decode cX11_addSegment 1 = .ok (.iconst 0, 1) := by decide +kernel
theorem dX11_addSegment_2 : decode cX11_addSegment 2 = .ok (.putfield 50, 3) := by decide +kernel
theorem dX11_addSegment_5 : decode cX11_addSegment 5 = .ok (.iload_n 1, 1) := by decide +kernel
theorem dX11_addSegment_6 : decode cX11_addSegment 6 = .ok (.iload_n 2, 1) := by decide +kernel
theorem dX11_addSegment_7 : decode cX11_addSegment 7 = .ok (.iload_n 3, 1) := by decide +kernel
theorem dX11_addSegment_8 : decode cX11_addSegment 8 = .ok (.iload 4, 2) := by decide +kernel
theorem dX11_addSegment_10 : decode cX11_addSegment 10 = .ok (.invokestatic 165, 3) := by decide +kernel
theorem dX11_addSegment_13 : decode cX11_addSegment 13 = .ok (.ifCond .ne 9, 3) := by decide +kernel
theorem dX11_addSegment_16 : decode cX11_addSegment 16 = .ok (.aload_n 0, 1) := by decide +kernel
theorem dX11_addSegment_17 : decode cX11_addSegment 17 = .ok (.iconst 1, 1) := by decide +kernel
theorem dX11_addSegment_18 : decode cX11_addSegment 18 = .ok (.invokevirtual 67, 3) := by decide +kernel
theorem dX11_addSegment_21 : decode cX11_addSegment 21 = .ok (.ireturn, 1) := by decide +kernel
theorem dX11_addSegment_22 : decode cX11_addSegment 22 = .ok (.aload_n 0, 1) := by decide +kernel
theorem dX11_addSegment_23 : decode cX11_addSegment 23 = .ok (.invokevirtual 93, 3) := by decide +kernel
theorem dX11_addSegment_26 : decode cX11_addSegment 26 = .ok (.ifCond .ne 17, 3) := by decide +kernel
theorem dX11_addSegment_29 : decode cX11_addSegment 29 = .ok (.aload_n 0, 1) := by decide +kernel
theorem dX11_addSegment_30 : decode cX11_addSegment 30 = .ok (.getfield 7, 3) := by decide +kernel
theorem dX11_addSegment_33 : decode cX11_addSegment 33 = .ok (.bipush 43, 2) := by decide +kernel
theorem dX11_addSegment_35 : decode cX11_addSegment 35 = .ok (.laload, 1) := by decide +kernel
theorem dX11_addSegment_36 : decode cX11_addSegment 36 = .ok (.ldc2_w 169, 3) := by decide +kernel
theorem dX11_addSegment_39 : decode cX11_addSegment 39 = .ok (.lcmp, 1) := by decide +kernel
theorem dX11_addSegment_40 : decode cX11_addSegment 40 = .ok (.ifCond .ne 9, 3) := by decide +kernel
theorem dX11_addSegment_43 : decode cX11_addSegment 43 = .ok (.aload_n 0, 1) := by decide +kernel
theorem dX11_addSegment_44 : decode cX11_addSegment 44 = .ok (.iconst 2, 1) := by decide +kernel
theorem dX11_addSegment_45 : decode cX11_addSegment 45 = .ok (.invokevirtual 67, 3) := by decide +kernel
theorem dX11_addSegment_48 : decode cX11_addSegment 48 = .ok (.ireturn, 1) := by decide +kernel
theorem dX11_addSegment_49 : decode cX11_addSegment 49 = .ok (.aload_n 0, 1) := by decide +kernel
theorem dX11_addSegment_50 : decode cX11_addSegment 50 = .ok (.invokevirtual 77, 3) := by decide +kernel
theorem dX11_addSegment_53 : decode cX11_addSegment 53 = .ok (.aload_n 0, 1) := by decide +kernel
theorem dX11_addSegment_54 : decode cX11_addSegment 54 = .ok (.aload_n 0, 1) := by decide +kernel
theorem dX11_addSegment_55 : decode cX11_addSegment 55 = .ok (.getfield 7, 3) := by decide +kernel
theorem dX11_addSegment_58 : decode cX11_addSegment 58 = .ok (.bipush 43, 2) := by decide +kernel
theorem dX11_addSegment_60 : decode cX11_addSegment 60 = .ok (.laload, 1) := by decide +kernel
theorem dX11_addSegment_61 : decode cX11_addSegment 61 = .ok (.l2i, 1) := by decide +kernel
theorem dX11_addSegment_62 : decode cX11_addSegment 62 = .ok (.iload_n 1, 1) := by decide +kernel
theorem dX11_addSegment_63 : decode cX11_addSegment 63 = .ok (.iload_n 2, 1) := by decide +kernel
theorem dX11_addSegment_64 : decode cX11_addSegment 64 = .ok (.iload_n 3, 1) := by decide +kernel
theorem dX11_addSegment_65 : decode cX11_addSegment 65 = .ok (.iload 4, 2) := by decide +kernel
theorem dX11_addSegment_67 : decode cX11_addSegment 67 = .ok (.invokevirtual 171, 3) := by decide +kernel
theorem dX11_addSegment_70 : decode cX11_addSegment 70 = .ok (.aload_n 0, 1) := by decide +kernel
theorem dX11_addSegment_71 : decode cX11_addSegment 71 = .ok (.getfield 7, 3) := by decide +kernel
theorem dX11_addSegment_74 : decode cX11_addSegment 74 = .ok (.bipush 43, 2) := by decide +kernel
theorem dX11_addSegment_76 : decode cX11_addSegment 76 = .ok (.dup2, 1) := by decide +kernel
theorem dX11_addSegment_77 : decode cX11_addSegment 77 = .ok (.laload, 1) := by decide +kernel
theorem dX11_addSegment_78 : decode cX11_addSegment 78 = .ok (.lconst 1, 1) := by decide +kernel
theorem dX11_addSegment_79 : decode cX11_addSegment 79 = .ok (.ladd, 1) := by decide +kernel
theorem dX11_addSegment_80 : decode cX11_addSegment 80 = .ok (.lastore, 1) := by decide +kernel
theorem dX11_addSegment_81 : decode cX11_addSegment 81 = .ok (.aload_n 0, 1) := by decide +kernel
theorem dX11_addSegment_82 : decode cX11_addSegment 82 = .ok (.getfield 7, 3) := by decide +kernel
theorem dX11_addSegment_85 : decode cX11_addSegment 85 = .ok (.bipush 43, 2) := by decide +kernel
theorem dX11_addSegment_87 : decode cX11_addSegment 87 = .ok (.laload, 1) := by decide +kernel
theorem dX11_addSegment_88 : decode cX11_addSegment 88 = .ok (.l2i, 1) := by decide +kernel
theorem dX11_addSegment_89 : decode cX11_addSegment 89 = .ok (.iconst 1, 1) := by decide +kernel
theorem dX11_addSegment_90 : decode cX11_addSegment 90 = .ok (.isub, 1) := by decide +kernel
theorem dX11_addSegment_91 : decode cX11_addSegment 91 = .ok (.ireturn, 1) := by decide +kernel
def s_X11_addSegment_1 (f_t_w : Nat → Int64) (f_t_saved : Nat → Int64) (u_8 : Int32 × (Nat → Int32)) : Int32 × (Nat → Int32) × (Nat → Int64) × (Nat → Int64) :=
  (u_8.1, u_8.2, f_t_w, f_t_saved)
def s_X11_addSegment_2 (f_t_w : Nat → Int64) (f_t_saved : Nat → Int64) (u_7 : Int32 × (Nat → Int32)) : Int32 × (Nat → Int32) × (Nat → Int64) × (Nat → Int64) :=
  (u_7.1, u_7.2, f_t_w, f_t_saved)
def s_X11_addSegment_3 (f_t_w : Nat → Int64) (u_5 : (Nat → Int32) × (Nat → Int64)) (u_6 : (Nat → Int64)) : Int32 × (Nat → Int32) × (Nat → Int64) × (Nat → Int64) :=
  (((Int64.toInt32 ((f_t_w 43) + 1)) - 1), u_5.1, (vp_updL u_6 43 ((f_t_w 43) + 1)), u_5.2)
def s_X11_addSegment_4 (f_t_w : Nat → Int64) (p0 : Int32) (p1 : Int32) (p2 : Int32) (p3 : Int32) (u_5 : (Nat → Int32) × (Nat → Int64)) : Int32 × (Nat → Int32) × (Nat → Int64) × (Nat → Int64) :=
  (s_X11_addSegment_3 f_t_w u_5 (s_X11_lay u_5.1 f_t_w (Int64.toInt32 (f_t_w 43)) p0 p1 p2 p3))
def s_X11_addSegment_5 (f_t_w : Nat → Int64) (f_t_saved : Nat → Int64) (u_3 : Int32 × (Nat → Int32)) : Int32 × (Nat → Int32) × (Nat → Int64) × (Nat → Int64) :=
  (u_3.1, u_3.2, f_t_w, f_t_saved)
def s_X11_addSegment (f_t : Nat → Int32) (f_t_w : Nat → Int64) (f_t_saved : Nat → Int64) (p0 : Int32) (p1 : Int32) (p2 : Int32) (p3 : Int32) : Int32 × (Nat → Int32) × (Nat → Int64) × (Nat → Int64) :=
  (if (s_X11_isSegment p0 p1 p2 p3) = 0 then (s_X11_addSegment_1 f_t_w f_t_saved (s_X11_refuse (upd f_t 7 0) 1)) else (if (s_X11_runs (upd f_t 7 0) f_t_w) = 0 then (if (f_t_w 43) = 12 then (s_X11_addSegment_2 f_t_w f_t_saved (s_X11_refuse (upd f_t 7 0) 2)) else (s_X11_addSegment_4 f_t_w p0 p1 p2 p3 (s_X11_save (upd f_t 7 0) f_t_saved f_t_w))) else (s_X11_addSegment_5 f_t_w f_t_saved (s_X11_refuse (upd f_t 7 0) 2))))
set_option maxRecDepth 100000 in
set_option maxHeartbeats 4000000 in
theorem c_X11_addSegment (l : Launch) (D : va_G) (cI cJ cO : ClassId) (h_t : Nat) (h_t_w : Nat) (h_t_saved : Nat) (h_t_trial : Nat) (h_t_text : Nat) (h_t_told : Nat) (f_t : Nat → Int32) (f_t_w : Nat → Int64) (f_t_saved : Nat → Int64) (p0 : Int32) (p1 : Int32) (p2 : Int32) (p3 : Int32) (hf_t_5 : kIn (f_t 5) 0 6) (hf_t_w_43 : kInL (f_t_w 43) 0 12) : kI l yX11_addSegment cX11_addSegment 5 .int 3 68 D (kT cI cJ cO) [.ref h_t, .int p0, .int p1, .int p2, .int p3] [(h_t, moE f_t h_t_w h_t_saved h_t_trial h_t_text h_t_told), (h_t_w, jA cJ 294 f_t_w), (h_t_saved, jA cJ 1764 f_t_saved)] ((s_X11_addSegment f_t f_t_w f_t_saved p0 p1 p2 p3).1) [(h_t, moE (s_X11_addSegment f_t f_t_w f_t_saved p0 p1 p2 p3).2.1 h_t_w h_t_saved h_t_trial h_t_text h_t_told), (h_t_w, jA cJ 294 (s_X11_addSegment f_t f_t_w f_t_saved p0 p1 p2 p3).2.2.1), (h_t_saved, jA cJ 1764 (s_X11_addSegment f_t f_t_w f_t_saved p0 p1 p2 p3).2.2.2)] := by
  refine kI_of (own := RX11) (lv := [(0, .ref h_t), (1, .int p0), (2, .int p1), (3, .int p2), (4, .int p3)]) rfl rfl (by decide) (Nat.le_of_ble_eq_true rfl) ?_
  intro p e s m args below meth c Q A C hret
  refine k_aload_n (pc := 0) C rfl 0 rfl dX11_addSegment_0 ?_
  refine k_iconst (pc := 1) C iconst_0 dX11_addSegment_1 ?_
  refine p_X11_7 (pc := 2) (ws2 := [(h_t, moE (upd f_t 7 0) h_t_w h_t_saved h_t_trial h_t_text h_t_told), (h_t_w, jA cJ 294 f_t_w), (h_t_saved, jA cJ 1764 f_t_saved)]) C q_1005 0 rfl rfl dX11_addSegment_2 ?_
  refine k_iload_n (pc := 5) C rfl 1 rfl dX11_addSegment_5 ?_
  refine k_iload_n (pc := 6) C rfl 2 rfl dX11_addSegment_6 ?_
  refine k_iload_n (pc := 7) C rfl 3 rfl dX11_addSegment_7 ?_
  refine k_iload (pc := 8) C 4 rfl dX11_addSegment_8 ?_
  refine k_callSi (pc := 10) (As := [.int p0, .int p1, .int p2, .int p3]) (rest := []) (r := (s_X11_isSegment p0 p1 p2 p3)) (wc := []) (wc2 := []) (ws2 := [(h_t, moE (upd f_t 7 0) h_t_w h_t_saved h_t_trial h_t_text h_t_told), (h_t_w, jA cJ 294 f_t_w), (h_t_saved, jA cJ 1764 f_t_saved)]) C (c_X11_isSegment l D cI cJ cO p0 p1 p2 p3) cws_X11_isSegment q_1169 [] rfl rfl (by decide) rfl rfl (Nat.le_of_ble_eq_true rfl) ⟨Nat.le_of_ble_eq_true rfl, Nat.le_of_ble_eq_true rfl⟩ rfl ⟨Nat.le_refl _, Nat.le_refl _⟩ dX11_addSegment_10 ?_
  refine k_if_ne (pc := 13) (tgt := 22) C dX11_addSegment_13 (by decide) (fun c_1 => ?_) (fun c_1 => ?_)
  · refine k_aload_n (pc := 22) C rfl 0 rfl dX11_addSegment_22 ?_
    refine k_callVi (pc := 23) (As := []) (rest := []) (r := (s_X11_runs (upd f_t 7 0) f_t_w)) (wc := [(h_t, moE (upd f_t 7 0) h_t_w h_t_saved h_t_trial h_t_text h_t_told), (h_t_w, jA cJ 294 f_t_w)]) (wc2 := [(h_t, moE (upd f_t 7 0) h_t_w h_t_saved h_t_trial h_t_text h_t_told), (h_t_w, jA cJ 294 f_t_w)]) (ws2 := [(h_t, moE (upd f_t 7 0) h_t_w h_t_saved h_t_trial h_t_text h_t_told), (h_t_w, jA cJ 294 f_t_w), (h_t_saved, jA cJ 1764 f_t_saved)]) C (c_X11_runs l D cI cJ cO h_t h_t_w h_t_saved h_t_trial h_t_text h_t_told (upd f_t 7 0) f_t_w) cwv_X11_runs q_1085 vX11 0 rfl [0, 1] rfl rfl (by decide) rfl rfl (Nat.le_of_ble_eq_true rfl) ⟨Nat.le_of_ble_eq_true rfl, Nat.le_of_ble_eq_true rfl⟩ rfl ⟨Nat.le_refl _, Nat.le_refl _⟩ dX11_addSegment_23 ?_
    refine k_if_ne (pc := 26) (tgt := 43) C dX11_addSegment_26 (by decide) (fun c_2 => ?_) (fun c_2 => ?_)
    · refine k_aload_n (pc := 43) C rfl 0 rfl dX11_addSegment_43 ?_
      refine k_iconst (pc := 44) C iconst_2 dX11_addSegment_44 ?_
      obtain ⟨u_3, eu_3⟩ : ∃ z : Int32 × (Nat → Int32), z = (s_X11_refuse (upd f_t 7 0) 2) := ⟨_, rfl⟩
      refine k_callVi (pc := 45) (As := [.int 2]) (rest := []) (r := u_3.1) (wc := [(h_t, moE (upd f_t 7 0) h_t_w h_t_saved h_t_trial h_t_text h_t_told)]) (wc2 := [(h_t, moE u_3.2 h_t_w h_t_saved h_t_trial h_t_text h_t_told)]) (ws2 := [(h_t, moE u_3.2 h_t_w h_t_saved h_t_trial h_t_text h_t_told), (h_t_w, jA cJ 294 f_t_w), (h_t_saved, jA cJ 1764 f_t_saved)]) C (by rw [eu_3]; exact c_X11_refuse l D cI cJ cO h_t h_t_w h_t_saved h_t_trial h_t_text h_t_told (upd f_t 7 0) 2) cwv_X11_refuse q_1054 vX11 0 rfl [0] rfl rfl (by decide) rfl rfl (Nat.le_of_ble_eq_true rfl) ⟨Nat.le_of_ble_eq_true rfl, Nat.le_of_ble_eq_true rfl⟩ rfl ⟨Nat.le_refl _, Nat.le_refl _⟩ dX11_addSegment_45 ?_
      have hs : (s_X11_addSegment f_t f_t_w f_t_saved p0 p1 p2 p3) = (u_3.1, u_3.2, f_t_w, f_t_saved) := (k_st (g := s_X11_addSegment_5 f_t_w f_t_saved) eu_3 ((if_neg c_1).trans (if_neg c_2)) rfl)
      exact k_finI (pc := 48) hret rfl (by rw [hs]) (by rw [hs]) dX11_addSegment_48
    · refine k_aload_n (pc := 29) C rfl 0 rfl dX11_addSegment_29 ?_
      refine g_X11_0 (pc := 30) C q_998 0 rfl dX11_addSegment_30 ?_
      refine k_bipush (pc := 33) C bipush_43 dX11_addSegment_33 ?_
      refine k_laldK (pc := 35) (v := (f_t_w 43)) C 1 1 rfl rfl (k_vinc 43 cl_43 (by decide) (by decide)) cl_43 rfl dX11_addSegment_35 ?_
      refine k_ldc2 (pc := 36) C q_1172 dX11_addSegment_36 ?_
      refine k_lcmp_ne (pc := 39) (tgt := 49) C dX11_addSegment_39 dX11_addSegment_40 (by decide) (fun c_4 => ?_) (fun c_4 => ?_)
      · refine k_aload_n (pc := 49) C rfl 0 rfl dX11_addSegment_49 ?_
        obtain ⟨u_5, eu_5⟩ : ∃ z : (Nat → Int32) × (Nat → Int64), z = (s_X11_save (upd f_t 7 0) f_t_saved f_t_w) := ⟨_, rfl⟩
        refine k_callVv (pc := 50) (As := []) (rest := []) (wc := [(h_t, moE (upd f_t 7 0) h_t_w h_t_saved h_t_trial h_t_text h_t_told), (h_t_saved, jA cJ 1764 f_t_saved), (h_t_w, jA cJ 294 f_t_w)]) (wc2 := [(h_t, moE u_5.1 h_t_w h_t_saved h_t_trial h_t_text h_t_told), (h_t_saved, jA cJ 1764 u_5.2), (h_t_w, jA cJ 294 f_t_w)]) (ws2 := [(h_t, moE u_5.1 h_t_w h_t_saved h_t_trial h_t_text h_t_told), (h_t_w, jA cJ 294 f_t_w), (h_t_saved, jA cJ 1764 u_5.2)]) C (by rw [eu_5]; exact c_X11_save l D cI cJ cO h_t h_t_w h_t_saved h_t_trial h_t_text h_t_told (upd f_t 7 0) f_t_saved f_t_w (kIn.rw (F := (upd f_t 7 0)) (k := 5) (upn (by decide) rfl) hf_t_5 (by decide) (by decide))) cwv_X11_save q_1064 vX11 0 rfl [0, 2, 1] rfl rfl (by decide) rfl rfl (Nat.le_of_ble_eq_true rfl) ⟨Nat.le_of_ble_eq_true rfl, Nat.le_of_ble_eq_true rfl⟩ rfl ⟨Nat.le_refl _, Nat.le_refl _⟩ dX11_addSegment_50 ?_
        refine k_aload_n (pc := 53) C rfl 0 rfl dX11_addSegment_53 ?_
        refine k_aload_n (pc := 54) C rfl 0 rfl dX11_addSegment_54 ?_
        refine g_X11_0 (pc := 55) C q_998 0 rfl dX11_addSegment_55 ?_
        refine k_bipush (pc := 58) C bipush_43 dX11_addSegment_58 ?_
        refine k_laldK (pc := 60) (v := (f_t_w 43)) C 1 1 rfl rfl (k_vinc 43 cl_43 (by decide) (by decide)) cl_43 rfl dX11_addSegment_60 ?_
        refine k_l2i (pc := 61) C dX11_addSegment_61 ?_
        refine k_iload_n (pc := 62) C rfl 1 rfl dX11_addSegment_62 ?_
        refine k_iload_n (pc := 63) C rfl 2 rfl dX11_addSegment_63 ?_
        refine k_iload_n (pc := 64) C rfl 3 rfl dX11_addSegment_64 ?_
        refine k_iload (pc := 65) C 4 rfl dX11_addSegment_65 ?_
        obtain ⟨u_6, eu_6⟩ : ∃ z : (Nat → Int64), z = (s_X11_lay u_5.1 f_t_w (Int64.toInt32 (f_t_w 43)) p0 p1 p2 p3) := ⟨_, rfl⟩
        refine k_callVv (pc := 67) (As := [.int (Int64.toInt32 (f_t_w 43)), .int p0, .int p1, .int p2, .int p3]) (rest := []) (wc := [(h_t, moE u_5.1 h_t_w h_t_saved h_t_trial h_t_text h_t_told), (h_t_w, jA cJ 294 f_t_w)]) (wc2 := [(h_t, moE u_5.1 h_t_w h_t_saved h_t_trial h_t_text h_t_told), (h_t_w, jA cJ 294 u_6)]) (ws2 := [(h_t, moE u_5.1 h_t_w h_t_saved h_t_trial h_t_text h_t_told), (h_t_w, jA cJ 294 u_6), (h_t_saved, jA cJ 1764 u_5.2)]) C (by rw [eu_6]; exact c_X11_lay l D cI cJ cO h_t h_t_w h_t_saved h_t_trial h_t_text h_t_told u_5.1 f_t_w (Int64.toInt32 (f_t_w 43)) p0 p1 p2 p3 (kIn.wk (kIn.l2i (kInL.neHi hf_t_w_43 c_4 (by decide)) (by decide) (by decide)) (by decide) (by decide))) cwv_X11_lay q_1173 vX11 0 rfl [0, 1] rfl rfl (by decide) rfl rfl (Nat.le_of_ble_eq_true rfl) ⟨Nat.le_of_ble_eq_true rfl, Nat.le_of_ble_eq_true rfl⟩ rfl ⟨Nat.le_refl _, Nat.le_refl _⟩ dX11_addSegment_67 ?_
        refine k_aload_n (pc := 70) C rfl 0 rfl dX11_addSegment_70 ?_
        refine g_X11_0 (pc := 71) C q_998 0 rfl dX11_addSegment_71 ?_
        refine k_bipush (pc := 74) C bipush_43 dX11_addSegment_74 ?_
        refine k_dup2 (pc := 76) C rfl rfl dX11_addSegment_76 ?_
        refine k_laldK (pc := 77) (v := (f_t_w 43)) C 1 1 rfl rfl (k_vinc 43 cl_43 (by decide) (by decide)) cl_43 (((fr_of eu_6 (fr_X11_lay u_5.1 f_t_w (Int64.toInt32 (f_t_w 43)) p0 p1 p2 p3 (kIn.wk (kIn.l2i (kInL.neHi hf_t_w_43 c_4 (by decide)) (by decide) (by decide)) (by decide) (by decide)))) 43 (by decide)).trans rfl) dX11_addSegment_77 ?_
        refine k_lconst (pc := 78) C lconst_1 dX11_addSegment_78 ?_
        refine k_ladd (pc := 79) C dX11_addSegment_79 ?_
        refine k_lastK (pc := 80) (ws2 := [(h_t, moE u_5.1 h_t_w h_t_saved h_t_trial h_t_text h_t_told), (h_t_w, jA cJ 294 (vp_updL u_6 43 ((f_t_w 43) + 1))), (h_t_saved, jA cJ 1764 u_5.2)]) C 1 1 rfl rfl (k_vinc 43 cl_43 (by decide) (by decide)) cl_43 rfl dX11_addSegment_80 ?_
        refine k_aload_n (pc := 81) C rfl 0 rfl dX11_addSegment_81 ?_
        refine g_X11_0 (pc := 82) C q_998 0 rfl dX11_addSegment_82 ?_
        refine k_bipush (pc := 85) C bipush_43 dX11_addSegment_85 ?_
        refine k_laldK (pc := 87) (v := ((f_t_w 43) + 1)) C 1 1 rfl rfl (k_vinc 43 cl_43 (by decide) (by decide)) cl_43 upsL dX11_addSegment_87 ?_
        refine k_l2i (pc := 88) C dX11_addSegment_88 ?_
        refine k_iconst (pc := 89) C iconst_1 dX11_addSegment_89 ?_
        refine k_isub (pc := 90) C dX11_addSegment_90 ?_
        have hs : (s_X11_addSegment f_t f_t_w f_t_saved p0 p1 p2 p3) = (((Int64.toInt32 ((f_t_w 43) + 1)) - 1), u_5.1, (vp_updL u_6 43 ((f_t_w 43) + 1)), u_5.2) := (k_st (g := s_X11_addSegment_4 f_t_w p0 p1 p2 p3) eu_5 ((if_neg c_1).trans ((if_pos c_2).trans (if_neg c_4))) (k_st (g := s_X11_addSegment_3 f_t_w u_5) eu_6 rfl rfl))
        exact k_finI (pc := 91) hret rfl (by rw [hs]) (by rw [hs]) dX11_addSegment_91
      · refine k_aload_n (pc := 43) C rfl 0 rfl dX11_addSegment_43 ?_
        refine k_iconst (pc := 44) C iconst_2 dX11_addSegment_44 ?_
        obtain ⟨u_7, eu_7⟩ : ∃ z : Int32 × (Nat → Int32), z = (s_X11_refuse (upd f_t 7 0) 2) := ⟨_, rfl⟩
        refine k_callVi (pc := 45) (As := [.int 2]) (rest := []) (r := u_7.1) (wc := [(h_t, moE (upd f_t 7 0) h_t_w h_t_saved h_t_trial h_t_text h_t_told)]) (wc2 := [(h_t, moE u_7.2 h_t_w h_t_saved h_t_trial h_t_text h_t_told)]) (ws2 := [(h_t, moE u_7.2 h_t_w h_t_saved h_t_trial h_t_text h_t_told), (h_t_w, jA cJ 294 f_t_w), (h_t_saved, jA cJ 1764 f_t_saved)]) C (by rw [eu_7]; exact c_X11_refuse l D cI cJ cO h_t h_t_w h_t_saved h_t_trial h_t_text h_t_told (upd f_t 7 0) 2) cwv_X11_refuse q_1054 vX11 0 rfl [0] rfl rfl (by decide) rfl rfl (Nat.le_of_ble_eq_true rfl) ⟨Nat.le_of_ble_eq_true rfl, Nat.le_of_ble_eq_true rfl⟩ rfl ⟨Nat.le_refl _, Nat.le_refl _⟩ dX11_addSegment_45 ?_
        have hs : (s_X11_addSegment f_t f_t_w f_t_saved p0 p1 p2 p3) = (u_7.1, u_7.2, f_t_w, f_t_saved) := (k_st (g := s_X11_addSegment_2 f_t_w f_t_saved) eu_7 ((if_neg c_1).trans ((if_pos c_2).trans (if_pos c_4))) rfl)
        exact k_finI (pc := 48) hret rfl (by rw [hs]) (by rw [hs]) dX11_addSegment_48
  · refine k_aload_n (pc := 16) C rfl 0 rfl dX11_addSegment_16 ?_
    refine k_iconst (pc := 17) C iconst_1 dX11_addSegment_17 ?_
    obtain ⟨u_8, eu_8⟩ : ∃ z : Int32 × (Nat → Int32), z = (s_X11_refuse (upd f_t 7 0) 1) := ⟨_, rfl⟩
    refine k_callVi (pc := 18) (As := [.int 1]) (rest := []) (r := u_8.1) (wc := [(h_t, moE (upd f_t 7 0) h_t_w h_t_saved h_t_trial h_t_text h_t_told)]) (wc2 := [(h_t, moE u_8.2 h_t_w h_t_saved h_t_trial h_t_text h_t_told)]) (ws2 := [(h_t, moE u_8.2 h_t_w h_t_saved h_t_trial h_t_text h_t_told), (h_t_w, jA cJ 294 f_t_w), (h_t_saved, jA cJ 1764 f_t_saved)]) C (by rw [eu_8]; exact c_X11_refuse l D cI cJ cO h_t h_t_w h_t_saved h_t_trial h_t_text h_t_told (upd f_t 7 0) 1) cwv_X11_refuse q_1054 vX11 0 rfl [0] rfl rfl (by decide) rfl rfl (Nat.le_of_ble_eq_true rfl) ⟨Nat.le_of_ble_eq_true rfl, Nat.le_of_ble_eq_true rfl⟩ rfl ⟨Nat.le_refl _, Nat.le_refl _⟩ dX11_addSegment_18 ?_
    have hs : (s_X11_addSegment f_t f_t_w f_t_saved p0 p1 p2 p3) = (u_8.1, u_8.2, f_t_w, f_t_saved) := (k_st (g := s_X11_addSegment_1 f_t_w f_t_saved) eu_8 (if_pos c_1) rfl)
    exact k_finI (pc := 21) hret rfl (by rw [hs]) (by rw [hs]) dX11_addSegment_21

theorem dX11_start_0 : decode cX11_start 0 = .ok (.aload_n 0, 1) := by decide +kernel
theorem dX11_start_1 : decode cX11_start 1 = .ok (.iconst 0, 1) := by decide +kernel
theorem dX11_start_2 : decode cX11_start 2 = .ok (.putfield 50, 3) := by decide +kernel
theorem dX11_start_5 : decode cX11_start 5 = .ok (.aload_n 0, 1) := by decide +kernel
theorem dX11_start_6 : decode cX11_start 6 = .ok (.invokevirtual 93, 3) := by decide +kernel
theorem dX11_start_9 : decode cX11_start 9 = .ok (.ifCond .ne 15, 3) := by decide +kernel
theorem dX11_start_12 : decode cX11_start 12 = .ok (.aload_n 0, 1) := by decide +kernel
theorem dX11_start_13 : decode cX11_start 13 = .ok (.getfield 7, 3) := by decide +kernel
theorem dX11_start_16 : decode cX11_start 16 = .ok (.bipush 43, 2) := by decide +kernel
theorem dX11_start_18 : decode cX11_start 18 = .ok (.laload, 1) := by decide +kernel
theorem dX11_start_19 : decode cX11_start 19 = .ok (.lconst 0, 1) := by decide +kernel
theorem dX11_start_20 : decode cX11_start 20 = .ok (.lcmp, 1) := by decide +kernel
theorem dX11_start_21 : decode cX11_start 21 = .ok (.ifCond .ne 9, 3) := by decide +kernel
theorem dX11_start_24 : decode cX11_start 24 = .ok (.aload_n 0, 1) := by decide +kernel
theorem dX11_start_25 : decode cX11_start 25 = .ok (.iconst 1, 1) := by decide +kernel
theorem dX11_start_26 : decode cX11_start 26 = .ok (.invokevirtual 67, 3) := by decide +kernel
theorem dX11_start_29 : decode cX11_start 29 = .ok (.ireturn, 1) := by decide +kernel
theorem dX11_start_30 : decode cX11_start 30 = .ok (.aload_n 0, 1) := by decide +kernel
theorem dX11_start_31 : decode cX11_start 31 = .ok (.invokevirtual 77, 3) := by decide +kernel
theorem dX11_start_34 : decode cX11_start 34 = .ok (.aload_n 0, 1) := by decide +kernel
theorem dX11_start_35 : decode cX11_start 35 = .ok (.getfield 7, 3) := by decide +kernel
theorem dX11_start_38 : decode cX11_start 38 = .ok (.bipush 34, 2) := by decide +kernel
theorem dX11_start_40 : decode cX11_start 40 = .ok (.lconst 0, 1) := by decide +kernel
theorem dX11_start_41 : decode cX11_start 41 = .ok (.lastore, 1) := by decide +kernel
theorem dX11_start_42 : decode cX11_start 42 = .ok (.aload_n 0, 1) := by decide +kernel
theorem dX11_start_43 : decode cX11_start 43 = .ok (.getfield 7, 3) := by decide +kernel
theorem dX11_start_46 : decode cX11_start 46 = .ok (.bipush 36, 2) := by decide +kernel
theorem dX11_start_48 : decode cX11_start 48 = .ok (.lconst 1, 1) := by decide +kernel
theorem dX11_start_49 : decode cX11_start 49 = .ok (.lastore, 1) := by decide +kernel
theorem dX11_start_50 : decode cX11_start 50 = .ok (.aload_n 0, 1) := by decide +kernel
theorem dX11_start_51 : decode cX11_start 51 = .ok (.iconst 1, 1) := by decide +kernel
theorem dX11_start_52 : decode cX11_start 52 = .ok (.aload_n 0, 1) := by decide +kernel
theorem dX11_start_53 : decode cX11_start 53 = .ok (.getfield 7, 3) := by decide +kernel
theorem dX11_start_56 : decode cX11_start 56 = .ok (.bipush 43, 2) := by decide +kernel
theorem dX11_start_58 : decode cX11_start 58 = .ok (.laload, 1) := by decide +kernel
theorem dX11_start_59 : decode cX11_start 59 = .ok (.invokevirtual 97, 3) := by decide +kernel
theorem dX11_start_62 : decode cX11_start 62 = .ok (.aload_n 0, 1) := by decide +kernel
theorem dX11_start_63 : decode cX11_start 63 = .ok (.lconst 0, 1) := by decide +kernel
theorem dX11_start_64 : decode cX11_start 64 = .ok (.aload_n 0, 1) := by decide +kernel
theorem dX11_start_65 : decode cX11_start 65 = .ok (.getfield 7, 3) := by decide +kernel
theorem dX11_start_68 : decode cX11_start 68 = .ok (.bipush 32, 2) := by decide +kernel
theorem dX11_start_70 : decode cX11_start 70 = .ok (.laload, 1) := by decide +kernel
theorem dX11_start_71 : decode cX11_start 71 = .ok (.invokevirtual 127, 3) := by decide +kernel
theorem dX11_start_74 : decode cX11_start 74 = .ok (.aload_n 0, 1) := by decide +kernel
theorem dX11_start_75 : decode cX11_start 75 = .ok (.getfield 7, 3) := by decide +kernel
theorem dX11_start_78 : decode cX11_start 78 = .ok (.bipush 43, 2) := by decide +kernel
theorem dX11_start_80 : decode cX11_start 80 = .ok (.laload, 1) := by decide +kernel
theorem dX11_start_81 : decode cX11_start 81 = .ok (.l2i, 1) := by decide +kernel
theorem dX11_start_82 : decode cX11_start 82 = .ok (.ireturn, 1) := by decide +kernel
def s_X11_start_1 (f_t_w : Nat → Int64) (f_t_saved : Nat → Int64) (u_7 : Int32 × (Nat → Int32)) : Int32 × (Nat → Int32) × (Nat → Int64) × (Nat → Int64) :=
  (u_7.1, u_7.2, f_t_w, f_t_saved)
def s_X11_start_2 (u_4 : (Nat → Int32) × (Nat → Int64)) (u_6 : (Nat → Int64)) : Int32 × (Nat → Int32) × (Nat → Int64) × (Nat → Int64) :=
  ((Int64.toInt32 (u_6 43)), u_4.1, u_6, u_4.2)
def s_X11_start_3 (u_4 : (Nat → Int32) × (Nat → Int64)) (f_t_w : Nat → Int64) (u_5 : (Nat → Int64)) : Int32 × (Nat → Int32) × (Nat → Int64) × (Nat → Int64) :=
  (s_X11_start_2 u_4 (s_X11_begin u_4.1 u_5 0 (f_t_w 32)))
def s_X11_start_4 (f_t_w : Nat → Int64) (u_4 : (Nat → Int32) × (Nat → Int64)) : Int32 × (Nat → Int32) × (Nat → Int64) × (Nat → Int64) :=
  (s_X11_start_3 u_4 f_t_w (s_X11_enter u_4.1 (vp_updL (vp_updL f_t_w 34 0) 36 1) 1 (f_t_w 43)))
def s_X11_start_5 (f_t_w : Nat → Int64) (f_t_saved : Nat → Int64) (u_2 : Int32 × (Nat → Int32)) : Int32 × (Nat → Int32) × (Nat → Int64) × (Nat → Int64) :=
  (u_2.1, u_2.2, f_t_w, f_t_saved)
def s_X11_start (f_t : Nat → Int32) (f_t_w : Nat → Int64) (f_t_saved : Nat → Int64) : Int32 × (Nat → Int32) × (Nat → Int64) × (Nat → Int64) :=
  (if (s_X11_runs (upd f_t 7 0) f_t_w) = 0 then (if (f_t_w 43) = 0 then (s_X11_start_1 f_t_w f_t_saved (s_X11_refuse (upd f_t 7 0) 1)) else (s_X11_start_4 f_t_w (s_X11_save (upd f_t 7 0) f_t_saved f_t_w))) else (s_X11_start_5 f_t_w f_t_saved (s_X11_refuse (upd f_t 7 0) 1)))
set_option maxRecDepth 100000 in
set_option maxHeartbeats 4000000 in
theorem c_X11_start (l : Launch) (D : va_G) (cI cJ cO : ClassId) (h_t : Nat) (h_t_w : Nat) (h_t_saved : Nat) (h_t_trial : Nat) (h_t_text : Nat) (h_t_told : Nat) (f_t : Nat → Int32) (f_t_w : Nat → Int64) (f_t_saved : Nat → Int64) (hf_t_5 : kIn (f_t 5) 0 6) (hf_t_w_46 : kInL (f_t_w 46) 0 24) : kI l yX11_start cX11_start 1 .int 2 48 D (kT cI cJ cO) [.ref h_t] [(h_t, moE f_t h_t_w h_t_saved h_t_trial h_t_text h_t_told), (h_t_w, jA cJ 294 f_t_w), (h_t_saved, jA cJ 1764 f_t_saved)] ((s_X11_start f_t f_t_w f_t_saved).1) [(h_t, moE (s_X11_start f_t f_t_w f_t_saved).2.1 h_t_w h_t_saved h_t_trial h_t_text h_t_told), (h_t_w, jA cJ 294 (s_X11_start f_t f_t_w f_t_saved).2.2.1), (h_t_saved, jA cJ 1764 (s_X11_start f_t f_t_w f_t_saved).2.2.2)] := by
  refine kI_of (own := RX11) (lv := [(0, .ref h_t)]) rfl rfl (by decide) (Nat.le_of_ble_eq_true rfl) ?_
  intro p e s m args below meth c Q A C hret
  refine k_aload_n (pc := 0) C rfl 0 rfl dX11_start_0 ?_
  refine k_iconst (pc := 1) C iconst_0 dX11_start_1 ?_
  refine p_X11_7 (pc := 2) (ws2 := [(h_t, moE (upd f_t 7 0) h_t_w h_t_saved h_t_trial h_t_text h_t_told), (h_t_w, jA cJ 294 f_t_w), (h_t_saved, jA cJ 1764 f_t_saved)]) C q_1005 0 rfl rfl dX11_start_2 ?_
  refine k_aload_n (pc := 5) C rfl 0 rfl dX11_start_5 ?_
  refine k_callVi (pc := 6) (As := []) (rest := []) (r := (s_X11_runs (upd f_t 7 0) f_t_w)) (wc := [(h_t, moE (upd f_t 7 0) h_t_w h_t_saved h_t_trial h_t_text h_t_told), (h_t_w, jA cJ 294 f_t_w)]) (wc2 := [(h_t, moE (upd f_t 7 0) h_t_w h_t_saved h_t_trial h_t_text h_t_told), (h_t_w, jA cJ 294 f_t_w)]) (ws2 := [(h_t, moE (upd f_t 7 0) h_t_w h_t_saved h_t_trial h_t_text h_t_told), (h_t_w, jA cJ 294 f_t_w), (h_t_saved, jA cJ 1764 f_t_saved)]) C (c_X11_runs l D cI cJ cO h_t h_t_w h_t_saved h_t_trial h_t_text h_t_told (upd f_t 7 0) f_t_w) cwv_X11_runs q_1085 vX11 0 rfl [0, 1] rfl rfl (by decide) rfl rfl (Nat.le_of_ble_eq_true rfl) ⟨Nat.le_of_ble_eq_true rfl, Nat.le_of_ble_eq_true rfl⟩ rfl ⟨Nat.le_refl _, Nat.le_refl _⟩ dX11_start_6 ?_
  refine k_if_ne (pc := 9) (tgt := 24) C dX11_start_9 (by decide) (fun c_1 => ?_) (fun c_1 => ?_)
  · refine k_aload_n (pc := 24) C rfl 0 rfl dX11_start_24 ?_
    refine k_iconst (pc := 25) C iconst_1 dX11_start_25 ?_
    obtain ⟨u_2, eu_2⟩ : ∃ z : Int32 × (Nat → Int32), z = (s_X11_refuse (upd f_t 7 0) 1) := ⟨_, rfl⟩
    refine k_callVi (pc := 26) (As := [.int 1]) (rest := []) (r := u_2.1) (wc := [(h_t, moE (upd f_t 7 0) h_t_w h_t_saved h_t_trial h_t_text h_t_told)]) (wc2 := [(h_t, moE u_2.2 h_t_w h_t_saved h_t_trial h_t_text h_t_told)]) (ws2 := [(h_t, moE u_2.2 h_t_w h_t_saved h_t_trial h_t_text h_t_told), (h_t_w, jA cJ 294 f_t_w), (h_t_saved, jA cJ 1764 f_t_saved)]) C (by rw [eu_2]; exact c_X11_refuse l D cI cJ cO h_t h_t_w h_t_saved h_t_trial h_t_text h_t_told (upd f_t 7 0) 1) cwv_X11_refuse q_1054 vX11 0 rfl [0] rfl rfl (by decide) rfl rfl (Nat.le_of_ble_eq_true rfl) ⟨Nat.le_of_ble_eq_true rfl, Nat.le_of_ble_eq_true rfl⟩ rfl ⟨Nat.le_refl _, Nat.le_refl _⟩ dX11_start_26 ?_
    have hs : (s_X11_start f_t f_t_w f_t_saved) = (u_2.1, u_2.2, f_t_w, f_t_saved) := (k_st (g := s_X11_start_5 f_t_w f_t_saved) eu_2 (if_neg c_1) rfl)
    exact k_finI (pc := 29) hret rfl (by rw [hs]) (by rw [hs]) dX11_start_29
  · refine k_aload_n (pc := 12) C rfl 0 rfl dX11_start_12 ?_
    refine g_X11_0 (pc := 13) C q_998 0 rfl dX11_start_13 ?_
    refine k_bipush (pc := 16) C bipush_43 dX11_start_16 ?_
    refine k_laldK (pc := 18) (v := (f_t_w 43)) C 1 1 rfl rfl (k_vinc 43 cl_43 (by decide) (by decide)) cl_43 rfl dX11_start_18 ?_
    refine k_lconst (pc := 19) C lconst_0 dX11_start_19 ?_
    refine k_lcmp_ne (pc := 20) (tgt := 30) C dX11_start_20 dX11_start_21 (by decide) (fun c_3 => ?_) (fun c_3 => ?_)
    · refine k_aload_n (pc := 30) C rfl 0 rfl dX11_start_30 ?_
      obtain ⟨u_4, eu_4⟩ : ∃ z : (Nat → Int32) × (Nat → Int64), z = (s_X11_save (upd f_t 7 0) f_t_saved f_t_w) := ⟨_, rfl⟩
      refine k_callVv (pc := 31) (As := []) (rest := []) (wc := [(h_t, moE (upd f_t 7 0) h_t_w h_t_saved h_t_trial h_t_text h_t_told), (h_t_saved, jA cJ 1764 f_t_saved), (h_t_w, jA cJ 294 f_t_w)]) (wc2 := [(h_t, moE u_4.1 h_t_w h_t_saved h_t_trial h_t_text h_t_told), (h_t_saved, jA cJ 1764 u_4.2), (h_t_w, jA cJ 294 f_t_w)]) (ws2 := [(h_t, moE u_4.1 h_t_w h_t_saved h_t_trial h_t_text h_t_told), (h_t_w, jA cJ 294 f_t_w), (h_t_saved, jA cJ 1764 u_4.2)]) C (by rw [eu_4]; exact c_X11_save l D cI cJ cO h_t h_t_w h_t_saved h_t_trial h_t_text h_t_told (upd f_t 7 0) f_t_saved f_t_w (kIn.rw (F := (upd f_t 7 0)) (k := 5) (upn (by decide) rfl) hf_t_5 (by decide) (by decide))) cwv_X11_save q_1064 vX11 0 rfl [0, 2, 1] rfl rfl (by decide) rfl rfl (Nat.le_of_ble_eq_true rfl) ⟨Nat.le_of_ble_eq_true rfl, Nat.le_of_ble_eq_true rfl⟩ rfl ⟨Nat.le_refl _, Nat.le_refl _⟩ dX11_start_31 ?_
      refine k_aload_n (pc := 34) C rfl 0 rfl dX11_start_34 ?_
      refine g_X11_0 (pc := 35) C q_998 0 rfl dX11_start_35 ?_
      refine k_bipush (pc := 38) C bipush_34 dX11_start_38 ?_
      refine k_lconst (pc := 40) C lconst_0 dX11_start_40 ?_
      refine k_lastK (pc := 41) (ws2 := [(h_t, moE u_4.1 h_t_w h_t_saved h_t_trial h_t_text h_t_told), (h_t_w, jA cJ 294 (vp_updL f_t_w 34 0)), (h_t_saved, jA cJ 1764 u_4.2)]) C 1 1 rfl rfl (k_vinc 34 cl_34 (by decide) (by decide)) cl_34 rfl dX11_start_41 ?_
      refine k_aload_n (pc := 42) C rfl 0 rfl dX11_start_42 ?_
      refine g_X11_0 (pc := 43) C q_998 0 rfl dX11_start_43 ?_
      refine k_bipush (pc := 46) C bipush_36 dX11_start_46 ?_
      refine k_lconst (pc := 48) C lconst_1 dX11_start_48 ?_
      refine k_lastK (pc := 49) (ws2 := [(h_t, moE u_4.1 h_t_w h_t_saved h_t_trial h_t_text h_t_told), (h_t_w, jA cJ 294 (vp_updL (vp_updL f_t_w 34 0) 36 1)), (h_t_saved, jA cJ 1764 u_4.2)]) C 1 1 rfl rfl (k_vinc 36 cl_36 (by decide) (by decide)) cl_36 rfl dX11_start_49 ?_
      refine k_aload_n (pc := 50) C rfl 0 rfl dX11_start_50 ?_
      refine k_iconst (pc := 51) C iconst_1 dX11_start_51 ?_
      refine k_aload_n (pc := 52) C rfl 0 rfl dX11_start_52 ?_
      refine g_X11_0 (pc := 53) C q_998 0 rfl dX11_start_53 ?_
      refine k_bipush (pc := 56) C bipush_43 dX11_start_56 ?_
      refine k_laldK (pc := 58) (v := (f_t_w 43)) C 1 1 rfl rfl (k_vinc 43 cl_43 (by decide) (by decide)) cl_43 (upnL (by decide) (upnL (by decide) rfl)) dX11_start_58 ?_
      obtain ⟨u_5, eu_5⟩ : ∃ z : (Nat → Int64), z = (s_X11_enter u_4.1 (vp_updL (vp_updL f_t_w 34 0) 36 1) 1 (f_t_w 43)) := ⟨_, rfl⟩
      refine k_callVv (pc := 59) (As := [.int 1, .long (f_t_w 43)]) (rest := []) (wc := [(h_t, moE u_4.1 h_t_w h_t_saved h_t_trial h_t_text h_t_told), (h_t_w, jA cJ 294 (vp_updL (vp_updL f_t_w 34 0) 36 1))]) (wc2 := [(h_t, moE u_4.1 h_t_w h_t_saved h_t_trial h_t_text h_t_told), (h_t_w, jA cJ 294 u_5)]) (ws2 := [(h_t, moE u_4.1 h_t_w h_t_saved h_t_trial h_t_text h_t_told), (h_t_w, jA cJ 294 u_5), (h_t_saved, jA cJ 1764 u_4.2)]) C (by rw [eu_5]; exact c_X11_enter l D cI cJ cO h_t h_t_w h_t_saved h_t_trial h_t_text h_t_told u_4.1 (vp_updL (vp_updL f_t_w 34 0) 36 1) 1 (f_t_w 43) (kInL.rw (F := (vp_updL (vp_updL f_t_w 34 0) 36 1)) (k := 46) (upnL (by decide) (upnL (by decide) rfl)) hf_t_w_46 (by decide) (by decide))) cwv_X11_enter q_1093 vX11 0 rfl [0, 1] rfl rfl (by decide) rfl rfl (Nat.le_of_ble_eq_true rfl) ⟨Nat.le_of_ble_eq_true rfl, Nat.le_of_ble_eq_true rfl⟩ rfl ⟨Nat.le_refl _, Nat.le_refl _⟩ dX11_start_59 ?_
      refine k_aload_n (pc := 62) C rfl 0 rfl dX11_start_62 ?_
      refine k_lconst (pc := 63) C lconst_0 dX11_start_63 ?_
      refine k_aload_n (pc := 64) C rfl 0 rfl dX11_start_64 ?_
      refine g_X11_0 (pc := 65) C q_998 0 rfl dX11_start_65 ?_
      refine k_bipush (pc := 68) C bipush_32 dX11_start_68 ?_
      refine k_laldK (pc := 70) (v := (f_t_w 32)) C 1 1 rfl rfl (k_vinc 32 cl_32 (by decide) (by decide)) cl_32 (((fr_of eu_5 (fr_X11_enter u_4.1 (vp_updL (vp_updL f_t_w 34 0) 36 1) 1 (f_t_w 43) (kInL.rw (F := (vp_updL (vp_updL f_t_w 34 0) 36 1)) (k := 46) (upnL (by decide) (upnL (by decide) rfl)) hf_t_w_46 (by decide) (by decide)))) 32 (by decide)).trans (upnL (by decide) (upnL (by decide) rfl))) dX11_start_70 ?_
      obtain ⟨u_6, eu_6⟩ : ∃ z : (Nat → Int64), z = (s_X11_begin u_4.1 u_5 0 (f_t_w 32)) := ⟨_, rfl⟩
      refine k_callVv (pc := 71) (As := [.long 0, .long (f_t_w 32)]) (rest := []) (wc := [(h_t, moE u_4.1 h_t_w h_t_saved h_t_trial h_t_text h_t_told), (h_t_w, jA cJ 294 u_5)]) (wc2 := [(h_t, moE u_4.1 h_t_w h_t_saved h_t_trial h_t_text h_t_told), (h_t_w, jA cJ 294 u_6)]) (ws2 := [(h_t, moE u_4.1 h_t_w h_t_saved h_t_trial h_t_text h_t_told), (h_t_w, jA cJ 294 u_6), (h_t_saved, jA cJ 1764 u_4.2)]) C (by rw [eu_6]; exact c_X11_begin l D cI cJ cO h_t h_t_w h_t_saved h_t_trial h_t_text h_t_told u_4.1 u_5 0 (f_t_w 32) (kInL.rw (F := u_5) (k := 46) rfl (by rw [eu_5]; exact po_X11_enter u_4.1 (vp_updL (vp_updL f_t_w 34 0) 36 1) 1 (f_t_w 43) (kInL.rw (F := (vp_updL (vp_updL f_t_w 34 0) 36 1)) (k := 46) (upnL (by decide) (upnL (by decide) rfl)) hf_t_w_46 (by decide) (by decide))) (by decide) (by decide)) (kInL.wk (kInL.lit (x := 0) (n := 0) (by decide)) (by decide) (by decide))) cwv_X11_begin q_1156 vX11 0 rfl [0, 1] rfl rfl (by decide) rfl rfl (Nat.le_of_ble_eq_true rfl) ⟨Nat.le_of_ble_eq_true rfl, Nat.le_of_ble_eq_true rfl⟩ rfl ⟨Nat.le_refl _, Nat.le_refl _⟩ dX11_start_71 ?_
      refine k_aload_n (pc := 74) C rfl 0 rfl dX11_start_74 ?_
      refine g_X11_0 (pc := 75) C q_998 0 rfl dX11_start_75 ?_
      refine k_bipush (pc := 78) C bipush_43 dX11_start_78 ?_
      refine k_laldK (pc := 80) (v := (u_6 43)) C 1 1 rfl rfl (k_vinc 43 cl_43 (by decide) (by decide)) cl_43 rfl dX11_start_80 ?_
      refine k_l2i (pc := 81) C dX11_start_81 ?_
      have hs : (s_X11_start f_t f_t_w f_t_saved) = ((Int64.toInt32 (u_6 43)), u_4.1, u_6, u_4.2) := (k_st (g := s_X11_start_4 f_t_w) eu_4 ((if_pos c_1).trans (if_neg c_3)) (k_st (g := s_X11_start_3 u_4 f_t_w) eu_5 rfl (k_st (g := s_X11_start_2 u_4) eu_6 rfl rfl)))
      exact k_finI (pc := 82) hret rfl (by rw [hs]) (by rw [hs]) dX11_start_82
    · refine k_aload_n (pc := 24) C rfl 0 rfl dX11_start_24 ?_
      refine k_iconst (pc := 25) C iconst_1 dX11_start_25 ?_
      obtain ⟨u_7, eu_7⟩ : ∃ z : Int32 × (Nat → Int32), z = (s_X11_refuse (upd f_t 7 0) 1) := ⟨_, rfl⟩
      refine k_callVi (pc := 26) (As := [.int 1]) (rest := []) (r := u_7.1) (wc := [(h_t, moE (upd f_t 7 0) h_t_w h_t_saved h_t_trial h_t_text h_t_told)]) (wc2 := [(h_t, moE u_7.2 h_t_w h_t_saved h_t_trial h_t_text h_t_told)]) (ws2 := [(h_t, moE u_7.2 h_t_w h_t_saved h_t_trial h_t_text h_t_told), (h_t_w, jA cJ 294 f_t_w), (h_t_saved, jA cJ 1764 f_t_saved)]) C (by rw [eu_7]; exact c_X11_refuse l D cI cJ cO h_t h_t_w h_t_saved h_t_trial h_t_text h_t_told (upd f_t 7 0) 1) cwv_X11_refuse q_1054 vX11 0 rfl [0] rfl rfl (by decide) rfl rfl (Nat.le_of_ble_eq_true rfl) ⟨Nat.le_of_ble_eq_true rfl, Nat.le_of_ble_eq_true rfl⟩ rfl ⟨Nat.le_refl _, Nat.le_refl _⟩ dX11_start_26 ?_
      have hs : (s_X11_start f_t f_t_w f_t_saved) = (u_7.1, u_7.2, f_t_w, f_t_saved) := (k_st (g := s_X11_start_1 f_t_w f_t_saved) eu_7 ((if_pos c_1).trans (if_pos c_3)) rfl)
      exact k_finI (pc := 29) hret rfl (by rw [hs]) (by rw [hs]) dX11_start_29

theorem dX11_stop_0 : decode cX11_stop 0 = .ok (.aload_n 0, 1) := by decide +kernel
theorem dX11_stop_1 : decode cX11_stop 1 = .ok (.iconst 0, 1) := by decide +kernel
theorem dX11_stop_2 : decode cX11_stop 2 = .ok (.putfield 50, 3) := by decide +kernel
theorem dX11_stop_5 : decode cX11_stop 5 = .ok (.aload_n 0, 1) := by decide +kernel
theorem dX11_stop_6 : decode cX11_stop 6 = .ok (.invokevirtual 93, 3) := by decide +kernel
theorem dX11_stop_9 : decode cX11_stop 9 = .ok (.ifCond .ne 9, 3) := by decide +kernel
theorem dX11_stop_12 : decode cX11_stop 12 = .ok (.aload_n 0, 1) := by decide +kernel
theorem dX11_stop_13 : decode cX11_stop 13 = .ok (.iconst 1, 1) := by decide +kernel
theorem dX11_stop_14 : decode cX11_stop 14 = .ok (.invokevirtual 67, 3) := by decide +kernel
theorem dX11_stop_17 : decode cX11_stop 17 = .ok (.ireturn, 1) := by decide +kernel
theorem dX11_stop_18 : decode cX11_stop 18 = .ok (.aload_n 0, 1) := by decide +kernel
theorem dX11_stop_19 : decode cX11_stop 19 = .ok (.invokevirtual 77, 3) := by decide +kernel
theorem dX11_stop_22 : decode cX11_stop 22 = .ok (.aload_n 0, 1) := by decide +kernel
theorem dX11_stop_23 : decode cX11_stop 23 = .ok (.getfield 7, 3) := by decide +kernel
theorem dX11_stop_26 : decode cX11_stop 26 = .ok (.bipush 33, 2) := by decide +kernel
theorem dX11_stop_28 : decode cX11_stop 28 = .ok (.lconst 0, 1) := by decide +kernel
theorem dX11_stop_29 : decode cX11_stop 29 = .ok (.lastore, 1) := by decide +kernel
theorem dX11_stop_30 : decode cX11_stop 30 = .ok (.aload_n 0, 1) := by decide +kernel
theorem dX11_stop_31 : decode cX11_stop 31 = .ok (.getfield 7, 3) := by decide +kernel
theorem dX11_stop_34 : decode cX11_stop 34 = .ok (.bipush 34, 2) := by decide +kernel
theorem dX11_stop_36 : decode cX11_stop 36 = .ok (.lconst 0, 1) := by decide +kernel
theorem dX11_stop_37 : decode cX11_stop 37 = .ok (.lastore, 1) := by decide +kernel
theorem dX11_stop_38 : decode cX11_stop 38 = .ok (.aload_n 0, 1) := by decide +kernel
theorem dX11_stop_39 : decode cX11_stop 39 = .ok (.bipush 6, 2) := by decide +kernel
theorem dX11_stop_41 : decode cX11_stop 41 = .ok (.aload_n 0, 1) := by decide +kernel
theorem dX11_stop_42 : decode cX11_stop 42 = .ok (.getfield 7, 3) := by decide +kernel
theorem dX11_stop_45 : decode cX11_stop 45 = .ok (.bipush 35, 2) := by decide +kernel
theorem dX11_stop_47 : decode cX11_stop 47 = .ok (.laload, 1) := by decide +kernel
theorem dX11_stop_48 : decode cX11_stop 48 = .ok (.invokevirtual 97, 3) := by decide +kernel
theorem dX11_stop_51 : decode cX11_stop 51 = .ok (.aload_n 0, 1) := by decide +kernel
theorem dX11_stop_52 : decode cX11_stop 52 = .ok (.getfield 7, 3) := by decide +kernel
theorem dX11_stop_55 : decode cX11_stop 55 = .ok (.bipush 35, 2) := by decide +kernel
theorem dX11_stop_57 : decode cX11_stop 57 = .ok (.laload, 1) := by decide +kernel
theorem dX11_stop_58 : decode cX11_stop 58 = .ok (.l2i, 1) := by decide +kernel
theorem dX11_stop_59 : decode cX11_stop 59 = .ok (.ireturn, 1) := by decide +kernel
def s_X11_stop_1 (f_t_w : Nat → Int64) (f_t_saved : Nat → Int64) (u_4 : Int32 × (Nat → Int32)) : Int32 × (Nat → Int32) × (Nat → Int64) × (Nat → Int64) :=
  (u_4.1, u_4.2, f_t_w, f_t_saved)
def s_X11_stop_2 (f_t_w : Nat → Int64) (u_2 : (Nat → Int32) × (Nat → Int64)) (u_3 : (Nat → Int64)) : Int32 × (Nat → Int32) × (Nat → Int64) × (Nat → Int64) :=
  ((Int64.toInt32 (f_t_w 35)), u_2.1, u_3, u_2.2)
def s_X11_stop_3 (f_t_w : Nat → Int64) (u_2 : (Nat → Int32) × (Nat → Int64)) : Int32 × (Nat → Int32) × (Nat → Int64) × (Nat → Int64) :=
  (s_X11_stop_2 f_t_w u_2 (s_X11_enter u_2.1 (vp_updL (vp_updL f_t_w 33 0) 34 0) 6 (f_t_w 35)))
def s_X11_stop (f_t : Nat → Int32) (f_t_w : Nat → Int64) (f_t_saved : Nat → Int64) : Int32 × (Nat → Int32) × (Nat → Int64) × (Nat → Int64) :=
  (if (s_X11_runs (upd f_t 7 0) f_t_w) = 0 then (s_X11_stop_1 f_t_w f_t_saved (s_X11_refuse (upd f_t 7 0) 1)) else (s_X11_stop_3 f_t_w (s_X11_save (upd f_t 7 0) f_t_saved f_t_w)))
set_option maxRecDepth 100000 in
set_option maxHeartbeats 4000000 in
theorem c_X11_stop (l : Launch) (D : va_G) (cI cJ cO : ClassId) (h_t : Nat) (h_t_w : Nat) (h_t_saved : Nat) (h_t_trial : Nat) (h_t_text : Nat) (h_t_told : Nat) (f_t : Nat → Int32) (f_t_w : Nat → Int64) (f_t_saved : Nat → Int64) (hf_t_5 : kIn (f_t 5) 0 6) (hf_t_w_46 : kInL (f_t_w 46) 0 24) : kI l yX11_stop cX11_stop 1 .int 1 24 D (kT cI cJ cO) [.ref h_t] [(h_t, moE f_t h_t_w h_t_saved h_t_trial h_t_text h_t_told), (h_t_w, jA cJ 294 f_t_w), (h_t_saved, jA cJ 1764 f_t_saved)] ((s_X11_stop f_t f_t_w f_t_saved).1) [(h_t, moE (s_X11_stop f_t f_t_w f_t_saved).2.1 h_t_w h_t_saved h_t_trial h_t_text h_t_told), (h_t_w, jA cJ 294 (s_X11_stop f_t f_t_w f_t_saved).2.2.1), (h_t_saved, jA cJ 1764 (s_X11_stop f_t f_t_w f_t_saved).2.2.2)] := by
  refine kI_of (own := RX11) (lv := [(0, .ref h_t)]) rfl rfl (by decide) (Nat.le_of_ble_eq_true rfl) ?_
  intro p e s m args below meth c Q A C hret
  refine k_aload_n (pc := 0) C rfl 0 rfl dX11_stop_0 ?_
  refine k_iconst (pc := 1) C iconst_0 dX11_stop_1 ?_
  refine p_X11_7 (pc := 2) (ws2 := [(h_t, moE (upd f_t 7 0) h_t_w h_t_saved h_t_trial h_t_text h_t_told), (h_t_w, jA cJ 294 f_t_w), (h_t_saved, jA cJ 1764 f_t_saved)]) C q_1005 0 rfl rfl dX11_stop_2 ?_
  refine k_aload_n (pc := 5) C rfl 0 rfl dX11_stop_5 ?_
  refine k_callVi (pc := 6) (As := []) (rest := []) (r := (s_X11_runs (upd f_t 7 0) f_t_w)) (wc := [(h_t, moE (upd f_t 7 0) h_t_w h_t_saved h_t_trial h_t_text h_t_told), (h_t_w, jA cJ 294 f_t_w)]) (wc2 := [(h_t, moE (upd f_t 7 0) h_t_w h_t_saved h_t_trial h_t_text h_t_told), (h_t_w, jA cJ 294 f_t_w)]) (ws2 := [(h_t, moE (upd f_t 7 0) h_t_w h_t_saved h_t_trial h_t_text h_t_told), (h_t_w, jA cJ 294 f_t_w), (h_t_saved, jA cJ 1764 f_t_saved)]) C (c_X11_runs l D cI cJ cO h_t h_t_w h_t_saved h_t_trial h_t_text h_t_told (upd f_t 7 0) f_t_w) cwv_X11_runs q_1085 vX11 0 rfl [0, 1] rfl rfl (by decide) rfl rfl (Nat.le_of_ble_eq_true rfl) ⟨Nat.le_of_ble_eq_true rfl, Nat.le_of_ble_eq_true rfl⟩ rfl ⟨Nat.le_refl _, Nat.le_refl _⟩ dX11_stop_6 ?_
  refine k_if_ne (pc := 9) (tgt := 18) C dX11_stop_9 (by decide) (fun c_1 => ?_) (fun c_1 => ?_)
  · refine k_aload_n (pc := 18) C rfl 0 rfl dX11_stop_18 ?_
    obtain ⟨u_2, eu_2⟩ : ∃ z : (Nat → Int32) × (Nat → Int64), z = (s_X11_save (upd f_t 7 0) f_t_saved f_t_w) := ⟨_, rfl⟩
    refine k_callVv (pc := 19) (As := []) (rest := []) (wc := [(h_t, moE (upd f_t 7 0) h_t_w h_t_saved h_t_trial h_t_text h_t_told), (h_t_saved, jA cJ 1764 f_t_saved), (h_t_w, jA cJ 294 f_t_w)]) (wc2 := [(h_t, moE u_2.1 h_t_w h_t_saved h_t_trial h_t_text h_t_told), (h_t_saved, jA cJ 1764 u_2.2), (h_t_w, jA cJ 294 f_t_w)]) (ws2 := [(h_t, moE u_2.1 h_t_w h_t_saved h_t_trial h_t_text h_t_told), (h_t_w, jA cJ 294 f_t_w), (h_t_saved, jA cJ 1764 u_2.2)]) C (by rw [eu_2]; exact c_X11_save l D cI cJ cO h_t h_t_w h_t_saved h_t_trial h_t_text h_t_told (upd f_t 7 0) f_t_saved f_t_w (kIn.rw (F := (upd f_t 7 0)) (k := 5) (upn (by decide) rfl) hf_t_5 (by decide) (by decide))) cwv_X11_save q_1064 vX11 0 rfl [0, 2, 1] rfl rfl (by decide) rfl rfl (Nat.le_of_ble_eq_true rfl) ⟨Nat.le_of_ble_eq_true rfl, Nat.le_of_ble_eq_true rfl⟩ rfl ⟨Nat.le_refl _, Nat.le_refl _⟩ dX11_stop_19 ?_
    refine k_aload_n (pc := 22) C rfl 0 rfl dX11_stop_22 ?_
    refine g_X11_0 (pc := 23) C q_998 0 rfl dX11_stop_23 ?_
    refine k_bipush (pc := 26) C bipush_33 dX11_stop_26 ?_
    refine k_lconst (pc := 28) C lconst_0 dX11_stop_28 ?_
    refine k_lastK (pc := 29) (ws2 := [(h_t, moE u_2.1 h_t_w h_t_saved h_t_trial h_t_text h_t_told), (h_t_w, jA cJ 294 (vp_updL f_t_w 33 0)), (h_t_saved, jA cJ 1764 u_2.2)]) C 1 1 rfl rfl (k_vinc 33 cl_33 (by decide) (by decide)) cl_33 rfl dX11_stop_29 ?_
    refine k_aload_n (pc := 30) C rfl 0 rfl dX11_stop_30 ?_
    refine g_X11_0 (pc := 31) C q_998 0 rfl dX11_stop_31 ?_
    refine k_bipush (pc := 34) C bipush_34 dX11_stop_34 ?_
    refine k_lconst (pc := 36) C lconst_0 dX11_stop_36 ?_
    refine k_lastK (pc := 37) (ws2 := [(h_t, moE u_2.1 h_t_w h_t_saved h_t_trial h_t_text h_t_told), (h_t_w, jA cJ 294 (vp_updL (vp_updL f_t_w 33 0) 34 0)), (h_t_saved, jA cJ 1764 u_2.2)]) C 1 1 rfl rfl (k_vinc 34 cl_34 (by decide) (by decide)) cl_34 rfl dX11_stop_37 ?_
    refine k_aload_n (pc := 38) C rfl 0 rfl dX11_stop_38 ?_
    refine k_bipush (pc := 39) C bipush_6 dX11_stop_39 ?_
    refine k_aload_n (pc := 41) C rfl 0 rfl dX11_stop_41 ?_
    refine g_X11_0 (pc := 42) C q_998 0 rfl dX11_stop_42 ?_
    refine k_bipush (pc := 45) C bipush_35 dX11_stop_45 ?_
    refine k_laldK (pc := 47) (v := (f_t_w 35)) C 1 1 rfl rfl (k_vinc 35 cl_35 (by decide) (by decide)) cl_35 (upnL (by decide) (upnL (by decide) rfl)) dX11_stop_47 ?_
    obtain ⟨u_3, eu_3⟩ : ∃ z : (Nat → Int64), z = (s_X11_enter u_2.1 (vp_updL (vp_updL f_t_w 33 0) 34 0) 6 (f_t_w 35)) := ⟨_, rfl⟩
    refine k_callVv (pc := 48) (As := [.int 6, .long (f_t_w 35)]) (rest := []) (wc := [(h_t, moE u_2.1 h_t_w h_t_saved h_t_trial h_t_text h_t_told), (h_t_w, jA cJ 294 (vp_updL (vp_updL f_t_w 33 0) 34 0))]) (wc2 := [(h_t, moE u_2.1 h_t_w h_t_saved h_t_trial h_t_text h_t_told), (h_t_w, jA cJ 294 u_3)]) (ws2 := [(h_t, moE u_2.1 h_t_w h_t_saved h_t_trial h_t_text h_t_told), (h_t_w, jA cJ 294 u_3), (h_t_saved, jA cJ 1764 u_2.2)]) C (by rw [eu_3]; exact c_X11_enter l D cI cJ cO h_t h_t_w h_t_saved h_t_trial h_t_text h_t_told u_2.1 (vp_updL (vp_updL f_t_w 33 0) 34 0) 6 (f_t_w 35) (kInL.rw (F := (vp_updL (vp_updL f_t_w 33 0) 34 0)) (k := 46) (upnL (by decide) (upnL (by decide) rfl)) hf_t_w_46 (by decide) (by decide))) cwv_X11_enter q_1093 vX11 0 rfl [0, 1] rfl rfl (by decide) rfl rfl (Nat.le_of_ble_eq_true rfl) ⟨Nat.le_of_ble_eq_true rfl, Nat.le_of_ble_eq_true rfl⟩ rfl ⟨Nat.le_refl _, Nat.le_refl _⟩ dX11_stop_48 ?_
    refine k_aload_n (pc := 51) C rfl 0 rfl dX11_stop_51 ?_
    refine g_X11_0 (pc := 52) C q_998 0 rfl dX11_stop_52 ?_
    refine k_bipush (pc := 55) C bipush_35 dX11_stop_55 ?_
    refine k_laldK (pc := 57) (v := (f_t_w 35)) C 1 1 rfl rfl (k_vinc 35 cl_35 (by decide) (by decide)) cl_35 (((fr_of eu_3 (fr_X11_enter u_2.1 (vp_updL (vp_updL f_t_w 33 0) 34 0) 6 (f_t_w 35) (kInL.rw (F := (vp_updL (vp_updL f_t_w 33 0) 34 0)) (k := 46) (upnL (by decide) (upnL (by decide) rfl)) hf_t_w_46 (by decide) (by decide)))) 35 (by decide)).trans (upnL (by decide) (upnL (by decide) rfl))) dX11_stop_57 ?_
    refine k_l2i (pc := 58) C dX11_stop_58 ?_
    have hs : (s_X11_stop f_t f_t_w f_t_saved) = ((Int64.toInt32 (f_t_w 35)), u_2.1, u_3, u_2.2) := (k_st (g := s_X11_stop_3 f_t_w) eu_2 (if_neg c_1) (k_st (g := s_X11_stop_2 f_t_w u_2) eu_3 rfl rfl))
    exact k_finI (pc := 59) hret rfl (by rw [hs]) (by rw [hs]) dX11_stop_59
  · refine k_aload_n (pc := 12) C rfl 0 rfl dX11_stop_12 ?_
    refine k_iconst (pc := 13) C iconst_1 dX11_stop_13 ?_
    obtain ⟨u_4, eu_4⟩ : ∃ z : Int32 × (Nat → Int32), z = (s_X11_refuse (upd f_t 7 0) 1) := ⟨_, rfl⟩
    refine k_callVi (pc := 14) (As := [.int 1]) (rest := []) (r := u_4.1) (wc := [(h_t, moE (upd f_t 7 0) h_t_w h_t_saved h_t_trial h_t_text h_t_told)]) (wc2 := [(h_t, moE u_4.2 h_t_w h_t_saved h_t_trial h_t_text h_t_told)]) (ws2 := [(h_t, moE u_4.2 h_t_w h_t_saved h_t_trial h_t_text h_t_told), (h_t_w, jA cJ 294 f_t_w), (h_t_saved, jA cJ 1764 f_t_saved)]) C (by rw [eu_4]; exact c_X11_refuse l D cI cJ cO h_t h_t_w h_t_saved h_t_trial h_t_text h_t_told (upd f_t 7 0) 1) cwv_X11_refuse q_1054 vX11 0 rfl [0] rfl rfl (by decide) rfl rfl (Nat.le_of_ble_eq_true rfl) ⟨Nat.le_of_ble_eq_true rfl, Nat.le_of_ble_eq_true rfl⟩ rfl ⟨Nat.le_refl _, Nat.le_refl _⟩ dX11_stop_14 ?_
    have hs : (s_X11_stop f_t f_t_w f_t_saved) = (u_4.1, u_4.2, f_t_w, f_t_saved) := (k_st (g := s_X11_stop_1 f_t_w f_t_saved) eu_4 (if_pos c_1) rfl)
    exact k_finI (pc := 17) hret rfl (by rw [hs]) (by rw [hs]) dX11_stop_17

theorem dX11_hold_0 : decode cX11_hold 0 = .ok (.aload_n 0, 1) := by decide +kernel
theorem dX11_hold_1 : decode cX11_hold 1 = .ok (.iconst 0, 1) := by decide +kernel
theorem dX11_hold_2 : decode cX11_hold 2 = .ok (.putfield 50, 3) := by decide +kernel
theorem dX11_hold_5 : decode cX11_hold 5 = .ok (.aload_n 0, 1) := by decide +kernel
theorem dX11_hold_6 : decode cX11_hold 6 = .ok (.invokevirtual 93, 3) := by decide +kernel
theorem dX11_hold_9 : decode cX11_hold 9 = .ok (.ifCond .eq 24, 3) := by decide +kernel
theorem dX11_hold_12 : decode cX11_hold 12 = .ok (.aload_n 0, 1) := by decide +kernel
theorem dX11_hold_13 : decode cX11_hold 13 = .ok (.getfield 7, 3) := by decide +kernel
theorem dX11_hold_16 : decode cX11_hold 16 = .ok (.bipush 34, 2) := by decide +kernel
theorem dX11_hold_18 : decode cX11_hold 18 = .ok (.laload, 1) := by decide +kernel
theorem dX11_hold_19 : decode cX11_hold 19 = .ok (.lconst 1, 1) := by decide +kernel
theorem dX11_hold_20 : decode cX11_hold 20 = .ok (.lcmp, 1) := by decide +kernel
theorem dX11_hold_21 : decode cX11_hold 21 = .ok (.ifCond .ne 7, 3) := by decide +kernel
theorem dX11_hold_24 : decode cX11_hold 24 = .ok (.iconst 1, 1) := by decide +kernel
theorem dX11_hold_25 : decode cX11_hold 25 = .ok (.goto 4, 3) := by decide +kernel
theorem dX11_hold_28 : decode cX11_hold 28 = .ok (.iconst 0, 1) := by decide +kernel
theorem dX11_hold_29 : decode cX11_hold 29 = .ok (.iload_n 1, 1) := by decide +kernel
theorem dX11_hold_30 : decode cX11_hold 30 = .ok (.if_icmp .ne 9, 3) := by decide +kernel
theorem dX11_hold_33 : decode cX11_hold 33 = .ok (.aload_n 0, 1) := by decide +kernel
theorem dX11_hold_34 : decode cX11_hold 34 = .ok (.iconst 1, 1) := by decide +kernel
theorem dX11_hold_35 : decode cX11_hold 35 = .ok (.invokevirtual 67, 3) := by decide +kernel
theorem dX11_hold_38 : decode cX11_hold 38 = .ok (.ireturn, 1) := by decide +kernel
theorem dX11_hold_39 : decode cX11_hold 39 = .ok (.aload_n 0, 1) := by decide +kernel
theorem dX11_hold_40 : decode cX11_hold 40 = .ok (.invokevirtual 77, 3) := by decide +kernel
theorem dX11_hold_43 : decode cX11_hold 43 = .ok (.aload_n 0, 1) := by decide +kernel
theorem dX11_hold_44 : decode cX11_hold 44 = .ok (.getfield 7, 3) := by decide +kernel
theorem dX11_hold_47 : decode cX11_hold 47 = .ok (.bipush 34, 2) := by decide +kernel
theorem dX11_hold_49 : decode cX11_hold 49 = .ok (.iload_n 1, 1) := by decide +kernel
theorem dX11_hold_50 : decode cX11_hold 50 = .ok (.ifCond .eq 7, 3) := by decide +kernel
theorem dX11_hold_53 : decode cX11_hold 53 = .ok (.lconst 1, 1) := by decide +kernel
theorem dX11_hold_54 : decode cX11_hold 54 = .ok (.goto 4, 3) := by decide +kernel
theorem dX11_hold_57 : decode cX11_hold 57 = .ok (.lconst 0, 1) := by decide +kernel
theorem dX11_hold_58 : decode cX11_hold 58 = .ok (.lastore, 1) := by decide +kernel
theorem dX11_hold_59 : decode cX11_hold 59 = .ok (.aload_n 0, 1) := by decide +kernel
theorem dX11_hold_60 : decode cX11_hold 60 = .ok (.getfield 7, 3) := by decide +kernel
theorem dX11_hold_63 : decode cX11_hold 63 = .ok (.bipush 33, 2) := by decide +kernel
theorem dX11_hold_65 : decode cX11_hold 65 = .ok (.laload, 1) := by decide +kernel
theorem dX11_hold_66 : decode cX11_hold 66 = .ok (.l2i, 1) := by decide +kernel
theorem dX11_hold_67 : decode cX11_hold 67 = .ok (.ireturn, 1) := by decide +kernel
def s_X11_hold_1 (f_t_w : Nat → Int64) (f_t_saved : Nat → Int64) (u_2 : Int32 × (Nat → Int32)) : Int32 × (Nat → Int32) × (Nat → Int64) × (Nat → Int64) :=
  (u_2.1, u_2.2, f_t_w, f_t_saved)
def s_X11_hold_2 (f_t_w : Nat → Int64) (f_t_saved : Nat → Int64) (u_9 : Int32 × (Nat → Int32)) : Int32 × (Nat → Int32) × (Nat → Int64) × (Nat → Int64) :=
  (u_9.1, u_9.2, f_t_w, f_t_saved)
def s_X11_hold_3 (f_t_w : Nat → Int64) (u_6 : (Nat → Int32) × (Nat → Int64)) (x_8 : Int64) : Int32 × (Nat → Int32) × (Nat → Int64) × (Nat → Int64) :=
  ((Int64.toInt32 (f_t_w 33)), u_6.1, (vp_updL f_t_w 34 x_8), u_6.2)
def s_X11_hold_4 (f_t_w : Nat → Int64) (p0 : Int32) (u_6 : (Nat → Int32) × (Nat → Int64)) : Int32 × (Nat → Int32) × (Nat → Int64) × (Nat → Int64) :=
  (s_X11_hold_3 f_t_w u_6 (if p0 = 0 then 0 else 1))
def s_X11_hold_5 (p0 : Int32) (f_t_w : Nat → Int64) (f_t_saved : Nat → Int64) (f_t : Nat → Int32) (x_4 : Int32) : Int32 × (Nat → Int32) × (Nat → Int64) × (Nat → Int64) :=
  (if x_4 = p0 then (s_X11_hold_2 f_t_w f_t_saved (s_X11_refuse (upd f_t 7 0) 1)) else (s_X11_hold_4 f_t_w p0 (s_X11_save (upd f_t 7 0) f_t_saved f_t_w)))
def s_X11_hold (f_t : Nat → Int32) (f_t_w : Nat → Int64) (f_t_saved : Nat → Int64) (p0 : Int32) : Int32 × (Nat → Int32) × (Nat → Int64) × (Nat → Int64) :=
  (if (s_X11_runs (upd f_t 7 0) f_t_w) = 0 then (s_X11_hold_1 f_t_w f_t_saved (s_X11_refuse (upd f_t 7 0) 1)) else (s_X11_hold_5 p0 f_t_w f_t_saved f_t (if (f_t_w 34) = 1 then 1 else 0)))
set_option maxRecDepth 100000 in
set_option maxHeartbeats 4000000 in
theorem c_X11_hold (l : Launch) (D : va_G) (cI cJ cO : ClassId) (h_t : Nat) (h_t_w : Nat) (h_t_saved : Nat) (h_t_trial : Nat) (h_t_text : Nat) (h_t_told : Nat) (f_t : Nat → Int32) (f_t_w : Nat → Int64) (f_t_saved : Nat → Int64) (p0 : Int32) (hf_t_5 : kIn (f_t 5) 0 6) : kI l yX11_hold cX11_hold 2 .int 1 21 D (kT cI cJ cO) [.ref h_t, .int p0] [(h_t, moE f_t h_t_w h_t_saved h_t_trial h_t_text h_t_told), (h_t_w, jA cJ 294 f_t_w), (h_t_saved, jA cJ 1764 f_t_saved)] ((s_X11_hold f_t f_t_w f_t_saved p0).1) [(h_t, moE (s_X11_hold f_t f_t_w f_t_saved p0).2.1 h_t_w h_t_saved h_t_trial h_t_text h_t_told), (h_t_w, jA cJ 294 (s_X11_hold f_t f_t_w f_t_saved p0).2.2.1), (h_t_saved, jA cJ 1764 (s_X11_hold f_t f_t_w f_t_saved p0).2.2.2)] := by
  refine kI_of (own := RX11) (lv := [(0, .ref h_t), (1, .int p0)]) rfl rfl (by decide) (Nat.le_of_ble_eq_true rfl) ?_
  intro p e s m args below meth c Q A C hret
  refine k_aload_n (pc := 0) C rfl 0 rfl dX11_hold_0 ?_
  refine k_iconst (pc := 1) C iconst_0 dX11_hold_1 ?_
  refine p_X11_7 (pc := 2) (ws2 := [(h_t, moE (upd f_t 7 0) h_t_w h_t_saved h_t_trial h_t_text h_t_told), (h_t_w, jA cJ 294 f_t_w), (h_t_saved, jA cJ 1764 f_t_saved)]) C q_1005 0 rfl rfl dX11_hold_2 ?_
  refine k_aload_n (pc := 5) C rfl 0 rfl dX11_hold_5 ?_
  refine k_callVi (pc := 6) (As := []) (rest := []) (r := (s_X11_runs (upd f_t 7 0) f_t_w)) (wc := [(h_t, moE (upd f_t 7 0) h_t_w h_t_saved h_t_trial h_t_text h_t_told), (h_t_w, jA cJ 294 f_t_w)]) (wc2 := [(h_t, moE (upd f_t 7 0) h_t_w h_t_saved h_t_trial h_t_text h_t_told), (h_t_w, jA cJ 294 f_t_w)]) (ws2 := [(h_t, moE (upd f_t 7 0) h_t_w h_t_saved h_t_trial h_t_text h_t_told), (h_t_w, jA cJ 294 f_t_w), (h_t_saved, jA cJ 1764 f_t_saved)]) C (c_X11_runs l D cI cJ cO h_t h_t_w h_t_saved h_t_trial h_t_text h_t_told (upd f_t 7 0) f_t_w) cwv_X11_runs q_1085 vX11 0 rfl [0, 1] rfl rfl (by decide) rfl rfl (Nat.le_of_ble_eq_true rfl) ⟨Nat.le_of_ble_eq_true rfl, Nat.le_of_ble_eq_true rfl⟩ rfl ⟨Nat.le_refl _, Nat.le_refl _⟩ dX11_hold_6 ?_
  refine k_if_eq (pc := 9) (tgt := 33) C dX11_hold_9 (by decide) (fun c_1 => ?_) (fun c_1 => ?_)
  · refine k_aload_n (pc := 33) C rfl 0 rfl dX11_hold_33 ?_
    refine k_iconst (pc := 34) C iconst_1 dX11_hold_34 ?_
    obtain ⟨u_2, eu_2⟩ : ∃ z : Int32 × (Nat → Int32), z = (s_X11_refuse (upd f_t 7 0) 1) := ⟨_, rfl⟩
    refine k_callVi (pc := 35) (As := [.int 1]) (rest := []) (r := u_2.1) (wc := [(h_t, moE (upd f_t 7 0) h_t_w h_t_saved h_t_trial h_t_text h_t_told)]) (wc2 := [(h_t, moE u_2.2 h_t_w h_t_saved h_t_trial h_t_text h_t_told)]) (ws2 := [(h_t, moE u_2.2 h_t_w h_t_saved h_t_trial h_t_text h_t_told), (h_t_w, jA cJ 294 f_t_w), (h_t_saved, jA cJ 1764 f_t_saved)]) C (by rw [eu_2]; exact c_X11_refuse l D cI cJ cO h_t h_t_w h_t_saved h_t_trial h_t_text h_t_told (upd f_t 7 0) 1) cwv_X11_refuse q_1054 vX11 0 rfl [0] rfl rfl (by decide) rfl rfl (Nat.le_of_ble_eq_true rfl) ⟨Nat.le_of_ble_eq_true rfl, Nat.le_of_ble_eq_true rfl⟩ rfl ⟨Nat.le_refl _, Nat.le_refl _⟩ dX11_hold_35 ?_
    have hs : (s_X11_hold f_t f_t_w f_t_saved p0) = (u_2.1, u_2.2, f_t_w, f_t_saved) := (k_st (g := s_X11_hold_1 f_t_w f_t_saved) eu_2 (if_pos c_1) rfl)
    exact k_finI (pc := 38) hret rfl (by rw [hs]) (by rw [hs]) dX11_hold_38
  · refine k_aload_n (pc := 12) C rfl 0 rfl dX11_hold_12 ?_
    refine g_X11_0 (pc := 13) C q_998 0 rfl dX11_hold_13 ?_
    refine k_bipush (pc := 16) C bipush_34 dX11_hold_16 ?_
    refine k_laldK (pc := 18) (v := (f_t_w 34)) C 1 1 rfl rfl (k_vinc 34 cl_34 (by decide) (by decide)) cl_34 rfl dX11_hold_18 ?_
    refine k_lconst (pc := 19) C lconst_1 dX11_hold_19 ?_
    have K_10 : ∀ (x_4 : Int32), x_4 = (if (f_t_w 34) = 1 then 1 else 0) → KJ p l e (kR 1 21) s m args below meth c 0 0 Q D A 2 [(h_t, moE (upd f_t 7 0) h_t_w h_t_saved h_t_trial h_t_text h_t_told), (h_t_w, jA cJ 294 f_t_w), (h_t_saved, jA cJ 1764 f_t_saved)] [(0, .ref h_t), (1, .int p0)] [.int x_4] 29 := by
      intro x_4 ex_4
      refine k_iload_n (pc := 29) C rfl 1 rfl dX11_hold_29 ?_
      refine k_icmp_ne (pc := 30) (tgt := 39) C dX11_hold_30 (by decide) (fun c_5 => ?_) (fun c_5 => ?_)
      · refine k_aload_n (pc := 39) C rfl 0 rfl dX11_hold_39 ?_
        obtain ⟨u_6, eu_6⟩ : ∃ z : (Nat → Int32) × (Nat → Int64), z = (s_X11_save (upd f_t 7 0) f_t_saved f_t_w) := ⟨_, rfl⟩
        refine k_callVv (pc := 40) (As := []) (rest := []) (wc := [(h_t, moE (upd f_t 7 0) h_t_w h_t_saved h_t_trial h_t_text h_t_told), (h_t_saved, jA cJ 1764 f_t_saved), (h_t_w, jA cJ 294 f_t_w)]) (wc2 := [(h_t, moE u_6.1 h_t_w h_t_saved h_t_trial h_t_text h_t_told), (h_t_saved, jA cJ 1764 u_6.2), (h_t_w, jA cJ 294 f_t_w)]) (ws2 := [(h_t, moE u_6.1 h_t_w h_t_saved h_t_trial h_t_text h_t_told), (h_t_w, jA cJ 294 f_t_w), (h_t_saved, jA cJ 1764 u_6.2)]) C (by rw [eu_6]; exact c_X11_save l D cI cJ cO h_t h_t_w h_t_saved h_t_trial h_t_text h_t_told (upd f_t 7 0) f_t_saved f_t_w (kIn.rw (F := (upd f_t 7 0)) (k := 5) (upn (by decide) rfl) hf_t_5 (by decide) (by decide))) cwv_X11_save q_1064 vX11 0 rfl [0, 2, 1] rfl rfl (by decide) rfl rfl (Nat.le_of_ble_eq_true rfl) ⟨Nat.le_of_ble_eq_true rfl, Nat.le_of_ble_eq_true rfl⟩ rfl ⟨Nat.le_refl _, Nat.le_refl _⟩ dX11_hold_40 ?_
        refine k_aload_n (pc := 43) C rfl 0 rfl dX11_hold_43 ?_
        refine g_X11_0 (pc := 44) C q_998 0 rfl dX11_hold_44 ?_
        refine k_bipush (pc := 47) C bipush_34 dX11_hold_47 ?_
        refine k_iload_n (pc := 49) C rfl 1 rfl dX11_hold_49 ?_
        have K_11 : ∀ (x_8 : Int64), x_8 = (if p0 = 0 then 0 else 1) → KJ p l e (kR 1 21) s m args below meth c 0 0 Q D A 2 [(h_t, moE u_6.1 h_t_w h_t_saved h_t_trial h_t_text h_t_told), (h_t_w, jA cJ 294 f_t_w), (h_t_saved, jA cJ 1764 u_6.2)] [(0, .ref h_t)] [.long x_8, .int 34, .ref h_t_w] 58 := by
          intro x_8 ex_8
          refine k_lastK (pc := 58) (ws2 := [(h_t, moE u_6.1 h_t_w h_t_saved h_t_trial h_t_text h_t_told), (h_t_w, jA cJ 294 (vp_updL f_t_w 34 x_8)), (h_t_saved, jA cJ 1764 u_6.2)]) C 1 1 rfl rfl (k_vinc 34 cl_34 (by decide) (by decide)) cl_34 rfl dX11_hold_58 ?_
          refine k_aload_n (pc := 59) C rfl 0 rfl dX11_hold_59 ?_
          refine g_X11_0 (pc := 60) C q_998 0 rfl dX11_hold_60 ?_
          refine k_bipush (pc := 63) C bipush_33 dX11_hold_63 ?_
          refine k_laldK (pc := 65) (v := (f_t_w 33)) C 1 1 rfl rfl (k_vinc 33 cl_33 (by decide) (by decide)) cl_33 (upnL (by decide) rfl) dX11_hold_65 ?_
          refine k_l2i (pc := 66) C dX11_hold_66 ?_
          have hs : (s_X11_hold f_t f_t_w f_t_saved p0) = ((Int64.toInt32 (f_t_w 33)), u_6.1, (vp_updL f_t_w 34 x_8), u_6.2) := (k_st (g := s_X11_hold_5 p0 f_t_w f_t_saved f_t) ex_4 (if_neg c_1) (k_st (g := s_X11_hold_4 f_t_w p0) eu_6 (if_neg c_5) (k_st (g := s_X11_hold_3 f_t_w u_6) ex_8 rfl rfl)))
          exact k_finI (pc := 67) hret rfl (by rw [hs]) (by rw [hs]) dX11_hold_67
        refine k_if_eq (pc := 50) (tgt := 57) C dX11_hold_50 (by decide) (fun c_7 => ?_) (fun c_7 => ?_)
        · refine k_lconst (pc := 57) C lconst_0 dX11_hold_57 ?_
          refine k_lpick (lv2 := [(0, .ref h_t)]) [0] rfl ?_
          exact K_11 0 (Eq.symm (if_pos c_7))
        · refine k_lconst (pc := 53) C lconst_1 dX11_hold_53 ?_
          refine k_goto (pc := 54) (tgt := 58) C (by decide) dX11_hold_54 ?_
          refine k_lpick (lv2 := [(0, .ref h_t)]) [0] rfl ?_
          exact K_11 1 (Eq.symm (if_neg c_7))
      · refine k_aload_n (pc := 33) C rfl 0 rfl dX11_hold_33 ?_
        refine k_iconst (pc := 34) C iconst_1 dX11_hold_34 ?_
        obtain ⟨u_9, eu_9⟩ : ∃ z : Int32 × (Nat → Int32), z = (s_X11_refuse (upd f_t 7 0) 1) := ⟨_, rfl⟩
        refine k_callVi (pc := 35) (As := [.int 1]) (rest := []) (r := u_9.1) (wc := [(h_t, moE (upd f_t 7 0) h_t_w h_t_saved h_t_trial h_t_text h_t_told)]) (wc2 := [(h_t, moE u_9.2 h_t_w h_t_saved h_t_trial h_t_text h_t_told)]) (ws2 := [(h_t, moE u_9.2 h_t_w h_t_saved h_t_trial h_t_text h_t_told), (h_t_w, jA cJ 294 f_t_w), (h_t_saved, jA cJ 1764 f_t_saved)]) C (by rw [eu_9]; exact c_X11_refuse l D cI cJ cO h_t h_t_w h_t_saved h_t_trial h_t_text h_t_told (upd f_t 7 0) 1) cwv_X11_refuse q_1054 vX11 0 rfl [0] rfl rfl (by decide) rfl rfl (Nat.le_of_ble_eq_true rfl) ⟨Nat.le_of_ble_eq_true rfl, Nat.le_of_ble_eq_true rfl⟩ rfl ⟨Nat.le_refl _, Nat.le_refl _⟩ dX11_hold_35 ?_
        have hs : (s_X11_hold f_t f_t_w f_t_saved p0) = (u_9.1, u_9.2, f_t_w, f_t_saved) := (k_st (g := s_X11_hold_5 p0 f_t_w f_t_saved f_t) ex_4 (if_neg c_1) (k_st (g := s_X11_hold_2 f_t_w f_t_saved) eu_9 (if_pos c_5) rfl))
        exact k_finI (pc := 38) hret rfl (by rw [hs]) (by rw [hs]) dX11_hold_38
    refine k_lcmp_ne (pc := 20) (tgt := 28) C dX11_hold_20 dX11_hold_21 (by decide) (fun c_3 => ?_) (fun c_3 => ?_)
    · refine k_iconst (pc := 28) C iconst_0 dX11_hold_28 ?_
      exact K_10 0 (Eq.symm (if_neg c_3))
    · refine k_iconst (pc := 24) C iconst_1 dX11_hold_24 ?_
      refine k_goto (pc := 25) (tgt := 29) C (by decide) dX11_hold_25 ?_
      exact K_10 1 (Eq.symm (if_pos c_3))

theorem dX11_value_0 : decode cX11_value 0 = .ok (.aload_n 0, 1) := by decide +kernel
theorem dX11_value_1 : decode cX11_value 1 = .ok (.iconst 0, 1) := by decide +kernel
theorem dX11_value_2 : decode cX11_value 2 = .ok (.putfield 50, 3) := by decide +kernel
theorem dX11_value_5 : decode cX11_value 5 = .ok (.iload_n 1, 1) := by decide +kernel
theorem dX11_value_6 : decode cX11_value 6 = .ok (.tableswitch 312 0 24 #[114, 123, 123, 136, 136, 149, 158, 167, 176, 198, 220, 220, 220, 234, 234, 234, 234, 248, 257, 266, 275, 284, 293, 302, 307], 114) := by decide +kernel
theorem dX11_value_120 : decode cX11_value 120 = .ok (.aload_n 0, 1) := by decide +kernel
theorem dX11_value_121 : decode cX11_value 121 = .ok (.getfield 7, 3) := by decide +kernel
theorem dX11_value_124 : decode cX11_value 124 = .ok (.bipush 32, 2) := by decide +kernel
theorem dX11_value_126 : decode cX11_value 126 = .ok (.laload, 1) := by decide +kernel
theorem dX11_value_127 : decode cX11_value 127 = .ok (.l2i, 1) := by decide +kernel
theorem dX11_value_128 : decode cX11_value 128 = .ok (.ireturn, 1) := by decide +kernel
theorem dX11_value_129 : decode cX11_value 129 = .ok (.aload_n 0, 1) := by decide +kernel
theorem dX11_value_130 : decode cX11_value 130 = .ok (.getfield 7, 3) := by decide +kernel
theorem dX11_value_133 : decode cX11_value 133 = .ok (.bipush 12, 2) := by decide +kernel
theorem dX11_value_135 : decode cX11_value 135 = .ok (.iload_n 1, 1) := by decide +kernel
theorem dX11_value_136 : decode cX11_value 136 = .ok (.iadd, 1) := by decide +kernel
theorem dX11_value_137 : decode cX11_value 137 = .ok (.iconst 1, 1) := by decide +kernel
theorem dX11_value_138 : decode cX11_value 138 = .ok (.isub, 1) := by decide +kernel
theorem dX11_value_139 : decode cX11_value 139 = .ok (.laload, 1) := by decide +kernel
theorem dX11_value_140 : decode cX11_value 140 = .ok (.l2i, 1) := by decide +kernel
theorem dX11_value_141 : decode cX11_value 141 = .ok (.ireturn, 1) := by decide +kernel
theorem dX11_value_142 : decode cX11_value 142 = .ok (.aload_n 0, 1) := by decide +kernel
theorem dX11_value_143 : decode cX11_value 143 = .ok (.getfield 7, 3) := by decide +kernel
theorem dX11_value_146 : decode cX11_value 146 = .ok (.bipush 14, 2) := by decide +kernel
theorem dX11_value_148 : decode cX11_value 148 = .ok (.iload_n 1, 1) := by decide +kernel
theorem dX11_value_149 : decode cX11_value 149 = .ok (.iadd, 1) := by decide +kernel
theorem dX11_value_150 : decode cX11_value 150 = .ok (.iconst 3, 1) := by decide +kernel
theorem dX11_value_151 : decode cX11_value 151 = .ok (.isub, 1) := by decide +kernel
theorem dX11_value_152 : decode cX11_value 152 = .ok (.laload, 1) := by decide +kernel
theorem dX11_value_153 : decode cX11_value 153 = .ok (.l2i, 1) := by decide +kernel
theorem dX11_value_154 : decode cX11_value 154 = .ok (.ireturn, 1) := by decide +kernel
theorem dX11_value_155 : decode cX11_value 155 = .ok (.aload_n 0, 1) := by decide +kernel
theorem dX11_value_156 : decode cX11_value 156 = .ok (.getfield 7, 3) := by decide +kernel
theorem dX11_value_159 : decode cX11_value 159 = .ok (.bipush 33, 2) := by decide +kernel
theorem dX11_value_161 : decode cX11_value 161 = .ok (.laload, 1) := by decide +kernel
theorem dX11_value_162 : decode cX11_value 162 = .ok (.l2i, 1) := by decide +kernel
theorem dX11_value_163 : decode cX11_value 163 = .ok (.ireturn, 1) := by decide +kernel
theorem dX11_value_164 : decode cX11_value 164 = .ok (.aload_n 0, 1) := by decide +kernel
theorem dX11_value_165 : decode cX11_value 165 = .ok (.getfield 7, 3) := by decide +kernel
theorem dX11_value_168 : decode cX11_value 168 = .ok (.bipush 34, 2) := by decide +kernel
theorem dX11_value_170 : decode cX11_value 170 = .ok (.laload, 1) := by decide +kernel
theorem dX11_value_171 : decode cX11_value 171 = .ok (.l2i, 1) := by decide +kernel
theorem dX11_value_172 : decode cX11_value 172 = .ok (.ireturn, 1) := by decide +kernel
theorem dX11_value_173 : decode cX11_value 173 = .ok (.aload_n 0, 1) := by decide +kernel
theorem dX11_value_174 : decode cX11_value 174 = .ok (.getfield 7, 3) := by decide +kernel
theorem dX11_value_177 : decode cX11_value 177 = .ok (.bipush 16, 2) := by decide +kernel
theorem dX11_value_179 : decode cX11_value 179 = .ok (.laload, 1) := by decide +kernel
theorem dX11_value_180 : decode cX11_value 180 = .ok (.l2i, 1) := by decide +kernel
theorem dX11_value_181 : decode cX11_value 181 = .ok (.ireturn, 1) := by decide +kernel
theorem dX11_value_182 : decode cX11_value 182 = .ok (.aload_n 0, 1) := by decide +kernel
theorem dX11_value_183 : decode cX11_value 183 = .ok (.invokevirtual 93, 3) := by decide +kernel
theorem dX11_value_186 : decode cX11_value 186 = .ok (.ifCond .eq 14, 3) := by decide +kernel
theorem dX11_value_189 : decode cX11_value 189 = .ok (.aload_n 0, 1) := by decide +kernel
theorem dX11_value_190 : decode cX11_value 190 = .ok (.getfield 7, 3) := by decide +kernel
theorem dX11_value_193 : decode cX11_value 193 = .ok (.bipush 35, 2) := by decide +kernel
theorem dX11_value_195 : decode cX11_value 195 = .ok (.laload, 1) := by decide +kernel
theorem dX11_value_196 : decode cX11_value 196 = .ok (.l2i, 1) := by decide +kernel
theorem dX11_value_197 : decode cX11_value 197 = .ok (.goto 6, 3) := by decide +kernel
theorem dX11_value_200 : decode cX11_value 200 = .ok (.sipush (-10000), 3) := by decide +kernel
theorem dX11_value_203 : decode cX11_value 203 = .ok (.ireturn, 1) := by decide +kernel
theorem dX11_value_204 : decode cX11_value 204 = .ok (.aload_n 0, 1) := by decide +kernel
theorem dX11_value_205 : decode cX11_value 205 = .ok (.invokevirtual 93, 3) := by decide +kernel
theorem dX11_value_208 : decode cX11_value 208 = .ok (.ifCond .eq 14, 3) := by decide +kernel
theorem dX11_value_211 : decode cX11_value 211 = .ok (.aload_n 0, 1) := by decide +kernel
theorem dX11_value_212 : decode cX11_value 212 = .ok (.getfield 7, 3) := by decide +kernel
theorem dX11_value_215 : decode cX11_value 215 = .ok (.bipush 36, 2) := by decide +kernel
theorem dX11_value_217 : decode cX11_value 217 = .ok (.laload, 1) := by decide +kernel
theorem dX11_value_218 : decode cX11_value 218 = .ok (.l2i, 1) := by decide +kernel
theorem dX11_value_219 : decode cX11_value 219 = .ok (.goto 6, 3) := by decide +kernel
theorem dX11_value_222 : decode cX11_value 222 = .ok (.sipush (-10000), 3) := by decide +kernel
theorem dX11_value_225 : decode cX11_value 225 = .ok (.ireturn, 1) := by decide +kernel
theorem dX11_value_226 : decode cX11_value 226 = .ok (.aload_n 0, 1) := by decide +kernel
theorem dX11_value_227 : decode cX11_value 227 = .ok (.getfield 7, 3) := by decide +kernel
theorem dX11_value_230 : decode cX11_value 230 = .ok (.bipush 39, 2) := by decide +kernel
theorem dX11_value_232 : decode cX11_value 232 = .ok (.iload_n 1, 1) := by decide +kernel
theorem dX11_value_233 : decode cX11_value 233 = .ok (.iadd, 1) := by decide +kernel
theorem dX11_value_234 : decode cX11_value 234 = .ok (.bipush 10, 2) := by decide +kernel
theorem dX11_value_236 : decode cX11_value 236 = .ok (.isub, 1) := by decide +kernel
theorem dX11_value_237 : decode cX11_value 237 = .ok (.laload, 1) := by decide +kernel
theorem dX11_value_238 : decode cX11_value 238 = .ok (.l2i, 1) := by decide +kernel
theorem dX11_value_239 : decode cX11_value 239 = .ok (.ireturn, 1) := by decide +kernel
theorem dX11_value_240 : decode cX11_value 240 = .ok (.aload_n 0, 1) := by decide +kernel
theorem dX11_value_241 : decode cX11_value 241 = .ok (.getfield 7, 3) := by decide +kernel
theorem dX11_value_244 : decode cX11_value 244 = .ok (.bipush 25, 2) := by decide +kernel
theorem dX11_value_246 : decode cX11_value 246 = .ok (.iload_n 1, 1) := by decide +kernel
theorem dX11_value_247 : decode cX11_value 247 = .ok (.iadd, 1) := by decide +kernel
theorem dX11_value_248 : decode cX11_value 248 = .ok (.bipush 13, 2) := by decide +kernel
theorem dX11_value_250 : decode cX11_value 250 = .ok (.isub, 1) := by decide +kernel
theorem dX11_value_251 : decode cX11_value 251 = .ok (.laload, 1) := by decide +kernel
theorem dX11_value_252 : decode cX11_value 252 = .ok (.l2i, 1) := by decide +kernel
theorem dX11_value_253 : decode cX11_value 253 = .ok (.ireturn, 1) := by decide +kernel
theorem dX11_value_254 : decode cX11_value 254 = .ok (.aload_n 0, 1) := by decide +kernel
theorem dX11_value_255 : decode cX11_value 255 = .ok (.getfield 7, 3) := by decide +kernel
theorem dX11_value_258 : decode cX11_value 258 = .ok (.bipush 29, 2) := by decide +kernel
theorem dX11_value_260 : decode cX11_value 260 = .ok (.laload, 1) := by decide +kernel
theorem dX11_value_261 : decode cX11_value 261 = .ok (.l2i, 1) := by decide +kernel
theorem dX11_value_262 : decode cX11_value 262 = .ok (.ireturn, 1) := by decide +kernel
theorem dX11_value_263 : decode cX11_value 263 = .ok (.aload_n 0, 1) := by decide +kernel
theorem dX11_value_264 : decode cX11_value 264 = .ok (.getfield 7, 3) := by decide +kernel
theorem dX11_value_267 : decode cX11_value 267 = .ok (.bipush 23, 2) := by decide +kernel
theorem dX11_value_269 : decode cX11_value 269 = .ok (.laload, 1) := by decide +kernel
theorem dX11_value_270 : decode cX11_value 270 = .ok (.l2i, 1) := by decide +kernel
theorem dX11_value_271 : decode cX11_value 271 = .ok (.ireturn, 1) := by decide +kernel
theorem dX11_value_272 : decode cX11_value 272 = .ok (.aload_n 0, 1) := by decide +kernel
theorem dX11_value_273 : decode cX11_value 273 = .ok (.getfield 7, 3) := by decide +kernel
theorem dX11_value_276 : decode cX11_value 276 = .ok (.bipush 24, 2) := by decide +kernel
theorem dX11_value_278 : decode cX11_value 278 = .ok (.laload, 1) := by decide +kernel
theorem dX11_value_279 : decode cX11_value 279 = .ok (.l2i, 1) := by decide +kernel
theorem dX11_value_280 : decode cX11_value 280 = .ok (.ireturn, 1) := by decide +kernel
theorem dX11_value_281 : decode cX11_value 281 = .ok (.aload_n 0, 1) := by decide +kernel
theorem dX11_value_282 : decode cX11_value 282 = .ok (.getfield 7, 3) := by decide +kernel
theorem dX11_value_285 : decode cX11_value 285 = .ok (.bipush 31, 2) := by decide +kernel
theorem dX11_value_287 : decode cX11_value 287 = .ok (.laload, 1) := by decide +kernel
theorem dX11_value_288 : decode cX11_value 288 = .ok (.l2i, 1) := by decide +kernel
theorem dX11_value_289 : decode cX11_value 289 = .ok (.ireturn, 1) := by decide +kernel
theorem dX11_value_290 : decode cX11_value 290 = .ok (.aload_n 0, 1) := by decide +kernel
theorem dX11_value_291 : decode cX11_value 291 = .ok (.getfield 7, 3) := by decide +kernel
theorem dX11_value_294 : decode cX11_value 294 = .ok (.bipush 43, 2) := by decide +kernel
theorem dX11_value_296 : decode cX11_value 296 = .ok (.laload, 1) := by decide +kernel
theorem dX11_value_297 : decode cX11_value 297 = .ok (.l2i, 1) := by decide +kernel
theorem dX11_value_298 : decode cX11_value 298 = .ok (.ireturn, 1) := by decide +kernel
theorem dX11_value_299 : decode cX11_value 299 = .ok (.aload_n 0, 1) := by decide +kernel
theorem dX11_value_300 : decode cX11_value 300 = .ok (.getfield 7, 3) := by decide +kernel
theorem dX11_value_303 : decode cX11_value 303 = .ok (.bipush 44, 2) := by decide +kernel
theorem dX11_value_305 : decode cX11_value 305 = .ok (.laload, 1) := by decide +kernel
theorem dX11_value_306 : decode cX11_value 306 = .ok (.l2i, 1) := by decide +kernel
theorem dX11_value_307 : decode cX11_value 307 = .ok (.ireturn, 1) := by decide +kernel
theorem dX11_value_308 : decode cX11_value 308 = .ok (.aload_n 0, 1) := by decide +kernel
theorem dX11_value_309 : decode cX11_value 309 = .ok (.getfield 54, 3) := by decide +kernel
theorem dX11_value_312 : decode cX11_value 312 = .ok (.ireturn, 1) := by decide +kernel
theorem dX11_value_313 : decode cX11_value 313 = .ok (.aload_n 0, 1) := by decide +kernel
theorem dX11_value_314 : decode cX11_value 314 = .ok (.getfield 178, 3) := by decide +kernel
theorem dX11_value_317 : decode cX11_value 317 = .ok (.ireturn, 1) := by decide +kernel
theorem dX11_value_318 : decode cX11_value 318 = .ok (.aload_n 0, 1) := by decide +kernel
theorem dX11_value_319 : decode cX11_value 319 = .ok (.iconst 1, 1) := by decide +kernel
theorem dX11_value_320 : decode cX11_value 320 = .ok (.invokevirtual 67, 3) := by decide +kernel
theorem dX11_value_323 : decode cX11_value 323 = .ok (.ireturn, 1) := by decide +kernel
def s_X11_value_1 (f_t : Nat → Int32) (x_11 : Int32) : Int32 × (Nat → Int32) :=
  (x_11, (upd f_t 7 0))
def s_X11_value_2 (f_t : Nat → Int32) (x_14 : Int32) : Int32 × (Nat → Int32) :=
  (x_14, (upd f_t 7 0))
def s_X11_value_3 (u_30 : Int32 × (Nat → Int32)) : Int32 × (Nat → Int32) :=
  (u_30.1, u_30.2)
def s_X11_value (f_t : Nat → Int32) (f_t_w : Nat → Int64) (p0 : Int32) : Int32 × (Nat → Int32) :=
  (if p0 = 0 then ((Int64.toInt32 (f_t_w 32)), (upd f_t 7 0)) else (if p0 = 1 then ((Int64.toInt32 (f_t_w 12)), (upd f_t 7 0)) else (if p0 = 2 then ((Int64.toInt32 (f_t_w 13)), (upd f_t 7 0)) else (if p0 = 3 then ((Int64.toInt32 (f_t_w 14)), (upd f_t 7 0)) else (if p0 = 4 then ((Int64.toInt32 (f_t_w 15)), (upd f_t 7 0)) else (if p0 = 5 then ((Int64.toInt32 (f_t_w 33)), (upd f_t 7 0)) else (if p0 = 6 then ((Int64.toInt32 (f_t_w 34)), (upd f_t 7 0)) else (if p0 = 7 then ((Int64.toInt32 (f_t_w 16)), (upd f_t 7 0)) else (if p0 = 8 then (s_X11_value_1 f_t (if (s_X11_runs (upd f_t 7 0) f_t_w) = 0 then (-10000) else (Int64.toInt32 (f_t_w 35)))) else (if p0 = 9 then (s_X11_value_2 f_t (if (s_X11_runs (upd f_t 7 0) f_t_w) = 0 then (-10000) else (Int64.toInt32 (f_t_w 36)))) else (if p0 = 10 then ((Int64.toInt32 (f_t_w 39)), (upd f_t 7 0)) else (if p0 = 11 then ((Int64.toInt32 (f_t_w 40)), (upd f_t 7 0)) else (if p0 = 12 then ((Int64.toInt32 (f_t_w 41)), (upd f_t 7 0)) else (if p0 = 13 then ((Int64.toInt32 (f_t_w 25)), (upd f_t 7 0)) else (if p0 = 14 then ((Int64.toInt32 (f_t_w 26)), (upd f_t 7 0)) else (if p0 = 15 then ((Int64.toInt32 (f_t_w 27)), (upd f_t 7 0)) else (if p0 = 16 then ((Int64.toInt32 (f_t_w 28)), (upd f_t 7 0)) else (if p0 = 17 then ((Int64.toInt32 (f_t_w 29)), (upd f_t 7 0)) else (if p0 = 18 then ((Int64.toInt32 (f_t_w 23)), (upd f_t 7 0)) else (if p0 = 19 then ((Int64.toInt32 (f_t_w 24)), (upd f_t 7 0)) else (if p0 = 20 then ((Int64.toInt32 (f_t_w 31)), (upd f_t 7 0)) else (if p0 = 21 then ((Int64.toInt32 (f_t_w 43)), (upd f_t 7 0)) else (if p0 = 22 then ((Int64.toInt32 (f_t_w 44)), (upd f_t 7 0)) else (if p0 = 23 then ((f_t 5), (upd f_t 7 0)) else (if p0 = 24 then ((f_t 6), (upd f_t 7 0)) else (s_X11_value_3 (s_X11_refuse (upd f_t 7 0) 1)))))))))))))))))))))))))))
set_option maxRecDepth 100000 in
set_option maxHeartbeats 4000000 in
theorem c_X11_value (l : Launch) (D : va_G) (cI cJ cO : ClassId) (h_t : Nat) (h_t_w : Nat) (h_t_saved : Nat) (h_t_trial : Nat) (h_t_text : Nat) (h_t_told : Nat) (f_t : Nat → Int32) (f_t_w : Nat → Int64) (p0 : Int32) : kI l yX11_value cX11_value 2 .int 1 21 D (kT cI cJ cO) [.ref h_t, .int p0] [(h_t, moE f_t h_t_w h_t_saved h_t_trial h_t_text h_t_told), (h_t_w, jA cJ 294 f_t_w)] ((s_X11_value f_t f_t_w p0).1) [(h_t, moE (s_X11_value f_t f_t_w p0).2 h_t_w h_t_saved h_t_trial h_t_text h_t_told), (h_t_w, jA cJ 294 f_t_w)] := by
  refine kI_of (own := RX11) (lv := [(0, .ref h_t), (1, .int p0)]) rfl rfl (by decide) (Nat.le_of_ble_eq_true rfl) ?_
  intro p e s m args below meth c Q A C hret
  refine k_aload_n (pc := 0) C rfl 0 rfl dX11_value_0 ?_
  refine k_iconst (pc := 1) C iconst_0 dX11_value_1 ?_
  refine p_X11_7 (pc := 2) (ws2 := [(h_t, moE (upd f_t 7 0) h_t_w h_t_saved h_t_trial h_t_text h_t_told), (h_t_w, jA cJ 294 f_t_w)]) C q_1005 0 rfl rfl dX11_value_2 ?_
  refine k_iload_n (pc := 5) C rfl 1 rfl dX11_value_5 ?_
  by_cases c_1 : p0 = 0
  · refine k_tsIn (pc := 6) (tgt := 120) C 0 c_1 (by decide) (by decide) rfl (by decide) dX11_value_6 ?_
    refine k_aload_n (pc := 120) C rfl 0 rfl dX11_value_120 ?_
    refine g_X11_0 (pc := 121) C q_998 0 rfl dX11_value_121 ?_
    refine k_bipush (pc := 124) C bipush_32 dX11_value_124 ?_
    refine k_laldK (pc := 126) (v := (f_t_w 32)) C 1 1 rfl rfl (k_vinc 32 cl_32 (by decide) (by decide)) cl_32 rfl dX11_value_126 ?_
    refine k_l2i (pc := 127) C dX11_value_127 ?_
    have hs : (s_X11_value f_t f_t_w p0) = ((Int64.toInt32 (f_t_w 32)), (upd f_t 7 0)) := (if_pos c_1)
    exact k_finI (pc := 128) hret rfl (by rw [hs]) (by rw [hs]) dX11_value_128
  · by_cases c_2 : p0 = 1
    · refine k_tsIn (pc := 6) (tgt := 129) C 1 c_2 (by decide) (by decide) rfl (by decide) dX11_value_6 ?_
      refine k_aload_n (pc := 129) C rfl 0 rfl dX11_value_129 ?_
      refine g_X11_0 (pc := 130) C q_998 0 rfl dX11_value_130 ?_
      refine k_bipush (pc := 133) C bipush_12 dX11_value_133 ?_
      refine k_iload_n (pc := 135) C rfl 1 rfl dX11_value_135 ?_
      refine k_iadd (pc := 136) C dX11_value_136 ?_
      refine k_iconst (pc := 137) C iconst_1 dX11_value_137 ?_
      refine k_isub (pc := 138) C dX11_value_138 ?_
      refine k_laldK (pc := 139) (v := (f_t_w 12)) C 1 1 rfl rfl (k_vinc 12 (by rw [c_2]; decide) (by rw [c_2]; decide) (by decide)) (by rw [c_2]; decide) rfl dX11_value_139 ?_
      refine k_l2i (pc := 140) C dX11_value_140 ?_
      have hs : (s_X11_value f_t f_t_w p0) = ((Int64.toInt32 (f_t_w 12)), (upd f_t 7 0)) := ((if_neg c_1).trans (if_pos c_2))
      exact k_finI (pc := 141) hret rfl (by rw [hs]) (by rw [hs]) dX11_value_141
    · by_cases c_3 : p0 = 2
      · refine k_tsIn (pc := 6) (tgt := 129) C 2 c_3 (by decide) (by decide) rfl (by decide) dX11_value_6 ?_
        refine k_aload_n (pc := 129) C rfl 0 rfl dX11_value_129 ?_
        refine g_X11_0 (pc := 130) C q_998 0 rfl dX11_value_130 ?_
        refine k_bipush (pc := 133) C bipush_12 dX11_value_133 ?_
        refine k_iload_n (pc := 135) C rfl 1 rfl dX11_value_135 ?_
        refine k_iadd (pc := 136) C dX11_value_136 ?_
        refine k_iconst (pc := 137) C iconst_1 dX11_value_137 ?_
        refine k_isub (pc := 138) C dX11_value_138 ?_
        refine k_laldK (pc := 139) (v := (f_t_w 13)) C 1 1 rfl rfl (k_vinc 13 (by rw [c_3]; decide) (by rw [c_3]; decide) (by decide)) (by rw [c_3]; decide) rfl dX11_value_139 ?_
        refine k_l2i (pc := 140) C dX11_value_140 ?_
        have hs : (s_X11_value f_t f_t_w p0) = ((Int64.toInt32 (f_t_w 13)), (upd f_t 7 0)) := ((if_neg c_1).trans ((if_neg c_2).trans (if_pos c_3)))
        exact k_finI (pc := 141) hret rfl (by rw [hs]) (by rw [hs]) dX11_value_141
      · by_cases c_4 : p0 = 3
        · refine k_tsIn (pc := 6) (tgt := 142) C 3 c_4 (by decide) (by decide) rfl (by decide) dX11_value_6 ?_
          refine k_aload_n (pc := 142) C rfl 0 rfl dX11_value_142 ?_
          refine g_X11_0 (pc := 143) C q_998 0 rfl dX11_value_143 ?_
          refine k_bipush (pc := 146) C bipush_14 dX11_value_146 ?_
          refine k_iload_n (pc := 148) C rfl 1 rfl dX11_value_148 ?_
          refine k_iadd (pc := 149) C dX11_value_149 ?_
          refine k_iconst (pc := 150) C iconst_3 dX11_value_150 ?_
          refine k_isub (pc := 151) C dX11_value_151 ?_
          refine k_laldK (pc := 152) (v := (f_t_w 14)) C 1 1 rfl rfl (k_vinc 14 (by rw [c_4]; decide) (by rw [c_4]; decide) (by decide)) (by rw [c_4]; decide) rfl dX11_value_152 ?_
          refine k_l2i (pc := 153) C dX11_value_153 ?_
          have hs : (s_X11_value f_t f_t_w p0) = ((Int64.toInt32 (f_t_w 14)), (upd f_t 7 0)) := ((if_neg c_1).trans ((if_neg c_2).trans ((if_neg c_3).trans (if_pos c_4))))
          exact k_finI (pc := 154) hret rfl (by rw [hs]) (by rw [hs]) dX11_value_154
        · by_cases c_5 : p0 = 4
          · refine k_tsIn (pc := 6) (tgt := 142) C 4 c_5 (by decide) (by decide) rfl (by decide) dX11_value_6 ?_
            refine k_aload_n (pc := 142) C rfl 0 rfl dX11_value_142 ?_
            refine g_X11_0 (pc := 143) C q_998 0 rfl dX11_value_143 ?_
            refine k_bipush (pc := 146) C bipush_14 dX11_value_146 ?_
            refine k_iload_n (pc := 148) C rfl 1 rfl dX11_value_148 ?_
            refine k_iadd (pc := 149) C dX11_value_149 ?_
            refine k_iconst (pc := 150) C iconst_3 dX11_value_150 ?_
            refine k_isub (pc := 151) C dX11_value_151 ?_
            refine k_laldK (pc := 152) (v := (f_t_w 15)) C 1 1 rfl rfl (k_vinc 15 (by rw [c_5]; decide) (by rw [c_5]; decide) (by decide)) (by rw [c_5]; decide) rfl dX11_value_152 ?_
            refine k_l2i (pc := 153) C dX11_value_153 ?_
            have hs : (s_X11_value f_t f_t_w p0) = ((Int64.toInt32 (f_t_w 15)), (upd f_t 7 0)) := ((if_neg c_1).trans ((if_neg c_2).trans ((if_neg c_3).trans ((if_neg c_4).trans (if_pos c_5)))))
            exact k_finI (pc := 154) hret rfl (by rw [hs]) (by rw [hs]) dX11_value_154
          · by_cases c_6 : p0 = 5
            · refine k_tsIn (pc := 6) (tgt := 155) C 5 c_6 (by decide) (by decide) rfl (by decide) dX11_value_6 ?_
              refine k_aload_n (pc := 155) C rfl 0 rfl dX11_value_155 ?_
              refine g_X11_0 (pc := 156) C q_998 0 rfl dX11_value_156 ?_
              refine k_bipush (pc := 159) C bipush_33 dX11_value_159 ?_
              refine k_laldK (pc := 161) (v := (f_t_w 33)) C 1 1 rfl rfl (k_vinc 33 cl_33 (by decide) (by decide)) cl_33 rfl dX11_value_161 ?_
              refine k_l2i (pc := 162) C dX11_value_162 ?_
              have hs : (s_X11_value f_t f_t_w p0) = ((Int64.toInt32 (f_t_w 33)), (upd f_t 7 0)) := ((if_neg c_1).trans ((if_neg c_2).trans ((if_neg c_3).trans ((if_neg c_4).trans ((if_neg c_5).trans (if_pos c_6))))))
              exact k_finI (pc := 163) hret rfl (by rw [hs]) (by rw [hs]) dX11_value_163
            · by_cases c_7 : p0 = 6
              · refine k_tsIn (pc := 6) (tgt := 164) C 6 c_7 (by decide) (by decide) rfl (by decide) dX11_value_6 ?_
                refine k_aload_n (pc := 164) C rfl 0 rfl dX11_value_164 ?_
                refine g_X11_0 (pc := 165) C q_998 0 rfl dX11_value_165 ?_
                refine k_bipush (pc := 168) C bipush_34 dX11_value_168 ?_
                refine k_laldK (pc := 170) (v := (f_t_w 34)) C 1 1 rfl rfl (k_vinc 34 cl_34 (by decide) (by decide)) cl_34 rfl dX11_value_170 ?_
                refine k_l2i (pc := 171) C dX11_value_171 ?_
                have hs : (s_X11_value f_t f_t_w p0) = ((Int64.toInt32 (f_t_w 34)), (upd f_t 7 0)) := ((if_neg c_1).trans ((if_neg c_2).trans ((if_neg c_3).trans ((if_neg c_4).trans ((if_neg c_5).trans ((if_neg c_6).trans (if_pos c_7)))))))
                exact k_finI (pc := 172) hret rfl (by rw [hs]) (by rw [hs]) dX11_value_172
              · by_cases c_8 : p0 = 7
                · refine k_tsIn (pc := 6) (tgt := 173) C 7 c_8 (by decide) (by decide) rfl (by decide) dX11_value_6 ?_
                  refine k_aload_n (pc := 173) C rfl 0 rfl dX11_value_173 ?_
                  refine g_X11_0 (pc := 174) C q_998 0 rfl dX11_value_174 ?_
                  refine k_bipush (pc := 177) C bipush_16 dX11_value_177 ?_
                  refine k_laldK (pc := 179) (v := (f_t_w 16)) C 1 1 rfl rfl (k_vinc 16 cl_16 (by decide) (by decide)) cl_16 rfl dX11_value_179 ?_
                  refine k_l2i (pc := 180) C dX11_value_180 ?_
                  have hs : (s_X11_value f_t f_t_w p0) = ((Int64.toInt32 (f_t_w 16)), (upd f_t 7 0)) := ((if_neg c_1).trans ((if_neg c_2).trans ((if_neg c_3).trans ((if_neg c_4).trans ((if_neg c_5).trans ((if_neg c_6).trans ((if_neg c_7).trans (if_pos c_8))))))))
                  exact k_finI (pc := 181) hret rfl (by rw [hs]) (by rw [hs]) dX11_value_181
                · by_cases c_9 : p0 = 8
                  · refine k_tsIn (pc := 6) (tgt := 182) C 8 c_9 (by decide) (by decide) rfl (by decide) dX11_value_6 ?_
                    refine k_aload_n (pc := 182) C rfl 0 rfl dX11_value_182 ?_
                    refine k_callVi (pc := 183) (As := []) (rest := []) (r := (s_X11_runs (upd f_t 7 0) f_t_w)) (wc := [(h_t, moE (upd f_t 7 0) h_t_w h_t_saved h_t_trial h_t_text h_t_told), (h_t_w, jA cJ 294 f_t_w)]) (wc2 := [(h_t, moE (upd f_t 7 0) h_t_w h_t_saved h_t_trial h_t_text h_t_told), (h_t_w, jA cJ 294 f_t_w)]) (ws2 := [(h_t, moE (upd f_t 7 0) h_t_w h_t_saved h_t_trial h_t_text h_t_told), (h_t_w, jA cJ 294 f_t_w)]) C (c_X11_runs l D cI cJ cO h_t h_t_w h_t_saved h_t_trial h_t_text h_t_told (upd f_t 7 0) f_t_w) cwv_X11_runs q_1085 vX11 0 rfl [0, 1] rfl rfl (by decide) rfl rfl (Nat.le_of_ble_eq_true rfl) ⟨Nat.le_of_ble_eq_true rfl, Nat.le_of_ble_eq_true rfl⟩ rfl ⟨Nat.le_refl _, Nat.le_refl _⟩ dX11_value_183 ?_
                    have K_31 : ∀ (x_11 : Int32), x_11 = (if (s_X11_runs (upd f_t 7 0) f_t_w) = 0 then (-10000) else (Int64.toInt32 (f_t_w 35))) → KJ p l e (kR 1 21) s m args below meth c 0 0 Q D A 2 [(h_t, moE (upd f_t 7 0) h_t_w h_t_saved h_t_trial h_t_text h_t_told), (h_t_w, jA cJ 294 f_t_w)] [] [.int x_11] 203 := by
                      intro x_11 ex_11
                      have hs : (s_X11_value f_t f_t_w p0) = (x_11, (upd f_t 7 0)) := (k_st (g := s_X11_value_1 f_t) ex_11 ((if_neg c_1).trans ((if_neg c_2).trans ((if_neg c_3).trans ((if_neg c_4).trans ((if_neg c_5).trans ((if_neg c_6).trans ((if_neg c_7).trans ((if_neg c_8).trans (if_pos c_9))))))))) rfl)
                      exact k_finI (pc := 203) hret rfl (by rw [hs]) (by rw [hs]) dX11_value_203
                    refine k_if_eq (pc := 186) (tgt := 200) C dX11_value_186 (by decide) (fun c_10 => ?_) (fun c_10 => ?_)
                    · refine k_sipush (pc := 200) C sipush_m10000 dX11_value_200 ?_
                      refine k_lpick (lv2 := []) [] rfl ?_
                      exact K_31 (-10000) (Eq.symm (if_pos c_10))
                    · refine k_aload_n (pc := 189) C rfl 0 rfl dX11_value_189 ?_
                      refine g_X11_0 (pc := 190) C q_998 0 rfl dX11_value_190 ?_
                      refine k_bipush (pc := 193) C bipush_35 dX11_value_193 ?_
                      refine k_laldK (pc := 195) (v := (f_t_w 35)) C 1 1 rfl rfl (k_vinc 35 cl_35 (by decide) (by decide)) cl_35 rfl dX11_value_195 ?_
                      refine k_l2i (pc := 196) C dX11_value_196 ?_
                      refine k_goto (pc := 197) (tgt := 203) C (by decide) dX11_value_197 ?_
                      refine k_lpick (lv2 := []) [] rfl ?_
                      exact K_31 (Int64.toInt32 (f_t_w 35)) (Eq.symm (if_neg c_10))
                  · by_cases c_12 : p0 = 9
                    · refine k_tsIn (pc := 6) (tgt := 204) C 9 c_12 (by decide) (by decide) rfl (by decide) dX11_value_6 ?_
                      refine k_aload_n (pc := 204) C rfl 0 rfl dX11_value_204 ?_
                      refine k_callVi (pc := 205) (As := []) (rest := []) (r := (s_X11_runs (upd f_t 7 0) f_t_w)) (wc := [(h_t, moE (upd f_t 7 0) h_t_w h_t_saved h_t_trial h_t_text h_t_told), (h_t_w, jA cJ 294 f_t_w)]) (wc2 := [(h_t, moE (upd f_t 7 0) h_t_w h_t_saved h_t_trial h_t_text h_t_told), (h_t_w, jA cJ 294 f_t_w)]) (ws2 := [(h_t, moE (upd f_t 7 0) h_t_w h_t_saved h_t_trial h_t_text h_t_told), (h_t_w, jA cJ 294 f_t_w)]) C (c_X11_runs l D cI cJ cO h_t h_t_w h_t_saved h_t_trial h_t_text h_t_told (upd f_t 7 0) f_t_w) cwv_X11_runs q_1085 vX11 0 rfl [0, 1] rfl rfl (by decide) rfl rfl (Nat.le_of_ble_eq_true rfl) ⟨Nat.le_of_ble_eq_true rfl, Nat.le_of_ble_eq_true rfl⟩ rfl ⟨Nat.le_refl _, Nat.le_refl _⟩ dX11_value_205 ?_
                      have K_32 : ∀ (x_14 : Int32), x_14 = (if (s_X11_runs (upd f_t 7 0) f_t_w) = 0 then (-10000) else (Int64.toInt32 (f_t_w 36))) → KJ p l e (kR 1 21) s m args below meth c 0 0 Q D A 2 [(h_t, moE (upd f_t 7 0) h_t_w h_t_saved h_t_trial h_t_text h_t_told), (h_t_w, jA cJ 294 f_t_w)] [] [.int x_14] 225 := by
                        intro x_14 ex_14
                        have hs : (s_X11_value f_t f_t_w p0) = (x_14, (upd f_t 7 0)) := (k_st (g := s_X11_value_2 f_t) ex_14 ((if_neg c_1).trans ((if_neg c_2).trans ((if_neg c_3).trans ((if_neg c_4).trans ((if_neg c_5).trans ((if_neg c_6).trans ((if_neg c_7).trans ((if_neg c_8).trans ((if_neg c_9).trans (if_pos c_12)))))))))) rfl)
                        exact k_finI (pc := 225) hret rfl (by rw [hs]) (by rw [hs]) dX11_value_225
                      refine k_if_eq (pc := 208) (tgt := 222) C dX11_value_208 (by decide) (fun c_13 => ?_) (fun c_13 => ?_)
                      · refine k_sipush (pc := 222) C sipush_m10000 dX11_value_222 ?_
                        refine k_lpick (lv2 := []) [] rfl ?_
                        exact K_32 (-10000) (Eq.symm (if_pos c_13))
                      · refine k_aload_n (pc := 211) C rfl 0 rfl dX11_value_211 ?_
                        refine g_X11_0 (pc := 212) C q_998 0 rfl dX11_value_212 ?_
                        refine k_bipush (pc := 215) C bipush_36 dX11_value_215 ?_
                        refine k_laldK (pc := 217) (v := (f_t_w 36)) C 1 1 rfl rfl (k_vinc 36 cl_36 (by decide) (by decide)) cl_36 rfl dX11_value_217 ?_
                        refine k_l2i (pc := 218) C dX11_value_218 ?_
                        refine k_goto (pc := 219) (tgt := 225) C (by decide) dX11_value_219 ?_
                        refine k_lpick (lv2 := []) [] rfl ?_
                        exact K_32 (Int64.toInt32 (f_t_w 36)) (Eq.symm (if_neg c_13))
                    · by_cases c_15 : p0 = 10
                      · refine k_tsIn (pc := 6) (tgt := 226) C 10 c_15 (by decide) (by decide) rfl (by decide) dX11_value_6 ?_
                        refine k_aload_n (pc := 226) C rfl 0 rfl dX11_value_226 ?_
                        refine g_X11_0 (pc := 227) C q_998 0 rfl dX11_value_227 ?_
                        refine k_bipush (pc := 230) C bipush_39 dX11_value_230 ?_
                        refine k_iload_n (pc := 232) C rfl 1 rfl dX11_value_232 ?_
                        refine k_iadd (pc := 233) C dX11_value_233 ?_
                        refine k_bipush (pc := 234) C bipush_10 dX11_value_234 ?_
                        refine k_isub (pc := 236) C dX11_value_236 ?_
                        refine k_laldK (pc := 237) (v := (f_t_w 39)) C 1 1 rfl rfl (k_vinc 39 (by rw [c_15]; decide) (by rw [c_15]; decide) (by decide)) (by rw [c_15]; decide) rfl dX11_value_237 ?_
                        refine k_l2i (pc := 238) C dX11_value_238 ?_
                        have hs : (s_X11_value f_t f_t_w p0) = ((Int64.toInt32 (f_t_w 39)), (upd f_t 7 0)) := ((if_neg c_1).trans ((if_neg c_2).trans ((if_neg c_3).trans ((if_neg c_4).trans ((if_neg c_5).trans ((if_neg c_6).trans ((if_neg c_7).trans ((if_neg c_8).trans ((if_neg c_9).trans ((if_neg c_12).trans (if_pos c_15)))))))))))
                        exact k_finI (pc := 239) hret rfl (by rw [hs]) (by rw [hs]) dX11_value_239
                      · by_cases c_16 : p0 = 11
                        · refine k_tsIn (pc := 6) (tgt := 226) C 11 c_16 (by decide) (by decide) rfl (by decide) dX11_value_6 ?_
                          refine k_aload_n (pc := 226) C rfl 0 rfl dX11_value_226 ?_
                          refine g_X11_0 (pc := 227) C q_998 0 rfl dX11_value_227 ?_
                          refine k_bipush (pc := 230) C bipush_39 dX11_value_230 ?_
                          refine k_iload_n (pc := 232) C rfl 1 rfl dX11_value_232 ?_
                          refine k_iadd (pc := 233) C dX11_value_233 ?_
                          refine k_bipush (pc := 234) C bipush_10 dX11_value_234 ?_
                          refine k_isub (pc := 236) C dX11_value_236 ?_
                          refine k_laldK (pc := 237) (v := (f_t_w 40)) C 1 1 rfl rfl (k_vinc 40 (by rw [c_16]; decide) (by rw [c_16]; decide) (by decide)) (by rw [c_16]; decide) rfl dX11_value_237 ?_
                          refine k_l2i (pc := 238) C dX11_value_238 ?_
                          have hs : (s_X11_value f_t f_t_w p0) = ((Int64.toInt32 (f_t_w 40)), (upd f_t 7 0)) := ((if_neg c_1).trans ((if_neg c_2).trans ((if_neg c_3).trans ((if_neg c_4).trans ((if_neg c_5).trans ((if_neg c_6).trans ((if_neg c_7).trans ((if_neg c_8).trans ((if_neg c_9).trans ((if_neg c_12).trans ((if_neg c_15).trans (if_pos c_16))))))))))))
                          exact k_finI (pc := 239) hret rfl (by rw [hs]) (by rw [hs]) dX11_value_239
                        · by_cases c_17 : p0 = 12
                          · refine k_tsIn (pc := 6) (tgt := 226) C 12 c_17 (by decide) (by decide) rfl (by decide) dX11_value_6 ?_
                            refine k_aload_n (pc := 226) C rfl 0 rfl dX11_value_226 ?_
                            refine g_X11_0 (pc := 227) C q_998 0 rfl dX11_value_227 ?_
                            refine k_bipush (pc := 230) C bipush_39 dX11_value_230 ?_
                            refine k_iload_n (pc := 232) C rfl 1 rfl dX11_value_232 ?_
                            refine k_iadd (pc := 233) C dX11_value_233 ?_
                            refine k_bipush (pc := 234) C bipush_10 dX11_value_234 ?_
                            refine k_isub (pc := 236) C dX11_value_236 ?_
                            refine k_laldK (pc := 237) (v := (f_t_w 41)) C 1 1 rfl rfl (k_vinc 41 (by rw [c_17]; decide) (by rw [c_17]; decide) (by decide)) (by rw [c_17]; decide) rfl dX11_value_237 ?_
                            refine k_l2i (pc := 238) C dX11_value_238 ?_
                            have hs : (s_X11_value f_t f_t_w p0) = ((Int64.toInt32 (f_t_w 41)), (upd f_t 7 0)) := ((if_neg c_1).trans ((if_neg c_2).trans ((if_neg c_3).trans ((if_neg c_4).trans ((if_neg c_5).trans ((if_neg c_6).trans ((if_neg c_7).trans ((if_neg c_8).trans ((if_neg c_9).trans ((if_neg c_12).trans ((if_neg c_15).trans ((if_neg c_16).trans (if_pos c_17)))))))))))))
                            exact k_finI (pc := 239) hret rfl (by rw [hs]) (by rw [hs]) dX11_value_239
                          · by_cases c_18 : p0 = 13
                            · refine k_tsIn (pc := 6) (tgt := 240) C 13 c_18 (by decide) (by decide) rfl (by decide) dX11_value_6 ?_
                              refine k_aload_n (pc := 240) C rfl 0 rfl dX11_value_240 ?_
                              refine g_X11_0 (pc := 241) C q_998 0 rfl dX11_value_241 ?_
                              refine k_bipush (pc := 244) C bipush_25 dX11_value_244 ?_
                              refine k_iload_n (pc := 246) C rfl 1 rfl dX11_value_246 ?_
                              refine k_iadd (pc := 247) C dX11_value_247 ?_
                              refine k_bipush (pc := 248) C bipush_13 dX11_value_248 ?_
                              refine k_isub (pc := 250) C dX11_value_250 ?_
                              refine k_laldK (pc := 251) (v := (f_t_w 25)) C 1 1 rfl rfl (k_vinc 25 (by rw [c_18]; decide) (by rw [c_18]; decide) (by decide)) (by rw [c_18]; decide) rfl dX11_value_251 ?_
                              refine k_l2i (pc := 252) C dX11_value_252 ?_
                              have hs : (s_X11_value f_t f_t_w p0) = ((Int64.toInt32 (f_t_w 25)), (upd f_t 7 0)) := ((if_neg c_1).trans ((if_neg c_2).trans ((if_neg c_3).trans ((if_neg c_4).trans ((if_neg c_5).trans ((if_neg c_6).trans ((if_neg c_7).trans ((if_neg c_8).trans ((if_neg c_9).trans ((if_neg c_12).trans ((if_neg c_15).trans ((if_neg c_16).trans ((if_neg c_17).trans (if_pos c_18))))))))))))))
                              exact k_finI (pc := 253) hret rfl (by rw [hs]) (by rw [hs]) dX11_value_253
                            · by_cases c_19 : p0 = 14
                              · refine k_tsIn (pc := 6) (tgt := 240) C 14 c_19 (by decide) (by decide) rfl (by decide) dX11_value_6 ?_
                                refine k_aload_n (pc := 240) C rfl 0 rfl dX11_value_240 ?_
                                refine g_X11_0 (pc := 241) C q_998 0 rfl dX11_value_241 ?_
                                refine k_bipush (pc := 244) C bipush_25 dX11_value_244 ?_
                                refine k_iload_n (pc := 246) C rfl 1 rfl dX11_value_246 ?_
                                refine k_iadd (pc := 247) C dX11_value_247 ?_
                                refine k_bipush (pc := 248) C bipush_13 dX11_value_248 ?_
                                refine k_isub (pc := 250) C dX11_value_250 ?_
                                refine k_laldK (pc := 251) (v := (f_t_w 26)) C 1 1 rfl rfl (k_vinc 26 (by rw [c_19]; decide) (by rw [c_19]; decide) (by decide)) (by rw [c_19]; decide) rfl dX11_value_251 ?_
                                refine k_l2i (pc := 252) C dX11_value_252 ?_
                                have hs : (s_X11_value f_t f_t_w p0) = ((Int64.toInt32 (f_t_w 26)), (upd f_t 7 0)) := ((if_neg c_1).trans ((if_neg c_2).trans ((if_neg c_3).trans ((if_neg c_4).trans ((if_neg c_5).trans ((if_neg c_6).trans ((if_neg c_7).trans ((if_neg c_8).trans ((if_neg c_9).trans ((if_neg c_12).trans ((if_neg c_15).trans ((if_neg c_16).trans ((if_neg c_17).trans ((if_neg c_18).trans (if_pos c_19)))))))))))))))
                                exact k_finI (pc := 253) hret rfl (by rw [hs]) (by rw [hs]) dX11_value_253
                              · by_cases c_20 : p0 = 15
                                · refine k_tsIn (pc := 6) (tgt := 240) C 15 c_20 (by decide) (by decide) rfl (by decide) dX11_value_6 ?_
                                  refine k_aload_n (pc := 240) C rfl 0 rfl dX11_value_240 ?_
                                  refine g_X11_0 (pc := 241) C q_998 0 rfl dX11_value_241 ?_
                                  refine k_bipush (pc := 244) C bipush_25 dX11_value_244 ?_
                                  refine k_iload_n (pc := 246) C rfl 1 rfl dX11_value_246 ?_
                                  refine k_iadd (pc := 247) C dX11_value_247 ?_
                                  refine k_bipush (pc := 248) C bipush_13 dX11_value_248 ?_
                                  refine k_isub (pc := 250) C dX11_value_250 ?_
                                  refine k_laldK (pc := 251) (v := (f_t_w 27)) C 1 1 rfl rfl (k_vinc 27 (by rw [c_20]; decide) (by rw [c_20]; decide) (by decide)) (by rw [c_20]; decide) rfl dX11_value_251 ?_
                                  refine k_l2i (pc := 252) C dX11_value_252 ?_
                                  have hs : (s_X11_value f_t f_t_w p0) = ((Int64.toInt32 (f_t_w 27)), (upd f_t 7 0)) := ((if_neg c_1).trans ((if_neg c_2).trans ((if_neg c_3).trans ((if_neg c_4).trans ((if_neg c_5).trans ((if_neg c_6).trans ((if_neg c_7).trans ((if_neg c_8).trans ((if_neg c_9).trans ((if_neg c_12).trans ((if_neg c_15).trans ((if_neg c_16).trans ((if_neg c_17).trans ((if_neg c_18).trans ((if_neg c_19).trans (if_pos c_20))))))))))))))))
                                  exact k_finI (pc := 253) hret rfl (by rw [hs]) (by rw [hs]) dX11_value_253
                                · by_cases c_21 : p0 = 16
                                  · refine k_tsIn (pc := 6) (tgt := 240) C 16 c_21 (by decide) (by decide) rfl (by decide) dX11_value_6 ?_
                                    refine k_aload_n (pc := 240) C rfl 0 rfl dX11_value_240 ?_
                                    refine g_X11_0 (pc := 241) C q_998 0 rfl dX11_value_241 ?_
                                    refine k_bipush (pc := 244) C bipush_25 dX11_value_244 ?_
                                    refine k_iload_n (pc := 246) C rfl 1 rfl dX11_value_246 ?_
                                    refine k_iadd (pc := 247) C dX11_value_247 ?_
                                    refine k_bipush (pc := 248) C bipush_13 dX11_value_248 ?_
                                    refine k_isub (pc := 250) C dX11_value_250 ?_
                                    refine k_laldK (pc := 251) (v := (f_t_w 28)) C 1 1 rfl rfl (k_vinc 28 (by rw [c_21]; decide) (by rw [c_21]; decide) (by decide)) (by rw [c_21]; decide) rfl dX11_value_251 ?_
                                    refine k_l2i (pc := 252) C dX11_value_252 ?_
                                    have hs : (s_X11_value f_t f_t_w p0) = ((Int64.toInt32 (f_t_w 28)), (upd f_t 7 0)) := ((if_neg c_1).trans ((if_neg c_2).trans ((if_neg c_3).trans ((if_neg c_4).trans ((if_neg c_5).trans ((if_neg c_6).trans ((if_neg c_7).trans ((if_neg c_8).trans ((if_neg c_9).trans ((if_neg c_12).trans ((if_neg c_15).trans ((if_neg c_16).trans ((if_neg c_17).trans ((if_neg c_18).trans ((if_neg c_19).trans ((if_neg c_20).trans (if_pos c_21)))))))))))))))))
                                    exact k_finI (pc := 253) hret rfl (by rw [hs]) (by rw [hs]) dX11_value_253
                                  · by_cases c_22 : p0 = 17
                                    · refine k_tsIn (pc := 6) (tgt := 254) C 17 c_22 (by decide) (by decide) rfl (by decide) dX11_value_6 ?_
                                      refine k_aload_n (pc := 254) C rfl 0 rfl dX11_value_254 ?_
                                      refine g_X11_0 (pc := 255) C q_998 0 rfl dX11_value_255 ?_
                                      refine k_bipush (pc := 258) C bipush_29 dX11_value_258 ?_
                                      refine k_laldK (pc := 260) (v := (f_t_w 29)) C 1 1 rfl rfl (k_vinc 29 cl_29 (by decide) (by decide)) cl_29 rfl dX11_value_260 ?_
                                      refine k_l2i (pc := 261) C dX11_value_261 ?_
                                      have hs : (s_X11_value f_t f_t_w p0) = ((Int64.toInt32 (f_t_w 29)), (upd f_t 7 0)) := ((if_neg c_1).trans ((if_neg c_2).trans ((if_neg c_3).trans ((if_neg c_4).trans ((if_neg c_5).trans ((if_neg c_6).trans ((if_neg c_7).trans ((if_neg c_8).trans ((if_neg c_9).trans ((if_neg c_12).trans ((if_neg c_15).trans ((if_neg c_16).trans ((if_neg c_17).trans ((if_neg c_18).trans ((if_neg c_19).trans ((if_neg c_20).trans ((if_neg c_21).trans (if_pos c_22))))))))))))))))))
                                      exact k_finI (pc := 262) hret rfl (by rw [hs]) (by rw [hs]) dX11_value_262
                                    · by_cases c_23 : p0 = 18
                                      · refine k_tsIn (pc := 6) (tgt := 263) C 18 c_23 (by decide) (by decide) rfl (by decide) dX11_value_6 ?_
                                        refine k_aload_n (pc := 263) C rfl 0 rfl dX11_value_263 ?_
                                        refine g_X11_0 (pc := 264) C q_998 0 rfl dX11_value_264 ?_
                                        refine k_bipush (pc := 267) C bipush_23 dX11_value_267 ?_
                                        refine k_laldK (pc := 269) (v := (f_t_w 23)) C 1 1 rfl rfl (k_vinc 23 cl_23 (by decide) (by decide)) cl_23 rfl dX11_value_269 ?_
                                        refine k_l2i (pc := 270) C dX11_value_270 ?_
                                        have hs : (s_X11_value f_t f_t_w p0) = ((Int64.toInt32 (f_t_w 23)), (upd f_t 7 0)) := ((if_neg c_1).trans ((if_neg c_2).trans ((if_neg c_3).trans ((if_neg c_4).trans ((if_neg c_5).trans ((if_neg c_6).trans ((if_neg c_7).trans ((if_neg c_8).trans ((if_neg c_9).trans ((if_neg c_12).trans ((if_neg c_15).trans ((if_neg c_16).trans ((if_neg c_17).trans ((if_neg c_18).trans ((if_neg c_19).trans ((if_neg c_20).trans ((if_neg c_21).trans ((if_neg c_22).trans (if_pos c_23)))))))))))))))))))
                                        exact k_finI (pc := 271) hret rfl (by rw [hs]) (by rw [hs]) dX11_value_271
                                      · by_cases c_24 : p0 = 19
                                        · refine k_tsIn (pc := 6) (tgt := 272) C 19 c_24 (by decide) (by decide) rfl (by decide) dX11_value_6 ?_
                                          refine k_aload_n (pc := 272) C rfl 0 rfl dX11_value_272 ?_
                                          refine g_X11_0 (pc := 273) C q_998 0 rfl dX11_value_273 ?_
                                          refine k_bipush (pc := 276) C bipush_24 dX11_value_276 ?_
                                          refine k_laldK (pc := 278) (v := (f_t_w 24)) C 1 1 rfl rfl (k_vinc 24 cl_24 (by decide) (by decide)) cl_24 rfl dX11_value_278 ?_
                                          refine k_l2i (pc := 279) C dX11_value_279 ?_
                                          have hs : (s_X11_value f_t f_t_w p0) = ((Int64.toInt32 (f_t_w 24)), (upd f_t 7 0)) := ((if_neg c_1).trans ((if_neg c_2).trans ((if_neg c_3).trans ((if_neg c_4).trans ((if_neg c_5).trans ((if_neg c_6).trans ((if_neg c_7).trans ((if_neg c_8).trans ((if_neg c_9).trans ((if_neg c_12).trans ((if_neg c_15).trans ((if_neg c_16).trans ((if_neg c_17).trans ((if_neg c_18).trans ((if_neg c_19).trans ((if_neg c_20).trans ((if_neg c_21).trans ((if_neg c_22).trans ((if_neg c_23).trans (if_pos c_24))))))))))))))))))))
                                          exact k_finI (pc := 280) hret rfl (by rw [hs]) (by rw [hs]) dX11_value_280
                                        · by_cases c_25 : p0 = 20
                                          · refine k_tsIn (pc := 6) (tgt := 281) C 20 c_25 (by decide) (by decide) rfl (by decide) dX11_value_6 ?_
                                            refine k_aload_n (pc := 281) C rfl 0 rfl dX11_value_281 ?_
                                            refine g_X11_0 (pc := 282) C q_998 0 rfl dX11_value_282 ?_
                                            refine k_bipush (pc := 285) C bipush_31 dX11_value_285 ?_
                                            refine k_laldK (pc := 287) (v := (f_t_w 31)) C 1 1 rfl rfl (k_vinc 31 cl_31 (by decide) (by decide)) cl_31 rfl dX11_value_287 ?_
                                            refine k_l2i (pc := 288) C dX11_value_288 ?_
                                            have hs : (s_X11_value f_t f_t_w p0) = ((Int64.toInt32 (f_t_w 31)), (upd f_t 7 0)) := ((if_neg c_1).trans ((if_neg c_2).trans ((if_neg c_3).trans ((if_neg c_4).trans ((if_neg c_5).trans ((if_neg c_6).trans ((if_neg c_7).trans ((if_neg c_8).trans ((if_neg c_9).trans ((if_neg c_12).trans ((if_neg c_15).trans ((if_neg c_16).trans ((if_neg c_17).trans ((if_neg c_18).trans ((if_neg c_19).trans ((if_neg c_20).trans ((if_neg c_21).trans ((if_neg c_22).trans ((if_neg c_23).trans ((if_neg c_24).trans (if_pos c_25)))))))))))))))))))))
                                            exact k_finI (pc := 289) hret rfl (by rw [hs]) (by rw [hs]) dX11_value_289
                                          · by_cases c_26 : p0 = 21
                                            · refine k_tsIn (pc := 6) (tgt := 290) C 21 c_26 (by decide) (by decide) rfl (by decide) dX11_value_6 ?_
                                              refine k_aload_n (pc := 290) C rfl 0 rfl dX11_value_290 ?_
                                              refine g_X11_0 (pc := 291) C q_998 0 rfl dX11_value_291 ?_
                                              refine k_bipush (pc := 294) C bipush_43 dX11_value_294 ?_
                                              refine k_laldK (pc := 296) (v := (f_t_w 43)) C 1 1 rfl rfl (k_vinc 43 cl_43 (by decide) (by decide)) cl_43 rfl dX11_value_296 ?_
                                              refine k_l2i (pc := 297) C dX11_value_297 ?_
                                              have hs : (s_X11_value f_t f_t_w p0) = ((Int64.toInt32 (f_t_w 43)), (upd f_t 7 0)) := ((if_neg c_1).trans ((if_neg c_2).trans ((if_neg c_3).trans ((if_neg c_4).trans ((if_neg c_5).trans ((if_neg c_6).trans ((if_neg c_7).trans ((if_neg c_8).trans ((if_neg c_9).trans ((if_neg c_12).trans ((if_neg c_15).trans ((if_neg c_16).trans ((if_neg c_17).trans ((if_neg c_18).trans ((if_neg c_19).trans ((if_neg c_20).trans ((if_neg c_21).trans ((if_neg c_22).trans ((if_neg c_23).trans ((if_neg c_24).trans ((if_neg c_25).trans (if_pos c_26))))))))))))))))))))))
                                              exact k_finI (pc := 298) hret rfl (by rw [hs]) (by rw [hs]) dX11_value_298
                                            · by_cases c_27 : p0 = 22
                                              · refine k_tsIn (pc := 6) (tgt := 299) C 22 c_27 (by decide) (by decide) rfl (by decide) dX11_value_6 ?_
                                                refine k_aload_n (pc := 299) C rfl 0 rfl dX11_value_299 ?_
                                                refine g_X11_0 (pc := 300) C q_998 0 rfl dX11_value_300 ?_
                                                refine k_bipush (pc := 303) C bipush_44 dX11_value_303 ?_
                                                refine k_laldK (pc := 305) (v := (f_t_w 44)) C 1 1 rfl rfl (k_vinc 44 cl_44 (by decide) (by decide)) cl_44 rfl dX11_value_305 ?_
                                                refine k_l2i (pc := 306) C dX11_value_306 ?_
                                                have hs : (s_X11_value f_t f_t_w p0) = ((Int64.toInt32 (f_t_w 44)), (upd f_t 7 0)) := ((if_neg c_1).trans ((if_neg c_2).trans ((if_neg c_3).trans ((if_neg c_4).trans ((if_neg c_5).trans ((if_neg c_6).trans ((if_neg c_7).trans ((if_neg c_8).trans ((if_neg c_9).trans ((if_neg c_12).trans ((if_neg c_15).trans ((if_neg c_16).trans ((if_neg c_17).trans ((if_neg c_18).trans ((if_neg c_19).trans ((if_neg c_20).trans ((if_neg c_21).trans ((if_neg c_22).trans ((if_neg c_23).trans ((if_neg c_24).trans ((if_neg c_25).trans ((if_neg c_26).trans (if_pos c_27)))))))))))))))))))))))
                                                exact k_finI (pc := 307) hret rfl (by rw [hs]) (by rw [hs]) dX11_value_307
                                              · by_cases c_28 : p0 = 23
                                                · refine k_tsIn (pc := 6) (tgt := 308) C 23 c_28 (by decide) (by decide) rfl (by decide) dX11_value_6 ?_
                                                  refine k_aload_n (pc := 308) C rfl 0 rfl dX11_value_308 ?_
                                                  refine g_X11_5 (pc := 309) (x := (f_t 5)) C q_1003 0 rfl (upn (by decide) rfl) dX11_value_309 ?_
                                                  have hs : (s_X11_value f_t f_t_w p0) = ((f_t 5), (upd f_t 7 0)) := ((if_neg c_1).trans ((if_neg c_2).trans ((if_neg c_3).trans ((if_neg c_4).trans ((if_neg c_5).trans ((if_neg c_6).trans ((if_neg c_7).trans ((if_neg c_8).trans ((if_neg c_9).trans ((if_neg c_12).trans ((if_neg c_15).trans ((if_neg c_16).trans ((if_neg c_17).trans ((if_neg c_18).trans ((if_neg c_19).trans ((if_neg c_20).trans ((if_neg c_21).trans ((if_neg c_22).trans ((if_neg c_23).trans ((if_neg c_24).trans ((if_neg c_25).trans ((if_neg c_26).trans ((if_neg c_27).trans (if_pos c_28))))))))))))))))))))))))
                                                  exact k_finI (pc := 312) hret rfl (by rw [hs]) (by rw [hs]) dX11_value_312
                                                · by_cases c_29 : p0 = 24
                                                  · refine k_tsIn (pc := 6) (tgt := 313) C 24 c_29 (by decide) (by decide) rfl (by decide) dX11_value_6 ?_
                                                    refine k_aload_n (pc := 313) C rfl 0 rfl dX11_value_313 ?_
                                                    refine g_X11_6 (pc := 314) (x := (f_t 6)) C q_1004 0 rfl (upn (by decide) rfl) dX11_value_314 ?_
                                                    have hs : (s_X11_value f_t f_t_w p0) = ((f_t 6), (upd f_t 7 0)) := ((if_neg c_1).trans ((if_neg c_2).trans ((if_neg c_3).trans ((if_neg c_4).trans ((if_neg c_5).trans ((if_neg c_6).trans ((if_neg c_7).trans ((if_neg c_8).trans ((if_neg c_9).trans ((if_neg c_12).trans ((if_neg c_15).trans ((if_neg c_16).trans ((if_neg c_17).trans ((if_neg c_18).trans ((if_neg c_19).trans ((if_neg c_20).trans ((if_neg c_21).trans ((if_neg c_22).trans ((if_neg c_23).trans ((if_neg c_24).trans ((if_neg c_25).trans ((if_neg c_26).trans ((if_neg c_27).trans ((if_neg c_28).trans (if_pos c_29)))))))))))))))))))))))))
                                                    exact k_finI (pc := 317) hret rfl (by rw [hs]) (by rw [hs]) dX11_value_317
                                                  · refine k_tsOut (pc := 6) (tgt := 318) C (by have z0 := k_ne (k := 0) c_1 (by decide); have z1 := k_ne (k := 1) c_2 (by decide); have z2 := k_ne (k := 2) c_3 (by decide); have z3 := k_ne (k := 3) c_4 (by decide); have z4 := k_ne (k := 4) c_5 (by decide); have z5 := k_ne (k := 5) c_6 (by decide); have z6 := k_ne (k := 6) c_7 (by decide); have z7 := k_ne (k := 7) c_8 (by decide); have z8 := k_ne (k := 8) c_9 (by decide); have z9 := k_ne (k := 9) c_12 (by decide); have z10 := k_ne (k := 10) c_15 (by decide); have z11 := k_ne (k := 11) c_16 (by decide); have z12 := k_ne (k := 12) c_17 (by decide); have z13 := k_ne (k := 13) c_18 (by decide); have z14 := k_ne (k := 14) c_19 (by decide); have z15 := k_ne (k := 15) c_20 (by decide); have z16 := k_ne (k := 16) c_21 (by decide); have z17 := k_ne (k := 17) c_22 (by decide); have z18 := k_ne (k := 18) c_23 (by decide); have z19 := k_ne (k := 19) c_24 (by decide); have z20 := k_ne (k := 20) c_25 (by decide); have z21 := k_ne (k := 21) c_26 (by decide); have z22 := k_ne (k := 22) c_27 (by decide); have z23 := k_ne (k := 23) c_28 (by decide); have z24 := k_ne (k := 24) c_29 (by decide); omega) (by decide) dX11_value_6 ?_
                                                    refine k_aload_n (pc := 318) C rfl 0 rfl dX11_value_318 ?_
                                                    refine k_iconst (pc := 319) C iconst_1 dX11_value_319 ?_
                                                    obtain ⟨u_30, eu_30⟩ : ∃ z : Int32 × (Nat → Int32), z = (s_X11_refuse (upd f_t 7 0) 1) := ⟨_, rfl⟩
                                                    refine k_callVi (pc := 320) (As := [.int 1]) (rest := []) (r := u_30.1) (wc := [(h_t, moE (upd f_t 7 0) h_t_w h_t_saved h_t_trial h_t_text h_t_told)]) (wc2 := [(h_t, moE u_30.2 h_t_w h_t_saved h_t_trial h_t_text h_t_told)]) (ws2 := [(h_t, moE u_30.2 h_t_w h_t_saved h_t_trial h_t_text h_t_told), (h_t_w, jA cJ 294 f_t_w)]) C (by rw [eu_30]; exact c_X11_refuse l D cI cJ cO h_t h_t_w h_t_saved h_t_trial h_t_text h_t_told (upd f_t 7 0) 1) cwv_X11_refuse q_1054 vX11 0 rfl [0] rfl rfl (by decide) rfl rfl (Nat.le_of_ble_eq_true rfl) ⟨Nat.le_of_ble_eq_true rfl, Nat.le_of_ble_eq_true rfl⟩ rfl ⟨Nat.le_refl _, Nat.le_refl _⟩ dX11_value_320 ?_
                                                    have hs : (s_X11_value f_t f_t_w p0) = (u_30.1, u_30.2) := (k_st (g := s_X11_value_3) eu_30 ((if_neg c_1).trans ((if_neg c_2).trans ((if_neg c_3).trans ((if_neg c_4).trans ((if_neg c_5).trans ((if_neg c_6).trans ((if_neg c_7).trans ((if_neg c_8).trans ((if_neg c_9).trans ((if_neg c_12).trans ((if_neg c_15).trans ((if_neg c_16).trans ((if_neg c_17).trans ((if_neg c_18).trans ((if_neg c_19).trans ((if_neg c_20).trans ((if_neg c_21).trans ((if_neg c_22).trans ((if_neg c_23).trans ((if_neg c_24).trans ((if_neg c_25).trans ((if_neg c_26).trans ((if_neg c_27).trans ((if_neg c_28).trans (if_neg c_29))))))))))))))))))))))))) rfl)
                                                    exact k_finI (pc := 323) hret rfl (by rw [hs]) (by rw [hs]) dX11_value_323

theorem dX11_setting_0 : decode cX11_setting 0 = .ok (.aload_n 0, 1) := by decide +kernel
theorem dX11_setting_1 : decode cX11_setting 1 = .ok (.iconst 0, 1) := by decide +kernel
theorem dX11_setting_2 : decode cX11_setting 2 = .ok (.putfield 50, 3) := by decide +kernel
theorem dX11_setting_5 : decode cX11_setting 5 = .ok (.iload_n 1, 1) := by decide +kernel
theorem dX11_setting_6 : decode cX11_setting 6 = .ok (.i2l, 1) := by decide +kernel
theorem dX11_setting_7 : decode cX11_setting 7 = .ok (.lconst 0, 1) := by decide +kernel
theorem dX11_setting_8 : decode cX11_setting 8 = .ok (.ldc2_w 61, 3) := by decide +kernel
theorem dX11_setting_11 : decode cX11_setting 11 = .ok (.invokestatic 63, 3) := by decide +kernel
theorem dX11_setting_14 : decode cX11_setting 14 = .ok (.ifCond .eq 15, 3) := by decide +kernel
theorem dX11_setting_17 : decode cX11_setting 17 = .ok (.aload_n 0, 1) := by decide +kernel
theorem dX11_setting_18 : decode cX11_setting 18 = .ok (.getfield 7, 3) := by decide +kernel
theorem dX11_setting_21 : decode cX11_setting 21 = .ok (.iconst 0, 1) := by decide +kernel
theorem dX11_setting_22 : decode cX11_setting 22 = .ok (.iload_n 1, 1) := by decide +kernel
theorem dX11_setting_23 : decode cX11_setting 23 = .ok (.iadd, 1) := by decide +kernel
theorem dX11_setting_24 : decode cX11_setting 24 = .ok (.laload, 1) := by decide +kernel
theorem dX11_setting_25 : decode cX11_setting 25 = .ok (.l2i, 1) := by decide +kernel
theorem dX11_setting_26 : decode cX11_setting 26 = .ok (.goto 8, 3) := by decide +kernel
theorem dX11_setting_29 : decode cX11_setting 29 = .ok (.aload_n 0, 1) := by decide +kernel
theorem dX11_setting_30 : decode cX11_setting 30 = .ok (.iconst 1, 1) := by decide +kernel
theorem dX11_setting_31 : decode cX11_setting 31 = .ok (.invokevirtual 67, 3) := by decide +kernel
theorem dX11_setting_34 : decode cX11_setting 34 = .ok (.ireturn, 1) := by decide +kernel
def j_X11_setting_1 (u_2 : Int32 × (Nat → Int32)) : Int32 × (Nat → Int32) :=
  (u_2.1, u_2.2)
def j_X11_setting_2 (p0 : Int32) (f_t : Nat → Int32) (f_t_w : Nat → Int64) : Int32 × (Nat → Int32) :=
  (if (s_X11_in (Int32.toInt64 p0) 0 11) = 0 then (j_X11_setting_1 (s_X11_refuse (upd f_t 7 0) 1)) else ((Int64.toInt32 (f_t_w (Int32.toNatClampNeg (0 + p0)))), (upd f_t 7 0)))
def s_X11_setting_3 (m_3 : Int32 × (Nat → Int32)) : Int32 × (Nat → Int32) :=
  (m_3.1, m_3.2)
def s_X11_setting (f_t : Nat → Int32) (f_t_w : Nat → Int64) (p0 : Int32) : Int32 × (Nat → Int32) :=
  (s_X11_setting_3 (j_X11_setting_2 p0 f_t f_t_w))
set_option maxRecDepth 100000 in
set_option maxHeartbeats 4000000 in
theorem c_X11_setting (l : Launch) (D : va_G) (cI cJ cO : ClassId) (h_t : Nat) (h_t_w : Nat) (h_t_saved : Nat) (h_t_trial : Nat) (h_t_text : Nat) (h_t_told : Nat) (f_t : Nat → Int32) (f_t_w : Nat → Int64) (p0 : Int32) : kI l yX11_setting cX11_setting 2 .int 1 25 D (kT cI cJ cO) [.ref h_t, .int p0] [(h_t, moE f_t h_t_w h_t_saved h_t_trial h_t_text h_t_told), (h_t_w, jA cJ 294 f_t_w)] ((s_X11_setting f_t f_t_w p0).1) [(h_t, moE (s_X11_setting f_t f_t_w p0).2 h_t_w h_t_saved h_t_trial h_t_text h_t_told), (h_t_w, jA cJ 294 f_t_w)] := by
  refine kI_of (own := RX11) (lv := [(0, .ref h_t), (1, .int p0)]) rfl rfl (by decide) (Nat.le_of_ble_eq_true rfl) ?_
  intro p e s m args below meth c Q A C hret
  refine k_aload_n (pc := 0) C rfl 0 rfl dX11_setting_0 ?_
  refine k_iconst (pc := 1) C iconst_0 dX11_setting_1 ?_
  refine p_X11_7 (pc := 2) (ws2 := [(h_t, moE (upd f_t 7 0) h_t_w h_t_saved h_t_trial h_t_text h_t_told), (h_t_w, jA cJ 294 f_t_w)]) C q_1005 0 rfl rfl dX11_setting_2 ?_
  refine k_iload_n (pc := 5) C rfl 1 rfl dX11_setting_5 ?_
  refine k_i2l (pc := 6) C dX11_setting_6 ?_
  refine k_lconst (pc := 7) C lconst_0 dX11_setting_7 ?_
  refine k_ldc2 (pc := 8) C q_1050 dX11_setting_8 ?_
  refine k_callSi (pc := 11) (As := [.long (Int32.toInt64 p0), .long 0, .long 11]) (rest := []) (r := (s_X11_in (Int32.toInt64 p0) 0 11)) (wc := []) (wc2 := []) (ws2 := [(h_t, moE (upd f_t 7 0) h_t_w h_t_saved h_t_trial h_t_text h_t_told), (h_t_w, jA cJ 294 f_t_w)]) C (c_X11_in l D cI cJ cO (Int32.toInt64 p0) 0 11) cws_X11_in q_1051 [] rfl rfl (by decide) rfl rfl (Nat.le_of_ble_eq_true rfl) ⟨Nat.le_of_ble_eq_true rfl, Nat.le_of_ble_eq_true rfl⟩ rfl ⟨Nat.le_refl _, Nat.le_refl _⟩ dX11_setting_11 ?_
  have K_4 : ∀ (m_3 : Int32 × (Nat → Int32)), m_3 = (j_X11_setting_2 p0 f_t f_t_w) → KJ p l e (kR 1 25) s m args below meth c 0 0 Q D A 2 [(h_t, moE m_3.2 h_t_w h_t_saved h_t_trial h_t_text h_t_told), (h_t_w, jA cJ 294 f_t_w)] [] [.int m_3.1] 34 := by
    intro m_3 em_3
    have hs : (s_X11_setting f_t f_t_w p0) = (m_3.1, m_3.2) := (k_st (g := s_X11_setting_3) em_3 rfl rfl)
    exact k_finI (pc := 34) hret rfl (by rw [hs]) (by rw [hs]) dX11_setting_34
  refine k_if_eq (pc := 14) (tgt := 29) C dX11_setting_14 (by decide) (fun c_1 => ?_) (fun c_1 => ?_)
  · refine k_aload_n (pc := 29) C rfl 0 rfl dX11_setting_29 ?_
    refine k_iconst (pc := 30) C iconst_1 dX11_setting_30 ?_
    obtain ⟨u_2, eu_2⟩ : ∃ z : Int32 × (Nat → Int32), z = (s_X11_refuse (upd f_t 7 0) 1) := ⟨_, rfl⟩
    refine k_callVi (pc := 31) (As := [.int 1]) (rest := []) (r := u_2.1) (wc := [(h_t, moE (upd f_t 7 0) h_t_w h_t_saved h_t_trial h_t_text h_t_told)]) (wc2 := [(h_t, moE u_2.2 h_t_w h_t_saved h_t_trial h_t_text h_t_told)]) (ws2 := [(h_t, moE u_2.2 h_t_w h_t_saved h_t_trial h_t_text h_t_told), (h_t_w, jA cJ 294 f_t_w)]) C (by rw [eu_2]; exact c_X11_refuse l D cI cJ cO h_t h_t_w h_t_saved h_t_trial h_t_text h_t_told (upd f_t 7 0) 1) cwv_X11_refuse q_1054 vX11 0 rfl [0] rfl rfl (by decide) rfl rfl (Nat.le_of_ble_eq_true rfl) ⟨Nat.le_of_ble_eq_true rfl, Nat.le_of_ble_eq_true rfl⟩ rfl ⟨Nat.le_refl _, Nat.le_refl _⟩ dX11_setting_31 ?_
    refine k_lpick (lv2 := []) [] rfl ?_
    exact K_4 (u_2.1, u_2.2) (Eq.symm (k_st (g := j_X11_setting_1) eu_2 (if_pos c_1) rfl))
  · refine k_aload_n (pc := 17) C rfl 0 rfl dX11_setting_17 ?_
    refine g_X11_0 (pc := 18) C q_998 0 rfl dX11_setting_18 ?_
    refine k_iconst (pc := 21) C iconst_0 dX11_setting_21 ?_
    refine k_iload_n (pc := 22) C rfl 1 rfl dX11_setting_22 ?_
    refine k_iadd (pc := 23) C dX11_setting_23 ?_
    refine k_laldK (pc := 24) (v := (f_t_w (Int32.toNatClampNeg (0 + p0)))) C 1 1 rfl rfl (kIn.vp (kIn.add (kIn.lit (x := 0) (n := 0) (by decide)) (kIn.inb c_1 (kInL.lit (x := 0) (n := 0) (by decide)) (kInL.lit (x := 11) (n := 11) (by decide))) (by decide) (by decide)) (by decide) (by decide)) rfl rfl dX11_setting_24 ?_
    refine k_l2i (pc := 25) C dX11_setting_25 ?_
    refine k_goto (pc := 26) (tgt := 34) C (by decide) dX11_setting_26 ?_
    refine k_lpick (lv2 := []) [] rfl ?_
    exact K_4 ((Int64.toInt32 (f_t_w (Int32.toNatClampNeg (0 + p0)))), (upd f_t 7 0)) (Eq.symm (if_neg c_1))

theorem dX11_auditCode_0 : decode cX11_auditCode 0 = .ok (.aload_n 0, 1) := by decide +kernel
theorem dX11_auditCode_1 : decode cX11_auditCode 1 = .ok (.iconst 0, 1) := by decide +kernel
theorem dX11_auditCode_2 : decode cX11_auditCode 2 = .ok (.putfield 50, 3) := by decide +kernel
theorem dX11_auditCode_5 : decode cX11_auditCode 5 = .ok (.aload_n 0, 1) := by decide +kernel
theorem dX11_auditCode_6 : decode cX11_auditCode 6 = .ok (.getfield 7, 3) := by decide +kernel
theorem dX11_auditCode_9 : decode cX11_auditCode 9 = .ok (.bipush 47, 2) := by decide +kernel
theorem dX11_auditCode_11 : decode cX11_auditCode 11 = .ok (.laload, 1) := by decide +kernel
theorem dX11_auditCode_12 : decode cX11_auditCode 12 = .ok (.lreturn, 1) := by decide +kernel
def s_X11_auditCode (f_t : Nat → Int32) (f_t_w : Nat → Int64) : Int64 × (Nat → Int32) :=
  ((f_t_w 47), (upd f_t 7 0))
set_option maxRecDepth 100000 in
set_option maxHeartbeats 4000000 in
theorem c_X11_auditCode (l : Launch) (D : va_G) (cI cJ cO : ClassId) (h_t : Nat) (h_t_w : Nat) (h_t_saved : Nat) (h_t_trial : Nat) (h_t_text : Nat) (h_t_told : Nat) (f_t : Nat → Int32) (f_t_w : Nat → Int64) : kL l yX11_auditCode cX11_auditCode 1 .long 0 0 D (kT cI cJ cO) [.ref h_t] [(h_t, moE f_t h_t_w h_t_saved h_t_trial h_t_text h_t_told), (h_t_w, jA cJ 294 f_t_w)] ((s_X11_auditCode f_t f_t_w).1) [(h_t, moE (s_X11_auditCode f_t f_t_w).2 h_t_w h_t_saved h_t_trial h_t_text h_t_told), (h_t_w, jA cJ 294 f_t_w)] := by
  refine kL_of (own := RX11) (lv := [(0, .ref h_t)]) rfl rfl (by decide) (Nat.le_of_ble_eq_true rfl) ?_
  intro p e s m args below meth c Q A C hret
  refine k_aload_n (pc := 0) C rfl 0 rfl dX11_auditCode_0 ?_
  refine k_iconst (pc := 1) C iconst_0 dX11_auditCode_1 ?_
  refine p_X11_7 (pc := 2) (ws2 := [(h_t, moE (upd f_t 7 0) h_t_w h_t_saved h_t_trial h_t_text h_t_told), (h_t_w, jA cJ 294 f_t_w)]) C q_1005 0 rfl rfl dX11_auditCode_2 ?_
  refine k_aload_n (pc := 5) C rfl 0 rfl dX11_auditCode_5 ?_
  refine g_X11_0 (pc := 6) C q_998 0 rfl dX11_auditCode_6 ?_
  refine k_bipush (pc := 9) C bipush_47 dX11_auditCode_9 ?_
  refine k_laldK (pc := 11) (v := (f_t_w 47)) C 1 1 rfl rfl (k_vinc 47 cl_47 (by decide) (by decide)) cl_47 rfl dX11_auditCode_11 ?_
  have hs : (s_X11_auditCode f_t f_t_w) = ((f_t_w 47), (upd f_t 7 0)) := rfl
  exact k_finL (pc := 12) hret (by rw [hs]) (by rw [hs]) dX11_auditCode_12

theorem dX11_history_0 : decode cX11_history 0 = .ok (.aload_n 0, 1) := by decide +kernel
theorem dX11_history_1 : decode cX11_history 1 = .ok (.iconst 0, 1) := by decide +kernel
theorem dX11_history_2 : decode cX11_history 2 = .ok (.putfield 50, 3) := by decide +kernel
theorem dX11_history_5 : decode cX11_history 5 = .ok (.iload_n 1, 1) := by decide +kernel
theorem dX11_history_6 : decode cX11_history 6 = .ok (.ifCond .ge 9, 3) := by decide +kernel
theorem dX11_history_9 : decode cX11_history 9 = .ok (.aload_n 0, 1) := by decide +kernel
theorem dX11_history_10 : decode cX11_history 10 = .ok (.iconst 1, 1) := by decide +kernel
theorem dX11_history_11 : decode cX11_history 11 = .ok (.invokevirtual 67, 3) := by decide +kernel
theorem dX11_history_14 : decode cX11_history 14 = .ok (.ireturn, 1) := by decide +kernel
theorem dX11_history_15 : decode cX11_history 15 = .ok (.iload_n 1, 1) := by decide +kernel
theorem dX11_history_16 : decode cX11_history 16 = .ok (.i2l, 1) := by decide +kernel
theorem dX11_history_17 : decode cX11_history 17 = .ok (.aload_n 0, 1) := by decide +kernel
theorem dX11_history_18 : decode cX11_history 18 = .ok (.getfield 7, 3) := by decide +kernel
theorem dX11_history_21 : decode cX11_history 21 = .ok (.bipush 48, 2) := by decide +kernel
theorem dX11_history_23 : decode cX11_history 23 = .ok (.laload, 1) := by decide +kernel
theorem dX11_history_24 : decode cX11_history 24 = .ok (.lcmp, 1) := by decide +kernel
theorem dX11_history_25 : decode cX11_history 25 = .ok (.ifCond .ge 28, 3) := by decide +kernel
theorem dX11_history_28 : decode cX11_history 28 = .ok (.aload_n 0, 1) := by decide +kernel
theorem dX11_history_29 : decode cX11_history 29 = .ok (.getfield 7, 3) := by decide +kernel
theorem dX11_history_32 : decode cX11_history 32 = .ok (.sipush 234, 3) := by decide +kernel
theorem dX11_history_35 : decode cX11_history 35 = .ok (.aload_n 0, 1) := by decide +kernel
theorem dX11_history_36 : decode cX11_history 36 = .ok (.getfield 7, 3) := by decide +kernel
theorem dX11_history_39 : decode cX11_history 39 = .ok (.bipush 48, 2) := by decide +kernel
theorem dX11_history_41 : decode cX11_history 41 = .ok (.laload, 1) := by decide +kernel
theorem dX11_history_42 : decode cX11_history 42 = .ok (.l2i, 1) := by decide +kernel
theorem dX11_history_43 : decode cX11_history 43 = .ok (.iadd, 1) := by decide +kernel
theorem dX11_history_44 : decode cX11_history 44 = .ok (.iconst 1, 1) := by decide +kernel
theorem dX11_history_45 : decode cX11_history 45 = .ok (.isub, 1) := by decide +kernel
theorem dX11_history_46 : decode cX11_history 46 = .ok (.iload_n 1, 1) := by decide +kernel
theorem dX11_history_47 : decode cX11_history 47 = .ok (.isub, 1) := by decide +kernel
theorem dX11_history_48 : decode cX11_history 48 = .ok (.laload, 1) := by decide +kernel
theorem dX11_history_49 : decode cX11_history 49 = .ok (.l2i, 1) := by decide +kernel
theorem dX11_history_50 : decode cX11_history 50 = .ok (.goto 6, 3) := by decide +kernel
theorem dX11_history_53 : decode cX11_history 53 = .ok (.sipush (-10000), 3) := by decide +kernel
theorem dX11_history_56 : decode cX11_history 56 = .ok (.ireturn, 1) := by decide +kernel
def s_X11_history_1 (f_t : Nat → Int32) (x_3 : Int32) : Int32 × (Nat → Int32) :=
  (x_3, (upd f_t 7 0))
def s_X11_history_2 (u_4 : Int32 × (Nat → Int32)) : Int32 × (Nat → Int32) :=
  (u_4.1, u_4.2)
def s_X11_history (f_t : Nat → Int32) (f_t_w : Nat → Int64) (p0 : Int32) : Int32 × (Nat → Int32) :=
  (if 0 ≤ p0 then (s_X11_history_1 f_t (if (f_t_w 48) ≤ (Int32.toInt64 p0) then (-10000) else (Int64.toInt32 (f_t_w (Int32.toNatClampNeg (((234 + (Int64.toInt32 (f_t_w 48))) - 1) - p0)))))) else (s_X11_history_2 (s_X11_refuse (upd f_t 7 0) 1)))
set_option maxRecDepth 100000 in
set_option maxHeartbeats 4000000 in
theorem c_X11_history (l : Launch) (D : va_G) (cI cJ cO : ClassId) (h_t : Nat) (h_t_w : Nat) (h_t_saved : Nat) (h_t_trial : Nat) (h_t_text : Nat) (h_t_told : Nat) (f_t : Nat → Int32) (f_t_w : Nat → Int64) (p0 : Int32) (hf_t_w_48 : kInL (f_t_w 48) 0 60) : kI l yX11_history cX11_history 2 .int 1 21 D (kT cI cJ cO) [.ref h_t, .int p0] [(h_t, moE f_t h_t_w h_t_saved h_t_trial h_t_text h_t_told), (h_t_w, jA cJ 294 f_t_w)] ((s_X11_history f_t f_t_w p0).1) [(h_t, moE (s_X11_history f_t f_t_w p0).2 h_t_w h_t_saved h_t_trial h_t_text h_t_told), (h_t_w, jA cJ 294 f_t_w)] := by
  refine kI_of (own := RX11) (lv := [(0, .ref h_t), (1, .int p0)]) rfl rfl (by decide) (Nat.le_of_ble_eq_true rfl) ?_
  intro p e s m args below meth c Q A C hret
  refine k_aload_n (pc := 0) C rfl 0 rfl dX11_history_0 ?_
  refine k_iconst (pc := 1) C iconst_0 dX11_history_1 ?_
  refine p_X11_7 (pc := 2) (ws2 := [(h_t, moE (upd f_t 7 0) h_t_w h_t_saved h_t_trial h_t_text h_t_told), (h_t_w, jA cJ 294 f_t_w)]) C q_1005 0 rfl rfl dX11_history_2 ?_
  refine k_iload_n (pc := 5) C rfl 1 rfl dX11_history_5 ?_
  refine k_if_ge (pc := 6) (tgt := 15) C dX11_history_6 (by decide) (fun c_1 => ?_) (fun c_1 => ?_)
  · refine k_iload_n (pc := 15) C rfl 1 rfl dX11_history_15 ?_
    refine k_i2l (pc := 16) C dX11_history_16 ?_
    refine k_aload_n (pc := 17) C rfl 0 rfl dX11_history_17 ?_
    refine g_X11_0 (pc := 18) C q_998 0 rfl dX11_history_18 ?_
    refine k_bipush (pc := 21) C bipush_48 dX11_history_21 ?_
    refine k_laldK (pc := 23) (v := (f_t_w 48)) C 1 1 rfl rfl (k_vinc 48 cl_48 (by decide) (by decide)) cl_48 rfl dX11_history_23 ?_
    have K_5 : ∀ (x_3 : Int32), x_3 = (if (f_t_w 48) ≤ (Int32.toInt64 p0) then (-10000) else (Int64.toInt32 (f_t_w (Int32.toNatClampNeg (((234 + (Int64.toInt32 (f_t_w 48))) - 1) - p0))))) → KJ p l e (kR 1 21) s m args below meth c 0 0 Q D A 2 [(h_t, moE (upd f_t 7 0) h_t_w h_t_saved h_t_trial h_t_text h_t_told), (h_t_w, jA cJ 294 f_t_w)] [] [.int x_3] 56 := by
      intro x_3 ex_3
      have hs : (s_X11_history f_t f_t_w p0) = (x_3, (upd f_t 7 0)) := (k_st (g := s_X11_history_1 f_t) ex_3 (if_pos c_1) rfl)
      exact k_finI (pc := 56) hret rfl (by rw [hs]) (by rw [hs]) dX11_history_56
    refine k_lcmp_ge (pc := 24) (tgt := 53) C dX11_history_24 dX11_history_25 (by decide) (fun c_2 => ?_) (fun c_2 => ?_)
    · refine k_sipush (pc := 53) C sipush_m10000 dX11_history_53 ?_
      refine k_lpick (lv2 := []) [] rfl ?_
      exact K_5 (-10000) (Eq.symm (if_pos c_2))
    · refine k_aload_n (pc := 28) C rfl 0 rfl dX11_history_28 ?_
      refine g_X11_0 (pc := 29) C q_998 0 rfl dX11_history_29 ?_
      refine k_sipush (pc := 32) C sipush_234 dX11_history_32 ?_
      refine k_aload_n (pc := 35) C rfl 0 rfl dX11_history_35 ?_
      refine g_X11_0 (pc := 36) C q_998 0 rfl dX11_history_36 ?_
      refine k_bipush (pc := 39) C bipush_48 dX11_history_39 ?_
      refine k_laldK (pc := 41) (v := (f_t_w 48)) C 1 1 rfl rfl (k_vinc 48 cl_48 (by decide) (by decide)) cl_48 rfl dX11_history_41 ?_
      refine k_l2i (pc := 42) C dX11_history_42 ?_
      refine k_iadd (pc := 43) C dX11_history_43 ?_
      refine k_iconst (pc := 44) C iconst_1 dX11_history_44 ?_
      refine k_isub (pc := 45) C dX11_history_45 ?_
      refine k_iload_n (pc := 46) C rfl 1 rfl dX11_history_46 ?_
      refine k_isub (pc := 47) C dX11_history_47 ?_
      refine k_laldK (pc := 48) (v := (f_t_w (Int32.toNatClampNeg (((234 + (Int64.toInt32 (f_t_w 48))) - 1) - p0)))) C 1 1 rfl rfl (kIn.vp (kIn.sub (kIn.sub (kIn.add (kIn.lit (x := 234) (n := 234) (by decide)) (kIn.l2i hf_t_w_48 (by decide) (by decide)) (by decide) (by decide)) (kIn.lit (x := 1) (n := 1) (by decide)) (by decide) (by decide)) (kIn.i2lNle (kIn.geB (n := 0) (kIn.any p0) c_1 (by decide)) c_2 hf_t_w_48 : kIn p0 0 59) (by decide) (by decide)) (by decide) (by decide)) rfl rfl dX11_history_48 ?_
      refine k_l2i (pc := 49) C dX11_history_49 ?_
      refine k_goto (pc := 50) (tgt := 56) C (by decide) dX11_history_50 ?_
      refine k_lpick (lv2 := []) [] rfl ?_
      exact K_5 (Int64.toInt32 (f_t_w (Int32.toNatClampNeg (((234 + (Int64.toInt32 (f_t_w 48))) - 1) - p0)))) (Eq.symm (if_neg c_2))
  · refine k_aload_n (pc := 9) C rfl 0 rfl dX11_history_9 ?_
    refine k_iconst (pc := 10) C iconst_1 dX11_history_10 ?_
    obtain ⟨u_4, eu_4⟩ : ∃ z : Int32 × (Nat → Int32), z = (s_X11_refuse (upd f_t 7 0) 1) := ⟨_, rfl⟩
    refine k_callVi (pc := 11) (As := [.int 1]) (rest := []) (r := u_4.1) (wc := [(h_t, moE (upd f_t 7 0) h_t_w h_t_saved h_t_trial h_t_text h_t_told)]) (wc2 := [(h_t, moE u_4.2 h_t_w h_t_saved h_t_trial h_t_text h_t_told)]) (ws2 := [(h_t, moE u_4.2 h_t_w h_t_saved h_t_trial h_t_text h_t_told), (h_t_w, jA cJ 294 f_t_w)]) C (by rw [eu_4]; exact c_X11_refuse l D cI cJ cO h_t h_t_w h_t_saved h_t_trial h_t_text h_t_told (upd f_t 7 0) 1) cwv_X11_refuse q_1054 vX11 0 rfl [0] rfl rfl (by decide) rfl rfl (Nat.le_of_ble_eq_true rfl) ⟨Nat.le_of_ble_eq_true rfl, Nat.le_of_ble_eq_true rfl⟩ rfl ⟨Nat.le_refl _, Nat.le_refl _⟩ dX11_history_11 ?_
    have hs : (s_X11_history f_t f_t_w p0) = (u_4.1, u_4.2) := (k_st (g := s_X11_history_2) eu_4 (if_neg c_1) rfl)
    exact k_finI (pc := 14) hret rfl (by rw [hs]) (by rw [hs]) dX11_history_14

theorem dX11_from_0 : decode cX11_from 0 = .ok (.aload_n 0, 1) := by decide +kernel
theorem dX11_from_1 : decode cX11_from 1 = .ok (.getfield 7, 3) := by decide +kernel
theorem dX11_from_4 : decode cX11_from 4 = .ok (.bipush 48, 2) := by decide +kernel
theorem dX11_from_6 : decode cX11_from 6 = .ok (.laload, 1) := by decide +kernel
theorem dX11_from_7 : decode cX11_from 7 = .ok (.iload_n 1, 1) := by decide +kernel
theorem dX11_from_8 : decode cX11_from 8 = .ok (.i2l, 1) := by decide +kernel
theorem dX11_from_9 : decode cX11_from 9 = .ok (.lcmp, 1) := by decide +kernel
theorem dX11_from_10 : decode cX11_from 10 = .ok (.ifCond .le 16, 3) := by decide +kernel
theorem dX11_from_13 : decode cX11_from 13 = .ok (.aload_n 0, 1) := by decide +kernel
theorem dX11_from_14 : decode cX11_from 14 = .ok (.getfield 7, 3) := by decide +kernel
theorem dX11_from_17 : decode cX11_from 17 = .ok (.bipush 48, 2) := by decide +kernel
theorem dX11_from_19 : decode cX11_from 19 = .ok (.laload, 1) := by decide +kernel
theorem dX11_from_20 : decode cX11_from 20 = .ok (.l2i, 1) := by decide +kernel
theorem dX11_from_21 : decode cX11_from 21 = .ok (.iload_n 1, 1) := by decide +kernel
theorem dX11_from_22 : decode cX11_from 22 = .ok (.isub, 1) := by decide +kernel
theorem dX11_from_23 : decode cX11_from 23 = .ok (.goto 4, 3) := by decide +kernel
theorem dX11_from_26 : decode cX11_from 26 = .ok (.iconst 0, 1) := by decide +kernel
theorem dX11_from_27 : decode cX11_from 27 = .ok (.ireturn, 1) := by decide +kernel
def s_X11_from_1 (x_2 : Int32) : Int32 :=
  x_2
def s_X11_from (f_t : Nat → Int32) (f_t_w : Nat → Int64) (p0 : Int32) : Int32 :=
  (s_X11_from_1 (if (f_t_w 48) ≤ (Int32.toInt64 p0) then 0 else ((Int64.toInt32 (f_t_w 48)) - p0)))
set_option maxRecDepth 100000 in
set_option maxHeartbeats 4000000 in
theorem c_X11_from (l : Launch) (D : va_G) (cI cJ cO : ClassId) (h_t : Nat) (h_t_w : Nat) (h_t_saved : Nat) (h_t_trial : Nat) (h_t_text : Nat) (h_t_told : Nat) (f_t : Nat → Int32) (f_t_w : Nat → Int64) (p0 : Int32) : kI l yX11_from cX11_from 2 .int 0 0 D (kT cI cJ cO) [.ref h_t, .int p0] [(h_t, moE f_t h_t_w h_t_saved h_t_trial h_t_text h_t_told), (h_t_w, jA cJ 294 f_t_w)] (s_X11_from f_t f_t_w p0) [(h_t, moE f_t h_t_w h_t_saved h_t_trial h_t_text h_t_told), (h_t_w, jA cJ 294 f_t_w)] := by
  refine kI_of (own := RX11) (lv := [(0, .ref h_t), (1, .int p0)]) rfl rfl (by decide) (Nat.le_of_ble_eq_true rfl) ?_
  intro p e s m args below meth c Q A C hret
  refine k_aload_n (pc := 0) C rfl 0 rfl dX11_from_0 ?_
  refine g_X11_0 (pc := 1) C q_998 0 rfl dX11_from_1 ?_
  refine k_bipush (pc := 4) C bipush_48 dX11_from_4 ?_
  refine k_laldK (pc := 6) (v := (f_t_w 48)) C 1 1 rfl rfl (k_vinc 48 cl_48 (by decide) (by decide)) cl_48 rfl dX11_from_6 ?_
  refine k_iload_n (pc := 7) C rfl 1 rfl dX11_from_7 ?_
  refine k_i2l (pc := 8) C dX11_from_8 ?_
  have K_3 : ∀ (x_2 : Int32), x_2 = (if (f_t_w 48) ≤ (Int32.toInt64 p0) then 0 else ((Int64.toInt32 (f_t_w 48)) - p0)) → KJ p l e (kR 0 0) s m args below meth c 0 0 Q D A 2 [(h_t, moE f_t h_t_w h_t_saved h_t_trial h_t_text h_t_told), (h_t_w, jA cJ 294 f_t_w)] [] [.int x_2] 27 := by
    intro x_2 ex_2
    have hs : (s_X11_from f_t f_t_w p0) = x_2 := (k_st (g := s_X11_from_1) ex_2 rfl rfl)
    exact k_finI (pc := 27) hret rfl (by rw [hs]) rfl dX11_from_27
  refine k_lcmp_le (pc := 9) (tgt := 26) C dX11_from_9 dX11_from_10 (by decide) (fun c_1 => ?_) (fun c_1 => ?_)
  · refine k_iconst (pc := 26) C iconst_0 dX11_from_26 ?_
    refine k_lpick (lv2 := []) [] rfl ?_
    exact K_3 0 (Eq.symm (if_pos c_1))
  · refine k_aload_n (pc := 13) C rfl 0 rfl dX11_from_13 ?_
    refine g_X11_0 (pc := 14) C q_998 0 rfl dX11_from_14 ?_
    refine k_bipush (pc := 17) C bipush_48 dX11_from_17 ?_
    refine k_laldK (pc := 19) (v := (f_t_w 48)) C 1 1 rfl rfl (k_vinc 48 cl_48 (by decide) (by decide)) cl_48 rfl dX11_from_19 ?_
    refine k_l2i (pc := 20) C dX11_from_20 ?_
    refine k_iload_n (pc := 21) C rfl 1 rfl dX11_from_21 ?_
    refine k_isub (pc := 22) C dX11_from_22 ?_
    refine k_goto (pc := 23) (tgt := 27) C (by decide) dX11_from_23 ?_
    refine k_lpick (lv2 := []) [] rfl ?_
    exact K_3 ((Int64.toInt32 (f_t_w 48)) - p0) (Eq.symm (if_neg c_1))

theorem dX11_clear_0 : decode cX11_clear 0 = .ok (.aload_n 0, 1) := by decide +kernel
theorem dX11_clear_1 : decode cX11_clear 1 = .ok (.iconst 0, 1) := by decide +kernel
theorem dX11_clear_2 : decode cX11_clear 2 = .ok (.putfield 50, 3) := by decide +kernel
theorem dX11_clear_5 : decode cX11_clear 5 = .ok (.aload_n 0, 1) := by decide +kernel
theorem dX11_clear_6 : decode cX11_clear 6 = .ok (.getfield 178, 3) := by decide +kernel
theorem dX11_clear_9 : decode cX11_clear 9 = .ok (.istore_n 1, 1) := by decide +kernel
theorem dX11_clear_10 : decode cX11_clear 10 = .ok (.aload_n 0, 1) := by decide +kernel
theorem dX11_clear_11 : decode cX11_clear 11 = .ok (.iconst 0, 1) := by decide +kernel
theorem dX11_clear_12 : decode cX11_clear 12 = .ok (.putfield 178, 3) := by decide +kernel
theorem dX11_clear_15 : decode cX11_clear 15 = .ok (.iload_n 1, 1) := by decide +kernel
theorem dX11_clear_16 : decode cX11_clear 16 = .ok (.ireturn, 1) := by decide +kernel
def s_X11_clear (f_t : Nat → Int32) : Int32 × (Nat → Int32) :=
  ((f_t 6), (upd (upd f_t 7 0) 6 0))
set_option maxRecDepth 100000 in
set_option maxHeartbeats 4000000 in
theorem c_X11_clear (l : Launch) (D : va_G) (cI cJ cO : ClassId) (h_t : Nat) (h_t_w : Nat) (h_t_saved : Nat) (h_t_trial : Nat) (h_t_text : Nat) (h_t_told : Nat) (f_t : Nat → Int32) : kI l yX11_clear cX11_clear 2 .int 0 0 D (kT cI cJ cO) [.ref h_t] [(h_t, moE f_t h_t_w h_t_saved h_t_trial h_t_text h_t_told)] ((s_X11_clear f_t).1) [(h_t, moE (s_X11_clear f_t).2 h_t_w h_t_saved h_t_trial h_t_text h_t_told)] := by
  refine kI_of (own := RX11) (lv := [(0, .ref h_t)]) rfl rfl (by decide) (Nat.le_of_ble_eq_true rfl) ?_
  intro p e s m args below meth c Q A C hret
  refine k_aload_n (pc := 0) C rfl 0 rfl dX11_clear_0 ?_
  refine k_iconst (pc := 1) C iconst_0 dX11_clear_1 ?_
  refine p_X11_7 (pc := 2) (ws2 := [(h_t, moE (upd f_t 7 0) h_t_w h_t_saved h_t_trial h_t_text h_t_told)]) C q_1005 0 rfl rfl dX11_clear_2 ?_
  refine k_aload_n (pc := 5) C rfl 0 rfl dX11_clear_5 ?_
  refine g_X11_6 (pc := 6) (x := (f_t 6)) C q_1004 0 rfl (upn (by decide) rfl) dX11_clear_6 ?_
  refine k_istore_n (pc := 9) (lv2 := [(1, .int (f_t 6)), (0, .ref h_t)]) C rfl (by decide) rfl dX11_clear_9 ?_
  refine k_aload_n (pc := 10) C rfl 1 rfl dX11_clear_10 ?_
  refine k_iconst (pc := 11) C iconst_0 dX11_clear_11 ?_
  refine p_X11_6 (pc := 12) (ws2 := [(h_t, moE (upd (upd f_t 7 0) 6 0) h_t_w h_t_saved h_t_trial h_t_text h_t_told)]) C q_1004 0 rfl rfl dX11_clear_12 ?_
  refine k_iload_n (pc := 15) C rfl 0 rfl dX11_clear_15 ?_
  have hs : (s_X11_clear f_t) = ((f_t 6), (upd (upd f_t 7 0) 6 0)) := rfl
  exact k_finI (pc := 16) hret rfl (by rw [hs]) (by rw [hs]) dX11_clear_16

theorem dX11_letterOf_0 : decode cX11_letterOf 0 = .ok (.iload_n 0, 1) := by decide +kernel
theorem dX11_letterOf_1 : decode cX11_letterOf 1 = .ok (.ifCond .ne 8, 3) := by decide +kernel
theorem dX11_letterOf_4 : decode cX11_letterOf 4 = .ok (.bipush 116, 2) := by decide +kernel
theorem dX11_letterOf_6 : decode cX11_letterOf 6 = .ok (.goto 25, 3) := by decide +kernel
theorem dX11_letterOf_9 : decode cX11_letterOf 9 = .ok (.iload_n 0, 1) := by decide +kernel
theorem dX11_letterOf_10 : decode cX11_letterOf 10 = .ok (.iconst 1, 1) := by decide +kernel
theorem dX11_letterOf_11 : decode cX11_letterOf 11 = .ok (.if_icmp .ne 8, 3) := by decide +kernel
theorem dX11_letterOf_14 : decode cX11_letterOf 14 = .ok (.bipush 104, 2) := by decide +kernel
theorem dX11_letterOf_16 : decode cX11_letterOf 16 = .ok (.goto 15, 3) := by decide +kernel
theorem dX11_letterOf_19 : decode cX11_letterOf 19 = .ok (.iload_n 0, 1) := by decide +kernel
theorem dX11_letterOf_20 : decode cX11_letterOf 20 = .ok (.iconst 2, 1) := by decide +kernel
theorem dX11_letterOf_21 : decode cX11_letterOf 21 = .ok (.if_icmp .ne 8, 3) := by decide +kernel
theorem dX11_letterOf_24 : decode cX11_letterOf 24 = .ok (.bipush 114, 2) := by decide +kernel
theorem dX11_letterOf_26 : decode cX11_letterOf 26 = .ok (.goto 5, 3) := by decide +kernel
theorem dX11_letterOf_29 : decode cX11_letterOf 29 = .ok (.bipush 115, 2) := by decide +kernel
theorem dX11_letterOf_31 : decode cX11_letterOf 31 = .ok (.ireturn, 1) := by decide +kernel
def s_X11_letterOf_1 (x_4 : Int32) : Int32 :=
  x_4
def s_X11_letterOf (p0 : Int32) : Int32 :=
  (s_X11_letterOf_1 (if p0 = 0 then 116 else (if p0 = 1 then 104 else (if p0 = 2 then 114 else 115))))
set_option maxRecDepth 100000 in
set_option maxHeartbeats 4000000 in
theorem c_X11_letterOf (l : Launch) (D : va_G) (cI cJ cO : ClassId) (p0 : Int32) : kI l yX11_letterOf cX11_letterOf 1 .int 0 0 D (kT cI cJ cO) [.int p0] [] (s_X11_letterOf p0) [] := by
  refine kI_of (own := RX11) (lv := [(0, .int p0)]) rfl rfl (by decide) (Nat.le_of_ble_eq_true rfl) ?_
  intro p e s m args below meth c Q A C hret
  refine k_iload_n (pc := 0) C rfl 0 rfl dX11_letterOf_0 ?_
  have K_5 : ∀ (x_4 : Int32), x_4 = (if p0 = 0 then 116 else (if p0 = 1 then 104 else (if p0 = 2 then 114 else 115))) → KJ p l e (kR 0 0) s m args below meth c 0 0 Q D A 1 [] [] [.int x_4] 31 := by
    intro x_4 ex_4
    have hs : (s_X11_letterOf p0) = x_4 := (k_st (g := s_X11_letterOf_1) ex_4 rfl rfl)
    exact k_finI (pc := 31) hret rfl (by rw [hs]) rfl dX11_letterOf_31
  refine k_if_ne (pc := 1) (tgt := 9) C dX11_letterOf_1 (by decide) (fun c_1 => ?_) (fun c_1 => ?_)
  · refine k_iload_n (pc := 9) C rfl 0 rfl dX11_letterOf_9 ?_
    refine k_iconst (pc := 10) C iconst_1 dX11_letterOf_10 ?_
    refine k_icmp_ne (pc := 11) (tgt := 19) C dX11_letterOf_11 (by decide) (fun c_2 => ?_) (fun c_2 => ?_)
    · refine k_iload_n (pc := 19) C rfl 0 rfl dX11_letterOf_19 ?_
      refine k_iconst (pc := 20) C iconst_2 dX11_letterOf_20 ?_
      refine k_icmp_ne (pc := 21) (tgt := 29) C dX11_letterOf_21 (by decide) (fun c_3 => ?_) (fun c_3 => ?_)
      · refine k_bipush (pc := 29) C bipush_115 dX11_letterOf_29 ?_
        refine k_lpick (lv2 := []) [] rfl ?_
        exact K_5 115 (Eq.symm ((if_neg c_1).trans ((if_neg c_2).trans (if_neg c_3))))
      · refine k_bipush (pc := 24) C bipush_114 dX11_letterOf_24 ?_
        refine k_goto (pc := 26) (tgt := 31) C (by decide) dX11_letterOf_26 ?_
        refine k_lpick (lv2 := []) [] rfl ?_
        exact K_5 114 (Eq.symm ((if_neg c_1).trans ((if_neg c_2).trans (if_pos c_3))))
    · refine k_bipush (pc := 14) C bipush_104 dX11_letterOf_14 ?_
      refine k_goto (pc := 16) (tgt := 31) C (by decide) dX11_letterOf_16 ?_
      refine k_lpick (lv2 := []) [] rfl ?_
      exact K_5 104 (Eq.symm ((if_neg c_1).trans (if_pos c_2)))
  · refine k_bipush (pc := 4) C bipush_116 dX11_letterOf_4 ?_
    refine k_goto (pc := 6) (tgt := 31) C (by decide) dX11_letterOf_6 ?_
    refine k_lpick (lv2 := []) [] rfl ?_
    exact K_5 116 (Eq.symm (if_pos c_1))

theorem dX11_segment_0 : decode cX11_segment 0 = .ok (.aload_n 0, 1) := by decide +kernel
theorem dX11_segment_1 : decode cX11_segment 1 = .ok (.iconst 0, 1) := by decide +kernel
theorem dX11_segment_2 : decode cX11_segment 2 = .ok (.putfield 50, 3) := by decide +kernel
theorem dX11_segment_5 : decode cX11_segment 5 = .ok (.aload_n 0, 1) := by decide +kernel
theorem dX11_segment_6 : decode cX11_segment 6 = .ok (.iload_n 1, 1) := by decide +kernel
theorem dX11_segment_7 : decode cX11_segment 7 = .ok (.invokevirtual 175, 3) := by decide +kernel
theorem dX11_segment_10 : decode cX11_segment 10 = .ok (.ifCond .ne 9, 3) := by decide +kernel
theorem dX11_segment_13 : decode cX11_segment 13 = .ok (.aload_n 0, 1) := by decide +kernel
theorem dX11_segment_14 : decode cX11_segment 14 = .ok (.iconst 1, 1) := by decide +kernel
theorem dX11_segment_15 : decode cX11_segment 15 = .ok (.invokevirtual 67, 3) := by decide +kernel
theorem dX11_segment_18 : decode cX11_segment 18 = .ok (.ireturn, 1) := by decide +kernel
theorem dX11_segment_19 : decode cX11_segment 19 = .ok (.iload_n 2, 1) := by decide +kernel
theorem dX11_segment_20 : decode cX11_segment 20 = .ok (.i2l, 1) := by decide +kernel
theorem dX11_segment_21 : decode cX11_segment 21 = .ok (.lconst 0, 1) := by decide +kernel
theorem dX11_segment_22 : decode cX11_segment 22 = .ok (.ldc2_w 34, 3) := by decide +kernel
theorem dX11_segment_25 : decode cX11_segment 25 = .ok (.invokestatic 63, 3) := by decide +kernel
theorem dX11_segment_28 : decode cX11_segment 28 = .ok (.ifCond .eq 20, 3) := by decide +kernel
theorem dX11_segment_31 : decode cX11_segment 31 = .ok (.aload_n 0, 1) := by decide +kernel
theorem dX11_segment_32 : decode cX11_segment 32 = .ok (.getfield 7, 3) := by decide +kernel
theorem dX11_segment_35 : decode cX11_segment 35 = .ok (.bipush 50, 2) := by decide +kernel
theorem dX11_segment_37 : decode cX11_segment 37 = .ok (.iconst 4, 1) := by decide +kernel
theorem dX11_segment_38 : decode cX11_segment 38 = .ok (.iload_n 1, 1) := by decide +kernel
theorem dX11_segment_39 : decode cX11_segment 39 = .ok (.imul, 1) := by decide +kernel
theorem dX11_segment_40 : decode cX11_segment 40 = .ok (.iadd, 1) := by decide +kernel
theorem dX11_segment_41 : decode cX11_segment 41 = .ok (.iload_n 2, 1) := by decide +kernel
theorem dX11_segment_42 : decode cX11_segment 42 = .ok (.iadd, 1) := by decide +kernel
theorem dX11_segment_43 : decode cX11_segment 43 = .ok (.laload, 1) := by decide +kernel
theorem dX11_segment_44 : decode cX11_segment 44 = .ok (.l2i, 1) := by decide +kernel
theorem dX11_segment_45 : decode cX11_segment 45 = .ok (.goto 8, 3) := by decide +kernel
theorem dX11_segment_48 : decode cX11_segment 48 = .ok (.aload_n 0, 1) := by decide +kernel
theorem dX11_segment_49 : decode cX11_segment 49 = .ok (.iconst 2, 1) := by decide +kernel
theorem dX11_segment_50 : decode cX11_segment 50 = .ok (.invokevirtual 67, 3) := by decide +kernel
theorem dX11_segment_53 : decode cX11_segment 53 = .ok (.ireturn, 1) := by decide +kernel
def j_X11_segment_1 (u_3 : Int32 × (Nat → Int32)) : Int32 × (Nat → Int32) :=
  (u_3.1, u_3.2)
def j_X11_segment_2 (p1 : Int32) (f_t : Nat → Int32) (f_t_w : Nat → Int64) (p0 : Int32) : Int32 × (Nat → Int32) :=
  (if (s_X11_in (Int32.toInt64 p1) 0 3) = 0 then (j_X11_segment_1 (s_X11_refuse (upd f_t 7 0) 2)) else ((Int64.toInt32 (f_t_w (Int32.toNatClampNeg ((50 + (4 * p0)) + p1)))), (upd f_t 7 0)))
def s_X11_segment_3 (u_5 : Int32 × (Nat → Int32)) : Int32 × (Nat → Int32) :=
  (u_5.1, u_5.2)
def s_X11_segment_4 (m_4 : Int32 × (Nat → Int32)) : Int32 × (Nat → Int32) :=
  (m_4.1, m_4.2)
def s_X11_segment (f_t : Nat → Int32) (f_t_w : Nat → Int64) (p0 : Int32) (p1 : Int32) : Int32 × (Nat → Int32) :=
  (if (s_X11_hasSegment (upd f_t 7 0) f_t_w p0) = 0 then (s_X11_segment_3 (s_X11_refuse (upd f_t 7 0) 1)) else (s_X11_segment_4 (j_X11_segment_2 p1 f_t f_t_w p0)))
set_option maxRecDepth 100000 in
set_option maxHeartbeats 4000000 in
theorem c_X11_segment (l : Launch) (D : va_G) (cI cJ cO : ClassId) (h_t : Nat) (h_t_w : Nat) (h_t_saved : Nat) (h_t_trial : Nat) (h_t_text : Nat) (h_t_told : Nat) (f_t : Nat → Int32) (f_t_w : Nat → Int64) (p0 : Int32) (p1 : Int32) (hf_t_w_43 : kInL (f_t_w 43) 0 12) : kI l yX11_segment cX11_segment 3 .int 2 46 D (kT cI cJ cO) [.ref h_t, .int p0, .int p1] [(h_t, moE f_t h_t_w h_t_saved h_t_trial h_t_text h_t_told), (h_t_w, jA cJ 294 f_t_w)] ((s_X11_segment f_t f_t_w p0 p1).1) [(h_t, moE (s_X11_segment f_t f_t_w p0 p1).2 h_t_w h_t_saved h_t_trial h_t_text h_t_told), (h_t_w, jA cJ 294 f_t_w)] := by
  refine kI_of (own := RX11) (lv := [(0, .ref h_t), (1, .int p0), (2, .int p1)]) rfl rfl (by decide) (Nat.le_of_ble_eq_true rfl) ?_
  intro p e s m args below meth c Q A C hret
  refine k_aload_n (pc := 0) C rfl 0 rfl dX11_segment_0 ?_
  refine k_iconst (pc := 1) C iconst_0 dX11_segment_1 ?_
  refine p_X11_7 (pc := 2) (ws2 := [(h_t, moE (upd f_t 7 0) h_t_w h_t_saved h_t_trial h_t_text h_t_told), (h_t_w, jA cJ 294 f_t_w)]) C q_1005 0 rfl rfl dX11_segment_2 ?_
  refine k_aload_n (pc := 5) C rfl 0 rfl dX11_segment_5 ?_
  refine k_iload_n (pc := 6) C rfl 1 rfl dX11_segment_6 ?_
  refine k_callVi (pc := 7) (As := [.int p0]) (rest := []) (r := (s_X11_hasSegment (upd f_t 7 0) f_t_w p0)) (wc := [(h_t, moE (upd f_t 7 0) h_t_w h_t_saved h_t_trial h_t_text h_t_told), (h_t_w, jA cJ 294 f_t_w)]) (wc2 := [(h_t, moE (upd f_t 7 0) h_t_w h_t_saved h_t_trial h_t_text h_t_told), (h_t_w, jA cJ 294 f_t_w)]) (ws2 := [(h_t, moE (upd f_t 7 0) h_t_w h_t_saved h_t_trial h_t_text h_t_told), (h_t_w, jA cJ 294 f_t_w)]) C (c_X11_hasSegment l D cI cJ cO h_t h_t_w h_t_saved h_t_trial h_t_text h_t_told (upd f_t 7 0) f_t_w p0) cwv_X11_hasSegment q_1181 vX11 0 rfl [0, 1] rfl rfl (by decide) rfl rfl (Nat.le_of_ble_eq_true rfl) ⟨Nat.le_of_ble_eq_true rfl, Nat.le_of_ble_eq_true rfl⟩ rfl ⟨Nat.le_refl _, Nat.le_refl _⟩ dX11_segment_7 ?_
  refine k_if_ne (pc := 10) (tgt := 19) C dX11_segment_10 (by decide) (fun c_1 => ?_) (fun c_1 => ?_)
  · refine k_iload_n (pc := 19) C rfl 2 rfl dX11_segment_19 ?_
    refine k_i2l (pc := 20) C dX11_segment_20 ?_
    refine k_lconst (pc := 21) C lconst_0 dX11_segment_21 ?_
    refine k_ldc2 (pc := 22) C q_990 dX11_segment_22 ?_
    refine k_callSi (pc := 25) (As := [.long (Int32.toInt64 p1), .long 0, .long 3]) (rest := []) (r := (s_X11_in (Int32.toInt64 p1) 0 3)) (wc := []) (wc2 := []) (ws2 := [(h_t, moE (upd f_t 7 0) h_t_w h_t_saved h_t_trial h_t_text h_t_told), (h_t_w, jA cJ 294 f_t_w)]) C (c_X11_in l D cI cJ cO (Int32.toInt64 p1) 0 3) cws_X11_in q_1051 [] rfl rfl (by decide) rfl rfl (Nat.le_of_ble_eq_true rfl) ⟨Nat.le_of_ble_eq_true rfl, Nat.le_of_ble_eq_true rfl⟩ rfl ⟨Nat.le_refl _, Nat.le_refl _⟩ dX11_segment_25 ?_
    have K_6 : ∀ (m_4 : Int32 × (Nat → Int32)), m_4 = (j_X11_segment_2 p1 f_t f_t_w p0) → KJ p l e (kR 2 46) s m args below meth c 0 0 Q D A 3 [(h_t, moE m_4.2 h_t_w h_t_saved h_t_trial h_t_text h_t_told), (h_t_w, jA cJ 294 f_t_w)] [] [.int m_4.1] 53 := by
      intro m_4 em_4
      have hs : (s_X11_segment f_t f_t_w p0 p1) = (m_4.1, m_4.2) := (k_st (g := s_X11_segment_4) em_4 (if_neg c_1) rfl)
      exact k_finI (pc := 53) hret rfl (by rw [hs]) (by rw [hs]) dX11_segment_53
    refine k_if_eq (pc := 28) (tgt := 48) C dX11_segment_28 (by decide) (fun c_2 => ?_) (fun c_2 => ?_)
    · refine k_aload_n (pc := 48) C rfl 0 rfl dX11_segment_48 ?_
      refine k_iconst (pc := 49) C iconst_2 dX11_segment_49 ?_
      obtain ⟨u_3, eu_3⟩ : ∃ z : Int32 × (Nat → Int32), z = (s_X11_refuse (upd f_t 7 0) 2) := ⟨_, rfl⟩
      refine k_callVi (pc := 50) (As := [.int 2]) (rest := []) (r := u_3.1) (wc := [(h_t, moE (upd f_t 7 0) h_t_w h_t_saved h_t_trial h_t_text h_t_told)]) (wc2 := [(h_t, moE u_3.2 h_t_w h_t_saved h_t_trial h_t_text h_t_told)]) (ws2 := [(h_t, moE u_3.2 h_t_w h_t_saved h_t_trial h_t_text h_t_told), (h_t_w, jA cJ 294 f_t_w)]) C (by rw [eu_3]; exact c_X11_refuse l D cI cJ cO h_t h_t_w h_t_saved h_t_trial h_t_text h_t_told (upd f_t 7 0) 2) cwv_X11_refuse q_1054 vX11 0 rfl [0] rfl rfl (by decide) rfl rfl (Nat.le_of_ble_eq_true rfl) ⟨Nat.le_of_ble_eq_true rfl, Nat.le_of_ble_eq_true rfl⟩ rfl ⟨Nat.le_refl _, Nat.le_refl _⟩ dX11_segment_50 ?_
      refine k_lpick (lv2 := []) [] rfl ?_
      exact K_6 (u_3.1, u_3.2) (Eq.symm (k_st (g := j_X11_segment_1) eu_3 (if_pos c_2) rfl))
    · refine k_aload_n (pc := 31) C rfl 0 rfl dX11_segment_31 ?_
      refine g_X11_0 (pc := 32) C q_998 0 rfl dX11_segment_32 ?_
      refine k_bipush (pc := 35) C bipush_50 dX11_segment_35 ?_
      refine k_iconst (pc := 37) C iconst_4 dX11_segment_37 ?_
      refine k_iload_n (pc := 38) C rfl 1 rfl dX11_segment_38 ?_
      refine k_imul (pc := 39) C dX11_segment_39 ?_
      refine k_iadd (pc := 40) C dX11_segment_40 ?_
      refine k_iload_n (pc := 41) C rfl 2 rfl dX11_segment_41 ?_
      refine k_iadd (pc := 42) C dX11_segment_42 ?_
      refine k_laldK (pc := 43) (v := (f_t_w (Int32.toNatClampNeg ((50 + (4 * p0)) + p1)))) C 1 1 rfl rfl (kIn.vp (kIn.add (kIn.add (kIn.lit (x := 50) (n := 50) (by decide)) (kIn.mul (n := 4) (by decide) (by decide) (kIn.hasb c_1 (hf_t_w_43.wk (by decide) (by decide))) (by decide) (by decide)) (by decide) (by decide)) (kIn.inb c_2 (kInL.lit (x := 0) (n := 0) (by decide)) (kInL.lit (x := 3) (n := 3) (by decide))) (by decide) (by decide)) (by decide) (by decide)) rfl rfl dX11_segment_43 ?_
      refine k_l2i (pc := 44) C dX11_segment_44 ?_
      refine k_goto (pc := 45) (tgt := 53) C (by decide) dX11_segment_45 ?_
      refine k_lpick (lv2 := []) [] rfl ?_
      exact K_6 ((Int64.toInt32 (f_t_w (Int32.toNatClampNeg ((50 + (4 * p0)) + p1)))), (upd f_t 7 0)) (Eq.symm (if_neg c_2))
  · refine k_aload_n (pc := 13) C rfl 0 rfl dX11_segment_13 ?_
    refine k_iconst (pc := 14) C iconst_1 dX11_segment_14 ?_
    obtain ⟨u_5, eu_5⟩ : ∃ z : Int32 × (Nat → Int32), z = (s_X11_refuse (upd f_t 7 0) 1) := ⟨_, rfl⟩
    refine k_callVi (pc := 15) (As := [.int 1]) (rest := []) (r := u_5.1) (wc := [(h_t, moE (upd f_t 7 0) h_t_w h_t_saved h_t_trial h_t_text h_t_told)]) (wc2 := [(h_t, moE u_5.2 h_t_w h_t_saved h_t_trial h_t_text h_t_told)]) (ws2 := [(h_t, moE u_5.2 h_t_w h_t_saved h_t_trial h_t_text h_t_told), (h_t_w, jA cJ 294 f_t_w)]) C (by rw [eu_5]; exact c_X11_refuse l D cI cJ cO h_t h_t_w h_t_saved h_t_trial h_t_text h_t_told (upd f_t 7 0) 1) cwv_X11_refuse q_1054 vX11 0 rfl [0] rfl rfl (by decide) rfl rfl (Nat.le_of_ble_eq_true rfl) ⟨Nat.le_of_ble_eq_true rfl, Nat.le_of_ble_eq_true rfl⟩ rfl ⟨Nat.le_refl _, Nat.le_refl _⟩ dX11_segment_15 ?_
    have hs : (s_X11_segment f_t f_t_w p0 p1) = (u_5.1, u_5.2) := (k_st (g := s_X11_segment_3) eu_5 (if_pos c_1) rfl)
    exact k_finI (pc := 18) hret rfl (by rw [hs]) (by rw [hs]) dX11_segment_18

theorem dX11_result_0 : decode cX11_result 0 = .ok (.aload_n 0, 1) := by decide +kernel
theorem dX11_result_1 : decode cX11_result 1 = .ok (.iconst 0, 1) := by decide +kernel
theorem dX11_result_2 : decode cX11_result 2 = .ok (.putfield 50, 3) := by decide +kernel
theorem dX11_result_5 : decode cX11_result 5 = .ok (.iload_n 1, 1) := by decide +kernel
theorem dX11_result_6 : decode cX11_result 6 = .ok (.ifCond .lt 15, 3) := by decide +kernel
theorem dX11_result_9 : decode cX11_result 9 = .ok (.iload_n 2, 1) := by decide +kernel
theorem dX11_result_10 : decode cX11_result 10 = .ok (.i2l, 1) := by decide +kernel
theorem dX11_result_11 : decode cX11_result 11 = .ok (.lconst 0, 1) := by decide +kernel
theorem dX11_result_12 : decode cX11_result 12 = .ok (.ldc2_w 34, 3) := by decide +kernel
theorem dX11_result_15 : decode cX11_result 15 = .ok (.invokestatic 63, 3) := by decide +kernel
theorem dX11_result_18 : decode cX11_result 18 = .ok (.ifCond .ne 9, 3) := by decide +kernel
theorem dX11_result_21 : decode cX11_result 21 = .ok (.aload_n 0, 1) := by decide +kernel
theorem dX11_result_22 : decode cX11_result 22 = .ok (.iconst 1, 1) := by decide +kernel
theorem dX11_result_23 : decode cX11_result 23 = .ok (.invokevirtual 67, 3) := by decide +kernel
theorem dX11_result_26 : decode cX11_result 26 = .ok (.ireturn, 1) := by decide +kernel
theorem dX11_result_27 : decode cX11_result 27 = .ok (.iload_n 1, 1) := by decide +kernel
theorem dX11_result_28 : decode cX11_result 28 = .ok (.i2l, 1) := by decide +kernel
theorem dX11_result_29 : decode cX11_result 29 = .ok (.aload_n 0, 1) := by decide +kernel
theorem dX11_result_30 : decode cX11_result 30 = .ok (.getfield 7, 3) := by decide +kernel
theorem dX11_result_33 : decode cX11_result 33 = .ok (.bipush 45, 2) := by decide +kernel
theorem dX11_result_35 : decode cX11_result 35 = .ok (.laload, 1) := by decide +kernel
theorem dX11_result_36 : decode cX11_result 36 = .ok (.lcmp, 1) := by decide +kernel
theorem dX11_result_37 : decode cX11_result 37 = .ok (.ifCond .ge 31, 3) := by decide +kernel
theorem dX11_result_40 : decode cX11_result 40 = .ok (.aload_n 0, 1) := by decide +kernel
theorem dX11_result_41 : decode cX11_result 41 = .ok (.getfield 7, 3) := by decide +kernel
theorem dX11_result_44 : decode cX11_result 44 = .ok (.bipush 98, 2) := by decide +kernel
theorem dX11_result_46 : decode cX11_result 46 = .ok (.iconst 4, 1) := by decide +kernel
theorem dX11_result_47 : decode cX11_result 47 = .ok (.aload_n 0, 1) := by decide +kernel
theorem dX11_result_48 : decode cX11_result 48 = .ok (.getfield 7, 3) := by decide +kernel
theorem dX11_result_51 : decode cX11_result 51 = .ok (.bipush 45, 2) := by decide +kernel
theorem dX11_result_53 : decode cX11_result 53 = .ok (.laload, 1) := by decide +kernel
theorem dX11_result_54 : decode cX11_result 54 = .ok (.l2i, 1) := by decide +kernel
theorem dX11_result_55 : decode cX11_result 55 = .ok (.iconst 1, 1) := by decide +kernel
theorem dX11_result_56 : decode cX11_result 56 = .ok (.isub, 1) := by decide +kernel
theorem dX11_result_57 : decode cX11_result 57 = .ok (.iload_n 1, 1) := by decide +kernel
theorem dX11_result_58 : decode cX11_result 58 = .ok (.isub, 1) := by decide +kernel
theorem dX11_result_59 : decode cX11_result 59 = .ok (.imul, 1) := by decide +kernel
theorem dX11_result_60 : decode cX11_result 60 = .ok (.iadd, 1) := by decide +kernel
theorem dX11_result_61 : decode cX11_result 61 = .ok (.iload_n 2, 1) := by decide +kernel
theorem dX11_result_62 : decode cX11_result 62 = .ok (.iadd, 1) := by decide +kernel
theorem dX11_result_63 : decode cX11_result 63 = .ok (.laload, 1) := by decide +kernel
theorem dX11_result_64 : decode cX11_result 64 = .ok (.l2i, 1) := by decide +kernel
theorem dX11_result_65 : decode cX11_result 65 = .ok (.goto 6, 3) := by decide +kernel
theorem dX11_result_68 : decode cX11_result 68 = .ok (.sipush (-10000), 3) := by decide +kernel
theorem dX11_result_71 : decode cX11_result 71 = .ok (.ireturn, 1) := by decide +kernel
def j_X11_result_1 (f_t_w : Nat → Int64) (p0 : Int32) (p1 : Int32) : Int32 :=
  (if (f_t_w 45) ≤ (Int32.toInt64 p0) then (-10000) else (Int64.toInt32 (f_t_w (Int32.toNatClampNeg ((98 + (4 * (((Int64.toInt32 (f_t_w 45)) - 1) - p0))) + p1)))))
def s_X11_result_2 (u_2 : Int32 × (Nat → Int32)) : Int32 × (Nat → Int32) :=
  (u_2.1, u_2.2)
def s_X11_result_3 (u_6 : Int32 × (Nat → Int32)) : Int32 × (Nat → Int32) :=
  (u_6.1, u_6.2)
def s_X11_result_4 (f_t : Nat → Int32) (x_5 : Int32) : Int32 × (Nat → Int32) :=
  (x_5, (upd f_t 7 0))
def s_X11_result (f_t : Nat → Int32) (f_t_w : Nat → Int64) (p0 : Int32) (p1 : Int32) : Int32 × (Nat → Int32) :=
  (if p0 < 0 then (s_X11_result_2 (s_X11_refuse (upd f_t 7 0) 1)) else (if (s_X11_in (Int32.toInt64 p1) 0 3) = 0 then (s_X11_result_3 (s_X11_refuse (upd f_t 7 0) 1)) else (s_X11_result_4 f_t (j_X11_result_1 f_t_w p0 p1))))
set_option maxRecDepth 100000 in
set_option maxHeartbeats 4000000 in
theorem c_X11_result (l : Launch) (D : va_G) (cI cJ cO : ClassId) (h_t : Nat) (h_t_w : Nat) (h_t_saved : Nat) (h_t_trial : Nat) (h_t_text : Nat) (h_t_told : Nat) (f_t : Nat → Int32) (f_t_w : Nat → Int64) (p0 : Int32) (p1 : Int32) (hf_t_w_45 : kInL (f_t_w 45) 0 16) : kI l yX11_result cX11_result 3 .int 1 25 D (kT cI cJ cO) [.ref h_t, .int p0, .int p1] [(h_t, moE f_t h_t_w h_t_saved h_t_trial h_t_text h_t_told), (h_t_w, jA cJ 294 f_t_w)] ((s_X11_result f_t f_t_w p0 p1).1) [(h_t, moE (s_X11_result f_t f_t_w p0 p1).2 h_t_w h_t_saved h_t_trial h_t_text h_t_told), (h_t_w, jA cJ 294 f_t_w)] := by
  refine kI_of (own := RX11) (lv := [(0, .ref h_t), (1, .int p0), (2, .int p1)]) rfl rfl (by decide) (Nat.le_of_ble_eq_true rfl) ?_
  intro p e s m args below meth c Q A C hret
  refine k_aload_n (pc := 0) C rfl 0 rfl dX11_result_0 ?_
  refine k_iconst (pc := 1) C iconst_0 dX11_result_1 ?_
  refine p_X11_7 (pc := 2) (ws2 := [(h_t, moE (upd f_t 7 0) h_t_w h_t_saved h_t_trial h_t_text h_t_told), (h_t_w, jA cJ 294 f_t_w)]) C q_1005 0 rfl rfl dX11_result_2 ?_
  refine k_iload_n (pc := 5) C rfl 1 rfl dX11_result_5 ?_
  refine k_if_lt (pc := 6) (tgt := 21) C dX11_result_6 (by decide) (fun c_1 => ?_) (fun c_1 => ?_)
  · refine k_aload_n (pc := 21) C rfl 0 rfl dX11_result_21 ?_
    refine k_iconst (pc := 22) C iconst_1 dX11_result_22 ?_
    obtain ⟨u_2, eu_2⟩ : ∃ z : Int32 × (Nat → Int32), z = (s_X11_refuse (upd f_t 7 0) 1) := ⟨_, rfl⟩
    refine k_callVi (pc := 23) (As := [.int 1]) (rest := []) (r := u_2.1) (wc := [(h_t, moE (upd f_t 7 0) h_t_w h_t_saved h_t_trial h_t_text h_t_told)]) (wc2 := [(h_t, moE u_2.2 h_t_w h_t_saved h_t_trial h_t_text h_t_told)]) (ws2 := [(h_t, moE u_2.2 h_t_w h_t_saved h_t_trial h_t_text h_t_told), (h_t_w, jA cJ 294 f_t_w)]) C (by rw [eu_2]; exact c_X11_refuse l D cI cJ cO h_t h_t_w h_t_saved h_t_trial h_t_text h_t_told (upd f_t 7 0) 1) cwv_X11_refuse q_1054 vX11 0 rfl [0] rfl rfl (by decide) rfl rfl (Nat.le_of_ble_eq_true rfl) ⟨Nat.le_of_ble_eq_true rfl, Nat.le_of_ble_eq_true rfl⟩ rfl ⟨Nat.le_refl _, Nat.le_refl _⟩ dX11_result_23 ?_
    have hs : (s_X11_result f_t f_t_w p0 p1) = (u_2.1, u_2.2) := (k_st (g := s_X11_result_2) eu_2 (if_pos c_1) rfl)
    exact k_finI (pc := 26) hret rfl (by rw [hs]) (by rw [hs]) dX11_result_26
  · refine k_iload_n (pc := 9) C rfl 2 rfl dX11_result_9 ?_
    refine k_i2l (pc := 10) C dX11_result_10 ?_
    refine k_lconst (pc := 11) C lconst_0 dX11_result_11 ?_
    refine k_ldc2 (pc := 12) C q_990 dX11_result_12 ?_
    refine k_callSi (pc := 15) (As := [.long (Int32.toInt64 p1), .long 0, .long 3]) (rest := []) (r := (s_X11_in (Int32.toInt64 p1) 0 3)) (wc := []) (wc2 := []) (ws2 := [(h_t, moE (upd f_t 7 0) h_t_w h_t_saved h_t_trial h_t_text h_t_told), (h_t_w, jA cJ 294 f_t_w)]) C (c_X11_in l D cI cJ cO (Int32.toInt64 p1) 0 3) cws_X11_in q_1051 [] rfl rfl (by decide) rfl rfl (Nat.le_of_ble_eq_true rfl) ⟨Nat.le_of_ble_eq_true rfl, Nat.le_of_ble_eq_true rfl⟩ rfl ⟨Nat.le_refl _, Nat.le_refl _⟩ dX11_result_15 ?_
    refine k_if_ne (pc := 18) (tgt := 27) C dX11_result_18 (by decide) (fun c_3 => ?_) (fun c_3 => ?_)
    · refine k_iload_n (pc := 27) C rfl 1 rfl dX11_result_27 ?_
      refine k_i2l (pc := 28) C dX11_result_28 ?_
      refine k_aload_n (pc := 29) C rfl 0 rfl dX11_result_29 ?_
      refine g_X11_0 (pc := 30) C q_998 0 rfl dX11_result_30 ?_
      refine k_bipush (pc := 33) C bipush_45 dX11_result_33 ?_
      refine k_laldK (pc := 35) (v := (f_t_w 45)) C 1 1 rfl rfl (k_vinc 45 cl_45 (by decide) (by decide)) cl_45 rfl dX11_result_35 ?_
      have K_7 : ∀ (x_5 : Int32), x_5 = (j_X11_result_1 f_t_w p0 p1) → KJ p l e (kR 1 25) s m args below meth c 0 0 Q D A 3 [(h_t, moE (upd f_t 7 0) h_t_w h_t_saved h_t_trial h_t_text h_t_told), (h_t_w, jA cJ 294 f_t_w)] [] [.int x_5] 71 := by
        intro x_5 ex_5
        have hs : (s_X11_result f_t f_t_w p0 p1) = (x_5, (upd f_t 7 0)) := (k_st (g := s_X11_result_4 f_t) ex_5 ((if_neg c_1).trans (if_neg c_3)) rfl)
        exact k_finI (pc := 71) hret rfl (by rw [hs]) (by rw [hs]) dX11_result_71
      refine k_lcmp_ge (pc := 36) (tgt := 68) C dX11_result_36 dX11_result_37 (by decide) (fun c_4 => ?_) (fun c_4 => ?_)
      · refine k_sipush (pc := 68) C sipush_m10000 dX11_result_68 ?_
        refine k_lpick (lv2 := []) [] rfl ?_
        exact K_7 (-10000) (Eq.symm (if_pos c_4))
      · refine k_aload_n (pc := 40) C rfl 0 rfl dX11_result_40 ?_
        refine g_X11_0 (pc := 41) C q_998 0 rfl dX11_result_41 ?_
        refine k_bipush (pc := 44) C bipush_98 dX11_result_44 ?_
        refine k_iconst (pc := 46) C iconst_4 dX11_result_46 ?_
        refine k_aload_n (pc := 47) C rfl 0 rfl dX11_result_47 ?_
        refine g_X11_0 (pc := 48) C q_998 0 rfl dX11_result_48 ?_
        refine k_bipush (pc := 51) C bipush_45 dX11_result_51 ?_
        refine k_laldK (pc := 53) (v := (f_t_w 45)) C 1 1 rfl rfl (k_vinc 45 cl_45 (by decide) (by decide)) cl_45 rfl dX11_result_53 ?_
        refine k_l2i (pc := 54) C dX11_result_54 ?_
        refine k_iconst (pc := 55) C iconst_1 dX11_result_55 ?_
        refine k_isub (pc := 56) C dX11_result_56 ?_
        refine k_iload_n (pc := 57) C rfl 1 rfl dX11_result_57 ?_
        refine k_isub (pc := 58) C dX11_result_58 ?_
        refine k_imul (pc := 59) C dX11_result_59 ?_
        refine k_iadd (pc := 60) C dX11_result_60 ?_
        refine k_iload_n (pc := 61) C rfl 2 rfl dX11_result_61 ?_
        refine k_iadd (pc := 62) C dX11_result_62 ?_
        refine k_laldK (pc := 63) (v := (f_t_w (Int32.toNatClampNeg ((98 + (4 * (((Int64.toInt32 (f_t_w 45)) - 1) - p0))) + p1)))) C 1 1 rfl rfl (kIn.vp (kIn.add (kIn.add (kIn.lit (x := 98) (n := 98) (by decide)) (kIn.mul (n := 4) (by decide) (by decide) (kIn.sub (kIn.sub (kIn.l2i hf_t_w_45 (by decide) (by decide)) (kIn.lit (x := 1) (n := 1) (by decide)) (by decide) (by decide)) (kIn.i2lNle (kIn.nlt (n := 0) (kIn.any p0) c_1 (by decide)) c_4 hf_t_w_45 : kIn p0 0 15) (by decide) (by decide)) (by decide) (by decide)) (by decide) (by decide)) (kIn.inb c_3 (kInL.lit (x := 0) (n := 0) (by decide)) (kInL.lit (x := 3) (n := 3) (by decide))) (by decide) (by decide)) (by decide) (by decide)) rfl rfl dX11_result_63 ?_
        refine k_l2i (pc := 64) C dX11_result_64 ?_
        refine k_goto (pc := 65) (tgt := 71) C (by decide) dX11_result_65 ?_
        refine k_lpick (lv2 := []) [] rfl ?_
        exact K_7 (Int64.toInt32 (f_t_w (Int32.toNatClampNeg ((98 + (4 * (((Int64.toInt32 (f_t_w 45)) - 1) - p0))) + p1)))) (Eq.symm (if_neg c_4))
    · refine k_aload_n (pc := 21) C rfl 0 rfl dX11_result_21 ?_
      refine k_iconst (pc := 22) C iconst_1 dX11_result_22 ?_
      obtain ⟨u_6, eu_6⟩ : ∃ z : Int32 × (Nat → Int32), z = (s_X11_refuse (upd f_t 7 0) 1) := ⟨_, rfl⟩
      refine k_callVi (pc := 23) (As := [.int 1]) (rest := []) (r := u_6.1) (wc := [(h_t, moE (upd f_t 7 0) h_t_w h_t_saved h_t_trial h_t_text h_t_told)]) (wc2 := [(h_t, moE u_6.2 h_t_w h_t_saved h_t_trial h_t_text h_t_told)]) (ws2 := [(h_t, moE u_6.2 h_t_w h_t_saved h_t_trial h_t_text h_t_told), (h_t_w, jA cJ 294 f_t_w)]) C (by rw [eu_6]; exact c_X11_refuse l D cI cJ cO h_t h_t_w h_t_saved h_t_trial h_t_text h_t_told (upd f_t 7 0) 1) cwv_X11_refuse q_1054 vX11 0 rfl [0] rfl rfl (by decide) rfl rfl (Nat.le_of_ble_eq_true rfl) ⟨Nat.le_of_ble_eq_true rfl, Nat.le_of_ble_eq_true rfl⟩ rfl ⟨Nat.le_refl _, Nat.le_refl _⟩ dX11_result_23 ?_
      have hs : (s_X11_result f_t f_t_w p0 p1) = (u_6.1, u_6.2) := (k_st (g := s_X11_result_3) eu_6 ((if_neg c_1).trans (if_pos c_3)) rfl)
      exact k_finI (pc := 26) hret rfl (by rw [hs]) (by rw [hs]) dX11_result_26

theorem dX11_audit_0 : decode cX11_audit 0 = .ok (.aload_n 0, 1) := by decide +kernel
theorem dX11_audit_1 : decode cX11_audit 1 = .ok (.iconst 0, 1) := by decide +kernel
theorem dX11_audit_2 : decode cX11_audit 2 = .ok (.putfield 50, 3) := by decide +kernel
theorem dX11_audit_5 : decode cX11_audit 5 = .ok (.iload_n 1, 1) := by decide +kernel
theorem dX11_audit_6 : decode cX11_audit 6 = .ok (.ifCond .lt 15, 3) := by decide +kernel
theorem dX11_audit_9 : decode cX11_audit 9 = .ok (.iload_n 2, 1) := by decide +kernel
theorem dX11_audit_10 : decode cX11_audit 10 = .ok (.i2l, 1) := by decide +kernel
theorem dX11_audit_11 : decode cX11_audit 11 = .ok (.lconst 0, 1) := by decide +kernel
theorem dX11_audit_12 : decode cX11_audit 12 = .ok (.ldc2_w 32, 3) := by decide +kernel
theorem dX11_audit_15 : decode cX11_audit 15 = .ok (.invokestatic 63, 3) := by decide +kernel
theorem dX11_audit_18 : decode cX11_audit 18 = .ok (.ifCond .ne 9, 3) := by decide +kernel
theorem dX11_audit_21 : decode cX11_audit 21 = .ok (.aload_n 0, 1) := by decide +kernel
theorem dX11_audit_22 : decode cX11_audit 22 = .ok (.iconst 1, 1) := by decide +kernel
theorem dX11_audit_23 : decode cX11_audit 23 = .ok (.invokevirtual 67, 3) := by decide +kernel
theorem dX11_audit_26 : decode cX11_audit 26 = .ok (.ireturn, 1) := by decide +kernel
theorem dX11_audit_27 : decode cX11_audit 27 = .ok (.iload_n 1, 1) := by decide +kernel
theorem dX11_audit_28 : decode cX11_audit 28 = .ok (.i2l, 1) := by decide +kernel
theorem dX11_audit_29 : decode cX11_audit 29 = .ok (.aload_n 0, 1) := by decide +kernel
theorem dX11_audit_30 : decode cX11_audit 30 = .ok (.getfield 7, 3) := by decide +kernel
theorem dX11_audit_33 : decode cX11_audit 33 = .ok (.bipush 46, 2) := by decide +kernel
theorem dX11_audit_35 : decode cX11_audit 35 = .ok (.laload, 1) := by decide +kernel
theorem dX11_audit_36 : decode cX11_audit 36 = .ok (.lcmp, 1) := by decide +kernel
theorem dX11_audit_37 : decode cX11_audit 37 = .ok (.ifCond .ge 32, 3) := by decide +kernel
theorem dX11_audit_40 : decode cX11_audit 40 = .ok (.aload_n 0, 1) := by decide +kernel
theorem dX11_audit_41 : decode cX11_audit 41 = .ok (.getfield 7, 3) := by decide +kernel
theorem dX11_audit_44 : decode cX11_audit 44 = .ok (.sipush 162, 3) := by decide +kernel
theorem dX11_audit_47 : decode cX11_audit 47 = .ok (.iconst 3, 1) := by decide +kernel
theorem dX11_audit_48 : decode cX11_audit 48 = .ok (.aload_n 0, 1) := by decide +kernel
theorem dX11_audit_49 : decode cX11_audit 49 = .ok (.getfield 7, 3) := by decide +kernel
theorem dX11_audit_52 : decode cX11_audit 52 = .ok (.bipush 46, 2) := by decide +kernel
theorem dX11_audit_54 : decode cX11_audit 54 = .ok (.laload, 1) := by decide +kernel
theorem dX11_audit_55 : decode cX11_audit 55 = .ok (.l2i, 1) := by decide +kernel
theorem dX11_audit_56 : decode cX11_audit 56 = .ok (.iconst 1, 1) := by decide +kernel
theorem dX11_audit_57 : decode cX11_audit 57 = .ok (.isub, 1) := by decide +kernel
theorem dX11_audit_58 : decode cX11_audit 58 = .ok (.iload_n 1, 1) := by decide +kernel
theorem dX11_audit_59 : decode cX11_audit 59 = .ok (.isub, 1) := by decide +kernel
theorem dX11_audit_60 : decode cX11_audit 60 = .ok (.imul, 1) := by decide +kernel
theorem dX11_audit_61 : decode cX11_audit 61 = .ok (.iadd, 1) := by decide +kernel
theorem dX11_audit_62 : decode cX11_audit 62 = .ok (.iload_n 2, 1) := by decide +kernel
theorem dX11_audit_63 : decode cX11_audit 63 = .ok (.iadd, 1) := by decide +kernel
theorem dX11_audit_64 : decode cX11_audit 64 = .ok (.laload, 1) := by decide +kernel
theorem dX11_audit_65 : decode cX11_audit 65 = .ok (.l2i, 1) := by decide +kernel
theorem dX11_audit_66 : decode cX11_audit 66 = .ok (.goto 6, 3) := by decide +kernel
theorem dX11_audit_69 : decode cX11_audit 69 = .ok (.sipush (-10000), 3) := by decide +kernel
theorem dX11_audit_72 : decode cX11_audit 72 = .ok (.ireturn, 1) := by decide +kernel
def j_X11_audit_1 (f_t_w : Nat → Int64) (p0 : Int32) (p1 : Int32) : Int32 :=
  (if (f_t_w 46) ≤ (Int32.toInt64 p0) then (-10000) else (Int64.toInt32 (f_t_w (Int32.toNatClampNeg ((162 + (3 * (((Int64.toInt32 (f_t_w 46)) - 1) - p0))) + p1)))))
def s_X11_audit_2 (u_2 : Int32 × (Nat → Int32)) : Int32 × (Nat → Int32) :=
  (u_2.1, u_2.2)
def s_X11_audit_3 (u_6 : Int32 × (Nat → Int32)) : Int32 × (Nat → Int32) :=
  (u_6.1, u_6.2)
def s_X11_audit_4 (f_t : Nat → Int32) (x_5 : Int32) : Int32 × (Nat → Int32) :=
  (x_5, (upd f_t 7 0))
def s_X11_audit (f_t : Nat → Int32) (f_t_w : Nat → Int64) (p0 : Int32) (p1 : Int32) : Int32 × (Nat → Int32) :=
  (if p0 < 0 then (s_X11_audit_2 (s_X11_refuse (upd f_t 7 0) 1)) else (if (s_X11_in (Int32.toInt64 p1) 0 2) = 0 then (s_X11_audit_3 (s_X11_refuse (upd f_t 7 0) 1)) else (s_X11_audit_4 f_t (j_X11_audit_1 f_t_w p0 p1))))
set_option maxRecDepth 100000 in
set_option maxHeartbeats 4000000 in
theorem c_X11_audit (l : Launch) (D : va_G) (cI cJ cO : ClassId) (h_t : Nat) (h_t_w : Nat) (h_t_saved : Nat) (h_t_trial : Nat) (h_t_text : Nat) (h_t_told : Nat) (f_t : Nat → Int32) (f_t_w : Nat → Int64) (p0 : Int32) (p1 : Int32) (hf_t_w_46 : kInL (f_t_w 46) 0 24) : kI l yX11_audit cX11_audit 3 .int 1 25 D (kT cI cJ cO) [.ref h_t, .int p0, .int p1] [(h_t, moE f_t h_t_w h_t_saved h_t_trial h_t_text h_t_told), (h_t_w, jA cJ 294 f_t_w)] ((s_X11_audit f_t f_t_w p0 p1).1) [(h_t, moE (s_X11_audit f_t f_t_w p0 p1).2 h_t_w h_t_saved h_t_trial h_t_text h_t_told), (h_t_w, jA cJ 294 f_t_w)] := by
  refine kI_of (own := RX11) (lv := [(0, .ref h_t), (1, .int p0), (2, .int p1)]) rfl rfl (by decide) (Nat.le_of_ble_eq_true rfl) ?_
  intro p e s m args below meth c Q A C hret
  refine k_aload_n (pc := 0) C rfl 0 rfl dX11_audit_0 ?_
  refine k_iconst (pc := 1) C iconst_0 dX11_audit_1 ?_
  refine p_X11_7 (pc := 2) (ws2 := [(h_t, moE (upd f_t 7 0) h_t_w h_t_saved h_t_trial h_t_text h_t_told), (h_t_w, jA cJ 294 f_t_w)]) C q_1005 0 rfl rfl dX11_audit_2 ?_
  refine k_iload_n (pc := 5) C rfl 1 rfl dX11_audit_5 ?_
  refine k_if_lt (pc := 6) (tgt := 21) C dX11_audit_6 (by decide) (fun c_1 => ?_) (fun c_1 => ?_)
  · refine k_aload_n (pc := 21) C rfl 0 rfl dX11_audit_21 ?_
    refine k_iconst (pc := 22) C iconst_1 dX11_audit_22 ?_
    obtain ⟨u_2, eu_2⟩ : ∃ z : Int32 × (Nat → Int32), z = (s_X11_refuse (upd f_t 7 0) 1) := ⟨_, rfl⟩
    refine k_callVi (pc := 23) (As := [.int 1]) (rest := []) (r := u_2.1) (wc := [(h_t, moE (upd f_t 7 0) h_t_w h_t_saved h_t_trial h_t_text h_t_told)]) (wc2 := [(h_t, moE u_2.2 h_t_w h_t_saved h_t_trial h_t_text h_t_told)]) (ws2 := [(h_t, moE u_2.2 h_t_w h_t_saved h_t_trial h_t_text h_t_told), (h_t_w, jA cJ 294 f_t_w)]) C (by rw [eu_2]; exact c_X11_refuse l D cI cJ cO h_t h_t_w h_t_saved h_t_trial h_t_text h_t_told (upd f_t 7 0) 1) cwv_X11_refuse q_1054 vX11 0 rfl [0] rfl rfl (by decide) rfl rfl (Nat.le_of_ble_eq_true rfl) ⟨Nat.le_of_ble_eq_true rfl, Nat.le_of_ble_eq_true rfl⟩ rfl ⟨Nat.le_refl _, Nat.le_refl _⟩ dX11_audit_23 ?_
    have hs : (s_X11_audit f_t f_t_w p0 p1) = (u_2.1, u_2.2) := (k_st (g := s_X11_audit_2) eu_2 (if_pos c_1) rfl)
    exact k_finI (pc := 26) hret rfl (by rw [hs]) (by rw [hs]) dX11_audit_26
  · refine k_iload_n (pc := 9) C rfl 2 rfl dX11_audit_9 ?_
    refine k_i2l (pc := 10) C dX11_audit_10 ?_
    refine k_lconst (pc := 11) C lconst_0 dX11_audit_11 ?_
    refine k_ldc2 (pc := 12) C q_989 dX11_audit_12 ?_
    refine k_callSi (pc := 15) (As := [.long (Int32.toInt64 p1), .long 0, .long 2]) (rest := []) (r := (s_X11_in (Int32.toInt64 p1) 0 2)) (wc := []) (wc2 := []) (ws2 := [(h_t, moE (upd f_t 7 0) h_t_w h_t_saved h_t_trial h_t_text h_t_told), (h_t_w, jA cJ 294 f_t_w)]) C (c_X11_in l D cI cJ cO (Int32.toInt64 p1) 0 2) cws_X11_in q_1051 [] rfl rfl (by decide) rfl rfl (Nat.le_of_ble_eq_true rfl) ⟨Nat.le_of_ble_eq_true rfl, Nat.le_of_ble_eq_true rfl⟩ rfl ⟨Nat.le_refl _, Nat.le_refl _⟩ dX11_audit_15 ?_
    refine k_if_ne (pc := 18) (tgt := 27) C dX11_audit_18 (by decide) (fun c_3 => ?_) (fun c_3 => ?_)
    · refine k_iload_n (pc := 27) C rfl 1 rfl dX11_audit_27 ?_
      refine k_i2l (pc := 28) C dX11_audit_28 ?_
      refine k_aload_n (pc := 29) C rfl 0 rfl dX11_audit_29 ?_
      refine g_X11_0 (pc := 30) C q_998 0 rfl dX11_audit_30 ?_
      refine k_bipush (pc := 33) C bipush_46 dX11_audit_33 ?_
      refine k_laldK (pc := 35) (v := (f_t_w 46)) C 1 1 rfl rfl (k_vinc 46 cl_46 (by decide) (by decide)) cl_46 rfl dX11_audit_35 ?_
      have K_7 : ∀ (x_5 : Int32), x_5 = (j_X11_audit_1 f_t_w p0 p1) → KJ p l e (kR 1 25) s m args below meth c 0 0 Q D A 3 [(h_t, moE (upd f_t 7 0) h_t_w h_t_saved h_t_trial h_t_text h_t_told), (h_t_w, jA cJ 294 f_t_w)] [] [.int x_5] 72 := by
        intro x_5 ex_5
        have hs : (s_X11_audit f_t f_t_w p0 p1) = (x_5, (upd f_t 7 0)) := (k_st (g := s_X11_audit_4 f_t) ex_5 ((if_neg c_1).trans (if_neg c_3)) rfl)
        exact k_finI (pc := 72) hret rfl (by rw [hs]) (by rw [hs]) dX11_audit_72
      refine k_lcmp_ge (pc := 36) (tgt := 69) C dX11_audit_36 dX11_audit_37 (by decide) (fun c_4 => ?_) (fun c_4 => ?_)
      · refine k_sipush (pc := 69) C sipush_m10000 dX11_audit_69 ?_
        refine k_lpick (lv2 := []) [] rfl ?_
        exact K_7 (-10000) (Eq.symm (if_pos c_4))
      · refine k_aload_n (pc := 40) C rfl 0 rfl dX11_audit_40 ?_
        refine g_X11_0 (pc := 41) C q_998 0 rfl dX11_audit_41 ?_
        refine k_sipush (pc := 44) C sipush_162 dX11_audit_44 ?_
        refine k_iconst (pc := 47) C iconst_3 dX11_audit_47 ?_
        refine k_aload_n (pc := 48) C rfl 0 rfl dX11_audit_48 ?_
        refine g_X11_0 (pc := 49) C q_998 0 rfl dX11_audit_49 ?_
        refine k_bipush (pc := 52) C bipush_46 dX11_audit_52 ?_
        refine k_laldK (pc := 54) (v := (f_t_w 46)) C 1 1 rfl rfl (k_vinc 46 cl_46 (by decide) (by decide)) cl_46 rfl dX11_audit_54 ?_
        refine k_l2i (pc := 55) C dX11_audit_55 ?_
        refine k_iconst (pc := 56) C iconst_1 dX11_audit_56 ?_
        refine k_isub (pc := 57) C dX11_audit_57 ?_
        refine k_iload_n (pc := 58) C rfl 1 rfl dX11_audit_58 ?_
        refine k_isub (pc := 59) C dX11_audit_59 ?_
        refine k_imul (pc := 60) C dX11_audit_60 ?_
        refine k_iadd (pc := 61) C dX11_audit_61 ?_
        refine k_iload_n (pc := 62) C rfl 2 rfl dX11_audit_62 ?_
        refine k_iadd (pc := 63) C dX11_audit_63 ?_
        refine k_laldK (pc := 64) (v := (f_t_w (Int32.toNatClampNeg ((162 + (3 * (((Int64.toInt32 (f_t_w 46)) - 1) - p0))) + p1)))) C 1 1 rfl rfl (kIn.vp (kIn.add (kIn.add (kIn.lit (x := 162) (n := 162) (by decide)) (kIn.mul (n := 3) (by decide) (by decide) (kIn.sub (kIn.sub (kIn.l2i hf_t_w_46 (by decide) (by decide)) (kIn.lit (x := 1) (n := 1) (by decide)) (by decide) (by decide)) (kIn.i2lNle (kIn.nlt (n := 0) (kIn.any p0) c_1 (by decide)) c_4 hf_t_w_46 : kIn p0 0 23) (by decide) (by decide)) (by decide) (by decide)) (by decide) (by decide)) (kIn.inb c_3 (kInL.lit (x := 0) (n := 0) (by decide)) (kInL.lit (x := 2) (n := 2) (by decide))) (by decide) (by decide)) (by decide) (by decide)) rfl rfl dX11_audit_64 ?_
        refine k_l2i (pc := 65) C dX11_audit_65 ?_
        refine k_goto (pc := 66) (tgt := 72) C (by decide) dX11_audit_66 ?_
        refine k_lpick (lv2 := []) [] rfl ?_
        exact K_7 (Int64.toInt32 (f_t_w (Int32.toNatClampNeg ((162 + (3 * (((Int64.toInt32 (f_t_w 46)) - 1) - p0))) + p1)))) (Eq.symm (if_neg c_4))
    · refine k_aload_n (pc := 21) C rfl 0 rfl dX11_audit_21 ?_
      refine k_iconst (pc := 22) C iconst_1 dX11_audit_22 ?_
      obtain ⟨u_6, eu_6⟩ : ∃ z : Int32 × (Nat → Int32), z = (s_X11_refuse (upd f_t 7 0) 1) := ⟨_, rfl⟩
      refine k_callVi (pc := 23) (As := [.int 1]) (rest := []) (r := u_6.1) (wc := [(h_t, moE (upd f_t 7 0) h_t_w h_t_saved h_t_trial h_t_text h_t_told)]) (wc2 := [(h_t, moE u_6.2 h_t_w h_t_saved h_t_trial h_t_text h_t_told)]) (ws2 := [(h_t, moE u_6.2 h_t_w h_t_saved h_t_trial h_t_text h_t_told), (h_t_w, jA cJ 294 f_t_w)]) C (by rw [eu_6]; exact c_X11_refuse l D cI cJ cO h_t h_t_w h_t_saved h_t_trial h_t_text h_t_told (upd f_t 7 0) 1) cwv_X11_refuse q_1054 vX11 0 rfl [0] rfl rfl (by decide) rfl rfl (Nat.le_of_ble_eq_true rfl) ⟨Nat.le_of_ble_eq_true rfl, Nat.le_of_ble_eq_true rfl⟩ rfl ⟨Nat.le_refl _, Nat.le_refl _⟩ dX11_audit_23 ?_
      have hs : (s_X11_audit f_t f_t_w p0 p1) = (u_6.1, u_6.2) := (k_st (g := s_X11_audit_3) eu_6 ((if_neg c_1).trans (if_pos c_3)) rfl)
      exact k_finI (pc := 26) hret rfl (by rw [hs]) (by rw [hs]) dX11_audit_26

theorem dX11_append_0 : decode cX11_append 0 = .ok (.aload_n 0, 1) := by decide +kernel
theorem dX11_append_1 : decode cX11_append 1 = .ok (.iconst 0, 1) := by decide +kernel
theorem dX11_append_2 : decode cX11_append 2 = .ok (.putfield 50, 3) := by decide +kernel
theorem dX11_append_5 : decode cX11_append 5 = .ok (.iload_n 1, 1) := by decide +kernel
theorem dX11_append_6 : decode cX11_append 6 = .ok (.i2l, 1) := by decide +kernel
theorem dX11_append_7 : decode cX11_append 7 = .ok (.ldc2_w 192, 3) := by decide +kernel
theorem dX11_append_10 : decode cX11_append 10 = .ok (.ldc2_w 194, 3) := by decide +kernel
theorem dX11_append_13 : decode cX11_append 13 = .ok (.invokestatic 63, 3) := by decide +kernel
theorem dX11_append_16 : decode cX11_append 16 = .ok (.ifCond .ne 9, 3) := by decide +kernel
theorem dX11_append_19 : decode cX11_append 19 = .ok (.aload_n 0, 1) := by decide +kernel
theorem dX11_append_20 : decode cX11_append 20 = .ok (.iconst 1, 1) := by decide +kernel
theorem dX11_append_21 : decode cX11_append 21 = .ok (.invokevirtual 67, 3) := by decide +kernel
theorem dX11_append_24 : decode cX11_append 24 = .ok (.ireturn, 1) := by decide +kernel
theorem dX11_append_25 : decode cX11_append 25 = .ok (.aload_n 0, 1) := by decide +kernel
theorem dX11_append_26 : decode cX11_append 26 = .ok (.getfield 178, 3) := by decide +kernel
theorem dX11_append_29 : decode cX11_append 29 = .ok (.bipush 90, 2) := by decide +kernel
theorem dX11_append_31 : decode cX11_append 31 = .ok (.if_icmp .ne 9, 3) := by decide +kernel
theorem dX11_append_34 : decode cX11_append 34 = .ok (.aload_n 0, 1) := by decide +kernel
theorem dX11_append_35 : decode cX11_append 35 = .ok (.iconst 2, 1) := by decide +kernel
theorem dX11_append_36 : decode cX11_append 36 = .ok (.invokevirtual 67, 3) := by decide +kernel
theorem dX11_append_39 : decode cX11_append 39 = .ok (.ireturn, 1) := by decide +kernel
theorem dX11_append_40 : decode cX11_append 40 = .ok (.aload_n 0, 1) := by decide +kernel
theorem dX11_append_41 : decode cX11_append 41 = .ok (.getfield 19, 3) := by decide +kernel
theorem dX11_append_44 : decode cX11_append 44 = .ok (.aload_n 0, 1) := by decide +kernel
theorem dX11_append_45 : decode cX11_append 45 = .ok (.getfield 178, 3) := by decide +kernel
theorem dX11_append_48 : decode cX11_append 48 = .ok (.iload_n 1, 1) := by decide +kernel
theorem dX11_append_49 : decode cX11_append 49 = .ok (.iastore, 1) := by decide +kernel
theorem dX11_append_50 : decode cX11_append 50 = .ok (.aload_n 0, 1) := by decide +kernel
theorem dX11_append_51 : decode cX11_append 51 = .ok (.dup, 1) := by decide +kernel
theorem dX11_append_52 : decode cX11_append 52 = .ok (.getfield 178, 3) := by decide +kernel
theorem dX11_append_55 : decode cX11_append 55 = .ok (.iconst 1, 1) := by decide +kernel
theorem dX11_append_56 : decode cX11_append 56 = .ok (.iadd, 1) := by decide +kernel
theorem dX11_append_57 : decode cX11_append 57 = .ok (.putfield 178, 3) := by decide +kernel
theorem dX11_append_60 : decode cX11_append 60 = .ok (.aload_n 0, 1) := by decide +kernel
theorem dX11_append_61 : decode cX11_append 61 = .ok (.getfield 178, 3) := by decide +kernel
theorem dX11_append_64 : decode cX11_append 64 = .ok (.ireturn, 1) := by decide +kernel
def s_X11_append_1 (f_t_text : Nat → Int32) (u_4 : Int32 × (Nat → Int32)) : Int32 × (Nat → Int32) × (Nat → Int32) :=
  (u_4.1, u_4.2, f_t_text)
def s_X11_append_2 (f_t_text : Nat → Int32) (u_3 : Int32 × (Nat → Int32)) : Int32 × (Nat → Int32) × (Nat → Int32) :=
  (u_3.1, u_3.2, f_t_text)
def s_X11_append (f_t : Nat → Int32) (f_t_text : Nat → Int32) (p0 : Int32) : Int32 × (Nat → Int32) × (Nat → Int32) :=
  (if (s_X11_in (Int32.toInt64 p0) 32 126) = 0 then (s_X11_append_1 f_t_text (s_X11_refuse (upd f_t 7 0) 1)) else (if (f_t 6) = 90 then (s_X11_append_2 f_t_text (s_X11_refuse (upd f_t 7 0) 2)) else (((f_t 6) + 1), (upd (upd f_t 7 0) 6 ((f_t 6) + 1)), (upd f_t_text (Int32.toNatClampNeg (f_t 6)) p0))))
set_option maxRecDepth 100000 in
set_option maxHeartbeats 4000000 in
theorem c_X11_append (l : Launch) (D : va_G) (cI cJ cO : ClassId) (h_t : Nat) (h_t_w : Nat) (h_t_saved : Nat) (h_t_trial : Nat) (h_t_text : Nat) (h_t_told : Nat) (f_t : Nat → Int32) (f_t_text : Nat → Int32) (p0 : Int32) (hf_t_6 : kIn (f_t 6) 0 90) : kI l yX11_append cX11_append 2 .int 1 25 D (kT cI cJ cO) [.ref h_t, .int p0] [(h_t, moE f_t h_t_w h_t_saved h_t_trial h_t_text h_t_told), (h_t_text, iA cI 90 f_t_text)] ((s_X11_append f_t f_t_text p0).1) [(h_t, moE (s_X11_append f_t f_t_text p0).2.1 h_t_w h_t_saved h_t_trial h_t_text h_t_told), (h_t_text, iA cI 90 (s_X11_append f_t f_t_text p0).2.2)] := by
  refine kI_of (own := RX11) (lv := [(0, .ref h_t), (1, .int p0)]) rfl rfl (by decide) (Nat.le_of_ble_eq_true rfl) ?_
  intro p e s m args below meth c Q A C hret
  refine k_aload_n (pc := 0) C rfl 0 rfl dX11_append_0 ?_
  refine k_iconst (pc := 1) C iconst_0 dX11_append_1 ?_
  refine p_X11_7 (pc := 2) (ws2 := [(h_t, moE (upd f_t 7 0) h_t_w h_t_saved h_t_trial h_t_text h_t_told), (h_t_text, iA cI 90 f_t_text)]) C q_1005 0 rfl rfl dX11_append_2 ?_
  refine k_iload_n (pc := 5) C rfl 1 rfl dX11_append_5 ?_
  refine k_i2l (pc := 6) C dX11_append_6 ?_
  refine k_ldc2 (pc := 7) C q_1274 dX11_append_7 ?_
  refine k_ldc2 (pc := 10) C q_1275 dX11_append_10 ?_
  refine k_callSi (pc := 13) (As := [.long (Int32.toInt64 p0), .long 32, .long 126]) (rest := []) (r := (s_X11_in (Int32.toInt64 p0) 32 126)) (wc := []) (wc2 := []) (ws2 := [(h_t, moE (upd f_t 7 0) h_t_w h_t_saved h_t_trial h_t_text h_t_told), (h_t_text, iA cI 90 f_t_text)]) C (c_X11_in l D cI cJ cO (Int32.toInt64 p0) 32 126) cws_X11_in q_1051 [] rfl rfl (by decide) rfl rfl (Nat.le_of_ble_eq_true rfl) ⟨Nat.le_of_ble_eq_true rfl, Nat.le_of_ble_eq_true rfl⟩ rfl ⟨Nat.le_refl _, Nat.le_refl _⟩ dX11_append_13 ?_
  refine k_if_ne (pc := 16) (tgt := 25) C dX11_append_16 (by decide) (fun c_1 => ?_) (fun c_1 => ?_)
  · refine k_aload_n (pc := 25) C rfl 0 rfl dX11_append_25 ?_
    refine g_X11_6 (pc := 26) (x := (f_t 6)) C q_1004 0 rfl (upn (by decide) rfl) dX11_append_26 ?_
    refine k_bipush (pc := 29) C bipush_90 dX11_append_29 ?_
    refine k_icmp_ne (pc := 31) (tgt := 40) C dX11_append_31 (by decide) (fun c_2 => ?_) (fun c_2 => ?_)
    · refine k_aload_n (pc := 40) C rfl 0 rfl dX11_append_40 ?_
      refine g_X11_3 (pc := 41) C q_1001 0 rfl dX11_append_41 ?_
      refine k_aload_n (pc := 44) C rfl 0 rfl dX11_append_44 ?_
      refine g_X11_6 (pc := 45) (x := (f_t 6)) C q_1004 0 rfl (upn (by decide) rfl) dX11_append_45 ?_
      refine k_iload_n (pc := 48) C rfl 1 rfl dX11_append_48 ?_
      refine k_iastK (pc := 49) (ws2 := [(h_t, moE (upd f_t 7 0) h_t_w h_t_saved h_t_trial h_t_text h_t_told), (h_t_text, iA cI 90 (upd f_t_text (Int32.toNatClampNeg (f_t 6)) p0))]) C 1 0 rfl rfl (kIn.vp (kIn.neHi hf_t_6 c_2 (by decide)) (by decide) (by decide)) rfl rfl dX11_append_49 ?_
      refine k_aload_n (pc := 50) C rfl 0 rfl dX11_append_50 ?_
      refine k_dup (pc := 51) C rfl dX11_append_51 ?_
      refine g_X11_6 (pc := 52) (x := (f_t 6)) C q_1004 0 rfl (upn (by decide) rfl) dX11_append_52 ?_
      refine k_iconst (pc := 55) C iconst_1 dX11_append_55 ?_
      refine k_iadd (pc := 56) C dX11_append_56 ?_
      refine p_X11_6 (pc := 57) (ws2 := [(h_t, moE (upd (upd f_t 7 0) 6 ((f_t 6) + 1)) h_t_w h_t_saved h_t_trial h_t_text h_t_told), (h_t_text, iA cI 90 (upd f_t_text (Int32.toNatClampNeg (f_t 6)) p0))]) C q_1004 0 rfl rfl dX11_append_57 ?_
      refine k_aload_n (pc := 60) C rfl 0 rfl dX11_append_60 ?_
      refine g_X11_6 (pc := 61) (x := ((f_t 6) + 1)) C q_1004 0 rfl ups dX11_append_61 ?_
      have hs : (s_X11_append f_t f_t_text p0) = (((f_t 6) + 1), (upd (upd f_t 7 0) 6 ((f_t 6) + 1)), (upd f_t_text (Int32.toNatClampNeg (f_t 6)) p0)) := ((if_neg c_1).trans (if_neg c_2))
      exact k_finI (pc := 64) hret rfl (by rw [hs]) (by rw [hs]) dX11_append_64
    · refine k_aload_n (pc := 34) C rfl 0 rfl dX11_append_34 ?_
      refine k_iconst (pc := 35) C iconst_2 dX11_append_35 ?_
      obtain ⟨u_3, eu_3⟩ : ∃ z : Int32 × (Nat → Int32), z = (s_X11_refuse (upd f_t 7 0) 2) := ⟨_, rfl⟩
      refine k_callVi (pc := 36) (As := [.int 2]) (rest := []) (r := u_3.1) (wc := [(h_t, moE (upd f_t 7 0) h_t_w h_t_saved h_t_trial h_t_text h_t_told)]) (wc2 := [(h_t, moE u_3.2 h_t_w h_t_saved h_t_trial h_t_text h_t_told)]) (ws2 := [(h_t, moE u_3.2 h_t_w h_t_saved h_t_trial h_t_text h_t_told), (h_t_text, iA cI 90 f_t_text)]) C (by rw [eu_3]; exact c_X11_refuse l D cI cJ cO h_t h_t_w h_t_saved h_t_trial h_t_text h_t_told (upd f_t 7 0) 2) cwv_X11_refuse q_1054 vX11 0 rfl [0] rfl rfl (by decide) rfl rfl (Nat.le_of_ble_eq_true rfl) ⟨Nat.le_of_ble_eq_true rfl, Nat.le_of_ble_eq_true rfl⟩ rfl ⟨Nat.le_refl _, Nat.le_refl _⟩ dX11_append_36 ?_
      have hs : (s_X11_append f_t f_t_text p0) = (u_3.1, u_3.2, f_t_text) := (k_st (g := s_X11_append_2 f_t_text) eu_3 ((if_neg c_1).trans (if_pos c_2)) rfl)
      exact k_finI (pc := 39) hret rfl (by rw [hs]) (by rw [hs]) dX11_append_39
  · refine k_aload_n (pc := 19) C rfl 0 rfl dX11_append_19 ?_
    refine k_iconst (pc := 20) C iconst_1 dX11_append_20 ?_
    obtain ⟨u_4, eu_4⟩ : ∃ z : Int32 × (Nat → Int32), z = (s_X11_refuse (upd f_t 7 0) 1) := ⟨_, rfl⟩
    refine k_callVi (pc := 21) (As := [.int 1]) (rest := []) (r := u_4.1) (wc := [(h_t, moE (upd f_t 7 0) h_t_w h_t_saved h_t_trial h_t_text h_t_told)]) (wc2 := [(h_t, moE u_4.2 h_t_w h_t_saved h_t_trial h_t_text h_t_told)]) (ws2 := [(h_t, moE u_4.2 h_t_w h_t_saved h_t_trial h_t_text h_t_told), (h_t_text, iA cI 90 f_t_text)]) C (by rw [eu_4]; exact c_X11_refuse l D cI cJ cO h_t h_t_w h_t_saved h_t_trial h_t_text h_t_told (upd f_t 7 0) 1) cwv_X11_refuse q_1054 vX11 0 rfl [0] rfl rfl (by decide) rfl rfl (Nat.le_of_ble_eq_true rfl) ⟨Nat.le_of_ble_eq_true rfl, Nat.le_of_ble_eq_true rfl⟩ rfl ⟨Nat.le_refl _, Nat.le_refl _⟩ dX11_append_21 ?_
    have hs : (s_X11_append f_t f_t_text p0) = (u_4.1, u_4.2, f_t_text) := (k_st (g := s_X11_append_1 f_t_text) eu_4 (if_pos c_1) rfl)
    exact k_finI (pc := 24) hret rfl (by rw [hs]) (by rw [hs]) dX11_append_24

theorem kIn.from {f : Nat → Int32} {w : Nat → Int64} {x : Int32} {a b c d : Int} (hx : kIn x a b) (hw : kInL (w 48) c d) (ha : 1 ≤ a ∧ b ≤ 60) (hc : 0 ≤ c) (hd : d ≤ 60) : kIn (s_X11_from f w x) 0 59 := by
  unfold s_X11_from s_X11_from_1
  have h0 : kIn (0 : Int32) 0 59 := ⟨by decide, by decide⟩
  by_cases h : w 48 ≤ x.toInt64
  · rw [if_pos h]; exact h0
  · rw [if_neg h]
    have h1 := Int64.lt_iff_toInt_lt.mp (kLnle h)
    rw [Int32.toInt_toInt64] at h1
    have hm : kIn (Int64.toInt32 (w 48)) (w 48).toInt (w 48).toInt := kIn.l2i ⟨Int.le_refl _, Int.le_refl _⟩ (by have := hw.1; omega) (by have := hw.2; omega)
    have h2 := kIn.sub hm (a := (w 48).toInt) (b := (w 48).toInt) (c := x.toInt) (d := x.toInt) ⟨Int.le_refl _, Int.le_refl _⟩ (by have := hx.1; have := hx.2; have := hw.1; omega) (by have := hx.1; have := hw.2; omega)
    exact ⟨by have := h2.1; omega, by have := h2.2; have := hw.2; have := hx.1; omega⟩