theorem q_17 : Cond.selects RX11 yX11_runs yX11_runs ∈ lw_all := kq 17 (by decide +kernel) (by decide +kernel)
theorem q_53 : Cond.initialized RX11 ∈ lw_all := kq 53 (by decide +kernel) (by decide +kernel)
theorem q_989 : Cond.constantLong RX11 32 (2) ∈ lw_all := kq 989 (by decide +kernel) (by decide +kernel)
theorem q_996 : Cond.constantLong RX11 46 (1000) ∈ lw_all := kq 996 (by decide +kernel) (by decide +kernel)
theorem q_998 : Cond.fieldLink RX11 7 "ClimateChamberModel" "w" "[J" ∈ lw_all := kq 998 (by decide +kernel) (by decide +kernel)
theorem q_1005 : Cond.fieldLink RX11 50 "ClimateChamberModel" "thrown" "I" ∈ lw_all := kq 1005 (by decide +kernel) (by decide +kernel)
theorem q_1051 : Cond.methodLink RX11 63 yX11_in ∈ lw_all := kq 1051 (by decide +kernel) (by decide +kernel)
theorem q_1052 : Cond.static yX11_in ∈ lw_all := kq 1052 (by decide +kernel) (by decide +kernel)
theorem q_1053 : Cond.code yX11_in cX11_in 6 (some .boolean) ∈ lw_all := kq 1053 (by decide +kernel) (by decide +kernel)
theorem q_1072 : Cond.constantLong RX11 80 (100) ∈ lw_all := kq 1072 (by decide +kernel) (by decide +kernel)
theorem q_1077 : Cond.methodLink RX11 86 yX11_isTemperature ∈ lw_all := kq 1077 (by decide +kernel) (by decide +kernel)
theorem q_1078 : Cond.static yX11_isTemperature ∈ lw_all := kq 1078 (by decide +kernel) (by decide +kernel)
theorem q_1079 : Cond.code yX11_isTemperature cX11_isTemperature 1 (some .boolean) ∈ lw_all := kq 1079 (by decide +kernel) (by decide +kernel)
theorem q_1080 : Cond.constantLong RX11 82 (-400) ∈ lw_all := kq 1080 (by decide +kernel) (by decide +kernel)
theorem q_1081 : Cond.constantLong RX11 84 (1800) ∈ lw_all := kq 1081 (by decide +kernel) (by decide +kernel)
theorem q_1082 : Cond.methodLink RX11 90 yX11_isHumidity ∈ lw_all := kq 1082 (by decide +kernel) (by decide +kernel)
theorem q_1083 : Cond.static yX11_isHumidity ∈ lw_all := kq 1083 (by decide +kernel) (by decide +kernel)
theorem q_1084 : Cond.code yX11_isHumidity cX11_isHumidity 1 (some .boolean) ∈ lw_all := kq 1084 (by decide +kernel) (by decide +kernel)
theorem q_1085 : Cond.methodLink RX11 93 yX11_runs ∈ lw_all := kq 1085 (by decide +kernel) (by decide +kernel)
theorem q_1087 : Cond.instanceMethod yX11_runs ∈ lw_all := kq 1087 (by decide +kernel) (by decide +kernel)
theorem q_1088 : Cond.code yX11_runs cX11_runs 1 (some .boolean) ∈ lw_all := kq 1088 (by decide +kernel) (by decide +kernel)
theorem q_1097 : Cond.constantLong RX11 57 (24) ∈ lw_all := kq 1097 (by decide +kernel) (by decide +kernel)
theorem q_1098 : Cond.constantLong RX11 59 (31) ∈ lw_all := kq 1098 (by decide +kernel) (by decide +kernel)
theorem q_1103 : Cond.constantLong RX11 158 (500) ∈ lw_all := kq 1103 (by decide +kernel) (by decide +kernel)
theorem q_1129 : Cond.methodLink RX11 101 yX11_size ∈ lw_all := kq 1129 (by decide +kernel) (by decide +kernel)
theorem q_1130 : Cond.static yX11_size ∈ lw_all := kq 1130 (by decide +kernel) (by decide +kernel)
theorem q_1131 : Cond.code yX11_size cX11_size 2 (some .long) ∈ lw_all := kq 1131 (by decide +kernel) (by decide +kernel)
theorem q_1132 : Cond.constantLong RX11 105 (-1000) ∈ lw_all := kq 1132 (by decide +kernel) (by decide +kernel)
theorem q_1133 : Cond.methodLink RX11 107 yX11_within ∈ lw_all := kq 1133 (by decide +kernel) (by decide +kernel)
theorem q_1134 : Cond.static yX11_within ∈ lw_all := kq 1134 (by decide +kernel) (by decide +kernel)
theorem q_1135 : Cond.code yX11_within cX11_within 6 (some .long) ∈ lw_all := kq 1135 (by decide +kernel) (by decide +kernel)
theorem bipush_13 : (Int8.ofInt 13).toInt32 = 13 := by decide
theorem bipush_14 : (Int8.ofInt 14).toInt32 = 14 := by decide
theorem bipush_15 : (Int8.ofInt 15).toInt32 = 15 := by decide
theorem bipush_17 : (Int8.ofInt 17).toInt32 = 17 := by decide
theorem bipush_19 : (Int8.ofInt 19).toInt32 = 19 := by decide
theorem bipush_20 : (Int8.ofInt 20).toInt32 = 20 := by decide
theorem bipush_21 : (Int8.ofInt 21).toInt32 = 21 := by decide
theorem bipush_30 : (Int8.ofInt 30).toInt32 = 30 := by decide
theorem bipush_32 : (Int8.ofInt 32).toInt32 = 32 := by decide
theorem bipush_33 : (Int8.ofInt 33).toInt32 = 33 := by decide
theorem bipush_34 : (Int8.ofInt 34).toInt32 = 34 := by decide
theorem bipush_35 : (Int8.ofInt 35).toInt32 = 35 := by decide
theorem bipush_46 : (Int8.ofInt 46).toInt32 = 46 := by decide
theorem bipush_47 : (Int8.ofInt 47).toInt32 = 47 := by decide
theorem bipush_50 : (Int8.ofInt 50).toInt32 = 50 := by decide
theorem bipush_69 : (Int8.ofInt 69).toInt32 = 69 := by decide
theorem cl_0 : Int32.toNatClampNeg 0 = 0 := by decide
theorem cl_1 : Int32.toNatClampNeg 1 = 1 := by decide
theorem cl_12 : Int32.toNatClampNeg 12 = 12 := by decide
theorem cl_13 : Int32.toNatClampNeg 13 = 13 := by decide
theorem cl_14 : Int32.toNatClampNeg 14 = 14 := by decide
theorem cl_15 : Int32.toNatClampNeg 15 = 15 := by decide
theorem cl_162 : Int32.toNatClampNeg 162 = 162 := by decide
theorem cl_165 : Int32.toNatClampNeg 165 = 165 := by decide
theorem cl_17 : Int32.toNatClampNeg 17 = 17 := by decide
theorem cl_18 : Int32.toNatClampNeg 18 = 18 := by decide
theorem cl_19 : Int32.toNatClampNeg 19 = 19 := by decide
theorem cl_2 : Int32.toNatClampNeg 2 = 2 := by decide
theorem cl_20 : Int32.toNatClampNeg 20 = 20 := by decide
theorem cl_21 : Int32.toNatClampNeg 21 = 21 := by decide
theorem cl_22 : Int32.toNatClampNeg 22 = 22 := by decide
theorem cl_3 : Int32.toNatClampNeg 3 = 3 := by decide
theorem cl_32 : Int32.toNatClampNeg 32 = 32 := by decide
theorem cl_33 : Int32.toNatClampNeg 33 = 33 := by decide
theorem cl_34 : Int32.toNatClampNeg 34 = 34 := by decide
theorem cl_35 : Int32.toNatClampNeg 35 = 35 := by decide
theorem cl_46 : Int32.toNatClampNeg 46 = 46 := by decide
theorem cl_47 : Int32.toNatClampNeg 47 = 47 := by decide
theorem cl_6 : Int32.toNatClampNeg 6 = 6 := by decide
theorem cl_7 : Int32.toNatClampNeg 7 = 7 := by decide
theorem lconst_0 : Int64.ofNat (((0 : Fin 2)) : Nat) = 0 := by decide
theorem lconst_1 : Int64.ofNat (((1 : Fin 2)) : Nat) = 1 := by decide
theorem sipush_m200 : (Int16.ofInt (-200)).toInt32 = (-200) := by decide
theorem sipush_162 : (Int16.ofInt 162).toInt32 = 162 := by decide
theorem sipush_200 : (Int16.ofInt 200).toInt32 = 200 := by decide
theorem cws_X11_in : kCWs yX11_in cX11_in 6 (some .boolean) 3 := ⟨⟨q_1053, q_53, by decide +kernel⟩, q_1052⟩
theorem cws_X11_isHumidity : kCWs yX11_isHumidity cX11_isHumidity 1 (some .boolean) 1 := ⟨⟨q_1084, q_53, by decide +kernel⟩, q_1083⟩
theorem cws_X11_isTemperature : kCWs yX11_isTemperature cX11_isTemperature 1 (some .boolean) 1 := ⟨⟨q_1079, q_53, by decide +kernel⟩, q_1078⟩
theorem cwv_X11_runs : kCWv yX11_runs cX11_runs 1 (some .boolean) 0 := ⟨⟨q_1088, q_53, by decide +kernel⟩, q_1087, q_17⟩
theorem cws_X11_size : kCWs yX11_size cX11_size 2 (some .long) 1 := ⟨⟨q_1131, q_53, by decide +kernel⟩, q_1130⟩
theorem cws_X11_within : kCWs yX11_within cX11_within 6 (some .long) 3 := ⟨⟨q_1135, q_53, by decide +kernel⟩, q_1134⟩
theorem dX11_thrown_0 : decode cX11_thrown 0 = .ok (.aload_n 0, 1) := by decide +kernel
theorem dX11_thrown_1 : decode cX11_thrown 1 = .ok (.getfield 50, 3) := by decide +kernel
theorem dX11_thrown_4 : decode cX11_thrown 4 = .ok (.ireturn, 1) := by decide +kernel
def s_X11_thrown (f_t : Nat → Int32) : Int32 :=
  (f_t 7)
set_option maxRecDepth 100000 in
set_option maxHeartbeats 4000000 in
theorem c_X11_thrown (l : Launch) (D : va_G) (cI cJ cO : ClassId) (h_t : Nat) (h_t_w : Nat) (h_t_saved : Nat) (h_t_trial : Nat) (h_t_text : Nat) (h_t_told : Nat) (f_t : Nat → Int32) : kI l yX11_thrown cX11_thrown 1 .int 0 0 D (kT cI cJ cO) [.ref h_t] [(h_t, moE f_t h_t_w h_t_saved h_t_trial h_t_text h_t_told)] (s_X11_thrown f_t) [(h_t, moE f_t h_t_w h_t_saved h_t_trial h_t_text h_t_told)] := by
  refine kI_of (own := RX11) (lv := [(0, .ref h_t)]) rfl rfl (by decide) (Nat.le_of_ble_eq_true rfl) ?_
  intro p e s m args below meth c Q A C hret
  refine k_aload_n (pc := 0) C rfl 0 rfl dX11_thrown_0 ?_
  refine g_X11_7 (pc := 1) (x := (f_t 7)) C q_1005 0 rfl rfl dX11_thrown_1 ?_
  have hs : (s_X11_thrown f_t) = (f_t 7) := rfl
  exact k_finI (pc := 4) hret rfl (by rw [hs]) rfl dX11_thrown_4

theorem dX11_refuse_0 : decode cX11_refuse 0 = .ok (.aload_n 0, 1) := by decide +kernel
theorem dX11_refuse_1 : decode cX11_refuse 1 = .ok (.iload_n 1, 1) := by decide +kernel
theorem dX11_refuse_2 : decode cX11_refuse 2 = .ok (.putfield 50, 3) := by decide +kernel
theorem dX11_refuse_5 : decode cX11_refuse 5 = .ok (.iconst 0, 1) := by decide +kernel
theorem dX11_refuse_6 : decode cX11_refuse 6 = .ok (.ireturn, 1) := by decide +kernel
def s_X11_refuse (f_t : Nat → Int32) (p0 : Int32) : Int32 × (Nat → Int32) :=
  (0, (upd f_t 7 p0))
set_option maxRecDepth 100000 in
set_option maxHeartbeats 4000000 in
theorem c_X11_refuse (l : Launch) (D : va_G) (cI cJ cO : ClassId) (h_t : Nat) (h_t_w : Nat) (h_t_saved : Nat) (h_t_trial : Nat) (h_t_text : Nat) (h_t_told : Nat) (f_t : Nat → Int32) (p0 : Int32) : kI l yX11_refuse cX11_refuse 2 .int 0 0 D (kT cI cJ cO) [.ref h_t, .int p0] [(h_t, moE f_t h_t_w h_t_saved h_t_trial h_t_text h_t_told)] ((s_X11_refuse f_t p0).1) [(h_t, moE (s_X11_refuse f_t p0).2 h_t_w h_t_saved h_t_trial h_t_text h_t_told)] := by
  refine kI_of (own := RX11) (lv := [(0, .ref h_t), (1, .int p0)]) rfl rfl (by decide) (Nat.le_of_ble_eq_true rfl) ?_
  intro p e s m args below meth c Q A C hret
  refine k_aload_n (pc := 0) C rfl 0 rfl dX11_refuse_0 ?_
  refine k_iload_n (pc := 1) C rfl 1 rfl dX11_refuse_1 ?_
  refine p_X11_7 (pc := 2) (ws2 := [(h_t, moE (upd f_t 7 p0) h_t_w h_t_saved h_t_trial h_t_text h_t_told)]) C q_1005 0 rfl rfl dX11_refuse_2 ?_
  refine k_iconst (pc := 5) C iconst_0 dX11_refuse_5 ?_
  have hs : (s_X11_refuse f_t p0) = (0, (upd f_t 7 p0)) := rfl
  exact k_finI (pc := 6) hret rfl (by rw [hs]) (by rw [hs]) dX11_refuse_6

theorem dX11_in_0 : decode cX11_in 0 = .ok (.lload_n 0, 1) := by decide +kernel
theorem dX11_in_1 : decode cX11_in 1 = .ok (.lload_n 2, 1) := by decide +kernel
theorem dX11_in_2 : decode cX11_in 2 = .ok (.lcmp, 1) := by decide +kernel
theorem dX11_in_3 : decode cX11_in 3 = .ok (.ifCond .lt 14, 3) := by decide +kernel
theorem dX11_in_6 : decode cX11_in 6 = .ok (.lload_n 0, 1) := by decide +kernel
theorem dX11_in_7 : decode cX11_in 7 = .ok (.lload 4, 2) := by decide +kernel
theorem dX11_in_9 : decode cX11_in 9 = .ok (.lcmp, 1) := by decide +kernel
theorem dX11_in_10 : decode cX11_in 10 = .ok (.ifCond .gt 7, 3) := by decide +kernel
theorem dX11_in_13 : decode cX11_in 13 = .ok (.iconst 1, 1) := by decide +kernel
theorem dX11_in_14 : decode cX11_in 14 = .ok (.goto 4, 3) := by decide +kernel
theorem dX11_in_17 : decode cX11_in 17 = .ok (.iconst 0, 1) := by decide +kernel
theorem dX11_in_18 : decode cX11_in 18 = .ok (.ireturn, 1) := by decide +kernel
def s_X11_in (p0 : Int64) (p1 : Int64) (p2 : Int64) : Int32 :=
  (if p0 < p1 then 0 else (if p2 < p0 then 0 else 1))
set_option maxRecDepth 100000 in
set_option maxHeartbeats 4000000 in
theorem c_X11_in (l : Launch) (D : va_G) (cI cJ cO : ClassId) (p0 : Int64) (p1 : Int64) (p2 : Int64) : kI l yX11_in cX11_in 6 .boolean 0 0 D (kT cI cJ cO) [.long p0, .long p1, .long p2] [] (s_X11_in p0 p1 p2) [] := by
  refine kI_of (own := RX11) (lv := [(0, .long p0), (2, .long p1), (4, .long p2)]) rfl rfl (by decide) (Nat.le_of_ble_eq_true rfl) ?_
  intro p e s m args below meth c Q A C hret
  refine k_lload_n (pc := 0) C rfl 0 rfl dX11_in_0 ?_
  refine k_lload_n (pc := 1) C rfl 1 rfl dX11_in_1 ?_
  refine k_lcmp_lt (pc := 2) (tgt := 17) C dX11_in_2 dX11_in_3 (by decide) (fun c_1 => ?_) (fun c_1 => ?_)
  · refine k_iconst (pc := 17) C iconst_0 dX11_in_17 ?_
    have hs : (s_X11_in p0 p1 p2) = 0 := (if_pos c_1)
    exact k_finI (pc := 18) hret rfl (by rw [hs]) rfl dX11_in_18
  · refine k_lload_n (pc := 6) C rfl 0 rfl dX11_in_6 ?_
    refine k_lload (pc := 7) C 2 rfl dX11_in_7 ?_
    refine k_lcmp_gt (pc := 9) (tgt := 17) C dX11_in_9 dX11_in_10 (by decide) (fun c_2 => ?_) (fun c_2 => ?_)
    · refine k_iconst (pc := 17) C iconst_0 dX11_in_17 ?_
      have hs : (s_X11_in p0 p1 p2) = 0 := ((if_neg c_1).trans (if_pos c_2))
      exact k_finI (pc := 18) hret rfl (by rw [hs]) rfl dX11_in_18
    · refine k_iconst (pc := 13) C iconst_1 dX11_in_13 ?_
      refine k_goto (pc := 14) (tgt := 18) C (by decide) dX11_in_14 ?_
      have hs : (s_X11_in p0 p1 p2) = 1 := ((if_neg c_1).trans (if_neg c_2))
      exact k_finI (pc := 18) hret rfl (by rw [hs]) rfl dX11_in_18
theorem b_X11_in (p0 : Int64) (p1 : Int64) (p2 : Int64) : kb (s_X11_in p0 p1 p2) := by
  unfold s_X11_in
  repeat' first | with_reducible exact kb0 | with_reducible exact kb1 | with_reducible refine k_bif ?_ ?_ | with_reducible refine k_bif0 ?_ ?_

theorem dX11_within_0 : decode cX11_within 0 = .ok (.lload_n 0, 1) := by decide +kernel
theorem dX11_within_1 : decode cX11_within 1 = .ok (.lload_n 2, 1) := by decide +kernel
theorem dX11_within_2 : decode cX11_within 2 = .ok (.lcmp, 1) := by decide +kernel
theorem dX11_within_3 : decode cX11_within 3 = .ok (.ifCond .ge 7, 3) := by decide +kernel
theorem dX11_within_6 : decode cX11_within 6 = .ok (.lload_n 2, 1) := by decide +kernel
theorem dX11_within_7 : decode cX11_within 7 = .ok (.goto 16, 3) := by decide +kernel
theorem dX11_within_10 : decode cX11_within 10 = .ok (.lload_n 0, 1) := by decide +kernel
theorem dX11_within_11 : decode cX11_within 11 = .ok (.lload 4, 2) := by decide +kernel
theorem dX11_within_13 : decode cX11_within 13 = .ok (.lcmp, 1) := by decide +kernel
theorem dX11_within_14 : decode cX11_within 14 = .ok (.ifCond .le 8, 3) := by decide +kernel
theorem dX11_within_17 : decode cX11_within 17 = .ok (.lload 4, 2) := by decide +kernel
theorem dX11_within_19 : decode cX11_within 19 = .ok (.goto 4, 3) := by decide +kernel
theorem dX11_within_22 : decode cX11_within 22 = .ok (.lload_n 0, 1) := by decide +kernel
theorem dX11_within_23 : decode cX11_within 23 = .ok (.lreturn, 1) := by decide +kernel
def s_X11_within_1 (x_3 : Int64) : Int64 :=
  x_3
def s_X11_within (p0 : Int64) (p1 : Int64) (p2 : Int64) : Int64 :=
  (s_X11_within_1 (if p1 ≤ p0 then (if p0 ≤ p2 then p0 else p2) else p1))
set_option maxRecDepth 100000 in
set_option maxHeartbeats 4000000 in
theorem c_X11_within (l : Launch) (D : va_G) (cI cJ cO : ClassId) (p0 : Int64) (p1 : Int64) (p2 : Int64) : kL l yX11_within cX11_within 6 .long 0 0 D (kT cI cJ cO) [.long p0, .long p1, .long p2] [] (s_X11_within p0 p1 p2) [] := by
  refine kL_of (own := RX11) (lv := [(0, .long p0), (2, .long p1), (4, .long p2)]) rfl rfl (by decide) (Nat.le_of_ble_eq_true rfl) ?_
  intro p e s m args below meth c Q A C hret
  refine k_lload_n (pc := 0) C rfl 0 rfl dX11_within_0 ?_
  refine k_lload_n (pc := 1) C rfl 1 rfl dX11_within_1 ?_
  have K_4 : ∀ (x_3 : Int64), x_3 = (if p1 ≤ p0 then (if p0 ≤ p2 then p0 else p2) else p1) → KJ p l e (kR 0 0) s m args below meth c 0 0 Q D A 6 [] [] [.long x_3] 23 := by
    intro x_3 ex_3
    have hs : (s_X11_within p0 p1 p2) = x_3 := (k_st (g := s_X11_within_1) ex_3 rfl rfl)
    exact k_finL (pc := 23) hret (by rw [hs]) rfl dX11_within_23
  refine k_lcmp_ge (pc := 2) (tgt := 10) C dX11_within_2 dX11_within_3 (by decide) (fun c_1 => ?_) (fun c_1 => ?_)
  · refine k_lload_n (pc := 10) C rfl 0 rfl dX11_within_10 ?_
    refine k_lload (pc := 11) C 2 rfl dX11_within_11 ?_
    refine k_lcmp_le (pc := 13) (tgt := 22) C dX11_within_13 dX11_within_14 (by decide) (fun c_2 => ?_) (fun c_2 => ?_)
    · refine k_lload_n (pc := 22) C rfl 0 rfl dX11_within_22 ?_
      refine k_lpick (lv2 := []) [] rfl ?_
      exact K_4 p0 (Eq.symm ((if_pos c_1).trans (if_pos c_2)))
    · refine k_lload (pc := 17) C 2 rfl dX11_within_17 ?_
      refine k_goto (pc := 19) (tgt := 23) C (by decide) dX11_within_19 ?_
      refine k_lpick (lv2 := []) [] rfl ?_
      exact K_4 p2 (Eq.symm ((if_pos c_1).trans (if_neg c_2)))
  · refine k_lload_n (pc := 6) C rfl 1 rfl dX11_within_6 ?_
    refine k_goto (pc := 7) (tgt := 23) C (by decide) dX11_within_7 ?_
    refine k_lpick (lv2 := []) [] rfl ?_
    exact K_4 p1 (Eq.symm (if_neg c_1))

theorem dX11_size_0 : decode cX11_size 0 = .ok (.lload_n 0, 1) := by decide +kernel
theorem dX11_size_1 : decode cX11_size 1 = .ok (.lconst 0, 1) := by decide +kernel
theorem dX11_size_2 : decode cX11_size 2 = .ok (.lcmp, 1) := by decide +kernel
theorem dX11_size_3 : decode cX11_size 3 = .ok (.ifCond .ge 8, 3) := by decide +kernel
theorem dX11_size_6 : decode cX11_size 6 = .ok (.lload_n 0, 1) := by decide +kernel
theorem dX11_size_7 : decode cX11_size 7 = .ok (.lneg, 1) := by decide +kernel
theorem dX11_size_8 : decode cX11_size 8 = .ok (.goto 4, 3) := by decide +kernel
theorem dX11_size_11 : decode cX11_size 11 = .ok (.lload_n 0, 1) := by decide +kernel
theorem dX11_size_12 : decode cX11_size 12 = .ok (.lreturn, 1) := by decide +kernel
def s_X11_size_1 (x_2 : Int64) : Int64 :=
  x_2
def s_X11_size (p0 : Int64) : Int64 :=
  (s_X11_size_1 (if 0 ≤ p0 then p0 else (-p0)))
set_option maxRecDepth 100000 in
set_option maxHeartbeats 4000000 in
theorem c_X11_size (l : Launch) (D : va_G) (cI cJ cO : ClassId) (p0 : Int64) : kL l yX11_size cX11_size 2 .long 0 0 D (kT cI cJ cO) [.long p0] [] (s_X11_size p0) [] := by
  refine kL_of (own := RX11) (lv := [(0, .long p0)]) rfl rfl (by decide) (Nat.le_of_ble_eq_true rfl) ?_
  intro p e s m args below meth c Q A C hret
  refine k_lload_n (pc := 0) C rfl 0 rfl dX11_size_0 ?_
  refine k_lconst (pc := 1) C lconst_0 dX11_size_1 ?_
  have K_3 : ∀ (x_2 : Int64), x_2 = (if 0 ≤ p0 then p0 else (-p0)) → KJ p l e (kR 0 0) s m args below meth c 0 0 Q D A 2 [] [] [.long x_2] 12 := by
    intro x_2 ex_2
    have hs : (s_X11_size p0) = x_2 := (k_st (g := s_X11_size_1) ex_2 rfl rfl)
    exact k_finL (pc := 12) hret (by rw [hs]) rfl dX11_size_12
  refine k_lcmp_ge (pc := 2) (tgt := 11) C dX11_size_2 dX11_size_3 (by decide) (fun c_1 => ?_) (fun c_1 => ?_)
  · refine k_lload_n (pc := 11) C rfl 0 rfl dX11_size_11 ?_
    refine k_lpick (lv2 := []) [] rfl ?_
    exact K_3 p0 (Eq.symm (if_pos c_1))
  · refine k_lload_n (pc := 6) C rfl 0 rfl dX11_size_6 ?_
    refine k_lneg (pc := 7) C dX11_size_7 ?_
    refine k_goto (pc := 8) (tgt := 12) C (by decide) dX11_size_8 ?_
    refine k_lpick (lv2 := []) [] rfl ?_
    exact K_3 (-p0) (Eq.symm (if_neg c_1))

theorem dX11_least_0 : decode cX11_least 0 = .ok (.iload_n 0, 1) := by decide +kernel
theorem dX11_least_1 : decode cX11_least 1 = .ok (.iconst 4, 1) := by decide +kernel
theorem dX11_least_2 : decode cX11_least 2 = .ok (.if_icmp .ge 7, 3) := by decide +kernel
theorem dX11_least_5 : decode cX11_least 5 = .ok (.iconst 1, 1) := by decide +kernel
theorem dX11_least_6 : decode cX11_least 6 = .ok (.goto 16, 3) := by decide +kernel
theorem dX11_least_9 : decode cX11_least 9 = .ok (.iload_n 0, 1) := by decide +kernel
theorem dX11_least_10 : decode cX11_least 10 = .ok (.bipush 9, 2) := by decide +kernel
theorem dX11_least_12 : decode cX11_least 12 = .ok (.if_icmp .ne 9, 3) := by decide +kernel
theorem dX11_least_15 : decode cX11_least 15 = .ok (.sipush (-200), 3) := by decide +kernel
theorem dX11_least_18 : decode cX11_least 18 = .ok (.goto 4, 3) := by decide +kernel
theorem dX11_least_21 : decode cX11_least 21 = .ok (.iconst 0, 1) := by decide +kernel
theorem dX11_least_22 : decode cX11_least 22 = .ok (.ireturn, 1) := by decide +kernel
def s_X11_least_1 (x_3 : Int32) : Int32 :=
  x_3
def s_X11_least (p0 : Int32) : Int32 :=
  (s_X11_least_1 (if 4 ≤ p0 then (if p0 = 9 then (-200) else 0) else 1))
set_option maxRecDepth 100000 in
set_option maxHeartbeats 4000000 in
theorem c_X11_least (l : Launch) (D : va_G) (cI cJ cO : ClassId) (p0 : Int32) : kI l yX11_least cX11_least 1 .int 0 0 D (kT cI cJ cO) [.int p0] [] (s_X11_least p0) [] := by
  refine kI_of (own := RX11) (lv := [(0, .int p0)]) rfl rfl (by decide) (Nat.le_of_ble_eq_true rfl) ?_
  intro p e s m args below meth c Q A C hret
  refine k_iload_n (pc := 0) C rfl 0 rfl dX11_least_0 ?_
  refine k_iconst (pc := 1) C iconst_4 dX11_least_1 ?_
  have K_4 : ∀ (x_3 : Int32), x_3 = (if 4 ≤ p0 then (if p0 = 9 then (-200) else 0) else 1) → KJ p l e (kR 0 0) s m args below meth c 0 0 Q D A 1 [] [] [.int x_3] 22 := by
    intro x_3 ex_3
    have hs : (s_X11_least p0) = x_3 := (k_st (g := s_X11_least_1) ex_3 rfl rfl)
    exact k_finI (pc := 22) hret rfl (by rw [hs]) rfl dX11_least_22
  refine k_icmp_ge (pc := 2) (tgt := 9) C dX11_least_2 (by decide) (fun c_1 => ?_) (fun c_1 => ?_)
  · refine k_iload_n (pc := 9) C rfl 0 rfl dX11_least_9 ?_
    refine k_bipush (pc := 10) C bipush_9 dX11_least_10 ?_
    refine k_icmp_ne (pc := 12) (tgt := 21) C dX11_least_12 (by decide) (fun c_2 => ?_) (fun c_2 => ?_)
    · refine k_iconst (pc := 21) C iconst_0 dX11_least_21 ?_
      refine k_lpick (lv2 := []) [] rfl ?_
      exact K_4 0 (Eq.symm ((if_pos c_1).trans (if_neg c_2)))
    · refine k_sipush (pc := 15) C sipush_m200 dX11_least_15 ?_
      refine k_goto (pc := 18) (tgt := 22) C (by decide) dX11_least_18 ?_
      refine k_lpick (lv2 := []) [] rfl ?_
      exact K_4 (-200) (Eq.symm ((if_pos c_1).trans (if_pos c_2)))
  · refine k_iconst (pc := 5) C iconst_1 dX11_least_5 ?_
    refine k_goto (pc := 6) (tgt := 22) C (by decide) dX11_least_6 ?_
    refine k_lpick (lv2 := []) [] rfl ?_
    exact K_4 1 (Eq.symm (if_neg c_1))

theorem dX11_most_0 : decode cX11_most 0 = .ok (.iload_n 0, 1) := by decide +kernel
theorem dX11_most_1 : decode cX11_most 1 = .ok (.tableswitch 68 4 11 #[47, 47, 50, 53, 57, 60, 64, 64], 47) := by decide +kernel
theorem dX11_most_48 : decode cX11_most 48 = .ok (.bipush 20, 2) := by decide +kernel
theorem dX11_most_50 : decode cX11_most 50 = .ok (.ireturn, 1) := by decide +kernel
theorem dX11_most_51 : decode cX11_most 51 = .ok (.bipush 100, 2) := by decide +kernel
theorem dX11_most_53 : decode cX11_most 53 = .ok (.ireturn, 1) := by decide +kernel
theorem dX11_most_54 : decode cX11_most 54 = .ok (.sipush 200, 3) := by decide +kernel
theorem dX11_most_57 : decode cX11_most 57 = .ok (.ireturn, 1) := by decide +kernel
theorem dX11_most_58 : decode cX11_most 58 = .ok (.bipush 30, 2) := by decide +kernel
theorem dX11_most_60 : decode cX11_most 60 = .ok (.ireturn, 1) := by decide +kernel
theorem dX11_most_61 : decode cX11_most 61 = .ok (.sipush 500, 3) := by decide +kernel
theorem dX11_most_64 : decode cX11_most 64 = .ok (.ireturn, 1) := by decide +kernel
theorem dX11_most_65 : decode cX11_most 65 = .ok (.sipush 1000, 3) := by decide +kernel
theorem dX11_most_68 : decode cX11_most 68 = .ok (.ireturn, 1) := by decide +kernel
theorem dX11_most_69 : decode cX11_most 69 = .ok (.bipush 50, 2) := by decide +kernel
theorem dX11_most_71 : decode cX11_most 71 = .ok (.ireturn, 1) := by decide +kernel
def s_X11_most (p0 : Int32) : Int32 :=
  (if p0 = 4 then 20 else (if p0 = 5 then 20 else (if p0 = 6 then 100 else (if p0 = 7 then 200 else (if p0 = 8 then 30 else (if p0 = 9 then 500 else (if p0 = 10 then 1000 else (if p0 = 11 then 1000 else 50))))))))
set_option maxRecDepth 100000 in
set_option maxHeartbeats 4000000 in
theorem c_X11_most (l : Launch) (D : va_G) (cI cJ cO : ClassId) (p0 : Int32) : kI l yX11_most cX11_most 1 .int 0 0 D (kT cI cJ cO) [.int p0] [] (s_X11_most p0) [] := by
  refine kI_of (own := RX11) (lv := [(0, .int p0)]) rfl rfl (by decide) (Nat.le_of_ble_eq_true rfl) ?_
  intro p e s m args below meth c Q A C hret
  refine k_iload_n (pc := 0) C rfl 0 rfl dX11_most_0 ?_
  by_cases c_1 : p0 = 4
  · refine k_tsIn (pc := 1) (tgt := 48) C 4 c_1 (by decide) (by decide) rfl (by decide) dX11_most_1 ?_
    refine k_bipush (pc := 48) C bipush_20 dX11_most_48 ?_
    have hs : (s_X11_most p0) = 20 := (if_pos c_1)
    exact k_finI (pc := 50) hret rfl (by rw [hs]) rfl dX11_most_50
  · by_cases c_2 : p0 = 5
    · refine k_tsIn (pc := 1) (tgt := 48) C 5 c_2 (by decide) (by decide) rfl (by decide) dX11_most_1 ?_
      refine k_bipush (pc := 48) C bipush_20 dX11_most_48 ?_
      have hs : (s_X11_most p0) = 20 := ((if_neg c_1).trans (if_pos c_2))
      exact k_finI (pc := 50) hret rfl (by rw [hs]) rfl dX11_most_50
    · by_cases c_3 : p0 = 6
      · refine k_tsIn (pc := 1) (tgt := 51) C 6 c_3 (by decide) (by decide) rfl (by decide) dX11_most_1 ?_
        refine k_bipush (pc := 51) C bipush_100 dX11_most_51 ?_
        have hs : (s_X11_most p0) = 100 := ((if_neg c_1).trans ((if_neg c_2).trans (if_pos c_3)))
        exact k_finI (pc := 53) hret rfl (by rw [hs]) rfl dX11_most_53
      · by_cases c_4 : p0 = 7
        · refine k_tsIn (pc := 1) (tgt := 54) C 7 c_4 (by decide) (by decide) rfl (by decide) dX11_most_1 ?_
          refine k_sipush (pc := 54) C sipush_200 dX11_most_54 ?_
          have hs : (s_X11_most p0) = 200 := ((if_neg c_1).trans ((if_neg c_2).trans ((if_neg c_3).trans (if_pos c_4))))
          exact k_finI (pc := 57) hret rfl (by rw [hs]) rfl dX11_most_57
        · by_cases c_5 : p0 = 8
          · refine k_tsIn (pc := 1) (tgt := 58) C 8 c_5 (by decide) (by decide) rfl (by decide) dX11_most_1 ?_
            refine k_bipush (pc := 58) C bipush_30 dX11_most_58 ?_
            have hs : (s_X11_most p0) = 30 := ((if_neg c_1).trans ((if_neg c_2).trans ((if_neg c_3).trans ((if_neg c_4).trans (if_pos c_5)))))
            exact k_finI (pc := 60) hret rfl (by rw [hs]) rfl dX11_most_60
          · by_cases c_6 : p0 = 9
            · refine k_tsIn (pc := 1) (tgt := 61) C 9 c_6 (by decide) (by decide) rfl (by decide) dX11_most_1 ?_
              refine k_sipush (pc := 61) C sipush_500 dX11_most_61 ?_
              have hs : (s_X11_most p0) = 500 := ((if_neg c_1).trans ((if_neg c_2).trans ((if_neg c_3).trans ((if_neg c_4).trans ((if_neg c_5).trans (if_pos c_6))))))
              exact k_finI (pc := 64) hret rfl (by rw [hs]) rfl dX11_most_64
            · by_cases c_7 : p0 = 10
              · refine k_tsIn (pc := 1) (tgt := 65) C 10 c_7 (by decide) (by decide) rfl (by decide) dX11_most_1 ?_
                refine k_sipush (pc := 65) C sipush_1000 dX11_most_65 ?_
                have hs : (s_X11_most p0) = 1000 := ((if_neg c_1).trans ((if_neg c_2).trans ((if_neg c_3).trans ((if_neg c_4).trans ((if_neg c_5).trans ((if_neg c_6).trans (if_pos c_7)))))))
                exact k_finI (pc := 68) hret rfl (by rw [hs]) rfl dX11_most_68
              · by_cases c_8 : p0 = 11
                · refine k_tsIn (pc := 1) (tgt := 65) C 11 c_8 (by decide) (by decide) rfl (by decide) dX11_most_1 ?_
                  refine k_sipush (pc := 65) C sipush_1000 dX11_most_65 ?_
                  have hs : (s_X11_most p0) = 1000 := ((if_neg c_1).trans ((if_neg c_2).trans ((if_neg c_3).trans ((if_neg c_4).trans ((if_neg c_5).trans ((if_neg c_6).trans ((if_neg c_7).trans (if_pos c_8))))))))
                  exact k_finI (pc := 68) hret rfl (by rw [hs]) rfl dX11_most_68
                · refine k_tsOut (pc := 1) (tgt := 69) C (by have z0 := k_ne (k := 4) c_1 (by decide); have z1 := k_ne (k := 5) c_2 (by decide); have z2 := k_ne (k := 6) c_3 (by decide); have z3 := k_ne (k := 7) c_4 (by decide); have z4 := k_ne (k := 8) c_5 (by decide); have z5 := k_ne (k := 9) c_6 (by decide); have z6 := k_ne (k := 10) c_7 (by decide); have z7 := k_ne (k := 11) c_8 (by decide); omega) (by decide) dX11_most_1 ?_
                  refine k_bipush (pc := 69) C bipush_50 dX11_most_69 ?_
                  have hs : (s_X11_most p0) = 50 := ((if_neg c_1).trans ((if_neg c_2).trans ((if_neg c_3).trans ((if_neg c_4).trans ((if_neg c_5).trans ((if_neg c_6).trans ((if_neg c_7).trans (if_neg c_8))))))))
                  exact k_finI (pc := 71) hret rfl (by rw [hs]) rfl dX11_most_71

theorem dX11_runs_0 : decode cX11_runs 0 = .ok (.aload_n 0, 1) := by decide +kernel
theorem dX11_runs_1 : decode cX11_runs 1 = .ok (.getfield 7, 3) := by decide +kernel
theorem dX11_runs_4 : decode cX11_runs 4 = .ok (.bipush 33, 2) := by decide +kernel
theorem dX11_runs_6 : decode cX11_runs 6 = .ok (.laload, 1) := by decide +kernel
theorem dX11_runs_7 : decode cX11_runs 7 = .ok (.lconst 1, 1) := by decide +kernel
theorem dX11_runs_8 : decode cX11_runs 8 = .ok (.lcmp, 1) := by decide +kernel
theorem dX11_runs_9 : decode cX11_runs 9 = .ok (.ifCond .eq 17, 3) := by decide +kernel
theorem dX11_runs_12 : decode cX11_runs 12 = .ok (.aload_n 0, 1) := by decide +kernel
theorem dX11_runs_13 : decode cX11_runs 13 = .ok (.getfield 7, 3) := by decide +kernel
theorem dX11_runs_16 : decode cX11_runs 16 = .ok (.bipush 33, 2) := by decide +kernel
theorem dX11_runs_18 : decode cX11_runs 18 = .ok (.laload, 1) := by decide +kernel
theorem dX11_runs_19 : decode cX11_runs 19 = .ok (.ldc2_w 32, 3) := by decide +kernel
theorem dX11_runs_22 : decode cX11_runs 22 = .ok (.lcmp, 1) := by decide +kernel
theorem dX11_runs_23 : decode cX11_runs 23 = .ok (.ifCond .ne 7, 3) := by decide +kernel
theorem dX11_runs_26 : decode cX11_runs 26 = .ok (.iconst 1, 1) := by decide +kernel
theorem dX11_runs_27 : decode cX11_runs 27 = .ok (.goto 4, 3) := by decide +kernel
theorem dX11_runs_30 : decode cX11_runs 30 = .ok (.iconst 0, 1) := by decide +kernel
theorem dX11_runs_31 : decode cX11_runs 31 = .ok (.ireturn, 1) := by decide +kernel
def s_X11_runs (f_t : Nat → Int32) (f_t_w : Nat → Int64) : Int32 :=
  (if (f_t_w 33) = 1 then 1 else (if (f_t_w 33) = 2 then 1 else 0))
set_option maxRecDepth 100000 in
set_option maxHeartbeats 4000000 in
theorem c_X11_runs (l : Launch) (D : va_G) (cI cJ cO : ClassId) (h_t : Nat) (h_t_w : Nat) (h_t_saved : Nat) (h_t_trial : Nat) (h_t_text : Nat) (h_t_told : Nat) (f_t : Nat → Int32) (f_t_w : Nat → Int64) : kI l yX11_runs cX11_runs 1 .boolean 0 0 D (kT cI cJ cO) [.ref h_t] [(h_t, moE f_t h_t_w h_t_saved h_t_trial h_t_text h_t_told), (h_t_w, jA cJ 294 f_t_w)] (s_X11_runs f_t f_t_w) [(h_t, moE f_t h_t_w h_t_saved h_t_trial h_t_text h_t_told), (h_t_w, jA cJ 294 f_t_w)] := by
  refine kI_of (own := RX11) (lv := [(0, .ref h_t)]) rfl rfl (by decide) (Nat.le_of_ble_eq_true rfl) ?_
  intro p e s m args below meth c Q A C hret
  refine k_aload_n (pc := 0) C rfl 0 rfl dX11_runs_0 ?_
  refine g_X11_0 (pc := 1) C q_998 0 rfl dX11_runs_1 ?_
  refine k_bipush (pc := 4) C bipush_33 dX11_runs_4 ?_
  refine k_laldK (pc := 6) (v := (f_t_w 33)) C 1 1 rfl rfl (k_vinc 33 cl_33 (by decide) (by decide)) cl_33 rfl dX11_runs_6 ?_
  refine k_lconst (pc := 7) C lconst_1 dX11_runs_7 ?_
  refine k_lcmp_eq (pc := 8) (tgt := 26) C dX11_runs_8 dX11_runs_9 (by decide) (fun c_1 => ?_) (fun c_1 => ?_)
  · refine k_iconst (pc := 26) C iconst_1 dX11_runs_26 ?_
    refine k_goto (pc := 27) (tgt := 31) C (by decide) dX11_runs_27 ?_
    have hs : (s_X11_runs f_t f_t_w) = 1 := (if_pos c_1)
    exact k_finI (pc := 31) hret rfl (by rw [hs]) rfl dX11_runs_31
  · refine k_aload_n (pc := 12) C rfl 0 rfl dX11_runs_12 ?_
    refine g_X11_0 (pc := 13) C q_998 0 rfl dX11_runs_13 ?_
    refine k_bipush (pc := 16) C bipush_33 dX11_runs_16 ?_
    refine k_laldK (pc := 18) (v := (f_t_w 33)) C 1 1 rfl rfl (k_vinc 33 cl_33 (by decide) (by decide)) cl_33 rfl dX11_runs_18 ?_
    refine k_ldc2 (pc := 19) C q_989 dX11_runs_19 ?_
    refine k_lcmp_ne (pc := 22) (tgt := 30) C dX11_runs_22 dX11_runs_23 (by decide) (fun c_2 => ?_) (fun c_2 => ?_)
    · refine k_iconst (pc := 30) C iconst_0 dX11_runs_30 ?_
      have hs : (s_X11_runs f_t f_t_w) = 0 := ((if_neg c_1).trans (if_neg c_2))
      exact k_finI (pc := 31) hret rfl (by rw [hs]) rfl dX11_runs_31
    · refine k_iconst (pc := 26) C iconst_1 dX11_runs_26 ?_
      refine k_goto (pc := 27) (tgt := 31) C (by decide) dX11_runs_27 ?_
      have hs : (s_X11_runs f_t f_t_w) = 1 := ((if_neg c_1).trans (if_pos c_2))
      exact k_finI (pc := 31) hret rfl (by rw [hs]) rfl dX11_runs_31
theorem b_X11_runs (f_t : Nat → Int32) (f_t_w : Nat → Int64) : kb (s_X11_runs f_t f_t_w) := by
  unfold s_X11_runs
  repeat' first | with_reducible exact kb0 | with_reducible exact kb1 | with_reducible refine k_bif ?_ ?_ | with_reducible refine k_bif0 ?_ ?_

theorem dX11_isTemperature_0 : decode cX11_isTemperature 0 = .ok (.iload_n 0, 1) := by decide +kernel
theorem dX11_isTemperature_1 : decode cX11_isTemperature 1 = .ok (.i2l, 1) := by decide +kernel
theorem dX11_isTemperature_2 : decode cX11_isTemperature 2 = .ok (.ldc2_w 82, 3) := by decide +kernel
theorem dX11_isTemperature_5 : decode cX11_isTemperature 5 = .ok (.ldc2_w 84, 3) := by decide +kernel
theorem dX11_isTemperature_8 : decode cX11_isTemperature 8 = .ok (.invokestatic 63, 3) := by decide +kernel
theorem dX11_isTemperature_11 : decode cX11_isTemperature 11 = .ok (.ireturn, 1) := by decide +kernel
def s_X11_isTemperature (p0 : Int32) : Int32 :=
  (s_X11_in (Int32.toInt64 p0) (-400) 1800)
set_option maxRecDepth 100000 in
set_option maxHeartbeats 4000000 in
theorem c_X11_isTemperature (l : Launch) (D : va_G) (cI cJ cO : ClassId) (p0 : Int32) : kI l yX11_isTemperature cX11_isTemperature 1 .boolean 1 25 D (kT cI cJ cO) [.int p0] [] (s_X11_isTemperature p0) [] := by
  refine kI_of (own := RX11) (lv := [(0, .int p0)]) rfl rfl (by decide) (Nat.le_of_ble_eq_true rfl) ?_
  intro p e s m args below meth c Q A C hret
  refine k_iload_n (pc := 0) C rfl 0 rfl dX11_isTemperature_0 ?_
  refine k_i2l (pc := 1) C dX11_isTemperature_1 ?_
  refine k_ldc2 (pc := 2) C q_1080 dX11_isTemperature_2 ?_
  refine k_ldc2 (pc := 5) C q_1081 dX11_isTemperature_5 ?_
  refine k_callSi (pc := 8) (As := [.long (Int32.toInt64 p0), .long (-400), .long 1800]) (rest := []) (r := (s_X11_in (Int32.toInt64 p0) (-400) 1800)) (wc := []) (wc2 := []) (ws2 := []) C (c_X11_in l D cI cJ cO (Int32.toInt64 p0) (-400) 1800) cws_X11_in q_1051 [] rfl rfl (by decide) rfl rfl (Nat.le_of_ble_eq_true rfl) ⟨Nat.le_of_ble_eq_true rfl, Nat.le_of_ble_eq_true rfl⟩ rfl ⟨Nat.le_refl _, Nat.le_refl _⟩ dX11_isTemperature_8 ?_
  have hs : (s_X11_isTemperature p0) = (s_X11_in (Int32.toInt64 p0) (-400) 1800) := rfl
  exact k_finI (pc := 11) hret (kb_n (b_X11_in _ _ _)) (by rw [hs]) rfl dX11_isTemperature_11
theorem b_X11_isTemperature (p0 : Int32) : kb (s_X11_isTemperature p0) := by
  unfold s_X11_isTemperature
  repeat' first | with_reducible exact kb0 | with_reducible exact kb1 | with_reducible exact b_X11_in .. | with_reducible refine k_bif ?_ ?_ | with_reducible refine k_bif0 ?_ ?_

theorem dX11_isHumidity_0 : decode cX11_isHumidity 0 = .ok (.iload_n 0, 1) := by decide +kernel
theorem dX11_isHumidity_1 : decode cX11_isHumidity 1 = .ok (.i2l, 1) := by decide +kernel
theorem dX11_isHumidity_2 : decode cX11_isHumidity 2 = .ok (.lconst 0, 1) := by decide +kernel
theorem dX11_isHumidity_3 : decode cX11_isHumidity 3 = .ok (.ldc2_w 46, 3) := by decide +kernel
theorem dX11_isHumidity_6 : decode cX11_isHumidity 6 = .ok (.invokestatic 63, 3) := by decide +kernel
theorem dX11_isHumidity_9 : decode cX11_isHumidity 9 = .ok (.ireturn, 1) := by decide +kernel
def s_X11_isHumidity (p0 : Int32) : Int32 :=
  (s_X11_in (Int32.toInt64 p0) 0 1000)
set_option maxRecDepth 100000 in
set_option maxHeartbeats 4000000 in
theorem c_X11_isHumidity (l : Launch) (D : va_G) (cI cJ cO : ClassId) (p0 : Int32) : kI l yX11_isHumidity cX11_isHumidity 1 .boolean 1 25 D (kT cI cJ cO) [.int p0] [] (s_X11_isHumidity p0) [] := by
  refine kI_of (own := RX11) (lv := [(0, .int p0)]) rfl rfl (by decide) (Nat.le_of_ble_eq_true rfl) ?_
  intro p e s m args below meth c Q A C hret
  refine k_iload_n (pc := 0) C rfl 0 rfl dX11_isHumidity_0 ?_
  refine k_i2l (pc := 1) C dX11_isHumidity_1 ?_
  refine k_lconst (pc := 2) C lconst_0 dX11_isHumidity_2 ?_
  refine k_ldc2 (pc := 3) C q_996 dX11_isHumidity_3 ?_
  refine k_callSi (pc := 6) (As := [.long (Int32.toInt64 p0), .long 0, .long 1000]) (rest := []) (r := (s_X11_in (Int32.toInt64 p0) 0 1000)) (wc := []) (wc2 := []) (ws2 := []) C (c_X11_in l D cI cJ cO (Int32.toInt64 p0) 0 1000) cws_X11_in q_1051 [] rfl rfl (by decide) rfl rfl (Nat.le_of_ble_eq_true rfl) ⟨Nat.le_of_ble_eq_true rfl, Nat.le_of_ble_eq_true rfl⟩ rfl ⟨Nat.le_refl _, Nat.le_refl _⟩ dX11_isHumidity_6 ?_
  have hs : (s_X11_isHumidity p0) = (s_X11_in (Int32.toInt64 p0) 0 1000) := rfl
  exact k_finI (pc := 9) hret (kb_n (b_X11_in _ _ _)) (by rw [hs]) rfl dX11_isHumidity_9
theorem b_X11_isHumidity (p0 : Int32) : kb (s_X11_isHumidity p0) := by
  unfold s_X11_isHumidity
  repeat' first | with_reducible exact kb0 | with_reducible exact kb1 | with_reducible exact b_X11_in .. | with_reducible refine k_bif ?_ ?_ | with_reducible refine k_bif0 ?_ ?_

theorem dX11_goesOn_0 : decode cX11_goesOn 0 = .ok (.aload_n 0, 1) := by decide +kernel
theorem dX11_goesOn_1 : decode cX11_goesOn 1 = .ok (.invokevirtual 93, 3) := by decide +kernel
theorem dX11_goesOn_4 : decode cX11_goesOn 4 = .ok (.ifCond .eq 19, 3) := by decide +kernel
theorem dX11_goesOn_7 : decode cX11_goesOn 7 = .ok (.aload_n 0, 1) := by decide +kernel
theorem dX11_goesOn_8 : decode cX11_goesOn 8 = .ok (.getfield 7, 3) := by decide +kernel
theorem dX11_goesOn_11 : decode cX11_goesOn 11 = .ok (.bipush 34, 2) := by decide +kernel
theorem dX11_goesOn_13 : decode cX11_goesOn 13 = .ok (.laload, 1) := by decide +kernel
theorem dX11_goesOn_14 : decode cX11_goesOn 14 = .ok (.lconst 0, 1) := by decide +kernel
theorem dX11_goesOn_15 : decode cX11_goesOn 15 = .ok (.lcmp, 1) := by decide +kernel
theorem dX11_goesOn_16 : decode cX11_goesOn 16 = .ok (.ifCond .ne 7, 3) := by decide +kernel
theorem dX11_goesOn_19 : decode cX11_goesOn 19 = .ok (.iconst 1, 1) := by decide +kernel
theorem dX11_goesOn_20 : decode cX11_goesOn 20 = .ok (.goto 4, 3) := by decide +kernel
theorem dX11_goesOn_23 : decode cX11_goesOn 23 = .ok (.iconst 0, 1) := by decide +kernel
theorem dX11_goesOn_24 : decode cX11_goesOn 24 = .ok (.ireturn, 1) := by decide +kernel
def s_X11_goesOn (f_t : Nat → Int32) (f_t_w : Nat → Int64) : Int32 :=
  (if (s_X11_runs f_t f_t_w) = 0 then 0 else (if (f_t_w 34) = 0 then 1 else 0))
set_option maxRecDepth 100000 in
set_option maxHeartbeats 4000000 in
theorem c_X11_goesOn (l : Launch) (D : va_G) (cI cJ cO : ClassId) (h_t : Nat) (h_t_w : Nat) (h_t_saved : Nat) (h_t_trial : Nat) (h_t_text : Nat) (h_t_told : Nat) (f_t : Nat → Int32) (f_t_w : Nat → Int64) : kI l yX11_goesOn cX11_goesOn 1 .boolean 1 20 D (kT cI cJ cO) [.ref h_t] [(h_t, moE f_t h_t_w h_t_saved h_t_trial h_t_text h_t_told), (h_t_w, jA cJ 294 f_t_w)] (s_X11_goesOn f_t f_t_w) [(h_t, moE f_t h_t_w h_t_saved h_t_trial h_t_text h_t_told), (h_t_w, jA cJ 294 f_t_w)] := by
  refine kI_of (own := RX11) (lv := [(0, .ref h_t)]) rfl rfl (by decide) (Nat.le_of_ble_eq_true rfl) ?_
  intro p e s m args below meth c Q A C hret
  refine k_aload_n (pc := 0) C rfl 0 rfl dX11_goesOn_0 ?_
  refine k_callVi (pc := 1) (As := []) (rest := []) (r := (s_X11_runs f_t f_t_w)) (wc := [(h_t, moE f_t h_t_w h_t_saved h_t_trial h_t_text h_t_told), (h_t_w, jA cJ 294 f_t_w)]) (wc2 := [(h_t, moE f_t h_t_w h_t_saved h_t_trial h_t_text h_t_told), (h_t_w, jA cJ 294 f_t_w)]) (ws2 := [(h_t, moE f_t h_t_w h_t_saved h_t_trial h_t_text h_t_told), (h_t_w, jA cJ 294 f_t_w)]) C (c_X11_runs l D cI cJ cO h_t h_t_w h_t_saved h_t_trial h_t_text h_t_told f_t f_t_w) cwv_X11_runs q_1085 vX11 0 rfl [0, 1] rfl rfl (by decide) rfl rfl (Nat.le_of_ble_eq_true rfl) ⟨Nat.le_of_ble_eq_true rfl, Nat.le_of_ble_eq_true rfl⟩ rfl ⟨Nat.le_refl _, Nat.le_refl _⟩ dX11_goesOn_1 ?_
  refine k_if_eq (pc := 4) (tgt := 23) C dX11_goesOn_4 (by decide) (fun c_1 => ?_) (fun c_1 => ?_)
  · refine k_iconst (pc := 23) C iconst_0 dX11_goesOn_23 ?_
    have hs : (s_X11_goesOn f_t f_t_w) = 0 := (if_pos c_1)
    exact k_finI (pc := 24) hret rfl (by rw [hs]) rfl dX11_goesOn_24
  · refine k_aload_n (pc := 7) C rfl 0 rfl dX11_goesOn_7 ?_
    refine g_X11_0 (pc := 8) C q_998 0 rfl dX11_goesOn_8 ?_
    refine k_bipush (pc := 11) C bipush_34 dX11_goesOn_11 ?_
    refine k_laldK (pc := 13) (v := (f_t_w 34)) C 1 1 rfl rfl (k_vinc 34 cl_34 (by decide) (by decide)) cl_34 rfl dX11_goesOn_13 ?_
    refine k_lconst (pc := 14) C lconst_0 dX11_goesOn_14 ?_
    refine k_lcmp_ne (pc := 15) (tgt := 23) C dX11_goesOn_15 dX11_goesOn_16 (by decide) (fun c_2 => ?_) (fun c_2 => ?_)
    · refine k_iconst (pc := 23) C iconst_0 dX11_goesOn_23 ?_
      have hs : (s_X11_goesOn f_t f_t_w) = 0 := ((if_neg c_1).trans (if_neg c_2))
      exact k_finI (pc := 24) hret rfl (by rw [hs]) rfl dX11_goesOn_24
    · refine k_iconst (pc := 19) C iconst_1 dX11_goesOn_19 ?_
      refine k_goto (pc := 20) (tgt := 24) C (by decide) dX11_goesOn_20 ?_
      have hs : (s_X11_goesOn f_t f_t_w) = 1 := ((if_neg c_1).trans (if_pos c_2))
      exact k_finI (pc := 24) hret rfl (by rw [hs]) rfl dX11_goesOn_24
theorem b_X11_goesOn (f_t : Nat → Int32) (f_t_w : Nat → Int64) : kb (s_X11_goesOn f_t f_t_w) := by
  unfold s_X11_goesOn
  repeat' first | with_reducible exact kb0 | with_reducible exact kb1 | with_reducible exact b_X11_runs .. | with_reducible refine k_bif ?_ ?_ | with_reducible refine k_bif0 ?_ ?_

theorem dX11_isWithin_0 : decode cX11_isWithin 0 = .ok (.aload_n 0, 1) := by decide +kernel
theorem dX11_isWithin_1 : decode cX11_isWithin 1 = .ok (.getfield 7, 3) := by decide +kernel
theorem dX11_isWithin_4 : decode cX11_isWithin 4 = .ok (.bipush 14, 2) := by decide +kernel
theorem dX11_isWithin_6 : decode cX11_isWithin 6 = .ok (.laload, 1) := by decide +kernel
theorem dX11_isWithin_7 : decode cX11_isWithin 7 = .ok (.aload_n 0, 1) := by decide +kernel
theorem dX11_isWithin_8 : decode cX11_isWithin 8 = .ok (.getfield 7, 3) := by decide +kernel
theorem dX11_isWithin_11 : decode cX11_isWithin 11 = .ok (.bipush 12, 2) := by decide +kernel
theorem dX11_isWithin_13 : decode cX11_isWithin 13 = .ok (.laload, 1) := by decide +kernel
theorem dX11_isWithin_14 : decode cX11_isWithin 14 = .ok (.lsub, 1) := by decide +kernel
theorem dX11_isWithin_15 : decode cX11_isWithin 15 = .ok (.invokestatic 101, 3) := by decide +kernel
theorem dX11_isWithin_18 : decode cX11_isWithin 18 = .ok (.aload_n 0, 1) := by decide +kernel
theorem dX11_isWithin_19 : decode cX11_isWithin 19 = .ok (.getfield 7, 3) := by decide +kernel
theorem dX11_isWithin_22 : decode cX11_isWithin 22 = .ok (.bipush 6, 2) := by decide +kernel
theorem dX11_isWithin_24 : decode cX11_isWithin 24 = .ok (.laload, 1) := by decide +kernel
theorem dX11_isWithin_25 : decode cX11_isWithin 25 = .ok (.lcmp, 1) := by decide +kernel
theorem dX11_isWithin_26 : decode cX11_isWithin 26 = .ok (.ifCond .gt 36, 3) := by decide +kernel
theorem dX11_isWithin_29 : decode cX11_isWithin 29 = .ok (.aload_n 0, 1) := by decide +kernel
theorem dX11_isWithin_30 : decode cX11_isWithin 30 = .ok (.getfield 7, 3) := by decide +kernel
theorem dX11_isWithin_33 : decode cX11_isWithin 33 = .ok (.bipush 15, 2) := by decide +kernel
theorem dX11_isWithin_35 : decode cX11_isWithin 35 = .ok (.laload, 1) := by decide +kernel
theorem dX11_isWithin_36 : decode cX11_isWithin 36 = .ok (.aload_n 0, 1) := by decide +kernel
theorem dX11_isWithin_37 : decode cX11_isWithin 37 = .ok (.getfield 7, 3) := by decide +kernel
theorem dX11_isWithin_40 : decode cX11_isWithin 40 = .ok (.bipush 13, 2) := by decide +kernel
theorem dX11_isWithin_42 : decode cX11_isWithin 42 = .ok (.laload, 1) := by decide +kernel
theorem dX11_isWithin_43 : decode cX11_isWithin 43 = .ok (.lsub, 1) := by decide +kernel
theorem dX11_isWithin_44 : decode cX11_isWithin 44 = .ok (.invokestatic 101, 3) := by decide +kernel
theorem dX11_isWithin_47 : decode cX11_isWithin 47 = .ok (.aload_n 0, 1) := by decide +kernel
theorem dX11_isWithin_48 : decode cX11_isWithin 48 = .ok (.getfield 7, 3) := by decide +kernel
theorem dX11_isWithin_51 : decode cX11_isWithin 51 = .ok (.bipush 7, 2) := by decide +kernel
theorem dX11_isWithin_53 : decode cX11_isWithin 53 = .ok (.laload, 1) := by decide +kernel
theorem dX11_isWithin_54 : decode cX11_isWithin 54 = .ok (.lcmp, 1) := by decide +kernel
theorem dX11_isWithin_55 : decode cX11_isWithin 55 = .ok (.ifCond .gt 7, 3) := by decide +kernel
theorem dX11_isWithin_58 : decode cX11_isWithin 58 = .ok (.iconst 1, 1) := by decide +kernel
theorem dX11_isWithin_59 : decode cX11_isWithin 59 = .ok (.goto 4, 3) := by decide +kernel
theorem dX11_isWithin_62 : decode cX11_isWithin 62 = .ok (.iconst 0, 1) := by decide +kernel
theorem dX11_isWithin_63 : decode cX11_isWithin 63 = .ok (.ireturn, 1) := by decide +kernel
def s_X11_isWithin (f_t : Nat → Int32) (f_t_w : Nat → Int64) : Int32 :=
  (if (f_t_w 6) < (s_X11_size ((f_t_w 14) - (f_t_w 12))) then 0 else (if (f_t_w 7) < (s_X11_size ((f_t_w 15) - (f_t_w 13))) then 0 else 1))
set_option maxRecDepth 100000 in
set_option maxHeartbeats 4000000 in
theorem c_X11_isWithin (l : Launch) (D : va_G) (cI cJ cO : ClassId) (h_t : Nat) (h_t_w : Nat) (h_t_saved : Nat) (h_t_trial : Nat) (h_t_text : Nat) (h_t_told : Nat) (f_t : Nat → Int32) (f_t_w : Nat → Int64) : kI l yX11_isWithin cX11_isWithin 1 .boolean 1 21 D (kT cI cJ cO) [.ref h_t] [(h_t, moE f_t h_t_w h_t_saved h_t_trial h_t_text h_t_told), (h_t_w, jA cJ 294 f_t_w)] (s_X11_isWithin f_t f_t_w) [(h_t, moE f_t h_t_w h_t_saved h_t_trial h_t_text h_t_told), (h_t_w, jA cJ 294 f_t_w)] := by
  refine kI_of (own := RX11) (lv := [(0, .ref h_t)]) rfl rfl (by decide) (Nat.le_of_ble_eq_true rfl) ?_
  intro p e s m args below meth c Q A C hret
  refine k_aload_n (pc := 0) C rfl 0 rfl dX11_isWithin_0 ?_
  refine g_X11_0 (pc := 1) C q_998 0 rfl dX11_isWithin_1 ?_
  refine k_bipush (pc := 4) C bipush_14 dX11_isWithin_4 ?_
  refine k_laldK (pc := 6) (v := (f_t_w 14)) C 1 1 rfl rfl (k_vinc 14 cl_14 (by decide) (by decide)) cl_14 rfl dX11_isWithin_6 ?_
  refine k_aload_n (pc := 7) C rfl 0 rfl dX11_isWithin_7 ?_
  refine g_X11_0 (pc := 8) C q_998 0 rfl dX11_isWithin_8 ?_
  refine k_bipush (pc := 11) C bipush_12 dX11_isWithin_11 ?_
  refine k_laldK (pc := 13) (v := (f_t_w 12)) C 1 1 rfl rfl (k_vinc 12 cl_12 (by decide) (by decide)) cl_12 rfl dX11_isWithin_13 ?_
  refine k_lsub (pc := 14) C dX11_isWithin_14 ?_
  refine k_callSl (pc := 15) (As := [.long ((f_t_w 14) - (f_t_w 12))]) (rest := []) (r := (s_X11_size ((f_t_w 14) - (f_t_w 12)))) (wc := []) (wc2 := []) (ws2 := [(h_t, moE f_t h_t_w h_t_saved h_t_trial h_t_text h_t_told), (h_t_w, jA cJ 294 f_t_w)]) C (c_X11_size l D cI cJ cO ((f_t_w 14) - (f_t_w 12))) cws_X11_size q_1129 [] rfl rfl (by decide) rfl rfl (Nat.le_of_ble_eq_true rfl) ⟨Nat.le_of_ble_eq_true rfl, Nat.le_of_ble_eq_true rfl⟩ rfl ⟨Nat.le_refl _, Nat.le_refl _⟩ dX11_isWithin_15 ?_
  refine k_aload_n (pc := 18) C rfl 0 rfl dX11_isWithin_18 ?_
  refine g_X11_0 (pc := 19) C q_998 0 rfl dX11_isWithin_19 ?_
  refine k_bipush (pc := 22) C bipush_6 dX11_isWithin_22 ?_
  refine k_laldK (pc := 24) (v := (f_t_w 6)) C 1 1 rfl rfl (k_vinc 6 cl_6 (by decide) (by decide)) cl_6 rfl dX11_isWithin_24 ?_
  refine k_lcmp_gt (pc := 25) (tgt := 62) C dX11_isWithin_25 dX11_isWithin_26 (by decide) (fun c_1 => ?_) (fun c_1 => ?_)
  · refine k_iconst (pc := 62) C iconst_0 dX11_isWithin_62 ?_
    have hs : (s_X11_isWithin f_t f_t_w) = 0 := (if_pos c_1)
    exact k_finI (pc := 63) hret rfl (by rw [hs]) rfl dX11_isWithin_63
  · refine k_aload_n (pc := 29) C rfl 0 rfl dX11_isWithin_29 ?_
    refine g_X11_0 (pc := 30) C q_998 0 rfl dX11_isWithin_30 ?_
    refine k_bipush (pc := 33) C bipush_15 dX11_isWithin_33 ?_
    refine k_laldK (pc := 35) (v := (f_t_w 15)) C 1 1 rfl rfl (k_vinc 15 cl_15 (by decide) (by decide)) cl_15 rfl dX11_isWithin_35 ?_
    refine k_aload_n (pc := 36) C rfl 0 rfl dX11_isWithin_36 ?_
    refine g_X11_0 (pc := 37) C q_998 0 rfl dX11_isWithin_37 ?_
    refine k_bipush (pc := 40) C bipush_13 dX11_isWithin_40 ?_
    refine k_laldK (pc := 42) (v := (f_t_w 13)) C 1 1 rfl rfl (k_vinc 13 cl_13 (by decide) (by decide)) cl_13 rfl dX11_isWithin_42 ?_
    refine k_lsub (pc := 43) C dX11_isWithin_43 ?_
    refine k_callSl (pc := 44) (As := [.long ((f_t_w 15) - (f_t_w 13))]) (rest := []) (r := (s_X11_size ((f_t_w 15) - (f_t_w 13)))) (wc := []) (wc2 := []) (ws2 := [(h_t, moE f_t h_t_w h_t_saved h_t_trial h_t_text h_t_told), (h_t_w, jA cJ 294 f_t_w)]) C (c_X11_size l D cI cJ cO ((f_t_w 15) - (f_t_w 13))) cws_X11_size q_1129 [] rfl rfl (by decide) rfl rfl (Nat.le_of_ble_eq_true rfl) ⟨Nat.le_of_ble_eq_true rfl, Nat.le_of_ble_eq_true rfl⟩ rfl ⟨Nat.le_refl _, Nat.le_refl _⟩ dX11_isWithin_44 ?_
    refine k_aload_n (pc := 47) C rfl 0 rfl dX11_isWithin_47 ?_
    refine g_X11_0 (pc := 48) C q_998 0 rfl dX11_isWithin_48 ?_
    refine k_bipush (pc := 51) C bipush_7 dX11_isWithin_51 ?_
    refine k_laldK (pc := 53) (v := (f_t_w 7)) C 1 1 rfl rfl (k_vinc 7 cl_7 (by decide) (by decide)) cl_7 rfl dX11_isWithin_53 ?_
    refine k_lcmp_gt (pc := 54) (tgt := 62) C dX11_isWithin_54 dX11_isWithin_55 (by decide) (fun c_2 => ?_) (fun c_2 => ?_)
    · refine k_iconst (pc := 62) C iconst_0 dX11_isWithin_62 ?_
      have hs : (s_X11_isWithin f_t f_t_w) = 0 := ((if_neg c_1).trans (if_pos c_2))
      exact k_finI (pc := 63) hret rfl (by rw [hs]) rfl dX11_isWithin_63
    · refine k_iconst (pc := 58) C iconst_1 dX11_isWithin_58 ?_
      refine k_goto (pc := 59) (tgt := 63) C (by decide) dX11_isWithin_59 ?_
      have hs : (s_X11_isWithin f_t f_t_w) = 1 := ((if_neg c_1).trans (if_neg c_2))
      exact k_finI (pc := 63) hret rfl (by rw [hs]) rfl dX11_isWithin_63
theorem b_X11_isWithin (f_t : Nat → Int32) (f_t_w : Nat → Int64) : kb (s_X11_isWithin f_t f_t_w) := by
  unfold s_X11_isWithin
  repeat' first | with_reducible exact kb0 | with_reducible exact kb1 | with_reducible refine k_bif ?_ ?_ | with_reducible refine k_bif0 ?_ ?_

theorem dX11_isSegment_0 : decode cX11_isSegment 0 = .ok (.iload_n 0, 1) := by decide +kernel
theorem dX11_isSegment_1 : decode cX11_isSegment 1 = .ok (.invokestatic 86, 3) := by decide +kernel
theorem dX11_isSegment_4 : decode cX11_isSegment 4 = .ok (.ifCond .eq 44, 3) := by decide +kernel
theorem dX11_isSegment_7 : decode cX11_isSegment 7 = .ok (.iload_n 1, 1) := by decide +kernel
theorem dX11_isSegment_8 : decode cX11_isSegment 8 = .ok (.invokestatic 90, 3) := by decide +kernel
theorem dX11_isSegment_11 : decode cX11_isSegment 11 = .ok (.ifCond .eq 37, 3) := by decide +kernel
theorem dX11_isSegment_14 : decode cX11_isSegment 14 = .ok (.iload_n 2, 1) := by decide +kernel
theorem dX11_isSegment_15 : decode cX11_isSegment 15 = .ok (.i2l, 1) := by decide +kernel
theorem dX11_isSegment_16 : decode cX11_isSegment 16 = .ok (.lconst 0, 1) := by decide +kernel
theorem dX11_isSegment_17 : decode cX11_isSegment 17 = .ok (.ldc2_w 158, 3) := by decide +kernel
theorem dX11_isSegment_20 : decode cX11_isSegment 20 = .ok (.invokestatic 63, 3) := by decide +kernel
theorem dX11_isSegment_23 : decode cX11_isSegment 23 = .ok (.ifCond .eq 25, 3) := by decide +kernel
theorem dX11_isSegment_26 : decode cX11_isSegment 26 = .ok (.iload_n 3, 1) := by decide +kernel
theorem dX11_isSegment_27 : decode cX11_isSegment 27 = .ok (.i2l, 1) := by decide +kernel
theorem dX11_isSegment_28 : decode cX11_isSegment 28 = .ok (.lconst 0, 1) := by decide +kernel
theorem dX11_isSegment_29 : decode cX11_isSegment 29 = .ok (.ldc2_w 158, 3) := by decide +kernel
theorem dX11_isSegment_32 : decode cX11_isSegment 32 = .ok (.invokestatic 63, 3) := by decide +kernel
theorem dX11_isSegment_35 : decode cX11_isSegment 35 = .ok (.ifCond .eq 13, 3) := by decide +kernel
theorem dX11_isSegment_38 : decode cX11_isSegment 38 = .ok (.iload_n 2, 1) := by decide +kernel
theorem dX11_isSegment_39 : decode cX11_isSegment 39 = .ok (.iload_n 3, 1) := by decide +kernel
theorem dX11_isSegment_40 : decode cX11_isSegment 40 = .ok (.iadd, 1) := by decide +kernel
theorem dX11_isSegment_41 : decode cX11_isSegment 41 = .ok (.ifCond .le 7, 3) := by decide +kernel
theorem dX11_isSegment_44 : decode cX11_isSegment 44 = .ok (.iconst 1, 1) := by decide +kernel
theorem dX11_isSegment_45 : decode cX11_isSegment 45 = .ok (.goto 4, 3) := by decide +kernel
theorem dX11_isSegment_48 : decode cX11_isSegment 48 = .ok (.iconst 0, 1) := by decide +kernel
theorem dX11_isSegment_49 : decode cX11_isSegment 49 = .ok (.ireturn, 1) := by decide +kernel
def s_X11_isSegment (p0 : Int32) (p1 : Int32) (p2 : Int32) (p3 : Int32) : Int32 :=
  (if (s_X11_isTemperature p0) = 0 then 0 else (if (s_X11_isHumidity p1) = 0 then 0 else (if (s_X11_in (Int32.toInt64 p2) 0 500) = 0 then 0 else (if (s_X11_in (Int32.toInt64 p3) 0 500) = 0 then 0 else (if (p2 + p3) ≤ 0 then 0 else 1)))))
set_option maxRecDepth 100000 in
set_option maxHeartbeats 4000000 in
theorem c_X11_isSegment (l : Launch) (D : va_G) (cI cJ cO : ClassId) (p0 : Int32) (p1 : Int32) (p2 : Int32) (p3 : Int32) : kI l yX11_isSegment cX11_isSegment 4 .boolean 2 45 D (kT cI cJ cO) [.int p0, .int p1, .int p2, .int p3] [] (s_X11_isSegment p0 p1 p2 p3) [] := by
  refine kI_of (own := RX11) (lv := [(0, .int p0), (1, .int p1), (2, .int p2), (3, .int p3)]) rfl rfl (by decide) (Nat.le_of_ble_eq_true rfl) ?_
  intro p e s m args below meth c Q A C hret
  refine k_iload_n (pc := 0) C rfl 0 rfl dX11_isSegment_0 ?_
  refine k_callSi (pc := 1) (As := [.int p0]) (rest := []) (r := (s_X11_isTemperature p0)) (wc := []) (wc2 := []) (ws2 := []) C (c_X11_isTemperature l D cI cJ cO p0) cws_X11_isTemperature q_1077 [] rfl rfl (by decide) rfl rfl (Nat.le_of_ble_eq_true rfl) ⟨Nat.le_of_ble_eq_true rfl, Nat.le_of_ble_eq_true rfl⟩ rfl ⟨Nat.le_refl _, Nat.le_refl _⟩ dX11_isSegment_1 ?_
  refine k_if_eq (pc := 4) (tgt := 48) C dX11_isSegment_4 (by decide) (fun c_1 => ?_) (fun c_1 => ?_)
  · refine k_iconst (pc := 48) C iconst_0 dX11_isSegment_48 ?_
    have hs : (s_X11_isSegment p0 p1 p2 p3) = 0 := (if_pos c_1)
    exact k_finI (pc := 49) hret rfl (by rw [hs]) rfl dX11_isSegment_49
  · refine k_iload_n (pc := 7) C rfl 1 rfl dX11_isSegment_7 ?_
    refine k_callSi (pc := 8) (As := [.int p1]) (rest := []) (r := (s_X11_isHumidity p1)) (wc := []) (wc2 := []) (ws2 := []) C (c_X11_isHumidity l D cI cJ cO p1) cws_X11_isHumidity q_1082 [] rfl rfl (by decide) rfl rfl (Nat.le_of_ble_eq_true rfl) ⟨Nat.le_of_ble_eq_true rfl, Nat.le_of_ble_eq_true rfl⟩ rfl ⟨Nat.le_refl _, Nat.le_refl _⟩ dX11_isSegment_8 ?_
    refine k_if_eq (pc := 11) (tgt := 48) C dX11_isSegment_11 (by decide) (fun c_2 => ?_) (fun c_2 => ?_)
    · refine k_iconst (pc := 48) C iconst_0 dX11_isSegment_48 ?_
      have hs : (s_X11_isSegment p0 p1 p2 p3) = 0 := ((if_neg c_1).trans (if_pos c_2))
      exact k_finI (pc := 49) hret rfl (by rw [hs]) rfl dX11_isSegment_49
    · refine k_iload_n (pc := 14) C rfl 2 rfl dX11_isSegment_14 ?_
      refine k_i2l (pc := 15) C dX11_isSegment_15 ?_
      refine k_lconst (pc := 16) C lconst_0 dX11_isSegment_16 ?_
      refine k_ldc2 (pc := 17) C q_1103 dX11_isSegment_17 ?_
      refine k_callSi (pc := 20) (As := [.long (Int32.toInt64 p2), .long 0, .long 500]) (rest := []) (r := (s_X11_in (Int32.toInt64 p2) 0 500)) (wc := []) (wc2 := []) (ws2 := []) C (c_X11_in l D cI cJ cO (Int32.toInt64 p2) 0 500) cws_X11_in q_1051 [] rfl rfl (by decide) rfl rfl (Nat.le_of_ble_eq_true rfl) ⟨Nat.le_of_ble_eq_true rfl, Nat.le_of_ble_eq_true rfl⟩ rfl ⟨Nat.le_refl _, Nat.le_refl _⟩ dX11_isSegment_20 ?_
      refine k_if_eq (pc := 23) (tgt := 48) C dX11_isSegment_23 (by decide) (fun c_3 => ?_) (fun c_3 => ?_)
      · refine k_iconst (pc := 48) C iconst_0 dX11_isSegment_48 ?_
        have hs : (s_X11_isSegment p0 p1 p2 p3) = 0 := ((if_neg c_1).trans ((if_neg c_2).trans (if_pos c_3)))
        exact k_finI (pc := 49) hret rfl (by rw [hs]) rfl dX11_isSegment_49
      · refine k_iload_n (pc := 26) C rfl 3 rfl dX11_isSegment_26 ?_
        refine k_i2l (pc := 27) C dX11_isSegment_27 ?_
        refine k_lconst (pc := 28) C lconst_0 dX11_isSegment_28 ?_
        refine k_ldc2 (pc := 29) C q_1103 dX11_isSegment_29 ?_
        refine k_callSi (pc := 32) (As := [.long (Int32.toInt64 p3), .long 0, .long 500]) (rest := []) (r := (s_X11_in (Int32.toInt64 p3) 0 500)) (wc := []) (wc2 := []) (ws2 := []) C (c_X11_in l D cI cJ cO (Int32.toInt64 p3) 0 500) cws_X11_in q_1051 [] rfl rfl (by decide) rfl rfl (Nat.le_of_ble_eq_true rfl) ⟨Nat.le_of_ble_eq_true rfl, Nat.le_of_ble_eq_true rfl⟩ rfl ⟨Nat.le_refl _, Nat.le_refl _⟩ dX11_isSegment_32 ?_
        refine k_if_eq (pc := 35) (tgt := 48) C dX11_isSegment_35 (by decide) (fun c_4 => ?_) (fun c_4 => ?_)
        · refine k_iconst (pc := 48) C iconst_0 dX11_isSegment_48 ?_
          have hs : (s_X11_isSegment p0 p1 p2 p3) = 0 := ((if_neg c_1).trans ((if_neg c_2).trans ((if_neg c_3).trans (if_pos c_4))))
          exact k_finI (pc := 49) hret rfl (by rw [hs]) rfl dX11_isSegment_49
        · refine k_iload_n (pc := 38) C rfl 2 rfl dX11_isSegment_38 ?_
          refine k_iload_n (pc := 39) C rfl 3 rfl dX11_isSegment_39 ?_
          refine k_iadd (pc := 40) C dX11_isSegment_40 ?_
          refine k_if_le (pc := 41) (tgt := 48) C dX11_isSegment_41 (by decide) (fun c_5 => ?_) (fun c_5 => ?_)
          · refine k_iconst (pc := 48) C iconst_0 dX11_isSegment_48 ?_
            have hs : (s_X11_isSegment p0 p1 p2 p3) = 0 := ((if_neg c_1).trans ((if_neg c_2).trans ((if_neg c_3).trans ((if_neg c_4).trans (if_pos c_5)))))
            exact k_finI (pc := 49) hret rfl (by rw [hs]) rfl dX11_isSegment_49
          · refine k_iconst (pc := 44) C iconst_1 dX11_isSegment_44 ?_
            refine k_goto (pc := 45) (tgt := 49) C (by decide) dX11_isSegment_45 ?_
            have hs : (s_X11_isSegment p0 p1 p2 p3) = 1 := ((if_neg c_1).trans ((if_neg c_2).trans ((if_neg c_3).trans ((if_neg c_4).trans (if_neg c_5)))))
            exact k_finI (pc := 49) hret rfl (by rw [hs]) rfl dX11_isSegment_49
theorem b_X11_isSegment (p0 : Int32) (p1 : Int32) (p2 : Int32) (p3 : Int32) : kb (s_X11_isSegment p0 p1 p2 p3) := by
  unfold s_X11_isSegment
  repeat' first | with_reducible exact kb0 | with_reducible exact kb1 | with_reducible exact b_X11_in .. | with_reducible exact b_X11_isHumidity .. | with_reducible exact b_X11_isTemperature .. | with_reducible refine k_bif ?_ ?_ | with_reducible refine k_bif0 ?_ ?_

theorem dX11_demand_0 : decode cX11_demand 0 = .ok (.aload_n 0, 1) := by decide +kernel
theorem dX11_demand_1 : decode cX11_demand 1 = .ok (.getfield 7, 3) := by decide +kernel
theorem dX11_demand_4 : decode cX11_demand 4 = .ok (.bipush 19, 2) := by decide +kernel
theorem dX11_demand_6 : decode cX11_demand 6 = .ok (.iload_n 1, 1) := by decide +kernel
theorem dX11_demand_7 : decode cX11_demand 7 = .ok (.iadd, 1) := by decide +kernel
theorem dX11_demand_8 : decode cX11_demand 8 = .ok (.laload, 1) := by decide +kernel
theorem dX11_demand_9 : decode cX11_demand 9 = .ok (.lload_n 2, 1) := by decide +kernel
theorem dX11_demand_10 : decode cX11_demand 10 = .ok (.lmul, 1) := by decide +kernel
theorem dX11_demand_11 : decode cX11_demand 11 = .ok (.ldc2_w 80, 3) := by decide +kernel
theorem dX11_demand_14 : decode cX11_demand 14 = .ok (.ldiv, 1) := by decide +kernel
theorem dX11_demand_15 : decode cX11_demand 15 = .ok (.lstore 4, 2) := by decide +kernel
theorem dX11_demand_17 : decode cX11_demand 17 = .ok (.aload_n 0, 1) := by decide +kernel
theorem dX11_demand_18 : decode cX11_demand 18 = .ok (.getfield 7, 3) := by decide +kernel
theorem dX11_demand_21 : decode cX11_demand 21 = .ok (.bipush 17, 2) := by decide +kernel
theorem dX11_demand_23 : decode cX11_demand 23 = .ok (.iload_n 1, 1) := by decide +kernel
theorem dX11_demand_24 : decode cX11_demand 24 = .ok (.iadd, 1) := by decide +kernel
theorem dX11_demand_25 : decode cX11_demand 25 = .ok (.laload, 1) := by decide +kernel
theorem dX11_demand_26 : decode cX11_demand 26 = .ok (.lconst 0, 1) := by decide +kernel
theorem dX11_demand_27 : decode cX11_demand 27 = .ok (.lcmp, 1) := by decide +kernel
theorem dX11_demand_28 : decode cX11_demand 28 = .ok (.ifCond .ne 30, 3) := by decide +kernel
theorem dX11_demand_31 : decode cX11_demand 31 = .ok (.lload_n 2, 1) := by decide +kernel
theorem dX11_demand_32 : decode cX11_demand 32 = .ok (.invokestatic 101, 3) := by decide +kernel
theorem dX11_demand_35 : decode cX11_demand 35 = .ok (.aload_n 0, 1) := by decide +kernel
theorem dX11_demand_36 : decode cX11_demand 36 = .ok (.getfield 7, 3) := by decide +kernel
theorem dX11_demand_39 : decode cX11_demand 39 = .ok (.bipush 21, 2) := by decide +kernel
theorem dX11_demand_41 : decode cX11_demand 41 = .ok (.iload_n 1, 1) := by decide +kernel
theorem dX11_demand_42 : decode cX11_demand 42 = .ok (.iadd, 1) := by decide +kernel
theorem dX11_demand_43 : decode cX11_demand 43 = .ok (.laload, 1) := by decide +kernel
theorem dX11_demand_44 : decode cX11_demand 44 = .ok (.lcmp, 1) := by decide +kernel
theorem dX11_demand_45 : decode cX11_demand 45 = .ok (.ifCond .le 7, 3) := by decide +kernel
theorem dX11_demand_48 : decode cX11_demand 48 = .ok (.lload_n 2, 1) := by decide +kernel
theorem dX11_demand_49 : decode cX11_demand 49 = .ok (.goto 4, 3) := by decide +kernel
theorem dX11_demand_52 : decode cX11_demand 52 = .ok (.lconst 0, 1) := by decide +kernel
theorem dX11_demand_53 : decode cX11_demand 53 = .ok (.lstore 4, 2) := by decide +kernel
theorem dX11_demand_55 : decode cX11_demand 55 = .ok (.goto 63, 3) := by decide +kernel
theorem dX11_demand_58 : decode cX11_demand 58 = .ok (.aload_n 0, 1) := by decide +kernel
theorem dX11_demand_59 : decode cX11_demand 59 = .ok (.getfield 7, 3) := by decide +kernel
theorem dX11_demand_62 : decode cX11_demand 62 = .ok (.bipush 17, 2) := by decide +kernel
theorem dX11_demand_64 : decode cX11_demand 64 = .ok (.iload_n 1, 1) := by decide +kernel
theorem dX11_demand_65 : decode cX11_demand 65 = .ok (.iadd, 1) := by decide +kernel
theorem dX11_demand_66 : decode cX11_demand 66 = .ok (.laload, 1) := by decide +kernel
theorem dX11_demand_67 : decode cX11_demand 67 = .ok (.ldc2_w 32, 3) := by decide +kernel
theorem dX11_demand_70 : decode cX11_demand 70 = .ok (.lcmp, 1) := by decide +kernel
theorem dX11_demand_71 : decode cX11_demand 71 = .ok (.ifCond .ne 47, 3) := by decide +kernel
theorem dX11_demand_74 : decode cX11_demand 74 = .ok (.lload_n 2, 1) := by decide +kernel
theorem dX11_demand_75 : decode cX11_demand 75 = .ok (.aload_n 0, 1) := by decide +kernel
theorem dX11_demand_76 : decode cX11_demand 76 = .ok (.getfield 7, 3) := by decide +kernel
theorem dX11_demand_79 : decode cX11_demand 79 = .ok (.bipush 21, 2) := by decide +kernel
theorem dX11_demand_81 : decode cX11_demand 81 = .ok (.iload_n 1, 1) := by decide +kernel
theorem dX11_demand_82 : decode cX11_demand 82 = .ok (.iadd, 1) := by decide +kernel
theorem dX11_demand_83 : decode cX11_demand 83 = .ok (.laload, 1) := by decide +kernel
theorem dX11_demand_84 : decode cX11_demand 84 = .ok (.lcmp, 1) := by decide +kernel
theorem dX11_demand_85 : decode cX11_demand 85 = .ok (.ifCond .le 9, 3) := by decide +kernel
theorem dX11_demand_88 : decode cX11_demand 88 = .ok (.ldc2_w 46, 3) := by decide +kernel
theorem dX11_demand_91 : decode cX11_demand 91 = .ok (.goto 25, 3) := by decide +kernel
theorem dX11_demand_94 : decode cX11_demand 94 = .ok (.lload_n 2, 1) := by decide +kernel
theorem dX11_demand_95 : decode cX11_demand 95 = .ok (.aload_n 0, 1) := by decide +kernel
theorem dX11_demand_96 : decode cX11_demand 96 = .ok (.getfield 7, 3) := by decide +kernel
theorem dX11_demand_99 : decode cX11_demand 99 = .ok (.bipush 21, 2) := by decide +kernel
theorem dX11_demand_101 : decode cX11_demand 101 = .ok (.iload_n 1, 1) := by decide +kernel
theorem dX11_demand_102 : decode cX11_demand 102 = .ok (.iadd, 1) := by decide +kernel
theorem dX11_demand_103 : decode cX11_demand 103 = .ok (.laload, 1) := by decide +kernel
theorem dX11_demand_104 : decode cX11_demand 104 = .ok (.lneg, 1) := by decide +kernel
theorem dX11_demand_105 : decode cX11_demand 105 = .ok (.lcmp, 1) := by decide +kernel
theorem dX11_demand_106 : decode cX11_demand 106 = .ok (.ifCond .ge 9, 3) := by decide +kernel
theorem dX11_demand_109 : decode cX11_demand 109 = .ok (.ldc2_w 105, 3) := by decide +kernel
theorem dX11_demand_112 : decode cX11_demand 112 = .ok (.goto 4, 3) := by decide +kernel
theorem dX11_demand_115 : decode cX11_demand 115 = .ok (.lconst 0, 1) := by decide +kernel
theorem dX11_demand_116 : decode cX11_demand 116 = .ok (.lstore 4, 2) := by decide +kernel
theorem dX11_demand_118 : decode cX11_demand 118 = .ok (.lload 4, 2) := by decide +kernel
theorem dX11_demand_120 : decode cX11_demand 120 = .ok (.aload_n 0, 1) := by decide +kernel
theorem dX11_demand_121 : decode cX11_demand 121 = .ok (.getfield 7, 3) := by decide +kernel
theorem dX11_demand_124 : decode cX11_demand 124 = .ok (.iconst 0, 1) := by decide +kernel
theorem dX11_demand_125 : decode cX11_demand 125 = .ok (.iconst 2, 1) := by decide +kernel
theorem dX11_demand_126 : decode cX11_demand 126 = .ok (.iload_n 1, 1) := by decide +kernel
theorem dX11_demand_127 : decode cX11_demand 127 = .ok (.imul, 1) := by decide +kernel
theorem dX11_demand_128 : decode cX11_demand 128 = .ok (.iadd, 1) := by decide +kernel
theorem dX11_demand_129 : decode cX11_demand 129 = .ok (.iconst 1, 1) := by decide +kernel
theorem dX11_demand_130 : decode cX11_demand 130 = .ok (.iadd, 1) := by decide +kernel
theorem dX11_demand_131 : decode cX11_demand 131 = .ok (.laload, 1) := by decide +kernel
theorem dX11_demand_132 : decode cX11_demand 132 = .ok (.lneg, 1) := by decide +kernel
theorem dX11_demand_133 : decode cX11_demand 133 = .ok (.aload_n 0, 1) := by decide +kernel
theorem dX11_demand_134 : decode cX11_demand 134 = .ok (.getfield 7, 3) := by decide +kernel
theorem dX11_demand_137 : decode cX11_demand 137 = .ok (.iconst 0, 1) := by decide +kernel
theorem dX11_demand_138 : decode cX11_demand 138 = .ok (.iconst 2, 1) := by decide +kernel
theorem dX11_demand_139 : decode cX11_demand 139 = .ok (.iload_n 1, 1) := by decide +kernel
theorem dX11_demand_140 : decode cX11_demand 140 = .ok (.imul, 1) := by decide +kernel
theorem dX11_demand_141 : decode cX11_demand 141 = .ok (.iadd, 1) := by decide +kernel
theorem dX11_demand_142 : decode cX11_demand 142 = .ok (.laload, 1) := by decide +kernel
theorem dX11_demand_143 : decode cX11_demand 143 = .ok (.invokestatic 107, 3) := by decide +kernel
theorem dX11_demand_146 : decode cX11_demand 146 = .ok (.lreturn, 1) := by decide +kernel
def j_X11_demand_p0_0_1 (x_7 : Int64) : Int64 :=
  x_7
def j_X11_demand_p0_0_2 (x_5 : Int64) : Int64 :=
  x_5
def j_X11_demand_p0_0_3 (f_t_w : Nat → Int64) (p1 : Int64) : Int64 :=
  (if (f_t_w 17) = 0 then (j_X11_demand_p0_0_1 (if (s_X11_size p1) ≤ (f_t_w 21) then 0 else p1)) else (if (f_t_w 17) = 2 then (j_X11_demand_p0_0_2 (if p1 ≤ (f_t_w 21) then (if (-(f_t_w 21)) ≤ p1 then 0 else (-1000)) else 1000)) else (((f_t_w 19) * p1) / 100)))
def s_X11_demand_p0_0_4 (f_t_w : Nat → Int64) (x_8 : Int64) : Int64 :=
  (s_X11_within x_8 (-(f_t_w 1)) (f_t_w 0))
def s_X11_demand_p0_0 (f_t : Nat → Int32) (f_t_w : Nat → Int64) (p1 : Int64) : Int64 :=
  (s_X11_demand_p0_0_4 f_t_w (j_X11_demand_p0_0_3 f_t_w p1))
set_option maxRecDepth 100000 in
set_option maxHeartbeats 4000000 in
theorem c_X11_demand_p0_0 (l : Launch) (D : va_G) (cI cJ cO : ClassId) (h_t : Nat) (h_t_w : Nat) (h_t_saved : Nat) (h_t_trial : Nat) (h_t_text : Nat) (h_t_told : Nat) (f_t : Nat → Int32) (f_t_w : Nat → Int64) (p1 : Int64) : kL l yX11_demand cX11_demand 6 .long 1 25 D (kT cI cJ cO) [.ref h_t, .int 0, .long p1] [(h_t, moE f_t h_t_w h_t_saved h_t_trial h_t_text h_t_told), (h_t_w, jA cJ 294 f_t_w)] (s_X11_demand_p0_0 f_t f_t_w p1) [(h_t, moE f_t h_t_w h_t_saved h_t_trial h_t_text h_t_told), (h_t_w, jA cJ 294 f_t_w)] := by
  refine kL_of (own := RX11) (lv := [(0, .ref h_t), (1, .int 0), (2, .long p1)]) rfl rfl (by decide) (Nat.le_of_ble_eq_true rfl) ?_
  intro p e s m args below meth c Q A C hret
  refine k_aload_n (pc := 0) C rfl 0 rfl dX11_demand_0 ?_
  refine g_X11_0 (pc := 1) C q_998 0 rfl dX11_demand_1 ?_
  refine k_bipush (pc := 4) C bipush_19 dX11_demand_4 ?_
  refine k_iload_n (pc := 6) C rfl 1 rfl dX11_demand_6 ?_
  refine k_iadd (pc := 7) C dX11_demand_7 ?_
  refine k_topI (pc := 8) (v := 19) (by decide) ?_
  refine k_laldK (pc := 8) (v := (f_t_w 19)) C 1 1 rfl rfl (k_vinc 19 cl_19 (by decide) (by decide)) cl_19 rfl dX11_demand_8 ?_
  refine k_lload_n (pc := 9) C rfl 2 rfl dX11_demand_9 ?_
  refine k_lmul (pc := 10) C dX11_demand_10 ?_
  refine k_ldc2 (pc := 11) C q_1072 dX11_demand_11 ?_
  refine k_ldiv (pc := 14) C (by decide) dX11_demand_14 ?_
  refine k_lstore (pc := 15) (lv2 := [(4, .long (((f_t_w 19) * p1) / 100)), (0, .ref h_t), (1, .int 0), (2, .long p1)]) C (by decide) rfl dX11_demand_15 ?_
  refine k_aload_n (pc := 17) C rfl 1 rfl dX11_demand_17 ?_
  refine g_X11_0 (pc := 18) C q_998 0 rfl dX11_demand_18 ?_
  refine k_bipush (pc := 21) C bipush_17 dX11_demand_21 ?_
  refine k_iload_n (pc := 23) C rfl 2 rfl dX11_demand_23 ?_
  refine k_iadd (pc := 24) C dX11_demand_24 ?_
  refine k_topI (pc := 25) (v := 17) (by decide) ?_
  refine k_laldK (pc := 25) (v := (f_t_w 17)) C 1 1 rfl rfl (k_vinc 17 cl_17 (by decide) (by decide)) cl_17 rfl dX11_demand_25 ?_
  refine k_lconst (pc := 26) C lconst_0 dX11_demand_26 ?_
  have K_9 : ∀ (x_8 : Int64), x_8 = (j_X11_demand_p0_0_3 f_t_w p1) → KJ p l e (kR 1 25) s m args below meth c 0 0 Q D A 6 [(h_t, moE f_t h_t_w h_t_saved h_t_trial h_t_text h_t_told), (h_t_w, jA cJ 294 f_t_w)] [(4, .long x_8), (0, .ref h_t), (1, .int 0)] [] 118 := by
    intro x_8 ex_8
    refine k_lload (pc := 118) C 0 rfl dX11_demand_118 ?_
    refine k_aload_n (pc := 120) C rfl 1 rfl dX11_demand_120 ?_
    refine g_X11_0 (pc := 121) C q_998 0 rfl dX11_demand_121 ?_
    refine k_iconst (pc := 124) C iconst_0 dX11_demand_124 ?_
    refine k_iconst (pc := 125) C iconst_2 dX11_demand_125 ?_
    refine k_iload_n (pc := 126) C rfl 2 rfl dX11_demand_126 ?_
    refine k_imul (pc := 127) C dX11_demand_127 ?_
    refine k_topI (pc := 128) (v := 0) (by decide) ?_
    refine k_iadd (pc := 128) C dX11_demand_128 ?_
    refine k_topI (pc := 129) (v := 0) (by decide) ?_
    refine k_iconst (pc := 129) C iconst_1 dX11_demand_129 ?_
    refine k_iadd (pc := 130) C dX11_demand_130 ?_
    refine k_topI (pc := 131) (v := 1) (by decide) ?_
    refine k_laldK (pc := 131) (v := (f_t_w 1)) C 1 1 rfl rfl (k_vinc 1 cl_1 (by decide) (by decide)) cl_1 rfl dX11_demand_131 ?_
    refine k_lneg (pc := 132) C dX11_demand_132 ?_
    refine k_aload_n (pc := 133) C rfl 1 rfl dX11_demand_133 ?_
    refine g_X11_0 (pc := 134) C q_998 0 rfl dX11_demand_134 ?_
    refine k_iconst (pc := 137) C iconst_0 dX11_demand_137 ?_
    refine k_iconst (pc := 138) C iconst_2 dX11_demand_138 ?_
    refine k_iload_n (pc := 139) C rfl 2 rfl dX11_demand_139 ?_
    refine k_imul (pc := 140) C dX11_demand_140 ?_
    refine k_topI (pc := 141) (v := 0) (by decide) ?_
    refine k_iadd (pc := 141) C dX11_demand_141 ?_
    refine k_topI (pc := 142) (v := 0) (by decide) ?_
    refine k_laldK (pc := 142) (v := (f_t_w 0)) C 1 1 rfl rfl (k_vinc 0 cl_0 (by decide) (by decide)) cl_0 rfl dX11_demand_142 ?_
    refine k_callSl (pc := 143) (As := [.long x_8, .long (-(f_t_w 1)), .long (f_t_w 0)]) (rest := []) (r := (s_X11_within x_8 (-(f_t_w 1)) (f_t_w 0))) (wc := []) (wc2 := []) (ws2 := [(h_t, moE f_t h_t_w h_t_saved h_t_trial h_t_text h_t_told), (h_t_w, jA cJ 294 f_t_w)]) C (c_X11_within l D cI cJ cO x_8 (-(f_t_w 1)) (f_t_w 0)) cws_X11_within q_1133 [] rfl rfl (by decide) rfl rfl (Nat.le_of_ble_eq_true rfl) ⟨Nat.le_of_ble_eq_true rfl, Nat.le_of_ble_eq_true rfl⟩ rfl ⟨Nat.le_refl _, Nat.le_refl _⟩ dX11_demand_143 ?_
    have hs : (s_X11_demand_p0_0 f_t f_t_w p1) = (s_X11_within x_8 (-(f_t_w 1)) (f_t_w 0)) := (k_st (g := s_X11_demand_p0_0_4 f_t_w) ex_8 rfl rfl)
    exact k_finL (pc := 146) hret (by rw [hs]) rfl dX11_demand_146
  refine k_lcmp_ne (pc := 27) (tgt := 58) C dX11_demand_27 dX11_demand_28 (by decide) (fun c_1 => ?_) (fun c_1 => ?_)
  · refine k_aload_n (pc := 58) C rfl 1 rfl dX11_demand_58 ?_
    refine g_X11_0 (pc := 59) C q_998 0 rfl dX11_demand_59 ?_
    refine k_bipush (pc := 62) C bipush_17 dX11_demand_62 ?_
    refine k_iload_n (pc := 64) C rfl 2 rfl dX11_demand_64 ?_
    refine k_iadd (pc := 65) C dX11_demand_65 ?_
    refine k_topI (pc := 66) (v := 17) (by decide) ?_
    refine k_laldK (pc := 66) (v := (f_t_w 17)) C 1 1 rfl rfl (k_vinc 17 cl_17 (by decide) (by decide)) cl_17 rfl dX11_demand_66 ?_
    refine k_ldc2 (pc := 67) C q_989 dX11_demand_67 ?_
    refine k_lcmp_ne (pc := 70) (tgt := 118) C dX11_demand_70 dX11_demand_71 (by decide) (fun c_2 => ?_) (fun c_2 => ?_)
    · refine k_lpick (lv2 := [(4, .long (((f_t_w 19) * p1) / 100)), (0, .ref h_t), (1, .int 0)]) [0, 1, 2] rfl ?_
      exact K_9 (((f_t_w 19) * p1) / 100) (Eq.symm ((if_neg c_1).trans (if_neg c_2)))
    · refine k_lload_n (pc := 74) C rfl 3 rfl dX11_demand_74 ?_
      refine k_aload_n (pc := 75) C rfl 1 rfl dX11_demand_75 ?_
      refine g_X11_0 (pc := 76) C q_998 0 rfl dX11_demand_76 ?_
      refine k_bipush (pc := 79) C bipush_21 dX11_demand_79 ?_
      refine k_iload_n (pc := 81) C rfl 2 rfl dX11_demand_81 ?_
      refine k_iadd (pc := 82) C dX11_demand_82 ?_
      refine k_topI (pc := 83) (v := 21) (by decide) ?_
      refine k_laldK (pc := 83) (v := (f_t_w 21)) C 1 1 rfl rfl (k_vinc 21 cl_21 (by decide) (by decide)) cl_21 rfl dX11_demand_83 ?_
      have K_10 : ∀ (x_5 : Int64), x_5 = (if p1 ≤ (f_t_w 21) then (if (-(f_t_w 21)) ≤ p1 then 0 else (-1000)) else 1000) → KJ p l e (kR 1 25) s m args below meth c 0 0 Q D A 6 [(h_t, moE f_t h_t_w h_t_saved h_t_trial h_t_text h_t_told), (h_t_w, jA cJ 294 f_t_w)] [(0, .ref h_t), (1, .int 0)] [.long x_5] 116 := by
        intro x_5 ex_5
        refine k_lstore (pc := 116) (lv2 := [(4, .long x_5), (0, .ref h_t), (1, .int 0)]) C (by decide) rfl dX11_demand_116 ?_
        exact K_9 x_5 (Eq.symm (k_st (g := j_X11_demand_p0_0_2) ex_5 ((if_neg c_1).trans (if_pos c_2)) rfl))
      refine k_lcmp_le (pc := 84) (tgt := 94) C dX11_demand_84 dX11_demand_85 (by decide) (fun c_3 => ?_) (fun c_3 => ?_)
      · refine k_lload_n (pc := 94) C rfl 3 rfl dX11_demand_94 ?_
        refine k_aload_n (pc := 95) C rfl 1 rfl dX11_demand_95 ?_
        refine g_X11_0 (pc := 96) C q_998 0 rfl dX11_demand_96 ?_
        refine k_bipush (pc := 99) C bipush_21 dX11_demand_99 ?_
        refine k_iload_n (pc := 101) C rfl 2 rfl dX11_demand_101 ?_
        refine k_iadd (pc := 102) C dX11_demand_102 ?_
        refine k_topI (pc := 103) (v := 21) (by decide) ?_
        refine k_laldK (pc := 103) (v := (f_t_w 21)) C 1 1 rfl rfl (k_vinc 21 cl_21 (by decide) (by decide)) cl_21 rfl dX11_demand_103 ?_
        refine k_lneg (pc := 104) C dX11_demand_104 ?_
        refine k_lcmp_ge (pc := 105) (tgt := 115) C dX11_demand_105 dX11_demand_106 (by decide) (fun c_4 => ?_) (fun c_4 => ?_)
        · refine k_lconst (pc := 115) C lconst_0 dX11_demand_115 ?_
          refine k_lpick (lv2 := [(0, .ref h_t), (1, .int 0)]) [1, 2] rfl ?_
          exact K_10 0 (Eq.symm ((if_pos c_3).trans (if_pos c_4)))
        · refine k_ldc2 (pc := 109) C q_1132 dX11_demand_109 ?_
          refine k_goto (pc := 112) (tgt := 116) C (by decide) dX11_demand_112 ?_
          refine k_lpick (lv2 := [(0, .ref h_t), (1, .int 0)]) [1, 2] rfl ?_
          exact K_10 (-1000) (Eq.symm ((if_pos c_3).trans (if_neg c_4)))
      · refine k_ldc2 (pc := 88) C q_996 dX11_demand_88 ?_
        refine k_goto (pc := 91) (tgt := 116) C (by decide) dX11_demand_91 ?_
        refine k_lpick (lv2 := [(0, .ref h_t), (1, .int 0)]) [1, 2] rfl ?_
        exact K_10 1000 (Eq.symm (if_neg c_3))
  · refine k_lload_n (pc := 31) C rfl 3 rfl dX11_demand_31 ?_
    refine k_callSl (pc := 32) (As := [.long p1]) (rest := []) (r := (s_X11_size p1)) (wc := []) (wc2 := []) (ws2 := [(h_t, moE f_t h_t_w h_t_saved h_t_trial h_t_text h_t_told), (h_t_w, jA cJ 294 f_t_w)]) C (c_X11_size l D cI cJ cO p1) cws_X11_size q_1129 [] rfl rfl (by decide) rfl rfl (Nat.le_of_ble_eq_true rfl) ⟨Nat.le_of_ble_eq_true rfl, Nat.le_of_ble_eq_true rfl⟩ rfl ⟨Nat.le_refl _, Nat.le_refl _⟩ dX11_demand_32 ?_
    refine k_aload_n (pc := 35) C rfl 1 rfl dX11_demand_35 ?_
    refine g_X11_0 (pc := 36) C q_998 0 rfl dX11_demand_36 ?_
    refine k_bipush (pc := 39) C bipush_21 dX11_demand_39 ?_
    refine k_iload_n (pc := 41) C rfl 2 rfl dX11_demand_41 ?_
    refine k_iadd (pc := 42) C dX11_demand_42 ?_
    refine k_topI (pc := 43) (v := 21) (by decide) ?_
    refine k_laldK (pc := 43) (v := (f_t_w 21)) C 1 1 rfl rfl (k_vinc 21 cl_21 (by decide) (by decide)) cl_21 rfl dX11_demand_43 ?_
    have K_11 : ∀ (x_7 : Int64), x_7 = (if (s_X11_size p1) ≤ (f_t_w 21) then 0 else p1) → KJ p l e (kR 1 25) s m args below meth c 0 0 Q D A 6 [(h_t, moE f_t h_t_w h_t_saved h_t_trial h_t_text h_t_told), (h_t_w, jA cJ 294 f_t_w)] [(0, .ref h_t), (1, .int 0)] [.long x_7] 53 := by
      intro x_7 ex_7
      refine k_lstore (pc := 53) (lv2 := [(4, .long x_7), (0, .ref h_t), (1, .int 0)]) C (by decide) rfl dX11_demand_53 ?_
      refine k_goto (pc := 55) (tgt := 118) C (by decide) dX11_demand_55 ?_
      exact K_9 x_7 (Eq.symm (k_st (g := j_X11_demand_p0_0_1) ex_7 (if_pos c_1) rfl))
    refine k_lcmp_le (pc := 44) (tgt := 52) C dX11_demand_44 dX11_demand_45 (by decide) (fun c_6 => ?_) (fun c_6 => ?_)
    · refine k_lconst (pc := 52) C lconst_0 dX11_demand_52 ?_
      refine k_lpick (lv2 := [(0, .ref h_t), (1, .int 0)]) [1, 2] rfl ?_
      exact K_11 0 (Eq.symm (if_pos c_6))
    · refine k_lload_n (pc := 48) C rfl 3 rfl dX11_demand_48 ?_
      refine k_goto (pc := 49) (tgt := 53) C (by decide) dX11_demand_49 ?_
      refine k_lpick (lv2 := [(0, .ref h_t), (1, .int 0)]) [1, 2] rfl ?_
      exact K_11 p1 (Eq.symm (if_neg c_6))

def j_X11_demand_p0_1_1 (x_7 : Int64) : Int64 :=
  x_7
def j_X11_demand_p0_1_2 (x_5 : Int64) : Int64 :=
  x_5
def j_X11_demand_p0_1_3 (f_t_w : Nat → Int64) (p1 : Int64) : Int64 :=
  (if (f_t_w 18) = 0 then (j_X11_demand_p0_1_1 (if (s_X11_size p1) ≤ (f_t_w 22) then 0 else p1)) else (if (f_t_w 18) = 2 then (j_X11_demand_p0_1_2 (if p1 ≤ (f_t_w 22) then (if (-(f_t_w 22)) ≤ p1 then 0 else (-1000)) else 1000)) else (((f_t_w 20) * p1) / 100)))
def s_X11_demand_p0_1_4 (f_t_w : Nat → Int64) (x_8 : Int64) : Int64 :=
  (s_X11_within x_8 (-(f_t_w 3)) (f_t_w 2))
def s_X11_demand_p0_1 (f_t : Nat → Int32) (f_t_w : Nat → Int64) (p1 : Int64) : Int64 :=
  (s_X11_demand_p0_1_4 f_t_w (j_X11_demand_p0_1_3 f_t_w p1))
set_option maxRecDepth 100000 in
set_option maxHeartbeats 4000000 in
theorem c_X11_demand_p0_1 (l : Launch) (D : va_G) (cI cJ cO : ClassId) (h_t : Nat) (h_t_w : Nat) (h_t_saved : Nat) (h_t_trial : Nat) (h_t_text : Nat) (h_t_told : Nat) (f_t : Nat → Int32) (f_t_w : Nat → Int64) (p1 : Int64) : kL l yX11_demand cX11_demand 6 .long 1 25 D (kT cI cJ cO) [.ref h_t, .int 1, .long p1] [(h_t, moE f_t h_t_w h_t_saved h_t_trial h_t_text h_t_told), (h_t_w, jA cJ 294 f_t_w)] (s_X11_demand_p0_1 f_t f_t_w p1) [(h_t, moE f_t h_t_w h_t_saved h_t_trial h_t_text h_t_told), (h_t_w, jA cJ 294 f_t_w)] := by
  refine kL_of (own := RX11) (lv := [(0, .ref h_t), (1, .int 1), (2, .long p1)]) rfl rfl (by decide) (Nat.le_of_ble_eq_true rfl) ?_
  intro p e s m args below meth c Q A C hret
  refine k_aload_n (pc := 0) C rfl 0 rfl dX11_demand_0 ?_
  refine g_X11_0 (pc := 1) C q_998 0 rfl dX11_demand_1 ?_
  refine k_bipush (pc := 4) C bipush_19 dX11_demand_4 ?_
  refine k_iload_n (pc := 6) C rfl 1 rfl dX11_demand_6 ?_
  refine k_iadd (pc := 7) C dX11_demand_7 ?_
  refine k_topI (pc := 8) (v := 20) (by decide) ?_
  refine k_laldK (pc := 8) (v := (f_t_w 20)) C 1 1 rfl rfl (k_vinc 20 cl_20 (by decide) (by decide)) cl_20 rfl dX11_demand_8 ?_
  refine k_lload_n (pc := 9) C rfl 2 rfl dX11_demand_9 ?_
  refine k_lmul (pc := 10) C dX11_demand_10 ?_
  refine k_ldc2 (pc := 11) C q_1072 dX11_demand_11 ?_
  refine k_ldiv (pc := 14) C (by decide) dX11_demand_14 ?_
  refine k_lstore (pc := 15) (lv2 := [(4, .long (((f_t_w 20) * p1) / 100)), (0, .ref h_t), (1, .int 1), (2, .long p1)]) C (by decide) rfl dX11_demand_15 ?_
  refine k_aload_n (pc := 17) C rfl 1 rfl dX11_demand_17 ?_
  refine g_X11_0 (pc := 18) C q_998 0 rfl dX11_demand_18 ?_
  refine k_bipush (pc := 21) C bipush_17 dX11_demand_21 ?_
  refine k_iload_n (pc := 23) C rfl 2 rfl dX11_demand_23 ?_
  refine k_iadd (pc := 24) C dX11_demand_24 ?_
  refine k_topI (pc := 25) (v := 18) (by decide) ?_
  refine k_laldK (pc := 25) (v := (f_t_w 18)) C 1 1 rfl rfl (k_vinc 18 cl_18 (by decide) (by decide)) cl_18 rfl dX11_demand_25 ?_
  refine k_lconst (pc := 26) C lconst_0 dX11_demand_26 ?_
  have K_9 : ∀ (x_8 : Int64), x_8 = (j_X11_demand_p0_1_3 f_t_w p1) → KJ p l e (kR 1 25) s m args below meth c 0 0 Q D A 6 [(h_t, moE f_t h_t_w h_t_saved h_t_trial h_t_text h_t_told), (h_t_w, jA cJ 294 f_t_w)] [(4, .long x_8), (0, .ref h_t), (1, .int 1)] [] 118 := by
    intro x_8 ex_8
    refine k_lload (pc := 118) C 0 rfl dX11_demand_118 ?_
    refine k_aload_n (pc := 120) C rfl 1 rfl dX11_demand_120 ?_
    refine g_X11_0 (pc := 121) C q_998 0 rfl dX11_demand_121 ?_
    refine k_iconst (pc := 124) C iconst_0 dX11_demand_124 ?_
    refine k_iconst (pc := 125) C iconst_2 dX11_demand_125 ?_
    refine k_iload_n (pc := 126) C rfl 2 rfl dX11_demand_126 ?_
    refine k_imul (pc := 127) C dX11_demand_127 ?_
    refine k_topI (pc := 128) (v := 2) (by decide) ?_
    refine k_iadd (pc := 128) C dX11_demand_128 ?_
    refine k_topI (pc := 129) (v := 2) (by decide) ?_
    refine k_iconst (pc := 129) C iconst_1 dX11_demand_129 ?_
    refine k_iadd (pc := 130) C dX11_demand_130 ?_
    refine k_topI (pc := 131) (v := 3) (by decide) ?_
    refine k_laldK (pc := 131) (v := (f_t_w 3)) C 1 1 rfl rfl (k_vinc 3 cl_3 (by decide) (by decide)) cl_3 rfl dX11_demand_131 ?_
    refine k_lneg (pc := 132) C dX11_demand_132 ?_
    refine k_aload_n (pc := 133) C rfl 1 rfl dX11_demand_133 ?_
    refine g_X11_0 (pc := 134) C q_998 0 rfl dX11_demand_134 ?_
    refine k_iconst (pc := 137) C iconst_0 dX11_demand_137 ?_
    refine k_iconst (pc := 138) C iconst_2 dX11_demand_138 ?_
    refine k_iload_n (pc := 139) C rfl 2 rfl dX11_demand_139 ?_
    refine k_imul (pc := 140) C dX11_demand_140 ?_
    refine k_topI (pc := 141) (v := 2) (by decide) ?_
    refine k_iadd (pc := 141) C dX11_demand_141 ?_
    refine k_topI (pc := 142) (v := 2) (by decide) ?_
    refine k_laldK (pc := 142) (v := (f_t_w 2)) C 1 1 rfl rfl (k_vinc 2 cl_2 (by decide) (by decide)) cl_2 rfl dX11_demand_142 ?_
    refine k_callSl (pc := 143) (As := [.long x_8, .long (-(f_t_w 3)), .long (f_t_w 2)]) (rest := []) (r := (s_X11_within x_8 (-(f_t_w 3)) (f_t_w 2))) (wc := []) (wc2 := []) (ws2 := [(h_t, moE f_t h_t_w h_t_saved h_t_trial h_t_text h_t_told), (h_t_w, jA cJ 294 f_t_w)]) C (c_X11_within l D cI cJ cO x_8 (-(f_t_w 3)) (f_t_w 2)) cws_X11_within q_1133 [] rfl rfl (by decide) rfl rfl (Nat.le_of_ble_eq_true rfl) ⟨Nat.le_of_ble_eq_true rfl, Nat.le_of_ble_eq_true rfl⟩ rfl ⟨Nat.le_refl _, Nat.le_refl _⟩ dX11_demand_143 ?_
    have hs : (s_X11_demand_p0_1 f_t f_t_w p1) = (s_X11_within x_8 (-(f_t_w 3)) (f_t_w 2)) := (k_st (g := s_X11_demand_p0_1_4 f_t_w) ex_8 rfl rfl)
    exact k_finL (pc := 146) hret (by rw [hs]) rfl dX11_demand_146
  refine k_lcmp_ne (pc := 27) (tgt := 58) C dX11_demand_27 dX11_demand_28 (by decide) (fun c_1 => ?_) (fun c_1 => ?_)
  · refine k_aload_n (pc := 58) C rfl 1 rfl dX11_demand_58 ?_
    refine g_X11_0 (pc := 59) C q_998 0 rfl dX11_demand_59 ?_
    refine k_bipush (pc := 62) C bipush_17 dX11_demand_62 ?_
    refine k_iload_n (pc := 64) C rfl 2 rfl dX11_demand_64 ?_
    refine k_iadd (pc := 65) C dX11_demand_65 ?_
    refine k_topI (pc := 66) (v := 18) (by decide) ?_
    refine k_laldK (pc := 66) (v := (f_t_w 18)) C 1 1 rfl rfl (k_vinc 18 cl_18 (by decide) (by decide)) cl_18 rfl dX11_demand_66 ?_
    refine k_ldc2 (pc := 67) C q_989 dX11_demand_67 ?_
    refine k_lcmp_ne (pc := 70) (tgt := 118) C dX11_demand_70 dX11_demand_71 (by decide) (fun c_2 => ?_) (fun c_2 => ?_)
    · refine k_lpick (lv2 := [(4, .long (((f_t_w 20) * p1) / 100)), (0, .ref h_t), (1, .int 1)]) [0, 1, 2] rfl ?_
      exact K_9 (((f_t_w 20) * p1) / 100) (Eq.symm ((if_neg c_1).trans (if_neg c_2)))
    · refine k_lload_n (pc := 74) C rfl 3 rfl dX11_demand_74 ?_
      refine k_aload_n (pc := 75) C rfl 1 rfl dX11_demand_75 ?_
      refine g_X11_0 (pc := 76) C q_998 0 rfl dX11_demand_76 ?_
      refine k_bipush (pc := 79) C bipush_21 dX11_demand_79 ?_
      refine k_iload_n (pc := 81) C rfl 2 rfl dX11_demand_81 ?_
      refine k_iadd (pc := 82) C dX11_demand_82 ?_
      refine k_topI (pc := 83) (v := 22) (by decide) ?_
      refine k_laldK (pc := 83) (v := (f_t_w 22)) C 1 1 rfl rfl (k_vinc 22 cl_22 (by decide) (by decide)) cl_22 rfl dX11_demand_83 ?_
      have K_10 : ∀ (x_5 : Int64), x_5 = (if p1 ≤ (f_t_w 22) then (if (-(f_t_w 22)) ≤ p1 then 0 else (-1000)) else 1000) → KJ p l e (kR 1 25) s m args below meth c 0 0 Q D A 6 [(h_t, moE f_t h_t_w h_t_saved h_t_trial h_t_text h_t_told), (h_t_w, jA cJ 294 f_t_w)] [(0, .ref h_t), (1, .int 1)] [.long x_5] 116 := by
        intro x_5 ex_5
        refine k_lstore (pc := 116) (lv2 := [(4, .long x_5), (0, .ref h_t), (1, .int 1)]) C (by decide) rfl dX11_demand_116 ?_
        exact K_9 x_5 (Eq.symm (k_st (g := j_X11_demand_p0_1_2) ex_5 ((if_neg c_1).trans (if_pos c_2)) rfl))
      refine k_lcmp_le (pc := 84) (tgt := 94) C dX11_demand_84 dX11_demand_85 (by decide) (fun c_3 => ?_) (fun c_3 => ?_)
      · refine k_lload_n (pc := 94) C rfl 3 rfl dX11_demand_94 ?_
        refine k_aload_n (pc := 95) C rfl 1 rfl dX11_demand_95 ?_
        refine g_X11_0 (pc := 96) C q_998 0 rfl dX11_demand_96 ?_
        refine k_bipush (pc := 99) C bipush_21 dX11_demand_99 ?_
        refine k_iload_n (pc := 101) C rfl 2 rfl dX11_demand_101 ?_
        refine k_iadd (pc := 102) C dX11_demand_102 ?_
        refine k_topI (pc := 103) (v := 22) (by decide) ?_
        refine k_laldK (pc := 103) (v := (f_t_w 22)) C 1 1 rfl rfl (k_vinc 22 cl_22 (by decide) (by decide)) cl_22 rfl dX11_demand_103 ?_
        refine k_lneg (pc := 104) C dX11_demand_104 ?_
        refine k_lcmp_ge (pc := 105) (tgt := 115) C dX11_demand_105 dX11_demand_106 (by decide) (fun c_4 => ?_) (fun c_4 => ?_)
        · refine k_lconst (pc := 115) C lconst_0 dX11_demand_115 ?_
          refine k_lpick (lv2 := [(0, .ref h_t), (1, .int 1)]) [1, 2] rfl ?_
          exact K_10 0 (Eq.symm ((if_pos c_3).trans (if_pos c_4)))
        · refine k_ldc2 (pc := 109) C q_1132 dX11_demand_109 ?_
          refine k_goto (pc := 112) (tgt := 116) C (by decide) dX11_demand_112 ?_
          refine k_lpick (lv2 := [(0, .ref h_t), (1, .int 1)]) [1, 2] rfl ?_
          exact K_10 (-1000) (Eq.symm ((if_pos c_3).trans (if_neg c_4)))
      · refine k_ldc2 (pc := 88) C q_996 dX11_demand_88 ?_
        refine k_goto (pc := 91) (tgt := 116) C (by decide) dX11_demand_91 ?_
        refine k_lpick (lv2 := [(0, .ref h_t), (1, .int 1)]) [1, 2] rfl ?_
        exact K_10 1000 (Eq.symm (if_neg c_3))
  · refine k_lload_n (pc := 31) C rfl 3 rfl dX11_demand_31 ?_
    refine k_callSl (pc := 32) (As := [.long p1]) (rest := []) (r := (s_X11_size p1)) (wc := []) (wc2 := []) (ws2 := [(h_t, moE f_t h_t_w h_t_saved h_t_trial h_t_text h_t_told), (h_t_w, jA cJ 294 f_t_w)]) C (c_X11_size l D cI cJ cO p1) cws_X11_size q_1129 [] rfl rfl (by decide) rfl rfl (Nat.le_of_ble_eq_true rfl) ⟨Nat.le_of_ble_eq_true rfl, Nat.le_of_ble_eq_true rfl⟩ rfl ⟨Nat.le_refl _, Nat.le_refl _⟩ dX11_demand_32 ?_
    refine k_aload_n (pc := 35) C rfl 1 rfl dX11_demand_35 ?_
    refine g_X11_0 (pc := 36) C q_998 0 rfl dX11_demand_36 ?_
    refine k_bipush (pc := 39) C bipush_21 dX11_demand_39 ?_
    refine k_iload_n (pc := 41) C rfl 2 rfl dX11_demand_41 ?_
    refine k_iadd (pc := 42) C dX11_demand_42 ?_
    refine k_topI (pc := 43) (v := 22) (by decide) ?_
    refine k_laldK (pc := 43) (v := (f_t_w 22)) C 1 1 rfl rfl (k_vinc 22 cl_22 (by decide) (by decide)) cl_22 rfl dX11_demand_43 ?_
    have K_11 : ∀ (x_7 : Int64), x_7 = (if (s_X11_size p1) ≤ (f_t_w 22) then 0 else p1) → KJ p l e (kR 1 25) s m args below meth c 0 0 Q D A 6 [(h_t, moE f_t h_t_w h_t_saved h_t_trial h_t_text h_t_told), (h_t_w, jA cJ 294 f_t_w)] [(0, .ref h_t), (1, .int 1)] [.long x_7] 53 := by
      intro x_7 ex_7
      refine k_lstore (pc := 53) (lv2 := [(4, .long x_7), (0, .ref h_t), (1, .int 1)]) C (by decide) rfl dX11_demand_53 ?_
      refine k_goto (pc := 55) (tgt := 118) C (by decide) dX11_demand_55 ?_
      exact K_9 x_7 (Eq.symm (k_st (g := j_X11_demand_p0_1_1) ex_7 (if_pos c_1) rfl))
    refine k_lcmp_le (pc := 44) (tgt := 52) C dX11_demand_44 dX11_demand_45 (by decide) (fun c_6 => ?_) (fun c_6 => ?_)
    · refine k_lconst (pc := 52) C lconst_0 dX11_demand_52 ?_
      refine k_lpick (lv2 := [(0, .ref h_t), (1, .int 1)]) [1, 2] rfl ?_
      exact K_11 0 (Eq.symm (if_pos c_6))
    · refine k_lload_n (pc := 48) C rfl 3 rfl dX11_demand_48 ?_
      refine k_goto (pc := 49) (tgt := 53) C (by decide) dX11_demand_49 ?_
      refine k_lpick (lv2 := [(0, .ref h_t), (1, .int 1)]) [1, 2] rfl ?_
      exact K_11 p1 (Eq.symm (if_neg c_6))

theorem dX11_of_0 : decode cX11_of 0 = .ok (.aload_n 0, 1) := by decide +kernel
theorem dX11_of_1 : decode cX11_of 1 = .ok (.getfield 7, 3) := by decide +kernel
theorem dX11_of_4 : decode cX11_of 4 = .ok (.bipush 50, 2) := by decide +kernel
theorem dX11_of_6 : decode cX11_of 6 = .ok (.iconst 4, 1) := by decide +kernel
theorem dX11_of_7 : decode cX11_of 7 = .ok (.aload_n 0, 1) := by decide +kernel
theorem dX11_of_8 : decode cX11_of 8 = .ok (.getfield 7, 3) := by decide +kernel
theorem dX11_of_11 : decode cX11_of 11 = .ok (.bipush 35, 2) := by decide +kernel
theorem dX11_of_13 : decode cX11_of 13 = .ok (.laload, 1) := by decide +kernel
theorem dX11_of_14 : decode cX11_of 14 = .ok (.l2i, 1) := by decide +kernel
theorem dX11_of_15 : decode cX11_of 15 = .ok (.imul, 1) := by decide +kernel
theorem dX11_of_16 : decode cX11_of 16 = .ok (.iadd, 1) := by decide +kernel
theorem dX11_of_17 : decode cX11_of 17 = .ok (.iload_n 1, 1) := by decide +kernel
theorem dX11_of_18 : decode cX11_of 18 = .ok (.iadd, 1) := by decide +kernel
theorem dX11_of_19 : decode cX11_of 19 = .ok (.laload, 1) := by decide +kernel
theorem dX11_of_20 : decode cX11_of 20 = .ok (.lreturn, 1) := by decide +kernel
def s_X11_of_p0_0 (f_t : Nat → Int32) (f_t_w : Nat → Int64) : Int64 :=
  (f_t_w (Int32.toNatClampNeg ((50 + (4 * (Int64.toInt32 (f_t_w 35)))) + 0)))
set_option maxRecDepth 100000 in
set_option maxHeartbeats 4000000 in
theorem c_X11_of_p0_0 (l : Launch) (D : va_G) (cI cJ cO : ClassId) (h_t : Nat) (h_t_w : Nat) (h_t_saved : Nat) (h_t_trial : Nat) (h_t_text : Nat) (h_t_told : Nat) (f_t : Nat → Int32) (f_t_w : Nat → Int64) (hf_t_w_35 : kInL (f_t_w 35) 0 11) : kL l yX11_of cX11_of 2 .long 0 0 D (kT cI cJ cO) [.ref h_t, .int 0] [(h_t, moE f_t h_t_w h_t_saved h_t_trial h_t_text h_t_told), (h_t_w, jA cJ 294 f_t_w)] (s_X11_of_p0_0 f_t f_t_w) [(h_t, moE f_t h_t_w h_t_saved h_t_trial h_t_text h_t_told), (h_t_w, jA cJ 294 f_t_w)] := by
  refine kL_of (own := RX11) (lv := [(0, .ref h_t), (1, .int 0)]) rfl rfl (by decide) (Nat.le_of_ble_eq_true rfl) ?_
  intro p e s m args below meth c Q A C hret
  refine k_aload_n (pc := 0) C rfl 0 rfl dX11_of_0 ?_
  refine g_X11_0 (pc := 1) C q_998 0 rfl dX11_of_1 ?_
  refine k_bipush (pc := 4) C bipush_50 dX11_of_4 ?_
  refine k_iconst (pc := 6) C iconst_4 dX11_of_6 ?_
  refine k_aload_n (pc := 7) C rfl 0 rfl dX11_of_7 ?_
  refine g_X11_0 (pc := 8) C q_998 0 rfl dX11_of_8 ?_
  refine k_bipush (pc := 11) C bipush_35 dX11_of_11 ?_
  refine k_laldK (pc := 13) (v := (f_t_w 35)) C 1 1 rfl rfl (k_vinc 35 cl_35 (by decide) (by decide)) cl_35 rfl dX11_of_13 ?_
  refine k_l2i (pc := 14) C dX11_of_14 ?_
  refine k_imul (pc := 15) C dX11_of_15 ?_
  refine k_iadd (pc := 16) C dX11_of_16 ?_
  refine k_iload_n (pc := 17) C rfl 1 rfl dX11_of_17 ?_
  refine k_iadd (pc := 18) C dX11_of_18 ?_
  refine k_laldK (pc := 19) (v := (f_t_w (Int32.toNatClampNeg ((50 + (4 * (Int64.toInt32 (f_t_w 35)))) + 0)))) C 1 1 rfl rfl (kIn.vp (kIn.add (kIn.add (kIn.lit (x := 50) (n := 50) (by decide)) (kIn.mul (n := 4) (by decide) (by decide) (kIn.l2i hf_t_w_35 (by decide) (by decide)) (by decide) (by decide)) (by decide) (by decide)) (kIn.lit (x := 0) (n := 0) (by decide)) (by decide) (by decide)) (by decide) (by decide)) rfl rfl dX11_of_19 ?_
  have hs : (s_X11_of_p0_0 f_t f_t_w) = (f_t_w (Int32.toNatClampNeg ((50 + (4 * (Int64.toInt32 (f_t_w 35)))) + 0))) := rfl
  exact k_finL (pc := 20) hret (by rw [hs]) rfl dX11_of_20

def s_X11_of_p0_1 (f_t : Nat → Int32) (f_t_w : Nat → Int64) : Int64 :=
  (f_t_w (Int32.toNatClampNeg ((50 + (4 * (Int64.toInt32 (f_t_w 35)))) + 1)))
set_option maxRecDepth 100000 in
set_option maxHeartbeats 4000000 in
theorem c_X11_of_p0_1 (l : Launch) (D : va_G) (cI cJ cO : ClassId) (h_t : Nat) (h_t_w : Nat) (h_t_saved : Nat) (h_t_trial : Nat) (h_t_text : Nat) (h_t_told : Nat) (f_t : Nat → Int32) (f_t_w : Nat → Int64) (hf_t_w_35 : kInL (f_t_w 35) 0 11) : kL l yX11_of cX11_of 2 .long 0 0 D (kT cI cJ cO) [.ref h_t, .int 1] [(h_t, moE f_t h_t_w h_t_saved h_t_trial h_t_text h_t_told), (h_t_w, jA cJ 294 f_t_w)] (s_X11_of_p0_1 f_t f_t_w) [(h_t, moE f_t h_t_w h_t_saved h_t_trial h_t_text h_t_told), (h_t_w, jA cJ 294 f_t_w)] := by
  refine kL_of (own := RX11) (lv := [(0, .ref h_t), (1, .int 1)]) rfl rfl (by decide) (Nat.le_of_ble_eq_true rfl) ?_
  intro p e s m args below meth c Q A C hret
  refine k_aload_n (pc := 0) C rfl 0 rfl dX11_of_0 ?_
  refine g_X11_0 (pc := 1) C q_998 0 rfl dX11_of_1 ?_
  refine k_bipush (pc := 4) C bipush_50 dX11_of_4 ?_
  refine k_iconst (pc := 6) C iconst_4 dX11_of_6 ?_
  refine k_aload_n (pc := 7) C rfl 0 rfl dX11_of_7 ?_
  refine g_X11_0 (pc := 8) C q_998 0 rfl dX11_of_8 ?_
  refine k_bipush (pc := 11) C bipush_35 dX11_of_11 ?_
  refine k_laldK (pc := 13) (v := (f_t_w 35)) C 1 1 rfl rfl (k_vinc 35 cl_35 (by decide) (by decide)) cl_35 rfl dX11_of_13 ?_
  refine k_l2i (pc := 14) C dX11_of_14 ?_
  refine k_imul (pc := 15) C dX11_of_15 ?_
  refine k_iadd (pc := 16) C dX11_of_16 ?_
  refine k_iload_n (pc := 17) C rfl 1 rfl dX11_of_17 ?_
  refine k_iadd (pc := 18) C dX11_of_18 ?_
  refine k_laldK (pc := 19) (v := (f_t_w (Int32.toNatClampNeg ((50 + (4 * (Int64.toInt32 (f_t_w 35)))) + 1)))) C 1 1 rfl rfl (kIn.vp (kIn.add (kIn.add (kIn.lit (x := 50) (n := 50) (by decide)) (kIn.mul (n := 4) (by decide) (by decide) (kIn.l2i hf_t_w_35 (by decide) (by decide)) (by decide) (by decide)) (by decide) (by decide)) (kIn.lit (x := 1) (n := 1) (by decide)) (by decide) (by decide)) (by decide) (by decide)) rfl rfl dX11_of_19 ?_
  have hs : (s_X11_of_p0_1 f_t f_t_w) = (f_t_w (Int32.toNatClampNeg ((50 + (4 * (Int64.toInt32 (f_t_w 35)))) + 1))) := rfl
  exact k_finL (pc := 20) hret (by rw [hs]) rfl dX11_of_20

def s_X11_of_p0_2 (f_t : Nat → Int32) (f_t_w : Nat → Int64) : Int64 :=
  (f_t_w (Int32.toNatClampNeg ((50 + (4 * (Int64.toInt32 (f_t_w 35)))) + 2)))
set_option maxRecDepth 100000 in
set_option maxHeartbeats 4000000 in
theorem c_X11_of_p0_2 (l : Launch) (D : va_G) (cI cJ cO : ClassId) (h_t : Nat) (h_t_w : Nat) (h_t_saved : Nat) (h_t_trial : Nat) (h_t_text : Nat) (h_t_told : Nat) (f_t : Nat → Int32) (f_t_w : Nat → Int64) (hf_t_w_35 : kInL (f_t_w 35) 0 11) : kL l yX11_of cX11_of 2 .long 0 0 D (kT cI cJ cO) [.ref h_t, .int 2] [(h_t, moE f_t h_t_w h_t_saved h_t_trial h_t_text h_t_told), (h_t_w, jA cJ 294 f_t_w)] (s_X11_of_p0_2 f_t f_t_w) [(h_t, moE f_t h_t_w h_t_saved h_t_trial h_t_text h_t_told), (h_t_w, jA cJ 294 f_t_w)] := by
  refine kL_of (own := RX11) (lv := [(0, .ref h_t), (1, .int 2)]) rfl rfl (by decide) (Nat.le_of_ble_eq_true rfl) ?_
  intro p e s m args below meth c Q A C hret
  refine k_aload_n (pc := 0) C rfl 0 rfl dX11_of_0 ?_
  refine g_X11_0 (pc := 1) C q_998 0 rfl dX11_of_1 ?_
  refine k_bipush (pc := 4) C bipush_50 dX11_of_4 ?_
  refine k_iconst (pc := 6) C iconst_4 dX11_of_6 ?_
  refine k_aload_n (pc := 7) C rfl 0 rfl dX11_of_7 ?_
  refine g_X11_0 (pc := 8) C q_998 0 rfl dX11_of_8 ?_
  refine k_bipush (pc := 11) C bipush_35 dX11_of_11 ?_
  refine k_laldK (pc := 13) (v := (f_t_w 35)) C 1 1 rfl rfl (k_vinc 35 cl_35 (by decide) (by decide)) cl_35 rfl dX11_of_13 ?_
  refine k_l2i (pc := 14) C dX11_of_14 ?_
  refine k_imul (pc := 15) C dX11_of_15 ?_
  refine k_iadd (pc := 16) C dX11_of_16 ?_
  refine k_iload_n (pc := 17) C rfl 1 rfl dX11_of_17 ?_
  refine k_iadd (pc := 18) C dX11_of_18 ?_
  refine k_laldK (pc := 19) (v := (f_t_w (Int32.toNatClampNeg ((50 + (4 * (Int64.toInt32 (f_t_w 35)))) + 2)))) C 1 1 rfl rfl (kIn.vp (kIn.add (kIn.add (kIn.lit (x := 50) (n := 50) (by decide)) (kIn.mul (n := 4) (by decide) (by decide) (kIn.l2i hf_t_w_35 (by decide) (by decide)) (by decide) (by decide)) (by decide) (by decide)) (kIn.lit (x := 2) (n := 2) (by decide)) (by decide) (by decide)) (by decide) (by decide)) rfl rfl dX11_of_19 ?_
  have hs : (s_X11_of_p0_2 f_t f_t_w) = (f_t_w (Int32.toNatClampNeg ((50 + (4 * (Int64.toInt32 (f_t_w 35)))) + 2))) := rfl
  exact k_finL (pc := 20) hret (by rw [hs]) rfl dX11_of_20

def s_X11_of_p0_3 (f_t : Nat → Int32) (f_t_w : Nat → Int64) : Int64 :=
  (f_t_w (Int32.toNatClampNeg ((50 + (4 * (Int64.toInt32 (f_t_w 35)))) + 3)))
set_option maxRecDepth 100000 in
set_option maxHeartbeats 4000000 in
theorem c_X11_of_p0_3 (l : Launch) (D : va_G) (cI cJ cO : ClassId) (h_t : Nat) (h_t_w : Nat) (h_t_saved : Nat) (h_t_trial : Nat) (h_t_text : Nat) (h_t_told : Nat) (f_t : Nat → Int32) (f_t_w : Nat → Int64) (hf_t_w_35 : kInL (f_t_w 35) 0 11) : kL l yX11_of cX11_of 2 .long 0 0 D (kT cI cJ cO) [.ref h_t, .int 3] [(h_t, moE f_t h_t_w h_t_saved h_t_trial h_t_text h_t_told), (h_t_w, jA cJ 294 f_t_w)] (s_X11_of_p0_3 f_t f_t_w) [(h_t, moE f_t h_t_w h_t_saved h_t_trial h_t_text h_t_told), (h_t_w, jA cJ 294 f_t_w)] := by
  refine kL_of (own := RX11) (lv := [(0, .ref h_t), (1, .int 3)]) rfl rfl (by decide) (Nat.le_of_ble_eq_true rfl) ?_
  intro p e s m args below meth c Q A C hret
  refine k_aload_n (pc := 0) C rfl 0 rfl dX11_of_0 ?_
  refine g_X11_0 (pc := 1) C q_998 0 rfl dX11_of_1 ?_
  refine k_bipush (pc := 4) C bipush_50 dX11_of_4 ?_
  refine k_iconst (pc := 6) C iconst_4 dX11_of_6 ?_
  refine k_aload_n (pc := 7) C rfl 0 rfl dX11_of_7 ?_
  refine g_X11_0 (pc := 8) C q_998 0 rfl dX11_of_8 ?_
  refine k_bipush (pc := 11) C bipush_35 dX11_of_11 ?_
  refine k_laldK (pc := 13) (v := (f_t_w 35)) C 1 1 rfl rfl (k_vinc 35 cl_35 (by decide) (by decide)) cl_35 rfl dX11_of_13 ?_
  refine k_l2i (pc := 14) C dX11_of_14 ?_
  refine k_imul (pc := 15) C dX11_of_15 ?_
  refine k_iadd (pc := 16) C dX11_of_16 ?_
  refine k_iload_n (pc := 17) C rfl 1 rfl dX11_of_17 ?_
  refine k_iadd (pc := 18) C dX11_of_18 ?_
  refine k_laldK (pc := 19) (v := (f_t_w (Int32.toNatClampNeg ((50 + (4 * (Int64.toInt32 (f_t_w 35)))) + 3)))) C 1 1 rfl rfl (kIn.vp (kIn.add (kIn.add (kIn.lit (x := 50) (n := 50) (by decide)) (kIn.mul (n := 4) (by decide) (by decide) (kIn.l2i hf_t_w_35 (by decide) (by decide)) (by decide) (by decide)) (by decide) (by decide)) (kIn.lit (x := 3) (n := 3) (by decide)) (by decide) (by decide)) (by decide) (by decide)) rfl rfl dX11_of_19 ?_
  have hs : (s_X11_of_p0_3 f_t f_t_w) = (f_t_w (Int32.toNatClampNeg ((50 + (4 * (Int64.toInt32 (f_t_w 35)))) + 3))) := rfl
  exact k_finL (pc := 20) hret (by rw [hs]) rfl dX11_of_20

theorem dX11_enter_0 : decode cX11_enter 0 = .ok (.aload_n 0, 1) := by decide +kernel
theorem dX11_enter_1 : decode cX11_enter 1 = .ok (.getfield 7, 3) := by decide +kernel
theorem dX11_enter_4 : decode cX11_enter 4 = .ok (.bipush 46, 2) := by decide +kernel
theorem dX11_enter_6 : decode cX11_enter 6 = .ok (.laload, 1) := by decide +kernel
theorem dX11_enter_7 : decode cX11_enter 7 = .ok (.ldc2_w 57, 3) := by decide +kernel
theorem dX11_enter_10 : decode cX11_enter 10 = .ok (.lcmp, 1) := by decide +kernel
theorem dX11_enter_11 : decode cX11_enter 11 = .ok (.ifCond .ne 54, 3) := by decide +kernel
theorem dX11_enter_14 : decode cX11_enter 14 = .ok (.iconst 0, 1) := by decide +kernel
theorem dX11_enter_15 : decode cX11_enter 15 = .ok (.istore 4, 2) := by decide +kernel
theorem dX11_enter_17 : decode cX11_enter 17 = .ok (.iload 4, 2) := by decide +kernel
theorem dX11_enter_19 : decode cX11_enter 19 = .ok (.bipush 69, 2) := by decide +kernel
theorem dX11_enter_21 : decode cX11_enter 21 = .ok (.if_icmp .ge 33, 3) := by decide +kernel
theorem dX11_enter_24 : decode cX11_enter 24 = .ok (.aload_n 0, 1) := by decide +kernel
theorem dX11_enter_25 : decode cX11_enter 25 = .ok (.getfield 7, 3) := by decide +kernel
theorem dX11_enter_28 : decode cX11_enter 28 = .ok (.sipush 162, 3) := by decide +kernel
theorem dX11_enter_31 : decode cX11_enter 31 = .ok (.iload 4, 2) := by decide +kernel
theorem dX11_enter_33 : decode cX11_enter 33 = .ok (.iadd, 1) := by decide +kernel
theorem dX11_enter_34 : decode cX11_enter 34 = .ok (.aload_n 0, 1) := by decide +kernel
theorem dX11_enter_35 : decode cX11_enter 35 = .ok (.getfield 7, 3) := by decide +kernel
theorem dX11_enter_38 : decode cX11_enter 38 = .ok (.sipush 162, 3) := by decide +kernel
theorem dX11_enter_41 : decode cX11_enter 41 = .ok (.iload 4, 2) := by decide +kernel
theorem dX11_enter_43 : decode cX11_enter 43 = .ok (.iadd, 1) := by decide +kernel
theorem dX11_enter_44 : decode cX11_enter 44 = .ok (.iconst 3, 1) := by decide +kernel
theorem dX11_enter_45 : decode cX11_enter 45 = .ok (.iadd, 1) := by decide +kernel
theorem dX11_enter_46 : decode cX11_enter 46 = .ok (.laload, 1) := by decide +kernel
theorem dX11_enter_47 : decode cX11_enter 47 = .ok (.lastore, 1) := by decide +kernel
theorem dX11_enter_48 : decode cX11_enter 48 = .ok (.iinc 4 1, 3) := by decide +kernel
theorem dX11_enter_51 : decode cX11_enter 51 = .ok (.goto (-34), 3) := by decide +kernel
theorem dX11_enter_54 : decode cX11_enter 54 = .ok (.aload_n 0, 1) := by decide +kernel
theorem dX11_enter_55 : decode cX11_enter 55 = .ok (.getfield 7, 3) := by decide +kernel
theorem dX11_enter_58 : decode cX11_enter 58 = .ok (.bipush 46, 2) := by decide +kernel
theorem dX11_enter_60 : decode cX11_enter 60 = .ok (.dup2, 1) := by decide +kernel
theorem dX11_enter_61 : decode cX11_enter 61 = .ok (.laload, 1) := by decide +kernel
theorem dX11_enter_62 : decode cX11_enter 62 = .ok (.lconst 1, 1) := by decide +kernel
theorem dX11_enter_63 : decode cX11_enter 63 = .ok (.lsub, 1) := by decide +kernel
theorem dX11_enter_64 : decode cX11_enter 64 = .ok (.lastore, 1) := by decide +kernel
theorem dX11_enter_65 : decode cX11_enter 65 = .ok (.sipush 162, 3) := by decide +kernel
theorem dX11_enter_68 : decode cX11_enter 68 = .ok (.iconst 3, 1) := by decide +kernel
theorem dX11_enter_69 : decode cX11_enter 69 = .ok (.aload_n 0, 1) := by decide +kernel
theorem dX11_enter_70 : decode cX11_enter 70 = .ok (.getfield 7, 3) := by decide +kernel
theorem dX11_enter_73 : decode cX11_enter 73 = .ok (.bipush 46, 2) := by decide +kernel
theorem dX11_enter_75 : decode cX11_enter 75 = .ok (.laload, 1) := by decide +kernel
theorem dX11_enter_76 : decode cX11_enter 76 = .ok (.l2i, 1) := by decide +kernel
theorem dX11_enter_77 : decode cX11_enter 77 = .ok (.imul, 1) := by decide +kernel
theorem dX11_enter_78 : decode cX11_enter 78 = .ok (.iadd, 1) := by decide +kernel
theorem dX11_enter_79 : decode cX11_enter 79 = .ok (.istore 4, 2) := by decide +kernel
theorem dX11_enter_81 : decode cX11_enter 81 = .ok (.aload_n 0, 1) := by decide +kernel
theorem dX11_enter_82 : decode cX11_enter 82 = .ok (.getfield 7, 3) := by decide +kernel
theorem dX11_enter_85 : decode cX11_enter 85 = .ok (.iload 4, 2) := by decide +kernel
theorem dX11_enter_87 : decode cX11_enter 87 = .ok (.iload_n 1, 1) := by decide +kernel
theorem dX11_enter_88 : decode cX11_enter 88 = .ok (.i2l, 1) := by decide +kernel
theorem dX11_enter_89 : decode cX11_enter 89 = .ok (.lastore, 1) := by decide +kernel
theorem dX11_enter_90 : decode cX11_enter 90 = .ok (.aload_n 0, 1) := by decide +kernel
theorem dX11_enter_91 : decode cX11_enter 91 = .ok (.getfield 7, 3) := by decide +kernel
theorem dX11_enter_94 : decode cX11_enter 94 = .ok (.iload 4, 2) := by decide +kernel
theorem dX11_enter_96 : decode cX11_enter 96 = .ok (.iconst 1, 1) := by decide +kernel
theorem dX11_enter_97 : decode cX11_enter 97 = .ok (.iadd, 1) := by decide +kernel
theorem dX11_enter_98 : decode cX11_enter 98 = .ok (.lload_n 2, 1) := by decide +kernel
theorem dX11_enter_99 : decode cX11_enter 99 = .ok (.lastore, 1) := by decide +kernel
theorem dX11_enter_100 : decode cX11_enter 100 = .ok (.aload_n 0, 1) := by decide +kernel
theorem dX11_enter_101 : decode cX11_enter 101 = .ok (.getfield 7, 3) := by decide +kernel
theorem dX11_enter_104 : decode cX11_enter 104 = .ok (.iload 4, 2) := by decide +kernel
theorem dX11_enter_106 : decode cX11_enter 106 = .ok (.iconst 2, 1) := by decide +kernel
theorem dX11_enter_107 : decode cX11_enter 107 = .ok (.iadd, 1) := by decide +kernel
theorem dX11_enter_108 : decode cX11_enter 108 = .ok (.aload_n 0, 1) := by decide +kernel
theorem dX11_enter_109 : decode cX11_enter 109 = .ok (.getfield 7, 3) := by decide +kernel
theorem dX11_enter_112 : decode cX11_enter 112 = .ok (.bipush 32, 2) := by decide +kernel
theorem dX11_enter_114 : decode cX11_enter 114 = .ok (.laload, 1) := by decide +kernel
theorem dX11_enter_115 : decode cX11_enter 115 = .ok (.lastore, 1) := by decide +kernel
theorem dX11_enter_116 : decode cX11_enter 116 = .ok (.aload_n 0, 1) := by decide +kernel
theorem dX11_enter_117 : decode cX11_enter 117 = .ok (.getfield 7, 3) := by decide +kernel
theorem dX11_enter_120 : decode cX11_enter 120 = .ok (.bipush 46, 2) := by decide +kernel
theorem dX11_enter_122 : decode cX11_enter 122 = .ok (.dup2, 1) := by decide +kernel
theorem dX11_enter_123 : decode cX11_enter 123 = .ok (.laload, 1) := by decide +kernel
theorem dX11_enter_124 : decode cX11_enter 124 = .ok (.lconst 1, 1) := by decide +kernel
theorem dX11_enter_125 : decode cX11_enter 125 = .ok (.ladd, 1) := by decide +kernel
theorem dX11_enter_126 : decode cX11_enter 126 = .ok (.lastore, 1) := by decide +kernel
theorem dX11_enter_127 : decode cX11_enter 127 = .ok (.aload_n 0, 1) := by decide +kernel
theorem dX11_enter_128 : decode cX11_enter 128 = .ok (.getfield 7, 3) := by decide +kernel
theorem dX11_enter_131 : decode cX11_enter 131 = .ok (.bipush 47, 2) := by decide +kernel
theorem dX11_enter_133 : decode cX11_enter 133 = .ok (.ldc2_w 59, 3) := by decide +kernel
theorem dX11_enter_136 : decode cX11_enter 136 = .ok (.aload_n 0, 1) := by decide +kernel
theorem dX11_enter_137 : decode cX11_enter 137 = .ok (.getfield 7, 3) := by decide +kernel
theorem dX11_enter_140 : decode cX11_enter 140 = .ok (.bipush 47, 2) := by decide +kernel
theorem dX11_enter_142 : decode cX11_enter 142 = .ok (.laload, 1) := by decide +kernel
theorem dX11_enter_143 : decode cX11_enter 143 = .ok (.lmul, 1) := by decide +kernel
theorem dX11_enter_144 : decode cX11_enter 144 = .ok (.ldc2_w 46, 3) := by decide +kernel
theorem dX11_enter_147 : decode cX11_enter 147 = .ok (.iload_n 1, 1) := by decide +kernel
theorem dX11_enter_148 : decode cX11_enter 148 = .ok (.i2l, 1) := by decide +kernel
theorem dX11_enter_149 : decode cX11_enter 149 = .ok (.lmul, 1) := by decide +kernel
theorem dX11_enter_150 : decode cX11_enter 150 = .ok (.ladd, 1) := by decide +kernel
theorem dX11_enter_151 : decode cX11_enter 151 = .ok (.lload_n 2, 1) := by decide +kernel
theorem dX11_enter_152 : decode cX11_enter 152 = .ok (.ladd, 1) := by decide +kernel
theorem dX11_enter_153 : decode cX11_enter 153 = .ok (.lastore, 1) := by decide +kernel
theorem dX11_enter_154 : decode cX11_enter 154 = .ok (.return_, 1) := by decide +kernel
def b_X11_enter_L17 (z_5 : Int32 × (Nat → Int64)) : (Int32 × (Nat → Int64)) ⊕ (Int32 × (Nat → Int64)) :=
  (if 69 ≤ z_5.1 then (Sum.inr (z_5.1, z_5.2)) else (Sum.inl ((z_5.1 + 1), (vp_updL z_5.2 (Int32.toNatClampNeg (162 + z_5.1)) (z_5.2 (Int32.toNatClampNeg ((162 + z_5.1) + 3)))))))
def j_X11_enter_1 (m_9 : Int32 × (Nat → Int64)) : (Nat → Int64) :=
  (vp_updL m_9.2 46 ((m_9.2 46) - 1))
def j_X11_enter_2 (f_t_w : Nat → Int64) : (Nat → Int64) :=
  (if (f_t_w 46) = 24 then (j_X11_enter_1 (kLoop default (b_X11_enter_L17) ((Int32.toInt 69 - Int32.toInt 0).toNat + 1) (0, f_t_w))) else f_t_w)
def s_X11_enter_3 (p0 : Int32) (p1 : Int64) (x_11 : (Nat → Int64)) : (Nat → Int64) :=
  (vp_updL (vp_updL (vp_updL (vp_updL (vp_updL x_11 (Int32.toNatClampNeg (162 + (3 * (Int64.toInt32 (x_11 46))))) (Int32.toInt64 p0)) (Int32.toNatClampNeg ((162 + (3 * (Int64.toInt32 (x_11 46)))) + 1)) p1) (Int32.toNatClampNeg ((162 + (3 * (Int64.toInt32 (x_11 46)))) + 2)) (x_11 32)) 46 ((x_11 46) + 1)) 47 (((31 * (x_11 47)) + (1000 * (Int32.toInt64 p0))) + p1))
def s_X11_enter (f_t : Nat → Int32) (f_t_w : Nat → Int64) (p0 : Int32) (p1 : Int64) : (Nat → Int64) :=
  (s_X11_enter_3 p0 p1 (j_X11_enter_2 f_t_w))
set_option maxRecDepth 100000 in
set_option maxHeartbeats 4000000 in
theorem c_X11_enter (l : Launch) (D : va_G) (cI cJ cO : ClassId) (h_t : Nat) (h_t_w : Nat) (h_t_saved : Nat) (h_t_trial : Nat) (h_t_text : Nat) (h_t_told : Nat) (f_t : Nat → Int32) (f_t_w : Nat → Int64) (p0 : Int32) (p1 : Int64) (hf_t_w_46 : kInL (f_t_w 46) 0 24) : kV l yX11_enter cX11_enter 5 0 0 D (kT cI cJ cO) [.ref h_t, .int p0, .long p1] [(h_t, moE f_t h_t_w h_t_saved h_t_trial h_t_text h_t_told), (h_t_w, jA cJ 294 f_t_w)] [(h_t, moE f_t h_t_w h_t_saved h_t_trial h_t_text h_t_told), (h_t_w, jA cJ 294 (s_X11_enter f_t f_t_w p0 p1))] := by
  refine kV_of (own := RX11) (lv := [(0, .ref h_t), (1, .int p0), (2, .long p1)]) rfl rfl (by decide) (Nat.le_of_ble_eq_true rfl) ?_
  intro p e s m args below meth c Q A C hret
  refine k_aload_n (pc := 0) C rfl 0 rfl dX11_enter_0 ?_
  refine g_X11_0 (pc := 1) C q_998 0 rfl dX11_enter_1 ?_
  refine k_bipush (pc := 4) C bipush_46 dX11_enter_4 ?_
  refine k_laldK (pc := 6) (v := (f_t_w 46)) C 1 1 rfl rfl (k_vinc 46 cl_46 (by decide) (by decide)) cl_46 rfl dX11_enter_6 ?_
  refine k_ldc2 (pc := 7) C q_1097 dX11_enter_7 ?_
  have K_13 : ∀ (x_11 : (Nat → Int64)), x_11 = (j_X11_enter_2 f_t_w) → kInL (x_11 46) 0 23 → KJ p l e (kR 0 0) s m args below meth c 0 0 Q D A 5 [(h_t, moE f_t h_t_w h_t_saved h_t_trial h_t_text h_t_told), (h_t_w, jA cJ 294 x_11)] [(0, .ref h_t), (1, .int p0), (2, .long p1)] [] 65 := by
    intro x_11 ex_11 hj_12
    refine k_sipush (pc := 65) C sipush_162 dX11_enter_65 ?_
    refine k_iconst (pc := 68) C iconst_3 dX11_enter_68 ?_
    refine k_aload_n (pc := 69) C rfl 0 rfl dX11_enter_69 ?_
    refine g_X11_0 (pc := 70) C q_998 0 rfl dX11_enter_70 ?_
    refine k_bipush (pc := 73) C bipush_46 dX11_enter_73 ?_
    refine k_laldK (pc := 75) (v := (x_11 46)) C 1 1 rfl rfl (k_vinc 46 cl_46 (by decide) (by decide)) cl_46 rfl dX11_enter_75 ?_
    refine k_l2i (pc := 76) C dX11_enter_76 ?_
    refine k_imul (pc := 77) C dX11_enter_77 ?_
    refine k_iadd (pc := 78) C dX11_enter_78 ?_
    refine k_istore (pc := 79) (lv2 := [(4, .int (162 + (3 * (Int64.toInt32 (x_11 46))))), (0, .ref h_t), (1, .int p0), (2, .long p1)]) C (by decide) rfl dX11_enter_79 ?_
    refine k_aload_n (pc := 81) C rfl 1 rfl dX11_enter_81 ?_
    refine g_X11_0 (pc := 82) C q_998 0 rfl dX11_enter_82 ?_
    refine k_iload (pc := 85) C 0 rfl dX11_enter_85 ?_
    refine k_iload_n (pc := 87) C rfl 2 rfl dX11_enter_87 ?_
    refine k_i2l (pc := 88) C dX11_enter_88 ?_
    refine k_lastK (pc := 89) (ws2 := [(h_t, moE f_t h_t_w h_t_saved h_t_trial h_t_text h_t_told), (h_t_w, jA cJ 294 (vp_updL x_11 (Int32.toNatClampNeg (162 + (3 * (Int64.toInt32 (x_11 46))))) (Int32.toInt64 p0)))]) C 1 1 rfl rfl (kIn.vp (kIn.add (kIn.lit (x := 162) (n := 162) (by decide)) (kIn.mul (n := 3) (by decide) (by decide) (kIn.l2i hj_12 (by decide) (by decide)) (by decide) (by decide)) (by decide) (by decide)) (by decide) (by decide)) rfl rfl dX11_enter_89 ?_
    refine k_aload_n (pc := 90) C rfl 1 rfl dX11_enter_90 ?_
    refine g_X11_0 (pc := 91) C q_998 0 rfl dX11_enter_91 ?_
    refine k_iload (pc := 94) C 0 rfl dX11_enter_94 ?_
    refine k_iconst (pc := 96) C iconst_1 dX11_enter_96 ?_
    refine k_iadd (pc := 97) C dX11_enter_97 ?_
    refine k_lload_n (pc := 98) C rfl 3 rfl dX11_enter_98 ?_
    refine k_lastK (pc := 99) (ws2 := [(h_t, moE f_t h_t_w h_t_saved h_t_trial h_t_text h_t_told), (h_t_w, jA cJ 294 (vp_updL (vp_updL x_11 (Int32.toNatClampNeg (162 + (3 * (Int64.toInt32 (x_11 46))))) (Int32.toInt64 p0)) (Int32.toNatClampNeg ((162 + (3 * (Int64.toInt32 (x_11 46)))) + 1)) p1))]) C 1 1 rfl rfl (kIn.vp (kIn.add (kIn.add (kIn.lit (x := 162) (n := 162) (by decide)) (kIn.mul (n := 3) (by decide) (by decide) (kIn.l2i hj_12 (by decide) (by decide)) (by decide) (by decide)) (by decide) (by decide)) (kIn.lit (x := 1) (n := 1) (by decide)) (by decide) (by decide)) (by decide) (by decide)) rfl rfl dX11_enter_99 ?_
    refine k_aload_n (pc := 100) C rfl 1 rfl dX11_enter_100 ?_
    refine g_X11_0 (pc := 101) C q_998 0 rfl dX11_enter_101 ?_
    refine k_iload (pc := 104) C 0 rfl dX11_enter_104 ?_
    refine k_iconst (pc := 106) C iconst_2 dX11_enter_106 ?_
    refine k_iadd (pc := 107) C dX11_enter_107 ?_
    refine k_aload_n (pc := 108) C rfl 1 rfl dX11_enter_108 ?_
    refine g_X11_0 (pc := 109) C q_998 0 rfl dX11_enter_109 ?_
    refine k_bipush (pc := 112) C bipush_32 dX11_enter_112 ?_
    refine k_laldK (pc := 114) (v := (x_11 32)) C 1 1 rfl rfl (k_vinc 32 cl_32 (by decide) (by decide)) cl_32 (upnL (kIn.ne (kIn.add (kIn.add (kIn.lit (x := 162) (n := 162) (by decide)) (kIn.mul (n := 3) (by decide) (by decide) (kIn.l2i hj_12 (by decide) (by decide)) (by decide) (by decide)) (by decide) (by decide)) (kIn.lit (x := 1) (n := 1) (by decide)) (by decide) (by decide)) (by decide) (by decide)) (upnL (kIn.ne (kIn.add (kIn.lit (x := 162) (n := 162) (by decide)) (kIn.mul (n := 3) (by decide) (by decide) (kIn.l2i hj_12 (by decide) (by decide)) (by decide) (by decide)) (by decide) (by decide)) (by decide) (by decide)) rfl)) dX11_enter_114 ?_
    refine k_lastK (pc := 115) (ws2 := [(h_t, moE f_t h_t_w h_t_saved h_t_trial h_t_text h_t_told), (h_t_w, jA cJ 294 (vp_updL (vp_updL (vp_updL x_11 (Int32.toNatClampNeg (162 + (3 * (Int64.toInt32 (x_11 46))))) (Int32.toInt64 p0)) (Int32.toNatClampNeg ((162 + (3 * (Int64.toInt32 (x_11 46)))) + 1)) p1) (Int32.toNatClampNeg ((162 + (3 * (Int64.toInt32 (x_11 46)))) + 2)) (x_11 32)))]) C 1 1 rfl rfl (kIn.vp (kIn.add (kIn.add (kIn.lit (x := 162) (n := 162) (by decide)) (kIn.mul (n := 3) (by decide) (by decide) (kIn.l2i hj_12 (by decide) (by decide)) (by decide) (by decide)) (by decide) (by decide)) (kIn.lit (x := 2) (n := 2) (by decide)) (by decide) (by decide)) (by decide) (by decide)) rfl rfl dX11_enter_115 ?_
    refine k_aload_n (pc := 116) C rfl 1 rfl dX11_enter_116 ?_
    refine g_X11_0 (pc := 117) C q_998 0 rfl dX11_enter_117 ?_
    refine k_bipush (pc := 120) C bipush_46 dX11_enter_120 ?_
    refine k_dup2 (pc := 122) C rfl rfl dX11_enter_122 ?_
    refine k_laldK (pc := 123) (v := (x_11 46)) C 1 1 rfl rfl (k_vinc 46 cl_46 (by decide) (by decide)) cl_46 (upnL (kIn.ne (kIn.add (kIn.add (kIn.lit (x := 162) (n := 162) (by decide)) (kIn.mul (n := 3) (by decide) (by decide) (kIn.l2i hj_12 (by decide) (by decide)) (by decide) (by decide)) (by decide) (by decide)) (kIn.lit (x := 2) (n := 2) (by decide)) (by decide) (by decide)) (by decide) (by decide)) (upnL (kIn.ne (kIn.add (kIn.add (kIn.lit (x := 162) (n := 162) (by decide)) (kIn.mul (n := 3) (by decide) (by decide) (kIn.l2i hj_12 (by decide) (by decide)) (by decide) (by decide)) (by decide) (by decide)) (kIn.lit (x := 1) (n := 1) (by decide)) (by decide) (by decide)) (by decide) (by decide)) (upnL (kIn.ne (kIn.add (kIn.lit (x := 162) (n := 162) (by decide)) (kIn.mul (n := 3) (by decide) (by decide) (kIn.l2i hj_12 (by decide) (by decide)) (by decide) (by decide)) (by decide) (by decide)) (by decide) (by decide)) rfl))) dX11_enter_123 ?_
    refine k_lconst (pc := 124) C lconst_1 dX11_enter_124 ?_
    refine k_ladd (pc := 125) C dX11_enter_125 ?_
    refine k_lastK (pc := 126) (ws2 := [(h_t, moE f_t h_t_w h_t_saved h_t_trial h_t_text h_t_told), (h_t_w, jA cJ 294 (vp_updL (vp_updL (vp_updL (vp_updL x_11 (Int32.toNatClampNeg (162 + (3 * (Int64.toInt32 (x_11 46))))) (Int32.toInt64 p0)) (Int32.toNatClampNeg ((162 + (3 * (Int64.toInt32 (x_11 46)))) + 1)) p1) (Int32.toNatClampNeg ((162 + (3 * (Int64.toInt32 (x_11 46)))) + 2)) (x_11 32)) 46 ((x_11 46) + 1)))]) C 1 1 rfl rfl (k_vinc 46 cl_46 (by decide) (by decide)) cl_46 rfl dX11_enter_126 ?_
    refine k_aload_n (pc := 127) C rfl 1 rfl dX11_enter_127 ?_
    refine g_X11_0 (pc := 128) C q_998 0 rfl dX11_enter_128 ?_
    refine k_bipush (pc := 131) C bipush_47 dX11_enter_131 ?_
    refine k_ldc2 (pc := 133) C q_1098 dX11_enter_133 ?_
    refine k_aload_n (pc := 136) C rfl 1 rfl dX11_enter_136 ?_
    refine g_X11_0 (pc := 137) C q_998 0 rfl dX11_enter_137 ?_
    refine k_bipush (pc := 140) C bipush_47 dX11_enter_140 ?_
    refine k_laldK (pc := 142) (v := (x_11 47)) C 1 1 rfl rfl (k_vinc 47 cl_47 (by decide) (by decide)) cl_47 (upnL (by decide) (upnL (kIn.ne (kIn.add (kIn.add (kIn.lit (x := 162) (n := 162) (by decide)) (kIn.mul (n := 3) (by decide) (by decide) (kIn.l2i hj_12 (by decide) (by decide)) (by decide) (by decide)) (by decide) (by decide)) (kIn.lit (x := 2) (n := 2) (by decide)) (by decide) (by decide)) (by decide) (by decide)) (upnL (kIn.ne (kIn.add (kIn.add (kIn.lit (x := 162) (n := 162) (by decide)) (kIn.mul (n := 3) (by decide) (by decide) (kIn.l2i hj_12 (by decide) (by decide)) (by decide) (by decide)) (by decide) (by decide)) (kIn.lit (x := 1) (n := 1) (by decide)) (by decide) (by decide)) (by decide) (by decide)) (upnL (kIn.ne (kIn.add (kIn.lit (x := 162) (n := 162) (by decide)) (kIn.mul (n := 3) (by decide) (by decide) (kIn.l2i hj_12 (by decide) (by decide)) (by decide) (by decide)) (by decide) (by decide)) (by decide) (by decide)) rfl)))) dX11_enter_142 ?_
    refine k_lmul (pc := 143) C dX11_enter_143 ?_
    refine k_ldc2 (pc := 144) C q_996 dX11_enter_144 ?_
    refine k_iload_n (pc := 147) C rfl 2 rfl dX11_enter_147 ?_
    refine k_i2l (pc := 148) C dX11_enter_148 ?_
    refine k_lmul (pc := 149) C dX11_enter_149 ?_
    refine k_ladd (pc := 150) C dX11_enter_150 ?_
    refine k_lload_n (pc := 151) C rfl 3 rfl dX11_enter_151 ?_
    refine k_ladd (pc := 152) C dX11_enter_152 ?_
    refine k_lastK (pc := 153) (ws2 := [(h_t, moE f_t h_t_w h_t_saved h_t_trial h_t_text h_t_told), (h_t_w, jA cJ 294 (vp_updL (vp_updL (vp_updL (vp_updL (vp_updL x_11 (Int32.toNatClampNeg (162 + (3 * (Int64.toInt32 (x_11 46))))) (Int32.toInt64 p0)) (Int32.toNatClampNeg ((162 + (3 * (Int64.toInt32 (x_11 46)))) + 1)) p1) (Int32.toNatClampNeg ((162 + (3 * (Int64.toInt32 (x_11 46)))) + 2)) (x_11 32)) 46 ((x_11 46) + 1)) 47 (((31 * (x_11 47)) + (1000 * (Int32.toInt64 p0))) + p1)))]) C 1 1 rfl rfl (k_vinc 47 cl_47 (by decide) (by decide)) cl_47 rfl dX11_enter_153 ?_
    have hs : (s_X11_enter f_t f_t_w p0 p1) = (vp_updL (vp_updL (vp_updL (vp_updL (vp_updL x_11 (Int32.toNatClampNeg (162 + (3 * (Int64.toInt32 (x_11 46))))) (Int32.toInt64 p0)) (Int32.toNatClampNeg ((162 + (3 * (Int64.toInt32 (x_11 46)))) + 1)) p1) (Int32.toNatClampNeg ((162 + (3 * (Int64.toInt32 (x_11 46)))) + 2)) (x_11 32)) 46 ((x_11 46) + 1)) 47 (((31 * (x_11 47)) + (1000 * (Int32.toInt64 p0))) + p1)) := (k_st (g := s_X11_enter_3 p0 p1) ex_11 rfl rfl)
    exact k_finV (pc := 154) hret (by rw [hs]) dX11_enter_154
  refine k_lcmp_ne (pc := 10) (tgt := 65) C dX11_enter_10 dX11_enter_11 (by decide) (fun c_1 => ?_) (fun c_1 => ?_)
  · exact K_13 f_t_w (Eq.symm (if_neg c_1)) (kInL.rw (F := f_t_w) (k := 46) rfl (kInL.neHi hf_t_w_46 c_1 (by decide)) (by decide) (by decide))
  · refine k_iconst (pc := 14) C iconst_0 dX11_enter_14 ?_
    refine k_istore (pc := 15) (lv2 := [(4, .int 0), (0, .ref h_t), (1, .int p0), (2, .long p1)]) C (by decide) rfl dX11_enter_15 ?_
    have K_14 : ∀ (m_9 : Int32 × (Nat → Int64)), m_9 = (kLoop default (b_X11_enter_L17) ((Int32.toInt 69 - Int32.toInt 0).toNat + 1) (0, f_t_w)) → kInL (m_9.2 46) 24 24 → KJ p l e (kR 0 0) s m args below meth c 0 0 Q D A 5 [(h_t, moE f_t h_t_w h_t_saved h_t_trial h_t_text h_t_told), (h_t_w, jA cJ 294 m_9.2)] [(0, .ref h_t), (1, .int p0), (2, .long p1)] [] 54 := by
      intro m_9 em_9 hx_10
      refine k_aload_n (pc := 54) C rfl 0 rfl dX11_enter_54 ?_
      refine g_X11_0 (pc := 55) C q_998 0 rfl dX11_enter_55 ?_
      refine k_bipush (pc := 58) C bipush_46 dX11_enter_58 ?_
      refine k_dup2 (pc := 60) C rfl rfl dX11_enter_60 ?_
      refine k_laldK (pc := 61) (v := (m_9.2 46)) C 1 1 rfl rfl (k_vinc 46 cl_46 (by decide) (by decide)) cl_46 rfl dX11_enter_61 ?_
      refine k_lconst (pc := 62) C lconst_1 dX11_enter_62 ?_
      refine k_lsub (pc := 63) C dX11_enter_63 ?_
      refine k_lastK (pc := 64) (ws2 := [(h_t, moE f_t h_t_w h_t_saved h_t_trial h_t_text h_t_told), (h_t_w, jA cJ 294 (vp_updL m_9.2 46 ((m_9.2 46) - 1)))]) C 1 1 rfl rfl (k_vinc 46 cl_46 (by decide) (by decide)) cl_46 rfl dX11_enter_64 ?_
      exact K_13 (vp_updL m_9.2 46 ((m_9.2 46) - 1)) (Eq.symm (k_st (g := j_X11_enter_1) em_9 (if_pos c_1) rfl)) (kInL.rw (F := (vp_updL m_9.2 46 ((m_9.2 46) - 1))) (k := 46) upsL (kInL.sub hx_10 (kInL.lit (x := 1) (n := 1) (by decide)) (by decide) (by decide)) (by decide) (by decide))
    have L_15 : ∀ (n : Nat) (z_5 : Int32 × (Nat → Int64)), (Int32.toInt 69 - Int32.toInt z_5.1).toNat < n → (kIn z_5.1 0 69) → (kInL (z_5.2 46) 24 24) → kLoop default (b_X11_enter_L17) n z_5 = (kLoop default (b_X11_enter_L17) ((Int32.toInt 69 - Int32.toInt 0).toNat + 1) (0, f_t_w)) → KJ p l e (kR 0 0) s m args below meth c 0 0 Q D A 5 [(h_t, moE f_t h_t_w h_t_saved h_t_trial h_t_text h_t_told), (h_t_w, jA cJ 294 z_5.2)] [(4, .int z_5.1), (0, .ref h_t), (1, .int p0), (2, .long p1)] [] 17 := by
      intro n
      induction n with
      | zero => intro z_5 hmu; exact absurd hmu (Nat.not_lt_zero _)
      | succ n ih =>
        intro z_5 hmu hl_6 hl_7 hR
        refine k_iload (pc := 17) C 0 rfl dX11_enter_17 ?_
        refine k_bipush (pc := 19) C bipush_69 dX11_enter_19 ?_
        refine k_icmp_ge (pc := 21) (tgt := 54) C dX11_enter_21 (by decide) (fun c_8 => ?_) (fun c_8 => ?_)
        · refine k_lpick (lv2 := [(0, .ref h_t), (1, .int p0), (2, .long p1)]) [1, 2, 3] rfl ?_
          exact K_14 (z_5.1, z_5.2) (k_lout hR (if_pos c_8)) (kInL.rw (F := z_5.2) (k := 46) rfl hl_7 (by decide) (by decide))
        · refine k_aload_n (pc := 24) C rfl 1 rfl dX11_enter_24 ?_
          refine g_X11_0 (pc := 25) C q_998 0 rfl dX11_enter_25 ?_
          refine k_sipush (pc := 28) C sipush_162 dX11_enter_28 ?_
          refine k_iload (pc := 31) C 0 rfl dX11_enter_31 ?_
          refine k_iadd (pc := 33) C dX11_enter_33 ?_
          refine k_aload_n (pc := 34) C rfl 1 rfl dX11_enter_34 ?_
          refine g_X11_0 (pc := 35) C q_998 0 rfl dX11_enter_35 ?_
          refine k_sipush (pc := 38) C sipush_162 dX11_enter_38 ?_
          refine k_iload (pc := 41) C 0 rfl dX11_enter_41 ?_
          refine k_iadd (pc := 43) C dX11_enter_43 ?_
          refine k_iconst (pc := 44) C iconst_3 dX11_enter_44 ?_
          refine k_iadd (pc := 45) C dX11_enter_45 ?_
          refine k_laldK (pc := 46) (v := (z_5.2 (Int32.toNatClampNeg ((162 + z_5.1) + 3)))) C 1 1 rfl rfl (kIn.vp (kIn.add (kIn.add (kIn.lit (x := 162) (n := 162) (by decide)) (kIn.nle (n := 69) hl_6 c_8 (by decide)) (by decide) (by decide)) (kIn.lit (x := 3) (n := 3) (by decide)) (by decide) (by decide)) (by decide) (by decide)) rfl rfl dX11_enter_46 ?_
          refine k_lastK (pc := 47) (ws2 := [(h_t, moE f_t h_t_w h_t_saved h_t_trial h_t_text h_t_told), (h_t_w, jA cJ 294 (vp_updL z_5.2 (Int32.toNatClampNeg (162 + z_5.1)) (z_5.2 (Int32.toNatClampNeg ((162 + z_5.1) + 3)))))]) C 1 1 rfl rfl (kIn.vp (kIn.add (kIn.lit (x := 162) (n := 162) (by decide)) (kIn.nle (n := 69) hl_6 c_8 (by decide)) (by decide) (by decide)) (by decide) (by decide)) rfl rfl dX11_enter_47 ?_
          refine k_iinc (pc := 48) (v := (z_5.1 + 1)) (lv2 := [(4, .int (z_5.1 + 1)), (0, .ref h_t), (1, .int p0), (2, .long p1)]) C 0 rfl rfl (by decide) rfl dX11_enter_48 ?_
          refine k_goto (pc := 51) (tgt := 17) C (by decide) dX11_enter_51 ?_
          exact ih ((z_5.1 + 1), (vp_updL z_5.2 (Int32.toNatClampNeg (162 + z_5.1)) (z_5.2 (Int32.toNatClampNeg ((162 + z_5.1) + 3))))) (k_dec (k_nle c_8) hmu) (kIn.wk (kIn.add (kIn.nle (n := 69) hl_6 c_8 (by decide)) (kIn.lit (x := 1) (n := 1) (by decide)) (by decide) (by decide)) (by decide) (by decide)) (kInL.rw (F := (vp_updL z_5.2 (Int32.toNatClampNeg (162 + z_5.1)) (z_5.2 (Int32.toNatClampNeg ((162 + z_5.1) + 3))))) (k := 46) (upnL (kIn.ne (kIn.add (kIn.lit (x := 162) (n := 162) (by decide)) (kIn.nle (n := 69) hl_6 c_8 (by decide)) (by decide) (by decide)) (by decide) (by decide)) rfl) hl_7 (by decide) (by decide)) (k_lin hR (if_neg c_8))
    exact L_15 ((Int32.toInt 69 - Int32.toInt 0).toNat + 1) (0, f_t_w) (Nat.lt_succ_self _) (kIn.wk (kIn.lit (x := 0) (n := 0) (by decide)) (by decide) (by decide)) (kInL.rw (F := f_t_w) (k := 46) rfl (kInL.eq (n := 24) c_1 (by decide)) (by decide) (by decide)) rfl
