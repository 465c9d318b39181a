theorem dX11_thrown_0 : decode cX11_thrown 0 = .ok (.aload_n 0, 1) := by decide +kernel
theorem dX11_thrown_1 : decode cX11_thrown 1 = .ok (.getfield 50, 3) := by decide +kernel
theorem dX11_thrown_4 : decode cX11_thrown 4 = .ok (.ireturn, 1) := by decide +kernel
def s_X11_thrown (f_t : Nat → Int32) : Int32 :=
  (f_t 7)
set_option maxRecDepth 100000 in
set_option maxHeartbeats 4000000 in
theorem c_X11_thrown (l : Launch) (D : va_G) (cI cJ cO : ClassId) (h_t : Nat) (h_t_w : Nat) (h_t_saved : Nat) (h_t_trial : Nat) (h_t_text : Nat) (h_t_told : Nat) (f_t : Nat → Int32) : kI l yX11_thrown cX11_thrown 1 .int 0 0 D (kT cI cJ cO) [.ref h_t] [(h_t, moE f_t h_t_w h_t_saved h_t_trial h_t_text h_t_told)] (s_X11_thrown f_t) [(h_t, moE f_t h_t_w h_t_saved h_t_trial h_t_text h_t_told)] := by
  refine kI_of (own := RX11) (lv := [(0, .ref h_t)]) rfl rfl (by decide) (Nat.le_of_ble_eq_true rfl) ?_
  intro p e s m args below meth c Q A C hret
  refine k_aload_n (pc := 0) C rfl 0 rfl dX11_thrown_0 ?_
  refine g_X11_7 (pc := 1) (x := (f_t 7)) C q_1011 0 rfl rfl dX11_thrown_1 ?_
  have hs : (s_X11_thrown f_t) = (f_t 7) := rfl
  exact k_finI (pc := 4) hret rfl (by rw [hs]) rfl dX11_thrown_4

theorem dX11_refuse_0 : decode cX11_refuse 0 = .ok (.aload_n 0, 1) := by decide +kernel
theorem dX11_refuse_1 : decode cX11_refuse 1 = .ok (.iload_n 1, 1) := by decide +kernel
theorem dX11_refuse_2 : decode cX11_refuse 2 = .ok (.putfield 50, 3) := by decide +kernel
theorem dX11_refuse_5 : decode cX11_refuse 5 = .ok (.iconst 0, 1) := by decide +kernel
theorem dX11_refuse_6 : decode cX11_refuse 6 = .ok (.ireturn, 1) := by decide +kernel
def s_X11_refuse (f_t : Nat → Int32) (p0 : Int32) : Int32 × (Nat → Int32) :=
  (0, (upd f_t 7 p0))
set_option maxRecDepth 100000 in
set_option maxHeartbeats 4000000 in
theorem c_X11_refuse (l : Launch) (D : va_G) (cI cJ cO : ClassId) (h_t : Nat) (h_t_w : Nat) (h_t_saved : Nat) (h_t_trial : Nat) (h_t_text : Nat) (h_t_told : Nat) (f_t : Nat → Int32) (p0 : Int32) : kI l yX11_refuse cX11_refuse 2 .int 0 0 D (kT cI cJ cO) [.ref h_t, .int p0] [(h_t, moE f_t h_t_w h_t_saved h_t_trial h_t_text h_t_told)] ((s_X11_refuse f_t p0).1) [(h_t, moE (s_X11_refuse f_t p0).2 h_t_w h_t_saved h_t_trial h_t_text h_t_told)] := by
  refine kI_of (own := RX11) (lv := [(0, .ref h_t), (1, .int p0)]) rfl rfl (by decide) (Nat.le_of_ble_eq_true rfl) ?_
  intro p e s m args below meth c Q A C hret
  refine k_aload_n (pc := 0) C rfl 0 rfl dX11_refuse_0 ?_
  refine k_iload_n (pc := 1) C rfl 1 rfl dX11_refuse_1 ?_
  refine p_X11_7 (pc := 2) (ws2 := [(h_t, moE (upd f_t 7 p0) h_t_w h_t_saved h_t_trial h_t_text h_t_told)]) C q_1011 0 rfl rfl dX11_refuse_2 ?_
  refine k_iconst (pc := 5) C iconst_0 dX11_refuse_5 ?_
  have hs : (s_X11_refuse f_t p0) = (0, (upd f_t 7 p0)) := rfl
  exact k_finI (pc := 6) hret rfl (by rw [hs]) (by rw [hs]) dX11_refuse_6

theorem dX11_in_0 : decode cX11_in 0 = .ok (.lload_n 0, 1) := by decide +kernel
theorem dX11_in_1 : decode cX11_in 1 = .ok (.lload_n 2, 1) := by decide +kernel
theorem dX11_in_2 : decode cX11_in 2 = .ok (.lcmp, 1) := by decide +kernel
theorem dX11_in_3 : decode cX11_in 3 = .ok (.ifCond .lt 14, 3) := by decide +kernel
theorem dX11_in_6 : decode cX11_in 6 = .ok (.lload_n 0, 1) := by decide +kernel
theorem dX11_in_7 : decode cX11_in 7 = .ok (.lload 4, 2) := by decide +kernel
theorem dX11_in_9 : decode cX11_in 9 = .ok (.lcmp, 1) := by decide +kernel
theorem dX11_in_10 : decode cX11_in 10 = .ok (.ifCond .gt 7, 3) := by decide +kernel
theorem dX11_in_13 : decode cX11_in 13 = .ok (.iconst 1, 1) := by decide +kernel
theorem dX11_in_14 : decode cX11_in 14 = .ok (.goto 4, 3) := by decide +kernel
theorem dX11_in_17 : decode cX11_in 17 = .ok (.iconst 0, 1) := by decide +kernel
theorem dX11_in_18 : decode cX11_in 18 = .ok (.ireturn, 1) := by decide +kernel
def s_X11_in (p0 : Int64) (p1 : Int64) (p2 : Int64) : Int32 :=
  (if p0 < p1 then 0 else (if p2 < p0 then 0 else 1))
set_option maxRecDepth 100000 in
set_option maxHeartbeats 4000000 in
theorem c_X11_in (l : Launch) (D : va_G) (cI cJ cO : ClassId) (p0 : Int64) (p1 : Int64) (p2 : Int64) : kI l yX11_in cX11_in 6 .boolean 0 0 D (kT cI cJ cO) [.long p0, .long p1, .long p2] [] (s_X11_in p0 p1 p2) [] := by
  refine kI_of (own := RX11) (lv := [(0, .long p0), (2, .long p1), (4, .long p2)]) rfl rfl (by decide) (Nat.le_of_ble_eq_true rfl) ?_
  intro p e s m args below meth c Q A C hret
  refine k_lload_n (pc := 0) C rfl 0 rfl dX11_in_0 ?_
  refine k_lload_n (pc := 1) C rfl 1 rfl dX11_in_1 ?_
  refine k_lcmp_lt (pc := 2) (tgt := 17) C dX11_in_2 dX11_in_3 (by decide) (fun c_1 => ?_) (fun c_1 => ?_)
  · refine k_iconst (pc := 17) C iconst_0 dX11_in_17 ?_
    have hs : (s_X11_in p0 p1 p2) = 0 := (if_pos c_1)
    exact k_finI (pc := 18) hret rfl (by rw [hs]) rfl dX11_in_18
  · refine k_lload_n (pc := 6) C rfl 0 rfl dX11_in_6 ?_
    refine k_lload (pc := 7) C 2 rfl dX11_in_7 ?_
    refine k_lcmp_gt (pc := 9) (tgt := 17) C dX11_in_9 dX11_in_10 (by decide) (fun c_2 => ?_) (fun c_2 => ?_)
    · refine k_iconst (pc := 17) C iconst_0 dX11_in_17 ?_
      have hs : (s_X11_in p0 p1 p2) = 0 := ((if_neg c_1).trans (if_pos c_2))
      exact k_finI (pc := 18) hret rfl (by rw [hs]) rfl dX11_in_18
    · refine k_iconst (pc := 13) C iconst_1 dX11_in_13 ?_
      refine k_goto (pc := 14) (tgt := 18) C (by decide) dX11_in_14 ?_
      have hs : (s_X11_in p0 p1 p2) = 1 := ((if_neg c_1).trans (if_neg c_2))
      exact k_finI (pc := 18) hret rfl (by rw [hs]) rfl dX11_in_18
theorem b_X11_in (p0 : Int64) (p1 : Int64) (p2 : Int64) : kb (s_X11_in p0 p1 p2) := by
  unfold s_X11_in
  repeat' first | with_reducible exact kb0 | with_reducible exact kb1 | with_reducible refine k_bif ?_ ?_ | with_reducible refine k_bif0 ?_ ?_

theorem dX11_within_0 : decode cX11_within 0 = .ok (.lload_n 0, 1) := by decide +kernel
theorem dX11_within_1 : decode cX11_within 1 = .ok (.lload_n 2, 1) := by decide +kernel
theorem dX11_within_2 : decode cX11_within 2 = .ok (.lcmp, 1) := by decide +kernel
theorem dX11_within_3 : decode cX11_within 3 = .ok (.ifCond .ge 7, 3) := by decide +kernel
theorem dX11_within_6 : decode cX11_within 6 = .ok (.lload_n 2, 1) := by decide +kernel
theorem dX11_within_7 : decode cX11_within 7 = .ok (.goto 16, 3) := by decide +kernel
theorem dX11_within_10 : decode cX11_within 10 = .ok (.lload_n 0, 1) := by decide +kernel
theorem dX11_within_11 : decode cX11_within 11 = .ok (.lload 4, 2) := by decide +kernel
theorem dX11_within_13 : decode cX11_within 13 = .ok (.lcmp, 1) := by decide +kernel
theorem dX11_within_14 : decode cX11_within 14 = .ok (.ifCond .le 8, 3) := by decide +kernel
theorem dX11_within_17 : decode cX11_within 17 = .ok (.lload 4, 2) := by decide +kernel
theorem dX11_within_19 : decode cX11_within 19 = .ok (.goto 4, 3) := by decide +kernel
theorem dX11_within_22 : decode cX11_within 22 = .ok (.lload_n 0, 1) := by decide +kernel
theorem dX11_within_23 : decode cX11_within 23 = .ok (.lreturn, 1) := by decide +kernel
def s_X11_within (p0 : Int64) (p1 : Int64) (p2 : Int64) : Int64 :=
  (if p1 ≤ p0 then (if p0 ≤ p2 then p0 else p2) else p1)
set_option maxRecDepth 100000 in
set_option maxHeartbeats 4000000 in
theorem c_X11_within (l : Launch) (D : va_G) (cI cJ cO : ClassId) (p0 : Int64) (p1 : Int64) (p2 : Int64) : kL l yX11_within cX11_within 6 .long 0 0 D (kT cI cJ cO) [.long p0, .long p1, .long p2] [] (s_X11_within p0 p1 p2) [] := by
  refine kL_of (own := RX11) (lv := [(0, .long p0), (2, .long p1), (4, .long p2)]) rfl rfl (by decide) (Nat.le_of_ble_eq_true rfl) ?_
  intro p e s m args below meth c Q A C hret
  refine k_lload_n (pc := 0) C rfl 0 rfl dX11_within_0 ?_
  refine k_lload_n (pc := 1) C rfl 1 rfl dX11_within_1 ?_
  refine k_lcmp_ge (pc := 2) (tgt := 10) C dX11_within_2 dX11_within_3 (by decide) (fun c_1 => ?_) (fun c_1 => ?_)
  · refine k_lload_n (pc := 10) C rfl 0 rfl dX11_within_10 ?_
    refine k_lload (pc := 11) C 2 rfl dX11_within_11 ?_
    refine k_lcmp_le (pc := 13) (tgt := 22) C dX11_within_13 dX11_within_14 (by decide) (fun c_2 => ?_) (fun c_2 => ?_)
    · refine k_lload_n (pc := 22) C rfl 0 rfl dX11_within_22 ?_
      have hs : (s_X11_within p0 p1 p2) = p0 := ((if_pos c_1).trans (if_pos c_2))
      exact k_finL (pc := 23) hret (by rw [hs]) rfl dX11_within_23
    · refine k_lload (pc := 17) C 2 rfl dX11_within_17 ?_
      refine k_goto (pc := 19) (tgt := 23) C (by decide) dX11_within_19 ?_
      have hs : (s_X11_within p0 p1 p2) = p2 := ((if_pos c_1).trans (if_neg c_2))
      exact k_finL (pc := 23) hret (by rw [hs]) rfl dX11_within_23
  · refine k_lload_n (pc := 6) C rfl 1 rfl dX11_within_6 ?_
    refine k_goto (pc := 7) (tgt := 23) C (by decide) dX11_within_7 ?_
    have hs : (s_X11_within p0 p1 p2) = p1 := (if_neg c_1)
    exact k_finL (pc := 23) hret (by rw [hs]) rfl dX11_within_23

theorem dX11_size_0 : decode cX11_size 0 = .ok (.lload_n 0, 1) := by decide +kernel
theorem dX11_size_1 : decode cX11_size 1 = .ok (.lconst 0, 1) := by decide +kernel
theorem dX11_size_2 : decode cX11_size 2 = .ok (.lcmp, 1) := by decide +kernel
theorem dX11_size_3 : decode cX11_size 3 = .ok (.ifCond .ge 8, 3) := by decide +kernel
theorem dX11_size_6 : decode cX11_size 6 = .ok (.lload_n 0, 1) := by decide +kernel
theorem dX11_size_7 : decode cX11_size 7 = .ok (.lneg, 1) := by decide +kernel
theorem dX11_size_8 : decode cX11_size 8 = .ok (.goto 4, 3) := by decide +kernel
theorem dX11_size_11 : decode cX11_size 11 = .ok (.lload_n 0, 1) := by decide +kernel
theorem dX11_size_12 : decode cX11_size 12 = .ok (.lreturn, 1) := by decide +kernel
def s_X11_size (p0 : Int64) : Int64 :=
  (if 0 ≤ p0 then p0 else (-p0))
set_option maxRecDepth 100000 in
set_option maxHeartbeats 4000000 in
theorem c_X11_size (l : Launch) (D : va_G) (cI cJ cO : ClassId) (p0 : Int64) : kL l yX11_size cX11_size 2 .long 0 0 D (kT cI cJ cO) [.long p0] [] (s_X11_size p0) [] := by
  refine kL_of (own := RX11) (lv := [(0, .long p0)]) rfl rfl (by decide) (Nat.le_of_ble_eq_true rfl) ?_
  intro p e s m args below meth c Q A C hret
  refine k_lload_n (pc := 0) C rfl 0 rfl dX11_size_0 ?_
  refine k_lconst (pc := 1) C lconst_0 dX11_size_1 ?_
  refine k_lcmp_ge (pc := 2) (tgt := 11) C dX11_size_2 dX11_size_3 (by decide) (fun c_1 => ?_) (fun c_1 => ?_)
  · refine k_lload_n (pc := 11) C rfl 0 rfl dX11_size_11 ?_
    have hs : (s_X11_size p0) = p0 := (if_pos c_1)
    exact k_finL (pc := 12) hret (by rw [hs]) rfl dX11_size_12
  · refine k_lload_n (pc := 6) C rfl 0 rfl dX11_size_6 ?_
    refine k_lneg (pc := 7) C dX11_size_7 ?_
    refine k_goto (pc := 8) (tgt := 12) C (by decide) dX11_size_8 ?_
    have hs : (s_X11_size p0) = (-p0) := (if_neg c_1)
    exact k_finL (pc := 12) hret (by rw [hs]) rfl dX11_size_12

theorem dX11_least_0 : decode cX11_least 0 = .ok (.iload_n 0, 1) := by decide +kernel
theorem dX11_least_1 : decode cX11_least 1 = .ok (.iconst 4, 1) := by decide +kernel
theorem dX11_least_2 : decode cX11_least 2 = .ok (.if_icmp .ge 7, 3) := by decide +kernel
theorem dX11_least_5 : decode cX11_least 5 = .ok (.iconst 1, 1) := by decide +kernel
theorem dX11_least_6 : decode cX11_least 6 = .ok (.goto 16, 3) := by decide +kernel
theorem dX11_least_9 : decode cX11_least 9 = .ok (.iload_n 0, 1) := by decide +kernel
theorem dX11_least_10 : decode cX11_least 10 = .ok (.bipush 9, 2) := by decide +kernel
theorem dX11_least_12 : decode cX11_least 12 = .ok (.if_icmp .ne 9, 3) := by decide +kernel
theorem dX11_least_15 : decode cX11_least 15 = .ok (.sipush (-200), 3) := by decide +kernel
theorem dX11_least_18 : decode cX11_least 18 = .ok (.goto 4, 3) := by decide +kernel
theorem dX11_least_21 : decode cX11_least 21 = .ok (.iconst 0, 1) := by decide +kernel
theorem dX11_least_22 : decode cX11_least 22 = .ok (.ireturn, 1) := by decide +kernel
def s_X11_least_1 (x_3 : Int32) : Int32 :=
  x_3
def s_X11_least (p0 : Int32) : Int32 :=
  (s_X11_least_1 (if 4 ≤ p0 then (if p0 = 9 then (-200) else 0) else 1))
set_option maxRecDepth 100000 in
set_option maxHeartbeats 4000000 in
theorem c_X11_least (l : Launch) (D : va_G) (cI cJ cO : ClassId) (p0 : Int32) : kI l yX11_least cX11_least 1 .int 0 0 D (kT cI cJ cO) [.int p0] [] (s_X11_least p0) [] := by
  refine kI_of (own := RX11) (lv := [(0, .int p0)]) rfl rfl (by decide) (Nat.le_of_ble_eq_true rfl) ?_
  intro p e s m args below meth c Q A C hret
  refine k_iload_n (pc := 0) C rfl 0 rfl dX11_least_0 ?_
  refine k_iconst (pc := 1) C iconst_4 dX11_least_1 ?_
  have K_4 : ∀ (x_3 : Int32), x_3 = (if 4 ≤ p0 then (if p0 = 9 then (-200) else 0) else 1) → KJ p l e (kR 0 0) s m args below meth c 0 0 Q D A 1 [] [] [.int x_3] 22 := by
    intro x_3 ex_3
    have hs : (s_X11_least p0) = x_3 := (k_st (g := s_X11_least_1) ex_3 rfl rfl)
    exact k_finI (pc := 22) hret rfl (by rw [hs]) rfl dX11_least_22
  refine k_icmp_ge (pc := 2) (tgt := 9) C dX11_least_2 (by decide) (fun c_1 => ?_) (fun c_1 => ?_)
  · refine k_iload_n (pc := 9) C rfl 0 rfl dX11_least_9 ?_
    refine k_bipush (pc := 10) C bipush_9 dX11_least_10 ?_
    refine k_icmp_ne (pc := 12) (tgt := 21) C dX11_least_12 (by decide) (fun c_2 => ?_) (fun c_2 => ?_)
    · refine k_iconst (pc := 21) C iconst_0 dX11_least_21 ?_
      refine k_lpick (lv2 := []) [] rfl ?_
      exact K_4 0 (Eq.symm ((if_pos c_1).trans (if_neg c_2)))
    · refine k_sipush (pc := 15) C sipush_m200 dX11_least_15 ?_
      refine k_goto (pc := 18) (tgt := 22) C (by decide) dX11_least_18 ?_
      refine k_lpick (lv2 := []) [] rfl ?_
      exact K_4 (-200) (Eq.symm ((if_pos c_1).trans (if_pos c_2)))
  · refine k_iconst (pc := 5) C iconst_1 dX11_least_5 ?_
    refine k_goto (pc := 6) (tgt := 22) C (by decide) dX11_least_6 ?_
    refine k_lpick (lv2 := []) [] rfl ?_
    exact K_4 1 (Eq.symm (if_neg c_1))

theorem dX11_most_0 : decode cX11_most 0 = .ok (.iload_n 0, 1) := by decide +kernel
theorem dX11_most_1 : decode cX11_most 1 = .ok (.tableswitch 68 4 11 #[47, 47, 50, 53, 57, 60, 64, 64], 47) := by decide +kernel
theorem dX11_most_48 : decode cX11_most 48 = .ok (.bipush 20, 2) := by decide +kernel
theorem dX11_most_50 : decode cX11_most 50 = .ok (.ireturn, 1) := by decide +kernel
theorem dX11_most_51 : decode cX11_most 51 = .ok (.bipush 100, 2) := by decide +kernel
theorem dX11_most_53 : decode cX11_most 53 = .ok (.ireturn, 1) := by decide +kernel
theorem dX11_most_54 : decode cX11_most 54 = .ok (.sipush 200, 3) := by decide +kernel
theorem dX11_most_57 : decode cX11_most 57 = .ok (.ireturn, 1) := by decide +kernel
theorem dX11_most_58 : decode cX11_most 58 = .ok (.bipush 30, 2) := by decide +kernel
theorem dX11_most_60 : decode cX11_most 60 = .ok (.ireturn, 1) := by decide +kernel
theorem dX11_most_61 : decode cX11_most 61 = .ok (.sipush 500, 3) := by decide +kernel
theorem dX11_most_64 : decode cX11_most 64 = .ok (.ireturn, 1) := by decide +kernel
theorem dX11_most_65 : decode cX11_most 65 = .ok (.sipush 1000, 3) := by decide +kernel
theorem dX11_most_68 : decode cX11_most 68 = .ok (.ireturn, 1) := by decide +kernel
theorem dX11_most_69 : decode cX11_most 69 = .ok (.bipush 50, 2) := by decide +kernel
theorem dX11_most_71 : decode cX11_most 71 = .ok (.ireturn, 1) := by decide +kernel
def s_X11_most (p0 : Int32) : Int32 :=
  (if p0 = 4 then 20 else (if p0 = 5 then 20 else (if p0 = 6 then 100 else (if p0 = 7 then 200 else (if p0 = 8 then 30 else (if p0 = 9 then 500 else (if p0 = 10 then 1000 else (if p0 = 11 then 1000 else 50))))))))
set_option maxRecDepth 100000 in
set_option maxHeartbeats 4000000 in
theorem c_X11_most (l : Launch) (D : va_G) (cI cJ cO : ClassId) (p0 : Int32) : kI l yX11_most cX11_most 1 .int 0 0 D (kT cI cJ cO) [.int p0] [] (s_X11_most p0) [] := by
  refine kI_of (own := RX11) (lv := [(0, .int p0)]) rfl rfl (by decide) (Nat.le_of_ble_eq_true rfl) ?_
  intro p e s m args below meth c Q A C hret
  refine k_iload_n (pc := 0) C rfl 0 rfl dX11_most_0 ?_
  by_cases c_1 : p0 = 4
  · refine k_tsIn (pc := 1) (tgt := 48) C 4 c_1 (by decide) (by decide) rfl (by decide) dX11_most_1 ?_
    refine k_bipush (pc := 48) C bipush_20 dX11_most_48 ?_
    have hs : (s_X11_most p0) = 20 := (if_pos c_1)
    exact k_finI (pc := 50) hret rfl (by rw [hs]) rfl dX11_most_50
  · by_cases c_2 : p0 = 5
    · refine k_tsIn (pc := 1) (tgt := 48) C 5 c_2 (by decide) (by decide) rfl (by decide) dX11_most_1 ?_
      refine k_bipush (pc := 48) C bipush_20 dX11_most_48 ?_
      have hs : (s_X11_most p0) = 20 := ((if_neg c_1).trans (if_pos c_2))
      exact k_finI (pc := 50) hret rfl (by rw [hs]) rfl dX11_most_50
    · by_cases c_3 : p0 = 6
      · refine k_tsIn (pc := 1) (tgt := 51) C 6 c_3 (by decide) (by decide) rfl (by decide) dX11_most_1 ?_
        refine k_bipush (pc := 51) C bipush_100 dX11_most_51 ?_
        have hs : (s_X11_most p0) = 100 := ((if_neg c_1).trans ((if_neg c_2).trans (if_pos c_3)))
        exact k_finI (pc := 53) hret rfl (by rw [hs]) rfl dX11_most_53
      · by_cases c_4 : p0 = 7
        · refine k_tsIn (pc := 1) (tgt := 54) C 7 c_4 (by decide) (by decide) rfl (by decide) dX11_most_1 ?_
          refine k_sipush (pc := 54) C sipush_200 dX11_most_54 ?_
          have hs : (s_X11_most p0) = 200 := ((if_neg c_1).trans ((if_neg c_2).trans ((if_neg c_3).trans (if_pos c_4))))
          exact k_finI (pc := 57) hret rfl (by rw [hs]) rfl dX11_most_57
        · by_cases c_5 : p0 = 8
          · refine k_tsIn (pc := 1) (tgt := 58) C 8 c_5 (by decide) (by decide) rfl (by decide) dX11_most_1 ?_
            refine k_bipush (pc := 58) C bipush_30 dX11_most_58 ?_
            have hs : (s_X11_most p0) = 30 := ((if_neg c_1).trans ((if_neg c_2).trans ((if_neg c_3).trans ((if_neg c_4).trans (if_pos c_5)))))
            exact k_finI (pc := 60) hret rfl (by rw [hs]) rfl dX11_most_60
          · by_cases c_6 : p0 = 9
            · refine k_tsIn (pc := 1) (tgt := 61) C 9 c_6 (by decide) (by decide) rfl (by decide) dX11_most_1 ?_
              refine k_sipush (pc := 61) C sipush_500 dX11_most_61 ?_
              have hs : (s_X11_most p0) = 500 := ((if_neg c_1).trans ((if_neg c_2).trans ((if_neg c_3).trans ((if_neg c_4).trans ((if_neg c_5).trans (if_pos c_6))))))
              exact k_finI (pc := 64) hret rfl (by rw [hs]) rfl dX11_most_64
            · by_cases c_7 : p0 = 10
              · refine k_tsIn (pc := 1) (tgt := 65) C 10 c_7 (by decide) (by decide) rfl (by decide) dX11_most_1 ?_
                refine k_sipush (pc := 65) C sipush_1000 dX11_most_65 ?_
                have hs : (s_X11_most p0) = 1000 := ((if_neg c_1).trans ((if_neg c_2).trans ((if_neg c_3).trans ((if_neg c_4).trans ((if_neg c_5).trans ((if_neg c_6).trans (if_pos c_7)))))))
                exact k_finI (pc := 68) hret rfl (by rw [hs]) rfl dX11_most_68
              · by_cases c_8 : p0 = 11
                · refine k_tsIn (pc := 1) (tgt := 65) C 11 c_8 (by decide) (by decide) rfl (by decide) dX11_most_1 ?_
                  refine k_sipush (pc := 65) C sipush_1000 dX11_most_65 ?_
                  have hs : (s_X11_most p0) = 1000 := ((if_neg c_1).trans ((if_neg c_2).trans ((if_neg c_3).trans ((if_neg c_4).trans ((if_neg c_5).trans ((if_neg c_6).trans ((if_neg c_7).trans (if_pos c_8))))))))
                  exact k_finI (pc := 68) hret rfl (by rw [hs]) rfl dX11_most_68
                · refine k_tsOut (pc := 1) (tgt := 69) C (by have z0 := k_ne (k := 4) c_1 (by decide); have z1 := k_ne (k := 5) c_2 (by decide); have z2 := k_ne (k := 6) c_3 (by decide); have z3 := k_ne (k := 7) c_4 (by decide); have z4 := k_ne (k := 8) c_5 (by decide); have z5 := k_ne (k := 9) c_6 (by decide); have z6 := k_ne (k := 10) c_7 (by decide); have z7 := k_ne (k := 11) c_8 (by decide); omega) (by decide) dX11_most_1 ?_
                  refine k_bipush (pc := 69) C bipush_50 dX11_most_69 ?_
                  have hs : (s_X11_most p0) = 50 := ((if_neg c_1).trans ((if_neg c_2).trans ((if_neg c_3).trans ((if_neg c_4).trans ((if_neg c_5).trans ((if_neg c_6).trans ((if_neg c_7).trans (if_neg c_8))))))))
                  exact k_finI (pc := 71) hret rfl (by rw [hs]) rfl dX11_most_71

theorem dX11_runs_0 : decode cX11_runs 0 = .ok (.aload_n 0, 1) := by decide +kernel
theorem dX11_runs_1 : decode cX11_runs 1 = .ok (.getfield 7, 3) := by decide +kernel
theorem dX11_runs_4 : decode cX11_runs 4 = .ok (.bipush 33, 2) := by decide +kernel
theorem dX11_runs_6 : decode cX11_runs 6 = .ok (.laload, 1) := by decide +kernel
theorem dX11_runs_7 : decode cX11_runs 7 = .ok (.lconst 1, 1) := by decide +kernel
theorem dX11_runs_8 : decode cX11_runs 8 = .ok (.lcmp, 1) := by decide +kernel
theorem dX11_runs_9 : decode cX11_runs 9 = .ok (.ifCond .eq 17, 3) := by decide +kernel
theorem dX11_runs_12 : decode cX11_runs 12 = .ok (.aload_n 0, 1) := by decide +kernel
theorem dX11_runs_13 : decode cX11_runs 13 = .ok (.getfield 7, 3) := by decide +kernel
theorem dX11_runs_16 : decode cX11_runs 16 = .ok (.bipush 33, 2) := by decide +kernel
theorem dX11_runs_18 : decode cX11_runs 18 = .ok (.laload, 1) := by decide +kernel
theorem dX11_runs_19 : decode cX11_runs 19 = .ok (.ldc2_w 32, 3) := by decide +kernel
theorem dX11_runs_22 : decode cX11_runs 22 = .ok (.lcmp, 1) := by decide +kernel
theorem dX11_runs_23 : decode cX11_runs 23 = .ok (.ifCond .ne 7, 3) := by decide +kernel
theorem dX11_runs_26 : decode cX11_runs 26 = .ok (.iconst 1, 1) := by decide +kernel
theorem dX11_runs_27 : decode cX11_runs 27 = .ok (.goto 4, 3) := by decide +kernel
theorem dX11_runs_30 : decode cX11_runs 30 = .ok (.iconst 0, 1) := by decide +kernel
theorem dX11_runs_31 : decode cX11_runs 31 = .ok (.ireturn, 1) := by decide +kernel
def s_X11_runs (f_t : Nat → Int32) (f_t_w : Nat → Int64) : Int32 :=
  (if (f_t_w 33) = 1 then 1 else (if (f_t_w 33) = 2 then 1 else 0))
set_option maxRecDepth 100000 in
set_option maxHeartbeats 4000000 in
theorem c_X11_runs (l : Launch) (D : va_G) (cI cJ cO : ClassId) (h_t : Nat) (h_t_w : Nat) (h_t_saved : Nat) (h_t_trial : Nat) (h_t_text : Nat) (h_t_told : Nat) (f_t : Nat → Int32) (f_t_w : Nat → Int64) : kI l yX11_runs cX11_runs 1 .boolean 0 0 D (kT cI cJ cO) [.ref h_t] [(h_t, moE f_t h_t_w h_t_saved h_t_trial h_t_text h_t_told), (h_t_w, jA cJ 294 f_t_w)] (s_X11_runs f_t f_t_w) [(h_t, moE f_t h_t_w h_t_saved h_t_trial h_t_text h_t_told), (h_t_w, jA cJ 294 f_t_w)] := by
  refine kI_of (own := RX11) (lv := [(0, .ref h_t)]) rfl rfl (by decide) (Nat.le_of_ble_eq_true rfl) ?_
  intro p e s m args below meth c Q A C hret
  refine k_aload_n (pc := 0) C rfl 0 rfl dX11_runs_0 ?_
  refine g_X11_0 (pc := 1) C q_1004 0 rfl dX11_runs_1 ?_
  refine k_bipush (pc := 4) C bipush_33 dX11_runs_4 ?_
  refine k_laldK (pc := 6) (v := (f_t_w 33)) C 1 1 rfl rfl (k_vinc 33 cl_33 (by decide) (by decide)) cl_33 rfl dX11_runs_6 ?_
  refine k_lconst (pc := 7) C lconst_1 dX11_runs_7 ?_
  refine k_lcmp_eq (pc := 8) (tgt := 26) C dX11_runs_8 dX11_runs_9 (by decide) (fun c_1 => ?_) (fun c_1 => ?_)
  · refine k_iconst (pc := 26) C iconst_1 dX11_runs_26 ?_
    refine k_goto (pc := 27) (tgt := 31) C (by decide) dX11_runs_27 ?_
    have hs : (s_X11_runs f_t f_t_w) = 1 := (if_pos c_1)
    exact k_finI (pc := 31) hret rfl (by rw [hs]) rfl dX11_runs_31
  · refine k_aload_n (pc := 12) C rfl 0 rfl dX11_runs_12 ?_
    refine g_X11_0 (pc := 13) C q_1004 0 rfl dX11_runs_13 ?_
    refine k_bipush (pc := 16) C bipush_33 dX11_runs_16 ?_
    refine k_laldK (pc := 18) (v := (f_t_w 33)) C 1 1 rfl rfl (k_vinc 33 cl_33 (by decide) (by decide)) cl_33 rfl dX11_runs_18 ?_
    refine k_ldc2 (pc := 19) C q_995 dX11_runs_19 ?_
    refine k_lcmp_ne (pc := 22) (tgt := 30) C dX11_runs_22 dX11_runs_23 (by decide) (fun c_2 => ?_) (fun c_2 => ?_)
    · refine k_iconst (pc := 30) C iconst_0 dX11_runs_30 ?_
      have hs : (s_X11_runs f_t f_t_w) = 0 := ((if_neg c_1).trans (if_neg c_2))
      exact k_finI (pc := 31) hret rfl (by rw [hs]) rfl dX11_runs_31
    · refine k_iconst (pc := 26) C iconst_1 dX11_runs_26 ?_
      refine k_goto (pc := 27) (tgt := 31) C (by decide) dX11_runs_27 ?_
      have hs : (s_X11_runs f_t f_t_w) = 1 := ((if_neg c_1).trans (if_pos c_2))
      exact k_finI (pc := 31) hret rfl (by rw [hs]) rfl dX11_runs_31
theorem b_X11_runs (f_t : Nat → Int32) (f_t_w : Nat → Int64) : kb (s_X11_runs f_t f_t_w) := by
  unfold s_X11_runs
  repeat' first | with_reducible exact kb0 | with_reducible exact kb1 | with_reducible refine k_bif ?_ ?_ | with_reducible refine k_bif0 ?_ ?_

theorem dX11_isTemperature_0 : decode cX11_isTemperature 0 = .ok (.iload_n 0, 1) := by decide +kernel
theorem dX11_isTemperature_1 : decode cX11_isTemperature 1 = .ok (.i2l, 1) := by decide +kernel
theorem dX11_isTemperature_2 : decode cX11_isTemperature 2 = .ok (.ldc2_w 82, 3) := by decide +kernel
theorem dX11_isTemperature_5 : decode cX11_isTemperature 5 = .ok (.ldc2_w 84, 3) := by decide +kernel
theorem dX11_isTemperature_8 : decode cX11_isTemperature 8 = .ok (.invokestatic 63, 3) := by decide +kernel
theorem dX11_isTemperature_11 : decode cX11_isTemperature 11 = .ok (.ireturn, 1) := by decide +kernel
def s_X11_isTemperature (p0 : Int32) : Int32 :=
  (s_X11_in (p0.toInt64) (-400) 1800)
set_option maxRecDepth 100000 in
set_option maxHeartbeats 4000000 in
theorem c_X11_isTemperature (l : Launch) (D : va_G) (cI cJ cO : ClassId) (p0 : Int32) : kI l yX11_isTemperature cX11_isTemperature 1 .boolean 1 25 D (kT cI cJ cO) [.int p0] [] (s_X11_isTemperature p0) [] := by
  refine kI_of (own := RX11) (lv := [(0, .int p0)]) rfl rfl (by decide) (Nat.le_of_ble_eq_true rfl) ?_
  intro p e s m args below meth c Q A C hret
  refine k_iload_n (pc := 0) C rfl 0 rfl dX11_isTemperature_0 ?_
  refine k_i2l (pc := 1) C dX11_isTemperature_1 ?_
  refine k_ldc2 (pc := 2) C q_1086 dX11_isTemperature_2 ?_
  refine k_ldc2 (pc := 5) C q_1087 dX11_isTemperature_5 ?_
  refine k_callSi (pc := 8) (As := [.long (p0.toInt64), .long (-400), .long 1800]) (rest := []) (r := (s_X11_in (p0.toInt64) (-400) 1800)) (wc := []) (wc2 := []) (ws2 := []) C (c_X11_in l D cI cJ cO (p0.toInt64) (-400) 1800) cws_X11_in q_1057 [] rfl rfl (by decide) rfl rfl (Nat.le_of_ble_eq_true rfl) ⟨Nat.le_of_ble_eq_true rfl, Nat.le_of_ble_eq_true rfl⟩ rfl ⟨Nat.le_refl _, Nat.le_refl _⟩ dX11_isTemperature_8 ?_
  have hs : (s_X11_isTemperature p0) = (s_X11_in (p0.toInt64) (-400) 1800) := rfl
  exact k_finI (pc := 11) hret (kb_n (b_X11_in _ _ _)) (by rw [hs]) rfl dX11_isTemperature_11
theorem b_X11_isTemperature (p0 : Int32) : kb (s_X11_isTemperature p0) := by
  unfold s_X11_isTemperature
  repeat' first | with_reducible exact kb0 | with_reducible exact kb1 | with_reducible exact b_X11_in .. | with_reducible refine k_bif ?_ ?_ | with_reducible refine k_bif0 ?_ ?_

theorem dX11_isHumidity_0 : decode cX11_isHumidity 0 = .ok (.iload_n 0, 1) := by decide +kernel
theorem dX11_isHumidity_1 : decode cX11_isHumidity 1 = .ok (.i2l, 1) := by decide +kernel
theorem dX11_isHumidity_2 : decode cX11_isHumidity 2 = .ok (.lconst 0, 1) := by decide +kernel
theorem dX11_isHumidity_3 : decode cX11_isHumidity 3 = .ok (.ldc2_w 46, 3) := by decide +kernel
theorem dX11_isHumidity_6 : decode cX11_isHumidity 6 = .ok (.invokestatic 63, 3) := by decide +kernel
theorem dX11_isHumidity_9 : decode cX11_isHumidity 9 = .ok (.ireturn, 1) := by decide +kernel
def s_X11_isHumidity (p0 : Int32) : Int32 :=
  (s_X11_in (p0.toInt64) 0 1000)
set_option maxRecDepth 100000 in
set_option maxHeartbeats 4000000 in
theorem c_X11_isHumidity (l : Launch) (D : va_G) (cI cJ cO : ClassId) (p0 : Int32) : kI l yX11_isHumidity cX11_isHumidity 1 .boolean 1 25 D (kT cI cJ cO) [.int p0] [] (s_X11_isHumidity p0) [] := by
  refine kI_of (own := RX11) (lv := [(0, .int p0)]) rfl rfl (by decide) (Nat.le_of_ble_eq_true rfl) ?_
  intro p e s m args below meth c Q A C hret
  refine k_iload_n (pc := 0) C rfl 0 rfl dX11_isHumidity_0 ?_
  refine k_i2l (pc := 1) C dX11_isHumidity_1 ?_
  refine k_lconst (pc := 2) C lconst_0 dX11_isHumidity_2 ?_
  refine k_ldc2 (pc := 3) C q_1002 dX11_isHumidity_3 ?_
  refine k_callSi (pc := 6) (As := [.long (p0.toInt64), .long 0, .long 1000]) (rest := []) (r := (s_X11_in (p0.toInt64) 0 1000)) (wc := []) (wc2 := []) (ws2 := []) C (c_X11_in l D cI cJ cO (p0.toInt64) 0 1000) cws_X11_in q_1057 [] rfl rfl (by decide) rfl rfl (Nat.le_of_ble_eq_true rfl) ⟨Nat.le_of_ble_eq_true rfl, Nat.le_of_ble_eq_true rfl⟩ rfl ⟨Nat.le_refl _, Nat.le_refl _⟩ dX11_isHumidity_6 ?_
  have hs : (s_X11_isHumidity p0) = (s_X11_in (p0.toInt64) 0 1000) := rfl
  exact k_finI (pc := 9) hret (kb_n (b_X11_in _ _ _)) (by rw [hs]) rfl dX11_isHumidity_9
theorem b_X11_isHumidity (p0 : Int32) : kb (s_X11_isHumidity p0) := by
  unfold s_X11_isHumidity
  repeat' first | with_reducible exact kb0 | with_reducible exact kb1 | with_reducible exact b_X11_in .. | with_reducible refine k_bif ?_ ?_ | with_reducible refine k_bif0 ?_ ?_

theorem dX11_goesOn_0 : decode cX11_goesOn 0 = .ok (.aload_n 0, 1) := by decide +kernel
theorem dX11_goesOn_1 : decode cX11_goesOn 1 = .ok (.invokevirtual 93, 3) := by decide +kernel
theorem dX11_goesOn_4 : decode cX11_goesOn 4 = .ok (.ifCond .eq 19, 3) := by decide +kernel
theorem dX11_goesOn_7 : decode cX11_goesOn 7 = .ok (.aload_n 0, 1) := by decide +kernel
theorem dX11_goesOn_8 : decode cX11_goesOn 8 = .ok (.getfield 7, 3) := by decide +kernel
theorem dX11_goesOn_11 : decode cX11_goesOn 11 = .ok (.bipush 34, 2) := by decide +kernel
theorem dX11_goesOn_13 : decode cX11_goesOn 13 = .ok (.laload, 1) := by decide +kernel
theorem dX11_goesOn_14 : decode cX11_goesOn 14 = .ok (.lconst 0, 1) := by decide +kernel
theorem dX11_goesOn_15 : decode cX11_goesOn 15 = .ok (.lcmp, 1) := by decide +kernel
theorem dX11_goesOn_16 : decode cX11_goesOn 16 = .ok (.ifCond .ne 7, 3) := by decide +kernel
theorem dX11_goesOn_19 : decode cX11_goesOn 19 = .ok (.iconst 1, 1) := by decide +kernel
theorem dX11_goesOn_20 : decode cX11_goesOn 20 = .ok (.goto 4, 3) := by decide +kernel
theorem dX11_goesOn_23 : decode cX11_goesOn 23 = .ok (.iconst 0, 1) := by decide +kernel
theorem dX11_goesOn_24 : decode cX11_goesOn 24 = .ok (.ireturn, 1) := by decide +kernel
def s_X11_goesOn (f_t : Nat → Int32) (f_t_w : Nat → Int64) : Int32 :=
  (if (s_X11_runs f_t f_t_w) = 0 then 0 else (if (f_t_w 34) = 0 then 1 else 0))
set_option maxRecDepth 100000 in
set_option maxHeartbeats 4000000 in
theorem c_X11_goesOn (l : Launch) (D : va_G) (cI cJ cO : ClassId) (h_t : Nat) (h_t_w : Nat) (h_t_saved : Nat) (h_t_trial : Nat) (h_t_text : Nat) (h_t_told : Nat) (f_t : Nat → Int32) (f_t_w : Nat → Int64) : kI l yX11_goesOn cX11_goesOn 1 .boolean 1 20 D (kT cI cJ cO) [.ref h_t] [(h_t, moE f_t h_t_w h_t_saved h_t_trial h_t_text h_t_told), (h_t_w, jA cJ 294 f_t_w)] (s_X11_goesOn f_t f_t_w) [(h_t, moE f_t h_t_w h_t_saved h_t_trial h_t_text h_t_told), (h_t_w, jA cJ 294 f_t_w)] := by
  refine kI_of (own := RX11) (lv := [(0, .ref h_t)]) rfl rfl (by decide) (Nat.le_of_ble_eq_true rfl) ?_
  intro p e s m args below meth c Q A C hret
  refine k_aload_n (pc := 0) C rfl 0 rfl dX11_goesOn_0 ?_
  refine k_callVi (pc := 1) (As := []) (rest := []) (r := (s_X11_runs f_t f_t_w)) (wc := [(h_t, moE f_t h_t_w h_t_saved h_t_trial h_t_text h_t_told), (h_t_w, jA cJ 294 f_t_w)]) (wc2 := [(h_t, moE f_t h_t_w h_t_saved h_t_trial h_t_text h_t_told), (h_t_w, jA cJ 294 f_t_w)]) (ws2 := [(h_t, moE f_t h_t_w h_t_saved h_t_trial h_t_text h_t_told), (h_t_w, jA cJ 294 f_t_w)]) C (c_X11_runs l D cI cJ cO h_t h_t_w h_t_saved h_t_trial h_t_text h_t_told f_t f_t_w) cwv_X11_runs q_1091 vX11 0 rfl [0, 1] rfl rfl (by decide) rfl rfl (Nat.le_of_ble_eq_true rfl) ⟨Nat.le_of_ble_eq_true rfl, Nat.le_of_ble_eq_true rfl⟩ rfl ⟨Nat.le_refl _, Nat.le_refl _⟩ dX11_goesOn_1 ?_
  refine k_if_eq (pc := 4) (tgt := 23) C dX11_goesOn_4 (by decide) (fun c_1 => ?_) (fun c_1 => ?_)
  · refine k_iconst (pc := 23) C iconst_0 dX11_goesOn_23 ?_
    have hs : (s_X11_goesOn f_t f_t_w) = 0 := (if_pos c_1)
    exact k_finI (pc := 24) hret rfl (by rw [hs]) rfl dX11_goesOn_24
  · refine k_aload_n (pc := 7) C rfl 0 rfl dX11_goesOn_7 ?_
    refine g_X11_0 (pc := 8) C q_1004 0 rfl dX11_goesOn_8 ?_
    refine k_bipush (pc := 11) C bipush_34 dX11_goesOn_11 ?_
    refine k_laldK (pc := 13) (v := (f_t_w 34)) C 1 1 rfl rfl (k_vinc 34 cl_34 (by decide) (by decide)) cl_34 rfl dX11_goesOn_13 ?_
    refine k_lconst (pc := 14) C lconst_0 dX11_goesOn_14 ?_
    refine k_lcmp_ne (pc := 15) (tgt := 23) C dX11_goesOn_15 dX11_goesOn_16 (by decide) (fun c_2 => ?_) (fun c_2 => ?_)
    · refine k_iconst (pc := 23) C iconst_0 dX11_goesOn_23 ?_
      have hs : (s_X11_goesOn f_t f_t_w) = 0 := ((if_neg c_1).trans (if_neg c_2))
      exact k_finI (pc := 24) hret rfl (by rw [hs]) rfl dX11_goesOn_24
    · refine k_iconst (pc := 19) C iconst_1 dX11_goesOn_19 ?_
      refine k_goto (pc := 20) (tgt := 24) C (by decide) dX11_goesOn_20 ?_
      have hs : (s_X11_goesOn f_t f_t_w) = 1 := ((if_neg c_1).trans (if_pos c_2))
      exact k_finI (pc := 24) hret rfl (by rw [hs]) rfl dX11_goesOn_24
theorem b_X11_goesOn (f_t : Nat → Int32) (f_t_w : Nat → Int64) : kb (s_X11_goesOn f_t f_t_w) := by
  unfold s_X11_goesOn
  repeat' first | with_reducible exact kb0 | with_reducible exact kb1 | with_reducible exact b_X11_runs .. | with_reducible refine k_bif ?_ ?_ | with_reducible refine k_bif0 ?_ ?_

theorem dX11_isWithin_0 : decode cX11_isWithin 0 = .ok (.aload_n 0, 1) := by decide +kernel
theorem dX11_isWithin_1 : decode cX11_isWithin 1 = .ok (.getfield 7, 3) := by decide +kernel
theorem dX11_isWithin_4 : decode cX11_isWithin 4 = .ok (.bipush 14, 2) := by decide +kernel
theorem dX11_isWithin_6 : decode cX11_isWithin 6 = .ok (.laload, 1) := by decide +kernel
theorem dX11_isWithin_7 : decode cX11_isWithin 7 = .ok (.aload_n 0, 1) := by decide +kernel
theorem dX11_isWithin_8 : decode cX11_isWithin 8 = .ok (.getfield 7, 3) := by decide +kernel
theorem dX11_isWithin_11 : decode cX11_isWithin 11 = .ok (.bipush 12, 2) := by decide +kernel
theorem dX11_isWithin_13 : decode cX11_isWithin 13 = .ok (.laload, 1) := by decide +kernel
theorem dX11_isWithin_14 : decode cX11_isWithin 14 = .ok (.lsub, 1) := by decide +kernel
theorem dX11_isWithin_15 : decode cX11_isWithin 15 = .ok (.invokestatic 101, 3) := by decide +kernel
theorem dX11_isWithin_18 : decode cX11_isWithin 18 = .ok (.aload_n 0, 1) := by decide +kernel
theorem dX11_isWithin_19 : decode cX11_isWithin 19 = .ok (.getfield 7, 3) := by decide +kernel
theorem dX11_isWithin_22 : decode cX11_isWithin 22 = .ok (.bipush 6, 2) := by decide +kernel
theorem dX11_isWithin_24 : decode cX11_isWithin 24 = .ok (.laload, 1) := by decide +kernel
theorem dX11_isWithin_25 : decode cX11_isWithin 25 = .ok (.lcmp, 1) := by decide +kernel
theorem dX11_isWithin_26 : decode cX11_isWithin 26 = .ok (.ifCond .gt 36, 3) := by decide +kernel
theorem dX11_isWithin_29 : decode cX11_isWithin 29 = .ok (.aload_n 0, 1) := by decide +kernel
theorem dX11_isWithin_30 : decode cX11_isWithin 30 = .ok (.getfield 7, 3) := by decide +kernel
theorem dX11_isWithin_33 : decode cX11_isWithin 33 = .ok (.bipush 15, 2) := by decide +kernel
theorem dX11_isWithin_35 : decode cX11_isWithin 35 = .ok (.laload, 1) := by decide +kernel
theorem dX11_isWithin_36 : decode cX11_isWithin 36 = .ok (.aload_n 0, 1) := by decide +kernel
theorem dX11_isWithin_37 : decode cX11_isWithin 37 = .ok (.getfield 7, 3) := by decide +kernel
theorem dX11_isWithin_40 : decode cX11_isWithin 40 = .ok (.bipush 13, 2) := by decide +kernel
theorem dX11_isWithin_42 : decode cX11_isWithin 42 = .ok (.laload, 1) := by decide +kernel
theorem dX11_isWithin_43 : decode cX11_isWithin 43 = .ok (.lsub, 1) := by decide +kernel
theorem dX11_isWithin_44 : decode cX11_isWithin 44 = .ok (.invokestatic 101, 3) := by decide +kernel
theorem dX11_isWithin_47 : decode cX11_isWithin 47 = .ok (.aload_n 0, 1) := by decide +kernel
theorem dX11_isWithin_48 : decode cX11_isWithin 48 = .ok (.getfield 7, 3) := by decide +kernel
theorem dX11_isWithin_51 : decode cX11_isWithin 51 = .ok (.bipush 7, 2) := by decide +kernel
theorem dX11_isWithin_53 : decode cX11_isWithin 53 = .ok (.laload, 1) := by decide +kernel
theorem dX11_isWithin_54 : decode cX11_isWithin 54 = .ok (.lcmp, 1) := by decide +kernel
theorem dX11_isWithin_55 : decode cX11_isWithin 55 = .ok (.ifCond .gt 7, 3) := by decide +kernel
theorem dX11_isWithin_58 : decode cX11_isWithin 58 = .ok (.iconst 1, 1) := by decide +kernel
theorem dX11_isWithin_59 : decode cX11_isWithin 59 = .ok (.goto 4, 3) := by decide +kernel
theorem dX11_isWithin_62 : decode cX11_isWithin 62 = .ok (.iconst 0, 1) := by decide +kernel
theorem dX11_isWithin_63 : decode cX11_isWithin 63 = .ok (.ireturn, 1) := by decide +kernel
def s_X11_isWithin (f_t : Nat → Int32) (f_t_w : Nat → Int64) : Int32 :=
  (if (f_t_w 6) < (s_X11_size ((f_t_w 14) - (f_t_w 12))) then 0 else (if (f_t_w 7) < (s_X11_size ((f_t_w 15) - (f_t_w 13))) then 0 else 1))
set_option maxRecDepth 100000 in
set_option maxHeartbeats 4000000 in
theorem c_X11_isWithin (l : Launch) (D : va_G) (cI cJ cO : ClassId) (h_t : Nat) (h_t_w : Nat) (h_t_saved : Nat) (h_t_trial : Nat) (h_t_text : Nat) (h_t_told : Nat) (f_t : Nat → Int32) (f_t_w : Nat → Int64) : kI l yX11_isWithin cX11_isWithin 1 .boolean 1 21 D (kT cI cJ cO) [.ref h_t] [(h_t, moE f_t h_t_w h_t_saved h_t_trial h_t_text h_t_told), (h_t_w, jA cJ 294 f_t_w)] (s_X11_isWithin f_t f_t_w) [(h_t, moE f_t h_t_w h_t_saved h_t_trial h_t_text h_t_told), (h_t_w, jA cJ 294 f_t_w)] := by
  refine kI_of (own := RX11) (lv := [(0, .ref h_t)]) rfl rfl (by decide) (Nat.le_of_ble_eq_true rfl) ?_
  intro p e s m args below meth c Q A C hret
  refine k_aload_n (pc := 0) C rfl 0 rfl dX11_isWithin_0 ?_
  refine g_X11_0 (pc := 1) C q_1004 0 rfl dX11_isWithin_1 ?_
  refine k_bipush (pc := 4) C bipush_14 dX11_isWithin_4 ?_
  refine k_laldK (pc := 6) (v := (f_t_w 14)) C 1 1 rfl rfl (k_vinc 14 cl_14 (by decide) (by decide)) cl_14 rfl dX11_isWithin_6 ?_
  refine k_aload_n (pc := 7) C rfl 0 rfl dX11_isWithin_7 ?_
  refine g_X11_0 (pc := 8) C q_1004 0 rfl dX11_isWithin_8 ?_
  refine k_bipush (pc := 11) C bipush_12 dX11_isWithin_11 ?_
  refine k_laldK (pc := 13) (v := (f_t_w 12)) C 1 1 rfl rfl (k_vinc 12 cl_12 (by decide) (by decide)) cl_12 rfl dX11_isWithin_13 ?_
  refine k_lsub (pc := 14) C dX11_isWithin_14 ?_
  refine k_callSl (pc := 15) (As := [.long ((f_t_w 14) - (f_t_w 12))]) (rest := []) (r := (s_X11_size ((f_t_w 14) - (f_t_w 12)))) (wc := []) (wc2 := []) (ws2 := [(h_t, moE f_t h_t_w h_t_saved h_t_trial h_t_text h_t_told), (h_t_w, jA cJ 294 f_t_w)]) C (c_X11_size l D cI cJ cO ((f_t_w 14) - (f_t_w 12))) cws_X11_size q_1135 [] rfl rfl (by decide) rfl rfl (Nat.le_of_ble_eq_true rfl) ⟨Nat.le_of_ble_eq_true rfl, Nat.le_of_ble_eq_true rfl⟩ rfl ⟨Nat.le_refl _, Nat.le_refl _⟩ dX11_isWithin_15 ?_
  refine k_aload_n (pc := 18) C rfl 0 rfl dX11_isWithin_18 ?_
  refine g_X11_0 (pc := 19) C q_1004 0 rfl dX11_isWithin_19 ?_
  refine k_bipush (pc := 22) C bipush_6 dX11_isWithin_22 ?_
  refine k_laldK (pc := 24) (v := (f_t_w 6)) C 1 1 rfl rfl (k_vinc 6 cl_6 (by decide) (by decide)) cl_6 rfl dX11_isWithin_24 ?_
  refine k_lcmp_gt (pc := 25) (tgt := 62) C dX11_isWithin_25 dX11_isWithin_26 (by decide) (fun c_1 => ?_) (fun c_1 => ?_)
  · refine k_iconst (pc := 62) C iconst_0 dX11_isWithin_62 ?_
    have hs : (s_X11_isWithin f_t f_t_w) = 0 := (if_pos c_1)
    exact k_finI (pc := 63) hret rfl (by rw [hs]) rfl dX11_isWithin_63
  · refine k_aload_n (pc := 29) C rfl 0 rfl dX11_isWithin_29 ?_
    refine g_X11_0 (pc := 30) C q_1004 0 rfl dX11_isWithin_30 ?_
    refine k_bipush (pc := 33) C bipush_15 dX11_isWithin_33 ?_
    refine k_laldK (pc := 35) (v := (f_t_w 15)) C 1 1 rfl rfl (k_vinc 15 cl_15 (by decide) (by decide)) cl_15 rfl dX11_isWithin_35 ?_
    refine k_aload_n (pc := 36) C rfl 0 rfl dX11_isWithin_36 ?_
    refine g_X11_0 (pc := 37) C q_1004 0 rfl dX11_isWithin_37 ?_
    refine k_bipush (pc := 40) C bipush_13 dX11_isWithin_40 ?_
    refine k_laldK (pc := 42) (v := (f_t_w 13)) C 1 1 rfl rfl (k_vinc 13 cl_13 (by decide) (by decide)) cl_13 rfl dX11_isWithin_42 ?_
    refine k_lsub (pc := 43) C dX11_isWithin_43 ?_
    refine k_callSl (pc := 44) (As := [.long ((f_t_w 15) - (f_t_w 13))]) (rest := []) (r := (s_X11_size ((f_t_w 15) - (f_t_w 13)))) (wc := []) (wc2 := []) (ws2 := [(h_t, moE f_t h_t_w h_t_saved h_t_trial h_t_text h_t_told), (h_t_w, jA cJ 294 f_t_w)]) C (c_X11_size l D cI cJ cO ((f_t_w 15) - (f_t_w 13))) cws_X11_size q_1135 [] rfl rfl (by decide) rfl rfl (Nat.le_of_ble_eq_true rfl) ⟨Nat.le_of_ble_eq_true rfl, Nat.le_of_ble_eq_true rfl⟩ rfl ⟨Nat.le_refl _, Nat.le_refl _⟩ dX11_isWithin_44 ?_
    refine k_aload_n (pc := 47) C rfl 0 rfl dX11_isWithin_47 ?_
    refine g_X11_0 (pc := 48) C q_1004 0 rfl dX11_isWithin_48 ?_
    refine k_bipush (pc := 51) C bipush_7 dX11_isWithin_51 ?_
    refine k_laldK (pc := 53) (v := (f_t_w 7)) C 1 1 rfl rfl (k_vinc 7 cl_7 (by decide) (by decide)) cl_7 rfl dX11_isWithin_53 ?_
    refine k_lcmp_gt (pc := 54) (tgt := 62) C dX11_isWithin_54 dX11_isWithin_55 (by decide) (fun c_2 => ?_) (fun c_2 => ?_)
    · refine k_iconst (pc := 62) C iconst_0 dX11_isWithin_62 ?_
      have hs : (s_X11_isWithin f_t f_t_w) = 0 := ((if_neg c_1).trans (if_pos c_2))
      exact k_finI (pc := 63) hret rfl (by rw [hs]) rfl dX11_isWithin_63
    · refine k_iconst (pc := 58) C iconst_1 dX11_isWithin_58 ?_
      refine k_goto (pc := 59) (tgt := 63) C (by decide) dX11_isWithin_59 ?_
      have hs : (s_X11_isWithin f_t f_t_w) = 1 := ((if_neg c_1).trans (if_neg c_2))
      exact k_finI (pc := 63) hret rfl (by rw [hs]) rfl dX11_isWithin_63
theorem b_X11_isWithin (f_t : Nat → Int32) (f_t_w : Nat → Int64) : kb (s_X11_isWithin f_t f_t_w) := by
  unfold s_X11_isWithin
  repeat' first | with_reducible exact kb0 | with_reducible exact kb1 | with_reducible refine k_bif ?_ ?_ | with_reducible refine k_bif0 ?_ ?_

theorem dX11_isSegment_0 : decode cX11_isSegment 0 = .ok (.iload_n 0, 1) := by decide +kernel
theorem dX11_isSegment_1 : decode cX11_isSegment 1 = .ok (.invokestatic 86, 3) := by decide +kernel
theorem dX11_isSegment_4 : decode cX11_isSegment 4 = .ok (.ifCond .eq 44, 3) := by decide +kernel
theorem dX11_isSegment_7 : decode cX11_isSegment 7 = .ok (.iload_n 1, 1) := by decide +kernel
theorem dX11_isSegment_8 : decode cX11_isSegment 8 = .ok (.invokestatic 90, 3) := by decide +kernel
theorem dX11_isSegment_11 : decode cX11_isSegment 11 = .ok (.ifCond .eq 37, 3) := by decide +kernel
theorem dX11_isSegment_14 : decode cX11_isSegment 14 = .ok (.iload_n 2, 1) := by decide +kernel
theorem dX11_isSegment_15 : decode cX11_isSegment 15 = .ok (.i2l, 1) := by decide +kernel
theorem dX11_isSegment_16 : decode cX11_isSegment 16 = .ok (.lconst 0, 1) := by decide +kernel
theorem dX11_isSegment_17 : decode cX11_isSegment 17 = .ok (.ldc2_w 158, 3) := by decide +kernel
theorem dX11_isSegment_20 : decode cX11_isSegment 20 = .ok (.invokestatic 63, 3) := by decide +kernel
theorem dX11_isSegment_23 : decode cX11_isSegment 23 = .ok (.ifCond .eq 25, 3) := by decide +kernel
theorem dX11_isSegment_26 : decode cX11_isSegment 26 = .ok (.iload_n 3, 1) := by decide +kernel
theorem dX11_isSegment_27 : decode cX11_isSegment 27 = .ok (.i2l, 1) := by decide +kernel
theorem dX11_isSegment_28 : decode cX11_isSegment 28 = .ok (.lconst 0, 1) := by decide +kernel
theorem dX11_isSegment_29 : decode cX11_isSegment 29 = .ok (.ldc2_w 158, 3) := by decide +kernel
theorem dX11_isSegment_32 : decode cX11_isSegment 32 = .ok (.invokestatic 63, 3) := by decide +kernel
theorem dX11_isSegment_35 : decode cX11_isSegment 35 = .ok (.ifCond .eq 13, 3) := by decide +kernel
theorem dX11_isSegment_38 : decode cX11_isSegment 38 = .ok (.iload_n 2, 1) := by decide +kernel
theorem dX11_isSegment_39 : decode cX11_isSegment 39 = .ok (.iload_n 3, 1) := by decide +kernel
theorem dX11_isSegment_40 : decode cX11_isSegment 40 = .ok (.iadd, 1) := by decide +kernel
theorem dX11_isSegment_41 : decode cX11_isSegment 41 = .ok (.ifCond .le 7, 3) := by decide +kernel
theorem dX11_isSegment_44 : decode cX11_isSegment 44 = .ok (.iconst 1, 1) := by decide +kernel
theorem dX11_isSegment_45 : decode cX11_isSegment 45 = .ok (.goto 4, 3) := by decide +kernel
theorem dX11_isSegment_48 : decode cX11_isSegment 48 = .ok (.iconst 0, 1) := by decide +kernel
theorem dX11_isSegment_49 : decode cX11_isSegment 49 = .ok (.ireturn, 1) := by decide +kernel
def s_X11_isSegment (p0 : Int32) (p1 : Int32) (p2 : Int32) (p3 : Int32) : Int32 :=
  (if (s_X11_isTemperature p0) = 0 then 0 else (if (s_X11_isHumidity p1) = 0 then 0 else (if (s_X11_in (p2.toInt64) 0 500) = 0 then 0 else (if (s_X11_in (p3.toInt64) 0 500) = 0 then 0 else (if (p2 + p3) ≤ 0 then 0 else 1)))))
set_option maxRecDepth 100000 in
set_option maxHeartbeats 4000000 in
theorem c_X11_isSegment (l : Launch) (D : va_G) (cI cJ cO : ClassId) (p0 : Int32) (p1 : Int32) (p2 : Int32) (p3 : Int32) : kI l yX11_isSegment cX11_isSegment 4 .boolean 2 45 D (kT cI cJ cO) [.int p0, .int p1, .int p2, .int p3] [] (s_X11_isSegment p0 p1 p2 p3) [] := by
  refine kI_of (own := RX11) (lv := [(0, .int p0), (1, .int p1), (2, .int p2), (3, .int p3)]) rfl rfl (by decide) (Nat.le_of_ble_eq_true rfl) ?_
  intro p e s m args below meth c Q A C hret
  refine k_iload_n (pc := 0) C rfl 0 rfl dX11_isSegment_0 ?_
  refine k_callSi (pc := 1) (As := [.int p0]) (rest := []) (r := (s_X11_isTemperature p0)) (wc := []) (wc2 := []) (ws2 := []) C (c_X11_isTemperature l D cI cJ cO p0) cws_X11_isTemperature q_1083 [] rfl rfl (by decide) rfl rfl (Nat.le_of_ble_eq_true rfl) ⟨Nat.le_of_ble_eq_true rfl, Nat.le_of_ble_eq_true rfl⟩ rfl ⟨Nat.le_refl _, Nat.le_refl _⟩ dX11_isSegment_1 ?_
  refine k_if_eq (pc := 4) (tgt := 48) C dX11_isSegment_4 (by decide) (fun c_1 => ?_) (fun c_1 => ?_)
  · refine k_iconst (pc := 48) C iconst_0 dX11_isSegment_48 ?_
    have hs : (s_X11_isSegment p0 p1 p2 p3) = 0 := (if_pos c_1)
    exact k_finI (pc := 49) hret rfl (by rw [hs]) rfl dX11_isSegment_49
  · refine k_iload_n (pc := 7) C rfl 1 rfl dX11_isSegment_7 ?_
    refine k_callSi (pc := 8) (As := [.int p1]) (rest := []) (r := (s_X11_isHumidity p1)) (wc := []) (wc2 := []) (ws2 := []) C (c_X11_isHumidity l D cI cJ cO p1) cws_X11_isHumidity q_1088 [] rfl rfl (by decide) rfl rfl (Nat.le_of_ble_eq_true rfl) ⟨Nat.le_of_ble_eq_true rfl, Nat.le_of_ble_eq_true rfl⟩ rfl ⟨Nat.le_refl _, Nat.le_refl _⟩ dX11_isSegment_8 ?_
    refine k_if_eq (pc := 11) (tgt := 48) C dX11_isSegment_11 (by decide) (fun c_2 => ?_) (fun c_2 => ?_)
    · refine k_iconst (pc := 48) C iconst_0 dX11_isSegment_48 ?_
      have hs : (s_X11_isSegment p0 p1 p2 p3) = 0 := ((if_neg c_1).trans (if_pos c_2))
      exact k_finI (pc := 49) hret rfl (by rw [hs]) rfl dX11_isSegment_49
    · refine k_iload_n (pc := 14) C rfl 2 rfl dX11_isSegment_14 ?_
      refine k_i2l (pc := 15) C dX11_isSegment_15 ?_
      refine k_lconst (pc := 16) C lconst_0 dX11_isSegment_16 ?_
      refine k_ldc2 (pc := 17) C q_1109 dX11_isSegment_17 ?_
      refine k_callSi (pc := 20) (As := [.long (p2.toInt64), .long 0, .long 500]) (rest := []) (r := (s_X11_in (p2.toInt64) 0 500)) (wc := []) (wc2 := []) (ws2 := []) C (c_X11_in l D cI cJ cO (p2.toInt64) 0 500) cws_X11_in q_1057 [] rfl rfl (by decide) rfl rfl (Nat.le_of_ble_eq_true rfl) ⟨Nat.le_of_ble_eq_true rfl, Nat.le_of_ble_eq_true rfl⟩ rfl ⟨Nat.le_refl _, Nat.le_refl _⟩ dX11_isSegment_20 ?_
      refine k_if_eq (pc := 23) (tgt := 48) C dX11_isSegment_23 (by decide) (fun c_3 => ?_) (fun c_3 => ?_)
      · refine k_iconst (pc := 48) C iconst_0 dX11_isSegment_48 ?_
        have hs : (s_X11_isSegment p0 p1 p2 p3) = 0 := ((if_neg c_1).trans ((if_neg c_2).trans (if_pos c_3)))
        exact k_finI (pc := 49) hret rfl (by rw [hs]) rfl dX11_isSegment_49
      · refine k_iload_n (pc := 26) C rfl 3 rfl dX11_isSegment_26 ?_
        refine k_i2l (pc := 27) C dX11_isSegment_27 ?_
        refine k_lconst (pc := 28) C lconst_0 dX11_isSegment_28 ?_
        refine k_ldc2 (pc := 29) C q_1109 dX11_isSegment_29 ?_
        refine k_callSi (pc := 32) (As := [.long (p3.toInt64), .long 0, .long 500]) (rest := []) (r := (s_X11_in (p3.toInt64) 0 500)) (wc := []) (wc2 := []) (ws2 := []) C (c_X11_in l D cI cJ cO (p3.toInt64) 0 500) cws_X11_in q_1057 [] rfl rfl (by decide) rfl rfl (Nat.le_of_ble_eq_true rfl) ⟨Nat.le_of_ble_eq_true rfl, Nat.le_of_ble_eq_true rfl⟩ rfl ⟨Nat.le_refl _, Nat.le_refl _⟩ dX11_isSegment_32 ?_
        refine k_if_eq (pc := 35) (tgt := 48) C dX11_isSegment_35 (by decide) (fun c_4 => ?_) (fun c_4 => ?_)
        · refine k_iconst (pc := 48) C iconst_0 dX11_isSegment_48 ?_
          have hs : (s_X11_isSegment p0 p1 p2 p3) = 0 := ((if_neg c_1).trans ((if_neg c_2).trans ((if_neg c_3).trans (if_pos c_4))))
          exact k_finI (pc := 49) hret rfl (by rw [hs]) rfl dX11_isSegment_49
        · refine k_iload_n (pc := 38) C rfl 2 rfl dX11_isSegment_38 ?_
          refine k_iload_n (pc := 39) C rfl 3 rfl dX11_isSegment_39 ?_
          refine k_iadd (pc := 40) C dX11_isSegment_40 ?_
          refine k_if_le (pc := 41) (tgt := 48) C dX11_isSegment_41 (by decide) (fun c_5 => ?_) (fun c_5 => ?_)
          · refine k_iconst (pc := 48) C iconst_0 dX11_isSegment_48 ?_
            have hs : (s_X11_isSegment p0 p1 p2 p3) = 0 := ((if_neg c_1).trans ((if_neg c_2).trans ((if_neg c_3).trans ((if_neg c_4).trans (if_pos c_5)))))
            exact k_finI (pc := 49) hret rfl (by rw [hs]) rfl dX11_isSegment_49
          · refine k_iconst (pc := 44) C iconst_1 dX11_isSegment_44 ?_
            refine k_goto (pc := 45) (tgt := 49) C (by decide) dX11_isSegment_45 ?_
            have hs : (s_X11_isSegment p0 p1 p2 p3) = 1 := ((if_neg c_1).trans ((if_neg c_2).trans ((if_neg c_3).trans ((if_neg c_4).trans (if_neg c_5)))))
            exact k_finI (pc := 49) hret rfl (by rw [hs]) rfl dX11_isSegment_49
theorem b_X11_isSegment (p0 : Int32) (p1 : Int32) (p2 : Int32) (p3 : Int32) : kb (s_X11_isSegment p0 p1 p2 p3) := by
  unfold s_X11_isSegment
  repeat' first | with_reducible exact kb0 | with_reducible exact kb1 | with_reducible exact b_X11_in .. | with_reducible exact b_X11_isHumidity .. | with_reducible exact b_X11_isTemperature .. | with_reducible refine k_bif ?_ ?_ | with_reducible refine k_bif0 ?_ ?_

theorem dX11_demand_0 : decode cX11_demand 0 = .ok (.aload_n 0, 1) := by decide +kernel
theorem dX11_demand_1 : decode cX11_demand 1 = .ok (.getfield 7, 3) := by decide +kernel
theorem dX11_demand_4 : decode cX11_demand 4 = .ok (.bipush 19, 2) := by decide +kernel
theorem dX11_demand_6 : decode cX11_demand 6 = .ok (.iload_n 1, 1) := by decide +kernel
theorem dX11_demand_7 : decode cX11_demand 7 = .ok (.iadd, 1) := by decide +kernel
theorem dX11_demand_8 : decode cX11_demand 8 = .ok (.laload, 1) := by decide +kernel
theorem dX11_demand_9 : decode cX11_demand 9 = .ok (.lload_n 2, 1) := by decide +kernel
theorem dX11_demand_10 : decode cX11_demand 10 = .ok (.lmul, 1) := by decide +kernel
theorem dX11_demand_11 : decode cX11_demand 11 = .ok (.ldc2_w 80, 3) := by decide +kernel
theorem dX11_demand_14 : decode cX11_demand 14 = .ok (.ldiv, 1) := by decide +kernel
theorem dX11_demand_15 : decode cX11_demand 15 = .ok (.lstore 4, 2) := by decide +kernel
theorem dX11_demand_17 : decode cX11_demand 17 = .ok (.aload_n 0, 1) := by decide +kernel
theorem dX11_demand_18 : decode cX11_demand 18 = .ok (.getfield 7, 3) := by decide +kernel
theorem dX11_demand_21 : decode cX11_demand 21 = .ok (.bipush 17, 2) := by decide +kernel
theorem dX11_demand_23 : decode cX11_demand 23 = .ok (.iload_n 1, 1) := by decide +kernel
theorem dX11_demand_24 : decode cX11_demand 24 = .ok (.iadd, 1) := by decide +kernel
theorem dX11_demand_25 : decode cX11_demand 25 = .ok (.laload, 1) := by decide +kernel
theorem dX11_demand_26 : decode cX11_demand 26 = .ok (.lconst 0, 1) := by decide +kernel
theorem dX11_demand_27 : decode cX11_demand 27 = .ok (.lcmp, 1) := by decide +kernel
theorem dX11_demand_28 : decode cX11_demand 28 = .ok (.ifCond .ne 30, 3) := by decide +kernel
theorem dX11_demand_31 : decode cX11_demand 31 = .ok (.lload_n 2, 1) := by decide +kernel
theorem dX11_demand_32 : decode cX11_demand 32 = .ok (.invokestatic 101, 3) := by decide +kernel
theorem dX11_demand_35 : decode cX11_demand 35 = .ok (.aload_n 0, 1) := by decide +kernel
theorem dX11_demand_36 : decode cX11_demand 36 = .ok (.getfield 7, 3) := by decide +kernel
theorem dX11_demand_39 : decode cX11_demand 39 = .ok (.bipush 21, 2) := by decide +kernel
theorem dX11_demand_41 : decode cX11_demand 41 = .ok (.iload_n 1, 1) := by decide +kernel
theorem dX11_demand_42 : decode cX11_demand 42 = .ok (.iadd, 1) := by decide +kernel
theorem dX11_demand_43 : decode cX11_demand 43 = .ok (.laload, 1) := by decide +kernel
theorem dX11_demand_44 : decode cX11_demand 44 = .ok (.lcmp, 1) := by decide +kernel
theorem dX11_demand_45 : decode cX11_demand 45 = .ok (.ifCond .le 7, 3) := by decide +kernel
theorem dX11_demand_48 : decode cX11_demand 48 = .ok (.lload_n 2, 1) := by decide +kernel
theorem dX11_demand_49 : decode cX11_demand 49 = .ok (.goto 4, 3) := by decide +kernel
theorem dX11_demand_52 : decode cX11_demand 52 = .ok (.lconst 0, 1) := by decide +kernel
theorem dX11_demand_53 : decode cX11_demand 53 = .ok (.lstore 4, 2) := by decide +kernel
theorem dX11_demand_55 : decode cX11_demand 55 = .ok (.goto 63, 3) := by decide +kernel
theorem dX11_demand_58 : decode cX11_demand 58 = .ok (.aload_n 0, 1) := by decide +kernel
theorem dX11_demand_59 : decode cX11_demand 59 = .ok (.getfield 7, 3) := by decide +kernel
theorem dX11_demand_62 : decode cX11_demand 62 = .ok (.bipush 17, 2) := by decide +kernel
theorem dX11_demand_64 : decode cX11_demand 64 = .ok (.iload_n 1, 1) := by decide +kernel
theorem dX11_demand_65 : decode cX11_demand 65 = .ok (.iadd, 1) := by decide +kernel
theorem dX11_demand_66 : decode cX11_demand 66 = .ok (.laload, 1) := by decide +kernel
theorem dX11_demand_67 : decode cX11_demand 67 = .ok (.ldc2_w 32, 3) := by decide +kernel
theorem dX11_demand_70 : decode cX11_demand 70 = .ok (.lcmp, 1) := by decide +kernel
theorem dX11_demand_71 : decode cX11_demand 71 = .ok (.ifCond .ne 47, 3) := by decide +kernel
theorem dX11_demand_74 : decode cX11_demand 74 = .ok (.lload_n 2, 1) := by decide +kernel
theorem dX11_demand_75 : decode cX11_demand 75 = .ok (.aload_n 0, 1) := by decide +kernel
theorem dX11_demand_76 : decode cX11_demand 76 = .ok (.getfield 7, 3) := by decide +kernel
theorem dX11_demand_79 : decode cX11_demand 79 = .ok (.bipush 21, 2) := by decide +kernel
theorem dX11_demand_81 : decode cX11_demand 81 = .ok (.iload_n 1, 1) := by decide +kernel
theorem dX11_demand_82 : decode cX11_demand 82 = .ok (.iadd, 1) := by decide +kernel
theorem dX11_demand_83 : decode cX11_demand 83 = .ok (.laload, 1) := by decide +kernel
theorem dX11_demand_84 : decode cX11_demand 84 = .ok (.lcmp, 1) := by decide +kernel
theorem dX11_demand_85 : decode cX11_demand 85 = .ok (.ifCond .le 9, 3) := by decide +kernel
theorem dX11_demand_88 : decode cX11_demand 88 = .ok (.ldc2_w 46, 3) := by decide +kernel
theorem dX11_demand_91 : decode cX11_demand 91 = .ok (.goto 25, 3) := by decide +kernel
theorem dX11_demand_94 : decode cX11_demand 94 = .ok (.lload_n 2, 1) := by decide +kernel
theorem dX11_demand_95 : decode cX11_demand 95 = .ok (.aload_n 0, 1) := by decide +kernel
theorem dX11_demand_96 : decode cX11_demand 96 = .ok (.getfield 7, 3) := by decide +kernel
theorem dX11_demand_99 : decode cX11_demand 99 = .ok (.bipush 21, 2) := by decide +kernel
theorem dX11_demand_101 : decode cX11_demand 101 = .ok (.iload_n 1, 1) := by decide +kernel
theorem dX11_demand_102 : decode cX11_demand 102 = .ok (.iadd, 1) := by decide +kernel
theorem dX11_demand_103 : decode cX11_demand 103 = .ok (.laload, 1) := by decide +kernel
theorem dX11_demand_104 : decode cX11_demand 104 = .ok (.lneg, 1) := by decide +kernel
theorem dX11_demand_105 : decode cX11_demand 105 = .ok (.lcmp, 1) := by decide +kernel
theorem dX11_demand_106 : decode cX11_demand 106 = .ok (.ifCond .ge 9, 3) := by decide +kernel
theorem dX11_demand_109 : decode cX11_demand 109 = .ok (.ldc2_w 105, 3) := by decide +kernel
theorem dX11_demand_112 : decode cX11_demand 112 = .ok (.goto 4, 3) := by decide +kernel
theorem dX11_demand_115 : decode cX11_demand 115 = .ok (.lconst 0, 1) := by decide +kernel
theorem dX11_demand_116 : decode cX11_demand 116 = .ok (.lstore 4, 2) := by decide +kernel
theorem dX11_demand_118 : decode cX11_demand 118 = .ok (.lload 4, 2) := by decide +kernel
theorem dX11_demand_120 : decode cX11_demand 120 = .ok (.aload_n 0, 1) := by decide +kernel
theorem dX11_demand_121 : decode cX11_demand 121 = .ok (.getfield 7, 3) := by decide +kernel
theorem dX11_demand_124 : decode cX11_demand 124 = .ok (.iconst 0, 1) := by decide +kernel
theorem dX11_demand_125 : decode cX11_demand 125 = .ok (.iconst 2, 1) := by decide +kernel
theorem dX11_demand_126 : decode cX11_demand 126 = .ok (.iload_n 1, 1) := by decide +kernel
theorem dX11_demand_127 : decode cX11_demand 127 = .ok (.imul, 1) := by decide +kernel
theorem dX11_demand_128 : decode cX11_demand 128 = .ok (.iadd, 1) := by decide +kernel
theorem dX11_demand_129 : decode cX11_demand 129 = .ok (.iconst 1, 1) := by decide +kernel
theorem dX11_demand_130 : decode cX11_demand 130 = .ok (.iadd, 1) := by decide +kernel
theorem dX11_demand_131 : decode cX11_demand 131 = .ok (.laload, 1) := by decide +kernel
theorem dX11_demand_132 : decode cX11_demand 132 = .ok (.lneg, 1) := by decide +kernel
theorem dX11_demand_133 : decode cX11_demand 133 = .ok (.aload_n 0, 1) := by decide +kernel
theorem dX11_demand_134 : decode cX11_demand 134 = .ok (.getfield 7, 3) := by decide +kernel
theorem dX11_demand_137 : decode cX11_demand 137 = .ok (.iconst 0, 1) := by decide +kernel
theorem dX11_demand_138 : decode cX11_demand 138 = .ok (.iconst 2, 1) := by decide +kernel
theorem dX11_demand_139 : decode cX11_demand 139 = .ok (.iload_n 1, 1) := by decide +kernel
theorem dX11_demand_140 : decode cX11_demand 140 = .ok (.imul, 1) := by decide +kernel
theorem dX11_demand_141 : decode cX11_demand 141 = .ok (.iadd, 1) := by decide +kernel
theorem dX11_demand_142 : decode cX11_demand 142 = .ok (.laload, 1) := by decide +kernel
theorem dX11_demand_143 : decode cX11_demand 143 = .ok (.invokestatic 107, 3) := by decide +kernel
theorem dX11_demand_146 : decode cX11_demand 146 = .ok (.lreturn, 1) := by decide +kernel
def s_X11_demand_p0_0 (f_t : Nat → Int32) (f_t_w : Nat → Int64) (p1 : Int64) : Int64 :=
  (if (f_t_w 17) = 0 then (if (s_X11_size p1) ≤ (f_t_w 21) then (s_X11_within 0 (-(f_t_w 1)) (f_t_w 0)) else (s_X11_within p1 (-(f_t_w 1)) (f_t_w 0))) else (if (f_t_w 17) = 2 then (if p1 ≤ (f_t_w 21) then (if (-(f_t_w 21)) ≤ p1 then (s_X11_within 0 (-(f_t_w 1)) (f_t_w 0)) else (s_X11_within (-1000) (-(f_t_w 1)) (f_t_w 0))) else (s_X11_within 1000 (-(f_t_w 1)) (f_t_w 0))) else (s_X11_within (((f_t_w 19) * p1) / 100) (-(f_t_w 1)) (f_t_w 0))))
set_option maxRecDepth 100000 in
set_option maxHeartbeats 4000000 in
theorem c_X11_demand_p0_0 (l : Launch) (D : va_G) (cI cJ cO : ClassId) (h_t : Nat) (h_t_w : Nat) (h_t_saved : Nat) (h_t_trial : Nat) (h_t_text : Nat) (h_t_told : Nat) (f_t : Nat → Int32) (f_t_w : Nat → Int64) (p1 : Int64) : kL l yX11_demand cX11_demand 6 .long 1 25 D (kT cI cJ cO) [.ref h_t, .int 0, .long p1] [(h_t, moE f_t h_t_w h_t_saved h_t_trial h_t_text h_t_told), (h_t_w, jA cJ 294 f_t_w)] (s_X11_demand_p0_0 f_t f_t_w p1) [(h_t, moE f_t h_t_w h_t_saved h_t_trial h_t_text h_t_told), (h_t_w, jA cJ 294 f_t_w)] := by
  refine kL_of (own := RX11) (lv := [(0, .ref h_t), (1, .int 0), (2, .long p1)]) rfl rfl (by decide) (Nat.le_of_ble_eq_true rfl) ?_
  intro p e s m args below meth c Q A C hret
  refine k_aload_n (pc := 0) C rfl 0 rfl dX11_demand_0 ?_
  refine g_X11_0 (pc := 1) C q_1004 0 rfl dX11_demand_1 ?_
  refine k_bipush (pc := 4) C bipush_19 dX11_demand_4 ?_
  refine k_iload_n (pc := 6) C rfl 1 rfl dX11_demand_6 ?_
  refine k_iadd (pc := 7) C dX11_demand_7 ?_
  refine k_topI (pc := 8) (v := 19) (by decide) ?_
  refine k_laldK (pc := 8) (v := (f_t_w 19)) C 1 1 rfl rfl (k_vinc 19 cl_19 (by decide) (by decide)) cl_19 rfl dX11_demand_8 ?_
  refine k_lload_n (pc := 9) C rfl 2 rfl dX11_demand_9 ?_
  refine k_lmul (pc := 10) C dX11_demand_10 ?_
  refine k_ldc2 (pc := 11) C q_1078 dX11_demand_11 ?_
  refine k_ldiv (pc := 14) C (by decide) dX11_demand_14 ?_
  refine k_lstore (pc := 15) (lv2 := [(4, .long (((f_t_w 19) * p1) / 100)), (0, .ref h_t), (1, .int 0), (2, .long p1)]) C (by decide) rfl dX11_demand_15 ?_
  refine k_aload_n (pc := 17) C rfl 1 rfl dX11_demand_17 ?_
  refine g_X11_0 (pc := 18) C q_1004 0 rfl dX11_demand_18 ?_
  refine k_bipush (pc := 21) C bipush_17 dX11_demand_21 ?_
  refine k_iload_n (pc := 23) C rfl 2 rfl dX11_demand_23 ?_
  refine k_iadd (pc := 24) C dX11_demand_24 ?_
  refine k_topI (pc := 25) (v := 17) (by decide) ?_
  refine k_laldK (pc := 25) (v := (f_t_w 17)) C 1 1 rfl rfl (k_vinc 17 cl_17 (by decide) (by decide)) cl_17 rfl dX11_demand_25 ?_
  refine k_lconst (pc := 26) C lconst_0 dX11_demand_26 ?_
  refine k_lcmp_ne (pc := 27) (tgt := 58) C dX11_demand_27 dX11_demand_28 (by decide) (fun c_1 => ?_) (fun c_1 => ?_)
  · refine k_aload_n (pc := 58) C rfl 1 rfl dX11_demand_58 ?_
    refine g_X11_0 (pc := 59) C q_1004 0 rfl dX11_demand_59 ?_
    refine k_bipush (pc := 62) C bipush_17 dX11_demand_62 ?_
    refine k_iload_n (pc := 64) C rfl 2 rfl dX11_demand_64 ?_
    refine k_iadd (pc := 65) C dX11_demand_65 ?_
    refine k_topI (pc := 66) (v := 17) (by decide) ?_
    refine k_laldK (pc := 66) (v := (f_t_w 17)) C 1 1 rfl rfl (k_vinc 17 cl_17 (by decide) (by decide)) cl_17 rfl dX11_demand_66 ?_
    refine k_ldc2 (pc := 67) C q_995 dX11_demand_67 ?_
    refine k_lcmp_ne (pc := 70) (tgt := 118) C dX11_demand_70 dX11_demand_71 (by decide) (fun c_2 => ?_) (fun c_2 => ?_)
    · refine k_lload (pc := 118) C 0 rfl dX11_demand_118 ?_
      refine k_aload_n (pc := 120) C rfl 1 rfl dX11_demand_120 ?_
      refine g_X11_0 (pc := 121) C q_1004 0 rfl dX11_demand_121 ?_
      refine k_iconst (pc := 124) C iconst_0 dX11_demand_124 ?_
      refine k_iconst (pc := 125) C iconst_2 dX11_demand_125 ?_
      refine k_iload_n (pc := 126) C rfl 2 rfl dX11_demand_126 ?_
      refine k_imul (pc := 127) C dX11_demand_127 ?_
      refine k_topI (pc := 128) (v := 0) (by decide) ?_
      refine k_iadd (pc := 128) C dX11_demand_128 ?_
      refine k_topI (pc := 129) (v := 0) (by decide) ?_
      refine k_iconst (pc := 129) C iconst_1 dX11_demand_129 ?_
      refine k_iadd (pc := 130) C dX11_demand_130 ?_
      refine k_topI (pc := 131) (v := 1) (by decide) ?_
      refine k_laldK (pc := 131) (v := (f_t_w 1)) C 1 1 rfl rfl (k_vinc 1 cl_1 (by decide) (by decide)) cl_1 rfl dX11_demand_131 ?_
      refine k_lneg (pc := 132) C dX11_demand_132 ?_
      refine k_aload_n (pc := 133) C rfl 1 rfl dX11_demand_133 ?_
      refine g_X11_0 (pc := 134) C q_1004 0 rfl dX11_demand_134 ?_
      refine k_iconst (pc := 137) C iconst_0 dX11_demand_137 ?_
      refine k_iconst (pc := 138) C iconst_2 dX11_demand_138 ?_
      refine k_iload_n (pc := 139) C rfl 2 rfl dX11_demand_139 ?_
      refine k_imul (pc := 140) C dX11_demand_140 ?_
      refine k_topI (pc := 141) (v := 0) (by decide) ?_
      refine k_iadd (pc := 141) C dX11_demand_141 ?_
      refine k_topI (pc := 142) (v := 0) (by decide) ?_
      refine k_laldK (pc := 142) (v := (f_t_w 0)) C 1 1 rfl rfl (k_vinc 0 cl_0 (by decide) (by decide)) cl_0 rfl dX11_demand_142 ?_
      refine k_callSl (pc := 143) (As := [.long (((f_t_w 19) * p1) / 100), .long (-(f_t_w 1)), .long (f_t_w 0)]) (rest := []) (r := (s_X11_within (((f_t_w 19) * p1) / 100) (-(f_t_w 1)) (f_t_w 0))) (wc := []) (wc2 := []) (ws2 := [(h_t, moE f_t h_t_w h_t_saved h_t_trial h_t_text h_t_told), (h_t_w, jA cJ 294 f_t_w)]) C (c_X11_within l D cI cJ cO (((f_t_w 19) * p1) / 100) (-(f_t_w 1)) (f_t_w 0)) cws_X11_within q_1139 [] rfl rfl (by decide) rfl rfl (Nat.le_of_ble_eq_true rfl) ⟨Nat.le_of_ble_eq_true rfl, Nat.le_of_ble_eq_true rfl⟩ rfl ⟨Nat.le_refl _, Nat.le_refl _⟩ dX11_demand_143 ?_
      have hs : (s_X11_demand_p0_0 f_t f_t_w p1) = (s_X11_within (((f_t_w 19) * p1) / 100) (-(f_t_w 1)) (f_t_w 0)) := ((if_neg c_1).trans (if_neg c_2))
      exact k_finL (pc := 146) hret (by rw [hs]) rfl dX11_demand_146
    · refine k_lload_n (pc := 74) C rfl 3 rfl dX11_demand_74 ?_
      refine k_aload_n (pc := 75) C rfl 1 rfl dX11_demand_75 ?_
      refine g_X11_0 (pc := 76) C q_1004 0 rfl dX11_demand_76 ?_
      refine k_bipush (pc := 79) C bipush_21 dX11_demand_79 ?_
      refine k_iload_n (pc := 81) C rfl 2 rfl dX11_demand_81 ?_
      refine k_iadd (pc := 82) C dX11_demand_82 ?_
      refine k_topI (pc := 83) (v := 21) (by decide) ?_
      refine k_laldK (pc := 83) (v := (f_t_w 21)) C 1 1 rfl rfl (k_vinc 21 cl_21 (by decide) (by decide)) cl_21 rfl dX11_demand_83 ?_
      refine k_lcmp_le (pc := 84) (tgt := 94) C dX11_demand_84 dX11_demand_85 (by decide) (fun c_3 => ?_) (fun c_3 => ?_)
      · refine k_lload_n (pc := 94) C rfl 3 rfl dX11_demand_94 ?_
        refine k_aload_n (pc := 95) C rfl 1 rfl dX11_demand_95 ?_
        refine g_X11_0 (pc := 96) C q_1004 0 rfl dX11_demand_96 ?_
        refine k_bipush (pc := 99) C bipush_21 dX11_demand_99 ?_
        refine k_iload_n (pc := 101) C rfl 2 rfl dX11_demand_101 ?_
        refine k_iadd (pc := 102) C dX11_demand_102 ?_
        refine k_topI (pc := 103) (v := 21) (by decide) ?_
        refine k_laldK (pc := 103) (v := (f_t_w 21)) C 1 1 rfl rfl (k_vinc 21 cl_21 (by decide) (by decide)) cl_21 rfl dX11_demand_103 ?_
        refine k_lneg (pc := 104) C dX11_demand_104 ?_
        refine k_lcmp_ge (pc := 105) (tgt := 115) C dX11_demand_105 dX11_demand_106 (by decide) (fun c_4 => ?_) (fun c_4 => ?_)
        · refine k_lconst (pc := 115) C lconst_0 dX11_demand_115 ?_
          refine k_lstore (pc := 116) (lv2 := [(4, .long 0), (0, .ref h_t), (1, .int 0), (2, .long p1)]) C (by decide) rfl dX11_demand_116 ?_
          refine k_lload (pc := 118) C 0 rfl dX11_demand_118 ?_
          refine k_aload_n (pc := 120) C rfl 1 rfl dX11_demand_120 ?_
          refine g_X11_0 (pc := 121) C q_1004 0 rfl dX11_demand_121 ?_
          refine k_iconst (pc := 124) C iconst_0 dX11_demand_124 ?_
          refine k_iconst (pc := 125) C iconst_2 dX11_demand_125 ?_
          refine k_iload_n (pc := 126) C rfl 2 rfl dX11_demand_126 ?_
          refine k_imul (pc := 127) C dX11_demand_127 ?_
          refine k_topI (pc := 128) (v := 0) (by decide) ?_
          refine k_iadd (pc := 128) C dX11_demand_128 ?_
          refine k_topI (pc := 129) (v := 0) (by decide) ?_
          refine k_iconst (pc := 129) C iconst_1 dX11_demand_129 ?_
          refine k_iadd (pc := 130) C dX11_demand_130 ?_
          refine k_topI (pc := 131) (v := 1) (by decide) ?_
          refine k_laldK (pc := 131) (v := (f_t_w 1)) C 1 1 rfl rfl (k_vinc 1 cl_1 (by decide) (by decide)) cl_1 rfl dX11_demand_131 ?_
          refine k_lneg (pc := 132) C dX11_demand_132 ?_
          refine k_aload_n (pc := 133) C rfl 1 rfl dX11_demand_133 ?_
          refine g_X11_0 (pc := 134) C q_1004 0 rfl dX11_demand_134 ?_
          refine k_iconst (pc := 137) C iconst_0 dX11_demand_137 ?_
          refine k_iconst (pc := 138) C iconst_2 dX11_demand_138 ?_
          refine k_iload_n (pc := 139) C rfl 2 rfl dX11_demand_139 ?_
          refine k_imul (pc := 140) C dX11_demand_140 ?_
          refine k_topI (pc := 141) (v := 0) (by decide) ?_
          refine k_iadd (pc := 141) C dX11_demand_141 ?_
          refine k_topI (pc := 142) (v := 0) (by decide) ?_
          refine k_laldK (pc := 142) (v := (f_t_w 0)) C 1 1 rfl rfl (k_vinc 0 cl_0 (by decide) (by decide)) cl_0 rfl dX11_demand_142 ?_
          refine k_callSl (pc := 143) (As := [.long 0, .long (-(f_t_w 1)), .long (f_t_w 0)]) (rest := []) (r := (s_X11_within 0 (-(f_t_w 1)) (f_t_w 0))) (wc := []) (wc2 := []) (ws2 := [(h_t, moE f_t h_t_w h_t_saved h_t_trial h_t_text h_t_told), (h_t_w, jA cJ 294 f_t_w)]) C (c_X11_within l D cI cJ cO 0 (-(f_t_w 1)) (f_t_w 0)) cws_X11_within q_1139 [] rfl rfl (by decide) rfl rfl (Nat.le_of_ble_eq_true rfl) ⟨Nat.le_of_ble_eq_true rfl, Nat.le_of_ble_eq_true rfl⟩ rfl ⟨Nat.le_refl _, Nat.le_refl _⟩ dX11_demand_143 ?_
          have hs : (s_X11_demand_p0_0 f_t f_t_w p1) = (s_X11_within 0 (-(f_t_w 1)) (f_t_w 0)) := ((if_neg c_1).trans ((if_pos c_2).trans ((if_pos c_3).trans (if_pos c_4))))
          exact k_finL (pc := 146) hret (by rw [hs]) rfl dX11_demand_146
        · refine k_ldc2 (pc := 109) C q_1138 dX11_demand_109 ?_
          refine k_goto (pc := 112) (tgt := 116) C (by decide) dX11_demand_112 ?_
          refine k_lstore (pc := 116) (lv2 := [(4, .long (-1000)), (0, .ref h_t), (1, .int 0), (2, .long p1)]) C (by decide) rfl dX11_demand_116 ?_
          refine k_lload (pc := 118) C 0 rfl dX11_demand_118 ?_
          refine k_aload_n (pc := 120) C rfl 1 rfl dX11_demand_120 ?_
          refine g_X11_0 (pc := 121) C q_1004 0 rfl dX11_demand_121 ?_
          refine k_iconst (pc := 124) C iconst_0 dX11_demand_124 ?_
          refine k_iconst (pc := 125) C iconst_2 dX11_demand_125 ?_
          refine k_iload_n (pc := 126) C rfl 2 rfl dX11_demand_126 ?_
          refine k_imul (pc := 127) C dX11_demand_127 ?_
          refine k_topI (pc := 128) (v := 0) (by decide) ?_
          refine k_iadd (pc := 128) C dX11_demand_128 ?_
          refine k_topI (pc := 129) (v := 0) (by decide) ?_
          refine k_iconst (pc := 129) C iconst_1 dX11_demand_129 ?_
          refine k_iadd (pc := 130) C dX11_demand_130 ?_
          refine k_topI (pc := 131) (v := 1) (by decide) ?_
          refine k_laldK (pc := 131) (v := (f_t_w 1)) C 1 1 rfl rfl (k_vinc 1 cl_1 (by decide) (by decide)) cl_1 rfl dX11_demand_131 ?_
          refine k_lneg (pc := 132) C dX11_demand_132 ?_
          refine k_aload_n (pc := 133) C rfl 1 rfl dX11_demand_133 ?_
          refine g_X11_0 (pc := 134) C q_1004 0 rfl dX11_demand_134 ?_
          refine k_iconst (pc := 137) C iconst_0 dX11_demand_137 ?_
          refine k_iconst (pc := 138) C iconst_2 dX11_demand_138 ?_
          refine k_iload_n (pc := 139) C rfl 2 rfl dX11_demand_139 ?_
          refine k_imul (pc := 140) C dX11_demand_140 ?_
          refine k_topI (pc := 141) (v := 0) (by decide) ?_
          refine k_iadd (pc := 141) C dX11_demand_141 ?_
          refine k_topI (pc := 142) (v := 0) (by decide) ?_
          refine k_laldK (pc := 142) (v := (f_t_w 0)) C 1 1 rfl rfl (k_vinc 0 cl_0 (by decide) (by decide)) cl_0 rfl dX11_demand_142 ?_
          refine k_callSl (pc := 143) (As := [.long (-1000), .long (-(f_t_w 1)), .long (f_t_w 0)]) (rest := []) (r := (s_X11_within (-1000) (-(f_t_w 1)) (f_t_w 0))) (wc := []) (wc2 := []) (ws2 := [(h_t, moE f_t h_t_w h_t_saved h_t_trial h_t_text h_t_told), (h_t_w, jA cJ 294 f_t_w)]) C (c_X11_within l D cI cJ cO (-1000) (-(f_t_w 1)) (f_t_w 0)) cws_X11_within q_1139 [] rfl rfl (by decide) rfl rfl (Nat.le_of_ble_eq_true rfl) ⟨Nat.le_of_ble_eq_true rfl, Nat.le_of_ble_eq_true rfl⟩ rfl ⟨Nat.le_refl _, Nat.le_refl _⟩ dX11_demand_143 ?_
          have hs : (s_X11_demand_p0_0 f_t f_t_w p1) = (s_X11_within (-1000) (-(f_t_w 1)) (f_t_w 0)) := ((if_neg c_1).trans ((if_pos c_2).trans ((if_pos c_3).trans (if_neg c_4))))
          exact k_finL (pc := 146) hret (by rw [hs]) rfl dX11_demand_146
      · refine k_ldc2 (pc := 88) C q_1002 dX11_demand_88 ?_
        refine k_goto (pc := 91) (tgt := 116) C (by decide) dX11_demand_91 ?_
        refine k_lstore (pc := 116) (lv2 := [(4, .long 1000), (0, .ref h_t), (1, .int 0), (2, .long p1)]) C (by decide) rfl dX11_demand_116 ?_
        refine k_lload (pc := 118) C 0 rfl dX11_demand_118 ?_
        refine k_aload_n (pc := 120) C rfl 1 rfl dX11_demand_120 ?_
        refine g_X11_0 (pc := 121) C q_1004 0 rfl dX11_demand_121 ?_
        refine k_iconst (pc := 124) C iconst_0 dX11_demand_124 ?_
        refine k_iconst (pc := 125) C iconst_2 dX11_demand_125 ?_
        refine k_iload_n (pc := 126) C rfl 2 rfl dX11_demand_126 ?_
        refine k_imul (pc := 127) C dX11_demand_127 ?_
        refine k_topI (pc := 128) (v := 0) (by decide) ?_
        refine k_iadd (pc := 128) C dX11_demand_128 ?_
        refine k_topI (pc := 129) (v := 0) (by decide) ?_
        refine k_iconst (pc := 129) C iconst_1 dX11_demand_129 ?_
        refine k_iadd (pc := 130) C dX11_demand_130 ?_
        refine k_topI (pc := 131) (v := 1) (by decide) ?_
        refine k_laldK (pc := 131) (v := (f_t_w 1)) C 1 1 rfl rfl (k_vinc 1 cl_1 (by decide) (by decide)) cl_1 rfl dX11_demand_131 ?_
        refine k_lneg (pc := 132) C dX11_demand_132 ?_
        refine k_aload_n (pc := 133) C rfl 1 rfl dX11_demand_133 ?_
        refine g_X11_0 (pc := 134) C q_1004 0 rfl dX11_demand_134 ?_
        refine k_iconst (pc := 137) C iconst_0 dX11_demand_137 ?_
        refine k_iconst (pc := 138) C iconst_2 dX11_demand_138 ?_
        refine k_iload_n (pc := 139) C rfl 2 rfl dX11_demand_139 ?_
        refine k_imul (pc := 140) C dX11_demand_140 ?_
        refine k_topI (pc := 141) (v := 0) (by decide) ?_
        refine k_iadd (pc := 141) C dX11_demand_141 ?_
        refine k_topI (pc := 142) (v := 0) (by decide) ?_
        refine k_laldK (pc := 142) (v := (f_t_w 0)) C 1 1 rfl rfl (k_vinc 0 cl_0 (by decide) (by decide)) cl_0 rfl dX11_demand_142 ?_
        refine k_callSl (pc := 143) (As := [.long 1000, .long (-(f_t_w 1)), .long (f_t_w 0)]) (rest := []) (r := (s_X11_within 1000 (-(f_t_w 1)) (f_t_w 0))) (wc := []) (wc2 := []) (ws2 := [(h_t, moE f_t h_t_w h_t_saved h_t_trial h_t_text h_t_told), (h_t_w, jA cJ 294 f_t_w)]) C (c_X11_within l D cI cJ cO 1000 (-(f_t_w 1)) (f_t_w 0)) cws_X11_within q_1139 [] rfl rfl (by decide) rfl rfl (Nat.le_of_ble_eq_true rfl) ⟨Nat.le_of_ble_eq_true rfl, Nat.le_of_ble_eq_true rfl⟩ rfl ⟨Nat.le_refl _, Nat.le_refl _⟩ dX11_demand_143 ?_
        have hs : (s_X11_demand_p0_0 f_t f_t_w p1) = (s_X11_within 1000 (-(f_t_w 1)) (f_t_w 0)) := ((if_neg c_1).trans ((if_pos c_2).trans (if_neg c_3)))
        exact k_finL (pc := 146) hret (by rw [hs]) rfl dX11_demand_146
  · refine k_lload_n (pc := 31) C rfl 3 rfl dX11_demand_31 ?_
    refine k_callSl (pc := 32) (As := [.long p1]) (rest := []) (r := (s_X11_size p1)) (wc := []) (wc2 := []) (ws2 := [(h_t, moE f_t h_t_w h_t_saved h_t_trial h_t_text h_t_told), (h_t_w, jA cJ 294 f_t_w)]) C (c_X11_size l D cI cJ cO p1) cws_X11_size q_1135 [] rfl rfl (by decide) rfl rfl (Nat.le_of_ble_eq_true rfl) ⟨Nat.le_of_ble_eq_true rfl, Nat.le_of_ble_eq_true rfl⟩ rfl ⟨Nat.le_refl _, Nat.le_refl _⟩ dX11_demand_32 ?_
    refine k_aload_n (pc := 35) C rfl 1 rfl dX11_demand_35 ?_
    refine g_X11_0 (pc := 36) C q_1004 0 rfl dX11_demand_36 ?_
    refine k_bipush (pc := 39) C bipush_21 dX11_demand_39 ?_
    refine k_iload_n (pc := 41) C rfl 2 rfl dX11_demand_41 ?_
    refine k_iadd (pc := 42) C dX11_demand_42 ?_
    refine k_topI (pc := 43) (v := 21) (by decide) ?_
    refine k_laldK (pc := 43) (v := (f_t_w 21)) C 1 1 rfl rfl (k_vinc 21 cl_21 (by decide) (by decide)) cl_21 rfl dX11_demand_43 ?_
    refine k_lcmp_le (pc := 44) (tgt := 52) C dX11_demand_44 dX11_demand_45 (by decide) (fun c_5 => ?_) (fun c_5 => ?_)
    · refine k_lconst (pc := 52) C lconst_0 dX11_demand_52 ?_
      refine k_lstore (pc := 53) (lv2 := [(4, .long 0), (0, .ref h_t), (1, .int 0), (2, .long p1)]) C (by decide) rfl dX11_demand_53 ?_
      refine k_goto (pc := 55) (tgt := 118) C (by decide) dX11_demand_55 ?_
      refine k_lload (pc := 118) C 0 rfl dX11_demand_118 ?_
      refine k_aload_n (pc := 120) C rfl 1 rfl dX11_demand_120 ?_
      refine g_X11_0 (pc := 121) C q_1004 0 rfl dX11_demand_121 ?_
      refine k_iconst (pc := 124) C iconst_0 dX11_demand_124 ?_
      refine k_iconst (pc := 125) C iconst_2 dX11_demand_125 ?_
      refine k_iload_n (pc := 126) C rfl 2 rfl dX11_demand_126 ?_
      refine k_imul (pc := 127) C dX11_demand_127 ?_
      refine k_topI (pc := 128) (v := 0) (by decide) ?_
      refine k_iadd (pc := 128) C dX11_demand_128 ?_
      refine k_topI (pc := 129) (v := 0) (by decide) ?_
      refine k_iconst (pc := 129) C iconst_1 dX11_demand_129 ?_
      refine k_iadd (pc := 130) C dX11_demand_130 ?_
      refine k_topI (pc := 131) (v := 1) (by decide) ?_
      refine k_laldK (pc := 131) (v := (f_t_w 1)) C 1 1 rfl rfl (k_vinc 1 cl_1 (by decide) (by decide)) cl_1 rfl dX11_demand_131 ?_
      refine k_lneg (pc := 132) C dX11_demand_132 ?_
      refine k_aload_n (pc := 133) C rfl 1 rfl dX11_demand_133 ?_
      refine g_X11_0 (pc := 134) C q_1004 0 rfl dX11_demand_134 ?_
      refine k_iconst (pc := 137) C iconst_0 dX11_demand_137 ?_
      refine k_iconst (pc := 138) C iconst_2 dX11_demand_138 ?_
      refine k_iload_n (pc := 139) C rfl 2 rfl dX11_demand_139 ?_
      refine k_imul (pc := 140) C dX11_demand_140 ?_
      refine k_topI (pc := 141) (v := 0) (by decide) ?_
      refine k_iadd (pc := 141) C dX11_demand_141 ?_
      refine k_topI (pc := 142) (v := 0) (by decide) ?_
      refine k_laldK (pc := 142) (v := (f_t_w 0)) C 1 1 rfl rfl (k_vinc 0 cl_0 (by decide) (by decide)) cl_0 rfl dX11_demand_142 ?_
      refine k_callSl (pc := 143) (As := [.long 0, .long (-(f_t_w 1)), .long (f_t_w 0)]) (rest := []) (r := (s_X11_within 0 (-(f_t_w 1)) (f_t_w 0))) (wc := []) (wc2 := []) (ws2 := [(h_t, moE f_t h_t_w h_t_saved h_t_trial h_t_text h_t_told), (h_t_w, jA cJ 294 f_t_w)]) C (c_X11_within l D cI cJ cO 0 (-(f_t_w 1)) (f_t_w 0)) cws_X11_within q_1139 [] rfl rfl (by decide) rfl rfl (Nat.le_of_ble_eq_true rfl) ⟨Nat.le_of_ble_eq_true rfl, Nat.le_of_ble_eq_true rfl⟩ rfl ⟨Nat.le_refl _, Nat.le_refl _⟩ dX11_demand_143 ?_
      have hs : (s_X11_demand_p0_0 f_t f_t_w p1) = (s_X11_within 0 (-(f_t_w 1)) (f_t_w 0)) := ((if_pos c_1).trans (if_pos c_5))
      exact k_finL (pc := 146) hret (by rw [hs]) rfl dX11_demand_146
    · refine k_lload_n (pc := 48) C rfl 3 rfl dX11_demand_48 ?_
      refine k_goto (pc := 49) (tgt := 53) C (by decide) dX11_demand_49 ?_
      refine k_lstore (pc := 53) (lv2 := [(4, .long p1), (0, .ref h_t), (1, .int 0), (2, .long p1)]) C (by decide) rfl dX11_demand_53 ?_
      refine k_goto (pc := 55) (tgt := 118) C (by decide) dX11_demand_55 ?_
      refine k_lload (pc := 118) C 0 rfl dX11_demand_118 ?_
      refine k_aload_n (pc := 120) C rfl 1 rfl dX11_demand_120 ?_
      refine g_X11_0 (pc := 121) C q_1004 0 rfl dX11_demand_121 ?_
      refine k_iconst (pc := 124) C iconst_0 dX11_demand_124 ?_
      refine k_iconst (pc := 125) C iconst_2 dX11_demand_125 ?_
      refine k_iload_n (pc := 126) C rfl 2 rfl dX11_demand_126 ?_
      refine k_imul (pc := 127) C dX11_demand_127 ?_
      refine k_topI (pc := 128) (v := 0) (by decide) ?_
      refine k_iadd (pc := 128) C dX11_demand_128 ?_
      refine k_topI (pc := 129) (v := 0) (by decide) ?_
      refine k_iconst (pc := 129) C iconst_1 dX11_demand_129 ?_
      refine k_iadd (pc := 130) C dX11_demand_130 ?_
      refine k_topI (pc := 131) (v := 1) (by decide) ?_
      refine k_laldK (pc := 131) (v := (f_t_w 1)) C 1 1 rfl rfl (k_vinc 1 cl_1 (by decide) (by decide)) cl_1 rfl dX11_demand_131 ?_
      refine k_lneg (pc := 132) C dX11_demand_132 ?_
      refine k_aload_n (pc := 133) C rfl 1 rfl dX11_demand_133 ?_
      refine g_X11_0 (pc := 134) C q_1004 0 rfl dX11_demand_134 ?_
      refine k_iconst (pc := 137) C iconst_0 dX11_demand_137 ?_
      refine k_iconst (pc := 138) C iconst_2 dX11_demand_138 ?_
      refine k_iload_n (pc := 139) C rfl 2 rfl dX11_demand_139 ?_
      refine k_imul (pc := 140) C dX11_demand_140 ?_
      refine k_topI (pc := 141) (v := 0) (by decide) ?_
      refine k_iadd (pc := 141) C dX11_demand_141 ?_
      refine k_topI (pc := 142) (v := 0) (by decide) ?_
      refine k_laldK (pc := 142) (v := (f_t_w 0)) C 1 1 rfl rfl (k_vinc 0 cl_0 (by decide) (by decide)) cl_0 rfl dX11_demand_142 ?_
      refine k_callSl (pc := 143) (As := [.long p1, .long (-(f_t_w 1)), .long (f_t_w 0)]) (rest := []) (r := (s_X11_within p1 (-(f_t_w 1)) (f_t_w 0))) (wc := []) (wc2 := []) (ws2 := [(h_t, moE f_t h_t_w h_t_saved h_t_trial h_t_text h_t_told), (h_t_w, jA cJ 294 f_t_w)]) C (c_X11_within l D cI cJ cO p1 (-(f_t_w 1)) (f_t_w 0)) cws_X11_within q_1139 [] rfl rfl (by decide) rfl rfl (Nat.le_of_ble_eq_true rfl) ⟨Nat.le_of_ble_eq_true rfl, Nat.le_of_ble_eq_true rfl⟩ rfl ⟨Nat.le_refl _, Nat.le_refl _⟩ dX11_demand_143 ?_
      have hs : (s_X11_demand_p0_0 f_t f_t_w p1) = (s_X11_within p1 (-(f_t_w 1)) (f_t_w 0)) := ((if_pos c_1).trans (if_neg c_5))
      exact k_finL (pc := 146) hret (by rw [hs]) rfl dX11_demand_146

def s_X11_demand_p0_1 (f_t : Nat → Int32) (f_t_w : Nat → Int64) (p1 : Int64) : Int64 :=
  (if (f_t_w 18) = 0 then (if (s_X11_size p1) ≤ (f_t_w 22) then (s_X11_within 0 (-(f_t_w 3)) (f_t_w 2)) else (s_X11_within p1 (-(f_t_w 3)) (f_t_w 2))) else (if (f_t_w 18) = 2 then (if p1 ≤ (f_t_w 22) then (if (-(f_t_w 22)) ≤ p1 then (s_X11_within 0 (-(f_t_w 3)) (f_t_w 2)) else (s_X11_within (-1000) (-(f_t_w 3)) (f_t_w 2))) else (s_X11_within 1000 (-(f_t_w 3)) (f_t_w 2))) else (s_X11_within (((f_t_w 20) * p1) / 100) (-(f_t_w 3)) (f_t_w 2))))
set_option maxRecDepth 100000 in
set_option maxHeartbeats 4000000 in
theorem c_X11_demand_p0_1 (l : Launch) (D : va_G) (cI cJ cO : ClassId) (h_t : Nat) (h_t_w : Nat) (h_t_saved : Nat) (h_t_trial : Nat) (h_t_text : Nat) (h_t_told : Nat) (f_t : Nat → Int32) (f_t_w : Nat → Int64) (p1 : Int64) : kL l yX11_demand cX11_demand 6 .long 1 25 D (kT cI cJ cO) [.ref h_t, .int 1, .long p1] [(h_t, moE f_t h_t_w h_t_saved h_t_trial h_t_text h_t_told), (h_t_w, jA cJ 294 f_t_w)] (s_X11_demand_p0_1 f_t f_t_w p1) [(h_t, moE f_t h_t_w h_t_saved h_t_trial h_t_text h_t_told), (h_t_w, jA cJ 294 f_t_w)] := by
  refine kL_of (own := RX11) (lv := [(0, .ref h_t), (1, .int 1), (2, .long p1)]) rfl rfl (by decide) (Nat.le_of_ble_eq_true rfl) ?_
  intro p e s m args below meth c Q A C hret
  refine k_aload_n (pc := 0) C rfl 0 rfl dX11_demand_0 ?_
  refine g_X11_0 (pc := 1) C q_1004 0 rfl dX11_demand_1 ?_
  refine k_bipush (pc := 4) C bipush_19 dX11_demand_4 ?_
  refine k_iload_n (pc := 6) C rfl 1 rfl dX11_demand_6 ?_
  refine k_iadd (pc := 7) C dX11_demand_7 ?_
  refine k_topI (pc := 8) (v := 20) (by decide) ?_
  refine k_laldK (pc := 8) (v := (f_t_w 20)) C 1 1 rfl rfl (k_vinc 20 cl_20 (by decide) (by decide)) cl_20 rfl dX11_demand_8 ?_
  refine k_lload_n (pc := 9) C rfl 2 rfl dX11_demand_9 ?_
  refine k_lmul (pc := 10) C dX11_demand_10 ?_
  refine k_ldc2 (pc := 11) C q_1078 dX11_demand_11 ?_
  refine k_ldiv (pc := 14) C (by decide) dX11_demand_14 ?_
  refine k_lstore (pc := 15) (lv2 := [(4, .long (((f_t_w 20) * p1) / 100)), (0, .ref h_t), (1, .int 1), (2, .long p1)]) C (by decide) rfl dX11_demand_15 ?_
  refine k_aload_n (pc := 17) C rfl 1 rfl dX11_demand_17 ?_
  refine g_X11_0 (pc := 18) C q_1004 0 rfl dX11_demand_18 ?_
  refine k_bipush (pc := 21) C bipush_17 dX11_demand_21 ?_
  refine k_iload_n (pc := 23) C rfl 2 rfl dX11_demand_23 ?_
  refine k_iadd (pc := 24) C dX11_demand_24 ?_
  refine k_topI (pc := 25) (v := 18) (by decide) ?_
  refine k_laldK (pc := 25) (v := (f_t_w 18)) C 1 1 rfl rfl (k_vinc 18 cl_18 (by decide) (by decide)) cl_18 rfl dX11_demand_25 ?_
  refine k_lconst (pc := 26) C lconst_0 dX11_demand_26 ?_
  refine k_lcmp_ne (pc := 27) (tgt := 58) C dX11_demand_27 dX11_demand_28 (by decide) (fun c_1 => ?_) (fun c_1 => ?_)
  · refine k_aload_n (pc := 58) C rfl 1 rfl dX11_demand_58 ?_
    refine g_X11_0 (pc := 59) C q_1004 0 rfl dX11_demand_59 ?_
    refine k_bipush (pc := 62) C bipush_17 dX11_demand_62 ?_
    refine k_iload_n (pc := 64) C rfl 2 rfl dX11_demand_64 ?_
    refine k_iadd (pc := 65) C dX11_demand_65 ?_
    refine k_topI (pc := 66) (v := 18) (by decide) ?_
    refine k_laldK (pc := 66) (v := (f_t_w 18)) C 1 1 rfl rfl (k_vinc 18 cl_18 (by decide) (by decide)) cl_18 rfl dX11_demand_66 ?_
    refine k_ldc2 (pc := 67) C q_995 dX11_demand_67 ?_
    refine k_lcmp_ne (pc := 70) (tgt := 118) C dX11_demand_70 dX11_demand_71 (by decide) (fun c_2 => ?_) (fun c_2 => ?_)
    · refine k_lload (pc := 118) C 0 rfl dX11_demand_118 ?_
      refine k_aload_n (pc := 120) C rfl 1 rfl dX11_demand_120 ?_
      refine g_X11_0 (pc := 121) C q_1004 0 rfl dX11_demand_121 ?_
      refine k_iconst (pc := 124) C iconst_0 dX11_demand_124 ?_
      refine k_iconst (pc := 125) C iconst_2 dX11_demand_125 ?_
      refine k_iload_n (pc := 126) C rfl 2 rfl dX11_demand_126 ?_
      refine k_imul (pc := 127) C dX11_demand_127 ?_
      refine k_topI (pc := 128) (v := 2) (by decide) ?_
      refine k_iadd (pc := 128) C dX11_demand_128 ?_
      refine k_topI (pc := 129) (v := 2) (by decide) ?_
      refine k_iconst (pc := 129) C iconst_1 dX11_demand_129 ?_
      refine k_iadd (pc := 130) C dX11_demand_130 ?_
      refine k_topI (pc := 131) (v := 3) (by decide) ?_
      refine k_laldK (pc := 131) (v := (f_t_w 3)) C 1 1 rfl rfl (k_vinc 3 cl_3 (by decide) (by decide)) cl_3 rfl dX11_demand_131 ?_
      refine k_lneg (pc := 132) C dX11_demand_132 ?_
      refine k_aload_n (pc := 133) C rfl 1 rfl dX11_demand_133 ?_
      refine g_X11_0 (pc := 134) C q_1004 0 rfl dX11_demand_134 ?_
      refine k_iconst (pc := 137) C iconst_0 dX11_demand_137 ?_
      refine k_iconst (pc := 138) C iconst_2 dX11_demand_138 ?_
      refine k_iload_n (pc := 139) C rfl 2 rfl dX11_demand_139 ?_
      refine k_imul (pc := 140) C dX11_demand_140 ?_
      refine k_topI (pc := 141) (v := 2) (by decide) ?_
      refine k_iadd (pc := 141) C dX11_demand_141 ?_
      refine k_topI (pc := 142) (v := 2) (by decide) ?_
      refine k_laldK (pc := 142) (v := (f_t_w 2)) C 1 1 rfl rfl (k_vinc 2 cl_2 (by decide) (by decide)) cl_2 rfl dX11_demand_142 ?_
      refine k_callSl (pc := 143) (As := [.long (((f_t_w 20) * p1) / 100), .long (-(f_t_w 3)), .long (f_t_w 2)]) (rest := []) (r := (s_X11_within (((f_t_w 20) * p1) / 100) (-(f_t_w 3)) (f_t_w 2))) (wc := []) (wc2 := []) (ws2 := [(h_t, moE f_t h_t_w h_t_saved h_t_trial h_t_text h_t_told), (h_t_w, jA cJ 294 f_t_w)]) C (c_X11_within l D cI cJ cO (((f_t_w 20) * p1) / 100) (-(f_t_w 3)) (f_t_w 2)) cws_X11_within q_1139 [] rfl rfl (by decide) rfl rfl (Nat.le_of_ble_eq_true rfl) ⟨Nat.le_of_ble_eq_true rfl, Nat.le_of_ble_eq_true rfl⟩ rfl ⟨Nat.le_refl _, Nat.le_refl _⟩ dX11_demand_143 ?_
      have hs : (s_X11_demand_p0_1 f_t f_t_w p1) = (s_X11_within (((f_t_w 20) * p1) / 100) (-(f_t_w 3)) (f_t_w 2)) := ((if_neg c_1).trans (if_neg c_2))
      exact k_finL (pc := 146) hret (by rw [hs]) rfl dX11_demand_146
    · refine k_lload_n (pc := 74) C rfl 3 rfl dX11_demand_74 ?_
      refine k_aload_n (pc := 75) C rfl 1 rfl dX11_demand_75 ?_
      refine g_X11_0 (pc := 76) C q_1004 0 rfl dX11_demand_76 ?_
      refine k_bipush (pc := 79) C bipush_21 dX11_demand_79 ?_
      refine k_iload_n (pc := 81) C rfl 2 rfl dX11_demand_81 ?_
      refine k_iadd (pc := 82) C dX11_demand_82 ?_
      refine k_topI (pc := 83) (v := 22) (by decide) ?_
      refine k_laldK (pc := 83) (v := (f_t_w 22)) C 1 1 rfl rfl (k_vinc 22 cl_22 (by decide) (by decide)) cl_22 rfl dX11_demand_83 ?_
      refine k_lcmp_le (pc := 84) (tgt := 94) C dX11_demand_84 dX11_demand_85 (by decide) (fun c_3 => ?_) (fun c_3 => ?_)
      · refine k_lload_n (pc := 94) C rfl 3 rfl dX11_demand_94 ?_
        refine k_aload_n (pc := 95) C rfl 1 rfl dX11_demand_95 ?_
        refine g_X11_0 (pc := 96) C q_1004 0 rfl dX11_demand_96 ?_
        refine k_bipush (pc := 99) C bipush_21 dX11_demand_99 ?_
        refine k_iload_n (pc := 101) C rfl 2 rfl dX11_demand_101 ?_
        refine k_iadd (pc := 102) C dX11_demand_102 ?_
        refine k_topI (pc := 103) (v := 22) (by decide) ?_
        refine k_laldK (pc := 103) (v := (f_t_w 22)) C 1 1 rfl rfl (k_vinc 22 cl_22 (by decide) (by decide)) cl_22 rfl dX11_demand_103 ?_
        refine k_lneg (pc := 104) C dX11_demand_104 ?_
        refine k_lcmp_ge (pc := 105) (tgt := 115) C dX11_demand_105 dX11_demand_106 (by decide) (fun c_4 => ?_) (fun c_4 => ?_)
        · refine k_lconst (pc := 115) C lconst_0 dX11_demand_115 ?_
          refine k_lstore (pc := 116) (lv2 := [(4, .long 0), (0, .ref h_t), (1, .int 1), (2, .long p1)]) C (by decide) rfl dX11_demand_116 ?_
          refine k_lload (pc := 118) C 0 rfl dX11_demand_118 ?_
          refine k_aload_n (pc := 120) C rfl 1 rfl dX11_demand_120 ?_
          refine g_X11_0 (pc := 121) C q_1004 0 rfl dX11_demand_121 ?_
          refine k_iconst (pc := 124) C iconst_0 dX11_demand_124 ?_
          refine k_iconst (pc := 125) C iconst_2 dX11_demand_125 ?_
          refine k_iload_n (pc := 126) C rfl 2 rfl dX11_demand_126 ?_
          refine k_imul (pc := 127) C dX11_demand_127 ?_
          refine k_topI (pc := 128) (v := 2) (by decide) ?_
          refine k_iadd (pc := 128) C dX11_demand_128 ?_
          refine k_topI (pc := 129) (v := 2) (by decide) ?_
          refine k_iconst (pc := 129) C iconst_1 dX11_demand_129 ?_
          refine k_iadd (pc := 130) C dX11_demand_130 ?_
          refine k_topI (pc := 131) (v := 3) (by decide) ?_
          refine k_laldK (pc := 131) (v := (f_t_w 3)) C 1 1 rfl rfl (k_vinc 3 cl_3 (by decide) (by decide)) cl_3 rfl dX11_demand_131 ?_
          refine k_lneg (pc := 132) C dX11_demand_132 ?_
          refine k_aload_n (pc := 133) C rfl 1 rfl dX11_demand_133 ?_
          refine g_X11_0 (pc := 134) C q_1004 0 rfl dX11_demand_134 ?_
          refine k_iconst (pc := 137) C iconst_0 dX11_demand_137 ?_
          refine k_iconst (pc := 138) C iconst_2 dX11_demand_138 ?_
          refine k_iload_n (pc := 139) C rfl 2 rfl dX11_demand_139 ?_
          refine k_imul (pc := 140) C dX11_demand_140 ?_
          refine k_topI (pc := 141) (v := 2) (by decide) ?_
          refine k_iadd (pc := 141) C dX11_demand_141 ?_
          refine k_topI (pc := 142) (v := 2) (by decide) ?_
          refine k_laldK (pc := 142) (v := (f_t_w 2)) C 1 1 rfl rfl (k_vinc 2 cl_2 (by decide) (by decide)) cl_2 rfl dX11_demand_142 ?_
          refine k_callSl (pc := 143) (As := [.long 0, .long (-(f_t_w 3)), .long (f_t_w 2)]) (rest := []) (r := (s_X11_within 0 (-(f_t_w 3)) (f_t_w 2))) (wc := []) (wc2 := []) (ws2 := [(h_t, moE f_t h_t_w h_t_saved h_t_trial h_t_text h_t_told), (h_t_w, jA cJ 294 f_t_w)]) C (c_X11_within l D cI cJ cO 0 (-(f_t_w 3)) (f_t_w 2)) cws_X11_within q_1139 [] rfl rfl (by decide) rfl rfl (Nat.le_of_ble_eq_true rfl) ⟨Nat.le_of_ble_eq_true rfl, Nat.le_of_ble_eq_true rfl⟩ rfl ⟨Nat.le_refl _, Nat.le_refl _⟩ dX11_demand_143 ?_
          have hs : (s_X11_demand_p0_1 f_t f_t_w p1) = (s_X11_within 0 (-(f_t_w 3)) (f_t_w 2)) := ((if_neg c_1).trans ((if_pos c_2).trans ((if_pos c_3).trans (if_pos c_4))))
          exact k_finL (pc := 146) hret (by rw [hs]) rfl dX11_demand_146
        · refine k_ldc2 (pc := 109) C q_1138 dX11_demand_109 ?_
          refine k_goto (pc := 112) (tgt := 116) C (by decide) dX11_demand_112 ?_
          refine k_lstore (pc := 116) (lv2 := [(4, .long (-1000)), (0, .ref h_t), (1, .int 1), (2, .long p1)]) C (by decide) rfl dX11_demand_116 ?_
          refine k_lload (pc := 118) C 0 rfl dX11_demand_118 ?_
          refine k_aload_n (pc := 120) C rfl 1 rfl dX11_demand_120 ?_
          refine g_X11_0 (pc := 121) C q_1004 0 rfl dX11_demand_121 ?_
          refine k_iconst (pc := 124) C iconst_0 dX11_demand_124 ?_
          refine k_iconst (pc := 125) C iconst_2 dX11_demand_125 ?_
          refine k_iload_n (pc := 126) C rfl 2 rfl dX11_demand_126 ?_
          refine k_imul (pc := 127) C dX11_demand_127 ?_
          refine k_topI (pc := 128) (v := 2) (by decide) ?_
          refine k_iadd (pc := 128) C dX11_demand_128 ?_
          refine k_topI (pc := 129) (v := 2) (by decide) ?_
          refine k_iconst (pc := 129) C iconst_1 dX11_demand_129 ?_
          refine k_iadd (pc := 130) C dX11_demand_130 ?_
          refine k_topI (pc := 131) (v := 3) (by decide) ?_
          refine k_laldK (pc := 131) (v := (f_t_w 3)) C 1 1 rfl rfl (k_vinc 3 cl_3 (by decide) (by decide)) cl_3 rfl dX11_demand_131 ?_
          refine k_lneg (pc := 132) C dX11_demand_132 ?_
          refine k_aload_n (pc := 133) C rfl 1 rfl dX11_demand_133 ?_
          refine g_X11_0 (pc := 134) C q_1004 0 rfl dX11_demand_134 ?_
          refine k_iconst (pc := 137) C iconst_0 dX11_demand_137 ?_
          refine k_iconst (pc := 138) C iconst_2 dX11_demand_138 ?_
          refine k_iload_n (pc := 139) C rfl 2 rfl dX11_demand_139 ?_
          refine k_imul (pc := 140) C dX11_demand_140 ?_
          refine k_topI (pc := 141) (v := 2) (by decide) ?_
          refine k_iadd (pc := 141) C dX11_demand_141 ?_
          refine k_topI (pc := 142) (v := 2) (by decide) ?_
          refine k_laldK (pc := 142) (v := (f_t_w 2)) C 1 1 rfl rfl (k_vinc 2 cl_2 (by decide) (by decide)) cl_2 rfl dX11_demand_142 ?_
          refine k_callSl (pc := 143) (As := [.long (-1000), .long (-(f_t_w 3)), .long (f_t_w 2)]) (rest := []) (r := (s_X11_within (-1000) (-(f_t_w 3)) (f_t_w 2))) (wc := []) (wc2 := []) (ws2 := [(h_t, moE f_t h_t_w h_t_saved h_t_trial h_t_text h_t_told), (h_t_w, jA cJ 294 f_t_w)]) C (c_X11_within l D cI cJ cO (-1000) (-(f_t_w 3)) (f_t_w 2)) cws_X11_within q_1139 [] rfl rfl (by decide) rfl rfl (Nat.le_of_ble_eq_true rfl) ⟨Nat.le_of_ble_eq_true rfl, Nat.le_of_ble_eq_true rfl⟩ rfl ⟨Nat.le_refl _, Nat.le_refl _⟩ dX11_demand_143 ?_
          have hs : (s_X11_demand_p0_1 f_t f_t_w p1) = (s_X11_within (-1000) (-(f_t_w 3)) (f_t_w 2)) := ((if_neg c_1).trans ((if_pos c_2).trans ((if_pos c_3).trans (if_neg c_4))))
          exact k_finL (pc := 146) hret (by rw [hs]) rfl dX11_demand_146
      · refine k_ldc2 (pc := 88) C q_1002 dX11_demand_88 ?_
        refine k_goto (pc := 91) (tgt := 116) C (by decide) dX11_demand_91 ?_
        refine k_lstore (pc := 116) (lv2 := [(4, .long 1000), (0, .ref h_t), (1, .int 1), (2, .long p1)]) C (by decide) rfl dX11_demand_116 ?_
        refine k_lload (pc := 118) C 0 rfl dX11_demand_118 ?_
        refine k_aload_n (pc := 120) C rfl 1 rfl dX11_demand_120 ?_
        refine g_X11_0 (pc := 121) C q_1004 0 rfl dX11_demand_121 ?_
        refine k_iconst (pc := 124) C iconst_0 dX11_demand_124 ?_
        refine k_iconst (pc := 125) C iconst_2 dX11_demand_125 ?_
        refine k_iload_n (pc := 126) C rfl 2 rfl dX11_demand_126 ?_
        refine k_imul (pc := 127) C dX11_demand_127 ?_
        refine k_topI (pc := 128) (v := 2) (by decide) ?_
        refine k_iadd (pc := 128) C dX11_demand_128 ?_
        refine k_topI (pc := 129) (v := 2) (by decide) ?_
        refine k_iconst (pc := 129) C iconst_1 dX11_demand_129 ?_
        refine k_iadd (pc := 130) C dX11_demand_130 ?_
        refine k_topI (pc := 131) (v := 3) (by decide) ?_
        refine k_laldK (pc := 131) (v := (f_t_w 3)) C 1 1 rfl rfl (k_vinc 3 cl_3 (by decide) (by decide)) cl_3 rfl dX11_demand_131 ?_
        refine k_lneg (pc := 132) C dX11_demand_132 ?_
        refine k_aload_n (pc := 133) C rfl 1 rfl dX11_demand_133 ?_
        refine g_X11_0 (pc := 134) C q_1004 0 rfl dX11_demand_134 ?_
        refine k_iconst (pc := 137) C iconst_0 dX11_demand_137 ?_
        refine k_iconst (pc := 138) C iconst_2 dX11_demand_138 ?_
        refine k_iload_n (pc := 139) C rfl 2 rfl dX11_demand_139 ?_
        refine k_imul (pc := 140) C dX11_demand_140 ?_
        refine k_topI (pc := 141) (v := 2) (by decide) ?_
        refine k_iadd (pc := 141) C dX11_demand_141 ?_
        refine k_topI (pc := 142) (v := 2) (by decide) ?_
        refine k_laldK (pc := 142) (v := (f_t_w 2)) C 1 1 rfl rfl (k_vinc 2 cl_2 (by decide) (by decide)) cl_2 rfl dX11_demand_142 ?_
        refine k_callSl (pc := 143) (As := [.long 1000, .long (-(f_t_w 3)), .long (f_t_w 2)]) (rest := []) (r := (s_X11_within 1000 (-(f_t_w 3)) (f_t_w 2))) (wc := []) (wc2 := []) (ws2 := [(h_t, moE f_t h_t_w h_t_saved h_t_trial h_t_text h_t_told), (h_t_w, jA cJ 294 f_t_w)]) C (c_X11_within l D cI cJ cO 1000 (-(f_t_w 3)) (f_t_w 2)) cws_X11_within q_1139 [] rfl rfl (by decide) rfl rfl (Nat.le_of_ble_eq_true rfl) ⟨Nat.le_of_ble_eq_true rfl, Nat.le_of_ble_eq_true rfl⟩ rfl ⟨Nat.le_refl _, Nat.le_refl _⟩ dX11_demand_143 ?_
        have hs : (s_X11_demand_p0_1 f_t f_t_w p1) = (s_X11_within 1000 (-(f_t_w 3)) (f_t_w 2)) := ((if_neg c_1).trans ((if_pos c_2).trans (if_neg c_3)))
        exact k_finL (pc := 146) hret (by rw [hs]) rfl dX11_demand_146
  · refine k_lload_n (pc := 31) C rfl 3 rfl dX11_demand_31 ?_
    refine k_callSl (pc := 32) (As := [.long p1]) (rest := []) (r := (s_X11_size p1)) (wc := []) (wc2 := []) (ws2 := [(h_t, moE f_t h_t_w h_t_saved h_t_trial h_t_text h_t_told), (h_t_w, jA cJ 294 f_t_w)]) C (c_X11_size l D cI cJ cO p1) cws_X11_size q_1135 [] rfl rfl (by decide) rfl rfl (Nat.le_of_ble_eq_true rfl) ⟨Nat.le_of_ble_eq_true rfl, Nat.le_of_ble_eq_true rfl⟩ rfl ⟨Nat.le_refl _, Nat.le_refl _⟩ dX11_demand_32 ?_
    refine k_aload_n (pc := 35) C rfl 1 rfl dX11_demand_35 ?_
    refine g_X11_0 (pc := 36) C q_1004 0 rfl dX11_demand_36 ?_
    refine k_bipush (pc := 39) C bipush_21 dX11_demand_39 ?_
    refine k_iload_n (pc := 41) C rfl 2 rfl dX11_demand_41 ?_
    refine k_iadd (pc := 42) C dX11_demand_42 ?_
    refine k_topI (pc := 43) (v := 22) (by decide) ?_
    refine k_laldK (pc := 43) (v := (f_t_w 22)) C 1 1 rfl rfl (k_vinc 22 cl_22 (by decide) (by decide)) cl_22 rfl dX11_demand_43 ?_
    refine k_lcmp_le (pc := 44) (tgt := 52) C dX11_demand_44 dX11_demand_45 (by decide) (fun c_5 => ?_) (fun c_5 => ?_)
    · refine k_lconst (pc := 52) C lconst_0 dX11_demand_52 ?_
      refine k_lstore (pc := 53) (lv2 := [(4, .long 0), (0, .ref h_t), (1, .int 1), (2, .long p1)]) C (by decide) rfl dX11_demand_53 ?_
      refine k_goto (pc := 55) (tgt := 118) C (by decide) dX11_demand_55 ?_
      refine k_lload (pc := 118) C 0 rfl dX11_demand_118 ?_
      refine k_aload_n (pc := 120) C rfl 1 rfl dX11_demand_120 ?_
      refine g_X11_0 (pc := 121) C q_1004 0 rfl dX11_demand_121 ?_
      refine k_iconst (pc := 124) C iconst_0 dX11_demand_124 ?_
      refine k_iconst (pc := 125) C iconst_2 dX11_demand_125 ?_
      refine k_iload_n (pc := 126) C rfl 2 rfl dX11_demand_126 ?_
      refine k_imul (pc := 127) C dX11_demand_127 ?_
      refine k_topI (pc := 128) (v := 2) (by decide) ?_
      refine k_iadd (pc := 128) C dX11_demand_128 ?_
      refine k_topI (pc := 129) (v := 2) (by decide) ?_
      refine k_iconst (pc := 129) C iconst_1 dX11_demand_129 ?_
      refine k_iadd (pc := 130) C dX11_demand_130 ?_
      refine k_topI (pc := 131) (v := 3) (by decide) ?_
      refine k_laldK (pc := 131) (v := (f_t_w 3)) C 1 1 rfl rfl (k_vinc 3 cl_3 (by decide) (by decide)) cl_3 rfl dX11_demand_131 ?_
      refine k_lneg (pc := 132) C dX11_demand_132 ?_
      refine k_aload_n (pc := 133) C rfl 1 rfl dX11_demand_133 ?_
      refine g_X11_0 (pc := 134) C q_1004 0 rfl dX11_demand_134 ?_
      refine k_iconst (pc := 137) C iconst_0 dX11_demand_137 ?_
      refine k_iconst (pc := 138) C iconst_2 dX11_demand_138 ?_
      refine k_iload_n (pc := 139) C rfl 2 rfl dX11_demand_139 ?_
      refine k_imul (pc := 140) C dX11_demand_140 ?_
      refine k_topI (pc := 141) (v := 2) (by decide) ?_
      refine k_iadd (pc := 141) C dX11_demand_141 ?_
      refine k_topI (pc := 142) (v := 2) (by decide) ?_
      refine k_laldK (pc := 142) (v := (f_t_w 2)) C 1 1 rfl rfl (k_vinc 2 cl_2 (by decide) (by decide)) cl_2 rfl dX11_demand_142 ?_
      refine k_callSl (pc := 143) (As := [.long 0, .long (-(f_t_w 3)), .long (f_t_w 2)]) (rest := []) (r := (s_X11_within 0 (-(f_t_w 3)) (f_t_w 2))) (wc := []) (wc2 := []) (ws2 := [(h_t, moE f_t h_t_w h_t_saved h_t_trial h_t_text h_t_told), (h_t_w, jA cJ 294 f_t_w)]) C (c_X11_within l D cI cJ cO 0 (-(f_t_w 3)) (f_t_w 2)) cws_X11_within q_1139 [] rfl rfl (by decide) rfl rfl (Nat.le_of_ble_eq_true rfl) ⟨Nat.le_of_ble_eq_true rfl, Nat.le_of_ble_eq_true rfl⟩ rfl ⟨Nat.le_refl _, Nat.le_refl _⟩ dX11_demand_143 ?_
      have hs : (s_X11_demand_p0_1 f_t f_t_w p1) = (s_X11_within 0 (-(f_t_w 3)) (f_t_w 2)) := ((if_pos c_1).trans (if_pos c_5))
      exact k_finL (pc := 146) hret (by rw [hs]) rfl dX11_demand_146
    · refine k_lload_n (pc := 48) C rfl 3 rfl dX11_demand_48 ?_
      refine k_goto (pc := 49) (tgt := 53) C (by decide) dX11_demand_49 ?_
      refine k_lstore (pc := 53) (lv2 := [(4, .long p1), (0, .ref h_t), (1, .int 1), (2, .long p1)]) C (by decide) rfl dX11_demand_53 ?_
      refine k_goto (pc := 55) (tgt := 118) C (by decide) dX11_demand_55 ?_
      refine k_lload (pc := 118) C 0 rfl dX11_demand_118 ?_
      refine k_aload_n (pc := 120) C rfl 1 rfl dX11_demand_120 ?_
      refine g_X11_0 (pc := 121) C q_1004 0 rfl dX11_demand_121 ?_
      refine k_iconst (pc := 124) C iconst_0 dX11_demand_124 ?_
      refine k_iconst (pc := 125) C iconst_2 dX11_demand_125 ?_
      refine k_iload_n (pc := 126) C rfl 2 rfl dX11_demand_126 ?_
      refine k_imul (pc := 127) C dX11_demand_127 ?_
      refine k_topI (pc := 128) (v := 2) (by decide) ?_
      refine k_iadd (pc := 128) C dX11_demand_128 ?_
      refine k_topI (pc := 129) (v := 2) (by decide) ?_
      refine k_iconst (pc := 129) C iconst_1 dX11_demand_129 ?_
      refine k_iadd (pc := 130) C dX11_demand_130 ?_
      refine k_topI (pc := 131) (v := 3) (by decide) ?_
      refine k_laldK (pc := 131) (v := (f_t_w 3)) C 1 1 rfl rfl (k_vinc 3 cl_3 (by decide) (by decide)) cl_3 rfl dX11_demand_131 ?_
      refine k_lneg (pc := 132) C dX11_demand_132 ?_
      refine k_aload_n (pc := 133) C rfl 1 rfl dX11_demand_133 ?_
      refine g_X11_0 (pc := 134) C q_1004 0 rfl dX11_demand_134 ?_
      refine k_iconst (pc := 137) C iconst_0 dX11_demand_137 ?_
      refine k_iconst (pc := 138) C iconst_2 dX11_demand_138 ?_
      refine k_iload_n (pc := 139) C rfl 2 rfl dX11_demand_139 ?_
      refine k_imul (pc := 140) C dX11_demand_140 ?_
      refine k_topI (pc := 141) (v := 2) (by decide) ?_
      refine k_iadd (pc := 141) C dX11_demand_141 ?_
      refine k_topI (pc := 142) (v := 2) (by decide) ?_
      refine k_laldK (pc := 142) (v := (f_t_w 2)) C 1 1 rfl rfl (k_vinc 2 cl_2 (by decide) (by decide)) cl_2 rfl dX11_demand_142 ?_
      refine k_callSl (pc := 143) (As := [.long p1, .long (-(f_t_w 3)), .long (f_t_w 2)]) (rest := []) (r := (s_X11_within p1 (-(f_t_w 3)) (f_t_w 2))) (wc := []) (wc2 := []) (ws2 := [(h_t, moE f_t h_t_w h_t_saved h_t_trial h_t_text h_t_told), (h_t_w, jA cJ 294 f_t_w)]) C (c_X11_within l D cI cJ cO p1 (-(f_t_w 3)) (f_t_w 2)) cws_X11_within q_1139 [] rfl rfl (by decide) rfl rfl (Nat.le_of_ble_eq_true rfl) ⟨Nat.le_of_ble_eq_true rfl, Nat.le_of_ble_eq_true rfl⟩ rfl ⟨Nat.le_refl _, Nat.le_refl _⟩ dX11_demand_143 ?_
      have hs : (s_X11_demand_p0_1 f_t f_t_w p1) = (s_X11_within p1 (-(f_t_w 3)) (f_t_w 2)) := ((if_pos c_1).trans (if_neg c_5))
      exact k_finL (pc := 146) hret (by rw [hs]) rfl dX11_demand_146
