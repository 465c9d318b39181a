theorem dX10_at_0 : decode cX10_at 0 = .ok (.iload_n 1, 1) := by decide +kernel
theorem dX10_at_1 : decode cX10_at 1 = .ok (.ifCond .lt 15, 3) := by decide +kernel
theorem dX10_at_4 : decode cX10_at 4 = .ok (.iload_n 1, 1) := by decide +kernel
theorem dX10_at_5 : decode cX10_at 5 = .ok (.aload_n 0, 1) := by decide +kernel
theorem dX10_at_6 : decode cX10_at 6 = .ok (.arraylength, 1) := by decide +kernel
theorem dX10_at_7 : decode cX10_at 7 = .ok (.if_icmp .ge 9, 3) := by decide +kernel
theorem dX10_at_10 : decode cX10_at 10 = .ok (.aload_n 0, 1) := by decide +kernel
theorem dX10_at_11 : decode cX10_at 11 = .ok (.iload_n 1, 1) := by decide +kernel
theorem dX10_at_12 : decode cX10_at 12 = .ok (.iaload, 1) := by decide +kernel
theorem dX10_at_13 : decode cX10_at 13 = .ok (.goto 6, 3) := by decide +kernel
theorem dX10_at_16 : decode cX10_at 16 = .ok (.sipush (-10000), 3) := by decide +kernel
theorem dX10_at_19 : decode cX10_at 19 = .ok (.ireturn, 1) := by decide +kernel
def s_X10_at (n_p0 : Nat) (f_p0 : Nat → Int32) (p1 : Int32) : Int32 :=
  let x_3 : Int32 := (if p1 < 0 then (-10000) else (if (nI n_p0) ≤ p1 then (-10000) else (f_p0 (Int32.toNatClampNeg p1))))
  x_3
set_option maxRecDepth 100000 in
set_option maxHeartbeats 4000000 in
theorem c_X10_at (l : Launch) (D : va_G) (cI cJ cO : ClassId) (h_p0 : Nat) (n_p0 : Nat) (f_p0 : Nat → Int32) (p1 : Int32) (hn_p0 : n_p0 < 2 ^ 31) : kI l yX10_at cX10_at 2 .int 0 0 D (kT cI cJ cO) [.ref h_p0, .int p1] [(h_p0, iA cI n_p0 f_p0)] (s_X10_at n_p0 f_p0 p1) [(h_p0, iA cI n_p0 f_p0)] := by
  refine kI_of (own := RX10) (lv := [(0, .ref h_p0), (1, .int p1)]) rfl rfl (by decide) (Nat.le_of_ble_eq_true rfl) ?_
  intro p e s m args below meth c Q A C hret
  refine k_iload_n (pc := 0) C rfl 1 rfl dX10_at_0 ?_
  have K_4 : ∀ (x_3 : Int32), x_3 = (if p1 < 0 then (-10000) else (if (nI n_p0) ≤ p1 then (-10000) else (f_p0 (Int32.toNatClampNeg p1)))) → KJ p l e (kR 0 0) s m args below meth c 0 0 Q D A 2 [(h_p0, iA cI n_p0 f_p0)] [] [.int x_3] 19 := by
    intro x_3 ex_3
    subst ex_3
    have hs : (s_X10_at n_p0 f_p0 p1) = (if p1 < 0 then (-10000) else (if (nI n_p0) ≤ p1 then (-10000) else (f_p0 (Int32.toNatClampNeg p1)))) := by unfold s_X10_at; exact rfl
    exact k_finI (pc := 19) hret rfl (by rw [hs]) rfl dX10_at_19
  refine k_if_lt (pc := 1) (tgt := 16) C dX10_at_1 (by decide) (fun c_1 => ?_) (fun c_1 => ?_)
  · refine k_sipush (pc := 16) C sipush_m10000 dX10_at_16 ?_
    refine k_lpick (lv2 := []) [] rfl ?_
    exact K_4 (-10000) (if_pos c_1).symm
  · refine k_iload_n (pc := 4) C rfl 1 rfl dX10_at_4 ?_
    refine k_aload_n (pc := 5) C rfl 0 rfl dX10_at_5 ?_
    refine k_alen (pc := 6) (v := (nI n_p0)) C 0 0 rfl rfl rfl dX10_at_6 ?_
    refine k_icmp_ge (pc := 7) (tgt := 16) C dX10_at_7 (by decide) (fun c_2 => ?_) (fun c_2 => ?_)
    · refine k_sipush (pc := 16) C sipush_m10000 dX10_at_16 ?_
      refine k_lpick (lv2 := []) [] rfl ?_
      exact K_4 (-10000) ((if_neg c_1).trans (if_pos c_2)).symm
    · refine k_aload_n (pc := 10) C rfl 0 rfl dX10_at_10 ?_
      refine k_iload_n (pc := 11) C rfl 1 rfl dX10_at_11 ?_
      refine k_ialdK (pc := 12) (v := (f_p0 (Int32.toNatClampNeg p1))) C 0 0 rfl rfl (k_vin hn_p0 c_1 (k_nle c_2)) rfl rfl dX10_at_12 ?_
      refine k_goto (pc := 13) (tgt := 19) C (by decide) dX10_at_13 ?_
      refine k_lpick (lv2 := []) [] rfl ?_
      exact K_4 (f_p0 (Int32.toNatClampNeg p1)) ((if_neg c_1).trans (if_neg c_2)).symm

theorem dX10_put_0 : decode cX10_put 0 = .ok (.iload_n 1, 1) := by decide +kernel
theorem dX10_put_1 : decode cX10_put 1 = .ok (.ifCond .lt 13, 3) := by decide +kernel
theorem dX10_put_4 : decode cX10_put 4 = .ok (.iload_n 1, 1) := by decide +kernel
theorem dX10_put_5 : decode cX10_put 5 = .ok (.aload_n 0, 1) := by decide +kernel
theorem dX10_put_6 : decode cX10_put 6 = .ok (.arraylength, 1) := by decide +kernel
theorem dX10_put_7 : decode cX10_put 7 = .ok (.if_icmp .ge 7, 3) := by decide +kernel
theorem dX10_put_10 : decode cX10_put 10 = .ok (.aload_n 0, 1) := by decide +kernel
theorem dX10_put_11 : decode cX10_put 11 = .ok (.iload_n 1, 1) := by decide +kernel
theorem dX10_put_12 : decode cX10_put 12 = .ok (.iload_n 2, 1) := by decide +kernel
theorem dX10_put_13 : decode cX10_put 13 = .ok (.iastore, 1) := by decide +kernel
theorem dX10_put_14 : decode cX10_put 14 = .ok (.return_, 1) := by decide +kernel
def s_X10_put (n_p0 : Nat) (f_p0 : Nat → Int32) (p1 : Int32) (p2 : Int32) : (Nat → Int32) :=
  if p1 < 0 then
    f_p0
  else
    if (nI n_p0) ≤ p1 then
      f_p0
    else
      (upd f_p0 (Int32.toNatClampNeg p1) p2)
set_option maxRecDepth 100000 in
set_option maxHeartbeats 4000000 in
theorem c_X10_put (l : Launch) (D : va_G) (cI cJ cO : ClassId) (h_p0 : Nat) (n_p0 : Nat) (f_p0 : Nat → Int32) (p1 : Int32) (p2 : Int32) (hn_p0 : n_p0 < 2 ^ 31) : kV l yX10_put cX10_put 3 0 0 D (kT cI cJ cO) [.ref h_p0, .int p1, .int p2] [(h_p0, iA cI n_p0 f_p0)] [(h_p0, iA cI n_p0 (s_X10_put n_p0 f_p0 p1 p2))] := by
  refine kV_of (own := RX10) (lv := [(0, .ref h_p0), (1, .int p1), (2, .int p2)]) rfl rfl (by decide) (Nat.le_of_ble_eq_true rfl) ?_
  intro p e s m args below meth c Q A C hret
  refine k_iload_n (pc := 0) C rfl 1 rfl dX10_put_0 ?_
  refine k_if_lt (pc := 1) (tgt := 14) C dX10_put_1 (by decide) (fun c_1 => ?_) (fun c_1 => ?_)
  · have hs : (s_X10_put n_p0 f_p0 p1 p2) = f_p0 := by unfold s_X10_put; exact (if_pos c_1)
    exact k_finV (pc := 14) hret (by rw [hs]) dX10_put_14
  · refine k_iload_n (pc := 4) C rfl 1 rfl dX10_put_4 ?_
    refine k_aload_n (pc := 5) C rfl 0 rfl dX10_put_5 ?_
    refine k_alen (pc := 6) (v := (nI n_p0)) C 0 0 rfl rfl rfl dX10_put_6 ?_
    refine k_icmp_ge (pc := 7) (tgt := 14) C dX10_put_7 (by decide) (fun c_2 => ?_) (fun c_2 => ?_)
    · have hs : (s_X10_put n_p0 f_p0 p1 p2) = f_p0 := by unfold s_X10_put; exact ((if_neg c_1).trans (if_pos c_2))
      exact k_finV (pc := 14) hret (by rw [hs]) dX10_put_14
    · refine k_aload_n (pc := 10) C rfl 0 rfl dX10_put_10 ?_
      refine k_iload_n (pc := 11) C rfl 1 rfl dX10_put_11 ?_
      refine k_iload_n (pc := 12) C rfl 2 rfl dX10_put_12 ?_
      refine k_iastK (pc := 13) (ws2 := [(h_p0, iA cI n_p0 (upd f_p0 (Int32.toNatClampNeg p1) p2))]) C 0 0 rfl rfl (k_vin hn_p0 c_1 (k_nle c_2)) rfl rfl dX10_put_13 ?_
      have hs : (s_X10_put n_p0 f_p0 p1 p2) = (upd f_p0 (Int32.toNatClampNeg p1) p2) := by unfold s_X10_put; exact ((if_neg c_1).trans (if_neg c_2))
      exact k_finV (pc := 14) hret (by rw [hs]) dX10_put_14

theorem dX10_isWithin_0 : decode cX10_isWithin 0 = .ok (.iload_n 0, 1) := by decide +kernel
theorem dX10_isWithin_1 : decode cX10_isWithin 1 = .ok (.iload_n 1, 1) := by decide +kernel
theorem dX10_isWithin_2 : decode cX10_isWithin 2 = .ok (.if_icmp .lt 12, 3) := by decide +kernel
theorem dX10_isWithin_5 : decode cX10_isWithin 5 = .ok (.iload_n 0, 1) := by decide +kernel
theorem dX10_isWithin_6 : decode cX10_isWithin 6 = .ok (.iload_n 2, 1) := by decide +kernel
theorem dX10_isWithin_7 : decode cX10_isWithin 7 = .ok (.if_icmp .gt 7, 3) := by decide +kernel
theorem dX10_isWithin_10 : decode cX10_isWithin 10 = .ok (.iconst 1, 1) := by decide +kernel
theorem dX10_isWithin_11 : decode cX10_isWithin 11 = .ok (.goto 4, 3) := by decide +kernel
theorem dX10_isWithin_14 : decode cX10_isWithin 14 = .ok (.iconst 0, 1) := by decide +kernel
theorem dX10_isWithin_15 : decode cX10_isWithin 15 = .ok (.ireturn, 1) := by decide +kernel
def s_X10_isWithin (p0 : Int32) (p1 : Int32) (p2 : Int32) : Int32 :=
  if p0 < p1 then
    0
  else
    if p2 < p0 then
      0
    else
      1
set_option maxRecDepth 100000 in
set_option maxHeartbeats 4000000 in
theorem c_X10_isWithin (l : Launch) (D : va_G) (cI cJ cO : ClassId) (p0 : Int32) (p1 : Int32) (p2 : Int32) : kI l yX10_isWithin cX10_isWithin 3 .boolean 0 0 D (kT cI cJ cO) [.int p0, .int p1, .int p2] [] (s_X10_isWithin p0 p1 p2) [] := by
  refine kI_of (own := RX10) (lv := [(0, .int p0), (1, .int p1), (2, .int p2)]) rfl rfl (by decide) (Nat.le_of_ble_eq_true rfl) ?_
  intro p e s m args below meth c Q A C hret
  refine k_iload_n (pc := 0) C rfl 0 rfl dX10_isWithin_0 ?_
  refine k_iload_n (pc := 1) C rfl 1 rfl dX10_isWithin_1 ?_
  refine k_icmp_lt (pc := 2) (tgt := 14) C dX10_isWithin_2 (by decide) (fun c_1 => ?_) (fun c_1 => ?_)
  · refine k_iconst (pc := 14) C iconst_0 dX10_isWithin_14 ?_
    have hs : (s_X10_isWithin p0 p1 p2) = 0 := by unfold s_X10_isWithin; exact (if_pos c_1)
    exact k_finI (pc := 15) hret rfl (by rw [hs]) rfl dX10_isWithin_15
  · refine k_iload_n (pc := 5) C rfl 0 rfl dX10_isWithin_5 ?_
    refine k_iload_n (pc := 6) C rfl 2 rfl dX10_isWithin_6 ?_
    refine k_icmp_gt (pc := 7) (tgt := 14) C dX10_isWithin_7 (by decide) (fun c_2 => ?_) (fun c_2 => ?_)
    · refine k_iconst (pc := 14) C iconst_0 dX10_isWithin_14 ?_
      have hs : (s_X10_isWithin p0 p1 p2) = 0 := by unfold s_X10_isWithin; exact ((if_neg c_1).trans (if_pos c_2))
      exact k_finI (pc := 15) hret rfl (by rw [hs]) rfl dX10_isWithin_15
    · refine k_iconst (pc := 10) C iconst_1 dX10_isWithin_10 ?_
      refine k_goto (pc := 11) (tgt := 15) C (by decide) dX10_isWithin_11 ?_
      have hs : (s_X10_isWithin p0 p1 p2) = 1 := by unfold s_X10_isWithin; exact ((if_neg c_1).trans (if_neg c_2))
      exact k_finI (pc := 15) hret rfl (by rw [hs]) rfl dX10_isWithin_15

theorem dX10_limit_0 : decode cX10_limit 0 = .ok (.iload_n 1, 1) := by decide +kernel
theorem dX10_limit_1 : decode cX10_limit 1 = .ok (.iload_n 2, 1) := by decide +kernel
theorem dX10_limit_2 : decode cX10_limit 2 = .ok (.iload_n 0, 1) := by decide +kernel
theorem dX10_limit_3 : decode cX10_limit 3 = .ok (.invokestatic 225, 3) := by decide +kernel
theorem dX10_limit_6 : decode cX10_limit 6 = .ok (.invokestatic 230, 3) := by decide +kernel
theorem dX10_limit_9 : decode cX10_limit 9 = .ok (.ireturn, 1) := by decide +kernel
def s_X10_limit (p0 : Int32) (p1 : Int32) (p2 : Int32) : Int32 :=
  (if p1 < (if p0 < p2 then p0 else p2) then (if p0 < p2 then p0 else p2) else p1)
set_option maxRecDepth 100000 in
set_option maxHeartbeats 4000000 in
theorem c_X10_limit (l : Launch) (D : va_G) (cI cJ cO : ClassId) (p0 : Int32) (p1 : Int32) (p2 : Int32) : kI l yX10_limit cX10_limit 3 .int 1 14 D (kT cI cJ cO) [.int p0, .int p1, .int p2] [] (s_X10_limit p0 p1 p2) [] := by
  refine kI_of (own := RX10) (lv := [(0, .int p0), (1, .int p1), (2, .int p2)]) rfl rfl (by decide) (Nat.le_of_ble_eq_true rfl) ?_
  intro p e s m args below meth c Q A C hret
  refine k_iload_n (pc := 0) C rfl 1 rfl dX10_limit_0 ?_
  refine k_iload_n (pc := 1) C rfl 2 rfl dX10_limit_1 ?_
  refine k_iload_n (pc := 2) C rfl 0 rfl dX10_limit_2 ?_
  refine k_mmin (pc := 3) C q_580 q_581 q_50 q_582 ⟨Nat.le_of_ble_eq_true rfl, Nat.le_of_ble_eq_true rfl, Nat.le_refl _, Nat.le_refl _⟩ dX10_limit_3 ?_
  refine k_mmax (pc := 6) C q_720 q_251 q_50 q_252 ⟨Nat.le_of_ble_eq_true rfl, Nat.le_of_ble_eq_true rfl, Nat.le_refl _, Nat.le_refl _⟩ dX10_limit_6 ?_
  have hs : (s_X10_limit p0 p1 p2) = (if p1 < (if p0 < p2 then p0 else p2) then (if p0 < p2 then p0 else p2) else p1) := by unfold s_X10_limit; exact rfl
  exact k_finI (pc := 9) hret rfl (by rw [hs]) rfl dX10_limit_9

theorem dX0_unlimitedDemand_0 : decode cX0_unlimitedDemand 0 = .ok (.aload_n 0, 1) := by decide +kernel
theorem dX0_unlimitedDemand_1 : decode cX0_unlimitedDemand 1 = .ok (.getfield 7, 3) := by decide +kernel
theorem dX0_unlimitedDemand_4 : decode cX0_unlimitedDemand 4 = .ok (.iconst 1, 1) := by decide +kernel
theorem dX0_unlimitedDemand_5 : decode cX0_unlimitedDemand 5 = .ok (.if_icmp .ne 13, 3) := by decide +kernel
theorem dX0_unlimitedDemand_8 : decode cX0_unlimitedDemand 8 = .ok (.iload_n 1, 1) := by decide +kernel
theorem dX0_unlimitedDemand_9 : decode cX0_unlimitedDemand 9 = .ok (.aload_n 0, 1) := by decide +kernel
theorem dX0_unlimitedDemand_10 : decode cX0_unlimitedDemand 10 = .ok (.getfield 13, 3) := by decide +kernel
theorem dX0_unlimitedDemand_13 : decode cX0_unlimitedDemand 13 = .ok (.imul, 1) := by decide +kernel
theorem dX0_unlimitedDemand_14 : decode cX0_unlimitedDemand 14 = .ok (.bipush 100, 2) := by decide +kernel
theorem dX0_unlimitedDemand_16 : decode cX0_unlimitedDemand 16 = .ok (.idiv, 1) := by decide +kernel
theorem dX0_unlimitedDemand_17 : decode cX0_unlimitedDemand 17 = .ok (.ireturn, 1) := by decide +kernel
theorem dX0_unlimitedDemand_18 : decode cX0_unlimitedDemand 18 = .ok (.iload_n 1, 1) := by decide +kernel
theorem dX0_unlimitedDemand_19 : decode cX0_unlimitedDemand 19 = .ok (.aload_n 0, 1) := by decide +kernel
theorem dX0_unlimitedDemand_20 : decode cX0_unlimitedDemand 20 = .ok (.getfield 16, 3) := by decide +kernel
theorem dX0_unlimitedDemand_23 : decode cX0_unlimitedDemand 23 = .ok (.ineg, 1) := by decide +kernel
theorem dX0_unlimitedDemand_24 : decode cX0_unlimitedDemand 24 = .ok (.if_icmp .lt 13, 3) := by decide +kernel
theorem dX0_unlimitedDemand_27 : decode cX0_unlimitedDemand 27 = .ok (.iload_n 1, 1) := by decide +kernel
theorem dX0_unlimitedDemand_28 : decode cX0_unlimitedDemand 28 = .ok (.aload_n 0, 1) := by decide +kernel
theorem dX0_unlimitedDemand_29 : decode cX0_unlimitedDemand 29 = .ok (.getfield 16, 3) := by decide +kernel
theorem dX0_unlimitedDemand_32 : decode cX0_unlimitedDemand 32 = .ok (.if_icmp .gt 5, 3) := by decide +kernel
theorem dX0_unlimitedDemand_35 : decode cX0_unlimitedDemand 35 = .ok (.iconst 0, 1) := by decide +kernel
theorem dX0_unlimitedDemand_36 : decode cX0_unlimitedDemand 36 = .ok (.ireturn, 1) := by decide +kernel
theorem dX0_unlimitedDemand_37 : decode cX0_unlimitedDemand 37 = .ok (.aload_n 0, 1) := by decide +kernel
theorem dX0_unlimitedDemand_38 : decode cX0_unlimitedDemand 38 = .ok (.getfield 7, 3) := by decide +kernel
theorem dX0_unlimitedDemand_41 : decode cX0_unlimitedDemand 41 = .ok (.ifCond .ne 5, 3) := by decide +kernel
theorem dX0_unlimitedDemand_44 : decode cX0_unlimitedDemand 44 = .ok (.iload_n 1, 1) := by decide +kernel
theorem dX0_unlimitedDemand_45 : decode cX0_unlimitedDemand 45 = .ok (.ireturn, 1) := by decide +kernel
theorem dX0_unlimitedDemand_46 : decode cX0_unlimitedDemand 46 = .ok (.iload_n 1, 1) := by decide +kernel
theorem dX0_unlimitedDemand_47 : decode cX0_unlimitedDemand 47 = .ok (.ifCond .le 9, 3) := by decide +kernel
theorem dX0_unlimitedDemand_50 : decode cX0_unlimitedDemand 50 = .ok (.sipush 1000, 3) := by decide +kernel
theorem dX0_unlimitedDemand_53 : decode cX0_unlimitedDemand 53 = .ok (.goto 6, 3) := by decide +kernel
theorem dX0_unlimitedDemand_56 : decode cX0_unlimitedDemand 56 = .ok (.sipush (-1000), 3) := by decide +kernel
theorem dX0_unlimitedDemand_59 : decode cX0_unlimitedDemand 59 = .ok (.ireturn, 1) := by decide +kernel
def s_X0_unlimitedDemand (f_t : Nat → Int32) (p0 : Int32) : Int32 :=
  if (f_t 0) = 1 then
    ((p0 * (f_t 1)) / 100)
  else
    if p0 < (-(f_t 2)) then
      if (f_t 0) = 0 then
        p0
      else
        let x_5 : Int32 := (if p0 ≤ 0 then (-1000) else 1000)
        x_5
    else
      if (f_t 2) < p0 then
        if (f_t 0) = 0 then
          p0
        else
          let x_9 : Int32 := (if p0 ≤ 0 then (-1000) else 1000)
          x_9
      else
        0
set_option maxRecDepth 100000 in
set_option maxHeartbeats 4000000 in
theorem c_X0_unlimitedDemand (l : Launch) (D : va_G) (cI cJ cO : ClassId) (h_t : Nat) (f_t : Nat → Int32) (p0 : Int32) : kI l yX0_unlimitedDemand cX0_unlimitedDemand 2 .int 0 0 D (kT cI cJ cO) [.ref h_t, .int p0] [(h_t, chE f_t)] (s_X0_unlimitedDemand f_t p0) [(h_t, chE f_t)] := by
  refine kI_of (own := RX0) (lv := [(0, .ref h_t), (1, .int p0)]) rfl rfl (by decide) (Nat.le_of_ble_eq_true rfl) ?_
  intro p e s m args below meth c Q A C hret
  refine k_aload_n (pc := 0) C rfl 0 rfl dX0_unlimitedDemand_0 ?_
  refine g_X0_0 (pc := 1) (x := (f_t 0)) C q_91 0 rfl rfl dX0_unlimitedDemand_1 ?_
  refine k_iconst (pc := 4) C iconst_1 dX0_unlimitedDemand_4 ?_
  refine k_icmp_ne (pc := 5) (tgt := 18) C dX0_unlimitedDemand_5 (by decide) (fun c_1 => ?_) (fun c_1 => ?_)
  · refine k_iload_n (pc := 18) C rfl 1 rfl dX0_unlimitedDemand_18 ?_
    refine k_aload_n (pc := 19) C rfl 0 rfl dX0_unlimitedDemand_19 ?_
    refine g_X0_2 (pc := 20) (x := (f_t 2)) C q_95 0 rfl rfl dX0_unlimitedDemand_20 ?_
    refine k_ineg (pc := 23) C dX0_unlimitedDemand_23 ?_
    refine k_icmp_lt (pc := 24) (tgt := 37) C dX0_unlimitedDemand_24 (by decide) (fun c_2 => ?_) (fun c_2 => ?_)
    · refine k_aload_n (pc := 37) C rfl 0 rfl dX0_unlimitedDemand_37 ?_
      refine g_X0_0 (pc := 38) (x := (f_t 0)) C q_91 0 rfl rfl dX0_unlimitedDemand_38 ?_
      refine k_if_ne (pc := 41) (tgt := 46) C dX0_unlimitedDemand_41 (by decide) (fun c_3 => ?_) (fun c_3 => ?_)
      · refine k_iload_n (pc := 46) C rfl 1 rfl dX0_unlimitedDemand_46 ?_
        have K_10 : ∀ (x_5 : Int32), x_5 = (if p0 ≤ 0 then (-1000) else 1000) → KJ p l e (kR 0 0) s m args below meth c 0 0 Q D A 2 [(h_t, chE f_t)] [] [.int x_5] 59 := by
          intro x_5 ex_5
          subst ex_5
          have hs : (s_X0_unlimitedDemand f_t p0) = (if p0 ≤ 0 then (-1000) else 1000) := by unfold s_X0_unlimitedDemand; exact ((if_neg c_1).trans ((if_pos c_2).trans (if_neg c_3)))
          exact k_finI (pc := 59) hret rfl (by rw [hs]) rfl dX0_unlimitedDemand_59
        refine k_if_le (pc := 47) (tgt := 56) C dX0_unlimitedDemand_47 (by decide) (fun c_4 => ?_) (fun c_4 => ?_)
        · refine k_sipush (pc := 56) C sipush_m1000 dX0_unlimitedDemand_56 ?_
          refine k_lpick (lv2 := []) [] rfl ?_
          exact K_10 (-1000) (if_pos c_4).symm
        · refine k_sipush (pc := 50) C sipush_1000 dX0_unlimitedDemand_50 ?_
          refine k_goto (pc := 53) (tgt := 59) C (by decide) dX0_unlimitedDemand_53 ?_
          refine k_lpick (lv2 := []) [] rfl ?_
          exact K_10 1000 (if_neg c_4).symm
      · refine k_iload_n (pc := 44) C rfl 1 rfl dX0_unlimitedDemand_44 ?_
        have hs : (s_X0_unlimitedDemand f_t p0) = p0 := by unfold s_X0_unlimitedDemand; exact ((if_neg c_1).trans ((if_pos c_2).trans (if_pos c_3)))
        exact k_finI (pc := 45) hret rfl (by rw [hs]) rfl dX0_unlimitedDemand_45
    · refine k_iload_n (pc := 27) C rfl 1 rfl dX0_unlimitedDemand_27 ?_
      refine k_aload_n (pc := 28) C rfl 0 rfl dX0_unlimitedDemand_28 ?_
      refine g_X0_2 (pc := 29) (x := (f_t 2)) C q_95 0 rfl rfl dX0_unlimitedDemand_29 ?_
      refine k_icmp_gt (pc := 32) (tgt := 37) C dX0_unlimitedDemand_32 (by decide) (fun c_6 => ?_) (fun c_6 => ?_)
      · refine k_aload_n (pc := 37) C rfl 0 rfl dX0_unlimitedDemand_37 ?_
        refine g_X0_0 (pc := 38) (x := (f_t 0)) C q_91 0 rfl rfl dX0_unlimitedDemand_38 ?_
        refine k_if_ne (pc := 41) (tgt := 46) C dX0_unlimitedDemand_41 (by decide) (fun c_7 => ?_) (fun c_7 => ?_)
        · refine k_iload_n (pc := 46) C rfl 1 rfl dX0_unlimitedDemand_46 ?_
          have K_11 : ∀ (x_9 : Int32), x_9 = (if p0 ≤ 0 then (-1000) else 1000) → KJ p l e (kR 0 0) s m args below meth c 0 0 Q D A 2 [(h_t, chE f_t)] [] [.int x_9] 59 := by
            intro x_9 ex_9
            subst ex_9
            have hs : (s_X0_unlimitedDemand f_t p0) = (if p0 ≤ 0 then (-1000) else 1000) := by unfold s_X0_unlimitedDemand; exact ((if_neg c_1).trans ((if_neg c_2).trans ((if_pos c_6).trans (if_neg c_7))))
            exact k_finI (pc := 59) hret rfl (by rw [hs]) rfl dX0_unlimitedDemand_59
          refine k_if_le (pc := 47) (tgt := 56) C dX0_unlimitedDemand_47 (by decide) (fun c_8 => ?_) (fun c_8 => ?_)
          · refine k_sipush (pc := 56) C sipush_m1000 dX0_unlimitedDemand_56 ?_
            refine k_lpick (lv2 := []) [] rfl ?_
            exact K_11 (-1000) (if_pos c_8).symm
          · refine k_sipush (pc := 50) C sipush_1000 dX0_unlimitedDemand_50 ?_
            refine k_goto (pc := 53) (tgt := 59) C (by decide) dX0_unlimitedDemand_53 ?_
            refine k_lpick (lv2 := []) [] rfl ?_
            exact K_11 1000 (if_neg c_8).symm
        · refine k_iload_n (pc := 44) C rfl 1 rfl dX0_unlimitedDemand_44 ?_
          have hs : (s_X0_unlimitedDemand f_t p0) = p0 := by unfold s_X0_unlimitedDemand; exact ((if_neg c_1).trans ((if_neg c_2).trans ((if_pos c_6).trans (if_pos c_7))))
          exact k_finI (pc := 45) hret rfl (by rw [hs]) rfl dX0_unlimitedDemand_45
      · refine k_iconst (pc := 35) C iconst_0 dX0_unlimitedDemand_35 ?_
        have hs : (s_X0_unlimitedDemand f_t p0) = 0 := by unfold s_X0_unlimitedDemand; exact ((if_neg c_1).trans ((if_neg c_2).trans (if_neg c_6)))
        exact k_finI (pc := 36) hret rfl (by rw [hs]) rfl dX0_unlimitedDemand_36
  · refine k_iload_n (pc := 8) C rfl 1 rfl dX0_unlimitedDemand_8 ?_
    refine k_aload_n (pc := 9) C rfl 0 rfl dX0_unlimitedDemand_9 ?_
    refine g_X0_1 (pc := 10) (x := (f_t 1)) C q_93 0 rfl rfl dX0_unlimitedDemand_10 ?_
    refine k_imul (pc := 13) C dX0_unlimitedDemand_13 ?_
    refine k_bipush (pc := 14) C bipush_100 dX0_unlimitedDemand_14 ?_
    refine k_idiv (pc := 16) C (by decide) dX0_unlimitedDemand_16 ?_
    have hs : (s_X0_unlimitedDemand f_t p0) = ((p0 * (f_t 1)) / 100) := by unfold s_X0_unlimitedDemand; exact (if_pos c_1)
    exact k_finI (pc := 17) hret rfl (by rw [hs]) rfl dX0_unlimitedDemand_17

theorem dX0_demand_0 : decode cX0_demand 0 = .ok (.aload_n 0, 1) := by decide +kernel
theorem dX0_demand_1 : decode cX0_demand 1 = .ok (.iload_n 1, 1) := by decide +kernel
theorem dX0_demand_2 : decode cX0_demand 2 = .ok (.invokevirtual 19, 3) := by decide +kernel
theorem dX0_demand_5 : decode cX0_demand 5 = .ok (.iload_n 3, 1) := by decide +kernel
theorem dX0_demand_6 : decode cX0_demand 6 = .ok (.ineg, 1) := by decide +kernel
theorem dX0_demand_7 : decode cX0_demand 7 = .ok (.iload_n 2, 1) := by decide +kernel
theorem dX0_demand_8 : decode cX0_demand 8 = .ok (.invokestatic 23, 3) := by decide +kernel
theorem dX0_demand_11 : decode cX0_demand 11 = .ok (.ireturn, 1) := by decide +kernel
def s_X0_demand (f_t : Nat → Int32) (p0 : Int32) (p1 : Int32) (p2 : Int32) : Int32 :=
  (s_X10_limit (s_X0_unlimitedDemand f_t p0) (-p2) p1)
set_option maxRecDepth 100000 in
set_option maxHeartbeats 4000000 in
theorem c_X0_demand (l : Launch) (D : va_G) (cI cJ cO : ClassId) (h_t : Nat) (f_t : Nat → Int32) (p0 : Int32) (p1 : Int32) (p2 : Int32) : kI l yX0_demand cX0_demand 4 .int 2 36 D (kT cI cJ cO) [.ref h_t, .int p0, .int p1, .int p2] [(h_t, chE f_t)] (s_X0_demand f_t p0 p1 p2) [(h_t, chE f_t)] := by
  refine kI_of (own := RX0) (lv := [(0, .ref h_t), (1, .int p0), (2, .int p1), (3, .int p2)]) rfl rfl (by decide) (Nat.le_of_ble_eq_true rfl) ?_
  intro p e s m args below meth c Q A C hret
  refine k_aload_n (pc := 0) C rfl 0 rfl dX0_demand_0 ?_
  refine k_iload_n (pc := 1) C rfl 1 rfl dX0_demand_1 ?_
  refine k_callVi (pc := 2) (As := [.int p0]) (rest := []) (r := (s_X0_unlimitedDemand f_t p0)) (wc := [(h_t, chE f_t)]) (wc2 := [(h_t, chE f_t)]) (ws2 := [(h_t, chE f_t)]) C (c_X0_unlimitedDemand l D cI cJ cO h_t f_t p0) cwv_X0_unlimitedDemand q_713 vX0 0 rfl [0] rfl rfl (by decide) rfl rfl (Nat.le_of_ble_eq_true rfl) ⟨Nat.le_of_ble_eq_true rfl, Nat.le_of_ble_eq_true rfl⟩ rfl ⟨Nat.le_refl _, Nat.le_refl _⟩ dX0_demand_2 ?_
  refine k_iload_n (pc := 5) C rfl 3 rfl dX0_demand_5 ?_
  refine k_ineg (pc := 6) C dX0_demand_6 ?_
  refine k_iload_n (pc := 7) C rfl 2 rfl dX0_demand_7 ?_
  refine k_callNi (pc := 8) (As := [.int (s_X0_unlimitedDemand f_t p0), .int (-p2), .int p1]) (rest := []) (r := (s_X10_limit (s_X0_unlimitedDemand f_t p0) (-p2) p1)) (wc := []) (wc2 := []) (ws2 := [(h_t, chE f_t)]) C (c_X10_limit l D cI cJ cO (s_X0_unlimitedDemand f_t p0) (-p2) p1) cws_X10_limit q_717 [] rfl rfl (by decide) rfl rfl (Nat.le_of_ble_eq_true rfl) ⟨Nat.le_of_ble_eq_true rfl, Nat.le_of_ble_eq_true rfl⟩ rfl ⟨Nat.le_refl _, Nat.le_refl _⟩ dX0_demand_8 ?_
  have hs : (s_X0_demand f_t p0 p1 p2) = (s_X10_limit (s_X0_unlimitedDemand f_t p0) (-p2) p1) := by unfold s_X0_demand; exact rfl
  exact k_finI (pc := 11) hret rfl (by rw [hs]) rfl dX0_demand_11

theorem dX3_add_0 : decode cX3_add 0 = .ok (.aload_n 0, 1) := by decide +kernel
theorem dX3_add_1 : decode cX3_add 1 = .ok (.getfield 21, 3) := by decide +kernel
theorem dX3_add_4 : decode cX3_add 4 = .ok (.ifCond .lt 15, 3) := by decide +kernel
theorem dX3_add_7 : decode cX3_add 7 = .ok (.aload_n 0, 1) := by decide +kernel
theorem dX3_add_8 : decode cX3_add 8 = .ok (.getfield 21, 3) := by decide +kernel
theorem dX3_add_11 : decode cX3_add 11 = .ok (.aload_n 0, 1) := by decide +kernel
theorem dX3_add_12 : decode cX3_add 12 = .ok (.getfield 15, 3) := by decide +kernel
theorem dX3_add_15 : decode cX3_add 15 = .ok (.arraylength, 1) := by decide +kernel
theorem dX3_add_16 : decode cX3_add 16 = .ok (.if_icmp .lt 4, 3) := by decide +kernel
theorem dX3_add_19 : decode cX3_add 19 = .ok (.return_, 1) := by decide +kernel
theorem dX3_add_20 : decode cX3_add 20 = .ok (.aload_n 0, 1) := by decide +kernel
theorem dX3_add_21 : decode cX3_add 21 = .ok (.getfield 15, 3) := by decide +kernel
theorem dX3_add_24 : decode cX3_add 24 = .ok (.aload_n 0, 1) := by decide +kernel
theorem dX3_add_25 : decode cX3_add 25 = .ok (.getfield 21, 3) := by decide +kernel
theorem dX3_add_28 : decode cX3_add 28 = .ok (.iload_n 1, 1) := by decide +kernel
theorem dX3_add_29 : decode cX3_add 29 = .ok (.iastore, 1) := by decide +kernel
theorem dX3_add_30 : decode cX3_add 30 = .ok (.aload_n 0, 1) := by decide +kernel
theorem dX3_add_31 : decode cX3_add 31 = .ok (.aload_n 0, 1) := by decide +kernel
theorem dX3_add_32 : decode cX3_add 32 = .ok (.getfield 21, 3) := by decide +kernel
theorem dX3_add_35 : decode cX3_add 35 = .ok (.iconst 1, 1) := by decide +kernel
theorem dX3_add_36 : decode cX3_add 36 = .ok (.iadd, 1) := by decide +kernel
theorem dX3_add_37 : decode cX3_add 37 = .ok (.aload_n 0, 1) := by decide +kernel
theorem dX3_add_38 : decode cX3_add 38 = .ok (.getfield 15, 3) := by decide +kernel
theorem dX3_add_41 : decode cX3_add 41 = .ok (.arraylength, 1) := by decide +kernel
theorem dX3_add_42 : decode cX3_add 42 = .ok (.if_icmp .ge 12, 3) := by decide +kernel
theorem dX3_add_45 : decode cX3_add 45 = .ok (.aload_n 0, 1) := by decide +kernel
theorem dX3_add_46 : decode cX3_add 46 = .ok (.getfield 21, 3) := by decide +kernel
theorem dX3_add_49 : decode cX3_add 49 = .ok (.iconst 1, 1) := by decide +kernel
theorem dX3_add_50 : decode cX3_add 50 = .ok (.iadd, 1) := by decide +kernel
theorem dX3_add_51 : decode cX3_add 51 = .ok (.goto 4, 3) := by decide +kernel
theorem dX3_add_54 : decode cX3_add 54 = .ok (.iconst 0, 1) := by decide +kernel
theorem dX3_add_55 : decode cX3_add 55 = .ok (.putfield 21, 3) := by decide +kernel
theorem dX3_add_58 : decode cX3_add 58 = .ok (.aload_n 0, 1) := by decide +kernel
theorem dX3_add_59 : decode cX3_add 59 = .ok (.aload_n 0, 1) := by decide +kernel
theorem dX3_add_60 : decode cX3_add 60 = .ok (.getfield 25, 3) := by decide +kernel
theorem dX3_add_63 : decode cX3_add 63 = .ok (.iconst 1, 1) := by decide +kernel
theorem dX3_add_64 : decode cX3_add 64 = .ok (.iadd, 1) := by decide +kernel
theorem dX3_add_65 : decode cX3_add 65 = .ok (.aload_n 0, 1) := by decide +kernel
theorem dX3_add_66 : decode cX3_add 66 = .ok (.getfield 15, 3) := by decide +kernel
theorem dX3_add_69 : decode cX3_add 69 = .ok (.arraylength, 1) := by decide +kernel
theorem dX3_add_70 : decode cX3_add 70 = .ok (.invokestatic 28, 3) := by decide +kernel
theorem dX3_add_73 : decode cX3_add 73 = .ok (.putfield 25, 3) := by decide +kernel
theorem dX3_add_76 : decode cX3_add 76 = .ok (.return_, 1) := by decide +kernel
def s_X3_add (n_t_cells : Nat) (f_t : Nat → Int32) (f_t_cells : Nat → Int32) (p0 : Int32) : (Nat → Int32) × (Nat → Int32) :=
  if (f_t 1) < 0 then
    (f_t, f_t_cells)
  else
    if (f_t 1) < (nI n_t_cells) then
      let x_4 : Int32 := (if (nI n_t_cells) ≤ ((f_t 1) + 1) then 0 else ((f_t 1) + 1))
      let v_5 : Int32 := (if (nI n_t_cells) < ((f_t 2) + 1) then (nI n_t_cells) else ((f_t 2) + 1))
      ((upd (upd f_t 1 x_4) 2 v_5), (upd f_t_cells (Int32.toNatClampNeg (f_t 1)) p0))
    else
      (f_t, f_t_cells)
set_option maxRecDepth 100000 in
set_option maxHeartbeats 4000000 in
theorem c_X3_add (l : Launch) (D : va_G) (cI cJ cO : ClassId) (h_t : Nat) (h_t_cells : Nat) (n_t_cells : Nat) (f_t : Nat → Int32) (f_t_cells : Nat → Int32) (p0 : Int32) (hn_t_cells : n_t_cells < 2 ^ 31) : kV l yX3_add cX3_add 2 1 14 D (kT cI cJ cO) [.ref h_t, .int p0] [(h_t, rgE f_t h_t_cells), (h_t_cells, iA cI n_t_cells f_t_cells)] [(h_t, rgE (s_X3_add n_t_cells f_t f_t_cells p0).1 h_t_cells), (h_t_cells, iA cI n_t_cells (s_X3_add n_t_cells f_t f_t_cells p0).2)] := by
  refine kV_of (own := RX3) (lv := [(0, .ref h_t), (1, .int p0)]) rfl rfl (by decide) (Nat.le_of_ble_eq_true rfl) ?_
  intro p e s m args below meth c Q A C hret
  refine k_aload_n (pc := 0) C rfl 0 rfl dX3_add_0 ?_
  refine g_X3_1 (pc := 1) (x := (f_t 1)) C q_254 0 rfl rfl dX3_add_1 ?_
  refine k_if_lt (pc := 4) (tgt := 19) C dX3_add_4 (by decide) (fun c_1 => ?_) (fun c_1 => ?_)
  · have hs : (s_X3_add n_t_cells f_t f_t_cells p0) = (f_t, f_t_cells) := by unfold s_X3_add; exact (if_pos c_1)
    exact k_finV (pc := 19) hret (by rw [hs]) dX3_add_19
  · refine k_aload_n (pc := 7) C rfl 0 rfl dX3_add_7 ?_
    refine g_X3_1 (pc := 8) (x := (f_t 1)) C q_254 0 rfl rfl dX3_add_8 ?_
    refine k_aload_n (pc := 11) C rfl 0 rfl dX3_add_11 ?_
    refine g_X3_0 (pc := 12) C q_253 0 rfl dX3_add_12 ?_
    refine k_alen (pc := 15) (v := (nI n_t_cells)) C 1 0 rfl rfl rfl dX3_add_15 ?_
    refine k_icmp_lt (pc := 16) (tgt := 20) C dX3_add_16 (by decide) (fun c_2 => ?_) (fun c_2 => ?_)
    · refine k_aload_n (pc := 20) C rfl 0 rfl dX3_add_20 ?_
      refine g_X3_0 (pc := 21) C q_253 0 rfl dX3_add_21 ?_
      refine k_aload_n (pc := 24) C rfl 0 rfl dX3_add_24 ?_
      refine g_X3_1 (pc := 25) (x := (f_t 1)) C q_254 0 rfl rfl dX3_add_25 ?_
      refine k_iload_n (pc := 28) C rfl 1 rfl dX3_add_28 ?_
      refine k_iastK (pc := 29) (ws2 := [(h_t, rgE f_t h_t_cells), (h_t_cells, iA cI n_t_cells (upd f_t_cells (Int32.toNatClampNeg (f_t 1)) p0))]) C 1 0 rfl rfl (k_vin hn_t_cells c_1 c_2) rfl rfl dX3_add_29 ?_
      refine k_aload_n (pc := 30) C rfl 0 rfl dX3_add_30 ?_
      refine k_aload_n (pc := 31) C rfl 0 rfl dX3_add_31 ?_
      refine g_X3_1 (pc := 32) (x := (f_t 1)) C q_254 0 rfl rfl dX3_add_32 ?_
      refine k_iconst (pc := 35) C iconst_1 dX3_add_35 ?_
      refine k_iadd (pc := 36) C dX3_add_36 ?_
      refine k_aload_n (pc := 37) C rfl 0 rfl dX3_add_37 ?_
      refine g_X3_0 (pc := 38) C q_253 0 rfl dX3_add_38 ?_
      refine k_alen (pc := 41) (v := (nI n_t_cells)) C 1 0 rfl rfl rfl dX3_add_41 ?_
      have K_6 : ∀ (x_4 : Int32), x_4 = (if (nI n_t_cells) ≤ ((f_t 1) + 1) then 0 else ((f_t 1) + 1)) → KJ p l e (kR 1 14) s m args below meth c 0 0 Q D A 2 [(h_t, rgE f_t h_t_cells), (h_t_cells, iA cI n_t_cells (upd f_t_cells (Int32.toNatClampNeg (f_t 1)) p0))] [(0, .ref h_t)] [.int x_4, .ref h_t] 55 := by
        intro x_4 ex_4
        refine p_X3_1 (pc := 55) (ws2 := [(h_t, rgE (upd f_t 1 x_4) h_t_cells), (h_t_cells, iA cI n_t_cells (upd f_t_cells (Int32.toNatClampNeg (f_t 1)) p0))]) C q_254 0 rfl rfl dX3_add_55 ?_
        refine k_aload_n (pc := 58) C rfl 0 rfl dX3_add_58 ?_
        refine k_aload_n (pc := 59) C rfl 0 rfl dX3_add_59 ?_
        refine g_X3_2 (pc := 60) (x := (f_t 2)) C q_255 0 rfl (upn (by decide) rfl) dX3_add_60 ?_
        refine k_iconst (pc := 63) C iconst_1 dX3_add_63 ?_
        refine k_iadd (pc := 64) C dX3_add_64 ?_
        refine k_aload_n (pc := 65) C rfl 0 rfl dX3_add_65 ?_
        refine g_X3_0 (pc := 66) C q_253 0 rfl dX3_add_66 ?_
        refine k_alen (pc := 69) (v := (nI n_t_cells)) C 1 0 rfl rfl rfl dX3_add_69 ?_
        refine k_mmin (pc := 70) C q_673 q_581 q_50 q_582 ⟨Nat.le_of_ble_eq_true rfl, Nat.le_of_ble_eq_true rfl, Nat.le_refl _, Nat.le_refl _⟩ dX3_add_70 ?_
        obtain ⟨v_5, ev_5⟩ : ∃ z : Int32, z = (if (nI n_t_cells) < ((f_t 2) + 1) then (nI n_t_cells) else ((f_t 2) + 1)) := ⟨_, rfl⟩
        rw [← ev_5]
        refine p_X3_2 (pc := 73) (ws2 := [(h_t, rgE (upd (upd f_t 1 x_4) 2 v_5) h_t_cells), (h_t_cells, iA cI n_t_cells (upd f_t_cells (Int32.toNatClampNeg (f_t 1)) p0))]) C q_255 0 rfl rfl dX3_add_73 ?_
        subst ev_5 ex_4
        have hs : (s_X3_add n_t_cells f_t f_t_cells p0) = ((upd (upd f_t 1 (if (nI n_t_cells) ≤ ((f_t 1) + 1) then 0 else ((f_t 1) + 1))) 2 (if (nI n_t_cells) < ((f_t 2) + 1) then (nI n_t_cells) else ((f_t 2) + 1))), (upd f_t_cells (Int32.toNatClampNeg (f_t 1)) p0)) := by unfold s_X3_add; exact ((if_neg c_1).trans (if_pos c_2))
        exact k_finV (pc := 76) hret (by rw [hs]) dX3_add_76
      refine k_icmp_ge (pc := 42) (tgt := 54) C dX3_add_42 (by decide) (fun c_3 => ?_) (fun c_3 => ?_)
      · refine k_iconst (pc := 54) C iconst_0 dX3_add_54 ?_
        refine k_lpick (lv2 := [(0, .ref h_t)]) [0] rfl ?_
        exact K_6 0 (if_pos c_3).symm
      · refine k_aload_n (pc := 45) C rfl 0 rfl dX3_add_45 ?_
        refine g_X3_1 (pc := 46) (x := (f_t 1)) C q_254 0 rfl rfl dX3_add_46 ?_
        refine k_iconst (pc := 49) C iconst_1 dX3_add_49 ?_
        refine k_iadd (pc := 50) C dX3_add_50 ?_
        refine k_goto (pc := 51) (tgt := 55) C (by decide) dX3_add_51 ?_
        refine k_lpick (lv2 := [(0, .ref h_t)]) [0] rfl ?_
        exact K_6 ((f_t 1) + 1) (if_neg c_3).symm
    · have hs : (s_X3_add n_t_cells f_t f_t_cells p0) = (f_t, f_t_cells) := by unfold s_X3_add; exact ((if_neg c_1).trans (if_neg c_2))
      exact k_finV (pc := 19) hret (by rw [hs]) dX3_add_19

theorem dX3_latest_0 : decode cX3_latest 0 = .ok (.iload_n 1, 1) := by decide +kernel
theorem dX3_latest_1 : decode cX3_latest 1 = .ok (.ifCond .lt 11, 3) := by decide +kernel
theorem dX3_latest_4 : decode cX3_latest 4 = .ok (.iload_n 1, 1) := by decide +kernel
theorem dX3_latest_5 : decode cX3_latest 5 = .ok (.aload_n 0, 1) := by decide +kernel
theorem dX3_latest_6 : decode cX3_latest 6 = .ok (.getfield 25, 3) := by decide +kernel
theorem dX3_latest_9 : decode cX3_latest 9 = .ok (.if_icmp .lt 7, 3) := by decide +kernel
theorem dX3_latest_12 : decode cX3_latest 12 = .ok (.sipush (-10000), 3) := by decide +kernel
theorem dX3_latest_15 : decode cX3_latest 15 = .ok (.ireturn, 1) := by decide +kernel
theorem dX3_latest_16 : decode cX3_latest 16 = .ok (.aload_n 0, 1) := by decide +kernel
theorem dX3_latest_17 : decode cX3_latest 17 = .ok (.getfield 21, 3) := by decide +kernel
theorem dX3_latest_20 : decode cX3_latest 20 = .ok (.iconst 1, 1) := by decide +kernel
theorem dX3_latest_21 : decode cX3_latest 21 = .ok (.isub, 1) := by decide +kernel
theorem dX3_latest_22 : decode cX3_latest 22 = .ok (.iload_n 1, 1) := by decide +kernel
theorem dX3_latest_23 : decode cX3_latest 23 = .ok (.isub, 1) := by decide +kernel
theorem dX3_latest_24 : decode cX3_latest 24 = .ok (.istore_n 2, 1) := by decide +kernel
theorem dX3_latest_25 : decode cX3_latest 25 = .ok (.aload_n 0, 1) := by decide +kernel
theorem dX3_latest_26 : decode cX3_latest 26 = .ok (.getfield 15, 3) := by decide +kernel
theorem dX3_latest_29 : decode cX3_latest 29 = .ok (.iload_n 2, 1) := by decide +kernel
theorem dX3_latest_30 : decode cX3_latest 30 = .ok (.ifCond .ge 13, 3) := by decide +kernel
theorem dX3_latest_33 : decode cX3_latest 33 = .ok (.iload_n 2, 1) := by decide +kernel
theorem dX3_latest_34 : decode cX3_latest 34 = .ok (.aload_n 0, 1) := by decide +kernel
theorem dX3_latest_35 : decode cX3_latest 35 = .ok (.getfield 15, 3) := by decide +kernel
theorem dX3_latest_38 : decode cX3_latest 38 = .ok (.arraylength, 1) := by decide +kernel
theorem dX3_latest_39 : decode cX3_latest 39 = .ok (.iadd, 1) := by decide +kernel
theorem dX3_latest_40 : decode cX3_latest 40 = .ok (.goto 4, 3) := by decide +kernel
theorem dX3_latest_43 : decode cX3_latest 43 = .ok (.iload_n 2, 1) := by decide +kernel
theorem dX3_latest_44 : decode cX3_latest 44 = .ok (.invokestatic 31, 3) := by decide +kernel
theorem dX3_latest_47 : decode cX3_latest 47 = .ok (.ireturn, 1) := by decide +kernel
def s_X3_latest (n_t_cells : Nat) (f_t : Nat → Int32) (f_t_cells : Nat → Int32) (p0 : Int32) : Int32 :=
  if p0 < 0 then
    (-10000)
  else
    if p0 < (f_t 2) then
      let x_4 : Int32 := (if 0 ≤ (((f_t 1) - 1) - p0) then (((f_t 1) - 1) - p0) else ((((f_t 1) - 1) - p0) + (nI n_t_cells)))
      (s_X10_at n_t_cells f_t_cells x_4)
    else
      (-10000)
set_option maxRecDepth 100000 in
set_option maxHeartbeats 4000000 in
theorem c_X3_latest (l : Launch) (D : va_G) (cI cJ cO : ClassId) (h_t : Nat) (h_t_cells : Nat) (n_t_cells : Nat) (f_t : Nat → Int32) (f_t_cells : Nat → Int32) (p0 : Int32) (hn_t_cells : n_t_cells < 2 ^ 31) : kI l yX3_latest cX3_latest 3 .int 1 21 D (kT cI cJ cO) [.ref h_t, .int p0] [(h_t, rgE f_t h_t_cells), (h_t_cells, iA cI n_t_cells f_t_cells)] (s_X3_latest n_t_cells f_t f_t_cells p0) [(h_t, rgE f_t h_t_cells), (h_t_cells, iA cI n_t_cells f_t_cells)] := by
  refine kI_of (own := RX3) (lv := [(0, .ref h_t), (1, .int p0)]) rfl rfl (by decide) (Nat.le_of_ble_eq_true rfl) ?_
  intro p e s m args below meth c Q A C hret
  refine k_iload_n (pc := 0) C rfl 1 rfl dX3_latest_0 ?_
  refine k_if_lt (pc := 1) (tgt := 12) C dX3_latest_1 (by decide) (fun c_1 => ?_) (fun c_1 => ?_)
  · refine k_sipush (pc := 12) C sipush_m10000 dX3_latest_12 ?_
    have hs : (s_X3_latest n_t_cells f_t f_t_cells p0) = (-10000) := by unfold s_X3_latest; exact (if_pos c_1)
    exact k_finI (pc := 15) hret rfl (by rw [hs]) rfl dX3_latest_15
  · refine k_iload_n (pc := 4) C rfl 1 rfl dX3_latest_4 ?_
    refine k_aload_n (pc := 5) C rfl 0 rfl dX3_latest_5 ?_
    refine g_X3_2 (pc := 6) (x := (f_t 2)) C q_255 0 rfl rfl dX3_latest_6 ?_
    refine k_icmp_lt (pc := 9) (tgt := 16) C dX3_latest_9 (by decide) (fun c_2 => ?_) (fun c_2 => ?_)
    · refine k_aload_n (pc := 16) C rfl 0 rfl dX3_latest_16 ?_
      refine g_X3_1 (pc := 17) (x := (f_t 1)) C q_254 0 rfl rfl dX3_latest_17 ?_
      refine k_iconst (pc := 20) C iconst_1 dX3_latest_20 ?_
      refine k_isub (pc := 21) C dX3_latest_21 ?_
      refine k_iload_n (pc := 22) C rfl 1 rfl dX3_latest_22 ?_
      refine k_isub (pc := 23) C dX3_latest_23 ?_
      refine k_istore_n (pc := 24) (lv2 := [(2, .int (((f_t 1) - 1) - p0)), (0, .ref h_t), (1, .int p0)]) C rfl (by decide) rfl dX3_latest_24 ?_
      refine k_aload_n (pc := 25) C rfl 1 rfl dX3_latest_25 ?_
      refine g_X3_0 (pc := 26) C q_253 0 rfl dX3_latest_26 ?_
      refine k_iload_n (pc := 29) C rfl 0 rfl dX3_latest_29 ?_
      have K_5 : ∀ (x_4 : Int32), x_4 = (if 0 ≤ (((f_t 1) - 1) - p0) then (((f_t 1) - 1) - p0) else ((((f_t 1) - 1) - p0) + (nI n_t_cells))) → KJ p l e (kR 1 21) s m args below meth c 0 0 Q D A 3 [(h_t, rgE f_t h_t_cells), (h_t_cells, iA cI n_t_cells f_t_cells)] [] [.int x_4, .ref h_t_cells] 44 := by
        intro x_4 ex_4
        refine k_callNi (pc := 44) (As := [.ref h_t_cells, .int x_4]) (rest := []) (r := (s_X10_at n_t_cells f_t_cells x_4)) (wc := [(h_t_cells, iA cI n_t_cells f_t_cells)]) (wc2 := [(h_t_cells, iA cI n_t_cells f_t_cells)]) (ws2 := [(h_t, rgE f_t h_t_cells), (h_t_cells, iA cI n_t_cells f_t_cells)]) C (c_X10_at l D cI cJ cO h_t_cells n_t_cells f_t_cells x_4 hn_t_cells) cws_X10_at q_892 [1] rfl rfl (by decide) rfl rfl (Nat.le_of_ble_eq_true rfl) ⟨Nat.le_of_ble_eq_true rfl, Nat.le_of_ble_eq_true rfl⟩ rfl ⟨Nat.le_refl _, Nat.le_refl _⟩ dX3_latest_44 ?_
        subst ex_4
        have hs : (s_X3_latest n_t_cells f_t f_t_cells p0) = (s_X10_at n_t_cells f_t_cells (if 0 ≤ (((f_t 1) - 1) - p0) then (((f_t 1) - 1) - p0) else ((((f_t 1) - 1) - p0) + (nI n_t_cells)))) := by unfold s_X3_latest; exact ((if_neg c_1).trans (if_pos c_2))
        exact k_finI (pc := 47) hret rfl (by rw [hs]) rfl dX3_latest_47
      refine k_if_ge (pc := 30) (tgt := 43) C dX3_latest_30 (by decide) (fun c_3 => ?_) (fun c_3 => ?_)
      · refine k_iload_n (pc := 43) C rfl 0 rfl dX3_latest_43 ?_
        refine k_lpick (lv2 := []) [] rfl ?_
        exact K_5 (((f_t 1) - 1) - p0) (if_pos c_3).symm
      · refine k_iload_n (pc := 33) C rfl 0 rfl dX3_latest_33 ?_
        refine k_aload_n (pc := 34) C rfl 1 rfl dX3_latest_34 ?_
        refine g_X3_0 (pc := 35) C q_253 0 rfl dX3_latest_35 ?_
        refine k_alen (pc := 38) (v := (nI n_t_cells)) C 1 0 rfl rfl rfl dX3_latest_38 ?_
        refine k_iadd (pc := 39) C dX3_latest_39 ?_
        refine k_goto (pc := 40) (tgt := 44) C (by decide) dX3_latest_40 ?_
        refine k_lpick (lv2 := []) [] rfl ?_
        exact K_5 ((((f_t 1) - 1) - p0) + (nI n_t_cells)) (if_neg c_3).symm
    · refine k_sipush (pc := 12) C sipush_m10000 dX3_latest_12 ?_
      have hs : (s_X3_latest n_t_cells f_t f_t_cells p0) = (-10000) := by unfold s_X3_latest; exact ((if_neg c_1).trans (if_neg c_2))
      exact k_finI (pc := 15) hret rfl (by rw [hs]) rfl dX3_latest_15

theorem dX6_isFull_0 : decode cX6_isFull 0 = .ok (.aload_n 0, 1) := by decide +kernel
theorem dX6_isFull_1 : decode cX6_isFull 1 = .ok (.getfield 15, 3) := by decide +kernel
theorem dX6_isFull_4 : decode cX6_isFull 4 = .ok (.bipush 12, 2) := by decide +kernel
theorem dX6_isFull_6 : decode cX6_isFull 6 = .ok (.if_icmp .lt 7, 3) := by decide +kernel
theorem dX6_isFull_9 : decode cX6_isFull 9 = .ok (.iconst 1, 1) := by decide +kernel
theorem dX6_isFull_10 : decode cX6_isFull 10 = .ok (.goto 4, 3) := by decide +kernel
theorem dX6_isFull_13 : decode cX6_isFull 13 = .ok (.iconst 0, 1) := by decide +kernel
theorem dX6_isFull_14 : decode cX6_isFull 14 = .ok (.ireturn, 1) := by decide +kernel
def s_X6_isFull (f_t : Nat → Int32) : Int32 :=
  if (f_t 1) < 12 then
    0
  else
    1
set_option maxRecDepth 100000 in
set_option maxHeartbeats 4000000 in
theorem c_X6_isFull (l : Launch) (D : va_G) (cI cJ cO : ClassId) (h_t : Nat) (h_t_cells : Nat) (f_t : Nat → Int32) : kI l yX6_isFull cX6_isFull 1 .boolean 0 0 D (kT cI cJ cO) [.ref h_t] [(h_t, sgE f_t h_t_cells)] (s_X6_isFull f_t) [(h_t, sgE f_t h_t_cells)] := by
  refine kI_of (own := RX6) (lv := [(0, .ref h_t)]) rfl rfl (by decide) (Nat.le_of_ble_eq_true rfl) ?_
  intro p e s m args below meth c Q A C hret
  refine k_aload_n (pc := 0) C rfl 0 rfl dX6_isFull_0 ?_
  refine g_X6_1 (pc := 1) (x := (f_t 1)) C q_112 0 rfl rfl dX6_isFull_1 ?_
  refine k_bipush (pc := 4) C bipush_12 dX6_isFull_4 ?_
  refine k_icmp_lt (pc := 6) (tgt := 13) C dX6_isFull_6 (by decide) (fun c_1 => ?_) (fun c_1 => ?_)
  · refine k_iconst (pc := 13) C iconst_0 dX6_isFull_13 ?_
    have hs : (s_X6_isFull f_t) = 0 := by unfold s_X6_isFull; exact (if_pos c_1)
    exact k_finI (pc := 14) hret rfl (by rw [hs]) rfl dX6_isFull_14
  · refine k_iconst (pc := 9) C iconst_1 dX6_isFull_9 ?_
    refine k_goto (pc := 10) (tgt := 14) C (by decide) dX6_isFull_10 ?_
    have hs : (s_X6_isFull f_t) = 1 := by unfold s_X6_isFull; exact (if_neg c_1)
    exact k_finI (pc := 14) hret rfl (by rw [hs]) rfl dX6_isFull_14

theorem dX6_property_0 : decode cX6_property 0 = .ok (.aload_n 0, 1) := by decide +kernel
theorem dX6_property_1 : decode cX6_property 1 = .ok (.getfield 11, 3) := by decide +kernel
theorem dX6_property_4 : decode cX6_property 4 = .ok (.iload_n 1, 1) := by decide +kernel
theorem dX6_property_5 : decode cX6_property 5 = .ok (.iconst 4, 1) := by decide +kernel
theorem dX6_property_6 : decode cX6_property 6 = .ok (.imul, 1) := by decide +kernel
theorem dX6_property_7 : decode cX6_property 7 = .ok (.iload_n 2, 1) := by decide +kernel
theorem dX6_property_8 : decode cX6_property 8 = .ok (.iadd, 1) := by decide +kernel
theorem dX6_property_9 : decode cX6_property 9 = .ok (.invokestatic 19, 3) := by decide +kernel
theorem dX6_property_12 : decode cX6_property 12 = .ok (.ireturn, 1) := by decide +kernel
def s_X6_property (f_t : Nat → Int32) (f_t_cells : Nat → Int32) (p0 : Int32) (p1 : Int32) : Int32 :=
  (s_X10_at 48 f_t_cells ((p0 * 4) + p1))
set_option maxRecDepth 100000 in
set_option maxHeartbeats 4000000 in
theorem c_X6_property (l : Launch) (D : va_G) (cI cJ cO : ClassId) (h_t : Nat) (h_t_cells : Nat) (f_t : Nat → Int32) (f_t_cells : Nat → Int32) (p0 : Int32) (p1 : Int32) : kI l yX6_property cX6_property 3 .int 1 21 D (kT cI cJ cO) [.ref h_t, .int p0, .int p1] [(h_t, sgE f_t h_t_cells), (h_t_cells, iA cI 48 f_t_cells)] (s_X6_property f_t f_t_cells p0 p1) [(h_t, sgE f_t h_t_cells), (h_t_cells, iA cI 48 f_t_cells)] := by
  refine kI_of (own := RX6) (lv := [(0, .ref h_t), (1, .int p0), (2, .int p1)]) rfl rfl (by decide) (Nat.le_of_ble_eq_true rfl) ?_
  intro p e s m args below meth c Q A C hret
  refine k_aload_n (pc := 0) C rfl 0 rfl dX6_property_0 ?_
  refine g_X6_0 (pc := 1) C q_111 0 rfl dX6_property_1 ?_
  refine k_iload_n (pc := 4) C rfl 1 rfl dX6_property_4 ?_
  refine k_iconst (pc := 5) C iconst_4 dX6_property_5 ?_
  refine k_imul (pc := 6) C dX6_property_6 ?_
  refine k_iload_n (pc := 7) C rfl 2 rfl dX6_property_7 ?_
  refine k_iadd (pc := 8) C dX6_property_8 ?_
  refine k_callNi (pc := 9) (As := [.ref h_t_cells, .int ((p0 * 4) + p1)]) (rest := []) (r := (s_X10_at 48 f_t_cells ((p0 * 4) + p1))) (wc := [(h_t_cells, iA cI 48 f_t_cells)]) (wc2 := [(h_t_cells, iA cI 48 f_t_cells)]) (ws2 := [(h_t, sgE f_t h_t_cells), (h_t_cells, iA cI 48 f_t_cells)]) C (c_X10_at l D cI cJ cO h_t_cells 48 f_t_cells ((p0 * 4) + p1) (by decide)) cws_X10_at q_699 [1] rfl rfl (by decide) rfl rfl (Nat.le_of_ble_eq_true rfl) ⟨Nat.le_of_ble_eq_true rfl, Nat.le_of_ble_eq_true rfl⟩ rfl ⟨Nat.le_refl _, Nat.le_refl _⟩ dX6_property_9 ?_
  have hs : (s_X6_property f_t f_t_cells p0 p1) = (s_X10_at 48 f_t_cells ((p0 * 4) + p1)) := by unfold s_X6_property; exact rfl
  exact k_finI (pc := 12) hret rfl (by rw [hs]) rfl dX6_property_12

theorem dX6_add_0 : decode cX6_add 0 = .ok (.aload_n 0, 1) := by decide +kernel
theorem dX6_add_1 : decode cX6_add 1 = .ok (.invokevirtual 23, 3) := by decide +kernel
theorem dX6_add_4 : decode cX6_add 4 = .ok (.ifCond .eq 4, 3) := by decide +kernel
theorem dX6_add_7 : decode cX6_add 7 = .ok (.return_, 1) := by decide +kernel
theorem dX6_add_8 : decode cX6_add 8 = .ok (.aload_n 0, 1) := by decide +kernel
theorem dX6_add_9 : decode cX6_add 9 = .ok (.getfield 15, 3) := by decide +kernel
theorem dX6_add_12 : decode cX6_add 12 = .ok (.iconst 4, 1) := by decide +kernel
theorem dX6_add_13 : decode cX6_add 13 = .ok (.imul, 1) := by decide +kernel
theorem dX6_add_14 : decode cX6_add 14 = .ok (.istore 5, 2) := by decide +kernel
theorem dX6_add_16 : decode cX6_add 16 = .ok (.aload_n 0, 1) := by decide +kernel
theorem dX6_add_17 : decode cX6_add 17 = .ok (.getfield 11, 3) := by decide +kernel
theorem dX6_add_20 : decode cX6_add 20 = .ok (.iload 5, 2) := by decide +kernel
theorem dX6_add_22 : decode cX6_add 22 = .ok (.iconst 0, 1) := by decide +kernel
theorem dX6_add_23 : decode cX6_add 23 = .ok (.iadd, 1) := by decide +kernel
theorem dX6_add_24 : decode cX6_add 24 = .ok (.iload_n 1, 1) := by decide +kernel
theorem dX6_add_25 : decode cX6_add 25 = .ok (.invokestatic 27, 3) := by decide +kernel
theorem dX6_add_28 : decode cX6_add 28 = .ok (.aload_n 0, 1) := by decide +kernel
theorem dX6_add_29 : decode cX6_add 29 = .ok (.getfield 11, 3) := by decide +kernel
theorem dX6_add_32 : decode cX6_add 32 = .ok (.iload 5, 2) := by decide +kernel
theorem dX6_add_34 : decode cX6_add 34 = .ok (.iconst 1, 1) := by decide +kernel
theorem dX6_add_35 : decode cX6_add 35 = .ok (.iadd, 1) := by decide +kernel
theorem dX6_add_36 : decode cX6_add 36 = .ok (.iload_n 2, 1) := by decide +kernel
theorem dX6_add_37 : decode cX6_add 37 = .ok (.invokestatic 27, 3) := by decide +kernel
theorem dX6_add_40 : decode cX6_add 40 = .ok (.aload_n 0, 1) := by decide +kernel
theorem dX6_add_41 : decode cX6_add 41 = .ok (.getfield 11, 3) := by decide +kernel
theorem dX6_add_44 : decode cX6_add 44 = .ok (.iload 5, 2) := by decide +kernel
theorem dX6_add_46 : decode cX6_add 46 = .ok (.iconst 2, 1) := by decide +kernel
theorem dX6_add_47 : decode cX6_add 47 = .ok (.iadd, 1) := by decide +kernel
theorem dX6_add_48 : decode cX6_add 48 = .ok (.iload_n 3, 1) := by decide +kernel
theorem dX6_add_49 : decode cX6_add 49 = .ok (.invokestatic 27, 3) := by decide +kernel
theorem dX6_add_52 : decode cX6_add 52 = .ok (.aload_n 0, 1) := by decide +kernel
theorem dX6_add_53 : decode cX6_add 53 = .ok (.getfield 11, 3) := by decide +kernel
theorem dX6_add_56 : decode cX6_add 56 = .ok (.iload 5, 2) := by decide +kernel
theorem dX6_add_58 : decode cX6_add 58 = .ok (.iconst 3, 1) := by decide +kernel
theorem dX6_add_59 : decode cX6_add 59 = .ok (.iadd, 1) := by decide +kernel
theorem dX6_add_60 : decode cX6_add 60 = .ok (.iload 4, 2) := by decide +kernel
theorem dX6_add_62 : decode cX6_add 62 = .ok (.invokestatic 27, 3) := by decide +kernel
theorem dX6_add_65 : decode cX6_add 65 = .ok (.aload_n 0, 1) := by decide +kernel
theorem dX6_add_66 : decode cX6_add 66 = .ok (.dup, 1) := by decide +kernel
theorem dX6_add_67 : decode cX6_add 67 = .ok (.getfield 15, 3) := by decide +kernel
theorem dX6_add_70 : decode cX6_add 70 = .ok (.iconst 1, 1) := by decide +kernel
theorem dX6_add_71 : decode cX6_add 71 = .ok (.iadd, 1) := by decide +kernel
theorem dX6_add_72 : decode cX6_add 72 = .ok (.putfield 15, 3) := by decide +kernel
theorem dX6_add_75 : decode cX6_add 75 = .ok (.return_, 1) := by decide +kernel
def s_X6_add (f_t : Nat → Int32) (f_t_cells : Nat → Int32) (p0 : Int32) (p1 : Int32) (p2 : Int32) (p3 : Int32) : (Nat → Int32) × (Nat → Int32) :=
  if (s_X6_isFull f_t) = 0 then
    let u_2 : (Nat → Int32) := (s_X10_put 48 f_t_cells (((f_t 1) * 4) + 0) p0)
    let u_3 : (Nat → Int32) := (s_X10_put 48 u_2 (((f_t 1) * 4) + 1) p1)
    let u_4 : (Nat → Int32) := (s_X10_put 48 u_3 (((f_t 1) * 4) + 2) p2)
    let u_5 : (Nat → Int32) := (s_X10_put 48 u_4 (((f_t 1) * 4) + 3) p3)
    ((upd f_t 1 ((f_t 1) + 1)), u_5)
  else
    (f_t, f_t_cells)
set_option maxRecDepth 100000 in
set_option maxHeartbeats 4000000 in
theorem c_X6_add (l : Launch) (D : va_G) (cI cJ cO : ClassId) (h_t : Nat) (h_t_cells : Nat) (f_t : Nat → Int32) (f_t_cells : Nat → Int32) (p0 : Int32) (p1 : Int32) (p2 : Int32) (p3 : Int32) : kV l yX6_add cX6_add 6 1 22 D (kT cI cJ cO) [.ref h_t, .int p0, .int p1, .int p2, .int p3] [(h_t, sgE f_t h_t_cells), (h_t_cells, iA cI 48 f_t_cells)] [(h_t, sgE (s_X6_add f_t f_t_cells p0 p1 p2 p3).1 h_t_cells), (h_t_cells, iA cI 48 (s_X6_add f_t f_t_cells p0 p1 p2 p3).2)] := by
  refine kV_of (own := RX6) (lv := [(0, .ref h_t), (1, .int p0), (2, .int p1), (3, .int p2), (4, .int p3)]) rfl rfl (by decide) (Nat.le_of_ble_eq_true rfl) ?_
  intro p e s m args below meth c Q A C hret
  refine k_aload_n (pc := 0) C rfl 0 rfl dX6_add_0 ?_
  refine k_callVi (pc := 1) (As := []) (rest := []) (r := (s_X6_isFull f_t)) (wc := [(h_t, sgE f_t h_t_cells)]) (wc2 := [(h_t, sgE f_t h_t_cells)]) (ws2 := [(h_t, sgE f_t h_t_cells), (h_t_cells, iA cI 48 f_t_cells)]) C (c_X6_isFull l D cI cJ cO h_t h_t_cells f_t) cwv_X6_isFull q_456 vX6 0 rfl [0] rfl rfl (by decide) rfl rfl (Nat.le_of_ble_eq_true rfl) ⟨Nat.le_of_ble_eq_true rfl, Nat.le_of_ble_eq_true rfl⟩ rfl ⟨Nat.le_refl _, Nat.le_refl _⟩ dX6_add_1 ?_
  refine k_if_eq (pc := 4) (tgt := 8) C dX6_add_4 (by decide) (fun c_1 => ?_) (fun c_1 => ?_)
  · refine k_aload_n (pc := 8) C rfl 0 rfl dX6_add_8 ?_
    refine g_X6_1 (pc := 9) (x := (f_t 1)) C q_112 0 rfl rfl dX6_add_9 ?_
    refine k_iconst (pc := 12) C iconst_4 dX6_add_12 ?_
    refine k_imul (pc := 13) C dX6_add_13 ?_
    refine k_istore (pc := 14) (lv2 := [(5, .int ((f_t 1) * 4)), (0, .ref h_t), (1, .int p0), (2, .int p1), (3, .int p2), (4, .int p3)]) C (by decide) rfl dX6_add_14 ?_
    refine k_aload_n (pc := 16) C rfl 1 rfl dX6_add_16 ?_
    refine g_X6_0 (pc := 17) C q_111 0 rfl dX6_add_17 ?_
    refine k_iload (pc := 20) C 0 rfl dX6_add_20 ?_
    refine k_iconst (pc := 22) C iconst_0 dX6_add_22 ?_
    refine k_iadd (pc := 23) C dX6_add_23 ?_
    refine k_iload_n (pc := 24) C rfl 2 rfl dX6_add_24 ?_
    obtain ⟨u_2, eu_2⟩ : ∃ z : (Nat → Int32), z = (s_X10_put 48 f_t_cells (((f_t 1) * 4) + 0) p0) := ⟨_, rfl⟩
    refine k_callNv (pc := 25) (As := [.ref h_t_cells, .int (((f_t 1) * 4) + 0), .int p0]) (rest := []) (wc := [(h_t_cells, iA cI 48 f_t_cells)]) (wc2 := [(h_t_cells, iA cI 48 u_2)]) (ws2 := [(h_t, sgE f_t h_t_cells), (h_t_cells, iA cI 48 u_2)]) C (by rw [eu_2]; exact c_X10_put l D cI cJ cO h_t_cells 48 f_t_cells (((f_t 1) * 4) + 0) p0 (by decide)) cws_X10_put q_460 [1] rfl rfl (by decide) rfl rfl (Nat.le_of_ble_eq_true rfl) ⟨Nat.le_of_ble_eq_true rfl, Nat.le_of_ble_eq_true rfl⟩ rfl ⟨Nat.le_refl _, Nat.le_refl _⟩ dX6_add_25 ?_
    refine k_aload_n (pc := 28) C rfl 1 rfl dX6_add_28 ?_
    refine g_X6_0 (pc := 29) C q_111 0 rfl dX6_add_29 ?_
    refine k_iload (pc := 32) C 0 rfl dX6_add_32 ?_
    refine k_iconst (pc := 34) C iconst_1 dX6_add_34 ?_
    refine k_iadd (pc := 35) C dX6_add_35 ?_
    refine k_iload_n (pc := 36) C rfl 3 rfl dX6_add_36 ?_
    obtain ⟨u_3, eu_3⟩ : ∃ z : (Nat → Int32), z = (s_X10_put 48 u_2 (((f_t 1) * 4) + 1) p1) := ⟨_, rfl⟩
    refine k_callNv (pc := 37) (As := [.ref h_t_cells, .int (((f_t 1) * 4) + 1), .int p1]) (rest := []) (wc := [(h_t_cells, iA cI 48 u_2)]) (wc2 := [(h_t_cells, iA cI 48 u_3)]) (ws2 := [(h_t, sgE f_t h_t_cells), (h_t_cells, iA cI 48 u_3)]) C (by rw [eu_3]; exact c_X10_put l D cI cJ cO h_t_cells 48 u_2 (((f_t 1) * 4) + 1) p1 (by decide)) cws_X10_put q_460 [1] rfl rfl (by decide) rfl rfl (Nat.le_of_ble_eq_true rfl) ⟨Nat.le_of_ble_eq_true rfl, Nat.le_of_ble_eq_true rfl⟩ rfl ⟨Nat.le_refl _, Nat.le_refl _⟩ dX6_add_37 ?_
    refine k_aload_n (pc := 40) C rfl 1 rfl dX6_add_40 ?_
    refine g_X6_0 (pc := 41) C q_111 0 rfl dX6_add_41 ?_
    refine k_iload (pc := 44) C 0 rfl dX6_add_44 ?_
    refine k_iconst (pc := 46) C iconst_2 dX6_add_46 ?_
    refine k_iadd (pc := 47) C dX6_add_47 ?_
    refine k_iload_n (pc := 48) C rfl 4 rfl dX6_add_48 ?_
    obtain ⟨u_4, eu_4⟩ : ∃ z : (Nat → Int32), z = (s_X10_put 48 u_3 (((f_t 1) * 4) + 2) p2) := ⟨_, rfl⟩
    refine k_callNv (pc := 49) (As := [.ref h_t_cells, .int (((f_t 1) * 4) + 2), .int p2]) (rest := []) (wc := [(h_t_cells, iA cI 48 u_3)]) (wc2 := [(h_t_cells, iA cI 48 u_4)]) (ws2 := [(h_t, sgE f_t h_t_cells), (h_t_cells, iA cI 48 u_4)]) C (by rw [eu_4]; exact c_X10_put l D cI cJ cO h_t_cells 48 u_3 (((f_t 1) * 4) + 2) p2 (by decide)) cws_X10_put q_460 [1] rfl rfl (by decide) rfl rfl (Nat.le_of_ble_eq_true rfl) ⟨Nat.le_of_ble_eq_true rfl, Nat.le_of_ble_eq_true rfl⟩ rfl ⟨Nat.le_refl _, Nat.le_refl _⟩ dX6_add_49 ?_
    refine k_aload_n (pc := 52) C rfl 1 rfl dX6_add_52 ?_
    refine g_X6_0 (pc := 53) C q_111 0 rfl dX6_add_53 ?_
    refine k_iload (pc := 56) C 0 rfl dX6_add_56 ?_
    refine k_iconst (pc := 58) C iconst_3 dX6_add_58 ?_
    refine k_iadd (pc := 59) C dX6_add_59 ?_
    refine k_iload (pc := 60) C 5 rfl dX6_add_60 ?_
    obtain ⟨u_5, eu_5⟩ : ∃ z : (Nat → Int32), z = (s_X10_put 48 u_4 (((f_t 1) * 4) + 3) p3) := ⟨_, rfl⟩
    refine k_callNv (pc := 62) (As := [.ref h_t_cells, .int (((f_t 1) * 4) + 3), .int p3]) (rest := []) (wc := [(h_t_cells, iA cI 48 u_4)]) (wc2 := [(h_t_cells, iA cI 48 u_5)]) (ws2 := [(h_t, sgE f_t h_t_cells), (h_t_cells, iA cI 48 u_5)]) C (by rw [eu_5]; exact c_X10_put l D cI cJ cO h_t_cells 48 u_4 (((f_t 1) * 4) + 3) p3 (by decide)) cws_X10_put q_460 [1] rfl rfl (by decide) rfl rfl (Nat.le_of_ble_eq_true rfl) ⟨Nat.le_of_ble_eq_true rfl, Nat.le_of_ble_eq_true rfl⟩ rfl ⟨Nat.le_refl _, Nat.le_refl _⟩ dX6_add_62 ?_
    refine k_aload_n (pc := 65) C rfl 1 rfl dX6_add_65 ?_
    refine k_dup (pc := 66) C rfl dX6_add_66 ?_
    refine g_X6_1 (pc := 67) (x := (f_t 1)) C q_112 0 rfl rfl dX6_add_67 ?_
    refine k_iconst (pc := 70) C iconst_1 dX6_add_70 ?_
    refine k_iadd (pc := 71) C dX6_add_71 ?_
    refine p_X6_1 (pc := 72) (ws2 := [(h_t, sgE (upd f_t 1 ((f_t 1) + 1)) h_t_cells), (h_t_cells, iA cI 48 u_5)]) C q_112 0 rfl rfl dX6_add_72 ?_
    subst eu_5 eu_4 eu_3 eu_2
    have hs : (s_X6_add f_t f_t_cells p0 p1 p2 p3) = ((upd f_t 1 ((f_t 1) + 1)), (s_X10_put 48 (s_X10_put 48 (s_X10_put 48 (s_X10_put 48 f_t_cells (((f_t 1) * 4) + 0) p0) (((f_t 1) * 4) + 1) p1) (((f_t 1) * 4) + 2) p2) (((f_t 1) * 4) + 3) p3)) := by unfold s_X6_add; exact (if_pos c_1)
    exact k_finV (pc := 75) hret (by rw [hs]) dX6_add_75
  · have hs : (s_X6_add f_t f_t_cells p0 p1 p2 p3) = (f_t, f_t_cells) := by unfold s_X6_add; exact (if_neg c_1)
    exact k_finV (pc := 7) hret (by rw [hs]) dX6_add_7

theorem dX4_isRunning_0 : decode cX4_isRunning 0 = .ok (.aload_n 0, 1) := by decide +kernel
theorem dX4_isRunning_1 : decode cX4_isRunning 1 = .ok (.getfield 9, 3) := by decide +kernel
theorem dX4_isRunning_4 : decode cX4_isRunning 4 = .ok (.iconst 1, 1) := by decide +kernel
theorem dX4_isRunning_5 : decode cX4_isRunning 5 = .ok (.if_icmp .eq 11, 3) := by decide +kernel
theorem dX4_isRunning_8 : decode cX4_isRunning 8 = .ok (.aload_n 0, 1) := by decide +kernel
theorem dX4_isRunning_9 : decode cX4_isRunning 9 = .ok (.getfield 9, 3) := by decide +kernel
theorem dX4_isRunning_12 : decode cX4_isRunning 12 = .ok (.iconst 2, 1) := by decide +kernel
theorem dX4_isRunning_13 : decode cX4_isRunning 13 = .ok (.if_icmp .ne 7, 3) := by decide +kernel
theorem dX4_isRunning_16 : decode cX4_isRunning 16 = .ok (.iconst 1, 1) := by decide +kernel
theorem dX4_isRunning_17 : decode cX4_isRunning 17 = .ok (.goto 4, 3) := by decide +kernel
theorem dX4_isRunning_20 : decode cX4_isRunning 20 = .ok (.iconst 0, 1) := by decide +kernel
theorem dX4_isRunning_21 : decode cX4_isRunning 21 = .ok (.ireturn, 1) := by decide +kernel
def s_X4_isRunning (f_t : Nat → Int32) : Int32 :=
  if (f_t 0) = 1 then
    1
  else
    if (f_t 0) = 2 then
      1
    else
      0
set_option maxRecDepth 100000 in
set_option maxHeartbeats 4000000 in
theorem c_X4_isRunning (l : Launch) (D : va_G) (cI cJ cO : ClassId) (h_t : Nat) (f_t : Nat → Int32) : kI l yX4_isRunning cX4_isRunning 1 .boolean 0 0 D (kT cI cJ cO) [.ref h_t] [(h_t, ruE f_t)] (s_X4_isRunning f_t) [(h_t, ruE f_t)] := by
  refine kI_of (own := RX4) (lv := [(0, .ref h_t)]) rfl rfl (by decide) (Nat.le_of_ble_eq_true rfl) ?_
  intro p e s m args below meth c Q A C hret
  refine k_aload_n (pc := 0) C rfl 0 rfl dX4_isRunning_0 ?_
  refine g_X4_0 (pc := 1) (x := (f_t 0)) C q_127 0 rfl rfl dX4_isRunning_1 ?_
  refine k_iconst (pc := 4) C iconst_1 dX4_isRunning_4 ?_
  refine k_icmp_eq (pc := 5) (tgt := 16) C dX4_isRunning_5 (by decide) (fun c_1 => ?_) (fun c_1 => ?_)
  · refine k_iconst (pc := 16) C iconst_1 dX4_isRunning_16 ?_
    refine k_goto (pc := 17) (tgt := 21) C (by decide) dX4_isRunning_17 ?_
    have hs : (s_X4_isRunning f_t) = 1 := by unfold s_X4_isRunning; exact (if_pos c_1)
    exact k_finI (pc := 21) hret rfl (by rw [hs]) rfl dX4_isRunning_21
  · refine k_aload_n (pc := 8) C rfl 0 rfl dX4_isRunning_8 ?_
    refine g_X4_0 (pc := 9) (x := (f_t 0)) C q_127 0 rfl rfl dX4_isRunning_9 ?_
    refine k_iconst (pc := 12) C iconst_2 dX4_isRunning_12 ?_
    refine k_icmp_ne (pc := 13) (tgt := 20) C dX4_isRunning_13 (by decide) (fun c_2 => ?_) (fun c_2 => ?_)
    · refine k_iconst (pc := 20) C iconst_0 dX4_isRunning_20 ?_
      have hs : (s_X4_isRunning f_t) = 0 := by unfold s_X4_isRunning; exact ((if_neg c_1).trans (if_neg c_2))
      exact k_finI (pc := 21) hret rfl (by rw [hs]) rfl dX4_isRunning_21
    · refine k_iconst (pc := 16) C iconst_1 dX4_isRunning_16 ?_
      refine k_goto (pc := 17) (tgt := 21) C (by decide) dX4_isRunning_17 ?_
      have hs : (s_X4_isRunning f_t) = 1 := by unfold s_X4_isRunning; exact ((if_neg c_1).trans (if_pos c_2))
      exact k_finI (pc := 21) hret rfl (by rw [hs]) rfl dX4_isRunning_21

theorem dX4_goesOn_0 : decode cX4_goesOn 0 = .ok (.aload_n 0, 1) := by decide +kernel
theorem dX4_goesOn_1 : decode cX4_goesOn 1 = .ok (.invokevirtual 15, 3) := by decide +kernel
theorem dX4_goesOn_4 : decode cX4_goesOn 4 = .ok (.ifCond .eq 14, 3) := by decide +kernel
theorem dX4_goesOn_7 : decode cX4_goesOn 7 = .ok (.aload_n 0, 1) := by decide +kernel
theorem dX4_goesOn_8 : decode cX4_goesOn 8 = .ok (.getfield 19, 3) := by decide +kernel
theorem dX4_goesOn_11 : decode cX4_goesOn 11 = .ok (.ifCond .ne 7, 3) := by decide +kernel
theorem dX4_goesOn_14 : decode cX4_goesOn 14 = .ok (.iconst 1, 1) := by decide +kernel
theorem dX4_goesOn_15 : decode cX4_goesOn 15 = .ok (.goto 4, 3) := by decide +kernel
theorem dX4_goesOn_18 : decode cX4_goesOn 18 = .ok (.iconst 0, 1) := by decide +kernel
theorem dX4_goesOn_19 : decode cX4_goesOn 19 = .ok (.ireturn, 1) := by decide +kernel
def s_X4_goesOn (f_t : Nat → Int32) : Int32 :=
  if (s_X4_isRunning f_t) = 0 then
    0
  else
    if (f_t 1) = 0 then
      1
    else
      0
set_option maxRecDepth 100000 in
set_option maxHeartbeats 4000000 in
theorem c_X4_goesOn (l : Launch) (D : va_G) (cI cJ cO : ClassId) (h_t : Nat) (f_t : Nat → Int32) : kI l yX4_goesOn cX4_goesOn 1 .boolean 1 20 D (kT cI cJ cO) [.ref h_t] [(h_t, ruE f_t)] (s_X4_goesOn f_t) [(h_t, ruE f_t)] := by
  refine kI_of (own := RX4) (lv := [(0, .ref h_t)]) rfl rfl (by decide) (Nat.le_of_ble_eq_true rfl) ?_
  intro p e s m args below meth c Q A C hret
  refine k_aload_n (pc := 0) C rfl 0 rfl dX4_goesOn_0 ?_
  refine k_callVi (pc := 1) (As := []) (rest := []) (r := (s_X4_isRunning f_t)) (wc := [(h_t, ruE f_t)]) (wc2 := [(h_t, ruE f_t)]) (ws2 := [(h_t, ruE f_t)]) C (c_X4_isRunning l D cI cJ cO h_t f_t) cwv_X4_isRunning q_694 vX4 0 rfl [0] rfl rfl (by decide) rfl rfl (Nat.le_of_ble_eq_true rfl) ⟨Nat.le_of_ble_eq_true rfl, Nat.le_of_ble_eq_true rfl⟩ rfl ⟨Nat.le_refl _, Nat.le_refl _⟩ dX4_goesOn_1 ?_
  refine k_if_eq (pc := 4) (tgt := 18) C dX4_goesOn_4 (by decide) (fun c_1 => ?_) (fun c_1 => ?_)
  · refine k_iconst (pc := 18) C iconst_0 dX4_goesOn_18 ?_
    have hs : (s_X4_goesOn f_t) = 0 := by unfold s_X4_goesOn; exact (if_pos c_1)
    exact k_finI (pc := 19) hret rfl (by rw [hs]) rfl dX4_goesOn_19
  · refine k_aload_n (pc := 7) C rfl 0 rfl dX4_goesOn_7 ?_
    refine g_X4_1 (pc := 8) (x := (f_t 1)) C q_130 0 rfl rfl dX4_goesOn_8 ?_
    refine k_if_ne (pc := 11) (tgt := 18) C dX4_goesOn_11 (by decide) (fun c_2 => ?_) (fun c_2 => ?_)
    · refine k_iconst (pc := 18) C iconst_0 dX4_goesOn_18 ?_
      have hs : (s_X4_goesOn f_t) = 0 := by unfold s_X4_goesOn; exact ((if_neg c_1).trans (if_neg c_2))
      exact k_finI (pc := 19) hret rfl (by rw [hs]) rfl dX4_goesOn_19
    · refine k_iconst (pc := 14) C iconst_1 dX4_goesOn_14 ?_
      refine k_goto (pc := 15) (tgt := 19) C (by decide) dX4_goesOn_15 ?_
      have hs : (s_X4_goesOn f_t) = 1 := by unfold s_X4_goesOn; exact ((if_neg c_1).trans (if_pos c_2))
      exact k_finI (pc := 19) hret rfl (by rw [hs]) rfl dX4_goesOn_19

theorem dX4_end_0 : decode cX4_end 0 = .ok (.aload_n 0, 1) := by decide +kernel
theorem dX4_end_1 : decode cX4_end 1 = .ok (.iload_n 1, 1) := by decide +kernel
theorem dX4_end_2 : decode cX4_end 2 = .ok (.putfield 9, 3) := by decide +kernel
theorem dX4_end_5 : decode cX4_end 5 = .ok (.aload_n 0, 1) := by decide +kernel
theorem dX4_end_6 : decode cX4_end 6 = .ok (.iconst 0, 1) := by decide +kernel
theorem dX4_end_7 : decode cX4_end 7 = .ok (.putfield 19, 3) := by decide +kernel
theorem dX4_end_10 : decode cX4_end 10 = .ok (.return_, 1) := by decide +kernel
def s_X4_end (f_t : Nat → Int32) (p0 : Int32) : (Nat → Int32) :=
  (upd (upd f_t 0 p0) 1 0)
set_option maxRecDepth 100000 in
set_option maxHeartbeats 4000000 in
theorem c_X4_end (l : Launch) (D : va_G) (cI cJ cO : ClassId) (h_t : Nat) (f_t : Nat → Int32) (p0 : Int32) : kV l yX4_end cX4_end 2 0 0 D (kT cI cJ cO) [.ref h_t, .int p0] [(h_t, ruE f_t)] [(h_t, ruE (s_X4_end f_t p0))] := by
  refine kV_of (own := RX4) (lv := [(0, .ref h_t), (1, .int p0)]) rfl rfl (by decide) (Nat.le_of_ble_eq_true rfl) ?_
  intro p e s m args below meth c Q A C hret
  refine k_aload_n (pc := 0) C rfl 0 rfl dX4_end_0 ?_
  refine k_iload_n (pc := 1) C rfl 1 rfl dX4_end_1 ?_
  refine p_X4_0 (pc := 2) (ws2 := [(h_t, ruE (upd f_t 0 p0))]) C q_127 0 rfl rfl dX4_end_2 ?_
  refine k_aload_n (pc := 5) C rfl 0 rfl dX4_end_5 ?_
  refine k_iconst (pc := 6) C iconst_0 dX4_end_6 ?_
  refine p_X4_1 (pc := 7) (ws2 := [(h_t, ruE (upd (upd f_t 0 p0) 1 0))]) C q_130 kb0 0 rfl rfl dX4_end_7 ?_
  have hs : (s_X4_end f_t p0) = (upd (upd f_t 0 p0) 1 0) := by unfold s_X4_end; exact rfl
  exact k_finV (pc := 10) hret (by rw [hs]) dX4_end_10

theorem dX1_temperatureOffset_0 : decode cX1_temperatureOffset 0 = .ok (.aload_n 0, 1) := by decide +kernel
theorem dX1_temperatureOffset_1 : decode cX1_temperatureOffset 1 = .ok (.getfield 18, 3) := by decide +kernel
theorem dX1_temperatureOffset_4 : decode cX1_temperatureOffset 4 = .ok (.aload_n 0, 1) := by decide +kernel
theorem dX1_temperatureOffset_5 : decode cX1_temperatureOffset 5 = .ok (.getfield 9, 3) := by decide +kernel
theorem dX1_temperatureOffset_8 : decode cX1_temperatureOffset 8 = .ok (.isub, 1) := by decide +kernel
theorem dX1_temperatureOffset_9 : decode cX1_temperatureOffset 9 = .ok (.invokestatic 30, 3) := by decide +kernel
theorem dX1_temperatureOffset_12 : decode cX1_temperatureOffset 12 = .ok (.ireturn, 1) := by decide +kernel
def s_X1_temperatureOffset (f_t : Nat → Int32) : Int32 :=
  (if 0 ≤ ((f_t 2) - (f_t 0)) then ((f_t 2) - (f_t 0)) else 0 - ((f_t 2) - (f_t 0)))
set_option maxRecDepth 100000 in
set_option maxHeartbeats 4000000 in
theorem c_X1_temperatureOffset (l : Launch) (D : va_G) (cI cJ cO : ClassId) (h_t : Nat) (f_t : Nat → Int32) : kI l yX1_temperatureOffset cX1_temperatureOffset 1 .int 1 13 D (kT cI cJ cO) [.ref h_t] [(h_t, clE f_t)] (s_X1_temperatureOffset f_t) [(h_t, clE f_t)] := by
  refine kI_of (own := RX1) (lv := [(0, .ref h_t)]) rfl rfl (by decide) (Nat.le_of_ble_eq_true rfl) ?_
  intro p e s m args below meth c Q A C hret
  refine k_aload_n (pc := 0) C rfl 0 rfl dX1_temperatureOffset_0 ?_
  refine g_X1_2 (pc := 1) (x := (f_t 2)) C q_187 0 rfl rfl dX1_temperatureOffset_1 ?_
  refine k_aload_n (pc := 4) C rfl 0 rfl dX1_temperatureOffset_4 ?_
  refine g_X1_0 (pc := 5) (x := (f_t 0)) C q_181 0 rfl rfl dX1_temperatureOffset_5 ?_
  refine k_isub (pc := 8) C dX1_temperatureOffset_8 ?_
  refine k_mabs (pc := 9) C q_740 q_741 q_50 q_742 ⟨Nat.le_of_ble_eq_true rfl, Nat.le_of_ble_eq_true rfl, Nat.le_refl _, Nat.le_refl _⟩ dX1_temperatureOffset_9 ?_
  have hs : (s_X1_temperatureOffset f_t) = (if 0 ≤ ((f_t 2) - (f_t 0)) then ((f_t 2) - (f_t 0)) else 0 - ((f_t 2) - (f_t 0))) := by unfold s_X1_temperatureOffset; exact rfl
  exact k_finI (pc := 12) hret rfl (by rw [hs]) rfl dX1_temperatureOffset_12

theorem dX1_change_0 : decode cX1_change 0 = .ok (.aload_n 0, 1) := by decide +kernel
theorem dX1_change_1 : decode cX1_change 1 = .ok (.aload_n 0, 1) := by decide +kernel
theorem dX1_change_2 : decode cX1_change 2 = .ok (.getfield 9, 3) := by decide +kernel
theorem dX1_change_5 : decode cX1_change 5 = .ok (.iload_n 1, 1) := by decide +kernel
theorem dX1_change_6 : decode cX1_change 6 = .ok (.iadd, 1) := by decide +kernel
theorem dX1_change_7 : decode cX1_change 7 = .ok (.sipush (-700), 3) := by decide +kernel
theorem dX1_change_10 : decode cX1_change 10 = .ok (.sipush 2000, 3) := by decide +kernel
theorem dX1_change_13 : decode cX1_change 13 = .ok (.invokestatic 36, 3) := by decide +kernel
theorem dX1_change_16 : decode cX1_change 16 = .ok (.putfield 9, 3) := by decide +kernel
theorem dX1_change_19 : decode cX1_change 19 = .ok (.aload_n 0, 1) := by decide +kernel
theorem dX1_change_20 : decode cX1_change 20 = .ok (.aload_n 0, 1) := by decide +kernel
theorem dX1_change_21 : decode cX1_change 21 = .ok (.getfield 15, 3) := by decide +kernel
theorem dX1_change_24 : decode cX1_change 24 = .ok (.iload_n 2, 1) := by decide +kernel
theorem dX1_change_25 : decode cX1_change 25 = .ok (.iadd, 1) := by decide +kernel
theorem dX1_change_26 : decode cX1_change 26 = .ok (.iconst 0, 1) := by decide +kernel
theorem dX1_change_27 : decode cX1_change 27 = .ok (.sipush 1000, 3) := by decide +kernel
theorem dX1_change_30 : decode cX1_change 30 = .ok (.invokestatic 36, 3) := by decide +kernel
theorem dX1_change_33 : decode cX1_change 33 = .ok (.putfield 15, 3) := by decide +kernel
theorem dX1_change_36 : decode cX1_change 36 = .ok (.return_, 1) := by decide +kernel
def s_X1_change (f_t : Nat → Int32) (p0 : Int32) (p1 : Int32) : (Nat → Int32) :=
  (upd (upd f_t 0 (s_X10_limit ((f_t 0) + p0) (-700) 2000)) 1 (s_X10_limit ((f_t 1) + p1) 0 1000))
set_option maxRecDepth 100000 in
set_option maxHeartbeats 4000000 in
theorem c_X1_change (l : Launch) (D : va_G) (cI cJ cO : ClassId) (h_t : Nat) (f_t : Nat → Int32) (p0 : Int32) (p1 : Int32) : kV l yX1_change cX1_change 3 2 36 D (kT cI cJ cO) [.ref h_t, .int p0, .int p1] [(h_t, clE f_t)] [(h_t, clE (s_X1_change f_t p0 p1))] := by
  refine kV_of (own := RX1) (lv := [(0, .ref h_t), (1, .int p0), (2, .int p1)]) rfl rfl (by decide) (Nat.le_of_ble_eq_true rfl) ?_
  intro p e s m args below meth c Q A C hret
  refine k_aload_n (pc := 0) C rfl 0 rfl dX1_change_0 ?_
  refine k_aload_n (pc := 1) C rfl 0 rfl dX1_change_1 ?_
  refine g_X1_0 (pc := 2) (x := (f_t 0)) C q_181 0 rfl rfl dX1_change_2 ?_
  refine k_iload_n (pc := 5) C rfl 1 rfl dX1_change_5 ?_
  refine k_iadd (pc := 6) C dX1_change_6 ?_
  refine k_sipush (pc := 7) C sipush_m700 dX1_change_7 ?_
  refine k_sipush (pc := 10) C sipush_2000 dX1_change_10 ?_
  refine k_callNi (pc := 13) (As := [.int ((f_t 0) + p0), .int (-700), .int 2000]) (rest := [.ref h_t]) (r := (s_X10_limit ((f_t 0) + p0) (-700) 2000)) (wc := []) (wc2 := []) (ws2 := [(h_t, clE f_t)]) C (c_X10_limit l D cI cJ cO ((f_t 0) + p0) (-700) 2000) cws_X10_limit q_734 [] rfl rfl (by decide) rfl rfl (Nat.le_of_ble_eq_true rfl) ⟨Nat.le_of_ble_eq_true rfl, Nat.le_of_ble_eq_true rfl⟩ rfl ⟨Nat.le_refl _, Nat.le_refl _⟩ dX1_change_13 ?_
  refine p_X1_0 (pc := 16) (ws2 := [(h_t, clE (upd f_t 0 (s_X10_limit ((f_t 0) + p0) (-700) 2000)))]) C q_181 0 rfl rfl dX1_change_16 ?_
  refine k_aload_n (pc := 19) C rfl 0 rfl dX1_change_19 ?_
  refine k_aload_n (pc := 20) C rfl 0 rfl dX1_change_20 ?_
  refine g_X1_1 (pc := 21) (x := (f_t 1)) C q_184 0 rfl (upn (by decide) rfl) dX1_change_21 ?_
  refine k_iload_n (pc := 24) C rfl 2 rfl dX1_change_24 ?_
  refine k_iadd (pc := 25) C dX1_change_25 ?_
  refine k_iconst (pc := 26) C iconst_0 dX1_change_26 ?_
  refine k_sipush (pc := 27) C sipush_1000 dX1_change_27 ?_
  refine k_callNi (pc := 30) (As := [.int ((f_t 1) + p1), .int 0, .int 1000]) (rest := [.ref h_t]) (r := (s_X10_limit ((f_t 1) + p1) 0 1000)) (wc := []) (wc2 := []) (ws2 := [(h_t, clE (upd f_t 0 (s_X10_limit ((f_t 0) + p0) (-700) 2000)))]) C (c_X10_limit l D cI cJ cO ((f_t 1) + p1) 0 1000) cws_X10_limit q_734 [] rfl rfl (by decide) rfl rfl (Nat.le_of_ble_eq_true rfl) ⟨Nat.le_of_ble_eq_true rfl, Nat.le_of_ble_eq_true rfl⟩ rfl ⟨Nat.le_refl _, Nat.le_refl _⟩ dX1_change_30 ?_
  refine p_X1_1 (pc := 33) (ws2 := [(h_t, clE (upd (upd f_t 0 (s_X10_limit ((f_t 0) + p0) (-700) 2000)) 1 (s_X10_limit ((f_t 1) + p1) 0 1000)))]) C q_184 0 rfl rfl dX1_change_33 ?_
  have hs : (s_X1_change f_t p0 p1) = (upd (upd f_t 0 (s_X10_limit ((f_t 0) + p0) (-700) 2000)) 1 (s_X10_limit ((f_t 1) + p1) 0 1000)) := by unfold s_X1_change; exact rfl
  exact k_finV (pc := 36) hret (by rw [hs]) dX1_change_36

theorem dX1_count_0 : decode cX1_count 0 = .ok (.aload_n 0, 1) := by decide +kernel
theorem dX1_count_1 : decode cX1_count 1 = .ok (.iload_n 1, 1) := by decide +kernel
theorem dX1_count_2 : decode cX1_count 2 = .ok (.ifCond .le 7, 3) := by decide +kernel
theorem dX1_count_5 : decode cX1_count 5 = .ok (.iconst 0, 1) := by decide +kernel
theorem dX1_count_6 : decode cX1_count 6 = .ok (.goto 15, 3) := by decide +kernel
theorem dX1_count_9 : decode cX1_count 9 = .ok (.aload_n 0, 1) := by decide +kernel
theorem dX1_count_10 : decode cX1_count 10 = .ok (.getfield 24, 3) := by decide +kernel
theorem dX1_count_13 : decode cX1_count 13 = .ok (.iconst 1, 1) := by decide +kernel
theorem dX1_count_14 : decode cX1_count 14 = .ok (.iadd, 1) := by decide +kernel
theorem dX1_count_15 : decode cX1_count 15 = .ok (.sipush 1000, 3) := by decide +kernel
theorem dX1_count_18 : decode cX1_count 18 = .ok (.invokestatic 40, 3) := by decide +kernel
theorem dX1_count_21 : decode cX1_count 21 = .ok (.putfield 24, 3) := by decide +kernel
theorem dX1_count_24 : decode cX1_count 24 = .ok (.aload_n 0, 1) := by decide +kernel
theorem dX1_count_25 : decode cX1_count 25 = .ok (.iload_n 1, 1) := by decide +kernel
theorem dX1_count_26 : decode cX1_count 26 = .ok (.ifCond .ge 7, 3) := by decide +kernel
theorem dX1_count_29 : decode cX1_count 29 = .ok (.iconst 0, 1) := by decide +kernel
theorem dX1_count_30 : decode cX1_count 30 = .ok (.goto 15, 3) := by decide +kernel
theorem dX1_count_33 : decode cX1_count 33 = .ok (.aload_n 0, 1) := by decide +kernel
theorem dX1_count_34 : decode cX1_count 34 = .ok (.getfield 27, 3) := by decide +kernel
theorem dX1_count_37 : decode cX1_count 37 = .ok (.iconst 1, 1) := by decide +kernel
theorem dX1_count_38 : decode cX1_count 38 = .ok (.iadd, 1) := by decide +kernel
theorem dX1_count_39 : decode cX1_count 39 = .ok (.sipush 1000, 3) := by decide +kernel
theorem dX1_count_42 : decode cX1_count 42 = .ok (.invokestatic 40, 3) := by decide +kernel
theorem dX1_count_45 : decode cX1_count 45 = .ok (.putfield 27, 3) := by decide +kernel
theorem dX1_count_48 : decode cX1_count 48 = .ok (.aload_n 0, 1) := by decide +kernel
theorem dX1_count_49 : decode cX1_count 49 = .ok (.dup, 1) := by decide +kernel
theorem dX1_count_50 : decode cX1_count 50 = .ok (.getfield 44, 3) := by decide +kernel
theorem dX1_count_53 : decode cX1_count 53 = .ok (.iload_n 1, 1) := by decide +kernel
theorem dX1_count_54 : decode cX1_count 54 = .ok (.ifCond .le 7, 3) := by decide +kernel
theorem dX1_count_57 : decode cX1_count 57 = .ok (.iconst 1, 1) := by decide +kernel
theorem dX1_count_58 : decode cX1_count 58 = .ok (.goto 4, 3) := by decide +kernel
theorem dX1_count_61 : decode cX1_count 61 = .ok (.iconst 0, 1) := by decide +kernel
theorem dX1_count_62 : decode cX1_count 62 = .ok (.iadd, 1) := by decide +kernel
theorem dX1_count_63 : decode cX1_count 63 = .ok (.putfield 44, 3) := by decide +kernel
theorem dX1_count_66 : decode cX1_count 66 = .ok (.aload_n 0, 1) := by decide +kernel
theorem dX1_count_67 : decode cX1_count 67 = .ok (.dup, 1) := by decide +kernel
theorem dX1_count_68 : decode cX1_count 68 = .ok (.getfield 47, 3) := by decide +kernel
theorem dX1_count_71 : decode cX1_count 71 = .ok (.iload_n 1, 1) := by decide +kernel
theorem dX1_count_72 : decode cX1_count 72 = .ok (.ifCond .ge 7, 3) := by decide +kernel
theorem dX1_count_75 : decode cX1_count 75 = .ok (.iconst 1, 1) := by decide +kernel
theorem dX1_count_76 : decode cX1_count 76 = .ok (.goto 4, 3) := by decide +kernel
theorem dX1_count_79 : decode cX1_count 79 = .ok (.iconst 0, 1) := by decide +kernel
theorem dX1_count_80 : decode cX1_count 80 = .ok (.iadd, 1) := by decide +kernel
theorem dX1_count_81 : decode cX1_count 81 = .ok (.putfield 47, 3) := by decide +kernel
theorem dX1_count_84 : decode cX1_count 84 = .ok (.aload_n 0, 1) := by decide +kernel
theorem dX1_count_85 : decode cX1_count 85 = .ok (.dup, 1) := by decide +kernel
theorem dX1_count_86 : decode cX1_count 86 = .ok (.getfield 50, 3) := by decide +kernel
theorem dX1_count_89 : decode cX1_count 89 = .ok (.iload_n 2, 1) := by decide +kernel
theorem dX1_count_90 : decode cX1_count 90 = .ok (.ifCond .le 7, 3) := by decide +kernel
theorem dX1_count_93 : decode cX1_count 93 = .ok (.iconst 1, 1) := by decide +kernel
theorem dX1_count_94 : decode cX1_count 94 = .ok (.goto 4, 3) := by decide +kernel
theorem dX1_count_97 : decode cX1_count 97 = .ok (.iconst 0, 1) := by decide +kernel
theorem dX1_count_98 : decode cX1_count 98 = .ok (.iadd, 1) := by decide +kernel
theorem dX1_count_99 : decode cX1_count 99 = .ok (.putfield 50, 3) := by decide +kernel
theorem dX1_count_102 : decode cX1_count 102 = .ok (.aload_n 0, 1) := by decide +kernel
theorem dX1_count_103 : decode cX1_count 103 = .ok (.dup, 1) := by decide +kernel
theorem dX1_count_104 : decode cX1_count 104 = .ok (.getfield 53, 3) := by decide +kernel
theorem dX1_count_107 : decode cX1_count 107 = .ok (.iload_n 2, 1) := by decide +kernel
theorem dX1_count_108 : decode cX1_count 108 = .ok (.ifCond .ge 7, 3) := by decide +kernel
theorem dX1_count_111 : decode cX1_count 111 = .ok (.iconst 1, 1) := by decide +kernel
theorem dX1_count_112 : decode cX1_count 112 = .ok (.goto 4, 3) := by decide +kernel
theorem dX1_count_115 : decode cX1_count 115 = .ok (.iconst 0, 1) := by decide +kernel
theorem dX1_count_116 : decode cX1_count 116 = .ok (.iadd, 1) := by decide +kernel
theorem dX1_count_117 : decode cX1_count 117 = .ok (.putfield 53, 3) := by decide +kernel
theorem dX1_count_120 : decode cX1_count 120 = .ok (.aload_n 0, 1) := by decide +kernel
theorem dX1_count_121 : decode cX1_count 121 = .ok (.dup, 1) := by decide +kernel
theorem dX1_count_122 : decode cX1_count 122 = .ok (.getfield 56, 3) := by decide +kernel
theorem dX1_count_125 : decode cX1_count 125 = .ok (.iload_n 1, 1) := by decide +kernel
theorem dX1_count_126 : decode cX1_count 126 = .ok (.invokestatic 30, 3) := by decide +kernel
theorem dX1_count_129 : decode cX1_count 129 = .ok (.iload_n 2, 1) := by decide +kernel
theorem dX1_count_130 : decode cX1_count 130 = .ok (.invokestatic 30, 3) := by decide +kernel
theorem dX1_count_133 : decode cX1_count 133 = .ok (.iadd, 1) := by decide +kernel
theorem dX1_count_134 : decode cX1_count 134 = .ok (.iadd, 1) := by decide +kernel
theorem dX1_count_135 : decode cX1_count 135 = .ok (.putfield 56, 3) := by decide +kernel
theorem dX1_count_138 : decode cX1_count 138 = .ok (.return_, 1) := by decide +kernel
def s_X1_count (f_t : Nat → Int32) (p0 : Int32) (p1 : Int32) : (Nat → Int32) :=
  let x_2 : Int32 := (if p0 ≤ 0 then (if 1000 < ((f_t 7) + 1) then 1000 else ((f_t 7) + 1)) else 0)
  let x_4 : Int32 := (if 0 ≤ p0 then (if 1000 < ((f_t 8) + 1) then 1000 else ((f_t 8) + 1)) else 0)
  let x_6 : Int32 := (if p0 ≤ 0 then 0 else 1)
  let x_8 : Int32 := (if 0 ≤ p0 then 0 else 1)
  let x_10 : Int32 := (if p1 ≤ 0 then 0 else 1)
  let x_12 : Int32 := (if 0 ≤ p1 then 0 else 1)
  let v_13 : Int32 := ((f_t 13) + ((if 0 ≤ p0 then p0 else 0 - p0) + (if 0 ≤ p1 then p1 else 0 - p1)))
  (upd (upd (upd (upd (upd (upd (upd f_t 7 x_2) 8 x_4) 9 ((f_t 9) + x_6)) 10 ((f_t 10) + x_8)) 11 ((f_t 11) + x_10)) 12 ((f_t 12) + x_12)) 13 v_13)
set_option maxRecDepth 100000 in
set_option maxHeartbeats 4000000 in
theorem c_X1_count (l : Launch) (D : va_G) (cI cJ cO : ClassId) (h_t : Nat) (f_t : Nat → Int32) (p0 : Int32) (p1 : Int32) : kV l yX1_count cX1_count 3 1 16 D (kT cI cJ cO) [.ref h_t, .int p0, .int p1] [(h_t, clE f_t)] [(h_t, clE (s_X1_count f_t p0 p1))] := by
  refine kV_of (own := RX1) (lv := [(0, .ref h_t), (1, .int p0), (2, .int p1)]) rfl rfl (by decide) (Nat.le_of_ble_eq_true rfl) ?_
  intro p e s m args below meth c Q A C hret
  refine k_aload_n (pc := 0) C rfl 0 rfl dX1_count_0 ?_
  refine k_iload_n (pc := 1) C rfl 1 rfl dX1_count_1 ?_
  have K_14 : ∀ (x_2 : Int32), x_2 = (if p0 ≤ 0 then (if 1000 < ((f_t 7) + 1) then 1000 else ((f_t 7) + 1)) else 0) → KJ p l e (kR 1 16) s m args below meth c 0 0 Q D A 3 [(h_t, clE f_t)] [(0, .ref h_t), (1, .int p0), (2, .int p1)] [.int x_2, .ref h_t] 21 := by
    intro x_2 ex_2
    refine p_X1_7 (pc := 21) (ws2 := [(h_t, clE (upd f_t 7 x_2))]) C q_200 0 rfl rfl dX1_count_21 ?_
    refine k_aload_n (pc := 24) C rfl 0 rfl dX1_count_24 ?_
    refine k_iload_n (pc := 25) C rfl 1 rfl dX1_count_25 ?_
    have K_15 : ∀ (x_4 : Int32), x_4 = (if 0 ≤ p0 then (if 1000 < ((f_t 8) + 1) then 1000 else ((f_t 8) + 1)) else 0) → KJ p l e (kR 1 16) s m args below meth c 0 0 Q D A 3 [(h_t, clE (upd f_t 7 x_2))] [(0, .ref h_t), (1, .int p0), (2, .int p1)] [.int x_4, .ref h_t] 45 := by
      intro x_4 ex_4
      refine p_X1_8 (pc := 45) (ws2 := [(h_t, clE (upd (upd f_t 7 x_2) 8 x_4))]) C q_202 0 rfl rfl dX1_count_45 ?_
      refine k_aload_n (pc := 48) C rfl 0 rfl dX1_count_48 ?_
      refine k_dup (pc := 49) C rfl dX1_count_49 ?_
      refine g_X1_9 (pc := 50) (x := (f_t 9)) C q_204 0 rfl (upn (by decide) (upn (by decide) rfl)) dX1_count_50 ?_
      refine k_iload_n (pc := 53) C rfl 1 rfl dX1_count_53 ?_
      have K_16 : ∀ (x_6 : Int32), x_6 = (if p0 ≤ 0 then 0 else 1) → KJ p l e (kR 1 16) s m args below meth c 0 0 Q D A 3 [(h_t, clE (upd (upd f_t 7 x_2) 8 x_4))] [(0, .ref h_t), (1, .int p0), (2, .int p1)] [.int x_6, .int (f_t 9), .ref h_t] 62 := by
        intro x_6 ex_6
        refine k_iadd (pc := 62) C dX1_count_62 ?_
        refine p_X1_9 (pc := 63) (ws2 := [(h_t, clE (upd (upd (upd f_t 7 x_2) 8 x_4) 9 ((f_t 9) + x_6)))]) C q_204 0 rfl rfl dX1_count_63 ?_
        refine k_aload_n (pc := 66) C rfl 0 rfl dX1_count_66 ?_
        refine k_dup (pc := 67) C rfl dX1_count_67 ?_
        refine g_X1_10 (pc := 68) (x := (f_t 10)) C q_205 0 rfl (upn (by decide) (upn (by decide) (upn (by decide) rfl))) dX1_count_68 ?_
        refine k_iload_n (pc := 71) C rfl 1 rfl dX1_count_71 ?_
        have K_17 : ∀ (x_8 : Int32), x_8 = (if 0 ≤ p0 then 0 else 1) → KJ p l e (kR 1 16) s m args below meth c 0 0 Q D A 3 [(h_t, clE (upd (upd (upd f_t 7 x_2) 8 x_4) 9 ((f_t 9) + x_6)))] [(0, .ref h_t), (1, .int p0), (2, .int p1)] [.int x_8, .int (f_t 10), .ref h_t] 80 := by
          intro x_8 ex_8
          refine k_iadd (pc := 80) C dX1_count_80 ?_
          refine p_X1_10 (pc := 81) (ws2 := [(h_t, clE (upd (upd (upd (upd f_t 7 x_2) 8 x_4) 9 ((f_t 9) + x_6)) 10 ((f_t 10) + x_8)))]) C q_205 0 rfl rfl dX1_count_81 ?_
          refine k_aload_n (pc := 84) C rfl 0 rfl dX1_count_84 ?_
          refine k_dup (pc := 85) C rfl dX1_count_85 ?_
          refine g_X1_11 (pc := 86) (x := (f_t 11)) C q_206 0 rfl (upn (by decide) (upn (by decide) (upn (by decide) (upn (by decide) rfl)))) dX1_count_86 ?_
          refine k_iload_n (pc := 89) C rfl 2 rfl dX1_count_89 ?_
          have K_18 : ∀ (x_10 : Int32), x_10 = (if p1 ≤ 0 then 0 else 1) → KJ p l e (kR 1 16) s m args below meth c 0 0 Q D A 3 [(h_t, clE (upd (upd (upd (upd f_t 7 x_2) 8 x_4) 9 ((f_t 9) + x_6)) 10 ((f_t 10) + x_8)))] [(0, .ref h_t), (1, .int p0), (2, .int p1)] [.int x_10, .int (f_t 11), .ref h_t] 98 := by
            intro x_10 ex_10
            refine k_iadd (pc := 98) C dX1_count_98 ?_
            refine p_X1_11 (pc := 99) (ws2 := [(h_t, clE (upd (upd (upd (upd (upd f_t 7 x_2) 8 x_4) 9 ((f_t 9) + x_6)) 10 ((f_t 10) + x_8)) 11 ((f_t 11) + x_10)))]) C q_206 0 rfl rfl dX1_count_99 ?_
            refine k_aload_n (pc := 102) C rfl 0 rfl dX1_count_102 ?_
            refine k_dup (pc := 103) C rfl dX1_count_103 ?_
            refine g_X1_12 (pc := 104) (x := (f_t 12)) C q_207 0 rfl (upn (by decide) (upn (by decide) (upn (by decide) (upn (by decide) (upn (by decide) rfl))))) dX1_count_104 ?_
            refine k_iload_n (pc := 107) C rfl 2 rfl dX1_count_107 ?_
            have K_19 : ∀ (x_12 : Int32), x_12 = (if 0 ≤ p1 then 0 else 1) → KJ p l e (kR 1 16) s m args below meth c 0 0 Q D A 3 [(h_t, clE (upd (upd (upd (upd (upd f_t 7 x_2) 8 x_4) 9 ((f_t 9) + x_6)) 10 ((f_t 10) + x_8)) 11 ((f_t 11) + x_10)))] [(0, .ref h_t), (1, .int p0), (2, .int p1)] [.int x_12, .int (f_t 12), .ref h_t] 116 := by
              intro x_12 ex_12
              refine k_iadd (pc := 116) C dX1_count_116 ?_
              refine p_X1_12 (pc := 117) (ws2 := [(h_t, clE (upd (upd (upd (upd (upd (upd f_t 7 x_2) 8 x_4) 9 ((f_t 9) + x_6)) 10 ((f_t 10) + x_8)) 11 ((f_t 11) + x_10)) 12 ((f_t 12) + x_12)))]) C q_207 0 rfl rfl dX1_count_117 ?_
              refine k_aload_n (pc := 120) C rfl 0 rfl dX1_count_120 ?_
              refine k_dup (pc := 121) C rfl dX1_count_121 ?_
              refine g_X1_13 (pc := 122) (x := (f_t 13)) C q_208 0 rfl (upn (by decide) (upn (by decide) (upn (by decide) (upn (by decide) (upn (by decide) (upn (by decide) rfl)))))) dX1_count_122 ?_
              refine k_iload_n (pc := 125) C rfl 1 rfl dX1_count_125 ?_
              refine k_mabs (pc := 126) C q_740 q_741 q_50 q_742 ⟨Nat.le_of_ble_eq_true rfl, Nat.le_of_ble_eq_true rfl, Nat.le_refl _, Nat.le_refl _⟩ dX1_count_126 ?_
              refine k_iload_n (pc := 129) C rfl 2 rfl dX1_count_129 ?_
              refine k_mabs (pc := 130) C q_740 q_741 q_50 q_742 ⟨Nat.le_of_ble_eq_true rfl, Nat.le_of_ble_eq_true rfl, Nat.le_refl _, Nat.le_refl _⟩ dX1_count_130 ?_
              refine k_iadd (pc := 133) C dX1_count_133 ?_
              refine k_iadd (pc := 134) C dX1_count_134 ?_
              obtain ⟨v_13, ev_13⟩ : ∃ z : Int32, z = ((f_t 13) + ((if 0 ≤ p0 then p0 else 0 - p0) + (if 0 ≤ p1 then p1 else 0 - p1))) := ⟨_, rfl⟩
              rw [← ev_13]
              refine p_X1_13 (pc := 135) (ws2 := [(h_t, clE (upd (upd (upd (upd (upd (upd (upd f_t 7 x_2) 8 x_4) 9 ((f_t 9) + x_6)) 10 ((f_t 10) + x_8)) 11 ((f_t 11) + x_10)) 12 ((f_t 12) + x_12)) 13 v_13))]) C q_208 0 rfl rfl dX1_count_135 ?_
              subst ev_13 ex_12 ex_10 ex_8 ex_6 ex_4 ex_2
              have hs : (s_X1_count f_t p0 p1) = (upd (upd (upd (upd (upd (upd (upd f_t 7 (if p0 ≤ 0 then (if 1000 < ((f_t 7) + 1) then 1000 else ((f_t 7) + 1)) else 0)) 8 (if 0 ≤ p0 then (if 1000 < ((f_t 8) + 1) then 1000 else ((f_t 8) + 1)) else 0)) 9 ((f_t 9) + (if p0 ≤ 0 then 0 else 1))) 10 ((f_t 10) + (if 0 ≤ p0 then 0 else 1))) 11 ((f_t 11) + (if p1 ≤ 0 then 0 else 1))) 12 ((f_t 12) + (if 0 ≤ p1 then 0 else 1))) 13 ((f_t 13) + ((if 0 ≤ p0 then p0 else 0 - p0) + (if 0 ≤ p1 then p1 else 0 - p1)))) := by unfold s_X1_count; exact rfl
              exact k_finV (pc := 138) hret (by rw [hs]) dX1_count_138
            refine k_if_ge (pc := 108) (tgt := 115) C dX1_count_108 (by decide) (fun c_11 => ?_) (fun c_11 => ?_)
            · refine k_iconst (pc := 115) C iconst_0 dX1_count_115 ?_
              exact K_19 0 (if_pos c_11).symm
            · refine k_iconst (pc := 111) C iconst_1 dX1_count_111 ?_
              refine k_goto (pc := 112) (tgt := 116) C (by decide) dX1_count_112 ?_
              exact K_19 1 (if_neg c_11).symm
          refine k_if_le (pc := 90) (tgt := 97) C dX1_count_90 (by decide) (fun c_9 => ?_) (fun c_9 => ?_)
          · refine k_iconst (pc := 97) C iconst_0 dX1_count_97 ?_
            exact K_18 0 (if_pos c_9).symm
          · refine k_iconst (pc := 93) C iconst_1 dX1_count_93 ?_
            refine k_goto (pc := 94) (tgt := 98) C (by decide) dX1_count_94 ?_
            exact K_18 1 (if_neg c_9).symm
        refine k_if_ge (pc := 72) (tgt := 79) C dX1_count_72 (by decide) (fun c_7 => ?_) (fun c_7 => ?_)
        · refine k_iconst (pc := 79) C iconst_0 dX1_count_79 ?_
          exact K_17 0 (if_pos c_7).symm
        · refine k_iconst (pc := 75) C iconst_1 dX1_count_75 ?_
          refine k_goto (pc := 76) (tgt := 80) C (by decide) dX1_count_76 ?_
          exact K_17 1 (if_neg c_7).symm
      refine k_if_le (pc := 54) (tgt := 61) C dX1_count_54 (by decide) (fun c_5 => ?_) (fun c_5 => ?_)
      · refine k_iconst (pc := 61) C iconst_0 dX1_count_61 ?_
        exact K_16 0 (if_pos c_5).symm
      · refine k_iconst (pc := 57) C iconst_1 dX1_count_57 ?_
        refine k_goto (pc := 58) (tgt := 62) C (by decide) dX1_count_58 ?_
        exact K_16 1 (if_neg c_5).symm
    refine k_if_ge (pc := 26) (tgt := 33) C dX1_count_26 (by decide) (fun c_3 => ?_) (fun c_3 => ?_)
    · refine k_aload_n (pc := 33) C rfl 0 rfl dX1_count_33 ?_
      refine g_X1_8 (pc := 34) (x := (f_t 8)) C q_202 0 rfl (upn (by decide) rfl) dX1_count_34 ?_
      refine k_iconst (pc := 37) C iconst_1 dX1_count_37 ?_
      refine k_iadd (pc := 38) C dX1_count_38 ?_
      refine k_sipush (pc := 39) C sipush_1000 dX1_count_39 ?_
      refine k_mmin (pc := 42) C q_739 q_581 q_50 q_582 ⟨Nat.le_of_ble_eq_true rfl, Nat.le_of_ble_eq_true rfl, Nat.le_refl _, Nat.le_refl _⟩ dX1_count_42 ?_
      exact K_15 (if 1000 < ((f_t 8) + 1) then 1000 else ((f_t 8) + 1)) (if_pos c_3).symm
    · refine k_iconst (pc := 29) C iconst_0 dX1_count_29 ?_
      refine k_goto (pc := 30) (tgt := 45) C (by decide) dX1_count_30 ?_
      exact K_15 0 (if_neg c_3).symm
  refine k_if_le (pc := 2) (tgt := 9) C dX1_count_2 (by decide) (fun c_1 => ?_) (fun c_1 => ?_)
  · refine k_aload_n (pc := 9) C rfl 0 rfl dX1_count_9 ?_
    refine g_X1_7 (pc := 10) (x := (f_t 7)) C q_200 0 rfl rfl dX1_count_10 ?_
    refine k_iconst (pc := 13) C iconst_1 dX1_count_13 ?_
    refine k_iadd (pc := 14) C dX1_count_14 ?_
    refine k_sipush (pc := 15) C sipush_1000 dX1_count_15 ?_
    refine k_mmin (pc := 18) C q_739 q_581 q_50 q_582 ⟨Nat.le_of_ble_eq_true rfl, Nat.le_of_ble_eq_true rfl, Nat.le_refl _, Nat.le_refl _⟩ dX1_count_18 ?_
    exact K_14 (if 1000 < ((f_t 7) + 1) then 1000 else ((f_t 7) + 1)) (if_pos c_1).symm
  · refine k_iconst (pc := 5) C iconst_0 dX1_count_5 ?_
    refine k_goto (pc := 6) (tgt := 21) C (by decide) dX1_count_6 ?_
    exact K_14 0 (if_neg c_1).symm
