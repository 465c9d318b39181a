theorem q_12 : Cond.selects RX8 yX8_readSegment yX8_readSegment ∈ lw_all := kq 12 (by decide +kernel) (by decide +kernel)
theorem q_13 : Cond.selects RX8 yX8_readSign yX8_readSign ∈ lw_all := kq 13 (by decide +kernel) (by decide +kernel)
theorem q_14 : Cond.selects RX8 yX8_readNumber yX8_readNumber ∈ lw_all := kq 14 (by decide +kernel) (by decide +kernel)
theorem q_27 : Cond.initialized RX8 ∈ lw_all := kq 27 (by decide +kernel) (by decide +kernel)
theorem q_86 : Cond.fieldLink RX8 30 "ClimateChamber$Segments" "count" "I" ∈ lw_all := kq 86 (by decide +kernel) (by decide +kernel)
theorem q_347 : Cond.fieldLink RX8 11 "ClimateChamber$Text" "codes" "[I" ∈ lw_all := kq 347 (by decide +kernel) (by decide +kernel)
theorem q_348 : Cond.fieldLink RX8 22 "ClimateChamber$Text" "length" "I" ∈ lw_all := kq 348 (by decide +kernel) (by decide +kernel)
theorem q_350 : Cond.fieldLink RX8 18 "ClimateChamber$Text" "segments" "LClimateChamber$Segments;" ∈ lw_all := kq 350 (by decide +kernel) (by decide +kernel)
theorem q_351 : Cond.fieldLink RX8 33 "ClimateChamber$Text" "place" "I" ∈ lw_all := kq 351 (by decide +kernel) (by decide +kernel)
theorem q_352 : Cond.fieldLink RX8 50 "ClimateChamber$Text" "number" "I" ∈ lw_all := kq 352 (by decide +kernel) (by decide +kernel)
theorem q_353 : Cond.fieldLink RX8 36 "ClimateChamber$Text" "firstOutOfRange" "I" ∈ lw_all := kq 353 (by decide +kernel) (by decide +kernel)
theorem q_748 : Cond.static yX10_isSegment ∈ lw_all := kq 748 (by decide +kernel) (by decide +kernel)
theorem q_749 : Cond.code yX10_isSegment cX10_isSegment 4 (some .boolean) ∈ lw_all := kq 749 (by decide +kernel) (by decide +kernel)
theorem q_755 : Cond.instanceMethod yX6_add ∈ lw_all := kq 755 (by decide +kernel) (by decide +kernel)
theorem q_756 : Cond.selects RX6 yX6_add yX6_add ∈ lw_all := kq 756 (by decide +kernel) (by decide +kernel)
theorem q_757 : Cond.code yX6_add cX6_add 6 none ∈ lw_all := kq 757 (by decide +kernel) (by decide +kernel)
theorem q_888 : Cond.methodLink RX8 39 yX8_readSegment ∈ lw_all := kq 888 (by decide +kernel) (by decide +kernel)
theorem q_890 : Cond.instanceMethod yX8_readSegment ∈ lw_all := kq 890 (by decide +kernel) (by decide +kernel)
theorem q_891 : Cond.code yX8_readSegment cX8_readSegment 6 (some .boolean) ∈ lw_all := kq 891 (by decide +kernel) (by decide +kernel)
theorem q_892 : Cond.methodLink RX8 43 yX8_readSign ∈ lw_all := kq 892 (by decide +kernel) (by decide +kernel)
theorem q_894 : Cond.instanceMethod yX8_readSign ∈ lw_all := kq 894 (by decide +kernel) (by decide +kernel)
theorem q_895 : Cond.code yX8_readSign cX8_readSign 2 (some .boolean) ∈ lw_all := kq 895 (by decide +kernel) (by decide +kernel)
theorem q_896 : Cond.methodLinkNest RX8 61 yX10_at RX10 ∈ lw_nest := kqn 896 (by decide +kernel) (by decide +kernel)
theorem q_897 : Cond.methodLink RX8 47 yX8_readNumber ∈ lw_all := kq 897 (by decide +kernel) (by decide +kernel)
theorem q_899 : Cond.instanceMethod yX8_readNumber ∈ lw_all := kq 899 (by decide +kernel) (by decide +kernel)
theorem q_900 : Cond.code yX8_readNumber cX8_readNumber 2 (some .boolean) ∈ lw_all := kq 900 (by decide +kernel) (by decide +kernel)
theorem q_901 : Cond.methodLinkNest RX8 65 yX10_isWithin RX10 ∈ lw_nest := kqn 901 (by decide +kernel) (by decide +kernel)
theorem q_902 : Cond.methodLinkNest RX8 53 yX10_isSegment RX10 ∈ lw_nest := kqn 902 (by decide +kernel) (by decide +kernel)
theorem q_903 : Cond.methodLink RX8 57 yX6_add ∈ lw_all := kq 903 (by decide +kernel) (by decide +kernel)
theorem bipush_104 : (Int8.ofInt 104).toInt32 = 104 := by decide
theorem bipush_114 : (Int8.ofInt 114).toInt32 = 114 := by decide
theorem bipush_115 : (Int8.ofInt 115).toInt32 = 115 := by decide
theorem bipush_116 : (Int8.ofInt 116).toInt32 = 116 := by decide
theorem bipush_45 : (Int8.ofInt 45).toInt32 = 45 := by decide
theorem bipush_48 : (Int8.ofInt 48).toInt32 = 48 := by decide
theorem bipush_57 : (Int8.ofInt 57).toInt32 = 57 := by decide
theorem bipush_59 : (Int8.ofInt 59).toInt32 = 59 := by decide
theorem cws_X10_isSegment : kCWs yX10_isSegment cX10_isSegment 4 (some .boolean) 4 := ⟨⟨q_749, q_16, by decide +kernel⟩, q_748⟩
theorem cwv_X6_add : kCWv yX6_add cX6_add 6 none 4 := ⟨⟨q_757, q_19, by decide +kernel⟩, q_755, q_756⟩
theorem cwv_X8_readNumber : kCWv yX8_readNumber cX8_readNumber 2 (some .boolean) 0 := ⟨⟨q_900, q_27, by decide +kernel⟩, q_899, q_14⟩
theorem cwv_X8_readSegment : kCWv yX8_readSegment cX8_readSegment 6 (some .boolean) 0 := ⟨⟨q_891, q_27, by decide +kernel⟩, q_890, q_12⟩
theorem cwv_X8_readSign : kCWv yX8_readSign cX8_readSign 2 (some .boolean) 1 := ⟨⟨q_895, q_27, by decide +kernel⟩, q_894, q_13⟩
theorem dX6_remove_0 : decode cX6_remove 0 = .ok (.iload_n 1, 1) := by decide +kernel
theorem dX6_remove_1 : decode cX6_remove 1 = .ok (.iconst 4, 1) := by decide +kernel
theorem dX6_remove_2 : decode cX6_remove 2 = .ok (.imul, 1) := by decide +kernel
theorem dX6_remove_3 : decode cX6_remove 3 = .ok (.istore_n 2, 1) := by decide +kernel
theorem dX6_remove_4 : decode cX6_remove 4 = .ok (.iload_n 2, 1) := by decide +kernel
theorem dX6_remove_5 : decode cX6_remove 5 = .ok (.aload_n 0, 1) := by decide +kernel
theorem dX6_remove_6 : decode cX6_remove 6 = .ok (.getfield 15, 3) := by decide +kernel
theorem dX6_remove_9 : decode cX6_remove 9 = .ok (.iconst 1, 1) := by decide +kernel
theorem dX6_remove_10 : decode cX6_remove 10 = .ok (.isub, 1) := by decide +kernel
theorem dX6_remove_11 : decode cX6_remove 11 = .ok (.iconst 4, 1) := by decide +kernel
theorem dX6_remove_12 : decode cX6_remove 12 = .ok (.imul, 1) := by decide +kernel
theorem dX6_remove_13 : decode cX6_remove 13 = .ok (.if_icmp .ge 27, 3) := by decide +kernel
theorem dX6_remove_16 : decode cX6_remove 16 = .ok (.aload_n 0, 1) := by decide +kernel
theorem dX6_remove_17 : decode cX6_remove 17 = .ok (.getfield 11, 3) := by decide +kernel
theorem dX6_remove_20 : decode cX6_remove 20 = .ok (.iload_n 2, 1) := by decide +kernel
theorem dX6_remove_21 : decode cX6_remove 21 = .ok (.aload_n 0, 1) := by decide +kernel
theorem dX6_remove_22 : decode cX6_remove 22 = .ok (.getfield 11, 3) := by decide +kernel
theorem dX6_remove_25 : decode cX6_remove 25 = .ok (.iload_n 2, 1) := by decide +kernel
theorem dX6_remove_26 : decode cX6_remove 26 = .ok (.iconst 4, 1) := by decide +kernel
theorem dX6_remove_27 : decode cX6_remove 27 = .ok (.iadd, 1) := by decide +kernel
theorem dX6_remove_28 : decode cX6_remove 28 = .ok (.invokestatic 19, 3) := by decide +kernel
theorem dX6_remove_31 : decode cX6_remove 31 = .ok (.invokestatic 27, 3) := by decide +kernel
theorem dX6_remove_34 : decode cX6_remove 34 = .ok (.iinc 2 1, 3) := by decide +kernel
theorem dX6_remove_37 : decode cX6_remove 37 = .ok (.goto (-33), 3) := by decide +kernel
theorem dX6_remove_40 : decode cX6_remove 40 = .ok (.aload_n 0, 1) := by decide +kernel
theorem dX6_remove_41 : decode cX6_remove 41 = .ok (.dup, 1) := by decide +kernel
theorem dX6_remove_42 : decode cX6_remove 42 = .ok (.getfield 15, 3) := by decide +kernel
theorem dX6_remove_45 : decode cX6_remove 45 = .ok (.iconst 1, 1) := by decide +kernel
theorem dX6_remove_46 : decode cX6_remove 46 = .ok (.isub, 1) := by decide +kernel
theorem dX6_remove_47 : decode cX6_remove 47 = .ok (.putfield 15, 3) := by decide +kernel
theorem dX6_remove_50 : decode cX6_remove 50 = .ok (.return_, 1) := by decide +kernel
def b_X6_remove_1 (z_4 : Int32 × (Nat → Int32)) (u_6 : (Nat → Int32)) : (Int32 × (Nat → Int32)) ⊕ (Int32 × (Nat → Int32)) :=
  (Sum.inl ((z_4.1 + 1), u_6))
def b_X6_remove_L4 (f_t : Nat → Int32) (z_4 : Int32 × (Nat → Int32)) : (Int32 × (Nat → Int32)) ⊕ (Int32 × (Nat → Int32)) :=
  (if (((f_t 1) - 1) * 4) ≤ z_4.1 then (Sum.inr (z_4.1, z_4.2)) else (b_X6_remove_1 z_4 (s_X10_put 48 z_4.2 z_4.1 (s_X10_at 48 z_4.2 (z_4.1 + 4)))))
def s_X6_remove_2 (f_t : Nat → Int32) (m_7 : Int32 × (Nat → Int32)) : (Nat → Int32) × (Nat → Int32) :=
  ((upd f_t 1 ((f_t 1) - 1)), m_7.2)
def s_X6_remove (f_t : Nat → Int32) (f_t_cells : Nat → Int32) (p0 : Int32) : (Nat → Int32) × (Nat → Int32) :=
  (s_X6_remove_2 f_t (kLoop default (b_X6_remove_L4 f_t) ((Int32.toInt (((f_t 1) - 1) * 4) - Int32.toInt (p0 * 4)).toNat + 1) ((p0 * 4), f_t_cells)))
set_option maxRecDepth 100000 in
set_option maxHeartbeats 4000000 in
theorem c_X6_remove (l : Launch) (D : va_G) (cI cJ cO : ClassId) (h_t : Nat) (h_t_cells : Nat) (f_t : Nat → Int32) (f_t_cells : Nat → Int32) (p0 : Int32) : kV l yX6_remove cX6_remove 3 1 22 D (kT cI cJ cO) [.ref h_t, .int p0] [(h_t, sgE f_t h_t_cells), (h_t_cells, iA cI 48 f_t_cells)] [(h_t, sgE (s_X6_remove f_t f_t_cells p0).1 h_t_cells), (h_t_cells, iA cI 48 (s_X6_remove f_t f_t_cells p0).2)] := by
  refine kV_of (own := RX6) (lv := [(0, .ref h_t), (1, .int p0)]) rfl rfl (by decide) (Nat.le_of_ble_eq_true rfl) ?_
  intro p e s m args below meth c Q A C hret
  refine k_iload_n (pc := 0) C rfl 1 rfl dX6_remove_0 ?_
  refine k_iconst (pc := 1) C iconst_4 dX6_remove_1 ?_
  refine k_imul (pc := 2) C dX6_remove_2 ?_
  refine k_istore_n (pc := 3) (lv2 := [(2, .int (p0 * 4)), (0, .ref h_t), (1, .int p0)]) C rfl (by decide) rfl dX6_remove_3 ?_
  have K_8 : ∀ (m_7 : Int32 × (Nat → Int32)), m_7 = (kLoop default (b_X6_remove_L4 f_t) ((Int32.toInt (((f_t 1) - 1) * 4) - Int32.toInt (p0 * 4)).toNat + 1) ((p0 * 4), f_t_cells)) → KJ p l e (kR 1 22) s m args below meth c 0 0 Q D A 3 [(h_t, sgE f_t h_t_cells), (h_t_cells, iA cI 48 m_7.2)] [(0, .ref h_t)] [] 40 := by
    intro m_7 em_7
    refine k_aload_n (pc := 40) C rfl 0 rfl dX6_remove_40 ?_
    refine k_dup (pc := 41) C rfl dX6_remove_41 ?_
    refine g_X6_1 (pc := 42) (x := (f_t 1)) C q_85 0 rfl rfl dX6_remove_42 ?_
    refine k_iconst (pc := 45) C iconst_1 dX6_remove_45 ?_
    refine k_isub (pc := 46) C dX6_remove_46 ?_
    refine p_X6_1 (pc := 47) (ws2 := [(h_t, sgE (upd f_t 1 ((f_t 1) - 1)) h_t_cells), (h_t_cells, iA cI 48 m_7.2)]) C q_85 0 rfl rfl dX6_remove_47 ?_
    have hs : (s_X6_remove f_t f_t_cells p0) = ((upd f_t 1 ((f_t 1) - 1)), m_7.2) := (k_st (g := s_X6_remove_2 f_t) em_7 rfl rfl)
    exact k_finV (pc := 50) hret (by rw [hs]) dX6_remove_50
  have L_9 : ∀ (n : Nat) (z_4 : Int32 × (Nat → Int32)), (Int32.toInt (((f_t 1) - 1) * 4) - Int32.toInt z_4.1).toNat < n → kLoop default (b_X6_remove_L4 f_t) n z_4 = (kLoop default (b_X6_remove_L4 f_t) ((Int32.toInt (((f_t 1) - 1) * 4) - Int32.toInt (p0 * 4)).toNat + 1) ((p0 * 4), f_t_cells)) → KJ p l e (kR 1 22) s m args below meth c 0 0 Q D A 3 [(h_t, sgE f_t h_t_cells), (h_t_cells, iA cI 48 z_4.2)] [(2, .int z_4.1), (0, .ref h_t)] [] 4 := by
    intro n
    induction n with
    | zero => intro z_4 hmu; exact absurd hmu (Nat.not_lt_zero _)
    | succ n ih =>
      intro z_4 hmu hR
      refine k_iload_n (pc := 4) C rfl 0 rfl dX6_remove_4 ?_
      refine k_aload_n (pc := 5) C rfl 1 rfl dX6_remove_5 ?_
      refine g_X6_1 (pc := 6) (x := (f_t 1)) C q_85 0 rfl rfl dX6_remove_6 ?_
      refine k_iconst (pc := 9) C iconst_1 dX6_remove_9 ?_
      refine k_isub (pc := 10) C dX6_remove_10 ?_
      refine k_iconst (pc := 11) C iconst_4 dX6_remove_11 ?_
      refine k_imul (pc := 12) C dX6_remove_12 ?_
      refine k_icmp_ge (pc := 13) (tgt := 40) C dX6_remove_13 (by decide) (fun c_5 => ?_) (fun c_5 => ?_)
      · refine k_lpick (lv2 := [(0, .ref h_t)]) [1] rfl ?_
        exact K_8 (z_4.1, z_4.2) (k_lout hR (if_pos c_5))
      · refine k_aload_n (pc := 16) C rfl 1 rfl dX6_remove_16 ?_
        refine g_X6_0 (pc := 17) C q_84 0 rfl dX6_remove_17 ?_
        refine k_iload_n (pc := 20) C rfl 0 rfl dX6_remove_20 ?_
        refine k_aload_n (pc := 21) C rfl 1 rfl dX6_remove_21 ?_
        refine g_X6_0 (pc := 22) C q_84 0 rfl dX6_remove_22 ?_
        refine k_iload_n (pc := 25) C rfl 0 rfl dX6_remove_25 ?_
        refine k_iconst (pc := 26) C iconst_4 dX6_remove_26 ?_
        refine k_iadd (pc := 27) C dX6_remove_27 ?_
        refine k_callNi (pc := 28) (As := [.ref h_t_cells, .int (z_4.1 + 4)]) (rest := [.int z_4.1, .ref h_t_cells]) (r := (s_X10_at 48 z_4.2 (z_4.1 + 4))) (wc := [(h_t_cells, iA cI 48 z_4.2)]) (wc2 := [(h_t_cells, iA cI 48 z_4.2)]) (ws2 := [(h_t, sgE f_t h_t_cells), (h_t_cells, iA cI 48 z_4.2)]) C (c_X10_at l D cI cJ cO h_t_cells 48 z_4.2 (z_4.1 + 4) (by decide)) cws_X10_at q_557 [1] rfl rfl (by decide) rfl rfl (Nat.le_of_ble_eq_true rfl) ⟨Nat.le_of_ble_eq_true rfl, Nat.le_of_ble_eq_true rfl⟩ rfl ⟨Nat.le_refl _, Nat.le_refl _⟩ dX6_remove_28 ?_
        obtain ⟨u_6, eu_6⟩ : ∃ z : (Nat → Int32), z = (s_X10_put 48 z_4.2 z_4.1 (s_X10_at 48 z_4.2 (z_4.1 + 4))) := ⟨_, rfl⟩
        refine k_callNv (pc := 31) (As := [.ref h_t_cells, .int z_4.1, .int (s_X10_at 48 z_4.2 (z_4.1 + 4))]) (rest := []) (wc := [(h_t_cells, iA cI 48 z_4.2)]) (wc2 := [(h_t_cells, iA cI 48 u_6)]) (ws2 := [(h_t, sgE f_t h_t_cells), (h_t_cells, iA cI 48 u_6)]) C (by rw [eu_6]; exact c_X10_put l D cI cJ cO h_t_cells 48 z_4.2 z_4.1 (s_X10_at 48 z_4.2 (z_4.1 + 4)) (by decide)) cws_X10_put q_759 [1] rfl rfl (by decide) rfl rfl (Nat.le_of_ble_eq_true rfl) ⟨Nat.le_of_ble_eq_true rfl, Nat.le_of_ble_eq_true rfl⟩ rfl ⟨Nat.le_refl _, Nat.le_refl _⟩ dX6_remove_31 ?_
        refine k_iinc (pc := 34) (v := (z_4.1 + 1)) (lv2 := [(2, .int (z_4.1 + 1)), (0, .ref h_t)]) C 0 rfl rfl (by decide) rfl dX6_remove_34 ?_
        refine k_goto (pc := 37) (tgt := 4) C (by decide) dX6_remove_37 ?_
        exact ih ((z_4.1 + 1), u_6) (k_dec (k_nle c_5) hmu) (k_lin hR (k_st (g := b_X6_remove_1 z_4) eu_6 (if_neg c_5) rfl))
  refine k_lpick (lv2 := [(2, .int (p0 * 4)), (0, .ref h_t)]) [0, 1] rfl ?_
  exact L_9 ((Int32.toInt (((f_t 1) - 1) * 4) - Int32.toInt (p0 * 4)).toNat + 1) ((p0 * 4), f_t_cells) (Nat.lt_succ_self _) rfl

theorem dX8_readSign_0 : decode cX8_readSign 0 = .ok (.aload_n 0, 1) := by decide +kernel
theorem dX8_readSign_1 : decode cX8_readSign 1 = .ok (.getfield 33, 3) := by decide +kernel
theorem dX8_readSign_4 : decode cX8_readSign 4 = .ok (.aload_n 0, 1) := by decide +kernel
theorem dX8_readSign_5 : decode cX8_readSign 5 = .ok (.getfield 22, 3) := by decide +kernel
theorem dX8_readSign_8 : decode cX8_readSign 8 = .ok (.if_icmp .ge 18, 3) := by decide +kernel
theorem dX8_readSign_11 : decode cX8_readSign 11 = .ok (.aload_n 0, 1) := by decide +kernel
theorem dX8_readSign_12 : decode cX8_readSign 12 = .ok (.getfield 11, 3) := by decide +kernel
theorem dX8_readSign_15 : decode cX8_readSign 15 = .ok (.aload_n 0, 1) := by decide +kernel
theorem dX8_readSign_16 : decode cX8_readSign 16 = .ok (.getfield 33, 3) := by decide +kernel
theorem dX8_readSign_19 : decode cX8_readSign 19 = .ok (.invokestatic 61, 3) := by decide +kernel
theorem dX8_readSign_22 : decode cX8_readSign 22 = .ok (.iload_n 1, 1) := by decide +kernel
theorem dX8_readSign_23 : decode cX8_readSign 23 = .ok (.if_icmp .eq 5, 3) := by decide +kernel
theorem dX8_readSign_26 : decode cX8_readSign 26 = .ok (.iconst 0, 1) := by decide +kernel
theorem dX8_readSign_27 : decode cX8_readSign 27 = .ok (.ireturn, 1) := by decide +kernel
theorem dX8_readSign_28 : decode cX8_readSign 28 = .ok (.aload_n 0, 1) := by decide +kernel
theorem dX8_readSign_29 : decode cX8_readSign 29 = .ok (.dup, 1) := by decide +kernel
theorem dX8_readSign_30 : decode cX8_readSign 30 = .ok (.getfield 33, 3) := by decide +kernel
theorem dX8_readSign_33 : decode cX8_readSign 33 = .ok (.iconst 1, 1) := by decide +kernel
theorem dX8_readSign_34 : decode cX8_readSign 34 = .ok (.iadd, 1) := by decide +kernel
theorem dX8_readSign_35 : decode cX8_readSign 35 = .ok (.putfield 33, 3) := by decide +kernel
theorem dX8_readSign_38 : decode cX8_readSign 38 = .ok (.iconst 1, 1) := by decide +kernel
theorem dX8_readSign_39 : decode cX8_readSign 39 = .ok (.ireturn, 1) := by decide +kernel
def s_X8_readSign (f_t : Nat → Int32) (f_t_codes : Nat → Int32) (p0 : Int32) : Int32 × (Nat → Int32) :=
  (if (f_t 1) ≤ (f_t 3) then (0, f_t) else (if (s_X10_at 90 f_t_codes (f_t 3)) = p0 then (1, (upd f_t 3 ((f_t 3) + 1))) else (0, f_t)))
set_option maxRecDepth 100000 in
set_option maxHeartbeats 4000000 in
theorem c_X8_readSign (l : Launch) (D : va_G) (cI cJ cO : ClassId) (h_t : Nat) (h_t_codes : Nat) (h_t_segments : Nat) (f_t : Nat → Int32) (f_t_codes : Nat → Int32) (p0 : Int32) : kI l yX8_readSign cX8_readSign 2 .boolean 1 21 D (kT cI cJ cO) [.ref h_t, .int p0] [(h_t, txE f_t h_t_codes h_t_segments), (h_t_codes, iA cI 90 f_t_codes)] ((s_X8_readSign f_t f_t_codes p0).1) [(h_t, txE (s_X8_readSign f_t f_t_codes p0).2 h_t_codes h_t_segments), (h_t_codes, iA cI 90 f_t_codes)] := by
  refine kI_of (own := RX8) (lv := [(0, .ref h_t), (1, .int p0)]) rfl rfl (by decide) (Nat.le_of_ble_eq_true rfl) ?_
  intro p e s m args below meth c Q A C hret
  refine k_aload_n (pc := 0) C rfl 0 rfl dX8_readSign_0 ?_
  refine g_X8_3 (pc := 1) (x := (f_t 3)) C q_351 0 rfl rfl dX8_readSign_1 ?_
  refine k_aload_n (pc := 4) C rfl 0 rfl dX8_readSign_4 ?_
  refine g_X8_1 (pc := 5) (x := (f_t 1)) C q_348 0 rfl rfl dX8_readSign_5 ?_
  refine k_icmp_ge (pc := 8) (tgt := 26) C dX8_readSign_8 (by decide) (fun c_1 => ?_) (fun c_1 => ?_)
  · refine k_iconst (pc := 26) C iconst_0 dX8_readSign_26 ?_
    have hs : (s_X8_readSign f_t f_t_codes p0) = (0, f_t) := (if_pos c_1)
    exact k_finI (pc := 27) hret rfl (by rw [hs]) (by rw [hs]) dX8_readSign_27
  · refine k_aload_n (pc := 11) C rfl 0 rfl dX8_readSign_11 ?_
    refine g_X8_0 (pc := 12) C q_347 0 rfl dX8_readSign_12 ?_
    refine k_aload_n (pc := 15) C rfl 0 rfl dX8_readSign_15 ?_
    refine g_X8_3 (pc := 16) (x := (f_t 3)) C q_351 0 rfl rfl dX8_readSign_16 ?_
    refine k_callNi (pc := 19) (As := [.ref h_t_codes, .int (f_t 3)]) (rest := []) (r := (s_X10_at 90 f_t_codes (f_t 3))) (wc := [(h_t_codes, iA cI 90 f_t_codes)]) (wc2 := [(h_t_codes, iA cI 90 f_t_codes)]) (ws2 := [(h_t, txE f_t h_t_codes h_t_segments), (h_t_codes, iA cI 90 f_t_codes)]) C (c_X10_at l D cI cJ cO h_t_codes 90 f_t_codes (f_t 3) (by decide)) cws_X10_at q_896 [1] rfl rfl (by decide) rfl rfl (Nat.le_of_ble_eq_true rfl) ⟨Nat.le_of_ble_eq_true rfl, Nat.le_of_ble_eq_true rfl⟩ rfl ⟨Nat.le_refl _, Nat.le_refl _⟩ dX8_readSign_19 ?_
    refine k_iload_n (pc := 22) C rfl 1 rfl dX8_readSign_22 ?_
    refine k_icmp_eq (pc := 23) (tgt := 28) C dX8_readSign_23 (by decide) (fun c_2 => ?_) (fun c_2 => ?_)
    · refine k_aload_n (pc := 28) C rfl 0 rfl dX8_readSign_28 ?_
      refine k_dup (pc := 29) C rfl dX8_readSign_29 ?_
      refine g_X8_3 (pc := 30) (x := (f_t 3)) C q_351 0 rfl rfl dX8_readSign_30 ?_
      refine k_iconst (pc := 33) C iconst_1 dX8_readSign_33 ?_
      refine k_iadd (pc := 34) C dX8_readSign_34 ?_
      refine p_X8_3 (pc := 35) (ws2 := [(h_t, txE (upd f_t 3 ((f_t 3) + 1)) h_t_codes h_t_segments), (h_t_codes, iA cI 90 f_t_codes)]) C q_351 0 rfl rfl dX8_readSign_35 ?_
      refine k_iconst (pc := 38) C iconst_1 dX8_readSign_38 ?_
      have hs : (s_X8_readSign f_t f_t_codes p0) = (1, (upd f_t 3 ((f_t 3) + 1))) := ((if_neg c_1).trans (if_pos c_2))
      exact k_finI (pc := 39) hret rfl (by rw [hs]) (by rw [hs]) dX8_readSign_39
    · refine k_iconst (pc := 26) C iconst_0 dX8_readSign_26 ?_
      have hs : (s_X8_readSign f_t f_t_codes p0) = (0, f_t) := ((if_neg c_1).trans (if_neg c_2))
      exact k_finI (pc := 27) hret rfl (by rw [hs]) (by rw [hs]) dX8_readSign_27
theorem b_X8_readSign (f_t : Nat → Int32) (f_t_codes : Nat → Int32) (p0 : Int32) : kb (s_X8_readSign f_t f_t_codes p0).1 := by
  unfold s_X8_readSign
  repeat' first | with_reducible exact kb0 | with_reducible exact kb1 | with_reducible refine k_bif ?_ ?_ | with_reducible refine k_bif0 ?_ ?_

theorem dX8_readNumber_0 : decode cX8_readNumber 0 = .ok (.aload_n 0, 1) := by decide +kernel
theorem dX8_readNumber_1 : decode cX8_readNumber 1 = .ok (.iconst 0, 1) := by decide +kernel
theorem dX8_readNumber_2 : decode cX8_readNumber 2 = .ok (.putfield 50, 3) := by decide +kernel
theorem dX8_readNumber_5 : decode cX8_readNumber 5 = .ok (.iconst 0, 1) := by decide +kernel
theorem dX8_readNumber_6 : decode cX8_readNumber 6 = .ok (.istore_n 1, 1) := by decide +kernel
theorem dX8_readNumber_7 : decode cX8_readNumber 7 = .ok (.iload_n 1, 1) := by decide +kernel
theorem dX8_readNumber_8 : decode cX8_readNumber 8 = .ok (.iconst 4, 1) := by decide +kernel
theorem dX8_readNumber_9 : decode cX8_readNumber 9 = .ok (.if_icmp .ge 77, 3) := by decide +kernel
theorem dX8_readNumber_12 : decode cX8_readNumber 12 = .ok (.aload_n 0, 1) := by decide +kernel
theorem dX8_readNumber_13 : decode cX8_readNumber 13 = .ok (.getfield 33, 3) := by decide +kernel
theorem dX8_readNumber_16 : decode cX8_readNumber 16 = .ok (.aload_n 0, 1) := by decide +kernel
theorem dX8_readNumber_17 : decode cX8_readNumber 17 = .ok (.getfield 22, 3) := by decide +kernel
theorem dX8_readNumber_20 : decode cX8_readNumber 20 = .ok (.if_icmp .ge 66, 3) := by decide +kernel
theorem dX8_readNumber_23 : decode cX8_readNumber 23 = .ok (.aload_n 0, 1) := by decide +kernel
theorem dX8_readNumber_24 : decode cX8_readNumber 24 = .ok (.getfield 11, 3) := by decide +kernel
theorem dX8_readNumber_27 : decode cX8_readNumber 27 = .ok (.aload_n 0, 1) := by decide +kernel
theorem dX8_readNumber_28 : decode cX8_readNumber 28 = .ok (.getfield 33, 3) := by decide +kernel
theorem dX8_readNumber_31 : decode cX8_readNumber 31 = .ok (.invokestatic 61, 3) := by decide +kernel
theorem dX8_readNumber_34 : decode cX8_readNumber 34 = .ok (.bipush 48, 2) := by decide +kernel
theorem dX8_readNumber_36 : decode cX8_readNumber 36 = .ok (.bipush 57, 2) := by decide +kernel
theorem dX8_readNumber_38 : decode cX8_readNumber 38 = .ok (.invokestatic 65, 3) := by decide +kernel
theorem dX8_readNumber_41 : decode cX8_readNumber 41 = .ok (.ifCond .eq 45, 3) := by decide +kernel
theorem dX8_readNumber_44 : decode cX8_readNumber 44 = .ok (.aload_n 0, 1) := by decide +kernel
theorem dX8_readNumber_45 : decode cX8_readNumber 45 = .ok (.aload_n 0, 1) := by decide +kernel
theorem dX8_readNumber_46 : decode cX8_readNumber 46 = .ok (.getfield 50, 3) := by decide +kernel
theorem dX8_readNumber_49 : decode cX8_readNumber 49 = .ok (.bipush 10, 2) := by decide +kernel
theorem dX8_readNumber_51 : decode cX8_readNumber 51 = .ok (.imul, 1) := by decide +kernel
theorem dX8_readNumber_52 : decode cX8_readNumber 52 = .ok (.aload_n 0, 1) := by decide +kernel
theorem dX8_readNumber_53 : decode cX8_readNumber 53 = .ok (.getfield 11, 3) := by decide +kernel
theorem dX8_readNumber_56 : decode cX8_readNumber 56 = .ok (.aload_n 0, 1) := by decide +kernel
theorem dX8_readNumber_57 : decode cX8_readNumber 57 = .ok (.getfield 33, 3) := by decide +kernel
theorem dX8_readNumber_60 : decode cX8_readNumber 60 = .ok (.invokestatic 61, 3) := by decide +kernel
theorem dX8_readNumber_63 : decode cX8_readNumber 63 = .ok (.iadd, 1) := by decide +kernel
theorem dX8_readNumber_64 : decode cX8_readNumber 64 = .ok (.bipush 48, 2) := by decide +kernel
theorem dX8_readNumber_66 : decode cX8_readNumber 66 = .ok (.isub, 1) := by decide +kernel
theorem dX8_readNumber_67 : decode cX8_readNumber 67 = .ok (.putfield 50, 3) := by decide +kernel
theorem dX8_readNumber_70 : decode cX8_readNumber 70 = .ok (.aload_n 0, 1) := by decide +kernel
theorem dX8_readNumber_71 : decode cX8_readNumber 71 = .ok (.dup, 1) := by decide +kernel
theorem dX8_readNumber_72 : decode cX8_readNumber 72 = .ok (.getfield 33, 3) := by decide +kernel
theorem dX8_readNumber_75 : decode cX8_readNumber 75 = .ok (.iconst 1, 1) := by decide +kernel
theorem dX8_readNumber_76 : decode cX8_readNumber 76 = .ok (.iadd, 1) := by decide +kernel
theorem dX8_readNumber_77 : decode cX8_readNumber 77 = .ok (.putfield 33, 3) := by decide +kernel
theorem dX8_readNumber_80 : decode cX8_readNumber 80 = .ok (.iinc 1 1, 3) := by decide +kernel
theorem dX8_readNumber_83 : decode cX8_readNumber 83 = .ok (.goto (-76), 3) := by decide +kernel
theorem dX8_readNumber_86 : decode cX8_readNumber 86 = .ok (.iload_n 1, 1) := by decide +kernel
theorem dX8_readNumber_87 : decode cX8_readNumber 87 = .ok (.ifCond .le 7, 3) := by decide +kernel
theorem dX8_readNumber_90 : decode cX8_readNumber 90 = .ok (.iconst 1, 1) := by decide +kernel
theorem dX8_readNumber_91 : decode cX8_readNumber 91 = .ok (.goto 4, 3) := by decide +kernel
theorem dX8_readNumber_94 : decode cX8_readNumber 94 = .ok (.iconst 0, 1) := by decide +kernel
theorem dX8_readNumber_95 : decode cX8_readNumber 95 = .ok (.ireturn, 1) := by decide +kernel
def b_X8_readNumber_L7 (f_t_codes : Nat → Int32) (z_4 : Int32 × (Nat → Int32)) : (Int32 × (Nat → Int32)) ⊕ (Int32 × (Nat → Int32)) :=
  (if 4 ≤ z_4.1 then (Sum.inr (z_4.1, z_4.2)) else (if (z_4.2 1) ≤ (z_4.2 3) then (Sum.inr (z_4.1, z_4.2)) else (if (s_X10_isWithin (s_X10_at 90 f_t_codes (z_4.2 3)) 48 57) = 0 then (Sum.inr (z_4.1, z_4.2)) else (Sum.inl ((z_4.1 + 1), (upd (upd z_4.2 4 ((((z_4.2 4) * 10) + (s_X10_at 90 f_t_codes (z_4.2 3))) - 48)) 3 ((z_4.2 3) + 1)))))))
def s_X8_readNumber_1 (m_8 : Int32 × (Nat → Int32)) : Int32 × (Nat → Int32) :=
  (if m_8.1 ≤ 0 then (0, m_8.2) else (1, m_8.2))
def s_X8_readNumber (f_t : Nat → Int32) (f_t_codes : Nat → Int32) : Int32 × (Nat → Int32) :=
  (s_X8_readNumber_1 (kLoop default (b_X8_readNumber_L7 f_t_codes) ((Int32.toInt 4 - Int32.toInt 0).toNat + 1) (0, (upd f_t 4 0))))
set_option maxRecDepth 100000 in
set_option maxHeartbeats 4000000 in
theorem c_X8_readNumber (l : Launch) (D : va_G) (cI cJ cO : ClassId) (h_t : Nat) (h_t_codes : Nat) (h_t_segments : Nat) (f_t : Nat → Int32) (f_t_codes : Nat → Int32) : kI l yX8_readNumber cX8_readNumber 2 .boolean 1 22 D (kT cI cJ cO) [.ref h_t] [(h_t, txE f_t h_t_codes h_t_segments), (h_t_codes, iA cI 90 f_t_codes)] ((s_X8_readNumber f_t f_t_codes).1) [(h_t, txE (s_X8_readNumber f_t f_t_codes).2 h_t_codes h_t_segments), (h_t_codes, iA cI 90 f_t_codes)] := by
  refine kI_of (own := RX8) (lv := [(0, .ref h_t)]) rfl rfl (by decide) (Nat.le_of_ble_eq_true rfl) ?_
  intro p e s m args below meth c Q A C hret
  refine k_aload_n (pc := 0) C rfl 0 rfl dX8_readNumber_0 ?_
  refine k_iconst (pc := 1) C iconst_0 dX8_readNumber_1 ?_
  refine p_X8_4 (pc := 2) (ws2 := [(h_t, txE (upd f_t 4 0) h_t_codes h_t_segments), (h_t_codes, iA cI 90 f_t_codes)]) C q_352 0 rfl rfl dX8_readNumber_2 ?_
  refine k_iconst (pc := 5) C iconst_0 dX8_readNumber_5 ?_
  refine k_istore_n (pc := 6) (lv2 := [(1, .int 0), (0, .ref h_t)]) C rfl (by decide) rfl dX8_readNumber_6 ?_
  have K_10 : ∀ (m_8 : Int32 × (Nat → Int32)), m_8 = (kLoop default (b_X8_readNumber_L7 f_t_codes) ((Int32.toInt 4 - Int32.toInt 0).toNat + 1) (0, (upd f_t 4 0))) → KJ p l e (kR 1 22) s m args below meth c 0 0 Q D A 2 [(h_t, txE m_8.2 h_t_codes h_t_segments), (h_t_codes, iA cI 90 f_t_codes)] [(1, .int m_8.1)] [] 86 := by
    intro m_8 em_8
    refine k_iload_n (pc := 86) C rfl 0 rfl dX8_readNumber_86 ?_
    refine k_if_le (pc := 87) (tgt := 94) C dX8_readNumber_87 (by decide) (fun c_9 => ?_) (fun c_9 => ?_)
    · refine k_iconst (pc := 94) C iconst_0 dX8_readNumber_94 ?_
      have hs : (s_X8_readNumber f_t f_t_codes) = (0, m_8.2) := (k_st (g := s_X8_readNumber_1) em_8 rfl (if_pos c_9))
      exact k_finI (pc := 95) hret rfl (by rw [hs]) (by rw [hs]) dX8_readNumber_95
    · refine k_iconst (pc := 90) C iconst_1 dX8_readNumber_90 ?_
      refine k_goto (pc := 91) (tgt := 95) C (by decide) dX8_readNumber_91 ?_
      have hs : (s_X8_readNumber f_t f_t_codes) = (1, m_8.2) := (k_st (g := s_X8_readNumber_1) em_8 rfl (if_neg c_9))
      exact k_finI (pc := 95) hret rfl (by rw [hs]) (by rw [hs]) dX8_readNumber_95
  have L_11 : ∀ (n : Nat) (z_4 : Int32 × (Nat → Int32)), (Int32.toInt 4 - Int32.toInt z_4.1).toNat < n → kLoop default (b_X8_readNumber_L7 f_t_codes) n z_4 = (kLoop default (b_X8_readNumber_L7 f_t_codes) ((Int32.toInt 4 - Int32.toInt 0).toNat + 1) (0, (upd f_t 4 0))) → KJ p l e (kR 1 22) s m args below meth c 0 0 Q D A 2 [(h_t, txE z_4.2 h_t_codes h_t_segments), (h_t_codes, iA cI 90 f_t_codes)] [(1, .int z_4.1), (0, .ref h_t)] [] 7 := by
    intro n
    induction n with
    | zero => intro z_4 hmu; exact absurd hmu (Nat.not_lt_zero _)
    | succ n ih =>
      intro z_4 hmu hR
      refine k_iload_n (pc := 7) C rfl 0 rfl dX8_readNumber_7 ?_
      refine k_iconst (pc := 8) C iconst_4 dX8_readNumber_8 ?_
      refine k_icmp_ge (pc := 9) (tgt := 86) C dX8_readNumber_9 (by decide) (fun c_5 => ?_) (fun c_5 => ?_)
      · refine k_lpick (lv2 := [(1, .int z_4.1)]) [0] rfl ?_
        exact K_10 (z_4.1, z_4.2) (k_lout hR (if_pos c_5))
      · refine k_aload_n (pc := 12) C rfl 1 rfl dX8_readNumber_12 ?_
        refine g_X8_3 (pc := 13) (x := (z_4.2 3)) C q_351 0 rfl rfl dX8_readNumber_13 ?_
        refine k_aload_n (pc := 16) C rfl 1 rfl dX8_readNumber_16 ?_
        refine g_X8_1 (pc := 17) (x := (z_4.2 1)) C q_348 0 rfl rfl dX8_readNumber_17 ?_
        refine k_icmp_ge (pc := 20) (tgt := 86) C dX8_readNumber_20 (by decide) (fun c_6 => ?_) (fun c_6 => ?_)
        · refine k_lpick (lv2 := [(1, .int z_4.1)]) [0] rfl ?_
          exact K_10 (z_4.1, z_4.2) (k_lout hR ((if_neg c_5).trans (if_pos c_6)))
        · refine k_aload_n (pc := 23) C rfl 1 rfl dX8_readNumber_23 ?_
          refine g_X8_0 (pc := 24) C q_347 0 rfl dX8_readNumber_24 ?_
          refine k_aload_n (pc := 27) C rfl 1 rfl dX8_readNumber_27 ?_
          refine g_X8_3 (pc := 28) (x := (z_4.2 3)) C q_351 0 rfl rfl dX8_readNumber_28 ?_
          refine k_callNi (pc := 31) (As := [.ref h_t_codes, .int (z_4.2 3)]) (rest := []) (r := (s_X10_at 90 f_t_codes (z_4.2 3))) (wc := [(h_t_codes, iA cI 90 f_t_codes)]) (wc2 := [(h_t_codes, iA cI 90 f_t_codes)]) (ws2 := [(h_t, txE z_4.2 h_t_codes h_t_segments), (h_t_codes, iA cI 90 f_t_codes)]) C (c_X10_at l D cI cJ cO h_t_codes 90 f_t_codes (z_4.2 3) (by decide)) cws_X10_at q_896 [1] rfl rfl (by decide) rfl rfl (Nat.le_of_ble_eq_true rfl) ⟨Nat.le_of_ble_eq_true rfl, Nat.le_of_ble_eq_true rfl⟩ rfl ⟨Nat.le_refl _, Nat.le_refl _⟩ dX8_readNumber_31 ?_
          refine k_bipush (pc := 34) C bipush_48 dX8_readNumber_34 ?_
          refine k_bipush (pc := 36) C bipush_57 dX8_readNumber_36 ?_
          refine k_callNi (pc := 38) (As := [.int (s_X10_at 90 f_t_codes (z_4.2 3)), .int 48, .int 57]) (rest := []) (r := (s_X10_isWithin (s_X10_at 90 f_t_codes (z_4.2 3)) 48 57)) (wc := []) (wc2 := []) (ws2 := [(h_t, txE z_4.2 h_t_codes h_t_segments), (h_t_codes, iA cI 90 f_t_codes)]) C (c_X10_isWithin l D cI cJ cO (s_X10_at 90 f_t_codes (z_4.2 3)) 48 57) cws_X10_isWithin q_901 [] rfl rfl (by decide) rfl rfl (Nat.le_of_ble_eq_true rfl) ⟨Nat.le_of_ble_eq_true rfl, Nat.le_of_ble_eq_true rfl⟩ rfl ⟨Nat.le_refl _, Nat.le_refl _⟩ dX8_readNumber_38 ?_
          refine k_if_eq (pc := 41) (tgt := 86) C dX8_readNumber_41 (by decide) (fun c_7 => ?_) (fun c_7 => ?_)
          · refine k_lpick (lv2 := [(1, .int z_4.1)]) [0] rfl ?_
            exact K_10 (z_4.1, z_4.2) (k_lout hR ((if_neg c_5).trans ((if_neg c_6).trans (if_pos c_7))))
          · refine k_aload_n (pc := 44) C rfl 1 rfl dX8_readNumber_44 ?_
            refine k_aload_n (pc := 45) C rfl 1 rfl dX8_readNumber_45 ?_
            refine g_X8_4 (pc := 46) (x := (z_4.2 4)) C q_352 0 rfl rfl dX8_readNumber_46 ?_
            refine k_bipush (pc := 49) C bipush_10 dX8_readNumber_49 ?_
            refine k_imul (pc := 51) C dX8_readNumber_51 ?_
            refine k_aload_n (pc := 52) C rfl 1 rfl dX8_readNumber_52 ?_
            refine g_X8_0 (pc := 53) C q_347 0 rfl dX8_readNumber_53 ?_
            refine k_aload_n (pc := 56) C rfl 1 rfl dX8_readNumber_56 ?_
            refine g_X8_3 (pc := 57) (x := (z_4.2 3)) C q_351 0 rfl rfl dX8_readNumber_57 ?_
            refine k_callNi (pc := 60) (As := [.ref h_t_codes, .int (z_4.2 3)]) (rest := [.int ((z_4.2 4) * 10), .ref h_t]) (r := (s_X10_at 90 f_t_codes (z_4.2 3))) (wc := [(h_t_codes, iA cI 90 f_t_codes)]) (wc2 := [(h_t_codes, iA cI 90 f_t_codes)]) (ws2 := [(h_t, txE z_4.2 h_t_codes h_t_segments), (h_t_codes, iA cI 90 f_t_codes)]) C (c_X10_at l D cI cJ cO h_t_codes 90 f_t_codes (z_4.2 3) (by decide)) cws_X10_at q_896 [1] rfl rfl (by decide) rfl rfl (Nat.le_of_ble_eq_true rfl) ⟨Nat.le_of_ble_eq_true rfl, Nat.le_of_ble_eq_true rfl⟩ rfl ⟨Nat.le_refl _, Nat.le_refl _⟩ dX8_readNumber_60 ?_
            refine k_iadd (pc := 63) C dX8_readNumber_63 ?_
            refine k_bipush (pc := 64) C bipush_48 dX8_readNumber_64 ?_
            refine k_isub (pc := 66) C dX8_readNumber_66 ?_
            refine p_X8_4 (pc := 67) (ws2 := [(h_t, txE (upd z_4.2 4 ((((z_4.2 4) * 10) + (s_X10_at 90 f_t_codes (z_4.2 3))) - 48)) h_t_codes h_t_segments), (h_t_codes, iA cI 90 f_t_codes)]) C q_352 0 rfl rfl dX8_readNumber_67 ?_
            refine k_aload_n (pc := 70) C rfl 1 rfl dX8_readNumber_70 ?_
            refine k_dup (pc := 71) C rfl dX8_readNumber_71 ?_
            refine g_X8_3 (pc := 72) (x := (z_4.2 3)) C q_351 0 rfl (upn (by decide) rfl) dX8_readNumber_72 ?_
            refine k_iconst (pc := 75) C iconst_1 dX8_readNumber_75 ?_
            refine k_iadd (pc := 76) C dX8_readNumber_76 ?_
            refine p_X8_3 (pc := 77) (ws2 := [(h_t, txE (upd (upd z_4.2 4 ((((z_4.2 4) * 10) + (s_X10_at 90 f_t_codes (z_4.2 3))) - 48)) 3 ((z_4.2 3) + 1)) h_t_codes h_t_segments), (h_t_codes, iA cI 90 f_t_codes)]) C q_351 0 rfl rfl dX8_readNumber_77 ?_
            refine k_iinc (pc := 80) (v := (z_4.1 + 1)) (lv2 := [(1, .int (z_4.1 + 1)), (0, .ref h_t)]) C 0 rfl rfl (by decide) rfl dX8_readNumber_80 ?_
            refine k_goto (pc := 83) (tgt := 7) C (by decide) dX8_readNumber_83 ?_
            exact ih ((z_4.1 + 1), (upd (upd z_4.2 4 ((((z_4.2 4) * 10) + (s_X10_at 90 f_t_codes (z_4.2 3))) - 48)) 3 ((z_4.2 3) + 1))) (k_dec (k_nle c_5) hmu) (k_lin hR ((if_neg c_5).trans ((if_neg c_6).trans (if_neg c_7))))
  exact L_11 ((Int32.toInt 4 - Int32.toInt 0).toNat + 1) (0, (upd f_t 4 0)) (Nat.lt_succ_self _) rfl
theorem b_X8_readNumber (f_t : Nat → Int32) (f_t_codes : Nat → Int32) : kb (s_X8_readNumber f_t f_t_codes).1 := by
  unfold s_X8_readNumber
  repeat' first | with_reducible exact kb0 | with_reducible exact kb1 | with_reducible exact b_X10_isWithin .. | with_reducible refine k_bif ?_ ?_ | with_reducible refine k_bif0 ?_ ?_ | unfold b_X8_readNumber_L7 | unfold s_X8_readNumber_1

theorem dX8_readSegment_0 : decode cX8_readSegment 0 = .ok (.aload_n 0, 1) := by decide +kernel
theorem dX8_readSegment_1 : decode cX8_readSegment 1 = .ok (.getfield 33, 3) := by decide +kernel
theorem dX8_readSegment_4 : decode cX8_readSegment 4 = .ok (.istore_n 1, 1) := by decide +kernel
theorem dX8_readSegment_5 : decode cX8_readSegment 5 = .ok (.aload_n 0, 1) := by decide +kernel
theorem dX8_readSegment_6 : decode cX8_readSegment 6 = .ok (.bipush 116, 2) := by decide +kernel
theorem dX8_readSegment_8 : decode cX8_readSegment 8 = .ok (.invokevirtual 43, 3) := by decide +kernel
theorem dX8_readSegment_11 : decode cX8_readSegment 11 = .ok (.ifCond .ne 5, 3) := by decide +kernel
theorem dX8_readSegment_14 : decode cX8_readSegment 14 = .ok (.iconst 0, 1) := by decide +kernel
theorem dX8_readSegment_15 : decode cX8_readSegment 15 = .ok (.ireturn, 1) := by decide +kernel
theorem dX8_readSegment_16 : decode cX8_readSegment 16 = .ok (.aload_n 0, 1) := by decide +kernel
theorem dX8_readSegment_17 : decode cX8_readSegment 17 = .ok (.bipush 45, 2) := by decide +kernel
theorem dX8_readSegment_19 : decode cX8_readSegment 19 = .ok (.invokevirtual 43, 3) := by decide +kernel
theorem dX8_readSegment_22 : decode cX8_readSegment 22 = .ok (.istore_n 2, 1) := by decide +kernel
theorem dX8_readSegment_23 : decode cX8_readSegment 23 = .ok (.aload_n 0, 1) := by decide +kernel
theorem dX8_readSegment_24 : decode cX8_readSegment 24 = .ok (.invokevirtual 47, 3) := by decide +kernel
theorem dX8_readSegment_27 : decode cX8_readSegment 27 = .ok (.ifCond .ne 5, 3) := by decide +kernel
theorem dX8_readSegment_30 : decode cX8_readSegment 30 = .ok (.iconst 0, 1) := by decide +kernel
theorem dX8_readSegment_31 : decode cX8_readSegment 31 = .ok (.ireturn, 1) := by decide +kernel
theorem dX8_readSegment_32 : decode cX8_readSegment 32 = .ok (.iload_n 2, 1) := by decide +kernel
theorem dX8_readSegment_33 : decode cX8_readSegment 33 = .ok (.ifCond .eq 11, 3) := by decide +kernel
theorem dX8_readSegment_36 : decode cX8_readSegment 36 = .ok (.aload_n 0, 1) := by decide +kernel
theorem dX8_readSegment_37 : decode cX8_readSegment 37 = .ok (.getfield 50, 3) := by decide +kernel
theorem dX8_readSegment_40 : decode cX8_readSegment 40 = .ok (.ineg, 1) := by decide +kernel
theorem dX8_readSegment_41 : decode cX8_readSegment 41 = .ok (.goto 7, 3) := by decide +kernel
theorem dX8_readSegment_44 : decode cX8_readSegment 44 = .ok (.aload_n 0, 1) := by decide +kernel
theorem dX8_readSegment_45 : decode cX8_readSegment 45 = .ok (.getfield 50, 3) := by decide +kernel
theorem dX8_readSegment_48 : decode cX8_readSegment 48 = .ok (.istore_n 3, 1) := by decide +kernel
theorem dX8_readSegment_49 : decode cX8_readSegment 49 = .ok (.aload_n 0, 1) := by decide +kernel
theorem dX8_readSegment_50 : decode cX8_readSegment 50 = .ok (.bipush 104, 2) := by decide +kernel
theorem dX8_readSegment_52 : decode cX8_readSegment 52 = .ok (.invokevirtual 43, 3) := by decide +kernel
theorem dX8_readSegment_55 : decode cX8_readSegment 55 = .ok (.ifCond .eq 10, 3) := by decide +kernel
theorem dX8_readSegment_58 : decode cX8_readSegment 58 = .ok (.aload_n 0, 1) := by decide +kernel
theorem dX8_readSegment_59 : decode cX8_readSegment 59 = .ok (.invokevirtual 47, 3) := by decide +kernel
theorem dX8_readSegment_62 : decode cX8_readSegment 62 = .ok (.ifCond .ne 5, 3) := by decide +kernel
theorem dX8_readSegment_65 : decode cX8_readSegment 65 = .ok (.iconst 0, 1) := by decide +kernel
theorem dX8_readSegment_66 : decode cX8_readSegment 66 = .ok (.ireturn, 1) := by decide +kernel
theorem dX8_readSegment_67 : decode cX8_readSegment 67 = .ok (.aload_n 0, 1) := by decide +kernel
theorem dX8_readSegment_68 : decode cX8_readSegment 68 = .ok (.getfield 50, 3) := by decide +kernel
theorem dX8_readSegment_71 : decode cX8_readSegment 71 = .ok (.istore 4, 2) := by decide +kernel
theorem dX8_readSegment_73 : decode cX8_readSegment 73 = .ok (.aload_n 0, 1) := by decide +kernel
theorem dX8_readSegment_74 : decode cX8_readSegment 74 = .ok (.bipush 114, 2) := by decide +kernel
theorem dX8_readSegment_76 : decode cX8_readSegment 76 = .ok (.invokevirtual 43, 3) := by decide +kernel
theorem dX8_readSegment_79 : decode cX8_readSegment 79 = .ok (.ifCond .eq 10, 3) := by decide +kernel
theorem dX8_readSegment_82 : decode cX8_readSegment 82 = .ok (.aload_n 0, 1) := by decide +kernel
theorem dX8_readSegment_83 : decode cX8_readSegment 83 = .ok (.invokevirtual 47, 3) := by decide +kernel
theorem dX8_readSegment_86 : decode cX8_readSegment 86 = .ok (.ifCond .ne 5, 3) := by decide +kernel
theorem dX8_readSegment_89 : decode cX8_readSegment 89 = .ok (.iconst 0, 1) := by decide +kernel
theorem dX8_readSegment_90 : decode cX8_readSegment 90 = .ok (.ireturn, 1) := by decide +kernel
theorem dX8_readSegment_91 : decode cX8_readSegment 91 = .ok (.aload_n 0, 1) := by decide +kernel
theorem dX8_readSegment_92 : decode cX8_readSegment 92 = .ok (.getfield 50, 3) := by decide +kernel
theorem dX8_readSegment_95 : decode cX8_readSegment 95 = .ok (.istore 5, 2) := by decide +kernel
theorem dX8_readSegment_97 : decode cX8_readSegment 97 = .ok (.aload_n 0, 1) := by decide +kernel
theorem dX8_readSegment_98 : decode cX8_readSegment 98 = .ok (.bipush 115, 2) := by decide +kernel
theorem dX8_readSegment_100 : decode cX8_readSegment 100 = .ok (.invokevirtual 43, 3) := by decide +kernel
theorem dX8_readSegment_103 : decode cX8_readSegment 103 = .ok (.ifCond .eq 19, 3) := by decide +kernel
theorem dX8_readSegment_106 : decode cX8_readSegment 106 = .ok (.aload_n 0, 1) := by decide +kernel
theorem dX8_readSegment_107 : decode cX8_readSegment 107 = .ok (.invokevirtual 47, 3) := by decide +kernel
theorem dX8_readSegment_110 : decode cX8_readSegment 110 = .ok (.ifCond .eq 12, 3) := by decide +kernel
theorem dX8_readSegment_113 : decode cX8_readSegment 113 = .ok (.aload_n 0, 1) := by decide +kernel
theorem dX8_readSegment_114 : decode cX8_readSegment 114 = .ok (.bipush 59, 2) := by decide +kernel
theorem dX8_readSegment_116 : decode cX8_readSegment 116 = .ok (.invokevirtual 43, 3) := by decide +kernel
theorem dX8_readSegment_119 : decode cX8_readSegment 119 = .ok (.ifCond .ne 5, 3) := by decide +kernel
theorem dX8_readSegment_122 : decode cX8_readSegment 122 = .ok (.iconst 0, 1) := by decide +kernel
theorem dX8_readSegment_123 : decode cX8_readSegment 123 = .ok (.ireturn, 1) := by decide +kernel
theorem dX8_readSegment_124 : decode cX8_readSegment 124 = .ok (.aload_n 0, 1) := by decide +kernel
theorem dX8_readSegment_125 : decode cX8_readSegment 125 = .ok (.getfield 36, 3) := by decide +kernel
theorem dX8_readSegment_128 : decode cX8_readSegment 128 = .ok (.sipush (-10000), 3) := by decide +kernel
theorem dX8_readSegment_131 : decode cX8_readSegment 131 = .ok (.if_icmp .ne 23, 3) := by decide +kernel
theorem dX8_readSegment_134 : decode cX8_readSegment 134 = .ok (.iload_n 3, 1) := by decide +kernel
theorem dX8_readSegment_135 : decode cX8_readSegment 135 = .ok (.iload 4, 2) := by decide +kernel
theorem dX8_readSegment_137 : decode cX8_readSegment 137 = .ok (.iload 5, 2) := by decide +kernel
theorem dX8_readSegment_139 : decode cX8_readSegment 139 = .ok (.aload_n 0, 1) := by decide +kernel
theorem dX8_readSegment_140 : decode cX8_readSegment 140 = .ok (.getfield 50, 3) := by decide +kernel
theorem dX8_readSegment_143 : decode cX8_readSegment 143 = .ok (.invokestatic 53, 3) := by decide +kernel
theorem dX8_readSegment_146 : decode cX8_readSegment 146 = .ok (.ifCond .ne 8, 3) := by decide +kernel
theorem dX8_readSegment_149 : decode cX8_readSegment 149 = .ok (.aload_n 0, 1) := by decide +kernel
theorem dX8_readSegment_150 : decode cX8_readSegment 150 = .ok (.iload_n 1, 1) := by decide +kernel
theorem dX8_readSegment_151 : decode cX8_readSegment 151 = .ok (.putfield 36, 3) := by decide +kernel
theorem dX8_readSegment_154 : decode cX8_readSegment 154 = .ok (.aload_n 0, 1) := by decide +kernel
theorem dX8_readSegment_155 : decode cX8_readSegment 155 = .ok (.getfield 18, 3) := by decide +kernel
theorem dX8_readSegment_158 : decode cX8_readSegment 158 = .ok (.iload_n 3, 1) := by decide +kernel
theorem dX8_readSegment_159 : decode cX8_readSegment 159 = .ok (.iload 4, 2) := by decide +kernel
theorem dX8_readSegment_161 : decode cX8_readSegment 161 = .ok (.iload 5, 2) := by decide +kernel
theorem dX8_readSegment_163 : decode cX8_readSegment 163 = .ok (.aload_n 0, 1) := by decide +kernel
theorem dX8_readSegment_164 : decode cX8_readSegment 164 = .ok (.getfield 50, 3) := by decide +kernel
theorem dX8_readSegment_167 : decode cX8_readSegment 167 = .ok (.invokevirtual 57, 3) := by decide +kernel
theorem dX8_readSegment_170 : decode cX8_readSegment 170 = .ok (.iconst 1, 1) := by decide +kernel
theorem dX8_readSegment_171 : decode cX8_readSegment 171 = .ok (.ireturn, 1) := by decide +kernel
def s_X8_readSegment_1 (x_24 : (Nat → Int32)) (u_25 : (Nat → Int32) × (Nat → Int32)) : Int32 × (Nat → Int32) × (Nat → Int32) × (Nat → Int32) :=
  (1, x_24, u_25.1, u_25.2)
def s_X8_readSegment_2 (f_t_segments : Nat → Int32) (f_t_segments_cells : Nat → Int32) (x_7 : Int32) (u_10 : Int32 × (Nat → Int32)) (u_14 : Int32 × (Nat → Int32)) (x_24 : (Nat → Int32)) : Int32 × (Nat → Int32) × (Nat → Int32) × (Nat → Int32) :=
  (s_X8_readSegment_1 x_24 (s_X6_add f_t_segments f_t_segments_cells x_7 (u_10.2 4) (u_14.2 4) (x_24 4)))
def s_X8_readSegment_3 (f_t_segments : Nat → Int32) (f_t_segments_cells : Nat → Int32) (x_7 : Int32) (u_10 : Int32 × (Nat → Int32)) (u_14 : Int32 × (Nat → Int32)) (f_t : Nat → Int32) (u_20 : Int32 × (Nat → Int32)) : Int32 × (Nat → Int32) × (Nat → Int32) × (Nat → Int32) :=
  (if u_20.1 = 0 then (0, u_20.2, f_t_segments, f_t_segments_cells) else (s_X8_readSegment_2 f_t_segments f_t_segments_cells x_7 u_10 u_14 (if (u_20.2 5) = (-10000) then (if (s_X10_isSegment x_7 (u_10.2 4) (u_14.2 4) (u_20.2 4)) = 0 then (upd u_20.2 5 (f_t 3)) else u_20.2) else u_20.2)))
def s_X8_readSegment_4 (f_t_segments : Nat → Int32) (f_t_segments_cells : Nat → Int32) (x_7 : Int32) (u_10 : Int32 × (Nat → Int32)) (u_14 : Int32 × (Nat → Int32)) (f_t : Nat → Int32) (f_t_codes : Nat → Int32) (u_18 : Int32 × (Nat → Int32)) : Int32 × (Nat → Int32) × (Nat → Int32) × (Nat → Int32) :=
  (if u_18.1 = 0 then (0, u_18.2, f_t_segments, f_t_segments_cells) else (s_X8_readSegment_3 f_t_segments f_t_segments_cells x_7 u_10 u_14 f_t (s_X8_readSign u_18.2 f_t_codes 59)))
def s_X8_readSegment_5 (f_t_segments : Nat → Int32) (f_t_segments_cells : Nat → Int32) (x_7 : Int32) (u_10 : Int32 × (Nat → Int32)) (u_14 : Int32 × (Nat → Int32)) (f_t : Nat → Int32) (f_t_codes : Nat → Int32) (u_16 : Int32 × (Nat → Int32)) : Int32 × (Nat → Int32) × (Nat → Int32) × (Nat → Int32) :=
  (if u_16.1 = 0 then (0, u_16.2, f_t_segments, f_t_segments_cells) else (s_X8_readSegment_4 f_t_segments f_t_segments_cells x_7 u_10 u_14 f_t f_t_codes (s_X8_readNumber u_16.2 f_t_codes)))
def s_X8_readSegment_6 (f_t_segments : Nat → Int32) (f_t_segments_cells : Nat → Int32) (x_7 : Int32) (u_10 : Int32 × (Nat → Int32)) (f_t : Nat → Int32) (f_t_codes : Nat → Int32) (u_14 : Int32 × (Nat → Int32)) : Int32 × (Nat → Int32) × (Nat → Int32) × (Nat → Int32) :=
  (if u_14.1 = 0 then (0, u_14.2, f_t_segments, f_t_segments_cells) else (s_X8_readSegment_5 f_t_segments f_t_segments_cells x_7 u_10 u_14 f_t f_t_codes (s_X8_readSign u_14.2 f_t_codes 115)))
def s_X8_readSegment_7 (f_t_segments : Nat → Int32) (f_t_segments_cells : Nat → Int32) (x_7 : Int32) (u_10 : Int32 × (Nat → Int32)) (f_t : Nat → Int32) (f_t_codes : Nat → Int32) (u_12 : Int32 × (Nat → Int32)) : Int32 × (Nat → Int32) × (Nat → Int32) × (Nat → Int32) :=
  (if u_12.1 = 0 then (0, u_12.2, f_t_segments, f_t_segments_cells) else (s_X8_readSegment_6 f_t_segments f_t_segments_cells x_7 u_10 f_t f_t_codes (s_X8_readNumber u_12.2 f_t_codes)))
def s_X8_readSegment_8 (f_t_segments : Nat → Int32) (f_t_segments_cells : Nat → Int32) (x_7 : Int32) (f_t : Nat → Int32) (f_t_codes : Nat → Int32) (u_10 : Int32 × (Nat → Int32)) : Int32 × (Nat → Int32) × (Nat → Int32) × (Nat → Int32) :=
  (if u_10.1 = 0 then (0, u_10.2, f_t_segments, f_t_segments_cells) else (s_X8_readSegment_7 f_t_segments f_t_segments_cells x_7 u_10 f_t f_t_codes (s_X8_readSign u_10.2 f_t_codes 114)))
def s_X8_readSegment_9 (f_t_segments : Nat → Int32) (f_t_segments_cells : Nat → Int32) (x_7 : Int32) (f_t : Nat → Int32) (f_t_codes : Nat → Int32) (u_8 : Int32 × (Nat → Int32)) : Int32 × (Nat → Int32) × (Nat → Int32) × (Nat → Int32) :=
  (if u_8.1 = 0 then (0, u_8.2, f_t_segments, f_t_segments_cells) else (s_X8_readSegment_8 f_t_segments f_t_segments_cells x_7 f_t f_t_codes (s_X8_readNumber u_8.2 f_t_codes)))
def s_X8_readSegment_10 (f_t_segments : Nat → Int32) (f_t_segments_cells : Nat → Int32) (f_t : Nat → Int32) (f_t_codes : Nat → Int32) (u_4 : Int32 × (Nat → Int32)) (x_7 : Int32) : Int32 × (Nat → Int32) × (Nat → Int32) × (Nat → Int32) :=
  (s_X8_readSegment_9 f_t_segments f_t_segments_cells x_7 f_t f_t_codes (s_X8_readSign u_4.2 f_t_codes 104))
def s_X8_readSegment_11 (f_t_segments : Nat → Int32) (f_t_segments_cells : Nat → Int32) (f_t : Nat → Int32) (f_t_codes : Nat → Int32) (u_3 : Int32 × (Nat → Int32)) (u_4 : Int32 × (Nat → Int32)) : Int32 × (Nat → Int32) × (Nat → Int32) × (Nat → Int32) :=
  (if u_4.1 = 0 then (0, u_4.2, f_t_segments, f_t_segments_cells) else (s_X8_readSegment_10 f_t_segments f_t_segments_cells f_t f_t_codes u_4 (if u_3.1 = 0 then (u_4.2 4) else (-(u_4.2 4)))))
def s_X8_readSegment_12 (f_t_segments : Nat → Int32) (f_t_segments_cells : Nat → Int32) (f_t : Nat → Int32) (f_t_codes : Nat → Int32) (u_3 : Int32 × (Nat → Int32)) : Int32 × (Nat → Int32) × (Nat → Int32) × (Nat → Int32) :=
  (s_X8_readSegment_11 f_t_segments f_t_segments_cells f_t f_t_codes u_3 (s_X8_readNumber u_3.2 f_t_codes))
def s_X8_readSegment_13 (f_t_segments : Nat → Int32) (f_t_segments_cells : Nat → Int32) (f_t : Nat → Int32) (f_t_codes : Nat → Int32) (u_1 : Int32 × (Nat → Int32)) : Int32 × (Nat → Int32) × (Nat → Int32) × (Nat → Int32) :=
  (if u_1.1 = 0 then (0, u_1.2, f_t_segments, f_t_segments_cells) else (s_X8_readSegment_12 f_t_segments f_t_segments_cells f_t f_t_codes (s_X8_readSign u_1.2 f_t_codes 45)))
def s_X8_readSegment (f_t : Nat → Int32) (f_t_codes : Nat → Int32) (f_t_segments : Nat → Int32) (f_t_segments_cells : Nat → Int32) : Int32 × (Nat → Int32) × (Nat → Int32) × (Nat → Int32) :=
  (s_X8_readSegment_13 f_t_segments f_t_segments_cells f_t f_t_codes (s_X8_readSign f_t f_t_codes 116))
set_option maxRecDepth 100000 in
set_option maxHeartbeats 4000000 in
theorem c_X8_readSegment (l : Launch) (D : va_G) (cI cJ cO : ClassId) (h_t : Nat) (h_t_codes : Nat) (h_t_segments : Nat) (h_t_segments_cells : Nat) (f_t : Nat → Int32) (f_t_codes : Nat → Int32) (f_t_segments : Nat → Int32) (f_t_segments_cells : Nat → Int32) : kI l yX8_readSegment cX8_readSegment 6 .boolean 4 86 D (kT cI cJ cO) [.ref h_t] [(h_t, txE f_t h_t_codes h_t_segments), (h_t_codes, iA cI 90 f_t_codes), (h_t_segments, sgE f_t_segments h_t_segments_cells), (h_t_segments_cells, iA cI 48 f_t_segments_cells)] ((s_X8_readSegment f_t f_t_codes f_t_segments f_t_segments_cells).1) [(h_t, txE (s_X8_readSegment f_t f_t_codes f_t_segments f_t_segments_cells).2.1 h_t_codes h_t_segments), (h_t_codes, iA cI 90 f_t_codes), (h_t_segments, sgE (s_X8_readSegment f_t f_t_codes f_t_segments f_t_segments_cells).2.2.1 h_t_segments_cells), (h_t_segments_cells, iA cI 48 (s_X8_readSegment f_t f_t_codes f_t_segments f_t_segments_cells).2.2.2)] := by
  refine kI_of (own := RX8) (lv := [(0, .ref h_t)]) rfl rfl (by decide) (Nat.le_of_ble_eq_true rfl) ?_
  intro p e s m args below meth c Q A C hret
  refine k_aload_n (pc := 0) C rfl 0 rfl dX8_readSegment_0 ?_
  refine g_X8_3 (pc := 1) (x := (f_t 3)) C q_351 0 rfl rfl dX8_readSegment_1 ?_
  refine k_istore_n (pc := 4) (lv2 := [(1, .int (f_t 3)), (0, .ref h_t)]) C rfl (by decide) rfl dX8_readSegment_4 ?_
  refine k_aload_n (pc := 5) C rfl 1 rfl dX8_readSegment_5 ?_
  refine k_bipush (pc := 6) C bipush_116 dX8_readSegment_6 ?_
  obtain ⟨u_1, eu_1⟩ : ∃ z : Int32 × (Nat → Int32), z = (s_X8_readSign f_t f_t_codes 116) := ⟨_, rfl⟩
  refine k_callVi (pc := 8) (As := [.int 116]) (rest := []) (r := u_1.1) (wc := [(h_t, txE f_t h_t_codes h_t_segments), (h_t_codes, iA cI 90 f_t_codes)]) (wc2 := [(h_t, txE u_1.2 h_t_codes h_t_segments), (h_t_codes, iA cI 90 f_t_codes)]) (ws2 := [(h_t, txE u_1.2 h_t_codes h_t_segments), (h_t_codes, iA cI 90 f_t_codes), (h_t_segments, sgE f_t_segments h_t_segments_cells), (h_t_segments_cells, iA cI 48 f_t_segments_cells)]) C (by rw [eu_1]; exact c_X8_readSign l D cI cJ cO h_t h_t_codes h_t_segments f_t f_t_codes 116) cwv_X8_readSign q_892 vX8 0 rfl [0, 1] rfl rfl (by decide) rfl rfl (Nat.le_of_ble_eq_true rfl) ⟨Nat.le_of_ble_eq_true rfl, Nat.le_of_ble_eq_true rfl⟩ rfl ⟨Nat.le_refl _, Nat.le_refl _⟩ dX8_readSegment_8 ?_
  refine k_if_ne (pc := 11) (tgt := 16) C dX8_readSegment_11 (by decide) (fun c_2 => ?_) (fun c_2 => ?_)
  · refine k_aload_n (pc := 16) C rfl 1 rfl dX8_readSegment_16 ?_
    refine k_bipush (pc := 17) C bipush_45 dX8_readSegment_17 ?_
    obtain ⟨u_3, eu_3⟩ : ∃ z : Int32 × (Nat → Int32), z = (s_X8_readSign u_1.2 f_t_codes 45) := ⟨_, rfl⟩
    refine k_callVi (pc := 19) (As := [.int 45]) (rest := []) (r := u_3.1) (wc := [(h_t, txE u_1.2 h_t_codes h_t_segments), (h_t_codes, iA cI 90 f_t_codes)]) (wc2 := [(h_t, txE u_3.2 h_t_codes h_t_segments), (h_t_codes, iA cI 90 f_t_codes)]) (ws2 := [(h_t, txE u_3.2 h_t_codes h_t_segments), (h_t_codes, iA cI 90 f_t_codes), (h_t_segments, sgE f_t_segments h_t_segments_cells), (h_t_segments_cells, iA cI 48 f_t_segments_cells)]) C (by rw [eu_3]; exact c_X8_readSign l D cI cJ cO h_t h_t_codes h_t_segments u_1.2 f_t_codes 45) cwv_X8_readSign q_892 vX8 0 rfl [0, 1] rfl rfl (by decide) rfl rfl (Nat.le_of_ble_eq_true rfl) ⟨Nat.le_of_ble_eq_true rfl, Nat.le_of_ble_eq_true rfl⟩ rfl ⟨Nat.le_refl _, Nat.le_refl _⟩ dX8_readSegment_19 ?_
    refine k_istore_n (pc := 22) (lv2 := [(2, .int u_3.1), (1, .int (f_t 3)), (0, .ref h_t)]) C rfl (by decide) rfl dX8_readSegment_22 ?_
    refine k_aload_n (pc := 23) C rfl 2 rfl dX8_readSegment_23 ?_
    obtain ⟨u_4, eu_4⟩ : ∃ z : Int32 × (Nat → Int32), z = (s_X8_readNumber u_3.2 f_t_codes) := ⟨_, rfl⟩
    refine k_callVi (pc := 24) (As := []) (rest := []) (r := u_4.1) (wc := [(h_t, txE u_3.2 h_t_codes h_t_segments), (h_t_codes, iA cI 90 f_t_codes)]) (wc2 := [(h_t, txE u_4.2 h_t_codes h_t_segments), (h_t_codes, iA cI 90 f_t_codes)]) (ws2 := [(h_t, txE u_4.2 h_t_codes h_t_segments), (h_t_codes, iA cI 90 f_t_codes), (h_t_segments, sgE f_t_segments h_t_segments_cells), (h_t_segments_cells, iA cI 48 f_t_segments_cells)]) C (by rw [eu_4]; exact c_X8_readNumber l D cI cJ cO h_t h_t_codes h_t_segments u_3.2 f_t_codes) cwv_X8_readNumber q_897 vX8 0 rfl [0, 1] rfl rfl (by decide) rfl rfl (Nat.le_of_ble_eq_true rfl) ⟨Nat.le_of_ble_eq_true rfl, Nat.le_of_ble_eq_true rfl⟩ rfl ⟨Nat.le_refl _, Nat.le_refl _⟩ dX8_readSegment_24 ?_
    refine k_if_ne (pc := 27) (tgt := 32) C dX8_readSegment_27 (by decide) (fun c_5 => ?_) (fun c_5 => ?_)
    · refine k_iload_n (pc := 32) C rfl 0 rfl dX8_readSegment_32 ?_
      have K_26 : ∀ (x_7 : Int32), x_7 = (if u_3.1 = 0 then (u_4.2 4) else (-(u_4.2 4))) → KJ p l e (kR 4 86) s m args below meth c 0 0 Q D A 6 [(h_t, txE u_4.2 h_t_codes h_t_segments), (h_t_codes, iA cI 90 f_t_codes), (h_t_segments, sgE f_t_segments h_t_segments_cells), (h_t_segments_cells, iA cI 48 f_t_segments_cells)] [(1, .int (f_t 3)), (0, .ref h_t)] [.int x_7] 48 := by
        intro x_7 ex_7
        refine k_istore_n (pc := 48) (lv2 := [(3, .int x_7), (1, .int (f_t 3)), (0, .ref h_t)]) C rfl (by decide) rfl dX8_readSegment_48 ?_
        refine k_aload_n (pc := 49) C rfl 2 rfl dX8_readSegment_49 ?_
        refine k_bipush (pc := 50) C bipush_104 dX8_readSegment_50 ?_
        obtain ⟨u_8, eu_8⟩ : ∃ z : Int32 × (Nat → Int32), z = (s_X8_readSign u_4.2 f_t_codes 104) := ⟨_, rfl⟩
        refine k_callVi (pc := 52) (As := [.int 104]) (rest := []) (r := u_8.1) (wc := [(h_t, txE u_4.2 h_t_codes h_t_segments), (h_t_codes, iA cI 90 f_t_codes)]) (wc2 := [(h_t, txE u_8.2 h_t_codes h_t_segments), (h_t_codes, iA cI 90 f_t_codes)]) (ws2 := [(h_t, txE u_8.2 h_t_codes h_t_segments), (h_t_codes, iA cI 90 f_t_codes), (h_t_segments, sgE f_t_segments h_t_segments_cells), (h_t_segments_cells, iA cI 48 f_t_segments_cells)]) C (by rw [eu_8]; exact c_X8_readSign l D cI cJ cO h_t h_t_codes h_t_segments u_4.2 f_t_codes 104) cwv_X8_readSign q_892 vX8 0 rfl [0, 1] rfl rfl (by decide) rfl rfl (Nat.le_of_ble_eq_true rfl) ⟨Nat.le_of_ble_eq_true rfl, Nat.le_of_ble_eq_true rfl⟩ rfl ⟨Nat.le_refl _, Nat.le_refl _⟩ dX8_readSegment_52 ?_
        refine k_if_eq (pc := 55) (tgt := 65) C dX8_readSegment_55 (by decide) (fun c_9 => ?_) (fun c_9 => ?_)
        · refine k_iconst (pc := 65) C iconst_0 dX8_readSegment_65 ?_
          have hs : (s_X8_readSegment f_t f_t_codes f_t_segments f_t_segments_cells) = (0, u_8.2, f_t_segments, f_t_segments_cells) := (k_st (g := s_X8_readSegment_13 f_t_segments f_t_segments_cells f_t f_t_codes) eu_1 rfl (k_st (g := s_X8_readSegment_12 f_t_segments f_t_segments_cells f_t f_t_codes) eu_3 (if_neg c_2) (k_st (g := s_X8_readSegment_11 f_t_segments f_t_segments_cells f_t f_t_codes u_3) eu_4 rfl (k_st (g := s_X8_readSegment_10 f_t_segments f_t_segments_cells f_t f_t_codes u_4) ex_7 (if_neg c_5) (k_st (g := s_X8_readSegment_9 f_t_segments f_t_segments_cells x_7 f_t f_t_codes) eu_8 rfl (if_pos c_9))))))
          exact k_finI (pc := 66) hret rfl (by rw [hs]) (by rw [hs]) dX8_readSegment_66
        · refine k_aload_n (pc := 58) C rfl 2 rfl dX8_readSegment_58 ?_
          obtain ⟨u_10, eu_10⟩ : ∃ z : Int32 × (Nat → Int32), z = (s_X8_readNumber u_8.2 f_t_codes) := ⟨_, rfl⟩
          refine k_callVi (pc := 59) (As := []) (rest := []) (r := u_10.1) (wc := [(h_t, txE u_8.2 h_t_codes h_t_segments), (h_t_codes, iA cI 90 f_t_codes)]) (wc2 := [(h_t, txE u_10.2 h_t_codes h_t_segments), (h_t_codes, iA cI 90 f_t_codes)]) (ws2 := [(h_t, txE u_10.2 h_t_codes h_t_segments), (h_t_codes, iA cI 90 f_t_codes), (h_t_segments, sgE f_t_segments h_t_segments_cells), (h_t_segments_cells, iA cI 48 f_t_segments_cells)]) C (by rw [eu_10]; exact c_X8_readNumber l D cI cJ cO h_t h_t_codes h_t_segments u_8.2 f_t_codes) cwv_X8_readNumber q_897 vX8 0 rfl [0, 1] rfl rfl (by decide) rfl rfl (Nat.le_of_ble_eq_true rfl) ⟨Nat.le_of_ble_eq_true rfl, Nat.le_of_ble_eq_true rfl⟩ rfl ⟨Nat.le_refl _, Nat.le_refl _⟩ dX8_readSegment_59 ?_
          refine k_if_ne (pc := 62) (tgt := 67) C dX8_readSegment_62 (by decide) (fun c_11 => ?_) (fun c_11 => ?_)
          · refine k_aload_n (pc := 67) C rfl 2 rfl dX8_readSegment_67 ?_
            refine g_X8_4 (pc := 68) (x := (u_10.2 4)) C q_352 0 rfl rfl dX8_readSegment_68 ?_
            refine k_istore (pc := 71) (lv2 := [(4, .int (u_10.2 4)), (3, .int x_7), (1, .int (f_t 3)), (0, .ref h_t)]) C (by decide) rfl dX8_readSegment_71 ?_
            refine k_aload_n (pc := 73) C rfl 3 rfl dX8_readSegment_73 ?_
            refine k_bipush (pc := 74) C bipush_114 dX8_readSegment_74 ?_
            obtain ⟨u_12, eu_12⟩ : ∃ z : Int32 × (Nat → Int32), z = (s_X8_readSign u_10.2 f_t_codes 114) := ⟨_, rfl⟩
            refine k_callVi (pc := 76) (As := [.int 114]) (rest := []) (r := u_12.1) (wc := [(h_t, txE u_10.2 h_t_codes h_t_segments), (h_t_codes, iA cI 90 f_t_codes)]) (wc2 := [(h_t, txE u_12.2 h_t_codes h_t_segments), (h_t_codes, iA cI 90 f_t_codes)]) (ws2 := [(h_t, txE u_12.2 h_t_codes h_t_segments), (h_t_codes, iA cI 90 f_t_codes), (h_t_segments, sgE f_t_segments h_t_segments_cells), (h_t_segments_cells, iA cI 48 f_t_segments_cells)]) C (by rw [eu_12]; exact c_X8_readSign l D cI cJ cO h_t h_t_codes h_t_segments u_10.2 f_t_codes 114) cwv_X8_readSign q_892 vX8 0 rfl [0, 1] rfl rfl (by decide) rfl rfl (Nat.le_of_ble_eq_true rfl) ⟨Nat.le_of_ble_eq_true rfl, Nat.le_of_ble_eq_true rfl⟩ rfl ⟨Nat.le_refl _, Nat.le_refl _⟩ dX8_readSegment_76 ?_
            refine k_if_eq (pc := 79) (tgt := 89) C dX8_readSegment_79 (by decide) (fun c_13 => ?_) (fun c_13 => ?_)
            · refine k_iconst (pc := 89) C iconst_0 dX8_readSegment_89 ?_
              have hs : (s_X8_readSegment f_t f_t_codes f_t_segments f_t_segments_cells) = (0, u_12.2, f_t_segments, f_t_segments_cells) := (k_st (g := s_X8_readSegment_13 f_t_segments f_t_segments_cells f_t f_t_codes) eu_1 rfl (k_st (g := s_X8_readSegment_12 f_t_segments f_t_segments_cells f_t f_t_codes) eu_3 (if_neg c_2) (k_st (g := s_X8_readSegment_11 f_t_segments f_t_segments_cells f_t f_t_codes u_3) eu_4 rfl (k_st (g := s_X8_readSegment_10 f_t_segments f_t_segments_cells f_t f_t_codes u_4) ex_7 (if_neg c_5) (k_st (g := s_X8_readSegment_9 f_t_segments f_t_segments_cells x_7 f_t f_t_codes) eu_8 rfl (k_st (g := s_X8_readSegment_8 f_t_segments f_t_segments_cells x_7 f_t f_t_codes) eu_10 (if_neg c_9) (k_st (g := s_X8_readSegment_7 f_t_segments f_t_segments_cells x_7 u_10 f_t f_t_codes) eu_12 (if_neg c_11) (if_pos c_13))))))))
              exact k_finI (pc := 90) hret rfl (by rw [hs]) (by rw [hs]) dX8_readSegment_90
            · refine k_aload_n (pc := 82) C rfl 3 rfl dX8_readSegment_82 ?_
              obtain ⟨u_14, eu_14⟩ : ∃ z : Int32 × (Nat → Int32), z = (s_X8_readNumber u_12.2 f_t_codes) := ⟨_, rfl⟩
              refine k_callVi (pc := 83) (As := []) (rest := []) (r := u_14.1) (wc := [(h_t, txE u_12.2 h_t_codes h_t_segments), (h_t_codes, iA cI 90 f_t_codes)]) (wc2 := [(h_t, txE u_14.2 h_t_codes h_t_segments), (h_t_codes, iA cI 90 f_t_codes)]) (ws2 := [(h_t, txE u_14.2 h_t_codes h_t_segments), (h_t_codes, iA cI 90 f_t_codes), (h_t_segments, sgE f_t_segments h_t_segments_cells), (h_t_segments_cells, iA cI 48 f_t_segments_cells)]) C (by rw [eu_14]; exact c_X8_readNumber l D cI cJ cO h_t h_t_codes h_t_segments u_12.2 f_t_codes) cwv_X8_readNumber q_897 vX8 0 rfl [0, 1] rfl rfl (by decide) rfl rfl (Nat.le_of_ble_eq_true rfl) ⟨Nat.le_of_ble_eq_true rfl, Nat.le_of_ble_eq_true rfl⟩ rfl ⟨Nat.le_refl _, Nat.le_refl _⟩ dX8_readSegment_83 ?_
              refine k_if_ne (pc := 86) (tgt := 91) C dX8_readSegment_86 (by decide) (fun c_15 => ?_) (fun c_15 => ?_)
              · refine k_aload_n (pc := 91) C rfl 3 rfl dX8_readSegment_91 ?_
                refine g_X8_4 (pc := 92) (x := (u_14.2 4)) C q_352 0 rfl rfl dX8_readSegment_92 ?_
                refine k_istore (pc := 95) (lv2 := [(5, .int (u_14.2 4)), (4, .int (u_10.2 4)), (3, .int x_7), (1, .int (f_t 3)), (0, .ref h_t)]) C (by decide) rfl dX8_readSegment_95 ?_
                refine k_aload_n (pc := 97) C rfl 4 rfl dX8_readSegment_97 ?_
                refine k_bipush (pc := 98) C bipush_115 dX8_readSegment_98 ?_
                obtain ⟨u_16, eu_16⟩ : ∃ z : Int32 × (Nat → Int32), z = (s_X8_readSign u_14.2 f_t_codes 115) := ⟨_, rfl⟩
                refine k_callVi (pc := 100) (As := [.int 115]) (rest := []) (r := u_16.1) (wc := [(h_t, txE u_14.2 h_t_codes h_t_segments), (h_t_codes, iA cI 90 f_t_codes)]) (wc2 := [(h_t, txE u_16.2 h_t_codes h_t_segments), (h_t_codes, iA cI 90 f_t_codes)]) (ws2 := [(h_t, txE u_16.2 h_t_codes h_t_segments), (h_t_codes, iA cI 90 f_t_codes), (h_t_segments, sgE f_t_segments h_t_segments_cells), (h_t_segments_cells, iA cI 48 f_t_segments_cells)]) C (by rw [eu_16]; exact c_X8_readSign l D cI cJ cO h_t h_t_codes h_t_segments u_14.2 f_t_codes 115) cwv_X8_readSign q_892 vX8 0 rfl [0, 1] rfl rfl (by decide) rfl rfl (Nat.le_of_ble_eq_true rfl) ⟨Nat.le_of_ble_eq_true rfl, Nat.le_of_ble_eq_true rfl⟩ rfl ⟨Nat.le_refl _, Nat.le_refl _⟩ dX8_readSegment_100 ?_
                refine k_if_eq (pc := 103) (tgt := 122) C dX8_readSegment_103 (by decide) (fun c_17 => ?_) (fun c_17 => ?_)
                · refine k_iconst (pc := 122) C iconst_0 dX8_readSegment_122 ?_
                  have hs : (s_X8_readSegment f_t f_t_codes f_t_segments f_t_segments_cells) = (0, u_16.2, f_t_segments, f_t_segments_cells) := (k_st (g := s_X8_readSegment_13 f_t_segments f_t_segments_cells f_t f_t_codes) eu_1 rfl (k_st (g := s_X8_readSegment_12 f_t_segments f_t_segments_cells f_t f_t_codes) eu_3 (if_neg c_2) (k_st (g := s_X8_readSegment_11 f_t_segments f_t_segments_cells f_t f_t_codes u_3) eu_4 rfl (k_st (g := s_X8_readSegment_10 f_t_segments f_t_segments_cells f_t f_t_codes u_4) ex_7 (if_neg c_5) (k_st (g := s_X8_readSegment_9 f_t_segments f_t_segments_cells x_7 f_t f_t_codes) eu_8 rfl (k_st (g := s_X8_readSegment_8 f_t_segments f_t_segments_cells x_7 f_t f_t_codes) eu_10 (if_neg c_9) (k_st (g := s_X8_readSegment_7 f_t_segments f_t_segments_cells x_7 u_10 f_t f_t_codes) eu_12 (if_neg c_11) (k_st (g := s_X8_readSegment_6 f_t_segments f_t_segments_cells x_7 u_10 f_t f_t_codes) eu_14 (if_neg c_13) (k_st (g := s_X8_readSegment_5 f_t_segments f_t_segments_cells x_7 u_10 u_14 f_t f_t_codes) eu_16 (if_neg c_15) (if_pos c_17))))))))))
                  exact k_finI (pc := 123) hret rfl (by rw [hs]) (by rw [hs]) dX8_readSegment_123
                · refine k_aload_n (pc := 106) C rfl 4 rfl dX8_readSegment_106 ?_
                  obtain ⟨u_18, eu_18⟩ : ∃ z : Int32 × (Nat → Int32), z = (s_X8_readNumber u_16.2 f_t_codes) := ⟨_, rfl⟩
                  refine k_callVi (pc := 107) (As := []) (rest := []) (r := u_18.1) (wc := [(h_t, txE u_16.2 h_t_codes h_t_segments), (h_t_codes, iA cI 90 f_t_codes)]) (wc2 := [(h_t, txE u_18.2 h_t_codes h_t_segments), (h_t_codes, iA cI 90 f_t_codes)]) (ws2 := [(h_t, txE u_18.2 h_t_codes h_t_segments), (h_t_codes, iA cI 90 f_t_codes), (h_t_segments, sgE f_t_segments h_t_segments_cells), (h_t_segments_cells, iA cI 48 f_t_segments_cells)]) C (by rw [eu_18]; exact c_X8_readNumber l D cI cJ cO h_t h_t_codes h_t_segments u_16.2 f_t_codes) cwv_X8_readNumber q_897 vX8 0 rfl [0, 1] rfl rfl (by decide) rfl rfl (Nat.le_of_ble_eq_true rfl) ⟨Nat.le_of_ble_eq_true rfl, Nat.le_of_ble_eq_true rfl⟩ rfl ⟨Nat.le_refl _, Nat.le_refl _⟩ dX8_readSegment_107 ?_
                  refine k_if_eq (pc := 110) (tgt := 122) C dX8_readSegment_110 (by decide) (fun c_19 => ?_) (fun c_19 => ?_)
                  · refine k_iconst (pc := 122) C iconst_0 dX8_readSegment_122 ?_
                    have hs : (s_X8_readSegment f_t f_t_codes f_t_segments f_t_segments_cells) = (0, u_18.2, f_t_segments, f_t_segments_cells) := (k_st (g := s_X8_readSegment_13 f_t_segments f_t_segments_cells f_t f_t_codes) eu_1 rfl (k_st (g := s_X8_readSegment_12 f_t_segments f_t_segments_cells f_t f_t_codes) eu_3 (if_neg c_2) (k_st (g := s_X8_readSegment_11 f_t_segments f_t_segments_cells f_t f_t_codes u_3) eu_4 rfl (k_st (g := s_X8_readSegment_10 f_t_segments f_t_segments_cells f_t f_t_codes u_4) ex_7 (if_neg c_5) (k_st (g := s_X8_readSegment_9 f_t_segments f_t_segments_cells x_7 f_t f_t_codes) eu_8 rfl (k_st (g := s_X8_readSegment_8 f_t_segments f_t_segments_cells x_7 f_t f_t_codes) eu_10 (if_neg c_9) (k_st (g := s_X8_readSegment_7 f_t_segments f_t_segments_cells x_7 u_10 f_t f_t_codes) eu_12 (if_neg c_11) (k_st (g := s_X8_readSegment_6 f_t_segments f_t_segments_cells x_7 u_10 f_t f_t_codes) eu_14 (if_neg c_13) (k_st (g := s_X8_readSegment_5 f_t_segments f_t_segments_cells x_7 u_10 u_14 f_t f_t_codes) eu_16 (if_neg c_15) (k_st (g := s_X8_readSegment_4 f_t_segments f_t_segments_cells x_7 u_10 u_14 f_t f_t_codes) eu_18 (if_neg c_17) (if_pos c_19)))))))))))
                    exact k_finI (pc := 123) hret rfl (by rw [hs]) (by rw [hs]) dX8_readSegment_123
                  · refine k_aload_n (pc := 113) C rfl 4 rfl dX8_readSegment_113 ?_
                    refine k_bipush (pc := 114) C bipush_59 dX8_readSegment_114 ?_
                    obtain ⟨u_20, eu_20⟩ : ∃ z : Int32 × (Nat → Int32), z = (s_X8_readSign u_18.2 f_t_codes 59) := ⟨_, rfl⟩
                    refine k_callVi (pc := 116) (As := [.int 59]) (rest := []) (r := u_20.1) (wc := [(h_t, txE u_18.2 h_t_codes h_t_segments), (h_t_codes, iA cI 90 f_t_codes)]) (wc2 := [(h_t, txE u_20.2 h_t_codes h_t_segments), (h_t_codes, iA cI 90 f_t_codes)]) (ws2 := [(h_t, txE u_20.2 h_t_codes h_t_segments), (h_t_codes, iA cI 90 f_t_codes), (h_t_segments, sgE f_t_segments h_t_segments_cells), (h_t_segments_cells, iA cI 48 f_t_segments_cells)]) C (by rw [eu_20]; exact c_X8_readSign l D cI cJ cO h_t h_t_codes h_t_segments u_18.2 f_t_codes 59) cwv_X8_readSign q_892 vX8 0 rfl [0, 1] rfl rfl (by decide) rfl rfl (Nat.le_of_ble_eq_true rfl) ⟨Nat.le_of_ble_eq_true rfl, Nat.le_of_ble_eq_true rfl⟩ rfl ⟨Nat.le_refl _, Nat.le_refl _⟩ dX8_readSegment_116 ?_
                    refine k_if_ne (pc := 119) (tgt := 124) C dX8_readSegment_119 (by decide) (fun c_21 => ?_) (fun c_21 => ?_)
                    · refine k_aload_n (pc := 124) C rfl 4 rfl dX8_readSegment_124 ?_
                      refine g_X8_5 (pc := 125) (x := (u_20.2 5)) C q_353 0 rfl rfl dX8_readSegment_125 ?_
                      refine k_sipush (pc := 128) C sipush_m10000 dX8_readSegment_128 ?_
                      have K_27 : ∀ (x_24 : (Nat → Int32)), x_24 = (if (u_20.2 5) = (-10000) then (if (s_X10_isSegment x_7 (u_10.2 4) (u_14.2 4) (u_20.2 4)) = 0 then (upd u_20.2 5 (f_t 3)) else u_20.2) else u_20.2) → KJ p l e (kR 4 86) s m args below meth c 0 0 Q D A 6 [(h_t, txE x_24 h_t_codes h_t_segments), (h_t_codes, iA cI 90 f_t_codes), (h_t_segments, sgE f_t_segments h_t_segments_cells), (h_t_segments_cells, iA cI 48 f_t_segments_cells)] [(5, .int (u_14.2 4)), (4, .int (u_10.2 4)), (3, .int x_7), (0, .ref h_t)] [] 154 := by
                        intro x_24 ex_24
                        refine k_aload_n (pc := 154) C rfl 3 rfl dX8_readSegment_154 ?_
                        refine g_X8_2 (pc := 155) C q_350 0 rfl dX8_readSegment_155 ?_
                        refine k_iload_n (pc := 158) C rfl 2 rfl dX8_readSegment_158 ?_
                        refine k_iload (pc := 159) C 1 rfl dX8_readSegment_159 ?_
                        refine k_iload (pc := 161) C 0 rfl dX8_readSegment_161 ?_
                        refine k_aload_n (pc := 163) C rfl 3 rfl dX8_readSegment_163 ?_
                        refine g_X8_4 (pc := 164) (x := (x_24 4)) C q_352 0 rfl rfl dX8_readSegment_164 ?_
                        obtain ⟨u_25, eu_25⟩ : ∃ z : (Nat → Int32) × (Nat → Int32), z = (s_X6_add f_t_segments f_t_segments_cells x_7 (u_10.2 4) (u_14.2 4) (x_24 4)) := ⟨_, rfl⟩
                        refine k_callVv (pc := 167) (As := [.int x_7, .int (u_10.2 4), .int (u_14.2 4), .int (x_24 4)]) (rest := []) (wc := [(h_t_segments, sgE f_t_segments h_t_segments_cells), (h_t_segments_cells, iA cI 48 f_t_segments_cells)]) (wc2 := [(h_t_segments, sgE u_25.1 h_t_segments_cells), (h_t_segments_cells, iA cI 48 u_25.2)]) (ws2 := [(h_t, txE x_24 h_t_codes h_t_segments), (h_t_codes, iA cI 90 f_t_codes), (h_t_segments, sgE u_25.1 h_t_segments_cells), (h_t_segments_cells, iA cI 48 u_25.2)]) C (by rw [eu_25]; exact c_X6_add l D cI cJ cO h_t_segments h_t_segments_cells f_t_segments f_t_segments_cells x_7 (u_10.2 4) (u_14.2 4) (x_24 4)) cwv_X6_add q_903 vX6 2 rfl [2, 3] rfl rfl (by decide) rfl rfl (Nat.le_of_ble_eq_true rfl) ⟨Nat.le_of_ble_eq_true rfl, Nat.le_of_ble_eq_true rfl⟩ rfl ⟨Nat.le_refl _, Nat.le_refl _⟩ dX8_readSegment_167 ?_
                        refine k_iconst (pc := 170) C iconst_1 dX8_readSegment_170 ?_
                        have hs : (s_X8_readSegment f_t f_t_codes f_t_segments f_t_segments_cells) = (1, x_24, u_25.1, u_25.2) := (k_st (g := s_X8_readSegment_13 f_t_segments f_t_segments_cells f_t f_t_codes) eu_1 rfl (k_st (g := s_X8_readSegment_12 f_t_segments f_t_segments_cells f_t f_t_codes) eu_3 (if_neg c_2) (k_st (g := s_X8_readSegment_11 f_t_segments f_t_segments_cells f_t f_t_codes u_3) eu_4 rfl (k_st (g := s_X8_readSegment_10 f_t_segments f_t_segments_cells f_t f_t_codes u_4) ex_7 (if_neg c_5) (k_st (g := s_X8_readSegment_9 f_t_segments f_t_segments_cells x_7 f_t f_t_codes) eu_8 rfl (k_st (g := s_X8_readSegment_8 f_t_segments f_t_segments_cells x_7 f_t f_t_codes) eu_10 (if_neg c_9) (k_st (g := s_X8_readSegment_7 f_t_segments f_t_segments_cells x_7 u_10 f_t f_t_codes) eu_12 (if_neg c_11) (k_st (g := s_X8_readSegment_6 f_t_segments f_t_segments_cells x_7 u_10 f_t f_t_codes) eu_14 (if_neg c_13) (k_st (g := s_X8_readSegment_5 f_t_segments f_t_segments_cells x_7 u_10 u_14 f_t f_t_codes) eu_16 (if_neg c_15) (k_st (g := s_X8_readSegment_4 f_t_segments f_t_segments_cells x_7 u_10 u_14 f_t f_t_codes) eu_18 (if_neg c_17) (k_st (g := s_X8_readSegment_3 f_t_segments f_t_segments_cells x_7 u_10 u_14 f_t) eu_20 (if_neg c_19) (k_st (g := s_X8_readSegment_2 f_t_segments f_t_segments_cells x_7 u_10 u_14) ex_24 (if_neg c_21) (k_st (g := s_X8_readSegment_1 x_24) eu_25 rfl rfl)))))))))))))
                        exact k_finI (pc := 171) hret rfl (by rw [hs]) (by rw [hs]) dX8_readSegment_171
                      refine k_icmp_ne (pc := 131) (tgt := 154) C dX8_readSegment_131 (by decide) (fun c_22 => ?_) (fun c_22 => ?_)
                      · refine k_lpick (lv2 := [(5, .int (u_14.2 4)), (4, .int (u_10.2 4)), (3, .int x_7), (0, .ref h_t)]) [0, 1, 2, 4] rfl ?_
                        exact K_27 u_20.2 (Eq.symm (if_neg c_22))
                      · refine k_iload_n (pc := 134) C rfl 2 rfl dX8_readSegment_134 ?_
                        refine k_iload (pc := 135) C 1 rfl dX8_readSegment_135 ?_
                        refine k_iload (pc := 137) C 0 rfl dX8_readSegment_137 ?_
                        refine k_aload_n (pc := 139) C rfl 4 rfl dX8_readSegment_139 ?_
                        refine g_X8_4 (pc := 140) (x := (u_20.2 4)) C q_352 0 rfl rfl dX8_readSegment_140 ?_
                        refine k_callNi (pc := 143) (As := [.int x_7, .int (u_10.2 4), .int (u_14.2 4), .int (u_20.2 4)]) (rest := []) (r := (s_X10_isSegment x_7 (u_10.2 4) (u_14.2 4) (u_20.2 4))) (wc := []) (wc2 := []) (ws2 := [(h_t, txE u_20.2 h_t_codes h_t_segments), (h_t_codes, iA cI 90 f_t_codes), (h_t_segments, sgE f_t_segments h_t_segments_cells), (h_t_segments_cells, iA cI 48 f_t_segments_cells)]) C (c_X10_isSegment l D cI cJ cO x_7 (u_10.2 4) (u_14.2 4) (u_20.2 4)) cws_X10_isSegment q_902 [] rfl rfl (by decide) rfl rfl (Nat.le_of_ble_eq_true rfl) ⟨Nat.le_of_ble_eq_true rfl, Nat.le_of_ble_eq_true rfl⟩ rfl ⟨Nat.le_refl _, Nat.le_refl _⟩ dX8_readSegment_143 ?_
                        refine k_if_ne (pc := 146) (tgt := 154) C dX8_readSegment_146 (by decide) (fun c_23 => ?_) (fun c_23 => ?_)
                        · refine k_lpick (lv2 := [(5, .int (u_14.2 4)), (4, .int (u_10.2 4)), (3, .int x_7), (0, .ref h_t)]) [0, 1, 2, 4] rfl ?_
                          exact K_27 u_20.2 (Eq.symm ((if_pos c_22).trans (if_neg c_23)))
                        · refine k_aload_n (pc := 149) C rfl 4 rfl dX8_readSegment_149 ?_
                          refine k_iload_n (pc := 150) C rfl 3 rfl dX8_readSegment_150 ?_
                          refine p_X8_5 (pc := 151) (ws2 := [(h_t, txE (upd u_20.2 5 (f_t 3)) h_t_codes h_t_segments), (h_t_codes, iA cI 90 f_t_codes), (h_t_segments, sgE f_t_segments h_t_segments_cells), (h_t_segments_cells, iA cI 48 f_t_segments_cells)]) C q_353 0 rfl rfl dX8_readSegment_151 ?_
                          refine k_lpick (lv2 := [(5, .int (u_14.2 4)), (4, .int (u_10.2 4)), (3, .int x_7), (0, .ref h_t)]) [0, 1, 2, 4] rfl ?_
                          exact K_27 (upd u_20.2 5 (f_t 3)) (Eq.symm ((if_pos c_22).trans (if_pos c_23)))
                    · refine k_iconst (pc := 122) C iconst_0 dX8_readSegment_122 ?_
                      have hs : (s_X8_readSegment f_t f_t_codes f_t_segments f_t_segments_cells) = (0, u_20.2, f_t_segments, f_t_segments_cells) := (k_st (g := s_X8_readSegment_13 f_t_segments f_t_segments_cells f_t f_t_codes) eu_1 rfl (k_st (g := s_X8_readSegment_12 f_t_segments f_t_segments_cells f_t f_t_codes) eu_3 (if_neg c_2) (k_st (g := s_X8_readSegment_11 f_t_segments f_t_segments_cells f_t f_t_codes u_3) eu_4 rfl (k_st (g := s_X8_readSegment_10 f_t_segments f_t_segments_cells f_t f_t_codes u_4) ex_7 (if_neg c_5) (k_st (g := s_X8_readSegment_9 f_t_segments f_t_segments_cells x_7 f_t f_t_codes) eu_8 rfl (k_st (g := s_X8_readSegment_8 f_t_segments f_t_segments_cells x_7 f_t f_t_codes) eu_10 (if_neg c_9) (k_st (g := s_X8_readSegment_7 f_t_segments f_t_segments_cells x_7 u_10 f_t f_t_codes) eu_12 (if_neg c_11) (k_st (g := s_X8_readSegment_6 f_t_segments f_t_segments_cells x_7 u_10 f_t f_t_codes) eu_14 (if_neg c_13) (k_st (g := s_X8_readSegment_5 f_t_segments f_t_segments_cells x_7 u_10 u_14 f_t f_t_codes) eu_16 (if_neg c_15) (k_st (g := s_X8_readSegment_4 f_t_segments f_t_segments_cells x_7 u_10 u_14 f_t f_t_codes) eu_18 (if_neg c_17) (k_st (g := s_X8_readSegment_3 f_t_segments f_t_segments_cells x_7 u_10 u_14 f_t) eu_20 (if_neg c_19) (if_pos c_21))))))))))))
                      exact k_finI (pc := 123) hret rfl (by rw [hs]) (by rw [hs]) dX8_readSegment_123
              · refine k_iconst (pc := 89) C iconst_0 dX8_readSegment_89 ?_
                have hs : (s_X8_readSegment f_t f_t_codes f_t_segments f_t_segments_cells) = (0, u_14.2, f_t_segments, f_t_segments_cells) := (k_st (g := s_X8_readSegment_13 f_t_segments f_t_segments_cells f_t f_t_codes) eu_1 rfl (k_st (g := s_X8_readSegment_12 f_t_segments f_t_segments_cells f_t f_t_codes) eu_3 (if_neg c_2) (k_st (g := s_X8_readSegment_11 f_t_segments f_t_segments_cells f_t f_t_codes u_3) eu_4 rfl (k_st (g := s_X8_readSegment_10 f_t_segments f_t_segments_cells f_t f_t_codes u_4) ex_7 (if_neg c_5) (k_st (g := s_X8_readSegment_9 f_t_segments f_t_segments_cells x_7 f_t f_t_codes) eu_8 rfl (k_st (g := s_X8_readSegment_8 f_t_segments f_t_segments_cells x_7 f_t f_t_codes) eu_10 (if_neg c_9) (k_st (g := s_X8_readSegment_7 f_t_segments f_t_segments_cells x_7 u_10 f_t f_t_codes) eu_12 (if_neg c_11) (k_st (g := s_X8_readSegment_6 f_t_segments f_t_segments_cells x_7 u_10 f_t f_t_codes) eu_14 (if_neg c_13) (if_pos c_15)))))))))
                exact k_finI (pc := 90) hret rfl (by rw [hs]) (by rw [hs]) dX8_readSegment_90
          · refine k_iconst (pc := 65) C iconst_0 dX8_readSegment_65 ?_
            have hs : (s_X8_readSegment f_t f_t_codes f_t_segments f_t_segments_cells) = (0, u_10.2, f_t_segments, f_t_segments_cells) := (k_st (g := s_X8_readSegment_13 f_t_segments f_t_segments_cells f_t f_t_codes) eu_1 rfl (k_st (g := s_X8_readSegment_12 f_t_segments f_t_segments_cells f_t f_t_codes) eu_3 (if_neg c_2) (k_st (g := s_X8_readSegment_11 f_t_segments f_t_segments_cells f_t f_t_codes u_3) eu_4 rfl (k_st (g := s_X8_readSegment_10 f_t_segments f_t_segments_cells f_t f_t_codes u_4) ex_7 (if_neg c_5) (k_st (g := s_X8_readSegment_9 f_t_segments f_t_segments_cells x_7 f_t f_t_codes) eu_8 rfl (k_st (g := s_X8_readSegment_8 f_t_segments f_t_segments_cells x_7 f_t f_t_codes) eu_10 (if_neg c_9) (if_pos c_11)))))))
            exact k_finI (pc := 66) hret rfl (by rw [hs]) (by rw [hs]) dX8_readSegment_66
      refine k_if_eq (pc := 33) (tgt := 44) C dX8_readSegment_33 (by decide) (fun c_6 => ?_) (fun c_6 => ?_)
      · refine k_aload_n (pc := 44) C rfl 2 rfl dX8_readSegment_44 ?_
        refine g_X8_4 (pc := 45) (x := (u_4.2 4)) C q_352 0 rfl rfl dX8_readSegment_45 ?_
        refine k_lpick (lv2 := [(1, .int (f_t 3)), (0, .ref h_t)]) [1, 2] rfl ?_
        exact K_26 (u_4.2 4) (Eq.symm (if_pos c_6))
      · refine k_aload_n (pc := 36) C rfl 2 rfl dX8_readSegment_36 ?_
        refine g_X8_4 (pc := 37) (x := (u_4.2 4)) C q_352 0 rfl rfl dX8_readSegment_37 ?_
        refine k_ineg (pc := 40) C dX8_readSegment_40 ?_
        refine k_goto (pc := 41) (tgt := 48) C (by decide) dX8_readSegment_41 ?_
        refine k_lpick (lv2 := [(1, .int (f_t 3)), (0, .ref h_t)]) [1, 2] rfl ?_
        exact K_26 (-(u_4.2 4)) (Eq.symm (if_neg c_6))
    · refine k_iconst (pc := 30) C iconst_0 dX8_readSegment_30 ?_
      have hs : (s_X8_readSegment f_t f_t_codes f_t_segments f_t_segments_cells) = (0, u_4.2, f_t_segments, f_t_segments_cells) := (k_st (g := s_X8_readSegment_13 f_t_segments f_t_segments_cells f_t f_t_codes) eu_1 rfl (k_st (g := s_X8_readSegment_12 f_t_segments f_t_segments_cells f_t f_t_codes) eu_3 (if_neg c_2) (k_st (g := s_X8_readSegment_11 f_t_segments f_t_segments_cells f_t f_t_codes u_3) eu_4 rfl (if_pos c_5))))
      exact k_finI (pc := 31) hret rfl (by rw [hs]) (by rw [hs]) dX8_readSegment_31
  · refine k_iconst (pc := 14) C iconst_0 dX8_readSegment_14 ?_
    have hs : (s_X8_readSegment f_t f_t_codes f_t_segments f_t_segments_cells) = (0, u_1.2, f_t_segments, f_t_segments_cells) := (k_st (g := s_X8_readSegment_13 f_t_segments f_t_segments_cells f_t f_t_codes) eu_1 rfl (if_pos c_2))
    exact k_finI (pc := 15) hret rfl (by rw [hs]) (by rw [hs]) dX8_readSegment_15
theorem b_X8_readSegment (f_t : Nat → Int32) (f_t_codes : Nat → Int32) (f_t_segments : Nat → Int32) (f_t_segments_cells : Nat → Int32) : kb (s_X8_readSegment f_t f_t_codes f_t_segments f_t_segments_cells).1 := by
  unfold s_X8_readSegment
  repeat' first | with_reducible exact kb0 | with_reducible exact kb1 | with_reducible exact b_X10_isSegment .. | with_reducible exact b_X8_readNumber .. | with_reducible exact b_X8_readSign .. | with_reducible refine k_bif ?_ ?_ | with_reducible refine k_bif0 ?_ ?_ | unfold s_X8_readSegment_1 | unfold s_X8_readSegment_2 | unfold s_X8_readSegment_3 | unfold s_X8_readSegment_4 | unfold s_X8_readSegment_5 | unfold s_X8_readSegment_6 | unfold s_X8_readSegment_7 | unfold s_X8_readSegment_8 | unfold s_X8_readSegment_9 | unfold s_X8_readSegment_10 | unfold s_X8_readSegment_11 | unfold s_X8_readSegment_12 | unfold s_X8_readSegment_13

theorem dX8_findError_0 : decode cX8_findError 0 = .ok (.aload_n 0, 1) := by decide +kernel
theorem dX8_findError_1 : decode cX8_findError 1 = .ok (.getfield 18, 3) := by decide +kernel
theorem dX8_findError_4 : decode cX8_findError 4 = .ok (.iconst 0, 1) := by decide +kernel
theorem dX8_findError_5 : decode cX8_findError 5 = .ok (.putfield 30, 3) := by decide +kernel
theorem dX8_findError_8 : decode cX8_findError 8 = .ok (.aload_n 0, 1) := by decide +kernel
theorem dX8_findError_9 : decode cX8_findError 9 = .ok (.iconst 0, 1) := by decide +kernel
theorem dX8_findError_10 : decode cX8_findError 10 = .ok (.putfield 33, 3) := by decide +kernel
theorem dX8_findError_13 : decode cX8_findError 13 = .ok (.aload_n 0, 1) := by decide +kernel
theorem dX8_findError_14 : decode cX8_findError 14 = .ok (.sipush (-10000), 3) := by decide +kernel
theorem dX8_findError_17 : decode cX8_findError 17 = .ok (.putfield 36, 3) := by decide +kernel
theorem dX8_findError_20 : decode cX8_findError 20 = .ok (.iconst 0, 1) := by decide +kernel
theorem dX8_findError_21 : decode cX8_findError 21 = .ok (.istore_n 1, 1) := by decide +kernel
theorem dX8_findError_22 : decode cX8_findError 22 = .ok (.iload_n 1, 1) := by decide +kernel
theorem dX8_findError_23 : decode cX8_findError 23 = .ok (.bipush 12, 2) := by decide +kernel
theorem dX8_findError_25 : decode cX8_findError 25 = .ok (.if_icmp .ge 37, 3) := by decide +kernel
theorem dX8_findError_28 : decode cX8_findError 28 = .ok (.aload_n 0, 1) := by decide +kernel
theorem dX8_findError_29 : decode cX8_findError 29 = .ok (.invokevirtual 39, 3) := by decide +kernel
theorem dX8_findError_32 : decode cX8_findError 32 = .ok (.ifCond .ne 8, 3) := by decide +kernel
theorem dX8_findError_35 : decode cX8_findError 35 = .ok (.aload_n 0, 1) := by decide +kernel
theorem dX8_findError_36 : decode cX8_findError 36 = .ok (.getfield 33, 3) := by decide +kernel
theorem dX8_findError_39 : decode cX8_findError 39 = .ok (.ireturn, 1) := by decide +kernel
theorem dX8_findError_40 : decode cX8_findError 40 = .ok (.aload_n 0, 1) := by decide +kernel
theorem dX8_findError_41 : decode cX8_findError 41 = .ok (.getfield 33, 3) := by decide +kernel
theorem dX8_findError_44 : decode cX8_findError 44 = .ok (.aload_n 0, 1) := by decide +kernel
theorem dX8_findError_45 : decode cX8_findError 45 = .ok (.getfield 22, 3) := by decide +kernel
theorem dX8_findError_48 : decode cX8_findError 48 = .ok (.if_icmp .lt 8, 3) := by decide +kernel
theorem dX8_findError_51 : decode cX8_findError 51 = .ok (.aload_n 0, 1) := by decide +kernel
theorem dX8_findError_52 : decode cX8_findError 52 = .ok (.getfield 36, 3) := by decide +kernel
theorem dX8_findError_55 : decode cX8_findError 55 = .ok (.ireturn, 1) := by decide +kernel
theorem dX8_findError_56 : decode cX8_findError 56 = .ok (.iinc 1 1, 3) := by decide +kernel
theorem dX8_findError_59 : decode cX8_findError 59 = .ok (.goto (-37), 3) := by decide +kernel
theorem dX8_findError_62 : decode cX8_findError 62 = .ok (.aload_n 0, 1) := by decide +kernel
theorem dX8_findError_63 : decode cX8_findError 63 = .ok (.getfield 33, 3) := by decide +kernel
theorem dX8_findError_66 : decode cX8_findError 66 = .ok (.ireturn, 1) := by decide +kernel
def b_X8_findError_t_1 (z_5 : Int32 × (Nat → Int32) × (Nat → Int32) × (Nat → Int32)) (u_7 : Int32 × (Nat → Int32) × (Nat → Int32) × (Nat → Int32)) : (Int32 × (Nat → Int32) × (Nat → Int32) × (Nat → Int32)) ⊕ (Int32 × (Nat → Int32) × (Nat → Int32) × (Nat → Int32)) :=
  (if u_7.1 = 0 then (Sum.inr ((u_7.2.1 3), u_7.2.1, u_7.2.2.1, u_7.2.2.2)) else (if (u_7.2.1 3) < (u_7.2.1 1) then (Sum.inl ((z_5.1 + 1), u_7.2.1, u_7.2.2.1, u_7.2.2.2)) else (Sum.inr ((u_7.2.1 5), u_7.2.1, u_7.2.2.1, u_7.2.2.2))))
def b_X8_findError_L22 (f_t_codes : Nat → Int32) (z_5 : Int32 × (Nat → Int32) × (Nat → Int32) × (Nat → Int32)) : (Int32 × (Nat → Int32) × (Nat → Int32) × (Nat → Int32)) ⊕ (Int32 × (Nat → Int32) × (Nat → Int32) × (Nat → Int32)) :=
  (if 12 ≤ z_5.1 then (Sum.inr ((z_5.2.1 3), z_5.2.1, z_5.2.2.1, z_5.2.2.2)) else (b_X8_findError_t_1 z_5 (s_X8_readSegment z_5.2.1 f_t_codes z_5.2.2.1 z_5.2.2.2)))
def s_X8_findError (f_t : Nat → Int32) (f_t_segments : Nat → Int32) (f_t_codes : Nat → Int32) (f_t_segments_cells : Nat → Int32) : Int32 × (Nat → Int32) × (Nat → Int32) × (Nat → Int32) :=
  (kLoop default (b_X8_findError_L22 f_t_codes) ((Int32.toInt 12 - Int32.toInt 0).toNat + 1) (0, (upd (upd f_t 3 0) 5 (-10000)), (upd f_t_segments 1 0), f_t_segments_cells))
set_option maxRecDepth 100000 in
set_option maxHeartbeats 4000000 in
theorem c_X8_findError (l : Launch) (D : va_G) (cI cJ cO : ClassId) (h_t : Nat) (h_t_codes : Nat) (h_t_segments : Nat) (h_t_segments_cells : Nat) (f_t : Nat → Int32) (f_t_segments : Nat → Int32) (f_t_codes : Nat → Int32) (f_t_segments_cells : Nat → Int32) : kI l yX8_findError cX8_findError 2 .int 5 111 D (kT cI cJ cO) [.ref h_t] [(h_t, txE f_t h_t_codes h_t_segments), (h_t_segments, sgE f_t_segments h_t_segments_cells), (h_t_codes, iA cI 90 f_t_codes), (h_t_segments_cells, iA cI 48 f_t_segments_cells)] ((s_X8_findError f_t f_t_segments f_t_codes f_t_segments_cells).1) [(h_t, txE (s_X8_findError f_t f_t_segments f_t_codes f_t_segments_cells).2.1 h_t_codes h_t_segments), (h_t_segments, sgE (s_X8_findError f_t f_t_segments f_t_codes f_t_segments_cells).2.2.1 h_t_segments_cells), (h_t_codes, iA cI 90 f_t_codes), (h_t_segments_cells, iA cI 48 (s_X8_findError f_t f_t_segments f_t_codes f_t_segments_cells).2.2.2)] := by
  refine kI_of (own := RX8) (lv := [(0, .ref h_t)]) rfl rfl (by decide) (Nat.le_of_ble_eq_true rfl) ?_
  intro p e s m args below meth c Q A C hret
  refine k_aload_n (pc := 0) C rfl 0 rfl dX8_findError_0 ?_
  refine g_X8_2 (pc := 1) C q_350 0 rfl dX8_findError_1 ?_
  refine k_iconst (pc := 4) C iconst_0 dX8_findError_4 ?_
  refine p_X6_1 (pc := 5) (ws2 := [(h_t, txE f_t h_t_codes h_t_segments), (h_t_segments, sgE (upd f_t_segments 1 0) h_t_segments_cells), (h_t_codes, iA cI 90 f_t_codes), (h_t_segments_cells, iA cI 48 f_t_segments_cells)]) C q_86 1 rfl rfl dX8_findError_5 ?_
  refine k_aload_n (pc := 8) C rfl 0 rfl dX8_findError_8 ?_
  refine k_iconst (pc := 9) C iconst_0 dX8_findError_9 ?_
  refine p_X8_3 (pc := 10) (ws2 := [(h_t, txE (upd f_t 3 0) h_t_codes h_t_segments), (h_t_segments, sgE (upd f_t_segments 1 0) h_t_segments_cells), (h_t_codes, iA cI 90 f_t_codes), (h_t_segments_cells, iA cI 48 f_t_segments_cells)]) C q_351 0 rfl rfl dX8_findError_10 ?_
  refine k_aload_n (pc := 13) C rfl 0 rfl dX8_findError_13 ?_
  refine k_sipush (pc := 14) C sipush_m10000 dX8_findError_14 ?_
  refine p_X8_5 (pc := 17) (ws2 := [(h_t, txE (upd (upd f_t 3 0) 5 (-10000)) h_t_codes h_t_segments), (h_t_segments, sgE (upd f_t_segments 1 0) h_t_segments_cells), (h_t_codes, iA cI 90 f_t_codes), (h_t_segments_cells, iA cI 48 f_t_segments_cells)]) C q_353 0 rfl rfl dX8_findError_17 ?_
  refine k_iconst (pc := 20) C iconst_0 dX8_findError_20 ?_
  refine k_istore_n (pc := 21) (lv2 := [(1, .int 0), (0, .ref h_t)]) C rfl (by decide) rfl dX8_findError_21 ?_
  have L_10 : ∀ (n : Nat) (z_5 : Int32 × (Nat → Int32) × (Nat → Int32) × (Nat → Int32)), (Int32.toInt 12 - Int32.toInt z_5.1).toNat < n → kLoop default (b_X8_findError_L22 f_t_codes) n z_5 = (s_X8_findError f_t f_t_segments f_t_codes f_t_segments_cells) → KJ p l e (kR 5 111) s m args below meth c 0 0 Q D A 2 [(h_t, txE z_5.2.1 h_t_codes h_t_segments), (h_t_segments, sgE z_5.2.2.1 h_t_segments_cells), (h_t_codes, iA cI 90 f_t_codes), (h_t_segments_cells, iA cI 48 z_5.2.2.2)] [(1, .int z_5.1), (0, .ref h_t)] [] 22 := by
    intro n
    induction n with
    | zero => intro z_5 hmu; exact absurd hmu (Nat.not_lt_zero _)
    | succ n ih =>
      intro z_5 hmu hR
      refine k_iload_n (pc := 22) C rfl 0 rfl dX8_findError_22 ?_
      refine k_bipush (pc := 23) C bipush_12 dX8_findError_23 ?_
      refine k_icmp_ge (pc := 25) (tgt := 62) C dX8_findError_25 (by decide) (fun c_6 => ?_) (fun c_6 => ?_)
      · refine k_aload_n (pc := 62) C rfl 1 rfl dX8_findError_62 ?_
        refine g_X8_3 (pc := 63) (x := (z_5.2.1 3)) C q_351 0 rfl rfl dX8_findError_63 ?_
        have hs : (s_X8_findError f_t f_t_segments f_t_codes f_t_segments_cells) = ((z_5.2.1 3), z_5.2.1, z_5.2.2.1, z_5.2.2.2) := (k_lout hR (if_pos c_6)).symm
        exact k_finI (pc := 66) hret rfl (by rw [hs]) (by rw [hs]) dX8_findError_66
      · refine k_aload_n (pc := 28) C rfl 1 rfl dX8_findError_28 ?_
        obtain ⟨u_7, eu_7⟩ : ∃ z : Int32 × (Nat → Int32) × (Nat → Int32) × (Nat → Int32), z = (s_X8_readSegment z_5.2.1 f_t_codes z_5.2.2.1 z_5.2.2.2) := ⟨_, rfl⟩
        refine k_callVi (pc := 29) (As := []) (rest := []) (r := u_7.1) (wc := [(h_t, txE z_5.2.1 h_t_codes h_t_segments), (h_t_codes, iA cI 90 f_t_codes), (h_t_segments, sgE z_5.2.2.1 h_t_segments_cells), (h_t_segments_cells, iA cI 48 z_5.2.2.2)]) (wc2 := [(h_t, txE u_7.2.1 h_t_codes h_t_segments), (h_t_codes, iA cI 90 f_t_codes), (h_t_segments, sgE u_7.2.2.1 h_t_segments_cells), (h_t_segments_cells, iA cI 48 u_7.2.2.2)]) (ws2 := [(h_t, txE u_7.2.1 h_t_codes h_t_segments), (h_t_segments, sgE u_7.2.2.1 h_t_segments_cells), (h_t_codes, iA cI 90 f_t_codes), (h_t_segments_cells, iA cI 48 u_7.2.2.2)]) C (by rw [eu_7]; exact c_X8_readSegment l D cI cJ cO h_t h_t_codes h_t_segments h_t_segments_cells z_5.2.1 f_t_codes z_5.2.2.1 z_5.2.2.2) cwv_X8_readSegment q_888 vX8 0 rfl [0, 2, 1, 3] rfl rfl (by decide) rfl rfl (Nat.le_of_ble_eq_true rfl) ⟨Nat.le_of_ble_eq_true rfl, Nat.le_of_ble_eq_true rfl⟩ rfl ⟨Nat.le_refl _, Nat.le_refl _⟩ dX8_findError_29 ?_
        refine k_if_ne (pc := 32) (tgt := 40) C dX8_findError_32 (by decide) (fun c_8 => ?_) (fun c_8 => ?_)
        · refine k_aload_n (pc := 40) C rfl 1 rfl dX8_findError_40 ?_
          refine g_X8_3 (pc := 41) (x := (u_7.2.1 3)) C q_351 0 rfl rfl dX8_findError_41 ?_
          refine k_aload_n (pc := 44) C rfl 1 rfl dX8_findError_44 ?_
          refine g_X8_1 (pc := 45) (x := (u_7.2.1 1)) C q_348 0 rfl rfl dX8_findError_45 ?_
          refine k_icmp_lt (pc := 48) (tgt := 56) C dX8_findError_48 (by decide) (fun c_9 => ?_) (fun c_9 => ?_)
          · refine k_iinc (pc := 56) (v := (z_5.1 + 1)) (lv2 := [(1, .int (z_5.1 + 1)), (0, .ref h_t)]) C 0 rfl rfl (by decide) rfl dX8_findError_56 ?_
            refine k_goto (pc := 59) (tgt := 22) C (by decide) dX8_findError_59 ?_
            exact ih ((z_5.1 + 1), u_7.2.1, u_7.2.2.1, u_7.2.2.2) (k_dec (k_nle c_6) hmu) (k_lin hR (k_st (g := b_X8_findError_t_1 z_5) eu_7 (if_neg c_6) ((if_neg c_8).trans (if_pos c_9))))
          · refine k_aload_n (pc := 51) C rfl 1 rfl dX8_findError_51 ?_
            refine g_X8_5 (pc := 52) (x := (u_7.2.1 5)) C q_353 0 rfl rfl dX8_findError_52 ?_
            have hs : (s_X8_findError f_t f_t_segments f_t_codes f_t_segments_cells) = ((u_7.2.1 5), u_7.2.1, u_7.2.2.1, u_7.2.2.2) := (k_lout hR (k_st (g := b_X8_findError_t_1 z_5) eu_7 (if_neg c_6) ((if_neg c_8).trans (if_neg c_9)))).symm
            exact k_finI (pc := 55) hret rfl (by rw [hs]) (by rw [hs]) dX8_findError_55
        · refine k_aload_n (pc := 35) C rfl 1 rfl dX8_findError_35 ?_
          refine g_X8_3 (pc := 36) (x := (u_7.2.1 3)) C q_351 0 rfl rfl dX8_findError_36 ?_
          have hs : (s_X8_findError f_t f_t_segments f_t_codes f_t_segments_cells) = ((u_7.2.1 3), u_7.2.1, u_7.2.2.1, u_7.2.2.2) := (k_lout hR (k_st (g := b_X8_findError_t_1 z_5) eu_7 (if_neg c_6) (if_pos c_8))).symm
          exact k_finI (pc := 39) hret rfl (by rw [hs]) (by rw [hs]) dX8_findError_39
  exact L_10 ((Int32.toInt 12 - Int32.toInt 0).toNat + 1) (0, (upd (upd f_t 3 0) 5 (-10000)), (upd f_t_segments 1 0), f_t_segments_cells) (Nat.lt_succ_self _) (Eq.symm rfl)
