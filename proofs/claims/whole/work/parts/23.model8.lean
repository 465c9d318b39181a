theorem q_36 : Cond.selects RX11 yX11_error yX11_error ∈ lw_all := kq 36 (by decide +kernel) (by decide +kernel)
theorem q_1284 : Cond.methodLink RX11 231 yX11_error ∈ lw_all := kq 1284 (by decide +kernel) (by decide +kernel)
theorem q_1286 : Cond.instanceMethod yX11_error ∈ lw_all := kq 1286 (by decide +kernel) (by decide +kernel)
theorem q_1287 : Cond.code yX11_error cX11_error 2 (some .int) ∈ lw_all := kq 1287 (by decide +kernel) (by decide +kernel)
theorem cwv_X11_error : kCWv yX11_error cX11_error 2 (some .int) 0 := ⟨⟨q_1287, q_53, by decide +kernel⟩, q_1286, q_36⟩
theorem dX11_errorPosition_0 : decode cX11_errorPosition 0 = .ok (.aload_n 0, 1) := by decide +kernel
theorem dX11_errorPosition_1 : decode cX11_errorPosition 1 = .ok (.iconst 0, 1) := by decide +kernel
theorem dX11_errorPosition_2 : decode cX11_errorPosition 2 = .ok (.putfield 50, 3) := by decide +kernel
theorem dX11_errorPosition_5 : decode cX11_errorPosition 5 = .ok (.aload_n 0, 1) := by decide +kernel
theorem dX11_errorPosition_6 : decode cX11_errorPosition 6 = .ok (.invokevirtual 231, 3) := by decide +kernel
theorem dX11_errorPosition_9 : decode cX11_errorPosition 9 = .ok (.ireturn, 1) := by decide +kernel
def s_X11_errorPosition_1 (u_1 : Int32 × (Nat → Int32) × (Nat → Int32)) : Int32 × (Nat → Int32) × (Nat → Int32) :=
  (u_1.1, u_1.2.1, u_1.2.2)
def s_X11_errorPosition (f_t : Nat → Int32) (f_t_text : Nat → Int32) (f_t_told : Nat → Int32) : Int32 × (Nat → Int32) × (Nat → Int32) :=
  (s_X11_errorPosition_1 (s_X11_error (upd f_t 7 0) f_t_text f_t_told))
set_option maxRecDepth 100000 in
set_option maxHeartbeats 4000000 in
theorem c_X11_errorPosition (l : Launch) (D : va_G) (cI cJ cO : ClassId) (h_t : Nat) (h_t_w : Nat) (h_t_saved : Nat) (h_t_trial : Nat) (h_t_text : Nat) (h_t_told : Nat) (f_t : Nat → Int32) (f_t_text : Nat → Int32) (f_t_told : Nat → Int32) (hf_t_6 : kIn (f_t 6) 0 90) : kI l yX11_errorPosition cX11_errorPosition 1 .int 6 133 D (kT cI cJ cO) [.ref h_t] [(h_t, moE f_t h_t_w h_t_saved h_t_trial h_t_text h_t_told), (h_t_text, iA cI 90 f_t_text), (h_t_told, iA cI 48 f_t_told)] ((s_X11_errorPosition f_t f_t_text f_t_told).1) [(h_t, moE (s_X11_errorPosition f_t f_t_text f_t_told).2.1 h_t_w h_t_saved h_t_trial h_t_text h_t_told), (h_t_text, iA cI 90 f_t_text), (h_t_told, iA cI 48 (s_X11_errorPosition f_t f_t_text f_t_told).2.2)] := by
  refine kI_of (own := RX11) (lv := [(0, .ref h_t)]) rfl rfl (by decide) (Nat.le_of_ble_eq_true rfl) ?_
  intro p e s m args below meth c Q A C hret
  refine k_aload_n (pc := 0) C rfl 0 rfl dX11_errorPosition_0 ?_
  refine k_iconst (pc := 1) C iconst_0 dX11_errorPosition_1 ?_
  refine p_X11_7 (pc := 2) (ws2 := [(h_t, moE (upd f_t 7 0) h_t_w h_t_saved h_t_trial h_t_text h_t_told), (h_t_text, iA cI 90 f_t_text), (h_t_told, iA cI 48 f_t_told)]) C q_1005 0 rfl rfl dX11_errorPosition_2 ?_
  refine k_aload_n (pc := 5) C rfl 0 rfl dX11_errorPosition_5 ?_
  obtain ⟨u_1, eu_1⟩ : ∃ z : Int32 × (Nat → Int32) × (Nat → Int32), z = (s_X11_error (upd f_t 7 0) f_t_text f_t_told) := ⟨_, rfl⟩
  refine k_callVi (pc := 6) (As := []) (rest := []) (r := u_1.1) (wc := [(h_t, moE (upd f_t 7 0) h_t_w h_t_saved h_t_trial h_t_text h_t_told), (h_t_text, iA cI 90 f_t_text), (h_t_told, iA cI 48 f_t_told)]) (wc2 := [(h_t, moE u_1.2.1 h_t_w h_t_saved h_t_trial h_t_text h_t_told), (h_t_text, iA cI 90 f_t_text), (h_t_told, iA cI 48 u_1.2.2)]) (ws2 := [(h_t, moE u_1.2.1 h_t_w h_t_saved h_t_trial h_t_text h_t_told), (h_t_text, iA cI 90 f_t_text), (h_t_told, iA cI 48 u_1.2.2)]) C (by rw [eu_1]; exact c_X11_error l D cI cJ cO h_t h_t_w h_t_saved h_t_trial h_t_text h_t_told (upd f_t 7 0) f_t_text f_t_told (kIn.rw (F := (upd f_t 7 0)) (k := 6) (upn (by decide) rfl) hf_t_6 (by decide) (by decide))) cwv_X11_error q_1284 vX11 0 rfl [0, 1, 2] rfl rfl (by decide) rfl rfl (Nat.le_of_ble_eq_true rfl) ⟨Nat.le_of_ble_eq_true rfl, Nat.le_of_ble_eq_true rfl⟩ rfl ⟨Nat.le_refl _, Nat.le_refl _⟩ dX11_errorPosition_6 ?_
  have hs : (s_X11_errorPosition f_t f_t_text f_t_told) = (u_1.1, u_1.2.1, u_1.2.2) := (k_st (g := s_X11_errorPosition_1) eu_1 rfl rfl)
  exact k_finI (pc := 9) hret rfl (by rw [hs]) (by rw [hs]) dX11_errorPosition_9

theorem dX11_load_0 : decode cX11_load 0 = .ok (.aload_n 0, 1) := by decide +kernel
theorem dX11_load_1 : decode cX11_load 1 = .ok (.iconst 0, 1) := by decide +kernel
theorem dX11_load_2 : decode cX11_load 2 = .ok (.putfield 50, 3) := by decide +kernel
theorem dX11_load_5 : decode cX11_load 5 = .ok (.aload_n 0, 1) := by decide +kernel
theorem dX11_load_6 : decode cX11_load 6 = .ok (.invokevirtual 231, 3) := by decide +kernel
theorem dX11_load_9 : decode cX11_load 9 = .ok (.sipush (-10000), 3) := by decide +kernel
theorem dX11_load_12 : decode cX11_load 12 = .ok (.if_icmp .eq 9, 3) := by decide +kernel
theorem dX11_load_15 : decode cX11_load 15 = .ok (.aload_n 0, 1) := by decide +kernel
theorem dX11_load_16 : decode cX11_load 16 = .ok (.iconst 1, 1) := by decide +kernel
theorem dX11_load_17 : decode cX11_load 17 = .ok (.invokevirtual 67, 3) := by decide +kernel
theorem dX11_load_20 : decode cX11_load 20 = .ok (.ireturn, 1) := by decide +kernel
theorem dX11_load_21 : decode cX11_load 21 = .ok (.aload_n 0, 1) := by decide +kernel
theorem dX11_load_22 : decode cX11_load 22 = .ok (.invokevirtual 93, 3) := by decide +kernel
theorem dX11_load_25 : decode cX11_load 25 = .ok (.ifCond .eq 9, 3) := by decide +kernel
theorem dX11_load_28 : decode cX11_load 28 = .ok (.aload_n 0, 1) := by decide +kernel
theorem dX11_load_29 : decode cX11_load 29 = .ok (.iconst 2, 1) := by decide +kernel
theorem dX11_load_30 : decode cX11_load 30 = .ok (.invokevirtual 67, 3) := by decide +kernel
theorem dX11_load_33 : decode cX11_load 33 = .ok (.ireturn, 1) := by decide +kernel
theorem dX11_load_34 : decode cX11_load 34 = .ok (.aload_n 0, 1) := by decide +kernel
theorem dX11_load_35 : decode cX11_load 35 = .ok (.invokevirtual 77, 3) := by decide +kernel
theorem dX11_load_38 : decode cX11_load 38 = .ok (.iconst 0, 1) := by decide +kernel
theorem dX11_load_39 : decode cX11_load 39 = .ok (.istore_n 1, 1) := by decide +kernel
theorem dX11_load_40 : decode cX11_load 40 = .ok (.iload_n 1, 1) := by decide +kernel
theorem dX11_load_41 : decode cX11_load 41 = .ok (.aload_n 0, 1) := by decide +kernel
theorem dX11_load_42 : decode cX11_load 42 = .ok (.getfield 196, 3) := by decide +kernel
theorem dX11_load_45 : decode cX11_load 45 = .ok (.if_icmp .ge 52, 3) := by decide +kernel
theorem dX11_load_48 : decode cX11_load 48 = .ok (.aload_n 0, 1) := by decide +kernel
theorem dX11_load_49 : decode cX11_load 49 = .ok (.iload_n 1, 1) := by decide +kernel
theorem dX11_load_50 : decode cX11_load 50 = .ok (.aload_n 0, 1) := by decide +kernel
theorem dX11_load_51 : decode cX11_load 51 = .ok (.getfield 23, 3) := by decide +kernel
theorem dX11_load_54 : decode cX11_load 54 = .ok (.iconst 4, 1) := by decide +kernel
theorem dX11_load_55 : decode cX11_load 55 = .ok (.iload_n 1, 1) := by decide +kernel
theorem dX11_load_56 : decode cX11_load 56 = .ok (.imul, 1) := by decide +kernel
theorem dX11_load_57 : decode cX11_load 57 = .ok (.iaload, 1) := by decide +kernel
theorem dX11_load_58 : decode cX11_load 58 = .ok (.aload_n 0, 1) := by decide +kernel
theorem dX11_load_59 : decode cX11_load 59 = .ok (.getfield 23, 3) := by decide +kernel
theorem dX11_load_62 : decode cX11_load 62 = .ok (.iconst 4, 1) := by decide +kernel
theorem dX11_load_63 : decode cX11_load 63 = .ok (.iload_n 1, 1) := by decide +kernel
theorem dX11_load_64 : decode cX11_load 64 = .ok (.imul, 1) := by decide +kernel
theorem dX11_load_65 : decode cX11_load 65 = .ok (.iconst 1, 1) := by decide +kernel
theorem dX11_load_66 : decode cX11_load 66 = .ok (.iadd, 1) := by decide +kernel
theorem dX11_load_67 : decode cX11_load 67 = .ok (.iaload, 1) := by decide +kernel
theorem dX11_load_68 : decode cX11_load 68 = .ok (.aload_n 0, 1) := by decide +kernel
theorem dX11_load_69 : decode cX11_load 69 = .ok (.getfield 23, 3) := by decide +kernel
theorem dX11_load_72 : decode cX11_load 72 = .ok (.iconst 4, 1) := by decide +kernel
theorem dX11_load_73 : decode cX11_load 73 = .ok (.iload_n 1, 1) := by decide +kernel
theorem dX11_load_74 : decode cX11_load 74 = .ok (.imul, 1) := by decide +kernel
theorem dX11_load_75 : decode cX11_load 75 = .ok (.iconst 2, 1) := by decide +kernel
theorem dX11_load_76 : decode cX11_load 76 = .ok (.iadd, 1) := by decide +kernel
theorem dX11_load_77 : decode cX11_load 77 = .ok (.iaload, 1) := by decide +kernel
theorem dX11_load_78 : decode cX11_load 78 = .ok (.aload_n 0, 1) := by decide +kernel
theorem dX11_load_79 : decode cX11_load 79 = .ok (.getfield 23, 3) := by decide +kernel
theorem dX11_load_82 : decode cX11_load 82 = .ok (.iconst 4, 1) := by decide +kernel
theorem dX11_load_83 : decode cX11_load 83 = .ok (.iload_n 1, 1) := by decide +kernel
theorem dX11_load_84 : decode cX11_load 84 = .ok (.imul, 1) := by decide +kernel
theorem dX11_load_85 : decode cX11_load 85 = .ok (.iconst 3, 1) := by decide +kernel
theorem dX11_load_86 : decode cX11_load 86 = .ok (.iadd, 1) := by decide +kernel
theorem dX11_load_87 : decode cX11_load 87 = .ok (.iaload, 1) := by decide +kernel
theorem dX11_load_88 : decode cX11_load 88 = .ok (.invokevirtual 171, 3) := by decide +kernel
theorem dX11_load_91 : decode cX11_load 91 = .ok (.iinc 1 1, 3) := by decide +kernel
theorem dX11_load_94 : decode cX11_load 94 = .ok (.goto (-54), 3) := by decide +kernel
theorem dX11_load_97 : decode cX11_load 97 = .ok (.aload_n 0, 1) := by decide +kernel
theorem dX11_load_98 : decode cX11_load 98 = .ok (.getfield 7, 3) := by decide +kernel
theorem dX11_load_101 : decode cX11_load 101 = .ok (.bipush 43, 2) := by decide +kernel
theorem dX11_load_103 : decode cX11_load 103 = .ok (.aload_n 0, 1) := by decide +kernel
theorem dX11_load_104 : decode cX11_load 104 = .ok (.getfield 196, 3) := by decide +kernel
theorem dX11_load_107 : decode cX11_load 107 = .ok (.i2l, 1) := by decide +kernel
theorem dX11_load_108 : decode cX11_load 108 = .ok (.lastore, 1) := by decide +kernel
theorem dX11_load_109 : decode cX11_load 109 = .ok (.aload_n 0, 1) := by decide +kernel
theorem dX11_load_110 : decode cX11_load 110 = .ok (.iconst 0, 1) := by decide +kernel
theorem dX11_load_111 : decode cX11_load 111 = .ok (.putfield 178, 3) := by decide +kernel
theorem dX11_load_114 : decode cX11_load 114 = .ok (.aload_n 0, 1) := by decide +kernel
theorem dX11_load_115 : decode cX11_load 115 = .ok (.getfield 196, 3) := by decide +kernel
theorem dX11_load_118 : decode cX11_load 118 = .ok (.ireturn, 1) := by decide +kernel
def b_X11_load_1 (z_9 : Int32 × (Nat → Int64)) (u_12 : (Nat → Int64)) : (Int32 × (Nat → Int64)) ⊕ (Int32 × (Nat → Int64)) :=
  (Sum.inl ((z_9.1 + 1), u_12))
def b_X11_load_L40 (u_1 : Int32 × (Nat → Int32) × (Nat → Int32)) (u_4 : (Nat → Int32) × (Nat → Int64)) (z_9 : Int32 × (Nat → Int64)) : (Int32 × (Nat → Int64)) ⊕ (Int32 × (Nat → Int64)) :=
  (if (u_1.2.1 8) ≤ z_9.1 then (Sum.inr (z_9.1, z_9.2)) else (b_X11_load_1 z_9 (s_X11_lay u_4.1 z_9.2 z_9.1 (u_1.2.2 (Int32.toNatClampNeg (4 * z_9.1))) (u_1.2.2 (Int32.toNatClampNeg ((4 * z_9.1) + 1))) (u_1.2.2 (Int32.toNatClampNeg ((4 * z_9.1) + 2))) (u_1.2.2 (Int32.toNatClampNeg ((4 * z_9.1) + 3))))))
def s_X11_load_2 (u_1 : Int32 × (Nat → Int32) × (Nat → Int32)) (u_4 : (Nat → Int32) × (Nat → Int64)) (m_13 : Int32 × (Nat → Int64)) : Int32 × (Nat → Int32) × (Nat → Int32) × (Nat → Int64) × (Nat → Int64) :=
  ((u_1.2.1 8), (upd u_4.1 6 0), u_1.2.2, (vp_updL m_13.2 43 (Int32.toInt64 (u_1.2.1 8))), u_4.2)
def s_X11_load_3 (u_1 : Int32 × (Nat → Int32) × (Nat → Int32)) (f_t_w : Nat → Int64) (u_4 : (Nat → Int32) × (Nat → Int64)) : Int32 × (Nat → Int32) × (Nat → Int32) × (Nat → Int64) × (Nat → Int64) :=
  (s_X11_load_2 u_1 u_4 (kLoop default (b_X11_load_L40 u_1 u_4) ((Int32.toInt (u_1.2.1 8) - Int32.toInt 0).toNat + 1) (0, f_t_w)))
def s_X11_load_4 (u_1 : Int32 × (Nat → Int32) × (Nat → Int32)) (f_t_w : Nat → Int64) (f_t_saved : Nat → Int64) (u_14 : Int32 × (Nat → Int32)) : Int32 × (Nat → Int32) × (Nat → Int32) × (Nat → Int64) × (Nat → Int64) :=
  (u_14.1, u_14.2, u_1.2.2, f_t_w, f_t_saved)
def s_X11_load_5 (u_1 : Int32 × (Nat → Int32) × (Nat → Int32)) (f_t_w : Nat → Int64) (f_t_saved : Nat → Int64) (u_15 : Int32 × (Nat → Int32)) : Int32 × (Nat → Int32) × (Nat → Int32) × (Nat → Int64) × (Nat → Int64) :=
  (u_15.1, u_15.2, u_1.2.2, f_t_w, f_t_saved)
def s_X11_load_6 (f_t_w : Nat → Int64) (f_t_saved : Nat → Int64) (u_1 : Int32 × (Nat → Int32) × (Nat → Int32)) : Int32 × (Nat → Int32) × (Nat → Int32) × (Nat → Int64) × (Nat → Int64) :=
  (if u_1.1 = (-10000) then (if (s_X11_runs u_1.2.1 f_t_w) = 0 then (s_X11_load_3 u_1 f_t_w (s_X11_save u_1.2.1 f_t_saved f_t_w)) else (s_X11_load_4 u_1 f_t_w f_t_saved (s_X11_refuse u_1.2.1 2))) else (s_X11_load_5 u_1 f_t_w f_t_saved (s_X11_refuse u_1.2.1 1)))
def s_X11_load (f_t : Nat → Int32) (f_t_text : Nat → Int32) (f_t_told : Nat → Int32) (f_t_w : Nat → Int64) (f_t_saved : Nat → Int64) : Int32 × (Nat → Int32) × (Nat → Int32) × (Nat → Int64) × (Nat → Int64) :=
  (s_X11_load_6 f_t_w f_t_saved (s_X11_error (upd f_t 7 0) f_t_text f_t_told))
set_option maxRecDepth 100000 in
set_option maxHeartbeats 4000000 in
theorem c_X11_load (l : Launch) (D : va_G) (cI cJ cO : ClassId) (h_t : Nat) (h_t_w : Nat) (h_t_saved : Nat) (h_t_trial : Nat) (h_t_text : Nat) (h_t_told : Nat) (f_t : Nat → Int32) (f_t_text : Nat → Int32) (f_t_told : Nat → Int32) (f_t_w : Nat → Int64) (f_t_saved : Nat → Int64) (hf_t_5 : kIn (f_t 5) 0 6) (hf_t_6 : kIn (f_t 6) 0 90) : kI l yX11_load cX11_load 2 .int 6 133 D (kT cI cJ cO) [.ref h_t] [(h_t, moE f_t h_t_w h_t_saved h_t_trial h_t_text h_t_told), (h_t_text, iA cI 90 f_t_text), (h_t_told, iA cI 48 f_t_told), (h_t_w, jA cJ 294 f_t_w), (h_t_saved, jA cJ 1764 f_t_saved)] ((s_X11_load f_t f_t_text f_t_told f_t_w f_t_saved).1) [(h_t, moE (s_X11_load f_t f_t_text f_t_told f_t_w f_t_saved).2.1 h_t_w h_t_saved h_t_trial h_t_text h_t_told), (h_t_text, iA cI 90 f_t_text), (h_t_told, iA cI 48 (s_X11_load f_t f_t_text f_t_told f_t_w f_t_saved).2.2.1), (h_t_w, jA cJ 294 (s_X11_load f_t f_t_text f_t_told f_t_w f_t_saved).2.2.2.1), (h_t_saved, jA cJ 1764 (s_X11_load f_t f_t_text f_t_told f_t_w f_t_saved).2.2.2.2)] := by
  refine kI_of (own := RX11) (lv := [(0, .ref h_t)]) rfl rfl (by decide) (Nat.le_of_ble_eq_true rfl) ?_
  intro p e s m args below meth c Q A C hret
  refine k_aload_n (pc := 0) C rfl 0 rfl dX11_load_0 ?_
  refine k_iconst (pc := 1) C iconst_0 dX11_load_1 ?_
  refine p_X11_7 (pc := 2) (ws2 := [(h_t, moE (upd f_t 7 0) h_t_w h_t_saved h_t_trial h_t_text h_t_told), (h_t_text, iA cI 90 f_t_text), (h_t_told, iA cI 48 f_t_told), (h_t_w, jA cJ 294 f_t_w), (h_t_saved, jA cJ 1764 f_t_saved)]) C q_1005 0 rfl rfl dX11_load_2 ?_
  refine k_aload_n (pc := 5) C rfl 0 rfl dX11_load_5 ?_
  obtain ⟨u_1, eu_1⟩ : ∃ z : Int32 × (Nat → Int32) × (Nat → Int32), z = (s_X11_error (upd f_t 7 0) f_t_text f_t_told) := ⟨_, rfl⟩
  refine k_callVi (pc := 6) (As := []) (rest := []) (r := u_1.1) (wc := [(h_t, moE (upd f_t 7 0) h_t_w h_t_saved h_t_trial h_t_text h_t_told), (h_t_text, iA cI 90 f_t_text), (h_t_told, iA cI 48 f_t_told)]) (wc2 := [(h_t, moE u_1.2.1 h_t_w h_t_saved h_t_trial h_t_text h_t_told), (h_t_text, iA cI 90 f_t_text), (h_t_told, iA cI 48 u_1.2.2)]) (ws2 := [(h_t, moE u_1.2.1 h_t_w h_t_saved h_t_trial h_t_text h_t_told), (h_t_text, iA cI 90 f_t_text), (h_t_told, iA cI 48 u_1.2.2), (h_t_w, jA cJ 294 f_t_w), (h_t_saved, jA cJ 1764 f_t_saved)]) C (by rw [eu_1]; exact c_X11_error l D cI cJ cO h_t h_t_w h_t_saved h_t_trial h_t_text h_t_told (upd f_t 7 0) f_t_text f_t_told (kIn.rw (F := (upd f_t 7 0)) (k := 6) (upn (by decide) rfl) hf_t_6 (by decide) (by decide))) cwv_X11_error q_1284 vX11 0 rfl [0, 1, 2] rfl rfl (by decide) rfl rfl (Nat.le_of_ble_eq_true rfl) ⟨Nat.le_of_ble_eq_true rfl, Nat.le_of_ble_eq_true rfl⟩ rfl ⟨Nat.le_refl _, Nat.le_refl _⟩ dX11_load_6 ?_
  refine k_sipush (pc := 9) C sipush_m10000 dX11_load_9 ?_
  refine k_icmp_eq (pc := 12) (tgt := 21) C dX11_load_12 (by decide) (fun c_2 => ?_) (fun c_2 => ?_)
  · refine k_aload_n (pc := 21) C rfl 0 rfl dX11_load_21 ?_
    refine k_callVi (pc := 22) (As := []) (rest := []) (r := (s_X11_runs u_1.2.1 f_t_w)) (wc := [(h_t, moE u_1.2.1 h_t_w h_t_saved h_t_trial h_t_text h_t_told), (h_t_w, jA cJ 294 f_t_w)]) (wc2 := [(h_t, moE u_1.2.1 h_t_w h_t_saved h_t_trial h_t_text h_t_told), (h_t_w, jA cJ 294 f_t_w)]) (ws2 := [(h_t, moE u_1.2.1 h_t_w h_t_saved h_t_trial h_t_text h_t_told), (h_t_text, iA cI 90 f_t_text), (h_t_told, iA cI 48 u_1.2.2), (h_t_w, jA cJ 294 f_t_w), (h_t_saved, jA cJ 1764 f_t_saved)]) C (c_X11_runs l D cI cJ cO h_t h_t_w h_t_saved h_t_trial h_t_text h_t_told u_1.2.1 f_t_w) cwv_X11_runs q_1085 vX11 0 rfl [0, 3] rfl rfl (by decide) rfl rfl (Nat.le_of_ble_eq_true rfl) ⟨Nat.le_of_ble_eq_true rfl, Nat.le_of_ble_eq_true rfl⟩ rfl ⟨Nat.le_refl _, Nat.le_refl _⟩ dX11_load_22 ?_
    refine k_if_eq (pc := 25) (tgt := 34) C dX11_load_25 (by decide) (fun c_3 => ?_) (fun c_3 => ?_)
    · refine k_aload_n (pc := 34) C rfl 0 rfl dX11_load_34 ?_
      obtain ⟨u_4, eu_4⟩ : ∃ z : (Nat → Int32) × (Nat → Int64), z = (s_X11_save u_1.2.1 f_t_saved f_t_w) := ⟨_, rfl⟩
      refine k_callVv (pc := 35) (As := []) (rest := []) (wc := [(h_t, moE u_1.2.1 h_t_w h_t_saved h_t_trial h_t_text h_t_told), (h_t_saved, jA cJ 1764 f_t_saved), (h_t_w, jA cJ 294 f_t_w)]) (wc2 := [(h_t, moE u_4.1 h_t_w h_t_saved h_t_trial h_t_text h_t_told), (h_t_saved, jA cJ 1764 u_4.2), (h_t_w, jA cJ 294 f_t_w)]) (ws2 := [(h_t, moE u_4.1 h_t_w h_t_saved h_t_trial h_t_text h_t_told), (h_t_text, iA cI 90 f_t_text), (h_t_told, iA cI 48 u_1.2.2), (h_t_w, jA cJ 294 f_t_w), (h_t_saved, jA cJ 1764 u_4.2)]) C (by rw [eu_4]; exact c_X11_save l D cI cJ cO h_t h_t_w h_t_saved h_t_trial h_t_text h_t_told u_1.2.1 f_t_saved f_t_w (kIn.rw (F := u_1.2.1) (k := 5) (((fr_ofp (fun z => z.2.1) eu_1 (fr_X11_error (upd f_t 7 0) f_t_text f_t_told (kIn.rw (F := (upd f_t 7 0)) (k := 6) (upn (by decide) rfl) hf_t_6 (by decide) (by decide)))) 5 (by decide)).trans (upn (by decide) rfl)) hf_t_5 (by decide) (by decide))) cwv_X11_save q_1064 vX11 0 rfl [0, 4, 3] rfl rfl (by decide) rfl rfl (Nat.le_of_ble_eq_true rfl) ⟨Nat.le_of_ble_eq_true rfl, Nat.le_of_ble_eq_true rfl⟩ rfl ⟨Nat.le_refl _, Nat.le_refl _⟩ dX11_load_35 ?_
      refine k_iconst (pc := 38) C iconst_0 dX11_load_38 ?_
      refine k_istore_n (pc := 39) (lv2 := [(1, .int 0), (0, .ref h_t)]) C rfl (by decide) rfl dX11_load_39 ?_
      have K_16 : ∀ (m_13 : Int32 × (Nat → Int64)), m_13 = (kLoop default (b_X11_load_L40 u_1 u_4) ((Int32.toInt (u_1.2.1 8) - Int32.toInt 0).toNat + 1) (0, f_t_w)) → KJ p l e (kR 6 133) s m args below meth c 0 0 Q D A 2 [(h_t, moE u_4.1 h_t_w h_t_saved h_t_trial h_t_text h_t_told), (h_t_text, iA cI 90 f_t_text), (h_t_told, iA cI 48 u_1.2.2), (h_t_w, jA cJ 294 m_13.2), (h_t_saved, jA cJ 1764 u_4.2)] [(0, .ref h_t)] [] 97 := by
        intro m_13 em_13
        refine k_aload_n (pc := 97) C rfl 0 rfl dX11_load_97 ?_
        refine g_X11_0 (pc := 98) C q_998 0 rfl dX11_load_98 ?_
        refine k_bipush (pc := 101) C bipush_43 dX11_load_101 ?_
        refine k_aload_n (pc := 103) C rfl 0 rfl dX11_load_103 ?_
        refine g_X11_8 (pc := 104) (x := (u_1.2.1 8)) C q_1006 0 rfl (((fr_ofp (fun z => z.1) eu_4 (fr_X11_save_t u_1.2.1 f_t_saved f_t_w (kIn.rw (F := u_1.2.1) (k := 5) (((fr_ofp (fun z => z.2.1) eu_1 (fr_X11_error (upd f_t 7 0) f_t_text f_t_told (kIn.rw (F := (upd f_t 7 0)) (k := 6) (upn (by decide) rfl) hf_t_6 (by decide) (by decide)))) 5 (by decide)).trans (upn (by decide) rfl)) hf_t_5 (by decide) (by decide)))) 8 (by decide)).trans rfl) dX11_load_104 ?_
        refine k_i2l (pc := 107) C dX11_load_107 ?_
        refine k_lastK (pc := 108) (ws2 := [(h_t, moE u_4.1 h_t_w h_t_saved h_t_trial h_t_text h_t_told), (h_t_text, iA cI 90 f_t_text), (h_t_told, iA cI 48 u_1.2.2), (h_t_w, jA cJ 294 (vp_updL m_13.2 43 (Int32.toInt64 (u_1.2.1 8)))), (h_t_saved, jA cJ 1764 u_4.2)]) C 3 1 rfl rfl (k_vinc 43 cl_43 (by decide) (by decide)) cl_43 rfl dX11_load_108 ?_
        refine k_aload_n (pc := 109) C rfl 0 rfl dX11_load_109 ?_
        refine k_iconst (pc := 110) C iconst_0 dX11_load_110 ?_
        refine p_X11_6 (pc := 111) (ws2 := [(h_t, moE (upd u_4.1 6 0) h_t_w h_t_saved h_t_trial h_t_text h_t_told), (h_t_text, iA cI 90 f_t_text), (h_t_told, iA cI 48 u_1.2.2), (h_t_w, jA cJ 294 (vp_updL m_13.2 43 (Int32.toInt64 (u_1.2.1 8)))), (h_t_saved, jA cJ 1764 u_4.2)]) C q_1004 0 rfl rfl dX11_load_111 ?_
        refine k_aload_n (pc := 114) C rfl 0 rfl dX11_load_114 ?_
        refine g_X11_8 (pc := 115) (x := (u_1.2.1 8)) C q_1006 0 rfl (upn (by decide) (((fr_ofp (fun z => z.1) eu_4 (fr_X11_save_t u_1.2.1 f_t_saved f_t_w (kIn.rw (F := u_1.2.1) (k := 5) (((fr_ofp (fun z => z.2.1) eu_1 (fr_X11_error (upd f_t 7 0) f_t_text f_t_told (kIn.rw (F := (upd f_t 7 0)) (k := 6) (upn (by decide) rfl) hf_t_6 (by decide) (by decide)))) 5 (by decide)).trans (upn (by decide) rfl)) hf_t_5 (by decide) (by decide)))) 8 (by decide)).trans rfl)) dX11_load_115 ?_
        have hs : (s_X11_load f_t f_t_text f_t_told f_t_w f_t_saved) = ((u_1.2.1 8), (upd u_4.1 6 0), u_1.2.2, (vp_updL m_13.2 43 (Int32.toInt64 (u_1.2.1 8))), u_4.2) := (k_st (g := s_X11_load_6 f_t_w f_t_saved) eu_1 rfl (k_st (g := s_X11_load_3 u_1 f_t_w) eu_4 ((if_pos c_2).trans (if_pos c_3)) (k_st (g := s_X11_load_2 u_1 u_4) em_13 rfl rfl)))
        exact k_finI (pc := 118) hret rfl (by rw [hs]) (by rw [hs]) dX11_load_118
      have L_17 : ∀ (n : Nat) (z_9 : Int32 × (Nat → Int64)), (Int32.toInt (u_1.2.1 8) - Int32.toInt z_9.1).toNat < n → (kIn z_9.1 0 12) → kLoop default (b_X11_load_L40 u_1 u_4) n z_9 = (kLoop default (b_X11_load_L40 u_1 u_4) ((Int32.toInt (u_1.2.1 8) - Int32.toInt 0).toNat + 1) (0, f_t_w)) → KJ p l e (kR 6 133) s m args below meth c 0 0 Q D A 2 [(h_t, moE u_4.1 h_t_w h_t_saved h_t_trial h_t_text h_t_told), (h_t_text, iA cI 90 f_t_text), (h_t_told, iA cI 48 u_1.2.2), (h_t_w, jA cJ 294 z_9.2), (h_t_saved, jA cJ 1764 u_4.2)] [(1, .int z_9.1), (0, .ref h_t)] [] 40 := by
        intro n
        induction n with
        | zero => intro z_9 hmu; exact absurd hmu (Nat.not_lt_zero _)
        | succ n ih =>
          intro z_9 hmu hl_10 hR
          refine k_iload_n (pc := 40) C rfl 0 rfl dX11_load_40 ?_
          refine k_aload_n (pc := 41) C rfl 1 rfl dX11_load_41 ?_
          refine g_X11_8 (pc := 42) (x := (u_1.2.1 8)) C q_1006 0 rfl (((fr_ofp (fun z => z.1) eu_4 (fr_X11_save_t u_1.2.1 f_t_saved f_t_w (kIn.rw (F := u_1.2.1) (k := 5) (((fr_ofp (fun z => z.2.1) eu_1 (fr_X11_error (upd f_t 7 0) f_t_text f_t_told (kIn.rw (F := (upd f_t 7 0)) (k := 6) (upn (by decide) rfl) hf_t_6 (by decide) (by decide)))) 5 (by decide)).trans (upn (by decide) rfl)) hf_t_5 (by decide) (by decide)))) 8 (by decide)).trans rfl) dX11_load_42 ?_
          refine k_icmp_ge (pc := 45) (tgt := 97) C dX11_load_45 (by decide) (fun c_11 => ?_) (fun c_11 => ?_)
          · refine k_lpick (lv2 := [(0, .ref h_t)]) [1] rfl ?_
            exact K_16 (z_9.1, z_9.2) (k_lout hR (if_pos c_11))
          · refine k_aload_n (pc := 48) C rfl 1 rfl dX11_load_48 ?_
            refine k_iload_n (pc := 49) C rfl 0 rfl dX11_load_49 ?_
            refine k_aload_n (pc := 50) C rfl 1 rfl dX11_load_50 ?_
            refine g_X11_4 (pc := 51) C q_1002 0 rfl dX11_load_51 ?_
            refine k_iconst (pc := 54) C iconst_4 dX11_load_54 ?_
            refine k_iload_n (pc := 55) C rfl 0 rfl dX11_load_55 ?_
            refine k_imul (pc := 56) C dX11_load_56 ?_
            refine k_ialdK (pc := 57) (v := (u_1.2.2 (Int32.toNatClampNeg (4 * z_9.1)))) C 2 0 rfl rfl (kIn.vp (kIn.mul (n := 4) (by decide) (by decide) (kIn.nleB hl_10 (by rw [eu_1]; exact po_X11_error (upd f_t 7 0) f_t_text f_t_told (kIn.rw (F := (upd f_t 7 0)) (k := 6) (upn (by decide) rfl) hf_t_6 (by decide) (by decide))) c_11 : kIn z_9.1 0 11) (by decide) (by decide)) (by decide) (by decide)) rfl rfl dX11_load_57 ?_
            refine k_aload_n (pc := 58) C rfl 1 rfl dX11_load_58 ?_
            refine g_X11_4 (pc := 59) C q_1002 0 rfl dX11_load_59 ?_
            refine k_iconst (pc := 62) C iconst_4 dX11_load_62 ?_
            refine k_iload_n (pc := 63) C rfl 0 rfl dX11_load_63 ?_
            refine k_imul (pc := 64) C dX11_load_64 ?_
            refine k_iconst (pc := 65) C iconst_1 dX11_load_65 ?_
            refine k_iadd (pc := 66) C dX11_load_66 ?_
            refine k_ialdK (pc := 67) (v := (u_1.2.2 (Int32.toNatClampNeg ((4 * z_9.1) + 1)))) C 2 0 rfl rfl (kIn.vp (kIn.add (kIn.mul (n := 4) (by decide) (by decide) (kIn.nleB hl_10 (by rw [eu_1]; exact po_X11_error (upd f_t 7 0) f_t_text f_t_told (kIn.rw (F := (upd f_t 7 0)) (k := 6) (upn (by decide) rfl) hf_t_6 (by decide) (by decide))) c_11 : kIn z_9.1 0 11) (by decide) (by decide)) (kIn.lit (x := 1) (n := 1) (by decide)) (by decide) (by decide)) (by decide) (by decide)) rfl rfl dX11_load_67 ?_
            refine k_aload_n (pc := 68) C rfl 1 rfl dX11_load_68 ?_
            refine g_X11_4 (pc := 69) C q_1002 0 rfl dX11_load_69 ?_
            refine k_iconst (pc := 72) C iconst_4 dX11_load_72 ?_
            refine k_iload_n (pc := 73) C rfl 0 rfl dX11_load_73 ?_
            refine k_imul (pc := 74) C dX11_load_74 ?_
            refine k_iconst (pc := 75) C iconst_2 dX11_load_75 ?_
            refine k_iadd (pc := 76) C dX11_load_76 ?_
            refine k_ialdK (pc := 77) (v := (u_1.2.2 (Int32.toNatClampNeg ((4 * z_9.1) + 2)))) C 2 0 rfl rfl (kIn.vp (kIn.add (kIn.mul (n := 4) (by decide) (by decide) (kIn.nleB hl_10 (by rw [eu_1]; exact po_X11_error (upd f_t 7 0) f_t_text f_t_told (kIn.rw (F := (upd f_t 7 0)) (k := 6) (upn (by decide) rfl) hf_t_6 (by decide) (by decide))) c_11 : kIn z_9.1 0 11) (by decide) (by decide)) (kIn.lit (x := 2) (n := 2) (by decide)) (by decide) (by decide)) (by decide) (by decide)) rfl rfl dX11_load_77 ?_
            refine k_aload_n (pc := 78) C rfl 1 rfl dX11_load_78 ?_
            refine g_X11_4 (pc := 79) C q_1002 0 rfl dX11_load_79 ?_
            refine k_iconst (pc := 82) C iconst_4 dX11_load_82 ?_
            refine k_iload_n (pc := 83) C rfl 0 rfl dX11_load_83 ?_
            refine k_imul (pc := 84) C dX11_load_84 ?_
            refine k_iconst (pc := 85) C iconst_3 dX11_load_85 ?_
            refine k_iadd (pc := 86) C dX11_load_86 ?_
            refine k_ialdK (pc := 87) (v := (u_1.2.2 (Int32.toNatClampNeg ((4 * z_9.1) + 3)))) C 2 0 rfl rfl (kIn.vp (kIn.add (kIn.mul (n := 4) (by decide) (by decide) (kIn.nleB hl_10 (by rw [eu_1]; exact po_X11_error (upd f_t 7 0) f_t_text f_t_told (kIn.rw (F := (upd f_t 7 0)) (k := 6) (upn (by decide) rfl) hf_t_6 (by decide) (by decide))) c_11 : kIn z_9.1 0 11) (by decide) (by decide)) (kIn.lit (x := 3) (n := 3) (by decide)) (by decide) (by decide)) (by decide) (by decide)) rfl rfl dX11_load_87 ?_
            obtain ⟨u_12, eu_12⟩ : ∃ z : (Nat → Int64), z = (s_X11_lay u_4.1 z_9.2 z_9.1 (u_1.2.2 (Int32.toNatClampNeg (4 * z_9.1))) (u_1.2.2 (Int32.toNatClampNeg ((4 * z_9.1) + 1))) (u_1.2.2 (Int32.toNatClampNeg ((4 * z_9.1) + 2))) (u_1.2.2 (Int32.toNatClampNeg ((4 * z_9.1) + 3)))) := ⟨_, rfl⟩
            refine k_callVv (pc := 88) (As := [.int z_9.1, .int (u_1.2.2 (Int32.toNatClampNeg (4 * z_9.1))), .int (u_1.2.2 (Int32.toNatClampNeg ((4 * z_9.1) + 1))), .int (u_1.2.2 (Int32.toNatClampNeg ((4 * z_9.1) + 2))), .int (u_1.2.2 (Int32.toNatClampNeg ((4 * z_9.1) + 3)))]) (rest := []) (wc := [(h_t, moE u_4.1 h_t_w h_t_saved h_t_trial h_t_text h_t_told), (h_t_w, jA cJ 294 z_9.2)]) (wc2 := [(h_t, moE u_4.1 h_t_w h_t_saved h_t_trial h_t_text h_t_told), (h_t_w, jA cJ 294 u_12)]) (ws2 := [(h_t, moE u_4.1 h_t_w h_t_saved h_t_trial h_t_text h_t_told), (h_t_text, iA cI 90 f_t_text), (h_t_told, iA cI 48 u_1.2.2), (h_t_w, jA cJ 294 u_12), (h_t_saved, jA cJ 1764 u_4.2)]) C (by rw [eu_12]; exact c_X11_lay l D cI cJ cO h_t h_t_w h_t_saved h_t_trial h_t_text h_t_told u_4.1 z_9.2 z_9.1 (u_1.2.2 (Int32.toNatClampNeg (4 * z_9.1))) (u_1.2.2 (Int32.toNatClampNeg ((4 * z_9.1) + 1))) (u_1.2.2 (Int32.toNatClampNeg ((4 * z_9.1) + 2))) (u_1.2.2 (Int32.toNatClampNeg ((4 * z_9.1) + 3))) (kIn.wk (kIn.nleB hl_10 (by rw [eu_1]; exact po_X11_error (upd f_t 7 0) f_t_text f_t_told (kIn.rw (F := (upd f_t 7 0)) (k := 6) (upn (by decide) rfl) hf_t_6 (by decide) (by decide))) c_11 : kIn z_9.1 0 11) (by decide) (by decide))) cwv_X11_lay q_1173 vX11 0 rfl [0, 3] rfl rfl (by decide) rfl rfl (Nat.le_of_ble_eq_true rfl) ⟨Nat.le_of_ble_eq_true rfl, Nat.le_of_ble_eq_true rfl⟩ rfl ⟨Nat.le_refl _, Nat.le_refl _⟩ dX11_load_88 ?_
            refine k_iinc (pc := 91) (v := (z_9.1 + 1)) (lv2 := [(1, .int (z_9.1 + 1)), (0, .ref h_t)]) C 0 rfl rfl (by decide) rfl dX11_load_91 ?_
            refine k_goto (pc := 94) (tgt := 40) C (by decide) dX11_load_94 ?_
            exact ih ((z_9.1 + 1), u_12) (k_dec (k_nle c_11) hmu) (kIn.wk (kIn.add (kIn.nleB hl_10 (by rw [eu_1]; exact po_X11_error (upd f_t 7 0) f_t_text f_t_told (kIn.rw (F := (upd f_t 7 0)) (k := 6) (upn (by decide) rfl) hf_t_6 (by decide) (by decide))) c_11 : kIn z_9.1 0 11) (kIn.lit (x := 1) (n := 1) (by decide)) (by decide) (by decide)) (by decide) (by decide)) (k_lin hR (k_st (g := b_X11_load_1 z_9) eu_12 (if_neg c_11) rfl))
      exact L_17 ((Int32.toInt (u_1.2.1 8) - Int32.toInt 0).toNat + 1) (0, f_t_w) (Nat.lt_succ_self _) (kIn.wk (kIn.lit (x := 0) (n := 0) (by decide)) (by decide) (by decide)) rfl
    · refine k_aload_n (pc := 28) C rfl 0 rfl dX11_load_28 ?_
      refine k_iconst (pc := 29) C iconst_2 dX11_load_29 ?_
      obtain ⟨u_14, eu_14⟩ : ∃ z : Int32 × (Nat → Int32), z = (s_X11_refuse u_1.2.1 2) := ⟨_, rfl⟩
      refine k_callVi (pc := 30) (As := [.int 2]) (rest := []) (r := u_14.1) (wc := [(h_t, moE u_1.2.1 h_t_w h_t_saved h_t_trial h_t_text h_t_told)]) (wc2 := [(h_t, moE u_14.2 h_t_w h_t_saved h_t_trial h_t_text h_t_told)]) (ws2 := [(h_t, moE u_14.2 h_t_w h_t_saved h_t_trial h_t_text h_t_told), (h_t_text, iA cI 90 f_t_text), (h_t_told, iA cI 48 u_1.2.2), (h_t_w, jA cJ 294 f_t_w), (h_t_saved, jA cJ 1764 f_t_saved)]) C (by rw [eu_14]; exact c_X11_refuse l D cI cJ cO h_t h_t_w h_t_saved h_t_trial h_t_text h_t_told u_1.2.1 2) cwv_X11_refuse q_1054 vX11 0 rfl [0] rfl rfl (by decide) rfl rfl (Nat.le_of_ble_eq_true rfl) ⟨Nat.le_of_ble_eq_true rfl, Nat.le_of_ble_eq_true rfl⟩ rfl ⟨Nat.le_refl _, Nat.le_refl _⟩ dX11_load_30 ?_
      have hs : (s_X11_load f_t f_t_text f_t_told f_t_w f_t_saved) = (u_14.1, u_14.2, u_1.2.2, f_t_w, f_t_saved) := (k_st (g := s_X11_load_6 f_t_w f_t_saved) eu_1 rfl (k_st (g := s_X11_load_4 u_1 f_t_w f_t_saved) eu_14 ((if_pos c_2).trans (if_neg c_3)) rfl))
      exact k_finI (pc := 33) hret rfl (by rw [hs]) (by rw [hs]) dX11_load_33
  · refine k_aload_n (pc := 15) C rfl 0 rfl dX11_load_15 ?_
    refine k_iconst (pc := 16) C iconst_1 dX11_load_16 ?_
    obtain ⟨u_15, eu_15⟩ : ∃ z : Int32 × (Nat → Int32), z = (s_X11_refuse u_1.2.1 1) := ⟨_, rfl⟩
    refine k_callVi (pc := 17) (As := [.int 1]) (rest := []) (r := u_15.1) (wc := [(h_t, moE u_1.2.1 h_t_w h_t_saved h_t_trial h_t_text h_t_told)]) (wc2 := [(h_t, moE u_15.2 h_t_w h_t_saved h_t_trial h_t_text h_t_told)]) (ws2 := [(h_t, moE u_15.2 h_t_w h_t_saved h_t_trial h_t_text h_t_told), (h_t_text, iA cI 90 f_t_text), (h_t_told, iA cI 48 u_1.2.2), (h_t_w, jA cJ 294 f_t_w), (h_t_saved, jA cJ 1764 f_t_saved)]) C (by rw [eu_15]; exact c_X11_refuse l D cI cJ cO h_t h_t_w h_t_saved h_t_trial h_t_text h_t_told u_1.2.1 1) cwv_X11_refuse q_1054 vX11 0 rfl [0] rfl rfl (by decide) rfl rfl (Nat.le_of_ble_eq_true rfl) ⟨Nat.le_of_ble_eq_true rfl, Nat.le_of_ble_eq_true rfl⟩ rfl ⟨Nat.le_refl _, Nat.le_refl _⟩ dX11_load_17 ?_
    have hs : (s_X11_load f_t f_t_text f_t_told f_t_w f_t_saved) = (u_15.1, u_15.2, u_1.2.2, f_t_w, f_t_saved) := (k_st (g := s_X11_load_6 f_t_w f_t_saved) eu_1 rfl (k_st (g := s_X11_load_5 u_1 f_t_w f_t_saved) eu_15 (if_neg c_2) rfl))
    exact k_finI (pc := 20) hret rfl (by rw [hs]) (by rw [hs]) dX11_load_20
