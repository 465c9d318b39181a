theorem q_19 : Cond.selects RX11 yX11_minute yX11_minute ∈ lw_all := kq 19 (by decide +kernel) (by decide +kernel)
theorem q_33 : Cond.selects RX11 yX11_from yX11_from ∈ lw_all := kq 33 (by decide +kernel) (by decide +kernel)
theorem q_34 : Cond.selects RX11 yX11_beginTrial yX11_beginTrial ∈ lw_all := kq 34 (by decide +kernel) (by decide +kernel)
theorem q_35 : Cond.selects RX11 yX11_endTrial yX11_endTrial ∈ lw_all := kq 35 (by decide +kernel) (by decide +kernel)
theorem q_1000 : Cond.fieldLink RX11 16 "ClimateChamberModel" "trial" "[J" ∈ lw_all := kq 1000 (by decide +kernel) (by decide +kernel)
theorem q_1104 : Cond.constantLong RX11 160 (20000) ∈ lw_all := kq 1104 (by decide +kernel) (by decide +kernel)
theorem q_1105 : Cond.methodLink RX11 162 yX11_minute ∈ lw_all := kq 1105 (by decide +kernel) (by decide +kernel)
theorem q_1107 : Cond.instanceMethod yX11_minute ∈ lw_all := kq 1107 (by decide +kernel) (by decide +kernel)
theorem q_1108 : Cond.code yX11_minute cX11_minute 13 none ∈ lw_all := kq 1108 (by decide +kernel) (by decide +kernel)
theorem q_1237 : Cond.methodLink RX11 181 yX11_from ∈ lw_all := kq 1237 (by decide +kernel) (by decide +kernel)
theorem q_1239 : Cond.instanceMethod yX11_from ∈ lw_all := kq 1239 (by decide +kernel) (by decide +kernel)
theorem q_1240 : Cond.code yX11_from cX11_from 2 (some .int) ∈ lw_all := kq 1240 (by decide +kernel) (by decide +kernel)
theorem q_1249 : Cond.constantLong RX11 184 (300) ∈ lw_all := kq 1249 (by decide +kernel) (by decide +kernel)
theorem q_1250 : Cond.methodLink RX11 186 yX11_beginTrial ∈ lw_all := kq 1250 (by decide +kernel) (by decide +kernel)
theorem q_1252 : Cond.instanceMethod yX11_beginTrial ∈ lw_all := kq 1252 (by decide +kernel) (by decide +kernel)
theorem q_1253 : Cond.code yX11_beginTrial cX11_beginTrial 2 none ∈ lw_all := kq 1253 (by decide +kernel) (by decide +kernel)
theorem q_1254 : Cond.methodLink RX11 189 yX11_endTrial ∈ lw_all := kq 1254 (by decide +kernel) (by decide +kernel)
theorem q_1256 : Cond.instanceMethod yX11_endTrial ∈ lw_all := kq 1256 (by decide +kernel) (by decide +kernel)
theorem q_1257 : Cond.code yX11_endTrial cX11_endTrial 2 none ∈ lw_all := kq 1257 (by decide +kernel) (by decide +kernel)
theorem cwv_X11_beginTrial : kCWv yX11_beginTrial cX11_beginTrial 2 none 0 := ⟨⟨q_1253, q_53, by decide +kernel⟩, q_1252, q_34⟩
theorem cwv_X11_endTrial : kCWv yX11_endTrial cX11_endTrial 2 none 0 := ⟨⟨q_1257, q_53, by decide +kernel⟩, q_1256, q_35⟩
theorem cwv_X11_from : kCWv yX11_from cX11_from 2 (some .int) 1 := ⟨⟨q_1240, q_53, by decide +kernel⟩, q_1239, q_33⟩
theorem cwv_X11_minute : kCWv yX11_minute cX11_minute 13 none 0 := ⟨⟨q_1108, q_53, by decide +kernel⟩, q_1107, q_19⟩
theorem dX11_removeSegment_0 : decode cX11_removeSegment 0 = .ok (.aload_n 0, 1) := by decide +kernel
theorem dX11_removeSegment_1 : decode cX11_removeSegment 1 = .ok (.iconst 0, 1) := by decide +kernel
theorem dX11_removeSegment_2 : decode cX11_removeSegment 2 = .ok (.putfield 50, 3) := by decide +kernel
theorem dX11_removeSegment_5 : decode cX11_removeSegment 5 = .ok (.aload_n 0, 1) := by decide +kernel
theorem dX11_removeSegment_6 : decode cX11_removeSegment 6 = .ok (.iload_n 1, 1) := by decide +kernel
theorem dX11_removeSegment_7 : decode cX11_removeSegment 7 = .ok (.invokevirtual 175, 3) := by decide +kernel
theorem dX11_removeSegment_10 : decode cX11_removeSegment 10 = .ok (.ifCond .ne 9, 3) := by decide +kernel
theorem dX11_removeSegment_13 : decode cX11_removeSegment 13 = .ok (.aload_n 0, 1) := by decide +kernel
theorem dX11_removeSegment_14 : decode cX11_removeSegment 14 = .ok (.iconst 1, 1) := by decide +kernel
theorem dX11_removeSegment_15 : decode cX11_removeSegment 15 = .ok (.invokevirtual 67, 3) := by decide +kernel
theorem dX11_removeSegment_18 : decode cX11_removeSegment 18 = .ok (.ireturn, 1) := by decide +kernel
theorem dX11_removeSegment_19 : decode cX11_removeSegment 19 = .ok (.aload_n 0, 1) := by decide +kernel
theorem dX11_removeSegment_20 : decode cX11_removeSegment 20 = .ok (.invokevirtual 93, 3) := by decide +kernel
theorem dX11_removeSegment_23 : decode cX11_removeSegment 23 = .ok (.ifCond .eq 9, 3) := by decide +kernel
theorem dX11_removeSegment_26 : decode cX11_removeSegment 26 = .ok (.aload_n 0, 1) := by decide +kernel
theorem dX11_removeSegment_27 : decode cX11_removeSegment 27 = .ok (.iconst 2, 1) := by decide +kernel
theorem dX11_removeSegment_28 : decode cX11_removeSegment 28 = .ok (.invokevirtual 67, 3) := by decide +kernel
theorem dX11_removeSegment_31 : decode cX11_removeSegment 31 = .ok (.ireturn, 1) := by decide +kernel
theorem dX11_removeSegment_32 : decode cX11_removeSegment 32 = .ok (.aload_n 0, 1) := by decide +kernel
theorem dX11_removeSegment_33 : decode cX11_removeSegment 33 = .ok (.invokevirtual 77, 3) := by decide +kernel
theorem dX11_removeSegment_36 : decode cX11_removeSegment 36 = .ok (.aload_n 0, 1) := by decide +kernel
theorem dX11_removeSegment_37 : decode cX11_removeSegment 37 = .ok (.getfield 7, 3) := by decide +kernel
theorem dX11_removeSegment_40 : decode cX11_removeSegment 40 = .ok (.bipush 43, 2) := by decide +kernel
theorem dX11_removeSegment_42 : decode cX11_removeSegment 42 = .ok (.dup2, 1) := by decide +kernel
theorem dX11_removeSegment_43 : decode cX11_removeSegment 43 = .ok (.laload, 1) := by decide +kernel
theorem dX11_removeSegment_44 : decode cX11_removeSegment 44 = .ok (.lconst 1, 1) := by decide +kernel
theorem dX11_removeSegment_45 : decode cX11_removeSegment 45 = .ok (.lsub, 1) := by decide +kernel
theorem dX11_removeSegment_46 : decode cX11_removeSegment 46 = .ok (.lastore, 1) := by decide +kernel
theorem dX11_removeSegment_47 : decode cX11_removeSegment 47 = .ok (.iconst 4, 1) := by decide +kernel
theorem dX11_removeSegment_48 : decode cX11_removeSegment 48 = .ok (.iload_n 1, 1) := by decide +kernel
theorem dX11_removeSegment_49 : decode cX11_removeSegment 49 = .ok (.imul, 1) := by decide +kernel
theorem dX11_removeSegment_50 : decode cX11_removeSegment 50 = .ok (.istore_n 2, 1) := by decide +kernel
theorem dX11_removeSegment_51 : decode cX11_removeSegment 51 = .ok (.iload_n 2, 1) := by decide +kernel
theorem dX11_removeSegment_52 : decode cX11_removeSegment 52 = .ok (.i2l, 1) := by decide +kernel
theorem dX11_removeSegment_53 : decode cX11_removeSegment 53 = .ok (.ldc2_w 137, 3) := by decide +kernel
theorem dX11_removeSegment_56 : decode cX11_removeSegment 56 = .ok (.aload_n 0, 1) := by decide +kernel
theorem dX11_removeSegment_57 : decode cX11_removeSegment 57 = .ok (.getfield 7, 3) := by decide +kernel
theorem dX11_removeSegment_60 : decode cX11_removeSegment 60 = .ok (.bipush 43, 2) := by decide +kernel
theorem dX11_removeSegment_62 : decode cX11_removeSegment 62 = .ok (.laload, 1) := by decide +kernel
theorem dX11_removeSegment_63 : decode cX11_removeSegment 63 = .ok (.lmul, 1) := by decide +kernel
theorem dX11_removeSegment_64 : decode cX11_removeSegment 64 = .ok (.lcmp, 1) := by decide +kernel
theorem dX11_removeSegment_65 : decode cX11_removeSegment 65 = .ok (.ifCond .ge 29, 3) := by decide +kernel
theorem dX11_removeSegment_68 : decode cX11_removeSegment 68 = .ok (.aload_n 0, 1) := by decide +kernel
theorem dX11_removeSegment_69 : decode cX11_removeSegment 69 = .ok (.getfield 7, 3) := by decide +kernel
theorem dX11_removeSegment_72 : decode cX11_removeSegment 72 = .ok (.bipush 50, 2) := by decide +kernel
theorem dX11_removeSegment_74 : decode cX11_removeSegment 74 = .ok (.iload_n 2, 1) := by decide +kernel
theorem dX11_removeSegment_75 : decode cX11_removeSegment 75 = .ok (.iadd, 1) := by decide +kernel
theorem dX11_removeSegment_76 : decode cX11_removeSegment 76 = .ok (.aload_n 0, 1) := by decide +kernel
theorem dX11_removeSegment_77 : decode cX11_removeSegment 77 = .ok (.getfield 7, 3) := by decide +kernel
theorem dX11_removeSegment_80 : decode cX11_removeSegment 80 = .ok (.bipush 50, 2) := by decide +kernel
theorem dX11_removeSegment_82 : decode cX11_removeSegment 82 = .ok (.iload_n 2, 1) := by decide +kernel
theorem dX11_removeSegment_83 : decode cX11_removeSegment 83 = .ok (.iadd, 1) := by decide +kernel
theorem dX11_removeSegment_84 : decode cX11_removeSegment 84 = .ok (.iconst 4, 1) := by decide +kernel
theorem dX11_removeSegment_85 : decode cX11_removeSegment 85 = .ok (.iadd, 1) := by decide +kernel
theorem dX11_removeSegment_86 : decode cX11_removeSegment 86 = .ok (.laload, 1) := by decide +kernel
theorem dX11_removeSegment_87 : decode cX11_removeSegment 87 = .ok (.lastore, 1) := by decide +kernel
theorem dX11_removeSegment_88 : decode cX11_removeSegment 88 = .ok (.iinc 2 1, 3) := by decide +kernel
theorem dX11_removeSegment_91 : decode cX11_removeSegment 91 = .ok (.goto (-40), 3) := by decide +kernel
theorem dX11_removeSegment_94 : decode cX11_removeSegment 94 = .ok (.aload_n 0, 1) := by decide +kernel
theorem dX11_removeSegment_95 : decode cX11_removeSegment 95 = .ok (.getfield 7, 3) := by decide +kernel
theorem dX11_removeSegment_98 : decode cX11_removeSegment 98 = .ok (.bipush 43, 2) := by decide +kernel
theorem dX11_removeSegment_100 : decode cX11_removeSegment 100 = .ok (.laload, 1) := by decide +kernel
theorem dX11_removeSegment_101 : decode cX11_removeSegment 101 = .ok (.l2i, 1) := by decide +kernel
theorem dX11_removeSegment_102 : decode cX11_removeSegment 102 = .ok (.ireturn, 1) := by decide +kernel
def b_X11_removeSegment_L51 (z_9 : Int32 × (Nat → Int64)) : (Int32 × (Nat → Int64)) ⊕ (Int32 × (Nat → Int64)) :=
  (if (4 * (z_9.2 43)) ≤ (Int32.toInt64 z_9.1) then (Sum.inr (z_9.1, z_9.2)) else (Sum.inl ((z_9.1 + 1), (vp_updL z_9.2 (Int32.toNatClampNeg (50 + z_9.1)) (z_9.2 (Int32.toNatClampNeg ((50 + z_9.1) + 4)))))))
def s_X11_removeSegment_1 (f_t_w : Nat → Int64) (f_t_saved : Nat → Int64) (u_16 : Int32 × (Nat → Int32)) : Int32 × (Nat → Int32) × (Nat → Int64) × (Nat → Int64) :=
  (u_16.1, u_16.2, f_t_w, f_t_saved)
def s_X11_removeSegment_2 (u_3 : (Nat → Int32) × (Nat → Int64)) (m_13 : Int32 × (Nat → Int64)) : Int32 × (Nat → Int32) × (Nat → Int64) × (Nat → Int64) :=
  ((Int64.toInt32 (m_13.2 43)), u_3.1, m_13.2, u_3.2)
def s_X11_removeSegment_3 (p0 : Int32) (f_t_w : Nat → Int64) (u_3 : (Nat → Int32) × (Nat → Int64)) : Int32 × (Nat → Int32) × (Nat → Int64) × (Nat → Int64) :=
  (s_X11_removeSegment_2 u_3 (kLoop default (b_X11_removeSegment_L51) (((48 : Int) - Int32.toInt (4 * p0)).toNat + 1) ((4 * p0), (vp_updL f_t_w 43 ((f_t_w 43) - 1)))))
def s_X11_removeSegment_4 (f_t_w : Nat → Int64) (f_t_saved : Nat → Int64) (u_15 : Int32 × (Nat → Int32)) : Int32 × (Nat → Int32) × (Nat → Int64) × (Nat → Int64) :=
  (u_15.1, u_15.2, f_t_w, f_t_saved)
def s_X11_removeSegment (f_t : Nat → Int32) (f_t_w : Nat → Int64) (f_t_saved : Nat → Int64) (p0 : Int32) : Int32 × (Nat → Int32) × (Nat → Int64) × (Nat → Int64) :=
  (if (s_X11_hasSegment (upd f_t 7 0) f_t_w p0) = 0 then (s_X11_removeSegment_1 f_t_w f_t_saved (s_X11_refuse (upd f_t 7 0) 1)) else (if (s_X11_runs (upd f_t 7 0) f_t_w) = 0 then (s_X11_removeSegment_3 p0 f_t_w (s_X11_save (upd f_t 7 0) f_t_saved f_t_w)) else (s_X11_removeSegment_4 f_t_w f_t_saved (s_X11_refuse (upd f_t 7 0) 2))))
set_option maxRecDepth 100000 in
set_option maxHeartbeats 4000000 in
theorem c_X11_removeSegment (l : Launch) (D : va_G) (cI cJ cO : ClassId) (h_t : Nat) (h_t_w : Nat) (h_t_saved : Nat) (h_t_trial : Nat) (h_t_text : Nat) (h_t_told : Nat) (f_t : Nat → Int32) (f_t_w : Nat → Int64) (f_t_saved : Nat → Int64) (p0 : Int32) (hf_t_5 : kIn (f_t 5) 0 6) (hf_t_w_43 : kInL (f_t_w 43) 0 12) : kI l yX11_removeSegment cX11_removeSegment 3 .int 2 46 D (kT cI cJ cO) [.ref h_t, .int p0] [(h_t, moE f_t h_t_w h_t_saved h_t_trial h_t_text h_t_told), (h_t_w, jA cJ 294 f_t_w), (h_t_saved, jA cJ 1764 f_t_saved)] ((s_X11_removeSegment f_t f_t_w f_t_saved p0).1) [(h_t, moE (s_X11_removeSegment f_t f_t_w f_t_saved p0).2.1 h_t_w h_t_saved h_t_trial h_t_text h_t_told), (h_t_w, jA cJ 294 (s_X11_removeSegment f_t f_t_w f_t_saved p0).2.2.1), (h_t_saved, jA cJ 1764 (s_X11_removeSegment f_t f_t_w f_t_saved p0).2.2.2)] := by
  refine kI_of (own := RX11) (lv := [(0, .ref h_t), (1, .int p0)]) rfl rfl (by decide) (Nat.le_of_ble_eq_true rfl) ?_
  intro p e s m args below meth c Q A C hret
  refine k_aload_n (pc := 0) C rfl 0 rfl dX11_removeSegment_0 ?_
  refine k_iconst (pc := 1) C iconst_0 dX11_removeSegment_1 ?_
  refine p_X11_7 (pc := 2) (ws2 := [(h_t, moE (upd f_t 7 0) h_t_w h_t_saved h_t_trial h_t_text h_t_told), (h_t_w, jA cJ 294 f_t_w), (h_t_saved, jA cJ 1764 f_t_saved)]) C q_1005 0 rfl rfl dX11_removeSegment_2 ?_
  refine k_aload_n (pc := 5) C rfl 0 rfl dX11_removeSegment_5 ?_
  refine k_iload_n (pc := 6) C rfl 1 rfl dX11_removeSegment_6 ?_
  refine k_callVi (pc := 7) (As := [.int p0]) (rest := []) (r := (s_X11_hasSegment (upd f_t 7 0) f_t_w p0)) (wc := [(h_t, moE (upd f_t 7 0) h_t_w h_t_saved h_t_trial h_t_text h_t_told), (h_t_w, jA cJ 294 f_t_w)]) (wc2 := [(h_t, moE (upd f_t 7 0) h_t_w h_t_saved h_t_trial h_t_text h_t_told), (h_t_w, jA cJ 294 f_t_w)]) (ws2 := [(h_t, moE (upd f_t 7 0) h_t_w h_t_saved h_t_trial h_t_text h_t_told), (h_t_w, jA cJ 294 f_t_w), (h_t_saved, jA cJ 1764 f_t_saved)]) C (c_X11_hasSegment l D cI cJ cO h_t h_t_w h_t_saved h_t_trial h_t_text h_t_told (upd f_t 7 0) f_t_w p0) cwv_X11_hasSegment q_1181 vX11 0 rfl [0, 1] rfl rfl (by decide) rfl rfl (Nat.le_of_ble_eq_true rfl) ⟨Nat.le_of_ble_eq_true rfl, Nat.le_of_ble_eq_true rfl⟩ rfl ⟨Nat.le_refl _, Nat.le_refl _⟩ dX11_removeSegment_7 ?_
  refine k_if_ne (pc := 10) (tgt := 19) C dX11_removeSegment_10 (by decide) (fun c_1 => ?_) (fun c_1 => ?_)
  · refine k_aload_n (pc := 19) C rfl 0 rfl dX11_removeSegment_19 ?_
    refine k_callVi (pc := 20) (As := []) (rest := []) (r := (s_X11_runs (upd f_t 7 0) f_t_w)) (wc := [(h_t, moE (upd f_t 7 0) h_t_w h_t_saved h_t_trial h_t_text h_t_told), (h_t_w, jA cJ 294 f_t_w)]) (wc2 := [(h_t, moE (upd f_t 7 0) h_t_w h_t_saved h_t_trial h_t_text h_t_told), (h_t_w, jA cJ 294 f_t_w)]) (ws2 := [(h_t, moE (upd f_t 7 0) h_t_w h_t_saved h_t_trial h_t_text h_t_told), (h_t_w, jA cJ 294 f_t_w), (h_t_saved, jA cJ 1764 f_t_saved)]) C (c_X11_runs l D cI cJ cO h_t h_t_w h_t_saved h_t_trial h_t_text h_t_told (upd f_t 7 0) f_t_w) cwv_X11_runs q_1085 vX11 0 rfl [0, 1] rfl rfl (by decide) rfl rfl (Nat.le_of_ble_eq_true rfl) ⟨Nat.le_of_ble_eq_true rfl, Nat.le_of_ble_eq_true rfl⟩ rfl ⟨Nat.le_refl _, Nat.le_refl _⟩ dX11_removeSegment_20 ?_
    refine k_if_eq (pc := 23) (tgt := 32) C dX11_removeSegment_23 (by decide) (fun c_2 => ?_) (fun c_2 => ?_)
    · refine k_aload_n (pc := 32) C rfl 0 rfl dX11_removeSegment_32 ?_
      obtain ⟨u_3, eu_3⟩ : ∃ z : (Nat → Int32) × (Nat → Int64), z = (s_X11_save (upd f_t 7 0) f_t_saved f_t_w) := ⟨_, rfl⟩
      refine k_callVv (pc := 33) (As := []) (rest := []) (wc := [(h_t, moE (upd f_t 7 0) h_t_w h_t_saved h_t_trial h_t_text h_t_told), (h_t_saved, jA cJ 1764 f_t_saved), (h_t_w, jA cJ 294 f_t_w)]) (wc2 := [(h_t, moE u_3.1 h_t_w h_t_saved h_t_trial h_t_text h_t_told), (h_t_saved, jA cJ 1764 u_3.2), (h_t_w, jA cJ 294 f_t_w)]) (ws2 := [(h_t, moE u_3.1 h_t_w h_t_saved h_t_trial h_t_text h_t_told), (h_t_w, jA cJ 294 f_t_w), (h_t_saved, jA cJ 1764 u_3.2)]) C (by rw [eu_3]; exact c_X11_save l D cI cJ cO h_t h_t_w h_t_saved h_t_trial h_t_text h_t_told (upd f_t 7 0) f_t_saved f_t_w (kIn.rw (F := (upd f_t 7 0)) (k := 5) (upn (by decide) rfl) hf_t_5 (by decide) (by decide))) cwv_X11_save q_1064 vX11 0 rfl [0, 2, 1] rfl rfl (by decide) rfl rfl (Nat.le_of_ble_eq_true rfl) ⟨Nat.le_of_ble_eq_true rfl, Nat.le_of_ble_eq_true rfl⟩ rfl ⟨Nat.le_refl _, Nat.le_refl _⟩ dX11_removeSegment_33 ?_
      refine k_aload_n (pc := 36) C rfl 0 rfl dX11_removeSegment_36 ?_
      refine g_X11_0 (pc := 37) C q_998 0 rfl dX11_removeSegment_37 ?_
      refine k_bipush (pc := 40) C bipush_43 dX11_removeSegment_40 ?_
      refine k_dup2 (pc := 42) C rfl rfl dX11_removeSegment_42 ?_
      refine k_laldK (pc := 43) (v := (f_t_w 43)) C 1 1 rfl rfl (k_vinc 43 cl_43 (by decide) (by decide)) cl_43 rfl dX11_removeSegment_43 ?_
      refine k_lconst (pc := 44) C lconst_1 dX11_removeSegment_44 ?_
      refine k_lsub (pc := 45) C dX11_removeSegment_45 ?_
      refine k_lastK (pc := 46) (ws2 := [(h_t, moE u_3.1 h_t_w h_t_saved h_t_trial h_t_text h_t_told), (h_t_w, jA cJ 294 (vp_updL f_t_w 43 ((f_t_w 43) - 1))), (h_t_saved, jA cJ 1764 u_3.2)]) C 1 1 rfl rfl (k_vinc 43 cl_43 (by decide) (by decide)) cl_43 rfl dX11_removeSegment_46 ?_
      refine k_iconst (pc := 47) C iconst_4 dX11_removeSegment_47 ?_
      refine k_iload_n (pc := 48) C rfl 1 rfl dX11_removeSegment_48 ?_
      refine k_imul (pc := 49) C dX11_removeSegment_49 ?_
      refine k_istore_n (pc := 50) (lv2 := [(2, .int (4 * p0)), (0, .ref h_t), (1, .int p0)]) C rfl (by decide) rfl dX11_removeSegment_50 ?_
      have K_17 : ∀ (m_13 : Int32 × (Nat → Int64)), m_13 = (kLoop default (b_X11_removeSegment_L51) (((48 : Int) - Int32.toInt (4 * p0)).toNat + 1) ((4 * p0), (vp_updL f_t_w 43 ((f_t_w 43) - 1)))) → kInL (m_13.2 43) (-1) 11 → KJ p l e (kR 2 46) s m args below meth c 0 0 Q D A 3 [(h_t, moE u_3.1 h_t_w h_t_saved h_t_trial h_t_text h_t_told), (h_t_w, jA cJ 294 m_13.2), (h_t_saved, jA cJ 1764 u_3.2)] [(0, .ref h_t)] [] 94 := by
        intro m_13 em_13 hx_14
        refine k_aload_n (pc := 94) C rfl 0 rfl dX11_removeSegment_94 ?_
        refine g_X11_0 (pc := 95) C q_998 0 rfl dX11_removeSegment_95 ?_
        refine k_bipush (pc := 98) C bipush_43 dX11_removeSegment_98 ?_
        refine k_laldK (pc := 100) (v := (m_13.2 43)) C 1 1 rfl rfl (k_vinc 43 cl_43 (by decide) (by decide)) cl_43 rfl dX11_removeSegment_100 ?_
        refine k_l2i (pc := 101) C dX11_removeSegment_101 ?_
        have hs : (s_X11_removeSegment f_t f_t_w f_t_saved p0) = ((Int64.toInt32 (m_13.2 43)), u_3.1, m_13.2, u_3.2) := (k_st (g := s_X11_removeSegment_3 p0 f_t_w) eu_3 ((if_neg c_1).trans (if_pos c_2)) (k_st (g := s_X11_removeSegment_2 u_3) em_13 rfl rfl))
        exact k_finI (pc := 102) hret rfl (by rw [hs]) (by rw [hs]) dX11_removeSegment_102
      have L_18 : ∀ (n : Nat) (z_9 : Int32 × (Nat → Int64)), ((48 : Int) - Int32.toInt z_9.1).toNat < n → (kIn z_9.1 0 44) → (kInL (z_9.2 43) (-1) 11) → kLoop default (b_X11_removeSegment_L51) n z_9 = (kLoop default (b_X11_removeSegment_L51) (((48 : Int) - Int32.toInt (4 * p0)).toNat + 1) ((4 * p0), (vp_updL f_t_w 43 ((f_t_w 43) - 1)))) → KJ p l e (kR 2 46) s m args below meth c 0 0 Q D A 3 [(h_t, moE u_3.1 h_t_w h_t_saved h_t_trial h_t_text h_t_told), (h_t_w, jA cJ 294 z_9.2), (h_t_saved, jA cJ 1764 u_3.2)] [(2, .int z_9.1), (0, .ref h_t)] [] 51 := by
        intro n
        induction n with
        | zero => intro z_9 hmu; exact absurd hmu (Nat.not_lt_zero _)
        | succ n ih =>
          intro z_9 hmu hl_10 hl_11 hR
          refine k_iload_n (pc := 51) C rfl 0 rfl dX11_removeSegment_51 ?_
          refine k_i2l (pc := 52) C dX11_removeSegment_52 ?_
          refine k_ldc2 (pc := 53) C q_1164 dX11_removeSegment_53 ?_
          refine k_aload_n (pc := 56) C rfl 1 rfl dX11_removeSegment_56 ?_
          refine g_X11_0 (pc := 57) C q_998 0 rfl dX11_removeSegment_57 ?_
          refine k_bipush (pc := 60) C bipush_43 dX11_removeSegment_60 ?_
          refine k_laldK (pc := 62) (v := (z_9.2 43)) C 1 1 rfl rfl (k_vinc 43 cl_43 (by decide) (by decide)) cl_43 rfl dX11_removeSegment_62 ?_
          refine k_lmul (pc := 63) C dX11_removeSegment_63 ?_
          refine k_lcmp_ge (pc := 64) (tgt := 94) C dX11_removeSegment_64 dX11_removeSegment_65 (by decide) (fun c_12 => ?_) (fun c_12 => ?_)
          · refine k_lpick (lv2 := [(0, .ref h_t)]) [1] rfl ?_
            exact K_17 (z_9.1, z_9.2) (k_lout hR (if_pos c_12)) (kInL.rw (F := z_9.2) (k := 43) rfl hl_11 (by decide) (by decide))
          · refine k_aload_n (pc := 68) C rfl 1 rfl dX11_removeSegment_68 ?_
            refine g_X11_0 (pc := 69) C q_998 0 rfl dX11_removeSegment_69 ?_
            refine k_bipush (pc := 72) C bipush_50 dX11_removeSegment_72 ?_
            refine k_iload_n (pc := 74) C rfl 0 rfl dX11_removeSegment_74 ?_
            refine k_iadd (pc := 75) C dX11_removeSegment_75 ?_
            refine k_aload_n (pc := 76) C rfl 1 rfl dX11_removeSegment_76 ?_
            refine g_X11_0 (pc := 77) C q_998 0 rfl dX11_removeSegment_77 ?_
            refine k_bipush (pc := 80) C bipush_50 dX11_removeSegment_80 ?_
            refine k_iload_n (pc := 82) C rfl 0 rfl dX11_removeSegment_82 ?_
            refine k_iadd (pc := 83) C dX11_removeSegment_83 ?_
            refine k_iconst (pc := 84) C iconst_4 dX11_removeSegment_84 ?_
            refine k_iadd (pc := 85) C dX11_removeSegment_85 ?_
            refine k_laldK (pc := 86) (v := (z_9.2 (Int32.toNatClampNeg ((50 + z_9.1) + 4)))) C 1 1 rfl rfl (kIn.vp (kIn.add (kIn.add (kIn.lit (x := 50) (n := 50) (by decide)) (kIn.i2lNle hl_10 c_12 (kInL.mul (n := 4) (by decide) (by decide) hl_11 (by decide) (by decide)) : kIn z_9.1 0 43) (by decide) (by decide)) (kIn.lit (x := 4) (n := 4) (by decide)) (by decide) (by decide)) (by decide) (by decide)) rfl rfl dX11_removeSegment_86 ?_
            refine k_lastK (pc := 87) (ws2 := [(h_t, moE u_3.1 h_t_w h_t_saved h_t_trial h_t_text h_t_told), (h_t_w, jA cJ 294 (vp_updL z_9.2 (Int32.toNatClampNeg (50 + z_9.1)) (z_9.2 (Int32.toNatClampNeg ((50 + z_9.1) + 4))))), (h_t_saved, jA cJ 1764 u_3.2)]) C 1 1 rfl rfl (kIn.vp (kIn.add (kIn.lit (x := 50) (n := 50) (by decide)) (kIn.i2lNle hl_10 c_12 (kInL.mul (n := 4) (by decide) (by decide) hl_11 (by decide) (by decide)) : kIn z_9.1 0 43) (by decide) (by decide)) (by decide) (by decide)) rfl rfl dX11_removeSegment_87 ?_
            refine k_iinc (pc := 88) (v := (z_9.1 + 1)) (lv2 := [(2, .int (z_9.1 + 1)), (0, .ref h_t)]) C 0 rfl rfl (by decide) rfl dX11_removeSegment_88 ?_
            refine k_goto (pc := 91) (tgt := 51) C (by decide) dX11_removeSegment_91 ?_
            exact ih ((z_9.1 + 1), (vp_updL z_9.2 (Int32.toNatClampNeg (50 + z_9.1)) (z_9.2 (Int32.toNatClampNeg ((50 + z_9.1) + 4))))) (kIn.dec (kIn.i2lNle hl_10 c_12 (kInL.mul (n := 4) (by decide) (by decide) hl_11 (by decide) (by decide)) : kIn z_9.1 0 43) (by decide) (by decide) hmu) (kIn.wk (kIn.add (kIn.i2lNle hl_10 c_12 (kInL.mul (n := 4) (by decide) (by decide) hl_11 (by decide) (by decide)) : kIn z_9.1 0 43) (kIn.lit (x := 1) (n := 1) (by decide)) (by decide) (by decide)) (by decide) (by decide)) (kInL.rw (F := (vp_updL z_9.2 (Int32.toNatClampNeg (50 + z_9.1)) (z_9.2 (Int32.toNatClampNeg ((50 + z_9.1) + 4))))) (k := 43) (upnL (kIn.ne (kIn.add (kIn.lit (x := 50) (n := 50) (by decide)) (kIn.i2lNle hl_10 c_12 (kInL.mul (n := 4) (by decide) (by decide) hl_11 (by decide) (by decide)) : kIn z_9.1 0 43) (by decide) (by decide)) (by decide) (by decide)) rfl) hl_11 (by decide) (by decide)) (k_lin hR (if_neg c_12))
      refine k_lpick (lv2 := [(2, .int (4 * p0)), (0, .ref h_t)]) [0, 1] rfl ?_
      exact L_18 (((48 : Int) - Int32.toInt (4 * p0)).toNat + 1) ((4 * p0), (vp_updL f_t_w 43 ((f_t_w 43) - 1))) (Nat.lt_succ_self _) (kIn.wk (kIn.mul (n := 4) (by decide) (by decide) (kIn.hasb c_1 (hf_t_w_43.wk (by decide) (by decide))) (by decide) (by decide)) (by decide) (by decide)) (kInL.rw (F := (vp_updL f_t_w 43 ((f_t_w 43) - 1))) (k := 43) upsL (kInL.sub hf_t_w_43 (kInL.lit (x := 1) (n := 1) (by decide)) (by decide) (by decide)) (by decide) (by decide)) rfl
    · refine k_aload_n (pc := 26) C rfl 0 rfl dX11_removeSegment_26 ?_
      refine k_iconst (pc := 27) C iconst_2 dX11_removeSegment_27 ?_
      obtain ⟨u_15, eu_15⟩ : ∃ z : Int32 × (Nat → Int32), z = (s_X11_refuse (upd f_t 7 0) 2) := ⟨_, rfl⟩
      refine k_callVi (pc := 28) (As := [.int 2]) (rest := []) (r := u_15.1) (wc := [(h_t, moE (upd f_t 7 0) h_t_w h_t_saved h_t_trial h_t_text h_t_told)]) (wc2 := [(h_t, moE u_15.2 h_t_w h_t_saved h_t_trial h_t_text h_t_told)]) (ws2 := [(h_t, moE u_15.2 h_t_w h_t_saved h_t_trial h_t_text h_t_told), (h_t_w, jA cJ 294 f_t_w), (h_t_saved, jA cJ 1764 f_t_saved)]) C (by rw [eu_15]; exact c_X11_refuse l D cI cJ cO h_t h_t_w h_t_saved h_t_trial h_t_text h_t_told (upd f_t 7 0) 2) cwv_X11_refuse q_1054 vX11 0 rfl [0] rfl rfl (by decide) rfl rfl (Nat.le_of_ble_eq_true rfl) ⟨Nat.le_of_ble_eq_true rfl, Nat.le_of_ble_eq_true rfl⟩ rfl ⟨Nat.le_refl _, Nat.le_refl _⟩ dX11_removeSegment_28 ?_
      have hs : (s_X11_removeSegment f_t f_t_w f_t_saved p0) = (u_15.1, u_15.2, f_t_w, f_t_saved) := (k_st (g := s_X11_removeSegment_4 f_t_w f_t_saved) eu_15 ((if_neg c_1).trans (if_neg c_2)) rfl)
      exact k_finI (pc := 31) hret rfl (by rw [hs]) (by rw [hs]) dX11_removeSegment_31
  · refine k_aload_n (pc := 13) C rfl 0 rfl dX11_removeSegment_13 ?_
    refine k_iconst (pc := 14) C iconst_1 dX11_removeSegment_14 ?_
    obtain ⟨u_16, eu_16⟩ : ∃ z : Int32 × (Nat → Int32), z = (s_X11_refuse (upd f_t 7 0) 1) := ⟨_, rfl⟩
    refine k_callVi (pc := 15) (As := [.int 1]) (rest := []) (r := u_16.1) (wc := [(h_t, moE (upd f_t 7 0) h_t_w h_t_saved h_t_trial h_t_text h_t_told)]) (wc2 := [(h_t, moE u_16.2 h_t_w h_t_saved h_t_trial h_t_text h_t_told)]) (ws2 := [(h_t, moE u_16.2 h_t_w h_t_saved h_t_trial h_t_text h_t_told), (h_t_w, jA cJ 294 f_t_w), (h_t_saved, jA cJ 1764 f_t_saved)]) C (by rw [eu_16]; exact c_X11_refuse l D cI cJ cO h_t h_t_w h_t_saved h_t_trial h_t_text h_t_told (upd f_t 7 0) 1) cwv_X11_refuse q_1054 vX11 0 rfl [0] rfl rfl (by decide) rfl rfl (Nat.le_of_ble_eq_true rfl) ⟨Nat.le_of_ble_eq_true rfl, Nat.le_of_ble_eq_true rfl⟩ rfl ⟨Nat.le_refl _, Nat.le_refl _⟩ dX11_removeSegment_15 ?_
    have hs : (s_X11_removeSegment f_t f_t_w f_t_saved p0) = (u_16.1, u_16.2, f_t_w, f_t_saved) := (k_st (g := s_X11_removeSegment_1 f_t_w f_t_saved) eu_16 (if_pos c_1) rfl)
    exact k_finI (pc := 18) hret rfl (by rw [hs]) (by rw [hs]) dX11_removeSegment_18

theorem dX11_undo_0 : decode cX11_undo 0 = .ok (.aload_n 0, 1) := by decide +kernel
theorem dX11_undo_1 : decode cX11_undo 1 = .ok (.iconst 0, 1) := by decide +kernel
theorem dX11_undo_2 : decode cX11_undo 2 = .ok (.putfield 50, 3) := by decide +kernel
theorem dX11_undo_5 : decode cX11_undo 5 = .ok (.aload_n 0, 1) := by decide +kernel
theorem dX11_undo_6 : decode cX11_undo 6 = .ok (.getfield 54, 3) := by decide +kernel
theorem dX11_undo_9 : decode cX11_undo 9 = .ok (.ifCond .ne 9, 3) := by decide +kernel
theorem dX11_undo_12 : decode cX11_undo 12 = .ok (.aload_n 0, 1) := by decide +kernel
theorem dX11_undo_13 : decode cX11_undo 13 = .ok (.iconst 1, 1) := by decide +kernel
theorem dX11_undo_14 : decode cX11_undo 14 = .ok (.invokevirtual 67, 3) := by decide +kernel
theorem dX11_undo_17 : decode cX11_undo 17 = .ok (.ireturn, 1) := by decide +kernel
theorem dX11_undo_18 : decode cX11_undo 18 = .ok (.aload_n 0, 1) := by decide +kernel
theorem dX11_undo_19 : decode cX11_undo 19 = .ok (.dup, 1) := by decide +kernel
theorem dX11_undo_20 : decode cX11_undo 20 = .ok (.getfield 54, 3) := by decide +kernel
theorem dX11_undo_23 : decode cX11_undo 23 = .ok (.iconst 1, 1) := by decide +kernel
theorem dX11_undo_24 : decode cX11_undo 24 = .ok (.isub, 1) := by decide +kernel
theorem dX11_undo_25 : decode cX11_undo 25 = .ok (.putfield 54, 3) := by decide +kernel
theorem dX11_undo_28 : decode cX11_undo 28 = .ok (.iconst 0, 1) := by decide +kernel
theorem dX11_undo_29 : decode cX11_undo 29 = .ok (.istore_n 1, 1) := by decide +kernel
theorem dX11_undo_30 : decode cX11_undo 30 = .ok (.iload_n 1, 1) := by decide +kernel
theorem dX11_undo_31 : decode cX11_undo 31 = .ok (.sipush 294, 3) := by decide +kernel
theorem dX11_undo_34 : decode cX11_undo 34 = .ok (.if_icmp .ge 30, 3) := by decide +kernel
theorem dX11_undo_37 : decode cX11_undo 37 = .ok (.aload_n 0, 1) := by decide +kernel
theorem dX11_undo_38 : decode cX11_undo 38 = .ok (.getfield 7, 3) := by decide +kernel
theorem dX11_undo_41 : decode cX11_undo 41 = .ok (.iload_n 1, 1) := by decide +kernel
theorem dX11_undo_42 : decode cX11_undo 42 = .ok (.aload_n 0, 1) := by decide +kernel
theorem dX11_undo_43 : decode cX11_undo 43 = .ok (.getfield 13, 3) := by decide +kernel
theorem dX11_undo_46 : decode cX11_undo 46 = .ok (.aload_n 0, 1) := by decide +kernel
theorem dX11_undo_47 : decode cX11_undo 47 = .ok (.getfield 54, 3) := by decide +kernel
theorem dX11_undo_50 : decode cX11_undo 50 = .ok (.sipush 294, 3) := by decide +kernel
theorem dX11_undo_53 : decode cX11_undo 53 = .ok (.imul, 1) := by decide +kernel
theorem dX11_undo_54 : decode cX11_undo 54 = .ok (.iload_n 1, 1) := by decide +kernel
theorem dX11_undo_55 : decode cX11_undo 55 = .ok (.iadd, 1) := by decide +kernel
theorem dX11_undo_56 : decode cX11_undo 56 = .ok (.laload, 1) := by decide +kernel
theorem dX11_undo_57 : decode cX11_undo 57 = .ok (.lastore, 1) := by decide +kernel
theorem dX11_undo_58 : decode cX11_undo 58 = .ok (.iinc 1 1, 3) := by decide +kernel
theorem dX11_undo_61 : decode cX11_undo 61 = .ok (.goto (-31), 3) := by decide +kernel
theorem dX11_undo_64 : decode cX11_undo 64 = .ok (.aload_n 0, 1) := by decide +kernel
theorem dX11_undo_65 : decode cX11_undo 65 = .ok (.getfield 54, 3) := by decide +kernel
theorem dX11_undo_68 : decode cX11_undo 68 = .ok (.ireturn, 1) := by decide +kernel
def b_X11_undo_L30 (f_t_saved : Nat → Int64) (f_t : Nat → Int32) (z_4 : Int32 × (Nat → Int64)) : (Int32 × (Nat → Int64)) ⊕ (Int32 × (Nat → Int64)) :=
  (if 294 ≤ z_4.1 then (Sum.inr (z_4.1, z_4.2)) else (Sum.inl ((z_4.1 + 1), (vp_updL z_4.2 (Int32.toNatClampNeg z_4.1) (f_t_saved (Int32.toNatClampNeg ((((f_t 5) - 1) * 294) + z_4.1)))))))
def s_X11_undo_1 (f_t_w : Nat → Int64) (u_8 : Int32 × (Nat → Int32)) : Int32 × (Nat → Int32) × (Nat → Int64) :=
  (u_8.1, u_8.2, f_t_w)
def s_X11_undo_2 (f_t : Nat → Int32) (m_7 : Int32 × (Nat → Int64)) : Int32 × (Nat → Int32) × (Nat → Int64) :=
  (((f_t 5) - 1), (upd (upd f_t 7 0) 5 ((f_t 5) - 1)), m_7.2)
def s_X11_undo (f_t : Nat → Int32) (f_t_saved : Nat → Int64) (f_t_w : Nat → Int64) : Int32 × (Nat → Int32) × (Nat → Int64) :=
  (if (f_t 5) = 0 then (s_X11_undo_1 f_t_w (s_X11_refuse (upd f_t 7 0) 1)) else (s_X11_undo_2 f_t (kLoop default (b_X11_undo_L30 f_t_saved f_t) ((Int32.toInt 294 - Int32.toInt 0).toNat + 1) (0, f_t_w))))
set_option maxRecDepth 100000 in
set_option maxHeartbeats 4000000 in
theorem c_X11_undo (l : Launch) (D : va_G) (cI cJ cO : ClassId) (h_t : Nat) (h_t_w : Nat) (h_t_saved : Nat) (h_t_trial : Nat) (h_t_text : Nat) (h_t_told : Nat) (f_t : Nat → Int32) (f_t_saved : Nat → Int64) (f_t_w : Nat → Int64) (hf_t_5 : kIn (f_t 5) 0 6) : kI l yX11_undo cX11_undo 2 .int 1 21 D (kT cI cJ cO) [.ref h_t] [(h_t, moE f_t h_t_w h_t_saved h_t_trial h_t_text h_t_told), (h_t_saved, jA cJ 1764 f_t_saved), (h_t_w, jA cJ 294 f_t_w)] ((s_X11_undo f_t f_t_saved f_t_w).1) [(h_t, moE (s_X11_undo f_t f_t_saved f_t_w).2.1 h_t_w h_t_saved h_t_trial h_t_text h_t_told), (h_t_saved, jA cJ 1764 f_t_saved), (h_t_w, jA cJ 294 (s_X11_undo f_t f_t_saved f_t_w).2.2)] := by
  refine kI_of (own := RX11) (lv := [(0, .ref h_t)]) rfl rfl (by decide) (Nat.le_of_ble_eq_true rfl) ?_
  intro p e s m args below meth c Q A C hret
  refine k_aload_n (pc := 0) C rfl 0 rfl dX11_undo_0 ?_
  refine k_iconst (pc := 1) C iconst_0 dX11_undo_1 ?_
  refine p_X11_7 (pc := 2) (ws2 := [(h_t, moE (upd f_t 7 0) h_t_w h_t_saved h_t_trial h_t_text h_t_told), (h_t_saved, jA cJ 1764 f_t_saved), (h_t_w, jA cJ 294 f_t_w)]) C q_1005 0 rfl rfl dX11_undo_2 ?_
  refine k_aload_n (pc := 5) C rfl 0 rfl dX11_undo_5 ?_
  refine g_X11_5 (pc := 6) (x := (f_t 5)) C q_1003 0 rfl (upn (by decide) rfl) dX11_undo_6 ?_
  refine k_if_ne (pc := 9) (tgt := 18) C dX11_undo_9 (by decide) (fun c_1 => ?_) (fun c_1 => ?_)
  · refine k_aload_n (pc := 18) C rfl 0 rfl dX11_undo_18 ?_
    refine k_dup (pc := 19) C rfl dX11_undo_19 ?_
    refine g_X11_5 (pc := 20) (x := (f_t 5)) C q_1003 0 rfl (upn (by decide) rfl) dX11_undo_20 ?_
    refine k_iconst (pc := 23) C iconst_1 dX11_undo_23 ?_
    refine k_isub (pc := 24) C dX11_undo_24 ?_
    refine p_X11_5 (pc := 25) (ws2 := [(h_t, moE (upd (upd f_t 7 0) 5 ((f_t 5) - 1)) h_t_w h_t_saved h_t_trial h_t_text h_t_told), (h_t_saved, jA cJ 1764 f_t_saved), (h_t_w, jA cJ 294 f_t_w)]) C q_1003 0 rfl rfl dX11_undo_25 ?_
    refine k_iconst (pc := 28) C iconst_0 dX11_undo_28 ?_
    refine k_istore_n (pc := 29) (lv2 := [(1, .int 0), (0, .ref h_t)]) C rfl (by decide) rfl dX11_undo_29 ?_
    have K_9 : ∀ (m_7 : Int32 × (Nat → Int64)), m_7 = (kLoop default (b_X11_undo_L30 f_t_saved f_t) ((Int32.toInt 294 - Int32.toInt 0).toNat + 1) (0, f_t_w)) → KJ p l e (kR 1 21) s m args below meth c 0 0 Q D A 2 [(h_t, moE (upd (upd f_t 7 0) 5 ((f_t 5) - 1)) h_t_w h_t_saved h_t_trial h_t_text h_t_told), (h_t_saved, jA cJ 1764 f_t_saved), (h_t_w, jA cJ 294 m_7.2)] [(0, .ref h_t)] [] 64 := by
      intro m_7 em_7
      refine k_aload_n (pc := 64) C rfl 0 rfl dX11_undo_64 ?_
      refine g_X11_5 (pc := 65) (x := ((f_t 5) - 1)) C q_1003 0 rfl ups dX11_undo_65 ?_
      have hs : (s_X11_undo f_t f_t_saved f_t_w) = (((f_t 5) - 1), (upd (upd f_t 7 0) 5 ((f_t 5) - 1)), m_7.2) := (k_st (g := s_X11_undo_2 f_t) em_7 (if_neg c_1) rfl)
      exact k_finI (pc := 68) hret rfl (by rw [hs]) (by rw [hs]) dX11_undo_68
    have L_10 : ∀ (n : Nat) (z_4 : Int32 × (Nat → Int64)), (Int32.toInt 294 - Int32.toInt z_4.1).toNat < n → (kIn z_4.1 0 294) → kLoop default (b_X11_undo_L30 f_t_saved f_t) n z_4 = (kLoop default (b_X11_undo_L30 f_t_saved f_t) ((Int32.toInt 294 - Int32.toInt 0).toNat + 1) (0, f_t_w)) → KJ p l e (kR 1 21) s m args below meth c 0 0 Q D A 2 [(h_t, moE (upd (upd f_t 7 0) 5 ((f_t 5) - 1)) h_t_w h_t_saved h_t_trial h_t_text h_t_told), (h_t_saved, jA cJ 1764 f_t_saved), (h_t_w, jA cJ 294 z_4.2)] [(1, .int z_4.1), (0, .ref h_t)] [] 30 := by
      intro n
      induction n with
      | zero => intro z_4 hmu; exact absurd hmu (Nat.not_lt_zero _)
      | succ n ih =>
        intro z_4 hmu hl_5 hR
        refine k_iload_n (pc := 30) C rfl 0 rfl dX11_undo_30 ?_
        refine k_sipush (pc := 31) C sipush_294 dX11_undo_31 ?_
        refine k_icmp_ge (pc := 34) (tgt := 64) C dX11_undo_34 (by decide) (fun c_6 => ?_) (fun c_6 => ?_)
        · refine k_lpick (lv2 := [(0, .ref h_t)]) [1] rfl ?_
          exact K_9 (z_4.1, z_4.2) (k_lout hR (if_pos c_6))
        · refine k_aload_n (pc := 37) C rfl 1 rfl dX11_undo_37 ?_
          refine g_X11_0 (pc := 38) C q_998 0 rfl dX11_undo_38 ?_
          refine k_iload_n (pc := 41) C rfl 0 rfl dX11_undo_41 ?_
          refine k_aload_n (pc := 42) C rfl 1 rfl dX11_undo_42 ?_
          refine g_X11_1 (pc := 43) C q_999 0 rfl dX11_undo_43 ?_
          refine k_aload_n (pc := 46) C rfl 1 rfl dX11_undo_46 ?_
          refine g_X11_5 (pc := 47) (x := ((f_t 5) - 1)) C q_1003 0 rfl ups dX11_undo_47 ?_
          refine k_sipush (pc := 50) C sipush_294 dX11_undo_50 ?_
          refine k_imul (pc := 53) C dX11_undo_53 ?_
          refine k_iload_n (pc := 54) C rfl 0 rfl dX11_undo_54 ?_
          refine k_iadd (pc := 55) C dX11_undo_55 ?_
          refine k_laldK (pc := 56) (v := (f_t_saved (Int32.toNatClampNeg ((((f_t 5) - 1) * 294) + z_4.1)))) C 1 1 rfl rfl (kIn.vp (kIn.add (kIn.mulR (n := 294) (by decide) (by decide) (kIn.sub (kIn.neLo hf_t_5 c_1 (by decide)) (kIn.lit (x := 1) (n := 1) (by decide)) (by decide) (by decide)) (by decide) (by decide)) (kIn.nle (n := 294) hl_5 c_6 (by decide)) (by decide) (by decide)) (by decide) (by decide)) rfl rfl dX11_undo_56 ?_
          refine k_lastK (pc := 57) (ws2 := [(h_t, moE (upd (upd f_t 7 0) 5 ((f_t 5) - 1)) h_t_w h_t_saved h_t_trial h_t_text h_t_told), (h_t_saved, jA cJ 1764 f_t_saved), (h_t_w, jA cJ 294 (vp_updL z_4.2 (Int32.toNatClampNeg z_4.1) (f_t_saved (Int32.toNatClampNeg ((((f_t 5) - 1) * 294) + z_4.1)))))]) C 2 1 rfl rfl (kIn.vp (kIn.nle (n := 294) hl_5 c_6 (by decide)) (by decide) (by decide)) rfl rfl dX11_undo_57 ?_
          refine k_iinc (pc := 58) (v := (z_4.1 + 1)) (lv2 := [(1, .int (z_4.1 + 1)), (0, .ref h_t)]) C 0 rfl rfl (by decide) rfl dX11_undo_58 ?_
          refine k_goto (pc := 61) (tgt := 30) C (by decide) dX11_undo_61 ?_
          exact ih ((z_4.1 + 1), (vp_updL z_4.2 (Int32.toNatClampNeg z_4.1) (f_t_saved (Int32.toNatClampNeg ((((f_t 5) - 1) * 294) + z_4.1))))) (k_dec (k_nle c_6) hmu) (kIn.wk (kIn.add (kIn.nle (n := 294) hl_5 c_6 (by decide)) (kIn.lit (x := 1) (n := 1) (by decide)) (by decide) (by decide)) (by decide) (by decide)) (k_lin hR (if_neg c_6))
    exact L_10 ((Int32.toInt 294 - Int32.toInt 0).toNat + 1) (0, f_t_w) (Nat.lt_succ_self _) (kIn.wk (kIn.lit (x := 0) (n := 0) (by decide)) (by decide) (by decide)) rfl
  · refine k_aload_n (pc := 12) C rfl 0 rfl dX11_undo_12 ?_
    refine k_iconst (pc := 13) C iconst_1 dX11_undo_13 ?_
    obtain ⟨u_8, eu_8⟩ : ∃ z : Int32 × (Nat → Int32), z = (s_X11_refuse (upd f_t 7 0) 1) := ⟨_, rfl⟩
    refine k_callVi (pc := 14) (As := [.int 1]) (rest := []) (r := u_8.1) (wc := [(h_t, moE (upd f_t 7 0) h_t_w h_t_saved h_t_trial h_t_text h_t_told)]) (wc2 := [(h_t, moE u_8.2 h_t_w h_t_saved h_t_trial h_t_text h_t_told)]) (ws2 := [(h_t, moE u_8.2 h_t_w h_t_saved h_t_trial h_t_text h_t_told), (h_t_saved, jA cJ 1764 f_t_saved), (h_t_w, jA cJ 294 f_t_w)]) C (by rw [eu_8]; exact c_X11_refuse l D cI cJ cO h_t h_t_w h_t_saved h_t_trial h_t_text h_t_told (upd f_t 7 0) 1) cwv_X11_refuse q_1054 vX11 0 rfl [0] rfl rfl (by decide) rfl rfl (Nat.le_of_ble_eq_true rfl) ⟨Nat.le_of_ble_eq_true rfl, Nat.le_of_ble_eq_true rfl⟩ rfl ⟨Nat.le_refl _, Nat.le_refl _⟩ dX11_undo_14 ?_
    have hs : (s_X11_undo f_t f_t_saved f_t_w) = (u_8.1, u_8.2, f_t_w) := (k_st (g := s_X11_undo_1 f_t_w) eu_8 (if_pos c_1) rfl)
    exact k_finI (pc := 17) hret rfl (by rw [hs]) (by rw [hs]) dX11_undo_17

theorem dX11_spread_0 : decode cX11_spread 0 = .ok (.aload_n 0, 1) := by decide +kernel
theorem dX11_spread_1 : decode cX11_spread 1 = .ok (.iconst 0, 1) := by decide +kernel
theorem dX11_spread_2 : decode cX11_spread 2 = .ok (.putfield 50, 3) := by decide +kernel
theorem dX11_spread_5 : decode cX11_spread 5 = .ok (.iload_n 1, 1) := by decide +kernel
theorem dX11_spread_6 : decode cX11_spread 6 = .ok (.i2l, 1) := by decide +kernel
theorem dX11_spread_7 : decode cX11_spread 7 = .ok (.lconst 1, 1) := by decide +kernel
theorem dX11_spread_8 : decode cX11_spread 8 = .ok (.ldc2_w 42, 3) := by decide +kernel
theorem dX11_spread_11 : decode cX11_spread 11 = .ok (.invokestatic 63, 3) := by decide +kernel
theorem dX11_spread_14 : decode cX11_spread 14 = .ok (.ifCond .ne 9, 3) := by decide +kernel
theorem dX11_spread_17 : decode cX11_spread 17 = .ok (.aload_n 0, 1) := by decide +kernel
theorem dX11_spread_18 : decode cX11_spread 18 = .ok (.iconst 1, 1) := by decide +kernel
theorem dX11_spread_19 : decode cX11_spread 19 = .ok (.invokevirtual 67, 3) := by decide +kernel
theorem dX11_spread_22 : decode cX11_spread 22 = .ok (.ireturn, 1) := by decide +kernel
theorem dX11_spread_23 : decode cX11_spread 23 = .ok (.ldc2_w 150, 3) := by decide +kernel
theorem dX11_spread_26 : decode cX11_spread 26 = .ok (.lstore_n 2, 1) := by decide +kernel
theorem dX11_spread_27 : decode cX11_spread 27 = .ok (.ldc2_w 148, 3) := by decide +kernel
theorem dX11_spread_30 : decode cX11_spread 30 = .ok (.lstore 4, 2) := by decide +kernel
theorem dX11_spread_32 : decode cX11_spread 32 = .ok (.aload_n 0, 1) := by decide +kernel
theorem dX11_spread_33 : decode cX11_spread 33 = .ok (.iload_n 1, 1) := by decide +kernel
theorem dX11_spread_34 : decode cX11_spread 34 = .ok (.invokevirtual 181, 3) := by decide +kernel
theorem dX11_spread_37 : decode cX11_spread 37 = .ok (.istore 6, 2) := by decide +kernel
theorem dX11_spread_39 : decode cX11_spread 39 = .ok (.iload 6, 2) := by decide +kernel
theorem dX11_spread_41 : decode cX11_spread 41 = .ok (.i2l, 1) := by decide +kernel
theorem dX11_spread_42 : decode cX11_spread 42 = .ok (.aload_n 0, 1) := by decide +kernel
theorem dX11_spread_43 : decode cX11_spread 43 = .ok (.getfield 7, 3) := by decide +kernel
theorem dX11_spread_46 : decode cX11_spread 46 = .ok (.bipush 48, 2) := by decide +kernel
theorem dX11_spread_48 : decode cX11_spread 48 = .ok (.laload, 1) := by decide +kernel
theorem dX11_spread_49 : decode cX11_spread 49 = .ok (.lcmp, 1) := by decide +kernel
theorem dX11_spread_50 : decode cX11_spread 50 = .ok (.ifCond .ge 53, 3) := by decide +kernel
theorem dX11_spread_53 : decode cX11_spread 53 = .ok (.aload_n 0, 1) := by decide +kernel
theorem dX11_spread_54 : decode cX11_spread 54 = .ok (.getfield 7, 3) := by decide +kernel
theorem dX11_spread_57 : decode cX11_spread 57 = .ok (.sipush 234, 3) := by decide +kernel
theorem dX11_spread_60 : decode cX11_spread 60 = .ok (.iload 6, 2) := by decide +kernel
theorem dX11_spread_62 : decode cX11_spread 62 = .ok (.iadd, 1) := by decide +kernel
theorem dX11_spread_63 : decode cX11_spread 63 = .ok (.laload, 1) := by decide +kernel
theorem dX11_spread_64 : decode cX11_spread 64 = .ok (.lstore 7, 2) := by decide +kernel
theorem dX11_spread_66 : decode cX11_spread 66 = .ok (.lload 7, 2) := by decide +kernel
theorem dX11_spread_68 : decode cX11_spread 68 = .ok (.lload_n 2, 1) := by decide +kernel
theorem dX11_spread_69 : decode cX11_spread 69 = .ok (.lcmp, 1) := by decide +kernel
theorem dX11_spread_70 : decode cX11_spread 70 = .ok (.ifCond .ge 8, 3) := by decide +kernel
theorem dX11_spread_73 : decode cX11_spread 73 = .ok (.lload 7, 2) := by decide +kernel
theorem dX11_spread_75 : decode cX11_spread 75 = .ok (.goto 4, 3) := by decide +kernel
theorem dX11_spread_78 : decode cX11_spread 78 = .ok (.lload_n 2, 1) := by decide +kernel
theorem dX11_spread_79 : decode cX11_spread 79 = .ok (.lstore_n 2, 1) := by decide +kernel
theorem dX11_spread_80 : decode cX11_spread 80 = .ok (.lload 7, 2) := by decide +kernel
theorem dX11_spread_82 : decode cX11_spread 82 = .ok (.lload 4, 2) := by decide +kernel
theorem dX11_spread_84 : decode cX11_spread 84 = .ok (.lcmp, 1) := by decide +kernel
theorem dX11_spread_85 : decode cX11_spread 85 = .ok (.ifCond .le 8, 3) := by decide +kernel
theorem dX11_spread_88 : decode cX11_spread 88 = .ok (.lload 7, 2) := by decide +kernel
theorem dX11_spread_90 : decode cX11_spread 90 = .ok (.goto 5, 3) := by decide +kernel
theorem dX11_spread_93 : decode cX11_spread 93 = .ok (.lload 4, 2) := by decide +kernel
theorem dX11_spread_95 : decode cX11_spread 95 = .ok (.lstore 4, 2) := by decide +kernel
theorem dX11_spread_97 : decode cX11_spread 97 = .ok (.iinc 6 1, 3) := by decide +kernel
theorem dX11_spread_100 : decode cX11_spread 100 = .ok (.goto (-61), 3) := by decide +kernel
theorem dX11_spread_103 : decode cX11_spread 103 = .ok (.aload_n 0, 1) := by decide +kernel
theorem dX11_spread_104 : decode cX11_spread 104 = .ok (.getfield 7, 3) := by decide +kernel
theorem dX11_spread_107 : decode cX11_spread 107 = .ok (.bipush 48, 2) := by decide +kernel
theorem dX11_spread_109 : decode cX11_spread 109 = .ok (.laload, 1) := by decide +kernel
theorem dX11_spread_110 : decode cX11_spread 110 = .ok (.lconst 0, 1) := by decide +kernel
theorem dX11_spread_111 : decode cX11_spread 111 = .ok (.lcmp, 1) := by decide +kernel
theorem dX11_spread_112 : decode cX11_spread 112 = .ok (.ifCond .ne 7, 3) := by decide +kernel
theorem dX11_spread_115 : decode cX11_spread 115 = .ok (.iconst 0, 1) := by decide +kernel
theorem dX11_spread_116 : decode cX11_spread 116 = .ok (.goto 8, 3) := by decide +kernel
theorem dX11_spread_119 : decode cX11_spread 119 = .ok (.lload 4, 2) := by decide +kernel
theorem dX11_spread_121 : decode cX11_spread 121 = .ok (.lload_n 2, 1) := by decide +kernel
theorem dX11_spread_122 : decode cX11_spread 122 = .ok (.lsub, 1) := by decide +kernel
theorem dX11_spread_123 : decode cX11_spread 123 = .ok (.l2i, 1) := by decide +kernel
theorem dX11_spread_124 : decode cX11_spread 124 = .ok (.ireturn, 1) := by decide +kernel
def b_X11_spread_1 (z_10 : Int32 × Int64 × Int64) (x_14 : Int64) (x_16 : Int64) : (Int32 × Int64 × Int64) ⊕ (Int32 × Int64 × Int64) :=
  (Sum.inl ((z_10.1 + 1), x_16, x_14))
def b_X11_spread_2 (z_10 : Int32 × Int64 × Int64) (f_t_w : Nat → Int64) (x_14 : Int64) : (Int32 × Int64 × Int64) ⊕ (Int32 × Int64 × Int64) :=
  (b_X11_spread_1 z_10 x_14 (if (f_t_w (Int32.toNatClampNeg (234 + z_10.1))) ≤ z_10.2.1 then z_10.2.1 else (f_t_w (Int32.toNatClampNeg (234 + z_10.1)))))
def b_X11_spread_L39 (f_t_w : Nat → Int64) (z_10 : Int32 × Int64 × Int64) : (Int32 × Int64 × Int64) ⊕ (Int32 × Int64 × Int64) :=
  (if (f_t_w 48) ≤ (Int32.toInt64 z_10.1) then (Sum.inr (z_10.1, z_10.2.1, z_10.2.2)) else (b_X11_spread_2 z_10 f_t_w (if z_10.2.2 ≤ (f_t_w (Int32.toNatClampNeg (234 + z_10.1))) then z_10.2.2 else (f_t_w (Int32.toNatClampNeg (234 + z_10.1))))))
def s_X11_spread_3 (u_20 : Int32 × (Nat → Int32)) : Int32 × (Nat → Int32) :=
  (u_20.1, u_20.2)
def s_X11_spread_4 (f_t : Nat → Int32) (x_19 : Int32) : Int32 × (Nat → Int32) :=
  (x_19, (upd f_t 7 0))
def s_X11_spread_5 (f_t : Nat → Int32) (f_t_w : Nat → Int64) (m_17 : Int32 × Int64 × Int64) : Int32 × (Nat → Int32) :=
  (s_X11_spread_4 f_t (if (f_t_w 48) = 0 then 0 else (Int64.toInt32 (m_17.2.1 - m_17.2.2))))
def s_X11_spread (f_t : Nat → Int32) (f_t_w : Nat → Int64) (p0 : Int32) : Int32 × (Nat → Int32) :=
  (if (s_X11_in (Int32.toInt64 p0) 1 60) = 0 then (s_X11_spread_3 (s_X11_refuse (upd f_t 7 0) 1)) else (s_X11_spread_5 f_t f_t_w (kLoop default (b_X11_spread_L39 f_t_w) (((60 : Int) - Int32.toInt (s_X11_from (upd f_t 7 0) f_t_w p0)).toNat + 1) ((s_X11_from (upd f_t 7 0) f_t_w p0), (-700), 2000))))
set_option maxRecDepth 100000 in
set_option maxHeartbeats 4000000 in
theorem c_X11_spread (l : Launch) (D : va_G) (cI cJ cO : ClassId) (h_t : Nat) (h_t_w : Nat) (h_t_saved : Nat) (h_t_trial : Nat) (h_t_text : Nat) (h_t_told : Nat) (f_t : Nat → Int32) (f_t_w : Nat → Int64) (p0 : Int32) (hf_t_w_48 : kInL (f_t_w 48) 0 60) : kI l yX11_spread cX11_spread 9 .int 1 25 D (kT cI cJ cO) [.ref h_t, .int p0] [(h_t, moE f_t h_t_w h_t_saved h_t_trial h_t_text h_t_told), (h_t_w, jA cJ 294 f_t_w)] ((s_X11_spread f_t f_t_w p0).1) [(h_t, moE (s_X11_spread f_t f_t_w p0).2 h_t_w h_t_saved h_t_trial h_t_text h_t_told), (h_t_w, jA cJ 294 f_t_w)] := by
  refine kI_of (own := RX11) (lv := [(0, .ref h_t), (1, .int p0)]) rfl rfl (by decide) (Nat.le_of_ble_eq_true rfl) ?_
  intro p e s m args below meth c Q A C hret
  refine k_aload_n (pc := 0) C rfl 0 rfl dX11_spread_0 ?_
  refine k_iconst (pc := 1) C iconst_0 dX11_spread_1 ?_
  refine p_X11_7 (pc := 2) (ws2 := [(h_t, moE (upd f_t 7 0) h_t_w h_t_saved h_t_trial h_t_text h_t_told), (h_t_w, jA cJ 294 f_t_w)]) C q_1005 0 rfl rfl dX11_spread_2 ?_
  refine k_iload_n (pc := 5) C rfl 1 rfl dX11_spread_5 ?_
  refine k_i2l (pc := 6) C dX11_spread_6 ?_
  refine k_lconst (pc := 7) C lconst_1 dX11_spread_7 ?_
  refine k_ldc2 (pc := 8) C q_994 dX11_spread_8 ?_
  refine k_callSi (pc := 11) (As := [.long (Int32.toInt64 p0), .long 1, .long 60]) (rest := []) (r := (s_X11_in (Int32.toInt64 p0) 1 60)) (wc := []) (wc2 := []) (ws2 := [(h_t, moE (upd f_t 7 0) h_t_w h_t_saved h_t_trial h_t_text h_t_told), (h_t_w, jA cJ 294 f_t_w)]) C (c_X11_in l D cI cJ cO (Int32.toInt64 p0) 1 60) cws_X11_in q_1051 [] rfl rfl (by decide) rfl rfl (Nat.le_of_ble_eq_true rfl) ⟨Nat.le_of_ble_eq_true rfl, Nat.le_of_ble_eq_true rfl⟩ rfl ⟨Nat.le_refl _, Nat.le_refl _⟩ dX11_spread_11 ?_
  refine k_if_ne (pc := 14) (tgt := 23) C dX11_spread_14 (by decide) (fun c_1 => ?_) (fun c_1 => ?_)
  · refine k_ldc2 (pc := 23) C q_1138 dX11_spread_23 ?_
    refine k_lstore_n (pc := 26) (lv2 := [(2, .long 2000), (0, .ref h_t), (1, .int p0)]) C rfl (by decide) rfl dX11_spread_26 ?_
    refine k_ldc2 (pc := 27) C q_1137 dX11_spread_27 ?_
    refine k_lstore (pc := 30) (lv2 := [(4, .long (-700)), (2, .long 2000), (0, .ref h_t), (1, .int p0)]) C (by decide) rfl dX11_spread_30 ?_
    refine k_aload_n (pc := 32) C rfl 2 rfl dX11_spread_32 ?_
    refine k_iload_n (pc := 33) C rfl 3 rfl dX11_spread_33 ?_
    refine k_callVi (pc := 34) (As := [.int p0]) (rest := []) (r := (s_X11_from (upd f_t 7 0) f_t_w p0)) (wc := [(h_t, moE (upd f_t 7 0) h_t_w h_t_saved h_t_trial h_t_text h_t_told), (h_t_w, jA cJ 294 f_t_w)]) (wc2 := [(h_t, moE (upd f_t 7 0) h_t_w h_t_saved h_t_trial h_t_text h_t_told), (h_t_w, jA cJ 294 f_t_w)]) (ws2 := [(h_t, moE (upd f_t 7 0) h_t_w h_t_saved h_t_trial h_t_text h_t_told), (h_t_w, jA cJ 294 f_t_w)]) C (c_X11_from l D cI cJ cO h_t h_t_w h_t_saved h_t_trial h_t_text h_t_told (upd f_t 7 0) f_t_w p0) cwv_X11_from q_1237 vX11 0 rfl [0, 1] rfl rfl (by decide) rfl rfl (Nat.le_of_ble_eq_true rfl) ⟨Nat.le_of_ble_eq_true rfl, Nat.le_of_ble_eq_true rfl⟩ rfl ⟨Nat.le_refl _, Nat.le_refl _⟩ dX11_spread_34 ?_
    refine k_istore (pc := 37) (lv2 := [(6, .int (s_X11_from (upd f_t 7 0) f_t_w p0)), (4, .long (-700)), (2, .long 2000), (0, .ref h_t), (1, .int p0)]) C (by decide) rfl dX11_spread_37 ?_
    have K_21 : ∀ (m_17 : Int32 × Int64 × Int64), m_17 = (kLoop default (b_X11_spread_L39 f_t_w) (((60 : Int) - Int32.toInt (s_X11_from (upd f_t 7 0) f_t_w p0)).toNat + 1) ((s_X11_from (upd f_t 7 0) f_t_w p0), (-700), 2000)) → KJ p l e (kR 1 25) s m args below meth c 0 0 Q D A 9 [(h_t, moE (upd f_t 7 0) h_t_w h_t_saved h_t_trial h_t_text h_t_told), (h_t_w, jA cJ 294 f_t_w)] [(4, .long m_17.2.1), (2, .long m_17.2.2), (0, .ref h_t)] [] 103 := by
      intro m_17 em_17
      refine k_aload_n (pc := 103) C rfl 2 rfl dX11_spread_103 ?_
      refine g_X11_0 (pc := 104) C q_998 0 rfl dX11_spread_104 ?_
      refine k_bipush (pc := 107) C bipush_48 dX11_spread_107 ?_
      refine k_laldK (pc := 109) (v := (f_t_w 48)) C 1 1 rfl rfl (k_vinc 48 cl_48 (by decide) (by decide)) cl_48 rfl dX11_spread_109 ?_
      refine k_lconst (pc := 110) C lconst_0 dX11_spread_110 ?_
      have K_22 : ∀ (x_19 : Int32), x_19 = (if (f_t_w 48) = 0 then 0 else (Int64.toInt32 (m_17.2.1 - m_17.2.2))) → KJ p l e (kR 1 25) s m args below meth c 0 0 Q D A 9 [(h_t, moE (upd f_t 7 0) h_t_w h_t_saved h_t_trial h_t_text h_t_told), (h_t_w, jA cJ 294 f_t_w)] [] [.int x_19] 124 := by
        intro x_19 ex_19
        have hs : (s_X11_spread f_t f_t_w p0) = (x_19, (upd f_t 7 0)) := (k_st (g := s_X11_spread_5 f_t f_t_w) em_17 (if_neg c_1) (k_st (g := s_X11_spread_4 f_t) ex_19 rfl rfl))
        exact k_finI (pc := 124) hret rfl (by rw [hs]) (by rw [hs]) dX11_spread_124
      refine k_lcmp_ne (pc := 111) (tgt := 119) C dX11_spread_111 dX11_spread_112 (by decide) (fun c_18 => ?_) (fun c_18 => ?_)
      · refine k_lload (pc := 119) C 0 rfl dX11_spread_119 ?_
        refine k_lload_n (pc := 121) C rfl 1 rfl dX11_spread_121 ?_
        refine k_lsub (pc := 122) C dX11_spread_122 ?_
        refine k_l2i (pc := 123) C dX11_spread_123 ?_
        refine k_lpick (lv2 := []) [] rfl ?_
        exact K_22 (Int64.toInt32 (m_17.2.1 - m_17.2.2)) (Eq.symm (if_neg c_18))
      · refine k_iconst (pc := 115) C iconst_0 dX11_spread_115 ?_
        refine k_goto (pc := 116) (tgt := 124) C (by decide) dX11_spread_116 ?_
        refine k_lpick (lv2 := []) [] rfl ?_
        exact K_22 0 (Eq.symm (if_pos c_18))
    have L_23 : ∀ (n : Nat) (z_10 : Int32 × Int64 × Int64), ((60 : Int) - Int32.toInt z_10.1).toNat < n → (kIn z_10.1 0 60) → kLoop default (b_X11_spread_L39 f_t_w) n z_10 = (kLoop default (b_X11_spread_L39 f_t_w) (((60 : Int) - Int32.toInt (s_X11_from (upd f_t 7 0) f_t_w p0)).toNat + 1) ((s_X11_from (upd f_t 7 0) f_t_w p0), (-700), 2000)) → KJ p l e (kR 1 25) s m args below meth c 0 0 Q D A 9 [(h_t, moE (upd f_t 7 0) h_t_w h_t_saved h_t_trial h_t_text h_t_told), (h_t_w, jA cJ 294 f_t_w)] [(6, .int z_10.1), (4, .long z_10.2.1), (2, .long z_10.2.2), (0, .ref h_t)] [] 39 := by
      intro n
      induction n with
      | zero => intro z_10 hmu; exact absurd hmu (Nat.not_lt_zero _)
      | succ n ih =>
        intro z_10 hmu hl_11 hR
        refine k_iload (pc := 39) C 0 rfl dX11_spread_39 ?_
        refine k_i2l (pc := 41) C dX11_spread_41 ?_
        refine k_aload_n (pc := 42) C rfl 3 rfl dX11_spread_42 ?_
        refine g_X11_0 (pc := 43) C q_998 0 rfl dX11_spread_43 ?_
        refine k_bipush (pc := 46) C bipush_48 dX11_spread_46 ?_
        refine k_laldK (pc := 48) (v := (f_t_w 48)) C 1 1 rfl rfl (k_vinc 48 cl_48 (by decide) (by decide)) cl_48 rfl dX11_spread_48 ?_
        refine k_lcmp_ge (pc := 49) (tgt := 103) C dX11_spread_49 dX11_spread_50 (by decide) (fun c_12 => ?_) (fun c_12 => ?_)
        · refine k_lpick (lv2 := [(4, .long z_10.2.1), (2, .long z_10.2.2), (0, .ref h_t)]) [1, 2, 3] rfl ?_
          exact K_21 (z_10.1, z_10.2.1, z_10.2.2) (k_lout hR (if_pos c_12))
        · refine k_aload_n (pc := 53) C rfl 3 rfl dX11_spread_53 ?_
          refine g_X11_0 (pc := 54) C q_998 0 rfl dX11_spread_54 ?_
          refine k_sipush (pc := 57) C sipush_234 dX11_spread_57 ?_
          refine k_iload (pc := 60) C 0 rfl dX11_spread_60 ?_
          refine k_iadd (pc := 62) C dX11_spread_62 ?_
          refine k_laldK (pc := 63) (v := (f_t_w (Int32.toNatClampNeg (234 + z_10.1)))) C 1 1 rfl rfl (kIn.vp (kIn.add (kIn.lit (x := 234) (n := 234) (by decide)) (kIn.i2lNle hl_11 c_12 hf_t_w_48 : kIn z_10.1 0 59) (by decide) (by decide)) (by decide) (by decide)) rfl rfl dX11_spread_63 ?_
          refine k_lstore (pc := 64) (lv2 := [(7, .long (f_t_w (Int32.toNatClampNeg (234 + z_10.1)))), (6, .int z_10.1), (4, .long z_10.2.1), (2, .long z_10.2.2), (0, .ref h_t)]) C (by decide) rfl dX11_spread_64 ?_
          refine k_lload (pc := 66) C 0 rfl dX11_spread_66 ?_
          refine k_lload_n (pc := 68) C rfl 3 rfl dX11_spread_68 ?_
          have K_24 : ∀ (x_14 : Int64), x_14 = (if z_10.2.2 ≤ (f_t_w (Int32.toNatClampNeg (234 + z_10.1))) then z_10.2.2 else (f_t_w (Int32.toNatClampNeg (234 + z_10.1)))) → KJ p l e (kR 1 25) s m args below meth c 0 0 Q D A 9 [(h_t, moE (upd f_t 7 0) h_t_w h_t_saved h_t_trial h_t_text h_t_told), (h_t_w, jA cJ 294 f_t_w)] [(7, .long (f_t_w (Int32.toNatClampNeg (234 + z_10.1)))), (6, .int z_10.1), (4, .long z_10.2.1), (0, .ref h_t)] [.long x_14] 79 := by
            intro x_14 ex_14
            refine k_lstore_n (pc := 79) (lv2 := [(2, .long x_14), (7, .long (f_t_w (Int32.toNatClampNeg (234 + z_10.1)))), (6, .int z_10.1), (4, .long z_10.2.1), (0, .ref h_t)]) C rfl (by decide) rfl dX11_spread_79 ?_
            refine k_lload (pc := 80) C 1 rfl dX11_spread_80 ?_
            refine k_lload (pc := 82) C 3 rfl dX11_spread_82 ?_
            have K_25 : ∀ (x_16 : Int64), x_16 = (if (f_t_w (Int32.toNatClampNeg (234 + z_10.1))) ≤ z_10.2.1 then z_10.2.1 else (f_t_w (Int32.toNatClampNeg (234 + z_10.1)))) → KJ p l e (kR 1 25) s m args below meth c 0 0 Q D A 9 [(h_t, moE (upd f_t 7 0) h_t_w h_t_saved h_t_trial h_t_text h_t_told), (h_t_w, jA cJ 294 f_t_w)] [(2, .long x_14), (6, .int z_10.1), (0, .ref h_t)] [.long x_16] 95 := by
              intro x_16 ex_16
              refine k_lstore (pc := 95) (lv2 := [(4, .long x_16), (2, .long x_14), (6, .int z_10.1), (0, .ref h_t)]) C (by decide) rfl dX11_spread_95 ?_
              refine k_iinc (pc := 97) (v := (z_10.1 + 1)) (lv2 := [(6, .int (z_10.1 + 1)), (4, .long x_16), (2, .long x_14), (0, .ref h_t)]) C 2 rfl rfl (by decide) rfl dX11_spread_97 ?_
              refine k_goto (pc := 100) (tgt := 39) C (by decide) dX11_spread_100 ?_
              exact ih ((z_10.1 + 1), x_16, x_14) (kIn.dec (kIn.i2lNle hl_11 c_12 hf_t_w_48 : kIn z_10.1 0 59) (by decide) (by decide) hmu) (kIn.wk (kIn.add (kIn.i2lNle hl_11 c_12 hf_t_w_48 : kIn z_10.1 0 59) (kIn.lit (x := 1) (n := 1) (by decide)) (by decide) (by decide)) (by decide) (by decide)) (k_lin hR (k_st (g := b_X11_spread_2 z_10 f_t_w) ex_14 (if_neg c_12) (k_st (g := b_X11_spread_1 z_10 x_14) ex_16 rfl rfl)))
            refine k_lcmp_le (pc := 84) (tgt := 93) C dX11_spread_84 dX11_spread_85 (by decide) (fun c_15 => ?_) (fun c_15 => ?_)
            · refine k_lload (pc := 93) C 3 rfl dX11_spread_93 ?_
              refine k_lpick (lv2 := [(2, .long x_14), (6, .int z_10.1), (0, .ref h_t)]) [0, 2, 4] rfl ?_
              exact K_25 z_10.2.1 (Eq.symm (if_pos c_15))
            · refine k_lload (pc := 88) C 1 rfl dX11_spread_88 ?_
              refine k_goto (pc := 90) (tgt := 95) C (by decide) dX11_spread_90 ?_
              refine k_lpick (lv2 := [(2, .long x_14), (6, .int z_10.1), (0, .ref h_t)]) [0, 2, 4] rfl ?_
              exact K_25 (f_t_w (Int32.toNatClampNeg (234 + z_10.1))) (Eq.symm (if_neg c_15))
          refine k_lcmp_ge (pc := 69) (tgt := 78) C dX11_spread_69 dX11_spread_70 (by decide) (fun c_13 => ?_) (fun c_13 => ?_)
          · refine k_lload_n (pc := 78) C rfl 3 rfl dX11_spread_78 ?_
            refine k_lpick (lv2 := [(7, .long (f_t_w (Int32.toNatClampNeg (234 + z_10.1)))), (6, .int z_10.1), (4, .long z_10.2.1), (0, .ref h_t)]) [0, 1, 2, 4] rfl ?_
            exact K_24 z_10.2.2 (Eq.symm (if_pos c_13))
          · refine k_lload (pc := 73) C 0 rfl dX11_spread_73 ?_
            refine k_goto (pc := 75) (tgt := 79) C (by decide) dX11_spread_75 ?_
            refine k_lpick (lv2 := [(7, .long (f_t_w (Int32.toNatClampNeg (234 + z_10.1)))), (6, .int z_10.1), (4, .long z_10.2.1), (0, .ref h_t)]) [0, 1, 2, 4] rfl ?_
            exact K_24 (f_t_w (Int32.toNatClampNeg (234 + z_10.1))) (Eq.symm (if_neg c_13))
    refine k_lpick (lv2 := [(6, .int (s_X11_from (upd f_t 7 0) f_t_w p0)), (4, .long (-700)), (2, .long 2000), (0, .ref h_t)]) [0, 1, 2, 3] rfl ?_
    exact L_23 (((60 : Int) - Int32.toInt (s_X11_from (upd f_t 7 0) f_t_w p0)).toNat + 1) ((s_X11_from (upd f_t 7 0) f_t_w p0), (-700), 2000) (Nat.lt_succ_self _) (kIn.wk (kIn.from (f := (upd f_t 7 0)) (kIn.inb c_1 (kInL.lit (x := 1) (n := 1) (by decide)) (kInL.lit (x := 60) (n := 60) (by decide))) hf_t_w_48 (by decide) (by decide) (by decide)) (by decide) (by decide)) rfl
  · refine k_aload_n (pc := 17) C rfl 0 rfl dX11_spread_17 ?_
    refine k_iconst (pc := 18) C iconst_1 dX11_spread_18 ?_
    obtain ⟨u_20, eu_20⟩ : ∃ z : Int32 × (Nat → Int32), z = (s_X11_refuse (upd f_t 7 0) 1) := ⟨_, rfl⟩
    refine k_callVi (pc := 19) (As := [.int 1]) (rest := []) (r := u_20.1) (wc := [(h_t, moE (upd f_t 7 0) h_t_w h_t_saved h_t_trial h_t_text h_t_told)]) (wc2 := [(h_t, moE u_20.2 h_t_w h_t_saved h_t_trial h_t_text h_t_told)]) (ws2 := [(h_t, moE u_20.2 h_t_w h_t_saved h_t_trial h_t_text h_t_told), (h_t_w, jA cJ 294 f_t_w)]) C (by rw [eu_20]; exact c_X11_refuse l D cI cJ cO h_t h_t_w h_t_saved h_t_trial h_t_text h_t_told (upd f_t 7 0) 1) cwv_X11_refuse q_1054 vX11 0 rfl [0] rfl rfl (by decide) rfl rfl (Nat.le_of_ble_eq_true rfl) ⟨Nat.le_of_ble_eq_true rfl, Nat.le_of_ble_eq_true rfl⟩ rfl ⟨Nat.le_refl _, Nat.le_refl _⟩ dX11_spread_19 ?_
    have hs : (s_X11_spread f_t f_t_w p0) = (u_20.1, u_20.2) := (k_st (g := s_X11_spread_3) eu_20 (if_pos c_1) rfl)
    exact k_finI (pc := 22) hret rfl (by rw [hs]) (by rw [hs]) dX11_spread_22

theorem dX11_beginTrial_0 : decode cX11_beginTrial 0 = .ok (.iconst 0, 1) := by decide +kernel
theorem dX11_beginTrial_1 : decode cX11_beginTrial 1 = .ok (.istore_n 1, 1) := by decide +kernel
theorem dX11_beginTrial_2 : decode cX11_beginTrial 2 = .ok (.iload_n 1, 1) := by decide +kernel
theorem dX11_beginTrial_3 : decode cX11_beginTrial 3 = .ok (.sipush 294, 3) := by decide +kernel
theorem dX11_beginTrial_6 : decode cX11_beginTrial 6 = .ok (.if_icmp .ge 21, 3) := by decide +kernel
theorem dX11_beginTrial_9 : decode cX11_beginTrial 9 = .ok (.aload_n 0, 1) := by decide +kernel
theorem dX11_beginTrial_10 : decode cX11_beginTrial 10 = .ok (.getfield 16, 3) := by decide +kernel
theorem dX11_beginTrial_13 : decode cX11_beginTrial 13 = .ok (.iload_n 1, 1) := by decide +kernel
theorem dX11_beginTrial_14 : decode cX11_beginTrial 14 = .ok (.aload_n 0, 1) := by decide +kernel
theorem dX11_beginTrial_15 : decode cX11_beginTrial 15 = .ok (.getfield 7, 3) := by decide +kernel
theorem dX11_beginTrial_18 : decode cX11_beginTrial 18 = .ok (.iload_n 1, 1) := by decide +kernel
theorem dX11_beginTrial_19 : decode cX11_beginTrial 19 = .ok (.laload, 1) := by decide +kernel
theorem dX11_beginTrial_20 : decode cX11_beginTrial 20 = .ok (.lastore, 1) := by decide +kernel
theorem dX11_beginTrial_21 : decode cX11_beginTrial 21 = .ok (.iinc 1 1, 3) := by decide +kernel
theorem dX11_beginTrial_24 : decode cX11_beginTrial 24 = .ok (.goto (-22), 3) := by decide +kernel
theorem dX11_beginTrial_27 : decode cX11_beginTrial 27 = .ok (.return_, 1) := by decide +kernel
def b_X11_beginTrial_L2 (f_t_w : Nat → Int64) (z_3 : Int32 × (Nat → Int64)) : (Int32 × (Nat → Int64)) ⊕ (Int32 × (Nat → Int64)) :=
  (if 294 ≤ z_3.1 then (Sum.inr (z_3.1, z_3.2)) else (Sum.inl ((z_3.1 + 1), (vp_updL z_3.2 (Int32.toNatClampNeg z_3.1) (f_t_w (Int32.toNatClampNeg z_3.1))))))
def s_X11_beginTrial_1 (m_6 : Int32 × (Nat → Int64)) : (Nat → Int64) :=
  m_6.2
def s_X11_beginTrial (f_t : Nat → Int32) (f_t_w : Nat → Int64) (f_t_trial : Nat → Int64) : (Nat → Int64) :=
  (s_X11_beginTrial_1 (kLoop default (b_X11_beginTrial_L2 f_t_w) ((Int32.toInt 294 - Int32.toInt 0).toNat + 1) (0, f_t_trial)))
set_option maxRecDepth 100000 in
set_option maxHeartbeats 4000000 in
theorem c_X11_beginTrial (l : Launch) (D : va_G) (cI cJ cO : ClassId) (h_t : Nat) (h_t_w : Nat) (h_t_saved : Nat) (h_t_trial : Nat) (h_t_text : Nat) (h_t_told : Nat) (f_t : Nat → Int32) (f_t_w : Nat → Int64) (f_t_trial : Nat → Int64) : kV l yX11_beginTrial cX11_beginTrial 2 0 0 D (kT cI cJ cO) [.ref h_t] [(h_t, moE f_t h_t_w h_t_saved h_t_trial h_t_text h_t_told), (h_t_w, jA cJ 294 f_t_w), (h_t_trial, jA cJ 294 f_t_trial)] [(h_t, moE f_t h_t_w h_t_saved h_t_trial h_t_text h_t_told), (h_t_w, jA cJ 294 f_t_w), (h_t_trial, jA cJ 294 (s_X11_beginTrial f_t f_t_w f_t_trial))] := by
  refine kV_of (own := RX11) (lv := [(0, .ref h_t)]) rfl rfl (by decide) (Nat.le_of_ble_eq_true rfl) ?_
  intro p e s m args below meth c Q A C hret
  refine k_iconst (pc := 0) C iconst_0 dX11_beginTrial_0 ?_
  refine k_istore_n (pc := 1) (lv2 := [(1, .int 0), (0, .ref h_t)]) C rfl (by decide) rfl dX11_beginTrial_1 ?_
  have K_7 : ∀ (m_6 : Int32 × (Nat → Int64)), m_6 = (kLoop default (b_X11_beginTrial_L2 f_t_w) ((Int32.toInt 294 - Int32.toInt 0).toNat + 1) (0, f_t_trial)) → KJ p l e (kR 0 0) s m args below meth c 0 0 Q D A 2 [(h_t, moE f_t h_t_w h_t_saved h_t_trial h_t_text h_t_told), (h_t_w, jA cJ 294 f_t_w), (h_t_trial, jA cJ 294 m_6.2)] [] [] 27 := by
    intro m_6 em_6
    have hs : (s_X11_beginTrial f_t f_t_w f_t_trial) = m_6.2 := (k_st (g := s_X11_beginTrial_1) em_6 rfl rfl)
    exact k_finV (pc := 27) hret (by rw [hs]) dX11_beginTrial_27
  have L_8 : ∀ (n : Nat) (z_3 : Int32 × (Nat → Int64)), (Int32.toInt 294 - Int32.toInt z_3.1).toNat < n → (kIn z_3.1 0 294) → kLoop default (b_X11_beginTrial_L2 f_t_w) n z_3 = (kLoop default (b_X11_beginTrial_L2 f_t_w) ((Int32.toInt 294 - Int32.toInt 0).toNat + 1) (0, f_t_trial)) → KJ p l e (kR 0 0) s m args below meth c 0 0 Q D A 2 [(h_t, moE f_t h_t_w h_t_saved h_t_trial h_t_text h_t_told), (h_t_w, jA cJ 294 f_t_w), (h_t_trial, jA cJ 294 z_3.2)] [(1, .int z_3.1), (0, .ref h_t)] [] 2 := by
    intro n
    induction n with
    | zero => intro z_3 hmu; exact absurd hmu (Nat.not_lt_zero _)
    | succ n ih =>
      intro z_3 hmu hl_4 hR
      refine k_iload_n (pc := 2) C rfl 0 rfl dX11_beginTrial_2 ?_
      refine k_sipush (pc := 3) C sipush_294 dX11_beginTrial_3 ?_
      refine k_icmp_ge (pc := 6) (tgt := 27) C dX11_beginTrial_6 (by decide) (fun c_5 => ?_) (fun c_5 => ?_)
      · refine k_lpick (lv2 := []) [] rfl ?_
        exact K_7 (z_3.1, z_3.2) (k_lout hR (if_pos c_5))
      · refine k_aload_n (pc := 9) C rfl 1 rfl dX11_beginTrial_9 ?_
        refine g_X11_2 (pc := 10) C q_1000 0 rfl dX11_beginTrial_10 ?_
        refine k_iload_n (pc := 13) C rfl 0 rfl dX11_beginTrial_13 ?_
        refine k_aload_n (pc := 14) C rfl 1 rfl dX11_beginTrial_14 ?_
        refine g_X11_0 (pc := 15) C q_998 0 rfl dX11_beginTrial_15 ?_
        refine k_iload_n (pc := 18) C rfl 0 rfl dX11_beginTrial_18 ?_
        refine k_laldK (pc := 19) (v := (f_t_w (Int32.toNatClampNeg z_3.1))) C 1 1 rfl rfl (kIn.vp (kIn.nle (n := 294) hl_4 c_5 (by decide)) (by decide) (by decide)) rfl rfl dX11_beginTrial_19 ?_
        refine k_lastK (pc := 20) (ws2 := [(h_t, moE f_t h_t_w h_t_saved h_t_trial h_t_text h_t_told), (h_t_w, jA cJ 294 f_t_w), (h_t_trial, jA cJ 294 (vp_updL z_3.2 (Int32.toNatClampNeg z_3.1) (f_t_w (Int32.toNatClampNeg z_3.1))))]) C 2 1 rfl rfl (kIn.vp (kIn.nle (n := 294) hl_4 c_5 (by decide)) (by decide) (by decide)) rfl rfl dX11_beginTrial_20 ?_
        refine k_iinc (pc := 21) (v := (z_3.1 + 1)) (lv2 := [(1, .int (z_3.1 + 1)), (0, .ref h_t)]) C 0 rfl rfl (by decide) rfl dX11_beginTrial_21 ?_
        refine k_goto (pc := 24) (tgt := 2) C (by decide) dX11_beginTrial_24 ?_
        exact ih ((z_3.1 + 1), (vp_updL z_3.2 (Int32.toNatClampNeg z_3.1) (f_t_w (Int32.toNatClampNeg z_3.1)))) (k_dec (k_nle c_5) hmu) (kIn.wk (kIn.add (kIn.nle (n := 294) hl_4 c_5 (by decide)) (kIn.lit (x := 1) (n := 1) (by decide)) (by decide) (by decide)) (by decide) (by decide)) (k_lin hR (if_neg c_5))
  exact L_8 ((Int32.toInt 294 - Int32.toInt 0).toNat + 1) (0, f_t_trial) (Nat.lt_succ_self _) (kIn.wk (kIn.lit (x := 0) (n := 0) (by decide)) (by decide) (by decide)) rfl

theorem dX11_endTrial_0 : decode cX11_endTrial 0 = .ok (.iconst 0, 1) := by decide +kernel
theorem dX11_endTrial_1 : decode cX11_endTrial 1 = .ok (.istore_n 1, 1) := by decide +kernel
theorem dX11_endTrial_2 : decode cX11_endTrial 2 = .ok (.iload_n 1, 1) := by decide +kernel
theorem dX11_endTrial_3 : decode cX11_endTrial 3 = .ok (.sipush 294, 3) := by decide +kernel
theorem dX11_endTrial_6 : decode cX11_endTrial 6 = .ok (.if_icmp .ge 21, 3) := by decide +kernel
theorem dX11_endTrial_9 : decode cX11_endTrial 9 = .ok (.aload_n 0, 1) := by decide +kernel
theorem dX11_endTrial_10 : decode cX11_endTrial 10 = .ok (.getfield 7, 3) := by decide +kernel
theorem dX11_endTrial_13 : decode cX11_endTrial 13 = .ok (.iload_n 1, 1) := by decide +kernel
theorem dX11_endTrial_14 : decode cX11_endTrial 14 = .ok (.aload_n 0, 1) := by decide +kernel
theorem dX11_endTrial_15 : decode cX11_endTrial 15 = .ok (.getfield 16, 3) := by decide +kernel
theorem dX11_endTrial_18 : decode cX11_endTrial 18 = .ok (.iload_n 1, 1) := by decide +kernel
theorem dX11_endTrial_19 : decode cX11_endTrial 19 = .ok (.laload, 1) := by decide +kernel
theorem dX11_endTrial_20 : decode cX11_endTrial 20 = .ok (.lastore, 1) := by decide +kernel
theorem dX11_endTrial_21 : decode cX11_endTrial 21 = .ok (.iinc 1 1, 3) := by decide +kernel
theorem dX11_endTrial_24 : decode cX11_endTrial 24 = .ok (.goto (-22), 3) := by decide +kernel
theorem dX11_endTrial_27 : decode cX11_endTrial 27 = .ok (.return_, 1) := by decide +kernel
def b_X11_endTrial_L2 (f_t_trial : Nat → Int64) (z_3 : Int32 × (Nat → Int64)) : (Int32 × (Nat → Int64)) ⊕ (Int32 × (Nat → Int64)) :=
  (if 294 ≤ z_3.1 then (Sum.inr (z_3.1, z_3.2)) else (Sum.inl ((z_3.1 + 1), (vp_updL z_3.2 (Int32.toNatClampNeg z_3.1) (f_t_trial (Int32.toNatClampNeg z_3.1))))))
def s_X11_endTrial_1 (m_6 : Int32 × (Nat → Int64)) : (Nat → Int64) :=
  m_6.2
def s_X11_endTrial (f_t : Nat → Int32) (f_t_trial : Nat → Int64) (f_t_w : Nat → Int64) : (Nat → Int64) :=
  (s_X11_endTrial_1 (kLoop default (b_X11_endTrial_L2 f_t_trial) ((Int32.toInt 294 - Int32.toInt 0).toNat + 1) (0, f_t_w)))
set_option maxRecDepth 100000 in
set_option maxHeartbeats 4000000 in
theorem c_X11_endTrial (l : Launch) (D : va_G) (cI cJ cO : ClassId) (h_t : Nat) (h_t_w : Nat) (h_t_saved : Nat) (h_t_trial : Nat) (h_t_text : Nat) (h_t_told : Nat) (f_t : Nat → Int32) (f_t_trial : Nat → Int64) (f_t_w : Nat → Int64) : kV l yX11_endTrial cX11_endTrial 2 0 0 D (kT cI cJ cO) [.ref h_t] [(h_t, moE f_t h_t_w h_t_saved h_t_trial h_t_text h_t_told), (h_t_trial, jA cJ 294 f_t_trial), (h_t_w, jA cJ 294 f_t_w)] [(h_t, moE f_t h_t_w h_t_saved h_t_trial h_t_text h_t_told), (h_t_trial, jA cJ 294 f_t_trial), (h_t_w, jA cJ 294 (s_X11_endTrial f_t f_t_trial f_t_w))] := by
  refine kV_of (own := RX11) (lv := [(0, .ref h_t)]) rfl rfl (by decide) (Nat.le_of_ble_eq_true rfl) ?_
  intro p e s m args below meth c Q A C hret
  refine k_iconst (pc := 0) C iconst_0 dX11_endTrial_0 ?_
  refine k_istore_n (pc := 1) (lv2 := [(1, .int 0), (0, .ref h_t)]) C rfl (by decide) rfl dX11_endTrial_1 ?_
  have K_7 : ∀ (m_6 : Int32 × (Nat → Int64)), m_6 = (kLoop default (b_X11_endTrial_L2 f_t_trial) ((Int32.toInt 294 - Int32.toInt 0).toNat + 1) (0, f_t_w)) → KJ p l e (kR 0 0) s m args below meth c 0 0 Q D A 2 [(h_t, moE f_t h_t_w h_t_saved h_t_trial h_t_text h_t_told), (h_t_trial, jA cJ 294 f_t_trial), (h_t_w, jA cJ 294 m_6.2)] [] [] 27 := by
    intro m_6 em_6
    have hs : (s_X11_endTrial f_t f_t_trial f_t_w) = m_6.2 := (k_st (g := s_X11_endTrial_1) em_6 rfl rfl)
    exact k_finV (pc := 27) hret (by rw [hs]) dX11_endTrial_27
  have L_8 : ∀ (n : Nat) (z_3 : Int32 × (Nat → Int64)), (Int32.toInt 294 - Int32.toInt z_3.1).toNat < n → (kIn z_3.1 0 294) → kLoop default (b_X11_endTrial_L2 f_t_trial) n z_3 = (kLoop default (b_X11_endTrial_L2 f_t_trial) ((Int32.toInt 294 - Int32.toInt 0).toNat + 1) (0, f_t_w)) → KJ p l e (kR 0 0) s m args below meth c 0 0 Q D A 2 [(h_t, moE f_t h_t_w h_t_saved h_t_trial h_t_text h_t_told), (h_t_trial, jA cJ 294 f_t_trial), (h_t_w, jA cJ 294 z_3.2)] [(1, .int z_3.1), (0, .ref h_t)] [] 2 := by
    intro n
    induction n with
    | zero => intro z_3 hmu; exact absurd hmu (Nat.not_lt_zero _)
    | succ n ih =>
      intro z_3 hmu hl_4 hR
      refine k_iload_n (pc := 2) C rfl 0 rfl dX11_endTrial_2 ?_
      refine k_sipush (pc := 3) C sipush_294 dX11_endTrial_3 ?_
      refine k_icmp_ge (pc := 6) (tgt := 27) C dX11_endTrial_6 (by decide) (fun c_5 => ?_) (fun c_5 => ?_)
      · refine k_lpick (lv2 := []) [] rfl ?_
        exact K_7 (z_3.1, z_3.2) (k_lout hR (if_pos c_5))
      · refine k_aload_n (pc := 9) C rfl 1 rfl dX11_endTrial_9 ?_
        refine g_X11_0 (pc := 10) C q_998 0 rfl dX11_endTrial_10 ?_
        refine k_iload_n (pc := 13) C rfl 0 rfl dX11_endTrial_13 ?_
        refine k_aload_n (pc := 14) C rfl 1 rfl dX11_endTrial_14 ?_
        refine g_X11_2 (pc := 15) C q_1000 0 rfl dX11_endTrial_15 ?_
        refine k_iload_n (pc := 18) C rfl 0 rfl dX11_endTrial_18 ?_
        refine k_laldK (pc := 19) (v := (f_t_trial (Int32.toNatClampNeg z_3.1))) C 1 1 rfl rfl (kIn.vp (kIn.nle (n := 294) hl_4 c_5 (by decide)) (by decide) (by decide)) rfl rfl dX11_endTrial_19 ?_
        refine k_lastK (pc := 20) (ws2 := [(h_t, moE f_t h_t_w h_t_saved h_t_trial h_t_text h_t_told), (h_t_trial, jA cJ 294 f_t_trial), (h_t_w, jA cJ 294 (vp_updL z_3.2 (Int32.toNatClampNeg z_3.1) (f_t_trial (Int32.toNatClampNeg z_3.1))))]) C 2 1 rfl rfl (kIn.vp (kIn.nle (n := 294) hl_4 c_5 (by decide)) (by decide) (by decide)) rfl rfl dX11_endTrial_20 ?_
        refine k_iinc (pc := 21) (v := (z_3.1 + 1)) (lv2 := [(1, .int (z_3.1 + 1)), (0, .ref h_t)]) C 0 rfl rfl (by decide) rfl dX11_endTrial_21 ?_
        refine k_goto (pc := 24) (tgt := 2) C (by decide) dX11_endTrial_24 ?_
        exact ih ((z_3.1 + 1), (vp_updL z_3.2 (Int32.toNatClampNeg z_3.1) (f_t_trial (Int32.toNatClampNeg z_3.1)))) (k_dec (k_nle c_5) hmu) (kIn.wk (kIn.add (kIn.nle (n := 294) hl_4 c_5 (by decide)) (kIn.lit (x := 1) (n := 1) (by decide)) (by decide) (by decide)) (by decide) (by decide)) (k_lin hR (if_neg c_5))
  exact L_8 ((Int32.toInt 294 - Int32.toInt 0).toNat + 1) (0, f_t_w) (Nat.lt_succ_self _) (kIn.wk (kIn.lit (x := 0) (n := 0) (by decide)) (by decide) (by decide)) rfl

theorem dX11_pass_0 : decode cX11_pass 0 = .ok (.aload_n 0, 1) := by decide +kernel
theorem dX11_pass_1 : decode cX11_pass 1 = .ok (.iconst 0, 1) := by decide +kernel
theorem dX11_pass_2 : decode cX11_pass 2 = .ok (.putfield 50, 3) := by decide +kernel
theorem dX11_pass_5 : decode cX11_pass 5 = .ok (.iload_n 1, 1) := by decide +kernel
theorem dX11_pass_6 : decode cX11_pass 6 = .ok (.i2l, 1) := by decide +kernel
theorem dX11_pass_7 : decode cX11_pass 7 = .ok (.lconst 1, 1) := by decide +kernel
theorem dX11_pass_8 : decode cX11_pass 8 = .ok (.ldc2_w 158, 3) := by decide +kernel
theorem dX11_pass_11 : decode cX11_pass 11 = .ok (.invokestatic 63, 3) := by decide +kernel
theorem dX11_pass_14 : decode cX11_pass 14 = .ok (.ifCond .ne 9, 3) := by decide +kernel
theorem dX11_pass_17 : decode cX11_pass 17 = .ok (.aload_n 0, 1) := by decide +kernel
theorem dX11_pass_18 : decode cX11_pass 18 = .ok (.iconst 1, 1) := by decide +kernel
theorem dX11_pass_19 : decode cX11_pass 19 = .ok (.invokevirtual 67, 3) := by decide +kernel
theorem dX11_pass_22 : decode cX11_pass 22 = .ok (.ireturn, 1) := by decide +kernel
theorem dX11_pass_23 : decode cX11_pass 23 = .ok (.aload_n 0, 1) := by decide +kernel
theorem dX11_pass_24 : decode cX11_pass 24 = .ok (.getfield 7, 3) := by decide +kernel
theorem dX11_pass_27 : decode cX11_pass 27 = .ok (.bipush 32, 2) := by decide +kernel
theorem dX11_pass_29 : decode cX11_pass 29 = .ok (.laload, 1) := by decide +kernel
theorem dX11_pass_30 : decode cX11_pass 30 = .ok (.iload_n 1, 1) := by decide +kernel
theorem dX11_pass_31 : decode cX11_pass 31 = .ok (.i2l, 1) := by decide +kernel
theorem dX11_pass_32 : decode cX11_pass 32 = .ok (.ladd, 1) := by decide +kernel
theorem dX11_pass_33 : decode cX11_pass 33 = .ok (.ldc2_w 160, 3) := by decide +kernel
theorem dX11_pass_36 : decode cX11_pass 36 = .ok (.lcmp, 1) := by decide +kernel
theorem dX11_pass_37 : decode cX11_pass 37 = .ok (.ifCond .le 9, 3) := by decide +kernel
theorem dX11_pass_40 : decode cX11_pass 40 = .ok (.aload_n 0, 1) := by decide +kernel
theorem dX11_pass_41 : decode cX11_pass 41 = .ok (.iconst 2, 1) := by decide +kernel
theorem dX11_pass_42 : decode cX11_pass 42 = .ok (.invokevirtual 67, 3) := by decide +kernel
theorem dX11_pass_45 : decode cX11_pass 45 = .ok (.ireturn, 1) := by decide +kernel
theorem dX11_pass_46 : decode cX11_pass 46 = .ok (.aload_n 0, 1) := by decide +kernel
theorem dX11_pass_47 : decode cX11_pass 47 = .ok (.invokevirtual 77, 3) := by decide +kernel
theorem dX11_pass_50 : decode cX11_pass 50 = .ok (.iconst 0, 1) := by decide +kernel
theorem dX11_pass_51 : decode cX11_pass 51 = .ok (.istore_n 2, 1) := by decide +kernel
theorem dX11_pass_52 : decode cX11_pass 52 = .ok (.iload_n 2, 1) := by decide +kernel
theorem dX11_pass_53 : decode cX11_pass 53 = .ok (.iload_n 1, 1) := by decide +kernel
theorem dX11_pass_54 : decode cX11_pass 54 = .ok (.if_icmp .ge 13, 3) := by decide +kernel
theorem dX11_pass_57 : decode cX11_pass 57 = .ok (.aload_n 0, 1) := by decide +kernel
theorem dX11_pass_58 : decode cX11_pass 58 = .ok (.invokevirtual 162, 3) := by decide +kernel
theorem dX11_pass_61 : decode cX11_pass 61 = .ok (.iinc 2 1, 3) := by decide +kernel
theorem dX11_pass_64 : decode cX11_pass 64 = .ok (.goto (-12), 3) := by decide +kernel
theorem dX11_pass_67 : decode cX11_pass 67 = .ok (.aload_n 0, 1) := by decide +kernel
theorem dX11_pass_68 : decode cX11_pass 68 = .ok (.getfield 7, 3) := by decide +kernel
theorem dX11_pass_71 : decode cX11_pass 71 = .ok (.bipush 12, 2) := by decide +kernel
theorem dX11_pass_73 : decode cX11_pass 73 = .ok (.laload, 1) := by decide +kernel
theorem dX11_pass_74 : decode cX11_pass 74 = .ok (.l2i, 1) := by decide +kernel
theorem dX11_pass_75 : decode cX11_pass 75 = .ok (.ireturn, 1) := by decide +kernel
def b_X11_pass_1 (z_7 : Int32 × (Nat → Int64)) (u_9 : (Nat → Int64)) : (Int32 × (Nat → Int64)) ⊕ (Int32 × (Nat → Int64)) :=
  (Sum.inl ((z_7.1 + 1), u_9))
def b_X11_pass_L52 (p0 : Int32) (u_3 : (Nat → Int32) × (Nat → Int64)) (z_7 : Int32 × (Nat → Int64)) : (Int32 × (Nat → Int64)) ⊕ (Int32 × (Nat → Int64)) :=
  (if p0 ≤ z_7.1 then (Sum.inr (z_7.1, z_7.2)) else (b_X11_pass_1 z_7 (s_X11_minute u_3.1 z_7.2)))
def s_X11_pass_2 (f_t_w : Nat → Int64) (f_t_saved : Nat → Int64) (u_12 : Int32 × (Nat → Int32)) : Int32 × (Nat → Int32) × (Nat → Int64) × (Nat → Int64) :=
  (u_12.1, u_12.2, f_t_w, f_t_saved)
def s_X11_pass_3 (u_3 : (Nat → Int32) × (Nat → Int64)) (m_10 : Int32 × (Nat → Int64)) : Int32 × (Nat → Int32) × (Nat → Int64) × (Nat → Int64) :=
  ((Int64.toInt32 (m_10.2 12)), u_3.1, m_10.2, u_3.2)
def s_X11_pass_4 (p0 : Int32) (f_t_w : Nat → Int64) (u_3 : (Nat → Int32) × (Nat → Int64)) : Int32 × (Nat → Int32) × (Nat → Int64) × (Nat → Int64) :=
  (s_X11_pass_3 u_3 (kLoop default (b_X11_pass_L52 p0 u_3) ((Int32.toInt p0 - Int32.toInt 0).toNat + 1) (0, f_t_w)))
def s_X11_pass_5 (f_t_w : Nat → Int64) (f_t_saved : Nat → Int64) (u_11 : Int32 × (Nat → Int32)) : Int32 × (Nat → Int32) × (Nat → Int64) × (Nat → Int64) :=
  (u_11.1, u_11.2, f_t_w, f_t_saved)
def s_X11_pass (f_t : Nat → Int32) (f_t_w : Nat → Int64) (f_t_saved : Nat → Int64) (p0 : Int32) : Int32 × (Nat → Int32) × (Nat → Int64) × (Nat → Int64) :=
  (if (s_X11_in (Int32.toInt64 p0) 1 500) = 0 then (s_X11_pass_2 f_t_w f_t_saved (s_X11_refuse (upd f_t 7 0) 1)) else (if ((f_t_w 32) + (Int32.toInt64 p0)) ≤ 20000 then (s_X11_pass_4 p0 f_t_w (s_X11_save (upd f_t 7 0) f_t_saved f_t_w)) else (s_X11_pass_5 f_t_w f_t_saved (s_X11_refuse (upd f_t 7 0) 2))))
set_option maxRecDepth 100000 in
set_option maxHeartbeats 4000000 in
theorem c_X11_pass (l : Launch) (D : va_G) (cI cJ cO : ClassId) (h_t : Nat) (h_t_w : Nat) (h_t_saved : Nat) (h_t_trial : Nat) (h_t_text : Nat) (h_t_told : Nat) (f_t : Nat → Int32) (f_t_w : Nat → Int64) (f_t_saved : Nat → Int64) (p0 : Int32) (hf_t_5 : kIn (f_t 5) 0 6) (P : (Nat → Int64) → Prop) (hPM : ∀ (f : Nat → Int32) (w : Nat → Int64), P w → kMI f w) (hPs : ∀ (f : Nat → Int32) (w : Nat → Int64), P w → P (s_X11_minute f w)) (hP0 : P f_t_w) : kI l yX11_pass cX11_pass 3 .int 5 120 D (kT cI cJ cO) [.ref h_t, .int p0] [(h_t, moE f_t h_t_w h_t_saved h_t_trial h_t_text h_t_told), (h_t_w, jA cJ 294 f_t_w), (h_t_saved, jA cJ 1764 f_t_saved)] ((s_X11_pass f_t f_t_w f_t_saved p0).1) [(h_t, moE (s_X11_pass f_t f_t_w f_t_saved p0).2.1 h_t_w h_t_saved h_t_trial h_t_text h_t_told), (h_t_w, jA cJ 294 (s_X11_pass f_t f_t_w f_t_saved p0).2.2.1), (h_t_saved, jA cJ 1764 (s_X11_pass f_t f_t_w f_t_saved p0).2.2.2)] := by
  refine kI_of (own := RX11) (lv := [(0, .ref h_t), (1, .int p0)]) rfl rfl (by decide) (Nat.le_of_ble_eq_true rfl) ?_
  intro p e s m args below meth c Q A C hret
  refine k_aload_n (pc := 0) C rfl 0 rfl dX11_pass_0 ?_
  refine k_iconst (pc := 1) C iconst_0 dX11_pass_1 ?_
  refine p_X11_7 (pc := 2) (ws2 := [(h_t, moE (upd f_t 7 0) h_t_w h_t_saved h_t_trial h_t_text h_t_told), (h_t_w, jA cJ 294 f_t_w), (h_t_saved, jA cJ 1764 f_t_saved)]) C q_1005 0 rfl rfl dX11_pass_2 ?_
  refine k_iload_n (pc := 5) C rfl 1 rfl dX11_pass_5 ?_
  refine k_i2l (pc := 6) C dX11_pass_6 ?_
  refine k_lconst (pc := 7) C lconst_1 dX11_pass_7 ?_
  refine k_ldc2 (pc := 8) C q_1103 dX11_pass_8 ?_
  refine k_callSi (pc := 11) (As := [.long (Int32.toInt64 p0), .long 1, .long 500]) (rest := []) (r := (s_X11_in (Int32.toInt64 p0) 1 500)) (wc := []) (wc2 := []) (ws2 := [(h_t, moE (upd f_t 7 0) h_t_w h_t_saved h_t_trial h_t_text h_t_told), (h_t_w, jA cJ 294 f_t_w), (h_t_saved, jA cJ 1764 f_t_saved)]) C (c_X11_in l D cI cJ cO (Int32.toInt64 p0) 1 500) cws_X11_in q_1051 [] rfl rfl (by decide) rfl rfl (Nat.le_of_ble_eq_true rfl) ⟨Nat.le_of_ble_eq_true rfl, Nat.le_of_ble_eq_true rfl⟩ rfl ⟨Nat.le_refl _, Nat.le_refl _⟩ dX11_pass_11 ?_
  refine k_if_ne (pc := 14) (tgt := 23) C dX11_pass_14 (by decide) (fun c_1 => ?_) (fun c_1 => ?_)
  · refine k_aload_n (pc := 23) C rfl 0 rfl dX11_pass_23 ?_
    refine g_X11_0 (pc := 24) C q_998 0 rfl dX11_pass_24 ?_
    refine k_bipush (pc := 27) C bipush_32 dX11_pass_27 ?_
    refine k_laldK (pc := 29) (v := (f_t_w 32)) C 1 1 rfl rfl (k_vinc 32 cl_32 (by decide) (by decide)) cl_32 rfl dX11_pass_29 ?_
    refine k_iload_n (pc := 30) C rfl 1 rfl dX11_pass_30 ?_
    refine k_i2l (pc := 31) C dX11_pass_31 ?_
    refine k_ladd (pc := 32) C dX11_pass_32 ?_
    refine k_ldc2 (pc := 33) C q_1104 dX11_pass_33 ?_
    refine k_lcmp_le (pc := 36) (tgt := 46) C dX11_pass_36 dX11_pass_37 (by decide) (fun c_2 => ?_) (fun c_2 => ?_)
    · refine k_aload_n (pc := 46) C rfl 0 rfl dX11_pass_46 ?_
      obtain ⟨u_3, eu_3⟩ : ∃ z : (Nat → Int32) × (Nat → Int64), z = (s_X11_save (upd f_t 7 0) f_t_saved f_t_w) := ⟨_, rfl⟩
      refine k_callVv (pc := 47) (As := []) (rest := []) (wc := [(h_t, moE (upd f_t 7 0) h_t_w h_t_saved h_t_trial h_t_text h_t_told), (h_t_saved, jA cJ 1764 f_t_saved), (h_t_w, jA cJ 294 f_t_w)]) (wc2 := [(h_t, moE u_3.1 h_t_w h_t_saved h_t_trial h_t_text h_t_told), (h_t_saved, jA cJ 1764 u_3.2), (h_t_w, jA cJ 294 f_t_w)]) (ws2 := [(h_t, moE u_3.1 h_t_w h_t_saved h_t_trial h_t_text h_t_told), (h_t_w, jA cJ 294 f_t_w), (h_t_saved, jA cJ 1764 u_3.2)]) C (by rw [eu_3]; exact c_X11_save l D cI cJ cO h_t h_t_w h_t_saved h_t_trial h_t_text h_t_told (upd f_t 7 0) f_t_saved f_t_w (kIn.rw (F := (upd f_t 7 0)) (k := 5) (upn (by decide) rfl) hf_t_5 (by decide) (by decide))) cwv_X11_save q_1064 vX11 0 rfl [0, 2, 1] rfl rfl (by decide) rfl rfl (Nat.le_of_ble_eq_true rfl) ⟨Nat.le_of_ble_eq_true rfl, Nat.le_of_ble_eq_true rfl⟩ rfl ⟨Nat.le_refl _, Nat.le_refl _⟩ dX11_pass_47 ?_
      refine k_iconst (pc := 50) C iconst_0 dX11_pass_50 ?_
      refine k_istore_n (pc := 51) (lv2 := [(2, .int 0), (0, .ref h_t), (1, .int p0)]) C rfl (by decide) rfl dX11_pass_51 ?_
      have K_13 : ∀ (m_10 : Int32 × (Nat → Int64)), m_10 = (kLoop default (b_X11_pass_L52 p0 u_3) ((Int32.toInt p0 - Int32.toInt 0).toNat + 1) (0, f_t_w)) → KJ p l e (kR 5 120) s m args below meth c 0 0 Q D A 3 [(h_t, moE u_3.1 h_t_w h_t_saved h_t_trial h_t_text h_t_told), (h_t_w, jA cJ 294 m_10.2), (h_t_saved, jA cJ 1764 u_3.2)] [(0, .ref h_t)] [] 67 := by
        intro m_10 em_10
        refine k_aload_n (pc := 67) C rfl 0 rfl dX11_pass_67 ?_
        refine g_X11_0 (pc := 68) C q_998 0 rfl dX11_pass_68 ?_
        refine k_bipush (pc := 71) C bipush_12 dX11_pass_71 ?_
        refine k_laldK (pc := 73) (v := (m_10.2 12)) C 1 1 rfl rfl (k_vinc 12 cl_12 (by decide) (by decide)) cl_12 rfl dX11_pass_73 ?_
        refine k_l2i (pc := 74) C dX11_pass_74 ?_
        have hs : (s_X11_pass f_t f_t_w f_t_saved p0) = ((Int64.toInt32 (m_10.2 12)), u_3.1, m_10.2, u_3.2) := (k_st (g := s_X11_pass_4 p0 f_t_w) eu_3 ((if_neg c_1).trans (if_pos c_2)) (k_st (g := s_X11_pass_3 u_3) em_10 rfl rfl))
        exact k_finI (pc := 75) hret rfl (by rw [hs]) (by rw [hs]) dX11_pass_75
      have L_14 : ∀ (n : Nat) (z_7 : Int32 × (Nat → Int64)), (Int32.toInt p0 - Int32.toInt z_7.1).toNat < n → (P z_7.2) → kLoop default (b_X11_pass_L52 p0 u_3) n z_7 = (kLoop default (b_X11_pass_L52 p0 u_3) ((Int32.toInt p0 - Int32.toInt 0).toNat + 1) (0, f_t_w)) → KJ p l e (kR 5 120) s m args below meth c 0 0 Q D A 3 [(h_t, moE u_3.1 h_t_w h_t_saved h_t_trial h_t_text h_t_told), (h_t_w, jA cJ 294 z_7.2), (h_t_saved, jA cJ 1764 u_3.2)] [(2, .int z_7.1), (0, .ref h_t), (1, .int p0)] [] 52 := by
        intro n
        induction n with
        | zero => intro z_7 hmu; exact absurd hmu (Nat.not_lt_zero _)
        | succ n ih =>
          intro z_7 hmu hI hR
          refine k_iload_n (pc := 52) C rfl 0 rfl dX11_pass_52 ?_
          refine k_iload_n (pc := 53) C rfl 2 rfl dX11_pass_53 ?_
          refine k_icmp_ge (pc := 54) (tgt := 67) C dX11_pass_54 (by decide) (fun c_8 => ?_) (fun c_8 => ?_)
          · refine k_lpick (lv2 := [(0, .ref h_t)]) [1] rfl ?_
            exact K_13 (z_7.1, z_7.2) (k_lout hR (if_pos c_8))
          · refine k_aload_n (pc := 57) C rfl 1 rfl dX11_pass_57 ?_
            obtain ⟨u_9, eu_9⟩ : ∃ z : (Nat → Int64), z = (s_X11_minute u_3.1 z_7.2) := ⟨_, rfl⟩
            refine k_callVv (pc := 58) (As := []) (rest := []) (wc := [(h_t, moE u_3.1 h_t_w h_t_saved h_t_trial h_t_text h_t_told), (h_t_w, jA cJ 294 z_7.2)]) (wc2 := [(h_t, moE u_3.1 h_t_w h_t_saved h_t_trial h_t_text h_t_told), (h_t_w, jA cJ 294 u_9)]) (ws2 := [(h_t, moE u_3.1 h_t_w h_t_saved h_t_trial h_t_text h_t_told), (h_t_w, jA cJ 294 u_9), (h_t_saved, jA cJ 1764 u_3.2)]) C (by rw [eu_9]; exact c_X11_minute l D cI cJ cO h_t h_t_w h_t_saved h_t_trial h_t_text h_t_told u_3.1 z_7.2 ((hPM u_3.1 _ hI).1) ((hPM u_3.1 _ hI).2.1) ((hPM u_3.1 _ hI).2.2.1) ((hPM u_3.1 _ hI).2.2.2.1) ((hPM u_3.1 _ hI).2.2.2.2.1) ((hPM u_3.1 _ hI).2.2.2.2.2)) cwv_X11_minute q_1105 vX11 0 rfl [0, 1] rfl rfl (by decide) rfl rfl (Nat.le_of_ble_eq_true rfl) ⟨Nat.le_of_ble_eq_true rfl, Nat.le_of_ble_eq_true rfl⟩ rfl ⟨Nat.le_refl _, Nat.le_refl _⟩ dX11_pass_58 ?_
            refine k_iinc (pc := 61) (v := (z_7.1 + 1)) (lv2 := [(2, .int (z_7.1 + 1)), (0, .ref h_t), (1, .int p0)]) C 0 rfl rfl (by decide) rfl dX11_pass_61 ?_
            refine k_goto (pc := 64) (tgt := 52) C (by decide) dX11_pass_64 ?_
            exact ih ((z_7.1 + 1), u_9) (k_dec (k_nle c_8) hmu) (by rw [eu_9]; exact hPs _ _ hI) (k_lin hR (k_st (g := b_X11_pass_1 z_7) eu_9 (if_neg c_8) rfl))
      exact L_14 ((Int32.toInt p0 - Int32.toInt 0).toNat + 1) (0, f_t_w) (Nat.lt_succ_self _) hP0 rfl
    · refine k_aload_n (pc := 40) C rfl 0 rfl dX11_pass_40 ?_
      refine k_iconst (pc := 41) C iconst_2 dX11_pass_41 ?_
      obtain ⟨u_11, eu_11⟩ : ∃ z : Int32 × (Nat → Int32), z = (s_X11_refuse (upd f_t 7 0) 2) := ⟨_, rfl⟩
      refine k_callVi (pc := 42) (As := [.int 2]) (rest := []) (r := u_11.1) (wc := [(h_t, moE (upd f_t 7 0) h_t_w h_t_saved h_t_trial h_t_text h_t_told)]) (wc2 := [(h_t, moE u_11.2 h_t_w h_t_saved h_t_trial h_t_text h_t_told)]) (ws2 := [(h_t, moE u_11.2 h_t_w h_t_saved h_t_trial h_t_text h_t_told), (h_t_w, jA cJ 294 f_t_w), (h_t_saved, jA cJ 1764 f_t_saved)]) C (by rw [eu_11]; exact c_X11_refuse l D cI cJ cO h_t h_t_w h_t_saved h_t_trial h_t_text h_t_told (upd f_t 7 0) 2) cwv_X11_refuse q_1054 vX11 0 rfl [0] rfl rfl (by decide) rfl rfl (Nat.le_of_ble_eq_true rfl) ⟨Nat.le_of_ble_eq_true rfl, Nat.le_of_ble_eq_true rfl⟩ rfl ⟨Nat.le_refl _, Nat.le_refl _⟩ dX11_pass_42 ?_
      have hs : (s_X11_pass f_t f_t_w f_t_saved p0) = (u_11.1, u_11.2, f_t_w, f_t_saved) := (k_st (g := s_X11_pass_5 f_t_w f_t_saved) eu_11 ((if_neg c_1).trans (if_neg c_2)) rfl)
      exact k_finI (pc := 45) hret rfl (by rw [hs]) (by rw [hs]) dX11_pass_45
  · refine k_aload_n (pc := 17) C rfl 0 rfl dX11_pass_17 ?_
    refine k_iconst (pc := 18) C iconst_1 dX11_pass_18 ?_
    obtain ⟨u_12, eu_12⟩ : ∃ z : Int32 × (Nat → Int32), z = (s_X11_refuse (upd f_t 7 0) 1) := ⟨_, rfl⟩
    refine k_callVi (pc := 19) (As := [.int 1]) (rest := []) (r := u_12.1) (wc := [(h_t, moE (upd f_t 7 0) h_t_w h_t_saved h_t_trial h_t_text h_t_told)]) (wc2 := [(h_t, moE u_12.2 h_t_w h_t_saved h_t_trial h_t_text h_t_told)]) (ws2 := [(h_t, moE u_12.2 h_t_w h_t_saved h_t_trial h_t_text h_t_told), (h_t_w, jA cJ 294 f_t_w), (h_t_saved, jA cJ 1764 f_t_saved)]) C (by rw [eu_12]; exact c_X11_refuse l D cI cJ cO h_t h_t_w h_t_saved h_t_trial h_t_text h_t_told (upd f_t 7 0) 1) cwv_X11_refuse q_1054 vX11 0 rfl [0] rfl rfl (by decide) rfl rfl (Nat.le_of_ble_eq_true rfl) ⟨Nat.le_of_ble_eq_true rfl, Nat.le_of_ble_eq_true rfl⟩ rfl ⟨Nat.le_refl _, Nat.le_refl _⟩ dX11_pass_19 ?_
    have hs : (s_X11_pass f_t f_t_w f_t_saved p0) = (u_12.1, u_12.2, f_t_w, f_t_saved) := (k_st (g := s_X11_pass_2 f_t_w f_t_saved) eu_12 (if_pos c_1) rfl)
    exact k_finI (pc := 22) hret rfl (by rw [hs]) (by rw [hs]) dX11_pass_22

theorem dX11_valueIn_0 : decode cX11_valueIn 0 = .ok (.aload_n 0, 1) := by decide +kernel
theorem dX11_valueIn_1 : decode cX11_valueIn 1 = .ok (.iconst 0, 1) := by decide +kernel
theorem dX11_valueIn_2 : decode cX11_valueIn 2 = .ok (.putfield 50, 3) := by decide +kernel
theorem dX11_valueIn_5 : decode cX11_valueIn 5 = .ok (.iload_n 1, 1) := by decide +kernel
theorem dX11_valueIn_6 : decode cX11_valueIn 6 = .ok (.i2l, 1) := by decide +kernel
theorem dX11_valueIn_7 : decode cX11_valueIn 7 = .ok (.lconst 0, 1) := by decide +kernel
theorem dX11_valueIn_8 : decode cX11_valueIn 8 = .ok (.lconst 1, 1) := by decide +kernel
theorem dX11_valueIn_9 : decode cX11_valueIn 9 = .ok (.invokestatic 63, 3) := by decide +kernel
theorem dX11_valueIn_12 : decode cX11_valueIn 12 = .ok (.ifCond .ne 9, 3) := by decide +kernel
theorem dX11_valueIn_15 : decode cX11_valueIn 15 = .ok (.aload_n 0, 1) := by decide +kernel
theorem dX11_valueIn_16 : decode cX11_valueIn 16 = .ok (.iconst 1, 1) := by decide +kernel
theorem dX11_valueIn_17 : decode cX11_valueIn 17 = .ok (.invokevirtual 67, 3) := by decide +kernel
theorem dX11_valueIn_20 : decode cX11_valueIn 20 = .ok (.ireturn, 1) := by decide +kernel
theorem dX11_valueIn_21 : decode cX11_valueIn 21 = .ok (.iload_n 2, 1) := by decide +kernel
theorem dX11_valueIn_22 : decode cX11_valueIn 22 = .ok (.i2l, 1) := by decide +kernel
theorem dX11_valueIn_23 : decode cX11_valueIn 23 = .ok (.lconst 0, 1) := by decide +kernel
theorem dX11_valueIn_24 : decode cX11_valueIn 24 = .ok (.ldc2_w 184, 3) := by decide +kernel
theorem dX11_valueIn_27 : decode cX11_valueIn 27 = .ok (.invokestatic 63, 3) := by decide +kernel
theorem dX11_valueIn_30 : decode cX11_valueIn 30 = .ok (.ifCond .ne 9, 3) := by decide +kernel
theorem dX11_valueIn_33 : decode cX11_valueIn 33 = .ok (.aload_n 0, 1) := by decide +kernel
theorem dX11_valueIn_34 : decode cX11_valueIn 34 = .ok (.iconst 2, 1) := by decide +kernel
theorem dX11_valueIn_35 : decode cX11_valueIn 35 = .ok (.invokevirtual 67, 3) := by decide +kernel
theorem dX11_valueIn_38 : decode cX11_valueIn 38 = .ok (.ireturn, 1) := by decide +kernel
theorem dX11_valueIn_39 : decode cX11_valueIn 39 = .ok (.aload_n 0, 1) := by decide +kernel
theorem dX11_valueIn_40 : decode cX11_valueIn 40 = .ok (.invokevirtual 186, 3) := by decide +kernel
theorem dX11_valueIn_43 : decode cX11_valueIn 43 = .ok (.iconst 0, 1) := by decide +kernel
theorem dX11_valueIn_44 : decode cX11_valueIn 44 = .ok (.istore_n 3, 1) := by decide +kernel
theorem dX11_valueIn_45 : decode cX11_valueIn 45 = .ok (.iload_n 3, 1) := by decide +kernel
theorem dX11_valueIn_46 : decode cX11_valueIn 46 = .ok (.iload_n 2, 1) := by decide +kernel
theorem dX11_valueIn_47 : decode cX11_valueIn 47 = .ok (.if_icmp .ge 13, 3) := by decide +kernel
theorem dX11_valueIn_50 : decode cX11_valueIn 50 = .ok (.aload_n 0, 1) := by decide +kernel
theorem dX11_valueIn_51 : decode cX11_valueIn 51 = .ok (.invokevirtual 162, 3) := by decide +kernel
theorem dX11_valueIn_54 : decode cX11_valueIn 54 = .ok (.iinc 3 1, 3) := by decide +kernel
theorem dX11_valueIn_57 : decode cX11_valueIn 57 = .ok (.goto (-12), 3) := by decide +kernel
theorem dX11_valueIn_60 : decode cX11_valueIn 60 = .ok (.aload_n 0, 1) := by decide +kernel
theorem dX11_valueIn_61 : decode cX11_valueIn 61 = .ok (.getfield 7, 3) := by decide +kernel
theorem dX11_valueIn_64 : decode cX11_valueIn 64 = .ok (.bipush 12, 2) := by decide +kernel
theorem dX11_valueIn_66 : decode cX11_valueIn 66 = .ok (.iload_n 1, 1) := by decide +kernel
theorem dX11_valueIn_67 : decode cX11_valueIn 67 = .ok (.iadd, 1) := by decide +kernel
theorem dX11_valueIn_68 : decode cX11_valueIn 68 = .ok (.laload, 1) := by decide +kernel
theorem dX11_valueIn_69 : decode cX11_valueIn 69 = .ok (.l2i, 1) := by decide +kernel
theorem dX11_valueIn_70 : decode cX11_valueIn 70 = .ok (.istore_n 3, 1) := by decide +kernel
theorem dX11_valueIn_71 : decode cX11_valueIn 71 = .ok (.aload_n 0, 1) := by decide +kernel
theorem dX11_valueIn_72 : decode cX11_valueIn 72 = .ok (.invokevirtual 189, 3) := by decide +kernel
theorem dX11_valueIn_75 : decode cX11_valueIn 75 = .ok (.iload_n 3, 1) := by decide +kernel
theorem dX11_valueIn_76 : decode cX11_valueIn 76 = .ok (.ireturn, 1) := by decide +kernel
def b_X11_valueIn_1 (z_7 : Int32 × (Nat → Int64)) (u_9 : (Nat → Int64)) : (Int32 × (Nat → Int64)) ⊕ (Int32 × (Nat → Int64)) :=
  (Sum.inl ((z_7.1 + 1), u_9))
def b_X11_valueIn_L45 (p1 : Int32) (f_t : Nat → Int32) (z_7 : Int32 × (Nat → Int64)) : (Int32 × (Nat → Int64)) ⊕ (Int32 × (Nat → Int64)) :=
  (if p1 ≤ z_7.1 then (Sum.inr (z_7.1, z_7.2)) else (b_X11_valueIn_1 z_7 (s_X11_minute (upd f_t 7 0) z_7.2)))
def s_X11_valueIn_2 (f_t_w : Nat → Int64) (f_t_trial : Nat → Int64) (u_13 : Int32 × (Nat → Int32)) : Int32 × (Nat → Int32) × (Nat → Int64) × (Nat → Int64) :=
  (u_13.1, u_13.2, f_t_w, f_t_trial)
def s_X11_valueIn_3 (f_t_w : Nat → Int64) (f_t_trial : Nat → Int64) (u_12 : Int32 × (Nat → Int32)) : Int32 × (Nat → Int32) × (Nat → Int64) × (Nat → Int64) :=
  (u_12.1, u_12.2, f_t_w, f_t_trial)
def s_X11_valueIn_4 (m_10 : Int32 × (Nat → Int64)) (p0 : Int32) (f_t : Nat → Int32) (u_3 : (Nat → Int64)) (u_11 : (Nat → Int64)) : Int32 × (Nat → Int32) × (Nat → Int64) × (Nat → Int64) :=
  ((Int64.toInt32 (m_10.2 (Int32.toNatClampNeg (12 + p0)))), (upd f_t 7 0), u_11, u_3)
def s_X11_valueIn_5 (p0 : Int32) (f_t : Nat → Int32) (u_3 : (Nat → Int64)) (m_10 : Int32 × (Nat → Int64)) : Int32 × (Nat → Int32) × (Nat → Int64) × (Nat → Int64) :=
  (s_X11_valueIn_4 m_10 p0 f_t u_3 (s_X11_endTrial (upd f_t 7 0) u_3 m_10.2))
def s_X11_valueIn_6 (p0 : Int32) (f_t : Nat → Int32) (p1 : Int32) (f_t_w : Nat → Int64) (u_3 : (Nat → Int64)) : Int32 × (Nat → Int32) × (Nat → Int64) × (Nat → Int64) :=
  (s_X11_valueIn_5 p0 f_t u_3 (kLoop default (b_X11_valueIn_L45 p1 f_t) ((Int32.toInt p1 - Int32.toInt 0).toNat + 1) (0, f_t_w)))
def s_X11_valueIn (f_t : Nat → Int32) (f_t_w : Nat → Int64) (f_t_trial : Nat → Int64) (p0 : Int32) (p1 : Int32) : Int32 × (Nat → Int32) × (Nat → Int64) × (Nat → Int64) :=
  (if (s_X11_in (Int32.toInt64 p0) 0 1) = 0 then (s_X11_valueIn_2 f_t_w f_t_trial (s_X11_refuse (upd f_t 7 0) 1)) else (if (s_X11_in (Int32.toInt64 p1) 0 300) = 0 then (s_X11_valueIn_3 f_t_w f_t_trial (s_X11_refuse (upd f_t 7 0) 2)) else (s_X11_valueIn_6 p0 f_t p1 f_t_w (s_X11_beginTrial (upd f_t 7 0) f_t_w f_t_trial))))
set_option maxRecDepth 100000 in
set_option maxHeartbeats 4000000 in
theorem c_X11_valueIn (l : Launch) (D : va_G) (cI cJ cO : ClassId) (h_t : Nat) (h_t_w : Nat) (h_t_saved : Nat) (h_t_trial : Nat) (h_t_text : Nat) (h_t_told : Nat) (f_t : Nat → Int32) (f_t_w : Nat → Int64) (f_t_trial : Nat → Int64) (p0 : Int32) (p1 : Int32) (P : (Nat → Int64) → Prop) (hPM : ∀ (f : Nat → Int32) (w : Nat → Int64), P w → kMI f w) (hPs : ∀ (f : Nat → Int32) (w : Nat → Int64), P w → P (s_X11_minute f w)) (hP0 : P f_t_w) : kI l yX11_valueIn cX11_valueIn 4 .int 5 120 D (kT cI cJ cO) [.ref h_t, .int p0, .int p1] [(h_t, moE f_t h_t_w h_t_saved h_t_trial h_t_text h_t_told), (h_t_w, jA cJ 294 f_t_w), (h_t_trial, jA cJ 294 f_t_trial)] ((s_X11_valueIn f_t f_t_w f_t_trial p0 p1).1) [(h_t, moE (s_X11_valueIn f_t f_t_w f_t_trial p0 p1).2.1 h_t_w h_t_saved h_t_trial h_t_text h_t_told), (h_t_w, jA cJ 294 (s_X11_valueIn f_t f_t_w f_t_trial p0 p1).2.2.1), (h_t_trial, jA cJ 294 (s_X11_valueIn f_t f_t_w f_t_trial p0 p1).2.2.2)] := by
  refine kI_of (own := RX11) (lv := [(0, .ref h_t), (1, .int p0), (2, .int p1)]) rfl rfl (by decide) (Nat.le_of_ble_eq_true rfl) ?_
  intro p e s m args below meth c Q A C hret
  refine k_aload_n (pc := 0) C rfl 0 rfl dX11_valueIn_0 ?_
  refine k_iconst (pc := 1) C iconst_0 dX11_valueIn_1 ?_
  refine p_X11_7 (pc := 2) (ws2 := [(h_t, moE (upd f_t 7 0) h_t_w h_t_saved h_t_trial h_t_text h_t_told), (h_t_w, jA cJ 294 f_t_w), (h_t_trial, jA cJ 294 f_t_trial)]) C q_1005 0 rfl rfl dX11_valueIn_2 ?_
  refine k_iload_n (pc := 5) C rfl 1 rfl dX11_valueIn_5 ?_
  refine k_i2l (pc := 6) C dX11_valueIn_6 ?_
  refine k_lconst (pc := 7) C lconst_0 dX11_valueIn_7 ?_
  refine k_lconst (pc := 8) C lconst_1 dX11_valueIn_8 ?_
  refine k_callSi (pc := 9) (As := [.long (Int32.toInt64 p0), .long 0, .long 1]) (rest := []) (r := (s_X11_in (Int32.toInt64 p0) 0 1)) (wc := []) (wc2 := []) (ws2 := [(h_t, moE (upd f_t 7 0) h_t_w h_t_saved h_t_trial h_t_text h_t_told), (h_t_w, jA cJ 294 f_t_w), (h_t_trial, jA cJ 294 f_t_trial)]) C (c_X11_in l D cI cJ cO (Int32.toInt64 p0) 0 1) cws_X11_in q_1051 [] rfl rfl (by decide) rfl rfl (Nat.le_of_ble_eq_true rfl) ⟨Nat.le_of_ble_eq_true rfl, Nat.le_of_ble_eq_true rfl⟩ rfl ⟨Nat.le_refl _, Nat.le_refl _⟩ dX11_valueIn_9 ?_
  refine k_if_ne (pc := 12) (tgt := 21) C dX11_valueIn_12 (by decide) (fun c_1 => ?_) (fun c_1 => ?_)
  · refine k_iload_n (pc := 21) C rfl 2 rfl dX11_valueIn_21 ?_
    refine k_i2l (pc := 22) C dX11_valueIn_22 ?_
    refine k_lconst (pc := 23) C lconst_0 dX11_valueIn_23 ?_
    refine k_ldc2 (pc := 24) C q_1249 dX11_valueIn_24 ?_
    refine k_callSi (pc := 27) (As := [.long (Int32.toInt64 p1), .long 0, .long 300]) (rest := []) (r := (s_X11_in (Int32.toInt64 p1) 0 300)) (wc := []) (wc2 := []) (ws2 := [(h_t, moE (upd f_t 7 0) h_t_w h_t_saved h_t_trial h_t_text h_t_told), (h_t_w, jA cJ 294 f_t_w), (h_t_trial, jA cJ 294 f_t_trial)]) C (c_X11_in l D cI cJ cO (Int32.toInt64 p1) 0 300) cws_X11_in q_1051 [] rfl rfl (by decide) rfl rfl (Nat.le_of_ble_eq_true rfl) ⟨Nat.le_of_ble_eq_true rfl, Nat.le_of_ble_eq_true rfl⟩ rfl ⟨Nat.le_refl _, Nat.le_refl _⟩ dX11_valueIn_27 ?_
    refine k_if_ne (pc := 30) (tgt := 39) C dX11_valueIn_30 (by decide) (fun c_2 => ?_) (fun c_2 => ?_)
    · refine k_aload_n (pc := 39) C rfl 0 rfl dX11_valueIn_39 ?_
      obtain ⟨u_3, eu_3⟩ : ∃ z : (Nat → Int64), z = (s_X11_beginTrial (upd f_t 7 0) f_t_w f_t_trial) := ⟨_, rfl⟩
      refine k_callVv (pc := 40) (As := []) (rest := []) (wc := [(h_t, moE (upd f_t 7 0) h_t_w h_t_saved h_t_trial h_t_text h_t_told), (h_t_w, jA cJ 294 f_t_w), (h_t_trial, jA cJ 294 f_t_trial)]) (wc2 := [(h_t, moE (upd f_t 7 0) h_t_w h_t_saved h_t_trial h_t_text h_t_told), (h_t_w, jA cJ 294 f_t_w), (h_t_trial, jA cJ 294 u_3)]) (ws2 := [(h_t, moE (upd f_t 7 0) h_t_w h_t_saved h_t_trial h_t_text h_t_told), (h_t_w, jA cJ 294 f_t_w), (h_t_trial, jA cJ 294 u_3)]) C (by rw [eu_3]; exact c_X11_beginTrial l D cI cJ cO h_t h_t_w h_t_saved h_t_trial h_t_text h_t_told (upd f_t 7 0) f_t_w f_t_trial) cwv_X11_beginTrial q_1250 vX11 0 rfl [0, 1, 2] rfl rfl (by decide) rfl rfl (Nat.le_of_ble_eq_true rfl) ⟨Nat.le_of_ble_eq_true rfl, Nat.le_of_ble_eq_true rfl⟩ rfl ⟨Nat.le_refl _, Nat.le_refl _⟩ dX11_valueIn_40 ?_
      refine k_iconst (pc := 43) C iconst_0 dX11_valueIn_43 ?_
      refine k_istore_n (pc := 44) (lv2 := [(3, .int 0), (0, .ref h_t), (1, .int p0), (2, .int p1)]) C rfl (by decide) rfl dX11_valueIn_44 ?_
      have K_14 : ∀ (m_10 : Int32 × (Nat → Int64)), m_10 = (kLoop default (b_X11_valueIn_L45 p1 f_t) ((Int32.toInt p1 - Int32.toInt 0).toNat + 1) (0, f_t_w)) → KJ p l e (kR 5 120) s m args below meth c 0 0 Q D A 4 [(h_t, moE (upd f_t 7 0) h_t_w h_t_saved h_t_trial h_t_text h_t_told), (h_t_w, jA cJ 294 m_10.2), (h_t_trial, jA cJ 294 u_3)] [(0, .ref h_t), (1, .int p0)] [] 60 := by
        intro m_10 em_10
        refine k_aload_n (pc := 60) C rfl 0 rfl dX11_valueIn_60 ?_
        refine g_X11_0 (pc := 61) C q_998 0 rfl dX11_valueIn_61 ?_
        refine k_bipush (pc := 64) C bipush_12 dX11_valueIn_64 ?_
        refine k_iload_n (pc := 66) C rfl 1 rfl dX11_valueIn_66 ?_
        refine k_iadd (pc := 67) C dX11_valueIn_67 ?_
        refine k_laldK (pc := 68) (v := (m_10.2 (Int32.toNatClampNeg (12 + p0)))) C 1 1 rfl rfl (kIn.vp (kIn.add (kIn.lit (x := 12) (n := 12) (by decide)) (kIn.inb c_1 (kInL.lit (x := 0) (n := 0) (by decide)) (kInL.lit (x := 1) (n := 1) (by decide))) (by decide) (by decide)) (by decide) (by decide)) rfl rfl dX11_valueIn_68 ?_
        refine k_l2i (pc := 69) C dX11_valueIn_69 ?_
        refine k_istore_n (pc := 70) (lv2 := [(3, .int (Int64.toInt32 (m_10.2 (Int32.toNatClampNeg (12 + p0))))), (0, .ref h_t), (1, .int p0)]) C rfl (by decide) rfl dX11_valueIn_70 ?_
        refine k_aload_n (pc := 71) C rfl 1 rfl dX11_valueIn_71 ?_
        obtain ⟨u_11, eu_11⟩ : ∃ z : (Nat → Int64), z = (s_X11_endTrial (upd f_t 7 0) u_3 m_10.2) := ⟨_, rfl⟩
        refine k_callVv (pc := 72) (As := []) (rest := []) (wc := [(h_t, moE (upd f_t 7 0) h_t_w h_t_saved h_t_trial h_t_text h_t_told), (h_t_trial, jA cJ 294 u_3), (h_t_w, jA cJ 294 m_10.2)]) (wc2 := [(h_t, moE (upd f_t 7 0) h_t_w h_t_saved h_t_trial h_t_text h_t_told), (h_t_trial, jA cJ 294 u_3), (h_t_w, jA cJ 294 u_11)]) (ws2 := [(h_t, moE (upd f_t 7 0) h_t_w h_t_saved h_t_trial h_t_text h_t_told), (h_t_w, jA cJ 294 u_11), (h_t_trial, jA cJ 294 u_3)]) C (by rw [eu_11]; exact c_X11_endTrial l D cI cJ cO h_t h_t_w h_t_saved h_t_trial h_t_text h_t_told (upd f_t 7 0) u_3 m_10.2) cwv_X11_endTrial q_1254 vX11 0 rfl [0, 2, 1] rfl rfl (by decide) rfl rfl (Nat.le_of_ble_eq_true rfl) ⟨Nat.le_of_ble_eq_true rfl, Nat.le_of_ble_eq_true rfl⟩ rfl ⟨Nat.le_refl _, Nat.le_refl _⟩ dX11_valueIn_72 ?_
        refine k_iload_n (pc := 75) C rfl 0 rfl dX11_valueIn_75 ?_
        have hs : (s_X11_valueIn f_t f_t_w f_t_trial p0 p1) = ((Int64.toInt32 (m_10.2 (Int32.toNatClampNeg (12 + p0)))), (upd f_t 7 0), u_11, u_3) := (k_st (g := s_X11_valueIn_6 p0 f_t p1 f_t_w) eu_3 ((if_neg c_1).trans (if_neg c_2)) (k_st (g := s_X11_valueIn_5 p0 f_t u_3) em_10 rfl (k_st (g := s_X11_valueIn_4 m_10 p0 f_t u_3) eu_11 rfl rfl)))
        exact k_finI (pc := 76) hret rfl (by rw [hs]) (by rw [hs]) dX11_valueIn_76
      have L_15 : ∀ (n : Nat) (z_7 : Int32 × (Nat → Int64)), (Int32.toInt p1 - Int32.toInt z_7.1).toNat < n → (P z_7.2) → kLoop default (b_X11_valueIn_L45 p1 f_t) n z_7 = (kLoop default (b_X11_valueIn_L45 p1 f_t) ((Int32.toInt p1 - Int32.toInt 0).toNat + 1) (0, f_t_w)) → KJ p l e (kR 5 120) s m args below meth c 0 0 Q D A 4 [(h_t, moE (upd f_t 7 0) h_t_w h_t_saved h_t_trial h_t_text h_t_told), (h_t_w, jA cJ 294 z_7.2), (h_t_trial, jA cJ 294 u_3)] [(3, .int z_7.1), (0, .ref h_t), (1, .int p0), (2, .int p1)] [] 45 := by
        intro n
        induction n with
        | zero => intro z_7 hmu; exact absurd hmu (Nat.not_lt_zero _)
        | succ n ih =>
          intro z_7 hmu hI hR
          refine k_iload_n (pc := 45) C rfl 0 rfl dX11_valueIn_45 ?_
          refine k_iload_n (pc := 46) C rfl 3 rfl dX11_valueIn_46 ?_
          refine k_icmp_ge (pc := 47) (tgt := 60) C dX11_valueIn_47 (by decide) (fun c_8 => ?_) (fun c_8 => ?_)
          · refine k_lpick (lv2 := [(0, .ref h_t), (1, .int p0)]) [1, 2] rfl ?_
            exact K_14 (z_7.1, z_7.2) (k_lout hR (if_pos c_8))
          · refine k_aload_n (pc := 50) C rfl 1 rfl dX11_valueIn_50 ?_
            obtain ⟨u_9, eu_9⟩ : ∃ z : (Nat → Int64), z = (s_X11_minute (upd f_t 7 0) z_7.2) := ⟨_, rfl⟩
            refine k_callVv (pc := 51) (As := []) (rest := []) (wc := [(h_t, moE (upd f_t 7 0) h_t_w h_t_saved h_t_trial h_t_text h_t_told), (h_t_w, jA cJ 294 z_7.2)]) (wc2 := [(h_t, moE (upd f_t 7 0) h_t_w h_t_saved h_t_trial h_t_text h_t_told), (h_t_w, jA cJ 294 u_9)]) (ws2 := [(h_t, moE (upd f_t 7 0) h_t_w h_t_saved h_t_trial h_t_text h_t_told), (h_t_w, jA cJ 294 u_9), (h_t_trial, jA cJ 294 u_3)]) C (by rw [eu_9]; exact c_X11_minute l D cI cJ cO h_t h_t_w h_t_saved h_t_trial h_t_text h_t_told (upd f_t 7 0) z_7.2 ((hPM (upd f_t 7 0) _ hI).1) ((hPM (upd f_t 7 0) _ hI).2.1) ((hPM (upd f_t 7 0) _ hI).2.2.1) ((hPM (upd f_t 7 0) _ hI).2.2.2.1) ((hPM (upd f_t 7 0) _ hI).2.2.2.2.1) ((hPM (upd f_t 7 0) _ hI).2.2.2.2.2)) cwv_X11_minute q_1105 vX11 0 rfl [0, 1] rfl rfl (by decide) rfl rfl (Nat.le_of_ble_eq_true rfl) ⟨Nat.le_of_ble_eq_true rfl, Nat.le_of_ble_eq_true rfl⟩ rfl ⟨Nat.le_refl _, Nat.le_refl _⟩ dX11_valueIn_51 ?_
            refine k_iinc (pc := 54) (v := (z_7.1 + 1)) (lv2 := [(3, .int (z_7.1 + 1)), (0, .ref h_t), (1, .int p0), (2, .int p1)]) C 0 rfl rfl (by decide) rfl dX11_valueIn_54 ?_
            refine k_goto (pc := 57) (tgt := 45) C (by decide) dX11_valueIn_57 ?_
            exact ih ((z_7.1 + 1), u_9) (k_dec (k_nle c_8) hmu) (by rw [eu_9]; exact hPs _ _ hI) (k_lin hR (k_st (g := b_X11_valueIn_1 z_7) eu_9 (if_neg c_8) rfl))
      exact L_15 ((Int32.toInt p1 - Int32.toInt 0).toNat + 1) (0, f_t_w) (Nat.lt_succ_self _) hP0 rfl
    · refine k_aload_n (pc := 33) C rfl 0 rfl dX11_valueIn_33 ?_
      refine k_iconst (pc := 34) C iconst_2 dX11_valueIn_34 ?_
      obtain ⟨u_12, eu_12⟩ : ∃ z : Int32 × (Nat → Int32), z = (s_X11_refuse (upd f_t 7 0) 2) := ⟨_, rfl⟩
      refine k_callVi (pc := 35) (As := [.int 2]) (rest := []) (r := u_12.1) (wc := [(h_t, moE (upd f_t 7 0) h_t_w h_t_saved h_t_trial h_t_text h_t_told)]) (wc2 := [(h_t, moE u_12.2 h_t_w h_t_saved h_t_trial h_t_text h_t_told)]) (ws2 := [(h_t, moE u_12.2 h_t_w h_t_saved h_t_trial h_t_text h_t_told), (h_t_w, jA cJ 294 f_t_w), (h_t_trial, jA cJ 294 f_t_trial)]) C (by rw [eu_12]; exact c_X11_refuse l D cI cJ cO h_t h_t_w h_t_saved h_t_trial h_t_text h_t_told (upd f_t 7 0) 2) cwv_X11_refuse q_1054 vX11 0 rfl [0] rfl rfl (by decide) rfl rfl (Nat.le_of_ble_eq_true rfl) ⟨Nat.le_of_ble_eq_true rfl, Nat.le_of_ble_eq_true rfl⟩ rfl ⟨Nat.le_refl _, Nat.le_refl _⟩ dX11_valueIn_35 ?_
      have hs : (s_X11_valueIn f_t f_t_w f_t_trial p0 p1) = (u_12.1, u_12.2, f_t_w, f_t_trial) := (k_st (g := s_X11_valueIn_3 f_t_w f_t_trial) eu_12 ((if_neg c_1).trans (if_pos c_2)) rfl)
      exact k_finI (pc := 38) hret rfl (by rw [hs]) (by rw [hs]) dX11_valueIn_38
  · refine k_aload_n (pc := 15) C rfl 0 rfl dX11_valueIn_15 ?_
    refine k_iconst (pc := 16) C iconst_1 dX11_valueIn_16 ?_
    obtain ⟨u_13, eu_13⟩ : ∃ z : Int32 × (Nat → Int32), z = (s_X11_refuse (upd f_t 7 0) 1) := ⟨_, rfl⟩
    refine k_callVi (pc := 17) (As := [.int 1]) (rest := []) (r := u_13.1) (wc := [(h_t, moE (upd f_t 7 0) h_t_w h_t_saved h_t_trial h_t_text h_t_told)]) (wc2 := [(h_t, moE u_13.2 h_t_w h_t_saved h_t_trial h_t_text h_t_told)]) (ws2 := [(h_t, moE u_13.2 h_t_w h_t_saved h_t_trial h_t_text h_t_told), (h_t_w, jA cJ 294 f_t_w), (h_t_trial, jA cJ 294 f_t_trial)]) C (by rw [eu_13]; exact c_X11_refuse l D cI cJ cO h_t h_t_w h_t_saved h_t_trial h_t_text h_t_told (upd f_t 7 0) 1) cwv_X11_refuse q_1054 vX11 0 rfl [0] rfl rfl (by decide) rfl rfl (Nat.le_of_ble_eq_true rfl) ⟨Nat.le_of_ble_eq_true rfl, Nat.le_of_ble_eq_true rfl⟩ rfl ⟨Nat.le_refl _, Nat.le_refl _⟩ dX11_valueIn_17 ?_
    have hs : (s_X11_valueIn f_t f_t_w f_t_trial p0 p1) = (u_13.1, u_13.2, f_t_w, f_t_trial) := (k_st (g := s_X11_valueIn_2 f_t_w f_t_trial) eu_13 (if_pos c_1) rfl)
    exact k_finI (pc := 20) hret rfl (by rw [hs]) (by rw [hs]) dX11_valueIn_20

theorem dX11_doneIn_0 : decode cX11_doneIn 0 = .ok (.aload_n 0, 1) := by decide +kernel
theorem dX11_doneIn_1 : decode cX11_doneIn 1 = .ok (.iconst 0, 1) := by decide +kernel
theorem dX11_doneIn_2 : decode cX11_doneIn 2 = .ok (.putfield 50, 3) := by decide +kernel
theorem dX11_doneIn_5 : decode cX11_doneIn 5 = .ok (.aload_n 0, 1) := by decide +kernel
theorem dX11_doneIn_6 : decode cX11_doneIn 6 = .ok (.invokevirtual 93, 3) := by decide +kernel
theorem dX11_doneIn_9 : decode cX11_doneIn 9 = .ok (.ifCond .ne 9, 3) := by decide +kernel
theorem dX11_doneIn_12 : decode cX11_doneIn 12 = .ok (.aload_n 0, 1) := by decide +kernel
theorem dX11_doneIn_13 : decode cX11_doneIn 13 = .ok (.iconst 1, 1) := by decide +kernel
theorem dX11_doneIn_14 : decode cX11_doneIn 14 = .ok (.invokevirtual 67, 3) := by decide +kernel
theorem dX11_doneIn_17 : decode cX11_doneIn 17 = .ok (.ireturn, 1) := by decide +kernel
theorem dX11_doneIn_18 : decode cX11_doneIn 18 = .ok (.aload_n 0, 1) := by decide +kernel
theorem dX11_doneIn_19 : decode cX11_doneIn 19 = .ok (.invokevirtual 186, 3) := by decide +kernel
theorem dX11_doneIn_22 : decode cX11_doneIn 22 = .ok (.iconst 0, 1) := by decide +kernel
theorem dX11_doneIn_23 : decode cX11_doneIn 23 = .ok (.istore_n 1, 1) := by decide +kernel
theorem dX11_doneIn_24 : decode cX11_doneIn 24 = .ok (.iload_n 1, 1) := by decide +kernel
theorem dX11_doneIn_25 : decode cX11_doneIn 25 = .ok (.sipush 1000, 3) := by decide +kernel
theorem dX11_doneIn_28 : decode cX11_doneIn 28 = .ok (.if_icmp .ge 20, 3) := by decide +kernel
theorem dX11_doneIn_31 : decode cX11_doneIn 31 = .ok (.aload_n 0, 1) := by decide +kernel
theorem dX11_doneIn_32 : decode cX11_doneIn 32 = .ok (.invokevirtual 111, 3) := by decide +kernel
theorem dX11_doneIn_35 : decode cX11_doneIn 35 = .ok (.ifCond .eq 13, 3) := by decide +kernel
theorem dX11_doneIn_38 : decode cX11_doneIn 38 = .ok (.aload_n 0, 1) := by decide +kernel
theorem dX11_doneIn_39 : decode cX11_doneIn 39 = .ok (.invokevirtual 162, 3) := by decide +kernel
theorem dX11_doneIn_42 : decode cX11_doneIn 42 = .ok (.iinc 1 1, 3) := by decide +kernel
theorem dX11_doneIn_45 : decode cX11_doneIn 45 = .ok (.goto (-21), 3) := by decide +kernel
theorem dX11_doneIn_48 : decode cX11_doneIn 48 = .ok (.aload_n 0, 1) := by decide +kernel
theorem dX11_doneIn_49 : decode cX11_doneIn 49 = .ok (.getfield 7, 3) := by decide +kernel
theorem dX11_doneIn_52 : decode cX11_doneIn 52 = .ok (.bipush 33, 2) := by decide +kernel
theorem dX11_doneIn_54 : decode cX11_doneIn 54 = .ok (.laload, 1) := by decide +kernel
theorem dX11_doneIn_55 : decode cX11_doneIn 55 = .ok (.ldc2_w 34, 3) := by decide +kernel
theorem dX11_doneIn_58 : decode cX11_doneIn 58 = .ok (.lcmp, 1) := by decide +kernel
theorem dX11_doneIn_59 : decode cX11_doneIn 59 = .ok (.ifCond .ne 7, 3) := by decide +kernel
theorem dX11_doneIn_62 : decode cX11_doneIn 62 = .ok (.iconst 1, 1) := by decide +kernel
theorem dX11_doneIn_63 : decode cX11_doneIn 63 = .ok (.goto 4, 3) := by decide +kernel
theorem dX11_doneIn_66 : decode cX11_doneIn 66 = .ok (.iconst 0, 1) := by decide +kernel
theorem dX11_doneIn_67 : decode cX11_doneIn 67 = .ok (.istore_n 2, 1) := by decide +kernel
theorem dX11_doneIn_68 : decode cX11_doneIn 68 = .ok (.aload_n 0, 1) := by decide +kernel
theorem dX11_doneIn_69 : decode cX11_doneIn 69 = .ok (.invokevirtual 189, 3) := by decide +kernel
theorem dX11_doneIn_72 : decode cX11_doneIn 72 = .ok (.iload_n 2, 1) := by decide +kernel
theorem dX11_doneIn_73 : decode cX11_doneIn 73 = .ok (.ifCond .eq 7, 3) := by decide +kernel
theorem dX11_doneIn_76 : decode cX11_doneIn 76 = .ok (.iload_n 1, 1) := by decide +kernel
theorem dX11_doneIn_77 : decode cX11_doneIn 77 = .ok (.goto 6, 3) := by decide +kernel
theorem dX11_doneIn_80 : decode cX11_doneIn 80 = .ok (.sipush (-10000), 3) := by decide +kernel
theorem dX11_doneIn_83 : decode cX11_doneIn 83 = .ok (.ireturn, 1) := by decide +kernel
def b_X11_doneIn_1 (z_6 : Int32 × (Nat → Int64)) (u_9 : (Nat → Int64)) : (Int32 × (Nat → Int64)) ⊕ (Int32 × (Nat → Int64)) :=
  (Sum.inl ((z_6.1 + 1), u_9))
def b_X11_doneIn_L24 (f_t : Nat → Int32) (z_6 : Int32 × (Nat → Int64)) : (Int32 × (Nat → Int64)) ⊕ (Int32 × (Nat → Int64)) :=
  (if 1000 ≤ z_6.1 then (Sum.inr (z_6.1, z_6.2)) else (if (s_X11_goesOn (upd f_t 7 0) z_6.2) = 0 then (Sum.inr (z_6.1, z_6.2)) else (b_X11_doneIn_1 z_6 (s_X11_minute (upd f_t 7 0) z_6.2))))
def s_X11_doneIn_2 (f_t_w : Nat → Int64) (f_t_trial : Nat → Int64) (u_16 : Int32 × (Nat → Int32)) : Int32 × (Nat → Int32) × (Nat → Int64) × (Nat → Int64) :=
  (u_16.1, u_16.2, f_t_w, f_t_trial)
def s_X11_doneIn_3 (f_t : Nat → Int32) (u_13 : (Nat → Int64)) (u_2 : (Nat → Int64)) (x_15 : Int32) : Int32 × (Nat → Int32) × (Nat → Int64) × (Nat → Int64) :=
  (x_15, (upd f_t 7 0), u_13, u_2)
def s_X11_doneIn_4 (f_t : Nat → Int32) (u_2 : (Nat → Int64)) (x_12 : Int32) (m_10 : Int32 × (Nat → Int64)) (u_13 : (Nat → Int64)) : Int32 × (Nat → Int32) × (Nat → Int64) × (Nat → Int64) :=
  (s_X11_doneIn_3 f_t u_13 u_2 (if x_12 = 0 then (-10000) else m_10.1))
def s_X11_doneIn_5 (f_t : Nat → Int32) (u_2 : (Nat → Int64)) (m_10 : Int32 × (Nat → Int64)) (x_12 : Int32) : Int32 × (Nat → Int32) × (Nat → Int64) × (Nat → Int64) :=
  (s_X11_doneIn_4 f_t u_2 x_12 m_10 (s_X11_endTrial (upd f_t 7 0) u_2 m_10.2))
def s_X11_doneIn_6 (f_t : Nat → Int32) (u_2 : (Nat → Int64)) (m_10 : Int32 × (Nat → Int64)) : Int32 × (Nat → Int32) × (Nat → Int64) × (Nat → Int64) :=
  (s_X11_doneIn_5 f_t u_2 m_10 (if (m_10.2 33) = 3 then 1 else 0))
def s_X11_doneIn_7 (f_t : Nat → Int32) (f_t_w : Nat → Int64) (u_2 : (Nat → Int64)) : Int32 × (Nat → Int32) × (Nat → Int64) × (Nat → Int64) :=
  (s_X11_doneIn_6 f_t u_2 (kLoop default (b_X11_doneIn_L24 f_t) ((Int32.toInt 1000 - Int32.toInt 0).toNat + 1) (0, f_t_w)))
def s_X11_doneIn (f_t : Nat → Int32) (f_t_w : Nat → Int64) (f_t_trial : Nat → Int64) : Int32 × (Nat → Int32) × (Nat → Int64) × (Nat → Int64) :=
  (if (s_X11_runs (upd f_t 7 0) f_t_w) = 0 then (s_X11_doneIn_2 f_t_w f_t_trial (s_X11_refuse (upd f_t 7 0) 1)) else (s_X11_doneIn_7 f_t f_t_w (s_X11_beginTrial (upd f_t 7 0) f_t_w f_t_trial)))
set_option maxRecDepth 100000 in
set_option maxHeartbeats 4000000 in
theorem c_X11_doneIn (l : Launch) (D : va_G) (cI cJ cO : ClassId) (h_t : Nat) (h_t_w : Nat) (h_t_saved : Nat) (h_t_trial : Nat) (h_t_text : Nat) (h_t_told : Nat) (f_t : Nat → Int32) (f_t_w : Nat → Int64) (f_t_trial : Nat → Int64) (P : (Nat → Int64) → Prop) (hPM : ∀ (f : Nat → Int32) (w : Nat → Int64), P w → kMI f w) (hPs : ∀ (f : Nat → Int32) (w : Nat → Int64), P w → P (s_X11_minute f w)) (hP0 : P f_t_w) : kI l yX11_doneIn cX11_doneIn 3 .int 5 120 D (kT cI cJ cO) [.ref h_t] [(h_t, moE f_t h_t_w h_t_saved h_t_trial h_t_text h_t_told), (h_t_w, jA cJ 294 f_t_w), (h_t_trial, jA cJ 294 f_t_trial)] ((s_X11_doneIn f_t f_t_w f_t_trial).1) [(h_t, moE (s_X11_doneIn f_t f_t_w f_t_trial).2.1 h_t_w h_t_saved h_t_trial h_t_text h_t_told), (h_t_w, jA cJ 294 (s_X11_doneIn f_t f_t_w f_t_trial).2.2.1), (h_t_trial, jA cJ 294 (s_X11_doneIn f_t f_t_w f_t_trial).2.2.2)] := by
  refine kI_of (own := RX11) (lv := [(0, .ref h_t)]) rfl rfl (by decide) (Nat.le_of_ble_eq_true rfl) ?_
  intro p e s m args below meth c Q A C hret
  refine k_aload_n (pc := 0) C rfl 0 rfl dX11_doneIn_0 ?_
  refine k_iconst (pc := 1) C iconst_0 dX11_doneIn_1 ?_
  refine p_X11_7 (pc := 2) (ws2 := [(h_t, moE (upd f_t 7 0) h_t_w h_t_saved h_t_trial h_t_text h_t_told), (h_t_w, jA cJ 294 f_t_w), (h_t_trial, jA cJ 294 f_t_trial)]) C q_1005 0 rfl rfl dX11_doneIn_2 ?_
  refine k_aload_n (pc := 5) C rfl 0 rfl dX11_doneIn_5 ?_
  refine k_callVi (pc := 6) (As := []) (rest := []) (r := (s_X11_runs (upd f_t 7 0) f_t_w)) (wc := [(h_t, moE (upd f_t 7 0) h_t_w h_t_saved h_t_trial h_t_text h_t_told), (h_t_w, jA cJ 294 f_t_w)]) (wc2 := [(h_t, moE (upd f_t 7 0) h_t_w h_t_saved h_t_trial h_t_text h_t_told), (h_t_w, jA cJ 294 f_t_w)]) (ws2 := [(h_t, moE (upd f_t 7 0) h_t_w h_t_saved h_t_trial h_t_text h_t_told), (h_t_w, jA cJ 294 f_t_w), (h_t_trial, jA cJ 294 f_t_trial)]) C (c_X11_runs l D cI cJ cO h_t h_t_w h_t_saved h_t_trial h_t_text h_t_told (upd f_t 7 0) f_t_w) cwv_X11_runs q_1085 vX11 0 rfl [0, 1] rfl rfl (by decide) rfl rfl (Nat.le_of_ble_eq_true rfl) ⟨Nat.le_of_ble_eq_true rfl, Nat.le_of_ble_eq_true rfl⟩ rfl ⟨Nat.le_refl _, Nat.le_refl _⟩ dX11_doneIn_6 ?_
  refine k_if_ne (pc := 9) (tgt := 18) C dX11_doneIn_9 (by decide) (fun c_1 => ?_) (fun c_1 => ?_)
  · refine k_aload_n (pc := 18) C rfl 0 rfl dX11_doneIn_18 ?_
    obtain ⟨u_2, eu_2⟩ : ∃ z : (Nat → Int64), z = (s_X11_beginTrial (upd f_t 7 0) f_t_w f_t_trial) := ⟨_, rfl⟩
    refine k_callVv (pc := 19) (As := []) (rest := []) (wc := [(h_t, moE (upd f_t 7 0) h_t_w h_t_saved h_t_trial h_t_text h_t_told), (h_t_w, jA cJ 294 f_t_w), (h_t_trial, jA cJ 294 f_t_trial)]) (wc2 := [(h_t, moE (upd f_t 7 0) h_t_w h_t_saved h_t_trial h_t_text h_t_told), (h_t_w, jA cJ 294 f_t_w), (h_t_trial, jA cJ 294 u_2)]) (ws2 := [(h_t, moE (upd f_t 7 0) h_t_w h_t_saved h_t_trial h_t_text h_t_told), (h_t_w, jA cJ 294 f_t_w), (h_t_trial, jA cJ 294 u_2)]) C (by rw [eu_2]; exact c_X11_beginTrial l D cI cJ cO h_t h_t_w h_t_saved h_t_trial h_t_text h_t_told (upd f_t 7 0) f_t_w f_t_trial) cwv_X11_beginTrial q_1250 vX11 0 rfl [0, 1, 2] rfl rfl (by decide) rfl rfl (Nat.le_of_ble_eq_true rfl) ⟨Nat.le_of_ble_eq_true rfl, Nat.le_of_ble_eq_true rfl⟩ rfl ⟨Nat.le_refl _, Nat.le_refl _⟩ dX11_doneIn_19 ?_
    refine k_iconst (pc := 22) C iconst_0 dX11_doneIn_22 ?_
    refine k_istore_n (pc := 23) (lv2 := [(1, .int 0), (0, .ref h_t)]) C rfl (by decide) rfl dX11_doneIn_23 ?_
    have K_17 : ∀ (m_10 : Int32 × (Nat → Int64)), m_10 = (kLoop default (b_X11_doneIn_L24 f_t) ((Int32.toInt 1000 - Int32.toInt 0).toNat + 1) (0, f_t_w)) → KJ p l e (kR 5 120) s m args below meth c 0 0 Q D A 3 [(h_t, moE (upd f_t 7 0) h_t_w h_t_saved h_t_trial h_t_text h_t_told), (h_t_w, jA cJ 294 m_10.2), (h_t_trial, jA cJ 294 u_2)] [(1, .int m_10.1), (0, .ref h_t)] [] 48 := by
      intro m_10 em_10
      refine k_aload_n (pc := 48) C rfl 1 rfl dX11_doneIn_48 ?_
      refine g_X11_0 (pc := 49) C q_998 0 rfl dX11_doneIn_49 ?_
      refine k_bipush (pc := 52) C bipush_33 dX11_doneIn_52 ?_
      refine k_laldK (pc := 54) (v := (m_10.2 33)) C 1 1 rfl rfl (k_vinc 33 cl_33 (by decide) (by decide)) cl_33 rfl dX11_doneIn_54 ?_
      refine k_ldc2 (pc := 55) C q_990 dX11_doneIn_55 ?_
      have K_18 : ∀ (x_12 : Int32), x_12 = (if (m_10.2 33) = 3 then 1 else 0) → KJ p l e (kR 5 120) s m args below meth c 0 0 Q D A 3 [(h_t, moE (upd f_t 7 0) h_t_w h_t_saved h_t_trial h_t_text h_t_told), (h_t_w, jA cJ 294 m_10.2), (h_t_trial, jA cJ 294 u_2)] [(1, .int m_10.1), (0, .ref h_t)] [.int x_12] 67 := by
        intro x_12 ex_12
        refine k_istore_n (pc := 67) (lv2 := [(2, .int x_12), (1, .int m_10.1), (0, .ref h_t)]) C rfl (by decide) rfl dX11_doneIn_67 ?_
        refine k_aload_n (pc := 68) C rfl 2 rfl dX11_doneIn_68 ?_
        obtain ⟨u_13, eu_13⟩ : ∃ z : (Nat → Int64), z = (s_X11_endTrial (upd f_t 7 0) u_2 m_10.2) := ⟨_, rfl⟩
        refine k_callVv (pc := 69) (As := []) (rest := []) (wc := [(h_t, moE (upd f_t 7 0) h_t_w h_t_saved h_t_trial h_t_text h_t_told), (h_t_trial, jA cJ 294 u_2), (h_t_w, jA cJ 294 m_10.2)]) (wc2 := [(h_t, moE (upd f_t 7 0) h_t_w h_t_saved h_t_trial h_t_text h_t_told), (h_t_trial, jA cJ 294 u_2), (h_t_w, jA cJ 294 u_13)]) (ws2 := [(h_t, moE (upd f_t 7 0) h_t_w h_t_saved h_t_trial h_t_text h_t_told), (h_t_w, jA cJ 294 u_13), (h_t_trial, jA cJ 294 u_2)]) C (by rw [eu_13]; exact c_X11_endTrial l D cI cJ cO h_t h_t_w h_t_saved h_t_trial h_t_text h_t_told (upd f_t 7 0) u_2 m_10.2) cwv_X11_endTrial q_1254 vX11 0 rfl [0, 2, 1] rfl rfl (by decide) rfl rfl (Nat.le_of_ble_eq_true rfl) ⟨Nat.le_of_ble_eq_true rfl, Nat.le_of_ble_eq_true rfl⟩ rfl ⟨Nat.le_refl _, Nat.le_refl _⟩ dX11_doneIn_69 ?_
        refine k_iload_n (pc := 72) C rfl 0 rfl dX11_doneIn_72 ?_
        have K_19 : ∀ (x_15 : Int32), x_15 = (if x_12 = 0 then (-10000) else m_10.1) → KJ p l e (kR 5 120) s m args below meth c 0 0 Q D A 3 [(h_t, moE (upd f_t 7 0) h_t_w h_t_saved h_t_trial h_t_text h_t_told), (h_t_w, jA cJ 294 u_13), (h_t_trial, jA cJ 294 u_2)] [] [.int x_15] 83 := by
          intro x_15 ex_15
          have hs : (s_X11_doneIn f_t f_t_w f_t_trial) = (x_15, (upd f_t 7 0), u_13, u_2) := (k_st (g := s_X11_doneIn_7 f_t f_t_w) eu_2 (if_neg c_1) (k_st (g := s_X11_doneIn_6 f_t u_2) em_10 rfl (k_st (g := s_X11_doneIn_5 f_t u_2 m_10) ex_12 rfl (k_st (g := s_X11_doneIn_4 f_t u_2 x_12 m_10) eu_13 rfl (k_st (g := s_X11_doneIn_3 f_t u_13 u_2) ex_15 rfl rfl)))))
          exact k_finI (pc := 83) hret rfl (by rw [hs]) (by rw [hs]) dX11_doneIn_83
        refine k_if_eq (pc := 73) (tgt := 80) C dX11_doneIn_73 (by decide) (fun c_14 => ?_) (fun c_14 => ?_)
        · refine k_sipush (pc := 80) C sipush_m10000 dX11_doneIn_80 ?_
          refine k_lpick (lv2 := []) [] rfl ?_
          exact K_19 (-10000) (Eq.symm (if_pos c_14))
        · refine k_iload_n (pc := 76) C rfl 1 rfl dX11_doneIn_76 ?_
          refine k_goto (pc := 77) (tgt := 83) C (by decide) dX11_doneIn_77 ?_
          refine k_lpick (lv2 := []) [] rfl ?_
          exact K_19 m_10.1 (Eq.symm (if_neg c_14))
      refine k_lcmp_ne (pc := 58) (tgt := 66) C dX11_doneIn_58 dX11_doneIn_59 (by decide) (fun c_11 => ?_) (fun c_11 => ?_)
      · refine k_iconst (pc := 66) C iconst_0 dX11_doneIn_66 ?_
        exact K_18 0 (Eq.symm (if_neg c_11))
      · refine k_iconst (pc := 62) C iconst_1 dX11_doneIn_62 ?_
        refine k_goto (pc := 63) (tgt := 67) C (by decide) dX11_doneIn_63 ?_
        exact K_18 1 (Eq.symm (if_pos c_11))
    have L_20 : ∀ (n : Nat) (z_6 : Int32 × (Nat → Int64)), (Int32.toInt 1000 - Int32.toInt z_6.1).toNat < n → (P z_6.2) → kLoop default (b_X11_doneIn_L24 f_t) n z_6 = (kLoop default (b_X11_doneIn_L24 f_t) ((Int32.toInt 1000 - Int32.toInt 0).toNat + 1) (0, f_t_w)) → KJ p l e (kR 5 120) s m args below meth c 0 0 Q D A 3 [(h_t, moE (upd f_t 7 0) h_t_w h_t_saved h_t_trial h_t_text h_t_told), (h_t_w, jA cJ 294 z_6.2), (h_t_trial, jA cJ 294 u_2)] [(1, .int z_6.1), (0, .ref h_t)] [] 24 := by
      intro n
      induction n with
      | zero => intro z_6 hmu; exact absurd hmu (Nat.not_lt_zero _)
      | succ n ih =>
        intro z_6 hmu hI hR
        refine k_iload_n (pc := 24) C rfl 0 rfl dX11_doneIn_24 ?_
        refine k_sipush (pc := 25) C sipush_1000 dX11_doneIn_25 ?_
        refine k_icmp_ge (pc := 28) (tgt := 48) C dX11_doneIn_28 (by decide) (fun c_7 => ?_) (fun c_7 => ?_)
        · exact K_17 (z_6.1, z_6.2) (k_lout hR (if_pos c_7))
        · refine k_aload_n (pc := 31) C rfl 1 rfl dX11_doneIn_31 ?_
          refine k_callVi (pc := 32) (As := []) (rest := []) (r := (s_X11_goesOn (upd f_t 7 0) z_6.2)) (wc := [(h_t, moE (upd f_t 7 0) h_t_w h_t_saved h_t_trial h_t_text h_t_told), (h_t_w, jA cJ 294 z_6.2)]) (wc2 := [(h_t, moE (upd f_t 7 0) h_t_w h_t_saved h_t_trial h_t_text h_t_told), (h_t_w, jA cJ 294 z_6.2)]) (ws2 := [(h_t, moE (upd f_t 7 0) h_t_w h_t_saved h_t_trial h_t_text h_t_told), (h_t_w, jA cJ 294 z_6.2), (h_t_trial, jA cJ 294 u_2)]) C (c_X11_goesOn l D cI cJ cO h_t h_t_w h_t_saved h_t_trial h_t_text h_t_told (upd f_t 7 0) z_6.2) cwv_X11_goesOn q_1113 vX11 0 rfl [0, 1] rfl rfl (by decide) rfl rfl (Nat.le_of_ble_eq_true rfl) ⟨Nat.le_of_ble_eq_true rfl, Nat.le_of_ble_eq_true rfl⟩ rfl ⟨Nat.le_refl _, Nat.le_refl _⟩ dX11_doneIn_32 ?_
          refine k_if_eq (pc := 35) (tgt := 48) C dX11_doneIn_35 (by decide) (fun c_8 => ?_) (fun c_8 => ?_)
          · exact K_17 (z_6.1, z_6.2) (k_lout hR ((if_neg c_7).trans (if_pos c_8)))
          · refine k_aload_n (pc := 38) C rfl 1 rfl dX11_doneIn_38 ?_
            obtain ⟨u_9, eu_9⟩ : ∃ z : (Nat → Int64), z = (s_X11_minute (upd f_t 7 0) z_6.2) := ⟨_, rfl⟩
            refine k_callVv (pc := 39) (As := []) (rest := []) (wc := [(h_t, moE (upd f_t 7 0) h_t_w h_t_saved h_t_trial h_t_text h_t_told), (h_t_w, jA cJ 294 z_6.2)]) (wc2 := [(h_t, moE (upd f_t 7 0) h_t_w h_t_saved h_t_trial h_t_text h_t_told), (h_t_w, jA cJ 294 u_9)]) (ws2 := [(h_t, moE (upd f_t 7 0) h_t_w h_t_saved h_t_trial h_t_text h_t_told), (h_t_w, jA cJ 294 u_9), (h_t_trial, jA cJ 294 u_2)]) C (by rw [eu_9]; exact c_X11_minute l D cI cJ cO h_t h_t_w h_t_saved h_t_trial h_t_text h_t_told (upd f_t 7 0) z_6.2 ((hPM (upd f_t 7 0) _ hI).1) ((hPM (upd f_t 7 0) _ hI).2.1) ((hPM (upd f_t 7 0) _ hI).2.2.1) ((hPM (upd f_t 7 0) _ hI).2.2.2.1) ((hPM (upd f_t 7 0) _ hI).2.2.2.2.1) ((hPM (upd f_t 7 0) _ hI).2.2.2.2.2)) cwv_X11_minute q_1105 vX11 0 rfl [0, 1] rfl rfl (by decide) rfl rfl (Nat.le_of_ble_eq_true rfl) ⟨Nat.le_of_ble_eq_true rfl, Nat.le_of_ble_eq_true rfl⟩ rfl ⟨Nat.le_refl _, Nat.le_refl _⟩ dX11_doneIn_39 ?_
            refine k_iinc (pc := 42) (v := (z_6.1 + 1)) (lv2 := [(1, .int (z_6.1 + 1)), (0, .ref h_t)]) C 0 rfl rfl (by decide) rfl dX11_doneIn_42 ?_
            refine k_goto (pc := 45) (tgt := 24) C (by decide) dX11_doneIn_45 ?_
            exact ih ((z_6.1 + 1), u_9) (k_dec (k_nle c_7) hmu) (by rw [eu_9]; exact hPs _ _ hI) (k_lin hR (k_st (g := b_X11_doneIn_1 z_6) eu_9 ((if_neg c_7).trans (if_neg c_8)) rfl))
    exact L_20 ((Int32.toInt 1000 - Int32.toInt 0).toNat + 1) (0, f_t_w) (Nat.lt_succ_self _) hP0 rfl
  · refine k_aload_n (pc := 12) C rfl 0 rfl dX11_doneIn_12 ?_
    refine k_iconst (pc := 13) C iconst_1 dX11_doneIn_13 ?_
    obtain ⟨u_16, eu_16⟩ : ∃ z : Int32 × (Nat → Int32), z = (s_X11_refuse (upd f_t 7 0) 1) := ⟨_, rfl⟩
    refine k_callVi (pc := 14) (As := [.int 1]) (rest := []) (r := u_16.1) (wc := [(h_t, moE (upd f_t 7 0) h_t_w h_t_saved h_t_trial h_t_text h_t_told)]) (wc2 := [(h_t, moE u_16.2 h_t_w h_t_saved h_t_trial h_t_text h_t_told)]) (ws2 := [(h_t, moE u_16.2 h_t_w h_t_saved h_t_trial h_t_text h_t_told), (h_t_w, jA cJ 294 f_t_w), (h_t_trial, jA cJ 294 f_t_trial)]) C (by rw [eu_16]; exact c_X11_refuse l D cI cJ cO h_t h_t_w h_t_saved h_t_trial h_t_text h_t_told (upd f_t 7 0) 1) cwv_X11_refuse q_1054 vX11 0 rfl [0] rfl rfl (by decide) rfl rfl (Nat.le_of_ble_eq_true rfl) ⟨Nat.le_of_ble_eq_true rfl, Nat.le_of_ble_eq_true rfl⟩ rfl ⟨Nat.le_refl _, Nat.le_refl _⟩ dX11_doneIn_14 ?_
    have hs : (s_X11_doneIn f_t f_t_w f_t_trial) = (u_16.1, u_16.2, f_t_w, f_t_trial) := (k_st (g := s_X11_doneIn_2 f_t_w f_t_trial) eu_16 (if_pos c_1) rfl)
    exact k_finI (pc := 17) hret rfl (by rw [hs]) (by rw [hs]) dX11_doneIn_17

theorem dX11_reachIn_0 : decode cX11_reachIn 0 = .ok (.aload_n 0, 1) := by decide +kernel
theorem dX11_reachIn_1 : decode cX11_reachIn 1 = .ok (.iconst 0, 1) := by decide +kernel
theorem dX11_reachIn_2 : decode cX11_reachIn 2 = .ok (.putfield 50, 3) := by decide +kernel
theorem dX11_reachIn_5 : decode cX11_reachIn 5 = .ok (.iload_n 1, 1) := by decide +kernel
theorem dX11_reachIn_6 : decode cX11_reachIn 6 = .ok (.invokestatic 86, 3) := by decide +kernel
theorem dX11_reachIn_9 : decode cX11_reachIn 9 = .ok (.ifCond .ne 9, 3) := by decide +kernel
theorem dX11_reachIn_12 : decode cX11_reachIn 12 = .ok (.aload_n 0, 1) := by decide +kernel
theorem dX11_reachIn_13 : decode cX11_reachIn 13 = .ok (.iconst 1, 1) := by decide +kernel
theorem dX11_reachIn_14 : decode cX11_reachIn 14 = .ok (.invokevirtual 67, 3) := by decide +kernel
theorem dX11_reachIn_17 : decode cX11_reachIn 17 = .ok (.ireturn, 1) := by decide +kernel
theorem dX11_reachIn_18 : decode cX11_reachIn 18 = .ok (.aload_n 0, 1) := by decide +kernel
theorem dX11_reachIn_19 : decode cX11_reachIn 19 = .ok (.invokevirtual 186, 3) := by decide +kernel
theorem dX11_reachIn_22 : decode cX11_reachIn 22 = .ok (.aload_n 0, 1) := by decide +kernel
theorem dX11_reachIn_23 : decode cX11_reachIn 23 = .ok (.getfield 7, 3) := by decide +kernel
theorem dX11_reachIn_26 : decode cX11_reachIn 26 = .ok (.bipush 33, 2) := by decide +kernel
theorem dX11_reachIn_28 : decode cX11_reachIn 28 = .ok (.lconst 0, 1) := by decide +kernel
theorem dX11_reachIn_29 : decode cX11_reachIn 29 = .ok (.lastore, 1) := by decide +kernel
theorem dX11_reachIn_30 : decode cX11_reachIn 30 = .ok (.aload_n 0, 1) := by decide +kernel
theorem dX11_reachIn_31 : decode cX11_reachIn 31 = .ok (.getfield 7, 3) := by decide +kernel
theorem dX11_reachIn_34 : decode cX11_reachIn 34 = .ok (.bipush 16, 2) := by decide +kernel
theorem dX11_reachIn_36 : decode cX11_reachIn 36 = .ok (.lconst 0, 1) := by decide +kernel
theorem dX11_reachIn_37 : decode cX11_reachIn 37 = .ok (.lastore, 1) := by decide +kernel
theorem dX11_reachIn_38 : decode cX11_reachIn 38 = .ok (.aload_n 0, 1) := by decide +kernel
theorem dX11_reachIn_39 : decode cX11_reachIn 39 = .ok (.getfield 7, 3) := by decide +kernel
theorem dX11_reachIn_42 : decode cX11_reachIn 42 = .ok (.bipush 14, 2) := by decide +kernel
theorem dX11_reachIn_44 : decode cX11_reachIn 44 = .ok (.iload_n 1, 1) := by decide +kernel
theorem dX11_reachIn_45 : decode cX11_reachIn 45 = .ok (.i2l, 1) := by decide +kernel
theorem dX11_reachIn_46 : decode cX11_reachIn 46 = .ok (.lastore, 1) := by decide +kernel
theorem dX11_reachIn_47 : decode cX11_reachIn 47 = .ok (.iconst 0, 1) := by decide +kernel
theorem dX11_reachIn_48 : decode cX11_reachIn 48 = .ok (.istore_n 2, 1) := by decide +kernel
theorem dX11_reachIn_49 : decode cX11_reachIn 49 = .ok (.iload_n 2, 1) := by decide +kernel
theorem dX11_reachIn_50 : decode cX11_reachIn 50 = .ok (.sipush 500, 3) := by decide +kernel
theorem dX11_reachIn_53 : decode cX11_reachIn 53 = .ok (.if_icmp .ge 37, 3) := by decide +kernel
theorem dX11_reachIn_56 : decode cX11_reachIn 56 = .ok (.aload_n 0, 1) := by decide +kernel
theorem dX11_reachIn_57 : decode cX11_reachIn 57 = .ok (.getfield 7, 3) := by decide +kernel
theorem dX11_reachIn_60 : decode cX11_reachIn 60 = .ok (.bipush 12, 2) := by decide +kernel
theorem dX11_reachIn_62 : decode cX11_reachIn 62 = .ok (.laload, 1) := by decide +kernel
theorem dX11_reachIn_63 : decode cX11_reachIn 63 = .ok (.iload_n 1, 1) := by decide +kernel
theorem dX11_reachIn_64 : decode cX11_reachIn 64 = .ok (.i2l, 1) := by decide +kernel
theorem dX11_reachIn_65 : decode cX11_reachIn 65 = .ok (.lsub, 1) := by decide +kernel
theorem dX11_reachIn_66 : decode cX11_reachIn 66 = .ok (.invokestatic 101, 3) := by decide +kernel
theorem dX11_reachIn_69 : decode cX11_reachIn 69 = .ok (.aload_n 0, 1) := by decide +kernel
theorem dX11_reachIn_70 : decode cX11_reachIn 70 = .ok (.getfield 7, 3) := by decide +kernel
theorem dX11_reachIn_73 : decode cX11_reachIn 73 = .ok (.bipush 6, 2) := by decide +kernel
theorem dX11_reachIn_75 : decode cX11_reachIn 75 = .ok (.laload, 1) := by decide +kernel
theorem dX11_reachIn_76 : decode cX11_reachIn 76 = .ok (.lcmp, 1) := by decide +kernel
theorem dX11_reachIn_77 : decode cX11_reachIn 77 = .ok (.ifCond .le 13, 3) := by decide +kernel
theorem dX11_reachIn_80 : decode cX11_reachIn 80 = .ok (.aload_n 0, 1) := by decide +kernel
theorem dX11_reachIn_81 : decode cX11_reachIn 81 = .ok (.invokevirtual 162, 3) := by decide +kernel
theorem dX11_reachIn_84 : decode cX11_reachIn 84 = .ok (.iinc 2 1, 3) := by decide +kernel
theorem dX11_reachIn_87 : decode cX11_reachIn 87 = .ok (.goto (-38), 3) := by decide +kernel
theorem dX11_reachIn_90 : decode cX11_reachIn 90 = .ok (.aload_n 0, 1) := by decide +kernel
theorem dX11_reachIn_91 : decode cX11_reachIn 91 = .ok (.getfield 7, 3) := by decide +kernel
theorem dX11_reachIn_94 : decode cX11_reachIn 94 = .ok (.bipush 12, 2) := by decide +kernel
theorem dX11_reachIn_96 : decode cX11_reachIn 96 = .ok (.laload, 1) := by decide +kernel
theorem dX11_reachIn_97 : decode cX11_reachIn 97 = .ok (.iload_n 1, 1) := by decide +kernel
theorem dX11_reachIn_98 : decode cX11_reachIn 98 = .ok (.i2l, 1) := by decide +kernel
theorem dX11_reachIn_99 : decode cX11_reachIn 99 = .ok (.lsub, 1) := by decide +kernel
theorem dX11_reachIn_100 : decode cX11_reachIn 100 = .ok (.invokestatic 101, 3) := by decide +kernel
theorem dX11_reachIn_103 : decode cX11_reachIn 103 = .ok (.aload_n 0, 1) := by decide +kernel
theorem dX11_reachIn_104 : decode cX11_reachIn 104 = .ok (.getfield 7, 3) := by decide +kernel
theorem dX11_reachIn_107 : decode cX11_reachIn 107 = .ok (.bipush 6, 2) := by decide +kernel
theorem dX11_reachIn_109 : decode cX11_reachIn 109 = .ok (.laload, 1) := by decide +kernel
theorem dX11_reachIn_110 : decode cX11_reachIn 110 = .ok (.lcmp, 1) := by decide +kernel
theorem dX11_reachIn_111 : decode cX11_reachIn 111 = .ok (.ifCond .gt 7, 3) := by decide +kernel
theorem dX11_reachIn_114 : decode cX11_reachIn 114 = .ok (.iconst 1, 1) := by decide +kernel
theorem dX11_reachIn_115 : decode cX11_reachIn 115 = .ok (.goto 4, 3) := by decide +kernel
theorem dX11_reachIn_118 : decode cX11_reachIn 118 = .ok (.iconst 0, 1) := by decide +kernel
theorem dX11_reachIn_119 : decode cX11_reachIn 119 = .ok (.istore_n 3, 1) := by decide +kernel
theorem dX11_reachIn_120 : decode cX11_reachIn 120 = .ok (.aload_n 0, 1) := by decide +kernel
theorem dX11_reachIn_121 : decode cX11_reachIn 121 = .ok (.invokevirtual 189, 3) := by decide +kernel
theorem dX11_reachIn_124 : decode cX11_reachIn 124 = .ok (.iload_n 3, 1) := by decide +kernel
theorem dX11_reachIn_125 : decode cX11_reachIn 125 = .ok (.ifCond .eq 7, 3) := by decide +kernel
theorem dX11_reachIn_128 : decode cX11_reachIn 128 = .ok (.iload_n 2, 1) := by decide +kernel
theorem dX11_reachIn_129 : decode cX11_reachIn 129 = .ok (.goto 6, 3) := by decide +kernel
theorem dX11_reachIn_132 : decode cX11_reachIn 132 = .ok (.sipush (-10000), 3) := by decide +kernel
theorem dX11_reachIn_135 : decode cX11_reachIn 135 = .ok (.ireturn, 1) := by decide +kernel
def b_X11_reachIn_1 (z_6 : Int32 × (Nat → Int64)) (u_9 : (Nat → Int64)) : (Int32 × (Nat → Int64)) ⊕ (Int32 × (Nat → Int64)) :=
  (Sum.inl ((z_6.1 + 1), u_9))
def b_X11_reachIn_L49 (p0 : Int32) (f_t : Nat → Int32) (z_6 : Int32 × (Nat → Int64)) : (Int32 × (Nat → Int64)) ⊕ (Int32 × (Nat → Int64)) :=
  (if 500 ≤ z_6.1 then (Sum.inr (z_6.1, z_6.2)) else (if (s_X11_size ((z_6.2 12) - (Int32.toInt64 p0))) ≤ (z_6.2 6) then (Sum.inr (z_6.1, z_6.2)) else (b_X11_reachIn_1 z_6 (s_X11_minute (upd f_t 7 0) z_6.2))))
def s_X11_reachIn_2 (f_t_w : Nat → Int64) (f_t_trial : Nat → Int64) (u_16 : Int32 × (Nat → Int32)) : Int32 × (Nat → Int32) × (Nat → Int64) × (Nat → Int64) :=
  (u_16.1, u_16.2, f_t_w, f_t_trial)
def s_X11_reachIn_3 (f_t : Nat → Int32) (u_13 : (Nat → Int64)) (u_2 : (Nat → Int64)) (x_15 : Int32) : Int32 × (Nat → Int32) × (Nat → Int64) × (Nat → Int64) :=
  (x_15, (upd f_t 7 0), u_13, u_2)
def s_X11_reachIn_4 (f_t : Nat → Int32) (u_2 : (Nat → Int64)) (x_12 : Int32) (m_10 : Int32 × (Nat → Int64)) (u_13 : (Nat → Int64)) : Int32 × (Nat → Int32) × (Nat → Int64) × (Nat → Int64) :=
  (s_X11_reachIn_3 f_t u_13 u_2 (if x_12 = 0 then (-10000) else m_10.1))
def s_X11_reachIn_5 (f_t : Nat → Int32) (u_2 : (Nat → Int64)) (m_10 : Int32 × (Nat → Int64)) (x_12 : Int32) : Int32 × (Nat → Int32) × (Nat → Int64) × (Nat → Int64) :=
  (s_X11_reachIn_4 f_t u_2 x_12 m_10 (s_X11_endTrial (upd f_t 7 0) u_2 m_10.2))
def s_X11_reachIn_6 (f_t : Nat → Int32) (u_2 : (Nat → Int64)) (p0 : Int32) (m_10 : Int32 × (Nat → Int64)) : Int32 × (Nat → Int32) × (Nat → Int64) × (Nat → Int64) :=
  (s_X11_reachIn_5 f_t u_2 m_10 (if (m_10.2 6) < (s_X11_size ((m_10.2 12) - (Int32.toInt64 p0))) then 0 else 1))
def s_X11_reachIn_7 (f_t : Nat → Int32) (p0 : Int32) (f_t_w : Nat → Int64) (u_2 : (Nat → Int64)) : Int32 × (Nat → Int32) × (Nat → Int64) × (Nat → Int64) :=
  (s_X11_reachIn_6 f_t u_2 p0 (kLoop default (b_X11_reachIn_L49 p0 f_t) ((Int32.toInt 500 - Int32.toInt 0).toNat + 1) (0, (vp_updL (vp_updL (vp_updL f_t_w 33 0) 16 0) 14 (Int32.toInt64 p0)))))
def s_X11_reachIn (f_t : Nat → Int32) (f_t_w : Nat → Int64) (f_t_trial : Nat → Int64) (p0 : Int32) : Int32 × (Nat → Int32) × (Nat → Int64) × (Nat → Int64) :=
  (if (s_X11_isTemperature p0) = 0 then (s_X11_reachIn_2 f_t_w f_t_trial (s_X11_refuse (upd f_t 7 0) 1)) else (s_X11_reachIn_7 f_t p0 f_t_w (s_X11_beginTrial (upd f_t 7 0) f_t_w f_t_trial)))
set_option maxRecDepth 100000 in
set_option maxHeartbeats 4000000 in
theorem c_X11_reachIn (l : Launch) (D : va_G) (cI cJ cO : ClassId) (h_t : Nat) (h_t_w : Nat) (h_t_saved : Nat) (h_t_trial : Nat) (h_t_text : Nat) (h_t_told : Nat) (f_t : Nat → Int32) (f_t_w : Nat → Int64) (f_t_trial : Nat → Int64) (p0 : Int32) (P : (Nat → Int64) → Prop) (hPM : ∀ (f : Nat → Int32) (w : Nat → Int64), P w → kMI f w) (hPs : ∀ (f : Nat → Int32) (w : Nat → Int64), P w → P (s_X11_minute f w)) (hP0 : P (vp_updL (vp_updL (vp_updL f_t_w 33 0) 16 0) 14 (Int32.toInt64 p0))) : kI l yX11_reachIn cX11_reachIn 4 .int 5 120 D (kT cI cJ cO) [.ref h_t, .int p0] [(h_t, moE f_t h_t_w h_t_saved h_t_trial h_t_text h_t_told), (h_t_w, jA cJ 294 f_t_w), (h_t_trial, jA cJ 294 f_t_trial)] ((s_X11_reachIn f_t f_t_w f_t_trial p0).1) [(h_t, moE (s_X11_reachIn f_t f_t_w f_t_trial p0).2.1 h_t_w h_t_saved h_t_trial h_t_text h_t_told), (h_t_w, jA cJ 294 (s_X11_reachIn f_t f_t_w f_t_trial p0).2.2.1), (h_t_trial, jA cJ 294 (s_X11_reachIn f_t f_t_w f_t_trial p0).2.2.2)] := by
  refine kI_of (own := RX11) (lv := [(0, .ref h_t), (1, .int p0)]) rfl rfl (by decide) (Nat.le_of_ble_eq_true rfl) ?_
  intro p e s m args below meth c Q A C hret
  refine k_aload_n (pc := 0) C rfl 0 rfl dX11_reachIn_0 ?_
  refine k_iconst (pc := 1) C iconst_0 dX11_reachIn_1 ?_
  refine p_X11_7 (pc := 2) (ws2 := [(h_t, moE (upd f_t 7 0) h_t_w h_t_saved h_t_trial h_t_text h_t_told), (h_t_w, jA cJ 294 f_t_w), (h_t_trial, jA cJ 294 f_t_trial)]) C q_1005 0 rfl rfl dX11_reachIn_2 ?_
  refine k_iload_n (pc := 5) C rfl 1 rfl dX11_reachIn_5 ?_
  refine k_callSi (pc := 6) (As := [.int p0]) (rest := []) (r := (s_X11_isTemperature p0)) (wc := []) (wc2 := []) (ws2 := [(h_t, moE (upd f_t 7 0) h_t_w h_t_saved h_t_trial h_t_text h_t_told), (h_t_w, jA cJ 294 f_t_w), (h_t_trial, jA cJ 294 f_t_trial)]) C (c_X11_isTemperature l D cI cJ cO p0) cws_X11_isTemperature q_1077 [] rfl rfl (by decide) rfl rfl (Nat.le_of_ble_eq_true rfl) ⟨Nat.le_of_ble_eq_true rfl, Nat.le_of_ble_eq_true rfl⟩ rfl ⟨Nat.le_refl _, Nat.le_refl _⟩ dX11_reachIn_6 ?_
  refine k_if_ne (pc := 9) (tgt := 18) C dX11_reachIn_9 (by decide) (fun c_1 => ?_) (fun c_1 => ?_)
  · refine k_aload_n (pc := 18) C rfl 0 rfl dX11_reachIn_18 ?_
    obtain ⟨u_2, eu_2⟩ : ∃ z : (Nat → Int64), z = (s_X11_beginTrial (upd f_t 7 0) f_t_w f_t_trial) := ⟨_, rfl⟩
    refine k_callVv (pc := 19) (As := []) (rest := []) (wc := [(h_t, moE (upd f_t 7 0) h_t_w h_t_saved h_t_trial h_t_text h_t_told), (h_t_w, jA cJ 294 f_t_w), (h_t_trial, jA cJ 294 f_t_trial)]) (wc2 := [(h_t, moE (upd f_t 7 0) h_t_w h_t_saved h_t_trial h_t_text h_t_told), (h_t_w, jA cJ 294 f_t_w), (h_t_trial, jA cJ 294 u_2)]) (ws2 := [(h_t, moE (upd f_t 7 0) h_t_w h_t_saved h_t_trial h_t_text h_t_told), (h_t_w, jA cJ 294 f_t_w), (h_t_trial, jA cJ 294 u_2)]) C (by rw [eu_2]; exact c_X11_beginTrial l D cI cJ cO h_t h_t_w h_t_saved h_t_trial h_t_text h_t_told (upd f_t 7 0) f_t_w f_t_trial) cwv_X11_beginTrial q_1250 vX11 0 rfl [0, 1, 2] rfl rfl (by decide) rfl rfl (Nat.le_of_ble_eq_true rfl) ⟨Nat.le_of_ble_eq_true rfl, Nat.le_of_ble_eq_true rfl⟩ rfl ⟨Nat.le_refl _, Nat.le_refl _⟩ dX11_reachIn_19 ?_
    refine k_aload_n (pc := 22) C rfl 0 rfl dX11_reachIn_22 ?_
    refine g_X11_0 (pc := 23) C q_998 0 rfl dX11_reachIn_23 ?_
    refine k_bipush (pc := 26) C bipush_33 dX11_reachIn_26 ?_
    refine k_lconst (pc := 28) C lconst_0 dX11_reachIn_28 ?_
    refine k_lastK (pc := 29) (ws2 := [(h_t, moE (upd f_t 7 0) h_t_w h_t_saved h_t_trial h_t_text h_t_told), (h_t_w, jA cJ 294 (vp_updL f_t_w 33 0)), (h_t_trial, jA cJ 294 u_2)]) C 1 1 rfl rfl (k_vinc 33 cl_33 (by decide) (by decide)) cl_33 rfl dX11_reachIn_29 ?_
    refine k_aload_n (pc := 30) C rfl 0 rfl dX11_reachIn_30 ?_
    refine g_X11_0 (pc := 31) C q_998 0 rfl dX11_reachIn_31 ?_
    refine k_bipush (pc := 34) C bipush_16 dX11_reachIn_34 ?_
    refine k_lconst (pc := 36) C lconst_0 dX11_reachIn_36 ?_
    refine k_lastK (pc := 37) (ws2 := [(h_t, moE (upd f_t 7 0) h_t_w h_t_saved h_t_trial h_t_text h_t_told), (h_t_w, jA cJ 294 (vp_updL (vp_updL f_t_w 33 0) 16 0)), (h_t_trial, jA cJ 294 u_2)]) C 1 1 rfl rfl (k_vinc 16 cl_16 (by decide) (by decide)) cl_16 rfl dX11_reachIn_37 ?_
    refine k_aload_n (pc := 38) C rfl 0 rfl dX11_reachIn_38 ?_
    refine g_X11_0 (pc := 39) C q_998 0 rfl dX11_reachIn_39 ?_
    refine k_bipush (pc := 42) C bipush_14 dX11_reachIn_42 ?_
    refine k_iload_n (pc := 44) C rfl 1 rfl dX11_reachIn_44 ?_
    refine k_i2l (pc := 45) C dX11_reachIn_45 ?_
    refine k_lastK (pc := 46) (ws2 := [(h_t, moE (upd f_t 7 0) h_t_w h_t_saved h_t_trial h_t_text h_t_told), (h_t_w, jA cJ 294 (vp_updL (vp_updL (vp_updL f_t_w 33 0) 16 0) 14 (Int32.toInt64 p0))), (h_t_trial, jA cJ 294 u_2)]) C 1 1 rfl rfl (k_vinc 14 cl_14 (by decide) (by decide)) cl_14 rfl dX11_reachIn_46 ?_
    refine k_iconst (pc := 47) C iconst_0 dX11_reachIn_47 ?_
    refine k_istore_n (pc := 48) (lv2 := [(2, .int 0), (0, .ref h_t), (1, .int p0)]) C rfl (by decide) rfl dX11_reachIn_48 ?_
    have K_17 : ∀ (m_10 : Int32 × (Nat → Int64)), m_10 = (kLoop default (b_X11_reachIn_L49 p0 f_t) ((Int32.toInt 500 - Int32.toInt 0).toNat + 1) (0, (vp_updL (vp_updL (vp_updL f_t_w 33 0) 16 0) 14 (Int32.toInt64 p0)))) → KJ p l e (kR 5 120) s m args below meth c 0 0 Q D A 4 [(h_t, moE (upd f_t 7 0) h_t_w h_t_saved h_t_trial h_t_text h_t_told), (h_t_w, jA cJ 294 m_10.2), (h_t_trial, jA cJ 294 u_2)] [(2, .int m_10.1), (0, .ref h_t), (1, .int p0)] [] 90 := by
      intro m_10 em_10
      refine k_aload_n (pc := 90) C rfl 1 rfl dX11_reachIn_90 ?_
      refine g_X11_0 (pc := 91) C q_998 0 rfl dX11_reachIn_91 ?_
      refine k_bipush (pc := 94) C bipush_12 dX11_reachIn_94 ?_
      refine k_laldK (pc := 96) (v := (m_10.2 12)) C 1 1 rfl rfl (k_vinc 12 cl_12 (by decide) (by decide)) cl_12 rfl dX11_reachIn_96 ?_
      refine k_iload_n (pc := 97) C rfl 2 rfl dX11_reachIn_97 ?_
      refine k_i2l (pc := 98) C dX11_reachIn_98 ?_
      refine k_lsub (pc := 99) C dX11_reachIn_99 ?_
      refine k_callSl (pc := 100) (As := [.long ((m_10.2 12) - (Int32.toInt64 p0))]) (rest := []) (r := (s_X11_size ((m_10.2 12) - (Int32.toInt64 p0)))) (wc := []) (wc2 := []) (ws2 := [(h_t, moE (upd f_t 7 0) h_t_w h_t_saved h_t_trial h_t_text h_t_told), (h_t_w, jA cJ 294 m_10.2), (h_t_trial, jA cJ 294 u_2)]) C (c_X11_size l D cI cJ cO ((m_10.2 12) - (Int32.toInt64 p0))) cws_X11_size q_1129 [] rfl rfl (by decide) rfl rfl (Nat.le_of_ble_eq_true rfl) ⟨Nat.le_of_ble_eq_true rfl, Nat.le_of_ble_eq_true rfl⟩ rfl ⟨Nat.le_refl _, Nat.le_refl _⟩ dX11_reachIn_100 ?_
      refine k_aload_n (pc := 103) C rfl 1 rfl dX11_reachIn_103 ?_
      refine g_X11_0 (pc := 104) C q_998 0 rfl dX11_reachIn_104 ?_
      refine k_bipush (pc := 107) C bipush_6 dX11_reachIn_107 ?_
      refine k_laldK (pc := 109) (v := (m_10.2 6)) C 1 1 rfl rfl (k_vinc 6 cl_6 (by decide) (by decide)) cl_6 rfl dX11_reachIn_109 ?_
      have K_18 : ∀ (x_12 : Int32), x_12 = (if (m_10.2 6) < (s_X11_size ((m_10.2 12) - (Int32.toInt64 p0))) then 0 else 1) → KJ p l e (kR 5 120) s m args below meth c 0 0 Q D A 4 [(h_t, moE (upd f_t 7 0) h_t_w h_t_saved h_t_trial h_t_text h_t_told), (h_t_w, jA cJ 294 m_10.2), (h_t_trial, jA cJ 294 u_2)] [(2, .int m_10.1), (0, .ref h_t)] [.int x_12] 119 := by
        intro x_12 ex_12
        refine k_istore_n (pc := 119) (lv2 := [(3, .int x_12), (2, .int m_10.1), (0, .ref h_t)]) C rfl (by decide) rfl dX11_reachIn_119 ?_
        refine k_aload_n (pc := 120) C rfl 2 rfl dX11_reachIn_120 ?_
        obtain ⟨u_13, eu_13⟩ : ∃ z : (Nat → Int64), z = (s_X11_endTrial (upd f_t 7 0) u_2 m_10.2) := ⟨_, rfl⟩
        refine k_callVv (pc := 121) (As := []) (rest := []) (wc := [(h_t, moE (upd f_t 7 0) h_t_w h_t_saved h_t_trial h_t_text h_t_told), (h_t_trial, jA cJ 294 u_2), (h_t_w, jA cJ 294 m_10.2)]) (wc2 := [(h_t, moE (upd f_t 7 0) h_t_w h_t_saved h_t_trial h_t_text h_t_told), (h_t_trial, jA cJ 294 u_2), (h_t_w, jA cJ 294 u_13)]) (ws2 := [(h_t, moE (upd f_t 7 0) h_t_w h_t_saved h_t_trial h_t_text h_t_told), (h_t_w, jA cJ 294 u_13), (h_t_trial, jA cJ 294 u_2)]) C (by rw [eu_13]; exact c_X11_endTrial l D cI cJ cO h_t h_t_w h_t_saved h_t_trial h_t_text h_t_told (upd f_t 7 0) u_2 m_10.2) cwv_X11_endTrial q_1254 vX11 0 rfl [0, 2, 1] rfl rfl (by decide) rfl rfl (Nat.le_of_ble_eq_true rfl) ⟨Nat.le_of_ble_eq_true rfl, Nat.le_of_ble_eq_true rfl⟩ rfl ⟨Nat.le_refl _, Nat.le_refl _⟩ dX11_reachIn_121 ?_
        refine k_iload_n (pc := 124) C rfl 0 rfl dX11_reachIn_124 ?_
        have K_19 : ∀ (x_15 : Int32), x_15 = (if x_12 = 0 then (-10000) else m_10.1) → KJ p l e (kR 5 120) s m args below meth c 0 0 Q D A 4 [(h_t, moE (upd f_t 7 0) h_t_w h_t_saved h_t_trial h_t_text h_t_told), (h_t_w, jA cJ 294 u_13), (h_t_trial, jA cJ 294 u_2)] [] [.int x_15] 135 := by
          intro x_15 ex_15
          have hs : (s_X11_reachIn f_t f_t_w f_t_trial p0) = (x_15, (upd f_t 7 0), u_13, u_2) := (k_st (g := s_X11_reachIn_7 f_t p0 f_t_w) eu_2 (if_neg c_1) (k_st (g := s_X11_reachIn_6 f_t u_2 p0) em_10 rfl (k_st (g := s_X11_reachIn_5 f_t u_2 m_10) ex_12 rfl (k_st (g := s_X11_reachIn_4 f_t u_2 x_12 m_10) eu_13 rfl (k_st (g := s_X11_reachIn_3 f_t u_13 u_2) ex_15 rfl rfl)))))
          exact k_finI (pc := 135) hret rfl (by rw [hs]) (by rw [hs]) dX11_reachIn_135
        refine k_if_eq (pc := 125) (tgt := 132) C dX11_reachIn_125 (by decide) (fun c_14 => ?_) (fun c_14 => ?_)
        · refine k_sipush (pc := 132) C sipush_m10000 dX11_reachIn_132 ?_
          refine k_lpick (lv2 := []) [] rfl ?_
          exact K_19 (-10000) (Eq.symm (if_pos c_14))
        · refine k_iload_n (pc := 128) C rfl 1 rfl dX11_reachIn_128 ?_
          refine k_goto (pc := 129) (tgt := 135) C (by decide) dX11_reachIn_129 ?_
          refine k_lpick (lv2 := []) [] rfl ?_
          exact K_19 m_10.1 (Eq.symm (if_neg c_14))
      refine k_lcmp_gt (pc := 110) (tgt := 118) C dX11_reachIn_110 dX11_reachIn_111 (by decide) (fun c_11 => ?_) (fun c_11 => ?_)
      · refine k_iconst (pc := 118) C iconst_0 dX11_reachIn_118 ?_
        refine k_lpick (lv2 := [(2, .int m_10.1), (0, .ref h_t)]) [0, 1] rfl ?_
        exact K_18 0 (Eq.symm (if_pos c_11))
      · refine k_iconst (pc := 114) C iconst_1 dX11_reachIn_114 ?_
        refine k_goto (pc := 115) (tgt := 119) C (by decide) dX11_reachIn_115 ?_
        refine k_lpick (lv2 := [(2, .int m_10.1), (0, .ref h_t)]) [0, 1] rfl ?_
        exact K_18 1 (Eq.symm (if_neg c_11))
    have L_20 : ∀ (n : Nat) (z_6 : Int32 × (Nat → Int64)), (Int32.toInt 500 - Int32.toInt z_6.1).toNat < n → (P z_6.2) → kLoop default (b_X11_reachIn_L49 p0 f_t) n z_6 = (kLoop default (b_X11_reachIn_L49 p0 f_t) ((Int32.toInt 500 - Int32.toInt 0).toNat + 1) (0, (vp_updL (vp_updL (vp_updL f_t_w 33 0) 16 0) 14 (Int32.toInt64 p0)))) → KJ p l e (kR 5 120) s m args below meth c 0 0 Q D A 4 [(h_t, moE (upd f_t 7 0) h_t_w h_t_saved h_t_trial h_t_text h_t_told), (h_t_w, jA cJ 294 z_6.2), (h_t_trial, jA cJ 294 u_2)] [(2, .int z_6.1), (0, .ref h_t), (1, .int p0)] [] 49 := by
      intro n
      induction n with
      | zero => intro z_6 hmu; exact absurd hmu (Nat.not_lt_zero _)
      | succ n ih =>
        intro z_6 hmu hI hR
        refine k_iload_n (pc := 49) C rfl 0 rfl dX11_reachIn_49 ?_
        refine k_sipush (pc := 50) C sipush_500 dX11_reachIn_50 ?_
        refine k_icmp_ge (pc := 53) (tgt := 90) C dX11_reachIn_53 (by decide) (fun c_7 => ?_) (fun c_7 => ?_)
        · exact K_17 (z_6.1, z_6.2) (k_lout hR (if_pos c_7))
        · refine k_aload_n (pc := 56) C rfl 1 rfl dX11_reachIn_56 ?_
          refine g_X11_0 (pc := 57) C q_998 0 rfl dX11_reachIn_57 ?_
          refine k_bipush (pc := 60) C bipush_12 dX11_reachIn_60 ?_
          refine k_laldK (pc := 62) (v := (z_6.2 12)) C 1 1 rfl rfl (k_vinc 12 cl_12 (by decide) (by decide)) cl_12 rfl dX11_reachIn_62 ?_
          refine k_iload_n (pc := 63) C rfl 2 rfl dX11_reachIn_63 ?_
          refine k_i2l (pc := 64) C dX11_reachIn_64 ?_
          refine k_lsub (pc := 65) C dX11_reachIn_65 ?_
          refine k_callSl (pc := 66) (As := [.long ((z_6.2 12) - (Int32.toInt64 p0))]) (rest := []) (r := (s_X11_size ((z_6.2 12) - (Int32.toInt64 p0)))) (wc := []) (wc2 := []) (ws2 := [(h_t, moE (upd f_t 7 0) h_t_w h_t_saved h_t_trial h_t_text h_t_told), (h_t_w, jA cJ 294 z_6.2), (h_t_trial, jA cJ 294 u_2)]) C (c_X11_size l D cI cJ cO ((z_6.2 12) - (Int32.toInt64 p0))) cws_X11_size q_1129 [] rfl rfl (by decide) rfl rfl (Nat.le_of_ble_eq_true rfl) ⟨Nat.le_of_ble_eq_true rfl, Nat.le_of_ble_eq_true rfl⟩ rfl ⟨Nat.le_refl _, Nat.le_refl _⟩ dX11_reachIn_66 ?_
          refine k_aload_n (pc := 69) C rfl 1 rfl dX11_reachIn_69 ?_
          refine g_X11_0 (pc := 70) C q_998 0 rfl dX11_reachIn_70 ?_
          refine k_bipush (pc := 73) C bipush_6 dX11_reachIn_73 ?_
          refine k_laldK (pc := 75) (v := (z_6.2 6)) C 1 1 rfl rfl (k_vinc 6 cl_6 (by decide) (by decide)) cl_6 rfl dX11_reachIn_75 ?_
          refine k_lcmp_le (pc := 76) (tgt := 90) C dX11_reachIn_76 dX11_reachIn_77 (by decide) (fun c_8 => ?_) (fun c_8 => ?_)
          · exact K_17 (z_6.1, z_6.2) (k_lout hR ((if_neg c_7).trans (if_pos c_8)))
          · refine k_aload_n (pc := 80) C rfl 1 rfl dX11_reachIn_80 ?_
            obtain ⟨u_9, eu_9⟩ : ∃ z : (Nat → Int64), z = (s_X11_minute (upd f_t 7 0) z_6.2) := ⟨_, rfl⟩
            refine k_callVv (pc := 81) (As := []) (rest := []) (wc := [(h_t, moE (upd f_t 7 0) h_t_w h_t_saved h_t_trial h_t_text h_t_told), (h_t_w, jA cJ 294 z_6.2)]) (wc2 := [(h_t, moE (upd f_t 7 0) h_t_w h_t_saved h_t_trial h_t_text h_t_told), (h_t_w, jA cJ 294 u_9)]) (ws2 := [(h_t, moE (upd f_t 7 0) h_t_w h_t_saved h_t_trial h_t_text h_t_told), (h_t_w, jA cJ 294 u_9), (h_t_trial, jA cJ 294 u_2)]) C (by rw [eu_9]; exact c_X11_minute l D cI cJ cO h_t h_t_w h_t_saved h_t_trial h_t_text h_t_told (upd f_t 7 0) z_6.2 ((hPM (upd f_t 7 0) _ hI).1) ((hPM (upd f_t 7 0) _ hI).2.1) ((hPM (upd f_t 7 0) _ hI).2.2.1) ((hPM (upd f_t 7 0) _ hI).2.2.2.1) ((hPM (upd f_t 7 0) _ hI).2.2.2.2.1) ((hPM (upd f_t 7 0) _ hI).2.2.2.2.2)) cwv_X11_minute q_1105 vX11 0 rfl [0, 1] rfl rfl (by decide) rfl rfl (Nat.le_of_ble_eq_true rfl) ⟨Nat.le_of_ble_eq_true rfl, Nat.le_of_ble_eq_true rfl⟩ rfl ⟨Nat.le_refl _, Nat.le_refl _⟩ dX11_reachIn_81 ?_
            refine k_iinc (pc := 84) (v := (z_6.1 + 1)) (lv2 := [(2, .int (z_6.1 + 1)), (0, .ref h_t), (1, .int p0)]) C 0 rfl rfl (by decide) rfl dX11_reachIn_84 ?_
            refine k_goto (pc := 87) (tgt := 49) C (by decide) dX11_reachIn_87 ?_
            exact ih ((z_6.1 + 1), u_9) (k_dec (k_nle c_7) hmu) (by rw [eu_9]; exact hPs _ _ hI) (k_lin hR (k_st (g := b_X11_reachIn_1 z_6) eu_9 ((if_neg c_7).trans (if_neg c_8)) rfl))
    exact L_20 ((Int32.toInt 500 - Int32.toInt 0).toNat + 1) (0, (vp_updL (vp_updL (vp_updL f_t_w 33 0) 16 0) 14 (Int32.toInt64 p0))) (Nat.lt_succ_self _) hP0 rfl
  · refine k_aload_n (pc := 12) C rfl 0 rfl dX11_reachIn_12 ?_
    refine k_iconst (pc := 13) C iconst_1 dX11_reachIn_13 ?_
    obtain ⟨u_16, eu_16⟩ : ∃ z : Int32 × (Nat → Int32), z = (s_X11_refuse (upd f_t 7 0) 1) := ⟨_, rfl⟩
    refine k_callVi (pc := 14) (As := [.int 1]) (rest := []) (r := u_16.1) (wc := [(h_t, moE (upd f_t 7 0) h_t_w h_t_saved h_t_trial h_t_text h_t_told)]) (wc2 := [(h_t, moE u_16.2 h_t_w h_t_saved h_t_trial h_t_text h_t_told)]) (ws2 := [(h_t, moE u_16.2 h_t_w h_t_saved h_t_trial h_t_text h_t_told), (h_t_w, jA cJ 294 f_t_w), (h_t_trial, jA cJ 294 f_t_trial)]) C (by rw [eu_16]; exact c_X11_refuse l D cI cJ cO h_t h_t_w h_t_saved h_t_trial h_t_text h_t_told (upd f_t 7 0) 1) cwv_X11_refuse q_1054 vX11 0 rfl [0] rfl rfl (by decide) rfl rfl (Nat.le_of_ble_eq_true rfl) ⟨Nat.le_of_ble_eq_true rfl, Nat.le_of_ble_eq_true rfl⟩ rfl ⟨Nat.le_refl _, Nat.le_refl _⟩ dX11_reachIn_14 ?_
    have hs : (s_X11_reachIn f_t f_t_w f_t_trial p0) = (u_16.1, u_16.2, f_t_w, f_t_trial) := (k_st (g := s_X11_reachIn_2 f_t_w f_t_trial) eu_16 (if_pos c_1) rfl)
    exact k_finI (pc := 17) hret rfl (by rw [hs]) (by rw [hs]) dX11_reachIn_17
