theorem q_35 : Cond.classLink RL 10 RX10 ∈ lw_all := kq 35 (by decide +kernel) (by decide +kernel)
theorem q_36 : Cond.instantiable RX10 4 ∈ lw_all := kq 36 (by decide +kernel) (by decide +kernel)
theorem q_37 : Cond.methodLink RL 152 yX10_init ∈ lw_all := kq 37 (by decide +kernel) (by decide +kernel)
theorem q_38 : Cond.instanceMethod yX10_init ∈ lw_all := kq 38 (by decide +kernel) (by decide +kernel)
theorem q_39 : Cond.code yX10_init cX10_init 1 none ∈ lw_all := kq 39 (by decide +kernel) (by decide +kernel)
theorem q_380 : Cond.methodLink RL 153 yL_cell ∈ lw_all := kq 380 (by decide +kernel) (by decide +kernel)
theorem q_381 : Cond.static yL_cell ∈ lw_all := kq 381 (by decide +kernel) (by decide +kernel)
theorem q_382 : Cond.code yL_cell cL_cell 2 (some .int) ∈ lw_all := kq 382 (by decide +kernel) (by decide +kernel)
theorem q_667 : Cond.methodLink RL 160 yL_change ∈ lw_all := kq 667 (by decide +kernel) (by decide +kernel)
theorem q_815 : Cond.methodLink RL 157 yL_ask ∈ lw_all := kq 815 (by decide +kernel) (by decide +kernel)
theorem q_904 : Cond.methodLink RL 163 yL_isMinute ∈ lw_all := kq 904 (by decide +kernel) (by decide +kernel)
theorem q_914 : Cond.methodLink RL 167 yL_areAlike ∈ lw_all := kq 914 (by decide +kernel) (by decide +kernel)
theorem cws_L_cell : kCWs yL_cell cL_cell 2 (some .int) 2 := ⟨⟨q_382, q_15, by decide +kernel⟩, q_381⟩
theorem dL_law_0 : decode cL_law 0 = .ok (.new 10, 3) := by decide +kernel
theorem dL_law_3 : decode cL_law 3 = .ok (.dup, 1) := by decide +kernel
theorem dL_law_4 : decode cL_law 4 = .ok (.invokespecial 152, 3) := by decide +kernel
theorem dL_law_7 : decode cL_law 7 = .ok (.astore_n 1, 1) := by decide +kernel
theorem dL_law_8 : decode cL_law 8 = .ok (.new 10, 3) := by decide +kernel
theorem dL_law_11 : decode cL_law 11 = .ok (.dup, 1) := by decide +kernel
theorem dL_law_12 : decode cL_law 12 = .ok (.invokespecial 152, 3) := by decide +kernel
theorem dL_law_15 : decode cL_law 15 = .ok (.astore_n 2, 1) := by decide +kernel
theorem dL_law_16 : decode cL_law 16 = .ok (.iconst 0, 1) := by decide +kernel
theorem dL_law_17 : decode cL_law 17 = .ok (.istore_n 3, 1) := by decide +kernel
theorem dL_law_18 : decode cL_law 18 = .ok (.iload_n 3, 1) := by decide +kernel
theorem dL_law_19 : decode cL_law 19 = .ok (.bipush 32, 2) := by decide +kernel
theorem dL_law_21 : decode cL_law 21 = .ok (.if_icmp .ge 80, 3) := by decide +kernel
theorem dL_law_24 : decode cL_law 24 = .ok (.aload_n 0, 1) := by decide +kernel
theorem dL_law_25 : decode cL_law 25 = .ok (.iconst 2, 1) := by decide +kernel
theorem dL_law_26 : decode cL_law 26 = .ok (.iload_n 3, 1) := by decide +kernel
theorem dL_law_27 : decode cL_law 27 = .ok (.imul, 1) := by decide +kernel
theorem dL_law_28 : decode cL_law 28 = .ok (.invokestatic 153, 3) := by decide +kernel
theorem dL_law_31 : decode cL_law 31 = .ok (.istore 4, 2) := by decide +kernel
theorem dL_law_33 : decode cL_law 33 = .ok (.aload_n 0, 1) := by decide +kernel
theorem dL_law_34 : decode cL_law 34 = .ok (.iconst 2, 1) := by decide +kernel
theorem dL_law_35 : decode cL_law 35 = .ok (.iload_n 3, 1) := by decide +kernel
theorem dL_law_36 : decode cL_law 36 = .ok (.imul, 1) := by decide +kernel
theorem dL_law_37 : decode cL_law 37 = .ok (.iconst 1, 1) := by decide +kernel
theorem dL_law_38 : decode cL_law 38 = .ok (.iadd, 1) := by decide +kernel
theorem dL_law_39 : decode cL_law 39 = .ok (.invokestatic 153, 3) := by decide +kernel
theorem dL_law_42 : decode cL_law 42 = .ok (.istore 5, 2) := by decide +kernel
theorem dL_law_44 : decode cL_law 44 = .ok (.aload_n 1, 1) := by decide +kernel
theorem dL_law_45 : decode cL_law 45 = .ok (.iload 5, 2) := by decide +kernel
theorem dL_law_47 : decode cL_law 47 = .ok (.iload 4, 2) := by decide +kernel
theorem dL_law_49 : decode cL_law 49 = .ok (.invokestatic 157, 3) := by decide +kernel
theorem dL_law_52 : decode cL_law 52 = .ok (.istore 6, 2) := by decide +kernel
theorem dL_law_54 : decode cL_law 54 = .ok (.aload_n 1, 1) := by decide +kernel
theorem dL_law_55 : decode cL_law 55 = .ok (.iload 4, 2) := by decide +kernel
theorem dL_law_57 : decode cL_law 57 = .ok (.iload 5, 2) := by decide +kernel
theorem dL_law_59 : decode cL_law 59 = .ok (.invokestatic 160, 3) := by decide +kernel
theorem dL_law_62 : decode cL_law 62 = .ok (.aload_n 2, 1) := by decide +kernel
theorem dL_law_63 : decode cL_law 63 = .ok (.iload 4, 2) := by decide +kernel
theorem dL_law_65 : decode cL_law 65 = .ok (.iload 5, 2) := by decide +kernel
theorem dL_law_67 : decode cL_law 67 = .ok (.invokestatic 160, 3) := by decide +kernel
theorem dL_law_70 : decode cL_law 70 = .ok (.if_icmp .ne 23, 3) := by decide +kernel
theorem dL_law_73 : decode cL_law 73 = .ok (.aload_n 1, 1) := by decide +kernel
theorem dL_law_74 : decode cL_law 74 = .ok (.invokestatic 163, 3) := by decide +kernel
theorem dL_law_77 : decode cL_law 77 = .ok (.ifCond .eq 16, 3) := by decide +kernel
theorem dL_law_80 : decode cL_law 80 = .ok (.aload_n 2, 1) := by decide +kernel
theorem dL_law_81 : decode cL_law 81 = .ok (.iconst 1, 1) := by decide +kernel
theorem dL_law_82 : decode cL_law 82 = .ok (.invokestatic 123, 3) := by decide +kernel
theorem dL_law_85 : decode cL_law 85 = .ok (.aload_n 1, 1) := by decide +kernel
theorem dL_law_86 : decode cL_law 86 = .ok (.iconst 1, 1) := by decide +kernel
theorem dL_law_87 : decode cL_law 87 = .ok (.invokestatic 142, 3) := by decide +kernel
theorem dL_law_90 : decode cL_law 90 = .ok (.if_icmp .eq 5, 3) := by decide +kernel
theorem dL_law_93 : decode cL_law 93 = .ok (.iconst 0, 1) := by decide +kernel
theorem dL_law_94 : decode cL_law 94 = .ok (.ireturn, 1) := by decide +kernel
theorem dL_law_95 : decode cL_law 95 = .ok (.iinc 3 1, 3) := by decide +kernel
theorem dL_law_98 : decode cL_law 98 = .ok (.goto (-80), 3) := by decide +kernel
theorem dL_law_101 : decode cL_law 101 = .ok (.aload_n 1, 1) := by decide +kernel
theorem dL_law_102 : decode cL_law 102 = .ok (.aload_n 2, 1) := by decide +kernel
theorem dL_law_103 : decode cL_law 103 = .ok (.invokestatic 167, 3) := by decide +kernel
theorem dL_law_106 : decode cL_law 106 = .ok (.ireturn, 1) := by decide +kernel
set_option maxRecDepth 100000 in
theorem law_loop {p : Program} {l : Launch} {e : Env} {s : State} {m : MethodId} {args : Array Value} {below : List Frame} {meth : Method} {c : Code} {Q : State → Prop} {D : va_G} {A : Nat → Prop} {ret : Option FieldType} {cI cJ cO : ClassId} {z : zT} (hl0 : l.stackTraces = false) (C : KC p s m args meth c cL_law 7 RL ret D (kT cI cJ cO) A) (hZ : kZ z A s s.heap) {sb N : Nat} {xs : Nat → Int32} (hX : va_X sb N xs s s.heap) (hbl : sb < s.heap.size) (hbA : ¬ A sb) (hN : N ≤ 260) {b b2 : Nat} {u u2 : Nat → Nat} (hend : ∀ (ws : va_W) (lv : List (Nat × Value)) (cells slots : Nat), cells ≤ 600104 → slots ≤ 7301314 → KJ p l e room_1 s m args below meth c cells slots Q D A 7 ws lv [.int 1] 106) : ∀ (dd t : Nat) (V : pV) (q k : kXS × kTS), pvis q.1 q.2 = V → pvis k.1 k.2 = V → t + dd = 32 → pInv (10 * (t : Int)) V → KJ p l e room_1 s m args below meth c (200 + 910 * t) (2000 + 11585 * t) Q D A 7 (pW cI cO b u q ++ pW cI cO b2 u2 k) [(3, .int (nI t)), (2, .ref b2), (1, .ref b), (0, .ref sb)] [] 18 := by
  intro dd
  induction dd with
  | zero =>
    intro t V q k hq hk2 ht hI
    have ht : t = 32 := by omega
    subst ht
    refine k_iload_n (pc := 18) C rfl 0 rfl dL_law_18 ?_
    refine k_bipush (pc := 19) C bipush_32 dL_law_19 ?_
    refine k_icmp_ge (pc := 21) (tgt := 101) C dL_law_21 (by decide) (fun _ => ?_) (fun z9 => absurd (by decide) z9)
    refine k_aload_n (pc := 101) C rfl 2 rfl dL_law_101 ?_
    refine k_aload_n (pc := 102) C rfl 1 rfl dL_law_102 ?_
    refine k_callUSiP (pc := 103) (As := [.ref b, .ref b2]) (rest := []) (wr := []) C hZ (pm_areAlike l hl0 D cI cJ cO z V b b2 u u2 q k hq hk2) cws_areAlike q_914 (by rw [List.append_nil]) rfl (Nat.le_of_ble_eq_true rfl) ⟨Nat.le_of_ble_eq_true rfl, Nat.le_of_ble_eq_true rfl⟩ rfl ⟨show _ ≤ 600104 by omega, show _ ≤ 7301314 by omega⟩ dL_law_103 (fun w => ?_)
    exact hend _ _ _ _ (show _ ≤ 600104 by omega) (show _ ≤ 7301314 by omega)
  | succ dd ih =>
    intro t V q k hq hk2 ht hI
    have hlt : ¬ (32 : Int32) ≤ nI t := nI_ge (a := t) (b := 32) (by omega) (by decide)
    have t2 : 2 * nI t = nI (2 * t) := by
      have e := kIn.mul (x := 2) (y := nI t) (n := 2) (a := t) (b := t) (by decide) (by decide) (kIx (by omega)) (by omega) (by omega)
      exact nI_kin ⟨by have := e.1; omega, by have := e.2; omega⟩ (by omega)
    have t3 : 2 * nI t + 1 = nI (2 * t + 1) := by
      rw [t2, nI_succ]
    obtain ⟨ra, ha⟩ := pm_ask l hl0 D cI cJ cO z hI.1.sb hI.2.2.2 (pCell N xs (2 * t + 1)) (pCell N xs (2 * t)) b u q hq
    obtain ⟨r, V1, hI1, hc⟩ := pm_change l hl0 D cI cJ cO z hI ⟨by omega, by omega⟩ (pCell N xs (2 * t)) (pCell N xs (2 * t + 1))
    obtain ⟨V2, hI2, e0, hps, hm⟩ := pm_isMinute l hl0 D cI cJ cO z hI1 ⟨by omega, by omega⟩
    refine k_iload_n (pc := 18) C rfl 0 rfl dL_law_18 ?_
    refine k_bipush (pc := 19) C bipush_32 dL_law_19 ?_
    refine k_icmp_ge (pc := 21) (tgt := 101) C dL_law_21 (by decide) (fun z9 => absurd z9 hlt) (fun _ => ?_)
    refine k_aload_n (pc := 24) C rfl 3 rfl dL_law_24 ?_
    refine k_iconst (pc := 25) C iconst_2 dL_law_25 ?_
    refine k_iload_n (pc := 26) C rfl 0 rfl dL_law_26 ?_
    refine k_imul (pc := 27) C dL_law_27 ?_
    refine k_topI (v := nI (2 * t)) t2 ?_
    refine k_callCi (pc := 28) (As := [.ref sb, .int (nI (2 * t))]) (rest := []) C hX hbl hbA (c_L_cell l D cI cJ cO hN (2 * t) (by omega)) cws_L_cell q_380 rfl (Nat.le_of_ble_eq_true rfl) ⟨Nat.le_of_ble_eq_true rfl, Nat.le_of_ble_eq_true rfl⟩ rfl ⟨show _ ≤ 600104 by omega, show _ ≤ 7301314 by omega⟩ dL_law_28 ?_
    refine k_istore (pc := 31) (lv2 := [(4, .int (pCell N xs (2 * t))), (3, .int (nI t)), (2, .ref b2), (1, .ref b), (0, .ref sb)]) C (by decide) rfl dL_law_31 ?_
    refine k_aload_n (pc := 33) C rfl 4 rfl dL_law_33 ?_
    refine k_iconst (pc := 34) C iconst_2 dL_law_34 ?_
    refine k_iload_n (pc := 35) C rfl 1 rfl dL_law_35 ?_
    refine k_imul (pc := 36) C dL_law_36 ?_
    refine k_iconst (pc := 37) C iconst_1 dL_law_37 ?_
    refine k_iadd (pc := 38) C dL_law_38 ?_
    refine k_topI (v := nI (2 * t + 1)) t3 ?_
    refine k_callCi (pc := 39) (As := [.ref sb, .int (nI (2 * t + 1))]) (rest := []) C hX hbl hbA (c_L_cell l D cI cJ cO hN (2 * t + 1) (by omega)) cws_L_cell q_380 rfl (Nat.le_of_ble_eq_true rfl) ⟨Nat.le_of_ble_eq_true rfl, Nat.le_of_ble_eq_true rfl⟩ rfl ⟨show _ ≤ 600104 by omega, show _ ≤ 7301314 by omega⟩ dL_law_39 ?_
    refine k_istore (pc := 42) (lv2 := [(5, .int (pCell N xs (2 * t + 1))), (4, .int (pCell N xs (2 * t))), (3, .int (nI t)), (2, .ref b2), (1, .ref b), (0, .ref sb)]) C (by decide) rfl dL_law_42 ?_
    refine k_aload_n (pc := 44) C rfl 4 rfl dL_law_44 ?_
    refine k_iload (pc := 45) C 0 rfl dL_law_45 ?_
    refine k_iload (pc := 47) C 1 rfl dL_law_47 ?_
    refine k_pmethP (pc := 49) (As := [.int (pCell N xs (2 * t + 1)), .int (pCell N xs (2 * t))]) (rest := []) C hZ ha cws_ask q_815 (List.Perm.refl _) rfl (Nat.le_of_ble_eq_true rfl) ⟨Nat.le_of_ble_eq_true rfl, Nat.le_of_ble_eq_true rfl⟩ rfl ⟨show _ ≤ 600104 by omega, show _ ≤ 7301314 by omega⟩ dL_law_49 (fun q1 h1 => k_perm List.perm_append_comm ?_)
    refine k_istore (pc := 52) (lv2 := [(6, .int ra), (5, .int (pCell N xs (2 * t + 1))), (4, .int (pCell N xs (2 * t))), (3, .int (nI t)), (2, .ref b2), (1, .ref b), (0, .ref sb)]) C (by decide) rfl dL_law_52 ?_
    refine k_aload_n (pc := 54) C rfl 5 rfl dL_law_54 ?_
    refine k_iload (pc := 55) C 2 rfl dL_law_55 ?_
    refine k_iload (pc := 57) C 1 rfl dL_law_57 ?_
    refine k_pmethP (pc := 59) (As := [.int (pCell N xs (2 * t)), .int (pCell N xs (2 * t + 1))]) (rest := []) C hZ (hc b u q1 h1) cws_change q_667 (List.Perm.refl _) rfl (Nat.le_of_ble_eq_true rfl) ⟨Nat.le_of_ble_eq_true rfl, Nat.le_of_ble_eq_true rfl⟩ rfl ⟨show _ ≤ 600104 by omega, show _ ≤ 7301314 by omega⟩ dL_law_59 (fun q2 h2 => k_perm List.perm_append_comm ?_)
    refine k_aload_n (pc := 62) C rfl 4 rfl dL_law_62 ?_
    refine k_iload (pc := 63) C 2 rfl dL_law_63 ?_
    refine k_iload (pc := 65) C 1 rfl dL_law_65 ?_
    refine k_pmethP (pc := 67) (As := [.int (pCell N xs (2 * t)), .int (pCell N xs (2 * t + 1))]) (rest := [.int r]) C hZ (hc b2 u2 k hk2) cws_change q_667 List.perm_append_comm rfl (Nat.le_of_ble_eq_true rfl) ⟨Nat.le_of_ble_eq_true rfl, Nat.le_of_ble_eq_true rfl⟩ rfl ⟨show _ ≤ 600104 by omega, show _ ≤ 7301314 by omega⟩ dL_law_67 (fun k2 g2 => ?_)
    refine k_icmp_ne (pc := 70) (tgt := 93) C dL_law_70 (by decide) (fun z9 => absurd rfl z9) (fun _ => ?_)
    refine k_aload_n (pc := 73) C rfl 5 rfl dL_law_73 ?_
    refine k_pmethP (pc := 74) (As := []) (rest := []) C hZ (hm b u q2 h2) cws_isMinute q_904 (List.Perm.refl _) rfl (Nat.le_of_ble_eq_true rfl) ⟨Nat.le_of_ble_eq_true rfl, Nat.le_of_ble_eq_true rfl⟩ rfl ⟨show _ ≤ 600104 by omega, show _ ≤ 7301314 by omega⟩ dL_law_74 (fun q3 h3 => k_perm List.perm_append_comm ?_)
    refine k_if_eq (pc := 77) (tgt := 93) C dL_law_77 (by decide) (fun z9 => absurd z9 (by decide)) (fun _ => ?_)
    refine k_aload_n (pc := 80) C rfl 4 rfl dL_law_80 ?_
    refine k_iconst (pc := 81) C iconst_1 dL_law_81 ?_
    refine k_pcall2 (pc := 82) (As := [.int 1]) (rest := []) C hZ (hps b2 u2 k2 g2) cw_pass q_384 rfl (Nat.le_of_ble_eq_true rfl) ⟨Nat.le_of_ble_eq_true rfl, Nat.le_of_ble_eq_true rfl⟩ rfl ⟨show _ ≤ 600104 by omega, show _ ≤ 7301314 by omega⟩ dL_law_82 (fun k3 g3 => ?_)
    refine k_aload_n (pc := 85) C rfl 5 rfl dL_law_85 ?_
    refine k_iconst (pc := 86) C iconst_1 dL_law_86 ?_
    refine k_pcall1 (pc := 87) (As := [.int 1]) (rest := [.int ((mnR V1.1 V1.2.1).2.2.1 0)]) C hZ (pwv_1 l hl0 D cI cJ cO z V2 b u q3 h3) cw_value q_651 rfl (Nat.le_of_ble_eq_true rfl) ⟨Nat.le_of_ble_eq_true rfl, Nat.le_of_ble_eq_true rfl⟩ rfl ⟨show _ ≤ 600104 by omega, show _ ≤ 7301314 by omega⟩ dL_law_87 (fun q4 h4 => ?_)
    refine k_icmp_eq (pc := 90) (tgt := 95) C dL_law_90 (by decide) (fun _ => ?_) (fun z9 => absurd e0.symm z9)
    refine k_iinc (pc := 95) (v := nI (t + 1)) (lv2 := [(3, .int (nI (t + 1))), (6, .int ra), (5, .int (pCell N xs (2 * t + 1))), (4, .int (pCell N xs (2 * t))), (2, .ref b2), (1, .ref b), (0, .ref sb)]) C 3 rfl (by rw [show Int32.ofInt 1 = 1 from by decide]; exact (nI_succ t).symm) (by decide) rfl dL_law_95 ?_
    refine k_goto (pc := 98) (tgt := 18) C (by decide) dL_law_98 ?_
    refine k_lpick (lv2 := [(3, .int (nI (t + 1))), (2, .ref b2), (1, .ref b), (0, .ref sb)]) [0, 4, 5, 6] rfl ?_
    exact k_widen (show _ ≤ 200 + 910 * (t + 1) by omega) (show _ ≤ 2000 + 11585 * (t + 1) by omega) (ih (t + 1) V2 q4 k3 h4 g3 (by omega) (hI2.up (by omega)))
theorem cwi_X10_init : kCWi yX10_init cX10_init 1 0 := ⟨⟨q_39, q_16, by decide +kernel⟩, rfl, q_38⟩

theorem kF0 {hb : Nat → Nat → Nat} : kF 0 hb = fun _ => none := by
  funext i
  exact if_neg (Nat.not_lt_zero i)
/-- an object at first -/
def X00 : kXS := (iS, 17, iS, 17, i0, i0, i0, i0, i0)
def Y00 : kTS := (0, fun _ _ => 0, fun _ _ _ => 0, fun _ => 0)
theorem pW0 (cI cO : ClassId) (b : Nat) (u : Nat → Nat) : xoW cI cO b u iS 17 iS 17 i0 (fun _ => none) i0 i0 i0 i0 = pW cI cO b u (X00, Y00) := by
  show _ = xpW cI cO b u X00 Y00 ++ kTl cI Y00
  rw [show kTl cI Y00 = [] from rfl, List.append_nil]
  unfold xpW
  rw [show kF Y00.1 Y00.2.1 = fun _ => none from kF0]
  rfl
theorem pInv00 : pInv 0 (pvis X00 Y00) := by
  refine ⟨?_, fun k hk => absurd hk (Nat.not_lt_zero k), ⟨0, 0, rfl, by omega, Nat.zero_le _, Nat.zero_le _, rfl, by omega, Or.inr (Nat.le_refl 0)⟩, rfl⟩
  exact ⟨⟨by decide, by decide⟩, ⟨by decide, by decide⟩, ⟨Or.inl rfl, ⟨by decide, by decide⟩⟩, ⟨Or.inl rfl, Or.inl rfl⟩, ⟨by decide, by decide⟩, ⟨by decide, by decide⟩⟩
set_option maxRecDepth 100000 in
set_option maxHeartbeats 8000000 in
theorem law_start {p : Program} {l : Launch} {e : Env} {s : State} {m : MethodId} {args : Array Value} {below : List Frame} {meth : Method} {c : Code} {Q : State → Prop} {D : va_G} {A : Nat → Prop} {ret : Option FieldType} {cI cJ cO : ClassId} {z : zT} (hl0 : l.stackTraces = false) (C : KC p s m args meth c cL_law 7 RL ret D (kT cI cJ cO) A) (hZ : kZ z A s s.heap) {sb N : Nat} {xs : Nat → Int32} (hX : va_X sb N xs s s.heap) (hbl : sb < s.heap.size) (hbA : ¬ A sb) (hN : N ≤ 260) (hend : ∀ (ws : va_W) (lv : List (Nat × Value)) (cells slots : Nat), cells ≤ 600104 → slots ≤ 7301314 → KJ p l e room_1 s m args below meth c cells slots Q D A 7 ws lv [.int 1] 106) : KJ p l e room_1 s m args below meth c 0 0 Q D A 7 [] [(0, .ref sb)] [] 0 := by
  refine k_new (pc := 0) (fs := [.null, .null, .null, .null]) C vX10 q_35 q_36 q_16 (by decide) ⟨Nat.le_of_ble_eq_true rfl, Nat.le_of_ble_eq_true rfl⟩ dL_law_0 (fun b => ?_)
  refine k_dup (pc := 3) C rfl dL_law_3 ?_
  refine k_callUIvP (pc := 4) (As := []) (rest := [.ref b]) (wc := [(b, .inr (10, [.null, .null, .null, .null]))]) (wr := []) C hZ (c_X10_init l D cI cJ cO z b) cwi_X10_init q_37 (List.Perm.refl _) rfl (Nat.le_of_ble_eq_true rfl) ⟨Nat.le_of_ble_eq_true rfl, Nat.le_of_ble_eq_true rfl⟩ rfl ⟨Nat.le_of_ble_eq_true rfl, Nat.le_of_ble_eq_true rfl⟩ dL_law_4 (fun u => ?_)
  refine k_astore_n (pc := 7) (lv2 := [(1, .ref b), (0, .ref sb)]) C rfl (by decide) rfl dL_law_7 ?_
  refine k_show (ws2 := xoW cI cO b u iS 17 iS 17 i0 (fun _ => none) i0 i0 i0 i0) rfl ?_
  refine k_new (pc := 8) (fs := [.null, .null, .null, .null]) C vX10 q_35 q_36 q_16 (by decide) ⟨Nat.le_of_ble_eq_true rfl, Nat.le_of_ble_eq_true rfl⟩ dL_law_8 (fun b2 => ?_)
  refine k_dup (pc := 11) C rfl dL_law_11 ?_
  refine k_callUIvP (pc := 12) (As := []) (rest := [.ref b2]) (wc := [(b2, .inr (10, [.null, .null, .null, .null]))]) (wr := xoW cI cO b u iS 17 iS 17 i0 (fun _ => none) i0 i0 i0 i0) C hZ (c_X10_init l D cI cJ cO z b2) cwi_X10_init q_37 List.perm_append_comm rfl (Nat.le_of_ble_eq_true rfl) ⟨Nat.le_of_ble_eq_true rfl, Nat.le_of_ble_eq_true rfl⟩ rfl ⟨Nat.le_of_ble_eq_true rfl, Nat.le_of_ble_eq_true rfl⟩ dL_law_12 (fun u2 => ?_)
  refine k_astore_n (pc := 15) (lv2 := [(2, .ref b2), (1, .ref b), (0, .ref sb)]) C rfl (by decide) rfl dL_law_15 ?_
  refine k_iconst (pc := 16) C iconst_0 dL_law_16 ?_
  refine k_istore_n (pc := 17) (lv2 := [(3, .int 0), (2, .ref b2), (1, .ref b), (0, .ref sb)]) C rfl (by decide) rfl dL_law_17 ?_
  refine k_show (ws2 := pW cI cO b u (X00, Y00) ++ pW cI cO b2 u2 (X00, Y00)) (by rw [← pW0, ← pW0]) ?_
  exact k_widen (Nat.le_of_ble_eq_true rfl) (Nat.le_of_ble_eq_true rfl) (law_loop hl0 C hZ hX hbl hbA hN hend 32 0 (pvis X00 Y00) (X00, Y00) (X00, Y00) rfl rfl rfl pInv00)