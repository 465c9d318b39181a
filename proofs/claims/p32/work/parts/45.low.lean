theorem q_383 : Cond.constant RL 7 795547091 ∈ lw_all := kq 383 (by decide +kernel) (by decide +kernel)
theorem q_673 : Cond.constant RL 8 2147483647 ∈ lw_all := kq 673 (by decide +kernel) (by decide +kernel)
theorem dL_low_0 : decode cL_low 0 = .ok (.iload_n 0, 1) := by decide +kernel
theorem dL_low_1 : decode cL_low 1 = .ok (.ldc 8, 2) := by decide +kernel
theorem dL_low_3 : decode cL_low 3 = .ok (.iand, 1) := by decide +kernel
theorem dL_low_4 : decode cL_low 4 = .ok (.iload_n 1, 1) := by decide +kernel
theorem dL_low_5 : decode cL_low 5 = .ok (.irem, 1) := by decide +kernel
theorem dL_low_6 : decode cL_low 6 = .ok (.ireturn, 1) := by decide +kernel
/-- the law's low -/
def pLow (v n : Int32) : Int32 := (v &&& 2147483647) - (v &&& 2147483647) / n * n
theorem low_nn (v : Int32) : 0 ≤ (v &&& (2147483647 : Int32)).toInt := by
  have e : (v &&& (2147483647 : Int32)).toBitVec.msb = false := by
    rw [Int32.toBitVec_and, BitVec.msb_and, show (2147483647 : Int32).toBitVec.msb = false by decide, Bool.and_false]
  rw [← Int32.toInt_toBitVec, BitVec.toInt_eq_toNat_of_msb e]
  omega
theorem low_in (v : Int32) {n : Int32} (hn : 0 < n.toInt) : 0 ≤ (pLow v n).toInt ∧ (pLow v n).toInt < n.toInt := by
  have ha := low_nn v
  unfold pLow
  generalize v &&& (2147483647 : Int32) = a at ha ⊢
  have ra := kn_rng a
  have rn := kn_rng n
  have e1 : a.toInt.tdiv n.toInt = a.toInt / n.toInt := Int.tdiv_eq_ediv_of_nonneg ha
  have h1 := Int.mul_ediv_add_emod a.toInt n.toInt
  have h2 := Int.emod_nonneg a.toInt (show n.toInt ≠ 0 by omega)
  have h3 := Int.emod_lt_of_pos a.toInt hn
  have h4 : 0 ≤ a.toInt / n.toInt := Int.ediv_nonneg ha (by omega)
  have h5 : a.toInt / n.toInt ≤ a.toInt := Int.ediv_le_self _ ha
  have d : (a / n).toInt = a.toInt / n.toInt := by
    rw [Int32.toInt_div, e1, kn_bmod (by omega) (by omega)]
  have h6 : 0 ≤ n.toInt * (a.toInt / n.toInt) := Int.mul_nonneg (by omega) h4
  have m : (a / n * n).toInt = n.toInt * (a.toInt / n.toInt) := by
    rw [Int32.toInt_mul, d, Int.mul_comm (a.toInt / n.toInt), kn_bmod (by omega) (by omega)]
  have s : (a - a / n * n).toInt = a.toInt % n.toInt := by
    rw [Int32.toInt_sub, m, kn_bmod (by omega) (by omega)]
    omega
  rw [s]
  exact ⟨h2, h3⟩
theorem c_L_low (l : Launch) (D : va_G) (cI cJ cO : ClassId) (p0 p1 : Int32) (hn : ¬ p1 = 0) : kI l yL_low cL_low 2 .int 0 0 D (kT cI cJ cO) [.int p0, .int p1] [] (pLow p0 p1) [] := by
  refine kI_of (own := RL) (lv := [(0, .int p0), (1, .int p1)]) rfl rfl (by decide) (Nat.le_of_ble_eq_true rfl) ?_
  intro p e s m args below meth c Q A C hret
  refine k_iload_n (pc := 0) C rfl 0 rfl dL_low_0 ?_
  refine k_ldc (pc := 1) C q_673 dL_low_1 ?_
  refine k_iand (pc := 3) C dL_low_3 ?_
  refine k_iload_n (pc := 4) C rfl 1 rfl dL_low_4 ?_
  refine k_irem (pc := 5) C hn dL_low_5 ?_
  exact k_finI (pc := 6) hret rfl rfl rfl dL_low_6
theorem dL_cell_0 : decode cL_cell 0 = .ok (.iload_n 1, 1) := by decide +kernel
theorem dL_cell_1 : decode cL_cell 1 = .ok (.aload_n 0, 1) := by decide +kernel
theorem dL_cell_2 : decode cL_cell 2 = .ok (.arraylength, 1) := by decide +kernel
theorem dL_cell_3 : decode cL_cell 3 = .ok (.if_icmp .ge 9, 3) := by decide +kernel
theorem dL_cell_6 : decode cL_cell 6 = .ok (.aload_n 0, 1) := by decide +kernel
theorem dL_cell_7 : decode cL_cell 7 = .ok (.iload_n 1, 1) := by decide +kernel
theorem dL_cell_8 : decode cL_cell 8 = .ok (.iaload, 1) := by decide +kernel
theorem dL_cell_9 : decode cL_cell 9 = .ok (.goto 9, 3) := by decide +kernel
theorem dL_cell_12 : decode cL_cell 12 = .ok (.ldc 7, 2) := by decide +kernel
theorem dL_cell_14 : decode cL_cell 14 = .ok (.iload_n 1, 1) := by decide +kernel
theorem dL_cell_15 : decode cL_cell 15 = .ok (.iconst 1, 1) := by decide +kernel
theorem dL_cell_16 : decode cL_cell 16 = .ok (.iadd, 1) := by decide +kernel
theorem dL_cell_17 : decode cL_cell 17 = .ok (.imul, 1) := by decide +kernel
theorem dL_cell_18 : decode cL_cell 18 = .ok (.ireturn, 1) := by decide +kernel
/-- the law's cell -/
def pCell (N : Nat) (xs : Nat → Int32) (k : Nat) : Int32 := if k < N then xs k else 795547091 * (nI k + 1)
theorem c_L_cell (l : Launch) (D : va_G) (cI cJ cO : ClassId) {sb N : Nat} {xs : Nat → Int32} (hN : N ≤ 260) (k : Nat) (hk : k < 1000) : kCi l yL_cell cL_cell 2 0 0 D (kT cI cJ cO) sb N xs [.ref sb, .int (nI k)] (pCell N xs k) := by
  refine kCi_of (own := RL) (lv := [(0, .ref sb), (1, .int (nI k))]) rfl rfl (by decide) (Nat.le_of_ble_eq_true rfl) ?_
  intro p e s m args below meth c Q A C hX hbl hbA hret
  refine k_iload_n (pc := 0) C rfl 1 rfl dL_cell_0 ?_
  refine k_aload_n (pc := 1) C rfl 0 rfl dL_cell_1 ?_
  refine k_slen (pc := 2) C hX hbl hbA dL_cell_2 ?_
  refine k_icmp_ge (pc := 3) (tgt := 12) C dL_cell_3 (by decide) (fun z9 => ?_) (fun z9 => ?_)
  · refine k_ldc (pc := 12) C q_383 dL_cell_12 ?_
    refine k_iload_n (pc := 14) C rfl 1 rfl dL_cell_14 ?_
    refine k_iconst (pc := 15) C iconst_1 dL_cell_15 ?_
    refine k_iadd (pc := 16) C dL_cell_16 ?_
    refine k_imul (pc := 17) C dL_cell_17 ?_
    have hv : 795547091 * (nI k + 1) = pCell N xs k := by
      unfold pCell
      rw [if_neg (fun y => (nI_ge y (by omega)) z9)]
    exact k_topI hv (hret _ _ dL_cell_18)
  · refine k_aload_n (pc := 6) C rfl 0 rfl dL_cell_6 ?_
    refine k_iload_n (pc := 7) C rfl 1 rfl dL_cell_7 ?_
    have hlt : k < N := by
      rcases Nat.lt_or_ge k N with y | y
      · exact y
      · exact absurd (nI_le y (by omega)) z9
    refine k_sld (pc := 8) C hX hbl hbA rfl hlt hN dL_cell_8 ?_
    refine k_goto (pc := 9) (tgt := 18) C (by decide) dL_cell_9 ?_
    have hv : xs k = pCell N xs k := by
      unfold pCell
      rw [if_pos hlt]
    exact k_topI hv (hret _ _ dL_cell_18)
theorem rv_value_13 (V : pV) : rv_value V 13 = V.1 6 9 := by
  unfold rv_value
  rw [if_neg (by decide)]
  unfold r_value_0 s_X10_value
  rw [if_neg (by decide), if_neg (by decide)]
  unfold s_X10_value_4 j_X10_value_3
  rw [if_neg (by decide), if_neg (by decide)]
  unfold s_X1_tally
  rw [if_pos rfl] <;> rfl
theorem pwv_13 (l : Launch) (hl0 : l.stackTraces = false) (D : va_G) (cI cJ cO : ClassId) (z : zT) (V : pV) : pCall l D cI cJ cO z yL_value cL_value 3 [(0, 5, 6, 18)] [.int 13] V (V.1 6 9) V := by
  have h := pw_value l hl0 D cI cJ cO z V 13
  rw [rv_value_13] at h
  exact h
theorem rv_value_14 (V : pV) : rv_value V 14 = V.1 6 10 := by
  unfold rv_value
  rw [if_neg (by decide)]
  unfold r_value_0 s_X10_value
  rw [if_neg (by decide), if_neg (by decide)]
  unfold s_X10_value_4 j_X10_value_3
  rw [if_neg (by decide), if_neg (by decide)]
  unfold s_X1_tally
  rw [if_neg (by decide), if_pos rfl] <;> rfl
theorem pwv_14 (l : Launch) (hl0 : l.stackTraces = false) (D : va_G) (cI cJ cO : ClassId) (z : zT) (V : pV) : pCall l D cI cJ cO z yL_value cL_value 3 [(0, 5, 6, 18)] [.int 14] V (V.1 6 10) V := by
  have h := pw_value l hl0 D cI cJ cO z V 14
  rw [rv_value_14] at h
  exact h
theorem rv_value_19 (V : pV) : rv_value V 19 = V.1 6 8 := by
  unfold rv_value
  rw [if_neg (by decide)]
  unfold r_value_0 s_X10_value
  rw [if_neg (by decide), if_neg (by decide)]
  unfold s_X10_value_4 j_X10_value_3
  rw [if_neg (by decide), if_neg (by decide)]
  unfold s_X1_tally
  rw [if_neg (by decide), if_neg (by decide), if_neg (by decide), if_neg (by decide), if_neg (by decide), if_neg (by decide), if_pos rfl] <;> rfl
theorem pwv_19 (l : Launch) (hl0 : l.stackTraces = false) (D : va_G) (cI cJ cO : ClassId) (z : zT) (V : pV) : pCall l D cI cJ cO z yL_value cL_value 3 [(0, 5, 6, 18)] [.int 19] V (V.1 6 8) V := by
  have h := pw_value l hl0 D cI cJ cO z V 19
  rw [rv_value_19] at h
  exact h
theorem rv_value_18 (V : pV) : rv_value V 18 = V.1 6 7 := by
  unfold rv_value
  rw [if_neg (by decide)]
  unfold r_value_0 s_X10_value
  rw [if_neg (by decide), if_neg (by decide)]
  unfold s_X10_value_4 j_X10_value_3
  rw [if_neg (by decide), if_neg (by decide)]
  unfold s_X1_tally
  rw [if_neg (by decide), if_neg (by decide), if_neg (by decide), if_neg (by decide), if_neg (by decide), if_pos rfl] <;> rfl
theorem pwv_18 (l : Launch) (hl0 : l.stackTraces = false) (D : va_G) (cI cJ cO : ClassId) (z : zT) (V : pV) : pCall l D cI cJ cO z yL_value cL_value 3 [(0, 5, 6, 18)] [.int 18] V (V.1 6 7) V := by
  have h := pw_value l hl0 D cI cJ cO z V 18
  rw [rv_value_18] at h
  exact h
theorem rv_value_8 (V : pV) : rv_value V 8 = (if s_X4_isRunning (V.1 5) = 0 then (-10000) else V.1 5 2) := by
  unfold rv_value
  rw [if_neg (by decide)]
  unfold r_value_0 s_X10_value
  rw [if_neg (by decide), if_neg (by decide)]
  unfold s_X10_value_4 j_X10_value_3
  rw [if_pos (by decide)]
  unfold j_X10_value_1 s_X7_present
  rw [if_neg (by decide), if_neg (by decide), if_neg (by decide), if_neg (by decide), if_neg (by decide), if_neg (by decide), if_neg (by decide), if_neg (by decide), if_pos rfl] <;> rfl
theorem pwv_8 (l : Launch) (hl0 : l.stackTraces = false) (D : va_G) (cI cJ cO : ClassId) (z : zT) (V : pV) : pCall l D cI cJ cO z yL_value cL_value 3 [(0, 5, 6, 18)] [.int 8] V ((if s_X4_isRunning (V.1 5) = 0 then (-10000) else V.1 5 2)) V := by
  have h := pw_value l hl0 D cI cJ cO z V 8
  rw [rv_value_8] at h
  exact h
theorem rv_value_3 (V : pV) : rv_value V 3 = V.1 6 2 := by
  unfold rv_value
  rw [if_neg (by decide)]
  unfold r_value_0 s_X10_value
  rw [if_neg (by decide), if_neg (by decide)]
  unfold s_X10_value_4 j_X10_value_3
  rw [if_pos (by decide)]
  unfold j_X10_value_1 s_X7_present
  rw [if_neg (by decide), if_neg (by decide), if_neg (by decide), if_pos rfl] <;> rfl
theorem pwv_3 (l : Launch) (hl0 : l.stackTraces = false) (D : va_G) (cI cJ cO : ClassId) (z : zT) (V : pV) : pCall l D cI cJ cO z yL_value cL_value 3 [(0, 5, 6, 18)] [.int 3] V (V.1 6 2) V := by
  have h := pw_value l hl0 D cI cJ cO z V 3
  rw [rv_value_3] at h
  exact h
theorem rv_value_4 (V : pV) : rv_value V 4 = V.1 6 3 := by
  unfold rv_value
  rw [if_neg (by decide)]
  unfold r_value_0 s_X10_value
  rw [if_neg (by decide), if_neg (by decide)]
  unfold s_X10_value_4 j_X10_value_3
  rw [if_pos (by decide)]
  unfold j_X10_value_1 s_X7_present
  rw [if_neg (by decide), if_neg (by decide), if_neg (by decide), if_neg (by decide), if_pos rfl] <;> rfl
theorem pwv_4 (l : Launch) (hl0 : l.stackTraces = false) (D : va_G) (cI cJ cO : ClassId) (z : zT) (V : pV) : pCall l D cI cJ cO z yL_value cL_value 3 [(0, 5, 6, 18)] [.int 4] V (V.1 6 3) V := by
  have h := pw_value l hl0 D cI cJ cO z V 4
  rw [rv_value_4] at h
  exact h
theorem rv_value_7 (V : pV) : rv_value V 7 = (if V.1 6 4 = 0 then 0 else 1) := by
  unfold rv_value
  rw [if_neg (by decide)]
  unfold r_value_0 s_X10_value
  rw [if_neg (by decide), if_neg (by decide)]
  unfold s_X10_value_4 j_X10_value_3
  rw [if_pos (by decide)]
  unfold j_X10_value_1 s_X7_present
  rw [if_neg (by decide), if_neg (by decide), if_neg (by decide), if_neg (by decide), if_neg (by decide), if_neg (by decide), if_neg (by decide), if_pos rfl] <;> rfl
theorem pwv_7 (l : Launch) (hl0 : l.stackTraces = false) (D : va_G) (cI cJ cO : ClassId) (z : zT) (V : pV) : pCall l D cI cJ cO z yL_value cL_value 3 [(0, 5, 6, 18)] [.int 7] V ((if V.1 6 4 = 0 then 0 else 1)) V := by
  have h := pw_value l hl0 D cI cJ cO z V 7
  rw [rv_value_7] at h
  exact h
theorem rv_value_20 (V : pV) : rv_value V 20 = V.1 6 13 := by
  unfold rv_value
  rw [if_neg (by decide)]
  unfold r_value_0 s_X10_value
  rw [if_neg (by decide), if_neg (by decide)]
  unfold s_X10_value_4 j_X10_value_3
  rw [if_neg (by decide), if_neg (by decide)]
  unfold s_X1_tally
  rw [if_neg (by decide), if_neg (by decide), if_neg (by decide), if_neg (by decide), if_neg (by decide), if_neg (by decide), if_neg (by decide), if_pos rfl] <;> rfl
theorem pwv_20 (l : Launch) (hl0 : l.stackTraces = false) (D : va_G) (cI cJ cO : ClassId) (z : zT) (V : pV) : pCall l D cI cJ cO z yL_value cL_value 3 [(0, 5, 6, 18)] [.int 20] V (V.1 6 13) V := by
  have h := pw_value l hl0 D cI cJ cO z V 20
  rw [rv_value_20] at h
  exact h
theorem rv_value_0 (V : pV) : rv_value V 0 = V.1 0 0 := by
  unfold rv_value
  rw [if_neg (by decide)]
  unfold r_value_0 s_X10_value
  rw [if_neg (by decide), if_neg (by decide)]
  unfold s_X10_value_4 j_X10_value_3
  rw [if_pos (by decide)]
  unfold j_X10_value_1 s_X7_present
  rw [if_pos rfl] <;> rfl
theorem pwv_0 (l : Launch) (hl0 : l.stackTraces = false) (D : va_G) (cI cJ cO : ClassId) (z : zT) (V : pV) : pCall l D cI cJ cO z yL_value cL_value 3 [(0, 5, 6, 18)] [.int 0] V (V.1 0 0) V := by
  have h := pw_value l hl0 D cI cJ cO z V 0
  rw [rv_value_0] at h
  exact h
theorem rv_value_1 (V : pV) : rv_value V 1 = V.1 6 0 := by
  unfold rv_value
  rw [if_neg (by decide)]
  unfold r_value_0 s_X10_value
  rw [if_neg (by decide), if_neg (by decide)]
  unfold s_X10_value_4 j_X10_value_3
  rw [if_pos (by decide)]
  unfold j_X10_value_1 s_X7_present
  rw [if_neg (by decide), if_pos rfl] <;> rfl
theorem pwv_1 (l : Launch) (hl0 : l.stackTraces = false) (D : va_G) (cI cJ cO : ClassId) (z : zT) (V : pV) : pCall l D cI cJ cO z yL_value cL_value 3 [(0, 5, 6, 18)] [.int 1] V (V.1 6 0) V := by
  have h := pw_value l hl0 D cI cJ cO z V 1
  rw [rv_value_1] at h
  exact h
theorem rv_value_2 (V : pV) : rv_value V 2 = V.1 6 1 := by
  unfold rv_value
  rw [if_neg (by decide)]
  unfold r_value_0 s_X10_value
  rw [if_neg (by decide), if_neg (by decide)]
  unfold s_X10_value_4 j_X10_value_3
  rw [if_pos (by decide)]
  unfold j_X10_value_1 s_X7_present
  rw [if_neg (by decide), if_neg (by decide), if_pos rfl] <;> rfl
theorem pwv_2 (l : Launch) (hl0 : l.stackTraces = false) (D : va_G) (cI cJ cO : ClassId) (z : zT) (V : pV) : pCall l D cI cJ cO z yL_value cL_value 3 [(0, 5, 6, 18)] [.int 2] V (V.1 6 1) V := by
  have h := pw_value l hl0 D cI cJ cO z V 2
  rw [rv_value_2] at h
  exact h
theorem pws_8 (l : Launch) (hl0 : l.stackTraces = false) (D : va_G) (cI cJ cO : ClassId) (z : zT) (V : pV) : pCall l D cI cJ cO z yL_setting cL_setting 3 [(0, 5, 6, 15)] [.int 8] V (s_X10_at 12 (V.1 1) 8) V := by
  have h := pw_setting l hl0 D cI cJ cO z V 8
  have e : rv_setting V 8 = s_X10_at 12 (V.1 1) 8 := by
    unfold rv_setting
    rw [if_neg (by decide)] <;> rfl
  rw [e] at h
  exact h
theorem pwh_0 (l : Launch) (hl0 : l.stackTraces = false) (D : va_G) (cI cJ cO : ClassId) (z : zT) (V : pV) : pCall l D cI cJ cO z yL_history cL_history 3 [(0, 5, 6, 18)] [.int 0] V (s_X3_latest 60 (V.1 9) (V.1 25) 0) V := by
  have h := pw_history l hl0 D cI cJ cO z V 0
  have e : rv_history V 0 = s_X3_latest 60 (V.1 9) (V.1 25) 0 := by
    unfold rv_history
    rw [if_neg (by decide)] <;> rfl
  rw [e] at h
  exact h