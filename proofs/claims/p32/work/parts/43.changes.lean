theorem q_675 : Cond.static yL_set ∈ lw_all := kq 675 (by decide +kernel) (by decide +kernel)
theorem q_676 : Cond.codeWith yL_set cL_set 4 (some .int) [(0, 6, 7, 15), (0, 6, 11, 18)] ∈ lw_all := kq 676 (by decide +kernel) (by decide +kernel)
theorem q_712 : Cond.static yL_setMode ∈ lw_all := kq 712 (by decide +kernel) (by decide +kernel)
theorem q_713 : Cond.codeWith yL_setMode cL_setMode 6 (some .int) [(0, 9, 10, 15), (0, 9, 15, 18)] ∈ lw_all := kq 713 (by decide +kernel) (by decide +kernel)
theorem q_719 : Cond.static yL_setPoints ∈ lw_all := kq 719 (by decide +kernel) (by decide +kernel)
theorem q_720 : Cond.codeWith yL_setPoints cL_setPoints 4 (some .int) [(0, 6, 7, 18), (0, 6, 11, 28)] ∈ lw_all := kq 720 (by decide +kernel) (by decide +kernel)
theorem q_733 : Cond.static yL_door ∈ lw_all := kq 733 (by decide +kernel) (by decide +kernel)
theorem q_734 : Cond.codeWith yL_door cL_door 3 (some .int) [(0, 5, 6, 28)] ∈ lw_all := kq 734 (by decide +kernel) (by decide +kernel)
theorem q_741 : Cond.static yL_addSegment ∈ lw_all := kq 741 (by decide +kernel) (by decide +kernel)
theorem q_742 : Cond.codeWith yL_addSegment cL_addSegment 6 (some .int) [(0, 9, 10, 18), (0, 9, 15, 28)] ∈ lw_all := kq 742 (by decide +kernel) (by decide +kernel)
theorem q_761 : Cond.static yL_removeSegment ∈ lw_all := kq 761 (by decide +kernel) (by decide +kernel)
theorem q_762 : Cond.codeWith yL_removeSegment cL_removeSegment 3 (some .int) [(0, 5, 6, 15), (0, 5, 10, 28)] ∈ lw_all := kq 762 (by decide +kernel) (by decide +kernel)
theorem q_772 : Cond.static yL_setCycles ∈ lw_all := kq 772 (by decide +kernel) (by decide +kernel)
theorem q_773 : Cond.codeWith yL_setCycles cL_setCycles 3 (some .int) [(0, 5, 6, 18), (0, 5, 10, 28)] ∈ lw_all := kq 773 (by decide +kernel) (by decide +kernel)
theorem q_779 : Cond.static yL_start ∈ lw_all := kq 779 (by decide +kernel) (by decide +kernel)
theorem q_780 : Cond.codeWith yL_start cL_start 2 (some .int) [(0, 4, 5, 28)] ∈ lw_all := kq 780 (by decide +kernel) (by decide +kernel)
theorem q_790 : Cond.static yL_stop ∈ lw_all := kq 790 (by decide +kernel) (by decide +kernel)
theorem q_791 : Cond.codeWith yL_stop cL_stop 2 (some .int) [(0, 4, 5, 28)] ∈ lw_all := kq 791 (by decide +kernel) (by decide +kernel)
theorem q_798 : Cond.static yL_hold ∈ lw_all := kq 798 (by decide +kernel) (by decide +kernel)
theorem q_799 : Cond.codeWith yL_hold cL_hold 3 (some .int) [(0, 5, 6, 28)] ∈ lw_all := kq 799 (by decide +kernel) (by decide +kernel)
theorem q_805 : Cond.static yL_undo ∈ lw_all := kq 805 (by decide +kernel) (by decide +kernel)
theorem q_806 : Cond.codeWith yL_undo cL_undo 2 (some .int) [(0, 4, 5, 28)] ∈ lw_all := kq 806 (by decide +kernel) (by decide +kernel)
theorem sg_add {g : Nat → Int32} (h : kIn (g 1) 0 12) (v : s_X6_isFull g = 0) (c : Nat → Int32) (p0 p1 p2 p3 : Int32) : kIn ((s_X6_add g c p0 p1 p2 p3).1 1) 0 12 := by
  unfold s_X6_add s_X6_add_4 s_X6_add_3 s_X6_add_2 s_X6_add_1
  rw [if_pos v]
  have lt : g 1 < 12 := by
    by_cases c : g 1 < 12
    · exact c
    · unfold s_X6_isFull at v
      rw [if_neg c] at v
      exact absurd v (by decide)
  have l2 := Int32.lt_iff_toInt_lt.mp lt
  have l3 : Int32.toInt 12 = 12 := by decide
  show kIn (upd g 1 (g 1 + 1) 1) 0 12
  rw [ups]
  have k := kIn.add h (kIn.lit (x := 1) (n := 1) (by decide)) (by decide) (by decide)
  have e : (g 1 + 1).toInt = (g 1).toInt + 1 := by
    have h1 := h.1
    have h2 := h.2
    rw [Int32.toInt_add, kn_bmod (by have : Int32.toInt 1 = 1 := by decide
                                     omega) (by have : Int32.toInt 1 = 1 := by decide
                                                omega)]
    rfl
  exact ⟨by have := k.1; omega, by omega⟩
theorem sg_rem {g : Nat → Int32} (h : kIn (g 1) 0 12) {p0 : Int32} (v : ¬ (p0 < 0 ∨ g 1 ≤ p0)) (c : Nat → Int32) : kIn ((s_X6_remove g c p0).1 1) 0 12 := by
  unfold s_X6_remove s_X6_remove_2
  show kIn (upd g 1 (g 1 - 1) 1) 0 12
  rw [ups]
  have a : ¬ p0.toInt < 0 := fun y => v (Or.inl (Int32.lt_iff_toInt_lt.mpr y))
  have b : ¬ (g 1).toInt ≤ p0.toInt := fun y => v (Or.inr (Int32.le_iff_toInt_le.mpr y))
  have h1 : kIn (g 1) 1 12 := ⟨by omega, h.2⟩
  exact (kIn.sub h1 (kIn.lit (x := 1) (n := 1) (by decide)) (by decide) (by decide)).wk (by decide) (by decide)
theorem st_run {r : Nat → Int32} (h : pRun r) (f sg : Nat → Int32) (j : Int64) (a1 a2 a3 a4 a5 a6 cl sc : Nat → Int32) : pRun (s_X7_startProgram f r sg j a1 a2 a3 a4 a5 a6 cl sc).1 := by
  unfold s_X7_startProgram s_X7_startProgram_2
  rw [show ∀ b, (s_X7_startProgram_1 b).1 = b.1 from fun _ => rfl]
  have h2 : pRun (upd r 1 0) := ⟨kb.eq ups kb0, kIn.eq (upn (by decide) rfl) h.2⟩
  exact h2.beg _ _ _ _ _ _ _ _ _ _ _ _ _ ⟨by decide, by decide⟩
theorem cw_set : pCw yL_set cL_set 4 [(0, 6, 7, 15), (0, 6, 11, 18)] 3 := ⟨q_676, q_15, q_675, by decide +kernel⟩
theorem pw_set (l : Launch) (hl0 : l.stackTraces = false) (D : va_G) (cI cJ cO : ClassId) (z : zT) {T : Int} {V : pV} (hI : pInv T V) (p0 p1 : Int32) : ∃ (r : Int32) (V2 : pV), pInv T V2 ∧ pCall l D cI cJ cO z yL_set cL_set 4 [(0, 6, 7, 15), (0, 6, 11, 18)] [.int p0, .int p1] V r V2 := by
  obtain ⟨ki, hki, hk6, hkm⟩ := hI.2.2.1.ki
  have hsb := hI.1.sb
  obtain ⟨q0, q4, q5, q6, q9⟩ := id hI.1
  by_cases v1 : (p0 < 0 ∨ 12 ≤ p0)
  · refine ⟨(-2000001), V, hI, fun b u q hq => ?_⟩
    obtain ⟨X, Y⟩ := q
    subst hq
    exact ⟨8, 129, Unit, n_set_0 X p0 p1, fun _ => Y, by decide, by decide, w_set_0 l hl0 D cI cJ cO z b u X Y p0 p1 v1, fun _ => rfl⟩
  · by_cases v2 : (s_X10_isWithin p1 (zL (Int32.toNatClampNeg p0)) (zG (Int32.toNatClampNeg p0))) = 0
    · refine ⟨(-2000002), V, hI, fun b u q hq => ?_⟩
      obtain ⟨X, Y⟩ := q
      subst hq
      exact ⟨8, 129, Unit, n_set_2 X p0 p1, fun _ => Y, by decide, by decide, w_set_2 l hl0 D cI cJ cO z b u X Y p0 p1 v1 v2, fun _ => rfl⟩
    · refine ⟨r_set_1 (pX V) p0 p1, pvis (n_set_1 (pX V) p0 p1) (tK ki (pX V) (pY V) (fun _ => 0)), ?_, fun b u q hq => ?_⟩
      · refine pInv.keep hI (Int.le_refl T) hki hk6 (S := (n_set_1 (pX V) p0 p1).1) _ ?_
        show pOr T (V.1 0) (V.1 4) (V.1 5) (V.1 6) (V.1 9)
        exact hI.1
      · obtain ⟨X, Y⟩ := q
        subst hq
        exact ⟨7, 150, Nat → Nat, n_set_1 X p0 p1, fun uu => tK ki X Y uu, by decide, by decide, w_set_1 l hl0 D cI cJ cO z b u X Y ki p0 p1 hki hk6 hkm hsb v1 v2, fun _ => rfl⟩
theorem cw_setMode : pCw yL_setMode cL_setMode 6 [(0, 9, 10, 15), (0, 9, 15, 18)] 5 := ⟨q_713, q_15, q_712, by decide +kernel⟩
theorem pw_setMode (l : Launch) (hl0 : l.stackTraces = false) (D : va_G) (cI cJ cO : ClassId) (z : zT) {T : Int} {V : pV} (hI : pInv T V) (p0 p1 p2 p3 : Int32) : ∃ (r : Int32) (V2 : pV), pInv T V2 ∧ pCall l D cI cJ cO z yL_setMode cL_setMode 6 [(0, 9, 10, 15), (0, 9, 15, 18)] [.int p0, .int p1, .int p2, .int p3] V r V2 := by
  obtain ⟨ki, hki, hk6, hkm⟩ := hI.2.2.1.ki
  have hsb := hI.1.sb
  obtain ⟨q0, q4, q5, q6, q9⟩ := id hI.1
  by_cases z0 : p0 = 0
  · subst z0
    by_cases v1 : (s_X10_isWithin p1 0 2) = 0
    · refine ⟨(-2000002), V, hI, fun b u q hq => ?_⟩
      obtain ⟨X, Y⟩ := q
      subst hq
      exact ⟨8, 132, Unit, n_setMode_0 X p1 p2 p3, fun _ => Y, by decide, by decide, w_setMode_0 l hl0 D cI cJ cO z b u X Y p1 p2 p3 v1, fun _ => rfl⟩
    · by_cases v2 : (s_X10_isWithin p2 1 100) = 0
      · refine ⟨(-2000002), V, hI, fun b u q hq => ?_⟩
        obtain ⟨X, Y⟩ := q
        subst hq
        exact ⟨8, 132, Unit, n_setMode_1 X p1 p2 p3, fun _ => Y, by decide, by decide, w_setMode_1 l hl0 D cI cJ cO z b u X Y p1 p2 p3 v1 v2, fun _ => rfl⟩
      · by_cases v3 : (s_X10_isWithin p3 0 50) = 0
        · refine ⟨(-2000002), V, hI, fun b u q hq => ?_⟩
          obtain ⟨X, Y⟩ := q
          subst hq
          exact ⟨8, 132, Unit, n_setMode_2 X p1 p2 p3, fun _ => Y, by decide, by decide, w_setMode_2 l hl0 D cI cJ cO z b u X Y p1 p2 p3 v1 v2 v3, fun _ => rfl⟩
        · refine ⟨r_setMode_3 (pX V) p1 p2 p3, pvis (n_setMode_3 (pX V) p1 p2 p3) (tK ki (pX V) (pY V) (fun _ => 0)), ?_, fun b u q hq => ?_⟩
          · refine pInv.keep hI (Int.le_refl T) hki hk6 (S := (n_setMode_3 (pX V) p1 p2 p3).1) _ ?_
            show pOr T (V.1 0) (V.1 4) (V.1 5) (V.1 6) (V.1 9)
            exact hI.1
          · obtain ⟨X, Y⟩ := q
            subst hq
            exact ⟨7, 153, Nat → Nat, n_setMode_3 X p1 p2 p3, fun uu => tK ki X Y uu, by decide, by decide, w_setMode_3 l hl0 D cI cJ cO z b u X Y ki p1 p2 p3 hki hk6 hkm hsb v1 v2 v3, fun _ => rfl⟩
  by_cases z1 : p0 = 1
  · subst z1
    by_cases v1 : (s_X10_isWithin p1 0 2) = 0
    · refine ⟨(-2000002), V, hI, fun b u q hq => ?_⟩
      obtain ⟨X, Y⟩ := q
      subst hq
      exact ⟨8, 132, Unit, n_setMode_4 X p1 p2 p3, fun _ => Y, by decide, by decide, w_setMode_4 l hl0 D cI cJ cO z b u X Y p1 p2 p3 v1, fun _ => rfl⟩
    · by_cases v2 : (s_X10_isWithin p2 1 100) = 0
      · refine ⟨(-2000002), V, hI, fun b u q hq => ?_⟩
        obtain ⟨X, Y⟩ := q
        subst hq
        exact ⟨8, 132, Unit, n_setMode_5 X p1 p2 p3, fun _ => Y, by decide, by decide, w_setMode_5 l hl0 D cI cJ cO z b u X Y p1 p2 p3 v1 v2, fun _ => rfl⟩
      · by_cases v3 : (s_X10_isWithin p3 0 50) = 0
        · refine ⟨(-2000002), V, hI, fun b u q hq => ?_⟩
          obtain ⟨X, Y⟩ := q
          subst hq
          exact ⟨8, 132, Unit, n_setMode_6 X p1 p2 p3, fun _ => Y, by decide, by decide, w_setMode_6 l hl0 D cI cJ cO z b u X Y p1 p2 p3 v1 v2 v3, fun _ => rfl⟩
        · refine ⟨r_setMode_7 (pX V) p1 p2 p3, pvis (n_setMode_7 (pX V) p1 p2 p3) (tK ki (pX V) (pY V) (fun _ => 0)), ?_, fun b u q hq => ?_⟩
          · refine pInv.keep hI (Int.le_refl T) hki hk6 (S := (n_setMode_7 (pX V) p1 p2 p3).1) _ ?_
            show pOr T (V.1 0) (V.1 4) (V.1 5) (V.1 6) (V.1 9)
            exact hI.1
          · obtain ⟨X, Y⟩ := q
            subst hq
            exact ⟨7, 153, Nat → Nat, n_setMode_7 X p1 p2 p3, fun uu => tK ki X Y uu, by decide, by decide, w_setMode_7 l hl0 D cI cJ cO z b u X Y ki p1 p2 p3 hki hk6 hkm hsb v1 v2 v3, fun _ => rfl⟩
  have v1 : p0 < 0 ∨ 2 ≤ p0 := by
    by_cases c : p0 < 0
    · exact Or.inl c
    · by_cases d : 2 ≤ p0
      · exact Or.inr d
      · exfalso
        have a : ¬ p0.toInt < 0 := fun y => c (Int32.lt_iff_toInt_lt.mpr y)
        have b : ¬ (2 : Int) ≤ p0.toInt := fun y => d (Int32.le_iff_toInt_le.mpr y)
        have e : p0.toInt = 0 ∨ p0.toInt = 1 := by omega
        rcases e with e | e
        · exact z0 (Int32.toInt_inj.mp e)
        · exact z1 (Int32.toInt_inj.mp e)
  refine ⟨(-2000001), V, hI, fun b u q hq => ?_⟩
  obtain ⟨X, Y⟩ := q
  subst hq
  exact ⟨8, 132, Unit, n_setMode_8 X p0 p1 p2 p3, fun _ => Y, by decide, by decide, w_setMode_8 l hl0 D cI cJ cO z b u X Y p0 p1 p2 p3 v1, fun _ => rfl⟩
theorem cw_setPoints : pCw yL_setPoints cL_setPoints 4 [(0, 6, 7, 18), (0, 6, 11, 28)] 3 := ⟨q_720, q_15, q_719, by decide +kernel⟩
theorem pw_setPoints (l : Launch) (hl0 : l.stackTraces = false) (D : va_G) (cI cJ cO : ClassId) (z : zT) {T : Int} {V : pV} (hI : pInv T V) (p0 p1 : Int32) : ∃ (r : Int32) (V2 : pV), pInv T V2 ∧ pCall l D cI cJ cO z yL_setPoints cL_setPoints 4 [(0, 6, 7, 18), (0, 6, 11, 28)] [.int p0, .int p1] V r V2 := by
  obtain ⟨ki, hki, hk6, hkm⟩ := hI.2.2.1.ki
  have hsb := hI.1.sb
  obtain ⟨q0, q4, q5, q6, q9⟩ := id hI.1
  by_cases v1 : (s_X10_isTarget p0 p1) = 0
  · refine ⟨(-2000002), V, hI, fun b u q hq => ?_⟩
    obtain ⟨X, Y⟩ := q
    subst hq
    exact ⟨8, 129, Unit, n_setPoints_0 X p0 p1, fun _ => Y, by decide, by decide, w_setPoints_0 l hl0 D cI cJ cO z b u X Y p0 p1 v1, fun _ => rfl⟩
  · by_cases v2 : (s_X4_isRunning (V.1 5)) = 0
    · refine ⟨r_setPoints_2 (pX V) p0 p1, pvis (n_setPoints_2 (pX V) p0 p1) (tK ki (pX V) (pY V) (fun _ => 0)), ?_, fun b u q hq => ?_⟩
      · refine pInv.keep hI (Int.le_refl T) hki hk6 (S := (n_setPoints_2 (pX V) p0 p1).1) _ ?_
        show pOr T (V.1 0) (V.1 4) (V.1 5) (upd (upd (V.1 6) 2 p0) 3 p1) (V.1 9)
        exact ⟨q0, q4, q5, ⟨kb.eq (upn (by decide) (upn (by decide) rfl)) q6.1, kb.eq (upn (by decide) (upn (by decide) rfl)) q6.2⟩, q9⟩
      · obtain ⟨X, Y⟩ := q
        subst hq
        exact ⟨7, 150, Nat → Nat, n_setPoints_2 X p0 p1, fun uu => tK ki X Y uu, by decide, by decide, w_setPoints_2 l hl0 D cI cJ cO z b u X Y ki p0 p1 hki hk6 hkm hsb v1 v2, fun _ => rfl⟩
    · refine ⟨(-2000003), V, hI, fun b u q hq => ?_⟩
      obtain ⟨X, Y⟩ := q
      subst hq
      exact ⟨8, 129, Unit, n_setPoints_1 X p0 p1, fun _ => Y, by decide, by decide, w_setPoints_1 l hl0 D cI cJ cO z b u X Y p0 p1 v1 v2, fun _ => rfl⟩
theorem cw_door : pCw yL_door cL_door 3 [(0, 5, 6, 28)] 2 := ⟨q_734, q_15, q_733, by decide +kernel⟩
theorem pw_door (l : Launch) (hl0 : l.stackTraces = false) (D : va_G) (cI cJ cO : ClassId) (z : zT) {T : Int} {V : pV} (hI : pInv T V) (p0 : Int32) (hp : kb p0) : ∃ (r : Int32) (V2 : pV), pInv T V2 ∧ pCall l D cI cJ cO z yL_door cL_door 3 [(0, 5, 6, 28)] [.int p0] V r V2 := by
  obtain ⟨ki, hki, hk6, hkm⟩ := hI.2.2.1.ki
  have hsb := hI.1.sb
  obtain ⟨q0, q4, q5, q6, q9⟩ := id hI.1
  by_cases v1 : ((V.1 6) 4) = p0
  · refine ⟨(-2000003), V, hI, fun b u q hq => ?_⟩
    obtain ⟨X, Y⟩ := q
    subst hq
    exact ⟨8, 127, Unit, n_door_0 X p0, fun _ => Y, by decide, by decide, w_door_0 l hl0 D cI cJ cO z b u X Y p0 v1, fun _ => rfl⟩
  · refine ⟨r_door_1 (pX V) p0, pvis (n_door_1 (pX V) p0) (tK ki (pX V) (pY V) (fun _ => 0)), ?_, fun b u q hq => ?_⟩
    · refine pInv.keep hI (Int.le_refl T) hki hk6 (S := (n_door_1 (pX V) p0).1) _ ?_
      show pOr T (V.1 0) (V.1 4) (V.1 5) (upd (V.1 6) 4 p0) (V.1 9)
      exact ⟨q0, q4, q5, ⟨kb.eq ups hp, kb.eq (upn (by decide) rfl) q6.2⟩, q9⟩
    · obtain ⟨X, Y⟩ := q
      subst hq
      exact ⟨7, 148, Nat → Nat, n_door_1 X p0, fun uu => tK ki X Y uu, by decide, by decide, w_door_1 l hl0 D cI cJ cO z b u X Y ki p0 hki hk6 hkm hsb hp v1, fun _ => rfl⟩
theorem cw_addSegment : pCw yL_addSegment cL_addSegment 6 [(0, 9, 10, 18), (0, 9, 15, 28)] 5 := ⟨q_742, q_15, q_741, by decide +kernel⟩
theorem pw_addSegment (l : Launch) (hl0 : l.stackTraces = false) (D : va_G) (cI cJ cO : ClassId) (z : zT) {T : Int} {V : pV} (hI : pInv T V) (p0 p1 p2 p3 : Int32) : ∃ (r : Int32) (V2 : pV), pInv T V2 ∧ pCall l D cI cJ cO z yL_addSegment cL_addSegment 6 [(0, 9, 10, 18), (0, 9, 15, 28)] [.int p0, .int p1, .int p2, .int p3] V r V2 := by
  obtain ⟨ki, hki, hk6, hkm⟩ := hI.2.2.1.ki
  have hsb := hI.1.sb
  obtain ⟨q0, q4, q5, q6, q9⟩ := id hI.1
  by_cases v1 : (s_X10_isSegment p0 p1 p2 p3) = 0
  · refine ⟨(-2000002), V, hI, fun b u q hq => ?_⟩
    obtain ⟨X, Y⟩ := q
    subst hq
    exact ⟨8, 131, Unit, n_addSegment_0 X p0 p1 p2 p3, fun _ => Y, by decide, by decide, w_addSegment_0 l hl0 D cI cJ cO z b u X Y p0 p1 p2 p3 v1, fun _ => rfl⟩
  · by_cases v2 : (s_X4_isRunning (V.1 5)) = 0
    · by_cases v3 : (s_X6_isFull (V.1 4)) = 0
      · refine ⟨r_addSegment_3 (pX V) p0 p1 p2 p3, pvis (n_addSegment_3 (pX V) p0 p1 p2 p3) (tK ki (pX V) (pY V) (fun _ => 0)), ?_, fun b u q hq => ?_⟩
        · refine pInv.keep hI (Int.le_refl T) hki hk6 (S := (n_addSegment_3 (pX V) p0 p1 p2 p3).1) _ ?_
          show pOr T (V.1 0) (s_X6_add (V.1 4) (V.1 10) p0 p1 p2 p3).1 (V.1 5) (V.1 6) (V.1 9)
          exact ⟨q0, sg_add q4 v3 _ _ _ _ _, q5, q6, q9⟩
        · obtain ⟨X, Y⟩ := q
          subst hq
          exact ⟨7, 152, Nat → Nat, n_addSegment_3 X p0 p1 p2 p3, fun uu => tK ki X Y uu, by decide, by decide, w_addSegment_3 l hl0 D cI cJ cO z b u X Y ki p0 p1 p2 p3 hki hk6 hkm hsb v1 v2 v3, fun _ => rfl⟩
      · refine ⟨(-2000003), V, hI, fun b u q hq => ?_⟩
        obtain ⟨X, Y⟩ := q
        subst hq
        exact ⟨8, 131, Unit, n_addSegment_2 X p0 p1 p2 p3, fun _ => Y, by decide, by decide, w_addSegment_2 l hl0 D cI cJ cO z b u X Y p0 p1 p2 p3 v1 v2 v3, fun _ => rfl⟩
    · refine ⟨(-2000003), V, hI, fun b u q hq => ?_⟩
      obtain ⟨X, Y⟩ := q
      subst hq
      exact ⟨8, 131, Unit, n_addSegment_1 X p0 p1 p2 p3, fun _ => Y, by decide, by decide, w_addSegment_1 l hl0 D cI cJ cO z b u X Y p0 p1 p2 p3 v1 v2, fun _ => rfl⟩
theorem cw_removeSegment : pCw yL_removeSegment cL_removeSegment 3 [(0, 5, 6, 15), (0, 5, 10, 28)] 2 := ⟨q_762, q_15, q_761, by decide +kernel⟩
theorem pw_removeSegment (l : Launch) (hl0 : l.stackTraces = false) (D : va_G) (cI cJ cO : ClassId) (z : zT) {T : Int} {V : pV} (hI : pInv T V) (p0 : Int32) : ∃ (r : Int32) (V2 : pV), pInv T V2 ∧ pCall l D cI cJ cO z yL_removeSegment cL_removeSegment 3 [(0, 5, 6, 15), (0, 5, 10, 28)] [.int p0] V r V2 := by
  obtain ⟨ki, hki, hk6, hkm⟩ := hI.2.2.1.ki
  have hsb := hI.1.sb
  obtain ⟨q0, q4, q5, q6, q9⟩ := id hI.1
  by_cases v1 : (p0 < 0 ∨ ((V.1 4) 1) ≤ p0)
  · refine ⟨(-2000001), V, hI, fun b u q hq => ?_⟩
    obtain ⟨X, Y⟩ := q
    subst hq
    exact ⟨8, 127, Unit, n_removeSegment_0 X p0, fun _ => Y, by decide, by decide, w_removeSegment_0 l hl0 D cI cJ cO z b u X Y p0 v1, fun _ => rfl⟩
  · by_cases v2 : (s_X4_isRunning (V.1 5)) = 0
    · refine ⟨r_removeSegment_2 (pX V) p0, pvis (n_removeSegment_2 (pX V) p0) (tK ki (pX V) (pY V) (fun _ => 0)), ?_, fun b u q hq => ?_⟩
      · refine pInv.keep hI (Int.le_refl T) hki hk6 (S := (n_removeSegment_2 (pX V) p0).1) _ ?_
        show pOr T (V.1 0) (s_X6_remove (V.1 4) (V.1 10) p0).1 (V.1 5) (V.1 6) (V.1 9)
        exact ⟨q0, sg_rem q4 v1 _, q5, q6, q9⟩
      · obtain ⟨X, Y⟩ := q
        subst hq
        exact ⟨7, 148, Nat → Nat, n_removeSegment_2 X p0, fun uu => tK ki X Y uu, by decide, by decide, w_removeSegment_2 l hl0 D cI cJ cO z b u X Y ki p0 hki hk6 hkm hsb v1 v2, fun _ => rfl⟩
    · refine ⟨(-2000003), V, hI, fun b u q hq => ?_⟩
      obtain ⟨X, Y⟩ := q
      subst hq
      exact ⟨8, 127, Unit, n_removeSegment_1 X p0, fun _ => Y, by decide, by decide, w_removeSegment_1 l hl0 D cI cJ cO z b u X Y p0 v1 v2, fun _ => rfl⟩
theorem cw_setCycles : pCw yL_setCycles cL_setCycles 3 [(0, 5, 6, 18), (0, 5, 10, 28)] 2 := ⟨q_773, q_15, q_772, by decide +kernel⟩
theorem pw_setCycles (l : Launch) (hl0 : l.stackTraces = false) (D : va_G) (cI cJ cO : ClassId) (z : zT) {T : Int} {V : pV} (hI : pInv T V) (p0 : Int32) : ∃ (r : Int32) (V2 : pV), pInv T V2 ∧ pCall l D cI cJ cO z yL_setCycles cL_setCycles 3 [(0, 5, 6, 18), (0, 5, 10, 28)] [.int p0] V r V2 := by
  obtain ⟨ki, hki, hk6, hkm⟩ := hI.2.2.1.ki
  have hsb := hI.1.sb
  obtain ⟨q0, q4, q5, q6, q9⟩ := id hI.1
  by_cases v1 : (s_X10_isWithin p0 1 20) = 0
  · refine ⟨(-2000002), V, hI, fun b u q hq => ?_⟩
    obtain ⟨X, Y⟩ := q
    subst hq
    exact ⟨8, 128, Unit, n_setCycles_0 X p0, fun _ => Y, by decide, by decide, w_setCycles_0 l hl0 D cI cJ cO z b u X Y p0 v1, fun _ => rfl⟩
  · by_cases v2 : (s_X4_isRunning (V.1 5)) = 0
    · refine ⟨r_setCycles_2 (pX V) p0, pvis (n_setCycles_2 (pX V) p0) (tK ki (pX V) (pY V) (fun _ => 0)), ?_, fun b u q hq => ?_⟩
      · refine pInv.keep hI (Int.le_refl T) hki hk6 (S := (n_setCycles_2 (pX V) p0).1) _ ?_
        show pOr T (upd (V.1 0) 1 p0) (V.1 4) (V.1 5) (V.1 6) (V.1 9)
        exact ⟨kIn.eq (upn (by decide) rfl) q0, q4, q5, q6, q9⟩
      · obtain ⟨X, Y⟩ := q
        subst hq
        exact ⟨7, 149, Nat → Nat, n_setCycles_2 X p0, fun uu => tK ki X Y uu, by decide, by decide, w_setCycles_2 l hl0 D cI cJ cO z b u X Y ki p0 hki hk6 hkm hsb v1 v2, fun _ => rfl⟩
    · refine ⟨(-2000003), V, hI, fun b u q hq => ?_⟩
      obtain ⟨X, Y⟩ := q
      subst hq
      exact ⟨8, 128, Unit, n_setCycles_1 X p0, fun _ => Y, by decide, by decide, w_setCycles_1 l hl0 D cI cJ cO z b u X Y p0 v1 v2, fun _ => rfl⟩
theorem cw_start : pCw yL_start cL_start 2 [(0, 4, 5, 28)] 1 := ⟨q_780, q_15, q_779, by decide +kernel⟩
theorem pw_start (l : Launch) (hl0 : l.stackTraces = false) (D : va_G) (cI cJ cO : ClassId) (z : zT) {T : Int} {V : pV} (hI : pInv T V) : ∃ (r : Int32) (V2 : pV), pInv T V2 ∧ pCall l D cI cJ cO z yL_start cL_start 2 [(0, 4, 5, 28)] [] V r V2 := by
  obtain ⟨ki, hki, hk6, hkm⟩ := hI.2.2.1.ki
  have hsb := hI.1.sb
  obtain ⟨q0, q4, q5, q6, q9⟩ := id hI.1
  by_cases v1 : (s_X4_isRunning (V.1 5)) = 0
  · by_cases v2 : ((V.1 4) 1) ≤ 0
    · refine ⟨(-2000003), V, hI, fun b u q hq => ?_⟩
      obtain ⟨X, Y⟩ := q
      subst hq
      exact ⟨8, 126, Unit, n_start_1 X, fun _ => Y, by decide, by decide, w_start_1 l hl0 D cI cJ cO z b u X Y v1 v2, fun _ => rfl⟩
    · refine ⟨r_start_2 (pX V), pvis (n_start_2 (pX V)) (tK ki (pX V) (pY V) (fun _ => 0)), ?_, fun b u q hq => ?_⟩
      · refine pInv.keep hI (Int.le_refl T) hki hk6 (S := (n_start_2 (pX V)).1) _ ?_
        show pOr T (V.1 0) (V.1 4) (s_X7_startProgram (V.1 0) (V.1 5) (V.1 4) V.2.1 (V.1 19) (V.1 22) (V.1 20) (V.1 23) (V.1 21) (V.1 24) (V.1 6) (V.1 10)).1 (V.1 6) (V.1 9)
        exact ⟨q0, q4, st_run q5 _ _ _ _ _ _ _ _ _ _ _, q6, q9⟩
      · obtain ⟨X, Y⟩ := q
        subst hq
        exact ⟨7, 147, Nat → Nat, n_start_2 X, fun uu => tK ki X Y uu, by decide, by decide, w_start_2 l hl0 D cI cJ cO z b u X Y ki hki hk6 hkm hsb v1 v2, fun _ => rfl⟩
  · refine ⟨(-2000003), V, hI, fun b u q hq => ?_⟩
    obtain ⟨X, Y⟩ := q
    subst hq
    exact ⟨8, 126, Unit, n_start_0 X, fun _ => Y, by decide, by decide, w_start_0 l hl0 D cI cJ cO z b u X Y v1, fun _ => rfl⟩
theorem cw_stop : pCw yL_stop cL_stop 2 [(0, 4, 5, 28)] 1 := ⟨q_791, q_15, q_790, by decide +kernel⟩
theorem pw_stop (l : Launch) (hl0 : l.stackTraces = false) (D : va_G) (cI cJ cO : ClassId) (z : zT) {T : Int} {V : pV} (hI : pInv T V) : ∃ (r : Int32) (V2 : pV), pInv T V2 ∧ pCall l D cI cJ cO z yL_stop cL_stop 2 [(0, 4, 5, 28)] [] V r V2 := by
  obtain ⟨ki, hki, hk6, hkm⟩ := hI.2.2.1.ki
  have hsb := hI.1.sb
  obtain ⟨q0, q4, q5, q6, q9⟩ := id hI.1
  by_cases v1 : (s_X4_isRunning (V.1 5)) = 0
  · refine ⟨(-2000003), V, hI, fun b u q hq => ?_⟩
    obtain ⟨X, Y⟩ := q
    subst hq
    exact ⟨8, 126, Unit, n_stop_1 X, fun _ => Y, by decide, by decide, w_stop_1 l hl0 D cI cJ cO z b u X Y v1, fun _ => rfl⟩
  · refine ⟨r_stop_0 (pX V), pvis (n_stop_0 (pX V)) (tK ki (pX V) (pY V) (fun _ => 0)), ?_, fun b u q hq => ?_⟩
    · refine pInv.keep hI (Int.le_refl T) hki hk6 (S := (n_stop_0 (pX V)).1) _ ?_
      show pOr T (V.1 0) (V.1 4) (s_X4_end (V.1 5) 0) (V.1 6) (V.1 9)
      exact ⟨q0, q4, pRun.stop q5 0, q6, q9⟩
    · obtain ⟨X, Y⟩ := q
      subst hq
      exact ⟨7, 147, Nat → Nat, n_stop_0 X, fun uu => tK ki X Y uu, by decide, by decide, w_stop_0 l hl0 D cI cJ cO z b u X Y ki hki hk6 hkm hsb v1, fun _ => rfl⟩
theorem cw_hold : pCw yL_hold cL_hold 3 [(0, 5, 6, 28)] 2 := ⟨q_799, q_15, q_798, by decide +kernel⟩
theorem pw_hold (l : Launch) (hl0 : l.stackTraces = false) (D : va_G) (cI cJ cO : ClassId) (z : zT) {T : Int} {V : pV} (hI : pInv T V) (p0 : Int32) (hp : kb p0) : ∃ (r : Int32) (V2 : pV), pInv T V2 ∧ pCall l D cI cJ cO z yL_hold cL_hold 3 [(0, 5, 6, 28)] [.int p0] V r V2 := by
  obtain ⟨ki, hki, hk6, hkm⟩ := hI.2.2.1.ki
  have hsb := hI.1.sb
  obtain ⟨q0, q4, q5, q6, q9⟩ := id hI.1
  by_cases v1 : (s_X4_isRunning (V.1 5)) = 0
  · refine ⟨(-2000003), V, hI, fun b u q hq => ?_⟩
    obtain ⟨X, Y⟩ := q
    subst hq
    exact ⟨8, 127, Unit, n_hold_0 X p0, fun _ => Y, by decide, by decide, w_hold_0 l hl0 D cI cJ cO z b u X Y p0 v1, fun _ => rfl⟩
  · by_cases v2 : ((V.1 5) 1) = p0
    · refine ⟨(-2000003), V, hI, fun b u q hq => ?_⟩
      obtain ⟨X, Y⟩ := q
      subst hq
      exact ⟨8, 127, Unit, n_hold_1 X p0, fun _ => Y, by decide, by decide, w_hold_1 l hl0 D cI cJ cO z b u X Y p0 v1 v2, fun _ => rfl⟩
    · refine ⟨r_hold_2 (pX V) p0, pvis (n_hold_2 (pX V) p0) (tK ki (pX V) (pY V) (fun _ => 0)), ?_, fun b u q hq => ?_⟩
      · refine pInv.keep hI (Int.le_refl T) hki hk6 (S := (n_hold_2 (pX V) p0).1) _ ?_
        show pOr T (V.1 0) (V.1 4) (upd (V.1 5) 1 p0) (V.1 6) (V.1 9)
        exact ⟨q0, q4, ⟨kb.eq ups hp, kIn.eq (upn (by decide) rfl) q5.2⟩, q6, q9⟩
      · obtain ⟨X, Y⟩ := q
        subst hq
        exact ⟨7, 148, Nat → Nat, n_hold_2 X p0, fun uu => tK ki X Y uu, by decide, by decide, w_hold_2 l hl0 D cI cJ cO z b u X Y ki p0 hki hk6 hkm hsb hp v1 v2, fun _ => rfl⟩
theorem cw_undo : pCw yL_undo cL_undo 2 [(0, 4, 5, 28)] 1 := ⟨q_806, q_15, q_805, by decide +kernel⟩
theorem pw_undo (l : Launch) (hl0 : l.stackTraces = false) (D : va_G) (cI cJ cO : ClassId) (z : zT) {T : Int} {V : pV} (hI : pInv T V) : ∃ (r : Int32) (V2 : pV), pInv T V2 ∧ pCall l D cI cJ cO z yL_undo cL_undo 2 [(0, 4, 5, 28)] [] V r V2 := by
  by_cases v1 : (V.2.2.1 2) ≤ 0
  · refine ⟨(-2000003), V, hI, fun b u q hq => ?_⟩
    obtain ⟨X, Y⟩ := q
    subst hq
    exact ⟨8, 126, Unit, n_undo_0 X, fun _ => Y, by decide, by decide, w_undo_0 l hl0 D cI cJ cO z b u X Y v1, fun _ => rfl⟩
  · obtain ⟨ki, hki, hk6, hkm, hb⟩ := hI.2.2.1.back v1
    have hS := hI.2.1 ki hkm
    refine ⟨r_undo_1 (pX V) ki (pY V), pvis (n_undo_1 (pX V) ki (pY V)) (pY V), ⟨?_, fun k hk => hI.2.1 k hk, hb, hI.2.2.2⟩, fun b u q hq => ?_⟩
    · show pOr T (V.2.2.2.2.1 ki 0) (V.2.2.2.2.1 ki 4) (V.2.2.2.2.1 ki 5) (V.2.2.2.2.1 ki 6) (V.2.2.2.2.1 ki 9)
      exact hS
    · have hsb := hS.sb
      obtain ⟨X, Y⟩ := q
      subst hq
      exact ⟨7, 148, Unit, n_undo_1 X ki Y, fun _ => Y, by decide, by decide, w_undo_1 l hl0 D cI cJ cO z b u X Y ki hki hk6 hkm v1 hsb v1, fun _ => rfl⟩