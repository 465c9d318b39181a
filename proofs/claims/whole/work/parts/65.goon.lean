/-! the program in a minute -/
theorem kRel.within {T : Int} {S : Nat → Nat → Int32} {j : Int64} {w : Nat → Int64} (h : kRel T S j w) (f : Nat → Int32) : s_X11_isWithin f w = j_X7_followSoak_1 (S 1) (S 6) := by
  have e12 : kE (w 12) (S 6 0) (-700) 2000 := h.e 12 (by decide)
  have e13 : kE (w 13) (S 6 1) 0 1000 := h.e 13 (by decide)
  have e14 : kE (w 14) (S 6 2) (-700) 2000 := h.e 14 (by decide)
  have e15 : kE (w 15) (S 6 3) 0 1000 := h.e 15 (by decide)
  have d1 := ((e14.sub e12 (by decide) (by decide)).wk (c := -3000) (d := 3000) (by decide) (by decide)).abs (by decide)
  have d2 := ((e15.sub e13 (by decide) (by decide)).wk (c := -3000) (d := 3000) (by decide) (by decide)).abs (by decide)
  have z1 : (w 6 < s_X11_size (w 14 - w 12)) = (S 1 6 < (if 0 ≤ S 6 2 - S 6 0 then S 6 2 - S 6 0 else 0 - (S 6 2 - S 6 0))) := kE.lt (h.e 6 (by decide)) d1
  have z2 : (w 7 < s_X11_size (w 15 - w 13)) = (S 1 7 < (if 0 ≤ S 6 3 - S 6 1 then S 6 3 - S 6 1 else 0 - (S 6 3 - S 6 1))) := kE.lt (h.e 7 (by decide)) d2
  have p6 : s_X10_at 12 (S 1) 6 = S 1 6 := at12 (S 1) (k := 6) (by decide) rfl
  have p7 : s_X10_at 12 (S 1) 7 = S 1 7 := at12 (S 1) (k := 7) (by decide) rfl
  unfold s_X11_isWithin j_X7_followSoak_1 s_X1_temperatureOffset s_X1_humidityOffset
  rw [p6, p7, kItes z1, kItes z2]
def f7R (S : Nat → Nat → Int32) (j : Int64) : k16 := s_X7_followProgram_7 (S 1) j (S 19) (S 22) (S 20) (S 23) (S 21) (S 24) (S 11) (S 15) (S 12) (S 16) (S 13) (S 17) (S 14) (S 18) (S 0) (S 4) (S 6) (S 10) (j_X7_followProgram_3 (S 5) (S 0) (S 4) (S 10) (S 6) (S 1))
theorem f6_id (u : k16) : s_X7_followProgram_6 u = u := rfl
theorem fpS_va {S : Nat → Nat → Int32} {F : Nat → Int32} {r : k16} : fpS (va_up S 5 F) r = fpS S r := by
  unfold fpS
  rw [va_va]
set_option maxHeartbeats 1000000 in
theorem kRel.goOn {T : Int} {S : Nat → Nat → Int32} {j : Int64} {w : Nat → Int64} (h : kRel T S j w) (hT : T ≤ 40000) (hn : kRn 1 w) (f : Nat → Int32) (hr : w 33 = 1 ∨ w 33 = 2) (ht : (w 32).toInt + 1 ≤ T) (hpp : (w 41).toInt + 1 ≤ T) : kRel T (fpS S (f7R S j)) (f7R S j).2.1 (s_X11_goOn f w) ∧ kRn 0 (s_X11_goOn f w) := by
  obtain ⟨i, hi, h35, hp1, hp2⟩ := hn.2 hr
  have h43 : kE (w 43) (S 4 1) 0 12 := h.e 43 (by decide)
  have h43u : (w 43).toInt ≤ 12 := h43.kinL.2
  have hi12 : i < 12 := by omega
  have hiS : (i : Int) < (S 4 1).toInt := by rw [← h43.1]; exact hi
  have e35 : kE (w 35) (S 5 2) 0 11 := h.e 35 (by decide)
  have hS52 : S 5 2 = nI i := Int32.toInt_inj.mp (by rw [← e35.1, h35, nIL (by omega), nI_toInt (by omega)])
  have s2 : kE (w (50 + 4 * i + 2)) (S 10 (4 * i + 2)) 0 500 := h.sg hiS (d := 2) (by decide)
  have s3 : kE (w (50 + 4 * i + 3)) (S 10 (4 * i + 3)) 0 500 := h.sg hiS (d := 3) (by decide)
  have q2 : s_X6_property (S 4) (S 10) (S 5 2) 2 = S 10 (4 * i + 2) := sg_prop hi12 (by decide) hS52 rfl
  have q3 : s_X6_property (S 4) (S 10) (S 5 2) 3 = S 10 (4 * i + 3) := sg_prop hi12 (by decide) hS52 rfl
  have e11 : kE (w 11) (S 1 11) 0 1000 := h.e 11 (by decide)
  have p11 : s_X10_at 12 (S 1) 11 = S 1 11 := at12 (S 1) (k := 11) (by decide) rfl
  have e39 : kE (w 39) (S 5 4) 0 500 := h.e 39 (by decide)
  have e40 : kE (w 40) (S 5 5) 0 500 := h.e 40 (by decide)
  have e41 : kE (w 41) (S 5 6) 0 T := h.e 41 (by decide)
  have e33 : (w 33 = 1) = (S 5 0 = 1) := kE.eqq (h.e 33 (by decide)) kE1
  have e2 : kE 2 2 2 2 := kE.lit (by decide) (by decide)
  have t1 : ∀ {α : Type} {x y : α}, (if (0 : Int32) = 0 then x else y) = x := if_pos rfl
  have t2 : ∀ {α : Type} {x y : α}, (if (1 : Int32) = 0 then x else y) = y := if_neg (by decide)
  unfold f7R s_X7_followProgram_7 j_X7_followProgram_3 s_X11_goOn
  rw [p11]
  by_cases c1 : w 33 = 1
  · have c1S : S 5 0 = 1 := e33 ▸ c1
    obtain ⟨g2, g39, g40, g41⟩ := hp1 c1
    have n6 : S 5 6 ≤ S 1 11 := by
      refine Int32.le_iff_toInt_le.mpr ?_
      have a := e41.1
      rw [g41] at a
      rw [← a]
      exact e11.2.1
    rw [if_pos c1, if_pos c1S]
    unfold j_X7_followProgram_1 s_X7_followRamp
    rw [q2, q3]
    have o2 : s_X11_of_p0_2 f w = w (50 + 4 * i + 2) := of2_at hi12 h35
    have vk : ∀ k : Nat, k ≠ 33 → vp_updL w 33 2 k = w k := fun k hk => upnL hk rfl
    have o3 : s_X11_of_p0_3 f (vp_updL w 33 2) = w (50 + 4 * i + 3) := (of3_at hi12 (by rw [vk 35 (by decide)]; exact h35)).trans (vk _ (by omega))
    rw [o2, o3]
    have z1 : (S 10 (4 * i + 2) ≤ S 5 4) = (w 39 = w (50 + 4 * i + 2)) := by
      refine propext ⟨fun z => ?_, fun z => ?_⟩
      · have a := Int32.le_iff_toInt_le.mp z
        refine Int64.toInt_inj.mp ?_
        have := e39.1
        have := s2.1
        omega
      · refine Int32.le_iff_toInt_le.mpr ?_
        rw [← e39.1, ← s2.1, z]
        exact Int.le_refl _
    by_cases c2 : w 39 = w (50 + 4 * i + 2)
    · rw [if_pos c2, if_pos (pT z1 c2)]
      have z2 : (w (50 + 4 * i + 3) = 0) = (S 10 (4 * i + 3) = 0) := kE.eqq s3 kE0
      have k1 := (h.sel 5).set2 33 (by decide) (by decide) rfl e2 (by decide) (show (2 : Int) ≤ 4 by decide)
      have hs1 : kSg (vp_updL w 33 2) := fun i2 hi2 => by
        rw [vk 43 (by decide)] at hi2
        rw [vk _ (by omega), vk _ (by omega)]
        exact hn.1 i2 hi2
      by_cases c3 : w (50 + 4 * i + 3) = 0
      · rw [if_pos c3, if_pos (show S 10 (4 * i + 3) = 0 from z2 ▸ c3)]
        have k2 := k1.complete hT hs1 f (i := i) (by rw [vk 43 (by decide)]; exact hi) (by rw [vk 35 (by decide)]; exact h35) (by rw [vk 32 (by decide)]; exact ht)
        rw [fpS_va] at k2
        unfold s_X11_goOn_1
        rw [t2, f6_id]
        exact k2
      · rw [if_neg c3, if_neg (show ¬ S 10 (4 * i + 3) = 0 from fun z => c3 (z2 ▸ z))]
        rw [t1]
        have n6b : upd (S 5) 0 2 6 ≤ S 1 11 := n6
        rw [if_pos n6b]
        refine ⟨k1.cgA (fun a ha => ?_), ?_⟩
        · exact
            match a, ha with
            | 0, _ => (fpS_lo (by decide)).trans (va_n (show (0 : Nat) ≠ 5 by decide)).symm
            | 1, _ => (fpS_lo (by decide)).trans (va_n (show (1 : Nat) ≠ 5 by decide)).symm
            | 2, _ => (fpS_lo (by decide)).trans (va_n (show (2 : Nat) ≠ 5 by decide)).symm
            | 3, _ => (fpS_lo (by decide)).trans (va_n (show (3 : Nat) ≠ 5 by decide)).symm
            | 4, _ => (fpS_lo (by decide)).trans (va_n (show (4 : Nat) ≠ 5 by decide)).symm
            | 5, _ => fpS_5.trans va_s.symm
            | 6, _ => (fpS_lo (by decide)).trans (va_n (show (6 : Nat) ≠ 5 by decide)).symm
            | 7, _ => (fpS_lo (by decide)).trans (va_n (show (7 : Nat) ≠ 5 by decide)).symm
            | 8, _ => (fpS_lo (by decide)).trans (va_n (show (8 : Nat) ≠ 5 by decide)).symm
            | 9, _ => (fpS_lo (by decide)).trans (va_n (show (9 : Nat) ≠ 5 by decide)).symm
            | 10, _ => (fpS_lo (by decide)).trans (va_n (show (10 : Nat) ≠ 5 by decide)).symm
            | 11, _ => fpS_11.trans (va_n (show (11 : Nat) ≠ 5 by decide)).symm
            | 12, _ => fpS_12.trans (va_n (show (12 : Nat) ≠ 5 by decide)).symm
            | 13, _ => fpS_13.trans (va_n (show (13 : Nat) ≠ 5 by decide)).symm
            | 14, _ => fpS_14.trans (va_n (show (14 : Nat) ≠ 5 by decide)).symm
            | 15, _ => fpS_15.trans (va_n (show (15 : Nat) ≠ 5 by decide)).symm
            | 16, _ => fpS_16.trans (va_n (show (16 : Nat) ≠ 5 by decide)).symm
            | 17, _ => fpS_17.trans (va_n (show (17 : Nat) ≠ 5 by decide)).symm
            | 18, _ => fpS_18.trans (va_n (show (18 : Nat) ≠ 5 by decide)).symm
            | 19, _ => fpS_19.trans (va_n (show (19 : Nat) ≠ 5 by decide)).symm
            | 20, _ => fpS_20.trans (va_n (show (20 : Nat) ≠ 5 by decide)).symm
            | 21, _ => fpS_21.trans (va_n (show (21 : Nat) ≠ 5 by decide)).symm
            | 22, _ => fpS_22.trans (va_n (show (22 : Nat) ≠ 5 by decide)).symm
            | 23, _ => fpS_23.trans (va_n (show (23 : Nat) ≠ 5 by decide)).symm
            | 24, _ => fpS_24.trans (va_n (show (24 : Nat) ≠ 5 by decide)).symm
            | 25, _ => (fpS_lo (by decide)).trans (va_n (show (25 : Nat) ≠ 5 by decide)).symm
            | n + 26, h => absurd h (by omega)
        · refine ⟨hs1, fun _ => ⟨i, by rw [vk 43 (by decide)]; exact hi, by rw [vk 35 (by decide)]; exact h35, fun z => ?_, fun z => ?_⟩⟩
          · rw [upsL] at z
            exact absurd z (by decide)
          · rw [vk 40 (by decide), vk _ (by omega), g40, show (0 : Int64).toInt = 0 by decide]
            have a := s3.1
            have b := s3.2.1
            have c : ¬ (w (50 + 4 * i + 3)).toInt = 0 := fun y => c3 (Int64.toInt_inj.mp y)
            omega
    · rw [if_neg c2, if_neg (pTn z1 c2), t1, if_pos n6]
      refine ⟨h.cgA (fun a ha => ?_), ?_⟩
      · exact
          match a, ha with
          | 0, _ => fpS_lo (by decide)
          | 1, _ => fpS_lo (by decide)
          | 2, _ => fpS_lo (by decide)
          | 3, _ => fpS_lo (by decide)
          | 4, _ => fpS_lo (by decide)
          | 5, _ => fpS_5
          | 6, _ => fpS_lo (by decide)
          | 7, _ => fpS_lo (by decide)
          | 8, _ => fpS_lo (by decide)
          | 9, _ => fpS_lo (by decide)
          | 10, _ => fpS_lo (by decide)
          | 11, _ => fpS_11
          | 12, _ => fpS_12
          | 13, _ => fpS_13
          | 14, _ => fpS_14
          | 15, _ => fpS_15
          | 16, _ => fpS_16
          | 17, _ => fpS_17
          | 18, _ => fpS_18
          | 19, _ => fpS_19
          | 20, _ => fpS_20
          | 21, _ => fpS_21
          | 22, _ => fpS_22
          | 23, _ => fpS_23
          | 24, _ => fpS_24
          | 25, _ => fpS_lo (by decide)
          | n + 26, h => absurd h (by omega)
      · refine ⟨hn.1, fun _ => ⟨i, hi, h35, fun _ => ?_, hp2⟩⟩
        have c : ¬ (w 39).toInt = (w (50 + 4 * i + 2)).toInt := fun y => c2 (Int64.toInt_inj.mp y)
        exact ⟨g2, by omega, g40, g41⟩
  · have c2 : w 33 = 2 := hr.resolve_left c1
    have c1S : ¬ S 5 0 = 1 := fun z => c1 (e33 ▸ z)
    have g40 := hp2 c2
    rw [if_neg c1, if_neg c1S]
    unfold j_X7_followProgram_2 s_X7_followSoak s_X7_followSoak_3
    rw [h.within f]
    have inc41 : kE (w 41 + 1) (S 5 6 + 1) 0 T := (e41.add kE1 (by decide) (by omega)).bd (by have := (e41.add kE1 (by decide) (by omega)).2.1; omega) (by
      have a := (e41.add kE1 (by decide) (by omega)).1
      rw [i64_inc e41.kinL (by decide) (by omega)] at a
      omega)
    have inc40 : kE (w 40 + 1) (S 5 5 + 1) 0 500 := (e40.add kE1 (by decide) (by decide)).bd (by have := (e40.add kE1 (by decide) (by decide)).2.1; omega) (by
      have a := (e40.add kE1 (by decide) (by decide)).1
      rw [i64_inc e40.kinL (by decide) (by decide)] at a
      have := s3.1
      have := s3.2.2
      omega)
    have core : ∀ (V : Nat → Int64) (X : Nat → Int32), kRel T (va_up S 5 X) j V → (∀ k : Nat, k ≠ 40 → k ≠ 41 → V k = w k) → X 2 = S 5 2 → (V 40).toInt ≤ (w (50 + 4 * i + 3)).toInt → kRel T (fpS S (if (s_X7_followSoak_2 (S 4) (S 10) X).1 = 0 then (if (s_X7_followSoak_2 (S 4) (S 10) X).2 6 ≤ S 1 11 then ((s_X7_followSoak_2 (S 4) (S 10) X).2, j, S 19, S 22, S 20, S 23, S 21, S 24, S 11, S 15, S 12, S 16, S 13, S 17, S 14, S 18) else s_X7_followProgram_5 (S 11) (S 15) (S 12) (S 16) (S 13) (S 17) (S 14) (S 18) (s_X7_followSoak_2 (S 4) (S 10) X) (s_X9_write j (S 19) (S 22) (S 20) (S 23) (S 21) (S 24) 5 ((s_X7_followSoak_2 (S 4) (S 10) X).2 2) (S 0 0))) else s_X7_followProgram_6 (s_X7_finishSegment (S 0) (s_X7_followSoak_2 (S 4) (S 10) X).2 j (S 19) (S 22) (S 20) (S 23) (S 21) (S 24) (S 11) (S 15) (S 12) (S 16) (S 13) (S 17) (S 14) (S 18) (S 4) (S 6) (S 10)))) (if (s_X7_followSoak_2 (S 4) (S 10) X).1 = 0 then (if (s_X7_followSoak_2 (S 4) (S 10) X).2 6 ≤ S 1 11 then ((s_X7_followSoak_2 (S 4) (S 10) X).2, j, S 19, S 22, S 20, S 23, S 21, S 24, S 11, S 15, S 12, S 16, S 13, S 17, S 14, S 18) else s_X7_followProgram_5 (S 11) (S 15) (S 12) (S 16) (S 13) (S 17) (S 14) (S 18) (s_X7_followSoak_2 (S 4) (S 10) X) (s_X9_write j (S 19) (S 22) (S 20) (S 23) (S 21) (S 24) 5 ((s_X7_followSoak_2 (S 4) (S 10) X).2 2) (S 0 0))) else s_X7_followProgram_6 (s_X7_finishSegment (S 0) (s_X7_followSoak_2 (S 4) (S 10) X).2 j (S 19) (S 22) (S 20) (S 23) (S 21) (S 24) (S 11) (S 15) (S 12) (S 16) (S 13) (S 17) (S 14) (S 18) (S 4) (S 6) (S 10))).2.1 (s_X11_goOn_4 f V) ∧ kRn 0 (s_X11_goOn_4 f V) := by
      intro V X kV hV hX2 hle
      have x40 : kE (V 40) (X 5) 0 500 := kV.e 40 (by decide)
      have x41 : kE (V 41) (X 6) 0 T := kV.e 41 (by decide)
      have x11 : kE (V 11) (S 1 11) 0 1000 := kV.e 11 (by decide)
      have x35 : V 35 = (nI i).toInt64 := (hV 35 (by decide) (by decide)).trans h35
      have o3 : s_X11_of_p0_3 f V = w (50 + 4 * i + 3) := (of3_at hi12 x35).trans (hV _ (by omega) (by omega))
      have q3X : s_X6_property (S 4) (S 10) (X 2) 3 = S 10 (4 * i + 3) := by rw [hX2]; exact q3
      have hsV : kSg V := fun i2 hi2 => by
        rw [hV 43 (by decide) (by decide)] at hi2
        rw [hV _ (by omega) (by omega), hV _ (by omega) (by omega)]
        exact hn.1 i2 hi2
      have z1 : (V 40 = w (50 + 4 * i + 3)) = (¬ X 5 < S 10 (4 * i + 3)) := by
        refine propext ⟨fun z y => ?_, fun z => ?_⟩
        · have a := Int32.lt_iff_toInt_lt.mp y
          rw [← x40.1, ← s3.1, z] at a
          omega
        · have a : ¬ (X 5).toInt < (S 10 (4 * i + 3)).toInt := fun y => z (Int32.lt_iff_toInt_lt.mpr y)
          refine Int64.toInt_inj.mp ?_
          rw [← x40.1, ← s3.1] at a
          omega
      unfold s_X7_followSoak_2 s_X11_goOn_4 s_X11_goOn_2 s_X11_goOn_3
      rw [q3X, o3]
      by_cases c3 : X 5 < S 10 (4 * i + 3)
      · rw [if_pos c3, if_neg (pTx z1 c3), t1]
        have z2 : (V 41 ≤ V 11) = (X 6 ≤ S 1 11) := kE.le x41 x11
        have c3i := Int32.lt_iff_toInt_lt.mp c3
        by_cases c4 : X 6 ≤ S 1 11
        · rw [if_pos (show (0, X).2 6 ≤ S 1 11 from c4), if_pos (pT z2 c4)]
          refine ⟨kV.cgA (fun a ha => ?_), ?_⟩
          · exact
              match a, ha with
              | 0, _ => (fpS_lo (by decide)).trans (va_n (show (0 : Nat) ≠ 5 by decide)).symm
              | 1, _ => (fpS_lo (by decide)).trans (va_n (show (1 : Nat) ≠ 5 by decide)).symm
              | 2, _ => (fpS_lo (by decide)).trans (va_n (show (2 : Nat) ≠ 5 by decide)).symm
              | 3, _ => (fpS_lo (by decide)).trans (va_n (show (3 : Nat) ≠ 5 by decide)).symm
              | 4, _ => (fpS_lo (by decide)).trans (va_n (show (4 : Nat) ≠ 5 by decide)).symm
              | 5, _ => fpS_5.trans va_s.symm
              | 6, _ => (fpS_lo (by decide)).trans (va_n (show (6 : Nat) ≠ 5 by decide)).symm
              | 7, _ => (fpS_lo (by decide)).trans (va_n (show (7 : Nat) ≠ 5 by decide)).symm
              | 8, _ => (fpS_lo (by decide)).trans (va_n (show (8 : Nat) ≠ 5 by decide)).symm
              | 9, _ => (fpS_lo (by decide)).trans (va_n (show (9 : Nat) ≠ 5 by decide)).symm
              | 10, _ => (fpS_lo (by decide)).trans (va_n (show (10 : Nat) ≠ 5 by decide)).symm
              | 11, _ => fpS_11.trans (va_n (show (11 : Nat) ≠ 5 by decide)).symm
              | 12, _ => fpS_12.trans (va_n (show (12 : Nat) ≠ 5 by decide)).symm
              | 13, _ => fpS_13.trans (va_n (show (13 : Nat) ≠ 5 by decide)).symm
              | 14, _ => fpS_14.trans (va_n (show (14 : Nat) ≠ 5 by decide)).symm
              | 15, _ => fpS_15.trans (va_n (show (15 : Nat) ≠ 5 by decide)).symm
              | 16, _ => fpS_16.trans (va_n (show (16 : Nat) ≠ 5 by decide)).symm
              | 17, _ => fpS_17.trans (va_n (show (17 : Nat) ≠ 5 by decide)).symm
              | 18, _ => fpS_18.trans (va_n (show (18 : Nat) ≠ 5 by decide)).symm
              | 19, _ => fpS_19.trans (va_n (show (19 : Nat) ≠ 5 by decide)).symm
              | 20, _ => fpS_20.trans (va_n (show (20 : Nat) ≠ 5 by decide)).symm
              | 21, _ => fpS_21.trans (va_n (show (21 : Nat) ≠ 5 by decide)).symm
              | 22, _ => fpS_22.trans (va_n (show (22 : Nat) ≠ 5 by decide)).symm
              | 23, _ => fpS_23.trans (va_n (show (23 : Nat) ≠ 5 by decide)).symm
              | 24, _ => fpS_24.trans (va_n (show (24 : Nat) ≠ 5 by decide)).symm
              | 25, _ => (fpS_lo (by decide)).trans (va_n (show (25 : Nat) ≠ 5 by decide)).symm
              | n + 26, h => absurd h (by omega)
          · refine ⟨hsV, fun _ => ⟨i, by rw [hV 43 (by decide) (by decide)]; exact hi, x35, fun z => ?_, fun _ => ?_⟩⟩
            · rw [hV 33 (by decide) (by decide)] at z
              exact absurd z c1
            · rw [hV (50 + 4 * i + 3) (by omega) (by omega), x40.1, s3.1]
              exact c3i
        · rw [if_neg (show ¬ (0, X).2 6 ≤ S 1 11 from c4), if_neg (pTn z2 c4)]
          have e4 : kE 4 4 4 4 := kE.lit (by decide) (by decide)
          have k3 := (kV.set2 33 (by decide) (by decide) rfl e4 (by decide) (Int.le_refl _)).set2 34 (by decide) (by decide) rfl kE0 (by decide) (show (0 : Int) ≤ 1 by decide)
          have x35e : V 35 = (X 2).toInt64 := (kV.e 35 (by decide)).eq
          have k4 := k3.enterC (by decide) f (p0 := 5) (n := X 2) (b := V 35) (by decide) x35e
          have g46 := k3.2.2.2.1.1.many (by decide)
          unfold s_X7_followProgram_5 s_X7_followProgram_4
          have e2 := wr_eq S j 5 (X 2)
          have E2lo : ∀ a : Nat, a < 19 ∨ a = 25 → entS S 5 (X 2) a = S a := fun a ha => entS_lo ha
          generalize entS S 5 (X 2) = E2 at k4 e2 E2lo
          rw [e2]
          refine ⟨k4.cgA (fun a ha => ?_), ?_⟩
          · exact
              match a, ha with
              | 0, _ => (fpS_lo (by decide)).trans ((E2lo 0 (by decide)).symm.trans (va_n (show (0 : Nat) ≠ 5 by decide)).symm)
              | 1, _ => (fpS_lo (by decide)).trans ((E2lo 1 (by decide)).symm.trans (va_n (show (1 : Nat) ≠ 5 by decide)).symm)
              | 2, _ => (fpS_lo (by decide)).trans ((E2lo 2 (by decide)).symm.trans (va_n (show (2 : Nat) ≠ 5 by decide)).symm)
              | 3, _ => (fpS_lo (by decide)).trans ((E2lo 3 (by decide)).symm.trans (va_n (show (3 : Nat) ≠ 5 by decide)).symm)
              | 4, _ => (fpS_lo (by decide)).trans ((E2lo 4 (by decide)).symm.trans (va_n (show (4 : Nat) ≠ 5 by decide)).symm)
              | 5, _ => fpS_5.trans va_s.symm
              | 6, _ => (fpS_lo (by decide)).trans ((E2lo 6 (by decide)).symm.trans (va_n (show (6 : Nat) ≠ 5 by decide)).symm)
              | 7, _ => (fpS_lo (by decide)).trans ((E2lo 7 (by decide)).symm.trans (va_n (show (7 : Nat) ≠ 5 by decide)).symm)
              | 8, _ => (fpS_lo (by decide)).trans ((E2lo 8 (by decide)).symm.trans (va_n (show (8 : Nat) ≠ 5 by decide)).symm)
              | 9, _ => (fpS_lo (by decide)).trans ((E2lo 9 (by decide)).symm.trans (va_n (show (9 : Nat) ≠ 5 by decide)).symm)
              | 10, _ => (fpS_lo (by decide)).trans ((E2lo 10 (by decide)).symm.trans (va_n (show (10 : Nat) ≠ 5 by decide)).symm)
              | 11, _ => fpS_11.trans ((E2lo 11 (by decide)).symm.trans (va_n (show (11 : Nat) ≠ 5 by decide)).symm)
              | 12, _ => fpS_12.trans ((E2lo 12 (by decide)).symm.trans (va_n (show (12 : Nat) ≠ 5 by decide)).symm)
              | 13, _ => fpS_13.trans ((E2lo 13 (by decide)).symm.trans (va_n (show (13 : Nat) ≠ 5 by decide)).symm)
              | 14, _ => fpS_14.trans ((E2lo 14 (by decide)).symm.trans (va_n (show (14 : Nat) ≠ 5 by decide)).symm)
              | 15, _ => fpS_15.trans ((E2lo 15 (by decide)).symm.trans (va_n (show (15 : Nat) ≠ 5 by decide)).symm)
              | 16, _ => fpS_16.trans ((E2lo 16 (by decide)).symm.trans (va_n (show (16 : Nat) ≠ 5 by decide)).symm)
              | 17, _ => fpS_17.trans ((E2lo 17 (by decide)).symm.trans (va_n (show (17 : Nat) ≠ 5 by decide)).symm)
              | 18, _ => fpS_18.trans ((E2lo 18 (by decide)).symm.trans (va_n (show (18 : Nat) ≠ 5 by decide)).symm)
              | 19, _ => fpS_19.trans (va_n (show (19 : Nat) ≠ 5 by decide)).symm
              | 20, _ => fpS_20.trans (va_n (show (20 : Nat) ≠ 5 by decide)).symm
              | 21, _ => fpS_21.trans (va_n (show (21 : Nat) ≠ 5 by decide)).symm
              | 22, _ => fpS_22.trans (va_n (show (22 : Nat) ≠ 5 by decide)).symm
              | 23, _ => fpS_23.trans (va_n (show (23 : Nat) ≠ 5 by decide)).symm
              | 24, _ => fpS_24.trans (va_n (show (24 : Nat) ≠ 5 by decide)).symm
              | 25, _ => (fpS_lo (by decide)).trans ((E2lo 25 (by decide)).symm.trans (va_n (show (25 : Nat) ≠ 5 by decide)).symm)
              | n + 26, h => absurd h (by omega)
          · generalize hW : vp_updL (vp_updL V 33 4) 34 0 = W at g46 ⊢
            have fe := fr_X11_enter f W 5 (V 35) g46
            have W33 : W 33 = 4 := by rw [← hW]; exact upnL (by decide) upsL
            have Wn : ∀ k : Nat, k ≠ 33 → k ≠ 34 → W k = V k := fun k hk hk2 => by rw [← hW]; exact upnL hk2 (upnL hk rfl)
            refine ⟨fun i2 hi2 => ?_, fun z => ?_⟩
            · rw [fe 43 (by decide), Wn 43 (by decide) (by decide)] at hi2
              have hi3 : i2 < 12 := by
                rw [hV 43 (by decide) (by decide)] at hi2
                omega
              rw [fe _ (by omega), fe _ (by omega), Wn _ (by omega) (by omega), Wn _ (by omega) (by omega)]
              exact hsV i2 hi2
            · rw [fe 33 (by decide), W33] at z
              exact absurd z (by decide)
      · rw [if_neg c3, if_pos (pT z1 c3), t2]
        have k2 := kV.complete hT hsV f (i := i) (by rw [hV 43 (by decide) (by decide)]; exact hi) x35 (by rw [hV 32 (by decide) (by decide)]; exact ht)
        rw [fpS_va] at k2
        rw [f6_id]
        exact k2
    by_cases cw : j_X7_followSoak_1 (S 1) (S 6) = 0
    · rw [if_pos cw, if_pos cw]
      have k1 := (h.sel 5).set2 41 (by decide) (by decide) rfl inc41 (by decide) (Int.le_refl _)
      refine core _ _ k1 (fun k _ h2 => upnL h2 rfl) rfl ?_
      have a : vp_updL w 41 (w 41 + 1) 40 = w 40 := upnL (by decide) rfl
      rw [a]
      omega
    · rw [if_neg cw, if_neg cw]
      have k1 := (h.sel 5).set2 40 (by decide) (by decide) rfl inc40 (by decide) (Int.le_refl _)
      refine core _ _ k1 (fun k h2 _ => upnL h2 rfl) rfl ?_
      rw [upsL, i64_inc e40.kinL (by decide) (by decide)]
      omega
