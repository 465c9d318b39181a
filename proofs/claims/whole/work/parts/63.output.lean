/-! heating and cooling -/
def aoR (S : Nat → Nat → Int32) (j : Int64) : Int32 × (Nat → Int32) × Int64 × (Nat → Int32) × (Nat → Int32) × (Nat → Int32) × (Nat → Int32) × (Nat → Int32) × (Nat → Int32) := s_X7_allowedOutput (S 0) (S 6) (S 1) (S 2) j (S 19) (S 22) (S 20) (S 23) (S 21) (S 24)
def aoS (S : Nat → Nat → Int32) (j : Int64) : Nat → Nat → Int32 := va_up (va_up (va_up (va_up (va_up (va_up (va_up S 6 (aoR S j).2.1) 19 (aoR S j).2.2.2.1) 22 (aoR S j).2.2.2.2.1) 20 (aoR S j).2.2.2.2.2.1) 23 (aoR S j).2.2.2.2.2.2.1) 21 (aoR S j).2.2.2.2.2.2.2.1) 24 (aoR S j).2.2.2.2.2.2.2.2
/-- with the trail as it was -/
theorem ao_plain {S : Nat → Nat → Int32} {F : Nat → Int32} : va_up (va_up (va_up (va_up (va_up (va_up (va_up S 6 F) 19 (S 19)) 22 (S 22)) 20 (S 20)) 23 (S 23)) 21 (S 21)) 24 (S 24) = va_up S 6 F := by
  funext c
  unfold va_up
  by_cases h24 : c = 24
  · subst h24; rfl
  · by_cases h21 : c = 21
    · subst h21; rfl
    · by_cases h23 : c = 23
      · subst h23; rfl
      · by_cases h20 : c = 20
        · subst h20; rfl
        · by_cases h22 : c = 22
          · subst h22; rfl
          · by_cases h19 : c = 19
            · subst h19; rfl
            · rw [if_neg h24, if_neg h21, if_neg h23, if_neg h20, if_neg h22, if_neg h19]
theorem kRel.output {T : Int} {S : Nat → Nat → Int32} {j : Int64} {w : Nat → Int64} (h : kRel T S j w) (hT : 0 ≤ T ∧ T ≤ 30000) (f : Nat → Int32) : kRel (T + 1) (aoS S j) (aoR S j).2.2.1 (s_X11_output f w).2 ∧ kE (s_X11_output f w).1 (aoR S j).1 (-50) 50 := by
  have hw := h.wk (T2 := T + 1) (by omega)
  have e16 : (w 16 = 1) = (¬ S 6 4 = 0) := by
    rw [kE.eqq (h.e 16 (by decide)) kE1]
    have a := (h.e 16 (by decide)).2
    have a1 : 0 ≤ (S 6 4).toInt := a.1
    have a2 : (S 6 4).toInt ≤ 1 := a.2
    refine propext ⟨fun z y => ?_, fun z => ?_⟩
    · have z2 : S 6 4 = 1 := z
      rw [y] at z2
      exact absurd z2 (by decide)
    · have n0 : ¬ (S 6 4).toInt = 0 := fun y => z (Int32.toInt_inj.mp y)
      refine Int32.toInt_inj.mp ?_
      show (S 6 4).toInt = 1
      omega
  unfold aoS aoR s_X7_allowedOutput s_X11_output
  by_cases c0 : S 6 4 = 0
  · rw [if_pos c0, if_neg (pTx e16 c0)]
    have ee : kE (w 14 - w 12) (S 6 2 - S 6 0) (-10000) 10000 := ((h.e 14 (by decide)).sub (h.e 12 (by decide)) (show (-2147483648 : Int) ≤ -700 - 2000 by decide) (show (2000 - (-700) : Int) < 2147483648 by decide)).wk (show (-10000 : Int) ≤ -700 - 2000 by decide) (show (2000 - (-700) : Int) ≤ 10000 by decide)
    have hd := h.demand0 f ee
    have p0 : s_X10_at 12 (S 1) 0 = S 1 0 := at12 (S 1) (k := 0) (by decide) rfl
    have p1 : s_X10_at 12 (S 1) 1 = S 1 1 := at12 (S 1) (k := 1) (by decide) rfl
    have p8 : s_X10_at 12 (S 1) 8 = S 1 8 := at12 (S 1) (k := 8) (by decide) rfl
    rw [p0, p1]
    unfold s_X7_allowedOutput_10 s_X7_allowedOutput_9 s_X7_allowedOutput_8
    rw [p8]
    unfold j_X11_output_1
    generalize hU : s_X0_demand (S 2) (S 6 2 - S 6 0) (S 1 0) (S 1 1) = u at hd ⊢
    generalize hDD : s_X11_demand_p0_0 f w (w 14 - w 12) = dd at hd
    have i8 := h.e 8 (by decide)
    have z1 : (dd ≤ 0) = (u ≤ 0) := kE.le hd kE0
    have z2 : (0 ≤ dd) = (0 ≤ u) := kE.le kE0 hd
    have z3 : (w 8 ≤ w 23) = (S 1 8 ≤ S 6 7) := kE.le i8 (h.e 23 (by decide))
    have z4 : (w 24 < w 8) = (¬ S 1 8 ≤ S 6 8) := by
      rw [kE.lt (h.e 24 (by decide)) i8]
      refine propext ⟨fun z y => ?_, fun z => ?_⟩
      · have a := Int32.lt_iff_toInt_lt.mp z
        have b := Int32.le_iff_toInt_le.mp y
        have a2 : (S 6 8).toInt < (S 1 8).toInt := a
        omega
      · have a : ¬ (S 1 8).toInt ≤ (S 6 8).toInt := fun y => z (Int32.le_iff_toInt_le.mpr y)
        exact Int32.lt_iff_toInt_lt.mpr (by show (S 6 8).toInt < (S 1 8).toInt; omega)
    have lem : ∀ (xc : Int32), (xc = 0 ∨ xc = 1) → ∀ x5 : Int32, ((x5 = 0) = (u ≤ 0) ∨ xc = 0) → kRel (T + 1) (va_up (va_up (va_up (va_up (va_up (va_up (va_up S 6 (s_X7_allowedOutput_7 u j (S 19) (S 22) (S 20) (S 23) (S 21) (S 24) (S 0) x5 (S 6) xc).2.1) 19 (s_X7_allowedOutput_7 u j (S 19) (S 22) (S 20) (S 23) (S 21) (S 24) (S 0) x5 (S 6) xc).2.2.2.1) 22 (s_X7_allowedOutput_7 u j (S 19) (S 22) (S 20) (S 23) (S 21) (S 24) (S 0) x5 (S 6) xc).2.2.2.2.1) 20 (s_X7_allowedOutput_7 u j (S 19) (S 22) (S 20) (S 23) (S 21) (S 24) (S 0) x5 (S 6) xc).2.2.2.2.2.1) 23 (s_X7_allowedOutput_7 u j (S 19) (S 22) (S 20) (S 23) (S 21) (S 24) (S 0) x5 (S 6) xc).2.2.2.2.2.2.1) 21 (s_X7_allowedOutput_7 u j (S 19) (S 22) (S 20) (S 23) (S 21) (S 24) (S 0) x5 (S 6) xc).2.2.2.2.2.2.2.1) 24 (s_X7_allowedOutput_7 u j (S 19) (S 22) (S 20) (S 23) (S 21) (S 24) (S 0) x5 (S 6) xc).2.2.2.2.2.2.2.2) (s_X7_allowedOutput_7 u j (S 19) (S 22) (S 20) (S 23) (S 21) (S 24) (S 0) x5 (S 6) xc).2.2.1 (s_X11_output_8 f w xc).2 ∧ kE (s_X11_output_8 f w xc).1 (s_X7_allowedOutput_7 u j (S 19) (S 22) (S 20) (S 23) (S 21) (S 24) (S 0) x5 (S 6) xc).1 (-50) 50 := by
      intro xc hxc x5 hs
      unfold s_X7_allowedOutput_7 s_X7_allowedOutput_6 s_X7_allowedOutput_5 s_X7_allowedOutput_4 s_X11_output_8 s_X11_output_7 s_X11_output_6 s_X11_output_5 j_X7_allowedOutput_3 j_X11_output_4
      rcases hxc with rfl | rfl
      · have r1 : ∀ {α : Type} {x y : α}, (if (0 : Int32) = 0 then x else y) = x := if_pos rfl
        repeat rw [r1]
        refine ⟨?_, by rw [hDD]; exact hd⟩
        show kRel (T + 1) (va_up (va_up (va_up (va_up (va_up (va_up (va_up S 6 (upd (S 6) 5 0)) 19 (S 19)) 22 (S 22)) 20 (S 20)) 23 (S 23)) 21 (S 21)) 24 (S 24)) j (vp_updL w 30 0)
        rw [ao_plain]
        exact (hw.sel 6).set2 30 (by decide) (by decide) rfl kE0 (by decide) (show (0 : Int) ≤ 1 by decide)
      · have r1 : ∀ {α : Type} {x y : α}, (if (1 : Int32) = 0 then x else y) = y := if_neg (by decide)
        repeat rw [r1]
        refine ⟨?_, kE0.wk (by decide) (by decide)⟩
        have hs2 : (x5 = 0) = (u ≤ 0) := hs.resolve_right (by decide)
        have b29 : kE (w 29 + 1) (S 6 6 + 1) 0 (T + 1) := ((h.e 29 (by decide)).add kE1 (by decide) (show T + 1 < _ by omega)).wk (by decide) (Int.le_refl _)
        have k1 := (hw.sel 6).set2 29 (by decide) (by decide) rfl b29 (by decide) (Int.le_refl _)
        have e30 : (w 30 = 0) = (upd (S 6) 6 (S 6 6 + 1) 5 = 0) := kE.eqq (h.e 30 (by decide)) kE0
        by_cases c3 : w 30 = 0
        · rw [if_pos c3, if_pos (e30 ▸ c3)]
          have hnum : (if dd ≤ 0 then (2 : Int64) else 1) = (if x5 = 0 then (2 : Int32) else 1).toInt64 := by
            by_cases c : x5 = 0
            · rw [if_pos c, if_pos (by rw [z1, ← hs2]; exact c)]; decide
            · rw [if_neg c, if_neg (by rw [z1, ← hs2]; exact c)]; decide
          unfold j_X11_output_3 j_X11_output_2
          rw [hDD]
          have k3 := (k1.enterC (by decide) f (p0 := 9) (n := (if x5 = 0 then (2 : Int32) else 1)) (by decide) hnum).set2 30 (by decide) (by decide) rfl kE1 (by decide) (Int.le_refl _)
          show kRel (T + 1) (va_up (va_up (va_up (va_up (va_up (va_up (va_up S 6 (upd (upd (S 6) 6 (S 6 6 + 1)) 5 1)) 19 (s_X3_add 24 (S 19) (S 22) 9).1) 22 (s_X3_add 24 (S 19) (S 22) 9).2) 20 (s_X3_add 24 (S 20) (S 23) (if x5 = 0 then (2 : Int32) else 1)).1) 23 (s_X3_add 24 (S 20) (S 23) (if x5 = 0 then (2 : Int32) else 1)).2) 21 (s_X3_add 24 (S 21) (S 24) (S 0 0)).1) 24 (s_X3_add 24 (S 21) (S 24) (S 0 0)).2) _ _
          rw [va_com 6 19 (by decide), va_com 6 22 (by decide), va_com 6 20 (by decide), va_com 6 23 (by decide), va_com 6 21 (by decide), va_com 6 24 (by decide)]
          exact k3
        · rw [if_neg c3, if_neg (fun z => c3 (e30 ▸ z))]
          show kRel (T + 1) (va_up (va_up (va_up (va_up (va_up (va_up (va_up S 6 (upd (upd (S 6) 6 (S 6 6 + 1)) 5 1)) 19 (S 19)) 22 (S 22)) 20 (S 20)) 23 (S 23)) 21 (S 21)) 24 (S 24)) j _
          rw [ao_plain]
          exact k1.set2 30 (by decide) (by decide) rfl kE1 (by decide) (Int.le_refl _)
    have t1 : ∀ {α : Type} {x y : α}, (if (0 : Int32) = 0 then x else y) = x := if_pos rfl
    have t2 : ∀ {α : Type} {x y : α}, (if (1 : Int32) = 0 then x else y) = y := if_neg (by decide)
    by_cases c1 : u ≤ 0
    · rw [if_pos c1, if_pos (pT z1 c1)]
      by_cases c2 : 0 ≤ u
      · rw [if_pos c2, if_pos (pT z2 c2)]
        repeat rw [t1]
        exact lem 0 (Or.inl rfl) 0 (Or.inr rfl)
      · rw [if_neg c2, if_neg (pTn z2 c2)]
        by_cases c3 : S 1 8 ≤ S 6 7
        · rw [if_pos c3, if_pos (pT z3 c3)]
          repeat rw [t1]
          exact lem 0 (Or.inl rfl) 0 (Or.inr rfl)
        · rw [if_neg c3, if_neg (pTn z3 c3)]
          repeat rw [t2]
          repeat rw [t1]
          exact lem 1 (Or.inr rfl) 0 (Or.inl (by rw [eq_true c1]; exact eq_true rfl))
    · have c2 : 0 ≤ u := by
        have a : ¬ u.toInt ≤ (0 : Int32).toInt := fun z => c1 (Int32.le_iff_toInt_le.mpr z)
        rw [Int32.toInt_zero] at a
        exact Int32.le_iff_toInt_le.mpr (by rw [Int32.toInt_zero]; omega)
      rw [if_neg c1, if_neg (pTn z1 c1), if_pos c2, if_pos (pT z2 c2)]
      by_cases c3 : S 1 8 ≤ S 6 8
      · rw [if_pos c3, if_neg (pTx z4 c3)]
        repeat rw [t1]
        exact lem 0 (Or.inl rfl) 0 (Or.inr rfl)
      · rw [if_neg c3, if_pos (pT z4 c3)]
        repeat rw [t2]
        exact lem 1 (Or.inr rfl) 1 (Or.inl (by rw [eq_false c1]; exact eq_false (by decide)))
  · rw [if_neg c0, if_pos (pT e16 c0)]
    refine ⟨?_, kE0.wk (by decide) (by decide)⟩
    show kRel (T + 1) (va_up (va_up (va_up (va_up (va_up (va_up (va_up S 6 (upd (S 6) 5 0)) 19 (S 19)) 22 (S 22)) 20 (S 20)) 23 (S 23)) 21 (S 21)) 24 (S 24)) j (vp_updL w 30 0)
    rw [ao_plain]
    exact (hw.sel 6).set2 30 (by decide) (by decide) rfl kE0 (by decide) (show (0 : Int) ≤ 1 by decide)
