/-! when it would be done, when it would be reached -/
theorem goes_3 (f : Nat → Int32) {w : Nat → Int64} (h : w 33 = 3) : s_X11_goesOn f w = 0 := by
  unfold s_X11_goesOn s_X11_runs
  rw [if_neg (show ¬ w 33 = 1 by rw [h]; decide), if_neg (show ¬ w 33 = 2 by rw [h]; decide), if_pos rfl]
theorem ao_7 (u : Int32) (j : Int64) (k kc n nc t tc f : Nat → Int32) (x5 : Int32) (C : Nat → Int32) (x11 : Int32) : (s_X7_allowedOutput_7 u j k kc n nc t tc f x5 C x11).2.1 2 = C 2 := by
  unfold s_X7_allowedOutput_7 s_X7_allowedOutput_6 s_X7_allowedOutput_5 s_X7_allowedOutput_4
  show upd (if x11 = 0 then C else upd C 6 (C 6 + 1)) 5 x11 2 = C 2
  refine upn (by decide) ?_
  by_cases c : x11 = 0
  · rw [if_pos c]
  · rw [if_neg c]
    exact upn (by decide) rfl
theorem ao_2 (f C S T2 : Nat → Int32) (j : Int64) (k kc n nc t tc : Nat → Int32) : (s_X7_allowedOutput f C S T2 j k kc n nc t tc).2.1 2 = C 2 := by
  unfold s_X7_allowedOutput
  by_cases c : C 4 = 0
  · rw [if_pos c]
    unfold s_X7_allowedOutput_10 s_X7_allowedOutput_9 s_X7_allowedOutput_8
    exact ao_7 _ _ _ _ _ _ _ _ _ _ _ _
  · rw [if_neg c]
    show upd C 5 0 2 = C 2
    exact upn (by decide) rfl
theorem dn_hi (S : Nat → Nat → Int32) (z : kvS) (c : 1000 < z.1) : ∃ r, b_X10_doneIn_L26 (S 1) (S 2) (S 3) (S 4) (S 10) z = .inr r ∧ r.1 = -10000 := by
  unfold b_X10_doneIn_L26
  rw [if_pos c]
  exact ⟨_, rfl, rfl⟩
theorem dn_no (S : Nat → Nat → Int32) (z : kvS) (c : ¬ 1000 < z.1) (g : s_X4_goesOn z.2.2.1 = 0) : ∃ r, b_X10_doneIn_L26 (S 1) (S 2) (S 3) (S 4) (S 10) z = .inr r ∧ r.1 = -10000 := by
  unfold b_X10_doneIn_L26
  rw [if_neg c, if_pos g]
  exact ⟨_, rfl, rfl⟩
theorem dn_yes (S : Nat → Nat → Int32) (z : kvS) (c : ¬ 1000 < z.1) (g : ¬ s_X4_goesOn z.2.2.1 = 0) (h3 : (mnR (vS S z) z.2.2.2.2.2.2.2.2.2.2.2.2.1).2.1 0 = 3) : ∃ r, b_X10_doneIn_L26 (S 1) (S 2) (S 3) (S 4) (S 10) z = .inr r ∧ r.1 = z.1 := by
  unfold b_X10_doneIn_L26 b_X10_doneIn_t_1
  rw [if_neg c, if_neg g, vS_let S z, if_pos h3]
  exact ⟨_, rfl, rfl⟩
theorem dn_go (S : Nat → Nat → Int32) (z : kvS) (c : ¬ 1000 < z.1) (g : ¬ s_X4_goesOn z.2.2.1 = 0) (h3 : ¬ (mnR (vS S z) z.2.2.2.2.2.2.2.2.2.2.2.2.1).2.1 0 = 3) : b_X10_doneIn_L26 (S 1) (S 2) (S 3) (S 4) (S 10) z = .inl ((z.1 + 1), (mnR (vS S z) z.2.2.2.2.2.2.2.2.2.2.2.2.1).1, (mnR (vS S z) z.2.2.2.2.2.2.2.2.2.2.2.2.1).2.1, (mnR (vS S z) z.2.2.2.2.2.2.2.2.2.2.2.2.1).2.2.1, (mnR (vS S z) z.2.2.2.2.2.2.2.2.2.2.2.2.1).2.2.2.2.2.2.2.2.2.2.2.2.1, (mnR (vS S z) z.2.2.2.2.2.2.2.2.2.2.2.2.1).2.2.2.2.2.2.2.2.2.2.2.2.2.1, (mnR (vS S z) z.2.2.2.2.2.2.2.2.2.2.2.2.1).2.2.2.2.2.2.2.2.2.2.2.2.2.2.1, (mnR (vS S z) z.2.2.2.2.2.2.2.2.2.2.2.2.1).2.2.2.2.2.2.2.2.2.2.2.2.2.2.2.1, (mnR (vS S z) z.2.2.2.2.2.2.2.2.2.2.2.2.1).2.2.2.2.2.2.2.2.2.2.2.2.2.2.2.2.1, (mnR (vS S z) z.2.2.2.2.2.2.2.2.2.2.2.2.1).2.2.2.2.2.2.2.2.2.2.2.2.2.2.2.2.2.1, (mnR (vS S z) z.2.2.2.2.2.2.2.2.2.2.2.2.1).2.2.2.2.2.2.2.2.2.2.2.2.2.2.2.2.2.2.1, (mnR (vS S z) z.2.2.2.2.2.2.2.2.2.2.2.2.1).2.2.2.2.2.2.2.2.2.2.2.2.2.2.2.2.2.2.2, (mnR (vS S z) z.2.2.2.2.2.2.2.2.2.2.2.2.1).2.2.2.1, (mnR (vS S z) z.2.2.2.2.2.2.2.2.2.2.2.2.1).2.2.2.2.1, (mnR (vS S z) z.2.2.2.2.2.2.2.2.2.2.2.2.1).2.2.2.2.2.1, (mnR (vS S z) z.2.2.2.2.2.2.2.2.2.2.2.2.1).2.2.2.2.2.2.1, (mnR (vS S z) z.2.2.2.2.2.2.2.2.2.2.2.2.1).2.2.2.2.2.2.2.1, (mnR (vS S z) z.2.2.2.2.2.2.2.2.2.2.2.2.1).2.2.2.2.2.2.2.2.1, (mnR (vS S z) z.2.2.2.2.2.2.2.2.2.2.2.2.1).2.2.2.2.2.2.2.2.2.1, (mnR (vS S z) z.2.2.2.2.2.2.2.2.2.2.2.2.1).2.2.2.2.2.2.2.2.2.2.1, (mnR (vS S z) z.2.2.2.2.2.2.2.2.2.2.2.2.1).2.2.2.2.2.2.2.2.2.2.2.1) := by
  unfold b_X10_doneIn_L26 b_X10_doneIn_t_1
  rw [if_neg c, if_neg g, vS_let S z, if_neg h3]
theorem dn_loop {T : Int} {S : Nat → Nat → Int32} {z0 : kvS} {w0 : Nat → Int64} {f : Nat → Int32} (hT : 0 ≤ T ∧ T ≤ 20000) (h : kRel T (vS S z0) z0.2.2.2.2.2.2.2.2.2.2.2.2.1 w0) (hn : kRn 0 w0) (hz : z0.1 = 1) (h3 : ¬ w0 33 = 3) : (kLoop default (b_X10_doneIn_L26 (S 1) (S 2) (S 3) (S 4) (S 10)) ((1001 - Int32.toInt 1).toNat + 1) z0).1 = (if (kLoop default (b_X11_doneIn_L24 f) ((Int32.toInt 1000 - Int32.toInt 0).toNat + 1) (0, w0)).2 33 = 3 then (kLoop default (b_X11_doneIn_L24 f) ((Int32.toInt 1000 - Int32.toInt 0).toNat + 1) (0, w0)).1 else -10000) := by
  have e1 : (1001 - Int32.toInt 1).toNat + 1 = 1000 + 1 := by decide
  have e2 : (Int32.toInt 1000 - Int32.toInt 0).toNat + 1 = 1000 + 1 := by decide
  rw [e1, e2]
  refine kLock (b := b_X10_doneIn_L26 (S 1) (S 2) (S 3) (S 4) (S 10)) (b2 := b_X11_doneIn_L24 f) (d := default) (d2 := default) 1000 (fun i z y => z.1 = nI (i + 1) ∧ y.1 = nI i ∧ kRel (T + (i : Int)) (vS S z) z.2.2.2.2.2.2.2.2.2.2.2.2.1 y.2 ∧ kRn 0 y.2 ∧ ¬ y.2 33 = 3) (fun r r2 => r.1 = (if r2.2 33 = 3 then r2.1 else -10000)) (fun i z y hi hq => ?_) (1000 + 1) (1000 + 1) 0 z0 (0, w0) (by decide) (by decide) (by decide) ⟨hz.trans rfl, rfl, by rw [show T + ((0 : Nat) : Int) = T by omega]; exact h, hn, h3⟩
  obtain ⟨q1, q2, q3, q4, q5⟩ := hq
  by_cases ci : i = 1000
  · subst ci
    obtain ⟨r, r1, r2⟩ := dn_hi S z (by rw [q1]; decide)
    refine Or.inl ⟨r, (y.1, y.2), r1, ?_, ?_⟩
    · unfold b_X11_doneIn_L24
      rw [if_pos (by rw [q2]; decide)]
    · rw [r2, if_neg q5]
  · have hlt : i < 1000 := by omega
    have c1 : ¬ 1000 < z.1 := by
      rw [q1]
      exact nI_nlt (a := 1000) (b := i + 1) (by omega) (by omega)
    have c2 : ¬ 1000 ≤ y.1 := by
      rw [q2]
      exact nI_ge (a := i) (b := 1000) hlt (by decide)
    have eg : s_X11_goesOn (upd f 7 0) y.2 = s_X4_goesOn z.2.2.1 := by
      have := q3.goes (upd f 7 0)
      rw [vS_5] at this
      exact this
    by_cases g : s_X4_goesOn z.2.2.1 = 0
    · obtain ⟨r, r1, r2⟩ := dn_no S z c1 g
      refine Or.inl ⟨r, (y.1, y.2), r1, ?_, ?_⟩
      · unfold b_X11_doneIn_L24
        rw [if_neg c2, if_pos (eg.trans g)]
      · rw [r2, if_neg q5]
    · have g2 : ¬ s_X11_goesOn (upd f 7 0) y.2 = 0 := by rw [eg]; exact g
      have eb2 : b_X11_doneIn_L24 f y = .inl (y.1 + 1, s_X11_minute (upd f 7 0) y.2) := by
        unfold b_X11_doneIn_L24 b_X11_doneIn_1
        rw [if_neg c2, if_neg g2]
      obtain ⟨k1, k2⟩ := vS_step q3 q4 ⟨by omega, by omega⟩ (upd f 7 0) (z.1 + 1)
      have hy := dn_yes S z c1 g
      have hgo := dn_go S z c1 g
      generalize mnR (vS S z) z.2.2.2.2.2.2.2.2.2.2.2.2.1 = r at k1 hy hgo
      obtain ⟨x0, x5, x6, xJ, x19, x22, x20, x23, x21, x24, x9, x25, x11, x15, x12, x16, x13, x17, x14, x18⟩ := r
      generalize s_X11_minute (upd f 7 0) y.2 = w9 at eb2 k1 k2
      have p33 : kE (w9 33) (x5 0) 0 4 := by
        have q := k1.e 33 (by decide)
        unfold rS at q
        have e5 : vS S (z.1 + 1, (x0, x5, x6, xJ, x19, x22, x20, x23, x21, x24, x9, x25, x11, x15, x12, x16, x13, x17, x14, x18).1, (x0, x5, x6, xJ, x19, x22, x20, x23, x21, x24, x9, x25, x11, x15, x12, x16, x13, x17, x14, x18).2.1, (x0, x5, x6, xJ, x19, x22, x20, x23, x21, x24, x9, x25, x11, x15, x12, x16, x13, x17, x14, x18).2.2.1, (x0, x5, x6, xJ, x19, x22, x20, x23, x21, x24, x9, x25, x11, x15, x12, x16, x13, x17, x14, x18).2.2.2.2.2.2.2.2.2.2.2.2.1, (x0, x5, x6, xJ, x19, x22, x20, x23, x21, x24, x9, x25, x11, x15, x12, x16, x13, x17, x14, x18).2.2.2.2.2.2.2.2.2.2.2.2.2.1, (x0, x5, x6, xJ, x19, x22, x20, x23, x21, x24, x9, x25, x11, x15, x12, x16, x13, x17, x14, x18).2.2.2.2.2.2.2.2.2.2.2.2.2.2.1, (x0, x5, x6, xJ, x19, x22, x20, x23, x21, x24, x9, x25, x11, x15, x12, x16, x13, x17, x14, x18).2.2.2.2.2.2.2.2.2.2.2.2.2.2.2.1, (x0, x5, x6, xJ, x19, x22, x20, x23, x21, x24, x9, x25, x11, x15, x12, x16, x13, x17, x14, x18).2.2.2.2.2.2.2.2.2.2.2.2.2.2.2.2.1, (x0, x5, x6, xJ, x19, x22, x20, x23, x21, x24, x9, x25, x11, x15, x12, x16, x13, x17, x14, x18).2.2.2.2.2.2.2.2.2.2.2.2.2.2.2.2.2.1, (x0, x5, x6, xJ, x19, x22, x20, x23, x21, x24, x9, x25, x11, x15, x12, x16, x13, x17, x14, x18).2.2.2.2.2.2.2.2.2.2.2.2.2.2.2.2.2.2.1, (x0, x5, x6, xJ, x19, x22, x20, x23, x21, x24, x9, x25, x11, x15, x12, x16, x13, x17, x14, x18).2.2.2.2.2.2.2.2.2.2.2.2.2.2.2.2.2.2.2, (x0, x5, x6, xJ, x19, x22, x20, x23, x21, x24, x9, x25, x11, x15, x12, x16, x13, x17, x14, x18).2.2.2.1, (x0, x5, x6, xJ, x19, x22, x20, x23, x21, x24, x9, x25, x11, x15, x12, x16, x13, x17, x14, x18).2.2.2.2.1, (x0, x5, x6, xJ, x19, x22, x20, x23, x21, x24, x9, x25, x11, x15, x12, x16, x13, x17, x14, x18).2.2.2.2.2.1, (x0, x5, x6, xJ, x19, x22, x20, x23, x21, x24, x9, x25, x11, x15, x12, x16, x13, x17, x14, x18).2.2.2.2.2.2.1, (x0, x5, x6, xJ, x19, x22, x20, x23, x21, x24, x9, x25, x11, x15, x12, x16, x13, x17, x14, x18).2.2.2.2.2.2.2.1, (x0, x5, x6, xJ, x19, x22, x20, x23, x21, x24, x9, x25, x11, x15, x12, x16, x13, x17, x14, x18).2.2.2.2.2.2.2.2.1, (x0, x5, x6, xJ, x19, x22, x20, x23, x21, x24, x9, x25, x11, x15, x12, x16, x13, x17, x14, x18).2.2.2.2.2.2.2.2.2.1, (x0, x5, x6, xJ, x19, x22, x20, x23, x21, x24, x9, x25, x11, x15, x12, x16, x13, x17, x14, x18).2.2.2.2.2.2.2.2.2.2.1, (x0, x5, x6, xJ, x19, x22, x20, x23, x21, x24, x9, x25, x11, x15, x12, x16, x13, x17, x14, x18).2.2.2.2.2.2.2.2.2.2.2.1) 5 = x5 := vS_5
        have q' : kE (w9 33) (vS S (z.1 + 1, (x0, x5, x6, xJ, x19, x22, x20, x23, x21, x24, x9, x25, x11, x15, x12, x16, x13, x17, x14, x18).1, (x0, x5, x6, xJ, x19, x22, x20, x23, x21, x24, x9, x25, x11, x15, x12, x16, x13, x17, x14, x18).2.1, (x0, x5, x6, xJ, x19, x22, x20, x23, x21, x24, x9, x25, x11, x15, x12, x16, x13, x17, x14, x18).2.2.1, (x0, x5, x6, xJ, x19, x22, x20, x23, x21, x24, x9, x25, x11, x15, x12, x16, x13, x17, x14, x18).2.2.2.2.2.2.2.2.2.2.2.2.1, (x0, x5, x6, xJ, x19, x22, x20, x23, x21, x24, x9, x25, x11, x15, x12, x16, x13, x17, x14, x18).2.2.2.2.2.2.2.2.2.2.2.2.2.1, (x0, x5, x6, xJ, x19, x22, x20, x23, x21, x24, x9, x25, x11, x15, x12, x16, x13, x17, x14, x18).2.2.2.2.2.2.2.2.2.2.2.2.2.2.1, (x0, x5, x6, xJ, x19, x22, x20, x23, x21, x24, x9, x25, x11, x15, x12, x16, x13, x17, x14, x18).2.2.2.2.2.2.2.2.2.2.2.2.2.2.2.1, (x0, x5, x6, xJ, x19, x22, x20, x23, x21, x24, x9, x25, x11, x15, x12, x16, x13, x17, x14, x18).2.2.2.2.2.2.2.2.2.2.2.2.2.2.2.2.1, (x0, x5, x6, xJ, x19, x22, x20, x23, x21, x24, x9, x25, x11, x15, x12, x16, x13, x17, x14, x18).2.2.2.2.2.2.2.2.2.2.2.2.2.2.2.2.2.1, (x0, x5, x6, xJ, x19, x22, x20, x23, x21, x24, x9, x25, x11, x15, x12, x16, x13, x17, x14, x18).2.2.2.2.2.2.2.2.2.2.2.2.2.2.2.2.2.2.1, (x0, x5, x6, xJ, x19, x22, x20, x23, x21, x24, x9, x25, x11, x15, x12, x16, x13, x17, x14, x18).2.2.2.2.2.2.2.2.2.2.2.2.2.2.2.2.2.2.2, (x0, x5, x6, xJ, x19, x22, x20, x23, x21, x24, x9, x25, x11, x15, x12, x16, x13, x17, x14, x18).2.2.2.1, (x0, x5, x6, xJ, x19, x22, x20, x23, x21, x24, x9, x25, x11, x15, x12, x16, x13, x17, x14, x18).2.2.2.2.1, (x0, x5, x6, xJ, x19, x22, x20, x23, x21, x24, x9, x25, x11, x15, x12, x16, x13, x17, x14, x18).2.2.2.2.2.1, (x0, x5, x6, xJ, x19, x22, x20, x23, x21, x24, x9, x25, x11, x15, x12, x16, x13, x17, x14, x18).2.2.2.2.2.2.1, (x0, x5, x6, xJ, x19, x22, x20, x23, x21, x24, x9, x25, x11, x15, x12, x16, x13, x17, x14, x18).2.2.2.2.2.2.2.1, (x0, x5, x6, xJ, x19, x22, x20, x23, x21, x24, x9, x25, x11, x15, x12, x16, x13, x17, x14, x18).2.2.2.2.2.2.2.2.1, (x0, x5, x6, xJ, x19, x22, x20, x23, x21, x24, x9, x25, x11, x15, x12, x16, x13, x17, x14, x18).2.2.2.2.2.2.2.2.2.1, (x0, x5, x6, xJ, x19, x22, x20, x23, x21, x24, x9, x25, x11, x15, x12, x16, x13, x17, x14, x18).2.2.2.2.2.2.2.2.2.2.1, (x0, x5, x6, xJ, x19, x22, x20, x23, x21, x24, x9, x25, x11, x15, x12, x16, x13, x17, x14, x18).2.2.2.2.2.2.2.2.2.2.2.1) 5 0) 0 4 := q
        rw [e5] at q'
        exact q'
      have e3 : kE 3 3 3 3 := kE.lit (by decide) (by decide)
      have z33 : (w9 33 = 3) = (x5 0 = 3) := kE.eqq p33 e3
      by_cases c3 : x5 0 = 3
      · obtain ⟨r, r1, r2⟩ := hy c3
        have w3 : w9 33 = 3 := pT z33 c3
        refine Or.inr (Or.inl ⟨hlt, r, (y.1 + 1, w9), (y.1 + 1, w9), r1, eb2, ?_, ?_⟩)
        · unfold b_X11_doneIn_L24
          by_cases c4 : 1000 ≤ y.1 + 1
          · rw [if_pos c4]
          · rw [if_neg c4, if_pos (goes_3 (upd f 7 0) w3)]
        · show r.1 = (if w9 33 = 3 then y.1 + 1 else -10000)
          rw [r2, if_pos w3, q1, q2, nI_succ]
      · refine Or.inr (Or.inr ⟨hlt, (z.1 + 1, x0, x5, x6, x11, x15, x12, x16, x13, x17, x14, x18, xJ, x19, x22, x20, x23, x21, x24, x9, x25), (y.1 + 1, w9), hgo c3, eb2, ?_, ?_, ?_, k2, pTn z33 c3⟩)
        · show z.1 + 1 = _
          rw [q1, ← nI_succ]
        · show y.1 + 1 = _
          rw [q2, nI_succ]
        · rw [show T + ((i + 1 : Nat) : Int) = T + (i : Int) + 1 by omega]
          exact k1
theorem ok_doneIn {l : Launch} (hl0 : l.stackTraces = false) (D : va_G) (cI cJ cO : ClassId) (z : zT) {X : kXS} {Y : kTS} {M : kMS} (b o : Nat) (u : Nat → Nat) (fo : Nat → Int64) (h : rR X Y M) : lStep l D cI cJ cO z yL_doneIn cL_doneIn 3 [(0, 8, 11, 24)] [.ref b, .ref o] b o u X Y fo (a_doneIn M) ((q_doneIn M).1 7) (fun X2 Y2 => rR X2 Y2 (q_doneIn M)) := by
  obtain ⟨T, hT1, hT2, hr, hn⟩ := id h.1
  have er := hr.runs (upd M.1 7 0)
  have e32 : kE (M.2.1 32) (X.1 0 0) 0 T := hr.e 32 (by decide)
  by_cases v : s_X4_isRunning (X.1 5) = 0
  · refine lSt_t (by decide) (by decide) (w_doneIn_1 l hl0 D cI cJ cO z b o u X Y fo v) rfl (by decide) ?_ h
    unfold q_doneIn s_X11_doneIn s_X11_doneIn_2 s_X11_refuse
    rw [if_pos (er.trans v)]
  · have c1 : ¬ s_X11_runs (upd M.1 7 0) M.2.1 = 0 := by rw [er]; exact v
    have h3 : ¬ M.2.1 33 = 3 := fun y => by
      rcases hr.run v with y1 | y1
      · rw [y] at y1; exact absurd y1 (by decide)
      · rw [y] at y1; exact absurd y1 (by decide)
    have hT0 : 0 ≤ T := Int.le_trans e32.2.1 e32.2.2
    have L := dn_loop (T := T) (S := X.1) (z0 := (1, X.1 0, X.1 5, X.1 6, X.1 11, X.1 15, X.1 12, X.1 16, X.1 13, X.1 17, X.1 14, X.1 18, X.2.1, X.1 19, X.1 22, X.1 20, X.1 23, X.1 21, X.1 24, X.1 9, X.1 25)) (w0 := M.2.1) (f := M.1) ⟨hT0, hT1⟩ (vS_self 1 hr) hn rfl h3
    have te := te_eq (upd M.1 7 0) (upd M.1 7 0) M.2.1 M.2.2.2.1 (kLoop default (b_X11_doneIn_L24 M.1) ((Int32.toInt 1000 - Int32.toInt 0).toNat + 1) (0, M.2.1)).2
    have hR : r_doneIn_0 X = (kLoop default (b_X10_doneIn_L26 (X.1 1) (X.1 2) (X.1 3) (X.1 4) (X.1 10)) ((1001 - Int32.toInt 1).toNat + 1) (1, X.1 0, X.1 5, X.1 6, X.1 11, X.1 15, X.1 12, X.1 16, X.1 13, X.1 17, X.1 14, X.1 18, X.2.1, X.1 19, X.1 22, X.1 20, X.1 23, X.1 21, X.1 24, X.1 9, X.1 25)).1 := by
      unfold r_doneIn_0 s_X10_doneIn
      rfl
    rw [← hR] at L
    have hq : s_X11_doneIn M.1 M.2.1 M.2.2.2.1 = ((if (if (kLoop default (b_X11_doneIn_L24 M.1) ((Int32.toInt 1000 - Int32.toInt 0).toNat + 1) (0, M.2.1)).2 33 = 3 then (1 : Int32) else 0) = 0 then -10000 else (kLoop default (b_X11_doneIn_L24 M.1) ((Int32.toInt 1000 - Int32.toInt 0).toNat + 1) (0, M.2.1)).1), upd M.1 7 0, s_X11_endTrial (upd M.1 7 0) (s_X11_beginTrial (upd M.1 7 0) M.2.1 M.2.2.2.1) (kLoop default (b_X11_doneIn_L24 M.1) ((Int32.toInt 1000 - Int32.toInt 0).toNat + 1) (0, M.2.1)).2, s_X11_beginTrial (upd M.1 7 0) M.2.1 M.2.2.2.1) := by
      unfold s_X11_doneIn s_X11_doneIn_7 s_X11_doneIn_6 s_X11_doneIn_5 s_X11_doneIn_4 s_X11_doneIn_3
      rw [if_neg c1]
    generalize (kLoop default (b_X11_doneIn_L24 M.1) ((Int32.toInt 1000 - Int32.toInt 0).toNat + 1) (0, M.2.1)) = r2 at L te hq
    refine lSt_q (F := 7) (L := 157) (by decide) (by decide) (w_doneIn_0 l hl0 D cI cJ cO z b o u X Y fo h.1.sb v) (by unfold q_doneIn; rw [hq]) te rfl rfl rfl rfl rfl ?_ h
    refine congrArg Int32.toInt64 ?_
    have a2 : a_doneIn M = (if (if r2.2 33 = 3 then (1 : Int32) else 0) = 0 then -10000 else r2.1) := by unfold a_doneIn; rw [hq]
    rw [L, a2]
    by_cases c : r2.2 33 = 3
    · rw [if_pos c, if_pos c, if_neg (by decide)]
    · rw [if_neg c, if_neg c, if_pos rfl]
/-- a minute without a program: the run stays, and nothing else depends on it -/
theorem mnR_idle (S : Nat → Nat → Int32) (j : Int64) (G : Nat → Int32) (h1 : s_X4_goesOn (S 5) = 0) (h2 : s_X4_goesOn G = 0) : mnR (va_up S 5 G) j = ((mnR S j).1, G, (mnR S j).2.2) ∧ (mnR S j).2.1 = S 5 ∧ (mnR S j).2.2.1 2 = S 6 2 := by
  generalize hr2 : s_X7_allowedOutput (S 0) (S 6) (S 1) (S 2) j (S 19) (S 22) (S 20) (S 23) (S 21) (S 24) = r2
  generalize hmc : s_X7_moistureDemand (S 0) r2.2.1 (S 1) (S 3) ((-r2.1 * s_X10_at 12 (S 1) 5) / 10) = mc
  generalize hl1 : s_X7_lost (S 0) (S 1) r2.2.1 (s_X10_at 12 (S 1) 9 - r2.2.1 0) = l1
  generalize hl2 : s_X7_lost (S 0) (S 1) r2.2.1 (s_X10_at 12 (S 1) 10 - r2.2.1 1) = l2
  generalize hCH : s_X1_change r2.2.1 (r2.1 + l1) ((-r2.1 * s_X10_at 12 (S 1) 5) / 10 + mc + l2) = CH
  generalize hcnt : s_X1_count CH r2.1 mc = cnt
  generalize hh9 : s_X3_add 60 (S 9) (S 25) (cnt 0) = h9
  have e0 : va_up S 5 G 0 = S 0 := va_n (by decide)
  have e1 : va_up S 5 G 1 = S 1 := va_n (by decide)
  have e2 : va_up S 5 G 2 = S 2 := va_n (by decide)
  have e3 : va_up S 5 G 3 = S 3 := va_n (by decide)
  have e4 : va_up S 5 G 4 = S 4 := va_n (by decide)
  have e5 : va_up S 5 G 5 = G := va_s
  have e6 : va_up S 5 G 6 = S 6 := va_n (by decide)
  have ek : ∀ a : Nat, a ≠ 5 → va_up S 5 G a = S a := fun a ha => va_n ha
  have a1 : mnR S j = (upd (S 0) 0 (S 0 0 + 1), S 5, cnt, r2.2.2.1, r2.2.2.2.1, r2.2.2.2.2.1, r2.2.2.2.2.2.1, r2.2.2.2.2.2.2.1, r2.2.2.2.2.2.2.2.1, r2.2.2.2.2.2.2.2.2, h9.1, h9.2, S 11, S 15, S 12, S 16, S 13, S 17, S 14, S 18) := by
    refine mnR_eq (r1 := (S 5, S 6)) (r4 := (S 5, r2.2.2.1, r2.2.2.2.1, r2.2.2.2.2.1, r2.2.2.2.2.2.1, r2.2.2.2.2.2.2.1, r2.2.2.2.2.2.2.2.1, r2.2.2.2.2.2.2.2.2, S 11, S 15, S 12, S 16, S 13, S 17, S 14, S 18)) ?_ hr2 hmc hl1 hl2 hCH hcnt hh9 ?_
    · unfold s_X7_moveSetPoints
      rw [if_pos h1]
    · unfold s_X7_followProgram
      rw [if_pos h1]
  have a2 : mnR (va_up S 5 G) j = (upd (S 0) 0 (S 0 0 + 1), G, cnt, r2.2.2.1, r2.2.2.2.1, r2.2.2.2.2.1, r2.2.2.2.2.2.1, r2.2.2.2.2.2.2.1, r2.2.2.2.2.2.2.2.1, r2.2.2.2.2.2.2.2.2, h9.1, h9.2, S 11, S 15, S 12, S 16, S 13, S 17, S 14, S 18) := by
    have q := mnR_eq (S := va_up S 5 G) (j := j) (r1 := (G, S 6)) (r2 := r2) (mc := mc) (l1 := l1) (l2 := l2) (CH := CH) (cnt := cnt) (h9 := h9) (r4 := (G, r2.2.2.1, r2.2.2.2.1, r2.2.2.2.2.1, r2.2.2.2.2.2.1, r2.2.2.2.2.2.2.1, r2.2.2.2.2.2.2.2.1, r2.2.2.2.2.2.2.2.2, S 11, S 15, S 12, S 16, S 13, S 17, S 14, S 18)) (by
      rw [e5, e6]
      unfold s_X7_moveSetPoints
      rw [if_pos h2]) (by rw [e0, e1, e2, ek 19 (by decide), ek 22 (by decide), ek 20 (by decide), ek 23 (by decide), ek 21 (by decide), ek 24 (by decide)]; exact hr2) (by rw [e0, e1, e3]; exact hmc) (by rw [e0, e1]; exact hl1) (by rw [e0, e1]; exact hl2) (by rw [e1]; exact hCH) hcnt (by rw [ek 9 (by decide), ek 25 (by decide)]; exact hh9) (by
      rw [e0, e1, ek 11 (by decide), ek 15 (by decide), ek 12 (by decide), ek 16 (by decide), ek 13 (by decide), ek 17 (by decide), ek 14 (by decide), ek 18 (by decide)]
      unfold s_X7_followProgram
      rw [if_pos h2])
    rw [e0] at q
    exact q
  have c2 : cnt 2 = S 6 2 := by
    rw [← hcnt, ← hCH]
    unfold s_X1_count s_X1_count_7 s_X1_count_6 s_X1_count_5 s_X1_count_4 s_X1_count_3 s_X1_count_2 s_X1_count_1 s_X1_change
    refine upn (by decide) (upn (by decide) (upn (by decide) (upn (by decide) (upn (by decide) (upn (by decide) (upn (by decide) (upn (by decide) (upn (by decide) ?_))))))))
    rw [← hr2]
    exact ao_2 _ _ _ _ _ _ _ _ _ _ _
  rw [a1, a2]
  exact ⟨rfl, rfl, c2⟩
theorem kE.swap {a b : Int64} {x y : Int32} {p q r s : Int} (h : kE a x p q) (k : kE b y r s) (hp : -10000 ≤ p ∧ q ≤ 10000 ∧ -10000 ≤ r ∧ s ≤ 10000) : kE (s_X11_size (a - b)) (if 0 ≤ y - x then y - x else 0 - (y - x)) 0 20000 := by
  have d := (h.sub k (by omega) (by omega)).wk (c := -20000) (d := 20000) (by omega) (by omega)
  have m := d.abs (by decide)
  refine ⟨m.1.trans ?_, ?_, ?_⟩
  all_goals
    obtain ⟨_, l1, u1⟩ := h
    obtain ⟨_, l2, u2⟩ := k
    have e1 : (x - y).toInt = x.toInt - y.toInt := by rw [Int32.toInt_sub, kn_bmod (by omega) (by omega)]
    have e2 : (y - x).toInt = y.toInt - x.toInt := by rw [Int32.toInt_sub, kn_bmod (by omega) (by omega)]
    have z1 : (0 ≤ x - y) = (0 ≤ x.toInt - y.toInt) := by rw [Int32.le_iff_toInt_le, Int32.toInt_zero, e1]
    have z2 : (0 ≤ y - x) = (0 ≤ y.toInt - x.toInt) := by rw [Int32.le_iff_toInt_le, Int32.toInt_zero, e2]
    have n1 : (0 - (x - y)).toInt = -(x.toInt - y.toInt) := by rw [Int32.toInt_sub, Int32.toInt_zero, e1, kn_bmod (by omega) (by omega)]; omega
    have n2 : (0 - (y - x)).toInt = -(y.toInt - x.toInt) := by rw [Int32.toInt_sub, Int32.toInt_zero, e2, kn_bmod (by omega) (by omega)]; omega
  · by_cases c1 : 0 ≤ x - y
    · rw [if_pos c1]
      by_cases c2 : 0 ≤ y - x
      · rw [if_pos c2, e1, e2]
        have := z1 ▸ c1
        have := z2 ▸ c2
        omega
      · rw [if_neg c2, e1, n2]
        omega
    · rw [if_neg c1]
      by_cases c2 : 0 ≤ y - x
      · rw [if_pos c2, n1, e2]
        omega
      · have d1 : ¬ 0 ≤ x.toInt - y.toInt := z1 ▸ c1
        have d2 : ¬ 0 ≤ y.toInt - x.toInt := z2 ▸ c2
        omega
  · by_cases c2 : 0 ≤ y - x
    · rw [if_pos c2, e2]
      exact z2 ▸ c2
    · rw [if_neg c2, n2]
      have d2 : ¬ 0 ≤ y.toInt - x.toInt := z2 ▸ c2
      omega
  · by_cases c2 : 0 ≤ y - x
    · rw [if_pos c2, e2]
      omega
    · rw [if_neg c2, n2]
      omega
theorem rc_hi (S : Nat → Nat → Int32) (z : kvS) (c : 500 ≤ z.1) : ∃ r, b_X10_reachIn_L66 (S 1) (S 2) (S 3) (S 4) (S 10) z = .inr r ∧ r.1 = (if s_X10_at 12 (S 1) 6 < s_X1_temperatureOffset z.2.2.2.1 then -10000 else 500) := by
  unfold b_X10_reachIn_L66 b_X10_reachIn_t_1
  rw [if_pos c]
  exact ⟨_, rfl, rfl⟩
theorem rc_in (S : Nat → Nat → Int32) (z : kvS) (c : ¬ 500 ≤ z.1) (g : ¬ s_X10_at 12 (S 1) 6 < s_X1_temperatureOffset z.2.2.2.1) : ∃ r, b_X10_reachIn_L66 (S 1) (S 2) (S 3) (S 4) (S 10) z = .inr r ∧ r.1 = z.1 := by
  unfold b_X10_reachIn_L66
  rw [if_neg c, if_neg g]
  exact ⟨_, rfl, rfl⟩
theorem rc_go (S : Nat → Nat → Int32) (z : kvS) (c : ¬ 500 ≤ z.1) (g : s_X10_at 12 (S 1) 6 < s_X1_temperatureOffset z.2.2.2.1) : b_X10_reachIn_L66 (S 1) (S 2) (S 3) (S 4) (S 10) z = .inl ((z.1 + 1), (mnR (vS S z) z.2.2.2.2.2.2.2.2.2.2.2.2.1).1, (mnR (vS S z) z.2.2.2.2.2.2.2.2.2.2.2.2.1).2.1, (mnR (vS S z) z.2.2.2.2.2.2.2.2.2.2.2.2.1).2.2.1, (mnR (vS S z) z.2.2.2.2.2.2.2.2.2.2.2.2.1).2.2.2.2.2.2.2.2.2.2.2.2.1, (mnR (vS S z) z.2.2.2.2.2.2.2.2.2.2.2.2.1).2.2.2.2.2.2.2.2.2.2.2.2.2.1, (mnR (vS S z) z.2.2.2.2.2.2.2.2.2.2.2.2.1).2.2.2.2.2.2.2.2.2.2.2.2.2.2.1, (mnR (vS S z) z.2.2.2.2.2.2.2.2.2.2.2.2.1).2.2.2.2.2.2.2.2.2.2.2.2.2.2.2.1, (mnR (vS S z) z.2.2.2.2.2.2.2.2.2.2.2.2.1).2.2.2.2.2.2.2.2.2.2.2.2.2.2.2.2.1, (mnR (vS S z) z.2.2.2.2.2.2.2.2.2.2.2.2.1).2.2.2.2.2.2.2.2.2.2.2.2.2.2.2.2.2.1, (mnR (vS S z) z.2.2.2.2.2.2.2.2.2.2.2.2.1).2.2.2.2.2.2.2.2.2.2.2.2.2.2.2.2.2.2.1, (mnR (vS S z) z.2.2.2.2.2.2.2.2.2.2.2.2.1).2.2.2.2.2.2.2.2.2.2.2.2.2.2.2.2.2.2.2, (mnR (vS S z) z.2.2.2.2.2.2.2.2.2.2.2.2.1).2.2.2.1, (mnR (vS S z) z.2.2.2.2.2.2.2.2.2.2.2.2.1).2.2.2.2.1, (mnR (vS S z) z.2.2.2.2.2.2.2.2.2.2.2.2.1).2.2.2.2.2.1, (mnR (vS S z) z.2.2.2.2.2.2.2.2.2.2.2.2.1).2.2.2.2.2.2.1, (mnR (vS S z) z.2.2.2.2.2.2.2.2.2.2.2.2.1).2.2.2.2.2.2.2.1, (mnR (vS S z) z.2.2.2.2.2.2.2.2.2.2.2.2.1).2.2.2.2.2.2.2.2.1, (mnR (vS S z) z.2.2.2.2.2.2.2.2.2.2.2.2.1).2.2.2.2.2.2.2.2.2.1, (mnR (vS S z) z.2.2.2.2.2.2.2.2.2.2.2.2.1).2.2.2.2.2.2.2.2.2.2.1, (mnR (vS S z) z.2.2.2.2.2.2.2.2.2.2.2.2.1).2.2.2.2.2.2.2.2.2.2.2.1) := by
  unfold b_X10_reachIn_L66 b_X10_reachIn_t_2
  rw [if_neg c, if_pos g, vS_let S z]
theorem rc_loop {T : Int} {S : Nat → Nat → Int32} {z0 : kvS} {w0 : Nat → Int64} {f : Nat → Int32} {p0 : Int32} {G : Nat → Int32} (hT : 0 ≤ T ∧ T ≤ 20000) (hp : -400 ≤ p0.toInt ∧ p0.toInt ≤ 1800) (h : kRel T (va_up (vS S z0) 5 G) z0.2.2.2.2.2.2.2.2.2.2.2.2.1 w0) (hn : kRn 0 w0) (hz : z0.1 = 0) (hG : s_X4_goesOn G = 0) (hR : s_X4_goesOn z0.2.2.1 = 0) (h2 : z0.2.2.2.1 2 = p0) : (kLoop default (b_X10_reachIn_L66 (S 1) (S 2) (S 3) (S 4) (S 10)) ((Int32.toInt 500 - Int32.toInt 0).toNat + 1) z0).1 = (if (kLoop default (b_X11_reachIn_L49 p0 f) ((Int32.toInt 500 - Int32.toInt 0).toNat + 1) (0, w0)).2 6 < s_X11_size ((kLoop default (b_X11_reachIn_L49 p0 f) ((Int32.toInt 500 - Int32.toInt 0).toNat + 1) (0, w0)).2 12 - p0.toInt64) then -10000 else (kLoop default (b_X11_reachIn_L49 p0 f) ((Int32.toInt 500 - Int32.toInt 0).toNat + 1) (0, w0)).1) := by
  have e2 : (Int32.toInt 500 - Int32.toInt 0).toNat + 1 = 500 + 1 := by decide
  rw [e2]
  refine kLock (b := b_X10_reachIn_L66 (S 1) (S 2) (S 3) (S 4) (S 10)) (b2 := b_X11_reachIn_L49 p0 f) (d := default) (d2 := default) 500 (fun i z y => z.1 = nI i ∧ y.1 = nI i ∧ kRel (T + (i : Int)) (va_up (vS S z) 5 G) z.2.2.2.2.2.2.2.2.2.2.2.2.1 y.2 ∧ kRn 0 y.2 ∧ s_X4_goesOn z.2.2.1 = 0 ∧ z.2.2.2.1 2 = p0) (fun r r2 => r.1 = (if r2.2 6 < s_X11_size (r2.2 12 - p0.toInt64) then -10000 else r2.1)) (fun i z y hi hq => ?_) (500 + 1) (500 + 1) 0 z0 (0, w0) (by decide) (by decide) (by decide) ⟨hz, rfl, by rw [show T + ((0 : Nat) : Int) = T by omega]; exact h, hn, hR, h2⟩
  obtain ⟨q1, q2, q3, q4, q5, q6⟩ := hq
  have b6 : va_up (vS S z) 5 G 6 = z.2.2.2.1 := (va_n (by decide)).trans vS_6
  have b1 : va_up (vS S z) 5 G 1 = S 1 := (va_n (by decide)).trans (vS_lo (by decide))
  have k12 : kE (y.2 12) (z.2.2.2.1 0) (-700) 2000 := by
    have q : kE (y.2 12) (va_up (vS S z) 5 G 6 0) (-700) 2000 := q3.e 12 (by decide)
    rw [b6] at q
    exact q
  have k6 : kE (y.2 6) (S 1 6) 0 100 := by
    have q : kE (y.2 6) (va_up (vS S z) 5 G 1 6) 0 100 := q3.e 6 (by decide)
    rw [b1] at q
    exact q
  have p6 : s_X10_at 12 (S 1) 6 = S 1 6 := at12 (S 1) (k := 6) (by decide) rfl
  have kp : kE p0.toInt64 p0 (-400) 1800 := kE.up hp
  have off : kE (s_X11_size (y.2 12 - p0.toInt64)) (s_X1_temperatureOffset z.2.2.2.1) 0 20000 := by
    unfold s_X1_temperatureOffset
    rw [q6]
    exact k12.swap kp (by decide)
  have zt : (y.2 6 < s_X11_size (y.2 12 - p0.toInt64)) = (s_X10_at 12 (S 1) 6 < s_X1_temperatureOffset z.2.2.2.1) := by
    rw [p6]
    exact kE.lt k6 off
  by_cases ci : i = 500
  · subst ci
    obtain ⟨r, r1, r2⟩ := rc_hi S z (by rw [q1]; decide)
    refine Or.inl ⟨r, (y.1, y.2), r1, ?_, ?_⟩
    · unfold b_X11_reachIn_L49
      rw [if_pos (by rw [q2]; decide)]
    · show r.1 = (if y.2 6 < s_X11_size (y.2 12 - p0.toInt64) then -10000 else y.1)
      rw [r2, q2, kItes zt]
      rfl
  · have hlt : i < 500 := by omega
    have c1 : ¬ 500 ≤ z.1 := by
      rw [q1]
      exact nI_ge (a := i) (b := 500) hlt (by decide)
    have c2 : ¬ 500 ≤ y.1 := by
      rw [q2]
      exact nI_ge (a := i) (b := 500) hlt (by decide)
    by_cases g : s_X10_at 12 (S 1) 6 < s_X1_temperatureOffset z.2.2.2.1
    · have g1 : y.2 6 < s_X11_size (y.2 12 - p0.toInt64) := pT zt g
      have g2 : ¬ s_X11_size (y.2 12 - p0.toInt64) ≤ y.2 6 := fun y2 => by
        have a := Int64.lt_iff_toInt_lt.mp g1
        have b := Int64.le_iff_toInt_le.mp y2
        omega
      have eb2 : b_X11_reachIn_L49 p0 f y = .inl (y.1 + 1, s_X11_minute (upd f 7 0) y.2) := by
        unfold b_X11_reachIn_L49 b_X11_reachIn_1
        rw [if_neg c2, if_neg g2]
      have eb := rc_go S z c1 g
      have hid := mnR_idle (vS S z) z.2.2.2.2.2.2.2.2.2.2.2.2.1 G (by rw [vS_5]; exact q5) hG
      obtain ⟨k1, k2⟩ := q3.minute q4 ⟨by omega, by omega⟩ (upd f 7 0)
      rw [hid.1] at k1
      have i5 := hid.2.1
      have i6 := hid.2.2
      rw [vS_5] at i5
      rw [vS_6] at i6
      clear hid
      generalize mnR (vS S z) z.2.2.2.2.2.2.2.2.2.2.2.2.1 = r at k1 eb i5 i6
      obtain ⟨x0, x5, x6, xJ, x19, x22, x20, x23, x21, x24, x9, x25, x11, x15, x12, x16, x13, x17, x14, x18⟩ := r
      refine Or.inr (Or.inr ⟨hlt, (z.1 + 1, x0, x5, x6, x11, x15, x12, x16, x13, x17, x14, x18, xJ, x19, x22, x20, x23, x21, x24, x9, x25), (y.1 + 1, s_X11_minute (upd f 7 0) y.2), eb, eb2, ?_, ?_, ?_, k2, ?_, ?_⟩)
      · show z.1 + 1 = _
        rw [q1, nI_succ]
      · show y.1 + 1 = _
        rw [q2, nI_succ]
      · rw [show T + ((i + 1 : Nat) : Int) = T + (i : Int) + 1 by omega]
        refine k1.cgA (fun a ha => ?_)
        exact
          match a, ha with
          | 0, _ => ((va_n (show (0 : Nat) ≠ 5 by decide)).trans vS_0).trans (mnS_0 (S := va_up (vS S z) 5 G) (r := (x0, G, x6, xJ, x19, x22, x20, x23, x21, x24, x9, x25, x11, x15, x12, x16, x13, x17, x14, x18))).symm
          | 1, _ => ((va_n (show (1 : Nat) ≠ 5 by decide)).trans (vS_lo (by decide))).trans (((va_n (show (1 : Nat) ≠ 5 by decide)).trans (vS_lo (by decide))).symm.trans (mnS_lo (by decide)).symm)
          | 2, _ => ((va_n (show (2 : Nat) ≠ 5 by decide)).trans (vS_lo (by decide))).trans (((va_n (show (2 : Nat) ≠ 5 by decide)).trans (vS_lo (by decide))).symm.trans (mnS_lo (by decide)).symm)
          | 3, _ => ((va_n (show (3 : Nat) ≠ 5 by decide)).trans (vS_lo (by decide))).trans (((va_n (show (3 : Nat) ≠ 5 by decide)).trans (vS_lo (by decide))).symm.trans (mnS_lo (by decide)).symm)
          | 4, _ => ((va_n (show (4 : Nat) ≠ 5 by decide)).trans (vS_lo (by decide))).trans (((va_n (show (4 : Nat) ≠ 5 by decide)).trans (vS_lo (by decide))).symm.trans (mnS_lo (by decide)).symm)
          | 5, _ => va_s.trans (mnS_5 (S := va_up (vS S z) 5 G) (r := (x0, G, x6, xJ, x19, x22, x20, x23, x21, x24, x9, x25, x11, x15, x12, x16, x13, x17, x14, x18))).symm
          | 6, _ => ((va_n (show (6 : Nat) ≠ 5 by decide)).trans vS_6).trans (mnS_6 (S := va_up (vS S z) 5 G) (r := (x0, G, x6, xJ, x19, x22, x20, x23, x21, x24, x9, x25, x11, x15, x12, x16, x13, x17, x14, x18))).symm
          | 7, _ => ((va_n (show (7 : Nat) ≠ 5 by decide)).trans (vS_lo (by decide))).trans (((va_n (show (7 : Nat) ≠ 5 by decide)).trans (vS_lo (by decide))).symm.trans (mnS_lo (by decide)).symm)
          | 8, _ => ((va_n (show (8 : Nat) ≠ 5 by decide)).trans (vS_lo (by decide))).trans (((va_n (show (8 : Nat) ≠ 5 by decide)).trans (vS_lo (by decide))).symm.trans (mnS_lo (by decide)).symm)
          | 9, _ => ((va_n (show (9 : Nat) ≠ 5 by decide)).trans vS_9).trans (mnS_9 (S := va_up (vS S z) 5 G) (r := (x0, G, x6, xJ, x19, x22, x20, x23, x21, x24, x9, x25, x11, x15, x12, x16, x13, x17, x14, x18))).symm
          | 10, _ => ((va_n (show (10 : Nat) ≠ 5 by decide)).trans (vS_lo (by decide))).trans (((va_n (show (10 : Nat) ≠ 5 by decide)).trans (vS_lo (by decide))).symm.trans (mnS_lo (by decide)).symm)
          | 11, _ => ((va_n (show (11 : Nat) ≠ 5 by decide)).trans vS_11).trans (mnS_11 (S := va_up (vS S z) 5 G) (r := (x0, G, x6, xJ, x19, x22, x20, x23, x21, x24, x9, x25, x11, x15, x12, x16, x13, x17, x14, x18))).symm
          | 12, _ => ((va_n (show (12 : Nat) ≠ 5 by decide)).trans vS_12).trans (mnS_12 (S := va_up (vS S z) 5 G) (r := (x0, G, x6, xJ, x19, x22, x20, x23, x21, x24, x9, x25, x11, x15, x12, x16, x13, x17, x14, x18))).symm
          | 13, _ => ((va_n (show (13 : Nat) ≠ 5 by decide)).trans vS_13).trans (mnS_13 (S := va_up (vS S z) 5 G) (r := (x0, G, x6, xJ, x19, x22, x20, x23, x21, x24, x9, x25, x11, x15, x12, x16, x13, x17, x14, x18))).symm
          | 14, _ => ((va_n (show (14 : Nat) ≠ 5 by decide)).trans vS_14).trans (mnS_14 (S := va_up (vS S z) 5 G) (r := (x0, G, x6, xJ, x19, x22, x20, x23, x21, x24, x9, x25, x11, x15, x12, x16, x13, x17, x14, x18))).symm
          | 15, _ => ((va_n (show (15 : Nat) ≠ 5 by decide)).trans vS_15).trans (mnS_15 (S := va_up (vS S z) 5 G) (r := (x0, G, x6, xJ, x19, x22, x20, x23, x21, x24, x9, x25, x11, x15, x12, x16, x13, x17, x14, x18))).symm
          | 16, _ => ((va_n (show (16 : Nat) ≠ 5 by decide)).trans vS_16).trans (mnS_16 (S := va_up (vS S z) 5 G) (r := (x0, G, x6, xJ, x19, x22, x20, x23, x21, x24, x9, x25, x11, x15, x12, x16, x13, x17, x14, x18))).symm
          | 17, _ => ((va_n (show (17 : Nat) ≠ 5 by decide)).trans vS_17).trans (mnS_17 (S := va_up (vS S z) 5 G) (r := (x0, G, x6, xJ, x19, x22, x20, x23, x21, x24, x9, x25, x11, x15, x12, x16, x13, x17, x14, x18))).symm
          | 18, _ => ((va_n (show (18 : Nat) ≠ 5 by decide)).trans vS_18).trans (mnS_18 (S := va_up (vS S z) 5 G) (r := (x0, G, x6, xJ, x19, x22, x20, x23, x21, x24, x9, x25, x11, x15, x12, x16, x13, x17, x14, x18))).symm
          | 19, _ => ((va_n (show (19 : Nat) ≠ 5 by decide)).trans vS_19).trans (mnS_19 (S := va_up (vS S z) 5 G) (r := (x0, G, x6, xJ, x19, x22, x20, x23, x21, x24, x9, x25, x11, x15, x12, x16, x13, x17, x14, x18))).symm
          | 20, _ => ((va_n (show (20 : Nat) ≠ 5 by decide)).trans vS_20).trans (mnS_20 (S := va_up (vS S z) 5 G) (r := (x0, G, x6, xJ, x19, x22, x20, x23, x21, x24, x9, x25, x11, x15, x12, x16, x13, x17, x14, x18))).symm
          | 21, _ => ((va_n (show (21 : Nat) ≠ 5 by decide)).trans vS_21).trans (mnS_21 (S := va_up (vS S z) 5 G) (r := (x0, G, x6, xJ, x19, x22, x20, x23, x21, x24, x9, x25, x11, x15, x12, x16, x13, x17, x14, x18))).symm
          | 22, _ => ((va_n (show (22 : Nat) ≠ 5 by decide)).trans vS_22).trans (mnS_22 (S := va_up (vS S z) 5 G) (r := (x0, G, x6, xJ, x19, x22, x20, x23, x21, x24, x9, x25, x11, x15, x12, x16, x13, x17, x14, x18))).symm
          | 23, _ => ((va_n (show (23 : Nat) ≠ 5 by decide)).trans vS_23).trans (mnS_23 (S := va_up (vS S z) 5 G) (r := (x0, G, x6, xJ, x19, x22, x20, x23, x21, x24, x9, x25, x11, x15, x12, x16, x13, x17, x14, x18))).symm
          | 24, _ => ((va_n (show (24 : Nat) ≠ 5 by decide)).trans vS_24).trans (mnS_24 (S := va_up (vS S z) 5 G) (r := (x0, G, x6, xJ, x19, x22, x20, x23, x21, x24, x9, x25, x11, x15, x12, x16, x13, x17, x14, x18))).symm
          | 25, _ => ((va_n (show (25 : Nat) ≠ 5 by decide)).trans vS_25).trans (mnS_25 (S := va_up (vS S z) 5 G) (r := (x0, G, x6, xJ, x19, x22, x20, x23, x21, x24, x9, x25, x11, x15, x12, x16, x13, x17, x14, x18))).symm
          | n + 26, h => absurd h (by omega)
      · show s_X4_goesOn x5 = 0
        have e : x5 = z.2.2.1 := i5
        rw [e]
        exact q5
      · show x6 2 = p0
        have e : x6 2 = z.2.2.2.1 2 := i6
        rw [e]
        exact q6
    · obtain ⟨r, r1, r2⟩ := rc_in S z c1 g
      have g1 : ¬ y.2 6 < s_X11_size (y.2 12 - p0.toInt64) := pTn zt g
      refine Or.inl ⟨r, (y.1, y.2), r1, ?_, ?_⟩
      · unfold b_X11_reachIn_L49
        rw [if_neg c2, if_pos (Int64.le_iff_toInt_le.mpr (by have a : ¬ (y.2 6).toInt < (s_X11_size (y.2 12 - p0.toInt64)).toInt := fun y2 => g1 (Int64.lt_iff_toInt_lt.mpr y2); omega))]
      · show r.1 = (if y.2 6 < s_X11_size (y.2 12 - p0.toInt64) then -10000 else y.1)
        rw [r2, if_neg g1, q1, q2]
theorem ok_reachIn {l : Launch} (hl0 : l.stackTraces = false) (D : va_G) (cI cJ cO : ClassId) (z : zT) {X : kXS} {Y : kTS} {M : kMS} (b o : Nat) (u : Nat → Nat) (fo : Nat → Int64) (p0 : Int32) (h : rR X Y M) : lStep l D cI cJ cO z yL_reachIn cL_reachIn 4 [(0, 9, 12, 15)] [.ref b, .int p0, .ref o] b o u X Y fo (a_reachIn M p0) ((q_reachIn M p0).1 7) (fun X2 Y2 => rR X2 Y2 (q_reachIn M p0)) := by
  obtain ⟨T, hT1, hT2, hr, hn⟩ := id h.1
  have e1 : s_X11_isTemperature p0 = s_X10_isTargetTemperature p0 := inW (kE.lit (a := -400) (x := -400) (n := -400) (by decide) (by decide)) (kE.lit (a := 1800) (x := 1800) (n := 1800) (by decide) (by decide))
  have e32 : kE (M.2.1 32) (X.1 0 0) 0 T := hr.e 32 (by decide)
  by_cases v : s_X10_isTargetTemperature p0 = 0
  · refine lSt_t (by decide) (by decide) (w_reachIn_1 l hl0 D cI cJ cO z b o u X Y fo p0 v) rfl (by decide) ?_ h
    unfold q_reachIn s_X11_reachIn s_X11_reachIn_2 s_X11_refuse
    rw [if_pos (e1.trans v)]
  · have c1 : ¬ s_X11_isTemperature p0 = 0 := by rw [e1]; exact v
    have hp : -400 ≤ p0.toInt ∧ p0.toInt ≤ 1800 := wi_yes v
    have hT0 : 0 ≤ T := Int.le_trans e32.2.1 e32.2.2
    have kp : kE p0.toInt64 p0 (-400) 1800 := kE.up hp
    have k0 := ((((hr.sel 5).set2 33 (by decide) (by decide) rfl kE0 (by decide) (show (0 : Int) ≤ 4 by decide)).com 6 (by decide)).set2 16 (by decide) (by decide) rfl kE0 (by decide) (show (0 : Int) ≤ 1 by decide)).set2 14 (by decide) (by decide) rfl kp (by decide) (show (1800 : Int) ≤ 2000 by decide)
    have k1 : kRel T (va_up (vS X.1 (0, X.1 0, s_X4_end (X.1 5) 0, upd (upd (X.1 6) 4 0) 2 p0, X.1 11, X.1 15, X.1 12, X.1 16, X.1 13, X.1 17, X.1 14, X.1 18, X.2.1, X.1 19, X.1 22, X.1 20, X.1 23, X.1 21, X.1 24, X.1 9, X.1 25)) 5 (upd (X.1 5) 0 0)) X.2.1 (vp_updL (vp_updL (vp_updL M.2.1 33 0) 16 0) 14 p0.toInt64) := by
      refine k0.cgA (fun a ha => ?_)
      exact
        match a, ha with
        | 0, _ => ((va_n (show (0 : Nat) ≠ 5 by decide)).trans vS_0).trans ((va_n (show (0 : Nat) ≠ 6 by decide)).trans (va_n (show (0 : Nat) ≠ 5 by decide))).symm
        | 1, _ => ((va_n (show (1 : Nat) ≠ 5 by decide)).trans (vS_lo (by decide))).trans ((va_n (show (1 : Nat) ≠ 6 by decide)).trans (va_n (show (1 : Nat) ≠ 5 by decide))).symm
        | 2, _ => ((va_n (show (2 : Nat) ≠ 5 by decide)).trans (vS_lo (by decide))).trans ((va_n (show (2 : Nat) ≠ 6 by decide)).trans (va_n (show (2 : Nat) ≠ 5 by decide))).symm
        | 3, _ => ((va_n (show (3 : Nat) ≠ 5 by decide)).trans (vS_lo (by decide))).trans ((va_n (show (3 : Nat) ≠ 6 by decide)).trans (va_n (show (3 : Nat) ≠ 5 by decide))).symm
        | 4, _ => ((va_n (show (4 : Nat) ≠ 5 by decide)).trans (vS_lo (by decide))).trans ((va_n (show (4 : Nat) ≠ 6 by decide)).trans (va_n (show (4 : Nat) ≠ 5 by decide))).symm
        | 5, _ => va_s.trans ((va_n (show (5 : Nat) ≠ 6 by decide)).trans va_s).symm
        | 6, _ => ((va_n (show (6 : Nat) ≠ 5 by decide)).trans vS_6).trans va_s.symm
        | 7, _ => ((va_n (show (7 : Nat) ≠ 5 by decide)).trans (vS_lo (by decide))).trans ((va_n (show (7 : Nat) ≠ 6 by decide)).trans (va_n (show (7 : Nat) ≠ 5 by decide))).symm
        | 8, _ => ((va_n (show (8 : Nat) ≠ 5 by decide)).trans (vS_lo (by decide))).trans ((va_n (show (8 : Nat) ≠ 6 by decide)).trans (va_n (show (8 : Nat) ≠ 5 by decide))).symm
        | 9, _ => ((va_n (show (9 : Nat) ≠ 5 by decide)).trans vS_9).trans ((va_n (show (9 : Nat) ≠ 6 by decide)).trans (va_n (show (9 : Nat) ≠ 5 by decide))).symm
        | 10, _ => ((va_n (show (10 : Nat) ≠ 5 by decide)).trans (vS_lo (by decide))).trans ((va_n (show (10 : Nat) ≠ 6 by decide)).trans (va_n (show (10 : Nat) ≠ 5 by decide))).symm
        | 11, _ => ((va_n (show (11 : Nat) ≠ 5 by decide)).trans vS_11).trans ((va_n (show (11 : Nat) ≠ 6 by decide)).trans (va_n (show (11 : Nat) ≠ 5 by decide))).symm
        | 12, _ => ((va_n (show (12 : Nat) ≠ 5 by decide)).trans vS_12).trans ((va_n (show (12 : Nat) ≠ 6 by decide)).trans (va_n (show (12 : Nat) ≠ 5 by decide))).symm
        | 13, _ => ((va_n (show (13 : Nat) ≠ 5 by decide)).trans vS_13).trans ((va_n (show (13 : Nat) ≠ 6 by decide)).trans (va_n (show (13 : Nat) ≠ 5 by decide))).symm
        | 14, _ => ((va_n (show (14 : Nat) ≠ 5 by decide)).trans vS_14).trans ((va_n (show (14 : Nat) ≠ 6 by decide)).trans (va_n (show (14 : Nat) ≠ 5 by decide))).symm
        | 15, _ => ((va_n (show (15 : Nat) ≠ 5 by decide)).trans vS_15).trans ((va_n (show (15 : Nat) ≠ 6 by decide)).trans (va_n (show (15 : Nat) ≠ 5 by decide))).symm
        | 16, _ => ((va_n (show (16 : Nat) ≠ 5 by decide)).trans vS_16).trans ((va_n (show (16 : Nat) ≠ 6 by decide)).trans (va_n (show (16 : Nat) ≠ 5 by decide))).symm
        | 17, _ => ((va_n (show (17 : Nat) ≠ 5 by decide)).trans vS_17).trans ((va_n (show (17 : Nat) ≠ 6 by decide)).trans (va_n (show (17 : Nat) ≠ 5 by decide))).symm
        | 18, _ => ((va_n (show (18 : Nat) ≠ 5 by decide)).trans vS_18).trans ((va_n (show (18 : Nat) ≠ 6 by decide)).trans (va_n (show (18 : Nat) ≠ 5 by decide))).symm
        | 19, _ => ((va_n (show (19 : Nat) ≠ 5 by decide)).trans vS_19).trans ((va_n (show (19 : Nat) ≠ 6 by decide)).trans (va_n (show (19 : Nat) ≠ 5 by decide))).symm
        | 20, _ => ((va_n (show (20 : Nat) ≠ 5 by decide)).trans vS_20).trans ((va_n (show (20 : Nat) ≠ 6 by decide)).trans (va_n (show (20 : Nat) ≠ 5 by decide))).symm
        | 21, _ => ((va_n (show (21 : Nat) ≠ 5 by decide)).trans vS_21).trans ((va_n (show (21 : Nat) ≠ 6 by decide)).trans (va_n (show (21 : Nat) ≠ 5 by decide))).symm
        | 22, _ => ((va_n (show (22 : Nat) ≠ 5 by decide)).trans vS_22).trans ((va_n (show (22 : Nat) ≠ 6 by decide)).trans (va_n (show (22 : Nat) ≠ 5 by decide))).symm
        | 23, _ => ((va_n (show (23 : Nat) ≠ 5 by decide)).trans vS_23).trans ((va_n (show (23 : Nat) ≠ 6 by decide)).trans (va_n (show (23 : Nat) ≠ 5 by decide))).symm
        | 24, _ => ((va_n (show (24 : Nat) ≠ 5 by decide)).trans vS_24).trans ((va_n (show (24 : Nat) ≠ 6 by decide)).trans (va_n (show (24 : Nat) ≠ 5 by decide))).symm
        | 25, _ => ((va_n (show (25 : Nat) ≠ 5 by decide)).trans vS_25).trans ((va_n (show (25 : Nat) ≠ 6 by decide)).trans (va_n (show (25 : Nat) ≠ 5 by decide))).symm
        | n + 26, h => absurd h (by omega)
    have n1 : kRn 0 (vp_updL (vp_updL (vp_updL M.2.1 33 0) 16 0) 14 p0.toInt64) := by
      have fr : ∀ k : Nat, k ≠ 33 → k ≠ 16 → k ≠ 14 → vp_updL (vp_updL (vp_updL M.2.1 33 0) 16 0) 14 p0.toInt64 k = M.2.1 k := fun k y1 y2 y3 => upnL y3 (upnL y2 (upnL y1 rfl))
      have f33 : vp_updL (vp_updL (vp_updL M.2.1 33 0) 16 0) 14 p0.toInt64 33 = 0 := upnL (by decide) (upnL (by decide) upsL)
      refine ⟨fun i hi => ?_, fun y => ?_⟩
      · rw [fr 43 (by decide) (by decide) (by decide)] at hi
        rw [fr _ (by omega) (by omega) (by omega), fr _ (by omega) (by omega) (by omega)]
        exact hn.1 i hi
      · rw [f33] at y
        exact y.elim (fun q => absurd q (by decide)) (fun q => absurd q (by decide))
    have g0 : ∀ x : Int32, s_X4_goesOn (upd (upd (X.1 5) 0 0) 1 x) = 0 := fun x => rfl
    have hG : s_X4_goesOn (upd (X.1 5) 0 0) = 0 := rfl
    have L := rc_loop (T := T) (S := X.1) (z0 := (0, X.1 0, s_X4_end (X.1 5) 0, upd (upd (X.1 6) 4 0) 2 p0, X.1 11, X.1 15, X.1 12, X.1 16, X.1 13, X.1 17, X.1 14, X.1 18, X.2.1, X.1 19, X.1 22, X.1 20, X.1 23, X.1 21, X.1 24, X.1 9, X.1 25)) (w0 := vp_updL (vp_updL (vp_updL M.2.1 33 0) 16 0) 14 p0.toInt64) (f := M.1) (p0 := p0) (G := upd (X.1 5) 0 0) ⟨hT0, hT1⟩ hp k1 n1 rfl hG (g0 0) (show upd (upd (X.1 6) 4 0) 2 p0 2 = p0 from ups)
    have te := te_eq (upd M.1 7 0) (upd M.1 7 0) M.2.1 M.2.2.2.1 (kLoop default (b_X11_reachIn_L49 p0 M.1) ((Int32.toInt 500 - Int32.toInt 0).toNat + 1) (0, vp_updL (vp_updL (vp_updL M.2.1 33 0) 16 0) 14 p0.toInt64)).2
    have hR : r_reachIn_0 X p0 = (kLoop default (b_X10_reachIn_L66 (X.1 1) (X.1 2) (X.1 3) (X.1 4) (X.1 10)) ((Int32.toInt 500 - Int32.toInt 0).toNat + 1) (0, X.1 0, s_X4_end (X.1 5) 0, upd (upd (X.1 6) 4 0) 2 p0, X.1 11, X.1 15, X.1 12, X.1 16, X.1 13, X.1 17, X.1 14, X.1 18, X.2.1, X.1 19, X.1 22, X.1 20, X.1 23, X.1 21, X.1 24, X.1 9, X.1 25)).1 := by
      unfold r_reachIn_0 s_X10_reachIn s_X10_reachIn_3
      rfl
    rw [← hR] at L
    have hq : s_X11_reachIn M.1 M.2.1 M.2.2.2.1 p0 = ((if (if (kLoop default (b_X11_reachIn_L49 p0 M.1) ((Int32.toInt 500 - Int32.toInt 0).toNat + 1) (0, vp_updL (vp_updL (vp_updL M.2.1 33 0) 16 0) 14 p0.toInt64)).2 6 < s_X11_size ((kLoop default (b_X11_reachIn_L49 p0 M.1) ((Int32.toInt 500 - Int32.toInt 0).toNat + 1) (0, vp_updL (vp_updL (vp_updL M.2.1 33 0) 16 0) 14 p0.toInt64)).2 12 - p0.toInt64) then (0 : Int32) else 1) = 0 then -10000 else (kLoop default (b_X11_reachIn_L49 p0 M.1) ((Int32.toInt 500 - Int32.toInt 0).toNat + 1) (0, vp_updL (vp_updL (vp_updL M.2.1 33 0) 16 0) 14 p0.toInt64)).1), upd M.1 7 0, s_X11_endTrial (upd M.1 7 0) (s_X11_beginTrial (upd M.1 7 0) M.2.1 M.2.2.2.1) (kLoop default (b_X11_reachIn_L49 p0 M.1) ((Int32.toInt 500 - Int32.toInt 0).toNat + 1) (0, vp_updL (vp_updL (vp_updL M.2.1 33 0) 16 0) 14 p0.toInt64)).2, s_X11_beginTrial (upd M.1 7 0) M.2.1 M.2.2.2.1) := by
      unfold s_X11_reachIn s_X11_reachIn_7 s_X11_reachIn_6 s_X11_reachIn_5 s_X11_reachIn_4 s_X11_reachIn_3
      rw [if_neg c1]
    generalize (kLoop default (b_X11_reachIn_L49 p0 M.1) ((Int32.toInt 500 - Int32.toInt 0).toNat + 1) (0, vp_updL (vp_updL (vp_updL M.2.1 33 0) 16 0) 14 p0.toInt64)) = r2 at L te hq
    refine lSt_q (F := 7) (L := 159) (by decide) (by decide) (w_reachIn_0 l hl0 D cI cJ cO z b o u X Y fo p0 h.1.sb v) (by unfold q_reachIn; rw [hq]) te rfl rfl rfl rfl rfl ?_ h
    refine congrArg Int32.toInt64 ?_
    have a2 : a_reachIn M p0 = (if (if r2.2 6 < s_X11_size (r2.2 12 - p0.toInt64) then (0 : Int32) else 1) = 0 then -10000 else r2.1) := by unfold a_reachIn; rw [hq]
    rw [L, a2]
    by_cases c : r2.2 6 < s_X11_size (r2.2 12 - p0.toInt64)
    · rw [if_pos c, if_pos c, if_pos rfl]
    · rw [if_neg c, if_neg c, if_neg (by decide)]
